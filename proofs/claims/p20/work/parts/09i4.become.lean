set_option maxHeartbeats 4000000 in
set_option maxRecDepth 100000 in
theorem y_become (l : Launch) (D : va_G) (cs : Nat → ClassId) (B : Nat) (G : hq_G) (V : hp_V) (n : Nat) (hI : hq_I cs G V) (q : Nat) (mo : Nat) (w : sp_W) (rh : hm_Rh) (bk : sp_B) (m_tp : Int32) (m_sz : Int32) (m_fr : Int32) (m_bh : Int32) (m_hd : Int32) (m_ft : Int32) (m_fa : Int32) (m_le : Int32) (m_fo : Int32) (m_as : Int32) (m_fd : Int32) (m_bc : Int32) (m_bg : Int32) (m_bs : Int32) (m_be : Int32) (m_b0 : Int32) (m_b1 : Int32) (m_cm : Int32) (m_hc : Int32) (hc0 : V (mo) = some (.inr (13, hm_o q (m_tp) (m_sz) (m_fr) (m_bh) (m_hd) (m_ft) (m_fa) (m_le) (m_fo) (m_as) (m_fd) (m_bc) (m_bg) (m_bs) (m_be) (m_b0) (m_b1) (m_cm) (m_hc)))) (hp0 : hm_AR cs V q rh) (hR : hq_RT G q) (hmo : G mo = some (24, 0, 0, 0)) (hmq : mo < q) (hDB : hm_BK rh 1 w bk) (hoc : sp_okc w) : hp_M l yX13_become cX13_become 2 none ({ frames := 1, cells := 0, slots := 0, locals := 21 }) D cs B V n [.ref (mo)] (hp_QV D cs B (fun V' n' => n = n' ∧ hq_P cs G (fun _ => true) V V' ∧ (∀ x, (x < q ∨ q + 19 ≤ x) → V' x = V x) ∧ (∃ rh1 : hm_Rh, (hm_BK rh1 0 w bk) ∧ (hm_AR cs V' q rh1)))) 0 0 := by
  refine hp_walk (R0 := RX13) (by decide) rfl ?_ (Nat.le_of_ble_eq_true rfl)
  intro p e s m below meth c ls hx hb hr hts hown hlocks hin hml hZ hl
  have hP : hq_P cs G (fun _ => true) V V := hq_P.rf hI
  have hl : lv_has ls 2 [(0, .ref (mo))] := hl
  have hb_m_tp := hq_rng m_tp
  have hb_m_sz := hq_rng m_sz
  have hb_m_fr := hq_rng m_fr
  have hb_m_bh := hq_rng m_bh
  have hb_m_hd := hq_rng m_hd
  have hb_m_ft := hq_rng m_ft
  have hb_m_fa := hq_rng m_fa
  have hb_m_le := hq_rng m_le
  have hb_m_fo := hq_rng m_fo
  have hb_m_as := hq_rng m_as
  have hb_m_fd := hq_rng m_fd
  have hb_m_bc := hq_rng m_bc
  have hb_m_bg := hq_rng m_bg
  have hb_m_bs := hq_rng m_bs
  have hb_m_be := hq_rng m_be
  have hb_m_b0 := hq_rng m_b0
  have hb_m_b1 := hq_rng m_b1
  have hb_m_cm := hq_rng m_cm
  have hb_m_hc := hq_rng m_hc
  have hH0 : hm_H rh rh := hm_H.rf
  have hdr0 : hm_Dr rh rh := hm_Dr.rf
  refine lv_aload_n hx hb dX13_become_0 rfl (lv_at hl 0 rfl) ?_
  refine hp_get (v := .ref (q)) hx hb hts hown hZ hc0 fl_X13_1 rfl dX13_become_1 ?_
  refine lv_iconst (v := 0) hx hb dX13_become_4 (by decide) ?_
  refine lv_aload_n hx hb dX13_become_5 rfl (lv_at hl 0 rfl) ?_
  refine hp_get (v := .ref (q)) hx hb hts hown hZ hc0 fl_X13_1 rfl dX13_become_6 ?_
  refine lv_iconst (v := 1) hx hb dX13_become_9 (by decide) ?_
  obtain ⟨rf1, hrf2⟩ : ∃ f : Nat → Int32, f = rh 0 := ⟨_, rfl⟩
  have ea3 : V (q) = some (.inl (cs 1, 2, .inl (rf1))) := by rw [hrf2]; exact hp0 0 (by decide)
  have hra4 := hq_rg hP.1 (hr_0 hR) ea3
  refine hp_iald hx hb hZ ea3 (by unfold vp_in; decide) dX13_become_10 ?_
  refine lv_topi (fun y5 ey6 => ?_)
  have b7 : hq_ir (hq_lo 11) (hq_hi 11) y5 := by rw [ey6]; exact hra4 _ (by decide)
  have b7 : 0 ≤ (y5).toInt ∧ (y5).toInt ≤ 6 := b7
  refine hp_iast hx hb hZ ea3 (by unfold vp_in; decide) dX13_become_11 (fun V8 _ _ e9 o10 hZ => ?_)
  have e9 : V8 (q) = some (.inl (cs 1, 2, .inl (upd (rf1) ((0 : Int32).toNatClampNeg) (y5)))) := e9
  have hP := hP.put (hr_0 hR) e9 o10 (hq_c21 (by omega) (hq_upd hra4 (show 0 ≤ _ ∧ _ ≤ 6 by constructor <;> omega))) rfl
  obtain ⟨g11, ge12⟩ : ∃ g9 : Nat → Int32, g9 = upd (rf1) ((0 : Int32).toNatClampNeg) (y5) := ⟨_, rfl⟩
  have fx13 : V8 (q) = some (.inl (cs 1, 2, .inl (g11))) := by rw [ge12]; exact e9
  have hf14 := hq_rg hP.1 (hr_0 hR) fx13
  obtain ⟨rh15, hrh16⟩ : ∃ r9 : hm_Rh, r9 = hm_u2 rh 0 (0 : Int32).toNatClampNeg ((y5 : Int32)) := ⟨_, rfl⟩
  have pk17 : hm_AR cs V8 q rh15 := by rw [hrh16]; exact hp0.put (a := 0) (by decide) (by rw [ge12, hrf2]) fx13 o10
  refine lv_aload_n hx hb dX13_become_12 rfl (lv_at hl 0 rfl) ?_
  have fx18 : V8 (mo) = some (.inr (13, hm_o q (m_tp) (m_sz) (m_fr) (m_bh) (m_hd) (m_ft) (m_fa) (m_le) (m_fo) (m_as) (m_fd) (m_bc) (m_bg) (m_bs) (m_be) (m_b0) (m_b1) (m_cm) (m_hc))) := (o10 (mo) (hq_tne hmo (hr_0 hR) (by simp))).trans (hc0)
  refine hp_get (v := .ref (q + 1)) hx hb hts hown hZ fx18 fl_X13_7 rfl dX13_become_13 ?_
  refine lv_iconst (v := 0) hx hb dX13_become_16 (by decide) ?_
  refine lv_aload_n hx hb dX13_become_17 rfl (lv_at hl 0 rfl) ?_
  refine hp_get (v := .ref (q + 1)) hx hb hts hown hZ fx18 fl_X13_7 rfl dX13_become_18 ?_
  refine lv_iconst (v := 1) hx hb dX13_become_21 (by decide) ?_
  obtain ⟨rf19, hrf20⟩ : ∃ f : Nat → Int32, f = rh15 1 := ⟨_, rfl⟩
  have ea21 : V8 (q + 1) = some (.inl (cs 1, 2, .inl (rf19))) := by rw [hrf20]; exact pk17 1 (by decide)
  have hra22 := hq_rg hP.1 (hr_1 hR) ea21
  refine hp_iald hx hb hZ ea21 (by unfold vp_in; decide) dX13_become_22 ?_
  refine lv_topi (fun y23 ey24 => ?_)
  have b25 : hq_ir (hq_lo 9) (hq_hi 9) y23 := by rw [ey24]; exact hra22 _ (by decide)
  have b25 : 0 ≤ (y23).toInt ∧ (y23).toInt ≤ 30 := b25
  refine hp_iast hx hb hZ ea21 (by unfold vp_in; decide) dX13_become_23 (fun V26 _ _ e27 o28 hZ => ?_)
  have e27 : V26 (q + 1) = some (.inl (cs 1, 2, .inl (upd (rf19) ((0 : Int32).toNatClampNeg) (y23)))) := e27
  have hP := hP.put (hr_1 hR) e27 o28 (hq_c21 (by omega) (hq_upd hra22 (show 0 ≤ _ ∧ _ ≤ 30 by constructor <;> omega))) rfl
  obtain ⟨g29, ge30⟩ : ∃ g9 : Nat → Int32, g9 = upd (rf19) ((0 : Int32).toNatClampNeg) (y23) := ⟨_, rfl⟩
  have fx31 : V26 (q + 1) = some (.inl (cs 1, 2, .inl (g29))) := by rw [ge30]; exact e27
  have hf32 := hq_rg hP.1 (hr_1 hR) fx31
  obtain ⟨rh33, hrh34⟩ : ∃ r9 : hm_Rh, r9 = hm_u2 rh15 1 (0 : Int32).toNatClampNeg ((y23 : Int32)) := ⟨_, rfl⟩
  have pk35 : hm_AR cs V26 q rh33 := by rw [hrh34]; exact pk17.put (a := 1) (by decide) (by rw [ge30, hrf20]) fx31 o28
  refine lv_aload_n hx hb dX13_become_24 rfl (lv_at hl 0 rfl) ?_
  have fx36 : V26 (mo) = some (.inr (13, hm_o q (m_tp) (m_sz) (m_fr) (m_bh) (m_hd) (m_ft) (m_fa) (m_le) (m_fo) (m_as) (m_fd) (m_bc) (m_bg) (m_bs) (m_be) (m_b0) (m_b1) (m_cm) (m_hc))) := (o28 (mo) (hq_tne hmo (hr_1 hR) (by simp))).trans (fx18)
  refine hp_get (v := .ref (q + 2)) hx hb hts hown hZ fx36 fl_X13_10 rfl dX13_become_25 ?_
  refine lv_iconst (v := 0) hx hb dX13_become_28 (by decide) ?_
  refine lv_aload_n hx hb dX13_become_29 rfl (lv_at hl 0 rfl) ?_
  refine hp_get (v := .ref (q + 2)) hx hb hts hown hZ fx36 fl_X13_10 rfl dX13_become_30 ?_
  refine lv_iconst (v := 1) hx hb dX13_become_33 (by decide) ?_
  obtain ⟨rf37, hrf38⟩ : ∃ f : Nat → Int32, f = rh33 2 := ⟨_, rfl⟩
  have ea39 : V26 (q + 2) = some (.inl (cs 1, 2, .inl (rf37))) := by rw [hrf38]; exact pk35 2 (by decide)
  have hra40 := hq_rg hP.1 (hr_2 hR) ea39
  refine hp_iald hx hb hZ ea39 (by unfold vp_in; decide) dX13_become_34 ?_
  refine lv_topi (fun y41 ey42 => ?_)
  have b43 : hq_ir (hq_lo 8) (hq_hi 8) y41 := by rw [ey42]; exact hra40 _ (by decide)
  have b43 : 0 ≤ (y41).toInt ∧ (y41).toInt ≤ 60 := b43
  refine hp_iast hx hb hZ ea39 (by unfold vp_in; decide) dX13_become_35 (fun V44 _ _ e45 o46 hZ => ?_)
  have e45 : V44 (q + 2) = some (.inl (cs 1, 2, .inl (upd (rf37) ((0 : Int32).toNatClampNeg) (y41)))) := e45
  have hP := hP.put (hr_2 hR) e45 o46 (hq_c21 (by omega) (hq_upd hra40 (show 0 ≤ _ ∧ _ ≤ 60 by constructor <;> omega))) rfl
  obtain ⟨g47, ge48⟩ : ∃ g9 : Nat → Int32, g9 = upd (rf37) ((0 : Int32).toNatClampNeg) (y41) := ⟨_, rfl⟩
  have fx49 : V44 (q + 2) = some (.inl (cs 1, 2, .inl (g47))) := by rw [ge48]; exact e45
  have hf50 := hq_rg hP.1 (hr_2 hR) fx49
  obtain ⟨rh51, hrh52⟩ : ∃ r9 : hm_Rh, r9 = hm_u2 rh33 2 (0 : Int32).toNatClampNeg ((y41 : Int32)) := ⟨_, rfl⟩
  have pk53 : hm_AR cs V44 q rh51 := by rw [hrh52]; exact pk35.put (a := 2) (by decide) (by rw [ge48, hrf38]) fx49 o46
  refine lv_iconst (v := 0) hx hb dX13_become_36 (by decide) ?_
  refine lv_istore_n (lv' := [(1, .int (0)), (0, .ref (mo))]) hx hb dX13_become_37 rfl hl (by decide) rfl (fun ls hl => ?_)
  have hd54 : hm_Dr rh rh15 := by rw [hrh16]; exact hdr0.put (show (0 : Int32).toNatClampNeg < 1 by decide)
  have cp55 : hm_C1 0 (0 + 1) rh rh15 := by rw [hrh16]; exact hm_C1.put hm_C1.zero (show (0 : Int32).toNatClampNeg = 0 by decide) (show y5 = rh 0 (1 + 0) from by rw [ey6, hrf2, hdr0 0 _ (show 1 ≤ (1 : Int32).toNatClampNeg by decide), show (1 : Int32).toNatClampNeg = 1 + 0 by decide])
  have cp56 : hm_C1 1 (0) rh rh15 := by rw [hrh16]; exact hm_C1.ne hm_C1.zero (by decide)
  have cp57 : hm_C1 2 (0) rh rh15 := by rw [hrh16]; exact hm_C1.ne hm_C1.zero (by decide)
  have hd58 : hm_Dr rh rh33 := by rw [hrh34]; exact hd54.put (show (0 : Int32).toNatClampNeg < 1 by decide)
  have cp59 : hm_C1 0 (1) rh rh33 := by rw [hrh34]; exact hm_C1.ne cp55 (by decide)
  have cp60 : hm_C1 1 (0 + 1) rh rh33 := by rw [hrh34]; exact hm_C1.put cp56 (show (0 : Int32).toNatClampNeg = 0 by decide) (show y23 = rh 1 (1 + 0) from by rw [ey24, hrf20, hd54 1 _ (show 1 ≤ (1 : Int32).toNatClampNeg by decide), show (1 : Int32).toNatClampNeg = 1 + 0 by decide])
  have cp61 : hm_C1 2 (0) rh rh33 := by rw [hrh34]; exact hm_C1.ne cp57 (by decide)
  have hd62 : hm_Dr rh rh51 := by rw [hrh52]; exact hd58.put (show (0 : Int32).toNatClampNeg < 1 by decide)
  have cp63 : hm_C1 0 (1) rh rh51 := by rw [hrh52]; exact hm_C1.ne cp59 (by decide)
  have cp64 : hm_C1 1 (1) rh rh51 := by rw [hrh52]; exact hm_C1.ne cp60 (by decide)
  have cp65 : hm_C1 2 (0 + 1) rh rh51 := by rw [hrh52]; exact hm_C1.put cp61 (show (0 : Int32).toNatClampNeg = 0 by decide) (show y41 = rh 2 (1 + 0) from by rw [ey42, hrf38, hd58 2 _ (show 1 ≤ (1 : Int32).toNatClampNeg by decide), show (1 : Int32).toNatClampNeg = 1 + 0 by decide])
  have fx66 : V44 (mo) = some (.inr (13, hm_o q (m_tp) (m_sz) (m_fr) (m_bh) (m_hd) (m_ft) (m_fa) (m_le) (m_fo) (m_as) (m_fd) (m_bc) (m_bg) (m_bs) (m_be) (m_b0) (m_b1) (m_cm) (m_hc))) := (o46 (mo) (hq_tne hmo (hr_2 hR) (by simp))).trans (fx36)
  have hl69 : (0 : Int32).toInt = 0 := by decide
  suffices lp38 : ∀ (k9 : Nat) (V9 : hp_V) (H9 : Heap) (locs9 : List Loc) (ls : Array Slot) (i38 : Int32) (rh38x : hm_Rh), (1000 - i38.toInt).toNat = k9 → hp_Z D cs B s V9 H9 n locs9 → hq_P cs G (fun _ => true) V V9 → V9 (mo) = some (.inr (13, hm_o q (m_tp) (m_sz) (m_fr) (m_bh) (m_hd) (m_ft) (m_fa) (m_le) (m_fo) (m_as) (m_fd) (m_bc) (m_bg) (m_bs) (m_be) (m_b0) (m_b1) (m_cm) (m_hc))) → (∀ x, (x < q ∨ q + 19 ≤ x) → V9 x = V x) → hm_AR cs V9 q rh38x → 0 ≤ i38.toInt → i38.toInt ≤ 30 → (hm_Dr rh rh38x) → (hm_C1 0 (1) rh rh38x) → (hm_C1 1 (1) rh rh38x) → (hm_C1 2 (1) rh rh38x) → (hm_C1 8 ((i38).toNatClampNeg) rh rh38x) → (hm_C1 9 ((i38).toNatClampNeg) rh rh38x) → lv_has ls 2 [(1, .int (i38)), (0, .ref (mo))] → W p l e ({ frames := 1, cells := 0, slots := 0, locals := 21 }) s m ([.ref (mo)] : List Value).toArray below meth c H9 locs9 0 0 (MQ below (hp_QV D cs B (fun V' n' => n = n' ∧ hq_P cs G (fun _ => true) V V' ∧ (∀ x, (x < q ∨ q + 19 ≤ x) → V' x = V x) ∧ (∃ rh1 : hm_Rh, (hm_BK rh1 0 w bk) ∧ (hm_AR cs V' q rh1)))) ([.ref (mo)] : List Value).toArray s 0 0 (hp_F B)) (F0 m 38 ls []) from lp38 _ _ _ _ ls (0) (rh51) rfl hZ hP fx66 (fun x8 hne0 => (o46 x8 (by omega)).trans ((o28 x8 (by omega)).trans (o10 x8 (by omega)))) pk53 (by omega) (by omega) (hd62) (cp63) (cp64) (cp65) (hm_C1.zero) (hm_C1.zero) (lv_sub hl [0, 1] rfl)
  intro k9
  induction k9 using Nat.strongRecOn with
  | _ k9 ih38 =>
    intro V9 H9 locs9 ls i38 rh38x  hk38 hZ hP ho67 fr38 pk68 hv70 hv71 hdr38 hc0_38 hc1_38 hc2_38 hc8_38 hc9_38 hl
    have hb_i38 := hq_rng i38
    refine lv_iload_n hx hb dX13_become_38 rfl (lv_at hl 0 rfl) ?_
    refine lv_bipush (v := 30) hx hb dX13_become_39 (by decide) ?_
    refine lv_icmp_ge (tgt := 80) hx hb dX13_become_41 (by decide) (fun c72 => ?_) (fun c72 => ?_)
    · have c72 : (30 : Int) ≤ (i38).toInt := hq_lei.mp c72
      refine lv_iconst (v := 0) hx hb dX13_become_80 (by decide) ?_
      refine lv_istore_n (lv' := [(1, .int (0)), (0, .ref (mo))]) hx hb dX13_become_81 rfl hl (by decide) rfl (fun ls hl => ?_)
      have hl75 : (0 : Int32).toInt = 0 := by decide
      suffices lp82 : ∀ (k9 : Nat) (V9 : hp_V) (H9 : Heap) (locs9 : List Loc) (ls : Array Slot) (i82 : Int32) (rh82x : hm_Rh), (1000 - i82.toInt).toNat = k9 → hp_Z D cs B s V9 H9 n locs9 → hq_P cs G (fun _ => true) V V9 → V9 (mo) = some (.inr (13, hm_o q (m_tp) (m_sz) (m_fr) (m_bh) (m_hd) (m_ft) (m_fa) (m_le) (m_fo) (m_as) (m_fd) (m_bc) (m_bg) (m_bs) (m_be) (m_b0) (m_b1) (m_cm) (m_hc))) → (∀ x, (x < q ∨ q + 19 ≤ x) → V9 x = V x) → hm_AR cs V9 q rh82x → 0 ≤ i82.toInt → i82.toInt ≤ 360 → (hm_Dr rh rh82x) → (hm_C1 0 (1) rh rh82x) → (hm_C1 1 (1) rh rh82x) → (hm_C1 2 (1) rh rh82x) → (hm_C1 8 (30) rh rh82x) → (hm_C1 9 (30) rh rh82x) → (hm_Cb 4 ((i82).toNatClampNeg) rh rh82x) → lv_has ls 2 [(1, .int (i82)), (0, .ref (mo))] → W p l e ({ frames := 1, cells := 0, slots := 0, locals := 21 }) s m ([.ref (mo)] : List Value).toArray below meth c H9 locs9 0 0 (MQ below (hp_QV D cs B (fun V' n' => n = n' ∧ hq_P cs G (fun _ => true) V V' ∧ (∀ x, (x < q ∨ q + 19 ≤ x) → V' x = V x) ∧ (∃ rh1 : hm_Rh, (hm_BK rh1 0 w bk) ∧ (hm_AR cs V' q rh1)))) ([.ref (mo)] : List Value).toArray s 0 0 (hp_F B)) (F0 m 82 ls []) from lp82 _ _ _ _ ls (0) (rh38x) rfl hZ hP ho67 (fun x8 hne0 => fr38 x8 hne0) pk68 (by omega) (by omega) (hdr38) (hc0_38) (hc1_38) (hc2_38) ((hc8_38.le (show 30 ≤ (i38).toNatClampNeg by have h8 := (hq_nn (z := i38) (by omega)).1; omega))) ((hc9_38.le (show 30 ≤ (i38).toNatClampNeg by have h8 := (hq_nn (z := i38) (by omega)).1; omega))) (hm_Cb.zero) (lv_sub hl [0, 1] rfl)
      intro k9
      induction k9 using Nat.strongRecOn with
      | _ k9 ih82 =>
        intro V9 H9 locs9 ls i82 rh82x  hk82 hZ hP ho73 fr82 pk74 hv76 hv77 hdr82 hc0_82 hc1_82 hc2_82 hc8_82 hc9_82 hc4_82 hl
        have hb_i82 := hq_rng i82
        refine lv_iload_n hx hb dX13_become_82 rfl (lv_at hl 0 rfl) ?_
        refine lv_sipush (v := 360) hx hb dX13_become_83 (by decide) ?_
        refine lv_icmp_ge (tgt := 111) hx hb dX13_become_86 (by decide) (fun c78 => ?_) (fun c78 => ?_)
        · have c78 : (360 : Int) ≤ (i82).toInt := hq_lei.mp c78
          refine lv_iconst (v := 0) hx hb dX13_become_111 (by decide) ?_
          refine lv_istore_n (lv' := [(1, .int (0)), (0, .ref (mo))]) hx hb dX13_become_112 rfl hl (by decide) rfl (fun ls hl => ?_)
          have hl81 : (0 : Int32).toInt = 0 := by decide
          suffices lp113 : ∀ (k9 : Nat) (V9 : hp_V) (H9 : Heap) (locs9 : List Loc) (ls : Array Slot) (i113 : Int32) (rh113x : hm_Rh), (1000 - i113.toInt).toNat = k9 → hp_Z D cs B s V9 H9 n locs9 → hq_P cs G (fun _ => true) V V9 → V9 (mo) = some (.inr (13, hm_o q (m_tp) (m_sz) (m_fr) (m_bh) (m_hd) (m_ft) (m_fa) (m_le) (m_fo) (m_as) (m_fd) (m_bc) (m_bg) (m_bs) (m_be) (m_b0) (m_b1) (m_cm) (m_hc))) → (∀ x, (x < q ∨ q + 19 ≤ x) → V9 x = V x) → hm_AR cs V9 q rh113x → 0 ≤ i113.toInt → i113.toInt ≤ 480 → (hm_Dr rh rh113x) → (hm_C1 0 (1) rh rh113x) → (hm_C1 1 (1) rh rh113x) → (hm_C1 2 (1) rh rh113x) → (hm_C1 8 (30) rh rh113x) → (hm_C1 9 (30) rh rh113x) → (hm_Cb 4 (360) rh rh113x) → (hm_Cb 5 ((i113).toNatClampNeg) rh rh113x) → (hm_Cb 6 ((i113).toNatClampNeg) rh rh113x) → lv_has ls 2 [(1, .int (i113)), (0, .ref (mo))] → W p l e ({ frames := 1, cells := 0, slots := 0, locals := 21 }) s m ([.ref (mo)] : List Value).toArray below meth c H9 locs9 0 0 (MQ below (hp_QV D cs B (fun V' n' => n = n' ∧ hq_P cs G (fun _ => true) V V' ∧ (∀ x, (x < q ∨ q + 19 ≤ x) → V' x = V x) ∧ (∃ rh1 : hm_Rh, (hm_BK rh1 0 w bk) ∧ (hm_AR cs V' q rh1)))) ([.ref (mo)] : List Value).toArray s 0 0 (hp_F B)) (F0 m 113 ls []) from lp113 _ _ _ _ ls (0) (rh82x) rfl hZ hP ho73 (fun x8 hne0 => fr82 x8 hne0) pk74 (by omega) (by omega) (hdr82) (hc0_82) (hc1_82) (hc2_82) (hc8_82) (hc9_82) ((hc4_82.le (show 360 ≤ (i82).toNatClampNeg by have h8 := (hq_nn (z := i82) (by omega)).1; omega))) (hm_Cb.zero) (hm_Cb.zero) (lv_sub hl [0, 1] rfl)
          intro k9
          induction k9 using Nat.strongRecOn with
          | _ k9 ih113 =>
            intro V9 H9 locs9 ls i113 rh113x  hk113 hZ hP ho79 fr113 pk80 hv82 hv83 hdr113 hc0_113 hc1_113 hc2_113 hc8_113 hc9_113 hc4_113 hc5_113 hc6_113 hl
            have hb_i113 := hq_rng i113
            refine lv_iload_n hx hb dX13_become_113 rfl (lv_at hl 0 rfl) ?_
            refine lv_sipush (v := 480) hx hb dX13_become_114 (by decide) ?_
            refine lv_icmp_ge (tgt := 158) hx hb dX13_become_117 (by decide) (fun c84 => ?_) (fun c84 => ?_)
            · have c84 : (480 : Int) ≤ (i113).toInt := hq_lei.mp c84
              refine lv_iconst (v := 0) hx hb dX13_become_158 (by decide) ?_
              refine lv_istore_n (lv' := [(1, .int (0)), (0, .ref (mo))]) hx hb dX13_become_159 rfl hl (by decide) rfl (fun ls hl => ?_)
              have hl87 : (0 : Int32).toInt = 0 := by decide
              suffices lp160 : ∀ (k9 : Nat) (V9 : hp_V) (H9 : Heap) (locs9 : List Loc) (ls : Array Slot) (i160 : Int32) (rh160x : hm_Rh), (1000 - i160.toInt).toNat = k9 → hp_Z D cs B s V9 H9 n locs9 → hq_P cs G (fun _ => true) V V9 → V9 (mo) = some (.inr (13, hm_o q (m_tp) (m_sz) (m_fr) (m_bh) (m_hd) (m_ft) (m_fa) (m_le) (m_fo) (m_as) (m_fd) (m_bc) (m_bg) (m_bs) (m_be) (m_b0) (m_b1) (m_cm) (m_hc))) → (∀ x, (x < q ∨ q + 19 ≤ x) → V9 x = V x) → hm_AR cs V9 q rh160x → 0 ≤ i160.toInt → i160.toInt ≤ 60 → (hm_Dr rh rh160x) → (hm_C1 0 (1) rh rh160x) → (hm_C1 1 (1) rh rh160x) → (hm_C1 2 (1) rh rh160x) → (hm_C1 8 (30) rh rh160x) → (hm_C1 9 (30) rh rh160x) → (hm_Cb 4 (360) rh rh160x) → (hm_Cb 5 (480) rh rh160x) → (hm_Cb 6 (480) rh rh160x) → (hm_C1 10 ((i160).toNatClampNeg) rh rh160x) → (hm_C1 11 ((i160).toNatClampNeg) rh rh160x) → (hm_C1 12 ((i160).toNatClampNeg) rh rh160x) → (hm_C1 13 ((i160).toNatClampNeg) rh rh160x) → (hm_C1 14 ((i160).toNatClampNeg) rh rh160x) → (hm_C1 15 ((i160).toNatClampNeg) rh rh160x) → (hm_C1 16 ((i160).toNatClampNeg) rh rh160x) → lv_has ls 2 [(1, .int (i160)), (0, .ref (mo))] → W p l e ({ frames := 1, cells := 0, slots := 0, locals := 21 }) s m ([.ref (mo)] : List Value).toArray below meth c H9 locs9 0 0 (MQ below (hp_QV D cs B (fun V' n' => n = n' ∧ hq_P cs G (fun _ => true) V V' ∧ (∀ x, (x < q ∨ q + 19 ≤ x) → V' x = V x) ∧ (∃ rh1 : hm_Rh, (hm_BK rh1 0 w bk) ∧ (hm_AR cs V' q rh1)))) ([.ref (mo)] : List Value).toArray s 0 0 (hp_F B)) (F0 m 160 ls []) from lp160 _ _ _ _ ls (0) (rh113x) rfl hZ hP ho79 (fun x8 hne0 => fr113 x8 hne0) pk80 (by omega) (by omega) (hdr113) (hc0_113) (hc1_113) (hc2_113) (hc8_113) (hc9_113) (hc4_113) ((hc5_113.le (show 480 ≤ (i113).toNatClampNeg by have h8 := (hq_nn (z := i113) (by omega)).1; omega))) ((hc6_113.le (show 480 ≤ (i113).toNatClampNeg by have h8 := (hq_nn (z := i113) (by omega)).1; omega))) (hm_C1.zero) (hm_C1.zero) (hm_C1.zero) (hm_C1.zero) (hm_C1.zero) (hm_C1.zero) (hm_C1.zero) (lv_sub hl [0, 1] rfl)
              intro k9
              induction k9 using Nat.strongRecOn with
              | _ k9 ih160 =>
                intro V9 H9 locs9 ls i160 rh160x  hk160 hZ hP ho85 fr160 pk86 hv88 hv89 hdr160 hc0_160 hc1_160 hc2_160 hc8_160 hc9_160 hc4_160 hc5_160 hc6_160 hc10_160 hc11_160 hc12_160 hc13_160 hc14_160 hc15_160 hc16_160 hl
                have hb_i160 := hq_rng i160
                refine lv_iload_n hx hb dX13_become_160 rfl (lv_at hl 0 rfl) ?_
                refine lv_bipush (v := 60) hx hb dX13_become_161 (by decide) ?_
                refine lv_icmp_ge (tgt := 307) hx hb dX13_become_163 (by decide) (fun c90 => ?_) (fun c90 => ?_)
                · have c90 : (60 : Int) ≤ (i160).toInt := hq_lei.mp c90
                  exact hp_vret hx hb hr hlocks hZ ⟨rfl, hP, (fun x8 hne0 => fr160 x8 hne0), rh160x, hDB.become hoc hc0_160 hc1_160 hc2_160 hc8_160 hc9_160 hc4_160 hc5_160 hc6_160 (hc10_160.le (show 60 ≤ (i160).toNatClampNeg by have h8 := (hq_nn (z := i160) (by omega)).1; omega)) (hc11_160.le (show 60 ≤ (i160).toNatClampNeg by have h8 := (hq_nn (z := i160) (by omega)).1; omega)) (hc12_160.le (show 60 ≤ (i160).toNatClampNeg by have h8 := (hq_nn (z := i160) (by omega)).1; omega)) (hc13_160.le (show 60 ≤ (i160).toNatClampNeg by have h8 := (hq_nn (z := i160) (by omega)).1; omega)) (hc14_160.le (show 60 ≤ (i160).toNatClampNeg by have h8 := (hq_nn (z := i160) (by omega)).1; omega)) (hc15_160.le (show 60 ≤ (i160).toNatClampNeg by have h8 := (hq_nn (z := i160) (by omega)).1; omega)) (hc16_160.le (show 60 ≤ (i160).toNatClampNeg by have h8 := (hq_nn (z := i160) (by omega)).1; omega)), pk86⟩ dX13_become_307
                · have c90 : ¬ (60 : Int) ≤ (i160).toInt := fun h9 => c90 (hq_lei.mpr h9)
                  refine lv_aload_n hx hb dX13_become_166 rfl (lv_at hl 1 rfl) ?_
                  refine hp_get (v := .ref (q + 10)) hx hb hts hown hZ ho85 fl_X13_29 rfl dX13_become_167 ?_
                  refine lv_iload_n hx hb dX13_become_170 rfl (lv_at hl 0 rfl) ?_
                  refine lv_aload_n hx hb dX13_become_171 rfl (lv_at hl 1 rfl) ?_
                  refine hp_get (v := .ref (q + 10)) hx hb hts hown hZ ho85 fl_X13_29 rfl dX13_become_172 ?_
                  refine lv_bipush (v := 60) hx hb dX13_become_175 (by decide) ?_
                  refine lv_iload_n hx hb dX13_become_177 rfl (lv_at hl 0 rfl) ?_
                  refine lv_iadd hx hb dX13_become_178 ?_
                  refine lv_topi (fun y91 ey92 => ?_)
                  obtain ⟨k93, hk94, b95, b96⟩ := hq_add (60) (i160)
                  rw [← ey92] at hk94 b95 b96
                  have hk94 : (y91).toInt = (60 : Int) + (i160).toInt + k93 * 4294967296 := hk94
                  obtain rfl : k93 = 0 := by omega
                  obtain ⟨rf97, hrf98⟩ : ∃ f : Nat → Int32, f = rh160x 10 := ⟨_, rfl⟩
                  have ea99 : V9 (q + 10) = some (.inl (cs 1, 120, .inl (rf97))) := by rw [hrf98]; exact pk86 10 (by decide)
                  have hra100 := hq_rg hP.1 (hr_10 hR) ea99
                  refine hp_iald hx hb hZ ea99 (hq_in (by omega) (by omega)) dX13_become_179 ?_
                  refine lv_topi (fun y101 ey102 => ?_)
                  have b103 := hq_rng y101
                  refine hp_iast hx hb hZ ea99 (hq_in (by omega) (by omega)) dX13_become_180 (fun V104 _ _ e105 o106 hZ => ?_)
                  have e105 : V104 (q + 10) = some (.inl (cs 1, 120, .inl (upd (rf97) ((i160 : Int32).toNatClampNeg) (y101)))) := e105
                  have hP := hP.put (hr_10 hR) e105 o106 (hq_c21 (by omega) (hq_upd hra100 (hq_rng _))) rfl
                  obtain ⟨g107, ge108⟩ : ∃ g9 : Nat → Int32, g9 = upd (rf97) ((i160 : Int32).toNatClampNeg) (y101) := ⟨_, rfl⟩
                  have fx109 : V104 (q + 10) = some (.inl (cs 1, 120, .inl (g107))) := by rw [ge108]; exact e105
                  have hf110 := hq_rg hP.1 (hr_10 hR) fx109
                  obtain ⟨rh111, hrh112⟩ : ∃ r9 : hm_Rh, r9 = hm_u2 rh160x 10 (i160 : Int32).toNatClampNeg ((y101 : Int32)) := ⟨_, rfl⟩
                  have pk113 : hm_AR cs V104 q rh111 := by rw [hrh112]; exact pk86.put (a := 10) (by decide) (by rw [ge108, hrf98]) fx109 o106
                  refine lv_aload_n hx hb dX13_become_181 rfl (lv_at hl 1 rfl) ?_
                  have fx114 : V104 (mo) = some (.inr (13, hm_o q (m_tp) (m_sz) (m_fr) (m_bh) (m_hd) (m_ft) (m_fa) (m_le) (m_fo) (m_as) (m_fd) (m_bc) (m_bg) (m_bs) (m_be) (m_b0) (m_b1) (m_cm) (m_hc))) := (o106 (mo) (hq_tne hmo (hr_10 hR) (by simp))).trans (ho85)
                  refine hp_get (v := .ref (q + 11)) hx hb hts hown hZ fx114 fl_X13_32 rfl dX13_become_182 ?_
                  refine lv_iload_n hx hb dX13_become_185 rfl (lv_at hl 0 rfl) ?_
                  refine lv_aload_n hx hb dX13_become_186 rfl (lv_at hl 1 rfl) ?_
                  refine hp_get (v := .ref (q + 11)) hx hb hts hown hZ fx114 fl_X13_32 rfl dX13_become_187 ?_
                  refine lv_bipush (v := 60) hx hb dX13_become_190 (by decide) ?_
                  refine lv_iload_n hx hb dX13_become_192 rfl (lv_at hl 0 rfl) ?_
                  refine lv_iadd hx hb dX13_become_193 ?_
                  refine lv_topi (fun y115 ey116 => ?_)
                  obtain ⟨k117, hk118, b119, b120⟩ := hq_add (60) (i160)
                  rw [← ey116] at hk118 b119 b120
                  have hk118 : (y115).toInt = (60 : Int) + (i160).toInt + k117 * 4294967296 := hk118
                  obtain rfl : k117 = 0 := by omega
                  obtain ⟨rf121, hrf122⟩ : ∃ f : Nat → Int32, f = rh111 11 := ⟨_, rfl⟩
                  have ea123 : V104 (q + 11) = some (.inl (cs 1, 120, .inl (rf121))) := by rw [hrf122]; exact pk113 11 (by decide)
                  have hra124 := hq_rg hP.1 (hr_11 hR) ea123
                  refine hp_iald hx hb hZ ea123 (hq_in (by omega) (by omega)) dX13_become_194 ?_
                  refine lv_topi (fun y125 ey126 => ?_)
                  have b127 := hq_rng y125
                  refine hp_iast hx hb hZ ea123 (hq_in (by omega) (by omega)) dX13_become_195 (fun V128 _ _ e129 o130 hZ => ?_)
                  have e129 : V128 (q + 11) = some (.inl (cs 1, 120, .inl (upd (rf121) ((i160 : Int32).toNatClampNeg) (y125)))) := e129
                  have hP := hP.put (hr_11 hR) e129 o130 (hq_c21 (by omega) (hq_upd hra124 (hq_rng _))) rfl
                  obtain ⟨g131, ge132⟩ : ∃ g9 : Nat → Int32, g9 = upd (rf121) ((i160 : Int32).toNatClampNeg) (y125) := ⟨_, rfl⟩
                  have fx133 : V128 (q + 11) = some (.inl (cs 1, 120, .inl (g131))) := by rw [ge132]; exact e129
                  have hf134 := hq_rg hP.1 (hr_11 hR) fx133
                  obtain ⟨rh135, hrh136⟩ : ∃ r9 : hm_Rh, r9 = hm_u2 rh111 11 (i160 : Int32).toNatClampNeg ((y125 : Int32)) := ⟨_, rfl⟩
                  have pk137 : hm_AR cs V128 q rh135 := by rw [hrh136]; exact pk113.put (a := 11) (by decide) (by rw [ge132, hrf122]) fx133 o130
                  refine lv_aload_n hx hb dX13_become_196 rfl (lv_at hl 1 rfl) ?_
                  have fx138 : V128 (mo) = some (.inr (13, hm_o q (m_tp) (m_sz) (m_fr) (m_bh) (m_hd) (m_ft) (m_fa) (m_le) (m_fo) (m_as) (m_fd) (m_bc) (m_bg) (m_bs) (m_be) (m_b0) (m_b1) (m_cm) (m_hc))) := (o130 (mo) (hq_tne hmo (hr_11 hR) (by simp))).trans (fx114)
                  refine hp_get (v := .ref (q + 12)) hx hb hts hown hZ fx138 fl_X13_35 rfl dX13_become_197 ?_
                  refine lv_iload_n hx hb dX13_become_200 rfl (lv_at hl 0 rfl) ?_
                  refine lv_aload_n hx hb dX13_become_201 rfl (lv_at hl 1 rfl) ?_
                  refine hp_get (v := .ref (q + 12)) hx hb hts hown hZ fx138 fl_X13_35 rfl dX13_become_202 ?_
                  refine lv_bipush (v := 60) hx hb dX13_become_205 (by decide) ?_
                  refine lv_iload_n hx hb dX13_become_207 rfl (lv_at hl 0 rfl) ?_
                  refine lv_iadd hx hb dX13_become_208 ?_
                  refine lv_topi (fun y139 ey140 => ?_)
                  obtain ⟨k141, hk142, b143, b144⟩ := hq_add (60) (i160)
                  rw [← ey140] at hk142 b143 b144
                  have hk142 : (y139).toInt = (60 : Int) + (i160).toInt + k141 * 4294967296 := hk142
                  obtain rfl : k141 = 0 := by omega
                  obtain ⟨rf145, hrf146⟩ : ∃ f : Nat → Int32, f = rh135 12 := ⟨_, rfl⟩
                  have ea147 : V128 (q + 12) = some (.inl (cs 1, 120, .inl (rf145))) := by rw [hrf146]; exact pk137 12 (by decide)
                  have hra148 := hq_rg hP.1 (hr_12 hR) ea147
                  refine hp_iald hx hb hZ ea147 (hq_in (by omega) (by omega)) dX13_become_209 ?_
                  refine lv_topi (fun y149 ey150 => ?_)
                  have b151 := hq_rng y149
                  refine hp_iast hx hb hZ ea147 (hq_in (by omega) (by omega)) dX13_become_210 (fun V152 _ _ e153 o154 hZ => ?_)
                  have e153 : V152 (q + 12) = some (.inl (cs 1, 120, .inl (upd (rf145) ((i160 : Int32).toNatClampNeg) (y149)))) := e153
                  have hP := hP.put (hr_12 hR) e153 o154 (hq_c21 (by omega) (hq_upd hra148 (hq_rng _))) rfl
                  obtain ⟨g155, ge156⟩ : ∃ g9 : Nat → Int32, g9 = upd (rf145) ((i160 : Int32).toNatClampNeg) (y149) := ⟨_, rfl⟩
                  have fx157 : V152 (q + 12) = some (.inl (cs 1, 120, .inl (g155))) := by rw [ge156]; exact e153
                  have hf158 := hq_rg hP.1 (hr_12 hR) fx157
                  obtain ⟨rh159, hrh160⟩ : ∃ r9 : hm_Rh, r9 = hm_u2 rh135 12 (i160 : Int32).toNatClampNeg ((y149 : Int32)) := ⟨_, rfl⟩
                  have pk161 : hm_AR cs V152 q rh159 := by rw [hrh160]; exact pk137.put (a := 12) (by decide) (by rw [ge156, hrf146]) fx157 o154
                  refine lv_aload_n hx hb dX13_become_211 rfl (lv_at hl 1 rfl) ?_
                  have fx162 : V152 (mo) = some (.inr (13, hm_o q (m_tp) (m_sz) (m_fr) (m_bh) (m_hd) (m_ft) (m_fa) (m_le) (m_fo) (m_as) (m_fd) (m_bc) (m_bg) (m_bs) (m_be) (m_b0) (m_b1) (m_cm) (m_hc))) := (o154 (mo) (hq_tne hmo (hr_12 hR) (by simp))).trans (fx138)
                  refine hp_get (v := .ref (q + 13)) hx hb hts hown hZ fx162 fl_X13_38 rfl dX13_become_212 ?_
                  refine lv_iload_n hx hb dX13_become_215 rfl (lv_at hl 0 rfl) ?_
                  refine lv_aload_n hx hb dX13_become_216 rfl (lv_at hl 1 rfl) ?_
                  refine hp_get (v := .ref (q + 13)) hx hb hts hown hZ fx162 fl_X13_38 rfl dX13_become_217 ?_
                  refine lv_bipush (v := 60) hx hb dX13_become_220 (by decide) ?_
                  refine lv_iload_n hx hb dX13_become_222 rfl (lv_at hl 0 rfl) ?_
                  refine lv_iadd hx hb dX13_become_223 ?_
                  refine lv_topi (fun y163 ey164 => ?_)
                  obtain ⟨k165, hk166, b167, b168⟩ := hq_add (60) (i160)
                  rw [← ey164] at hk166 b167 b168
                  have hk166 : (y163).toInt = (60 : Int) + (i160).toInt + k165 * 4294967296 := hk166
                  obtain rfl : k165 = 0 := by omega
                  obtain ⟨rf169, hrf170⟩ : ∃ f : Nat → Int32, f = rh159 13 := ⟨_, rfl⟩
                  have ea171 : V152 (q + 13) = some (.inl (cs 1, 120, .inl (rf169))) := by rw [hrf170]; exact pk161 13 (by decide)
                  have hra172 := hq_rg hP.1 (hr_13 hR) ea171
                  refine hp_iald hx hb hZ ea171 (hq_in (by omega) (by omega)) dX13_become_224 ?_
                  refine lv_topi (fun y173 ey174 => ?_)
                  have b175 := hq_rng y173
                  refine hp_iast hx hb hZ ea171 (hq_in (by omega) (by omega)) dX13_become_225 (fun V176 _ _ e177 o178 hZ => ?_)
                  have e177 : V176 (q + 13) = some (.inl (cs 1, 120, .inl (upd (rf169) ((i160 : Int32).toNatClampNeg) (y173)))) := e177
                  have hP := hP.put (hr_13 hR) e177 o178 (hq_c21 (by omega) (hq_upd hra172 (hq_rng _))) rfl
                  obtain ⟨g179, ge180⟩ : ∃ g9 : Nat → Int32, g9 = upd (rf169) ((i160 : Int32).toNatClampNeg) (y173) := ⟨_, rfl⟩
                  have fx181 : V176 (q + 13) = some (.inl (cs 1, 120, .inl (g179))) := by rw [ge180]; exact e177
                  have hf182 := hq_rg hP.1 (hr_13 hR) fx181
                  obtain ⟨rh183, hrh184⟩ : ∃ r9 : hm_Rh, r9 = hm_u2 rh159 13 (i160 : Int32).toNatClampNeg ((y173 : Int32)) := ⟨_, rfl⟩
                  have pk185 : hm_AR cs V176 q rh183 := by rw [hrh184]; exact pk161.put (a := 13) (by decide) (by rw [ge180, hrf170]) fx181 o178
                  refine lv_aload_n hx hb dX13_become_226 rfl (lv_at hl 1 rfl) ?_
                  have fx186 : V176 (mo) = some (.inr (13, hm_o q (m_tp) (m_sz) (m_fr) (m_bh) (m_hd) (m_ft) (m_fa) (m_le) (m_fo) (m_as) (m_fd) (m_bc) (m_bg) (m_bs) (m_be) (m_b0) (m_b1) (m_cm) (m_hc))) := (o178 (mo) (hq_tne hmo (hr_13 hR) (by simp))).trans (fx162)
                  refine hp_get (v := .ref (q + 14)) hx hb hts hown hZ fx186 fl_X13_41 rfl dX13_become_227 ?_
                  refine lv_iload_n hx hb dX13_become_230 rfl (lv_at hl 0 rfl) ?_
                  refine lv_aload_n hx hb dX13_become_231 rfl (lv_at hl 1 rfl) ?_
                  refine hp_get (v := .ref (q + 14)) hx hb hts hown hZ fx186 fl_X13_41 rfl dX13_become_232 ?_
                  refine lv_bipush (v := 60) hx hb dX13_become_235 (by decide) ?_
                  refine lv_iload_n hx hb dX13_become_237 rfl (lv_at hl 0 rfl) ?_
                  refine lv_iadd hx hb dX13_become_238 ?_
                  refine lv_topi (fun y187 ey188 => ?_)
                  obtain ⟨k189, hk190, b191, b192⟩ := hq_add (60) (i160)
                  rw [← ey188] at hk190 b191 b192
                  have hk190 : (y187).toInt = (60 : Int) + (i160).toInt + k189 * 4294967296 := hk190
                  obtain rfl : k189 = 0 := by omega
                  obtain ⟨rf193, hrf194⟩ : ∃ f : Nat → Int32, f = rh183 14 := ⟨_, rfl⟩
                  have ea195 : V176 (q + 14) = some (.inl (cs 1, 120, .inl (rf193))) := by rw [hrf194]; exact pk185 14 (by decide)
                  have hra196 := hq_rg hP.1 (hr_14 hR) ea195
                  refine hp_iald hx hb hZ ea195 (hq_in (by omega) (by omega)) dX13_become_239 ?_
                  refine lv_topi (fun y197 ey198 => ?_)
                  have b199 : hq_ir (hq_lo 1) (hq_hi 1) y197 := by rw [ey198]; exact hra196 _ (hq_ix (by omega) (by omega))
                  have b199 : 0 ≤ (y197).toInt ∧ (y197).toInt ≤ 8 := b199
                  refine hp_iast hx hb hZ ea195 (hq_in (by omega) (by omega)) dX13_become_240 (fun V200 _ _ e201 o202 hZ => ?_)
                  have e201 : V200 (q + 14) = some (.inl (cs 1, 120, .inl (upd (rf193) ((i160 : Int32).toNatClampNeg) (y197)))) := e201
                  have hP := hP.put (hr_14 hR) e201 o202 (hq_c21 (by omega) (hq_upd hra196 (show 0 ≤ _ ∧ _ ≤ 8 by constructor <;> omega))) rfl
                  obtain ⟨g203, ge204⟩ : ∃ g9 : Nat → Int32, g9 = upd (rf193) ((i160 : Int32).toNatClampNeg) (y197) := ⟨_, rfl⟩
                  have fx205 : V200 (q + 14) = some (.inl (cs 1, 120, .inl (g203))) := by rw [ge204]; exact e201
                  have hf206 := hq_rg hP.1 (hr_14 hR) fx205
                  obtain ⟨rh207, hrh208⟩ : ∃ r9 : hm_Rh, r9 = hm_u2 rh183 14 (i160 : Int32).toNatClampNeg ((y197 : Int32)) := ⟨_, rfl⟩
                  have pk209 : hm_AR cs V200 q rh207 := by rw [hrh208]; exact pk185.put (a := 14) (by decide) (by rw [ge204, hrf194]) fx205 o202
                  refine lv_aload_n hx hb dX13_become_241 rfl (lv_at hl 1 rfl) ?_
                  have fx210 : V200 (mo) = some (.inr (13, hm_o q (m_tp) (m_sz) (m_fr) (m_bh) (m_hd) (m_ft) (m_fa) (m_le) (m_fo) (m_as) (m_fd) (m_bc) (m_bg) (m_bs) (m_be) (m_b0) (m_b1) (m_cm) (m_hc))) := (o202 (mo) (hq_tne hmo (hr_14 hR) (by simp))).trans (fx186)
                  refine hp_get (v := .ref (q + 15)) hx hb hts hown hZ fx210 fl_X13_44 rfl dX13_become_242 ?_
                  refine lv_iload_n hx hb dX13_become_245 rfl (lv_at hl 0 rfl) ?_
                  refine lv_aload_n hx hb dX13_become_246 rfl (lv_at hl 1 rfl) ?_
                  refine hp_get (v := .ref (q + 15)) hx hb hts hown hZ fx210 fl_X13_44 rfl dX13_become_247 ?_
                  refine lv_bipush (v := 60) hx hb dX13_become_250 (by decide) ?_
                  refine lv_iload_n hx hb dX13_become_252 rfl (lv_at hl 0 rfl) ?_
                  refine lv_iadd hx hb dX13_become_253 ?_
                  refine lv_topi (fun y211 ey212 => ?_)
                  obtain ⟨k213, hk214, b215, b216⟩ := hq_add (60) (i160)
                  rw [← ey212] at hk214 b215 b216
                  have hk214 : (y211).toInt = (60 : Int) + (i160).toInt + k213 * 4294967296 := hk214
                  obtain rfl : k213 = 0 := by omega
                  obtain ⟨rf217, hrf218⟩ : ∃ f : Nat → Int32, f = rh207 15 := ⟨_, rfl⟩
                  have ea219 : V200 (q + 15) = some (.inl (cs 1, 120, .inl (rf217))) := by rw [hrf218]; exact pk209 15 (by decide)
                  have hra220 := hq_rg hP.1 (hr_15 hR) ea219
                  refine hp_iald hx hb hZ ea219 (hq_in (by omega) (by omega)) dX13_become_254 ?_
                  refine lv_topi (fun y221 ey222 => ?_)
                  have b223 : hq_ir (hq_lo 1) (hq_hi 1) y221 := by rw [ey222]; exact hra220 _ (hq_ix (by omega) (by omega))
                  have b223 : 0 ≤ (y221).toInt ∧ (y221).toInt ≤ 8 := b223
                  refine hp_iast hx hb hZ ea219 (hq_in (by omega) (by omega)) dX13_become_255 (fun V224 _ _ e225 o226 hZ => ?_)
                  have e225 : V224 (q + 15) = some (.inl (cs 1, 120, .inl (upd (rf217) ((i160 : Int32).toNatClampNeg) (y221)))) := e225
                  have hP := hP.put (hr_15 hR) e225 o226 (hq_c21 (by omega) (hq_upd hra220 (show 0 ≤ _ ∧ _ ≤ 8 by constructor <;> omega))) rfl
                  obtain ⟨g227, ge228⟩ : ∃ g9 : Nat → Int32, g9 = upd (rf217) ((i160 : Int32).toNatClampNeg) (y221) := ⟨_, rfl⟩
                  have fx229 : V224 (q + 15) = some (.inl (cs 1, 120, .inl (g227))) := by rw [ge228]; exact e225
                  have hf230 := hq_rg hP.1 (hr_15 hR) fx229
                  obtain ⟨rh231, hrh232⟩ : ∃ r9 : hm_Rh, r9 = hm_u2 rh207 15 (i160 : Int32).toNatClampNeg ((y221 : Int32)) := ⟨_, rfl⟩
                  have pk233 : hm_AR cs V224 q rh231 := by rw [hrh232]; exact pk209.put (a := 15) (by decide) (by rw [ge228, hrf218]) fx229 o226
                  refine lv_aload_n hx hb dX13_become_256 rfl (lv_at hl 1 rfl) ?_
                  have fx234 : V224 (mo) = some (.inr (13, hm_o q (m_tp) (m_sz) (m_fr) (m_bh) (m_hd) (m_ft) (m_fa) (m_le) (m_fo) (m_as) (m_fd) (m_bc) (m_bg) (m_bs) (m_be) (m_b0) (m_b1) (m_cm) (m_hc))) := (o226 (mo) (hq_tne hmo (hr_15 hR) (by simp))).trans (fx210)
                  refine hp_get (v := .ref (q + 16)) hx hb hts hown hZ fx234 fl_X13_47 rfl dX13_become_257 ?_
                  refine lv_iload_n hx hb dX13_become_260 rfl (lv_at hl 0 rfl) ?_
                  refine lv_aload_n hx hb dX13_become_261 rfl (lv_at hl 1 rfl) ?_
                  refine hp_get (v := .ref (q + 16)) hx hb hts hown hZ fx234 fl_X13_47 rfl dX13_become_262 ?_
                  refine lv_bipush (v := 60) hx hb dX13_become_265 (by decide) ?_
                  refine lv_iload_n hx hb dX13_become_267 rfl (lv_at hl 0 rfl) ?_
                  refine lv_iadd hx hb dX13_become_268 ?_
                  refine lv_topi (fun y235 ey236 => ?_)
                  obtain ⟨k237, hk238, b239, b240⟩ := hq_add (60) (i160)
                  rw [← ey236] at hk238 b239 b240
                  have hk238 : (y235).toInt = (60 : Int) + (i160).toInt + k237 * 4294967296 := hk238
                  obtain rfl : k237 = 0 := by omega
                  obtain ⟨rf241, hrf242⟩ : ∃ f : Nat → Int32, f = rh231 16 := ⟨_, rfl⟩
                  have ea243 : V224 (q + 16) = some (.inl (cs 1, 120, .inl (rf241))) := by rw [hrf242]; exact pk233 16 (by decide)
                  have hra244 := hq_rg hP.1 (hr_16 hR) ea243
                  refine hp_iald hx hb hZ ea243 (hq_in (by omega) (by omega)) dX13_become_269 ?_
                  refine lv_topi (fun y245 ey246 => ?_)
                  have b247 : hq_ir (hq_lo 3) (hq_hi 3) y245 := by rw [ey246]; exact hra244 _ (hq_ix (by omega) (by omega))
                  have b247 : 0 ≤ (y245).toInt ∧ (y245).toInt ≤ 29 := b247
                  refine hp_iast hx hb hZ ea243 (hq_in (by omega) (by omega)) dX13_become_270 (fun V248 _ _ e249 o250 hZ => ?_)
                  have e249 : V248 (q + 16) = some (.inl (cs 1, 120, .inl (upd (rf241) ((i160 : Int32).toNatClampNeg) (y245)))) := e249
                  have hP := hP.put (hr_16 hR) e249 o250 (hq_c21 (by omega) (hq_upd hra244 (show 0 ≤ _ ∧ _ ≤ 29 by constructor <;> omega))) rfl
                  obtain ⟨g251, ge252⟩ : ∃ g9 : Nat → Int32, g9 = upd (rf241) ((i160 : Int32).toNatClampNeg) (y245) := ⟨_, rfl⟩
                  have fx253 : V248 (q + 16) = some (.inl (cs 1, 120, .inl (g251))) := by rw [ge252]; exact e249
                  have hf254 := hq_rg hP.1 (hr_16 hR) fx253
                  obtain ⟨rh255, hrh256⟩ : ∃ r9 : hm_Rh, r9 = hm_u2 rh231 16 (i160 : Int32).toNatClampNeg ((y245 : Int32)) := ⟨_, rfl⟩
                  have pk257 : hm_AR cs V248 q rh255 := by rw [hrh256]; exact pk233.put (a := 16) (by decide) (by rw [ge252, hrf242]) fx253 o250
                  refine lv_aload_n hx hb dX13_become_271 rfl (lv_at hl 1 rfl) ?_
                  have fx258 : V248 (mo) = some (.inr (13, hm_o q (m_tp) (m_sz) (m_fr) (m_bh) (m_hd) (m_ft) (m_fa) (m_le) (m_fo) (m_as) (m_fd) (m_bc) (m_bg) (m_bs) (m_be) (m_b0) (m_b1) (m_cm) (m_hc))) := (o250 (mo) (hq_tne hmo (hr_16 hR) (by simp))).trans (fx234)
                  refine hp_get (v := .ref (q + 17)) hx hb hts hown hZ fx258 fl_X13_50 rfl dX13_become_272 ?_
                  refine lv_iload_n hx hb dX13_become_275 rfl (lv_at hl 0 rfl) ?_
                  refine lv_aload_n hx hb dX13_become_276 rfl (lv_at hl 1 rfl) ?_
                  refine hp_get (v := .ref (q + 17)) hx hb hts hown hZ fx258 fl_X13_50 rfl dX13_become_277 ?_
                  refine lv_bipush (v := 60) hx hb dX13_become_280 (by decide) ?_
                  refine lv_iload_n hx hb dX13_become_282 rfl (lv_at hl 0 rfl) ?_
                  refine lv_iadd hx hb dX13_become_283 ?_
                  refine lv_topi (fun y259 ey260 => ?_)
                  obtain ⟨k261, hk262, b263, b264⟩ := hq_add (60) (i160)
                  rw [← ey260] at hk262 b263 b264
                  have hk262 : (y259).toInt = (60 : Int) + (i160).toInt + k261 * 4294967296 := hk262
                  obtain rfl : k261 = 0 := by omega
                  obtain ⟨rf265, hrf266⟩ : ∃ f : Nat → Int32, f = rh255 17 := ⟨_, rfl⟩
                  have ea267 : V248 (q + 17) = some (.inl (cs 1, 120, .inl (rf265))) := by rw [hrf266]; exact pk257 17 (by decide)
                  have hra268 := hq_rg hP.1 (hr_17 hR) ea267
                  refine hp_iald hx hb hZ ea267 (hq_in (by omega) (by omega)) dX13_become_284 ?_
                  refine lv_topi (fun y269 ey270 => ?_)
                  have b271 := hq_rng y269
                  refine hp_iast hx hb hZ ea267 (hq_in (by omega) (by omega)) dX13_become_285 (fun V272 _ _ e273 o274 hZ => ?_)
                  have e273 : V272 (q + 17) = some (.inl (cs 1, 120, .inl (upd (rf265) ((i160 : Int32).toNatClampNeg) (y269)))) := e273
                  have hP := hP.put (hr_17 hR) e273 o274 (hq_c21 (by omega) (hq_upd hra268 (hq_rng _))) rfl
                  obtain ⟨g275, ge276⟩ : ∃ g9 : Nat → Int32, g9 = upd (rf265) ((i160 : Int32).toNatClampNeg) (y269) := ⟨_, rfl⟩
                  have fx277 : V272 (q + 17) = some (.inl (cs 1, 120, .inl (g275))) := by rw [ge276]; exact e273
                  have hf278 := hq_rg hP.1 (hr_17 hR) fx277
                  obtain ⟨rh279, hrh280⟩ : ∃ r9 : hm_Rh, r9 = hm_u2 rh255 17 (i160 : Int32).toNatClampNeg ((y269 : Int32)) := ⟨_, rfl⟩
                  have pk281 : hm_AR cs V272 q rh279 := by rw [hrh280]; exact pk257.put (a := 17) (by decide) (by rw [ge276, hrf266]) fx277 o274
                  refine lv_aload_n hx hb dX13_become_286 rfl (lv_at hl 1 rfl) ?_
                  have fx282 : V272 (mo) = some (.inr (13, hm_o q (m_tp) (m_sz) (m_fr) (m_bh) (m_hd) (m_ft) (m_fa) (m_le) (m_fo) (m_as) (m_fd) (m_bc) (m_bg) (m_bs) (m_be) (m_b0) (m_b1) (m_cm) (m_hc))) := (o274 (mo) (hq_tne hmo (hr_17 hR) (by simp))).trans (fx258)
                  refine hp_get (v := .ref (q + 18)) hx hb hts hown hZ fx282 fl_X13_53 rfl dX13_become_287 ?_
                  refine lv_iload_n hx hb dX13_become_290 rfl (lv_at hl 0 rfl) ?_
                  refine lv_aload_n hx hb dX13_become_291 rfl (lv_at hl 1 rfl) ?_
                  refine hp_get (v := .ref (q + 18)) hx hb hts hown hZ fx282 fl_X13_53 rfl dX13_become_292 ?_
                  refine lv_bipush (v := 60) hx hb dX13_become_295 (by decide) ?_
                  refine lv_iload_n hx hb dX13_become_297 rfl (lv_at hl 0 rfl) ?_
                  refine lv_iadd hx hb dX13_become_298 ?_
                  refine lv_topi (fun y283 ey284 => ?_)
                  obtain ⟨k285, hk286, b287, b288⟩ := hq_add (60) (i160)
                  rw [← ey284] at hk286 b287 b288
                  have hk286 : (y283).toInt = (60 : Int) + (i160).toInt + k285 * 4294967296 := hk286
                  obtain rfl : k285 = 0 := by omega
                  obtain ⟨rf289, hrf290⟩ : ∃ f : Nat → Int32, f = rh279 18 := ⟨_, rfl⟩
                  have ea291 : V272 (q + 18) = some (.inl (cs 1, 120, .inl (rf289))) := by rw [hrf290]; exact pk281 18 (by decide)
                  have hra292 := hq_rg hP.1 (hr_18 hR) ea291
                  refine hp_iald hx hb hZ ea291 (hq_in (by omega) (by omega)) dX13_become_299 ?_
                  refine lv_topi (fun y293 ey294 => ?_)
                  have b295 := hq_rng y293
                  refine hp_iast hx hb hZ ea291 (hq_in (by omega) (by omega)) dX13_become_300 (fun V296 _ _ e297 o298 hZ => ?_)
                  have e297 : V296 (q + 18) = some (.inl (cs 1, 120, .inl (upd (rf289) ((i160 : Int32).toNatClampNeg) (y293)))) := e297
                  have hP := hP.put (hr_18 hR) e297 o298 (hq_c21 (by omega) (hq_upd hra292 (hq_rng _))) rfl
                  obtain ⟨g299, ge300⟩ : ∃ g9 : Nat → Int32, g9 = upd (rf289) ((i160 : Int32).toNatClampNeg) (y293) := ⟨_, rfl⟩
                  have fx301 : V296 (q + 18) = some (.inl (cs 1, 120, .inl (g299))) := by rw [ge300]; exact e297
                  have hf302 := hq_rg hP.1 (hr_18 hR) fx301
                  obtain ⟨rh303, hrh304⟩ : ∃ r9 : hm_Rh, r9 = hm_u2 rh279 18 (i160 : Int32).toNatClampNeg ((y293 : Int32)) := ⟨_, rfl⟩
                  have pk305 : hm_AR cs V296 q rh303 := by rw [hrh304]; exact pk281.put (a := 18) (by decide) (by rw [ge300, hrf290]) fx301 o298
                  obtain ⟨y306, ey307⟩ : ∃ y : Int32, y = i160 + (1) := ⟨_, rfl⟩
                  obtain ⟨k308, hk309, b310, b311⟩ := hq_add (i160) (1)
                  rw [← ey307] at hk309 b310 b311
                  have hk309 : (y306).toInt = (i160).toInt + (1) + k308 * 4294967296 := hk309
                  obtain rfl : k308 = 0 := by omega
                  refine lv_iinc (v := y306) (lv' := [(1, .int (y306)), (0, .ref (mo))]) hx hb dX13_become_301 hl (k := 0) rfl (by rw [ey307]; rfl) (by decide) rfl (fun ls hl => ?_)
                  refine lv_goto (tgt := 160) hx hb dX13_become_304 (by decide) ?_
                  have hd312 : hm_Dr rh rh111 := by rw [hrh112]; exact hdr160.put (show (i160 : Int32).toNatClampNeg < 60 by have h8 := (hq_nn (z := i160) (by omega)).1; omega)
                  have cp313 : hm_C1 0 (1) rh rh111 := by rw [hrh112]; exact hm_C1.ne hc0_160 (by decide)
                  have cp314 : hm_C1 1 (1) rh rh111 := by rw [hrh112]; exact hm_C1.ne hc1_160 (by decide)
                  have cp315 : hm_C1 2 (1) rh rh111 := by rw [hrh112]; exact hm_C1.ne hc2_160 (by decide)
                  have cp316 : hm_C1 8 (30) rh rh111 := by rw [hrh112]; exact hm_C1.ne hc8_160 (by decide)
                  have cp317 : hm_C1 9 (30) rh rh111 := by rw [hrh112]; exact hm_C1.ne hc9_160 (by decide)
                  have cp318 : hm_Cb 4 (360) rh rh111 := by rw [hrh112]; exact hm_Cb.ne hc4_160 (by decide)
                  have cp319 : hm_Cb 5 (480) rh rh111 := by rw [hrh112]; exact hm_Cb.ne hc5_160 (by decide)
                  have cp320 : hm_Cb 6 (480) rh rh111 := by rw [hrh112]; exact hm_Cb.ne hc6_160 (by decide)
                  have cp321 : hm_C1 10 ((i160).toNatClampNeg + 1) rh rh111 := by rw [hrh112]; exact hm_C1.put hc10_160 (show (i160 : Int32).toNatClampNeg = (i160).toNatClampNeg by rfl) (show y101 = rh 10 (60 + (i160).toNatClampNeg) from by rw [ey102, hrf98, hdr160 10 _ (show 60 ≤ (y91 : Int32).toNatClampNeg by have h8 := (hq_nn (z := i160) (by omega)).1; have h7 := (hq_nn (z := y91) (by omega)).1; omega), show (y91 : Int32).toNatClampNeg = 60 + (i160).toNatClampNeg by have h8 := (hq_nn (z := i160) (by omega)).1; have h7 := (hq_nn (z := y91) (by omega)).1; omega])
                  have cp322 : hm_C1 11 ((i160).toNatClampNeg) rh rh111 := by rw [hrh112]; exact hm_C1.ne hc11_160 (by decide)
                  have cp323 : hm_C1 12 ((i160).toNatClampNeg) rh rh111 := by rw [hrh112]; exact hm_C1.ne hc12_160 (by decide)
                  have cp324 : hm_C1 13 ((i160).toNatClampNeg) rh rh111 := by rw [hrh112]; exact hm_C1.ne hc13_160 (by decide)
                  have cp325 : hm_C1 14 ((i160).toNatClampNeg) rh rh111 := by rw [hrh112]; exact hm_C1.ne hc14_160 (by decide)
                  have cp326 : hm_C1 15 ((i160).toNatClampNeg) rh rh111 := by rw [hrh112]; exact hm_C1.ne hc15_160 (by decide)
                  have cp327 : hm_C1 16 ((i160).toNatClampNeg) rh rh111 := by rw [hrh112]; exact hm_C1.ne hc16_160 (by decide)
                  have hd328 : hm_Dr rh rh135 := by rw [hrh136]; exact hd312.put (show (i160 : Int32).toNatClampNeg < 60 by have h8 := (hq_nn (z := i160) (by omega)).1; omega)
                  have cp329 : hm_C1 0 (1) rh rh135 := by rw [hrh136]; exact hm_C1.ne cp313 (by decide)
                  have cp330 : hm_C1 1 (1) rh rh135 := by rw [hrh136]; exact hm_C1.ne cp314 (by decide)
                  have cp331 : hm_C1 2 (1) rh rh135 := by rw [hrh136]; exact hm_C1.ne cp315 (by decide)
                  have cp332 : hm_C1 8 (30) rh rh135 := by rw [hrh136]; exact hm_C1.ne cp316 (by decide)
                  have cp333 : hm_C1 9 (30) rh rh135 := by rw [hrh136]; exact hm_C1.ne cp317 (by decide)
                  have cp334 : hm_Cb 4 (360) rh rh135 := by rw [hrh136]; exact hm_Cb.ne cp318 (by decide)
                  have cp335 : hm_Cb 5 (480) rh rh135 := by rw [hrh136]; exact hm_Cb.ne cp319 (by decide)
                  have cp336 : hm_Cb 6 (480) rh rh135 := by rw [hrh136]; exact hm_Cb.ne cp320 (by decide)
                  have cp337 : hm_C1 10 ((i160).toNatClampNeg + 1) rh rh135 := by rw [hrh136]; exact hm_C1.ne cp321 (by decide)
                  have cp338 : hm_C1 11 ((i160).toNatClampNeg + 1) rh rh135 := by rw [hrh136]; exact hm_C1.put cp322 (show (i160 : Int32).toNatClampNeg = (i160).toNatClampNeg by rfl) (show y125 = rh 11 (60 + (i160).toNatClampNeg) from by rw [ey126, hrf122, hd312 11 _ (show 60 ≤ (y115 : Int32).toNatClampNeg by have h8 := (hq_nn (z := i160) (by omega)).1; have h7 := (hq_nn (z := y115) (by omega)).1; omega), show (y115 : Int32).toNatClampNeg = 60 + (i160).toNatClampNeg by have h8 := (hq_nn (z := i160) (by omega)).1; have h7 := (hq_nn (z := y115) (by omega)).1; omega])
                  have cp339 : hm_C1 12 ((i160).toNatClampNeg) rh rh135 := by rw [hrh136]; exact hm_C1.ne cp323 (by decide)
                  have cp340 : hm_C1 13 ((i160).toNatClampNeg) rh rh135 := by rw [hrh136]; exact hm_C1.ne cp324 (by decide)
                  have cp341 : hm_C1 14 ((i160).toNatClampNeg) rh rh135 := by rw [hrh136]; exact hm_C1.ne cp325 (by decide)
                  have cp342 : hm_C1 15 ((i160).toNatClampNeg) rh rh135 := by rw [hrh136]; exact hm_C1.ne cp326 (by decide)
                  have cp343 : hm_C1 16 ((i160).toNatClampNeg) rh rh135 := by rw [hrh136]; exact hm_C1.ne cp327 (by decide)
                  have hd344 : hm_Dr rh rh159 := by rw [hrh160]; exact hd328.put (show (i160 : Int32).toNatClampNeg < 60 by have h8 := (hq_nn (z := i160) (by omega)).1; omega)
                  have cp345 : hm_C1 0 (1) rh rh159 := by rw [hrh160]; exact hm_C1.ne cp329 (by decide)
                  have cp346 : hm_C1 1 (1) rh rh159 := by rw [hrh160]; exact hm_C1.ne cp330 (by decide)
                  have cp347 : hm_C1 2 (1) rh rh159 := by rw [hrh160]; exact hm_C1.ne cp331 (by decide)
                  have cp348 : hm_C1 8 (30) rh rh159 := by rw [hrh160]; exact hm_C1.ne cp332 (by decide)
                  have cp349 : hm_C1 9 (30) rh rh159 := by rw [hrh160]; exact hm_C1.ne cp333 (by decide)
                  have cp350 : hm_Cb 4 (360) rh rh159 := by rw [hrh160]; exact hm_Cb.ne cp334 (by decide)
                  have cp351 : hm_Cb 5 (480) rh rh159 := by rw [hrh160]; exact hm_Cb.ne cp335 (by decide)
                  have cp352 : hm_Cb 6 (480) rh rh159 := by rw [hrh160]; exact hm_Cb.ne cp336 (by decide)
                  have cp353 : hm_C1 10 ((i160).toNatClampNeg + 1) rh rh159 := by rw [hrh160]; exact hm_C1.ne cp337 (by decide)
                  have cp354 : hm_C1 11 ((i160).toNatClampNeg + 1) rh rh159 := by rw [hrh160]; exact hm_C1.ne cp338 (by decide)
                  have cp355 : hm_C1 12 ((i160).toNatClampNeg + 1) rh rh159 := by rw [hrh160]; exact hm_C1.put cp339 (show (i160 : Int32).toNatClampNeg = (i160).toNatClampNeg by rfl) (show y149 = rh 12 (60 + (i160).toNatClampNeg) from by rw [ey150, hrf146, hd328 12 _ (show 60 ≤ (y139 : Int32).toNatClampNeg by have h8 := (hq_nn (z := i160) (by omega)).1; have h7 := (hq_nn (z := y139) (by omega)).1; omega), show (y139 : Int32).toNatClampNeg = 60 + (i160).toNatClampNeg by have h8 := (hq_nn (z := i160) (by omega)).1; have h7 := (hq_nn (z := y139) (by omega)).1; omega])
                  have cp356 : hm_C1 13 ((i160).toNatClampNeg) rh rh159 := by rw [hrh160]; exact hm_C1.ne cp340 (by decide)
                  have cp357 : hm_C1 14 ((i160).toNatClampNeg) rh rh159 := by rw [hrh160]; exact hm_C1.ne cp341 (by decide)
                  have cp358 : hm_C1 15 ((i160).toNatClampNeg) rh rh159 := by rw [hrh160]; exact hm_C1.ne cp342 (by decide)
                  have cp359 : hm_C1 16 ((i160).toNatClampNeg) rh rh159 := by rw [hrh160]; exact hm_C1.ne cp343 (by decide)
                  have hd360 : hm_Dr rh rh183 := by rw [hrh184]; exact hd344.put (show (i160 : Int32).toNatClampNeg < 60 by have h8 := (hq_nn (z := i160) (by omega)).1; omega)
                  have cp361 : hm_C1 0 (1) rh rh183 := by rw [hrh184]; exact hm_C1.ne cp345 (by decide)
                  have cp362 : hm_C1 1 (1) rh rh183 := by rw [hrh184]; exact hm_C1.ne cp346 (by decide)
                  have cp363 : hm_C1 2 (1) rh rh183 := by rw [hrh184]; exact hm_C1.ne cp347 (by decide)
                  have cp364 : hm_C1 8 (30) rh rh183 := by rw [hrh184]; exact hm_C1.ne cp348 (by decide)
                  have cp365 : hm_C1 9 (30) rh rh183 := by rw [hrh184]; exact hm_C1.ne cp349 (by decide)
                  have cp366 : hm_Cb 4 (360) rh rh183 := by rw [hrh184]; exact hm_Cb.ne cp350 (by decide)
                  have cp367 : hm_Cb 5 (480) rh rh183 := by rw [hrh184]; exact hm_Cb.ne cp351 (by decide)
                  have cp368 : hm_Cb 6 (480) rh rh183 := by rw [hrh184]; exact hm_Cb.ne cp352 (by decide)
                  have cp369 : hm_C1 10 ((i160).toNatClampNeg + 1) rh rh183 := by rw [hrh184]; exact hm_C1.ne cp353 (by decide)
                  have cp370 : hm_C1 11 ((i160).toNatClampNeg + 1) rh rh183 := by rw [hrh184]; exact hm_C1.ne cp354 (by decide)
                  have cp371 : hm_C1 12 ((i160).toNatClampNeg + 1) rh rh183 := by rw [hrh184]; exact hm_C1.ne cp355 (by decide)
                  have cp372 : hm_C1 13 ((i160).toNatClampNeg + 1) rh rh183 := by rw [hrh184]; exact hm_C1.put cp356 (show (i160 : Int32).toNatClampNeg = (i160).toNatClampNeg by rfl) (show y173 = rh 13 (60 + (i160).toNatClampNeg) from by rw [ey174, hrf170, hd344 13 _ (show 60 ≤ (y163 : Int32).toNatClampNeg by have h8 := (hq_nn (z := i160) (by omega)).1; have h7 := (hq_nn (z := y163) (by omega)).1; omega), show (y163 : Int32).toNatClampNeg = 60 + (i160).toNatClampNeg by have h8 := (hq_nn (z := i160) (by omega)).1; have h7 := (hq_nn (z := y163) (by omega)).1; omega])
                  have cp373 : hm_C1 14 ((i160).toNatClampNeg) rh rh183 := by rw [hrh184]; exact hm_C1.ne cp357 (by decide)
                  have cp374 : hm_C1 15 ((i160).toNatClampNeg) rh rh183 := by rw [hrh184]; exact hm_C1.ne cp358 (by decide)
                  have cp375 : hm_C1 16 ((i160).toNatClampNeg) rh rh183 := by rw [hrh184]; exact hm_C1.ne cp359 (by decide)
                  have hd376 : hm_Dr rh rh207 := by rw [hrh208]; exact hd360.put (show (i160 : Int32).toNatClampNeg < 60 by have h8 := (hq_nn (z := i160) (by omega)).1; omega)
                  have cp377 : hm_C1 0 (1) rh rh207 := by rw [hrh208]; exact hm_C1.ne cp361 (by decide)
                  have cp378 : hm_C1 1 (1) rh rh207 := by rw [hrh208]; exact hm_C1.ne cp362 (by decide)
                  have cp379 : hm_C1 2 (1) rh rh207 := by rw [hrh208]; exact hm_C1.ne cp363 (by decide)
                  have cp380 : hm_C1 8 (30) rh rh207 := by rw [hrh208]; exact hm_C1.ne cp364 (by decide)
                  have cp381 : hm_C1 9 (30) rh rh207 := by rw [hrh208]; exact hm_C1.ne cp365 (by decide)
                  have cp382 : hm_Cb 4 (360) rh rh207 := by rw [hrh208]; exact hm_Cb.ne cp366 (by decide)
                  have cp383 : hm_Cb 5 (480) rh rh207 := by rw [hrh208]; exact hm_Cb.ne cp367 (by decide)
                  have cp384 : hm_Cb 6 (480) rh rh207 := by rw [hrh208]; exact hm_Cb.ne cp368 (by decide)
                  have cp385 : hm_C1 10 ((i160).toNatClampNeg + 1) rh rh207 := by rw [hrh208]; exact hm_C1.ne cp369 (by decide)
                  have cp386 : hm_C1 11 ((i160).toNatClampNeg + 1) rh rh207 := by rw [hrh208]; exact hm_C1.ne cp370 (by decide)
                  have cp387 : hm_C1 12 ((i160).toNatClampNeg + 1) rh rh207 := by rw [hrh208]; exact hm_C1.ne cp371 (by decide)
                  have cp388 : hm_C1 13 ((i160).toNatClampNeg + 1) rh rh207 := by rw [hrh208]; exact hm_C1.ne cp372 (by decide)
                  have cp389 : hm_C1 14 ((i160).toNatClampNeg + 1) rh rh207 := by rw [hrh208]; exact hm_C1.put cp373 (show (i160 : Int32).toNatClampNeg = (i160).toNatClampNeg by rfl) (show y197 = rh 14 (60 + (i160).toNatClampNeg) from by rw [ey198, hrf194, hd360 14 _ (show 60 ≤ (y187 : Int32).toNatClampNeg by have h8 := (hq_nn (z := i160) (by omega)).1; have h7 := (hq_nn (z := y187) (by omega)).1; omega), show (y187 : Int32).toNatClampNeg = 60 + (i160).toNatClampNeg by have h8 := (hq_nn (z := i160) (by omega)).1; have h7 := (hq_nn (z := y187) (by omega)).1; omega])
                  have cp390 : hm_C1 15 ((i160).toNatClampNeg) rh rh207 := by rw [hrh208]; exact hm_C1.ne cp374 (by decide)
                  have cp391 : hm_C1 16 ((i160).toNatClampNeg) rh rh207 := by rw [hrh208]; exact hm_C1.ne cp375 (by decide)
                  have hd392 : hm_Dr rh rh231 := by rw [hrh232]; exact hd376.put (show (i160 : Int32).toNatClampNeg < 60 by have h8 := (hq_nn (z := i160) (by omega)).1; omega)
                  have cp393 : hm_C1 0 (1) rh rh231 := by rw [hrh232]; exact hm_C1.ne cp377 (by decide)
                  have cp394 : hm_C1 1 (1) rh rh231 := by rw [hrh232]; exact hm_C1.ne cp378 (by decide)
                  have cp395 : hm_C1 2 (1) rh rh231 := by rw [hrh232]; exact hm_C1.ne cp379 (by decide)
                  have cp396 : hm_C1 8 (30) rh rh231 := by rw [hrh232]; exact hm_C1.ne cp380 (by decide)
                  have cp397 : hm_C1 9 (30) rh rh231 := by rw [hrh232]; exact hm_C1.ne cp381 (by decide)
                  have cp398 : hm_Cb 4 (360) rh rh231 := by rw [hrh232]; exact hm_Cb.ne cp382 (by decide)
                  have cp399 : hm_Cb 5 (480) rh rh231 := by rw [hrh232]; exact hm_Cb.ne cp383 (by decide)
                  have cp400 : hm_Cb 6 (480) rh rh231 := by rw [hrh232]; exact hm_Cb.ne cp384 (by decide)
                  have cp401 : hm_C1 10 ((i160).toNatClampNeg + 1) rh rh231 := by rw [hrh232]; exact hm_C1.ne cp385 (by decide)
                  have cp402 : hm_C1 11 ((i160).toNatClampNeg + 1) rh rh231 := by rw [hrh232]; exact hm_C1.ne cp386 (by decide)
                  have cp403 : hm_C1 12 ((i160).toNatClampNeg + 1) rh rh231 := by rw [hrh232]; exact hm_C1.ne cp387 (by decide)
                  have cp404 : hm_C1 13 ((i160).toNatClampNeg + 1) rh rh231 := by rw [hrh232]; exact hm_C1.ne cp388 (by decide)
                  have cp405 : hm_C1 14 ((i160).toNatClampNeg + 1) rh rh231 := by rw [hrh232]; exact hm_C1.ne cp389 (by decide)
                  have cp406 : hm_C1 15 ((i160).toNatClampNeg + 1) rh rh231 := by rw [hrh232]; exact hm_C1.put cp390 (show (i160 : Int32).toNatClampNeg = (i160).toNatClampNeg by rfl) (show y221 = rh 15 (60 + (i160).toNatClampNeg) from by rw [ey222, hrf218, hd376 15 _ (show 60 ≤ (y211 : Int32).toNatClampNeg by have h8 := (hq_nn (z := i160) (by omega)).1; have h7 := (hq_nn (z := y211) (by omega)).1; omega), show (y211 : Int32).toNatClampNeg = 60 + (i160).toNatClampNeg by have h8 := (hq_nn (z := i160) (by omega)).1; have h7 := (hq_nn (z := y211) (by omega)).1; omega])
                  have cp407 : hm_C1 16 ((i160).toNatClampNeg) rh rh231 := by rw [hrh232]; exact hm_C1.ne cp391 (by decide)
                  have hd408 : hm_Dr rh rh255 := by rw [hrh256]; exact hd392.put (show (i160 : Int32).toNatClampNeg < 60 by have h8 := (hq_nn (z := i160) (by omega)).1; omega)
                  have cp409 : hm_C1 0 (1) rh rh255 := by rw [hrh256]; exact hm_C1.ne cp393 (by decide)
                  have cp410 : hm_C1 1 (1) rh rh255 := by rw [hrh256]; exact hm_C1.ne cp394 (by decide)
                  have cp411 : hm_C1 2 (1) rh rh255 := by rw [hrh256]; exact hm_C1.ne cp395 (by decide)
                  have cp412 : hm_C1 8 (30) rh rh255 := by rw [hrh256]; exact hm_C1.ne cp396 (by decide)
                  have cp413 : hm_C1 9 (30) rh rh255 := by rw [hrh256]; exact hm_C1.ne cp397 (by decide)
                  have cp414 : hm_Cb 4 (360) rh rh255 := by rw [hrh256]; exact hm_Cb.ne cp398 (by decide)
                  have cp415 : hm_Cb 5 (480) rh rh255 := by rw [hrh256]; exact hm_Cb.ne cp399 (by decide)
                  have cp416 : hm_Cb 6 (480) rh rh255 := by rw [hrh256]; exact hm_Cb.ne cp400 (by decide)
                  have cp417 : hm_C1 10 ((i160).toNatClampNeg + 1) rh rh255 := by rw [hrh256]; exact hm_C1.ne cp401 (by decide)
                  have cp418 : hm_C1 11 ((i160).toNatClampNeg + 1) rh rh255 := by rw [hrh256]; exact hm_C1.ne cp402 (by decide)
                  have cp419 : hm_C1 12 ((i160).toNatClampNeg + 1) rh rh255 := by rw [hrh256]; exact hm_C1.ne cp403 (by decide)
                  have cp420 : hm_C1 13 ((i160).toNatClampNeg + 1) rh rh255 := by rw [hrh256]; exact hm_C1.ne cp404 (by decide)
                  have cp421 : hm_C1 14 ((i160).toNatClampNeg + 1) rh rh255 := by rw [hrh256]; exact hm_C1.ne cp405 (by decide)
                  have cp422 : hm_C1 15 ((i160).toNatClampNeg + 1) rh rh255 := by rw [hrh256]; exact hm_C1.ne cp406 (by decide)
                  have cp423 : hm_C1 16 ((i160).toNatClampNeg + 1) rh rh255 := by rw [hrh256]; exact hm_C1.put cp407 (show (i160 : Int32).toNatClampNeg = (i160).toNatClampNeg by rfl) (show y245 = rh 16 (60 + (i160).toNatClampNeg) from by rw [ey246, hrf242, hd392 16 _ (show 60 ≤ (y235 : Int32).toNatClampNeg by have h8 := (hq_nn (z := i160) (by omega)).1; have h7 := (hq_nn (z := y235) (by omega)).1; omega), show (y235 : Int32).toNatClampNeg = 60 + (i160).toNatClampNeg by have h8 := (hq_nn (z := i160) (by omega)).1; have h7 := (hq_nn (z := y235) (by omega)).1; omega])
                  have hd424 : hm_Dr rh rh279 := by rw [hrh280]; exact hd408.put (show (i160 : Int32).toNatClampNeg < 60 by have h8 := (hq_nn (z := i160) (by omega)).1; omega)
                  have cp425 : hm_C1 0 (1) rh rh279 := by rw [hrh280]; exact hm_C1.ne cp409 (by decide)
                  have cp426 : hm_C1 1 (1) rh rh279 := by rw [hrh280]; exact hm_C1.ne cp410 (by decide)
                  have cp427 : hm_C1 2 (1) rh rh279 := by rw [hrh280]; exact hm_C1.ne cp411 (by decide)
                  have cp428 : hm_C1 8 (30) rh rh279 := by rw [hrh280]; exact hm_C1.ne cp412 (by decide)
                  have cp429 : hm_C1 9 (30) rh rh279 := by rw [hrh280]; exact hm_C1.ne cp413 (by decide)
                  have cp430 : hm_Cb 4 (360) rh rh279 := by rw [hrh280]; exact hm_Cb.ne cp414 (by decide)
                  have cp431 : hm_Cb 5 (480) rh rh279 := by rw [hrh280]; exact hm_Cb.ne cp415 (by decide)
                  have cp432 : hm_Cb 6 (480) rh rh279 := by rw [hrh280]; exact hm_Cb.ne cp416 (by decide)
                  have cp433 : hm_C1 10 ((i160).toNatClampNeg + 1) rh rh279 := by rw [hrh280]; exact hm_C1.ne cp417 (by decide)
                  have cp434 : hm_C1 11 ((i160).toNatClampNeg + 1) rh rh279 := by rw [hrh280]; exact hm_C1.ne cp418 (by decide)
                  have cp435 : hm_C1 12 ((i160).toNatClampNeg + 1) rh rh279 := by rw [hrh280]; exact hm_C1.ne cp419 (by decide)
                  have cp436 : hm_C1 13 ((i160).toNatClampNeg + 1) rh rh279 := by rw [hrh280]; exact hm_C1.ne cp420 (by decide)
                  have cp437 : hm_C1 14 ((i160).toNatClampNeg + 1) rh rh279 := by rw [hrh280]; exact hm_C1.ne cp421 (by decide)
                  have cp438 : hm_C1 15 ((i160).toNatClampNeg + 1) rh rh279 := by rw [hrh280]; exact hm_C1.ne cp422 (by decide)
                  have cp439 : hm_C1 16 ((i160).toNatClampNeg + 1) rh rh279 := by rw [hrh280]; exact hm_C1.ne cp423 (by decide)
                  have hd440 : hm_Dr rh rh303 := by rw [hrh304]; exact hd424.put (show (i160 : Int32).toNatClampNeg < 60 by have h8 := (hq_nn (z := i160) (by omega)).1; omega)
                  have cp441 : hm_C1 0 (1) rh rh303 := by rw [hrh304]; exact hm_C1.ne cp425 (by decide)
                  have cp442 : hm_C1 1 (1) rh rh303 := by rw [hrh304]; exact hm_C1.ne cp426 (by decide)
                  have cp443 : hm_C1 2 (1) rh rh303 := by rw [hrh304]; exact hm_C1.ne cp427 (by decide)
                  have cp444 : hm_C1 8 (30) rh rh303 := by rw [hrh304]; exact hm_C1.ne cp428 (by decide)
                  have cp445 : hm_C1 9 (30) rh rh303 := by rw [hrh304]; exact hm_C1.ne cp429 (by decide)
                  have cp446 : hm_Cb 4 (360) rh rh303 := by rw [hrh304]; exact hm_Cb.ne cp430 (by decide)
                  have cp447 : hm_Cb 5 (480) rh rh303 := by rw [hrh304]; exact hm_Cb.ne cp431 (by decide)
                  have cp448 : hm_Cb 6 (480) rh rh303 := by rw [hrh304]; exact hm_Cb.ne cp432 (by decide)
                  have cp449 : hm_C1 10 ((i160).toNatClampNeg + 1) rh rh303 := by rw [hrh304]; exact hm_C1.ne cp433 (by decide)
                  have cp450 : hm_C1 11 ((i160).toNatClampNeg + 1) rh rh303 := by rw [hrh304]; exact hm_C1.ne cp434 (by decide)
                  have cp451 : hm_C1 12 ((i160).toNatClampNeg + 1) rh rh303 := by rw [hrh304]; exact hm_C1.ne cp435 (by decide)
                  have cp452 : hm_C1 13 ((i160).toNatClampNeg + 1) rh rh303 := by rw [hrh304]; exact hm_C1.ne cp436 (by decide)
                  have cp453 : hm_C1 14 ((i160).toNatClampNeg + 1) rh rh303 := by rw [hrh304]; exact hm_C1.ne cp437 (by decide)
                  have cp454 : hm_C1 15 ((i160).toNatClampNeg + 1) rh rh303 := by rw [hrh304]; exact hm_C1.ne cp438 (by decide)
                  have cp455 : hm_C1 16 ((i160).toNatClampNeg + 1) rh rh303 := by rw [hrh304]; exact hm_C1.ne cp439 (by decide)
                  have fx456 : V296 (mo) = some (.inr (13, hm_o q (m_tp) (m_sz) (m_fr) (m_bh) (m_hd) (m_ft) (m_fa) (m_le) (m_fo) (m_as) (m_fd) (m_bc) (m_bg) (m_bs) (m_be) (m_b0) (m_b1) (m_cm) (m_hc))) := (o298 (mo) (hq_tne hmo (hr_18 hR) (by simp))).trans (fx282)
                  exact ih160 _ (by omega) _ _ _ ls (y306) (rh303) rfl hZ hP fx456 (fun x8 hne0 => (o298 x8 (by omega)).trans ((o274 x8 (by omega)).trans ((o250 x8 (by omega)).trans ((o226 x8 (by omega)).trans ((o202 x8 (by omega)).trans ((o178 x8 (by omega)).trans ((o154 x8 (by omega)).trans ((o130 x8 (by omega)).trans ((o106 x8 (by omega)).trans (fr160 x8 hne0)))))))))) pk305 (by omega) (by omega) (hd440) (cp441) (cp442) (cp443) (cp444) (cp445) (cp446) (cp447) (cp448) (cp449.le (by have h8 := (hq_nn (z := y306) (by omega)).1; have h7 := (hq_nn (z := i160) (by omega)).1; omega)) (cp450.le (by have h8 := (hq_nn (z := y306) (by omega)).1; have h7 := (hq_nn (z := i160) (by omega)).1; omega)) (cp451.le (by have h8 := (hq_nn (z := y306) (by omega)).1; have h7 := (hq_nn (z := i160) (by omega)).1; omega)) (cp452.le (by have h8 := (hq_nn (z := y306) (by omega)).1; have h7 := (hq_nn (z := i160) (by omega)).1; omega)) (cp453.le (by have h8 := (hq_nn (z := y306) (by omega)).1; have h7 := (hq_nn (z := i160) (by omega)).1; omega)) (cp454.le (by have h8 := (hq_nn (z := y306) (by omega)).1; have h7 := (hq_nn (z := i160) (by omega)).1; omega)) (cp455.le (by have h8 := (hq_nn (z := y306) (by omega)).1; have h7 := (hq_nn (z := i160) (by omega)).1; omega)) (lv_sub hl [0, 1] rfl)
            · have c84 : ¬ (480 : Int) ≤ (i113).toInt := fun h9 => c84 (hq_lei.mpr h9)
              refine lv_aload_n hx hb dX13_become_120 rfl (lv_at hl 1 rfl) ?_
              refine hp_get (v := .ref (q + 5)) hx hb hts hown hZ ho79 fl_X13_23 rfl dX13_become_121 ?_
              refine lv_iload_n hx hb dX13_become_124 rfl (lv_at hl 0 rfl) ?_
              refine lv_aload_n hx hb dX13_become_125 rfl (lv_at hl 1 rfl) ?_
              refine hp_get (v := .ref (q + 5)) hx hb hts hown hZ ho79 fl_X13_23 rfl dX13_become_126 ?_
              refine lv_sipush (v := 480) hx hb dX13_become_129 (by decide) ?_
              refine lv_iload_n hx hb dX13_become_132 rfl (lv_at hl 0 rfl) ?_
              refine lv_iadd hx hb dX13_become_133 ?_
              refine lv_topi (fun y457 ey458 => ?_)
              obtain ⟨k459, hk460, b461, b462⟩ := hq_add (480) (i113)
              rw [← ey458] at hk460 b461 b462
              have hk460 : (y457).toInt = (480 : Int) + (i113).toInt + k459 * 4294967296 := hk460
              obtain rfl : k459 = 0 := by omega
              obtain ⟨rf463, hrf464⟩ : ∃ f : Nat → Int32, f = rh113x 5 := ⟨_, rfl⟩
              have ea465 : V9 (q + 5) = some (.inl (cs 0, 960, .inl (rf463))) := by rw [hrf464]; exact pk80 5 (by decide)
              refine hp_bald hx hb hZ ea465 (hq_in (by omega) (by omega)) dX13_become_134 ?_
              refine lv_topi (fun y467 ey468 => ?_)
              have b469 := hq_rng y467
              refine hp_bast hx hb hZ ea465 (hq_in (by omega) (by omega)) dX13_become_135 (fun V470 _ _ e471 o472 hZ => ?_)
              have e471 : V470 (q + 5) = some (.inl (cs 0, 960, .inl (upd (rf463) ((i113 : Int32).toNatClampNeg) ((y467 : Int32).toInt8.toInt32)))) := e471
              have hP := hP.put (hr_5 hR) e471 o472 (hq_c20 (by omega)) rfl
              obtain ⟨g473, ge474⟩ : ∃ g9 : Nat → Int32, g9 = upd (rf463) ((i113 : Int32).toNatClampNeg) ((y467 : Int32).toInt8.toInt32) := ⟨_, rfl⟩
              have fx475 : V470 (q + 5) = some (.inl (cs 0, 960, .inl (g473))) := by rw [ge474]; exact e471
              have hf476 := hq_rg20 hP.1 (hr_5 hR) fx475
              obtain ⟨rh477, hrh478⟩ : ∃ r9 : hm_Rh, r9 = hm_u2 rh113x 5 (i113 : Int32).toNatClampNeg ((y467 : Int32).toInt8.toInt32) := ⟨_, rfl⟩
              have pk479 : hm_AR cs V470 q rh477 := by rw [hrh478]; exact pk80.put (a := 5) (by decide) (by rw [ge474, hrf464]) fx475 o472
              refine lv_aload_n hx hb dX13_become_136 rfl (lv_at hl 1 rfl) ?_
              have fx480 : V470 (mo) = some (.inr (13, hm_o q (m_tp) (m_sz) (m_fr) (m_bh) (m_hd) (m_ft) (m_fa) (m_le) (m_fo) (m_as) (m_fd) (m_bc) (m_bg) (m_bs) (m_be) (m_b0) (m_b1) (m_cm) (m_hc))) := (o472 (mo) (hq_tne hmo (hr_5 hR) (by simp))).trans (ho79)
              refine hp_get (v := .ref (q + 6)) hx hb hts hown hZ fx480 fl_X13_26 rfl dX13_become_137 ?_
              refine lv_iload_n hx hb dX13_become_140 rfl (lv_at hl 0 rfl) ?_
              refine lv_aload_n hx hb dX13_become_141 rfl (lv_at hl 1 rfl) ?_
              refine hp_get (v := .ref (q + 6)) hx hb hts hown hZ fx480 fl_X13_26 rfl dX13_become_142 ?_
              refine lv_sipush (v := 480) hx hb dX13_become_145 (by decide) ?_
              refine lv_iload_n hx hb dX13_become_148 rfl (lv_at hl 0 rfl) ?_
              refine lv_iadd hx hb dX13_become_149 ?_
              refine lv_topi (fun y481 ey482 => ?_)
              obtain ⟨k483, hk484, b485, b486⟩ := hq_add (480) (i113)
              rw [← ey482] at hk484 b485 b486
              have hk484 : (y481).toInt = (480 : Int) + (i113).toInt + k483 * 4294967296 := hk484
              obtain rfl : k483 = 0 := by omega
              obtain ⟨rf487, hrf488⟩ : ∃ f : Nat → Int32, f = rh477 6 := ⟨_, rfl⟩
              have ea489 : V470 (q + 6) = some (.inl (cs 0, 960, .inl (rf487))) := by rw [hrf488]; exact pk479 6 (by decide)
              refine hp_bald hx hb hZ ea489 (hq_in (by omega) (by omega)) dX13_become_150 ?_
              refine lv_topi (fun y491 ey492 => ?_)
              have b493 := hq_rng y491
              refine hp_bast hx hb hZ ea489 (hq_in (by omega) (by omega)) dX13_become_151 (fun V494 _ _ e495 o496 hZ => ?_)
              have e495 : V494 (q + 6) = some (.inl (cs 0, 960, .inl (upd (rf487) ((i113 : Int32).toNatClampNeg) ((y491 : Int32).toInt8.toInt32)))) := e495
              have hP := hP.put (hr_6 hR) e495 o496 (hq_c20 (by omega)) rfl
              obtain ⟨g497, ge498⟩ : ∃ g9 : Nat → Int32, g9 = upd (rf487) ((i113 : Int32).toNatClampNeg) ((y491 : Int32).toInt8.toInt32) := ⟨_, rfl⟩
              have fx499 : V494 (q + 6) = some (.inl (cs 0, 960, .inl (g497))) := by rw [ge498]; exact e495
              have hf500 := hq_rg20 hP.1 (hr_6 hR) fx499
              obtain ⟨rh501, hrh502⟩ : ∃ r9 : hm_Rh, r9 = hm_u2 rh477 6 (i113 : Int32).toNatClampNeg ((y491 : Int32).toInt8.toInt32) := ⟨_, rfl⟩
              have pk503 : hm_AR cs V494 q rh501 := by rw [hrh502]; exact pk479.put (a := 6) (by decide) (by rw [ge498, hrf488]) fx499 o496
              obtain ⟨y504, ey505⟩ : ∃ y : Int32, y = i113 + (1) := ⟨_, rfl⟩
              obtain ⟨k506, hk507, b508, b509⟩ := hq_add (i113) (1)
              rw [← ey505] at hk507 b508 b509
              have hk507 : (y504).toInt = (i113).toInt + (1) + k506 * 4294967296 := hk507
              obtain rfl : k506 = 0 := by omega
              refine lv_iinc (v := y504) (lv' := [(1, .int (y504)), (0, .ref (mo))]) hx hb dX13_become_152 hl (k := 0) rfl (by rw [ey505]; rfl) (by decide) rfl (fun ls hl => ?_)
              refine lv_goto (tgt := 113) hx hb dX13_become_155 (by decide) ?_
              have hd510 : hm_Dr rh rh477 := by rw [hrh478]; exact hdr113.put (show (i113 : Int32).toNatClampNeg < 480 by have h8 := (hq_nn (z := i113) (by omega)).1; omega)
              have cp511 : hm_C1 0 (1) rh rh477 := by rw [hrh478]; exact hm_C1.ne hc0_113 (by decide)
              have cp512 : hm_C1 1 (1) rh rh477 := by rw [hrh478]; exact hm_C1.ne hc1_113 (by decide)
              have cp513 : hm_C1 2 (1) rh rh477 := by rw [hrh478]; exact hm_C1.ne hc2_113 (by decide)
              have cp514 : hm_C1 8 (30) rh rh477 := by rw [hrh478]; exact hm_C1.ne hc8_113 (by decide)
              have cp515 : hm_C1 9 (30) rh rh477 := by rw [hrh478]; exact hm_C1.ne hc9_113 (by decide)
              have cp516 : hm_Cb 4 (360) rh rh477 := by rw [hrh478]; exact hm_Cb.ne hc4_113 (by decide)
              have cp517 : hm_Cb 5 ((i113).toNatClampNeg + 1) rh rh477 := by rw [hrh478]; exact hm_Cb.put hc5_113 (show (i113 : Int32).toNatClampNeg = (i113).toNatClampNeg by rfl) (by rw [show y467 = rh 5 (480 + (i113).toNatClampNeg) from by rw [ey468, hrf464, hdr113 5 _ (show 480 ≤ (y457 : Int32).toNatClampNeg by have h8 := (hq_nn (z := i113) (by omega)).1; have h7 := (hq_nn (z := y457) (by omega)).1; omega), show (y457 : Int32).toNatClampNeg = 480 + (i113).toNatClampNeg by have h8 := (hq_nn (z := i113) (by omega)).1; have h7 := (hq_nn (z := y457) (by omega)).1; omega]]; rfl)
              have cp518 : hm_Cb 6 ((i113).toNatClampNeg) rh rh477 := by rw [hrh478]; exact hm_Cb.ne hc6_113 (by decide)
              have hd519 : hm_Dr rh rh501 := by rw [hrh502]; exact hd510.put (show (i113 : Int32).toNatClampNeg < 480 by have h8 := (hq_nn (z := i113) (by omega)).1; omega)
              have cp520 : hm_C1 0 (1) rh rh501 := by rw [hrh502]; exact hm_C1.ne cp511 (by decide)
              have cp521 : hm_C1 1 (1) rh rh501 := by rw [hrh502]; exact hm_C1.ne cp512 (by decide)
              have cp522 : hm_C1 2 (1) rh rh501 := by rw [hrh502]; exact hm_C1.ne cp513 (by decide)
              have cp523 : hm_C1 8 (30) rh rh501 := by rw [hrh502]; exact hm_C1.ne cp514 (by decide)
              have cp524 : hm_C1 9 (30) rh rh501 := by rw [hrh502]; exact hm_C1.ne cp515 (by decide)
              have cp525 : hm_Cb 4 (360) rh rh501 := by rw [hrh502]; exact hm_Cb.ne cp516 (by decide)
              have cp526 : hm_Cb 5 ((i113).toNatClampNeg + 1) rh rh501 := by rw [hrh502]; exact hm_Cb.ne cp517 (by decide)
              have cp527 : hm_Cb 6 ((i113).toNatClampNeg + 1) rh rh501 := by rw [hrh502]; exact hm_Cb.put cp518 (show (i113 : Int32).toNatClampNeg = (i113).toNatClampNeg by rfl) (by rw [show y491 = rh 6 (480 + (i113).toNatClampNeg) from by rw [ey492, hrf488, hd510 6 _ (show 480 ≤ (y481 : Int32).toNatClampNeg by have h8 := (hq_nn (z := i113) (by omega)).1; have h7 := (hq_nn (z := y481) (by omega)).1; omega), show (y481 : Int32).toNatClampNeg = 480 + (i113).toNatClampNeg by have h8 := (hq_nn (z := i113) (by omega)).1; have h7 := (hq_nn (z := y481) (by omega)).1; omega]]; rfl)
              have fx528 : V494 (mo) = some (.inr (13, hm_o q (m_tp) (m_sz) (m_fr) (m_bh) (m_hd) (m_ft) (m_fa) (m_le) (m_fo) (m_as) (m_fd) (m_bc) (m_bg) (m_bs) (m_be) (m_b0) (m_b1) (m_cm) (m_hc))) := (o496 (mo) (hq_tne hmo (hr_6 hR) (by simp))).trans (fx480)
              exact ih113 _ (by omega) _ _ _ ls (y504) (rh501) rfl hZ hP fx528 (fun x8 hne0 => (o496 x8 (by omega)).trans ((o472 x8 (by omega)).trans (fr113 x8 hne0))) pk503 (by omega) (by omega) (hd519) (cp520) (cp521) (cp522) (cp523) (cp524) (cp525) (cp526.le (by have h8 := (hq_nn (z := y504) (by omega)).1; have h7 := (hq_nn (z := i113) (by omega)).1; omega)) (cp527.le (by have h8 := (hq_nn (z := y504) (by omega)).1; have h7 := (hq_nn (z := i113) (by omega)).1; omega)) (lv_sub hl [0, 1] rfl)
        · have c78 : ¬ (360 : Int) ≤ (i82).toInt := fun h9 => c78 (hq_lei.mpr h9)
          refine lv_aload_n hx hb dX13_become_89 rfl (lv_at hl 1 rfl) ?_
          refine hp_get (v := .ref (q + 4)) hx hb hts hown hZ ho73 fl_X13_19 rfl dX13_become_90 ?_
          refine lv_iload_n hx hb dX13_become_93 rfl (lv_at hl 0 rfl) ?_
          refine lv_aload_n hx hb dX13_become_94 rfl (lv_at hl 1 rfl) ?_
          refine hp_get (v := .ref (q + 4)) hx hb hts hown hZ ho73 fl_X13_19 rfl dX13_become_95 ?_
          refine lv_sipush (v := 360) hx hb dX13_become_98 (by decide) ?_
          refine lv_iload_n hx hb dX13_become_101 rfl (lv_at hl 0 rfl) ?_
          refine lv_iadd hx hb dX13_become_102 ?_
          refine lv_topi (fun y529 ey530 => ?_)
          obtain ⟨k531, hk532, b533, b534⟩ := hq_add (360) (i82)
          rw [← ey530] at hk532 b533 b534
          have hk532 : (y529).toInt = (360 : Int) + (i82).toInt + k531 * 4294967296 := hk532
          obtain rfl : k531 = 0 := by omega
          obtain ⟨rf535, hrf536⟩ : ∃ f : Nat → Int32, f = rh82x 4 := ⟨_, rfl⟩
          have ea537 : V9 (q + 4) = some (.inl (cs 0, 720, .inl (rf535))) := by rw [hrf536]; exact pk74 4 (by decide)
          refine hp_bald hx hb hZ ea537 (hq_in (by omega) (by omega)) dX13_become_103 ?_
          refine lv_topi (fun y539 ey540 => ?_)
          have b541 := hq_rng y539
          refine hp_bast hx hb hZ ea537 (hq_in (by omega) (by omega)) dX13_become_104 (fun V542 _ _ e543 o544 hZ => ?_)
          have e543 : V542 (q + 4) = some (.inl (cs 0, 720, .inl (upd (rf535) ((i82 : Int32).toNatClampNeg) ((y539 : Int32).toInt8.toInt32)))) := e543
          have hP := hP.put (hr_4 hR) e543 o544 (hq_c20 (by omega)) rfl
          obtain ⟨g545, ge546⟩ : ∃ g9 : Nat → Int32, g9 = upd (rf535) ((i82 : Int32).toNatClampNeg) ((y539 : Int32).toInt8.toInt32) := ⟨_, rfl⟩
          have fx547 : V542 (q + 4) = some (.inl (cs 0, 720, .inl (g545))) := by rw [ge546]; exact e543
          have hf548 := hq_rg20 hP.1 (hr_4 hR) fx547
          obtain ⟨rh549, hrh550⟩ : ∃ r9 : hm_Rh, r9 = hm_u2 rh82x 4 (i82 : Int32).toNatClampNeg ((y539 : Int32).toInt8.toInt32) := ⟨_, rfl⟩
          have pk551 : hm_AR cs V542 q rh549 := by rw [hrh550]; exact pk74.put (a := 4) (by decide) (by rw [ge546, hrf536]) fx547 o544
          obtain ⟨y552, ey553⟩ : ∃ y : Int32, y = i82 + (1) := ⟨_, rfl⟩
          obtain ⟨k554, hk555, b556, b557⟩ := hq_add (i82) (1)
          rw [← ey553] at hk555 b556 b557
          have hk555 : (y552).toInt = (i82).toInt + (1) + k554 * 4294967296 := hk555
          obtain rfl : k554 = 0 := by omega
          refine lv_iinc (v := y552) (lv' := [(1, .int (y552)), (0, .ref (mo))]) hx hb dX13_become_105 hl (k := 0) rfl (by rw [ey553]; rfl) (by decide) rfl (fun ls hl => ?_)
          refine lv_goto (tgt := 82) hx hb dX13_become_108 (by decide) ?_
          have hd558 : hm_Dr rh rh549 := by rw [hrh550]; exact hdr82.put (show (i82 : Int32).toNatClampNeg < 360 by have h8 := (hq_nn (z := i82) (by omega)).1; omega)
          have cp559 : hm_C1 0 (1) rh rh549 := by rw [hrh550]; exact hm_C1.ne hc0_82 (by decide)
          have cp560 : hm_C1 1 (1) rh rh549 := by rw [hrh550]; exact hm_C1.ne hc1_82 (by decide)
          have cp561 : hm_C1 2 (1) rh rh549 := by rw [hrh550]; exact hm_C1.ne hc2_82 (by decide)
          have cp562 : hm_C1 8 (30) rh rh549 := by rw [hrh550]; exact hm_C1.ne hc8_82 (by decide)
          have cp563 : hm_C1 9 (30) rh rh549 := by rw [hrh550]; exact hm_C1.ne hc9_82 (by decide)
          have cp564 : hm_Cb 4 ((i82).toNatClampNeg + 1) rh rh549 := by rw [hrh550]; exact hm_Cb.put hc4_82 (show (i82 : Int32).toNatClampNeg = (i82).toNatClampNeg by rfl) (by rw [show y539 = rh 4 (360 + (i82).toNatClampNeg) from by rw [ey540, hrf536, hdr82 4 _ (show 360 ≤ (y529 : Int32).toNatClampNeg by have h8 := (hq_nn (z := i82) (by omega)).1; have h7 := (hq_nn (z := y529) (by omega)).1; omega), show (y529 : Int32).toNatClampNeg = 360 + (i82).toNatClampNeg by have h8 := (hq_nn (z := i82) (by omega)).1; have h7 := (hq_nn (z := y529) (by omega)).1; omega]]; rfl)
          have fx565 : V542 (mo) = some (.inr (13, hm_o q (m_tp) (m_sz) (m_fr) (m_bh) (m_hd) (m_ft) (m_fa) (m_le) (m_fo) (m_as) (m_fd) (m_bc) (m_bg) (m_bs) (m_be) (m_b0) (m_b1) (m_cm) (m_hc))) := (o544 (mo) (hq_tne hmo (hr_4 hR) (by simp))).trans (ho73)
          exact ih82 _ (by omega) _ _ _ ls (y552) (rh549) rfl hZ hP fx565 (fun x8 hne0 => (o544 x8 (by omega)).trans (fr82 x8 hne0)) pk551 (by omega) (by omega) (hd558) (cp559) (cp560) (cp561) (cp562) (cp563) (cp564.le (by have h8 := (hq_nn (z := y552) (by omega)).1; have h7 := (hq_nn (z := i82) (by omega)).1; omega)) (lv_sub hl [0, 1] rfl)
    · have c72 : ¬ (30 : Int) ≤ (i38).toInt := fun h9 => c72 (hq_lei.mpr h9)
      refine lv_aload_n hx hb dX13_become_44 rfl (lv_at hl 1 rfl) ?_
      refine hp_get (v := .ref (q + 8)) hx hb hts hown hZ ho67 fl_X13_13 rfl dX13_become_45 ?_
      refine lv_iload_n hx hb dX13_become_48 rfl (lv_at hl 0 rfl) ?_
      refine lv_aload_n hx hb dX13_become_49 rfl (lv_at hl 1 rfl) ?_
      refine hp_get (v := .ref (q + 8)) hx hb hts hown hZ ho67 fl_X13_13 rfl dX13_become_50 ?_
      refine lv_bipush (v := 30) hx hb dX13_become_53 (by decide) ?_
      refine lv_iload_n hx hb dX13_become_55 rfl (lv_at hl 0 rfl) ?_
      refine lv_iadd hx hb dX13_become_56 ?_
      refine lv_topi (fun y566 ey567 => ?_)
      obtain ⟨k568, hk569, b570, b571⟩ := hq_add (30) (i38)
      rw [← ey567] at hk569 b570 b571
      have hk569 : (y566).toInt = (30 : Int) + (i38).toInt + k568 * 4294967296 := hk569
      obtain rfl : k568 = 0 := by omega
      obtain ⟨rf572, hrf573⟩ : ∃ f : Nat → Int32, f = rh38x 8 := ⟨_, rfl⟩
      have ea574 : V9 (q + 8) = some (.inl (cs 1, 60, .inl (rf572))) := by rw [hrf573]; exact pk68 8 (by decide)
      have hra575 := hq_rg hP.1 (hr_8 hR) ea574
      refine hp_iald hx hb hZ ea574 (hq_in (by omega) (by omega)) dX13_become_57 ?_
      refine lv_topi (fun y576 ey577 => ?_)
      have b578 : hq_ir (hq_lo 2) (hq_hi 2) y576 := by rw [ey577]; exact hra575 _ (hq_ix (by omega) (by omega))
      have b578 : 0 ≤ (y576).toInt ∧ (y576).toInt ≤ 12 := b578
      refine hp_iast hx hb hZ ea574 (hq_in (by omega) (by omega)) dX13_become_58 (fun V579 _ _ e580 o581 hZ => ?_)
      have e580 : V579 (q + 8) = some (.inl (cs 1, 60, .inl (upd (rf572) ((i38 : Int32).toNatClampNeg) (y576)))) := e580
      have hP := hP.put (hr_8 hR) e580 o581 (hq_c21 (by omega) (hq_upd hra575 (show 0 ≤ _ ∧ _ ≤ 12 by constructor <;> omega))) rfl
      obtain ⟨g582, ge583⟩ : ∃ g9 : Nat → Int32, g9 = upd (rf572) ((i38 : Int32).toNatClampNeg) (y576) := ⟨_, rfl⟩
      have fx584 : V579 (q + 8) = some (.inl (cs 1, 60, .inl (g582))) := by rw [ge583]; exact e580
      have hf585 := hq_rg hP.1 (hr_8 hR) fx584
      obtain ⟨rh586, hrh587⟩ : ∃ r9 : hm_Rh, r9 = hm_u2 rh38x 8 (i38 : Int32).toNatClampNeg ((y576 : Int32)) := ⟨_, rfl⟩
      have pk588 : hm_AR cs V579 q rh586 := by rw [hrh587]; exact pk68.put (a := 8) (by decide) (by rw [ge583, hrf573]) fx584 o581
      refine lv_aload_n hx hb dX13_become_59 rfl (lv_at hl 1 rfl) ?_
      have fx589 : V579 (mo) = some (.inr (13, hm_o q (m_tp) (m_sz) (m_fr) (m_bh) (m_hd) (m_ft) (m_fa) (m_le) (m_fo) (m_as) (m_fd) (m_bc) (m_bg) (m_bs) (m_be) (m_b0) (m_b1) (m_cm) (m_hc))) := (o581 (mo) (hq_tne hmo (hr_8 hR) (by simp))).trans (ho67)
      refine hp_get (v := .ref (q + 9)) hx hb hts hown hZ fx589 fl_X13_16 rfl dX13_become_60 ?_
      refine lv_iload_n hx hb dX13_become_63 rfl (lv_at hl 0 rfl) ?_
      refine lv_aload_n hx hb dX13_become_64 rfl (lv_at hl 1 rfl) ?_
      refine hp_get (v := .ref (q + 9)) hx hb hts hown hZ fx589 fl_X13_16 rfl dX13_become_65 ?_
      refine lv_bipush (v := 30) hx hb dX13_become_68 (by decide) ?_
      refine lv_iload_n hx hb dX13_become_70 rfl (lv_at hl 0 rfl) ?_
      refine lv_iadd hx hb dX13_become_71 ?_
      refine lv_topi (fun y590 ey591 => ?_)
      obtain ⟨k592, hk593, b594, b595⟩ := hq_add (30) (i38)
      rw [← ey591] at hk593 b594 b595
      have hk593 : (y590).toInt = (30 : Int) + (i38).toInt + k592 * 4294967296 := hk593
      obtain rfl : k592 = 0 := by omega
      obtain ⟨rf596, hrf597⟩ : ∃ f : Nat → Int32, f = rh586 9 := ⟨_, rfl⟩
      have ea598 : V579 (q + 9) = some (.inl (cs 1, 60, .inl (rf596))) := by rw [hrf597]; exact pk588 9 (by decide)
      have hra599 := hq_rg hP.1 (hr_9 hR) ea598
      refine hp_iald hx hb hZ ea598 (hq_in (by omega) (by omega)) dX13_become_72 ?_
      refine lv_topi (fun y600 ey601 => ?_)
      have b602 := hq_rng y600
      refine hp_iast hx hb hZ ea598 (hq_in (by omega) (by omega)) dX13_become_73 (fun V603 _ _ e604 o605 hZ => ?_)
      have e604 : V603 (q + 9) = some (.inl (cs 1, 60, .inl (upd (rf596) ((i38 : Int32).toNatClampNeg) (y600)))) := e604
      have hP := hP.put (hr_9 hR) e604 o605 (hq_c21 (by omega) (hq_upd hra599 (hq_rng _))) rfl
      obtain ⟨g606, ge607⟩ : ∃ g9 : Nat → Int32, g9 = upd (rf596) ((i38 : Int32).toNatClampNeg) (y600) := ⟨_, rfl⟩
      have fx608 : V603 (q + 9) = some (.inl (cs 1, 60, .inl (g606))) := by rw [ge607]; exact e604
      have hf609 := hq_rg hP.1 (hr_9 hR) fx608
      obtain ⟨rh610, hrh611⟩ : ∃ r9 : hm_Rh, r9 = hm_u2 rh586 9 (i38 : Int32).toNatClampNeg ((y600 : Int32)) := ⟨_, rfl⟩
      have pk612 : hm_AR cs V603 q rh610 := by rw [hrh611]; exact pk588.put (a := 9) (by decide) (by rw [ge607, hrf597]) fx608 o605
      obtain ⟨y613, ey614⟩ : ∃ y : Int32, y = i38 + (1) := ⟨_, rfl⟩
      obtain ⟨k615, hk616, b617, b618⟩ := hq_add (i38) (1)
      rw [← ey614] at hk616 b617 b618
      have hk616 : (y613).toInt = (i38).toInt + (1) + k615 * 4294967296 := hk616
      obtain rfl : k615 = 0 := by omega
      refine lv_iinc (v := y613) (lv' := [(1, .int (y613)), (0, .ref (mo))]) hx hb dX13_become_74 hl (k := 0) rfl (by rw [ey614]; rfl) (by decide) rfl (fun ls hl => ?_)
      refine lv_goto (tgt := 38) hx hb dX13_become_77 (by decide) ?_
      have hd619 : hm_Dr rh rh586 := by rw [hrh587]; exact hdr38.put (show (i38 : Int32).toNatClampNeg < 30 by have h8 := (hq_nn (z := i38) (by omega)).1; omega)
      have cp620 : hm_C1 0 (1) rh rh586 := by rw [hrh587]; exact hm_C1.ne hc0_38 (by decide)
      have cp621 : hm_C1 1 (1) rh rh586 := by rw [hrh587]; exact hm_C1.ne hc1_38 (by decide)
      have cp622 : hm_C1 2 (1) rh rh586 := by rw [hrh587]; exact hm_C1.ne hc2_38 (by decide)
      have cp623 : hm_C1 8 ((i38).toNatClampNeg + 1) rh rh586 := by rw [hrh587]; exact hm_C1.put hc8_38 (show (i38 : Int32).toNatClampNeg = (i38).toNatClampNeg by rfl) (show y576 = rh 8 (30 + (i38).toNatClampNeg) from by rw [ey577, hrf573, hdr38 8 _ (show 30 ≤ (y566 : Int32).toNatClampNeg by have h8 := (hq_nn (z := i38) (by omega)).1; have h7 := (hq_nn (z := y566) (by omega)).1; omega), show (y566 : Int32).toNatClampNeg = 30 + (i38).toNatClampNeg by have h8 := (hq_nn (z := i38) (by omega)).1; have h7 := (hq_nn (z := y566) (by omega)).1; omega])
      have cp624 : hm_C1 9 ((i38).toNatClampNeg) rh rh586 := by rw [hrh587]; exact hm_C1.ne hc9_38 (by decide)
      have hd625 : hm_Dr rh rh610 := by rw [hrh611]; exact hd619.put (show (i38 : Int32).toNatClampNeg < 30 by have h8 := (hq_nn (z := i38) (by omega)).1; omega)
      have cp626 : hm_C1 0 (1) rh rh610 := by rw [hrh611]; exact hm_C1.ne cp620 (by decide)
      have cp627 : hm_C1 1 (1) rh rh610 := by rw [hrh611]; exact hm_C1.ne cp621 (by decide)
      have cp628 : hm_C1 2 (1) rh rh610 := by rw [hrh611]; exact hm_C1.ne cp622 (by decide)
      have cp629 : hm_C1 8 ((i38).toNatClampNeg + 1) rh rh610 := by rw [hrh611]; exact hm_C1.ne cp623 (by decide)
      have cp630 : hm_C1 9 ((i38).toNatClampNeg + 1) rh rh610 := by rw [hrh611]; exact hm_C1.put cp624 (show (i38 : Int32).toNatClampNeg = (i38).toNatClampNeg by rfl) (show y600 = rh 9 (30 + (i38).toNatClampNeg) from by rw [ey601, hrf597, hd619 9 _ (show 30 ≤ (y590 : Int32).toNatClampNeg by have h8 := (hq_nn (z := i38) (by omega)).1; have h7 := (hq_nn (z := y590) (by omega)).1; omega), show (y590 : Int32).toNatClampNeg = 30 + (i38).toNatClampNeg by have h8 := (hq_nn (z := i38) (by omega)).1; have h7 := (hq_nn (z := y590) (by omega)).1; omega])
      have fx631 : V603 (mo) = some (.inr (13, hm_o q (m_tp) (m_sz) (m_fr) (m_bh) (m_hd) (m_ft) (m_fa) (m_le) (m_fo) (m_as) (m_fd) (m_bc) (m_bg) (m_bs) (m_be) (m_b0) (m_b1) (m_cm) (m_hc))) := (o605 (mo) (hq_tne hmo (hr_9 hR) (by simp))).trans (fx589)
      exact ih38 _ (by omega) _ _ _ ls (y613) (rh610) rfl hZ hP fx631 (fun x8 hne0 => (o605 x8 (by omega)).trans ((o581 x8 (by omega)).trans (fr38 x8 hne0))) pk612 (by omega) (by omega) (hd625) (cp626) (cp627) (cp628) (cp629.le (by have h8 := (hq_nn (z := y613) (by omega)).1; have h7 := (hq_nn (z := i38) (by omega)).1; omega)) (cp630.le (by have h8 := (hq_nn (z := y613) (by omega)).1; have h7 := (hq_nn (z := i38) (by omega)).1; omega)) (lv_sub hl [0, 1] rfl)

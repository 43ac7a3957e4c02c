set_option maxHeartbeats 4000000 in
set_option maxRecDepth 100000 in
theorem y_soundN (l : Launch) (D : va_G) (cs : Nat → ClassId) (B : Nat) (G : hq_G) (V : hp_V) (n : Nat) (hI : hq_I cs G V) (q : Nat) (mo : Nat) (rh : hm_Rh) (m_tp : Int32) (m_sz : Int32) (m_fr : Int32) (m_bh : Int32) (m_hd : Int32) (m_ft : Int32) (m_fa : Int32) (m_le : Int32) (m_fo : Int32) (m_as : Int32) (m_fd : Int32) (m_bc : Int32) (m_bg : Int32) (m_bs : Int32) (m_be : Int32) (m_b0 : Int32) (m_b1 : Int32) (m_cm : Int32) (m_hc : Int32) (k : Int32) (wf : Nat → Int32) (sf : Nat → Int32) (bf : Nat → Int32) (df : Nat → Int32) (u : List Int) (F : List Int) (S : List Int) (hc0 : V (mo) = some (.inr (13, hm_o q (m_tp) (m_sz) (m_fr) (m_bh) (m_hd) (m_ft) (m_fa) (m_le) (m_fo) (m_as) (m_fd) (m_bc) (m_bg) (m_bs) (m_be) (m_b0) (m_b1) (m_cm) (m_hc)))) (hc1 : V (q + 21) = some (.inl (cs 0, 276, .inl (wf)))) (hc2 : V (q + 22) = some (.inl (cs 0, 276, .inl (sf)))) (hc3 : V (q + 24) = some (.inl (cs 0, 30, .inl (bf)))) (hc4 : V (q + 23) = some (.inl (cs 3, 60, .inl (df)))) (hp0 : hm_AR cs V q rh) (hR : hq_RT G q) (hmo : G mo = some (24, 0, 0, 0)) (hmq : mo < q) (hu : sp_rp m_le wf u) (hul : u.length ≤ 30) (hFT : hm_FT rh 14 5 (k).toNatClampNeg F) (hST : hm_FT rh 15 6 (k).toNatClampNeg S) (hn : 0 < F.length) (hub : sp_b8 u) (hSb : sp_b8 S) (hhe : ¬ (rh 16 (k).toNatClampNeg).toInt = 1) (hk : 0 ≤ k.toInt ∧ k.toInt < 60) : hp_M l yX13_sound cX13_sound 5 none ({ frames := 2, cells := 0, slots := 0, locals := 45 }) D cs B V n [.ref (mo), .int (k)] (hp_QV D cs B (fun V' n' => n = n' ∧ hq_P cs G (fun _ => true) V V' ∧ (∀ x, x ≠ mo → x ≠ q + 21 → x ≠ q + 22 → x ≠ q + 24 → x ≠ q + 23 → V' x = V x) ∧ (∃ m_le1 : Int32, ∃ wf1 : Nat → Int32, ∃ sf1 : Nat → Int32, ∃ bf1 : Nat → Int32, ∃ df1 : Nat → Int32, V' (mo) = some (.inr (13, hm_o q (m_tp) (m_sz) (m_fr) (m_bh) (m_hd) (m_ft) (m_fa) (m_le1) (m_fo) (m_as) (m_fd) (m_bc) (m_bg) (m_bs) (m_be) (m_b0) (m_b1) (m_cm) (m_hc))) ∧ V' (q + 21) = some (.inl (cs 0, 276, .inl (wf1))) ∧ V' (q + 22) = some (.inl (cs 0, 276, .inl (sf1))) ∧ V' (q + 24) = some (.inl (cs 0, 30, .inl (bf1))) ∧ V' (q + 23) = some (.inl (cs 3, 60, .inl (df1))) ∧ (sp_rp m_le1 wf1 (sp_snd F S u 0)) ∧ (sp_b8 (sp_snd F S u 0)) ∧ (0 ≤ m_le1.toInt ∧ m_le1.toInt ≤ 276)))) 0 0 := by
  refine hp_walk (R0 := RX13) (by decide) rfl ?_ (Nat.le_of_ble_eq_true rfl)
  intro p e s m below meth c ls hx hb hr hts hown hlocks hin hml hZ hl
  have hP : hq_P cs G (fun _ => true) V V := hq_P.rf hI
  have hl : lv_has ls 5 [(0, .ref (mo)), (1, .int (k))] := hl
  have hb_m_tp := hq_rng m_tp
  have hb_m_sz := hq_rng m_sz
  have hb_m_fr := hq_rng m_fr
  have hb_m_bh := hq_rng m_bh
  have hb_m_hd := hq_rng m_hd
  have hb_m_ft := hq_rng m_ft
  have hb_m_fa := hq_rng m_fa
  have hb_m_le := hq_rng m_le
  have hb_m_fo := hq_rng m_fo
  have hb_m_as := hq_rng m_as
  have hb_m_fd := hq_rng m_fd
  have hb_m_bc := hq_rng m_bc
  have hb_m_bg := hq_rng m_bg
  have hb_m_bs := hq_rng m_bs
  have hb_m_be := hq_rng m_be
  have hb_m_b0 := hq_rng m_b0
  have hb_m_b1 := hq_rng m_b1
  have hb_m_cm := hq_rng m_cm
  have hb_m_hc := hq_rng m_hc
  have hb_k := hq_rng k
  have hH0 : hm_H rh rh := hm_H.rf
  have hu1 := hu.1
  have hL1 := hFT.1
  have hL2 := hFT.2.1
  have hS1 := hST.1
  have hS2 := hST.2.1
  refine lv_aload_n hx hb dX13_sound_0 rfl (lv_at hl 0 rfl) ?_
  refine hp_get (v := .int (m_le)) hx hb hts hown hZ hc0 fl_X13_331 rfl dX13_sound_1 ?_
  refine lv_istore_n (lv' := [(2, .int (m_le)), (0, .ref (mo)), (1, .int (k))]) hx hb dX13_sound_4 rfl hl (by decide) rfl (fun ls hl => ?_)
  refine lv_iconst (v := 0) hx hb dX13_sound_5 (by decide) ?_
  refine lv_istore_n (lv' := [(3, .int (0)), (2, .int (m_le)), (0, .ref (mo)), (1, .int (k))]) hx hb dX13_sound_6 rfl hl (by decide) rfl (fun ls hl => ?_)
  have hl7 : (0 : Int32).toInt = 0 := by decide
  suffices lp7 : ∀ (k9 : Nat) (V9 : hp_V) (H9 : Heap) (locs9 : List Loc) (ls : Array Slot) (i7 : Int32) (bf9 : Nat → Int32), (100 - i7.toInt).toNat = k9 → hp_Z D cs B s V9 H9 n locs9 → hq_P cs G (fun _ => true) V V9 → V9 (mo) = some (.inr (13, hm_o q (m_tp) (m_sz) (m_fr) (m_bh) (m_hd) (m_ft) (m_fa) (m_le) (m_fo) (m_as) (m_fd) (m_bc) (m_bg) (m_bs) (m_be) (m_b0) (m_b1) (m_cm) (m_hc))) → V9 (q + 21) = some (.inl (cs 0, 276, .inl (wf))) → V9 (q + 22) = some (.inl (cs 0, 276, .inl (sf))) → V9 (q + 24) = some (.inl (cs 0, 30, .inl (bf9))) → V9 (q + 23) = some (.inl (cs 3, 60, .inl (df))) → (∀ x, x ≠ mo → x ≠ q + 21 → x ≠ q + 22 → x ≠ q + 24 → x ≠ q + 23 → V9 x = V x) → hm_AR cs V9 q rh → 0 ≤ i7.toInt → i7.toInt ≤ 30 → lv_has ls 5 [(3, .int (i7)), (2, .int (m_le)), (0, .ref (mo)), (1, .int (k))] → W p l e ({ frames := 2, cells := 0, slots := 0, locals := 45 }) s m ([.ref (mo), .int (k)] : List Value).toArray below meth c H9 locs9 0 0 (MQ below (hp_QV D cs B (fun V' n' => n = n' ∧ hq_P cs G (fun _ => true) V V' ∧ (∀ x, x ≠ mo → x ≠ q + 21 → x ≠ q + 22 → x ≠ q + 24 → x ≠ q + 23 → V' x = V x) ∧ (∃ m_le1 : Int32, ∃ wf1 : Nat → Int32, ∃ sf1 : Nat → Int32, ∃ bf1 : Nat → Int32, ∃ df1 : Nat → Int32, V' (mo) = some (.inr (13, hm_o q (m_tp) (m_sz) (m_fr) (m_bh) (m_hd) (m_ft) (m_fa) (m_le1) (m_fo) (m_as) (m_fd) (m_bc) (m_bg) (m_bs) (m_be) (m_b0) (m_b1) (m_cm) (m_hc))) ∧ V' (q + 21) = some (.inl (cs 0, 276, .inl (wf1))) ∧ V' (q + 22) = some (.inl (cs 0, 276, .inl (sf1))) ∧ V' (q + 24) = some (.inl (cs 0, 30, .inl (bf1))) ∧ V' (q + 23) = some (.inl (cs 3, 60, .inl (df1))) ∧ (sp_rp m_le1 wf1 (sp_snd F S u 0)) ∧ (sp_b8 (sp_snd F S u 0)) ∧ (0 ≤ m_le1.toInt ∧ m_le1.toInt ≤ 276)))) ([.ref (mo), .int (k)] : List Value).toArray s 0 0 (hp_F B)) (F0 m 7 ls []) from lp7 _ _ _ _ ls (0) (bf) rfl hZ hP hc0 hc1 hc2 hc3 hc4 (fun x8 hne0 hne1 hne2 hne3 hne4 => rfl) hp0 (by omega) (by omega) (lv_sub hl [0, 1, 2, 3] rfl)
  intro k9
  induction k9 using Nat.strongRecOn with
  | _ k9 ih7 =>
    intro V9 H9 locs9 ls i7  bf9 hk7 hZ hP ho1 ho2 ho3 ho4 ho5 fr7 pk6 hv8 hv9 hl
    have hb_i7 := hq_rng i7
    have hf10 := hq_rg20 hP.1 (hr_21 hR) ho2
    have hf11 := hq_rg20 hP.1 (hr_22 hR) ho3
    have hf12 := hq_rg20 hP.1 (hr_24 hR) ho4
    refine lv_iload_n hx hb dX13_sound_7 rfl (lv_at hl 0 rfl) ?_
    refine lv_iload_n hx hb dX13_sound_8 rfl (lv_at hl 1 rfl) ?_
    refine lv_icmp_ge (tgt := 30) hx hb dX13_sound_9 (by decide) (fun c13 => ?_) (fun c13 => ?_)
    · have c13 : (m_le).toInt ≤ (i7).toInt := hq_lei.mp c13
      refine lv_aload_n hx hb dX13_sound_30 rfl (lv_at hl 2 rfl) ?_
      refine hp_get (v := .ref (q + 16)) hx hb hts hown hZ ho1 fl_X13_47 rfl dX13_sound_31 ?_
      refine lv_iload_n hx hb dX13_sound_34 rfl (lv_at hl 3 rfl) ?_
      obtain ⟨rf14, hrf15⟩ : ∃ f : Nat → Int32, f = rh 16 := ⟨_, rfl⟩
      have ea16 : V9 (q + 16) = some (.inl (cs 1, 120, .inl (rf14))) := by rw [hrf15]; exact pk6 16 (by decide)
      have hra17 := hq_rg hP.1 (hr_16 hR) ea16
      refine hp_iald hx hb hZ ea16 (hq_in (by omega) (by omega)) dX13_sound_35 ?_
      refine lv_topi (fun y18 ey19 => ?_)
      have b20 : hq_ir (hq_lo 3) (hq_hi 3) y18 := by rw [ey19]; exact hra17 _ (hq_ix (by omega) (by omega))
      have b20 : 0 ≤ (y18).toInt ∧ (y18).toInt ≤ 29 := b20
      have b21 : (y18).toInt = (rh 16 (k).toNatClampNeg).toInt := by rw [ey19, hrf15]
      refine lv_iconst (v := 1) hx hb dX13_sound_36 (by decide) ?_
      have hl22 : (1 : Int32).toInt = 1 := by decide
      refine lv_icmp_ne (tgt := 78) hx hb dX13_sound_37 (by decide) (fun c23 => ?_) (fun c23 => absurd c23 ((fun h9 => absurd (congrArg Int32.toInt h9) (by omega) : ¬ y18 = 1)))
      refine lv_iconst (v := 0) hx hb dX13_sound_78 (by decide) ?_
      refine lv_istore_n (lv' := [(3, .int (0)), (2, .int (m_le)), (0, .ref (mo)), (1, .int (k))]) hx hb dX13_sound_79 rfl hl (by decide) rfl (fun ls hl => ?_)
      have hl30 : (0 : Int32).toInt = 0 := by decide
      suffices lp80 : ∀ (k9 : Nat) (V9 : hp_V) (H9 : Heap) (locs9 : List Loc) (ls : Array Slot) (i80 : Int32) (cu : List Int) (le9 : Int32) (wf9 : Nat → Int32) (sf9 : Nat → Int32), (((cu.length : Int) - i80.toInt)).toNat = k9 → hp_Z D cs B s V9 H9 n locs9 → hq_P cs G (fun _ => true) V V9 → V9 (mo) = some (.inr (13, hm_o q (m_tp) (m_sz) (m_fr) (m_bh) (m_hd) (m_ft) (m_fa) (le9) (m_fo) (m_as) (m_fd) (m_bc) (m_bg) (m_bs) (m_be) (m_b0) (m_b1) (m_cm) (m_hc))) → V9 (q + 21) = some (.inl (cs 0, 276, .inl (wf9))) → V9 (q + 22) = some (.inl (cs 0, 276, .inl (sf9))) → V9 (q + 24) = some (.inl (cs 0, 30, .inl (bf9))) → V9 (q + 23) = some (.inl (cs 3, 60, .inl (df))) → (∀ x, x ≠ mo → x ≠ q + 21 → x ≠ q + 22 → x ≠ q + 24 → x ≠ q + 23 → V9 x = V x) → hm_AR cs V9 q rh → (sp_rs F S u cu i80.toInt) → (sp_rp le9 wf9 cu) → (sp_b8 cu) → (cu.length : Int) + 7 * ((cu.length : Int) - i80.toInt) ≤ 240 → lv_has ls 5 [(3, .int (i80)), (2, .int (m_le)), (0, .ref (mo)), (1, .int (k))] → W p l e ({ frames := 2, cells := 0, slots := 0, locals := 45 }) s m ([.ref (mo), .int (k)] : List Value).toArray below meth c H9 locs9 0 0 (MQ below (hp_QV D cs B (fun V' n' => n = n' ∧ hq_P cs G (fun _ => true) V V' ∧ (∀ x, x ≠ mo → x ≠ q + 21 → x ≠ q + 22 → x ≠ q + 24 → x ≠ q + 23 → V' x = V x) ∧ (∃ m_le1 : Int32, ∃ wf1 : Nat → Int32, ∃ sf1 : Nat → Int32, ∃ bf1 : Nat → Int32, ∃ df1 : Nat → Int32, V' (mo) = some (.inr (13, hm_o q (m_tp) (m_sz) (m_fr) (m_bh) (m_hd) (m_ft) (m_fa) (m_le1) (m_fo) (m_as) (m_fd) (m_bc) (m_bg) (m_bs) (m_be) (m_b0) (m_b1) (m_cm) (m_hc))) ∧ V' (q + 21) = some (.inl (cs 0, 276, .inl (wf1))) ∧ V' (q + 22) = some (.inl (cs 0, 276, .inl (sf1))) ∧ V' (q + 24) = some (.inl (cs 0, 30, .inl (bf1))) ∧ V' (q + 23) = some (.inl (cs 3, 60, .inl (df1))) ∧ (sp_rp m_le1 wf1 (sp_snd F S u 0)) ∧ (sp_b8 (sp_snd F S u 0)) ∧ (0 ≤ m_le1.toInt ∧ m_le1.toInt ≤ 276)))) ([.ref (mo), .int (k)] : List Value).toArray s 0 0 (hp_F B)) (F0 m 80 ls []) from lp80 _ _ _ _ ls (0) (u) (m_le) (wf) (sf) rfl hZ hP ho1 ho2 ho3 ho4 ho5 (fun x8 hne0 hne1 hne2 hne3 hne4 => fr7 x8 hne0 hne1 hne2 hne3 hne4) pk6 (sp_rs.rf) (hu) (hub) (by omega) (lv_sub hl [0, 1, 2, 3] rfl)
      intro k9
      induction k9 using Nat.strongRecOn with
      | _ k9 ih80 =>
        intro V9 H9 locs9 ls i80 cu le9 wf9 sf9 hk80 hZ hP ho24 ho25 ho26 ho27 ho28 fr80 pk29 hrs hcu0 hcb0 hv31 hl
        have hb_i80 := hq_rng i80
        have hb_le9 := hq_rng le9
        have hf32 := hq_rg20 hP.1 (hr_21 hR) ho25
        have hf33 := hq_rg20 hP.1 (hr_22 hR) ho26
        have hf34 := hq_rg20 hP.1 (hr_24 hR) ho27
        have hcu01 := hcu0.1
        have hrl := hrs.le
        refine lv_iload_n hx hb dX13_sound_80 rfl (lv_at hl 0 rfl) ?_
        refine lv_aload_n hx hb dX13_sound_81 rfl (lv_at hl 2 rfl) ?_
        refine hp_get (v := .int (le9)) hx hb hts hown hZ ho24 fl_X13_331 rfl dX13_sound_82 ?_
        refine lv_icmp_ge (tgt := 121) hx hb dX13_sound_85 (by decide) (fun c35 => ?_) (fun c35 => ?_)
        · have c35 : (le9).toInt ≤ (i80).toInt := hq_lei.mp c35
          have hfin := hrs.fin (by omega)
          refine lv_iload_n hx hb dX13_sound_121 rfl (lv_at hl 1 rfl) ?_
          refine lv_aload_n hx hb dX13_sound_122 rfl (lv_at hl 2 rfl) ?_
          refine hp_get (v := .int (le9)) hx hb hts hown hZ ho24 fl_X13_331 rfl dX13_sound_123 ?_
          refine lv_icmp_ne (tgt := 133) hx hb dX13_sound_126 (by decide) (fun c36 => ?_) (fun c36 => ?_)
          · have c36 : ¬ (m_le).toInt = (le9).toInt := fun h9 => c36 (hq_eqi.mpr h9)
            refine lv_iconst (v := 0) hx hb dX13_sound_133 (by decide) ?_
            refine lv_istore_n (lv' := [(3, .int (0)), (2, .int (m_le)), (0, .ref (mo)), (1, .int (k))]) hx hb dX13_sound_134 rfl hl (by decide) rfl (fun ls hl => ?_)
            refine lv_iconst (v := 0) hx hb dX13_sound_135 (by decide) ?_
            refine lv_istore (lv' := [(4, .int (0)), (3, .int (0)), (2, .int (m_le)), (0, .ref (mo)), (1, .int (k))]) hx hb dX13_sound_136 hl (by decide) rfl (fun ls hl => ?_)
            have hl43 : (0 : Int32).toInt = 0 := by decide
            have hl44 : (0 : Int32).toInt = 0 := by decide
            suffices lp138 : ∀ (k9 : Nat) (V9 : hp_V) (H9 : Heap) (locs9 : List Loc) (ls : Array Slot) (sa9 : Int32) (i138 : Int32), (100 - i138.toInt).toNat = k9 → hp_Z D cs B s V9 H9 n locs9 → hq_P cs G (fun _ => true) V V9 → V9 (mo) = some (.inr (13, hm_o q (m_tp) (m_sz) (m_fr) (m_bh) (m_hd) (m_ft) (m_fa) (le9) (m_fo) (m_as) (m_fd) (m_bc) (m_bg) (m_bs) (m_be) (m_b0) (m_b1) (m_cm) (m_hc))) → V9 (q + 21) = some (.inl (cs 0, 276, .inl (wf9))) → V9 (q + 22) = some (.inl (cs 0, 276, .inl (sf9))) → V9 (q + 24) = some (.inl (cs 0, 30, .inl (bf9))) → V9 (q + 23) = some (.inl (cs 3, 60, .inl (df))) → (∀ x, x ≠ mo → x ≠ q + 21 → x ≠ q + 22 → x ≠ q + 24 → x ≠ q + 23 → V9 x = V x) → hm_AR cs V9 q rh → 0 ≤ i138.toInt → i138.toInt ≤ 30 → 0 ≤ sa9.toInt ∧ sa9.toInt ≤ 1 → lv_has ls 5 [(4, .int (i138)), (3, .int (sa9)), (2, .int (m_le)), (0, .ref (mo)), (1, .int (k))] → W p l e ({ frames := 2, cells := 0, slots := 0, locals := 45 }) s m ([.ref (mo), .int (k)] : List Value).toArray below meth c H9 locs9 0 0 (MQ below (hp_QV D cs B (fun V' n' => n = n' ∧ hq_P cs G (fun _ => true) V V' ∧ (∀ x, x ≠ mo → x ≠ q + 21 → x ≠ q + 22 → x ≠ q + 24 → x ≠ q + 23 → V' x = V x) ∧ (∃ m_le1 : Int32, ∃ wf1 : Nat → Int32, ∃ sf1 : Nat → Int32, ∃ bf1 : Nat → Int32, ∃ df1 : Nat → Int32, V' (mo) = some (.inr (13, hm_o q (m_tp) (m_sz) (m_fr) (m_bh) (m_hd) (m_ft) (m_fa) (m_le1) (m_fo) (m_as) (m_fd) (m_bc) (m_bg) (m_bs) (m_be) (m_b0) (m_b1) (m_cm) (m_hc))) ∧ V' (q + 21) = some (.inl (cs 0, 276, .inl (wf1))) ∧ V' (q + 22) = some (.inl (cs 0, 276, .inl (sf1))) ∧ V' (q + 24) = some (.inl (cs 0, 30, .inl (bf1))) ∧ V' (q + 23) = some (.inl (cs 3, 60, .inl (df1))) ∧ (sp_rp m_le1 wf1 (sp_snd F S u 0)) ∧ (sp_b8 (sp_snd F S u 0)) ∧ (0 ≤ m_le1.toInt ∧ m_le1.toInt ≤ 276)))) ([.ref (mo), .int (k)] : List Value).toArray s 0 0 (hp_F B)) (F0 m 138 ls []) from lp138 _ _ _ _ ls (0) (0) rfl hZ hP ho24 ho25 ho26 ho27 ho28 (fun x8 hne0 hne1 hne2 hne3 hne4 => fr80 x8 hne0 hne1 hne2 hne3 hne4) pk29 (by omega) (by omega) (by omega) (lv_sub hl [0, 1, 2, 3, 4] rfl)
            intro k9
            induction k9 using Nat.strongRecOn with
            | _ k9 ih138 =>
              intro V9 H9 locs9 ls sa9 i138   hk138 hZ hP ho37 ho38 ho39 ho40 ho41 fr138 pk42 hv45 hv46 hv47 hl
              have hb_sa9 := hq_rng sa9
              have hb_i138 := hq_rng i138
              have hf48 := hq_rg20 hP.1 (hr_21 hR) ho38
              have hf49 := hq_rg20 hP.1 (hr_22 hR) ho39
              have hf50 := hq_rg20 hP.1 (hr_24 hR) ho40
              refine lv_iload hx hb dX13_sound_138 (lv_at hl 0 rfl) ?_
              refine lv_iload_n hx hb dX13_sound_140 rfl (lv_at hl 2 rfl) ?_
              refine lv_icmp_ge (tgt := 177) hx hb dX13_sound_141 (by decide) (fun c51 => ?_) (fun c51 => ?_)
              · have c51 : (m_le).toInt ≤ (i138).toInt := hq_lei.mp c51
                refine lv_aload_n hx hb dX13_sound_177 rfl (lv_at hl 3 rfl) ?_
                refine hp_get (v := .ref (q + 23)) hx hb hts hown hZ ho37 fl_X13_219 rfl dX13_sound_178 ?_
                refine lv_iload_n hx hb dX13_sound_181 rfl (lv_at hl 4 rfl) ?_
                refine lv_iload_n hx hb dX13_sound_182 rfl (lv_at hl 1 rfl) ?_
                refine lv_if_ne (tgt := 190) hx hb dX13_sound_183 (by decide) (fun c52 => ?_) (fun c52 => ?_)
                · have c52 : ¬ (sa9).toInt = (0 : Int) := fun h9 => c52 (hq_eqi.mpr h9)
                  refine lv_iconst (v := 0) hx hb dX13_sound_190 (by decide) ?_
                  refine hp_zast hx hb hZ ho41 (hq_in (by omega) (by omega)) dX13_sound_191 (fun V53 _ _ e54 o55 hZ => ?_)
                  have e54 : V53 (q + 23) = some (.inl (cs 3, 60, .inl (upd (df) ((k : Int32).toNatClampNeg) ((vp_nar .boolean 0))))) := e54
                  have hP := hP.put (hr_23 hR) e54 o55 (hq_c22 (by omega)) rfl
                  obtain ⟨g56, ge57⟩ : ∃ g9 : Nat → Int32, g9 = upd (df) ((k : Int32).toNatClampNeg) ((vp_nar .boolean 0)) := ⟨_, rfl⟩
                  have fx58 : V53 (q + 23) = some (.inl (cs 3, 60, .inl (g56))) := by rw [ge57]; exact e54
                  have fx60 : V53 (mo) = some (.inr (13, hm_o q (m_tp) (m_sz) (m_fr) (m_bh) (m_hd) (m_ft) (m_fa) (le9) (m_fo) (m_as) (m_fd) (m_bc) (m_bg) (m_bs) (m_be) (m_b0) (m_b1) (m_cm) (m_hc))) := (o55 (mo) (hq_tne hmo (hr_23 hR) (by simp))).trans (ho37)
                  have fx61 : V53 (q + 21) = some (.inl (cs 0, 276, .inl (wf9))) := (o55 (q + 21) (hq_tne (hr_21 hR) (hr_23 hR) (by simp))).trans (ho38)
                  have fx62 : V53 (q + 22) = some (.inl (cs 0, 276, .inl (sf9))) := (o55 (q + 22) (hq_tne (hr_22 hR) (hr_23 hR) (by simp))).trans (ho39)
                  have fx63 : V53 (q + 24) = some (.inl (cs 0, 30, .inl (bf9))) := (o55 (q + 24) (hq_tne (hr_24 hR) (hr_23 hR) (by simp))).trans (ho40)
                  exact hp_vret hx hb hr hlocks hZ ⟨rfl, hP, (fun x8 hne0 hne1 hne2 hne3 hne4 => (o55 x8 hne4).trans (fr138 x8 hne0 hne1 hne2 hne3 hne4)), le9, wf9, sf9, bf9, g56, fx60, fx61, fx62, fx63, fx58, (by rw [hfin]; exact hcu0), (by rw [hfin]; exact hcb0), by omega⟩ dX13_sound_192
                · have c52 : (sa9).toInt = (0 : Int) := hq_eqi.mp c52
                  refine lv_iconst (v := 1) hx hb dX13_sound_186 (by decide) ?_
                  refine lv_goto (tgt := 191) hx hb dX13_sound_187 (by decide) ?_
                  refine hp_zast hx hb hZ ho41 (hq_in (by omega) (by omega)) dX13_sound_191 (fun V64 _ _ e65 o66 hZ => ?_)
                  have e65 : V64 (q + 23) = some (.inl (cs 3, 60, .inl (upd (df) ((k : Int32).toNatClampNeg) ((vp_nar .boolean 1))))) := e65
                  have hP := hP.put (hr_23 hR) e65 o66 (hq_c22 (by omega)) rfl
                  obtain ⟨g67, ge68⟩ : ∃ g9 : Nat → Int32, g9 = upd (df) ((k : Int32).toNatClampNeg) ((vp_nar .boolean 1)) := ⟨_, rfl⟩
                  have fx69 : V64 (q + 23) = some (.inl (cs 3, 60, .inl (g67))) := by rw [ge68]; exact e65
                  have fx71 : V64 (mo) = some (.inr (13, hm_o q (m_tp) (m_sz) (m_fr) (m_bh) (m_hd) (m_ft) (m_fa) (le9) (m_fo) (m_as) (m_fd) (m_bc) (m_bg) (m_bs) (m_be) (m_b0) (m_b1) (m_cm) (m_hc))) := (o66 (mo) (hq_tne hmo (hr_23 hR) (by simp))).trans (ho37)
                  have fx72 : V64 (q + 21) = some (.inl (cs 0, 276, .inl (wf9))) := (o66 (q + 21) (hq_tne (hr_21 hR) (hr_23 hR) (by simp))).trans (ho38)
                  have fx73 : V64 (q + 22) = some (.inl (cs 0, 276, .inl (sf9))) := (o66 (q + 22) (hq_tne (hr_22 hR) (hr_23 hR) (by simp))).trans (ho39)
                  have fx74 : V64 (q + 24) = some (.inl (cs 0, 30, .inl (bf9))) := (o66 (q + 24) (hq_tne (hr_24 hR) (hr_23 hR) (by simp))).trans (ho40)
                  exact hp_vret hx hb hr hlocks hZ ⟨rfl, hP, (fun x8 hne0 hne1 hne2 hne3 hne4 => (o66 x8 hne4).trans (fr138 x8 hne0 hne1 hne2 hne3 hne4)), le9, wf9, sf9, bf9, g67, fx71, fx72, fx73, fx74, fx69, (by rw [hfin]; exact hcu0), (by rw [hfin]; exact hcb0), by omega⟩ dX13_sound_192
              · have c51 : ¬ (m_le).toInt ≤ (i138).toInt := fun h9 => c51 (hq_lei.mpr h9)
                refine lv_iload_n hx hb dX13_sound_144 rfl (lv_at hl 1 rfl) ?_
                refine lv_if_eq (tgt := 177) hx hb dX13_sound_145 (by decide) (fun c75 => ?_) (fun c75 => ?_)
                · have c75 : (sa9).toInt = (0 : Int) := hq_eqi.mp c75
                  refine lv_aload_n hx hb dX13_sound_177 rfl (lv_at hl 3 rfl) ?_
                  refine hp_get (v := .ref (q + 23)) hx hb hts hown hZ ho37 fl_X13_219 rfl dX13_sound_178 ?_
                  refine lv_iload_n hx hb dX13_sound_181 rfl (lv_at hl 4 rfl) ?_
                  refine lv_iload_n hx hb dX13_sound_182 rfl (lv_at hl 1 rfl) ?_
                  have hl76 : (0 : Int32).toInt = 0 := by decide
                  refine lv_if_ne (tgt := 190) hx hb dX13_sound_183 (by decide) (fun c77 => absurd ((Int32.toInt_inj.mp (by omega) : sa9 = 0)) c77) (fun c77 => ?_)
                  refine lv_iconst (v := 1) hx hb dX13_sound_186 (by decide) ?_
                  refine lv_goto (tgt := 191) hx hb dX13_sound_187 (by decide) ?_
                  refine hp_zast hx hb hZ ho41 (hq_in (by omega) (by omega)) dX13_sound_191 (fun V78 _ _ e79 o80 hZ => ?_)
                  have e79 : V78 (q + 23) = some (.inl (cs 3, 60, .inl (upd (df) ((k : Int32).toNatClampNeg) ((vp_nar .boolean 1))))) := e79
                  have hP := hP.put (hr_23 hR) e79 o80 (hq_c22 (by omega)) rfl
                  obtain ⟨g81, ge82⟩ : ∃ g9 : Nat → Int32, g9 = upd (df) ((k : Int32).toNatClampNeg) ((vp_nar .boolean 1)) := ⟨_, rfl⟩
                  have fx83 : V78 (q + 23) = some (.inl (cs 3, 60, .inl (g81))) := by rw [ge82]; exact e79
                  have fx85 : V78 (mo) = some (.inr (13, hm_o q (m_tp) (m_sz) (m_fr) (m_bh) (m_hd) (m_ft) (m_fa) (le9) (m_fo) (m_as) (m_fd) (m_bc) (m_bg) (m_bs) (m_be) (m_b0) (m_b1) (m_cm) (m_hc))) := (o80 (mo) (hq_tne hmo (hr_23 hR) (by simp))).trans (ho37)
                  have fx86 : V78 (q + 21) = some (.inl (cs 0, 276, .inl (wf9))) := (o80 (q + 21) (hq_tne (hr_21 hR) (hr_23 hR) (by simp))).trans (ho38)
                  have fx87 : V78 (q + 22) = some (.inl (cs 0, 276, .inl (sf9))) := (o80 (q + 22) (hq_tne (hr_22 hR) (hr_23 hR) (by simp))).trans (ho39)
                  have fx88 : V78 (q + 24) = some (.inl (cs 0, 30, .inl (bf9))) := (o80 (q + 24) (hq_tne (hr_24 hR) (hr_23 hR) (by simp))).trans (ho40)
                  exact hp_vret hx hb hr hlocks hZ ⟨rfl, hP, (fun x8 hne0 hne1 hne2 hne3 hne4 => (o80 x8 hne4).trans (fr138 x8 hne0 hne1 hne2 hne3 hne4)), le9, wf9, sf9, bf9, g81, fx85, fx86, fx87, fx88, fx83, (by rw [hfin]; exact hcu0), (by rw [hfin]; exact hcb0), by omega⟩ dX13_sound_192
                · have c75 : ¬ (sa9).toInt = (0 : Int) := fun h9 => c75 (hq_eqi.mpr h9)
                  refine lv_aload_n hx hb dX13_sound_148 rfl (lv_at hl 3 rfl) ?_
                  refine hp_get (v := .ref (q + 24)) hx hb hts hown hZ ho37 fl_X13_223 rfl dX13_sound_149 ?_
                  refine lv_iload hx hb dX13_sound_152 (lv_at hl 0 rfl) ?_
                  refine hp_bald hx hb hZ ho40 (hq_in (by omega) (by omega)) dX13_sound_154 ?_
                  refine lv_topi (fun y89 ey90 => ?_)
                  have b91 := hq_rng y89
                  refine lv_aload_n hx hb dX13_sound_155 rfl (lv_at hl 3 rfl) ?_
                  refine hp_get (v := .ref (q + 21)) hx hb hts hown hZ ho37 fl_X13_213 rfl dX13_sound_156 ?_
                  refine lv_iload hx hb dX13_sound_159 (lv_at hl 0 rfl) ?_
                  refine hp_bald hx hb hZ ho38 (hq_in (by omega) (by omega)) dX13_sound_161 ?_
                  refine lv_topi (fun y92 ey93 => ?_)
                  have b94 := hq_rng y92
                  refine lv_icmp_ne (tgt := 169) hx hb dX13_sound_162 (by decide) (fun c95 => ?_) (fun c95 => ?_)
                  · have c95 : ¬ (y89).toInt = (y92).toInt := fun h9 => c95 (hq_eqi.mpr h9)
                    refine lv_iconst (v := 0) hx hb dX13_sound_169 (by decide) ?_
                    refine lv_istore_n (lv' := [(3, .int (0)), (4, .int (i138)), (2, .int (m_le)), (0, .ref (mo)), (1, .int (k))]) hx hb dX13_sound_170 rfl hl (by decide) rfl (fun ls hl => ?_)
                    obtain ⟨y96, ey97⟩ : ∃ y : Int32, y = i138 + (1) := ⟨_, rfl⟩
                    obtain ⟨k98, hk99, b100, b101⟩ := hq_add (i138) (1)
                    rw [← ey97] at hk99 b100 b101
                    have hk99 : (y96).toInt = (i138).toInt + (1) + k98 * 4294967296 := hk99
                    obtain rfl : k98 = 0 := by omega
                    refine lv_iinc (v := y96) (lv' := [(4, .int (y96)), (3, .int (0)), (2, .int (m_le)), (0, .ref (mo)), (1, .int (k))]) hx hb dX13_sound_171 hl (k := 1) rfl (by rw [ey97]; rfl) (by decide) rfl (fun ls hl => ?_)
                    refine lv_goto (tgt := 138) hx hb dX13_sound_174 (by decide) ?_
                    have hl102 : (0 : Int32).toInt = 0 := by decide
                    exact ih138 _ (by omega) _ _ _ ls (0) (y96) rfl hZ hP ho37 ho38 ho39 ho40 ho41 (fun x8 hne0 hne1 hne2 hne3 hne4 => fr138 x8 hne0 hne1 hne2 hne3 hne4) pk42 (by omega) (by omega) (by omega) (lv_sub hl [0, 1, 2, 3, 4] rfl)
                  · have c95 : (y89).toInt = (y92).toInt := hq_eqi.mp c95
                    refine lv_iconst (v := 1) hx hb dX13_sound_165 (by decide) ?_
                    refine lv_goto (tgt := 170) hx hb dX13_sound_166 (by decide) ?_
                    refine lv_istore_n (lv' := [(3, .int (1)), (4, .int (i138)), (2, .int (m_le)), (0, .ref (mo)), (1, .int (k))]) hx hb dX13_sound_170 rfl hl (by decide) rfl (fun ls hl => ?_)
                    obtain ⟨y103, ey104⟩ : ∃ y : Int32, y = i138 + (1) := ⟨_, rfl⟩
                    obtain ⟨k105, hk106, b107, b108⟩ := hq_add (i138) (1)
                    rw [← ey104] at hk106 b107 b108
                    have hk106 : (y103).toInt = (i138).toInt + (1) + k105 * 4294967296 := hk106
                    obtain rfl : k105 = 0 := by omega
                    refine lv_iinc (v := y103) (lv' := [(4, .int (y103)), (3, .int (1)), (2, .int (m_le)), (0, .ref (mo)), (1, .int (k))]) hx hb dX13_sound_171 hl (k := 1) rfl (by rw [ey104]; rfl) (by decide) rfl (fun ls hl => ?_)
                    refine lv_goto (tgt := 138) hx hb dX13_sound_174 (by decide) ?_
                    have hl109 : (1 : Int32).toInt = 1 := by decide
                    exact ih138 _ (by omega) _ _ _ ls (1) (y103) rfl hZ hP ho37 ho38 ho39 ho40 ho41 (fun x8 hne0 hne1 hne2 hne3 hne4 => fr138 x8 hne0 hne1 hne2 hne3 hne4) pk42 (by omega) (by omega) (by omega) (lv_sub hl [0, 1, 2, 3, 4] rfl)
          · have c36 : (m_le).toInt = (le9).toInt := hq_eqi.mp c36
            refine lv_iconst (v := 1) hx hb dX13_sound_129 (by decide) ?_
            refine lv_goto (tgt := 134) hx hb dX13_sound_130 (by decide) ?_
            refine lv_istore_n (lv' := [(3, .int (1)), (2, .int (m_le)), (0, .ref (mo)), (1, .int (k))]) hx hb dX13_sound_134 rfl hl (by decide) rfl (fun ls hl => ?_)
            refine lv_iconst (v := 0) hx hb dX13_sound_135 (by decide) ?_
            refine lv_istore (lv' := [(4, .int (0)), (3, .int (1)), (2, .int (m_le)), (0, .ref (mo)), (1, .int (k))]) hx hb dX13_sound_136 hl (by decide) rfl (fun ls hl => ?_)
            have hl116 : (1 : Int32).toInt = 1 := by decide
            have hl117 : (0 : Int32).toInt = 0 := by decide
            suffices lp138 : ∀ (k9 : Nat) (V9 : hp_V) (H9 : Heap) (locs9 : List Loc) (ls : Array Slot) (sa9 : Int32) (i138 : Int32), (100 - i138.toInt).toNat = k9 → hp_Z D cs B s V9 H9 n locs9 → hq_P cs G (fun _ => true) V V9 → V9 (mo) = some (.inr (13, hm_o q (m_tp) (m_sz) (m_fr) (m_bh) (m_hd) (m_ft) (m_fa) (le9) (m_fo) (m_as) (m_fd) (m_bc) (m_bg) (m_bs) (m_be) (m_b0) (m_b1) (m_cm) (m_hc))) → V9 (q + 21) = some (.inl (cs 0, 276, .inl (wf9))) → V9 (q + 22) = some (.inl (cs 0, 276, .inl (sf9))) → V9 (q + 24) = some (.inl (cs 0, 30, .inl (bf9))) → V9 (q + 23) = some (.inl (cs 3, 60, .inl (df))) → (∀ x, x ≠ mo → x ≠ q + 21 → x ≠ q + 22 → x ≠ q + 24 → x ≠ q + 23 → V9 x = V x) → hm_AR cs V9 q rh → 0 ≤ i138.toInt → i138.toInt ≤ 30 → 0 ≤ sa9.toInt ∧ sa9.toInt ≤ 1 → lv_has ls 5 [(4, .int (i138)), (3, .int (sa9)), (2, .int (m_le)), (0, .ref (mo)), (1, .int (k))] → W p l e ({ frames := 2, cells := 0, slots := 0, locals := 45 }) s m ([.ref (mo), .int (k)] : List Value).toArray below meth c H9 locs9 0 0 (MQ below (hp_QV D cs B (fun V' n' => n = n' ∧ hq_P cs G (fun _ => true) V V' ∧ (∀ x, x ≠ mo → x ≠ q + 21 → x ≠ q + 22 → x ≠ q + 24 → x ≠ q + 23 → V' x = V x) ∧ (∃ m_le1 : Int32, ∃ wf1 : Nat → Int32, ∃ sf1 : Nat → Int32, ∃ bf1 : Nat → Int32, ∃ df1 : Nat → Int32, V' (mo) = some (.inr (13, hm_o q (m_tp) (m_sz) (m_fr) (m_bh) (m_hd) (m_ft) (m_fa) (m_le1) (m_fo) (m_as) (m_fd) (m_bc) (m_bg) (m_bs) (m_be) (m_b0) (m_b1) (m_cm) (m_hc))) ∧ V' (q + 21) = some (.inl (cs 0, 276, .inl (wf1))) ∧ V' (q + 22) = some (.inl (cs 0, 276, .inl (sf1))) ∧ V' (q + 24) = some (.inl (cs 0, 30, .inl (bf1))) ∧ V' (q + 23) = some (.inl (cs 3, 60, .inl (df1))) ∧ (sp_rp m_le1 wf1 (sp_snd F S u 0)) ∧ (sp_b8 (sp_snd F S u 0)) ∧ (0 ≤ m_le1.toInt ∧ m_le1.toInt ≤ 276)))) ([.ref (mo), .int (k)] : List Value).toArray s 0 0 (hp_F B)) (F0 m 138 ls []) from lp138 _ _ _ _ ls (1) (0) rfl hZ hP ho24 ho25 ho26 ho27 ho28 (fun x8 hne0 hne1 hne2 hne3 hne4 => fr80 x8 hne0 hne1 hne2 hne3 hne4) pk29 (by omega) (by omega) (by omega) (lv_sub hl [0, 1, 2, 3, 4] rfl)
            intro k9
            induction k9 using Nat.strongRecOn with
            | _ k9 ih138 =>
              intro V9 H9 locs9 ls sa9 i138   hk138 hZ hP ho110 ho111 ho112 ho113 ho114 fr138 pk115 hv118 hv119 hv120 hl
              have hb_sa9 := hq_rng sa9
              have hb_i138 := hq_rng i138
              have hf121 := hq_rg20 hP.1 (hr_21 hR) ho111
              have hf122 := hq_rg20 hP.1 (hr_22 hR) ho112
              have hf123 := hq_rg20 hP.1 (hr_24 hR) ho113
              refine lv_iload hx hb dX13_sound_138 (lv_at hl 0 rfl) ?_
              refine lv_iload_n hx hb dX13_sound_140 rfl (lv_at hl 2 rfl) ?_
              refine lv_icmp_ge (tgt := 177) hx hb dX13_sound_141 (by decide) (fun c124 => ?_) (fun c124 => ?_)
              · have c124 : (m_le).toInt ≤ (i138).toInt := hq_lei.mp c124
                refine lv_aload_n hx hb dX13_sound_177 rfl (lv_at hl 3 rfl) ?_
                refine hp_get (v := .ref (q + 23)) hx hb hts hown hZ ho110 fl_X13_219 rfl dX13_sound_178 ?_
                refine lv_iload_n hx hb dX13_sound_181 rfl (lv_at hl 4 rfl) ?_
                refine lv_iload_n hx hb dX13_sound_182 rfl (lv_at hl 1 rfl) ?_
                refine lv_if_ne (tgt := 190) hx hb dX13_sound_183 (by decide) (fun c125 => ?_) (fun c125 => ?_)
                · have c125 : ¬ (sa9).toInt = (0 : Int) := fun h9 => c125 (hq_eqi.mpr h9)
                  refine lv_iconst (v := 0) hx hb dX13_sound_190 (by decide) ?_
                  refine hp_zast hx hb hZ ho114 (hq_in (by omega) (by omega)) dX13_sound_191 (fun V126 _ _ e127 o128 hZ => ?_)
                  have e127 : V126 (q + 23) = some (.inl (cs 3, 60, .inl (upd (df) ((k : Int32).toNatClampNeg) ((vp_nar .boolean 0))))) := e127
                  have hP := hP.put (hr_23 hR) e127 o128 (hq_c22 (by omega)) rfl
                  obtain ⟨g129, ge130⟩ : ∃ g9 : Nat → Int32, g9 = upd (df) ((k : Int32).toNatClampNeg) ((vp_nar .boolean 0)) := ⟨_, rfl⟩
                  have fx131 : V126 (q + 23) = some (.inl (cs 3, 60, .inl (g129))) := by rw [ge130]; exact e127
                  have fx133 : V126 (mo) = some (.inr (13, hm_o q (m_tp) (m_sz) (m_fr) (m_bh) (m_hd) (m_ft) (m_fa) (le9) (m_fo) (m_as) (m_fd) (m_bc) (m_bg) (m_bs) (m_be) (m_b0) (m_b1) (m_cm) (m_hc))) := (o128 (mo) (hq_tne hmo (hr_23 hR) (by simp))).trans (ho110)
                  have fx134 : V126 (q + 21) = some (.inl (cs 0, 276, .inl (wf9))) := (o128 (q + 21) (hq_tne (hr_21 hR) (hr_23 hR) (by simp))).trans (ho111)
                  have fx135 : V126 (q + 22) = some (.inl (cs 0, 276, .inl (sf9))) := (o128 (q + 22) (hq_tne (hr_22 hR) (hr_23 hR) (by simp))).trans (ho112)
                  have fx136 : V126 (q + 24) = some (.inl (cs 0, 30, .inl (bf9))) := (o128 (q + 24) (hq_tne (hr_24 hR) (hr_23 hR) (by simp))).trans (ho113)
                  exact hp_vret hx hb hr hlocks hZ ⟨rfl, hP, (fun x8 hne0 hne1 hne2 hne3 hne4 => (o128 x8 hne4).trans (fr138 x8 hne0 hne1 hne2 hne3 hne4)), le9, wf9, sf9, bf9, g129, fx133, fx134, fx135, fx136, fx131, (by rw [hfin]; exact hcu0), (by rw [hfin]; exact hcb0), by omega⟩ dX13_sound_192
                · have c125 : (sa9).toInt = (0 : Int) := hq_eqi.mp c125
                  refine lv_iconst (v := 1) hx hb dX13_sound_186 (by decide) ?_
                  refine lv_goto (tgt := 191) hx hb dX13_sound_187 (by decide) ?_
                  refine hp_zast hx hb hZ ho114 (hq_in (by omega) (by omega)) dX13_sound_191 (fun V137 _ _ e138 o139 hZ => ?_)
                  have e138 : V137 (q + 23) = some (.inl (cs 3, 60, .inl (upd (df) ((k : Int32).toNatClampNeg) ((vp_nar .boolean 1))))) := e138
                  have hP := hP.put (hr_23 hR) e138 o139 (hq_c22 (by omega)) rfl
                  obtain ⟨g140, ge141⟩ : ∃ g9 : Nat → Int32, g9 = upd (df) ((k : Int32).toNatClampNeg) ((vp_nar .boolean 1)) := ⟨_, rfl⟩
                  have fx142 : V137 (q + 23) = some (.inl (cs 3, 60, .inl (g140))) := by rw [ge141]; exact e138
                  have fx144 : V137 (mo) = some (.inr (13, hm_o q (m_tp) (m_sz) (m_fr) (m_bh) (m_hd) (m_ft) (m_fa) (le9) (m_fo) (m_as) (m_fd) (m_bc) (m_bg) (m_bs) (m_be) (m_b0) (m_b1) (m_cm) (m_hc))) := (o139 (mo) (hq_tne hmo (hr_23 hR) (by simp))).trans (ho110)
                  have fx145 : V137 (q + 21) = some (.inl (cs 0, 276, .inl (wf9))) := (o139 (q + 21) (hq_tne (hr_21 hR) (hr_23 hR) (by simp))).trans (ho111)
                  have fx146 : V137 (q + 22) = some (.inl (cs 0, 276, .inl (sf9))) := (o139 (q + 22) (hq_tne (hr_22 hR) (hr_23 hR) (by simp))).trans (ho112)
                  have fx147 : V137 (q + 24) = some (.inl (cs 0, 30, .inl (bf9))) := (o139 (q + 24) (hq_tne (hr_24 hR) (hr_23 hR) (by simp))).trans (ho113)
                  exact hp_vret hx hb hr hlocks hZ ⟨rfl, hP, (fun x8 hne0 hne1 hne2 hne3 hne4 => (o139 x8 hne4).trans (fr138 x8 hne0 hne1 hne2 hne3 hne4)), le9, wf9, sf9, bf9, g140, fx144, fx145, fx146, fx147, fx142, (by rw [hfin]; exact hcu0), (by rw [hfin]; exact hcb0), by omega⟩ dX13_sound_192
              · have c124 : ¬ (m_le).toInt ≤ (i138).toInt := fun h9 => c124 (hq_lei.mpr h9)
                refine lv_iload_n hx hb dX13_sound_144 rfl (lv_at hl 1 rfl) ?_
                refine lv_if_eq (tgt := 177) hx hb dX13_sound_145 (by decide) (fun c148 => ?_) (fun c148 => ?_)
                · have c148 : (sa9).toInt = (0 : Int) := hq_eqi.mp c148
                  refine lv_aload_n hx hb dX13_sound_177 rfl (lv_at hl 3 rfl) ?_
                  refine hp_get (v := .ref (q + 23)) hx hb hts hown hZ ho110 fl_X13_219 rfl dX13_sound_178 ?_
                  refine lv_iload_n hx hb dX13_sound_181 rfl (lv_at hl 4 rfl) ?_
                  refine lv_iload_n hx hb dX13_sound_182 rfl (lv_at hl 1 rfl) ?_
                  have hl149 : (0 : Int32).toInt = 0 := by decide
                  refine lv_if_ne (tgt := 190) hx hb dX13_sound_183 (by decide) (fun c150 => absurd ((Int32.toInt_inj.mp (by omega) : sa9 = 0)) c150) (fun c150 => ?_)
                  refine lv_iconst (v := 1) hx hb dX13_sound_186 (by decide) ?_
                  refine lv_goto (tgt := 191) hx hb dX13_sound_187 (by decide) ?_
                  refine hp_zast hx hb hZ ho114 (hq_in (by omega) (by omega)) dX13_sound_191 (fun V151 _ _ e152 o153 hZ => ?_)
                  have e152 : V151 (q + 23) = some (.inl (cs 3, 60, .inl (upd (df) ((k : Int32).toNatClampNeg) ((vp_nar .boolean 1))))) := e152
                  have hP := hP.put (hr_23 hR) e152 o153 (hq_c22 (by omega)) rfl
                  obtain ⟨g154, ge155⟩ : ∃ g9 : Nat → Int32, g9 = upd (df) ((k : Int32).toNatClampNeg) ((vp_nar .boolean 1)) := ⟨_, rfl⟩
                  have fx156 : V151 (q + 23) = some (.inl (cs 3, 60, .inl (g154))) := by rw [ge155]; exact e152
                  have fx158 : V151 (mo) = some (.inr (13, hm_o q (m_tp) (m_sz) (m_fr) (m_bh) (m_hd) (m_ft) (m_fa) (le9) (m_fo) (m_as) (m_fd) (m_bc) (m_bg) (m_bs) (m_be) (m_b0) (m_b1) (m_cm) (m_hc))) := (o153 (mo) (hq_tne hmo (hr_23 hR) (by simp))).trans (ho110)
                  have fx159 : V151 (q + 21) = some (.inl (cs 0, 276, .inl (wf9))) := (o153 (q + 21) (hq_tne (hr_21 hR) (hr_23 hR) (by simp))).trans (ho111)
                  have fx160 : V151 (q + 22) = some (.inl (cs 0, 276, .inl (sf9))) := (o153 (q + 22) (hq_tne (hr_22 hR) (hr_23 hR) (by simp))).trans (ho112)
                  have fx161 : V151 (q + 24) = some (.inl (cs 0, 30, .inl (bf9))) := (o153 (q + 24) (hq_tne (hr_24 hR) (hr_23 hR) (by simp))).trans (ho113)
                  exact hp_vret hx hb hr hlocks hZ ⟨rfl, hP, (fun x8 hne0 hne1 hne2 hne3 hne4 => (o153 x8 hne4).trans (fr138 x8 hne0 hne1 hne2 hne3 hne4)), le9, wf9, sf9, bf9, g154, fx158, fx159, fx160, fx161, fx156, (by rw [hfin]; exact hcu0), (by rw [hfin]; exact hcb0), by omega⟩ dX13_sound_192
                · have c148 : ¬ (sa9).toInt = (0 : Int) := fun h9 => c148 (hq_eqi.mpr h9)
                  refine lv_aload_n hx hb dX13_sound_148 rfl (lv_at hl 3 rfl) ?_
                  refine hp_get (v := .ref (q + 24)) hx hb hts hown hZ ho110 fl_X13_223 rfl dX13_sound_149 ?_
                  refine lv_iload hx hb dX13_sound_152 (lv_at hl 0 rfl) ?_
                  refine hp_bald hx hb hZ ho113 (hq_in (by omega) (by omega)) dX13_sound_154 ?_
                  refine lv_topi (fun y162 ey163 => ?_)
                  have b164 := hq_rng y162
                  refine lv_aload_n hx hb dX13_sound_155 rfl (lv_at hl 3 rfl) ?_
                  refine hp_get (v := .ref (q + 21)) hx hb hts hown hZ ho110 fl_X13_213 rfl dX13_sound_156 ?_
                  refine lv_iload hx hb dX13_sound_159 (lv_at hl 0 rfl) ?_
                  refine hp_bald hx hb hZ ho111 (hq_in (by omega) (by omega)) dX13_sound_161 ?_
                  refine lv_topi (fun y165 ey166 => ?_)
                  have b167 := hq_rng y165
                  refine lv_icmp_ne (tgt := 169) hx hb dX13_sound_162 (by decide) (fun c168 => ?_) (fun c168 => ?_)
                  · have c168 : ¬ (y162).toInt = (y165).toInt := fun h9 => c168 (hq_eqi.mpr h9)
                    refine lv_iconst (v := 0) hx hb dX13_sound_169 (by decide) ?_
                    refine lv_istore_n (lv' := [(3, .int (0)), (4, .int (i138)), (2, .int (m_le)), (0, .ref (mo)), (1, .int (k))]) hx hb dX13_sound_170 rfl hl (by decide) rfl (fun ls hl => ?_)
                    obtain ⟨y169, ey170⟩ : ∃ y : Int32, y = i138 + (1) := ⟨_, rfl⟩
                    obtain ⟨k171, hk172, b173, b174⟩ := hq_add (i138) (1)
                    rw [← ey170] at hk172 b173 b174
                    have hk172 : (y169).toInt = (i138).toInt + (1) + k171 * 4294967296 := hk172
                    obtain rfl : k171 = 0 := by omega
                    refine lv_iinc (v := y169) (lv' := [(4, .int (y169)), (3, .int (0)), (2, .int (m_le)), (0, .ref (mo)), (1, .int (k))]) hx hb dX13_sound_171 hl (k := 1) rfl (by rw [ey170]; rfl) (by decide) rfl (fun ls hl => ?_)
                    refine lv_goto (tgt := 138) hx hb dX13_sound_174 (by decide) ?_
                    have hl175 : (0 : Int32).toInt = 0 := by decide
                    exact ih138 _ (by omega) _ _ _ ls (0) (y169) rfl hZ hP ho110 ho111 ho112 ho113 ho114 (fun x8 hne0 hne1 hne2 hne3 hne4 => fr138 x8 hne0 hne1 hne2 hne3 hne4) pk115 (by omega) (by omega) (by omega) (lv_sub hl [0, 1, 2, 3, 4] rfl)
                  · have c168 : (y162).toInt = (y165).toInt := hq_eqi.mp c168
                    refine lv_iconst (v := 1) hx hb dX13_sound_165 (by decide) ?_
                    refine lv_goto (tgt := 170) hx hb dX13_sound_166 (by decide) ?_
                    refine lv_istore_n (lv' := [(3, .int (1)), (4, .int (i138)), (2, .int (m_le)), (0, .ref (mo)), (1, .int (k))]) hx hb dX13_sound_170 rfl hl (by decide) rfl (fun ls hl => ?_)
                    obtain ⟨y176, ey177⟩ : ∃ y : Int32, y = i138 + (1) := ⟨_, rfl⟩
                    obtain ⟨k178, hk179, b180, b181⟩ := hq_add (i138) (1)
                    rw [← ey177] at hk179 b180 b181
                    have hk179 : (y176).toInt = (i138).toInt + (1) + k178 * 4294967296 := hk179
                    obtain rfl : k178 = 0 := by omega
                    refine lv_iinc (v := y176) (lv' := [(4, .int (y176)), (3, .int (1)), (2, .int (m_le)), (0, .ref (mo)), (1, .int (k))]) hx hb dX13_sound_171 hl (k := 1) rfl (by rw [ey177]; rfl) (by decide) rfl (fun ls hl => ?_)
                    refine lv_goto (tgt := 138) hx hb dX13_sound_174 (by decide) ?_
                    have hl182 : (1 : Int32).toInt = 1 := by decide
                    exact ih138 _ (by omega) _ _ _ ls (1) (y176) rfl hZ hP ho110 ho111 ho112 ho113 ho114 (fun x8 hne0 hne1 hne2 hne3 hne4 => fr138 x8 hne0 hne1 hne2 hne3 hne4) pk115 (by omega) (by omega) (by omega) (lv_sub hl [0, 1, 2, 3, 4] rfl)
        · have c35 : ¬ (le9).toInt ≤ (i80).toInt := fun h9 => c35 (hq_lei.mpr h9)
          refine lv_aload_n hx hb dX13_sound_88 rfl (lv_at hl 2 rfl) ?_
          refine lv_iload_n hx hb dX13_sound_89 rfl (lv_at hl 3 rfl) ?_
          refine lv_iload_n hx hb dX13_sound_90 rfl (lv_at hl 0 rfl) ?_
          refine hp_calli (hp_runV (As := [.int (k), .int (i80)]) (rest := []) hx hb hml hown hts (y_standsAt l D cs B G V9 n hP.1 (q) (mo) (rh) (m_tp) (m_sz) (m_fr) (m_bh) (m_hd) (m_ft) (m_fa) (le9) (m_fo) (m_as) (m_fd) (m_bc) (m_bg) (m_bs) (m_be) (m_b0) (m_b1) (m_cm) (m_hc) (k) (i80) (wf9) (cu) (F)  ho24 ho25 pk29 hR hmo hcu0 (by omega) hFT (by omega) hn (by omega)) hZ ho24 cv_X13_334 rfl rfl ⟨Nat.le_of_ble_eq_true rfl, Nat.le_of_ble_eq_true rfl⟩ rfl hl.1 rfl (Nat.le_of_ble_eq_true rfl) dX13_sound_91 ⟨(Nat.le_of_ble_eq_true rfl), (Nat.le_of_ble_eq_true rfl)⟩) hZ (fun r186 V183 n184 _ _ hw185 hZ => ?_)
          obtain ⟨rfl, rfl, hp189⟩ := hw185
          have b190 := hq_rng r186
          refine lv_if_ne (tgt := 103) hx hb dX13_sound_94 (by decide) (fun c191 => ?_) (fun c191 => ?_)
          · have c191 : ¬ (r186).toInt = (0 : Int) := fun h9 => c191 (hq_eqi.mpr h9)
            obtain ⟨hst1, hst2⟩ : 0 ≤ (i80).toInt ∧ sp_pf F (cu.drop (i80).toInt.toNat) = true := by rcases hp189 with g9 | g9; (· exact g9.2); (· omega)
            refine lv_aload_n hx hb dX13_sound_103 rfl (lv_at hl 2 rfl) ?_
            refine lv_iload_n hx hb dX13_sound_104 rfl (lv_at hl 3 rfl) ?_
            refine lv_iload_n hx hb dX13_sound_105 rfl (lv_at hl 0 rfl) ?_
            have hpl := ((sp_pf_iff F _).mp hst2).1
            rw [List.length_drop] at hpl
            refine hp_callv (hp_runV (As := [.int (k), .int (i80)]) (rest := []) hx hb hml hown hts (y_changeAt l D cs B G V9 n hP.1 (q) (mo) (rh) (m_tp) (m_sz) (m_fr) (m_bh) (m_hd) (m_ft) (m_fa) (le9) (m_fo) (m_as) (m_fd) (m_bc) (m_bg) (m_bs) (m_be) (m_b0) (m_b1) (m_cm) (m_hc) (k) (i80) (wf9) (sf9) (cu) (F) (S)  ho24 ho25 ho26 pk29 hR hmo hmq hcu0 hFT hST (by omega) (by omega) hcb0 hSb (by omega)) hZ ho24 cv_X13_338 rfl rfl ⟨Nat.le_of_ble_eq_true rfl, Nat.le_of_ble_eq_true rfl⟩ rfl hl.1 rfl (Nat.le_of_ble_eq_true rfl) dX13_sound_106 ⟨(Nat.le_of_ble_eq_true rfl), (Nat.le_of_ble_eq_true rfl)⟩) hZ (fun V192 n193 _ _ hw194 hZ => ?_)
            obtain ⟨rfl, hq196, fr197, z198, u199, u200, ho201, ho202, ho203, hp204⟩ := hw194
            have b205 := hq_rng z198
            have hP := hP.trans hq196 (fun _ h => Bool.noConfusion h)
            have hf206 := hq_rg20 hP.1 (hr_21 hR) ho202
            have hf207 := hq_rg20 hP.1 (hr_22 hR) ho203
            have hcl := sp_cg_len (f := F) (s := S) (u := cu) (a := (i80).toInt.toNat) (by omega)
            have hcu := hp204
            have hcu1 := hcu.1
            have hcb : sp_b8 (sp_cg F S cu (i80).toInt.toNat) := sp_cg_b8 hcb0 hSb
            refine lv_iload_n hx hb dX13_sound_109 rfl (lv_at hl 0 rfl) ?_
            refine lv_aload_n hx hb dX13_sound_110 rfl (lv_at hl 2 rfl) ?_
            refine hp_get (v := .ref (q + 15)) hx hb hts hown hZ ho201 fl_X13_44 rfl dX13_sound_111 ?_
            refine lv_iload_n hx hb dX13_sound_114 rfl (lv_at hl 3 rfl) ?_
            have pk212 := pk29.keep (fun x7 (hx7 : q ≤ x7 ∧ x7 < q + 19) => fr197 x7 (by omega) (by omega) (by omega))
            obtain ⟨rf208, hrf209⟩ : ∃ f : Nat → Int32, f = rh 15 := ⟨_, rfl⟩
            have ea210 : V192 (q + 15) = some (.inl (cs 1, 120, .inl (rf208))) := by rw [hrf209]; exact pk212 15 (by decide)
            have hra211 := hq_rg hP.1 (hr_15 hR) ea210
            refine hp_iald hx hb hZ ea210 (hq_in (by omega) (by omega)) dX13_sound_115 ?_
            refine lv_topi (fun y213 ey214 => ?_)
            have b215 : hq_ir (hq_lo 1) (hq_hi 1) y213 := by rw [ey214]; exact hra211 _ (hq_ix (by omega) (by omega))
            have b215 : 0 ≤ (y213).toInt ∧ (y213).toInt ≤ 8 := b215
            have b216 : (y213).toInt = (rh 15 (k).toNatClampNeg).toInt := by rw [ey214, hrf209]
            refine lv_iadd hx hb dX13_sound_116 ?_
            refine lv_topi (fun y217 ey218 => ?_)
            obtain ⟨k219, hk220, b221, b222⟩ := hq_add (i80) (y213)
            rw [← ey218] at hk220 b221 b222
            have hk220 : (y217).toInt = (i80).toInt + (y213).toInt + k219 * 4294967296 := hk220
            obtain rfl : k219 = 0 := by omega
            refine lv_istore_n (lv' := [(3, .int (y217)), (2, .int (m_le)), (0, .ref (mo)), (1, .int (k))]) hx hb dX13_sound_117 rfl hl (by decide) rfl (fun ls hl => ?_)
            refine lv_goto (tgt := 80) hx hb dX13_sound_118 (by decide) ?_
            have fx223 : V192 (q + 24) = some (.inl (cs 0, 30, .inl (bf9))) := (fr197 (q + 24) (hq_tne (hr_24 hR) hmo (by simp)) (hq_tne (hr_24 hR) (hr_21 hR) (by simp)) (hq_tne (hr_24 hR) (hr_22 hR) (by simp))).trans (ho27)
            have fx224 : V192 (q + 23) = some (.inl (cs 3, 60, .inl (df))) := (fr197 (q + 23) (hq_tne (hr_23 hR) hmo (by simp)) (hq_tne (hr_23 hR) (hr_21 hR) (by simp)) (hq_tne (hr_23 hR) (hr_22 hR) (by simp))).trans (ho28)
            exact ih80 _ (by omega) _ _ _ ls (y217) ((sp_cg F S cu (i80).toInt.toNat)) (z198) (u199) (u200) rfl hZ hP ho201 ho202 ho203 fx223 fx224 (fun x8 hne0 hne1 hne2 hne3 hne4 => (fr197 x8 hne0 hne1 hne2).trans (fr80 x8 hne0 hne1 hne2 hne3 hne4)) pk212 (by have h9 := hrs.y hn hst2; rwa [show i80.toInt + (S.length : Int) = (y217).toInt by omega] at h9) (hcu) (hcb) (by omega) (lv_sub hl [0, 1, 2, 3] rfl)
          · have c191 : (r186).toInt = (0 : Int) := hq_eqi.mp c191
            have hnst : ¬ (0 ≤ (i80).toInt ∧ sp_pf F (cu.drop (i80).toInt.toNat) = true) := by rcases hp189 with g9 | g9; (· omega); (· exact g9.2)
            obtain ⟨y225, ey226⟩ : ∃ y : Int32, y = i80 + (1) := ⟨_, rfl⟩
            obtain ⟨k227, hk228, b229, b230⟩ := hq_add (i80) (1)
            rw [← ey226] at hk228 b229 b230
            have hk228 : (y225).toInt = (i80).toInt + (1) + k227 * 4294967296 := hk228
            obtain rfl : k227 = 0 := by omega
            refine lv_iinc (v := y225) (lv' := [(3, .int (y225)), (2, .int (m_le)), (0, .ref (mo)), (1, .int (k))]) hx hb dX13_sound_97 hl (k := 0) rfl (by rw [ey226]; rfl) (by decide) rfl (fun ls hl => ?_)
            refine lv_goto (tgt := 80) hx hb dX13_sound_100 (by decide) ?_
            exact ih80 _ (by omega) _ _ _ ls (y225) (cu) (le9) (wf9) (sf9) rfl hZ hP ho24 ho25 ho26 ho27 ho28 (fun x8 hne0 hne1 hne2 hne3 hne4 => fr80 x8 hne0 hne1 hne2 hne3 hne4) pk29 (by have h9 := hrs.n (by omega) (fun g9 => hnst ⟨by omega, g9⟩); rwa [show i80.toInt + 1 = (y225).toInt by omega] at h9) (hcu0) (hcb0) (by omega) (lv_sub hl [0, 1, 2, 3] rfl)
    · have c13 : ¬ (m_le).toInt ≤ (i7).toInt := fun h9 => c13 (hq_lei.mpr h9)
      refine lv_aload_n hx hb dX13_sound_12 rfl (lv_at hl 2 rfl) ?_
      refine hp_get (v := .ref (q + 24)) hx hb hts hown hZ ho1 fl_X13_223 rfl dX13_sound_13 ?_
      refine lv_iload_n hx hb dX13_sound_16 rfl (lv_at hl 0 rfl) ?_
      refine lv_aload_n hx hb dX13_sound_17 rfl (lv_at hl 2 rfl) ?_
      refine hp_get (v := .ref (q + 21)) hx hb hts hown hZ ho1 fl_X13_213 rfl dX13_sound_18 ?_
      refine lv_iload_n hx hb dX13_sound_21 rfl (lv_at hl 0 rfl) ?_
      refine hp_bald hx hb hZ ho2 (hq_in (by omega) (by omega)) dX13_sound_22 ?_
      refine lv_topi (fun y231 ey232 => ?_)
      have b233 := hq_rng y231
      refine hp_bast hx hb hZ ho4 (hq_in (by omega) (by omega)) dX13_sound_23 (fun V234 _ _ e235 o236 hZ => ?_)
      have e235 : V234 (q + 24) = some (.inl (cs 0, 30, .inl (upd (bf9) ((i7 : Int32).toNatClampNeg) ((y231 : Int32).toInt8.toInt32)))) := e235
      have hP := hP.put (hr_24 hR) e235 o236 (hq_c20 (by omega)) rfl
      obtain ⟨g237, ge238⟩ : ∃ g9 : Nat → Int32, g9 = upd (bf9) ((i7 : Int32).toNatClampNeg) ((y231 : Int32).toInt8.toInt32) := ⟨_, rfl⟩
      have fx239 : V234 (q + 24) = some (.inl (cs 0, 30, .inl (g237))) := by rw [ge238]; exact e235
      have hf240 := hq_rg20 hP.1 (hr_24 hR) fx239
      obtain ⟨y241, ey242⟩ : ∃ y : Int32, y = i7 + (1) := ⟨_, rfl⟩
      obtain ⟨k243, hk244, b245, b246⟩ := hq_add (i7) (1)
      rw [← ey242] at hk244 b245 b246
      have hk244 : (y241).toInt = (i7).toInt + (1) + k243 * 4294967296 := hk244
      obtain rfl : k243 = 0 := by omega
      refine lv_iinc (v := y241) (lv' := [(3, .int (y241)), (2, .int (m_le)), (0, .ref (mo)), (1, .int (k))]) hx hb dX13_sound_24 hl (k := 0) rfl (by rw [ey242]; rfl) (by decide) rfl (fun ls hl => ?_)
      refine lv_goto (tgt := 7) hx hb dX13_sound_27 (by decide) ?_
      have fx247 : V234 (mo) = some (.inr (13, hm_o q (m_tp) (m_sz) (m_fr) (m_bh) (m_hd) (m_ft) (m_fa) (m_le) (m_fo) (m_as) (m_fd) (m_bc) (m_bg) (m_bs) (m_be) (m_b0) (m_b1) (m_cm) (m_hc))) := (o236 (mo) (hq_tne hmo (hr_24 hR) (by simp))).trans (ho1)
      have fx248 : V234 (q + 21) = some (.inl (cs 0, 276, .inl (wf))) := (o236 (q + 21) (hq_tne (hr_21 hR) (hr_24 hR) (by simp))).trans (ho2)
      have fx249 : V234 (q + 22) = some (.inl (cs 0, 276, .inl (sf))) := (o236 (q + 22) (hq_tne (hr_22 hR) (hr_24 hR) (by simp))).trans (ho3)
      have fx250 : V234 (q + 23) = some (.inl (cs 3, 60, .inl (df))) := (o236 (q + 23) (hq_tne (hr_23 hR) (hr_24 hR) (by simp))).trans (ho5)
      have pk251 := pk6.keep (fun x7 (hx7 : q ≤ x7 ∧ x7 < q + 19) => o236 x7 (by omega))
      exact ih7 _ (by omega) _ _ _ ls (y241) (g237) rfl hZ hP fx247 fx248 fx249 fx239 fx250 (fun x8 hne0 hne1 hne2 hne3 hne4 => (o236 x8 hne3).trans (fr7 x8 hne0 hne1 hne2 hne3 hne4)) pk251 (by omega) (by omega) (lv_sub hl [0, 1, 2, 3] rfl)

set_option maxHeartbeats 4000000 in
set_option maxRecDepth 100000 in
theorem y_soundL (l : Launch) (D : va_G) (cs : Nat → ClassId) (B : Nat) (G : hq_G) (V : hp_V) (n : Nat) (hI : hq_I cs G V) (q : Nat) (mo : Nat) (rh : hm_Rh) (m_tp : Int32) (m_sz : Int32) (m_fr : Int32) (m_bh : Int32) (m_hd : Int32) (m_ft : Int32) (m_fa : Int32) (m_le : Int32) (m_fo : Int32) (m_as : Int32) (m_fd : Int32) (m_bc : Int32) (m_bg : Int32) (m_bs : Int32) (m_be : Int32) (m_b0 : Int32) (m_b1 : Int32) (m_cm : Int32) (m_hc : Int32) (k : Int32) (wf : Nat → Int32) (sf : Nat → Int32) (bf : Nat → Int32) (df : Nat → Int32) (u : List Int) (F : List Int) (S : List Int) (hc0 : V (mo) = some (.inr (13, hm_o q (m_tp) (m_sz) (m_fr) (m_bh) (m_hd) (m_ft) (m_fa) (m_le) (m_fo) (m_as) (m_fd) (m_bc) (m_bg) (m_bs) (m_be) (m_b0) (m_b1) (m_cm) (m_hc)))) (hc1 : V (q + 21) = some (.inl (cs 0, 276, .inl (wf)))) (hc2 : V (q + 22) = some (.inl (cs 0, 276, .inl (sf)))) (hc3 : V (q + 24) = some (.inl (cs 0, 30, .inl (bf)))) (hc4 : V (q + 23) = some (.inl (cs 3, 60, .inl (df)))) (hp0 : hm_AR cs V q rh) (hR : hq_RT G q) (hmo : G mo = some (24, 0, 0, 0)) (hmq : mo < q) (hu : sp_rp m_le wf u) (hul : u.length ≤ 30) (hFT : hm_FT rh 14 5 (k).toNatClampNeg F) (hST : hm_FT rh 15 6 (k).toNatClampNeg S) (hn : 0 < F.length) (hub : sp_b8 u) (hSb : sp_b8 S) (hhe : (rh 16 (k).toNatClampNeg).toInt = 1) (hk : 0 ≤ k.toInt ∧ k.toInt < 60) : hp_M l yX13_sound cX13_sound 5 none ({ frames := 2, cells := 0, slots := 0, locals := 45 }) D cs B V n [.ref (mo), .int (k)] (hp_QV D cs B (fun V' n' => n = n' ∧ hq_P cs G (fun _ => true) V V' ∧ (∀ x, x ≠ mo → x ≠ q + 21 → x ≠ q + 22 → x ≠ q + 24 → x ≠ q + 23 → V' x = V x) ∧ (∃ m_le1 : Int32, ∃ wf1 : Nat → Int32, ∃ sf1 : Nat → Int32, ∃ bf1 : Nat → Int32, ∃ df1 : Nat → Int32, V' (mo) = some (.inr (13, hm_o q (m_tp) (m_sz) (m_fr) (m_bh) (m_hd) (m_ft) (m_fa) (m_le1) (m_fo) (m_as) (m_fd) (m_bc) (m_bg) (m_bs) (m_be) (m_b0) (m_b1) (m_cm) (m_hc))) ∧ V' (q + 21) = some (.inl (cs 0, 276, .inl (wf1))) ∧ V' (q + 22) = some (.inl (cs 0, 276, .inl (sf1))) ∧ V' (q + 24) = some (.inl (cs 0, 30, .inl (bf1))) ∧ V' (q + 23) = some (.inl (cs 3, 60, .inl (df1))) ∧ (sp_rp m_le1 wf1 (sp_sndl F S u)) ∧ (sp_b8 (sp_sndl F S u)) ∧ (0 ≤ m_le1.toInt ∧ m_le1.toInt ≤ 276)))) 0 0 := by
  refine hp_walk (R0 := RX13) (by decide) rfl ?_ (Nat.le_of_ble_eq_true rfl)
  intro p e s m below meth c ls hx hb hr hts hown hlocks hin hml hZ hl
  have hP : hq_P cs G (fun _ => true) V V := hq_P.rf hI
  have hl : lv_has ls 5 [(0, .ref (mo)), (1, .int (k))] := hl
  have hb_m_tp := hq_rng m_tp
  have hb_m_sz := hq_rng m_sz
  have hb_m_fr := hq_rng m_fr
  have hb_m_bh := hq_rng m_bh
  have hb_m_hd := hq_rng m_hd
  have hb_m_ft := hq_rng m_ft
  have hb_m_fa := hq_rng m_fa
  have hb_m_le := hq_rng m_le
  have hb_m_fo := hq_rng m_fo
  have hb_m_as := hq_rng m_as
  have hb_m_fd := hq_rng m_fd
  have hb_m_bc := hq_rng m_bc
  have hb_m_bg := hq_rng m_bg
  have hb_m_bs := hq_rng m_bs
  have hb_m_be := hq_rng m_be
  have hb_m_b0 := hq_rng m_b0
  have hb_m_b1 := hq_rng m_b1
  have hb_m_cm := hq_rng m_cm
  have hb_m_hc := hq_rng m_hc
  have hb_k := hq_rng k
  have hH0 : hm_H rh rh := hm_H.rf
  have hu1 := hu.1
  have hL1 := hFT.1
  have hL2 := hFT.2.1
  have hS1 := hST.1
  have hS2 := hST.2.1
  refine lv_aload_n hx hb dX13_sound_0 rfl (lv_at hl 0 rfl) ?_
  refine hp_get (v := .int (m_le)) hx hb hts hown hZ hc0 fl_X13_331 rfl dX13_sound_1 ?_
  refine lv_istore_n (lv' := [(2, .int (m_le)), (0, .ref (mo)), (1, .int (k))]) hx hb dX13_sound_4 rfl hl (by decide) rfl (fun ls hl => ?_)
  refine lv_iconst (v := 0) hx hb dX13_sound_5 (by decide) ?_
  refine lv_istore_n (lv' := [(3, .int (0)), (2, .int (m_le)), (0, .ref (mo)), (1, .int (k))]) hx hb dX13_sound_6 rfl hl (by decide) rfl (fun ls hl => ?_)
  have hl7 : (0 : Int32).toInt = 0 := by decide
  suffices lp7 : ∀ (k9 : Nat) (V9 : hp_V) (H9 : Heap) (locs9 : List Loc) (ls : Array Slot) (i7 : Int32) (bf9 : Nat → Int32), (100 - i7.toInt).toNat = k9 → hp_Z D cs B s V9 H9 n locs9 → hq_P cs G (fun _ => true) V V9 → V9 (mo) = some (.inr (13, hm_o q (m_tp) (m_sz) (m_fr) (m_bh) (m_hd) (m_ft) (m_fa) (m_le) (m_fo) (m_as) (m_fd) (m_bc) (m_bg) (m_bs) (m_be) (m_b0) (m_b1) (m_cm) (m_hc))) → V9 (q + 21) = some (.inl (cs 0, 276, .inl (wf))) → V9 (q + 22) = some (.inl (cs 0, 276, .inl (sf))) → V9 (q + 24) = some (.inl (cs 0, 30, .inl (bf9))) → V9 (q + 23) = some (.inl (cs 3, 60, .inl (df))) → (∀ x, x ≠ mo → x ≠ q + 21 → x ≠ q + 22 → x ≠ q + 24 → x ≠ q + 23 → V9 x = V x) → hm_AR cs V9 q rh → 0 ≤ i7.toInt → i7.toInt ≤ 30 → lv_has ls 5 [(3, .int (i7)), (2, .int (m_le)), (0, .ref (mo)), (1, .int (k))] → W p l e ({ frames := 2, cells := 0, slots := 0, locals := 45 }) s m ([.ref (mo), .int (k)] : List Value).toArray below meth c H9 locs9 0 0 (MQ below (hp_QV D cs B (fun V' n' => n = n' ∧ hq_P cs G (fun _ => true) V V' ∧ (∀ x, x ≠ mo → x ≠ q + 21 → x ≠ q + 22 → x ≠ q + 24 → x ≠ q + 23 → V' x = V x) ∧ (∃ m_le1 : Int32, ∃ wf1 : Nat → Int32, ∃ sf1 : Nat → Int32, ∃ bf1 : Nat → Int32, ∃ df1 : Nat → Int32, V' (mo) = some (.inr (13, hm_o q (m_tp) (m_sz) (m_fr) (m_bh) (m_hd) (m_ft) (m_fa) (m_le1) (m_fo) (m_as) (m_fd) (m_bc) (m_bg) (m_bs) (m_be) (m_b0) (m_b1) (m_cm) (m_hc))) ∧ V' (q + 21) = some (.inl (cs 0, 276, .inl (wf1))) ∧ V' (q + 22) = some (.inl (cs 0, 276, .inl (sf1))) ∧ V' (q + 24) = some (.inl (cs 0, 30, .inl (bf1))) ∧ V' (q + 23) = some (.inl (cs 3, 60, .inl (df1))) ∧ (sp_rp m_le1 wf1 (sp_sndl F S u)) ∧ (sp_b8 (sp_sndl F S u)) ∧ (0 ≤ m_le1.toInt ∧ m_le1.toInt ≤ 276)))) ([.ref (mo), .int (k)] : List Value).toArray s 0 0 (hp_F B)) (F0 m 7 ls []) from lp7 _ _ _ _ ls (0) (bf) rfl hZ hP hc0 hc1 hc2 hc3 hc4 (fun x8 hne0 hne1 hne2 hne3 hne4 => rfl) hp0 (by omega) (by omega) (lv_sub hl [0, 1, 2, 3] rfl)
  intro k9
  induction k9 using Nat.strongRecOn with
  | _ k9 ih7 =>
    intro V9 H9 locs9 ls i7  bf9 hk7 hZ hP ho1 ho2 ho3 ho4 ho5 fr7 pk6 hv8 hv9 hl
    have hb_i7 := hq_rng i7
    have hf10 := hq_rg20 hP.1 (hr_21 hR) ho2
    have hf11 := hq_rg20 hP.1 (hr_22 hR) ho3
    have hf12 := hq_rg20 hP.1 (hr_24 hR) ho4
    refine lv_iload_n hx hb dX13_sound_7 rfl (lv_at hl 0 rfl) ?_
    refine lv_iload_n hx hb dX13_sound_8 rfl (lv_at hl 1 rfl) ?_
    refine lv_icmp_ge (tgt := 30) hx hb dX13_sound_9 (by decide) (fun c13 => ?_) (fun c13 => ?_)
    · have c13 : (m_le).toInt ≤ (i7).toInt := hq_lei.mp c13
      refine lv_aload_n hx hb dX13_sound_30 rfl (lv_at hl 2 rfl) ?_
      refine hp_get (v := .ref (q + 16)) hx hb hts hown hZ ho1 fl_X13_47 rfl dX13_sound_31 ?_
      refine lv_iload_n hx hb dX13_sound_34 rfl (lv_at hl 3 rfl) ?_
      obtain ⟨rf14, hrf15⟩ : ∃ f : Nat → Int32, f = rh 16 := ⟨_, rfl⟩
      have ea16 : V9 (q + 16) = some (.inl (cs 1, 120, .inl (rf14))) := by rw [hrf15]; exact pk6 16 (by decide)
      have hra17 := hq_rg hP.1 (hr_16 hR) ea16
      refine hp_iald hx hb hZ ea16 (hq_in (by omega) (by omega)) dX13_sound_35 ?_
      refine lv_topi (fun y18 ey19 => ?_)
      have b20 : hq_ir (hq_lo 3) (hq_hi 3) y18 := by rw [ey19]; exact hra17 _ (hq_ix (by omega) (by omega))
      have b20 : 0 ≤ (y18).toInt ∧ (y18).toInt ≤ 29 := b20
      have b21 : (y18).toInt = (rh 16 (k).toNatClampNeg).toInt := by rw [ey19, hrf15]
      refine lv_iconst (v := 1) hx hb dX13_sound_36 (by decide) ?_
      have hl22 : (1 : Int32).toInt = 1 := by decide
      refine lv_icmp_ne (tgt := 78) hx hb dX13_sound_37 (by decide) (fun c23 => absurd ((Int32.toInt_inj.mp (by omega) : y18 = 1)) c23) (fun c23 => ?_)
      refine lv_aload_n hx hb dX13_sound_40 rfl (lv_at hl 2 rfl) ?_
      refine lv_iload_n hx hb dX13_sound_41 rfl (lv_at hl 3 rfl) ?_
      refine lv_aload_n hx hb dX13_sound_42 rfl (lv_at hl 2 rfl) ?_
      refine hp_get (v := .int (m_le)) hx hb hts hown hZ ho1 fl_X13_331 rfl dX13_sound_43 ?_
      refine lv_aload_n hx hb dX13_sound_46 rfl (lv_at hl 2 rfl) ?_
      refine hp_get (v := .ref (q + 14)) hx hb hts hown hZ ho1 fl_X13_41 rfl dX13_sound_47 ?_
      refine lv_iload_n hx hb dX13_sound_50 rfl (lv_at hl 3 rfl) ?_
      obtain ⟨rf24, hrf25⟩ : ∃ f : Nat → Int32, f = rh 14 := ⟨_, rfl⟩
      have ea26 : V9 (q + 14) = some (.inl (cs 1, 120, .inl (rf24))) := by rw [hrf25]; exact pk6 14 (by decide)
      have hra27 := hq_rg hP.1 (hr_14 hR) ea26
      refine hp_iald hx hb hZ ea26 (hq_in (by omega) (by omega)) dX13_sound_51 ?_
      refine lv_topi (fun y28 ey29 => ?_)
      have b30 : hq_ir (hq_lo 1) (hq_hi 1) y28 := by rw [ey29]; exact hra27 _ (hq_ix (by omega) (by omega))
      have b30 : 0 ≤ (y28).toInt ∧ (y28).toInt ≤ 8 := b30
      have b31 : (y28).toInt = (rh 14 (k).toNatClampNeg).toInt := by rw [ey29, hrf25]
      refine lv_isub hx hb dX13_sound_52 ?_
      refine lv_topi (fun y32 ey33 => ?_)
      obtain ⟨k34, hk35, b36, b37⟩ := hq_sub (m_le) (y28)
      rw [← ey33] at hk35 b36 b37
      have hk35 : (y32).toInt = (m_le).toInt - (y28).toInt + k34 * 4294967296 := hk35
      obtain rfl : k34 = 0 := by omega
      refine hp_calli (hp_runV (As := [.int (k), .int (y32)]) (rest := []) hx hb hml hown hts (y_standsAt l D cs B G V9 n hP.1 (q) (mo) (rh) (m_tp) (m_sz) (m_fr) (m_bh) (m_hd) (m_ft) (m_fa) (m_le) (m_fo) (m_as) (m_fd) (m_bc) (m_bg) (m_bs) (m_be) (m_b0) (m_b1) (m_cm) (m_hc) (k) (y32) (wf) (u) (F)  ho1 ho2 pk6 hR hmo hu (by omega) hFT (by omega) hn (by omega)) hZ ho1 cv_X13_334 rfl rfl ⟨Nat.le_of_ble_eq_true rfl, Nat.le_of_ble_eq_true rfl⟩ rfl hl.1 rfl (Nat.le_of_ble_eq_true rfl) dX13_sound_53 ⟨(Nat.le_of_ble_eq_true rfl), (Nat.le_of_ble_eq_true rfl)⟩) hZ (fun r41 V38 n39 _ _ hw40 hZ => ?_)
      obtain ⟨rfl, rfl, hp44⟩ := hw40
      have b45 := hq_rng r41
      refine lv_if_eq (tgt := 121) hx hb dX13_sound_56 (by decide) (fun c46 => ?_) (fun c46 => ?_)
      · have c46 : (r41).toInt = (0 : Int) := hq_eqi.mp c46
        have hnst : ¬ (0 ≤ (y32).toInt ∧ sp_pf F (u.drop (y32).toInt.toNat) = true) := by rcases hp44 with g9 | g9; (· omega); (· exact g9.2)
        refine lv_iload_n hx hb dX13_sound_121 rfl (lv_at hl 1 rfl) ?_
        refine lv_aload_n hx hb dX13_sound_122 rfl (lv_at hl 2 rfl) ?_
        refine hp_get (v := .int (m_le)) hx hb hts hown hZ ho1 fl_X13_331 rfl dX13_sound_123 ?_
        refine lv_icmp_ne (tgt := 133) hx hb dX13_sound_126 (by decide) (fun c47 => ?_) (fun c47 => ?_)
        · have c47 : ¬ (m_le).toInt = (m_le).toInt := fun h9 => c47 (hq_eqi.mpr h9)
          refine lv_iconst (v := 0) hx hb dX13_sound_133 (by decide) ?_
          refine lv_istore_n (lv' := [(3, .int (0)), (2, .int (m_le)), (0, .ref (mo)), (1, .int (k))]) hx hb dX13_sound_134 rfl hl (by decide) rfl (fun ls hl => ?_)
          refine lv_iconst (v := 0) hx hb dX13_sound_135 (by decide) ?_
          refine lv_istore (lv' := [(4, .int (0)), (3, .int (0)), (2, .int (m_le)), (0, .ref (mo)), (1, .int (k))]) hx hb dX13_sound_136 hl (by decide) rfl (fun ls hl => ?_)
          have hl54 : (0 : Int32).toInt = 0 := by decide
          have hl55 : (0 : Int32).toInt = 0 := by decide
          suffices lp138 : ∀ (k9 : Nat) (V9 : hp_V) (H9 : Heap) (locs9 : List Loc) (ls : Array Slot) (sa9 : Int32) (i138 : Int32), (100 - i138.toInt).toNat = k9 → hp_Z D cs B s V9 H9 n locs9 → hq_P cs G (fun _ => true) V V9 → V9 (mo) = some (.inr (13, hm_o q (m_tp) (m_sz) (m_fr) (m_bh) (m_hd) (m_ft) (m_fa) (m_le) (m_fo) (m_as) (m_fd) (m_bc) (m_bg) (m_bs) (m_be) (m_b0) (m_b1) (m_cm) (m_hc))) → V9 (q + 21) = some (.inl (cs 0, 276, .inl (wf))) → V9 (q + 22) = some (.inl (cs 0, 276, .inl (sf))) → V9 (q + 24) = some (.inl (cs 0, 30, .inl (bf9))) → V9 (q + 23) = some (.inl (cs 3, 60, .inl (df))) → (∀ x, x ≠ mo → x ≠ q + 21 → x ≠ q + 22 → x ≠ q + 24 → x ≠ q + 23 → V9 x = V x) → hm_AR cs V9 q rh → 0 ≤ i138.toInt → i138.toInt ≤ 30 → 0 ≤ sa9.toInt ∧ sa9.toInt ≤ 1 → lv_has ls 5 [(4, .int (i138)), (3, .int (sa9)), (2, .int (m_le)), (0, .ref (mo)), (1, .int (k))] → W p l e ({ frames := 2, cells := 0, slots := 0, locals := 45 }) s m ([.ref (mo), .int (k)] : List Value).toArray below meth c H9 locs9 0 0 (MQ below (hp_QV D cs B (fun V' n' => n = n' ∧ hq_P cs G (fun _ => true) V V' ∧ (∀ x, x ≠ mo → x ≠ q + 21 → x ≠ q + 22 → x ≠ q + 24 → x ≠ q + 23 → V' x = V x) ∧ (∃ m_le1 : Int32, ∃ wf1 : Nat → Int32, ∃ sf1 : Nat → Int32, ∃ bf1 : Nat → Int32, ∃ df1 : Nat → Int32, V' (mo) = some (.inr (13, hm_o q (m_tp) (m_sz) (m_fr) (m_bh) (m_hd) (m_ft) (m_fa) (m_le1) (m_fo) (m_as) (m_fd) (m_bc) (m_bg) (m_bs) (m_be) (m_b0) (m_b1) (m_cm) (m_hc))) ∧ V' (q + 21) = some (.inl (cs 0, 276, .inl (wf1))) ∧ V' (q + 22) = some (.inl (cs 0, 276, .inl (sf1))) ∧ V' (q + 24) = some (.inl (cs 0, 30, .inl (bf1))) ∧ V' (q + 23) = some (.inl (cs 3, 60, .inl (df1))) ∧ (sp_rp m_le1 wf1 (sp_sndl F S u)) ∧ (sp_b8 (sp_sndl F S u)) ∧ (0 ≤ m_le1.toInt ∧ m_le1.toInt ≤ 276)))) ([.ref (mo), .int (k)] : List Value).toArray s 0 0 (hp_F B)) (F0 m 138 ls []) from lp138 _ _ _ _ ls (0) (0) rfl hZ hP ho1 ho2 ho3 ho4 ho5 (fun x8 hne0 hne1 hne2 hne3 hne4 => fr7 x8 hne0 hne1 hne2 hne3 hne4) pk6 (by omega) (by omega) (by omega) (lv_sub hl [0, 1, 2, 3, 4] rfl)
          intro k9
          induction k9 using Nat.strongRecOn with
          | _ k9 ih138 =>
            intro V9 H9 locs9 ls sa9 i138   hk138 hZ hP ho48 ho49 ho50 ho51 ho52 fr138 pk53 hv56 hv57 hv58 hl
            have hb_sa9 := hq_rng sa9
            have hb_i138 := hq_rng i138
            have hf59 := hq_rg20 hP.1 (hr_21 hR) ho49
            have hf60 := hq_rg20 hP.1 (hr_22 hR) ho50
            have hf61 := hq_rg20 hP.1 (hr_24 hR) ho51
            refine lv_iload hx hb dX13_sound_138 (lv_at hl 0 rfl) ?_
            refine lv_iload_n hx hb dX13_sound_140 rfl (lv_at hl 2 rfl) ?_
            refine lv_icmp_ge (tgt := 177) hx hb dX13_sound_141 (by decide) (fun c62 => ?_) (fun c62 => ?_)
            · have c62 : (m_le).toInt ≤ (i138).toInt := hq_lei.mp c62
              refine lv_aload_n hx hb dX13_sound_177 rfl (lv_at hl 3 rfl) ?_
              refine hp_get (v := .ref (q + 23)) hx hb hts hown hZ ho48 fl_X13_219 rfl dX13_sound_178 ?_
              refine lv_iload_n hx hb dX13_sound_181 rfl (lv_at hl 4 rfl) ?_
              refine lv_iload_n hx hb dX13_sound_182 rfl (lv_at hl 1 rfl) ?_
              refine lv_if_ne (tgt := 190) hx hb dX13_sound_183 (by decide) (fun c63 => ?_) (fun c63 => ?_)
              · have c63 : ¬ (sa9).toInt = (0 : Int) := fun h9 => c63 (hq_eqi.mpr h9)
                refine lv_iconst (v := 0) hx hb dX13_sound_190 (by decide) ?_
                refine hp_zast hx hb hZ ho52 (hq_in (by omega) (by omega)) dX13_sound_191 (fun V64 _ _ e65 o66 hZ => ?_)
                have e65 : V64 (q + 23) = some (.inl (cs 3, 60, .inl (upd (df) ((k : Int32).toNatClampNeg) ((vp_nar .boolean 0))))) := e65
                have hP := hP.put (hr_23 hR) e65 o66 (hq_c22 (by omega)) rfl
                obtain ⟨g67, ge68⟩ : ∃ g9 : Nat → Int32, g9 = upd (df) ((k : Int32).toNatClampNeg) ((vp_nar .boolean 0)) := ⟨_, rfl⟩
                have fx69 : V64 (q + 23) = some (.inl (cs 3, 60, .inl (g67))) := by rw [ge68]; exact e65
                have fx71 : V64 (mo) = some (.inr (13, hm_o q (m_tp) (m_sz) (m_fr) (m_bh) (m_hd) (m_ft) (m_fa) (m_le) (m_fo) (m_as) (m_fd) (m_bc) (m_bg) (m_bs) (m_be) (m_b0) (m_b1) (m_cm) (m_hc))) := (o66 (mo) (hq_tne hmo (hr_23 hR) (by simp))).trans (ho48)
                have fx72 : V64 (q + 21) = some (.inl (cs 0, 276, .inl (wf))) := (o66 (q + 21) (hq_tne (hr_21 hR) (hr_23 hR) (by simp))).trans (ho49)
                have fx73 : V64 (q + 22) = some (.inl (cs 0, 276, .inl (sf))) := (o66 (q + 22) (hq_tne (hr_22 hR) (hr_23 hR) (by simp))).trans (ho50)
                have fx74 : V64 (q + 24) = some (.inl (cs 0, 30, .inl (bf9))) := (o66 (q + 24) (hq_tne (hr_24 hR) (hr_23 hR) (by simp))).trans (ho51)
                have hno : sp_sndl F S u = u := sp_sndl_n (fun g9 => hnst ⟨by omega, by rw [show (y32).toInt.toNat = u.length - F.length by omega]; exact g9.2⟩)
                exact hp_vret hx hb hr hlocks hZ ⟨rfl, hP, (fun x8 hne0 hne1 hne2 hne3 hne4 => (o66 x8 hne4).trans (fr138 x8 hne0 hne1 hne2 hne3 hne4)), m_le, wf, sf, bf9, g67, fx71, fx72, fx73, fx74, fx69, (by rw [hno]; exact hu), (by rw [hno]; exact hub), by omega⟩ dX13_sound_192
              · have c63 : (sa9).toInt = (0 : Int) := hq_eqi.mp c63
                refine lv_iconst (v := 1) hx hb dX13_sound_186 (by decide) ?_
                refine lv_goto (tgt := 191) hx hb dX13_sound_187 (by decide) ?_
                refine hp_zast hx hb hZ ho52 (hq_in (by omega) (by omega)) dX13_sound_191 (fun V75 _ _ e76 o77 hZ => ?_)
                have e76 : V75 (q + 23) = some (.inl (cs 3, 60, .inl (upd (df) ((k : Int32).toNatClampNeg) ((vp_nar .boolean 1))))) := e76
                have hP := hP.put (hr_23 hR) e76 o77 (hq_c22 (by omega)) rfl
                obtain ⟨g78, ge79⟩ : ∃ g9 : Nat → Int32, g9 = upd (df) ((k : Int32).toNatClampNeg) ((vp_nar .boolean 1)) := ⟨_, rfl⟩
                have fx80 : V75 (q + 23) = some (.inl (cs 3, 60, .inl (g78))) := by rw [ge79]; exact e76
                have fx82 : V75 (mo) = some (.inr (13, hm_o q (m_tp) (m_sz) (m_fr) (m_bh) (m_hd) (m_ft) (m_fa) (m_le) (m_fo) (m_as) (m_fd) (m_bc) (m_bg) (m_bs) (m_be) (m_b0) (m_b1) (m_cm) (m_hc))) := (o77 (mo) (hq_tne hmo (hr_23 hR) (by simp))).trans (ho48)
                have fx83 : V75 (q + 21) = some (.inl (cs 0, 276, .inl (wf))) := (o77 (q + 21) (hq_tne (hr_21 hR) (hr_23 hR) (by simp))).trans (ho49)
                have fx84 : V75 (q + 22) = some (.inl (cs 0, 276, .inl (sf))) := (o77 (q + 22) (hq_tne (hr_22 hR) (hr_23 hR) (by simp))).trans (ho50)
                have fx85 : V75 (q + 24) = some (.inl (cs 0, 30, .inl (bf9))) := (o77 (q + 24) (hq_tne (hr_24 hR) (hr_23 hR) (by simp))).trans (ho51)
                have hno : sp_sndl F S u = u := sp_sndl_n (fun g9 => hnst ⟨by omega, by rw [show (y32).toInt.toNat = u.length - F.length by omega]; exact g9.2⟩)
                exact hp_vret hx hb hr hlocks hZ ⟨rfl, hP, (fun x8 hne0 hne1 hne2 hne3 hne4 => (o77 x8 hne4).trans (fr138 x8 hne0 hne1 hne2 hne3 hne4)), m_le, wf, sf, bf9, g78, fx82, fx83, fx84, fx85, fx80, (by rw [hno]; exact hu), (by rw [hno]; exact hub), by omega⟩ dX13_sound_192
            · have c62 : ¬ (m_le).toInt ≤ (i138).toInt := fun h9 => c62 (hq_lei.mpr h9)
              refine lv_iload_n hx hb dX13_sound_144 rfl (lv_at hl 1 rfl) ?_
              refine lv_if_eq (tgt := 177) hx hb dX13_sound_145 (by decide) (fun c86 => ?_) (fun c86 => ?_)
              · have c86 : (sa9).toInt = (0 : Int) := hq_eqi.mp c86
                refine lv_aload_n hx hb dX13_sound_177 rfl (lv_at hl 3 rfl) ?_
                refine hp_get (v := .ref (q + 23)) hx hb hts hown hZ ho48 fl_X13_219 rfl dX13_sound_178 ?_
                refine lv_iload_n hx hb dX13_sound_181 rfl (lv_at hl 4 rfl) ?_
                refine lv_iload_n hx hb dX13_sound_182 rfl (lv_at hl 1 rfl) ?_
                have hl87 : (0 : Int32).toInt = 0 := by decide
                refine lv_if_ne (tgt := 190) hx hb dX13_sound_183 (by decide) (fun c88 => absurd ((Int32.toInt_inj.mp (by omega) : sa9 = 0)) c88) (fun c88 => ?_)
                refine lv_iconst (v := 1) hx hb dX13_sound_186 (by decide) ?_
                refine lv_goto (tgt := 191) hx hb dX13_sound_187 (by decide) ?_
                refine hp_zast hx hb hZ ho52 (hq_in (by omega) (by omega)) dX13_sound_191 (fun V89 _ _ e90 o91 hZ => ?_)
                have e90 : V89 (q + 23) = some (.inl (cs 3, 60, .inl (upd (df) ((k : Int32).toNatClampNeg) ((vp_nar .boolean 1))))) := e90
                have hP := hP.put (hr_23 hR) e90 o91 (hq_c22 (by omega)) rfl
                obtain ⟨g92, ge93⟩ : ∃ g9 : Nat → Int32, g9 = upd (df) ((k : Int32).toNatClampNeg) ((vp_nar .boolean 1)) := ⟨_, rfl⟩
                have fx94 : V89 (q + 23) = some (.inl (cs 3, 60, .inl (g92))) := by rw [ge93]; exact e90
                have fx96 : V89 (mo) = some (.inr (13, hm_o q (m_tp) (m_sz) (m_fr) (m_bh) (m_hd) (m_ft) (m_fa) (m_le) (m_fo) (m_as) (m_fd) (m_bc) (m_bg) (m_bs) (m_be) (m_b0) (m_b1) (m_cm) (m_hc))) := (o91 (mo) (hq_tne hmo (hr_23 hR) (by simp))).trans (ho48)
                have fx97 : V89 (q + 21) = some (.inl (cs 0, 276, .inl (wf))) := (o91 (q + 21) (hq_tne (hr_21 hR) (hr_23 hR) (by simp))).trans (ho49)
                have fx98 : V89 (q + 22) = some (.inl (cs 0, 276, .inl (sf))) := (o91 (q + 22) (hq_tne (hr_22 hR) (hr_23 hR) (by simp))).trans (ho50)
                have fx99 : V89 (q + 24) = some (.inl (cs 0, 30, .inl (bf9))) := (o91 (q + 24) (hq_tne (hr_24 hR) (hr_23 hR) (by simp))).trans (ho51)
                have hno : sp_sndl F S u = u := sp_sndl_n (fun g9 => hnst ⟨by omega, by rw [show (y32).toInt.toNat = u.length - F.length by omega]; exact g9.2⟩)
                exact hp_vret hx hb hr hlocks hZ ⟨rfl, hP, (fun x8 hne0 hne1 hne2 hne3 hne4 => (o91 x8 hne4).trans (fr138 x8 hne0 hne1 hne2 hne3 hne4)), m_le, wf, sf, bf9, g92, fx96, fx97, fx98, fx99, fx94, (by rw [hno]; exact hu), (by rw [hno]; exact hub), by omega⟩ dX13_sound_192
              · have c86 : ¬ (sa9).toInt = (0 : Int) := fun h9 => c86 (hq_eqi.mpr h9)
                refine lv_aload_n hx hb dX13_sound_148 rfl (lv_at hl 3 rfl) ?_
                refine hp_get (v := .ref (q + 24)) hx hb hts hown hZ ho48 fl_X13_223 rfl dX13_sound_149 ?_
                refine lv_iload hx hb dX13_sound_152 (lv_at hl 0 rfl) ?_
                refine hp_bald hx hb hZ ho51 (hq_in (by omega) (by omega)) dX13_sound_154 ?_
                refine lv_topi (fun y100 ey101 => ?_)
                have b102 := hq_rng y100
                refine lv_aload_n hx hb dX13_sound_155 rfl (lv_at hl 3 rfl) ?_
                refine hp_get (v := .ref (q + 21)) hx hb hts hown hZ ho48 fl_X13_213 rfl dX13_sound_156 ?_
                refine lv_iload hx hb dX13_sound_159 (lv_at hl 0 rfl) ?_
                refine hp_bald hx hb hZ ho49 (hq_in (by omega) (by omega)) dX13_sound_161 ?_
                refine lv_topi (fun y103 ey104 => ?_)
                have b105 := hq_rng y103
                refine lv_icmp_ne (tgt := 169) hx hb dX13_sound_162 (by decide) (fun c106 => ?_) (fun c106 => ?_)
                · have c106 : ¬ (y100).toInt = (y103).toInt := fun h9 => c106 (hq_eqi.mpr h9)
                  refine lv_iconst (v := 0) hx hb dX13_sound_169 (by decide) ?_
                  refine lv_istore_n (lv' := [(3, .int (0)), (4, .int (i138)), (2, .int (m_le)), (0, .ref (mo)), (1, .int (k))]) hx hb dX13_sound_170 rfl hl (by decide) rfl (fun ls hl => ?_)
                  obtain ⟨y107, ey108⟩ : ∃ y : Int32, y = i138 + (1) := ⟨_, rfl⟩
                  obtain ⟨k109, hk110, b111, b112⟩ := hq_add (i138) (1)
                  rw [← ey108] at hk110 b111 b112
                  have hk110 : (y107).toInt = (i138).toInt + (1) + k109 * 4294967296 := hk110
                  obtain rfl : k109 = 0 := by omega
                  refine lv_iinc (v := y107) (lv' := [(4, .int (y107)), (3, .int (0)), (2, .int (m_le)), (0, .ref (mo)), (1, .int (k))]) hx hb dX13_sound_171 hl (k := 1) rfl (by rw [ey108]; rfl) (by decide) rfl (fun ls hl => ?_)
                  refine lv_goto (tgt := 138) hx hb dX13_sound_174 (by decide) ?_
                  have hl113 : (0 : Int32).toInt = 0 := by decide
                  exact ih138 _ (by omega) _ _ _ ls (0) (y107) rfl hZ hP ho48 ho49 ho50 ho51 ho52 (fun x8 hne0 hne1 hne2 hne3 hne4 => fr138 x8 hne0 hne1 hne2 hne3 hne4) pk53 (by omega) (by omega) (by omega) (lv_sub hl [0, 1, 2, 3, 4] rfl)
                · have c106 : (y100).toInt = (y103).toInt := hq_eqi.mp c106
                  refine lv_iconst (v := 1) hx hb dX13_sound_165 (by decide) ?_
                  refine lv_goto (tgt := 170) hx hb dX13_sound_166 (by decide) ?_
                  refine lv_istore_n (lv' := [(3, .int (1)), (4, .int (i138)), (2, .int (m_le)), (0, .ref (mo)), (1, .int (k))]) hx hb dX13_sound_170 rfl hl (by decide) rfl (fun ls hl => ?_)
                  obtain ⟨y114, ey115⟩ : ∃ y : Int32, y = i138 + (1) := ⟨_, rfl⟩
                  obtain ⟨k116, hk117, b118, b119⟩ := hq_add (i138) (1)
                  rw [← ey115] at hk117 b118 b119
                  have hk117 : (y114).toInt = (i138).toInt + (1) + k116 * 4294967296 := hk117
                  obtain rfl : k116 = 0 := by omega
                  refine lv_iinc (v := y114) (lv' := [(4, .int (y114)), (3, .int (1)), (2, .int (m_le)), (0, .ref (mo)), (1, .int (k))]) hx hb dX13_sound_171 hl (k := 1) rfl (by rw [ey115]; rfl) (by decide) rfl (fun ls hl => ?_)
                  refine lv_goto (tgt := 138) hx hb dX13_sound_174 (by decide) ?_
                  have hl120 : (1 : Int32).toInt = 1 := by decide
                  exact ih138 _ (by omega) _ _ _ ls (1) (y114) rfl hZ hP ho48 ho49 ho50 ho51 ho52 (fun x8 hne0 hne1 hne2 hne3 hne4 => fr138 x8 hne0 hne1 hne2 hne3 hne4) pk53 (by omega) (by omega) (by omega) (lv_sub hl [0, 1, 2, 3, 4] rfl)
        · have c47 : (m_le).toInt = (m_le).toInt := hq_eqi.mp c47
          refine lv_iconst (v := 1) hx hb dX13_sound_129 (by decide) ?_
          refine lv_goto (tgt := 134) hx hb dX13_sound_130 (by decide) ?_
          refine lv_istore_n (lv' := [(3, .int (1)), (2, .int (m_le)), (0, .ref (mo)), (1, .int (k))]) hx hb dX13_sound_134 rfl hl (by decide) rfl (fun ls hl => ?_)
          refine lv_iconst (v := 0) hx hb dX13_sound_135 (by decide) ?_
          refine lv_istore (lv' := [(4, .int (0)), (3, .int (1)), (2, .int (m_le)), (0, .ref (mo)), (1, .int (k))]) hx hb dX13_sound_136 hl (by decide) rfl (fun ls hl => ?_)
          have hl127 : (1 : Int32).toInt = 1 := by decide
          have hl128 : (0 : Int32).toInt = 0 := by decide
          suffices lp138 : ∀ (k9 : Nat) (V9 : hp_V) (H9 : Heap) (locs9 : List Loc) (ls : Array Slot) (sa9 : Int32) (i138 : Int32), (100 - i138.toInt).toNat = k9 → hp_Z D cs B s V9 H9 n locs9 → hq_P cs G (fun _ => true) V V9 → V9 (mo) = some (.inr (13, hm_o q (m_tp) (m_sz) (m_fr) (m_bh) (m_hd) (m_ft) (m_fa) (m_le) (m_fo) (m_as) (m_fd) (m_bc) (m_bg) (m_bs) (m_be) (m_b0) (m_b1) (m_cm) (m_hc))) → V9 (q + 21) = some (.inl (cs 0, 276, .inl (wf))) → V9 (q + 22) = some (.inl (cs 0, 276, .inl (sf))) → V9 (q + 24) = some (.inl (cs 0, 30, .inl (bf9))) → V9 (q + 23) = some (.inl (cs 3, 60, .inl (df))) → (∀ x, x ≠ mo → x ≠ q + 21 → x ≠ q + 22 → x ≠ q + 24 → x ≠ q + 23 → V9 x = V x) → hm_AR cs V9 q rh → 0 ≤ i138.toInt → i138.toInt ≤ 30 → 0 ≤ sa9.toInt ∧ sa9.toInt ≤ 1 → lv_has ls 5 [(4, .int (i138)), (3, .int (sa9)), (2, .int (m_le)), (0, .ref (mo)), (1, .int (k))] → W p l e ({ frames := 2, cells := 0, slots := 0, locals := 45 }) s m ([.ref (mo), .int (k)] : List Value).toArray below meth c H9 locs9 0 0 (MQ below (hp_QV D cs B (fun V' n' => n = n' ∧ hq_P cs G (fun _ => true) V V' ∧ (∀ x, x ≠ mo → x ≠ q + 21 → x ≠ q + 22 → x ≠ q + 24 → x ≠ q + 23 → V' x = V x) ∧ (∃ m_le1 : Int32, ∃ wf1 : Nat → Int32, ∃ sf1 : Nat → Int32, ∃ bf1 : Nat → Int32, ∃ df1 : Nat → Int32, V' (mo) = some (.inr (13, hm_o q (m_tp) (m_sz) (m_fr) (m_bh) (m_hd) (m_ft) (m_fa) (m_le1) (m_fo) (m_as) (m_fd) (m_bc) (m_bg) (m_bs) (m_be) (m_b0) (m_b1) (m_cm) (m_hc))) ∧ V' (q + 21) = some (.inl (cs 0, 276, .inl (wf1))) ∧ V' (q + 22) = some (.inl (cs 0, 276, .inl (sf1))) ∧ V' (q + 24) = some (.inl (cs 0, 30, .inl (bf1))) ∧ V' (q + 23) = some (.inl (cs 3, 60, .inl (df1))) ∧ (sp_rp m_le1 wf1 (sp_sndl F S u)) ∧ (sp_b8 (sp_sndl F S u)) ∧ (0 ≤ m_le1.toInt ∧ m_le1.toInt ≤ 276)))) ([.ref (mo), .int (k)] : List Value).toArray s 0 0 (hp_F B)) (F0 m 138 ls []) from lp138 _ _ _ _ ls (1) (0) rfl hZ hP ho1 ho2 ho3 ho4 ho5 (fun x8 hne0 hne1 hne2 hne3 hne4 => fr7 x8 hne0 hne1 hne2 hne3 hne4) pk6 (by omega) (by omega) (by omega) (lv_sub hl [0, 1, 2, 3, 4] rfl)
          intro k9
          induction k9 using Nat.strongRecOn with
          | _ k9 ih138 =>
            intro V9 H9 locs9 ls sa9 i138   hk138 hZ hP ho121 ho122 ho123 ho124 ho125 fr138 pk126 hv129 hv130 hv131 hl
            have hb_sa9 := hq_rng sa9
            have hb_i138 := hq_rng i138
            have hf132 := hq_rg20 hP.1 (hr_21 hR) ho122
            have hf133 := hq_rg20 hP.1 (hr_22 hR) ho123
            have hf134 := hq_rg20 hP.1 (hr_24 hR) ho124
            refine lv_iload hx hb dX13_sound_138 (lv_at hl 0 rfl) ?_
            refine lv_iload_n hx hb dX13_sound_140 rfl (lv_at hl 2 rfl) ?_
            refine lv_icmp_ge (tgt := 177) hx hb dX13_sound_141 (by decide) (fun c135 => ?_) (fun c135 => ?_)
            · have c135 : (m_le).toInt ≤ (i138).toInt := hq_lei.mp c135
              refine lv_aload_n hx hb dX13_sound_177 rfl (lv_at hl 3 rfl) ?_
              refine hp_get (v := .ref (q + 23)) hx hb hts hown hZ ho121 fl_X13_219 rfl dX13_sound_178 ?_
              refine lv_iload_n hx hb dX13_sound_181 rfl (lv_at hl 4 rfl) ?_
              refine lv_iload_n hx hb dX13_sound_182 rfl (lv_at hl 1 rfl) ?_
              refine lv_if_ne (tgt := 190) hx hb dX13_sound_183 (by decide) (fun c136 => ?_) (fun c136 => ?_)
              · have c136 : ¬ (sa9).toInt = (0 : Int) := fun h9 => c136 (hq_eqi.mpr h9)
                refine lv_iconst (v := 0) hx hb dX13_sound_190 (by decide) ?_
                refine hp_zast hx hb hZ ho125 (hq_in (by omega) (by omega)) dX13_sound_191 (fun V137 _ _ e138 o139 hZ => ?_)
                have e138 : V137 (q + 23) = some (.inl (cs 3, 60, .inl (upd (df) ((k : Int32).toNatClampNeg) ((vp_nar .boolean 0))))) := e138
                have hP := hP.put (hr_23 hR) e138 o139 (hq_c22 (by omega)) rfl
                obtain ⟨g140, ge141⟩ : ∃ g9 : Nat → Int32, g9 = upd (df) ((k : Int32).toNatClampNeg) ((vp_nar .boolean 0)) := ⟨_, rfl⟩
                have fx142 : V137 (q + 23) = some (.inl (cs 3, 60, .inl (g140))) := by rw [ge141]; exact e138
                have fx144 : V137 (mo) = some (.inr (13, hm_o q (m_tp) (m_sz) (m_fr) (m_bh) (m_hd) (m_ft) (m_fa) (m_le) (m_fo) (m_as) (m_fd) (m_bc) (m_bg) (m_bs) (m_be) (m_b0) (m_b1) (m_cm) (m_hc))) := (o139 (mo) (hq_tne hmo (hr_23 hR) (by simp))).trans (ho121)
                have fx145 : V137 (q + 21) = some (.inl (cs 0, 276, .inl (wf))) := (o139 (q + 21) (hq_tne (hr_21 hR) (hr_23 hR) (by simp))).trans (ho122)
                have fx146 : V137 (q + 22) = some (.inl (cs 0, 276, .inl (sf))) := (o139 (q + 22) (hq_tne (hr_22 hR) (hr_23 hR) (by simp))).trans (ho123)
                have fx147 : V137 (q + 24) = some (.inl (cs 0, 30, .inl (bf9))) := (o139 (q + 24) (hq_tne (hr_24 hR) (hr_23 hR) (by simp))).trans (ho124)
                have hno : sp_sndl F S u = u := sp_sndl_n (fun g9 => hnst ⟨by omega, by rw [show (y32).toInt.toNat = u.length - F.length by omega]; exact g9.2⟩)
                exact hp_vret hx hb hr hlocks hZ ⟨rfl, hP, (fun x8 hne0 hne1 hne2 hne3 hne4 => (o139 x8 hne4).trans (fr138 x8 hne0 hne1 hne2 hne3 hne4)), m_le, wf, sf, bf9, g140, fx144, fx145, fx146, fx147, fx142, (by rw [hno]; exact hu), (by rw [hno]; exact hub), by omega⟩ dX13_sound_192
              · have c136 : (sa9).toInt = (0 : Int) := hq_eqi.mp c136
                refine lv_iconst (v := 1) hx hb dX13_sound_186 (by decide) ?_
                refine lv_goto (tgt := 191) hx hb dX13_sound_187 (by decide) ?_
                refine hp_zast hx hb hZ ho125 (hq_in (by omega) (by omega)) dX13_sound_191 (fun V148 _ _ e149 o150 hZ => ?_)
                have e149 : V148 (q + 23) = some (.inl (cs 3, 60, .inl (upd (df) ((k : Int32).toNatClampNeg) ((vp_nar .boolean 1))))) := e149
                have hP := hP.put (hr_23 hR) e149 o150 (hq_c22 (by omega)) rfl
                obtain ⟨g151, ge152⟩ : ∃ g9 : Nat → Int32, g9 = upd (df) ((k : Int32).toNatClampNeg) ((vp_nar .boolean 1)) := ⟨_, rfl⟩
                have fx153 : V148 (q + 23) = some (.inl (cs 3, 60, .inl (g151))) := by rw [ge152]; exact e149
                have fx155 : V148 (mo) = some (.inr (13, hm_o q (m_tp) (m_sz) (m_fr) (m_bh) (m_hd) (m_ft) (m_fa) (m_le) (m_fo) (m_as) (m_fd) (m_bc) (m_bg) (m_bs) (m_be) (m_b0) (m_b1) (m_cm) (m_hc))) := (o150 (mo) (hq_tne hmo (hr_23 hR) (by simp))).trans (ho121)
                have fx156 : V148 (q + 21) = some (.inl (cs 0, 276, .inl (wf))) := (o150 (q + 21) (hq_tne (hr_21 hR) (hr_23 hR) (by simp))).trans (ho122)
                have fx157 : V148 (q + 22) = some (.inl (cs 0, 276, .inl (sf))) := (o150 (q + 22) (hq_tne (hr_22 hR) (hr_23 hR) (by simp))).trans (ho123)
                have fx158 : V148 (q + 24) = some (.inl (cs 0, 30, .inl (bf9))) := (o150 (q + 24) (hq_tne (hr_24 hR) (hr_23 hR) (by simp))).trans (ho124)
                have hno : sp_sndl F S u = u := sp_sndl_n (fun g9 => hnst ⟨by omega, by rw [show (y32).toInt.toNat = u.length - F.length by omega]; exact g9.2⟩)
                exact hp_vret hx hb hr hlocks hZ ⟨rfl, hP, (fun x8 hne0 hne1 hne2 hne3 hne4 => (o150 x8 hne4).trans (fr138 x8 hne0 hne1 hne2 hne3 hne4)), m_le, wf, sf, bf9, g151, fx155, fx156, fx157, fx158, fx153, (by rw [hno]; exact hu), (by rw [hno]; exact hub), by omega⟩ dX13_sound_192
            · have c135 : ¬ (m_le).toInt ≤ (i138).toInt := fun h9 => c135 (hq_lei.mpr h9)
              refine lv_iload_n hx hb dX13_sound_144 rfl (lv_at hl 1 rfl) ?_
              refine lv_if_eq (tgt := 177) hx hb dX13_sound_145 (by decide) (fun c159 => ?_) (fun c159 => ?_)
              · have c159 : (sa9).toInt = (0 : Int) := hq_eqi.mp c159
                refine lv_aload_n hx hb dX13_sound_177 rfl (lv_at hl 3 rfl) ?_
                refine hp_get (v := .ref (q + 23)) hx hb hts hown hZ ho121 fl_X13_219 rfl dX13_sound_178 ?_
                refine lv_iload_n hx hb dX13_sound_181 rfl (lv_at hl 4 rfl) ?_
                refine lv_iload_n hx hb dX13_sound_182 rfl (lv_at hl 1 rfl) ?_
                have hl160 : (0 : Int32).toInt = 0 := by decide
                refine lv_if_ne (tgt := 190) hx hb dX13_sound_183 (by decide) (fun c161 => absurd ((Int32.toInt_inj.mp (by omega) : sa9 = 0)) c161) (fun c161 => ?_)
                refine lv_iconst (v := 1) hx hb dX13_sound_186 (by decide) ?_
                refine lv_goto (tgt := 191) hx hb dX13_sound_187 (by decide) ?_
                refine hp_zast hx hb hZ ho125 (hq_in (by omega) (by omega)) dX13_sound_191 (fun V162 _ _ e163 o164 hZ => ?_)
                have e163 : V162 (q + 23) = some (.inl (cs 3, 60, .inl (upd (df) ((k : Int32).toNatClampNeg) ((vp_nar .boolean 1))))) := e163
                have hP := hP.put (hr_23 hR) e163 o164 (hq_c22 (by omega)) rfl
                obtain ⟨g165, ge166⟩ : ∃ g9 : Nat → Int32, g9 = upd (df) ((k : Int32).toNatClampNeg) ((vp_nar .boolean 1)) := ⟨_, rfl⟩
                have fx167 : V162 (q + 23) = some (.inl (cs 3, 60, .inl (g165))) := by rw [ge166]; exact e163
                have fx169 : V162 (mo) = some (.inr (13, hm_o q (m_tp) (m_sz) (m_fr) (m_bh) (m_hd) (m_ft) (m_fa) (m_le) (m_fo) (m_as) (m_fd) (m_bc) (m_bg) (m_bs) (m_be) (m_b0) (m_b1) (m_cm) (m_hc))) := (o164 (mo) (hq_tne hmo (hr_23 hR) (by simp))).trans (ho121)
                have fx170 : V162 (q + 21) = some (.inl (cs 0, 276, .inl (wf))) := (o164 (q + 21) (hq_tne (hr_21 hR) (hr_23 hR) (by simp))).trans (ho122)
                have fx171 : V162 (q + 22) = some (.inl (cs 0, 276, .inl (sf))) := (o164 (q + 22) (hq_tne (hr_22 hR) (hr_23 hR) (by simp))).trans (ho123)
                have fx172 : V162 (q + 24) = some (.inl (cs 0, 30, .inl (bf9))) := (o164 (q + 24) (hq_tne (hr_24 hR) (hr_23 hR) (by simp))).trans (ho124)
                have hno : sp_sndl F S u = u := sp_sndl_n (fun g9 => hnst ⟨by omega, by rw [show (y32).toInt.toNat = u.length - F.length by omega]; exact g9.2⟩)
                exact hp_vret hx hb hr hlocks hZ ⟨rfl, hP, (fun x8 hne0 hne1 hne2 hne3 hne4 => (o164 x8 hne4).trans (fr138 x8 hne0 hne1 hne2 hne3 hne4)), m_le, wf, sf, bf9, g165, fx169, fx170, fx171, fx172, fx167, (by rw [hno]; exact hu), (by rw [hno]; exact hub), by omega⟩ dX13_sound_192
              · have c159 : ¬ (sa9).toInt = (0 : Int) := fun h9 => c159 (hq_eqi.mpr h9)
                refine lv_aload_n hx hb dX13_sound_148 rfl (lv_at hl 3 rfl) ?_
                refine hp_get (v := .ref (q + 24)) hx hb hts hown hZ ho121 fl_X13_223 rfl dX13_sound_149 ?_
                refine lv_iload hx hb dX13_sound_152 (lv_at hl 0 rfl) ?_
                refine hp_bald hx hb hZ ho124 (hq_in (by omega) (by omega)) dX13_sound_154 ?_
                refine lv_topi (fun y173 ey174 => ?_)
                have b175 := hq_rng y173
                refine lv_aload_n hx hb dX13_sound_155 rfl (lv_at hl 3 rfl) ?_
                refine hp_get (v := .ref (q + 21)) hx hb hts hown hZ ho121 fl_X13_213 rfl dX13_sound_156 ?_
                refine lv_iload hx hb dX13_sound_159 (lv_at hl 0 rfl) ?_
                refine hp_bald hx hb hZ ho122 (hq_in (by omega) (by omega)) dX13_sound_161 ?_
                refine lv_topi (fun y176 ey177 => ?_)
                have b178 := hq_rng y176
                refine lv_icmp_ne (tgt := 169) hx hb dX13_sound_162 (by decide) (fun c179 => ?_) (fun c179 => ?_)
                · have c179 : ¬ (y173).toInt = (y176).toInt := fun h9 => c179 (hq_eqi.mpr h9)
                  refine lv_iconst (v := 0) hx hb dX13_sound_169 (by decide) ?_
                  refine lv_istore_n (lv' := [(3, .int (0)), (4, .int (i138)), (2, .int (m_le)), (0, .ref (mo)), (1, .int (k))]) hx hb dX13_sound_170 rfl hl (by decide) rfl (fun ls hl => ?_)
                  obtain ⟨y180, ey181⟩ : ∃ y : Int32, y = i138 + (1) := ⟨_, rfl⟩
                  obtain ⟨k182, hk183, b184, b185⟩ := hq_add (i138) (1)
                  rw [← ey181] at hk183 b184 b185
                  have hk183 : (y180).toInt = (i138).toInt + (1) + k182 * 4294967296 := hk183
                  obtain rfl : k182 = 0 := by omega
                  refine lv_iinc (v := y180) (lv' := [(4, .int (y180)), (3, .int (0)), (2, .int (m_le)), (0, .ref (mo)), (1, .int (k))]) hx hb dX13_sound_171 hl (k := 1) rfl (by rw [ey181]; rfl) (by decide) rfl (fun ls hl => ?_)
                  refine lv_goto (tgt := 138) hx hb dX13_sound_174 (by decide) ?_
                  have hl186 : (0 : Int32).toInt = 0 := by decide
                  exact ih138 _ (by omega) _ _ _ ls (0) (y180) rfl hZ hP ho121 ho122 ho123 ho124 ho125 (fun x8 hne0 hne1 hne2 hne3 hne4 => fr138 x8 hne0 hne1 hne2 hne3 hne4) pk126 (by omega) (by omega) (by omega) (lv_sub hl [0, 1, 2, 3, 4] rfl)
                · have c179 : (y173).toInt = (y176).toInt := hq_eqi.mp c179
                  refine lv_iconst (v := 1) hx hb dX13_sound_165 (by decide) ?_
                  refine lv_goto (tgt := 170) hx hb dX13_sound_166 (by decide) ?_
                  refine lv_istore_n (lv' := [(3, .int (1)), (4, .int (i138)), (2, .int (m_le)), (0, .ref (mo)), (1, .int (k))]) hx hb dX13_sound_170 rfl hl (by decide) rfl (fun ls hl => ?_)
                  obtain ⟨y187, ey188⟩ : ∃ y : Int32, y = i138 + (1) := ⟨_, rfl⟩
                  obtain ⟨k189, hk190, b191, b192⟩ := hq_add (i138) (1)
                  rw [← ey188] at hk190 b191 b192
                  have hk190 : (y187).toInt = (i138).toInt + (1) + k189 * 4294967296 := hk190
                  obtain rfl : k189 = 0 := by omega
                  refine lv_iinc (v := y187) (lv' := [(4, .int (y187)), (3, .int (1)), (2, .int (m_le)), (0, .ref (mo)), (1, .int (k))]) hx hb dX13_sound_171 hl (k := 1) rfl (by rw [ey188]; rfl) (by decide) rfl (fun ls hl => ?_)
                  refine lv_goto (tgt := 138) hx hb dX13_sound_174 (by decide) ?_
                  have hl193 : (1 : Int32).toInt = 1 := by decide
                  exact ih138 _ (by omega) _ _ _ ls (1) (y187) rfl hZ hP ho121 ho122 ho123 ho124 ho125 (fun x8 hne0 hne1 hne2 hne3 hne4 => fr138 x8 hne0 hne1 hne2 hne3 hne4) pk126 (by omega) (by omega) (by omega) (lv_sub hl [0, 1, 2, 3, 4] rfl)
      · have c46 : ¬ (r41).toInt = (0 : Int) := fun h9 => c46 (hq_eqi.mpr h9)
        obtain ⟨hst1, hst2⟩ : 0 ≤ (y32).toInt ∧ sp_pf F (u.drop (y32).toInt.toNat) = true := by rcases hp44 with g9 | g9; (· exact g9.2); (· omega)
        refine lv_aload_n hx hb dX13_sound_59 rfl (lv_at hl 2 rfl) ?_
        refine lv_iload_n hx hb dX13_sound_60 rfl (lv_at hl 3 rfl) ?_
        refine lv_aload_n hx hb dX13_sound_61 rfl (lv_at hl 2 rfl) ?_
        refine hp_get (v := .int (m_le)) hx hb hts hown hZ ho1 fl_X13_331 rfl dX13_sound_62 ?_
        refine lv_aload_n hx hb dX13_sound_65 rfl (lv_at hl 2 rfl) ?_
        refine hp_get (v := .ref (q + 14)) hx hb hts hown hZ ho1 fl_X13_41 rfl dX13_sound_66 ?_
        refine lv_iload_n hx hb dX13_sound_69 rfl (lv_at hl 3 rfl) ?_
        refine hp_iald hx hb hZ ea26 (hq_in (by omega) (by omega)) dX13_sound_70 ?_
        refine lv_topi (fun y194 ey195 => ?_)
        have b196 : hq_ir (hq_lo 1) (hq_hi 1) y194 := by rw [ey195]; exact hra27 _ (hq_ix (by omega) (by omega))
        have b196 : 0 ≤ (y194).toInt ∧ (y194).toInt ≤ 8 := b196
        have b197 : (y194).toInt = (rh 14 (k).toNatClampNeg).toInt := by rw [ey195, hrf25]
        refine lv_isub hx hb dX13_sound_71 ?_
        refine lv_topi (fun y198 ey199 => ?_)
        obtain ⟨k200, hk201, b202, b203⟩ := hq_sub (m_le) (y194)
        rw [← ey199] at hk201 b202 b203
        have hk201 : (y198).toInt = (m_le).toInt - (y194).toInt + k200 * 4294967296 := hk201
        obtain rfl : k200 = 0 := by omega
        have hpl := ((sp_pf_iff F _).mp hst2).1
        rw [List.length_drop] at hpl
        have hsa : (y198).toInt = (y32).toInt := by omega
        rw [← hsa] at hst2 hpl
        refine hp_callv (hp_runV (As := [.int (k), .int (y198)]) (rest := []) hx hb hml hown hts (y_changeAt l D cs B G V9 n hP.1 (q) (mo) (rh) (m_tp) (m_sz) (m_fr) (m_bh) (m_hd) (m_ft) (m_fa) (m_le) (m_fo) (m_as) (m_fd) (m_bc) (m_bg) (m_bs) (m_be) (m_b0) (m_b1) (m_cm) (m_hc) (k) (y198) (wf) (sf) (u) (F) (S)  ho1 ho2 ho3 pk6 hR hmo hmq hu hFT hST (by omega) (by omega) hub hSb (by omega)) hZ ho1 cv_X13_338 rfl rfl ⟨Nat.le_of_ble_eq_true rfl, Nat.le_of_ble_eq_true rfl⟩ rfl hl.1 rfl (Nat.le_of_ble_eq_true rfl) dX13_sound_72 ⟨(Nat.le_of_ble_eq_true rfl), (Nat.le_of_ble_eq_true rfl)⟩) hZ (fun V204 n205 _ _ hw206 hZ => ?_)
        obtain ⟨rfl, hq208, fr209, z210, u211, u212, ho213, ho214, ho215, hp216⟩ := hw206
        have b217 := hq_rng z210
        have hP := hP.trans hq208 (fun _ h => Bool.noConfusion h)
        have hf218 := hq_rg20 hP.1 (hr_21 hR) ho214
        have hf219 := hq_rg20 hP.1 (hr_22 hR) ho215
        have hcl := sp_cg_len (f := F) (s := S) (u := u) (a := (y198).toInt.toNat) (by omega)
        have hcu := hp216
        have hcu1 := hcu.1
        have hcb : sp_b8 (sp_cg F S u (y198).toInt.toNat) := sp_cg_b8 hub hSb
        refine lv_goto (tgt := 121) hx hb dX13_sound_75 (by decide) ?_
        refine lv_iload_n hx hb dX13_sound_121 rfl (lv_at hl 1 rfl) ?_
        refine lv_aload_n hx hb dX13_sound_122 rfl (lv_at hl 2 rfl) ?_
        refine hp_get (v := .int (z210)) hx hb hts hown hZ ho213 fl_X13_331 rfl dX13_sound_123 ?_
        refine lv_icmp_ne (tgt := 133) hx hb dX13_sound_126 (by decide) (fun c220 => ?_) (fun c220 => ?_)
        · have c220 : ¬ (m_le).toInt = (z210).toInt := fun h9 => c220 (hq_eqi.mpr h9)
          refine lv_iconst (v := 0) hx hb dX13_sound_133 (by decide) ?_
          refine lv_istore_n (lv' := [(3, .int (0)), (2, .int (m_le)), (0, .ref (mo)), (1, .int (k))]) hx hb dX13_sound_134 rfl hl (by decide) rfl (fun ls hl => ?_)
          refine lv_iconst (v := 0) hx hb dX13_sound_135 (by decide) ?_
          refine lv_istore (lv' := [(4, .int (0)), (3, .int (0)), (2, .int (m_le)), (0, .ref (mo)), (1, .int (k))]) hx hb dX13_sound_136 hl (by decide) rfl (fun ls hl => ?_)
          have fx224 : V204 (q + 24) = some (.inl (cs 0, 30, .inl (bf9))) := (fr209 (q + 24) (hq_tne (hr_24 hR) hmo (by simp)) (hq_tne (hr_24 hR) (hr_21 hR) (by simp)) (hq_tne (hr_24 hR) (hr_22 hR) (by simp))).trans (ho4)
          have fx226 : V204 (q + 23) = some (.inl (cs 3, 60, .inl (df))) := (fr209 (q + 23) (hq_tne (hr_23 hR) hmo (by simp)) (hq_tne (hr_23 hR) (hr_21 hR) (by simp)) (hq_tne (hr_23 hR) (hr_22 hR) (by simp))).trans (ho5)
          have pk228 := pk6.keep (fun x7 (hx7 : q ≤ x7 ∧ x7 < q + 19) => fr209 x7 (by omega) (by omega) (by omega))
          have hl230 : (0 : Int32).toInt = 0 := by decide
          have hl231 : (0 : Int32).toInt = 0 := by decide
          suffices lp138 : ∀ (k9 : Nat) (V9 : hp_V) (H9 : Heap) (locs9 : List Loc) (ls : Array Slot) (sa9 : Int32) (i138 : Int32), (100 - i138.toInt).toNat = k9 → hp_Z D cs B s V9 H9 n locs9 → hq_P cs G (fun _ => true) V V9 → V9 (mo) = some (.inr (13, hm_o q (m_tp) (m_sz) (m_fr) (m_bh) (m_hd) (m_ft) (m_fa) (z210) (m_fo) (m_as) (m_fd) (m_bc) (m_bg) (m_bs) (m_be) (m_b0) (m_b1) (m_cm) (m_hc))) → V9 (q + 21) = some (.inl (cs 0, 276, .inl (u211))) → V9 (q + 22) = some (.inl (cs 0, 276, .inl (u212))) → V9 (q + 24) = some (.inl (cs 0, 30, .inl (bf9))) → V9 (q + 23) = some (.inl (cs 3, 60, .inl (df))) → (∀ x, x ≠ mo → x ≠ q + 21 → x ≠ q + 22 → x ≠ q + 24 → x ≠ q + 23 → V9 x = V x) → hm_AR cs V9 q rh → 0 ≤ i138.toInt → i138.toInt ≤ 30 → 0 ≤ sa9.toInt ∧ sa9.toInt ≤ 1 → lv_has ls 5 [(4, .int (i138)), (3, .int (sa9)), (2, .int (m_le)), (0, .ref (mo)), (1, .int (k))] → W p l e ({ frames := 2, cells := 0, slots := 0, locals := 45 }) s m ([.ref (mo), .int (k)] : List Value).toArray below meth c H9 locs9 0 0 (MQ below (hp_QV D cs B (fun V' n' => n = n' ∧ hq_P cs G (fun _ => true) V V' ∧ (∀ x, x ≠ mo → x ≠ q + 21 → x ≠ q + 22 → x ≠ q + 24 → x ≠ q + 23 → V' x = V x) ∧ (∃ m_le1 : Int32, ∃ wf1 : Nat → Int32, ∃ sf1 : Nat → Int32, ∃ bf1 : Nat → Int32, ∃ df1 : Nat → Int32, V' (mo) = some (.inr (13, hm_o q (m_tp) (m_sz) (m_fr) (m_bh) (m_hd) (m_ft) (m_fa) (m_le1) (m_fo) (m_as) (m_fd) (m_bc) (m_bg) (m_bs) (m_be) (m_b0) (m_b1) (m_cm) (m_hc))) ∧ V' (q + 21) = some (.inl (cs 0, 276, .inl (wf1))) ∧ V' (q + 22) = some (.inl (cs 0, 276, .inl (sf1))) ∧ V' (q + 24) = some (.inl (cs 0, 30, .inl (bf1))) ∧ V' (q + 23) = some (.inl (cs 3, 60, .inl (df1))) ∧ (sp_rp m_le1 wf1 (sp_sndl F S u)) ∧ (sp_b8 (sp_sndl F S u)) ∧ (0 ≤ m_le1.toInt ∧ m_le1.toInt ≤ 276)))) ([.ref (mo), .int (k)] : List Value).toArray s 0 0 (hp_F B)) (F0 m 138 ls []) from lp138 _ _ _ _ ls (0) (0) rfl hZ hP ho213 ho214 ho215 fx224 fx226 (fun x8 hne0 hne1 hne2 hne3 hne4 => (fr209 x8 hne0 hne1 hne2).trans (fr7 x8 hne0 hne1 hne2 hne3 hne4)) pk228 (by omega) (by omega) (by omega) (lv_sub hl [0, 1, 2, 3, 4] rfl)
          intro k9
          induction k9 using Nat.strongRecOn with
          | _ k9 ih138 =>
            intro V9 H9 locs9 ls sa9 i138   hk138 hZ hP ho221 ho222 ho223 ho225 ho227 fr138 pk229 hv232 hv233 hv234 hl
            have hb_sa9 := hq_rng sa9
            have hb_i138 := hq_rng i138
            have hf235 := hq_rg20 hP.1 (hr_21 hR) ho222
            have hf236 := hq_rg20 hP.1 (hr_22 hR) ho223
            have hf237 := hq_rg20 hP.1 (hr_24 hR) ho225
            refine lv_iload hx hb dX13_sound_138 (lv_at hl 0 rfl) ?_
            refine lv_iload_n hx hb dX13_sound_140 rfl (lv_at hl 2 rfl) ?_
            refine lv_icmp_ge (tgt := 177) hx hb dX13_sound_141 (by decide) (fun c238 => ?_) (fun c238 => ?_)
            · have c238 : (m_le).toInt ≤ (i138).toInt := hq_lei.mp c238
              refine lv_aload_n hx hb dX13_sound_177 rfl (lv_at hl 3 rfl) ?_
              refine hp_get (v := .ref (q + 23)) hx hb hts hown hZ ho221 fl_X13_219 rfl dX13_sound_178 ?_
              refine lv_iload_n hx hb dX13_sound_181 rfl (lv_at hl 4 rfl) ?_
              refine lv_iload_n hx hb dX13_sound_182 rfl (lv_at hl 1 rfl) ?_
              refine lv_if_ne (tgt := 190) hx hb dX13_sound_183 (by decide) (fun c239 => ?_) (fun c239 => ?_)
              · have c239 : ¬ (sa9).toInt = (0 : Int) := fun h9 => c239 (hq_eqi.mpr h9)
                refine lv_iconst (v := 0) hx hb dX13_sound_190 (by decide) ?_
                refine hp_zast hx hb hZ ho227 (hq_in (by omega) (by omega)) dX13_sound_191 (fun V240 _ _ e241 o242 hZ => ?_)
                have e241 : V240 (q + 23) = some (.inl (cs 3, 60, .inl (upd (df) ((k : Int32).toNatClampNeg) ((vp_nar .boolean 0))))) := e241
                have hP := hP.put (hr_23 hR) e241 o242 (hq_c22 (by omega)) rfl
                obtain ⟨g243, ge244⟩ : ∃ g9 : Nat → Int32, g9 = upd (df) ((k : Int32).toNatClampNeg) ((vp_nar .boolean 0)) := ⟨_, rfl⟩
                have fx245 : V240 (q + 23) = some (.inl (cs 3, 60, .inl (g243))) := by rw [ge244]; exact e241
                have fx247 : V240 (mo) = some (.inr (13, hm_o q (m_tp) (m_sz) (m_fr) (m_bh) (m_hd) (m_ft) (m_fa) (z210) (m_fo) (m_as) (m_fd) (m_bc) (m_bg) (m_bs) (m_be) (m_b0) (m_b1) (m_cm) (m_hc))) := (o242 (mo) (hq_tne hmo (hr_23 hR) (by simp))).trans (ho221)
                have fx248 : V240 (q + 21) = some (.inl (cs 0, 276, .inl (u211))) := (o242 (q + 21) (hq_tne (hr_21 hR) (hr_23 hR) (by simp))).trans (ho222)
                have fx249 : V240 (q + 22) = some (.inl (cs 0, 276, .inl (u212))) := (o242 (q + 22) (hq_tne (hr_22 hR) (hr_23 hR) (by simp))).trans (ho223)
                have fx250 : V240 (q + 24) = some (.inl (cs 0, 30, .inl (bf9))) := (o242 (q + 24) (hq_tne (hr_24 hR) (hr_23 hR) (by simp))).trans (ho225)
                have hno : sp_sndl F S u = sp_cg F S u (y198).toInt.toNat := by rw [sp_sndl_y (by omega) (by rw [show u.length - F.length = (y198).toInt.toNat by omega]; exact hst2), show u.length - F.length = (y198).toInt.toNat by omega]; unfold sp_cg; rw [List.drop_eq_nil_of_le (by omega), List.append_nil]
                exact hp_vret hx hb hr hlocks hZ ⟨rfl, hP, (fun x8 hne0 hne1 hne2 hne3 hne4 => (o242 x8 hne4).trans (fr138 x8 hne0 hne1 hne2 hne3 hne4)), z210, u211, u212, bf9, g243, fx247, fx248, fx249, fx250, fx245, (by rw [hno]; exact hcu), (by rw [hno]; exact hcb), by omega⟩ dX13_sound_192
              · have c239 : (sa9).toInt = (0 : Int) := hq_eqi.mp c239
                refine lv_iconst (v := 1) hx hb dX13_sound_186 (by decide) ?_
                refine lv_goto (tgt := 191) hx hb dX13_sound_187 (by decide) ?_
                refine hp_zast hx hb hZ ho227 (hq_in (by omega) (by omega)) dX13_sound_191 (fun V251 _ _ e252 o253 hZ => ?_)
                have e252 : V251 (q + 23) = some (.inl (cs 3, 60, .inl (upd (df) ((k : Int32).toNatClampNeg) ((vp_nar .boolean 1))))) := e252
                have hP := hP.put (hr_23 hR) e252 o253 (hq_c22 (by omega)) rfl
                obtain ⟨g254, ge255⟩ : ∃ g9 : Nat → Int32, g9 = upd (df) ((k : Int32).toNatClampNeg) ((vp_nar .boolean 1)) := ⟨_, rfl⟩
                have fx256 : V251 (q + 23) = some (.inl (cs 3, 60, .inl (g254))) := by rw [ge255]; exact e252
                have fx258 : V251 (mo) = some (.inr (13, hm_o q (m_tp) (m_sz) (m_fr) (m_bh) (m_hd) (m_ft) (m_fa) (z210) (m_fo) (m_as) (m_fd) (m_bc) (m_bg) (m_bs) (m_be) (m_b0) (m_b1) (m_cm) (m_hc))) := (o253 (mo) (hq_tne hmo (hr_23 hR) (by simp))).trans (ho221)
                have fx259 : V251 (q + 21) = some (.inl (cs 0, 276, .inl (u211))) := (o253 (q + 21) (hq_tne (hr_21 hR) (hr_23 hR) (by simp))).trans (ho222)
                have fx260 : V251 (q + 22) = some (.inl (cs 0, 276, .inl (u212))) := (o253 (q + 22) (hq_tne (hr_22 hR) (hr_23 hR) (by simp))).trans (ho223)
                have fx261 : V251 (q + 24) = some (.inl (cs 0, 30, .inl (bf9))) := (o253 (q + 24) (hq_tne (hr_24 hR) (hr_23 hR) (by simp))).trans (ho225)
                have hno : sp_sndl F S u = sp_cg F S u (y198).toInt.toNat := by rw [sp_sndl_y (by omega) (by rw [show u.length - F.length = (y198).toInt.toNat by omega]; exact hst2), show u.length - F.length = (y198).toInt.toNat by omega]; unfold sp_cg; rw [List.drop_eq_nil_of_le (by omega), List.append_nil]
                exact hp_vret hx hb hr hlocks hZ ⟨rfl, hP, (fun x8 hne0 hne1 hne2 hne3 hne4 => (o253 x8 hne4).trans (fr138 x8 hne0 hne1 hne2 hne3 hne4)), z210, u211, u212, bf9, g254, fx258, fx259, fx260, fx261, fx256, (by rw [hno]; exact hcu), (by rw [hno]; exact hcb), by omega⟩ dX13_sound_192
            · have c238 : ¬ (m_le).toInt ≤ (i138).toInt := fun h9 => c238 (hq_lei.mpr h9)
              refine lv_iload_n hx hb dX13_sound_144 rfl (lv_at hl 1 rfl) ?_
              refine lv_if_eq (tgt := 177) hx hb dX13_sound_145 (by decide) (fun c262 => ?_) (fun c262 => ?_)
              · have c262 : (sa9).toInt = (0 : Int) := hq_eqi.mp c262
                refine lv_aload_n hx hb dX13_sound_177 rfl (lv_at hl 3 rfl) ?_
                refine hp_get (v := .ref (q + 23)) hx hb hts hown hZ ho221 fl_X13_219 rfl dX13_sound_178 ?_
                refine lv_iload_n hx hb dX13_sound_181 rfl (lv_at hl 4 rfl) ?_
                refine lv_iload_n hx hb dX13_sound_182 rfl (lv_at hl 1 rfl) ?_
                have hl263 : (0 : Int32).toInt = 0 := by decide
                refine lv_if_ne (tgt := 190) hx hb dX13_sound_183 (by decide) (fun c264 => absurd ((Int32.toInt_inj.mp (by omega) : sa9 = 0)) c264) (fun c264 => ?_)
                refine lv_iconst (v := 1) hx hb dX13_sound_186 (by decide) ?_
                refine lv_goto (tgt := 191) hx hb dX13_sound_187 (by decide) ?_
                refine hp_zast hx hb hZ ho227 (hq_in (by omega) (by omega)) dX13_sound_191 (fun V265 _ _ e266 o267 hZ => ?_)
                have e266 : V265 (q + 23) = some (.inl (cs 3, 60, .inl (upd (df) ((k : Int32).toNatClampNeg) ((vp_nar .boolean 1))))) := e266
                have hP := hP.put (hr_23 hR) e266 o267 (hq_c22 (by omega)) rfl
                obtain ⟨g268, ge269⟩ : ∃ g9 : Nat → Int32, g9 = upd (df) ((k : Int32).toNatClampNeg) ((vp_nar .boolean 1)) := ⟨_, rfl⟩
                have fx270 : V265 (q + 23) = some (.inl (cs 3, 60, .inl (g268))) := by rw [ge269]; exact e266
                have fx272 : V265 (mo) = some (.inr (13, hm_o q (m_tp) (m_sz) (m_fr) (m_bh) (m_hd) (m_ft) (m_fa) (z210) (m_fo) (m_as) (m_fd) (m_bc) (m_bg) (m_bs) (m_be) (m_b0) (m_b1) (m_cm) (m_hc))) := (o267 (mo) (hq_tne hmo (hr_23 hR) (by simp))).trans (ho221)
                have fx273 : V265 (q + 21) = some (.inl (cs 0, 276, .inl (u211))) := (o267 (q + 21) (hq_tne (hr_21 hR) (hr_23 hR) (by simp))).trans (ho222)
                have fx274 : V265 (q + 22) = some (.inl (cs 0, 276, .inl (u212))) := (o267 (q + 22) (hq_tne (hr_22 hR) (hr_23 hR) (by simp))).trans (ho223)
                have fx275 : V265 (q + 24) = some (.inl (cs 0, 30, .inl (bf9))) := (o267 (q + 24) (hq_tne (hr_24 hR) (hr_23 hR) (by simp))).trans (ho225)
                have hno : sp_sndl F S u = sp_cg F S u (y198).toInt.toNat := by rw [sp_sndl_y (by omega) (by rw [show u.length - F.length = (y198).toInt.toNat by omega]; exact hst2), show u.length - F.length = (y198).toInt.toNat by omega]; unfold sp_cg; rw [List.drop_eq_nil_of_le (by omega), List.append_nil]
                exact hp_vret hx hb hr hlocks hZ ⟨rfl, hP, (fun x8 hne0 hne1 hne2 hne3 hne4 => (o267 x8 hne4).trans (fr138 x8 hne0 hne1 hne2 hne3 hne4)), z210, u211, u212, bf9, g268, fx272, fx273, fx274, fx275, fx270, (by rw [hno]; exact hcu), (by rw [hno]; exact hcb), by omega⟩ dX13_sound_192
              · have c262 : ¬ (sa9).toInt = (0 : Int) := fun h9 => c262 (hq_eqi.mpr h9)
                refine lv_aload_n hx hb dX13_sound_148 rfl (lv_at hl 3 rfl) ?_
                refine hp_get (v := .ref (q + 24)) hx hb hts hown hZ ho221 fl_X13_223 rfl dX13_sound_149 ?_
                refine lv_iload hx hb dX13_sound_152 (lv_at hl 0 rfl) ?_
                refine hp_bald hx hb hZ ho225 (hq_in (by omega) (by omega)) dX13_sound_154 ?_
                refine lv_topi (fun y276 ey277 => ?_)
                have b278 := hq_rng y276
                refine lv_aload_n hx hb dX13_sound_155 rfl (lv_at hl 3 rfl) ?_
                refine hp_get (v := .ref (q + 21)) hx hb hts hown hZ ho221 fl_X13_213 rfl dX13_sound_156 ?_
                refine lv_iload hx hb dX13_sound_159 (lv_at hl 0 rfl) ?_
                refine hp_bald hx hb hZ ho222 (hq_in (by omega) (by omega)) dX13_sound_161 ?_
                refine lv_topi (fun y279 ey280 => ?_)
                have b281 := hq_rng y279
                refine lv_icmp_ne (tgt := 169) hx hb dX13_sound_162 (by decide) (fun c282 => ?_) (fun c282 => ?_)
                · have c282 : ¬ (y276).toInt = (y279).toInt := fun h9 => c282 (hq_eqi.mpr h9)
                  refine lv_iconst (v := 0) hx hb dX13_sound_169 (by decide) ?_
                  refine lv_istore_n (lv' := [(3, .int (0)), (4, .int (i138)), (2, .int (m_le)), (0, .ref (mo)), (1, .int (k))]) hx hb dX13_sound_170 rfl hl (by decide) rfl (fun ls hl => ?_)
                  obtain ⟨y283, ey284⟩ : ∃ y : Int32, y = i138 + (1) := ⟨_, rfl⟩
                  obtain ⟨k285, hk286, b287, b288⟩ := hq_add (i138) (1)
                  rw [← ey284] at hk286 b287 b288
                  have hk286 : (y283).toInt = (i138).toInt + (1) + k285 * 4294967296 := hk286
                  obtain rfl : k285 = 0 := by omega
                  refine lv_iinc (v := y283) (lv' := [(4, .int (y283)), (3, .int (0)), (2, .int (m_le)), (0, .ref (mo)), (1, .int (k))]) hx hb dX13_sound_171 hl (k := 1) rfl (by rw [ey284]; rfl) (by decide) rfl (fun ls hl => ?_)
                  refine lv_goto (tgt := 138) hx hb dX13_sound_174 (by decide) ?_
                  have hl289 : (0 : Int32).toInt = 0 := by decide
                  exact ih138 _ (by omega) _ _ _ ls (0) (y283) rfl hZ hP ho221 ho222 ho223 ho225 ho227 (fun x8 hne0 hne1 hne2 hne3 hne4 => fr138 x8 hne0 hne1 hne2 hne3 hne4) pk229 (by omega) (by omega) (by omega) (lv_sub hl [0, 1, 2, 3, 4] rfl)
                · have c282 : (y276).toInt = (y279).toInt := hq_eqi.mp c282
                  refine lv_iconst (v := 1) hx hb dX13_sound_165 (by decide) ?_
                  refine lv_goto (tgt := 170) hx hb dX13_sound_166 (by decide) ?_
                  refine lv_istore_n (lv' := [(3, .int (1)), (4, .int (i138)), (2, .int (m_le)), (0, .ref (mo)), (1, .int (k))]) hx hb dX13_sound_170 rfl hl (by decide) rfl (fun ls hl => ?_)
                  obtain ⟨y290, ey291⟩ : ∃ y : Int32, y = i138 + (1) := ⟨_, rfl⟩
                  obtain ⟨k292, hk293, b294, b295⟩ := hq_add (i138) (1)
                  rw [← ey291] at hk293 b294 b295
                  have hk293 : (y290).toInt = (i138).toInt + (1) + k292 * 4294967296 := hk293
                  obtain rfl : k292 = 0 := by omega
                  refine lv_iinc (v := y290) (lv' := [(4, .int (y290)), (3, .int (1)), (2, .int (m_le)), (0, .ref (mo)), (1, .int (k))]) hx hb dX13_sound_171 hl (k := 1) rfl (by rw [ey291]; rfl) (by decide) rfl (fun ls hl => ?_)
                  refine lv_goto (tgt := 138) hx hb dX13_sound_174 (by decide) ?_
                  have hl296 : (1 : Int32).toInt = 1 := by decide
                  exact ih138 _ (by omega) _ _ _ ls (1) (y290) rfl hZ hP ho221 ho222 ho223 ho225 ho227 (fun x8 hne0 hne1 hne2 hne3 hne4 => fr138 x8 hne0 hne1 hne2 hne3 hne4) pk229 (by omega) (by omega) (by omega) (lv_sub hl [0, 1, 2, 3, 4] rfl)
        · have c220 : (m_le).toInt = (z210).toInt := hq_eqi.mp c220
          refine lv_iconst (v := 1) hx hb dX13_sound_129 (by decide) ?_
          refine lv_goto (tgt := 134) hx hb dX13_sound_130 (by decide) ?_
          refine lv_istore_n (lv' := [(3, .int (1)), (2, .int (m_le)), (0, .ref (mo)), (1, .int (k))]) hx hb dX13_sound_134 rfl hl (by decide) rfl (fun ls hl => ?_)
          refine lv_iconst (v := 0) hx hb dX13_sound_135 (by decide) ?_
          refine lv_istore (lv' := [(4, .int (0)), (3, .int (1)), (2, .int (m_le)), (0, .ref (mo)), (1, .int (k))]) hx hb dX13_sound_136 hl (by decide) rfl (fun ls hl => ?_)
          have fx300 : V204 (q + 24) = some (.inl (cs 0, 30, .inl (bf9))) := (fr209 (q + 24) (hq_tne (hr_24 hR) hmo (by simp)) (hq_tne (hr_24 hR) (hr_21 hR) (by simp)) (hq_tne (hr_24 hR) (hr_22 hR) (by simp))).trans (ho4)
          have fx302 : V204 (q + 23) = some (.inl (cs 3, 60, .inl (df))) := (fr209 (q + 23) (hq_tne (hr_23 hR) hmo (by simp)) (hq_tne (hr_23 hR) (hr_21 hR) (by simp)) (hq_tne (hr_23 hR) (hr_22 hR) (by simp))).trans (ho5)
          have pk304 := pk6.keep (fun x7 (hx7 : q ≤ x7 ∧ x7 < q + 19) => fr209 x7 (by omega) (by omega) (by omega))
          have hl306 : (1 : Int32).toInt = 1 := by decide
          have hl307 : (0 : Int32).toInt = 0 := by decide
          suffices lp138 : ∀ (k9 : Nat) (V9 : hp_V) (H9 : Heap) (locs9 : List Loc) (ls : Array Slot) (sa9 : Int32) (i138 : Int32), (100 - i138.toInt).toNat = k9 → hp_Z D cs B s V9 H9 n locs9 → hq_P cs G (fun _ => true) V V9 → V9 (mo) = some (.inr (13, hm_o q (m_tp) (m_sz) (m_fr) (m_bh) (m_hd) (m_ft) (m_fa) (z210) (m_fo) (m_as) (m_fd) (m_bc) (m_bg) (m_bs) (m_be) (m_b0) (m_b1) (m_cm) (m_hc))) → V9 (q + 21) = some (.inl (cs 0, 276, .inl (u211))) → V9 (q + 22) = some (.inl (cs 0, 276, .inl (u212))) → V9 (q + 24) = some (.inl (cs 0, 30, .inl (bf9))) → V9 (q + 23) = some (.inl (cs 3, 60, .inl (df))) → (∀ x, x ≠ mo → x ≠ q + 21 → x ≠ q + 22 → x ≠ q + 24 → x ≠ q + 23 → V9 x = V x) → hm_AR cs V9 q rh → 0 ≤ i138.toInt → i138.toInt ≤ 30 → 0 ≤ sa9.toInt ∧ sa9.toInt ≤ 1 → lv_has ls 5 [(4, .int (i138)), (3, .int (sa9)), (2, .int (m_le)), (0, .ref (mo)), (1, .int (k))] → W p l e ({ frames := 2, cells := 0, slots := 0, locals := 45 }) s m ([.ref (mo), .int (k)] : List Value).toArray below meth c H9 locs9 0 0 (MQ below (hp_QV D cs B (fun V' n' => n = n' ∧ hq_P cs G (fun _ => true) V V' ∧ (∀ x, x ≠ mo → x ≠ q + 21 → x ≠ q + 22 → x ≠ q + 24 → x ≠ q + 23 → V' x = V x) ∧ (∃ m_le1 : Int32, ∃ wf1 : Nat → Int32, ∃ sf1 : Nat → Int32, ∃ bf1 : Nat → Int32, ∃ df1 : Nat → Int32, V' (mo) = some (.inr (13, hm_o q (m_tp) (m_sz) (m_fr) (m_bh) (m_hd) (m_ft) (m_fa) (m_le1) (m_fo) (m_as) (m_fd) (m_bc) (m_bg) (m_bs) (m_be) (m_b0) (m_b1) (m_cm) (m_hc))) ∧ V' (q + 21) = some (.inl (cs 0, 276, .inl (wf1))) ∧ V' (q + 22) = some (.inl (cs 0, 276, .inl (sf1))) ∧ V' (q + 24) = some (.inl (cs 0, 30, .inl (bf1))) ∧ V' (q + 23) = some (.inl (cs 3, 60, .inl (df1))) ∧ (sp_rp m_le1 wf1 (sp_sndl F S u)) ∧ (sp_b8 (sp_sndl F S u)) ∧ (0 ≤ m_le1.toInt ∧ m_le1.toInt ≤ 276)))) ([.ref (mo), .int (k)] : List Value).toArray s 0 0 (hp_F B)) (F0 m 138 ls []) from lp138 _ _ _ _ ls (1) (0) rfl hZ hP ho213 ho214 ho215 fx300 fx302 (fun x8 hne0 hne1 hne2 hne3 hne4 => (fr209 x8 hne0 hne1 hne2).trans (fr7 x8 hne0 hne1 hne2 hne3 hne4)) pk304 (by omega) (by omega) (by omega) (lv_sub hl [0, 1, 2, 3, 4] rfl)
          intro k9
          induction k9 using Nat.strongRecOn with
          | _ k9 ih138 =>
            intro V9 H9 locs9 ls sa9 i138   hk138 hZ hP ho297 ho298 ho299 ho301 ho303 fr138 pk305 hv308 hv309 hv310 hl
            have hb_sa9 := hq_rng sa9
            have hb_i138 := hq_rng i138
            have hf311 := hq_rg20 hP.1 (hr_21 hR) ho298
            have hf312 := hq_rg20 hP.1 (hr_22 hR) ho299
            have hf313 := hq_rg20 hP.1 (hr_24 hR) ho301
            refine lv_iload hx hb dX13_sound_138 (lv_at hl 0 rfl) ?_
            refine lv_iload_n hx hb dX13_sound_140 rfl (lv_at hl 2 rfl) ?_
            refine lv_icmp_ge (tgt := 177) hx hb dX13_sound_141 (by decide) (fun c314 => ?_) (fun c314 => ?_)
            · have c314 : (m_le).toInt ≤ (i138).toInt := hq_lei.mp c314
              refine lv_aload_n hx hb dX13_sound_177 rfl (lv_at hl 3 rfl) ?_
              refine hp_get (v := .ref (q + 23)) hx hb hts hown hZ ho297 fl_X13_219 rfl dX13_sound_178 ?_
              refine lv_iload_n hx hb dX13_sound_181 rfl (lv_at hl 4 rfl) ?_
              refine lv_iload_n hx hb dX13_sound_182 rfl (lv_at hl 1 rfl) ?_
              refine lv_if_ne (tgt := 190) hx hb dX13_sound_183 (by decide) (fun c315 => ?_) (fun c315 => ?_)
              · have c315 : ¬ (sa9).toInt = (0 : Int) := fun h9 => c315 (hq_eqi.mpr h9)
                refine lv_iconst (v := 0) hx hb dX13_sound_190 (by decide) ?_
                refine hp_zast hx hb hZ ho303 (hq_in (by omega) (by omega)) dX13_sound_191 (fun V316 _ _ e317 o318 hZ => ?_)
                have e317 : V316 (q + 23) = some (.inl (cs 3, 60, .inl (upd (df) ((k : Int32).toNatClampNeg) ((vp_nar .boolean 0))))) := e317
                have hP := hP.put (hr_23 hR) e317 o318 (hq_c22 (by omega)) rfl
                obtain ⟨g319, ge320⟩ : ∃ g9 : Nat → Int32, g9 = upd (df) ((k : Int32).toNatClampNeg) ((vp_nar .boolean 0)) := ⟨_, rfl⟩
                have fx321 : V316 (q + 23) = some (.inl (cs 3, 60, .inl (g319))) := by rw [ge320]; exact e317
                have fx323 : V316 (mo) = some (.inr (13, hm_o q (m_tp) (m_sz) (m_fr) (m_bh) (m_hd) (m_ft) (m_fa) (z210) (m_fo) (m_as) (m_fd) (m_bc) (m_bg) (m_bs) (m_be) (m_b0) (m_b1) (m_cm) (m_hc))) := (o318 (mo) (hq_tne hmo (hr_23 hR) (by simp))).trans (ho297)
                have fx324 : V316 (q + 21) = some (.inl (cs 0, 276, .inl (u211))) := (o318 (q + 21) (hq_tne (hr_21 hR) (hr_23 hR) (by simp))).trans (ho298)
                have fx325 : V316 (q + 22) = some (.inl (cs 0, 276, .inl (u212))) := (o318 (q + 22) (hq_tne (hr_22 hR) (hr_23 hR) (by simp))).trans (ho299)
                have fx326 : V316 (q + 24) = some (.inl (cs 0, 30, .inl (bf9))) := (o318 (q + 24) (hq_tne (hr_24 hR) (hr_23 hR) (by simp))).trans (ho301)
                have hno : sp_sndl F S u = sp_cg F S u (y198).toInt.toNat := by rw [sp_sndl_y (by omega) (by rw [show u.length - F.length = (y198).toInt.toNat by omega]; exact hst2), show u.length - F.length = (y198).toInt.toNat by omega]; unfold sp_cg; rw [List.drop_eq_nil_of_le (by omega), List.append_nil]
                exact hp_vret hx hb hr hlocks hZ ⟨rfl, hP, (fun x8 hne0 hne1 hne2 hne3 hne4 => (o318 x8 hne4).trans (fr138 x8 hne0 hne1 hne2 hne3 hne4)), z210, u211, u212, bf9, g319, fx323, fx324, fx325, fx326, fx321, (by rw [hno]; exact hcu), (by rw [hno]; exact hcb), by omega⟩ dX13_sound_192
              · have c315 : (sa9).toInt = (0 : Int) := hq_eqi.mp c315
                refine lv_iconst (v := 1) hx hb dX13_sound_186 (by decide) ?_
                refine lv_goto (tgt := 191) hx hb dX13_sound_187 (by decide) ?_
                refine hp_zast hx hb hZ ho303 (hq_in (by omega) (by omega)) dX13_sound_191 (fun V327 _ _ e328 o329 hZ => ?_)
                have e328 : V327 (q + 23) = some (.inl (cs 3, 60, .inl (upd (df) ((k : Int32).toNatClampNeg) ((vp_nar .boolean 1))))) := e328
                have hP := hP.put (hr_23 hR) e328 o329 (hq_c22 (by omega)) rfl
                obtain ⟨g330, ge331⟩ : ∃ g9 : Nat → Int32, g9 = upd (df) ((k : Int32).toNatClampNeg) ((vp_nar .boolean 1)) := ⟨_, rfl⟩
                have fx332 : V327 (q + 23) = some (.inl (cs 3, 60, .inl (g330))) := by rw [ge331]; exact e328
                have fx334 : V327 (mo) = some (.inr (13, hm_o q (m_tp) (m_sz) (m_fr) (m_bh) (m_hd) (m_ft) (m_fa) (z210) (m_fo) (m_as) (m_fd) (m_bc) (m_bg) (m_bs) (m_be) (m_b0) (m_b1) (m_cm) (m_hc))) := (o329 (mo) (hq_tne hmo (hr_23 hR) (by simp))).trans (ho297)
                have fx335 : V327 (q + 21) = some (.inl (cs 0, 276, .inl (u211))) := (o329 (q + 21) (hq_tne (hr_21 hR) (hr_23 hR) (by simp))).trans (ho298)
                have fx336 : V327 (q + 22) = some (.inl (cs 0, 276, .inl (u212))) := (o329 (q + 22) (hq_tne (hr_22 hR) (hr_23 hR) (by simp))).trans (ho299)
                have fx337 : V327 (q + 24) = some (.inl (cs 0, 30, .inl (bf9))) := (o329 (q + 24) (hq_tne (hr_24 hR) (hr_23 hR) (by simp))).trans (ho301)
                have hno : sp_sndl F S u = sp_cg F S u (y198).toInt.toNat := by rw [sp_sndl_y (by omega) (by rw [show u.length - F.length = (y198).toInt.toNat by omega]; exact hst2), show u.length - F.length = (y198).toInt.toNat by omega]; unfold sp_cg; rw [List.drop_eq_nil_of_le (by omega), List.append_nil]
                exact hp_vret hx hb hr hlocks hZ ⟨rfl, hP, (fun x8 hne0 hne1 hne2 hne3 hne4 => (o329 x8 hne4).trans (fr138 x8 hne0 hne1 hne2 hne3 hne4)), z210, u211, u212, bf9, g330, fx334, fx335, fx336, fx337, fx332, (by rw [hno]; exact hcu), (by rw [hno]; exact hcb), by omega⟩ dX13_sound_192
            · have c314 : ¬ (m_le).toInt ≤ (i138).toInt := fun h9 => c314 (hq_lei.mpr h9)
              refine lv_iload_n hx hb dX13_sound_144 rfl (lv_at hl 1 rfl) ?_
              refine lv_if_eq (tgt := 177) hx hb dX13_sound_145 (by decide) (fun c338 => ?_) (fun c338 => ?_)
              · have c338 : (sa9).toInt = (0 : Int) := hq_eqi.mp c338
                refine lv_aload_n hx hb dX13_sound_177 rfl (lv_at hl 3 rfl) ?_
                refine hp_get (v := .ref (q + 23)) hx hb hts hown hZ ho297 fl_X13_219 rfl dX13_sound_178 ?_
                refine lv_iload_n hx hb dX13_sound_181 rfl (lv_at hl 4 rfl) ?_
                refine lv_iload_n hx hb dX13_sound_182 rfl (lv_at hl 1 rfl) ?_
                have hl339 : (0 : Int32).toInt = 0 := by decide
                refine lv_if_ne (tgt := 190) hx hb dX13_sound_183 (by decide) (fun c340 => absurd ((Int32.toInt_inj.mp (by omega) : sa9 = 0)) c340) (fun c340 => ?_)
                refine lv_iconst (v := 1) hx hb dX13_sound_186 (by decide) ?_
                refine lv_goto (tgt := 191) hx hb dX13_sound_187 (by decide) ?_
                refine hp_zast hx hb hZ ho303 (hq_in (by omega) (by omega)) dX13_sound_191 (fun V341 _ _ e342 o343 hZ => ?_)
                have e342 : V341 (q + 23) = some (.inl (cs 3, 60, .inl (upd (df) ((k : Int32).toNatClampNeg) ((vp_nar .boolean 1))))) := e342
                have hP := hP.put (hr_23 hR) e342 o343 (hq_c22 (by omega)) rfl
                obtain ⟨g344, ge345⟩ : ∃ g9 : Nat → Int32, g9 = upd (df) ((k : Int32).toNatClampNeg) ((vp_nar .boolean 1)) := ⟨_, rfl⟩
                have fx346 : V341 (q + 23) = some (.inl (cs 3, 60, .inl (g344))) := by rw [ge345]; exact e342
                have fx348 : V341 (mo) = some (.inr (13, hm_o q (m_tp) (m_sz) (m_fr) (m_bh) (m_hd) (m_ft) (m_fa) (z210) (m_fo) (m_as) (m_fd) (m_bc) (m_bg) (m_bs) (m_be) (m_b0) (m_b1) (m_cm) (m_hc))) := (o343 (mo) (hq_tne hmo (hr_23 hR) (by simp))).trans (ho297)
                have fx349 : V341 (q + 21) = some (.inl (cs 0, 276, .inl (u211))) := (o343 (q + 21) (hq_tne (hr_21 hR) (hr_23 hR) (by simp))).trans (ho298)
                have fx350 : V341 (q + 22) = some (.inl (cs 0, 276, .inl (u212))) := (o343 (q + 22) (hq_tne (hr_22 hR) (hr_23 hR) (by simp))).trans (ho299)
                have fx351 : V341 (q + 24) = some (.inl (cs 0, 30, .inl (bf9))) := (o343 (q + 24) (hq_tne (hr_24 hR) (hr_23 hR) (by simp))).trans (ho301)
                have hno : sp_sndl F S u = sp_cg F S u (y198).toInt.toNat := by rw [sp_sndl_y (by omega) (by rw [show u.length - F.length = (y198).toInt.toNat by omega]; exact hst2), show u.length - F.length = (y198).toInt.toNat by omega]; unfold sp_cg; rw [List.drop_eq_nil_of_le (by omega), List.append_nil]
                exact hp_vret hx hb hr hlocks hZ ⟨rfl, hP, (fun x8 hne0 hne1 hne2 hne3 hne4 => (o343 x8 hne4).trans (fr138 x8 hne0 hne1 hne2 hne3 hne4)), z210, u211, u212, bf9, g344, fx348, fx349, fx350, fx351, fx346, (by rw [hno]; exact hcu), (by rw [hno]; exact hcb), by omega⟩ dX13_sound_192
              · have c338 : ¬ (sa9).toInt = (0 : Int) := fun h9 => c338 (hq_eqi.mpr h9)
                refine lv_aload_n hx hb dX13_sound_148 rfl (lv_at hl 3 rfl) ?_
                refine hp_get (v := .ref (q + 24)) hx hb hts hown hZ ho297 fl_X13_223 rfl dX13_sound_149 ?_
                refine lv_iload hx hb dX13_sound_152 (lv_at hl 0 rfl) ?_
                refine hp_bald hx hb hZ ho301 (hq_in (by omega) (by omega)) dX13_sound_154 ?_
                refine lv_topi (fun y352 ey353 => ?_)
                have b354 := hq_rng y352
                refine lv_aload_n hx hb dX13_sound_155 rfl (lv_at hl 3 rfl) ?_
                refine hp_get (v := .ref (q + 21)) hx hb hts hown hZ ho297 fl_X13_213 rfl dX13_sound_156 ?_
                refine lv_iload hx hb dX13_sound_159 (lv_at hl 0 rfl) ?_
                refine hp_bald hx hb hZ ho298 (hq_in (by omega) (by omega)) dX13_sound_161 ?_
                refine lv_topi (fun y355 ey356 => ?_)
                have b357 := hq_rng y355
                refine lv_icmp_ne (tgt := 169) hx hb dX13_sound_162 (by decide) (fun c358 => ?_) (fun c358 => ?_)
                · have c358 : ¬ (y352).toInt = (y355).toInt := fun h9 => c358 (hq_eqi.mpr h9)
                  refine lv_iconst (v := 0) hx hb dX13_sound_169 (by decide) ?_
                  refine lv_istore_n (lv' := [(3, .int (0)), (4, .int (i138)), (2, .int (m_le)), (0, .ref (mo)), (1, .int (k))]) hx hb dX13_sound_170 rfl hl (by decide) rfl (fun ls hl => ?_)
                  obtain ⟨y359, ey360⟩ : ∃ y : Int32, y = i138 + (1) := ⟨_, rfl⟩
                  obtain ⟨k361, hk362, b363, b364⟩ := hq_add (i138) (1)
                  rw [← ey360] at hk362 b363 b364
                  have hk362 : (y359).toInt = (i138).toInt + (1) + k361 * 4294967296 := hk362
                  obtain rfl : k361 = 0 := by omega
                  refine lv_iinc (v := y359) (lv' := [(4, .int (y359)), (3, .int (0)), (2, .int (m_le)), (0, .ref (mo)), (1, .int (k))]) hx hb dX13_sound_171 hl (k := 1) rfl (by rw [ey360]; rfl) (by decide) rfl (fun ls hl => ?_)
                  refine lv_goto (tgt := 138) hx hb dX13_sound_174 (by decide) ?_
                  have hl365 : (0 : Int32).toInt = 0 := by decide
                  exact ih138 _ (by omega) _ _ _ ls (0) (y359) rfl hZ hP ho297 ho298 ho299 ho301 ho303 (fun x8 hne0 hne1 hne2 hne3 hne4 => fr138 x8 hne0 hne1 hne2 hne3 hne4) pk305 (by omega) (by omega) (by omega) (lv_sub hl [0, 1, 2, 3, 4] rfl)
                · have c358 : (y352).toInt = (y355).toInt := hq_eqi.mp c358
                  refine lv_iconst (v := 1) hx hb dX13_sound_165 (by decide) ?_
                  refine lv_goto (tgt := 170) hx hb dX13_sound_166 (by decide) ?_
                  refine lv_istore_n (lv' := [(3, .int (1)), (4, .int (i138)), (2, .int (m_le)), (0, .ref (mo)), (1, .int (k))]) hx hb dX13_sound_170 rfl hl (by decide) rfl (fun ls hl => ?_)
                  obtain ⟨y366, ey367⟩ : ∃ y : Int32, y = i138 + (1) := ⟨_, rfl⟩
                  obtain ⟨k368, hk369, b370, b371⟩ := hq_add (i138) (1)
                  rw [← ey367] at hk369 b370 b371
                  have hk369 : (y366).toInt = (i138).toInt + (1) + k368 * 4294967296 := hk369
                  obtain rfl : k368 = 0 := by omega
                  refine lv_iinc (v := y366) (lv' := [(4, .int (y366)), (3, .int (1)), (2, .int (m_le)), (0, .ref (mo)), (1, .int (k))]) hx hb dX13_sound_171 hl (k := 1) rfl (by rw [ey367]; rfl) (by decide) rfl (fun ls hl => ?_)
                  refine lv_goto (tgt := 138) hx hb dX13_sound_174 (by decide) ?_
                  have hl372 : (1 : Int32).toInt = 1 := by decide
                  exact ih138 _ (by omega) _ _ _ ls (1) (y366) rfl hZ hP ho297 ho298 ho299 ho301 ho303 (fun x8 hne0 hne1 hne2 hne3 hne4 => fr138 x8 hne0 hne1 hne2 hne3 hne4) pk305 (by omega) (by omega) (by omega) (lv_sub hl [0, 1, 2, 3, 4] rfl)
    · have c13 : ¬ (m_le).toInt ≤ (i7).toInt := fun h9 => c13 (hq_lei.mpr h9)
      refine lv_aload_n hx hb dX13_sound_12 rfl (lv_at hl 2 rfl) ?_
      refine hp_get (v := .ref (q + 24)) hx hb hts hown hZ ho1 fl_X13_223 rfl dX13_sound_13 ?_
      refine lv_iload_n hx hb dX13_sound_16 rfl (lv_at hl 0 rfl) ?_
      refine lv_aload_n hx hb dX13_sound_17 rfl (lv_at hl 2 rfl) ?_
      refine hp_get (v := .ref (q + 21)) hx hb hts hown hZ ho1 fl_X13_213 rfl dX13_sound_18 ?_
      refine lv_iload_n hx hb dX13_sound_21 rfl (lv_at hl 0 rfl) ?_
      refine hp_bald hx hb hZ ho2 (hq_in (by omega) (by omega)) dX13_sound_22 ?_
      refine lv_topi (fun y373 ey374 => ?_)
      have b375 := hq_rng y373
      refine hp_bast hx hb hZ ho4 (hq_in (by omega) (by omega)) dX13_sound_23 (fun V376 _ _ e377 o378 hZ => ?_)
      have e377 : V376 (q + 24) = some (.inl (cs 0, 30, .inl (upd (bf9) ((i7 : Int32).toNatClampNeg) ((y373 : Int32).toInt8.toInt32)))) := e377
      have hP := hP.put (hr_24 hR) e377 o378 (hq_c20 (by omega)) rfl
      obtain ⟨g379, ge380⟩ : ∃ g9 : Nat → Int32, g9 = upd (bf9) ((i7 : Int32).toNatClampNeg) ((y373 : Int32).toInt8.toInt32) := ⟨_, rfl⟩
      have fx381 : V376 (q + 24) = some (.inl (cs 0, 30, .inl (g379))) := by rw [ge380]; exact e377
      have hf382 := hq_rg20 hP.1 (hr_24 hR) fx381
      obtain ⟨y383, ey384⟩ : ∃ y : Int32, y = i7 + (1) := ⟨_, rfl⟩
      obtain ⟨k385, hk386, b387, b388⟩ := hq_add (i7) (1)
      rw [← ey384] at hk386 b387 b388
      have hk386 : (y383).toInt = (i7).toInt + (1) + k385 * 4294967296 := hk386
      obtain rfl : k385 = 0 := by omega
      refine lv_iinc (v := y383) (lv' := [(3, .int (y383)), (2, .int (m_le)), (0, .ref (mo)), (1, .int (k))]) hx hb dX13_sound_24 hl (k := 0) rfl (by rw [ey384]; rfl) (by decide) rfl (fun ls hl => ?_)
      refine lv_goto (tgt := 7) hx hb dX13_sound_27 (by decide) ?_
      have fx389 : V376 (mo) = some (.inr (13, hm_o q (m_tp) (m_sz) (m_fr) (m_bh) (m_hd) (m_ft) (m_fa) (m_le) (m_fo) (m_as) (m_fd) (m_bc) (m_bg) (m_bs) (m_be) (m_b0) (m_b1) (m_cm) (m_hc))) := (o378 (mo) (hq_tne hmo (hr_24 hR) (by simp))).trans (ho1)
      have fx390 : V376 (q + 21) = some (.inl (cs 0, 276, .inl (wf))) := (o378 (q + 21) (hq_tne (hr_21 hR) (hr_24 hR) (by simp))).trans (ho2)
      have fx391 : V376 (q + 22) = some (.inl (cs 0, 276, .inl (sf))) := (o378 (q + 22) (hq_tne (hr_22 hR) (hr_24 hR) (by simp))).trans (ho3)
      have fx392 : V376 (q + 23) = some (.inl (cs 3, 60, .inl (df))) := (o378 (q + 23) (hq_tne (hr_23 hR) (hr_24 hR) (by simp))).trans (ho5)
      have pk393 := pk6.keep (fun x7 (hx7 : q ≤ x7 ∧ x7 < q + 19) => o378 x7 (by omega))
      exact ih7 _ (by omega) _ _ _ ls (y383) (g379) rfl hZ hP fx389 fx390 fx391 fx381 fx392 (fun x8 hne0 hne1 hne2 hne3 hne4 => (o378 x8 hne3).trans (fr7 x8 hne0 hne1 hne2 hne3 hne4)) pk393 (by omega) (by omega) (lv_sub hl [0, 1, 2, 3] rfl)

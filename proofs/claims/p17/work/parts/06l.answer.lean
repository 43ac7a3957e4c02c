set_option maxHeartbeats 4000000 in
set_option maxRecDepth 100000 in
theorem t_X13_blame (l : Launch) (D : va_G) (cs : Nat → ClassId) (B : Nat) (G : hq_G) (V : hp_V) (n : Nat) (hI : hq_I cs G V) (q : Nat) (hR : hq_RT G q) (mo : Nat) (h_mo : G mo = some (24, 0, 0, 0)) (k : Int32) {m_tp m_sz m_fr m_bh m_hd m_ft m_fa m_le m_fo m_as m_fd m_bc m_bg m_bs m_be m_b0 m_b1 m_cm m_hc : Int32} (ho_mo : V mo = some (.inr (13, hm_o q (m_tp) (m_sz) (m_fr) (m_bh) (m_hd) (m_ft) (m_fa) (m_le) (m_fo) (m_as) (m_fd) (m_bc) (m_bg) (m_bs) (m_be) (m_b0) (m_b1) (m_cm) (m_hc)))) (hi_mo0 : 0 ≤ m_tp.toInt ∧ m_tp.toInt ≤ 4000) (hi_mo1 : 0 ≤ m_sz.toInt ∧ m_sz.toInt ≤ 4000) (hi_mo2 : 0 ≤ m_le.toInt ∧ m_le.toInt ≤ 276) (hi_mo3 : 0 ≤ m_fo.toInt ∧ m_fo.toInt ≤ 4) (hi_mo4 : 0 ≤ m_as.toInt ∧ m_as.toInt ≤ 4000) (hi_mo5 : 0 ≤ m_fd.toInt ∧ m_fd.toInt ≤ 900) (hi_mo6 : 0 ≤ m_cm.toInt ∧ m_cm.toInt ≤ 2) (hi_mo7 : 0 ≤ m_hc.toInt ∧ m_hc.toInt ≤ 1) (hk0 : 0 ≤ k.toInt) (hk1 : k.toInt < 8) : hp_M l yX13_blame cX13_blame 4 none ({ frames := 1, cells := 0, slots := 0, locals := 21 }) D cs B V n [.ref (mo), .int (k)] (hp_QV D cs B (fun V' n' => n = n' ∧ hq_P cs G (fun g => g.1 == 48) V V' ∧ (V' mo = some (.inr (13, hm_o q (m_tp) (m_sz) (m_fr) (m_bh) (m_hd) (m_ft) (m_fa) (m_le) (m_fo) (m_as) (m_fd) (m_bc) (m_bg) (m_bs) (m_be) (m_b0) (m_b1) (m_cm) (m_hc)))))) 0 0 := by
  refine hp_walk (R0 := RX13) (by decide) rfl ?_ (Nat.le_of_ble_eq_true rfl)
  intro p e s m below meth c ls hx hb hr hts hown hlocks hin hml hZ hl
  have hP : hq_P cs G (fun g => g.1 == 48) V V := hq_P.rf hI
  have hl : lv_has ls 4 [(0, .ref (mo)), (1, .int (k))] := hl
  have hb_k := hq_rng k
  have hb_m_tp := hq_rng m_tp
  have hb_m_sz := hq_rng m_sz
  have hb_m_fr := hq_rng m_fr
  have hb_m_bh := hq_rng m_bh
  have hb_m_hd := hq_rng m_hd
  have hb_m_ft := hq_rng m_ft
  have hb_m_fa := hq_rng m_fa
  have hb_m_le := hq_rng m_le
  have hb_m_fo := hq_rng m_fo
  have hb_m_as := hq_rng m_as
  have hb_m_fd := hq_rng m_fd
  have hb_m_bc := hq_rng m_bc
  have hb_m_bg := hq_rng m_bg
  have hb_m_bs := hq_rng m_bs
  have hb_m_be := hq_rng m_be
  have hb_m_b0 := hq_rng m_b0
  have hb_m_b1 := hq_rng m_b1
  have hb_m_cm := hq_rng m_cm
  have hb_m_hc := hq_rng m_hc
  refine lv_iconst (v := 0) hx hb dX13_blame_0 (by decide) ?_
  refine lv_istore_n (lv' := [(2, .int (0)), (0, .ref (mo)), (1, .int (k))]) hx hb dX13_blame_1 rfl hl (by decide) rfl (fun ls hl => ?_)
  have hl1 : (0 : Int32).toInt = 0 := by decide
  suffices lp2 : ∀ (k9 : Nat) (V9 : hp_V) (H9 : Heap) (locs9 : List Loc) (ls : Array Slot) (i : Int32), (100 - i.toInt).toNat = k9 → hp_Z D cs B s V9 H9 n locs9 → hq_P cs G (fun g => g.1 == 48) V V9 → 0 ≤ i.toInt → i.toInt ≤ 2 → lv_has ls 4 [(2, .int (i)), (0, .ref (mo)), (1, .int (k))] → W p l e ({ frames := 1, cells := 0, slots := 0, locals := 21 }) s m ([.ref (mo), .int (k)] : List Value).toArray below meth c H9 locs9 0 0 (MQ below (hp_QV D cs B (fun V' n' => n = n' ∧ hq_P cs G (fun g => g.1 == 48) V V' ∧ (V' mo = some (.inr (13, hm_o q (m_tp) (m_sz) (m_fr) (m_bh) (m_hd) (m_ft) (m_fa) (m_le) (m_fo) (m_as) (m_fd) (m_bc) (m_bg) (m_bs) (m_be) (m_b0) (m_b1) (m_cm) (m_hc)))))) ([.ref (mo), .int (k)] : List Value).toArray s 0 0 (hp_F B)) (F0 m 2 ls []) from lp2 _ _ _ _ ls (0) rfl hZ hP (by omega) (by omega) (lv_sub hl [0, 1, 2] rfl)
  intro k9
  induction k9 using Nat.strongRecOn with
  | _ k9 ih2 =>
    intro V9 H9 locs9 ls i  hk2 hZ hP  hv2 hv3 hl
    have hb_i := hq_rng i
    have hP_2 := hP
    refine lv_iload_n hx hb dX13_blame_2 rfl (lv_at hl 0 rfl) ?_
    refine lv_aload_n hx hb dX13_blame_3 rfl (lv_at hl 1 rfl) ?_
    have fx4 : V9 (mo) = some (.inr (13, hm_o q (m_tp) (m_sz) (m_fr) (m_bh) (m_hd) (m_ft) (m_fa) (m_le) (m_fo) (m_as) (m_fd) (m_bc) (m_bg) (m_bs) (m_be) (m_b0) (m_b1) (m_cm) (m_hc))) := (hP_2.2 (mo) _ h_mo rfl).trans (ho_mo)
    refine hp_get (v := .int (m_cm)) hx hb hts hown hZ fx4 fl_X13_445 rfl dX13_blame_4 ?_
    refine lv_icmp_ge (tgt := 80) hx hb dX13_blame_7 (by decide) (fun c5 => ?_) (fun c5 => ?_)
    · have c5 : (m_cm).toInt ≤ (i).toInt := hq_lei.mp c5
      exact hp_vret hx hb hr hlocks hZ ⟨rfl, hP, fx4⟩ dX13_blame_80
    · have c5 : ¬ (m_cm).toInt ≤ (i).toInt := fun h9 => c5 (hq_lei.mpr h9)
      refine lv_aload_n hx hb dX13_blame_10 rfl (lv_at hl 1 rfl) ?_
      refine hp_get (v := .ref (q + 45)) hx hb hts hown hZ fx4 fl_X13_286 rfl dX13_blame_11 ?_
      refine lv_iload_n hx hb dX13_blame_14 rfl (lv_at hl 0 rfl) ?_
      obtain ⟨hN8, g7, eV6, hf9⟩ := hq_o21 hP.1 (hr_45 hR)
      refine hp_iald hx hb hZ eV6 (hq_in (by omega) (by omega)) dX13_blame_15 ?_
      refine lv_topi (fun y10 ey11 => ?_)
      have b13 : (y10).toInt = ((g7) (i : Int32).toNatClampNeg).toInt := by rw [ey11]
      have b12 : hq_ir (hq_lo 5) (hq_hi 5) y10 := by rw [ey11]; exact hf9 _ (hq_ix (by omega) (by omega))
      have b12 : (-1) ≤ (y10).toInt ∧ (y10).toInt ≤ 59 := b12
      refine lv_iconst (v := -1) hx hb dX13_blame_16 (by decide) ?_
      refine lv_icmp_eq (tgt := 74) hx hb dX13_blame_17 (by decide) (fun c14 => ?_) (fun c14 => ?_)
      · have c14 : (y10).toInt = (-1 : Int) := hq_eqi.mp c14
        obtain ⟨y15, ey16⟩ : ∃ y : Int32, y = i + (1) := ⟨_, rfl⟩
        obtain ⟨k17, hk18, b19, b20⟩ := hq_add (i) (1)
        rw [← ey16] at hk18 b19 b20
        have hk18 : (y15).toInt = (i).toInt + (1) + k17 * 4294967296 := hk18
        refine lv_iinc (v := y15) (lv' := [(2, .int (y15)), (0, .ref (mo)), (1, .int (k))]) hx hb dX13_blame_74 hl (k := 0) rfl (by rw [ey16]; rfl) (by decide) rfl (fun ls hl => ?_)
        refine lv_goto (tgt := 2) hx hb dX13_blame_77 (by decide) ?_
        exact ih2 _ (by omega) _ _ _ ls (y15) rfl hZ hP (by omega) (by omega) (lv_sub hl [0, 1, 2] rfl)
      · have c14 : ¬ (y10).toInt = (-1 : Int) := fun h9 => c14 (hq_eqi.mpr h9)
        refine lv_iload_n hx hb dX13_blame_20 rfl (lv_at hl 0 rfl) ?_
        refine lv_iconst (v := 1) hx hb dX13_blame_21 (by decide) ?_
        refine lv_icmp_ne (tgt := 43) hx hb dX13_blame_22 (by decide) (fun c21 => ?_) (fun c21 => ?_)
        · have c21 : ¬ (i).toInt = (1 : Int) := fun h9 => c21 (hq_eqi.mpr h9)
          refine lv_bipush (v := 60) hx hb dX13_blame_43 (by decide) ?_
          refine lv_iload_n hx hb dX13_blame_45 rfl (lv_at hl 2 rfl) ?_
          refine lv_imul hx hb dX13_blame_46 ?_
          refine lv_topi (fun y22 ey23 => ?_)
          obtain ⟨k24, hk25, b26, b27⟩ := hq_mul (60) (k)
          rw [← ey23] at hk25 b26 b27
          have hk25 : (y22).toInt = (60 : Int) * (k).toInt + k24 * 4294967296 := hk25
          obtain rfl : k24 = 0 := by omega
          refine lv_aload_n hx hb dX13_blame_47 rfl (lv_at hl 1 rfl) ?_
          refine hp_get (v := .ref (q + 45)) hx hb hts hown hZ fx4 fl_X13_286 rfl dX13_blame_48 ?_
          refine lv_iload_n hx hb dX13_blame_51 rfl (lv_at hl 0 rfl) ?_
          refine hp_iald hx hb hZ eV6 (hq_in (by omega) (by omega)) dX13_blame_52 ?_
          refine lv_topi (fun y28 ey29 => ?_)
          have b31 : (y28).toInt = ((g7) (i : Int32).toNatClampNeg).toInt := by rw [ey29]
          have b30 : hq_ir (hq_lo 5) (hq_hi 5) y28 := by rw [ey29]; exact hf9 _ (hq_ix (by omega) (by omega))
          have b30 : (-1) ≤ (y28).toInt ∧ (y28).toInt ≤ 59 := b30
          refine lv_iadd hx hb dX13_blame_53 ?_
          refine lv_topi (fun y32 ey33 => ?_)
          obtain ⟨k34, hk35, b36, b37⟩ := hq_add (y22) (y28)
          rw [← ey33] at hk35 b36 b37
          have hk35 : (y32).toInt = (y22).toInt + (y28).toInt + k34 * 4294967296 := hk35
          obtain rfl : k34 = 0 := by omega
          refine lv_istore_n (lv' := [(3, .int (y32)), (2, .int (i)), (0, .ref (mo)), (1, .int (k))]) hx hb dX13_blame_54 rfl hl (by decide) rfl (fun ls hl => ?_)
          refine lv_aload_n hx hb dX13_blame_55 rfl (lv_at hl 2 rfl) ?_
          refine hp_get (v := .ref (q + 42)) hx hb hts hown hZ fx4 fl_X13_277 rfl dX13_blame_56 ?_
          refine lv_iload_n hx hb dX13_blame_59 rfl (lv_at hl 0 rfl) ?_
          refine lv_bipush (v := 99) hx hb dX13_blame_60 (by decide) ?_
          refine lv_aload_n hx hb dX13_blame_62 rfl (lv_at hl 2 rfl) ?_
          refine hp_get (v := .ref (q + 42)) hx hb hts hown hZ fx4 fl_X13_277 rfl dX13_blame_63 ?_
          refine lv_iload_n hx hb dX13_blame_66 rfl (lv_at hl 0 rfl) ?_
          obtain ⟨hN40, g39, eV38, hf41⟩ := hq_o21 hP.1 (hr_42 hR)
          refine hp_iald hx hb hZ eV38 (hq_in (by omega) (by omega)) dX13_blame_67 ?_
          refine lv_topi (fun y42 ey43 => ?_)
          have b45 : (y42).toInt = ((g39) (y32 : Int32).toNatClampNeg).toInt := by rw [ey43]
          have b44 := hq_rng y42
          refine lv_iconst (v := 1) hx hb dX13_blame_68 (by decide) ?_
          refine lv_iadd hx hb dX13_blame_69 ?_
          refine lv_topi (fun y46 ey47 => ?_)
          obtain ⟨k48, hk49, b50, b51⟩ := hq_add (y42) (1)
          rw [← ey47] at hk49 b50 b51
          have hk49 : (y46).toInt = (y42).toInt + (1 : Int) + k48 * 4294967296 := hk49
          refine va_mmin hx hb (hml.trans hl.1.symm) hown (hts _ lk_X13_401) (hts _ ms_min) (hts _ mi_math) (hts _ mk_min) (Nat.le_of_ble_eq_true rfl) (Nat.le_of_ble_eq_true rfl) (Nat.zero_le _) (Nat.zero_le _) dX13_blame_70 ?_
          refine lv_topi (fun y52 ey53 => ?_)
          have b54 := hm_mn (99) (y46)
          rw [← ey53] at b54
          have b55 : (99 : Int32).toInt = 99 := by decide
          refine hp_iast hx hb hZ eV38 (hq_in (by omega) (by omega)) dX13_blame_73 (fun V56 _ _ e57 o58 hZ => ?_)
          have e57 : V56 (q + 42) = some (.inl (cs 1, 480, .inl (upd (g39) ((y32 : Int32).toNatClampNeg) (y52)))) := e57
          have hP := hP.put (hr_42 hR) e57 o58 (hq_c21 (by omega) (hq_upd hf41 (hq_rng _))) rfl
          obtain ⟨y59, ey60⟩ : ∃ y : Int32, y = i + (1) := ⟨_, rfl⟩
          obtain ⟨k61, hk62, b63, b64⟩ := hq_add (i) (1)
          rw [← ey60] at hk62 b63 b64
          have hk62 : (y59).toInt = (i).toInt + (1) + k61 * 4294967296 := hk62
          refine lv_iinc (v := y59) (lv' := [(2, .int (y59)), (3, .int (y32)), (0, .ref (mo)), (1, .int (k))]) hx hb dX13_blame_74 hl (k := 1) rfl (by rw [ey60]; rfl) (by decide) rfl (fun ls hl => ?_)
          refine lv_goto (tgt := 2) hx hb dX13_blame_77 (by decide) ?_
          exact ih2 _ (by omega) _ _ _ ls (y59) rfl hZ hP (by omega) (by omega) (lv_sub hl [0, 2, 3] rfl)
        · have c21 : (i).toInt = (1 : Int) := hq_eqi.mp c21
          refine lv_aload_n hx hb dX13_blame_25 rfl (lv_at hl 1 rfl) ?_
          refine hp_get (v := .ref (q + 45)) hx hb hts hown hZ fx4 fl_X13_286 rfl dX13_blame_26 ?_
          refine lv_iconst (v := 1) hx hb dX13_blame_29 (by decide) ?_
          refine hp_iald hx hb hZ eV6 (by unfold vp_in; decide) dX13_blame_30 ?_
          refine lv_topi (fun y65 ey66 => ?_)
          have b68 : (y65).toInt = ((g7) (1 : Int32).toNatClampNeg).toInt := by rw [ey66]
          have b67 : hq_ir (hq_lo 5) (hq_hi 5) y65 := by rw [ey66]; exact hf9 _ (by decide)
          have b67 : (-1) ≤ (y65).toInt ∧ (y65).toInt ≤ 59 := b67
          refine lv_aload_n hx hb dX13_blame_31 rfl (lv_at hl 1 rfl) ?_
          refine hp_get (v := .ref (q + 45)) hx hb hts hown hZ fx4 fl_X13_286 rfl dX13_blame_32 ?_
          refine lv_iconst (v := 0) hx hb dX13_blame_35 (by decide) ?_
          refine hp_iald hx hb hZ eV6 (by unfold vp_in; decide) dX13_blame_36 ?_
          refine lv_topi (fun y69 ey70 => ?_)
          have b72 : (y69).toInt = ((g7) (0 : Int32).toNatClampNeg).toInt := by rw [ey70]
          have b71 : hq_ir (hq_lo 5) (hq_hi 5) y69 := by rw [ey70]; exact hf9 _ (by decide)
          have b71 : (-1) ≤ (y69).toInt ∧ (y69).toInt ≤ 59 := b71
          refine lv_icmp_ne (tgt := 43) hx hb dX13_blame_37 (by decide) (fun c73 => ?_) (fun c73 => ?_)
          · have c73 : ¬ (y65).toInt = (y69).toInt := fun h9 => c73 (hq_eqi.mpr h9)
            refine lv_bipush (v := 60) hx hb dX13_blame_43 (by decide) ?_
            refine lv_iload_n hx hb dX13_blame_45 rfl (lv_at hl 2 rfl) ?_
            refine lv_imul hx hb dX13_blame_46 ?_
            refine lv_topi (fun y74 ey75 => ?_)
            obtain ⟨k76, hk77, b78, b79⟩ := hq_mul (60) (k)
            rw [← ey75] at hk77 b78 b79
            have hk77 : (y74).toInt = (60 : Int) * (k).toInt + k76 * 4294967296 := hk77
            obtain rfl : k76 = 0 := by omega
            refine lv_aload_n hx hb dX13_blame_47 rfl (lv_at hl 1 rfl) ?_
            refine hp_get (v := .ref (q + 45)) hx hb hts hown hZ fx4 fl_X13_286 rfl dX13_blame_48 ?_
            refine lv_iload_n hx hb dX13_blame_51 rfl (lv_at hl 0 rfl) ?_
            refine hp_iald hx hb hZ eV6 (hq_in (by omega) (by omega)) dX13_blame_52 ?_
            refine lv_topi (fun y80 ey81 => ?_)
            have b83 : (y80).toInt = ((g7) (i : Int32).toNatClampNeg).toInt := by rw [ey81]
            have b82 : hq_ir (hq_lo 5) (hq_hi 5) y80 := by rw [ey81]; exact hf9 _ (hq_ix (by omega) (by omega))
            have b82 : (-1) ≤ (y80).toInt ∧ (y80).toInt ≤ 59 := b82
            refine lv_iadd hx hb dX13_blame_53 ?_
            refine lv_topi (fun y84 ey85 => ?_)
            obtain ⟨k86, hk87, b88, b89⟩ := hq_add (y74) (y80)
            rw [← ey85] at hk87 b88 b89
            have hk87 : (y84).toInt = (y74).toInt + (y80).toInt + k86 * 4294967296 := hk87
            obtain rfl : k86 = 0 := by omega
            refine lv_istore_n (lv' := [(3, .int (y84)), (2, .int (i)), (0, .ref (mo)), (1, .int (k))]) hx hb dX13_blame_54 rfl hl (by decide) rfl (fun ls hl => ?_)
            refine lv_aload_n hx hb dX13_blame_55 rfl (lv_at hl 2 rfl) ?_
            refine hp_get (v := .ref (q + 42)) hx hb hts hown hZ fx4 fl_X13_277 rfl dX13_blame_56 ?_
            refine lv_iload_n hx hb dX13_blame_59 rfl (lv_at hl 0 rfl) ?_
            refine lv_bipush (v := 99) hx hb dX13_blame_60 (by decide) ?_
            refine lv_aload_n hx hb dX13_blame_62 rfl (lv_at hl 2 rfl) ?_
            refine hp_get (v := .ref (q + 42)) hx hb hts hown hZ fx4 fl_X13_277 rfl dX13_blame_63 ?_
            refine lv_iload_n hx hb dX13_blame_66 rfl (lv_at hl 0 rfl) ?_
            obtain ⟨hN92, g91, eV90, hf93⟩ := hq_o21 hP.1 (hr_42 hR)
            refine hp_iald hx hb hZ eV90 (hq_in (by omega) (by omega)) dX13_blame_67 ?_
            refine lv_topi (fun y94 ey95 => ?_)
            have b97 : (y94).toInt = ((g91) (y84 : Int32).toNatClampNeg).toInt := by rw [ey95]
            have b96 := hq_rng y94
            refine lv_iconst (v := 1) hx hb dX13_blame_68 (by decide) ?_
            refine lv_iadd hx hb dX13_blame_69 ?_
            refine lv_topi (fun y98 ey99 => ?_)
            obtain ⟨k100, hk101, b102, b103⟩ := hq_add (y94) (1)
            rw [← ey99] at hk101 b102 b103
            have hk101 : (y98).toInt = (y94).toInt + (1 : Int) + k100 * 4294967296 := hk101
            refine va_mmin hx hb (hml.trans hl.1.symm) hown (hts _ lk_X13_401) (hts _ ms_min) (hts _ mi_math) (hts _ mk_min) (Nat.le_of_ble_eq_true rfl) (Nat.le_of_ble_eq_true rfl) (Nat.zero_le _) (Nat.zero_le _) dX13_blame_70 ?_
            refine lv_topi (fun y104 ey105 => ?_)
            have b106 := hm_mn (99) (y98)
            rw [← ey105] at b106
            have b107 : (99 : Int32).toInt = 99 := by decide
            refine hp_iast hx hb hZ eV90 (hq_in (by omega) (by omega)) dX13_blame_73 (fun V108 _ _ e109 o110 hZ => ?_)
            have e109 : V108 (q + 42) = some (.inl (cs 1, 480, .inl (upd (g91) ((y84 : Int32).toNatClampNeg) (y104)))) := e109
            have hP := hP.put (hr_42 hR) e109 o110 (hq_c21 (by omega) (hq_upd hf93 (hq_rng _))) rfl
            obtain ⟨y111, ey112⟩ : ∃ y : Int32, y = i + (1) := ⟨_, rfl⟩
            obtain ⟨k113, hk114, b115, b116⟩ := hq_add (i) (1)
            rw [← ey112] at hk114 b115 b116
            have hk114 : (y111).toInt = (i).toInt + (1) + k113 * 4294967296 := hk114
            refine lv_iinc (v := y111) (lv' := [(2, .int (y111)), (3, .int (y84)), (0, .ref (mo)), (1, .int (k))]) hx hb dX13_blame_74 hl (k := 1) rfl (by rw [ey112]; rfl) (by decide) rfl (fun ls hl => ?_)
            refine lv_goto (tgt := 2) hx hb dX13_blame_77 (by decide) ?_
            exact ih2 _ (by omega) _ _ _ ls (y111) rfl hZ hP (by omega) (by omega) (lv_sub hl [0, 2, 3] rfl)
          · have c73 : (y65).toInt = (y69).toInt := hq_eqi.mp c73
            refine lv_goto (tgt := 74) hx hb dX13_blame_40 (by decide) ?_
            obtain ⟨y117, ey118⟩ : ∃ y : Int32, y = i + (1) := ⟨_, rfl⟩
            obtain ⟨k119, hk120, b121, b122⟩ := hq_add (i) (1)
            rw [← ey118] at hk120 b121 b122
            have hk120 : (y117).toInt = (i).toInt + (1) + k119 * 4294967296 := hk120
            refine lv_iinc (v := y117) (lv' := [(2, .int (y117)), (0, .ref (mo)), (1, .int (k))]) hx hb dX13_blame_74 hl (k := 0) rfl (by rw [ey118]; rfl) (by decide) rfl (fun ls hl => ?_)
            refine lv_goto (tgt := 2) hx hb dX13_blame_77 (by decide) ?_
            exact ih2 _ (by omega) _ _ _ ls (y117) rfl hZ hP (by omega) (by omega) (lv_sub hl [0, 1, 2] rfl)

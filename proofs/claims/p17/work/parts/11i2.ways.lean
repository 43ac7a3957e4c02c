set_option maxHeartbeats 4000000 in
set_option maxRecDepth 100000 in
theorem y_ws (l : Launch) (D : va_G) (cs : Nat → ClassId) (B : Nat) (G : hq_G) (V : hp_V) (n : Nat) (hI : hq_I cs G V) (q : Nat) (mo : Nat) (w : sp_W) (bk : sp_B) (t9 : Nat) (rh : hm_Rh) (m_tp : Int32) (m_sz : Int32) (m_fr : Int32) (m_bh : Int32) (m_hd : Int32) (m_ft : Int32) (m_fa : Int32) (m_le : Int32) (m_fo : Int32) (m_as : Int32) (m_fd : Int32) (m_bc : Int32) (m_bg : Int32) (m_bs : Int32) (m_be : Int32) (m_b0 : Int32) (m_b1 : Int32) (m_cm : Int32) (m_hc : Int32) (v : Int32) (stm : Int32) (edg : Int32) (co : Int32) (cg : Int32) (wf : Nat → Int32) (sf : Nat → Int32) (bf : Nat → Int32) (df : Nat → Int32) (af : Nat → Int32) (ask : List Int) (hc0 : V (mo) = some (.inr (13, hm_o q (m_tp) (m_sz) (m_fr) (m_bh) (m_hd) (m_ft) (m_fa) (m_le) (m_fo) (m_as) (m_fd) (m_bc) (m_bg) (m_bs) (m_be) (m_b0) (m_b1) (m_cm) (m_hc)))) (hc1 : V (q + 21) = some (.inl (cs 0, 276, .inl (wf)))) (hc2 : V (q + 22) = some (.inl (cs 0, 276, .inl (sf)))) (hc3 : V (q + 24) = some (.inl (cs 0, 30, .inl (bf)))) (hc4 : V (q + 23) = some (.inl (cs 3, 60, .inl (df)))) (hc5 : V (q + 37) = some (.inl (cs 0, 4000, .inl (af)))) (hp0 : hm_AR cs V q rh) (hR : hq_RT G q) (hmo : G mo = some (24, 0, 0, 0)) (hmq : mo < q) (hBm : hm_BK rh 0 w bk) (hgd : sp_good w bk) (hgd2 : sp_good2 bk) (hoc : sp_okc w) (ht9 : bk.2.1[v.toNatClampNeg]? = some t9) (hv : 0 ≤ v.toInt) (hask : sp_rp m_as af ask) (has : m_as.toInt ≤ 4000) (hlem : 0 ≤ m_le.toInt ∧ m_le.toInt ≤ 276) (hstma : stm.toInt = -1 ∨ (0 ≤ stm.toInt ∧ stm.toInt < (bk.2.2.2.length : Int))) (hedga : edg.toInt = -1 ∨ (0 ≤ edg.toInt ∧ edg.toInt < (bk.2.2.2.length : Int))) (hstk : ∀ x, 0 ≤ stm.toInt → bk.2.2.2[stm.toInt.toNat]? = some x → x.1 = 0) (hco : 0 ≤ co.toInt ∧ co.toInt ≤ 500) (hcg : 0 ≤ cg.toInt ∧ cg.toInt ≤ 50) : hp_M l yX13_withSounds cX13_withSounds 8 none ({ frames := 5, cells := 0, slots := 0, locals := 122 }) D cs B V n [.ref (mo), .int (v), .int (stm), .int (edg), .int (co), .int (cg)] (hp_QV D cs B (fun V' n' => n = n' ∧ hq_P cs G (fun _ => true) V V' ∧ (∀ x, x ≠ mo → x ≠ q + 21 → x ≠ q + 22 → x ≠ q + 24 → x ≠ q + 23 → V' x = V x) ∧ (∃ m_le1 : Int32, ∃ m_bc1 : Int32, ∃ m_bg1 : Int32, ∃ m_bs1 : Int32, ∃ m_be1 : Int32, ∃ m_b01 : Int32, ∃ m_b11 : Int32, ∃ wf1 : Nat → Int32, ∃ sf1 : Nat → Int32, ∃ bf1 : Nat → Int32, ∃ df1 : Nat → Int32, V' (mo) = some (.inr (13, hm_o q (m_tp) (m_sz) (m_fr) (m_bh) (m_hd) (m_ft) (m_fa) (m_le1) (m_fo) (m_as) (m_fd) (m_bc1) (m_bg1) (m_bs1) (m_be1) (m_b01) (m_b11) (m_cm) (m_hc))) ∧ V' (q + 21) = some (.inl (cs 0, 276, .inl (wf1))) ∧ V' (q + 22) = some (.inl (cs 0, 276, .inl (sf1))) ∧ V' (q + 24) = some (.inl (cs 0, 30, .inl (bf1))) ∧ V' (q + 23) = some (.inl (cs 3, 60, .inl (df1))) ∧ ((sp_y6 m_bc1 m_bg1 m_bs1 m_be1 m_b01 m_b11) = sp_tr (sp_M w bk.2.2.2 (sp_U w bk (sp_nm w t9)) ask) (sp_y6 m_bc m_bg m_bs m_be m_b0 m_b1) (sp_wy bk.2.2.2 co.toInt cg.toInt stm.toInt edg.toInt)) ∧ (0 ≤ m_le1.toInt ∧ m_le1.toInt ≤ 276)))) 0 0 := by
  refine hp_walk (R0 := RX13) (by decide) rfl ?_ (Nat.le_of_ble_eq_true rfl)
  intro p e s m below meth c ls hx hb hr hts hown hlocks hin hml hZ hl
  have hP : hq_P cs G (fun _ => true) V V := hq_P.rf hI
  have hl : lv_has ls 8 [(0, .ref (mo)), (1, .int (v)), (2, .int (stm)), (3, .int (edg)), (4, .int (co)), (5, .int (cg))] := hl
  have hb_m_tp := hq_rng m_tp
  have hb_m_sz := hq_rng m_sz
  have hb_m_fr := hq_rng m_fr
  have hb_m_bh := hq_rng m_bh
  have hb_m_hd := hq_rng m_hd
  have hb_m_ft := hq_rng m_ft
  have hb_m_fa := hq_rng m_fa
  have hb_m_le := hq_rng m_le
  have hb_m_fo := hq_rng m_fo
  have hb_m_as := hq_rng m_as
  have hb_m_fd := hq_rng m_fd
  have hb_m_bc := hq_rng m_bc
  have hb_m_bg := hq_rng m_bg
  have hb_m_bs := hq_rng m_bs
  have hb_m_be := hq_rng m_be
  have hb_m_b0 := hq_rng m_b0
  have hb_m_b1 := hq_rng m_b1
  have hb_m_cm := hq_rng m_cm
  have hb_m_hc := hq_rng m_hc
  have hb_v := hq_rng v
  have hb_stm := hq_rng stm
  have hb_edg := hq_rng edg
  have hb_co := hq_rng co
  have hb_cg := hq_rng cg
  have hH0 : hm_H rh rh := hm_H.rf
  have hll9 := hBm.2.2.2.2.2.1
  refine lv_aload_n hx hb dX13_withSounds_0 rfl (lv_at hl 0 rfl) ?_
  refine lv_iload_n hx hb dX13_withSounds_1 rfl (lv_at hl 1 rfl) ?_
  refine lv_iload_n hx hb dX13_withSounds_2 rfl (lv_at hl 2 rfl) ?_
  refine lv_iload_n hx hb dX13_withSounds_3 rfl (lv_at hl 3 rfl) ?_
  refine lv_iconst (v := -1) hx hb dX13_withSounds_4 (by decide) ?_
  refine lv_iconst (v := -1) hx hb dX13_withSounds_5 (by decide) ?_
  refine lv_iload hx hb dX13_withSounds_6 (lv_at hl 4 rfl) ?_
  refine lv_iload hx hb dX13_withSounds_8 (lv_at hl 5 rfl) ?_
  have hl1 : (-1 : Int32).toInt = -1 := by decide
  have hl2 : (-1 : Int32).toInt = -1 := by decide
  refine hp_callv (hp_runV (As := [.int (v), .int (stm), .int (edg), .int (-1), .int (-1), .int (co), .int (cg)]) (rest := []) hx hb hml hown hts (y_attempt l D cs B G V n hP.1 (q) (mo) (w) (bk) (t9) (rh) (m_tp) (m_sz) (m_fr) (m_bh) (m_hd) (m_ft) (m_fa) (m_le) (m_fo) (m_as) (m_fd) (m_bc) (m_bg) (m_bs) (m_be) (m_b0) (m_b1) (m_cm) (m_hc) (v) (stm) (edg) (-1) (-1) (co) (cg) (wf) (sf) (bf) (df) (af) (ask)  hc0 hc1 hc2 hc3 hc4 hc5 hp0 hR hmo hmq hBm hgd hgd2 hoc ht9 hv hask (by omega) (by omega) hstma hedga hstk) hZ hc0 cv_X13_434 rfl rfl ⟨Nat.le_of_ble_eq_true rfl, Nat.le_of_ble_eq_true rfl⟩ rfl hl.1 rfl (Nat.le_of_ble_eq_true rfl) dX13_withSounds_10 ⟨(Nat.le_of_ble_eq_true rfl), (Nat.le_of_ble_eq_true rfl)⟩) hZ (fun V3 n4 _ _ hw5 hZ => ?_)
  obtain ⟨rfl, hq7, fr8, z9, z10, z11, z12, z13, z14, z15, u16, u17, u18, u19, ho20, ho21, ho22, ho23, ho24, hp25, hp26⟩ := hw5
  have b27 := hq_rng z9
  have b28 := hq_rng z10
  have b29 := hq_rng z11
  have b30 := hq_rng z12
  have b31 := hq_rng z13
  have b32 := hq_rng z14
  have b33 := hq_rng z15
  have hP := hP.trans hq7 (fun _ h => Bool.noConfusion h)
  have hf34 := hq_rg20 hP.1 (hr_21 hR) ho21
  have hf35 := hq_rg20 hP.1 (hr_22 hR) ho22
  have hf36 := hq_rg20 hP.1 (hr_24 hR) ho23
  have b37 := hp26
  refine lv_iconst (v := 0) hx hb dX13_withSounds_13 (by decide) ?_
  refine lv_istore (lv' := [(6, .int (0)), (0, .ref (mo)), (1, .int (v)), (2, .int (stm)), (3, .int (edg)), (4, .int (co)), (5, .int (cg))]) hx hb dX13_withSounds_14 hl (by decide) rfl (fun ls hl => ?_)
  have fx43 : V3 (q + 37) = some (.inl (cs 0, 4000, .inl (af))) := (fr8 (q + 37) (hq_tne (hr_37 hR) hmo (by simp)) (hq_tne (hr_37 hR) (hr_21 hR) (by simp)) (hq_tne (hr_37 hR) (hr_22 hR) (by simp)) (hq_tne (hr_37 hR) (hr_24 hR) (by simp)) (hq_tne (hr_37 hR) (hr_23 hR) (by simp))).trans (hc5)
  have pk45 := hp0.keep (fun x7 (hx7 : q ≤ x7 ∧ x7 < q + 19) => fr8 x7 (by omega) (by omega) (by omega) (by omega) (by omega))
  have hl47 : (0 : Int32).toInt = 0 := by decide
  suffices lp16 : ∀ (k9 : Nat) (V9 : hp_V) (H9 : Heap) (locs9 : List Loc) (ls : Array Slot) (i16 : Int32) (le9 : Int32) (bc9 : Int32) (bg9 : Int32) (bs9 : Int32) (be9 : Int32) (b09 : Int32) (b19 : Int32) (wf9 : Nat → Int32) (sf9 : Nat → Int32) (bf9 : Nat → Int32) (df9 : Nat → Int32), (1000 - i16.toInt).toNat = k9 → hp_Z D cs B s V9 H9 n locs9 → hq_P cs G (fun _ => true) V V9 → V9 (mo) = some (.inr (13, hm_o q (m_tp) (m_sz) (m_fr) (m_bh) (m_hd) (m_ft) (m_fa) (le9) (m_fo) (m_as) (m_fd) (bc9) (bg9) (bs9) (be9) (b09) (b19) (m_cm) (m_hc))) → V9 (q + 21) = some (.inl (cs 0, 276, .inl (wf9))) → V9 (q + 22) = some (.inl (cs 0, 276, .inl (sf9))) → V9 (q + 24) = some (.inl (cs 0, 30, .inl (bf9))) → V9 (q + 23) = some (.inl (cs 3, 60, .inl (df9))) → V9 (q + 37) = some (.inl (cs 0, 4000, .inl (af))) → (∀ x, x ≠ mo → x ≠ q + 21 → x ≠ q + 22 → x ≠ q + 24 → x ≠ q + 23 → V9 x = V x) → hm_AR cs V9 q rh → 0 ≤ i16.toInt → i16.toInt ≤ (bk.2.2.2.length : Int) → 0 ≤ le9.toInt ∧ le9.toInt ≤ 276 → (sp_tr (sp_M w bk.2.2.2 (sp_U w bk (sp_nm w t9)) ask) (sp_y6 bc9 bg9 bs9 be9 b09 b19) (sp_fl (sp_wa bk.2.2.2 co.toInt cg.toInt stm.toInt edg.toInt) i16.toInt.toNat (bk.2.2.2.length - i16.toInt.toNat)) = sp_tr (sp_M w bk.2.2.2 (sp_U w bk (sp_nm w t9)) ask) (sp_y6 m_bc m_bg m_bs m_be m_b0 m_b1) (sp_wy bk.2.2.2 co.toInt cg.toInt stm.toInt edg.toInt)) → lv_has ls 8 [(6, .int (i16)), (0, .ref (mo)), (1, .int (v)), (2, .int (stm)), (3, .int (edg)), (4, .int (co)), (5, .int (cg))] → W p l e ({ frames := 5, cells := 0, slots := 0, locals := 122 }) s m ([.ref (mo), .int (v), .int (stm), .int (edg), .int (co), .int (cg)] : List Value).toArray below meth c H9 locs9 0 0 (MQ below (hp_QV D cs B (fun V' n' => n = n' ∧ hq_P cs G (fun _ => true) V V' ∧ (∀ x, x ≠ mo → x ≠ q + 21 → x ≠ q + 22 → x ≠ q + 24 → x ≠ q + 23 → V' x = V x) ∧ (∃ m_le1 : Int32, ∃ m_bc1 : Int32, ∃ m_bg1 : Int32, ∃ m_bs1 : Int32, ∃ m_be1 : Int32, ∃ m_b01 : Int32, ∃ m_b11 : Int32, ∃ wf1 : Nat → Int32, ∃ sf1 : Nat → Int32, ∃ bf1 : Nat → Int32, ∃ df1 : Nat → Int32, V' (mo) = some (.inr (13, hm_o q (m_tp) (m_sz) (m_fr) (m_bh) (m_hd) (m_ft) (m_fa) (m_le1) (m_fo) (m_as) (m_fd) (m_bc1) (m_bg1) (m_bs1) (m_be1) (m_b01) (m_b11) (m_cm) (m_hc))) ∧ V' (q + 21) = some (.inl (cs 0, 276, .inl (wf1))) ∧ V' (q + 22) = some (.inl (cs 0, 276, .inl (sf1))) ∧ V' (q + 24) = some (.inl (cs 0, 30, .inl (bf1))) ∧ V' (q + 23) = some (.inl (cs 3, 60, .inl (df1))) ∧ ((sp_y6 m_bc1 m_bg1 m_bs1 m_be1 m_b01 m_b11) = sp_tr (sp_M w bk.2.2.2 (sp_U w bk (sp_nm w t9)) ask) (sp_y6 m_bc m_bg m_bs m_be m_b0 m_b1) (sp_wy bk.2.2.2 co.toInt cg.toInt stm.toInt edg.toInt)) ∧ (0 ≤ m_le1.toInt ∧ m_le1.toInt ≤ 276)))) ([.ref (mo), .int (v), .int (stm), .int (edg), .int (co), .int (cg)] : List Value).toArray s 0 0 (hp_F B)) (F0 m 16 ls []) from lp16 _ _ _ _ ls (0) (z9) (z10) (z11) (z12) (z13) (z14) (z15) (u16) (u17) (u18) (u19) rfl hZ hP ho20 ho21 ho22 ho23 ho24 fx43 (fun x8 hne0 hne1 hne2 hne3 hne4 => fr8 x8 hne0 hne1 hne2 hne3 hne4) pk45 (by omega) (by omega) (by omega) (sp_wy_in (hp25.trans (congrArg (sp_t1 _ _) (sp_y6_eq rfl rfl rfl rfl (by decide) (by decide))))) (lv_sub hl [0, 1, 2, 3, 4, 5, 6] rfl)
  intro k9
  induction k9 using Nat.strongRecOn with
  | _ k9 ih16 =>
    intro V9 H9 locs9 ls i16  le9 bc9 bg9 bs9 be9 b09 b19 wf9 sf9 bf9 df9 hk16 hZ hP ho38 ho39 ho40 ho41 ho42 ho44 fr16 pk46 hv48 hv49 hv50 htr hl
    have hb_i16 := hq_rng i16
    have hb_le9 := hq_rng le9
    have hb_bc9 := hq_rng bc9
    have hb_bg9 := hq_rng bg9
    have hb_bs9 := hq_rng bs9
    have hb_be9 := hq_rng be9
    have hb_b09 := hq_rng b09
    have hb_b19 := hq_rng b19
    have hf51 := hq_rg20 hP.1 (hr_21 hR) ho39
    have hf52 := hq_rg20 hP.1 (hr_22 hR) ho40
    have hf53 := hq_rg20 hP.1 (hr_24 hR) ho41
    have hf54 := hq_rg20 hP.1 (hr_37 hR) ho44
    refine lv_iload hx hb dX13_withSounds_16 (lv_at hl 0 rfl) ?_
    refine lv_aload_n hx hb dX13_withSounds_18 rfl (lv_at hl 1 rfl) ?_
    refine hp_get (v := .ref (q + 2)) hx hb hts hown hZ ho38 fl_X13_10 rfl dX13_withSounds_19 ?_
    refine lv_iconst (v := 0) hx hb dX13_withSounds_22 (by decide) ?_
    obtain ⟨rf55, hrf56⟩ : ∃ f : Nat → Int32, f = rh 2 := ⟨_, rfl⟩
    have ea57 : V9 (q + 2) = some (.inl (cs 1, 2, .inl (rf55))) := by rw [hrf56]; exact pk46 2 (by decide)
    have hra58 := hq_rg hP.1 (hr_2 hR) ea57
    refine hp_iald hx hb hZ ea57 (by unfold vp_in; decide) dX13_withSounds_23 ?_
    refine lv_topi (fun y59 ey60 => ?_)
    have b61 : hq_ir (hq_lo 8) (hq_hi 8) y59 := by rw [ey60]; exact hra58 _ (by decide)
    have b61 : 0 ≤ (y59).toInt ∧ (y59).toInt ≤ 60 := b61
    have b62 : (y59).toInt = (bk.2.2.2.length : Int) := by rw [ey60, hrf56]; exact hBm.2.2.1
    refine lv_icmp_ge (tgt := 124) hx hb dX13_withSounds_24 (by decide) (fun c63 => ?_) (fun c63 => ?_)
    · have c63 : (y59).toInt ≤ (i16).toInt := hq_lei.mp c63
      exact hp_vret hx hb hr hlocks hZ ⟨rfl, hP, (fun x8 hne0 hne1 hne2 hne3 hne4 => fr16 x8 hne0 hne1 hne2 hne3 hne4), le9, bc9, bg9, bs9, be9, b09, b19, wf9, sf9, bf9, df9, ho38, ho39, ho40, ho41, ho42, sp_wa_out (by omega) htr, by omega⟩ dX13_withSounds_124
    · have c63 : ¬ (y59).toInt ≤ (i16).toInt := fun h9 => c63 (hq_lei.mpr h9)
      have hiia : ((i16).toNatClampNeg : Int) = (i16).toInt := (hq_nn (by omega)).1.symm
      obtain ⟨xa, hxa⟩ : ∃ t, bk.2.2.2[(i16).toNatClampNeg]? = some t := ⟨_, List.getElem?_eq_getElem (by omega)⟩
      obtain ⟨hq1a, -, -, -, hq5a, hq6a, hq7a⟩ := hBm.2.2.2.2.2.2 _ _ hxa
      rw [show 60 * 0 + (i16).toNatClampNeg = (i16).toNatClampNeg by omega] at hq1a hq5a hq6a hq7a
      have hFTa : hm_FT rh 14 5 (i16).toNatClampNeg (sp_F w xa) := hq6a.ft
      have hSTa : hm_FT rh 15 6 (i16).toNatClampNeg (sp_S2 w xa) := hq7a.ft
      have hFla := hFTa.1
      have hFma := hFTa.2.1
      have hSla := hSTa.1
      have hSma := hSTa.2.1
      have hkda : sp_kd bk.2.2.2 (i16).toInt.toNat = xa.1 := sp_kd_i hxa
      refine lv_aload_n hx hb dX13_withSounds_27 rfl (lv_at hl 1 rfl) ?_
      refine hp_get (v := .ref (q + 10)) hx hb hts hown hZ ho38 fl_X13_29 rfl dX13_withSounds_28 ?_
      refine lv_iload hx hb dX13_withSounds_31 (lv_at hl 0 rfl) ?_
      obtain ⟨rf64, hrf65⟩ : ∃ f : Nat → Int32, f = rh 10 := ⟨_, rfl⟩
      have ea66 : V9 (q + 10) = some (.inl (cs 1, 120, .inl (rf64))) := by rw [hrf65]; exact pk46 10 (by decide)
      have hra67 := hq_rg hP.1 (hr_10 hR) ea66
      refine hp_iald hx hb hZ ea66 (hq_in (by omega) (by omega)) dX13_withSounds_33 ?_
      refine lv_topi (fun y68 ey69 => ?_)
      have b70 := hq_rng y68
      have b71 : (y68).toInt = (rh 10 (i16).toNatClampNeg).toInt := by rw [ey69, hrf65]
      refine lv_iconst (v := 2) hx hb dX13_withSounds_34 (by decide) ?_
      refine lv_icmp_ne (tgt := 118) hx hb dX13_withSounds_35 (by decide) (fun c72 => ?_) (fun c72 => ?_)
      · have c72 : ¬ (y68).toInt = (2 : Int) := fun h9 => c72 (hq_eqi.mpr h9)
        obtain ⟨y73, ey74⟩ : ∃ y : Int32, y = i16 + (1) := ⟨_, rfl⟩
        obtain ⟨k75, hk76, b77, b78⟩ := hq_add (i16) (1)
        rw [← ey74] at hk76 b77 b78
        have hk76 : (y73).toInt = (i16).toInt + (1) + k75 * 4294967296 := hk76
        obtain rfl : k75 = 0 := by omega
        refine lv_iinc (v := y73) (lv' := [(6, .int (y73)), (0, .ref (mo)), (1, .int (v)), (2, .int (stm)), (3, .int (edg)), (4, .int (co)), (5, .int (cg))]) hx hb dX13_withSounds_118 hl (k := 0) rfl (by rw [ey74]; rfl) (by decide) rfl (fun ls hl => ?_)
        refine lv_goto (tgt := 16) hx hb dX13_withSounds_121 (by decide) ?_
        exact ih16 _ (by omega) _ _ _ ls (y73) (le9) (bc9) (bg9) (bs9) (be9) (b09) (b19) (wf9) (sf9) (bf9) (df9) rfl hZ hP ho38 ho39 ho40 ho41 ho42 ho44 (fun x8 hne0 hne1 hne2 hne3 hne4 => fr16 x8 hne0 hne1 hne2 hne3 hne4) pk46 (by omega) (by omega) (by omega) (by have h9 := (sp_wa_skip (by omega) (by omega) htr); rwa [show i16.toInt.toNat + 1 = (y73).toInt.toNat by omega] at h9) (lv_sub hl [0, 1, 2, 3, 4, 5, 6] rfl)
      · have c72 : (y68).toInt = (2 : Int) := hq_eqi.mp c72
        refine lv_iload hx hb dX13_withSounds_38 (lv_at hl 6 rfl) ?_
        refine lv_iconst (v := 1) hx hb dX13_withSounds_40 (by decide) ?_
        refine lv_icmp_le (tgt := 47) hx hb dX13_withSounds_41 (by decide) (fun c79 => ?_) (fun c79 => ?_)
        · have c79 : (cg).toInt ≤ (1 : Int) := hq_lei.mp c79
          refine lv_aload_n hx hb dX13_withSounds_47 rfl (lv_at hl 1 rfl) ?_
          refine lv_iload_n hx hb dX13_withSounds_48 rfl (lv_at hl 2 rfl) ?_
          refine lv_iload_n hx hb dX13_withSounds_49 rfl (lv_at hl 3 rfl) ?_
          refine lv_iload_n hx hb dX13_withSounds_50 rfl (lv_at hl 4 rfl) ?_
          refine lv_iload hx hb dX13_withSounds_51 (lv_at hl 0 rfl) ?_
          refine lv_iconst (v := -1) hx hb dX13_withSounds_53 (by decide) ?_
          refine lv_iload hx hb dX13_withSounds_54 (lv_at hl 5 rfl) ?_
          refine lv_iconst (v := 2) hx hb dX13_withSounds_56 (by decide) ?_
          refine lv_iadd hx hb dX13_withSounds_57 ?_
          refine lv_topi (fun y80 ey81 => ?_)
          obtain ⟨k82, hk83, b84, b85⟩ := hq_add (co) (2)
          rw [← ey81] at hk83 b84 b85
          have hk83 : (y80).toInt = (co).toInt + (2 : Int) + k82 * 4294967296 := hk83
          obtain rfl : k82 = 0 := by omega
          refine lv_iload hx hb dX13_withSounds_58 (lv_at hl 6 rfl) ?_
          refine lv_iconst (v := 1) hx hb dX13_withSounds_60 (by decide) ?_
          refine lv_iadd hx hb dX13_withSounds_61 ?_
          refine lv_topi (fun y86 ey87 => ?_)
          obtain ⟨k88, hk89, b90, b91⟩ := hq_add (cg) (1)
          rw [← ey87] at hk89 b90 b91
          have hk89 : (y86).toInt = (cg).toInt + (1 : Int) + k88 * 4294967296 := hk89
          obtain rfl : k88 = 0 := by omega
          have hl92 : (-1 : Int32).toInt = -1 := by decide
          refine hp_callv (hp_runV (As := [.int (v), .int (stm), .int (edg), .int (i16), .int (-1), .int (y80), .int (y86)]) (rest := []) hx hb hml hown hts (y_attempt l D cs B G V9 n hP.1 (q) (mo) (w) (bk) (t9) (rh) (m_tp) (m_sz) (m_fr) (m_bh) (m_hd) (m_ft) (m_fa) (le9) (m_fo) (m_as) (m_fd) (bc9) (bg9) (bs9) (be9) (b09) (b19) (m_cm) (m_hc) (v) (stm) (edg) (i16) (-1) (y80) (y86) (wf9) (sf9) (bf9) (df9) (af) (ask)  ho38 ho39 ho40 ho41 ho42 ho44 pk46 hR hmo hmq hBm hgd hgd2 hoc ht9 hv hask (by omega) (by omega) hstma hedga hstk) hZ ho38 cv_X13_434 rfl rfl ⟨Nat.le_of_ble_eq_true rfl, Nat.le_of_ble_eq_true rfl⟩ rfl hl.1 rfl (Nat.le_of_ble_eq_true rfl) dX13_withSounds_62 ⟨(Nat.le_of_ble_eq_true rfl), (Nat.le_of_ble_eq_true rfl)⟩) hZ (fun V93 n94 _ _ hw95 hZ => ?_)
          obtain ⟨rfl, hq97, fr98, z99, z100, z101, z102, z103, z104, z105, u106, u107, u108, u109, ho110, ho111, ho112, ho113, ho114, hp115, hp116⟩ := hw95
          have b117 := hq_rng z99
          have b118 := hq_rng z100
          have b119 := hq_rng z101
          have b120 := hq_rng z102
          have b121 := hq_rng z103
          have b122 := hq_rng z104
          have b123 := hq_rng z105
          have hP := hP.trans hq97 (fun _ h => Bool.noConfusion h)
          have hf124 := hq_rg20 hP.1 (hr_21 hR) ho111
          have hf125 := hq_rg20 hP.1 (hr_22 hR) ho112
          have hf126 := hq_rg20 hP.1 (hr_24 hR) ho113
          have b127 := hp116
          refine lv_iload hx hb dX13_withSounds_65 (lv_at hl 0 rfl) ?_
          refine lv_iconst (v := 1) hx hb dX13_withSounds_67 (by decide) ?_
          refine lv_iadd hx hb dX13_withSounds_68 ?_
          refine lv_topi (fun y128 ey129 => ?_)
          obtain ⟨k130, hk131, b132, b133⟩ := hq_add (i16) (1)
          rw [← ey129] at hk131 b132 b133
          have hk131 : (y128).toInt = (i16).toInt + (1 : Int) + k130 * 4294967296 := hk131
          obtain rfl : k130 = 0 := by omega
          refine lv_istore (lv' := [(7, .int (y128)), (6, .int (i16)), (0, .ref (mo)), (1, .int (v)), (2, .int (stm)), (3, .int (edg)), (4, .int (co)), (5, .int (cg))]) hx hb dX13_withSounds_69 hl (by decide) rfl (fun ls hl => ?_)
          have fx139 : V93 (q + 37) = some (.inl (cs 0, 4000, .inl (af))) := (fr98 (q + 37) (hq_tne (hr_37 hR) hmo (by simp)) (hq_tne (hr_37 hR) (hr_21 hR) (by simp)) (hq_tne (hr_37 hR) (hr_22 hR) (by simp)) (hq_tne (hr_37 hR) (hr_24 hR) (by simp)) (hq_tne (hr_37 hR) (hr_23 hR) (by simp))).trans (ho44)
          have pk141 := pk46.keep (fun x7 (hx7 : q ≤ x7 ∧ x7 < q + 19) => fr98 x7 (by omega) (by omega) (by omega) (by omega) (by omega))
          suffices lp71 : ∀ (k9 : Nat) (V9 : hp_V) (H9 : Heap) (locs9 : List Loc) (ls : Array Slot) (i71 : Int32) (le8 : Int32) (bc8 : Int32) (bg8 : Int32) (bs8 : Int32) (be8 : Int32) (b08 : Int32) (b18 : Int32) (wf8 : Nat → Int32) (sf8 : Nat → Int32) (bf8 : Nat → Int32) (df8 : Nat → Int32), (1000 - i71.toInt).toNat = k9 → hp_Z D cs B s V9 H9 n locs9 → hq_P cs G (fun _ => true) V V9 → V9 (mo) = some (.inr (13, hm_o q (m_tp) (m_sz) (m_fr) (m_bh) (m_hd) (m_ft) (m_fa) (le8) (m_fo) (m_as) (m_fd) (bc8) (bg8) (bs8) (be8) (b08) (b18) (m_cm) (m_hc))) → V9 (q + 21) = some (.inl (cs 0, 276, .inl (wf8))) → V9 (q + 22) = some (.inl (cs 0, 276, .inl (sf8))) → V9 (q + 24) = some (.inl (cs 0, 30, .inl (bf8))) → V9 (q + 23) = some (.inl (cs 3, 60, .inl (df8))) → V9 (q + 37) = some (.inl (cs 0, 4000, .inl (af))) → (∀ x, x ≠ mo → x ≠ q + 21 → x ≠ q + 22 → x ≠ q + 24 → x ≠ q + 23 → V9 x = V x) → hm_AR cs V9 q rh → i16.toInt + 1 ≤ i71.toInt → i71.toInt ≤ (bk.2.2.2.length : Int) → 0 ≤ le8.toInt ∧ le8.toInt ≤ 276 → (sp_tr (sp_M w bk.2.2.2 (sp_U w bk (sp_nm w t9)) ask) (sp_y6 bc8 bg8 bs8 be8 b08 b18) ((sp_fl (sp_wb bk.2.2.2 co.toInt cg.toInt stm.toInt edg.toInt i16.toInt.toNat) i71.toInt.toNat (bk.2.2.2.length - i71.toInt.toNat)) ++ (sp_fl (sp_wa bk.2.2.2 co.toInt cg.toInt stm.toInt edg.toInt) (i16.toInt.toNat + 1) (bk.2.2.2.length - (i16.toInt.toNat + 1)))) = sp_tr (sp_M w bk.2.2.2 (sp_U w bk (sp_nm w t9)) ask) (sp_y6 m_bc m_bg m_bs m_be m_b0 m_b1) (sp_wy bk.2.2.2 co.toInt cg.toInt stm.toInt edg.toInt)) → lv_has ls 8 [(7, .int (i71)), (6, .int (i16)), (0, .ref (mo)), (1, .int (v)), (2, .int (stm)), (3, .int (edg)), (4, .int (co)), (5, .int (cg))] → W p l e ({ frames := 5, cells := 0, slots := 0, locals := 122 }) s m ([.ref (mo), .int (v), .int (stm), .int (edg), .int (co), .int (cg)] : List Value).toArray below meth c H9 locs9 0 0 (MQ below (hp_QV D cs B (fun V' n' => n = n' ∧ hq_P cs G (fun _ => true) V V' ∧ (∀ x, x ≠ mo → x ≠ q + 21 → x ≠ q + 22 → x ≠ q + 24 → x ≠ q + 23 → V' x = V x) ∧ (∃ m_le1 : Int32, ∃ m_bc1 : Int32, ∃ m_bg1 : Int32, ∃ m_bs1 : Int32, ∃ m_be1 : Int32, ∃ m_b01 : Int32, ∃ m_b11 : Int32, ∃ wf1 : Nat → Int32, ∃ sf1 : Nat → Int32, ∃ bf1 : Nat → Int32, ∃ df1 : Nat → Int32, V' (mo) = some (.inr (13, hm_o q (m_tp) (m_sz) (m_fr) (m_bh) (m_hd) (m_ft) (m_fa) (m_le1) (m_fo) (m_as) (m_fd) (m_bc1) (m_bg1) (m_bs1) (m_be1) (m_b01) (m_b11) (m_cm) (m_hc))) ∧ V' (q + 21) = some (.inl (cs 0, 276, .inl (wf1))) ∧ V' (q + 22) = some (.inl (cs 0, 276, .inl (sf1))) ∧ V' (q + 24) = some (.inl (cs 0, 30, .inl (bf1))) ∧ V' (q + 23) = some (.inl (cs 3, 60, .inl (df1))) ∧ ((sp_y6 m_bc1 m_bg1 m_bs1 m_be1 m_b01 m_b11) = sp_tr (sp_M w bk.2.2.2 (sp_U w bk (sp_nm w t9)) ask) (sp_y6 m_bc m_bg m_bs m_be m_b0 m_b1) (sp_wy bk.2.2.2 co.toInt cg.toInt stm.toInt edg.toInt)) ∧ (0 ≤ m_le1.toInt ∧ m_le1.toInt ≤ 276)))) ([.ref (mo), .int (v), .int (stm), .int (edg), .int (co), .int (cg)] : List Value).toArray s 0 0 (hp_F B)) (F0 m 71 ls []) from lp71 _ _ _ _ ls (y128) (z99) (z100) (z101) (z102) (z103) (z104) (z105) (u106) (u107) (u108) (u109) rfl hZ hP ho110 ho111 ho112 ho113 ho114 fx139 (fun x8 hne0 hne1 hne2 hne3 hne4 => (fr98 x8 hne0 hne1 hne2 hne3 hne4).trans (fr16 x8 hne0 hne1 hne2 hne3 hne4)) pk141 (by omega) (by omega) (by omega) (by have h9 := sp_wa_in (by omega) (by omega) (by omega) htr (hp115.trans (congrArg (sp_t1 _ _) (sp_y6_eq (by omega) (by omega) rfl rfl (by omega) (by decide)))); rw [show (y128).toInt.toNat = i16.toInt.toNat + 1 by omega]; exact h9) (lv_sub hl [0, 1, 2, 3, 4, 5, 6, 7] rfl)
          intro k9
          induction k9 using Nat.strongRecOn with
          | _ k9 ih71 =>
            intro V9 H9 locs9 ls i71  le8 bc8 bg8 bs8 be8 b08 b18 wf8 sf8 bf8 df8 hk71 hZ hP ho134 ho135 ho136 ho137 ho138 ho140 fr71 pk142 hv143 hv144 hv145 htb hl
            have hb_i71 := hq_rng i71
            have hb_le8 := hq_rng le8
            have hb_bc8 := hq_rng bc8
            have hb_bg8 := hq_rng bg8
            have hb_bs8 := hq_rng bs8
            have hb_be8 := hq_rng be8
            have hb_b08 := hq_rng b08
            have hb_b18 := hq_rng b18
            have hf146 := hq_rg20 hP.1 (hr_21 hR) ho135
            have hf147 := hq_rg20 hP.1 (hr_22 hR) ho136
            have hf148 := hq_rg20 hP.1 (hr_24 hR) ho137
            have hf149 := hq_rg20 hP.1 (hr_37 hR) ho140
            refine lv_iload hx hb dX13_withSounds_71 (lv_at hl 0 rfl) ?_
            refine lv_aload_n hx hb dX13_withSounds_73 rfl (lv_at hl 2 rfl) ?_
            refine hp_get (v := .ref (q + 2)) hx hb hts hown hZ ho134 fl_X13_10 rfl dX13_withSounds_74 ?_
            refine lv_iconst (v := 0) hx hb dX13_withSounds_77 (by decide) ?_
            obtain ⟨rf150, hrf151⟩ : ∃ f : Nat → Int32, f = rh 2 := ⟨_, rfl⟩
            have ea152 : V9 (q + 2) = some (.inl (cs 1, 2, .inl (rf150))) := by rw [hrf151]; exact pk142 2 (by decide)
            have hra153 := hq_rg hP.1 (hr_2 hR) ea152
            refine hp_iald hx hb hZ ea152 (by unfold vp_in; decide) dX13_withSounds_78 ?_
            refine lv_topi (fun y154 ey155 => ?_)
            have b156 : hq_ir (hq_lo 8) (hq_hi 8) y154 := by rw [ey155]; exact hra153 _ (by decide)
            have b156 : 0 ≤ (y154).toInt ∧ (y154).toInt ≤ 60 := b156
            have b157 : (y154).toInt = (bk.2.2.2.length : Int) := by rw [ey155, hrf151]; exact hBm.2.2.1
            refine lv_icmp_ge (tgt := 118) hx hb dX13_withSounds_79 (by decide) (fun c158 => ?_) (fun c158 => ?_)
            · have c158 : (y154).toInt ≤ (i71).toInt := hq_lei.mp c158
              obtain ⟨y159, ey160⟩ : ∃ y : Int32, y = i16 + (1) := ⟨_, rfl⟩
              obtain ⟨k161, hk162, b163, b164⟩ := hq_add (i16) (1)
              rw [← ey160] at hk162 b163 b164
              have hk162 : (y159).toInt = (i16).toInt + (1) + k161 * 4294967296 := hk162
              obtain rfl : k161 = 0 := by omega
              refine lv_iinc (v := y159) (lv' := [(6, .int (y159)), (7, .int (i71)), (0, .ref (mo)), (1, .int (v)), (2, .int (stm)), (3, .int (edg)), (4, .int (co)), (5, .int (cg))]) hx hb dX13_withSounds_118 hl (k := 1) rfl (by rw [ey160]; rfl) (by decide) rfl (fun ls hl => ?_)
              refine lv_goto (tgt := 16) hx hb dX13_withSounds_121 (by decide) ?_
              exact ih16 _ (by omega) _ _ _ ls (y159) (le8) (bc8) (bg8) (bs8) (be8) (b08) (b18) (wf8) (sf8) (bf8) (df8) rfl hZ hP ho134 ho135 ho136 ho137 ho138 ho140 (fun x8 hne0 hne1 hne2 hne3 hne4 => fr71 x8 hne0 hne1 hne2 hne3 hne4) pk142 (by omega) (by omega) (by omega) (by have h9 := (sp_wb_out (by omega) htb); rwa [show i16.toInt.toNat + 1 = (y159).toInt.toNat by omega] at h9) (lv_sub hl [0, 2, 3, 4, 5, 6, 7] rfl)
            · have c158 : ¬ (y154).toInt ≤ (i71).toInt := fun h9 => c158 (hq_lei.mpr h9)
              have hiib : ((i71).toNatClampNeg : Int) = (i71).toInt := (hq_nn (by omega)).1.symm
              obtain ⟨xb, hxb⟩ : ∃ t, bk.2.2.2[(i71).toNatClampNeg]? = some t := ⟨_, List.getElem?_eq_getElem (by omega)⟩
              obtain ⟨hq1b, -, -, -, hq5b, hq6b, hq7b⟩ := hBm.2.2.2.2.2.2 _ _ hxb
              rw [show 60 * 0 + (i71).toNatClampNeg = (i71).toNatClampNeg by omega] at hq1b hq5b hq6b hq7b
              have hFTb : hm_FT rh 14 5 (i71).toNatClampNeg (sp_F w xb) := hq6b.ft
              have hSTb : hm_FT rh 15 6 (i71).toNatClampNeg (sp_S2 w xb) := hq7b.ft
              have hFlb := hFTb.1
              have hFmb := hFTb.2.1
              have hSlb := hSTb.1
              have hSmb := hSTb.2.1
              have hkdb : sp_kd bk.2.2.2 (i71).toInt.toNat = xb.1 := sp_kd_i hxb
              refine lv_aload_n hx hb dX13_withSounds_82 rfl (lv_at hl 2 rfl) ?_
              refine hp_get (v := .ref (q + 10)) hx hb hts hown hZ ho134 fl_X13_29 rfl dX13_withSounds_83 ?_
              refine lv_iload hx hb dX13_withSounds_86 (lv_at hl 0 rfl) ?_
              obtain ⟨rf165, hrf166⟩ : ∃ f : Nat → Int32, f = rh 10 := ⟨_, rfl⟩
              have ea167 : V9 (q + 10) = some (.inl (cs 1, 120, .inl (rf165))) := by rw [hrf166]; exact pk142 10 (by decide)
              have hra168 := hq_rg hP.1 (hr_10 hR) ea167
              refine hp_iald hx hb hZ ea167 (hq_in (by omega) (by omega)) dX13_withSounds_88 ?_
              refine lv_topi (fun y169 ey170 => ?_)
              have b171 := hq_rng y169
              have b172 : (y169).toInt = (rh 10 (i71).toNatClampNeg).toInt := by rw [ey170, hrf166]
              refine lv_iconst (v := 2) hx hb dX13_withSounds_89 (by decide) ?_
              refine lv_icmp_ne (tgt := 112) hx hb dX13_withSounds_90 (by decide) (fun c173 => ?_) (fun c173 => ?_)
              · have c173 : ¬ (y169).toInt = (2 : Int) := fun h9 => c173 (hq_eqi.mpr h9)
                obtain ⟨y174, ey175⟩ : ∃ y : Int32, y = i71 + (1) := ⟨_, rfl⟩
                obtain ⟨k176, hk177, b178, b179⟩ := hq_add (i71) (1)
                rw [← ey175] at hk177 b178 b179
                have hk177 : (y174).toInt = (i71).toInt + (1) + k176 * 4294967296 := hk177
                obtain rfl : k176 = 0 := by omega
                refine lv_iinc (v := y174) (lv' := [(7, .int (y174)), (6, .int (i16)), (0, .ref (mo)), (1, .int (v)), (2, .int (stm)), (3, .int (edg)), (4, .int (co)), (5, .int (cg))]) hx hb dX13_withSounds_112 hl (k := 0) rfl (by rw [ey175]; rfl) (by decide) rfl (fun ls hl => ?_)
                refine lv_goto (tgt := 71) hx hb dX13_withSounds_115 (by decide) ?_
                exact ih71 _ (by omega) _ _ _ ls (y174) (le8) (bc8) (bg8) (bs8) (be8) (b08) (b18) (wf8) (sf8) (bf8) (df8) rfl hZ hP ho134 ho135 ho136 ho137 ho138 ho140 (fun x8 hne0 hne1 hne2 hne3 hne4 => fr71 x8 hne0 hne1 hne2 hne3 hne4) pk142 (by omega) (by omega) (by omega) (by have h9 := sp_wb_skip (by omega) (by omega) htb; rw [show (y174).toInt.toNat = i71.toInt.toNat + 1 by omega]; exact h9) (lv_sub hl [0, 1, 2, 3, 4, 5, 6, 7] rfl)
              · have c173 : (y169).toInt = (2 : Int) := hq_eqi.mp c173
                refine lv_aload_n hx hb dX13_withSounds_93 rfl (lv_at hl 2 rfl) ?_
                refine lv_iload_n hx hb dX13_withSounds_94 rfl (lv_at hl 3 rfl) ?_
                refine lv_iload_n hx hb dX13_withSounds_95 rfl (lv_at hl 4 rfl) ?_
                refine lv_iload_n hx hb dX13_withSounds_96 rfl (lv_at hl 5 rfl) ?_
                refine lv_iload hx hb dX13_withSounds_97 (lv_at hl 1 rfl) ?_
                refine lv_iload hx hb dX13_withSounds_99 (lv_at hl 0 rfl) ?_
                refine lv_iload hx hb dX13_withSounds_101 (lv_at hl 6 rfl) ?_
                refine lv_iconst (v := 4) hx hb dX13_withSounds_103 (by decide) ?_
                refine lv_iadd hx hb dX13_withSounds_104 ?_
                refine lv_topi (fun y180 ey181 => ?_)
                obtain ⟨k182, hk183, b184, b185⟩ := hq_add (co) (4)
                rw [← ey181] at hk183 b184 b185
                have hk183 : (y180).toInt = (co).toInt + (4 : Int) + k182 * 4294967296 := hk183
                obtain rfl : k182 = 0 := by omega
                refine lv_iload hx hb dX13_withSounds_105 (lv_at hl 7 rfl) ?_
                refine lv_iconst (v := 2) hx hb dX13_withSounds_107 (by decide) ?_
                refine lv_iadd hx hb dX13_withSounds_108 ?_
                refine lv_topi (fun y186 ey187 => ?_)
                obtain ⟨k188, hk189, b190, b191⟩ := hq_add (cg) (2)
                rw [← ey187] at hk189 b190 b191
                have hk189 : (y186).toInt = (cg).toInt + (2 : Int) + k188 * 4294967296 := hk189
                obtain rfl : k188 = 0 := by omega
                refine hp_callv (hp_runV (As := [.int (v), .int (stm), .int (edg), .int (i16), .int (i71), .int (y180), .int (y186)]) (rest := []) hx hb hml hown hts (y_attempt l D cs B G V9 n hP.1 (q) (mo) (w) (bk) (t9) (rh) (m_tp) (m_sz) (m_fr) (m_bh) (m_hd) (m_ft) (m_fa) (le8) (m_fo) (m_as) (m_fd) (bc8) (bg8) (bs8) (be8) (b08) (b18) (m_cm) (m_hc) (v) (stm) (edg) (i16) (i71) (y180) (y186) (wf8) (sf8) (bf8) (df8) (af) (ask)  ho134 ho135 ho136 ho137 ho138 ho140 pk142 hR hmo hmq hBm hgd hgd2 hoc ht9 hv hask (by omega) (by omega) hstma hedga hstk) hZ ho134 cv_X13_434 rfl rfl ⟨Nat.le_of_ble_eq_true rfl, Nat.le_of_ble_eq_true rfl⟩ rfl hl.1 rfl (Nat.le_of_ble_eq_true rfl) dX13_withSounds_109 ⟨(Nat.le_of_ble_eq_true rfl), (Nat.le_of_ble_eq_true rfl)⟩) hZ (fun V192 n193 _ _ hw194 hZ => ?_)
                obtain ⟨rfl, hq196, fr197, z198, z199, z200, z201, z202, z203, z204, u205, u206, u207, u208, ho209, ho210, ho211, ho212, ho213, hp214, hp215⟩ := hw194
                have b216 := hq_rng z198
                have b217 := hq_rng z199
                have b218 := hq_rng z200
                have b219 := hq_rng z201
                have b220 := hq_rng z202
                have b221 := hq_rng z203
                have b222 := hq_rng z204
                have hP := hP.trans hq196 (fun _ h => Bool.noConfusion h)
                have hf223 := hq_rg20 hP.1 (hr_21 hR) ho210
                have hf224 := hq_rg20 hP.1 (hr_22 hR) ho211
                have hf225 := hq_rg20 hP.1 (hr_24 hR) ho212
                have b226 := hp215
                obtain ⟨y227, ey228⟩ : ∃ y : Int32, y = i71 + (1) := ⟨_, rfl⟩
                obtain ⟨k229, hk230, b231, b232⟩ := hq_add (i71) (1)
                rw [← ey228] at hk230 b231 b232
                have hk230 : (y227).toInt = (i71).toInt + (1) + k229 * 4294967296 := hk230
                obtain rfl : k229 = 0 := by omega
                refine lv_iinc (v := y227) (lv' := [(7, .int (y227)), (6, .int (i16)), (0, .ref (mo)), (1, .int (v)), (2, .int (stm)), (3, .int (edg)), (4, .int (co)), (5, .int (cg))]) hx hb dX13_withSounds_112 hl (k := 0) rfl (by rw [ey228]; rfl) (by decide) rfl (fun ls hl => ?_)
                refine lv_goto (tgt := 71) hx hb dX13_withSounds_115 (by decide) ?_
                have fx233 : V192 (q + 37) = some (.inl (cs 0, 4000, .inl (af))) := (fr197 (q + 37) (hq_tne (hr_37 hR) hmo (by simp)) (hq_tne (hr_37 hR) (hr_21 hR) (by simp)) (hq_tne (hr_37 hR) (hr_22 hR) (by simp)) (hq_tne (hr_37 hR) (hr_24 hR) (by simp)) (hq_tne (hr_37 hR) (hr_23 hR) (by simp))).trans (ho140)
                have pk234 := pk142.keep (fun x7 (hx7 : q ≤ x7 ∧ x7 < q + 19) => fr197 x7 (by omega) (by omega) (by omega) (by omega) (by omega))
                exact ih71 _ (by omega) _ _ _ ls (y227) (z198) (z199) (z200) (z201) (z202) (z203) (z204) (u205) (u206) (u207) (u208) rfl hZ hP ho209 ho210 ho211 ho212 ho213 fx233 (fun x8 hne0 hne1 hne2 hne3 hne4 => (fr197 x8 hne0 hne1 hne2 hne3 hne4).trans (fr71 x8 hne0 hne1 hne2 hne3 hne4)) pk234 (by omega) (by omega) (by omega) (by have h9 := sp_wb_in (by omega) (by omega) htb (hp214.trans (congrArg (sp_t1 _ _) (sp_y6_eq (by omega) (by omega) rfl rfl (by omega) (by omega)))); rw [show (y227).toInt.toNat = i71.toInt.toNat + 1 by omega]; exact h9) (lv_sub hl [0, 1, 2, 3, 4, 5, 6, 7] rfl)
        · have c79 : ¬ (cg).toInt ≤ (1 : Int) := fun h9 => c79 (hq_lei.mpr h9)
          refine lv_goto (tgt := 118) hx hb dX13_withSounds_44 (by decide) ?_
          obtain ⟨y235, ey236⟩ : ∃ y : Int32, y = i16 + (1) := ⟨_, rfl⟩
          obtain ⟨k237, hk238, b239, b240⟩ := hq_add (i16) (1)
          rw [← ey236] at hk238 b239 b240
          have hk238 : (y235).toInt = (i16).toInt + (1) + k237 * 4294967296 := hk238
          obtain rfl : k237 = 0 := by omega
          refine lv_iinc (v := y235) (lv' := [(6, .int (y235)), (0, .ref (mo)), (1, .int (v)), (2, .int (stm)), (3, .int (edg)), (4, .int (co)), (5, .int (cg))]) hx hb dX13_withSounds_118 hl (k := 0) rfl (by rw [ey236]; rfl) (by decide) rfl (fun ls hl => ?_)
          refine lv_goto (tgt := 16) hx hb dX13_withSounds_121 (by decide) ?_
          exact ih16 _ (by omega) _ _ _ ls (y235) (le9) (bc9) (bg9) (bs9) (be9) (b09) (b19) (wf9) (sf9) (bf9) (df9) rfl hZ hP ho38 ho39 ho40 ho41 ho42 ho44 (fun x8 hne0 hne1 hne2 hne3 hne4 => fr16 x8 hne0 hne1 hne2 hne3 hne4) pk46 (by omega) (by omega) (by omega) (by have h9 := (sp_wa_skip (by omega) (by omega) htr); rwa [show i16.toInt.toNat + 1 = (y235).toInt.toNat by omega] at h9) (lv_sub hl [0, 1, 2, 3, 4, 5, 6] rfl)

set_option maxHeartbeats 4000000 in
set_option maxRecDepth 100000 in
theorem y_we (l : Launch) (D : va_G) (cs : Nat → ClassId) (B : Nat) (G : hq_G) (V : hp_V) (n : Nat) (hI : hq_I cs G V) (q : Nat) (mo : Nat) (w : sp_W) (bk : sp_B) (t9 : Nat) (rh : hm_Rh) (m_tp : Int32) (m_sz : Int32) (m_fr : Int32) (m_bh : Int32) (m_hd : Int32) (m_ft : Int32) (m_fa : Int32) (m_le : Int32) (m_fo : Int32) (m_as : Int32) (m_fd : Int32) (m_bc : Int32) (m_bg : Int32) (m_bs : Int32) (m_be : Int32) (m_b0 : Int32) (m_b1 : Int32) (m_cm : Int32) (m_hc : Int32) (v : Int32) (stm : Int32) (edg : Int32) (co : Int32) (cg : Int32) (wf : Nat → Int32) (sf : Nat → Int32) (bf : Nat → Int32) (df : Nat → Int32) (af : Nat → Int32) (ask : List Int) (hc0 : V (mo) = some (.inr (13, hm_o q (m_tp) (m_sz) (m_fr) (m_bh) (m_hd) (m_ft) (m_fa) (m_le) (m_fo) (m_as) (m_fd) (m_bc) (m_bg) (m_bs) (m_be) (m_b0) (m_b1) (m_cm) (m_hc)))) (hc1 : V (q + 21) = some (.inl (cs 0, 276, .inl (wf)))) (hc2 : V (q + 22) = some (.inl (cs 0, 276, .inl (sf)))) (hc3 : V (q + 24) = some (.inl (cs 0, 30, .inl (bf)))) (hc4 : V (q + 23) = some (.inl (cs 3, 60, .inl (df)))) (hc5 : V (q + 37) = some (.inl (cs 0, 4000, .inl (af)))) (hp0 : hm_AR cs V q rh) (hR : hq_RT G q) (hmo : G mo = some (24, 0, 0, 0)) (hmq : mo < q) (hBm : hm_BK rh 0 w bk) (hgd : sp_good w bk) (hgd2 : sp_good2 bk) (hoc : sp_okc w) (ht9 : bk.2.1[v.toNatClampNeg]? = some t9) (hv : 0 ≤ v.toInt) (hask : sp_rp m_as af ask) (has : m_as.toInt ≤ 4000) (hlem : 0 ≤ m_le.toInt ∧ m_le.toInt ≤ 276) (hstma : stm.toInt = -1 ∨ (0 ≤ stm.toInt ∧ stm.toInt < (bk.2.2.2.length : Int))) (hedga : edg.toInt = -1 ∨ (0 ≤ edg.toInt ∧ edg.toInt < (bk.2.2.2.length : Int))) (hstk : ∀ x, 0 ≤ stm.toInt → bk.2.2.2[stm.toInt.toNat]? = some x → x.1 = 0) (hco : 0 ≤ co.toInt ∧ co.toInt ≤ 400) (hcg : 0 ≤ cg.toInt ∧ cg.toInt ≤ 40) : hp_M l yX13_withEndings cX13_withEndings 7 none ({ frames := 6, cells := 0, slots := 0, locals := 149 }) D cs B V n [.ref (mo), .int (v), .int (stm), .int (edg), .int (co), .int (cg)] (hp_QV D cs B (fun V' n' => n = n' ∧ hq_P cs G (fun _ => true) V V' ∧ (∀ x, x ≠ mo → x ≠ q + 21 → x ≠ q + 22 → x ≠ q + 24 → x ≠ q + 23 → V' x = V x) ∧ (∃ m_le1 : Int32, ∃ m_bc1 : Int32, ∃ m_bg1 : Int32, ∃ m_bs1 : Int32, ∃ m_be1 : Int32, ∃ m_b01 : Int32, ∃ m_b11 : Int32, ∃ wf1 : Nat → Int32, ∃ sf1 : Nat → Int32, ∃ bf1 : Nat → Int32, ∃ df1 : Nat → Int32, V' (mo) = some (.inr (13, hm_o q (m_tp) (m_sz) (m_fr) (m_bh) (m_hd) (m_ft) (m_fa) (m_le1) (m_fo) (m_as) (m_fd) (m_bc1) (m_bg1) (m_bs1) (m_be1) (m_b01) (m_b11) (m_cm) (m_hc))) ∧ V' (q + 21) = some (.inl (cs 0, 276, .inl (wf1))) ∧ V' (q + 22) = some (.inl (cs 0, 276, .inl (sf1))) ∧ V' (q + 24) = some (.inl (cs 0, 30, .inl (bf1))) ∧ V' (q + 23) = some (.inl (cs 3, 60, .inl (df1))) ∧ ((sp_y6 m_bc1 m_bg1 m_bs1 m_be1 m_b01 m_b11) = sp_tr (sp_M w bk.2.2.2 (sp_U w bk (sp_nm w t9)) ask) (sp_y6 m_bc m_bg m_bs m_be m_b0 m_b1) (sp_we bk.2.2.2 co.toInt cg.toInt stm.toInt edg.toInt)) ∧ (0 ≤ m_le1.toInt ∧ m_le1.toInt ≤ 276)))) 0 0 := by
  refine hp_walk (R0 := RX13) (by decide) rfl ?_ (Nat.le_of_ble_eq_true rfl)
  intro p e s m below meth c ls hx hb hr hts hown hlocks hin hml hZ hl
  have hP : hq_P cs G (fun _ => true) V V := hq_P.rf hI
  have hl : lv_has ls 7 [(0, .ref (mo)), (1, .int (v)), (2, .int (stm)), (3, .int (edg)), (4, .int (co)), (5, .int (cg))] := hl
  have hb_m_tp := hq_rng m_tp
  have hb_m_sz := hq_rng m_sz
  have hb_m_fr := hq_rng m_fr
  have hb_m_bh := hq_rng m_bh
  have hb_m_hd := hq_rng m_hd
  have hb_m_ft := hq_rng m_ft
  have hb_m_fa := hq_rng m_fa
  have hb_m_le := hq_rng m_le
  have hb_m_fo := hq_rng m_fo
  have hb_m_as := hq_rng m_as
  have hb_m_fd := hq_rng m_fd
  have hb_m_bc := hq_rng m_bc
  have hb_m_bg := hq_rng m_bg
  have hb_m_bs := hq_rng m_bs
  have hb_m_be := hq_rng m_be
  have hb_m_b0 := hq_rng m_b0
  have hb_m_b1 := hq_rng m_b1
  have hb_m_cm := hq_rng m_cm
  have hb_m_hc := hq_rng m_hc
  have hb_v := hq_rng v
  have hb_stm := hq_rng stm
  have hb_edg := hq_rng edg
  have hb_co := hq_rng co
  have hb_cg := hq_rng cg
  have hH0 : hm_H rh rh := hm_H.rf
  have hll9 := hBm.2.2.2.2.2.1
  have jn16 : ∀ (V9 : hp_V) (H9 : Heap) (locs9 : List Loc) (ls : Array Slot)  (le7 : Int32) (bc7 : Int32) (bg7 : Int32) (bs7 : Int32) (be7 : Int32) (b07 : Int32) (b17 : Int32) (wf7 : Nat → Int32) (sf7 : Nat → Int32) (bf7 : Nat → Int32) (df7 : Nat → Int32), hp_Z D cs B s V9 H9 n locs9 → hq_P cs G (fun _ => true) V V9 → V9 (mo) = some (.inr (13, hm_o q (m_tp) (m_sz) (m_fr) (m_bh) (m_hd) (m_ft) (m_fa) (le7) (m_fo) (m_as) (m_fd) (bc7) (bg7) (bs7) (be7) (b07) (b17) (m_cm) (m_hc))) → V9 (q + 21) = some (.inl (cs 0, 276, .inl (wf7))) → V9 (q + 22) = some (.inl (cs 0, 276, .inl (sf7))) → V9 (q + 24) = some (.inl (cs 0, 30, .inl (bf7))) → V9 (q + 23) = some (.inl (cs 3, 60, .inl (df7))) → V9 (q + 37) = some (.inl (cs 0, 4000, .inl (af))) → (∀ x, x ≠ mo → x ≠ q + 21 → x ≠ q + 22 → x ≠ q + 24 → x ≠ q + 23 → V9 x = V x) → hm_AR cs V9 q rh → 0 ≤ le7.toInt ∧ le7.toInt ≤ 276 → (sp_tr (sp_M w bk.2.2.2 (sp_U w bk (sp_nm w t9)) ask) (sp_y6 bc7 bg7 bs7 be7 b07 b17) (if 1 < cg.toInt then [] else (sp_fl (sp_wel bk.2.2.2 co.toInt cg.toInt stm.toInt edg.toInt) 0 (bk.2.2.2.length - 0)) ++ sp_wy bk.2.2.2 (co.toInt + 4) (cg.toInt + 1) stm.toInt (-1)) = sp_tr (sp_M w bk.2.2.2 (sp_U w bk (sp_nm w t9)) ask) (sp_y6 m_bc m_bg m_bs m_be m_b0 m_b1) (sp_we bk.2.2.2 co.toInt cg.toInt stm.toInt edg.toInt)) → lv_has ls 7 [(0, .ref (mo)), (1, .int (v)), (2, .int (stm)), (3, .int (edg)), (4, .int (co)), (5, .int (cg))] → W p l e ({ frames := 6, cells := 0, slots := 0, locals := 149 }) s m ([.ref (mo), .int (v), .int (stm), .int (edg), .int (co), .int (cg)] : List Value).toArray below meth c H9 locs9 0 0 (MQ below (hp_QV D cs B (fun V' n' => n = n' ∧ hq_P cs G (fun _ => true) V V' ∧ (∀ x, x ≠ mo → x ≠ q + 21 → x ≠ q + 22 → x ≠ q + 24 → x ≠ q + 23 → V' x = V x) ∧ (∃ m_le1 : Int32, ∃ m_bc1 : Int32, ∃ m_bg1 : Int32, ∃ m_bs1 : Int32, ∃ m_be1 : Int32, ∃ m_b01 : Int32, ∃ m_b11 : Int32, ∃ wf1 : Nat → Int32, ∃ sf1 : Nat → Int32, ∃ bf1 : Nat → Int32, ∃ df1 : Nat → Int32, V' (mo) = some (.inr (13, hm_o q (m_tp) (m_sz) (m_fr) (m_bh) (m_hd) (m_ft) (m_fa) (m_le1) (m_fo) (m_as) (m_fd) (m_bc1) (m_bg1) (m_bs1) (m_be1) (m_b01) (m_b11) (m_cm) (m_hc))) ∧ V' (q + 21) = some (.inl (cs 0, 276, .inl (wf1))) ∧ V' (q + 22) = some (.inl (cs 0, 276, .inl (sf1))) ∧ V' (q + 24) = some (.inl (cs 0, 30, .inl (bf1))) ∧ V' (q + 23) = some (.inl (cs 3, 60, .inl (df1))) ∧ ((sp_y6 m_bc1 m_bg1 m_bs1 m_be1 m_b01 m_b11) = sp_tr (sp_M w bk.2.2.2 (sp_U w bk (sp_nm w t9)) ask) (sp_y6 m_bc m_bg m_bs m_be m_b0 m_b1) (sp_we bk.2.2.2 co.toInt cg.toInt stm.toInt edg.toInt)) ∧ (0 ≤ m_le1.toInt ∧ m_le1.toInt ≤ 276)))) ([.ref (mo), .int (v), .int (stm), .int (edg), .int (co), .int (cg)] : List Value).toArray s 0 0 (hp_F B)) (F0 m 16 ls []) := by
    intro V9 H9 locs9 ls   le7 bc7 bg7 bs7 be7 b07 b17 wf7 sf7 bf7 df7 hZ hP ho1 ho2 ho3 ho4 ho5 ho6 fr16 pk7 hv8 hwe hl
    have hb_le7 := hq_rng le7
    have hb_bc7 := hq_rng bc7
    have hb_bg7 := hq_rng bg7
    have hb_bs7 := hq_rng bs7
    have hb_be7 := hq_rng be7
    have hb_b07 := hq_rng b07
    have hb_b17 := hq_rng b17
    have hf9 := hq_rg20 hP.1 (hr_21 hR) ho2
    have hf10 := hq_rg20 hP.1 (hr_22 hR) ho3
    have hf11 := hq_rg20 hP.1 (hr_24 hR) ho4
    have hf12 := hq_rg20 hP.1 (hr_37 hR) ho6
    refine lv_iload hx hb dX13_withEndings_16 (lv_at hl 5 rfl) ?_
    refine lv_iconst (v := 1) hx hb dX13_withEndings_18 (by decide) ?_
    refine lv_icmp_le (tgt := 23) hx hb dX13_withEndings_19 (by decide) (fun c13 => ?_) (fun c13 => ?_)
    · have c13 : (cg).toInt ≤ (1 : Int) := hq_lei.mp c13
      refine lv_iconst (v := 0) hx hb dX13_withEndings_23 (by decide) ?_
      refine lv_istore (lv' := [(6, .int (0)), (0, .ref (mo)), (1, .int (v)), (2, .int (stm)), (3, .int (edg)), (4, .int (co)), (5, .int (cg))]) hx hb dX13_withEndings_24 hl (by decide) rfl (fun ls hl => ?_)
      have hl21 : (0 : Int32).toInt = 0 := by decide
      suffices lp26 : ∀ (k9 : Nat) (V9 : hp_V) (H9 : Heap) (locs9 : List Loc) (ls : Array Slot) (i26 : Int32) (le9 : Int32) (bc9 : Int32) (bg9 : Int32) (bs9 : Int32) (be9 : Int32) (b09 : Int32) (b19 : Int32) (wf9 : Nat → Int32) (sf9 : Nat → Int32) (bf9 : Nat → Int32) (df9 : Nat → Int32), (1000 - i26.toInt).toNat = k9 → hp_Z D cs B s V9 H9 n locs9 → hq_P cs G (fun _ => true) V V9 → V9 (mo) = some (.inr (13, hm_o q (m_tp) (m_sz) (m_fr) (m_bh) (m_hd) (m_ft) (m_fa) (le9) (m_fo) (m_as) (m_fd) (bc9) (bg9) (bs9) (be9) (b09) (b19) (m_cm) (m_hc))) → V9 (q + 21) = some (.inl (cs 0, 276, .inl (wf9))) → V9 (q + 22) = some (.inl (cs 0, 276, .inl (sf9))) → V9 (q + 24) = some (.inl (cs 0, 30, .inl (bf9))) → V9 (q + 23) = some (.inl (cs 3, 60, .inl (df9))) → V9 (q + 37) = some (.inl (cs 0, 4000, .inl (af))) → (∀ x, x ≠ mo → x ≠ q + 21 → x ≠ q + 22 → x ≠ q + 24 → x ≠ q + 23 → V9 x = V x) → hm_AR cs V9 q rh → 0 ≤ i26.toInt → i26.toInt ≤ (bk.2.2.2.length : Int) → 0 ≤ le9.toInt ∧ le9.toInt ≤ 276 → (sp_tr (sp_M w bk.2.2.2 (sp_U w bk (sp_nm w t9)) ask) (sp_y6 bc9 bg9 bs9 be9 b09 b19) ((sp_fl (sp_wel bk.2.2.2 co.toInt cg.toInt stm.toInt edg.toInt) i26.toInt.toNat (bk.2.2.2.length - i26.toInt.toNat)) ++ sp_wy bk.2.2.2 (co.toInt + 4) (cg.toInt + 1) stm.toInt (-1)) = sp_tr (sp_M w bk.2.2.2 (sp_U w bk (sp_nm w t9)) ask) (sp_y6 m_bc m_bg m_bs m_be m_b0 m_b1) (sp_we bk.2.2.2 co.toInt cg.toInt stm.toInt edg.toInt)) → lv_has ls 7 [(6, .int (i26)), (0, .ref (mo)), (1, .int (v)), (2, .int (stm)), (3, .int (edg)), (4, .int (co)), (5, .int (cg))] → W p l e ({ frames := 6, cells := 0, slots := 0, locals := 149 }) s m ([.ref (mo), .int (v), .int (stm), .int (edg), .int (co), .int (cg)] : List Value).toArray below meth c H9 locs9 0 0 (MQ below (hp_QV D cs B (fun V' n' => n = n' ∧ hq_P cs G (fun _ => true) V V' ∧ (∀ x, x ≠ mo → x ≠ q + 21 → x ≠ q + 22 → x ≠ q + 24 → x ≠ q + 23 → V' x = V x) ∧ (∃ m_le1 : Int32, ∃ m_bc1 : Int32, ∃ m_bg1 : Int32, ∃ m_bs1 : Int32, ∃ m_be1 : Int32, ∃ m_b01 : Int32, ∃ m_b11 : Int32, ∃ wf1 : Nat → Int32, ∃ sf1 : Nat → Int32, ∃ bf1 : Nat → Int32, ∃ df1 : Nat → Int32, V' (mo) = some (.inr (13, hm_o q (m_tp) (m_sz) (m_fr) (m_bh) (m_hd) (m_ft) (m_fa) (m_le1) (m_fo) (m_as) (m_fd) (m_bc1) (m_bg1) (m_bs1) (m_be1) (m_b01) (m_b11) (m_cm) (m_hc))) ∧ V' (q + 21) = some (.inl (cs 0, 276, .inl (wf1))) ∧ V' (q + 22) = some (.inl (cs 0, 276, .inl (sf1))) ∧ V' (q + 24) = some (.inl (cs 0, 30, .inl (bf1))) ∧ V' (q + 23) = some (.inl (cs 3, 60, .inl (df1))) ∧ ((sp_y6 m_bc1 m_bg1 m_bs1 m_be1 m_b01 m_b11) = sp_tr (sp_M w bk.2.2.2 (sp_U w bk (sp_nm w t9)) ask) (sp_y6 m_bc m_bg m_bs m_be m_b0 m_b1) (sp_we bk.2.2.2 co.toInt cg.toInt stm.toInt edg.toInt)) ∧ (0 ≤ m_le1.toInt ∧ m_le1.toInt ≤ 276)))) ([.ref (mo), .int (v), .int (stm), .int (edg), .int (co), .int (cg)] : List Value).toArray s 0 0 (hp_F B)) (F0 m 26 ls []) from lp26 _ _ _ _ ls (0) (le7) (bc7) (bg7) (bs7) (be7) (b07) (b17) (wf7) (sf7) (bf7) (df7) rfl hZ hP ho1 ho2 ho3 ho4 ho5 ho6 (fun x8 hne0 hne1 hne2 hne3 hne4 => fr16 x8 hne0 hne1 hne2 hne3 hne4) pk7 (by omega) (by omega) (by omega) (sp_we_go (by omega) hwe) (lv_sub hl [0, 1, 2, 3, 4, 5, 6] rfl)
      intro k9
      induction k9 using Nat.strongRecOn with
      | _ k9 ih26 =>
        intro V9 H9 locs9 ls i26  le9 bc9 bg9 bs9 be9 b09 b19 wf9 sf9 bf9 df9 hk26 hZ hP ho14 ho15 ho16 ho17 ho18 ho19 fr26 pk20 hv22 hv23 hv24 htr hl
        have hb_i26 := hq_rng i26
        have hb_le9 := hq_rng le9
        have hb_bc9 := hq_rng bc9
        have hb_bg9 := hq_rng bg9
        have hb_bs9 := hq_rng bs9
        have hb_be9 := hq_rng be9
        have hb_b09 := hq_rng b09
        have hb_b19 := hq_rng b19
        have hf25 := hq_rg20 hP.1 (hr_21 hR) ho15
        have hf26 := hq_rg20 hP.1 (hr_22 hR) ho16
        have hf27 := hq_rg20 hP.1 (hr_24 hR) ho17
        have hf28 := hq_rg20 hP.1 (hr_37 hR) ho19
        refine lv_iload hx hb dX13_withEndings_26 (lv_at hl 0 rfl) ?_
        refine lv_aload_n hx hb dX13_withEndings_28 rfl (lv_at hl 1 rfl) ?_
        refine hp_get (v := .ref (q + 2)) hx hb hts hown hZ ho14 fl_X13_10 rfl dX13_withEndings_29 ?_
        refine lv_iconst (v := 0) hx hb dX13_withEndings_32 (by decide) ?_
        obtain ⟨rf29, hrf30⟩ : ∃ f : Nat → Int32, f = rh 2 := ⟨_, rfl⟩
        have ea31 : V9 (q + 2) = some (.inl (cs 1, 2, .inl (rf29))) := by rw [hrf30]; exact pk20 2 (by decide)
        have hra32 := hq_rg hP.1 (hr_2 hR) ea31
        refine hp_iald hx hb hZ ea31 (by unfold vp_in; decide) dX13_withEndings_33 ?_
        refine lv_topi (fun y33 ey34 => ?_)
        have b35 : hq_ir (hq_lo 8) (hq_hi 8) y33 := by rw [ey34]; exact hra32 _ (by decide)
        have b35 : 0 ≤ (y33).toInt ∧ (y33).toInt ≤ 60 := b35
        have b36 : (y33).toInt = (bk.2.2.2.length : Int) := by rw [ey34, hrf30]; exact hBm.2.2.1
        refine lv_icmp_ge (tgt := 76) hx hb dX13_withEndings_34 (by decide) (fun c37 => ?_) (fun c37 => ?_)
        · have c37 : (y33).toInt ≤ (i26).toInt := hq_lei.mp c37
          refine lv_aload_n hx hb dX13_withEndings_76 rfl (lv_at hl 1 rfl) ?_
          refine lv_iload_n hx hb dX13_withEndings_77 rfl (lv_at hl 2 rfl) ?_
          refine lv_iload_n hx hb dX13_withEndings_78 rfl (lv_at hl 3 rfl) ?_
          refine lv_iconst (v := -1) hx hb dX13_withEndings_79 (by decide) ?_
          refine lv_iload hx hb dX13_withEndings_80 (lv_at hl 5 rfl) ?_
          refine lv_iconst (v := 4) hx hb dX13_withEndings_82 (by decide) ?_
          refine lv_iadd hx hb dX13_withEndings_83 ?_
          refine lv_topi (fun y38 ey39 => ?_)
          obtain ⟨k40, hk41, b42, b43⟩ := hq_add (co) (4)
          rw [← ey39] at hk41 b42 b43
          have hk41 : (y38).toInt = (co).toInt + (4 : Int) + k40 * 4294967296 := hk41
          obtain rfl : k40 = 0 := by omega
          refine lv_iload hx hb dX13_withEndings_84 (lv_at hl 6 rfl) ?_
          refine lv_iconst (v := 1) hx hb dX13_withEndings_86 (by decide) ?_
          refine lv_iadd hx hb dX13_withEndings_87 ?_
          refine lv_topi (fun y44 ey45 => ?_)
          obtain ⟨k46, hk47, b48, b49⟩ := hq_add (cg) (1)
          rw [← ey45] at hk47 b48 b49
          have hk47 : (y44).toInt = (cg).toInt + (1 : Int) + k46 * 4294967296 := hk47
          obtain rfl : k46 = 0 := by omega
          have hl50 : (-1 : Int32).toInt = -1 := by decide
          refine hp_callv (hp_runV (As := [.int (v), .int (stm), .int (-1), .int (y38), .int (y44)]) (rest := []) hx hb hml hown hts (y_ws l D cs B G V9 n hP.1 (q) (mo) (w) (bk) (t9) (rh) (m_tp) (m_sz) (m_fr) (m_bh) (m_hd) (m_ft) (m_fa) (le9) (m_fo) (m_as) (m_fd) (bc9) (bg9) (bs9) (be9) (b09) (b19) (m_cm) (m_hc) (v) (stm) (-1) (y38) (y44) (wf9) (sf9) (bf9) (df9) (af) (ask)  ho14 ho15 ho16 ho17 ho18 ho19 pk20 hR hmo hmq hBm hgd hgd2 hoc ht9 hv hask (by omega) (by omega) hstma (Or.inl (by decide)) hstk (by omega) (by omega)) hZ ho14 cv_X13_438 rfl rfl ⟨Nat.le_of_ble_eq_true rfl, Nat.le_of_ble_eq_true rfl⟩ rfl hl.1 rfl (Nat.le_of_ble_eq_true rfl) dX13_withEndings_88 ⟨(Nat.le_of_ble_eq_true rfl), (Nat.le_of_ble_eq_true rfl)⟩) hZ (fun V51 n52 _ _ hw53 hZ => ?_)
          obtain ⟨rfl, hq55, fr56, z57, z58, z59, z60, z61, z62, z63, u64, u65, u66, u67, ho68, ho69, ho70, ho71, ho72, hp73, hp74⟩ := hw53
          have b75 := hq_rng z57
          have b76 := hq_rng z58
          have b77 := hq_rng z59
          have b78 := hq_rng z60
          have b79 := hq_rng z61
          have b80 := hq_rng z62
          have b81 := hq_rng z63
          have hP := hP.trans hq55 (fun _ h => Bool.noConfusion h)
          have hf82 := hq_rg20 hP.1 (hr_21 hR) ho69
          have hf83 := hq_rg20 hP.1 (hr_22 hR) ho70
          have hf84 := hq_rg20 hP.1 (hr_24 hR) ho71
          have b85 := hp74
          have hws86 := hp73
          rw [show (y38).toInt = co.toInt + 4 by omega, show (y44).toInt = cg.toInt + 1 by omega, show (-1 : Int32).toInt = -1 by decide] at hws86
          exact hp_vret hx hb hr hlocks hZ ⟨rfl, hP, (fun x8 hne0 hne1 hne2 hne3 hne4 => (fr56 x8 hne0 hne1 hne2 hne3 hne4).trans (fr26 x8 hne0 hne1 hne2 hne3 hne4)), z57, z58, z59, z60, z61, z62, z63, u64, u65, u66, u67, ho68, ho69, ho70, ho71, ho72, hws86.trans (sp_wel_out (by omega) htr), by omega⟩ dX13_withEndings_91
        · have c37 : ¬ (y33).toInt ≤ (i26).toInt := fun h9 => c37 (hq_lei.mpr h9)
          have hiia : ((i26).toNatClampNeg : Int) = (i26).toInt := (hq_nn (by omega)).1.symm
          obtain ⟨xa, hxa⟩ : ∃ t, bk.2.2.2[(i26).toNatClampNeg]? = some t := ⟨_, List.getElem?_eq_getElem (by omega)⟩
          obtain ⟨hq1a, -, -, -, hq5a, hq6a, hq7a⟩ := hBm.2.2.2.2.2.2 _ _ hxa
          rw [show 60 * 0 + (i26).toNatClampNeg = (i26).toNatClampNeg by omega] at hq1a hq5a hq6a hq7a
          have hFTa : hm_FT rh 14 5 (i26).toNatClampNeg (sp_F w xa) := hq6a.ft
          have hSTa : hm_FT rh 15 6 (i26).toNatClampNeg (sp_S2 w xa) := hq7a.ft
          have hFla := hFTa.1
          have hFma := hFTa.2.1
          have hSla := hSTa.1
          have hSma := hSTa.2.1
          have hkda : sp_kd bk.2.2.2 (i26.toInt.toNat) = xa.1 := sp_kd_i hxa
          refine lv_aload_n hx hb dX13_withEndings_37 rfl (lv_at hl 1 rfl) ?_
          refine hp_get (v := .ref (q + 10)) hx hb hts hown hZ ho14 fl_X13_29 rfl dX13_withEndings_38 ?_
          refine lv_iload hx hb dX13_withEndings_41 (lv_at hl 0 rfl) ?_
          obtain ⟨rf87, hrf88⟩ : ∃ f : Nat → Int32, f = rh 10 := ⟨_, rfl⟩
          have ea89 : V9 (q + 10) = some (.inl (cs 1, 120, .inl (rf87))) := by rw [hrf88]; exact pk20 10 (by decide)
          have hra90 := hq_rg hP.1 (hr_10 hR) ea89
          refine hp_iald hx hb hZ ea89 (hq_in (by omega) (by omega)) dX13_withEndings_43 ?_
          refine lv_topi (fun y91 ey92 => ?_)
          have b93 := hq_rng y91
          have b94 : (y91).toInt = (rh 10 (i26).toNatClampNeg).toInt := by rw [ey92, hrf88]
          refine lv_iconst (v := 1) hx hb dX13_withEndings_44 (by decide) ?_
          refine lv_icmp_ne (tgt := 70) hx hb dX13_withEndings_45 (by decide) (fun c95 => ?_) (fun c95 => ?_)
          · have c95 : ¬ (y91).toInt = (1 : Int) := fun h9 => c95 (hq_eqi.mpr h9)
            obtain ⟨y96, ey97⟩ : ∃ y : Int32, y = i26 + (1) := ⟨_, rfl⟩
            obtain ⟨k98, hk99, b100, b101⟩ := hq_add (i26) (1)
            rw [← ey97] at hk99 b100 b101
            have hk99 : (y96).toInt = (i26).toInt + (1) + k98 * 4294967296 := hk99
            obtain rfl : k98 = 0 := by omega
            refine lv_iinc (v := y96) (lv' := [(6, .int (y96)), (0, .ref (mo)), (1, .int (v)), (2, .int (stm)), (3, .int (edg)), (4, .int (co)), (5, .int (cg))]) hx hb dX13_withEndings_70 hl (k := 0) rfl (by rw [ey97]; rfl) (by decide) rfl (fun ls hl => ?_)
            refine lv_goto (tgt := 26) hx hb dX13_withEndings_73 (by decide) ?_
            exact ih26 _ (by omega) _ _ _ ls (y96) (le9) (bc9) (bg9) (bs9) (be9) (b09) (b19) (wf9) (sf9) (bf9) (df9) rfl hZ hP ho14 ho15 ho16 ho17 ho18 ho19 (fun x8 hne0 hne1 hne2 hne3 hne4 => fr26 x8 hne0 hne1 hne2 hne3 hne4) pk20 (by omega) (by omega) (by omega) (by have h9 := sp_wel_skip (by omega) (by omega) htr; rw [show (y96).toInt.toNat = i26.toInt.toNat + 1 by omega]; exact h9) (lv_sub hl [0, 1, 2, 3, 4, 5, 6] rfl)
          · have c95 : (y91).toInt = (1 : Int) := hq_eqi.mp c95
            refine lv_iload hx hb dX13_withEndings_48 (lv_at hl 0 rfl) ?_
            refine lv_iload_n hx hb dX13_withEndings_50 rfl (lv_at hl 4 rfl) ?_
            refine lv_icmp_eq (tgt := 70) hx hb dX13_withEndings_51 (by decide) (fun c102 => ?_) (fun c102 => ?_)
            · have c102 : (i26).toInt = (edg).toInt := hq_eqi.mp c102
              obtain ⟨y103, ey104⟩ : ∃ y : Int32, y = i26 + (1) := ⟨_, rfl⟩
              obtain ⟨k105, hk106, b107, b108⟩ := hq_add (i26) (1)
              rw [← ey104] at hk106 b107 b108
              have hk106 : (y103).toInt = (i26).toInt + (1) + k105 * 4294967296 := hk106
              obtain rfl : k105 = 0 := by omega
              refine lv_iinc (v := y103) (lv' := [(6, .int (y103)), (0, .ref (mo)), (1, .int (v)), (2, .int (stm)), (3, .int (edg)), (4, .int (co)), (5, .int (cg))]) hx hb dX13_withEndings_70 hl (k := 0) rfl (by rw [ey104]; rfl) (by decide) rfl (fun ls hl => ?_)
              refine lv_goto (tgt := 26) hx hb dX13_withEndings_73 (by decide) ?_
              exact ih26 _ (by omega) _ _ _ ls (y103) (le9) (bc9) (bg9) (bs9) (be9) (b09) (b19) (wf9) (sf9) (bf9) (df9) rfl hZ hP ho14 ho15 ho16 ho17 ho18 ho19 (fun x8 hne0 hne1 hne2 hne3 hne4 => fr26 x8 hne0 hne1 hne2 hne3 hne4) pk20 (by omega) (by omega) (by omega) (by have h9 := sp_wel_skip (by omega) (by omega) htr; rw [show (y103).toInt.toNat = i26.toInt.toNat + 1 by omega]; exact h9) (lv_sub hl [0, 1, 2, 3, 4, 5, 6] rfl)
            · have c102 : ¬ (i26).toInt = (edg).toInt := fun h9 => c102 (hq_eqi.mpr h9)
              refine lv_aload_n hx hb dX13_withEndings_54 rfl (lv_at hl 1 rfl) ?_
              refine lv_iload_n hx hb dX13_withEndings_55 rfl (lv_at hl 2 rfl) ?_
              refine lv_iload_n hx hb dX13_withEndings_56 rfl (lv_at hl 3 rfl) ?_
              refine lv_iload hx hb dX13_withEndings_57 (lv_at hl 0 rfl) ?_
              refine lv_iload hx hb dX13_withEndings_59 (lv_at hl 5 rfl) ?_
              refine lv_iconst (v := 3) hx hb dX13_withEndings_61 (by decide) ?_
              refine lv_iadd hx hb dX13_withEndings_62 ?_
              refine lv_topi (fun y109 ey110 => ?_)
              obtain ⟨k111, hk112, b113, b114⟩ := hq_add (co) (3)
              rw [← ey110] at hk112 b113 b114
              have hk112 : (y109).toInt = (co).toInt + (3 : Int) + k111 * 4294967296 := hk112
              obtain rfl : k111 = 0 := by omega
              refine lv_iload hx hb dX13_withEndings_63 (lv_at hl 6 rfl) ?_
              refine lv_iconst (v := 1) hx hb dX13_withEndings_65 (by decide) ?_
              refine lv_iadd hx hb dX13_withEndings_66 ?_
              refine lv_topi (fun y115 ey116 => ?_)
              obtain ⟨k117, hk118, b119, b120⟩ := hq_add (cg) (1)
              rw [← ey116] at hk118 b119 b120
              have hk118 : (y115).toInt = (cg).toInt + (1 : Int) + k117 * 4294967296 := hk118
              obtain rfl : k117 = 0 := by omega
              refine hp_callv (hp_runV (As := [.int (v), .int (stm), .int (i26), .int (y109), .int (y115)]) (rest := []) hx hb hml hown hts (y_ws l D cs B G V9 n hP.1 (q) (mo) (w) (bk) (t9) (rh) (m_tp) (m_sz) (m_fr) (m_bh) (m_hd) (m_ft) (m_fa) (le9) (m_fo) (m_as) (m_fd) (bc9) (bg9) (bs9) (be9) (b09) (b19) (m_cm) (m_hc) (v) (stm) (i26) (y109) (y115) (wf9) (sf9) (bf9) (df9) (af) (ask)  ho14 ho15 ho16 ho17 ho18 ho19 pk20 hR hmo hmq hBm hgd hgd2 hoc ht9 hv hask (by omega) (by omega) hstma (Or.inr (by omega)) hstk (by omega) (by omega)) hZ ho14 cv_X13_438 rfl rfl ⟨Nat.le_of_ble_eq_true rfl, Nat.le_of_ble_eq_true rfl⟩ rfl hl.1 rfl (Nat.le_of_ble_eq_true rfl) dX13_withEndings_67 ⟨(Nat.le_of_ble_eq_true rfl), (Nat.le_of_ble_eq_true rfl)⟩) hZ (fun V121 n122 _ _ hw123 hZ => ?_)
              obtain ⟨rfl, hq125, fr126, z127, z128, z129, z130, z131, z132, z133, u134, u135, u136, u137, ho138, ho139, ho140, ho141, ho142, hp143, hp144⟩ := hw123
              have b145 := hq_rng z127
              have b146 := hq_rng z128
              have b147 := hq_rng z129
              have b148 := hq_rng z130
              have b149 := hq_rng z131
              have b150 := hq_rng z132
              have b151 := hq_rng z133
              have hP := hP.trans hq125 (fun _ h => Bool.noConfusion h)
              have hf152 := hq_rg20 hP.1 (hr_21 hR) ho139
              have hf153 := hq_rg20 hP.1 (hr_22 hR) ho140
              have hf154 := hq_rg20 hP.1 (hr_24 hR) ho141
              have b155 := hp144
              have hws156 := hp143
              rw [show (y109).toInt = co.toInt + 3 by omega, show (y115).toInt = cg.toInt + 1 by omega, show (i26).toInt = (((i26.toInt.toNat : Nat)) : Int) by omega] at hws156
              obtain ⟨y157, ey158⟩ : ∃ y : Int32, y = i26 + (1) := ⟨_, rfl⟩
              obtain ⟨k159, hk160, b161, b162⟩ := hq_add (i26) (1)
              rw [← ey158] at hk160 b161 b162
              have hk160 : (y157).toInt = (i26).toInt + (1) + k159 * 4294967296 := hk160
              obtain rfl : k159 = 0 := by omega
              refine lv_iinc (v := y157) (lv' := [(6, .int (y157)), (0, .ref (mo)), (1, .int (v)), (2, .int (stm)), (3, .int (edg)), (4, .int (co)), (5, .int (cg))]) hx hb dX13_withEndings_70 hl (k := 0) rfl (by rw [ey158]; rfl) (by decide) rfl (fun ls hl => ?_)
              refine lv_goto (tgt := 26) hx hb dX13_withEndings_73 (by decide) ?_
              have fx163 : V121 (q + 37) = some (.inl (cs 0, 4000, .inl (af))) := (fr126 (q + 37) (hq_tne (hr_37 hR) hmo (by simp)) (hq_tne (hr_37 hR) (hr_21 hR) (by simp)) (hq_tne (hr_37 hR) (hr_22 hR) (by simp)) (hq_tne (hr_37 hR) (hr_24 hR) (by simp)) (hq_tne (hr_37 hR) (hr_23 hR) (by simp))).trans (ho19)
              have pk164 := pk20.keep (fun x7 (hx7 : q ≤ x7 ∧ x7 < q + 19) => fr126 x7 (by omega) (by omega) (by omega) (by omega) (by omega))
              exact ih26 _ (by omega) _ _ _ ls (y157) (z127) (z128) (z129) (z130) (z131) (z132) (z133) (u134) (u135) (u136) (u137) rfl hZ hP ho138 ho139 ho140 ho141 ho142 fx163 (fun x8 hne0 hne1 hne2 hne3 hne4 => (fr126 x8 hne0 hne1 hne2 hne3 hne4).trans (fr26 x8 hne0 hne1 hne2 hne3 hne4)) pk164 (by omega) (by omega) (by omega) (by have h9 := sp_wel_in (by omega) (by omega) htr hws156; rw [show (y157).toInt.toNat = i26.toInt.toNat + 1 by omega]; exact h9) (lv_sub hl [0, 1, 2, 3, 4, 5, 6] rfl)
    · have c13 : ¬ (cg).toInt ≤ (1 : Int) := fun h9 => c13 (hq_lei.mpr h9)
      exact hp_vret hx hb hr hlocks hZ ⟨rfl, hP, (fun x8 hne0 hne1 hne2 hne3 hne4 => fr16 x8 hne0 hne1 hne2 hne3 hne4), le7, bc7, bg7, bs7, be7, b07, b17, wf7, sf7, bf7, df7, ho1, ho2, ho3, ho4, ho5, sp_we_end (by omega) hwe, by omega⟩ dX13_withEndings_22
  refine lv_iload_n hx hb dX13_withEndings_0 rfl (lv_at hl 3 rfl) ?_
  refine lv_iconst (v := -1) hx hb dX13_withEndings_1 (by decide) ?_
  refine lv_icmp_eq (tgt := 16) hx hb dX13_withEndings_2 (by decide) (fun c165 => ?_) (fun c165 => ?_)
  · have c165 : (edg).toInt = (-1 : Int) := hq_eqi.mp c165
    exact jn16 _ _ _ ls  (m_le) (m_bc) (m_bg) (m_bs) (m_be) (m_b0) (m_b1) (wf) (sf) (bf) (df) hZ hP hc0 hc1 hc2 hc3 hc4 hc5 (fun x8 hne0 hne1 hne2 hne3 hne4 => rfl) hp0 (by omega) (sp_we_nofit (by omega)) (lv_sub hl [0, 1, 2, 3, 4, 5] rfl)
  · have c165 : ¬ (edg).toInt = (-1 : Int) := fun h9 => c165 (hq_eqi.mpr h9)
    refine lv_aload_n hx hb dX13_withEndings_5 rfl (lv_at hl 0 rfl) ?_
    refine lv_iload_n hx hb dX13_withEndings_6 rfl (lv_at hl 1 rfl) ?_
    refine lv_iload_n hx hb dX13_withEndings_7 rfl (lv_at hl 2 rfl) ?_
    refine lv_iload_n hx hb dX13_withEndings_8 rfl (lv_at hl 3 rfl) ?_
    refine lv_iload hx hb dX13_withEndings_9 (lv_at hl 4 rfl) ?_
    refine lv_iload hx hb dX13_withEndings_11 (lv_at hl 5 rfl) ?_
    refine hp_callv (hp_runV (As := [.int (v), .int (stm), .int (edg), .int (co), .int (cg)]) (rest := []) hx hb hml hown hts (y_ws l D cs B G V n hP.1 (q) (mo) (w) (bk) (t9) (rh) (m_tp) (m_sz) (m_fr) (m_bh) (m_hd) (m_ft) (m_fa) (m_le) (m_fo) (m_as) (m_fd) (m_bc) (m_bg) (m_bs) (m_be) (m_b0) (m_b1) (m_cm) (m_hc) (v) (stm) (edg) (co) (cg) (wf) (sf) (bf) (df) (af) (ask)  hc0 hc1 hc2 hc3 hc4 hc5 hp0 hR hmo hmq hBm hgd hgd2 hoc ht9 hv hask (by omega) (by omega) hstma hedga hstk (by omega) (by omega)) hZ hc0 cv_X13_438 rfl rfl ⟨Nat.le_of_ble_eq_true rfl, Nat.le_of_ble_eq_true rfl⟩ rfl hl.1 rfl (Nat.le_of_ble_eq_true rfl) dX13_withEndings_13 ⟨(Nat.le_of_ble_eq_true rfl), (Nat.le_of_ble_eq_true rfl)⟩) hZ (fun V166 n167 _ _ hw168 hZ => ?_)
    obtain ⟨rfl, hq170, fr171, z172, z173, z174, z175, z176, z177, z178, u179, u180, u181, u182, ho183, ho184, ho185, ho186, ho187, hp188, hp189⟩ := hw168
    have b190 := hq_rng z172
    have b191 := hq_rng z173
    have b192 := hq_rng z174
    have b193 := hq_rng z175
    have b194 := hq_rng z176
    have b195 := hq_rng z177
    have b196 := hq_rng z178
    have hP := hP.trans hq170 (fun _ h => Bool.noConfusion h)
    have hf197 := hq_rg20 hP.1 (hr_21 hR) ho184
    have hf198 := hq_rg20 hP.1 (hr_22 hR) ho185
    have hf199 := hq_rg20 hP.1 (hr_24 hR) ho186
    have b200 := hp189
    have fx201 : V166 (q + 37) = some (.inl (cs 0, 4000, .inl (af))) := (fr171 (q + 37) (hq_tne (hr_37 hR) hmo (by simp)) (hq_tne (hr_37 hR) (hr_21 hR) (by simp)) (hq_tne (hr_37 hR) (hr_22 hR) (by simp)) (hq_tne (hr_37 hR) (hr_24 hR) (by simp)) (hq_tne (hr_37 hR) (hr_23 hR) (by simp))).trans (hc5)
    have pk202 := hp0.keep (fun x7 (hx7 : q ≤ x7 ∧ x7 < q + 19) => fr171 x7 (by omega) (by omega) (by omega) (by omega) (by omega))
    exact jn16 _ _ _ ls  (z172) (z173) (z174) (z175) (z176) (z177) (z178) (u179) (u180) (u181) (u182) hZ hP ho183 ho184 ho185 ho186 ho187 fx201 (fun x8 hne0 hne1 hne2 hne3 hne4 => fr171 x8 hne0 hne1 hne2 hne3 hne4) pk202 (by omega) (sp_we_fit (by omega) hp188) (lv_sub hl [0, 1, 2, 3, 4, 5] rfl)

theorem y_soundA (l : Launch) (D : va_G) (cs : Nat → ClassId) (B : Nat) (G : hq_G) (V : hp_V) (n : Nat) (hI : hq_I cs G V) (q : Nat) (mo : Nat) (rh : hm_Rh) (m_tp : Int32) (m_sz : Int32) (m_fr : Int32) (m_bh : Int32) (m_hd : Int32) (m_ft : Int32) (m_fa : Int32) (m_le : Int32) (m_fo : Int32) (m_as : Int32) (m_fd : Int32) (m_bc : Int32) (m_bg : Int32) (m_bs : Int32) (m_be : Int32) (m_b0 : Int32) (m_b1 : Int32) (m_cm : Int32) (m_hc : Int32) (k : Int32) (wf : Nat → Int32) (sf : Nat → Int32) (bf : Nat → Int32) (df : Nat → Int32) (u : List Int) (F : List Int) (S : List Int) (hc0 : V (mo) = some (.inr (13, hm_o q (m_tp) (m_sz) (m_fr) (m_bh) (m_hd) (m_ft) (m_fa) (m_le) (m_fo) (m_as) (m_fd) (m_bc) (m_bg) (m_bs) (m_be) (m_b0) (m_b1) (m_cm) (m_hc)))) (hc1 : V (q + 21) = some (.inl (cs 0, 276, .inl (wf)))) (hc2 : V (q + 22) = some (.inl (cs 0, 276, .inl (sf)))) (hc3 : V (q + 24) = some (.inl (cs 0, 30, .inl (bf)))) (hc4 : V (q + 23) = some (.inl (cs 3, 60, .inl (df)))) (hp0 : hm_AR cs V q rh) (hR : hq_RT G q) (hmo : G mo = some (24, 0, 0, 0)) (hmq : mo < q) (hu : sp_rp m_le wf u) (hul : u.length ≤ 30) (hFT : hm_FT rh 14 5 (k).toNatClampNeg F) (hST : hm_FT rh 15 6 (k).toNatClampNeg S) (hn : 0 < F.length) (hub : sp_b8 u) (hSb : sp_b8 S) (hk : 0 ≤ k.toInt ∧ k.toInt < 60) : hp_M l yX13_sound cX13_sound 5 none ({ frames := 2, cells := 0, slots := 0, locals := 45 }) D cs B V n [.ref (mo), .int (k)] (hp_QV D cs B (fun V' n' => n = n' ∧ hq_P cs G (fun _ => true) V V' ∧ (∀ x, x ≠ mo → x ≠ q + 21 → x ≠ q + 22 → x ≠ q + 24 → x ≠ q + 23 → V' x = V x) ∧ (∃ m_le1 : Int32, ∃ wf1 : Nat → Int32, ∃ sf1 : Nat → Int32, ∃ bf1 : Nat → Int32, ∃ df1 : Nat → Int32, V' (mo) = some (.inr (13, hm_o q (m_tp) (m_sz) (m_fr) (m_bh) (m_hd) (m_ft) (m_fa) (m_le1) (m_fo) (m_as) (m_fd) (m_bc) (m_bg) (m_bs) (m_be) (m_b0) (m_b1) (m_cm) (m_hc))) ∧ V' (q + 21) = some (.inl (cs 0, 276, .inl (wf1))) ∧ V' (q + 22) = some (.inl (cs 0, 276, .inl (sf1))) ∧ V' (q + 24) = some (.inl (cs 0, 30, .inl (bf1))) ∧ V' (q + 23) = some (.inl (cs 3, 60, .inl (df1))) ∧ (sp_rp m_le1 wf1 (if (rh 16 (k).toNatClampNeg).toInt = 1 then sp_sndl F S u else sp_snd F S u 0)) ∧ (sp_b8 (if (rh 16 (k).toNatClampNeg).toInt = 1 then sp_sndl F S u else sp_snd F S u 0)) ∧ (0 ≤ m_le1.toInt ∧ m_le1.toInt ≤ 276)))) 0 0 := by
  by_cases h9 : (rh 16 (k).toNatClampNeg).toInt = 1
  · simp only [if_pos h9]
    exact y_soundL l D cs B G V n hI q mo rh m_tp m_sz m_fr m_bh m_hd m_ft m_fa m_le m_fo m_as m_fd m_bc m_bg m_bs m_be m_b0 m_b1 m_cm m_hc k wf sf bf df u F S hc0 hc1 hc2 hc3 hc4 hp0 hR hmo hmq hu hul hFT hST hn hub hSb h9 hk
  · simp only [if_neg h9]
    exact y_soundN l D cs B G V n hI q mo rh m_tp m_sz m_fr m_bh m_hd m_ft m_fa m_le m_fo m_as m_fd m_bc m_bg m_bs m_be m_b0 m_b1 m_cm m_hc k wf sf bf df u F S hc0 hc1 hc2 hc3 hc4 hp0 hR hmo hmq hu hul hFT hST hn hub hSb h9 hk

set_option maxHeartbeats 4000000 in
set_option maxRecDepth 100000 in
theorem y_make (l : Launch) (D : va_G) (cs : Nat → ClassId) (B : Nat) (G : hq_G) (V : hp_V) (n : Nat) (hI : hq_I cs G V) (q : Nat) (mo : Nat) (w : sp_W) (bk : sp_B) (t9 : Nat) (rh : hm_Rh) (m_tp : Int32) (m_sz : Int32) (m_fr : Int32) (m_bh : Int32) (m_hd : Int32) (m_ft : Int32) (m_fa : Int32) (m_le : Int32) (m_fo : Int32) (m_as : Int32) (m_fd : Int32) (m_bc : Int32) (m_bg : Int32) (m_bs : Int32) (m_be : Int32) (m_b0 : Int32) (m_b1 : Int32) (m_cm : Int32) (m_hc : Int32) (v : Int32) (stm : Int32) (edg : Int32) (no0 : Int32) (no1 : Int32) (wf : Nat → Int32) (sf : Nat → Int32) (bf : Nat → Int32) (df : Nat → Int32) (hc0 : V (mo) = some (.inr (13, hm_o q (m_tp) (m_sz) (m_fr) (m_bh) (m_hd) (m_ft) (m_fa) (m_le) (m_fo) (m_as) (m_fd) (m_bc) (m_bg) (m_bs) (m_be) (m_b0) (m_b1) (m_cm) (m_hc)))) (hc1 : V (q + 21) = some (.inl (cs 0, 276, .inl (wf)))) (hc2 : V (q + 22) = some (.inl (cs 0, 276, .inl (sf)))) (hc3 : V (q + 24) = some (.inl (cs 0, 30, .inl (bf)))) (hc4 : V (q + 23) = some (.inl (cs 3, 60, .inl (df)))) (hp0 : hm_AR cs V q rh) (hR : hq_RT G q) (hmo : G mo = some (24, 0, 0, 0)) (hmq : mo < q) (hBm : hm_BK rh 0 w bk) (hgd : sp_good w bk) (hgd2 : sp_good2 bk) (hoc : sp_okc w) (ht9 : bk.2.1[v.toNatClampNeg]? = some t9) (hv : 0 ≤ v.toInt) (hstma : stm.toInt = -1 ∨ (0 ≤ stm.toInt ∧ stm.toInt < (bk.2.2.2.length : Int))) (hedga : edg.toInt = -1 ∨ (0 ≤ edg.toInt ∧ edg.toInt < (bk.2.2.2.length : Int))) (hstk : ∀ x, 0 ≤ stm.toInt → bk.2.2.2[stm.toInt.toNat]? = some x → x.1 = 0) : hp_M l yX13_make cX13_make 7 (some .boolean) ({ frames := 3, cells := 0, slots := 0, locals := 69 }) D cs B V n [.ref (mo), .int (v), .int (stm), .int (edg), .int (no0), .int (no1)] (hp_QI D cs B (fun r V' n' => n = n' ∧ hq_P cs G (fun _ => true) V V' ∧ (∀ x, x ≠ mo → x ≠ q + 21 → x ≠ q + 22 → x ≠ q + 24 → x ≠ q + 23 → V' x = V x) ∧ (∃ m_le1 : Int32, ∃ wf1 : Nat → Int32, ∃ sf1 : Nat → Int32, ∃ bf1 : Nat → Int32, ∃ df1 : Nat → Int32, V' (mo) = some (.inr (13, hm_o q (m_tp) (m_sz) (m_fr) (m_bh) (m_hd) (m_ft) (m_fa) (m_le1) (m_fo) (m_as) (m_fd) (m_bc) (m_bg) (m_bs) (m_be) (m_b0) (m_b1) (m_cm) (m_hc))) ∧ V' (q + 21) = some (.inl (cs 0, 276, .inl (wf1))) ∧ V' (q + 22) = some (.inl (cs 0, 276, .inl (sf1))) ∧ V' (q + 24) = some (.inl (cs 0, 30, .inl (bf1))) ∧ V' (q + 23) = some (.inl (cs 3, 60, .inl (df1))) ∧ ((r.toInt = 1 ∧ ∃ u1, sp_sa w no0.toInt no1.toInt bk.2.2.2 0 (sp_U w bk (sp_nm w t9) stm.toInt edg.toInt) = some u1 ∧ 0 < u1.length ∧ sp_rp m_le1 wf1 u1) ∨ (r.toInt = 0 ∧ ∀ u1, sp_sa w no0.toInt no1.toInt bk.2.2.2 0 (sp_U w bk (sp_nm w t9) stm.toInt edg.toInt) = some u1 → u1.length = 0)) ∧ (0 ≤ m_le1.toInt ∧ m_le1.toInt ≤ 276)))) 0 0 := by
  refine hp_walk (R0 := RX13) (by decide) rfl ?_ (Nat.le_of_ble_eq_true rfl)
  intro p e s m below meth c ls hx hb hr hts hown hlocks hin hml hZ hl
  have hP : hq_P cs G (fun _ => true) V V := hq_P.rf hI
  have hl : lv_has ls 7 [(0, .ref (mo)), (1, .int (v)), (2, .int (stm)), (3, .int (edg)), (4, .int (no0)), (5, .int (no1))] := hl
  have hb_m_tp := hq_rng m_tp
  have hb_m_sz := hq_rng m_sz
  have hb_m_fr := hq_rng m_fr
  have hb_m_bh := hq_rng m_bh
  have hb_m_hd := hq_rng m_hd
  have hb_m_ft := hq_rng m_ft
  have hb_m_fa := hq_rng m_fa
  have hb_m_le := hq_rng m_le
  have hb_m_fo := hq_rng m_fo
  have hb_m_as := hq_rng m_as
  have hb_m_fd := hq_rng m_fd
  have hb_m_bc := hq_rng m_bc
  have hb_m_bg := hq_rng m_bg
  have hb_m_bs := hq_rng m_bs
  have hb_m_be := hq_rng m_be
  have hb_m_b0 := hq_rng m_b0
  have hb_m_b1 := hq_rng m_b1
  have hb_m_cm := hq_rng m_cm
  have hb_m_hc := hq_rng m_hc
  have hb_v := hq_rng v
  have hb_stm := hq_rng stm
  have hb_edg := hq_rng edg
  have hb_no0 := hq_rng no0
  have hb_no1 := hq_rng no1
  have hH0 : hm_H rh rh := hm_H.rf
  have hvl := (List.getElem?_eq_some_iff.mp ht9).1
  have hvv : (v.toNatClampNeg : Int) = v.toInt := (hq_nn (by omega)).1.symm
  have hll9 := hBm.2.2.2.2.2.1
  have hlv9 := hBm.2.2.2.1.1
  obtain ⟨hn1, hn2, hn3⟩ := hBm.2.2.2.1.2 _ _ ht9
  rw [show 30 * 0 + v.toNatClampNeg = v.toNatClampNeg by omega] at hn1 hn3
  have hnl := sp_nm_len hn2.1
  have hnb := sp_nm_b8 hoc t9
  have hg8 := hBm.g8
  have hU := sp_U_len (nm := (sp_nm w t9)) hg8 (by omega) stm.toInt edg.toInt
  have hU1 := hU.1
  have hU2 : (sp_U w bk (sp_nm w t9) stm.toInt edg.toInt).length ≤ 30 := hU.2
  have hna : ∀ (k9 : Nat) (x9 : Int), (sp_nm w t9)[k9]? = some x9 → (rh 4 (12 * v.toNatClampNeg + k9)).toInt = x9 := fun k9 x9 hx9 => by have h9 := (List.getElem?_eq_some_iff.mp hx9).1; unfold sp_nm at hx9 h9; rw [sp_seg_len] at h9; rw [sp_seg_at _ _ _ k9 h9] at hx9; rw [hn3 k9 (by omega)]; exact Option.some.inj hx9
  refine lv_aload_n hx hb dX13_make_0 rfl (lv_at hl 0 rfl) ?_
  refine lv_aload_n hx hb dX13_make_1 rfl (lv_at hl 0 rfl) ?_
  refine hp_get (v := .ref (q + 8)) hx hb hts hown hZ hc0 fl_X13_13 rfl dX13_make_2 ?_
  refine lv_iload_n hx hb dX13_make_5 rfl (lv_at hl 1 rfl) ?_
  obtain ⟨rf1, hrf2⟩ : ∃ f : Nat → Int32, f = rh 8 := ⟨_, rfl⟩
  have ea3 : V (q + 8) = some (.inl (cs 1, 60, .inl (rf1))) := by rw [hrf2]; exact hp0 8 (by decide)
  have hra4 := hq_rg hP.1 (hr_8 hR) ea3
  refine hp_iald hx hb hZ ea3 (hq_in (by omega) (by omega)) dX13_make_6 ?_
  refine lv_topi (fun y5 ey6 => ?_)
  have b7 : hq_ir (hq_lo 2) (hq_hi 2) y5 := by rw [ey6]; exact hra4 _ (hq_ix (by omega) (by omega))
  have b7 : 0 ≤ (y5).toInt ∧ (y5).toInt ≤ 12 := b7
  have b8 : (y5).toInt = ((sp_nm w t9).length : Int) := by rw [ey6, hrf2, hn1]; omega
  refine hp_put hx hb hts hown hZ hc0 fp_X13_331 rfl rfl (Nat.le_of_ble_eq_true rfl) dX13_make_7 (fun V9 _ _ e10 o11 hZ => ?_)
  have e10 : V9 (mo) = some (.inr (13, hm_o q (m_tp) (m_sz) (m_fr) (m_bh) (m_hd) (m_ft) (m_fa) (y5) (m_fo) (m_as) (m_fd) (m_bc) (m_bg) (m_bs) (m_be) (m_b0) (m_b1) (m_cm) (m_hc))) := e10
  have hP := hP.put hmo e10 o11 (trivial) rfl
  refine lv_iconst (v := 0) hx hb dX13_make_10 (by decide) ?_
  refine lv_istore (lv' := [(6, .int (0)), (0, .ref (mo)), (1, .int (v)), (2, .int (stm)), (3, .int (edg)), (4, .int (no0)), (5, .int (no1))]) hx hb dX13_make_11 hl (by decide) rfl (fun ls hl => ?_)
  have fx13 : V9 (q + 21) = some (.inl (cs 0, 276, .inl (wf))) := (o11 (q + 21) (hq_tne (hr_21 hR) hmo (by simp))).trans (hc1)
  have fx15 : V9 (q + 22) = some (.inl (cs 0, 276, .inl (sf))) := (o11 (q + 22) (hq_tne (hr_22 hR) hmo (by simp))).trans (hc2)
  have fx17 : V9 (q + 24) = some (.inl (cs 0, 30, .inl (bf))) := (o11 (q + 24) (hq_tne (hr_24 hR) hmo (by simp))).trans (hc3)
  have fx19 : V9 (q + 23) = some (.inl (cs 3, 60, .inl (df))) := (o11 (q + 23) (hq_tne (hr_23 hR) hmo (by simp))).trans (hc4)
  have pk21 := hp0.keep (fun x7 (hx7 : q ≤ x7 ∧ x7 < q + 19) => o11 x7 (by omega))
  have hl23 : (0 : Int32).toInt = 0 := by decide
  suffices lp13 : ∀ (k9 : Nat) (V9 : hp_V) (H9 : Heap) (locs9 : List Loc) (ls : Array Slot) (i13 : Int32) (wf13 : Nat → Int32), (1000 - i13.toInt).toNat = k9 → hp_Z D cs B s V9 H9 n locs9 → hq_P cs G (fun _ => true) V V9 → V9 (mo) = some (.inr (13, hm_o q (m_tp) (m_sz) (m_fr) (m_bh) (m_hd) (m_ft) (m_fa) (y5) (m_fo) (m_as) (m_fd) (m_bc) (m_bg) (m_bs) (m_be) (m_b0) (m_b1) (m_cm) (m_hc))) → V9 (q + 21) = some (.inl (cs 0, 276, .inl (wf13))) → V9 (q + 22) = some (.inl (cs 0, 276, .inl (sf))) → V9 (q + 24) = some (.inl (cs 0, 30, .inl (bf))) → V9 (q + 23) = some (.inl (cs 3, 60, .inl (df))) → (∀ x, x ≠ mo → x ≠ q + 21 → x ≠ q + 22 → x ≠ q + 24 → x ≠ q + 23 → V9 x = V x) → hm_AR cs V9 q rh → 0 ≤ i13.toInt → i13.toInt ≤ ((sp_nm w t9).length : Int) → (∀ (j : Nat) (x : Int), (j : Int) < i13.toInt → (sp_nm w t9)[j]? = some x → (wf13 j).toInt = x) → lv_has ls 7 [(6, .int (i13)), (0, .ref (mo)), (1, .int (v)), (2, .int (stm)), (3, .int (edg)), (4, .int (no0)), (5, .int (no1))] → W p l e ({ frames := 3, cells := 0, slots := 0, locals := 69 }) s m ([.ref (mo), .int (v), .int (stm), .int (edg), .int (no0), .int (no1)] : List Value).toArray below meth c H9 locs9 0 0 (MQ below (hp_QI D cs B (fun r V' n' => n = n' ∧ hq_P cs G (fun _ => true) V V' ∧ (∀ x, x ≠ mo → x ≠ q + 21 → x ≠ q + 22 → x ≠ q + 24 → x ≠ q + 23 → V' x = V x) ∧ (∃ m_le1 : Int32, ∃ wf1 : Nat → Int32, ∃ sf1 : Nat → Int32, ∃ bf1 : Nat → Int32, ∃ df1 : Nat → Int32, V' (mo) = some (.inr (13, hm_o q (m_tp) (m_sz) (m_fr) (m_bh) (m_hd) (m_ft) (m_fa) (m_le1) (m_fo) (m_as) (m_fd) (m_bc) (m_bg) (m_bs) (m_be) (m_b0) (m_b1) (m_cm) (m_hc))) ∧ V' (q + 21) = some (.inl (cs 0, 276, .inl (wf1))) ∧ V' (q + 22) = some (.inl (cs 0, 276, .inl (sf1))) ∧ V' (q + 24) = some (.inl (cs 0, 30, .inl (bf1))) ∧ V' (q + 23) = some (.inl (cs 3, 60, .inl (df1))) ∧ ((r.toInt = 1 ∧ ∃ u1, sp_sa w no0.toInt no1.toInt bk.2.2.2 0 (sp_U w bk (sp_nm w t9) stm.toInt edg.toInt) = some u1 ∧ 0 < u1.length ∧ sp_rp m_le1 wf1 u1) ∨ (r.toInt = 0 ∧ ∀ u1, sp_sa w no0.toInt no1.toInt bk.2.2.2 0 (sp_U w bk (sp_nm w t9) stm.toInt edg.toInt) = some u1 → u1.length = 0)) ∧ (0 ≤ m_le1.toInt ∧ m_le1.toInt ≤ 276)))) ([.ref (mo), .int (v), .int (stm), .int (edg), .int (no0), .int (no1)] : List Value).toArray s 0 0 (hp_F B)) (F0 m 13 ls []) from lp13 _ _ _ _ ls (0) (wf) rfl hZ hP e10 fx13 fx15 fx17 fx19 (fun x8 hne0 hne1 hne2 hne3 hne4 => o11 x8 hne0) pk21 (by omega) (by omega) (fun j x hj => by omega) (lv_sub hl [0, 1, 2, 3, 4, 5, 6] rfl)
  intro k9
  induction k9 using Nat.strongRecOn with
  | _ k9 ih13 =>
    intro V9 H9 locs9 ls i13  wf13 hk13 hZ hP ho12 ho14 ho16 ho18 ho20 fr13 pk22 hv24 hv25 hw13 hl
    have hb_i13 := hq_rng i13
    have hf26 := hq_rg20 hP.1 (hr_21 hR) ho14
    have hf27 := hq_rg20 hP.1 (hr_22 hR) ho16
    have hf28 := hq_rg20 hP.1 (hr_24 hR) ho18
    refine lv_iload hx hb dX13_make_13 (lv_at hl 0 rfl) ?_
    refine lv_aload_n hx hb dX13_make_15 rfl (lv_at hl 1 rfl) ?_
    refine hp_get (v := .int (y5)) hx hb hts hown hZ ho12 fl_X13_331 rfl dX13_make_16 ?_
    refine lv_icmp_ge (tgt := 47) hx hb dX13_make_19 (by decide) (fun c29 => ?_) (fun c29 => ?_)
    · have c29 : (y5).toInt ≤ (i13).toInt := hq_lei.mp c29
      have hrp0 : sp_rp y5 wf13 (sp_nm w t9) := ⟨by omega, fun j x hx => by have h9 := (List.getElem?_eq_some_iff.mp hx).1; exact hw13 j x (by omega) hx⟩
      refine lv_iconst (v := 0) hx hb dX13_make_47 (by decide) ?_
      refine lv_istore (lv' := [(6, .int (0)), (0, .ref (mo)), (1, .int (v)), (2, .int (stm)), (3, .int (edg)), (4, .int (no0)), (5, .int (no1))]) hx hb dX13_make_48 hl (by decide) rfl (fun ls hl => ?_)
      have hl36 : (0 : Int32).toInt = 0 := by decide
      suffices lp50 : ∀ (k9 : Nat) (V9 : hp_V) (H9 : Heap) (locs9 : List Loc) (ls : Array Slot) (i50 : Int32) (df50 : Nat → Int32), (1000 - i50.toInt).toNat = k9 → hp_Z D cs B s V9 H9 n locs9 → hq_P cs G (fun _ => true) V V9 → V9 (mo) = some (.inr (13, hm_o q (m_tp) (m_sz) (m_fr) (m_bh) (m_hd) (m_ft) (m_fa) (y5) (m_fo) (m_as) (m_fd) (m_bc) (m_bg) (m_bs) (m_be) (m_b0) (m_b1) (m_cm) (m_hc))) → V9 (q + 21) = some (.inl (cs 0, 276, .inl (wf13))) → V9 (q + 22) = some (.inl (cs 0, 276, .inl (sf))) → V9 (q + 24) = some (.inl (cs 0, 30, .inl (bf))) → V9 (q + 23) = some (.inl (cs 3, 60, .inl (df50))) → (∀ x, x ≠ mo → x ≠ q + 21 → x ≠ q + 22 → x ≠ q + 24 → x ≠ q + 23 → V9 x = V x) → hm_AR cs V9 q rh → 0 ≤ i50.toInt → i50.toInt ≤ 60 → lv_has ls 7 [(6, .int (i50)), (0, .ref (mo)), (1, .int (v)), (2, .int (stm)), (3, .int (edg)), (4, .int (no0)), (5, .int (no1))] → W p l e ({ frames := 3, cells := 0, slots := 0, locals := 69 }) s m ([.ref (mo), .int (v), .int (stm), .int (edg), .int (no0), .int (no1)] : List Value).toArray below meth c H9 locs9 0 0 (MQ below (hp_QI D cs B (fun r V' n' => n = n' ∧ hq_P cs G (fun _ => true) V V' ∧ (∀ x, x ≠ mo → x ≠ q + 21 → x ≠ q + 22 → x ≠ q + 24 → x ≠ q + 23 → V' x = V x) ∧ (∃ m_le1 : Int32, ∃ wf1 : Nat → Int32, ∃ sf1 : Nat → Int32, ∃ bf1 : Nat → Int32, ∃ df1 : Nat → Int32, V' (mo) = some (.inr (13, hm_o q (m_tp) (m_sz) (m_fr) (m_bh) (m_hd) (m_ft) (m_fa) (m_le1) (m_fo) (m_as) (m_fd) (m_bc) (m_bg) (m_bs) (m_be) (m_b0) (m_b1) (m_cm) (m_hc))) ∧ V' (q + 21) = some (.inl (cs 0, 276, .inl (wf1))) ∧ V' (q + 22) = some (.inl (cs 0, 276, .inl (sf1))) ∧ V' (q + 24) = some (.inl (cs 0, 30, .inl (bf1))) ∧ V' (q + 23) = some (.inl (cs 3, 60, .inl (df1))) ∧ ((r.toInt = 1 ∧ ∃ u1, sp_sa w no0.toInt no1.toInt bk.2.2.2 0 (sp_U w bk (sp_nm w t9) stm.toInt edg.toInt) = some u1 ∧ 0 < u1.length ∧ sp_rp m_le1 wf1 u1) ∨ (r.toInt = 0 ∧ ∀ u1, sp_sa w no0.toInt no1.toInt bk.2.2.2 0 (sp_U w bk (sp_nm w t9) stm.toInt edg.toInt) = some u1 → u1.length = 0)) ∧ (0 ≤ m_le1.toInt ∧ m_le1.toInt ≤ 276)))) ([.ref (mo), .int (v), .int (stm), .int (edg), .int (no0), .int (no1)] : List Value).toArray s 0 0 (hp_F B)) (F0 m 50 ls []) from lp50 _ _ _ _ ls (0) (df) rfl hZ hP ho12 ho14 ho16 ho18 ho20 (fun x8 hne0 hne1 hne2 hne3 hne4 => fr13 x8 hne0 hne1 hne2 hne3 hne4) pk22 (by omega) (by omega) (lv_sub hl [0, 1, 2, 3, 4, 5, 6] rfl)
      intro k9
      induction k9 using Nat.strongRecOn with
      | _ k9 ih50 =>
        intro V9 H9 locs9 ls i50  df50 hk50 hZ hP ho30 ho31 ho32 ho33 ho34 fr50 pk35 hv37 hv38 hl
        have hb_i50 := hq_rng i50
        have hf39 := hq_rg20 hP.1 (hr_21 hR) ho31
        have hf40 := hq_rg20 hP.1 (hr_22 hR) ho32
        have hf41 := hq_rg20 hP.1 (hr_24 hR) ho33
        refine lv_iload hx hb dX13_make_50 (lv_at hl 0 rfl) ?_
        refine lv_bipush (v := 60) hx hb dX13_make_52 (by decide) ?_
        refine lv_icmp_ge (tgt := 71) hx hb dX13_make_54 (by decide) (fun c42 => ?_) (fun c42 => ?_)
        · have c42 : (60 : Int) ≤ (i50).toInt := hq_lei.mp c42
          have jn131 : ∀ (V9 : hp_V) (H9 : Heap) (locs9 : List Loc) (ls : Array Slot)  (le1x : Int32) (wf1x : Nat → Int32) (sf1x : Nat → Int32) (df1x : Nat → Int32), hp_Z D cs B s V9 H9 n locs9 → hq_P cs G (fun _ => true) V V9 → V9 (mo) = some (.inr (13, hm_o q (m_tp) (m_sz) (m_fr) (m_bh) (m_hd) (m_ft) (m_fa) (le1x) (m_fo) (m_as) (m_fd) (m_bc) (m_bg) (m_bs) (m_be) (m_b0) (m_b1) (m_cm) (m_hc))) → V9 (q + 21) = some (.inl (cs 0, 276, .inl (wf1x))) → V9 (q + 22) = some (.inl (cs 0, 276, .inl (sf1x))) → V9 (q + 24) = some (.inl (cs 0, 30, .inl (bf))) → V9 (q + 23) = some (.inl (cs 3, 60, .inl (df1x))) → (∀ x, x ≠ mo → x ≠ q + 21 → x ≠ q + 22 → x ≠ q + 24 → x ≠ q + 23 → V9 x = V x) → hm_AR cs V9 q rh → (sp_rp le1x wf1x (sp_stm w bk (sp_nm w t9) stm.toInt)) → lv_has ls 7 [(0, .ref (mo)), (1, .int (v)), (2, .int (stm)), (3, .int (edg)), (4, .int (no0)), (5, .int (no1))] → W p l e ({ frames := 3, cells := 0, slots := 0, locals := 69 }) s m ([.ref (mo), .int (v), .int (stm), .int (edg), .int (no0), .int (no1)] : List Value).toArray below meth c H9 locs9 0 0 (MQ below (hp_QI D cs B (fun r V' n' => n = n' ∧ hq_P cs G (fun _ => true) V V' ∧ (∀ x, x ≠ mo → x ≠ q + 21 → x ≠ q + 22 → x ≠ q + 24 → x ≠ q + 23 → V' x = V x) ∧ (∃ m_le1 : Int32, ∃ wf1 : Nat → Int32, ∃ sf1 : Nat → Int32, ∃ bf1 : Nat → Int32, ∃ df1 : Nat → Int32, V' (mo) = some (.inr (13, hm_o q (m_tp) (m_sz) (m_fr) (m_bh) (m_hd) (m_ft) (m_fa) (m_le1) (m_fo) (m_as) (m_fd) (m_bc) (m_bg) (m_bs) (m_be) (m_b0) (m_b1) (m_cm) (m_hc))) ∧ V' (q + 21) = some (.inl (cs 0, 276, .inl (wf1))) ∧ V' (q + 22) = some (.inl (cs 0, 276, .inl (sf1))) ∧ V' (q + 24) = some (.inl (cs 0, 30, .inl (bf1))) ∧ V' (q + 23) = some (.inl (cs 3, 60, .inl (df1))) ∧ ((r.toInt = 1 ∧ ∃ u1, sp_sa w no0.toInt no1.toInt bk.2.2.2 0 (sp_U w bk (sp_nm w t9) stm.toInt edg.toInt) = some u1 ∧ 0 < u1.length ∧ sp_rp m_le1 wf1 u1) ∨ (r.toInt = 0 ∧ ∀ u1, sp_sa w no0.toInt no1.toInt bk.2.2.2 0 (sp_U w bk (sp_nm w t9) stm.toInt edg.toInt) = some u1 → u1.length = 0)) ∧ (0 ≤ m_le1.toInt ∧ m_le1.toInt ≤ 276)))) ([.ref (mo), .int (v), .int (stm), .int (edg), .int (no0), .int (no1)] : List Value).toArray s 0 0 (hp_F B)) (F0 m 131 ls []) := by
            intro V9 H9 locs9 ls   le1x wf1x sf1x df1x hZ hP ho43 ho44 ho45 ho46 ho47 fr131 pk48 hrp1 hl
            have hb_le1x := hq_rng le1x
            have hf49 := hq_rg20 hP.1 (hr_21 hR) ho44
            have hf50 := hq_rg20 hP.1 (hr_22 hR) ho45
            have hf51 := hq_rg20 hP.1 (hr_24 hR) ho46
            have hrp11 := hrp1.1
            refine lv_aload_n hx hb dX13_make_131 rfl (lv_at hl 0 rfl) ?_
            refine hp_get (v := .int (le1x)) hx hb hts hown hZ ho43 fl_X13_331 rfl dX13_make_132 ?_
            refine lv_bipush (v := 30) hx hb dX13_make_135 (by decide) ?_
            refine lv_icmp_le (tgt := 142) hx hb dX13_make_137 (by decide) (fun c52 => ?_) (fun c52 => ?_)
            · have c52 : (le1x).toInt ≤ (30 : Int) := hq_lei.mp c52
              have jn205 : ∀ (V9 : hp_V) (H9 : Heap) (locs9 : List Loc) (ls : Array Slot)  (le2x : Int32) (wf2x : Nat → Int32) (df2x : Nat → Int32), hp_Z D cs B s V9 H9 n locs9 → hq_P cs G (fun _ => true) V V9 → V9 (mo) = some (.inr (13, hm_o q (m_tp) (m_sz) (m_fr) (m_bh) (m_hd) (m_ft) (m_fa) (le2x) (m_fo) (m_as) (m_fd) (m_bc) (m_bg) (m_bs) (m_be) (m_b0) (m_b1) (m_cm) (m_hc))) → V9 (q + 21) = some (.inl (cs 0, 276, .inl (wf2x))) → V9 (q + 22) = some (.inl (cs 0, 276, .inl (sf1x))) → V9 (q + 24) = some (.inl (cs 0, 30, .inl (bf))) → V9 (q + 23) = some (.inl (cs 3, 60, .inl (df2x))) → (∀ x, x ≠ mo → x ≠ q + 21 → x ≠ q + 22 → x ≠ q + 24 → x ≠ q + 23 → V9 x = V x) → hm_AR cs V9 q rh → (sp_rp le2x wf2x (sp_U w bk (sp_nm w t9) stm.toInt edg.toInt)) → lv_has ls 7 [(0, .ref (mo)), (1, .int (v)), (2, .int (stm)), (3, .int (edg)), (4, .int (no0)), (5, .int (no1))] → W p l e ({ frames := 3, cells := 0, slots := 0, locals := 69 }) s m ([.ref (mo), .int (v), .int (stm), .int (edg), .int (no0), .int (no1)] : List Value).toArray below meth c H9 locs9 0 0 (MQ below (hp_QI D cs B (fun r V' n' => n = n' ∧ hq_P cs G (fun _ => true) V V' ∧ (∀ x, x ≠ mo → x ≠ q + 21 → x ≠ q + 22 → x ≠ q + 24 → x ≠ q + 23 → V' x = V x) ∧ (∃ m_le1 : Int32, ∃ wf1 : Nat → Int32, ∃ sf1 : Nat → Int32, ∃ bf1 : Nat → Int32, ∃ df1 : Nat → Int32, V' (mo) = some (.inr (13, hm_o q (m_tp) (m_sz) (m_fr) (m_bh) (m_hd) (m_ft) (m_fa) (m_le1) (m_fo) (m_as) (m_fd) (m_bc) (m_bg) (m_bs) (m_be) (m_b0) (m_b1) (m_cm) (m_hc))) ∧ V' (q + 21) = some (.inl (cs 0, 276, .inl (wf1))) ∧ V' (q + 22) = some (.inl (cs 0, 276, .inl (sf1))) ∧ V' (q + 24) = some (.inl (cs 0, 30, .inl (bf1))) ∧ V' (q + 23) = some (.inl (cs 3, 60, .inl (df1))) ∧ ((r.toInt = 1 ∧ ∃ u1, sp_sa w no0.toInt no1.toInt bk.2.2.2 0 (sp_U w bk (sp_nm w t9) stm.toInt edg.toInt) = some u1 ∧ 0 < u1.length ∧ sp_rp m_le1 wf1 u1) ∨ (r.toInt = 0 ∧ ∀ u1, sp_sa w no0.toInt no1.toInt bk.2.2.2 0 (sp_U w bk (sp_nm w t9) stm.toInt edg.toInt) = some u1 → u1.length = 0)) ∧ (0 ≤ m_le1.toInt ∧ m_le1.toInt ≤ 276)))) ([.ref (mo), .int (v), .int (stm), .int (edg), .int (no0), .int (no1)] : List Value).toArray s 0 0 (hp_F B)) (F0 m 205 ls []) := by
                intro V9 H9 locs9 ls   le2x wf2x df2x hZ hP ho53 ho54 ho55 ho56 ho57 fr205 pk58 hrp2 hl
                have hb_le2x := hq_rng le2x
                have hf59 := hq_rg20 hP.1 (hr_21 hR) ho54
                have hf60 := hq_rg20 hP.1 (hr_22 hR) ho55
                have hf61 := hq_rg20 hP.1 (hr_24 hR) ho56
                have hub2 : sp_b8 (sp_U w bk (sp_nm w t9) stm.toInt edg.toInt) := sp_U_b8 hoc t9 stm.toInt edg.toInt
                have hrp21 := hrp2.1
                refine lv_aload_n hx hb dX13_make_205 rfl (lv_at hl 0 rfl) ?_
                refine hp_get (v := .int (le2x)) hx hb hts hown hZ ho53 fl_X13_331 rfl dX13_make_206 ?_
                refine lv_bipush (v := 30) hx hb dX13_make_209 (by decide) ?_
                refine lv_icmp_le (tgt := 216) hx hb dX13_make_211 (by decide) (fun c62 => ?_) (fun c62 => ?_)
                · have c62 : (le2x).toInt ≤ (30 : Int) := hq_lei.mp c62
                  refine lv_iconst (v := 0) hx hb dX13_make_216 (by decide) ?_
                  refine lv_istore (lv' := [(6, .int (0)), (0, .ref (mo)), (1, .int (v)), (2, .int (stm)), (3, .int (edg)), (4, .int (no0)), (5, .int (no1))]) hx hb dX13_make_217 hl (by decide) rfl (fun ls hl => ?_)
                  have hl69 : (0 : Int32).toInt = 0 := by decide
                  suffices lp219 : ∀ (k9 : Nat) (V9 : hp_V) (H9 : Heap) (locs9 : List Loc) (ls : Array Slot) (i219 : Int32) (u9 : List Int) (le9 : Int32) (wf9 : Nat → Int32) (sf9 : Nat → Int32) (bf9 : Nat → Int32) (df9 : Nat → Int32), (1000 - i219.toInt).toNat = k9 → hp_Z D cs B s V9 H9 n locs9 → hq_P cs G (fun _ => true) V V9 → V9 (mo) = some (.inr (13, hm_o q (m_tp) (m_sz) (m_fr) (m_bh) (m_hd) (m_ft) (m_fa) (le9) (m_fo) (m_as) (m_fd) (m_bc) (m_bg) (m_bs) (m_be) (m_b0) (m_b1) (m_cm) (m_hc))) → V9 (q + 21) = some (.inl (cs 0, 276, .inl (wf9))) → V9 (q + 22) = some (.inl (cs 0, 276, .inl (sf9))) → V9 (q + 24) = some (.inl (cs 0, 30, .inl (bf9))) → V9 (q + 23) = some (.inl (cs 3, 60, .inl (df9))) → (∀ x, x ≠ mo → x ≠ q + 21 → x ≠ q + 22 → x ≠ q + 24 → x ≠ q + 23 → V9 x = V x) → hm_AR cs V9 q rh → 0 ≤ i219.toInt → i219.toInt ≤ (bk.2.2.2.length : Int) → (sp_pre w no0.toInt no1.toInt bk.2.2.2 (sp_U w bk (sp_nm w t9) stm.toInt edg.toInt) i219.toInt.toNat = some u9) → (sp_rp le9 wf9 u9) → (sp_b8 u9) → u9.length ≤ 30 → lv_has ls 7 [(6, .int (i219)), (0, .ref (mo)), (1, .int (v)), (2, .int (stm)), (3, .int (edg)), (4, .int (no0)), (5, .int (no1))] → W p l e ({ frames := 3, cells := 0, slots := 0, locals := 69 }) s m ([.ref (mo), .int (v), .int (stm), .int (edg), .int (no0), .int (no1)] : List Value).toArray below meth c H9 locs9 0 0 (MQ below (hp_QI D cs B (fun r V' n' => n = n' ∧ hq_P cs G (fun _ => true) V V' ∧ (∀ x, x ≠ mo → x ≠ q + 21 → x ≠ q + 22 → x ≠ q + 24 → x ≠ q + 23 → V' x = V x) ∧ (∃ m_le1 : Int32, ∃ wf1 : Nat → Int32, ∃ sf1 : Nat → Int32, ∃ bf1 : Nat → Int32, ∃ df1 : Nat → Int32, V' (mo) = some (.inr (13, hm_o q (m_tp) (m_sz) (m_fr) (m_bh) (m_hd) (m_ft) (m_fa) (m_le1) (m_fo) (m_as) (m_fd) (m_bc) (m_bg) (m_bs) (m_be) (m_b0) (m_b1) (m_cm) (m_hc))) ∧ V' (q + 21) = some (.inl (cs 0, 276, .inl (wf1))) ∧ V' (q + 22) = some (.inl (cs 0, 276, .inl (sf1))) ∧ V' (q + 24) = some (.inl (cs 0, 30, .inl (bf1))) ∧ V' (q + 23) = some (.inl (cs 3, 60, .inl (df1))) ∧ ((r.toInt = 1 ∧ ∃ u1, sp_sa w no0.toInt no1.toInt bk.2.2.2 0 (sp_U w bk (sp_nm w t9) stm.toInt edg.toInt) = some u1 ∧ 0 < u1.length ∧ sp_rp m_le1 wf1 u1) ∨ (r.toInt = 0 ∧ ∀ u1, sp_sa w no0.toInt no1.toInt bk.2.2.2 0 (sp_U w bk (sp_nm w t9) stm.toInt edg.toInt) = some u1 → u1.length = 0)) ∧ (0 ≤ m_le1.toInt ∧ m_le1.toInt ≤ 276)))) ([.ref (mo), .int (v), .int (stm), .int (edg), .int (no0), .int (no1)] : List Value).toArray s 0 0 (hp_F B)) (F0 m 219 ls []) from lp219 _ _ _ _ ls (0) ((sp_U w bk (sp_nm w t9) stm.toInt edg.toInt)) (le2x) (wf2x) (sf1x) (bf) (df2x) rfl hZ hP ho53 ho54 ho55 ho56 ho57 (fun x8 hne0 hne1 hne2 hne3 hne4 => fr205 x8 hne0 hne1 hne2 hne3 hne4) pk58 (by omega) (by omega) (rfl) (hrp2) (hub2) (by omega) (lv_sub hl [0, 1, 2, 3, 4, 5, 6] rfl)
                  intro k9
                  induction k9 using Nat.strongRecOn with
                  | _ k9 ih219 =>
                    intro V9 H9 locs9 ls i219 u9 le9 wf9 sf9 bf9 df9 hk219 hZ hP ho63 ho64 ho65 ho66 ho67 fr219 pk68 hv70 hv71 hrun hru hub hv72 hl
                    have hb_i219 := hq_rng i219
                    have hb_le9 := hq_rng le9
                    have hf73 := hq_rg20 hP.1 (hr_21 hR) ho64
                    have hf74 := hq_rg20 hP.1 (hr_22 hR) ho65
                    have hf75 := hq_rg20 hP.1 (hr_24 hR) ho66
                    have hru1 := hru.1
                    refine lv_iload hx hb dX13_make_219 (lv_at hl 0 rfl) ?_
                    refine lv_aload_n hx hb dX13_make_221 rfl (lv_at hl 1 rfl) ?_
                    refine hp_get (v := .ref (q + 2)) hx hb hts hown hZ ho63 fl_X13_10 rfl dX13_make_222 ?_
                    refine lv_iconst (v := 0) hx hb dX13_make_225 (by decide) ?_
                    obtain ⟨rf76, hrf77⟩ : ∃ f : Nat → Int32, f = rh 2 := ⟨_, rfl⟩
                    have ea78 : V9 (q + 2) = some (.inl (cs 1, 2, .inl (rf76))) := by rw [hrf77]; exact pk68 2 (by decide)
                    have hra79 := hq_rg hP.1 (hr_2 hR) ea78
                    refine hp_iald hx hb hZ ea78 (by unfold vp_in; decide) dX13_make_226 ?_
                    refine lv_topi (fun y80 ey81 => ?_)
                    have b82 : hq_ir (hq_lo 8) (hq_hi 8) y80 := by rw [ey81]; exact hra79 _ (by decide)
                    have b82 : 0 ≤ (y80).toInt ∧ (y80).toInt ≤ 60 := b82
                    have b83 : (y80).toInt = (bk.2.2.2.length : Int) := by rw [ey81, hrf77]; exact hBm.2.2.1
                    refine lv_icmp_ge (tgt := 281) hx hb dX13_make_227 (by decide) (fun c84 => ?_) (fun c84 => ?_)
                    · have c84 : (y80).toInt ≤ (i219).toInt := hq_lei.mp c84
                      refine lv_aload_n hx hb dX13_make_281 rfl (lv_at hl 1 rfl) ?_
                      refine hp_get (v := .int (le9)) hx hb hts hown hZ ho63 fl_X13_331 rfl dX13_make_282 ?_
                      refine lv_if_le (tgt := 292) hx hb dX13_make_285 (by decide) (fun c85 => ?_) (fun c85 => ?_)
                      · have c85 : (le9).toInt ≤ (0 : Int) := hq_lei.mp c85
                        refine lv_iconst (v := 0) hx hb dX13_make_292 (by decide) ?_
                        have hl86 : (0 : Int32).toInt = 0 := by decide
                        have hfin : sp_sa w no0.toInt no1.toInt bk.2.2.2 0 (sp_U w bk (sp_nm w t9) stm.toInt edg.toInt) = some u9 := by rw [sp_sa_fin, show bk.2.2.2.length = i219.toInt.toNat by omega]; exact hrun
                        exact hp_zret hx hb hr rfl hlocks hZ ⟨rfl, hP, (fun x8 hne0 hne1 hne2 hne3 hne4 => fr219 x8 hne0 hne1 hne2 hne3 hne4), le9, wf9, sf9, bf9, df9, ho63, ho64, ho65, ho66, ho67, Or.inr ⟨by omega, fun u1 h9 => by rw [hfin] at h9; cases h9; omega⟩, by omega⟩ dX13_make_293
                      · have c85 : ¬ (le9).toInt ≤ (0 : Int) := fun h9 => c85 (hq_lei.mpr h9)
                        refine lv_iconst (v := 1) hx hb dX13_make_288 (by decide) ?_
                        refine lv_goto (tgt := 293) hx hb dX13_make_289 (by decide) ?_
                        have hl87 : (1 : Int32).toInt = 1 := by decide
                        have hfin : sp_sa w no0.toInt no1.toInt bk.2.2.2 0 (sp_U w bk (sp_nm w t9) stm.toInt edg.toInt) = some u9 := by rw [sp_sa_fin, show bk.2.2.2.length = i219.toInt.toNat by omega]; exact hrun
                        exact hp_zret hx hb hr rfl hlocks hZ ⟨rfl, hP, (fun x8 hne0 hne1 hne2 hne3 hne4 => fr219 x8 hne0 hne1 hne2 hne3 hne4), le9, wf9, sf9, bf9, df9, ho63, ho64, ho65, ho66, ho67, Or.inl ⟨by omega, u9, hfin, by omega, hru⟩, by omega⟩ dX13_make_293
                    · have c84 : ¬ (y80).toInt ≤ (i219).toInt := fun h9 => c84 (hq_lei.mpr h9)
                      have hiil : ((i219).toNatClampNeg : Int) = (i219).toInt := (hq_nn (by omega)).1.symm
                      obtain ⟨xl, hxl⟩ : ∃ t, bk.2.2.2[(i219).toNatClampNeg]? = some t := ⟨_, List.getElem?_eq_getElem (by omega)⟩
                      obtain ⟨hq1l, -, -, -, hq5l, hq6l, hq7l⟩ := hBm.2.2.2.2.2.2 _ _ hxl
                      rw [show 60 * 0 + (i219).toNatClampNeg = (i219).toNatClampNeg by omega] at hq1l hq5l hq6l hq7l
                      have hFTl : hm_FT rh 14 5 (i219).toNatClampNeg (sp_F w xl) := hq6l.ft
                      have hSTl : hm_FT rh 15 6 (i219).toNatClampNeg (sp_S2 w xl) := hq7l.ft
                      have hFll := hFTl.1
                      have hFml := hFTl.2.1
                      have hSll := hSTl.1
                      have hSml := hSTl.2.1
                      refine lv_aload_n hx hb dX13_make_230 rfl (lv_at hl 1 rfl) ?_
                      refine hp_get (v := .ref (q + 10)) hx hb hts hown hZ ho63 fl_X13_29 rfl dX13_make_231 ?_
                      refine lv_iload hx hb dX13_make_234 (lv_at hl 0 rfl) ?_
                      obtain ⟨rf88, hrf89⟩ : ∃ f : Nat → Int32, f = rh 10 := ⟨_, rfl⟩
                      have ea90 : V9 (q + 10) = some (.inl (cs 1, 120, .inl (rf88))) := by rw [hrf89]; exact pk68 10 (by decide)
                      have hra91 := hq_rg hP.1 (hr_10 hR) ea90
                      refine hp_iald hx hb hZ ea90 (hq_in (by omega) (by omega)) dX13_make_236 ?_
                      refine lv_topi (fun y92 ey93 => ?_)
                      have b94 := hq_rng y92
                      have b95 : (y92).toInt = (rh 10 (i219).toNatClampNeg).toInt := by rw [ey93, hrf89]
                      refine lv_iconst (v := 2) hx hb dX13_make_237 (by decide) ?_
                      refine lv_icmp_ne (tgt := 275) hx hb dX13_make_238 (by decide) (fun c96 => ?_) (fun c96 => ?_)
                      · have c96 : ¬ (y92).toInt = (2 : Int) := fun h9 => c96 (hq_eqi.mpr h9)
                        obtain ⟨y97, ey98⟩ : ∃ y : Int32, y = i219 + (1) := ⟨_, rfl⟩
                        obtain ⟨k99, hk100, b101, b102⟩ := hq_add (i219) (1)
                        rw [← ey98] at hk100 b101 b102
                        have hk100 : (y97).toInt = (i219).toInt + (1) + k99 * 4294967296 := hk100
                        obtain rfl : k99 = 0 := by omega
                        refine lv_iinc (v := y97) (lv' := [(6, .int (y97)), (0, .ref (mo)), (1, .int (v)), (2, .int (stm)), (3, .int (edg)), (4, .int (no0)), (5, .int (no1))]) hx hb dX13_make_275 hl (k := 0) rfl (by rw [ey98]; rfl) (by decide) rfl (fun ls hl => ?_)
                        refine lv_goto (tgt := 219) hx hb dX13_make_278 (by decide) ?_
                        exact ih219 _ (by omega) _ _ _ ls (y97) (u9) (le9) (wf9) (sf9) (bf9) (df9) rfl hZ hP ho63 ho64 ho65 ho66 ho67 (fun x8 hne0 hne1 hne2 hne3 hne4 => fr219 x8 hne0 hne1 hne2 hne3 hne4) pk68 (by omega) (by omega) (by rw [show (y97).toInt.toNat = i219.toNatClampNeg + 1 by omega]; exact sp_pre_s hrun hxl (show ¬ (xl.1 = 2 ∧ ¬ ((i219.toNatClampNeg : Nat) : Int) = no0.toInt ∧ ¬ ((i219.toNatClampNeg : Nat) : Int) = no1.toInt) by omega)) (hru) (hub) (by omega) (lv_sub hl [0, 1, 2, 3, 4, 5, 6] rfl)
                      · have c96 : (y92).toInt = (2 : Int) := hq_eqi.mp c96
                        refine lv_iload hx hb dX13_make_241 (lv_at hl 0 rfl) ?_
                        refine lv_iload hx hb dX13_make_243 (lv_at hl 5 rfl) ?_
                        refine lv_icmp_eq (tgt := 275) hx hb dX13_make_245 (by decide) (fun c103 => ?_) (fun c103 => ?_)
                        · have c103 : (i219).toInt = (no0).toInt := hq_eqi.mp c103
                          obtain ⟨y104, ey105⟩ : ∃ y : Int32, y = i219 + (1) := ⟨_, rfl⟩
                          obtain ⟨k106, hk107, b108, b109⟩ := hq_add (i219) (1)
                          rw [← ey105] at hk107 b108 b109
                          have hk107 : (y104).toInt = (i219).toInt + (1) + k106 * 4294967296 := hk107
                          obtain rfl : k106 = 0 := by omega
                          refine lv_iinc (v := y104) (lv' := [(6, .int (y104)), (0, .ref (mo)), (1, .int (v)), (2, .int (stm)), (3, .int (edg)), (4, .int (no0)), (5, .int (no1))]) hx hb dX13_make_275 hl (k := 0) rfl (by rw [ey105]; rfl) (by decide) rfl (fun ls hl => ?_)
                          refine lv_goto (tgt := 219) hx hb dX13_make_278 (by decide) ?_
                          exact ih219 _ (by omega) _ _ _ ls (y104) (u9) (le9) (wf9) (sf9) (bf9) (df9) rfl hZ hP ho63 ho64 ho65 ho66 ho67 (fun x8 hne0 hne1 hne2 hne3 hne4 => fr219 x8 hne0 hne1 hne2 hne3 hne4) pk68 (by omega) (by omega) (by rw [show (y104).toInt.toNat = i219.toNatClampNeg + 1 by omega]; exact sp_pre_s hrun hxl (show ¬ (xl.1 = 2 ∧ ¬ ((i219.toNatClampNeg : Nat) : Int) = no0.toInt ∧ ¬ ((i219.toNatClampNeg : Nat) : Int) = no1.toInt) by omega)) (hru) (hub) (by omega) (lv_sub hl [0, 1, 2, 3, 4, 5, 6] rfl)
                        · have c103 : ¬ (i219).toInt = (no0).toInt := fun h9 => c103 (hq_eqi.mpr h9)
                          refine lv_iload hx hb dX13_make_248 (lv_at hl 0 rfl) ?_
                          refine lv_iload hx hb dX13_make_250 (lv_at hl 6 rfl) ?_
                          refine lv_icmp_ne (tgt := 258) hx hb dX13_make_252 (by decide) (fun c110 => ?_) (fun c110 => ?_)
                          · have c110 : ¬ (i219).toInt = (no1).toInt := fun h9 => c110 (hq_eqi.mpr h9)
                            refine lv_aload_n hx hb dX13_make_258 rfl (lv_at hl 1 rfl) ?_
                            refine lv_iload hx hb dX13_make_259 (lv_at hl 0 rfl) ?_
                            refine hp_callv (hp_runV (As := [.int (i219)]) (rest := []) hx hb hml hown hts (y_soundA l D cs B G V9 n hP.1 (q) (mo) (rh) (m_tp) (m_sz) (m_fr) (m_bh) (m_hd) (m_ft) (m_fa) (le9) (m_fo) (m_as) (m_fd) (m_bc) (m_bg) (m_bs) (m_be) (m_b0) (m_b1) (m_cm) (m_hc) (i219) (wf9) (sf9) (bf9) (df9) (u9) ((sp_F w xl)) ((sp_S2 w xl))  ho63 ho64 ho65 ho66 ho67 pk68 hR hmo hmq hru (by omega) hFTl hSTl (by have h9 := (hgd.1 _ _ hxl).2.1 (by omega); have h8 := hq6l.1; omega) hub (sp_lw_b8 hoc _ _) (by omega)) hZ ho63 cv_X13_342 rfl rfl ⟨Nat.le_of_ble_eq_true rfl, Nat.le_of_ble_eq_true rfl⟩ rfl hl.1 rfl (Nat.le_of_ble_eq_true rfl) dX13_make_261 ⟨(Nat.le_of_ble_eq_true rfl), (Nat.le_of_ble_eq_true rfl)⟩) hZ (fun V111 n112 _ _ hw113 hZ => ?_)
                            obtain ⟨rfl, hq115, fr116, z117, u118, u119, u120, u121, ho122, ho123, ho124, ho125, ho126, hp127, hp128, hp129⟩ := hw113
                            have b130 := hq_rng z117
                            have hP := hP.trans hq115 (fun _ h => Bool.noConfusion h)
                            have hf131 := hq_rg20 hP.1 (hr_21 hR) ho123
                            have hf132 := hq_rg20 hP.1 (hr_22 hR) ho124
                            have hf133 := hq_rg20 hP.1 (hr_24 hR) ho125
                            have hsx : sp_sx w xl u9 = (if (rh 16 (i219).toNatClampNeg).toInt = 1 then sp_sndl (sp_F w xl) (sp_S2 w xl) u9 else sp_snd (sp_F w xl) (sp_S2 w xl) u9 0) := by unfold sp_sx; rw [hq5l]
                            have hs0 := hp127
                            have hs1 := hp128
                            rw [← hsx] at hs0 hs1
                            have hs01 := hs0.1
                            have b134 := hp129
                            refine lv_aload_n hx hb dX13_make_264 rfl (lv_at hl 1 rfl) ?_
                            refine hp_get (v := .int (z117)) hx hb hts hown hZ ho122 fl_X13_331 rfl dX13_make_265 ?_
                            refine lv_bipush (v := 30) hx hb dX13_make_268 (by decide) ?_
                            refine lv_icmp_le (tgt := 275) hx hb dX13_make_270 (by decide) (fun c135 => ?_) (fun c135 => ?_)
                            · have c135 : (z117).toInt ≤ (30 : Int) := hq_lei.mp c135
                              obtain ⟨y136, ey137⟩ : ∃ y : Int32, y = i219 + (1) := ⟨_, rfl⟩
                              obtain ⟨k138, hk139, b140, b141⟩ := hq_add (i219) (1)
                              rw [← ey137] at hk139 b140 b141
                              have hk139 : (y136).toInt = (i219).toInt + (1) + k138 * 4294967296 := hk139
                              obtain rfl : k138 = 0 := by omega
                              refine lv_iinc (v := y136) (lv' := [(6, .int (y136)), (0, .ref (mo)), (1, .int (v)), (2, .int (stm)), (3, .int (edg)), (4, .int (no0)), (5, .int (no1))]) hx hb dX13_make_275 hl (k := 0) rfl (by rw [ey137]; rfl) (by decide) rfl (fun ls hl => ?_)
                              refine lv_goto (tgt := 219) hx hb dX13_make_278 (by decide) ?_
                              have pk142 := pk68.keep (fun x7 (hx7 : q ≤ x7 ∧ x7 < q + 19) => fr116 x7 (by omega) (by omega) (by omega) (by omega) (by omega))
                              exact ih219 _ (by omega) _ _ _ ls (y136) ((sp_sx w xl u9)) (z117) (u118) (u119) (u120) (u121) rfl hZ hP ho122 ho123 ho124 ho125 ho126 (fun x8 hne0 hne1 hne2 hne3 hne4 => (fr116 x8 hne0 hne1 hne2 hne3 hne4).trans (fr219 x8 hne0 hne1 hne2 hne3 hne4)) pk142 (by omega) (by omega) (by rw [show (y136).toInt.toNat = i219.toNatClampNeg + 1 by omega]; exact sp_pre_g hrun hxl (show xl.1 = 2 ∧ ¬ ((i219.toNatClampNeg : Nat) : Int) = no0.toInt ∧ ¬ ((i219.toNatClampNeg : Nat) : Int) = no1.toInt by omega) (by omega)) (hs0) (hs1) (by omega) (lv_sub hl [0, 1, 2, 3, 4, 5, 6] rfl)
                            · have c135 : ¬ (z117).toInt ≤ (30 : Int) := fun h9 => c135 (hq_lei.mpr h9)
                              refine lv_iconst (v := 0) hx hb dX13_make_273 (by decide) ?_
                              have hl143 : (0 : Int32).toInt = 0 := by decide
                              have hfin : sp_sa w no0.toInt no1.toInt bk.2.2.2 0 (sp_U w bk (sp_nm w t9) stm.toInt edg.toInt) = none := by rw [sp_sa_fin, show bk.2.2.2.length = (i219.toNatClampNeg + 1) + (bk.2.2.2.length - (i219.toNatClampNeg + 1)) by omega]; exact sp_pre_mono (sp_pre_b hrun hxl (show xl.1 = 2 ∧ ¬ ((i219.toNatClampNeg : Nat) : Int) = no0.toInt ∧ ¬ ((i219.toNatClampNeg : Nat) : Int) = no1.toInt by omega) (by omega)) _
                              exact hp_zret hx hb hr rfl hlocks hZ ⟨rfl, hP, (fun x8 hne0 hne1 hne2 hne3 hne4 => (fr116 x8 hne0 hne1 hne2 hne3 hne4).trans (fr219 x8 hne0 hne1 hne2 hne3 hne4)), z117, u118, u119, u120, u121, ho122, ho123, ho124, ho125, ho126, Or.inr ⟨by omega, fun u1 h9 => by rw [hfin] at h9; cases h9⟩, by omega⟩ dX13_make_274
                          · have c110 : (i219).toInt = (no1).toInt := hq_eqi.mp c110
                            refine lv_goto (tgt := 275) hx hb dX13_make_255 (by decide) ?_
                            obtain ⟨y144, ey145⟩ : ∃ y : Int32, y = i219 + (1) := ⟨_, rfl⟩
                            obtain ⟨k146, hk147, b148, b149⟩ := hq_add (i219) (1)
                            rw [← ey145] at hk147 b148 b149
                            have hk147 : (y144).toInt = (i219).toInt + (1) + k146 * 4294967296 := hk147
                            obtain rfl : k146 = 0 := by omega
                            refine lv_iinc (v := y144) (lv' := [(6, .int (y144)), (0, .ref (mo)), (1, .int (v)), (2, .int (stm)), (3, .int (edg)), (4, .int (no0)), (5, .int (no1))]) hx hb dX13_make_275 hl (k := 0) rfl (by rw [ey145]; rfl) (by decide) rfl (fun ls hl => ?_)
                            refine lv_goto (tgt := 219) hx hb dX13_make_278 (by decide) ?_
                            exact ih219 _ (by omega) _ _ _ ls (y144) (u9) (le9) (wf9) (sf9) (bf9) (df9) rfl hZ hP ho63 ho64 ho65 ho66 ho67 (fun x8 hne0 hne1 hne2 hne3 hne4 => fr219 x8 hne0 hne1 hne2 hne3 hne4) pk68 (by omega) (by omega) (by rw [show (y144).toInt.toNat = i219.toNatClampNeg + 1 by omega]; exact sp_pre_s hrun hxl (show ¬ (xl.1 = 2 ∧ ¬ ((i219.toNatClampNeg : Nat) : Int) = no0.toInt ∧ ¬ ((i219.toNatClampNeg : Nat) : Int) = no1.toInt) by omega)) (hru) (hub) (by omega) (lv_sub hl [0, 1, 2, 3, 4, 5, 6] rfl)
                · have c62 : ¬ (le2x).toInt ≤ (30 : Int) := fun h9 => c62 (hq_lei.mpr h9)
                  exfalso
                  omega
              refine lv_iload_n hx hb dX13_make_142 rfl (lv_at hl 3 rfl) ?_
              refine lv_iconst (v := -1) hx hb dX13_make_143 (by decide) ?_
              refine lv_icmp_eq (tgt := 205) hx hb dX13_make_144 (by decide) (fun c150 => ?_) (fun c150 => ?_)
              · have c150 : (edg).toInt = (-1 : Int) := hq_eqi.mp c150
                exact jn205 _ _ _ ls  (le1x) (wf1x) (df1x) hZ hP ho43 ho44 ho45 ho46 ho47 (fun x8 hne0 hne1 hne2 hne3 hne4 => fr131 x8 hne0 hne1 hne2 hne3 hne4) pk48 (by unfold sp_U; rw [sp_end_0 (by omega)]; exact hrp1) (lv_sub hl [0, 1, 2, 3, 4, 5] rfl)
              · have c150 : ¬ (edg).toInt = (-1 : Int) := fun h9 => c150 (hq_eqi.mpr h9)
                have hiie : ((edg).toNatClampNeg : Int) = (edg).toInt := (hq_nn (by omega)).1.symm
                obtain ⟨xe, hxe⟩ : ∃ t, bk.2.2.2[(edg).toNatClampNeg]? = some t := ⟨_, List.getElem?_eq_getElem (by omega)⟩
                obtain ⟨hq1e, -, -, -, hq5e, hq6e, hq7e⟩ := hBm.2.2.2.2.2.2 _ _ hxe
                rw [show 60 * 0 + (edg).toNatClampNeg = (edg).toNatClampNeg by omega] at hq1e hq5e hq6e hq7e
                have hFTe : hm_FT rh 14 5 (edg).toNatClampNeg (sp_F w xe) := hq6e.ft
                have hSTe : hm_FT rh 15 6 (edg).toNatClampNeg (sp_S2 w xe) := hq7e.ft
                have hFle := hFTe.1
                have hFme := hFTe.2.1
                have hSle := hSTe.1
                have hSme := hSTe.2.1
                refine lv_iconst (v := 0) hx hb dX13_make_147 (by decide) ?_
                refine lv_istore (lv' := [(6, .int (0)), (0, .ref (mo)), (1, .int (v)), (2, .int (stm)), (3, .int (edg)), (4, .int (no0)), (5, .int (no1))]) hx hb dX13_make_148 hl (by decide) rfl (fun ls hl => ?_)
                have hl157 : (0 : Int32).toInt = 0 := by decide
                suffices lp150 : ∀ (k9 : Nat) (V9 : hp_V) (H9 : Heap) (locs9 : List Loc) (ls : Array Slot) (i150 : Int32) (le150 : Int32) (wf150 : Nat → Int32), (1000 - i150.toInt).toNat = k9 → hp_Z D cs B s V9 H9 n locs9 → hq_P cs G (fun _ => true) V V9 → V9 (mo) = some (.inr (13, hm_o q (m_tp) (m_sz) (m_fr) (m_bh) (m_hd) (m_ft) (m_fa) (le150) (m_fo) (m_as) (m_fd) (m_bc) (m_bg) (m_bs) (m_be) (m_b0) (m_b1) (m_cm) (m_hc))) → V9 (q + 21) = some (.inl (cs 0, 276, .inl (wf150))) → V9 (q + 22) = some (.inl (cs 0, 276, .inl (sf1x))) → V9 (q + 24) = some (.inl (cs 0, 30, .inl (bf))) → V9 (q + 23) = some (.inl (cs 3, 60, .inl (df1x))) → (∀ x, x ≠ mo → x ≠ q + 21 → x ≠ q + 22 → x ≠ q + 24 → x ≠ q + 23 → V9 x = V x) → hm_AR cs V9 q rh → 0 ≤ i150.toInt → i150.toInt ≤ ((sp_F w xe).length : Int) → (sp_rp le150 wf150 ((sp_stm w bk (sp_nm w t9) stm.toInt) ++ (sp_F w xe).take i150.toInt.toNat)) → lv_has ls 7 [(6, .int (i150)), (0, .ref (mo)), (1, .int (v)), (2, .int (stm)), (3, .int (edg)), (4, .int (no0)), (5, .int (no1))] → W p l e ({ frames := 3, cells := 0, slots := 0, locals := 69 }) s m ([.ref (mo), .int (v), .int (stm), .int (edg), .int (no0), .int (no1)] : List Value).toArray below meth c H9 locs9 0 0 (MQ below (hp_QI D cs B (fun r V' n' => n = n' ∧ hq_P cs G (fun _ => true) V V' ∧ (∀ x, x ≠ mo → x ≠ q + 21 → x ≠ q + 22 → x ≠ q + 24 → x ≠ q + 23 → V' x = V x) ∧ (∃ m_le1 : Int32, ∃ wf1 : Nat → Int32, ∃ sf1 : Nat → Int32, ∃ bf1 : Nat → Int32, ∃ df1 : Nat → Int32, V' (mo) = some (.inr (13, hm_o q (m_tp) (m_sz) (m_fr) (m_bh) (m_hd) (m_ft) (m_fa) (m_le1) (m_fo) (m_as) (m_fd) (m_bc) (m_bg) (m_bs) (m_be) (m_b0) (m_b1) (m_cm) (m_hc))) ∧ V' (q + 21) = some (.inl (cs 0, 276, .inl (wf1))) ∧ V' (q + 22) = some (.inl (cs 0, 276, .inl (sf1))) ∧ V' (q + 24) = some (.inl (cs 0, 30, .inl (bf1))) ∧ V' (q + 23) = some (.inl (cs 3, 60, .inl (df1))) ∧ ((r.toInt = 1 ∧ ∃ u1, sp_sa w no0.toInt no1.toInt bk.2.2.2 0 (sp_U w bk (sp_nm w t9) stm.toInt edg.toInt) = some u1 ∧ 0 < u1.length ∧ sp_rp m_le1 wf1 u1) ∨ (r.toInt = 0 ∧ ∀ u1, sp_sa w no0.toInt no1.toInt bk.2.2.2 0 (sp_U w bk (sp_nm w t9) stm.toInt edg.toInt) = some u1 → u1.length = 0)) ∧ (0 ≤ m_le1.toInt ∧ m_le1.toInt ≤ 276)))) ([.ref (mo), .int (v), .int (stm), .int (edg), .int (no0), .int (no1)] : List Value).toArray s 0 0 (hp_F B)) (F0 m 150 ls []) from lp150 _ _ _ _ ls (0) (le1x) (wf1x) rfl hZ hP ho43 ho44 ho45 ho46 ho47 (fun x8 hne0 hne1 hne2 hne3 hne4 => fr131 x8 hne0 hne1 hne2 hne3 hne4) pk48 (by omega) (by omega) (by rw [show (0 : Int32).toInt.toNat = 0 from rfl, List.take_zero, List.append_nil]; exact hrp1) (lv_sub hl [0, 1, 2, 3, 4, 5, 6] rfl)
                intro k9
                induction k9 using Nat.strongRecOn with
                | _ k9 ih150 =>
                  intro V9 H9 locs9 ls i150  le150 wf150 hk150 hZ hP ho151 ho152 ho153 ho154 ho155 fr150 pk156 hv158 hv159 hr150 hl
                  have hb_i150 := hq_rng i150
                  have hb_le150 := hq_rng le150
                  have hf160 := hq_rg20 hP.1 (hr_21 hR) ho152
                  have hf161 := hq_rg20 hP.1 (hr_22 hR) ho153
                  have hf162 := hq_rg20 hP.1 (hr_24 hR) ho154
                  have hr1501 := hr150.1
                  have hlt : ((sp_stm w bk (sp_nm w t9) stm.toInt) ++ (sp_F w xe).take i150.toInt.toNat).length = (sp_stm w bk (sp_nm w t9) stm.toInt).length + i150.toInt.toNat := by rw [List.length_append, List.length_take]; omega
                  refine lv_iload hx hb dX13_make_150 (lv_at hl 0 rfl) ?_
                  refine lv_aload_n hx hb dX13_make_152 rfl (lv_at hl 1 rfl) ?_
                  refine hp_get (v := .ref (q + 14)) hx hb hts hown hZ ho151 fl_X13_41 rfl dX13_make_153 ?_
                  refine lv_iload_n hx hb dX13_make_156 rfl (lv_at hl 4 rfl) ?_
                  obtain ⟨rf163, hrf164⟩ : ∃ f : Nat → Int32, f = rh 14 := ⟨_, rfl⟩
                  have ea165 : V9 (q + 14) = some (.inl (cs 1, 120, .inl (rf163))) := by rw [hrf164]; exact pk156 14 (by decide)
                  have hra166 := hq_rg hP.1 (hr_14 hR) ea165
                  refine hp_iald hx hb hZ ea165 (hq_in (by omega) (by omega)) dX13_make_157 ?_
                  refine lv_topi (fun y167 ey168 => ?_)
                  have b169 : hq_ir (hq_lo 1) (hq_hi 1) y167 := by rw [ey168]; exact hra166 _ (hq_ix (by omega) (by omega))
                  have b169 : 0 ≤ (y167).toInt ∧ (y167).toInt ≤ 8 := b169
                  have b170 : (y167).toInt = (rh 14 (edg).toNatClampNeg).toInt := by rw [ey168, hrf164]
                  refine lv_icmp_ge (tgt := 198) hx hb dX13_make_158 (by decide) (fun c171 => ?_) (fun c171 => ?_)
                  · have c171 : (y167).toInt ≤ (i150).toInt := hq_lei.mp c171
                    refine lv_aload_n hx hb dX13_make_198 rfl (lv_at hl 1 rfl) ?_
                    refine hp_get (v := .ref (q + 23)) hx hb hts hown hZ ho151 fl_X13_219 rfl dX13_make_199 ?_
                    refine lv_iload_n hx hb dX13_make_202 rfl (lv_at hl 4 rfl) ?_
                    refine lv_iconst (v := 1) hx hb dX13_make_203 (by decide) ?_
                    refine hp_zast hx hb hZ ho155 (hq_in (by omega) (by omega)) dX13_make_204 (fun V172 _ _ e173 o174 hZ => ?_)
                    have e173 : V172 (q + 23) = some (.inl (cs 3, 60, .inl (upd (df1x) ((edg : Int32).toNatClampNeg) ((vp_nar .boolean 1))))) := e173
                    have hP := hP.put (hr_23 hR) e173 o174 (hq_c22 (by omega)) rfl
                    obtain ⟨g175, ge176⟩ : ∃ g9 : Nat → Int32, g9 = upd (df1x) ((edg : Int32).toNatClampNeg) ((vp_nar .boolean 1)) := ⟨_, rfl⟩
                    have fx177 : V172 (q + 23) = some (.inl (cs 3, 60, .inl (g175))) := by rw [ge176]; exact e173
                    have fx179 : V172 (mo) = some (.inr (13, hm_o q (m_tp) (m_sz) (m_fr) (m_bh) (m_hd) (m_ft) (m_fa) (le150) (m_fo) (m_as) (m_fd) (m_bc) (m_bg) (m_bs) (m_be) (m_b0) (m_b1) (m_cm) (m_hc))) := (o174 (mo) (hq_tne hmo (hr_23 hR) (by simp))).trans (ho151)
                    have fx180 : V172 (q + 21) = some (.inl (cs 0, 276, .inl (wf150))) := (o174 (q + 21) (hq_tne (hr_21 hR) (hr_23 hR) (by simp))).trans (ho152)
                    have fx181 : V172 (q + 22) = some (.inl (cs 0, 276, .inl (sf1x))) := (o174 (q + 22) (hq_tne (hr_22 hR) (hr_23 hR) (by simp))).trans (ho153)
                    have fx182 : V172 (q + 24) = some (.inl (cs 0, 30, .inl (bf))) := (o174 (q + 24) (hq_tne (hr_24 hR) (hr_23 hR) (by simp))).trans (ho154)
                    have pk183 := pk156.keep (fun x7 (hx7 : q ≤ x7 ∧ x7 < q + 19) => o174 x7 (by omega))
                    exact jn205 _ _ _ ls  (le150) (wf150) (g175) hZ hP fx179 fx180 fx181 fx182 fx177 (fun x8 hne0 hne1 hne2 hne3 hne4 => (o174 x8 hne4).trans (fr150 x8 hne0 hne1 hne2 hne3 hne4)) pk183 (by unfold sp_U; rw [sp_end_y (by omega) hxe]; have h9 := hr150; rw [List.take_of_length_le (by omega)] at h9; exact h9) (lv_sub hl [1, 2, 3, 4, 5, 6] rfl)
                  · have c171 : ¬ (y167).toInt ≤ (i150).toInt := fun h9 => c171 (hq_lei.mpr h9)
                    refine lv_aload_n hx hb dX13_make_161 rfl (lv_at hl 1 rfl) ?_
                    refine hp_get (v := .ref (q + 21)) hx hb hts hown hZ ho151 fl_X13_213 rfl dX13_make_162 ?_
                    refine lv_aload_n hx hb dX13_make_165 rfl (lv_at hl 1 rfl) ?_
                    refine hp_get (v := .int (le150)) hx hb hts hown hZ ho151 fl_X13_331 rfl dX13_make_166 ?_
                    refine lv_aload_n hx hb dX13_make_169 rfl (lv_at hl 1 rfl) ?_
                    refine hp_get (v := .ref (q + 5)) hx hb hts hown hZ ho151 fl_X13_23 rfl dX13_make_170 ?_
                    refine lv_bipush (v := 8) hx hb dX13_make_173 (by decide) ?_
                    refine lv_iload_n hx hb dX13_make_175 rfl (lv_at hl 4 rfl) ?_
                    refine lv_imul hx hb dX13_make_176 ?_
                    refine lv_topi (fun y184 ey185 => ?_)
                    obtain ⟨k186, hk187, b188, b189⟩ := hq_mul (8) (edg)
                    rw [← ey185] at hk187 b188 b189
                    have hk187 : (y184).toInt = (8 : Int) * (edg).toInt + k186 * 4294967296 := hk187
                    obtain rfl : k186 = 0 := by omega
                    refine lv_iload hx hb dX13_make_177 (lv_at hl 0 rfl) ?_
                    refine lv_iadd hx hb dX13_make_179 ?_
                    refine lv_topi (fun y190 ey191 => ?_)
                    obtain ⟨k192, hk193, b194, b195⟩ := hq_add (y184) (i150)
                    rw [← ey191] at hk193 b194 b195
                    have hk193 : (y190).toInt = (y184).toInt + (i150).toInt + k192 * 4294967296 := hk193
                    obtain rfl : k192 = 0 := by omega
                    obtain ⟨rf196, hrf197⟩ : ∃ f : Nat → Int32, f = rh 5 := ⟨_, rfl⟩
                    have ea198 : V9 (q + 5) = some (.inl (cs 0, 960, .inl (rf196))) := by rw [hrf197]; exact pk156 5 (by decide)
                    refine hp_bald hx hb hZ ea198 (hq_in (by omega) (by omega)) dX13_make_180 ?_
                    refine lv_topi (fun y200 ey201 => ?_)
                    have b202 := hq_rng y200
                    have hvn := (hq_nn (z := y190) (by omega)).1
                    obtain ⟨x9, hx9⟩ : ∃ x, (sp_F w xe)[i150.toInt.toNat]? = some x := ⟨_, List.getElem?_eq_getElem (by omega)⟩
                    have hvx : (y200).toInt = x9 := by rw [ey201, hrf197, show (y190 : Int32).toNatClampNeg = 8 * (edg).toNatClampNeg + i150.toInt.toNat by omega]; exact hFTe.2.2 _ _ hx9
                    refine hp_bast hx hb hZ ho152 (hq_in (by omega) (by omega)) dX13_make_181 (fun V203 _ _ e204 o205 hZ => ?_)
                    have e204 : V203 (q + 21) = some (.inl (cs 0, 276, .inl (upd (wf150) ((le150 : Int32).toNatClampNeg) ((y200 : Int32).toInt8.toInt32)))) := e204
                    have hP := hP.put (hr_21 hR) e204 o205 (hq_c20 (by omega)) rfl
                    obtain ⟨g206, ge207⟩ : ∃ g9 : Nat → Int32, g9 = upd (wf150) ((le150 : Int32).toNatClampNeg) ((y200 : Int32).toInt8.toInt32) := ⟨_, rfl⟩
                    have fx208 : V203 (q + 21) = some (.inl (cs 0, 276, .inl (g206))) := by rw [ge207]; exact e204
                    have hf209 := hq_rg20 hP.1 (hr_21 hR) fx208
                    refine lv_aload_n hx hb dX13_make_182 rfl (lv_at hl 1 rfl) ?_
                    refine lv_dup hx hb dX13_make_183 rfl ?_
                    have fx210 : V203 (mo) = some (.inr (13, hm_o q (m_tp) (m_sz) (m_fr) (m_bh) (m_hd) (m_ft) (m_fa) (le150) (m_fo) (m_as) (m_fd) (m_bc) (m_bg) (m_bs) (m_be) (m_b0) (m_b1) (m_cm) (m_hc))) := (o205 (mo) (hq_tne hmo (hr_21 hR) (by simp))).trans (ho151)
                    refine hp_get (v := .int (le150)) hx hb hts hown hZ fx210 fl_X13_331 rfl dX13_make_184 ?_
                    refine lv_iconst (v := 1) hx hb dX13_make_187 (by decide) ?_
                    refine lv_iadd hx hb dX13_make_188 ?_
                    refine lv_topi (fun y211 ey212 => ?_)
                    obtain ⟨k213, hk214, b215, b216⟩ := hq_add (le150) (1)
                    rw [← ey212] at hk214 b215 b216
                    have hk214 : (y211).toInt = (le150).toInt + (1 : Int) + k213 * 4294967296 := hk214
                    obtain rfl : k213 = 0 := by omega
                    refine hp_put hx hb hts hown hZ fx210 fp_X13_331 rfl rfl (Nat.le_of_ble_eq_true rfl) dX13_make_189 (fun V217 _ _ e218 o219 hZ => ?_)
                    have e218 : V217 (mo) = some (.inr (13, hm_o q (m_tp) (m_sz) (m_fr) (m_bh) (m_hd) (m_ft) (m_fa) (y211) (m_fo) (m_as) (m_fd) (m_bc) (m_bg) (m_bs) (m_be) (m_b0) (m_b1) (m_cm) (m_hc))) := e218
                    have hP := hP.put hmo e218 o219 (trivial) rfl
                    obtain ⟨y220, ey221⟩ : ∃ y : Int32, y = i150 + (1) := ⟨_, rfl⟩
                    obtain ⟨k222, hk223, b224, b225⟩ := hq_add (i150) (1)
                    rw [← ey221] at hk223 b224 b225
                    have hk223 : (y220).toInt = (i150).toInt + (1) + k222 * 4294967296 := hk223
                    obtain rfl : k222 = 0 := by omega
                    refine lv_iinc (v := y220) (lv' := [(6, .int (y220)), (0, .ref (mo)), (1, .int (v)), (2, .int (stm)), (3, .int (edg)), (4, .int (no0)), (5, .int (no1))]) hx hb dX13_make_192 hl (k := 0) rfl (by rw [ey221]; rfl) (by decide) rfl (fun ls hl => ?_)
                    refine lv_goto (tgt := 150) hx hb dX13_make_195 (by decide) ?_
                    have fx226 : V217 (q + 21) = some (.inl (cs 0, 276, .inl (g206))) := (o219 (q + 21) (hq_tne (hr_21 hR) hmo (by simp))).trans (fx208)
                    have fx227 : V217 (q + 22) = some (.inl (cs 0, 276, .inl (sf1x))) := (o219 (q + 22) (hq_tne (hr_22 hR) hmo (by simp))).trans ((o205 (q + 22) (hq_ne q 22 21 (by decide))).trans (ho153))
                    have fx228 : V217 (q + 24) = some (.inl (cs 0, 30, .inl (bf))) := (o219 (q + 24) (hq_tne (hr_24 hR) hmo (by simp))).trans ((o205 (q + 24) (hq_tne (hr_24 hR) (hr_21 hR) (by simp))).trans (ho154))
                    have fx229 : V217 (q + 23) = some (.inl (cs 3, 60, .inl (df1x))) := (o219 (q + 23) (hq_tne (hr_23 hR) hmo (by simp))).trans ((o205 (q + 23) (hq_tne (hr_23 hR) (hr_21 hR) (by simp))).trans (ho155))
                    have pk230 := pk156.keep (fun x7 (hx7 : q ≤ x7 ∧ x7 < q + 19) => (o219 x7 (by omega)).trans (o205 x7 (by omega)))
                    exact ih150 _ (by omega) _ _ _ ls (y220) (y211) (g206) rfl hZ hP e218 fx226 fx227 fx228 fx229 (fun x8 hne0 hne1 hne2 hne3 hne4 => (o219 x8 hne0).trans ((o205 x8 hne1).trans (fr150 x8 hne0 hne1 hne2 hne3 hne4))) pk230 (by omega) (by omega) (by rw [show (y220).toInt.toNat = i150.toInt.toNat + 1 by omega, sp_take_s hx9, ← List.append_assoc, ge207]; exact hr150.snoc (by omega) hvx (sp_lw_b8 hoc _ _ _ _ hx9)) (lv_sub hl [0, 1, 2, 3, 4, 5, 6] rfl)
            · have c52 : ¬ (le1x).toInt ≤ (30 : Int) := fun h9 => c52 (hq_lei.mpr h9)
              exfalso
              omega
          refine lv_iload_n hx hb dX13_make_71 rfl (lv_at hl 3 rfl) ?_
          refine lv_iconst (v := -1) hx hb dX13_make_72 (by decide) ?_
          refine lv_icmp_eq (tgt := 131) hx hb dX13_make_73 (by decide) (fun c231 => ?_) (fun c231 => ?_)
          · have c231 : (stm).toInt = (-1 : Int) := hq_eqi.mp c231
            exact jn131 _ _ _ ls  (y5) (wf13) (sf) (df50) hZ hP ho30 ho31 ho32 ho33 ho34 (fun x8 hne0 hne1 hne2 hne3 hne4 => fr50 x8 hne0 hne1 hne2 hne3 hne4) pk35 (by rw [sp_stm_0 (by omega)]; exact hrp0) (lv_sub hl [1, 2, 3, 4, 5, 6] rfl)
          · have c231 : ¬ (stm).toInt = (-1 : Int) := fun h9 => c231 (hq_eqi.mpr h9)
            have hiis : ((stm).toNatClampNeg : Int) = (stm).toInt := (hq_nn (by omega)).1.symm
            obtain ⟨xs, hxs⟩ : ∃ t, bk.2.2.2[(stm).toNatClampNeg]? = some t := ⟨_, List.getElem?_eq_getElem (by omega)⟩
            obtain ⟨hq1s, -, -, -, hq5s, hq6s, hq7s⟩ := hBm.2.2.2.2.2.2 _ _ hxs
            rw [show 60 * 0 + (stm).toNatClampNeg = (stm).toNatClampNeg by omega] at hq1s hq5s hq6s hq7s
            have hFTs : hm_FT rh 14 5 (stm).toNatClampNeg (sp_F w xs) := hq6s.ft
            have hSTs : hm_FT rh 15 6 (stm).toNatClampNeg (sp_S2 w xs) := hq7s.ft
            have hFls := hFTs.1
            have hFms := hFTs.2.1
            have hSls := hSTs.1
            have hSms := hSTs.2.1
            have hF0 : 0 < (sp_F w xs).length := by have h9 := (hgd2 _ _ hxs).2.2.1 (hstk _ (by omega) hxs); have h8 := hq6s.1; omega
            refine lv_aload_n hx hb dX13_make_76 rfl (lv_at hl 1 rfl) ?_
            refine hp_get (v := .int (y5)) hx hb hts hown hZ ho30 fl_X13_331 rfl dX13_make_77 ?_
            refine lv_istore (lv' := [(6, .int (y5)), (0, .ref (mo)), (1, .int (v)), (2, .int (stm)), (3, .int (edg)), (4, .int (no0)), (5, .int (no1))]) hx hb dX13_make_80 hl (by decide) rfl (fun ls hl => ?_)
            suffices lp82 : ∀ (k9 : Nat) (V9 : hp_V) (H9 : Heap) (locs9 : List Loc) (ls : Array Slot) (i82 : Int32), (1000 + i82.toInt).toNat = k9 → hp_Z D cs B s V9 H9 n locs9 → hq_P cs G (fun _ => true) V V9 → V9 (mo) = some (.inr (13, hm_o q (m_tp) (m_sz) (m_fr) (m_bh) (m_hd) (m_ft) (m_fa) (y5) (m_fo) (m_as) (m_fd) (m_bc) (m_bg) (m_bs) (m_be) (m_b0) (m_b1) (m_cm) (m_hc))) → V9 (q + 21) = some (.inl (cs 0, 276, .inl (wf13))) → V9 (q + 22) = some (.inl (cs 0, 276, .inl (sf))) → V9 (q + 24) = some (.inl (cs 0, 30, .inl (bf))) → V9 (q + 23) = some (.inl (cs 3, 60, .inl (df50))) → (∀ x, x ≠ mo → x ≠ q + 21 → x ≠ q + 22 → x ≠ q + 24 → x ≠ q + 23 → V9 x = V x) → hm_AR cs V9 q rh → -1 ≤ i82.toInt → i82.toInt ≤ ((sp_nm w t9).length : Int) → ((0 ≤ i82.toInt ∧ sp_lpg (sp_F w xs) (sp_nm w t9) i82.toInt.toNat = sp_lp (sp_F w xs) (sp_nm w t9)) ∨ (i82.toInt < 0 ∧ sp_lp (sp_F w xs) (sp_nm w t9) = -1)) → lv_has ls 7 [(6, .int (i82)), (0, .ref (mo)), (1, .int (v)), (2, .int (stm)), (3, .int (edg)), (4, .int (no0)), (5, .int (no1))] → W p l e ({ frames := 3, cells := 0, slots := 0, locals := 69 }) s m ([.ref (mo), .int (v), .int (stm), .int (edg), .int (no0), .int (no1)] : List Value).toArray below meth c H9 locs9 0 0 (MQ below (hp_QI D cs B (fun r V' n' => n = n' ∧ hq_P cs G (fun _ => true) V V' ∧ (∀ x, x ≠ mo → x ≠ q + 21 → x ≠ q + 22 → x ≠ q + 24 → x ≠ q + 23 → V' x = V x) ∧ (∃ m_le1 : Int32, ∃ wf1 : Nat → Int32, ∃ sf1 : Nat → Int32, ∃ bf1 : Nat → Int32, ∃ df1 : Nat → Int32, V' (mo) = some (.inr (13, hm_o q (m_tp) (m_sz) (m_fr) (m_bh) (m_hd) (m_ft) (m_fa) (m_le1) (m_fo) (m_as) (m_fd) (m_bc) (m_bg) (m_bs) (m_be) (m_b0) (m_b1) (m_cm) (m_hc))) ∧ V' (q + 21) = some (.inl (cs 0, 276, .inl (wf1))) ∧ V' (q + 22) = some (.inl (cs 0, 276, .inl (sf1))) ∧ V' (q + 24) = some (.inl (cs 0, 30, .inl (bf1))) ∧ V' (q + 23) = some (.inl (cs 3, 60, .inl (df1))) ∧ ((r.toInt = 1 ∧ ∃ u1, sp_sa w no0.toInt no1.toInt bk.2.2.2 0 (sp_U w bk (sp_nm w t9) stm.toInt edg.toInt) = some u1 ∧ 0 < u1.length ∧ sp_rp m_le1 wf1 u1) ∨ (r.toInt = 0 ∧ ∀ u1, sp_sa w no0.toInt no1.toInt bk.2.2.2 0 (sp_U w bk (sp_nm w t9) stm.toInt edg.toInt) = some u1 → u1.length = 0)) ∧ (0 ≤ m_le1.toInt ∧ m_le1.toInt ≤ 276)))) ([.ref (mo), .int (v), .int (stm), .int (edg), .int (no0), .int (no1)] : List Value).toArray s 0 0 (hp_F B)) (F0 m 82 ls []) from lp82 _ _ _ _ ls (y5) rfl hZ hP ho30 ho31 ho32 ho33 ho34 (fun x8 hne0 hne1 hne2 hne3 hne4 => fr50 x8 hne0 hne1 hne2 hne3 hne4) pk35 (by omega) (by omega) (Or.inl ⟨by omega, by unfold sp_lp; rw [show (y5).toInt.toNat = (sp_nm w t9).length by omega]⟩) (lv_sub hl [0, 1, 2, 3, 4, 5, 6] rfl)
            intro k9
            induction k9 using Nat.strongRecOn with
            | _ k9 ih82 =>
              intro V9 H9 locs9 ls i82   hk82 hZ hP ho232 ho233 ho234 ho235 ho236 fr82 pk237 hv238 hv239 hlp hl
              have hb_i82 := hq_rng i82
              have hf240 := hq_rg20 hP.1 (hr_21 hR) ho233
              have hf241 := hq_rg20 hP.1 (hr_22 hR) ho234
              have hf242 := hq_rg20 hP.1 (hr_24 hR) ho235
              refine lv_iload hx hb dX13_make_82 (lv_at hl 0 rfl) ?_
              refine lv_if_lt (tgt := 103) hx hb dX13_make_84 (by decide) (fun c243 => ?_) (fun c243 => ?_)
              · have c243 : (i82).toInt < (0 : Int) := hq_lti.mp c243
                have hlpn : sp_lp (sp_F w xs) (sp_nm w t9) = -1 := by rcases hlp with g9 | g9; (· omega); (· exact g9.2)
                refine lv_iload hx hb dX13_make_103 (lv_at hl 0 rfl) ?_
                refine lv_if_lt (tgt := 115) hx hb dX13_make_105 (by decide) (fun c244 => ?_) (fun c244 => ?_)
                · have c244 : (i82).toInt < (0 : Int) := hq_lti.mp c244
                  refine lv_aload_n hx hb dX13_make_115 rfl (lv_at hl 1 rfl) ?_
                  refine hp_get (v := .ref (q + 23)) hx hb hts hown hZ ho232 fl_X13_219 rfl dX13_make_116 ?_
                  refine lv_iload_n hx hb dX13_make_119 rfl (lv_at hl 3 rfl) ?_
                  refine lv_iload hx hb dX13_make_120 (lv_at hl 0 rfl) ?_
                  refine lv_if_lt (tgt := 129) hx hb dX13_make_122 (by decide) (fun c245 => ?_) (fun c245 => ?_)
                  · have c245 : (i82).toInt < (0 : Int) := hq_lti.mp c245
                    refine lv_iconst (v := 0) hx hb dX13_make_129 (by decide) ?_
                    refine hp_zast hx hb hZ ho236 (hq_in (by omega) (by omega)) dX13_make_130 (fun V246 _ _ e247 o248 hZ => ?_)
                    have e247 : V246 (q + 23) = some (.inl (cs 3, 60, .inl (upd (df50) ((stm : Int32).toNatClampNeg) ((vp_nar .boolean 0))))) := e247
                    have hP := hP.put (hr_23 hR) e247 o248 (hq_c22 (by omega)) rfl
                    obtain ⟨g249, ge250⟩ : ∃ g9 : Nat → Int32, g9 = upd (df50) ((stm : Int32).toNatClampNeg) ((vp_nar .boolean 0)) := ⟨_, rfl⟩
                    have fx251 : V246 (q + 23) = some (.inl (cs 3, 60, .inl (g249))) := by rw [ge250]; exact e247
                    have fx253 : V246 (mo) = some (.inr (13, hm_o q (m_tp) (m_sz) (m_fr) (m_bh) (m_hd) (m_ft) (m_fa) (y5) (m_fo) (m_as) (m_fd) (m_bc) (m_bg) (m_bs) (m_be) (m_b0) (m_b1) (m_cm) (m_hc))) := (o248 (mo) (hq_tne hmo (hr_23 hR) (by simp))).trans (ho232)
                    have fx254 : V246 (q + 21) = some (.inl (cs 0, 276, .inl (wf13))) := (o248 (q + 21) (hq_tne (hr_21 hR) (hr_23 hR) (by simp))).trans (ho233)
                    have fx255 : V246 (q + 22) = some (.inl (cs 0, 276, .inl (sf))) := (o248 (q + 22) (hq_tne (hr_22 hR) (hr_23 hR) (by simp))).trans (ho234)
                    have fx256 : V246 (q + 24) = some (.inl (cs 0, 30, .inl (bf))) := (o248 (q + 24) (hq_tne (hr_24 hR) (hr_23 hR) (by simp))).trans (ho235)
                    have pk257 := pk237.keep (fun x7 (hx7 : q ≤ x7 ∧ x7 < q + 19) => o248 x7 (by omega))
                    exact jn131 _ _ _ ls  (y5) (wf13) (sf) (g249) hZ hP fx253 fx254 fx255 fx256 fx251 (fun x8 hne0 hne1 hne2 hne3 hne4 => (o248 x8 hne4).trans (fr82 x8 hne0 hne1 hne2 hne3 hne4)) pk257 (by rw [sp_stm_n (by omega) hxs hlpn]; exact hrp0) (lv_sub hl [1, 2, 3, 4, 5, 6] rfl)
                  · have c245 : ¬ (i82).toInt < (0 : Int) := fun h9 => c245 (hq_lti.mpr h9)
                    exfalso
                    omega
                · have c244 : ¬ (i82).toInt < (0 : Int) := fun h9 => c244 (hq_lti.mpr h9)
                  exfalso
                  omega
              · have c243 : ¬ (i82).toInt < (0 : Int) := fun h9 => c243 (hq_lti.mpr h9)
                refine lv_aload_n hx hb dX13_make_87 rfl (lv_at hl 1 rfl) ?_
                refine lv_iload_n hx hb dX13_make_88 rfl (lv_at hl 3 rfl) ?_
                refine lv_iload hx hb dX13_make_89 (lv_at hl 0 rfl) ?_
                refine hp_calli (hp_runV (As := [.int (stm), .int (i82)]) (rest := []) hx hb hml hown hts (y_standsAt l D cs B G V9 n hP.1 (q) (mo) (rh) (m_tp) (m_sz) (m_fr) (m_bh) (m_hd) (m_ft) (m_fa) (y5) (m_fo) (m_as) (m_fd) (m_bc) (m_bg) (m_bs) (m_be) (m_b0) (m_b1) (m_cm) (m_hc) (stm) (i82) (wf13) ((sp_nm w t9)) ((sp_F w xs))  ho232 ho233 pk237 hR hmo hrp0 (by omega) hFTs (by omega) hF0 (by omega)) hZ ho232 cv_X13_334 rfl rfl ⟨Nat.le_of_ble_eq_true rfl, Nat.le_of_ble_eq_true rfl⟩ rfl hl.1 rfl (Nat.le_of_ble_eq_true rfl) dX13_make_91 ⟨(Nat.le_of_ble_eq_true rfl), (Nat.le_of_ble_eq_true rfl)⟩) hZ (fun r261 V258 n259 _ _ hw260 hZ => ?_)
                obtain ⟨rfl, rfl, hp264⟩ := hw260
                have b265 := hq_rng r261
                refine lv_if_ne (tgt := 103) hx hb dX13_make_94 (by decide) (fun c266 => ?_) (fun c266 => ?_)
                · have c266 : ¬ (r261).toInt = (0 : Int) := fun h9 => c266 (hq_eqi.mpr h9)
                  obtain ⟨hst1, hst2⟩ : 0 ≤ (i82).toInt ∧ sp_pf (sp_F w xs) ((sp_nm w t9).drop (i82).toInt.toNat) = true := by rcases hp264 with g9 | g9; (· exact g9.2); (· omega)
                  have hlpy : sp_lp (sp_F w xs) (sp_nm w t9) = i82.toInt := by rcases hlp with ⟨g1, g2⟩ | ⟨g1, g2⟩; (· rw [← g2, sp_lpg_y hst2]; omega); (· omega)
                  refine lv_iload hx hb dX13_make_103 (lv_at hl 0 rfl) ?_
                  refine lv_if_lt (tgt := 115) hx hb dX13_make_105 (by decide) (fun c267 => ?_) (fun c267 => ?_)
                  · have c267 : (i82).toInt < (0 : Int) := hq_lti.mp c267
                    exfalso
                    omega
                  · have c267 : ¬ (i82).toInt < (0 : Int) := fun h9 => c267 (hq_lti.mpr h9)
                    refine lv_aload_n hx hb dX13_make_108 rfl (lv_at hl 1 rfl) ?_
                    refine lv_iload_n hx hb dX13_make_109 rfl (lv_at hl 3 rfl) ?_
                    refine lv_iload hx hb dX13_make_110 (lv_at hl 0 rfl) ?_
                    have hpl := ((sp_pf_iff _ _).mp hst2).1
                    rw [List.length_drop] at hpl
                    refine hp_callv (hp_runV (As := [.int (stm), .int (i82)]) (rest := []) hx hb hml hown hts (y_changeAt l D cs B G V9 n hP.1 (q) (mo) (rh) (m_tp) (m_sz) (m_fr) (m_bh) (m_hd) (m_ft) (m_fa) (y5) (m_fo) (m_as) (m_fd) (m_bc) (m_bg) (m_bs) (m_be) (m_b0) (m_b1) (m_cm) (m_hc) (stm) (i82) (wf13) (sf) ((sp_nm w t9)) ((sp_F w xs)) ((sp_S2 w xs))  ho232 ho233 ho234 pk237 hR hmo hmq hrp0 hFTs hSTs (by omega) (by omega) hnb (sp_lw_b8 hoc _ _) (by omega)) hZ ho232 cv_X13_338 rfl rfl ⟨Nat.le_of_ble_eq_true rfl, Nat.le_of_ble_eq_true rfl⟩ rfl hl.1 rfl (Nat.le_of_ble_eq_true rfl) dX13_make_112 ⟨(Nat.le_of_ble_eq_true rfl), (Nat.le_of_ble_eq_true rfl)⟩) hZ (fun V268 n269 _ _ hw270 hZ => ?_)
                    obtain ⟨rfl, hq272, fr273, z274, u275, u276, ho277, ho278, ho279, hp280⟩ := hw270
                    have b281 := hq_rng z274
                    have hP := hP.trans hq272 (fun _ h => Bool.noConfusion h)
                    have hf282 := hq_rg20 hP.1 (hr_21 hR) ho278
                    have hf283 := hq_rg20 hP.1 (hr_22 hR) ho279
                    have hcu := hp280
                    refine lv_aload_n hx hb dX13_make_115 rfl (lv_at hl 1 rfl) ?_
                    refine hp_get (v := .ref (q + 23)) hx hb hts hown hZ ho277 fl_X13_219 rfl dX13_make_116 ?_
                    refine lv_iload_n hx hb dX13_make_119 rfl (lv_at hl 3 rfl) ?_
                    refine lv_iload hx hb dX13_make_120 (lv_at hl 0 rfl) ?_
                    refine lv_if_lt (tgt := 129) hx hb dX13_make_122 (by decide) (fun c284 => ?_) (fun c284 => ?_)
                    · have c284 : (i82).toInt < (0 : Int) := hq_lti.mp c284
                      exfalso
                      omega
                    · have c284 : ¬ (i82).toInt < (0 : Int) := fun h9 => c284 (hq_lti.mpr h9)
                      refine lv_iconst (v := 1) hx hb dX13_make_125 (by decide) ?_
                      refine lv_goto (tgt := 130) hx hb dX13_make_126 (by decide) ?_
                      have fx285 : V268 (q + 23) = some (.inl (cs 3, 60, .inl (df50))) := (fr273 (q + 23) (hq_tne (hr_23 hR) hmo (by simp)) (hq_tne (hr_23 hR) (hr_21 hR) (by simp)) (hq_tne (hr_23 hR) (hr_22 hR) (by simp))).trans (ho236)
                      refine hp_zast hx hb hZ fx285 (hq_in (by omega) (by omega)) dX13_make_130 (fun V286 _ _ e287 o288 hZ => ?_)
                      have e287 : V286 (q + 23) = some (.inl (cs 3, 60, .inl (upd (df50) ((stm : Int32).toNatClampNeg) ((vp_nar .boolean 1))))) := e287
                      have hP := hP.put (hr_23 hR) e287 o288 (hq_c22 (by omega)) rfl
                      obtain ⟨g289, ge290⟩ : ∃ g9 : Nat → Int32, g9 = upd (df50) ((stm : Int32).toNatClampNeg) ((vp_nar .boolean 1)) := ⟨_, rfl⟩
                      have fx291 : V286 (q + 23) = some (.inl (cs 3, 60, .inl (g289))) := by rw [ge290]; exact e287
                      have fx293 : V286 (mo) = some (.inr (13, hm_o q (m_tp) (m_sz) (m_fr) (m_bh) (m_hd) (m_ft) (m_fa) (z274) (m_fo) (m_as) (m_fd) (m_bc) (m_bg) (m_bs) (m_be) (m_b0) (m_b1) (m_cm) (m_hc))) := (o288 (mo) (hq_tne hmo (hr_23 hR) (by simp))).trans (ho277)
                      have fx294 : V286 (q + 21) = some (.inl (cs 0, 276, .inl (u275))) := (o288 (q + 21) (hq_tne (hr_21 hR) (hr_23 hR) (by simp))).trans (ho278)
                      have fx295 : V286 (q + 22) = some (.inl (cs 0, 276, .inl (u276))) := (o288 (q + 22) (hq_tne (hr_22 hR) (hr_23 hR) (by simp))).trans (ho279)
                      have fx296 : V286 (q + 24) = some (.inl (cs 0, 30, .inl (bf))) := (o288 (q + 24) (hq_tne (hr_24 hR) (hr_23 hR) (by simp))).trans ((fr273 (q + 24) (hq_tne (hr_24 hR) hmo (by simp)) (hq_tne (hr_24 hR) (hr_21 hR) (by simp)) (hq_tne (hr_24 hR) (hr_22 hR) (by simp))).trans (ho235))
                      have pk297 := pk237.keep (fun x7 (hx7 : q ≤ x7 ∧ x7 < q + 19) => (o288 x7 (by omega)).trans (fr273 x7 (by omega) (by omega) (by omega)))
                      exact jn131 _ _ _ ls  (z274) (u275) (u276) (g289) hZ hP fx293 fx294 fx295 fx296 fx291 (fun x8 hne0 hne1 hne2 hne3 hne4 => (o288 x8 hne4).trans ((fr273 x8 hne0 hne1 hne2).trans (fr82 x8 hne0 hne1 hne2 hne3 hne4))) pk297 (by rw [sp_stm_y (by omega) hxs (by omega), hlpy]; exact hcu) (lv_sub hl [1, 2, 3, 4, 5, 6] rfl)
                · have c266 : (r261).toInt = (0 : Int) := hq_eqi.mp c266
                  have hnst : ¬ (0 ≤ (i82).toInt ∧ sp_pf (sp_F w xs) ((sp_nm w t9).drop (i82).toInt.toNat) = true) := by rcases hp264 with g9 | g9; (· omega); (· exact g9.2)
                  obtain ⟨y298, ey299⟩ : ∃ y : Int32, y = i82 + (-1) := ⟨_, rfl⟩
                  obtain ⟨k300, hk301, b302, b303⟩ := hq_add (i82) (-1)
                  rw [← ey299] at hk301 b302 b303
                  have hk301 : (y298).toInt = (i82).toInt + (-1) + k300 * 4294967296 := hk301
                  obtain rfl : k300 = 0 := by omega
                  refine lv_iinc (v := y298) (lv' := [(6, .int (y298)), (0, .ref (mo)), (1, .int (v)), (2, .int (stm)), (3, .int (edg)), (4, .int (no0)), (5, .int (no1))]) hx hb dX13_make_97 hl (k := 0) rfl (by rw [ey299]; rfl) (by decide) rfl (fun ls hl => ?_)
                  refine lv_goto (tgt := 82) hx hb dX13_make_100 (by decide) ?_
                  exact ih82 _ (by omega) _ _ _ ls (y298) rfl hZ hP ho232 ho233 ho234 ho235 ho236 (fun x8 hne0 hne1 hne2 hne3 hne4 => fr82 x8 hne0 hne1 hne2 hne3 hne4) pk237 (by omega) (by omega) (by rcases hlp with ⟨g1, g2⟩ | ⟨g1, g2⟩; (· rcases Classical.em (i82.toInt = 0) with c9 | c9; (· rw [show i82.toInt.toNat = 0 by omega] at g2 hnst; exact Or.inr ⟨by omega, by rw [← g2]; exact sp_lpg_0 (fun g9 => hnst ⟨by omega, g9⟩)⟩); (· refine Or.inl ⟨by omega, ?_⟩; rw [show i82.toInt.toNat = (y298).toInt.toNat + 1 by omega] at g2 hnst; rw [← g2, sp_lpg_n (fun g9 => hnst ⟨by omega, g9⟩)])); (· omega)) (lv_sub hl [0, 1, 2, 3, 4, 5, 6] rfl)
        · have c42 : ¬ (60 : Int) ≤ (i50).toInt := fun h9 => c42 (hq_lei.mpr h9)
          refine lv_aload_n hx hb dX13_make_57 rfl (lv_at hl 1 rfl) ?_
          refine hp_get (v := .ref (q + 23)) hx hb hts hown hZ ho30 fl_X13_219 rfl dX13_make_58 ?_
          refine lv_iload hx hb dX13_make_61 (lv_at hl 0 rfl) ?_
          refine lv_iconst (v := 0) hx hb dX13_make_63 (by decide) ?_
          refine hp_zast hx hb hZ ho34 (hq_in (by omega) (by omega)) dX13_make_64 (fun V304 _ _ e305 o306 hZ => ?_)
          have e305 : V304 (q + 23) = some (.inl (cs 3, 60, .inl (upd (df50) ((i50 : Int32).toNatClampNeg) ((vp_nar .boolean 0))))) := e305
          have hP := hP.put (hr_23 hR) e305 o306 (hq_c22 (by omega)) rfl
          obtain ⟨g307, ge308⟩ : ∃ g9 : Nat → Int32, g9 = upd (df50) ((i50 : Int32).toNatClampNeg) ((vp_nar .boolean 0)) := ⟨_, rfl⟩
          have fx309 : V304 (q + 23) = some (.inl (cs 3, 60, .inl (g307))) := by rw [ge308]; exact e305
          obtain ⟨y311, ey312⟩ : ∃ y : Int32, y = i50 + (1) := ⟨_, rfl⟩
          obtain ⟨k313, hk314, b315, b316⟩ := hq_add (i50) (1)
          rw [← ey312] at hk314 b315 b316
          have hk314 : (y311).toInt = (i50).toInt + (1) + k313 * 4294967296 := hk314
          obtain rfl : k313 = 0 := by omega
          refine lv_iinc (v := y311) (lv' := [(6, .int (y311)), (0, .ref (mo)), (1, .int (v)), (2, .int (stm)), (3, .int (edg)), (4, .int (no0)), (5, .int (no1))]) hx hb dX13_make_65 hl (k := 0) rfl (by rw [ey312]; rfl) (by decide) rfl (fun ls hl => ?_)
          refine lv_goto (tgt := 50) hx hb dX13_make_68 (by decide) ?_
          have fx317 : V304 (mo) = some (.inr (13, hm_o q (m_tp) (m_sz) (m_fr) (m_bh) (m_hd) (m_ft) (m_fa) (y5) (m_fo) (m_as) (m_fd) (m_bc) (m_bg) (m_bs) (m_be) (m_b0) (m_b1) (m_cm) (m_hc))) := (o306 (mo) (hq_tne hmo (hr_23 hR) (by simp))).trans (ho30)
          have fx318 : V304 (q + 21) = some (.inl (cs 0, 276, .inl (wf13))) := (o306 (q + 21) (hq_tne (hr_21 hR) (hr_23 hR) (by simp))).trans (ho31)
          have fx319 : V304 (q + 22) = some (.inl (cs 0, 276, .inl (sf))) := (o306 (q + 22) (hq_tne (hr_22 hR) (hr_23 hR) (by simp))).trans (ho32)
          have fx320 : V304 (q + 24) = some (.inl (cs 0, 30, .inl (bf))) := (o306 (q + 24) (hq_tne (hr_24 hR) (hr_23 hR) (by simp))).trans (ho33)
          have pk321 := pk35.keep (fun x7 (hx7 : q ≤ x7 ∧ x7 < q + 19) => o306 x7 (by omega))
          exact ih50 _ (by omega) _ _ _ ls (y311) (g307) rfl hZ hP fx317 fx318 fx319 fx320 fx309 (fun x8 hne0 hne1 hne2 hne3 hne4 => (o306 x8 hne4).trans (fr50 x8 hne0 hne1 hne2 hne3 hne4)) pk321 (by omega) (by omega) (lv_sub hl [0, 1, 2, 3, 4, 5, 6] rfl)
    · have c29 : ¬ (y5).toInt ≤ (i13).toInt := fun h9 => c29 (hq_lei.mpr h9)
      refine lv_aload_n hx hb dX13_make_22 rfl (lv_at hl 1 rfl) ?_
      refine hp_get (v := .ref (q + 21)) hx hb hts hown hZ ho12 fl_X13_213 rfl dX13_make_23 ?_
      refine lv_iload hx hb dX13_make_26 (lv_at hl 0 rfl) ?_
      refine lv_aload_n hx hb dX13_make_28 rfl (lv_at hl 1 rfl) ?_
      refine hp_get (v := .ref (q + 4)) hx hb hts hown hZ ho12 fl_X13_19 rfl dX13_make_29 ?_
      refine lv_bipush (v := 12) hx hb dX13_make_32 (by decide) ?_
      refine lv_iload_n hx hb dX13_make_34 rfl (lv_at hl 2 rfl) ?_
      refine lv_imul hx hb dX13_make_35 ?_
      refine lv_topi (fun y322 ey323 => ?_)
      obtain ⟨k324, hk325, b326, b327⟩ := hq_mul (12) (v)
      rw [← ey323] at hk325 b326 b327
      have hk325 : (y322).toInt = (12 : Int) * (v).toInt + k324 * 4294967296 := hk325
      obtain rfl : k324 = 0 := by omega
      refine lv_iload hx hb dX13_make_36 (lv_at hl 0 rfl) ?_
      refine lv_iadd hx hb dX13_make_38 ?_
      refine lv_topi (fun y328 ey329 => ?_)
      obtain ⟨k330, hk331, b332, b333⟩ := hq_add (y322) (i13)
      rw [← ey329] at hk331 b332 b333
      have hk331 : (y328).toInt = (y322).toInt + (i13).toInt + k330 * 4294967296 := hk331
      obtain rfl : k330 = 0 := by omega
      obtain ⟨rf334, hrf335⟩ : ∃ f : Nat → Int32, f = rh 4 := ⟨_, rfl⟩
      have ea336 : V9 (q + 4) = some (.inl (cs 0, 720, .inl (rf334))) := by rw [hrf335]; exact pk22 4 (by decide)
      refine hp_bald hx hb hZ ea336 (hq_in (by omega) (by omega)) dX13_make_39 ?_
      refine lv_topi (fun y338 ey339 => ?_)
      have b340 := hq_rng y338
      have hvn := (hq_nn (z := y328) (by omega)).1
      obtain ⟨x9, hx9⟩ : ∃ x, (sp_nm w t9)[i13.toInt.toNat]? = some x := ⟨_, List.getElem?_eq_getElem (by omega)⟩
      have hvx : (y338).toInt = x9 := by rw [ey339, hrf335, show (y328 : Int32).toNatClampNeg = 12 * v.toNatClampNeg + i13.toInt.toNat by omega]; exact hna _ _ hx9
      refine hp_bast hx hb hZ ho14 (hq_in (by omega) (by omega)) dX13_make_40 (fun V341 _ _ e342 o343 hZ => ?_)
      have e342 : V341 (q + 21) = some (.inl (cs 0, 276, .inl (upd (wf13) ((i13 : Int32).toNatClampNeg) ((y338 : Int32).toInt8.toInt32)))) := e342
      have hP := hP.put (hr_21 hR) e342 o343 (hq_c20 (by omega)) rfl
      obtain ⟨g344, ge345⟩ : ∃ g9 : Nat → Int32, g9 = upd (wf13) ((i13 : Int32).toNatClampNeg) ((y338 : Int32).toInt8.toInt32) := ⟨_, rfl⟩
      have fx346 : V341 (q + 21) = some (.inl (cs 0, 276, .inl (g344))) := by rw [ge345]; exact e342
      have hf347 := hq_rg20 hP.1 (hr_21 hR) fx346
      obtain ⟨y348, ey349⟩ : ∃ y : Int32, y = i13 + (1) := ⟨_, rfl⟩
      obtain ⟨k350, hk351, b352, b353⟩ := hq_add (i13) (1)
      rw [← ey349] at hk351 b352 b353
      have hk351 : (y348).toInt = (i13).toInt + (1) + k350 * 4294967296 := hk351
      obtain rfl : k350 = 0 := by omega
      refine lv_iinc (v := y348) (lv' := [(6, .int (y348)), (0, .ref (mo)), (1, .int (v)), (2, .int (stm)), (3, .int (edg)), (4, .int (no0)), (5, .int (no1))]) hx hb dX13_make_41 hl (k := 0) rfl (by rw [ey349]; rfl) (by decide) rfl (fun ls hl => ?_)
      refine lv_goto (tgt := 13) hx hb dX13_make_44 (by decide) ?_
      have fx354 : V341 (mo) = some (.inr (13, hm_o q (m_tp) (m_sz) (m_fr) (m_bh) (m_hd) (m_ft) (m_fa) (y5) (m_fo) (m_as) (m_fd) (m_bc) (m_bg) (m_bs) (m_be) (m_b0) (m_b1) (m_cm) (m_hc))) := (o343 (mo) (hq_tne hmo (hr_21 hR) (by simp))).trans (ho12)
      have fx355 : V341 (q + 22) = some (.inl (cs 0, 276, .inl (sf))) := (o343 (q + 22) (hq_ne q 22 21 (by decide))).trans (ho16)
      have fx356 : V341 (q + 24) = some (.inl (cs 0, 30, .inl (bf))) := (o343 (q + 24) (hq_tne (hr_24 hR) (hr_21 hR) (by simp))).trans (ho18)
      have fx357 : V341 (q + 23) = some (.inl (cs 3, 60, .inl (df))) := (o343 (q + 23) (hq_tne (hr_23 hR) (hr_21 hR) (by simp))).trans (ho20)
      have pk358 := pk22.keep (fun x7 (hx7 : q ≤ x7 ∧ x7 < q + 19) => o343 x7 (by omega))
      exact ih13 _ (by omega) _ _ _ ls (y348) (g344) rfl hZ hP fx354 fx346 fx355 fx356 fx357 (fun x8 hne0 hne1 hne2 hne3 hne4 => (o343 x8 hne1).trans (fr13 x8 hne0 hne1 hne2 hne3 hne4)) pk358 (by omega) (by omega) (fun j x hj hx => by rw [ge345]; have h8 := (hq_nn (z := i13) (by omega)).1; by_cases c9 : (j : Int) < i13.toInt; (· rw [hm_un (by omega)]; exact hw13 j x c9 hx); (· obtain rfl : j = i13.toInt.toNat := (by omega); rw [show i13.toInt.toNat = i13.toNatClampNeg by omega, hm_ue]; cases hx9.symm.trans hx; rw [hx_n8 (by rw [hvx]; exact hnb _ _ hx9)]; exact hvx)) (lv_sub hl [0, 1, 2, 3, 4, 5, 6] rfl)

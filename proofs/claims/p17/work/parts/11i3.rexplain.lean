set_option maxHeartbeats 4000000 in
set_option maxRecDepth 100000 in
theorem y_explain (l : Launch) (D : va_G) (cs : Nat → ClassId) (B : Nat) (G : hq_G) (V : hp_V) (n : Nat) (hI : hq_I cs G V) (q : Nat) (mo : Nat) (w : sp_W) (bk : sp_B) (t9 : Nat) (rh : hm_Rh) (m_tp : Int32) (m_sz : Int32) (m_fr : Int32) (m_bh : Int32) (m_hd : Int32) (m_ft : Int32) (m_fa : Int32) (m_le : Int32) (m_fo : Int32) (m_as : Int32) (m_fd : Int32) (m_bc : Int32) (m_bg : Int32) (m_bs : Int32) (m_be : Int32) (m_b0 : Int32) (m_b1 : Int32) (m_cm : Int32) (m_hc : Int32) (c9 : Int) (qq : Int) (os : Int) (oe : Int) (v : Int32) (te : Int32) (pe : Int32) (wf : Nat → Int32) (sf : Nat → Int32) (bf : Nat → Int32) (df : Nat → Int32) (af : Nat → Int32) (ask : List Int) (hc0 : V (mo) = some (.inr (13, hm_o q (m_tp) (m_sz) (m_fr) (m_bh) (m_hd) (m_ft) (m_fa) (m_le) (m_fo) (m_as) (m_fd) (m_bc) (m_bg) (m_bs) (m_be) (m_b0) (m_b1) (m_cm) (m_hc)))) (hc1 : V (q + 21) = some (.inl (cs 0, 276, .inl (wf)))) (hc2 : V (q + 22) = some (.inl (cs 0, 276, .inl (sf)))) (hc3 : V (q + 24) = some (.inl (cs 0, 30, .inl (bf)))) (hc4 : V (q + 23) = some (.inl (cs 3, 60, .inl (df)))) (hc5 : V (q + 37) = some (.inl (cs 0, 4000, .inl (af)))) (hp0 : hm_AR cs V q rh) (hR : hq_RT G q) (hmo : G mo = some (24, 0, 0, 0)) (hmq : mo < q) (hBm : hm_BK rh 0 w bk) (hgd : sp_good w bk) (hgd2 : sp_good2 bk) (hoc : sp_okc w) (ht9 : bk.2.1[v.toNatClampNeg]? = some t9) (hv : 0 ≤ v.toInt) (hask : sp_rp m_as af ask) (has : m_as.toInt ≤ 4000) (hlem : 0 ≤ m_le.toInt ∧ m_le.toInt ≤ 276) (hc9 : (rh 9 (v).toNatClampNeg).toInt = c9) (hos : (sp_nf 0 v.toInt c9 te.toInt pe.toInt bk.2.2.2 0) = os) (hoe : (sp_nf 1 v.toInt c9 te.toInt pe.toInt bk.2.2.2 0) = oe) (hqq : ((sp_nf 4 v.toInt c9 te.toInt pe.toInt bk.2.2.2 0) = -1 ∧ qq = 0) ∨ (¬ (sp_nf 4 v.toInt c9 te.toInt pe.toInt bk.2.2.2 0) = -1 ∧ qq = 1)) : hp_M l yX13_explain cX13_explain 8 none ({ frames := 7, cells := 0, slots := 0, locals := 175 }) D cs B V n [.ref (mo), .int (v), .int (te), .int (pe)] (hp_QV D cs B (fun V' n' => n = n' ∧ hq_P cs G (fun _ => true) V V' ∧ (∀ x, x ≠ mo → x ≠ q + 21 → x ≠ q + 22 → x ≠ q + 24 → x ≠ q + 23 → V' x = V x) ∧ (∃ m_le1 : Int32, ∃ m_bc1 : Int32, ∃ m_bg1 : Int32, ∃ m_bs1 : Int32, ∃ m_be1 : Int32, ∃ m_b01 : Int32, ∃ m_b11 : Int32, ∃ wf1 : Nat → Int32, ∃ sf1 : Nat → Int32, ∃ bf1 : Nat → Int32, ∃ df1 : Nat → Int32, V' (mo) = some (.inr (13, hm_o q (m_tp) (m_sz) (m_fr) (m_bh) (m_hd) (m_ft) (m_fa) (m_le1) (m_fo) (m_as) (m_fd) (m_bc1) (m_bg1) (m_bs1) (m_be1) (m_b01) (m_b11) (m_cm) (m_hc))) ∧ V' (q + 21) = some (.inl (cs 0, 276, .inl (wf1))) ∧ V' (q + 22) = some (.inl (cs 0, 276, .inl (sf1))) ∧ V' (q + 24) = some (.inl (cs 0, 30, .inl (bf1))) ∧ V' (q + 23) = some (.inl (cs 3, 60, .inl (df1))) ∧ ((sp_y6 m_bc1 m_bg1 m_bs1 m_be1 m_b01 m_b11) = sp_tr (sp_M w bk.2.2.2 (sp_U w bk (sp_nm w t9)) ask) (sp_y6 1000 9 m_bs m_be m_b0 m_b1) (sp_wx bk.2.2.2 qq os oe)) ∧ (0 ≤ m_le1.toInt ∧ m_le1.toInt ≤ 276)))) 0 0 := by
  refine hp_walk (R0 := RX13) (by decide) rfl ?_ (Nat.le_of_ble_eq_true rfl)
  intro p e s m below meth c ls hx hb hr hts hown hlocks hin hml hZ hl
  have hP : hq_P cs G (fun _ => true) V V := hq_P.rf hI
  have hl : lv_has ls 8 [(0, .ref (mo)), (1, .int (v)), (2, .int (te)), (3, .int (pe))] := hl
  have hb_m_tp := hq_rng m_tp
  have hb_m_sz := hq_rng m_sz
  have hb_m_fr := hq_rng m_fr
  have hb_m_bh := hq_rng m_bh
  have hb_m_hd := hq_rng m_hd
  have hb_m_ft := hq_rng m_ft
  have hb_m_fa := hq_rng m_fa
  have hb_m_le := hq_rng m_le
  have hb_m_fo := hq_rng m_fo
  have hb_m_as := hq_rng m_as
  have hb_m_fd := hq_rng m_fd
  have hb_m_bc := hq_rng m_bc
  have hb_m_bg := hq_rng m_bg
  have hb_m_bs := hq_rng m_bs
  have hb_m_be := hq_rng m_be
  have hb_m_b0 := hq_rng m_b0
  have hb_m_b1 := hq_rng m_b1
  have hb_m_cm := hq_rng m_cm
  have hb_m_hc := hq_rng m_hc
  have hb_v := hq_rng v
  have hb_te := hq_rng te
  have hb_pe := hq_rng pe
  have hH0 : hm_H rh rh := hm_H.rf
  have hll9 := hBm.2.2.2.2.2.1
  have hlv9 := hBm.2.2.2.1.1
  have hvl := (List.getElem?_eq_some_iff.mp ht9).1
  have hvv : (v.toNatClampNeg : Int) = v.toInt := (hq_nn (by omega)).1.symm
  refine lv_aload_n hx hb dX13_explain_0 rfl (lv_at hl 0 rfl) ?_
  refine lv_iconst (v := 0) hx hb dX13_explain_1 (by decide) ?_
  refine lv_iload_n hx hb dX13_explain_2 rfl (lv_at hl 1 rfl) ?_
  refine lv_iload_n hx hb dX13_explain_3 rfl (lv_at hl 2 rfl) ?_
  refine lv_iload_n hx hb dX13_explain_4 rfl (lv_at hl 3 rfl) ?_
  have hl1 : (0 : Int32).toInt = 0 := by decide
  refine hp_calli (hp_runV (As := [.int (0), .int (v), .int (te), .int (pe)]) (rest := []) hx hb hml hown hts (y_fo l D cs B G V n hP.1 (q) (mo) (w) (bk) (c9) (rh) (m_tp) (m_sz) (m_fr) (m_bh) (m_hd) (m_ft) (m_fa) (m_le) (m_fo) (m_as) (m_fd) (m_bc) (m_bg) (m_bs) (m_be) (m_b0) (m_b1) (m_cm) (m_hc) (0) (v) (te) (pe)  hc0 hp0 hR hmo hBm hgd2 (by decide) (by omega) hc9) hZ hc0 cv_X13_347 rfl rfl ⟨Nat.le_of_ble_eq_true rfl, Nat.le_of_ble_eq_true rfl⟩ rfl hl.1 rfl (Nat.le_of_ble_eq_true rfl) dX13_explain_5 ⟨(Nat.le_of_ble_eq_true rfl), (Nat.le_of_ble_eq_true rfl)⟩) hZ (fun r5 V2 n3 _ _ hw4 hZ => ?_)
  obtain ⟨rfl, rfl, hp8⟩ := hw4
  have b9 := hq_rng r5
  have hf0 := hp8
  have hrg0 := sp_nf_rg (k := 0) (v := v.toInt) (c := c9) (t := te.toInt) (p := pe.toInt) bk.2.2.2 0 (by omega)
  rw [show (0 : Int32).toInt = 0 by decide] at hf0
  have hrh0 : (r5).toInt = -1 ∨ (0 ≤ (r5).toInt ∧ (r5).toInt < (bk.2.2.2.length : Int)) := by rcases hrg0 with g9 | ⟨g8, g9, -⟩ <;> omega
  rw [hos] at hf0 hrg0
  have hstk0 : ∀ x, 0 ≤ (r5).toInt → bk.2.2.2[(r5).toInt.toNat]? = some x → x.1 = 0 := fun x9 h0 hx9 => by rcases hrg0 with g9 | ⟨g8, g9, x8, g7, g6⟩; (· omega); (· rw [show (os - 0).toNat = (r5).toInt.toNat by omega] at g7; cases g7.symm.trans hx9; exact g6.1)
  refine lv_istore (lv' := [(4, .int (r5)), (0, .ref (mo)), (1, .int (v)), (2, .int (te)), (3, .int (pe))]) hx hb dX13_explain_8 hl (by decide) rfl (fun ls hl => ?_)
  refine lv_aload_n hx hb dX13_explain_10 rfl (lv_at hl 1 rfl) ?_
  refine lv_iconst (v := 1) hx hb dX13_explain_11 (by decide) ?_
  refine lv_iload_n hx hb dX13_explain_12 rfl (lv_at hl 2 rfl) ?_
  refine lv_iload_n hx hb dX13_explain_13 rfl (lv_at hl 3 rfl) ?_
  refine lv_iload_n hx hb dX13_explain_14 rfl (lv_at hl 4 rfl) ?_
  have hl10 : (1 : Int32).toInt = 1 := by decide
  refine hp_calli (hp_runV (As := [.int (1), .int (v), .int (te), .int (pe)]) (rest := []) hx hb hml hown hts (y_fo l D cs B G V n hP.1 (q) (mo) (w) (bk) (c9) (rh) (m_tp) (m_sz) (m_fr) (m_bh) (m_hd) (m_ft) (m_fa) (m_le) (m_fo) (m_as) (m_fd) (m_bc) (m_bg) (m_bs) (m_be) (m_b0) (m_b1) (m_cm) (m_hc) (1) (v) (te) (pe)  hc0 hp0 hR hmo hBm hgd2 (by decide) (by omega) hc9) hZ hc0 cv_X13_347 rfl rfl ⟨Nat.le_of_ble_eq_true rfl, Nat.le_of_ble_eq_true rfl⟩ rfl hl.1 rfl (Nat.le_of_ble_eq_true rfl) dX13_explain_15 ⟨(Nat.le_of_ble_eq_true rfl), (Nat.le_of_ble_eq_true rfl)⟩) hZ (fun r14 V11 n12 _ _ hw13 hZ => ?_)
  obtain ⟨rfl, rfl, hp17⟩ := hw13
  have b18 := hq_rng r14
  have hf1 := hp17
  have hrg1 := sp_nf_rg (k := 1) (v := v.toInt) (c := c9) (t := te.toInt) (p := pe.toInt) bk.2.2.2 0 (by omega)
  rw [show (1 : Int32).toInt = 1 by decide] at hf1
  have hrh1 : (r14).toInt = -1 ∨ (0 ≤ (r14).toInt ∧ (r14).toInt < (bk.2.2.2.length : Int)) := by rcases hrg1 with g9 | ⟨g8, g9, -⟩ <;> omega
  rw [hoe] at hf1
  refine lv_istore (lv' := [(5, .int (r14)), (4, .int (r5)), (0, .ref (mo)), (1, .int (v)), (2, .int (te)), (3, .int (pe))]) hx hb dX13_explain_18 hl (by decide) rfl (fun ls hl => ?_)
  refine lv_aload_n hx hb dX13_explain_20 rfl (lv_at hl 2 rfl) ?_
  refine lv_iconst (v := 4) hx hb dX13_explain_21 (by decide) ?_
  refine lv_iload_n hx hb dX13_explain_22 rfl (lv_at hl 3 rfl) ?_
  refine lv_iload_n hx hb dX13_explain_23 rfl (lv_at hl 4 rfl) ?_
  refine lv_iload_n hx hb dX13_explain_24 rfl (lv_at hl 5 rfl) ?_
  have hl19 : (4 : Int32).toInt = 4 := by decide
  refine hp_calli (hp_runV (As := [.int (4), .int (v), .int (te), .int (pe)]) (rest := []) hx hb hml hown hts (y_fo l D cs B G V n hP.1 (q) (mo) (w) (bk) (c9) (rh) (m_tp) (m_sz) (m_fr) (m_bh) (m_hd) (m_ft) (m_fa) (m_le) (m_fo) (m_as) (m_fd) (m_bc) (m_bg) (m_bs) (m_be) (m_b0) (m_b1) (m_cm) (m_hc) (4) (v) (te) (pe)  hc0 hp0 hR hmo hBm hgd2 (by decide) (by omega) hc9) hZ hc0 cv_X13_347 rfl rfl ⟨Nat.le_of_ble_eq_true rfl, Nat.le_of_ble_eq_true rfl⟩ rfl hl.1 rfl (Nat.le_of_ble_eq_true rfl) dX13_explain_25 ⟨(Nat.le_of_ble_eq_true rfl), (Nat.le_of_ble_eq_true rfl)⟩) hZ (fun r23 V20 n21 _ _ hw22 hZ => ?_)
  obtain ⟨rfl, rfl, hp26⟩ := hw22
  have b27 := hq_rng r23
  have hf4 := hp26
  have hrg4 := sp_nf_rg (k := 4) (v := v.toInt) (c := c9) (t := te.toInt) (p := pe.toInt) bk.2.2.2 0 (by omega)
  rw [show (4 : Int32).toInt = 4 by decide] at hf4
  have hrh4 : (r23).toInt = -1 ∨ (0 ≤ (r23).toInt ∧ (r23).toInt < (bk.2.2.2.length : Int)) := by rcases hrg4 with g9 | ⟨g8, g9, -⟩ <;> omega
  refine lv_iconst (v := -1) hx hb dX13_explain_28 (by decide) ?_
  refine lv_icmp_ne (tgt := 36) hx hb dX13_explain_29 (by decide) (fun c28 => ?_) (fun c28 => ?_)
  · have c28 : ¬ (r23).toInt = (-1 : Int) := fun h9 => c28 (hq_eqi.mpr h9)
    have hq1 : qq = 1 := by rcases hqq with g9 | g9 <;> omega
    refine lv_iconst (v := 1) hx hb dX13_explain_36 (by decide) ?_
    refine lv_istore (lv' := [(6, .int (1)), (5, .int (r14)), (4, .int (r5)), (0, .ref (mo)), (1, .int (v)), (2, .int (te)), (3, .int (pe))]) hx hb dX13_explain_37 hl (by decide) rfl (fun ls hl => ?_)
    refine lv_aload_n hx hb dX13_explain_39 rfl (lv_at hl 3 rfl) ?_
    refine lv_sipush (v := 1000) hx hb dX13_explain_40 (by decide) ?_
    refine hp_put hx hb hts hown hZ hc0 fp_X13_413 rfl rfl (Nat.le_of_ble_eq_true rfl) dX13_explain_43 (fun V29 _ _ e30 o31 hZ => ?_)
    have e30 : V29 (mo) = some (.inr (13, hm_o q (m_tp) (m_sz) (m_fr) (m_bh) (m_hd) (m_ft) (m_fa) (m_le) (m_fo) (m_as) (m_fd) (1000) (m_bg) (m_bs) (m_be) (m_b0) (m_b1) (m_cm) (m_hc))) := e30
    have hP := hP.put hmo e30 o31 (trivial) rfl
    refine lv_aload_n hx hb dX13_explain_46 rfl (lv_at hl 3 rfl) ?_
    refine lv_bipush (v := 9) hx hb dX13_explain_47 (by decide) ?_
    refine hp_put hx hb hts hown hZ e30 fp_X13_416 rfl rfl (Nat.le_of_ble_eq_true rfl) dX13_explain_49 (fun V32 _ _ e33 o34 hZ => ?_)
    have e33 : V32 (mo) = some (.inr (13, hm_o q (m_tp) (m_sz) (m_fr) (m_bh) (m_hd) (m_ft) (m_fa) (m_le) (m_fo) (m_as) (m_fd) (1000) (9) (m_bs) (m_be) (m_b0) (m_b1) (m_cm) (m_hc))) := e33
    have hP := hP.put hmo e33 o34 (trivial) rfl
    refine lv_aload_n hx hb dX13_explain_52 rfl (lv_at hl 3 rfl) ?_
    refine lv_iload_n hx hb dX13_explain_53 rfl (lv_at hl 4 rfl) ?_
    refine lv_iload hx hb dX13_explain_54 (lv_at hl 2 rfl) ?_
    refine lv_iload hx hb dX13_explain_56 (lv_at hl 1 rfl) ?_
    refine lv_iconst (v := 2) hx hb dX13_explain_58 (by decide) ?_
    refine lv_iload hx hb dX13_explain_59 (lv_at hl 0 rfl) ?_
    refine lv_imul hx hb dX13_explain_61 ?_
    refine lv_topi (fun y35 ey36 => ?_)
    obtain ⟨k37, hk38, b39, b40⟩ := hq_mul (2) (1)
    rw [← ey36] at hk38 b39 b40
    have hk38 : (y35).toInt = (2 : Int) * (1 : Int) + k37 * 4294967296 := hk38
    obtain rfl : k37 = 0 := by omega
    refine lv_iload hx hb dX13_explain_62 (lv_at hl 0 rfl) ?_
    have fx41 : V32 (q + 21) = some (.inl (cs 0, 276, .inl (wf))) := (o34 (q + 21) (hq_tne (hr_21 hR) hmo (by simp))).trans ((o31 (q + 21) (hq_tne (hr_21 hR) hmo (by simp))).trans (hc1))
    have fx42 : V32 (q + 22) = some (.inl (cs 0, 276, .inl (sf))) := (o34 (q + 22) (hq_tne (hr_22 hR) hmo (by simp))).trans ((o31 (q + 22) (hq_tne (hr_22 hR) hmo (by simp))).trans (hc2))
    have fx43 : V32 (q + 24) = some (.inl (cs 0, 30, .inl (bf))) := (o34 (q + 24) (hq_tne (hr_24 hR) hmo (by simp))).trans ((o31 (q + 24) (hq_tne (hr_24 hR) hmo (by simp))).trans (hc3))
    have fx44 : V32 (q + 23) = some (.inl (cs 3, 60, .inl (df))) := (o34 (q + 23) (hq_tne (hr_23 hR) hmo (by simp))).trans ((o31 (q + 23) (hq_tne (hr_23 hR) hmo (by simp))).trans (hc4))
    have fx45 : V32 (q + 37) = some (.inl (cs 0, 4000, .inl (af))) := (o34 (q + 37) (hq_tne (hr_37 hR) hmo (by simp))).trans ((o31 (q + 37) (hq_tne (hr_37 hR) hmo (by simp))).trans (hc5))
    have hl46 : (1000 : Int32).toInt = 1000 := by decide
    have hl47 : (9 : Int32).toInt = 9 := by decide
    have hl48 : (1 : Int32).toInt = 1 := by decide
    have pk49 := hp0.keep (fun x7 (hx7 : q ≤ x7 ∧ x7 < q + 19) => (o34 x7 (by omega)).trans (o31 x7 (by omega)))
    refine hp_callv (hp_runV (As := [.int (v), .int (r5), .int (r14), .int (y35), .int (1)]) (rest := []) hx hb hml hown hts (y_we l D cs B G V32 n hP.1 (q) (mo) (w) (bk) (t9) (rh) (m_tp) (m_sz) (m_fr) (m_bh) (m_hd) (m_ft) (m_fa) (m_le) (m_fo) (m_as) (m_fd) (1000) (9) (m_bs) (m_be) (m_b0) (m_b1) (m_cm) (m_hc) (v) (r5) (r14) (y35) (1) (wf) (sf) (bf) (df) (af) (ask)  e33 fx41 fx42 fx43 fx44 fx45 pk49 hR hmo hmq hBm hgd hgd2 hoc ht9 hv hask (by omega) (by omega) hrh0 hrh1 hstk0 (by omega) (by omega)) hZ e33 cv_X13_442 rfl rfl ⟨Nat.le_of_ble_eq_true rfl, Nat.le_of_ble_eq_true rfl⟩ rfl hl.1 rfl (Nat.le_of_ble_eq_true rfl) dX13_explain_64 ⟨(Nat.le_of_ble_eq_true rfl), (Nat.le_of_ble_eq_true rfl)⟩) hZ (fun V50 n51 _ _ hw52 hZ => ?_)
    obtain ⟨rfl, hq54, fr55, z56, z57, z58, z59, z60, z61, z62, u63, u64, u65, u66, ho67, ho68, ho69, ho70, ho71, hp72, hp73⟩ := hw52
    have b74 := hq_rng z56
    have b75 := hq_rng z57
    have b76 := hq_rng z58
    have b77 := hq_rng z59
    have b78 := hq_rng z60
    have b79 := hq_rng z61
    have b80 := hq_rng z62
    have hP := hP.trans hq54 (fun _ h => Bool.noConfusion h)
    have hf81 := hq_rg20 hP.1 (hr_21 hR) ho68
    have hf82 := hq_rg20 hP.1 (hr_22 hR) ho69
    have hf83 := hq_rg20 hP.1 (hr_24 hR) ho70
    have b84 := hp73
    have hwe85 := hp72
    rw [show (y35 : Int32).toInt = 2 * qq by omega, show (1 : Int32).toInt = qq by omega, hf1, hf0] at hwe85
    have hmid := sp_wx_1 hwe85
    have fx91 : V50 (q + 37) = some (.inl (cs 0, 4000, .inl (af))) := (fr55 (q + 37) (hq_tne (hr_37 hR) hmo (by simp)) (hq_tne (hr_37 hR) (hr_21 hR) (by simp)) (hq_tne (hr_37 hR) (hr_22 hR) (by simp)) (hq_tne (hr_37 hR) (hr_24 hR) (by simp)) (hq_tne (hr_37 hR) (hr_23 hR) (by simp))).trans (fx45)
    have jn91 : ∀ (V9 : hp_V) (H9 : Heap) (locs9 : List Loc) (ls : Array Slot)  (le7 : Int32) (bc7 : Int32) (bg7 : Int32) (bs7 : Int32) (be7 : Int32) (b07 : Int32) (b17 : Int32) (wf7 : Nat → Int32) (sf7 : Nat → Int32) (bf7 : Nat → Int32) (df7 : Nat → Int32), hp_Z D cs B s V9 H9 n locs9 → hq_P cs G (fun _ => true) V V9 → V9 (mo) = some (.inr (13, hm_o q (m_tp) (m_sz) (m_fr) (m_bh) (m_hd) (m_ft) (m_fa) (le7) (m_fo) (m_as) (m_fd) (bc7) (bg7) (bs7) (be7) (b07) (b17) (m_cm) (m_hc))) → V9 (q + 21) = some (.inl (cs 0, 276, .inl (wf7))) → V9 (q + 22) = some (.inl (cs 0, 276, .inl (sf7))) → V9 (q + 24) = some (.inl (cs 0, 30, .inl (bf7))) → V9 (q + 23) = some (.inl (cs 3, 60, .inl (df7))) → V9 (q + 37) = some (.inl (cs 0, 4000, .inl (af))) → (∀ x, x ≠ mo → x ≠ q + 21 → x ≠ q + 22 → x ≠ q + 24 → x ≠ q + 23 → V9 x = V x) → hm_AR cs V9 q rh → 0 ≤ le7.toInt ∧ le7.toInt ≤ 276 → (sp_tr (sp_M w bk.2.2.2 (sp_U w bk (sp_nm w t9)) ask) (sp_y6 bc7 bg7 bs7 be7 b07 b17) (sp_fl (sp_wxl bk.2.2.2 qq os oe) 0 (bk.2.2.2.length - 0)) = sp_tr (sp_M w bk.2.2.2 (sp_U w bk (sp_nm w t9)) ask) (sp_y6 1000 9 m_bs m_be m_b0 m_b1) (sp_wx bk.2.2.2 qq os oe)) → lv_has ls 8 [(6, .int (1)), (5, .int (r14)), (4, .int (r5)), (0, .ref (mo)), (1, .int (v)), (2, .int (te)), (3, .int (pe))] → W p l e ({ frames := 7, cells := 0, slots := 0, locals := 175 }) s m ([.ref (mo), .int (v), .int (te), .int (pe)] : List Value).toArray below meth c H9 locs9 0 0 (MQ below (hp_QV D cs B (fun V' n' => n = n' ∧ hq_P cs G (fun _ => true) V V' ∧ (∀ x, x ≠ mo → x ≠ q + 21 → x ≠ q + 22 → x ≠ q + 24 → x ≠ q + 23 → V' x = V x) ∧ (∃ m_le1 : Int32, ∃ m_bc1 : Int32, ∃ m_bg1 : Int32, ∃ m_bs1 : Int32, ∃ m_be1 : Int32, ∃ m_b01 : Int32, ∃ m_b11 : Int32, ∃ wf1 : Nat → Int32, ∃ sf1 : Nat → Int32, ∃ bf1 : Nat → Int32, ∃ df1 : Nat → Int32, V' (mo) = some (.inr (13, hm_o q (m_tp) (m_sz) (m_fr) (m_bh) (m_hd) (m_ft) (m_fa) (m_le1) (m_fo) (m_as) (m_fd) (m_bc1) (m_bg1) (m_bs1) (m_be1) (m_b01) (m_b11) (m_cm) (m_hc))) ∧ V' (q + 21) = some (.inl (cs 0, 276, .inl (wf1))) ∧ V' (q + 22) = some (.inl (cs 0, 276, .inl (sf1))) ∧ V' (q + 24) = some (.inl (cs 0, 30, .inl (bf1))) ∧ V' (q + 23) = some (.inl (cs 3, 60, .inl (df1))) ∧ ((sp_y6 m_bc1 m_bg1 m_bs1 m_be1 m_b01 m_b11) = sp_tr (sp_M w bk.2.2.2 (sp_U w bk (sp_nm w t9)) ask) (sp_y6 1000 9 m_bs m_be m_b0 m_b1) (sp_wx bk.2.2.2 qq os oe)) ∧ (0 ≤ m_le1.toInt ∧ m_le1.toInt ≤ 276)))) ([.ref (mo), .int (v), .int (te), .int (pe)] : List Value).toArray s 0 0 (hp_F B)) (F0 m 91 ls []) := by
      intro V9 H9 locs9 ls   le7 bc7 bg7 bs7 be7 b07 b17 wf7 sf7 bf7 df7 hZ hP ho86 ho87 ho88 ho89 ho90 ho92 fr91 pk93 hv94 hj91 hl
      have hb_le7 := hq_rng le7
      have hb_bc7 := hq_rng bc7
      have hb_bg7 := hq_rng bg7
      have hb_bs7 := hq_rng bs7
      have hb_be7 := hq_rng be7
      have hb_b07 := hq_rng b07
      have hb_b17 := hq_rng b17
      have hf95 := hq_rg20 hP.1 (hr_21 hR) ho87
      have hf96 := hq_rg20 hP.1 (hr_22 hR) ho88
      have hf97 := hq_rg20 hP.1 (hr_24 hR) ho89
      have hf98 := hq_rg20 hP.1 (hr_37 hR) ho92
      refine lv_iconst (v := 0) hx hb dX13_explain_91 (by decide) ?_
      refine lv_istore (lv' := [(7, .int (0)), (6, .int (1)), (5, .int (r14)), (4, .int (r5)), (0, .ref (mo)), (1, .int (v)), (2, .int (te)), (3, .int (pe))]) hx hb dX13_explain_92 hl (by decide) rfl (fun ls hl => ?_)
      have hl106 : (0 : Int32).toInt = 0 := by decide
      suffices lp94 : ∀ (k9 : Nat) (V9 : hp_V) (H9 : Heap) (locs9 : List Loc) (ls : Array Slot) (i94 : Int32) (le9 : Int32) (bc9 : Int32) (bg9 : Int32) (bs9 : Int32) (be9 : Int32) (b09 : Int32) (b19 : Int32) (wf9 : Nat → Int32) (sf9 : Nat → Int32) (bf9 : Nat → Int32) (df9 : Nat → Int32), (1000 - i94.toInt).toNat = k9 → hp_Z D cs B s V9 H9 n locs9 → hq_P cs G (fun _ => true) V V9 → V9 (mo) = some (.inr (13, hm_o q (m_tp) (m_sz) (m_fr) (m_bh) (m_hd) (m_ft) (m_fa) (le9) (m_fo) (m_as) (m_fd) (bc9) (bg9) (bs9) (be9) (b09) (b19) (m_cm) (m_hc))) → V9 (q + 21) = some (.inl (cs 0, 276, .inl (wf9))) → V9 (q + 22) = some (.inl (cs 0, 276, .inl (sf9))) → V9 (q + 24) = some (.inl (cs 0, 30, .inl (bf9))) → V9 (q + 23) = some (.inl (cs 3, 60, .inl (df9))) → V9 (q + 37) = some (.inl (cs 0, 4000, .inl (af))) → (∀ x, x ≠ mo → x ≠ q + 21 → x ≠ q + 22 → x ≠ q + 24 → x ≠ q + 23 → V9 x = V x) → hm_AR cs V9 q rh → 0 ≤ i94.toInt → i94.toInt ≤ (bk.2.2.2.length : Int) → 0 ≤ le9.toInt ∧ le9.toInt ≤ 276 → (sp_tr (sp_M w bk.2.2.2 (sp_U w bk (sp_nm w t9)) ask) (sp_y6 bc9 bg9 bs9 be9 b09 b19) (sp_fl (sp_wxl bk.2.2.2 qq os oe) i94.toInt.toNat (bk.2.2.2.length - i94.toInt.toNat)) = sp_tr (sp_M w bk.2.2.2 (sp_U w bk (sp_nm w t9)) ask) (sp_y6 1000 9 m_bs m_be m_b0 m_b1) (sp_wx bk.2.2.2 qq os oe)) → lv_has ls 8 [(7, .int (i94)), (6, .int (1)), (5, .int (r14)), (4, .int (r5)), (0, .ref (mo)), (1, .int (v)), (2, .int (te)), (3, .int (pe))] → W p l e ({ frames := 7, cells := 0, slots := 0, locals := 175 }) s m ([.ref (mo), .int (v), .int (te), .int (pe)] : List Value).toArray below meth c H9 locs9 0 0 (MQ below (hp_QV D cs B (fun V' n' => n = n' ∧ hq_P cs G (fun _ => true) V V' ∧ (∀ x, x ≠ mo → x ≠ q + 21 → x ≠ q + 22 → x ≠ q + 24 → x ≠ q + 23 → V' x = V x) ∧ (∃ m_le1 : Int32, ∃ m_bc1 : Int32, ∃ m_bg1 : Int32, ∃ m_bs1 : Int32, ∃ m_be1 : Int32, ∃ m_b01 : Int32, ∃ m_b11 : Int32, ∃ wf1 : Nat → Int32, ∃ sf1 : Nat → Int32, ∃ bf1 : Nat → Int32, ∃ df1 : Nat → Int32, V' (mo) = some (.inr (13, hm_o q (m_tp) (m_sz) (m_fr) (m_bh) (m_hd) (m_ft) (m_fa) (m_le1) (m_fo) (m_as) (m_fd) (m_bc1) (m_bg1) (m_bs1) (m_be1) (m_b01) (m_b11) (m_cm) (m_hc))) ∧ V' (q + 21) = some (.inl (cs 0, 276, .inl (wf1))) ∧ V' (q + 22) = some (.inl (cs 0, 276, .inl (sf1))) ∧ V' (q + 24) = some (.inl (cs 0, 30, .inl (bf1))) ∧ V' (q + 23) = some (.inl (cs 3, 60, .inl (df1))) ∧ ((sp_y6 m_bc1 m_bg1 m_bs1 m_be1 m_b01 m_b11) = sp_tr (sp_M w bk.2.2.2 (sp_U w bk (sp_nm w t9)) ask) (sp_y6 1000 9 m_bs m_be m_b0 m_b1) (sp_wx bk.2.2.2 qq os oe)) ∧ (0 ≤ m_le1.toInt ∧ m_le1.toInt ≤ 276)))) ([.ref (mo), .int (v), .int (te), .int (pe)] : List Value).toArray s 0 0 (hp_F B)) (F0 m 94 ls []) from lp94 _ _ _ _ ls (0) (le7) (bc7) (bg7) (bs7) (be7) (b07) (b17) (wf7) (sf7) (bf7) (df7) rfl hZ hP ho86 ho87 ho88 ho89 ho90 ho92 (fun x8 hne0 hne1 hne2 hne3 hne4 => fr91 x8 hne0 hne1 hne2 hne3 hne4) pk93 (by omega) (by omega) (by omega) (hj91) (lv_sub hl [0, 1, 2, 3, 4, 5, 6, 7] rfl)
      intro k9
      induction k9 using Nat.strongRecOn with
      | _ k9 ih94 =>
        intro V9 H9 locs9 ls i94  le9 bc9 bg9 bs9 be9 b09 b19 wf9 sf9 bf9 df9 hk94 hZ hP ho99 ho100 ho101 ho102 ho103 ho104 fr94 pk105 hv107 hv108 hv109 htr hl
        have hb_i94 := hq_rng i94
        have hb_le9 := hq_rng le9
        have hb_bc9 := hq_rng bc9
        have hb_bg9 := hq_rng bg9
        have hb_bs9 := hq_rng bs9
        have hb_be9 := hq_rng be9
        have hb_b09 := hq_rng b09
        have hb_b19 := hq_rng b19
        have hf110 := hq_rg20 hP.1 (hr_21 hR) ho100
        have hf111 := hq_rg20 hP.1 (hr_22 hR) ho101
        have hf112 := hq_rg20 hP.1 (hr_24 hR) ho102
        have hf113 := hq_rg20 hP.1 (hr_37 hR) ho104
        refine lv_iload hx hb dX13_explain_94 (lv_at hl 0 rfl) ?_
        refine lv_aload_n hx hb dX13_explain_96 rfl (lv_at hl 4 rfl) ?_
        refine hp_get (v := .ref (q + 2)) hx hb hts hown hZ ho99 fl_X13_10 rfl dX13_explain_97 ?_
        refine lv_iconst (v := 0) hx hb dX13_explain_100 (by decide) ?_
        obtain ⟨rf114, hrf115⟩ : ∃ f : Nat → Int32, f = rh 2 := ⟨_, rfl⟩
        have ea116 : V9 (q + 2) = some (.inl (cs 1, 2, .inl (rf114))) := by rw [hrf115]; exact pk105 2 (by decide)
        have hra117 := hq_rg hP.1 (hr_2 hR) ea116
        refine hp_iald hx hb hZ ea116 (by unfold vp_in; decide) dX13_explain_101 ?_
        refine lv_topi (fun y118 ey119 => ?_)
        have b120 : hq_ir (hq_lo 8) (hq_hi 8) y118 := by rw [ey119]; exact hra117 _ (by decide)
        have b120 : 0 ≤ (y118).toInt ∧ (y118).toInt ≤ 60 := b120
        have b121 : (y118).toInt = (bk.2.2.2.length : Int) := by rw [ey119, hrf115]; exact hBm.2.2.1
        refine lv_icmp_ge (tgt := 147) hx hb dX13_explain_102 (by decide) (fun c122 => ?_) (fun c122 => ?_)
        · have c122 : (y118).toInt ≤ (i94).toInt := hq_lei.mp c122
          exact hp_vret hx hb hr hlocks hZ ⟨rfl, hP, (fun x8 hne0 hne1 hne2 hne3 hne4 => fr94 x8 hne0 hne1 hne2 hne3 hne4), le9, bc9, bg9, bs9, be9, b09, b19, wf9, sf9, bf9, df9, ho99, ho100, ho101, ho102, ho103, sp_wxl_out (by omega) htr, by omega⟩ dX13_explain_147
        · have c122 : ¬ (y118).toInt ≤ (i94).toInt := fun h9 => c122 (hq_lei.mpr h9)
          have hiia : ((i94).toNatClampNeg : Int) = (i94).toInt := (hq_nn (by omega)).1.symm
          obtain ⟨xa, hxa⟩ : ∃ t, bk.2.2.2[(i94).toNatClampNeg]? = some t := ⟨_, List.getElem?_eq_getElem (by omega)⟩
          obtain ⟨hq1a, -, -, -, hq5a, hq6a, hq7a⟩ := hBm.2.2.2.2.2.2 _ _ hxa
          rw [show 60 * 0 + (i94).toNatClampNeg = (i94).toNatClampNeg by omega] at hq1a hq5a hq6a hq7a
          have hFTa : hm_FT rh 14 5 (i94).toNatClampNeg (sp_F w xa) := hq6a.ft
          have hSTa : hm_FT rh 15 6 (i94).toNatClampNeg (sp_S2 w xa) := hq7a.ft
          have hFla := hFTa.1
          have hFma := hFTa.2.1
          have hSla := hSTa.1
          have hSma := hSTa.2.1
          have hkda : sp_kd bk.2.2.2 (i94.toInt.toNat) = xa.1 := sp_kd_i hxa
          refine lv_aload_n hx hb dX13_explain_105 rfl (lv_at hl 4 rfl) ?_
          refine hp_get (v := .ref (q + 10)) hx hb hts hown hZ ho99 fl_X13_29 rfl dX13_explain_106 ?_
          refine lv_iload hx hb dX13_explain_109 (lv_at hl 0 rfl) ?_
          obtain ⟨rf123, hrf124⟩ : ∃ f : Nat → Int32, f = rh 10 := ⟨_, rfl⟩
          have ea125 : V9 (q + 10) = some (.inl (cs 1, 120, .inl (rf123))) := by rw [hrf124]; exact pk105 10 (by decide)
          have hra126 := hq_rg hP.1 (hr_10 hR) ea125
          refine hp_iald hx hb hZ ea125 (hq_in (by omega) (by omega)) dX13_explain_111 ?_
          refine lv_topi (fun y127 ey128 => ?_)
          have b129 := hq_rng y127
          have b130 : (y127).toInt = (rh 10 (i94).toNatClampNeg).toInt := by rw [ey128, hrf124]
          refine lv_if_ne (tgt := 141) hx hb dX13_explain_112 (by decide) (fun c131 => ?_) (fun c131 => ?_)
          · have c131 : ¬ (y127).toInt = (0 : Int) := fun h9 => c131 (hq_eqi.mpr h9)
            obtain ⟨y132, ey133⟩ : ∃ y : Int32, y = i94 + (1) := ⟨_, rfl⟩
            obtain ⟨k134, hk135, b136, b137⟩ := hq_add (i94) (1)
            rw [← ey133] at hk135 b136 b137
            have hk135 : (y132).toInt = (i94).toInt + (1) + k134 * 4294967296 := hk135
            obtain rfl : k134 = 0 := by omega
            refine lv_iinc (v := y132) (lv' := [(7, .int (y132)), (6, .int (1)), (5, .int (r14)), (4, .int (r5)), (0, .ref (mo)), (1, .int (v)), (2, .int (te)), (3, .int (pe))]) hx hb dX13_explain_141 hl (k := 0) rfl (by rw [ey133]; rfl) (by decide) rfl (fun ls hl => ?_)
            refine lv_goto (tgt := 94) hx hb dX13_explain_144 (by decide) ?_
            exact ih94 _ (by omega) _ _ _ ls (y132) (le9) (bc9) (bg9) (bs9) (be9) (b09) (b19) (wf9) (sf9) (bf9) (df9) rfl hZ hP ho99 ho100 ho101 ho102 ho103 ho104 (fun x8 hne0 hne1 hne2 hne3 hne4 => fr94 x8 hne0 hne1 hne2 hne3 hne4) pk105 (by omega) (by omega) (by omega) (by have h9 := sp_wxl_skip (by omega) (by omega) htr; rw [show (y132).toInt.toNat = i94.toInt.toNat + 1 by omega]; exact h9) (lv_sub hl [0, 1, 2, 3, 4, 5, 6, 7] rfl)
          · have c131 : (y127).toInt = (0 : Int) := hq_eqi.mp c131
            refine lv_iload hx hb dX13_explain_115 (lv_at hl 0 rfl) ?_
            refine lv_iload hx hb dX13_explain_117 (lv_at hl 3 rfl) ?_
            refine lv_icmp_eq (tgt := 141) hx hb dX13_explain_119 (by decide) (fun c138 => ?_) (fun c138 => ?_)
            · have c138 : (i94).toInt = (r5).toInt := hq_eqi.mp c138
              obtain ⟨y139, ey140⟩ : ∃ y : Int32, y = i94 + (1) := ⟨_, rfl⟩
              obtain ⟨k141, hk142, b143, b144⟩ := hq_add (i94) (1)
              rw [← ey140] at hk142 b143 b144
              have hk142 : (y139).toInt = (i94).toInt + (1) + k141 * 4294967296 := hk142
              obtain rfl : k141 = 0 := by omega
              refine lv_iinc (v := y139) (lv' := [(7, .int (y139)), (6, .int (1)), (5, .int (r14)), (4, .int (r5)), (0, .ref (mo)), (1, .int (v)), (2, .int (te)), (3, .int (pe))]) hx hb dX13_explain_141 hl (k := 0) rfl (by rw [ey140]; rfl) (by decide) rfl (fun ls hl => ?_)
              refine lv_goto (tgt := 94) hx hb dX13_explain_144 (by decide) ?_
              exact ih94 _ (by omega) _ _ _ ls (y139) (le9) (bc9) (bg9) (bs9) (be9) (b09) (b19) (wf9) (sf9) (bf9) (df9) rfl hZ hP ho99 ho100 ho101 ho102 ho103 ho104 (fun x8 hne0 hne1 hne2 hne3 hne4 => fr94 x8 hne0 hne1 hne2 hne3 hne4) pk105 (by omega) (by omega) (by omega) (by have h9 := sp_wxl_skip (by omega) (by omega) htr; rw [show (y139).toInt.toNat = i94.toInt.toNat + 1 by omega]; exact h9) (lv_sub hl [0, 1, 2, 3, 4, 5, 6, 7] rfl)
            · have c138 : ¬ (i94).toInt = (r5).toInt := fun h9 => c138 (hq_eqi.mpr h9)
              refine lv_aload_n hx hb dX13_explain_122 rfl (lv_at hl 4 rfl) ?_
              refine lv_iload_n hx hb dX13_explain_123 rfl (lv_at hl 5 rfl) ?_
              refine lv_iload hx hb dX13_explain_124 (lv_at hl 0 rfl) ?_
              refine lv_iload hx hb dX13_explain_126 (lv_at hl 2 rfl) ?_
              refine lv_iconst (v := 2) hx hb dX13_explain_128 (by decide) ?_
              refine lv_iload hx hb dX13_explain_129 (lv_at hl 1 rfl) ?_
              refine lv_imul hx hb dX13_explain_131 ?_
              refine lv_topi (fun y145 ey146 => ?_)
              obtain ⟨k147, hk148, b149, b150⟩ := hq_mul (2) (1)
              rw [← ey146] at hk148 b149 b150
              have hk148 : (y145).toInt = (2 : Int) * (1 : Int) + k147 * 4294967296 := hk148
              obtain rfl : k147 = 0 := by omega
              refine lv_iconst (v := 3) hx hb dX13_explain_132 (by decide) ?_
              refine lv_iadd hx hb dX13_explain_133 ?_
              refine lv_topi (fun y151 ey152 => ?_)
              obtain ⟨k153, hk154, b155, b156⟩ := hq_add (y145) (3)
              rw [← ey152] at hk154 b155 b156
              have hk154 : (y151).toInt = (y145).toInt + (3 : Int) + k153 * 4294967296 := hk154
              obtain rfl : k153 = 0 := by omega
              refine lv_iload hx hb dX13_explain_134 (lv_at hl 1 rfl) ?_
              refine lv_iconst (v := 1) hx hb dX13_explain_136 (by decide) ?_
              refine lv_iadd hx hb dX13_explain_137 ?_
              refine lv_topi (fun y157 ey158 => ?_)
              obtain ⟨k159, hk160, b161, b162⟩ := hq_add (1) (1)
              rw [← ey158] at hk160 b161 b162
              have hk160 : (y157).toInt = (1 : Int) + (1 : Int) + k159 * 4294967296 := hk160
              obtain rfl : k159 = 0 := by omega
              refine hp_callv (hp_runV (As := [.int (v), .int (i94), .int (r14), .int (y151), .int (y157)]) (rest := []) hx hb hml hown hts (y_we l D cs B G V9 n hP.1 (q) (mo) (w) (bk) (t9) (rh) (m_tp) (m_sz) (m_fr) (m_bh) (m_hd) (m_ft) (m_fa) (le9) (m_fo) (m_as) (m_fd) (bc9) (bg9) (bs9) (be9) (b09) (b19) (m_cm) (m_hc) (v) (i94) (r14) (y151) (y157) (wf9) (sf9) (bf9) (df9) (af) (ask)  ho99 ho100 ho101 ho102 ho103 ho104 pk105 hR hmo hmq hBm hgd hgd2 hoc ht9 hv hask (by omega) (by omega) (Or.inr (by omega)) hrh1 (fun x9 h0 hx9 => by cases hxa.symm.trans hx9; omega) (by omega) (by omega)) hZ ho99 cv_X13_442 rfl rfl ⟨Nat.le_of_ble_eq_true rfl, Nat.le_of_ble_eq_true rfl⟩ rfl hl.1 rfl (Nat.le_of_ble_eq_true rfl) dX13_explain_138 ⟨(Nat.le_of_ble_eq_true rfl), (Nat.le_of_ble_eq_true rfl)⟩) hZ (fun V163 n164 _ _ hw165 hZ => ?_)
              obtain ⟨rfl, hq167, fr168, z169, z170, z171, z172, z173, z174, z175, u176, u177, u178, u179, ho180, ho181, ho182, ho183, ho184, hp185, hp186⟩ := hw165
              have b187 := hq_rng z169
              have b188 := hq_rng z170
              have b189 := hq_rng z171
              have b190 := hq_rng z172
              have b191 := hq_rng z173
              have b192 := hq_rng z174
              have b193 := hq_rng z175
              have hP := hP.trans hq167 (fun _ h => Bool.noConfusion h)
              have hf194 := hq_rg20 hP.1 (hr_21 hR) ho181
              have hf195 := hq_rg20 hP.1 (hr_22 hR) ho182
              have hf196 := hq_rg20 hP.1 (hr_24 hR) ho183
              have b197 := hp186
              have hwe198 := hp185
              rw [show (y151 : Int32).toInt = 2 * qq + 3 by omega, show (y157 : Int32).toInt = qq + 1 by omega, hf1, show (i94).toInt = (((i94.toInt.toNat : Nat)) : Int) by omega] at hwe198
              obtain ⟨y199, ey200⟩ : ∃ y : Int32, y = i94 + (1) := ⟨_, rfl⟩
              obtain ⟨k201, hk202, b203, b204⟩ := hq_add (i94) (1)
              rw [← ey200] at hk202 b203 b204
              have hk202 : (y199).toInt = (i94).toInt + (1) + k201 * 4294967296 := hk202
              obtain rfl : k201 = 0 := by omega
              refine lv_iinc (v := y199) (lv' := [(7, .int (y199)), (6, .int (1)), (5, .int (r14)), (4, .int (r5)), (0, .ref (mo)), (1, .int (v)), (2, .int (te)), (3, .int (pe))]) hx hb dX13_explain_141 hl (k := 0) rfl (by rw [ey200]; rfl) (by decide) rfl (fun ls hl => ?_)
              refine lv_goto (tgt := 94) hx hb dX13_explain_144 (by decide) ?_
              have fx205 : V163 (q + 37) = some (.inl (cs 0, 4000, .inl (af))) := (fr168 (q + 37) (hq_tne (hr_37 hR) hmo (by simp)) (hq_tne (hr_37 hR) (hr_21 hR) (by simp)) (hq_tne (hr_37 hR) (hr_22 hR) (by simp)) (hq_tne (hr_37 hR) (hr_24 hR) (by simp)) (hq_tne (hr_37 hR) (hr_23 hR) (by simp))).trans (ho104)
              have pk206 := pk105.keep (fun x7 (hx7 : q ≤ x7 ∧ x7 < q + 19) => fr168 x7 (by omega) (by omega) (by omega) (by omega) (by omega))
              exact ih94 _ (by omega) _ _ _ ls (y199) (z169) (z170) (z171) (z172) (z173) (z174) (z175) (u176) (u177) (u178) (u179) rfl hZ hP ho180 ho181 ho182 ho183 ho184 fx205 (fun x8 hne0 hne1 hne2 hne3 hne4 => (fr168 x8 hne0 hne1 hne2 hne3 hne4).trans (fr94 x8 hne0 hne1 hne2 hne3 hne4)) pk206 (by omega) (by omega) (by omega) (by have h9 := sp_wxl_in (by omega) (by omega) htr hwe198; rw [show (y199).toInt.toNat = i94.toInt.toNat + 1 by omega]; exact h9) (lv_sub hl [0, 1, 2, 3, 4, 5, 6, 7] rfl)
    refine lv_iload hx hb dX13_explain_67 (lv_at hl 2 rfl) ?_
    refine lv_iconst (v := -1) hx hb dX13_explain_69 (by decide) ?_
    refine lv_icmp_eq (tgt := 91) hx hb dX13_explain_70 (by decide) (fun c207 => ?_) (fun c207 => ?_)
    · have c207 : (r5).toInt = (-1 : Int) := hq_eqi.mp c207
      have pk208 := pk49.keep (fun x7 (hx7 : q ≤ x7 ∧ x7 < q + 19) => fr55 x7 (by omega) (by omega) (by omega) (by omega) (by omega))
      exact jn91 _ _ _ ls  (z56) (z57) (z58) (z59) (z60) (z61) (z62) (u63) (u64) (u65) (u66) hZ hP ho67 ho68 ho69 ho70 ho71 fx91 (fun x8 hne0 hne1 hne2 hne3 hne4 => (fr55 x8 hne0 hne1 hne2 hne3 hne4).trans ((o34 x8 hne0).trans (o31 x8 hne0))) pk208 (by omega) (sp_wx_3 (by omega) hmid) (lv_sub hl [0, 1, 2, 3, 4, 5, 6] rfl)
    · have c207 : ¬ (r5).toInt = (-1 : Int) := fun h9 => c207 (hq_eqi.mpr h9)
      refine lv_aload_n hx hb dX13_explain_73 rfl (lv_at hl 3 rfl) ?_
      refine lv_iload_n hx hb dX13_explain_74 rfl (lv_at hl 4 rfl) ?_
      refine lv_iconst (v := -1) hx hb dX13_explain_75 (by decide) ?_
      refine lv_iload hx hb dX13_explain_76 (lv_at hl 1 rfl) ?_
      refine lv_iconst (v := 2) hx hb dX13_explain_78 (by decide) ?_
      refine lv_iload hx hb dX13_explain_79 (lv_at hl 0 rfl) ?_
      refine lv_imul hx hb dX13_explain_81 ?_
      refine lv_topi (fun y209 ey210 => ?_)
      obtain ⟨k211, hk212, b213, b214⟩ := hq_mul (2) (1)
      rw [← ey210] at hk212 b213 b214
      have hk212 : (y209).toInt = (2 : Int) * (1 : Int) + k211 * 4294967296 := hk212
      obtain rfl : k211 = 0 := by omega
      refine lv_iconst (v := 2) hx hb dX13_explain_82 (by decide) ?_
      refine lv_iadd hx hb dX13_explain_83 ?_
      refine lv_topi (fun y215 ey216 => ?_)
      obtain ⟨k217, hk218, b219, b220⟩ := hq_add (y209) (2)
      rw [← ey216] at hk218 b219 b220
      have hk218 : (y215).toInt = (y209).toInt + (2 : Int) + k217 * 4294967296 := hk218
      obtain rfl : k217 = 0 := by omega
      refine lv_iload hx hb dX13_explain_84 (lv_at hl 0 rfl) ?_
      refine lv_iconst (v := 1) hx hb dX13_explain_86 (by decide) ?_
      refine lv_iadd hx hb dX13_explain_87 ?_
      refine lv_topi (fun y221 ey222 => ?_)
      obtain ⟨k223, hk224, b225, b226⟩ := hq_add (1) (1)
      rw [← ey222] at hk224 b225 b226
      have hk224 : (y221).toInt = (1 : Int) + (1 : Int) + k223 * 4294967296 := hk224
      obtain rfl : k223 = 0 := by omega
      have hl227 : (-1 : Int32).toInt = -1 := by decide
      have pk228 := pk49.keep (fun x7 (hx7 : q ≤ x7 ∧ x7 < q + 19) => fr55 x7 (by omega) (by omega) (by omega) (by omega) (by omega))
      refine hp_callv (hp_runV (As := [.int (v), .int (-1), .int (r14), .int (y215), .int (y221)]) (rest := []) hx hb hml hown hts (y_we l D cs B G V50 n hP.1 (q) (mo) (w) (bk) (t9) (rh) (m_tp) (m_sz) (m_fr) (m_bh) (m_hd) (m_ft) (m_fa) (z56) (m_fo) (m_as) (m_fd) (z57) (z58) (z59) (z60) (z61) (z62) (m_cm) (m_hc) (v) (-1) (r14) (y215) (y221) (u63) (u64) (u65) (u66) (af) (ask)  ho67 ho68 ho69 ho70 ho71 fx91 pk228 hR hmo hmq hBm hgd hgd2 hoc ht9 hv hask (by omega) (by omega) (Or.inl (by decide)) hrh1 (fun x9 h0 => absurd h0 (by decide)) (by omega) (by omega)) hZ ho67 cv_X13_442 rfl rfl ⟨Nat.le_of_ble_eq_true rfl, Nat.le_of_ble_eq_true rfl⟩ rfl hl.1 rfl (Nat.le_of_ble_eq_true rfl) dX13_explain_88 ⟨(Nat.le_of_ble_eq_true rfl), (Nat.le_of_ble_eq_true rfl)⟩) hZ (fun V229 n230 _ _ hw231 hZ => ?_)
      obtain ⟨rfl, hq233, fr234, z235, z236, z237, z238, z239, z240, z241, u242, u243, u244, u245, ho246, ho247, ho248, ho249, ho250, hp251, hp252⟩ := hw231
      have b253 := hq_rng z235
      have b254 := hq_rng z236
      have b255 := hq_rng z237
      have b256 := hq_rng z238
      have b257 := hq_rng z239
      have b258 := hq_rng z240
      have b259 := hq_rng z241
      have hP := hP.trans hq233 (fun _ h => Bool.noConfusion h)
      have hf260 := hq_rg20 hP.1 (hr_21 hR) ho247
      have hf261 := hq_rg20 hP.1 (hr_22 hR) ho248
      have hf262 := hq_rg20 hP.1 (hr_24 hR) ho249
      have b263 := hp252
      have hwe264 := hp251
      rw [show (y215 : Int32).toInt = 2 * qq + 2 by omega, show (y221 : Int32).toInt = qq + 1 by omega, hf1, show (-1 : Int32).toInt = -1 by decide] at hwe264
      have fx265 : V229 (q + 37) = some (.inl (cs 0, 4000, .inl (af))) := (fr234 (q + 37) (hq_tne (hr_37 hR) hmo (by simp)) (hq_tne (hr_37 hR) (hr_21 hR) (by simp)) (hq_tne (hr_37 hR) (hr_22 hR) (by simp)) (hq_tne (hr_37 hR) (hr_24 hR) (by simp)) (hq_tne (hr_37 hR) (hr_23 hR) (by simp))).trans (fx91)
      have pk266 := pk228.keep (fun x7 (hx7 : q ≤ x7 ∧ x7 < q + 19) => fr234 x7 (by omega) (by omega) (by omega) (by omega) (by omega))
      exact jn91 _ _ _ ls  (z235) (z236) (z237) (z238) (z239) (z240) (z241) (u242) (u243) (u244) (u245) hZ hP ho246 ho247 ho248 ho249 ho250 fx265 (fun x8 hne0 hne1 hne2 hne3 hne4 => (fr234 x8 hne0 hne1 hne2 hne3 hne4).trans ((fr55 x8 hne0 hne1 hne2 hne3 hne4).trans ((o34 x8 hne0).trans (o31 x8 hne0)))) pk266 (by omega) (sp_wx_2 (by omega) hmid hwe264) (lv_sub hl [0, 1, 2, 3, 4, 5, 6] rfl)
  · have c28 : (r23).toInt = (-1 : Int) := hq_eqi.mp c28
    have hq1 : qq = 0 := by rcases hqq with g9 | g9 <;> omega
    refine lv_iconst (v := 0) hx hb dX13_explain_32 (by decide) ?_
    refine lv_goto (tgt := 37) hx hb dX13_explain_33 (by decide) ?_
    refine lv_istore (lv' := [(6, .int (0)), (5, .int (r14)), (4, .int (r5)), (0, .ref (mo)), (1, .int (v)), (2, .int (te)), (3, .int (pe))]) hx hb dX13_explain_37 hl (by decide) rfl (fun ls hl => ?_)
    refine lv_aload_n hx hb dX13_explain_39 rfl (lv_at hl 3 rfl) ?_
    refine lv_sipush (v := 1000) hx hb dX13_explain_40 (by decide) ?_
    refine hp_put hx hb hts hown hZ hc0 fp_X13_413 rfl rfl (Nat.le_of_ble_eq_true rfl) dX13_explain_43 (fun V267 _ _ e268 o269 hZ => ?_)
    have e268 : V267 (mo) = some (.inr (13, hm_o q (m_tp) (m_sz) (m_fr) (m_bh) (m_hd) (m_ft) (m_fa) (m_le) (m_fo) (m_as) (m_fd) (1000) (m_bg) (m_bs) (m_be) (m_b0) (m_b1) (m_cm) (m_hc))) := e268
    have hP := hP.put hmo e268 o269 (trivial) rfl
    refine lv_aload_n hx hb dX13_explain_46 rfl (lv_at hl 3 rfl) ?_
    refine lv_bipush (v := 9) hx hb dX13_explain_47 (by decide) ?_
    refine hp_put hx hb hts hown hZ e268 fp_X13_416 rfl rfl (Nat.le_of_ble_eq_true rfl) dX13_explain_49 (fun V270 _ _ e271 o272 hZ => ?_)
    have e271 : V270 (mo) = some (.inr (13, hm_o q (m_tp) (m_sz) (m_fr) (m_bh) (m_hd) (m_ft) (m_fa) (m_le) (m_fo) (m_as) (m_fd) (1000) (9) (m_bs) (m_be) (m_b0) (m_b1) (m_cm) (m_hc))) := e271
    have hP := hP.put hmo e271 o272 (trivial) rfl
    refine lv_aload_n hx hb dX13_explain_52 rfl (lv_at hl 3 rfl) ?_
    refine lv_iload_n hx hb dX13_explain_53 rfl (lv_at hl 4 rfl) ?_
    refine lv_iload hx hb dX13_explain_54 (lv_at hl 2 rfl) ?_
    refine lv_iload hx hb dX13_explain_56 (lv_at hl 1 rfl) ?_
    refine lv_iconst (v := 2) hx hb dX13_explain_58 (by decide) ?_
    refine lv_iload hx hb dX13_explain_59 (lv_at hl 0 rfl) ?_
    refine lv_imul hx hb dX13_explain_61 ?_
    refine lv_topi (fun y273 ey274 => ?_)
    obtain ⟨k275, hk276, b277, b278⟩ := hq_mul (2) (0)
    rw [← ey274] at hk276 b277 b278
    have hk276 : (y273).toInt = (2 : Int) * (0 : Int) + k275 * 4294967296 := hk276
    obtain rfl : k275 = 0 := by omega
    refine lv_iload hx hb dX13_explain_62 (lv_at hl 0 rfl) ?_
    have fx279 : V270 (q + 21) = some (.inl (cs 0, 276, .inl (wf))) := (o272 (q + 21) (hq_tne (hr_21 hR) hmo (by simp))).trans ((o269 (q + 21) (hq_tne (hr_21 hR) hmo (by simp))).trans (hc1))
    have fx280 : V270 (q + 22) = some (.inl (cs 0, 276, .inl (sf))) := (o272 (q + 22) (hq_tne (hr_22 hR) hmo (by simp))).trans ((o269 (q + 22) (hq_tne (hr_22 hR) hmo (by simp))).trans (hc2))
    have fx281 : V270 (q + 24) = some (.inl (cs 0, 30, .inl (bf))) := (o272 (q + 24) (hq_tne (hr_24 hR) hmo (by simp))).trans ((o269 (q + 24) (hq_tne (hr_24 hR) hmo (by simp))).trans (hc3))
    have fx282 : V270 (q + 23) = some (.inl (cs 3, 60, .inl (df))) := (o272 (q + 23) (hq_tne (hr_23 hR) hmo (by simp))).trans ((o269 (q + 23) (hq_tne (hr_23 hR) hmo (by simp))).trans (hc4))
    have fx283 : V270 (q + 37) = some (.inl (cs 0, 4000, .inl (af))) := (o272 (q + 37) (hq_tne (hr_37 hR) hmo (by simp))).trans ((o269 (q + 37) (hq_tne (hr_37 hR) hmo (by simp))).trans (hc5))
    have hl284 : (1000 : Int32).toInt = 1000 := by decide
    have hl285 : (9 : Int32).toInt = 9 := by decide
    have hl286 : (0 : Int32).toInt = 0 := by decide
    have pk287 := hp0.keep (fun x7 (hx7 : q ≤ x7 ∧ x7 < q + 19) => (o272 x7 (by omega)).trans (o269 x7 (by omega)))
    refine hp_callv (hp_runV (As := [.int (v), .int (r5), .int (r14), .int (y273), .int (0)]) (rest := []) hx hb hml hown hts (y_we l D cs B G V270 n hP.1 (q) (mo) (w) (bk) (t9) (rh) (m_tp) (m_sz) (m_fr) (m_bh) (m_hd) (m_ft) (m_fa) (m_le) (m_fo) (m_as) (m_fd) (1000) (9) (m_bs) (m_be) (m_b0) (m_b1) (m_cm) (m_hc) (v) (r5) (r14) (y273) (0) (wf) (sf) (bf) (df) (af) (ask)  e271 fx279 fx280 fx281 fx282 fx283 pk287 hR hmo hmq hBm hgd hgd2 hoc ht9 hv hask (by omega) (by omega) hrh0 hrh1 hstk0 (by omega) (by omega)) hZ e271 cv_X13_442 rfl rfl ⟨Nat.le_of_ble_eq_true rfl, Nat.le_of_ble_eq_true rfl⟩ rfl hl.1 rfl (Nat.le_of_ble_eq_true rfl) dX13_explain_64 ⟨(Nat.le_of_ble_eq_true rfl), (Nat.le_of_ble_eq_true rfl)⟩) hZ (fun V288 n289 _ _ hw290 hZ => ?_)
    obtain ⟨rfl, hq292, fr293, z294, z295, z296, z297, z298, z299, z300, u301, u302, u303, u304, ho305, ho306, ho307, ho308, ho309, hp310, hp311⟩ := hw290
    have b312 := hq_rng z294
    have b313 := hq_rng z295
    have b314 := hq_rng z296
    have b315 := hq_rng z297
    have b316 := hq_rng z298
    have b317 := hq_rng z299
    have b318 := hq_rng z300
    have hP := hP.trans hq292 (fun _ h => Bool.noConfusion h)
    have hf319 := hq_rg20 hP.1 (hr_21 hR) ho306
    have hf320 := hq_rg20 hP.1 (hr_22 hR) ho307
    have hf321 := hq_rg20 hP.1 (hr_24 hR) ho308
    have b322 := hp311
    have hwe323 := hp310
    rw [show (y273 : Int32).toInt = 2 * qq by omega, show (0 : Int32).toInt = qq by omega, hf1, hf0] at hwe323
    have hmid := sp_wx_1 hwe323
    have fx329 : V288 (q + 37) = some (.inl (cs 0, 4000, .inl (af))) := (fr293 (q + 37) (hq_tne (hr_37 hR) hmo (by simp)) (hq_tne (hr_37 hR) (hr_21 hR) (by simp)) (hq_tne (hr_37 hR) (hr_22 hR) (by simp)) (hq_tne (hr_37 hR) (hr_24 hR) (by simp)) (hq_tne (hr_37 hR) (hr_23 hR) (by simp))).trans (fx283)
    have jn91 : ∀ (V9 : hp_V) (H9 : Heap) (locs9 : List Loc) (ls : Array Slot)  (le7 : Int32) (bc7 : Int32) (bg7 : Int32) (bs7 : Int32) (be7 : Int32) (b07 : Int32) (b17 : Int32) (wf7 : Nat → Int32) (sf7 : Nat → Int32) (bf7 : Nat → Int32) (df7 : Nat → Int32), hp_Z D cs B s V9 H9 n locs9 → hq_P cs G (fun _ => true) V V9 → V9 (mo) = some (.inr (13, hm_o q (m_tp) (m_sz) (m_fr) (m_bh) (m_hd) (m_ft) (m_fa) (le7) (m_fo) (m_as) (m_fd) (bc7) (bg7) (bs7) (be7) (b07) (b17) (m_cm) (m_hc))) → V9 (q + 21) = some (.inl (cs 0, 276, .inl (wf7))) → V9 (q + 22) = some (.inl (cs 0, 276, .inl (sf7))) → V9 (q + 24) = some (.inl (cs 0, 30, .inl (bf7))) → V9 (q + 23) = some (.inl (cs 3, 60, .inl (df7))) → V9 (q + 37) = some (.inl (cs 0, 4000, .inl (af))) → (∀ x, x ≠ mo → x ≠ q + 21 → x ≠ q + 22 → x ≠ q + 24 → x ≠ q + 23 → V9 x = V x) → hm_AR cs V9 q rh → 0 ≤ le7.toInt ∧ le7.toInt ≤ 276 → (sp_tr (sp_M w bk.2.2.2 (sp_U w bk (sp_nm w t9)) ask) (sp_y6 bc7 bg7 bs7 be7 b07 b17) (sp_fl (sp_wxl bk.2.2.2 qq os oe) 0 (bk.2.2.2.length - 0)) = sp_tr (sp_M w bk.2.2.2 (sp_U w bk (sp_nm w t9)) ask) (sp_y6 1000 9 m_bs m_be m_b0 m_b1) (sp_wx bk.2.2.2 qq os oe)) → lv_has ls 8 [(6, .int (0)), (5, .int (r14)), (4, .int (r5)), (0, .ref (mo)), (1, .int (v)), (2, .int (te)), (3, .int (pe))] → W p l e ({ frames := 7, cells := 0, slots := 0, locals := 175 }) s m ([.ref (mo), .int (v), .int (te), .int (pe)] : List Value).toArray below meth c H9 locs9 0 0 (MQ below (hp_QV D cs B (fun V' n' => n = n' ∧ hq_P cs G (fun _ => true) V V' ∧ (∀ x, x ≠ mo → x ≠ q + 21 → x ≠ q + 22 → x ≠ q + 24 → x ≠ q + 23 → V' x = V x) ∧ (∃ m_le1 : Int32, ∃ m_bc1 : Int32, ∃ m_bg1 : Int32, ∃ m_bs1 : Int32, ∃ m_be1 : Int32, ∃ m_b01 : Int32, ∃ m_b11 : Int32, ∃ wf1 : Nat → Int32, ∃ sf1 : Nat → Int32, ∃ bf1 : Nat → Int32, ∃ df1 : Nat → Int32, V' (mo) = some (.inr (13, hm_o q (m_tp) (m_sz) (m_fr) (m_bh) (m_hd) (m_ft) (m_fa) (m_le1) (m_fo) (m_as) (m_fd) (m_bc1) (m_bg1) (m_bs1) (m_be1) (m_b01) (m_b11) (m_cm) (m_hc))) ∧ V' (q + 21) = some (.inl (cs 0, 276, .inl (wf1))) ∧ V' (q + 22) = some (.inl (cs 0, 276, .inl (sf1))) ∧ V' (q + 24) = some (.inl (cs 0, 30, .inl (bf1))) ∧ V' (q + 23) = some (.inl (cs 3, 60, .inl (df1))) ∧ ((sp_y6 m_bc1 m_bg1 m_bs1 m_be1 m_b01 m_b11) = sp_tr (sp_M w bk.2.2.2 (sp_U w bk (sp_nm w t9)) ask) (sp_y6 1000 9 m_bs m_be m_b0 m_b1) (sp_wx bk.2.2.2 qq os oe)) ∧ (0 ≤ m_le1.toInt ∧ m_le1.toInt ≤ 276)))) ([.ref (mo), .int (v), .int (te), .int (pe)] : List Value).toArray s 0 0 (hp_F B)) (F0 m 91 ls []) := by
      intro V9 H9 locs9 ls   le7 bc7 bg7 bs7 be7 b07 b17 wf7 sf7 bf7 df7 hZ hP ho324 ho325 ho326 ho327 ho328 ho330 fr91 pk331 hv332 hj91 hl
      have hb_le7 := hq_rng le7
      have hb_bc7 := hq_rng bc7
      have hb_bg7 := hq_rng bg7
      have hb_bs7 := hq_rng bs7
      have hb_be7 := hq_rng be7
      have hb_b07 := hq_rng b07
      have hb_b17 := hq_rng b17
      have hf333 := hq_rg20 hP.1 (hr_21 hR) ho325
      have hf334 := hq_rg20 hP.1 (hr_22 hR) ho326
      have hf335 := hq_rg20 hP.1 (hr_24 hR) ho327
      have hf336 := hq_rg20 hP.1 (hr_37 hR) ho330
      refine lv_iconst (v := 0) hx hb dX13_explain_91 (by decide) ?_
      refine lv_istore (lv' := [(7, .int (0)), (6, .int (0)), (5, .int (r14)), (4, .int (r5)), (0, .ref (mo)), (1, .int (v)), (2, .int (te)), (3, .int (pe))]) hx hb dX13_explain_92 hl (by decide) rfl (fun ls hl => ?_)
      have hl344 : (0 : Int32).toInt = 0 := by decide
      suffices lp94 : ∀ (k9 : Nat) (V9 : hp_V) (H9 : Heap) (locs9 : List Loc) (ls : Array Slot) (i94 : Int32) (le9 : Int32) (bc9 : Int32) (bg9 : Int32) (bs9 : Int32) (be9 : Int32) (b09 : Int32) (b19 : Int32) (wf9 : Nat → Int32) (sf9 : Nat → Int32) (bf9 : Nat → Int32) (df9 : Nat → Int32), (1000 - i94.toInt).toNat = k9 → hp_Z D cs B s V9 H9 n locs9 → hq_P cs G (fun _ => true) V V9 → V9 (mo) = some (.inr (13, hm_o q (m_tp) (m_sz) (m_fr) (m_bh) (m_hd) (m_ft) (m_fa) (le9) (m_fo) (m_as) (m_fd) (bc9) (bg9) (bs9) (be9) (b09) (b19) (m_cm) (m_hc))) → V9 (q + 21) = some (.inl (cs 0, 276, .inl (wf9))) → V9 (q + 22) = some (.inl (cs 0, 276, .inl (sf9))) → V9 (q + 24) = some (.inl (cs 0, 30, .inl (bf9))) → V9 (q + 23) = some (.inl (cs 3, 60, .inl (df9))) → V9 (q + 37) = some (.inl (cs 0, 4000, .inl (af))) → (∀ x, x ≠ mo → x ≠ q + 21 → x ≠ q + 22 → x ≠ q + 24 → x ≠ q + 23 → V9 x = V x) → hm_AR cs V9 q rh → 0 ≤ i94.toInt → i94.toInt ≤ (bk.2.2.2.length : Int) → 0 ≤ le9.toInt ∧ le9.toInt ≤ 276 → (sp_tr (sp_M w bk.2.2.2 (sp_U w bk (sp_nm w t9)) ask) (sp_y6 bc9 bg9 bs9 be9 b09 b19) (sp_fl (sp_wxl bk.2.2.2 qq os oe) i94.toInt.toNat (bk.2.2.2.length - i94.toInt.toNat)) = sp_tr (sp_M w bk.2.2.2 (sp_U w bk (sp_nm w t9)) ask) (sp_y6 1000 9 m_bs m_be m_b0 m_b1) (sp_wx bk.2.2.2 qq os oe)) → lv_has ls 8 [(7, .int (i94)), (6, .int (0)), (5, .int (r14)), (4, .int (r5)), (0, .ref (mo)), (1, .int (v)), (2, .int (te)), (3, .int (pe))] → W p l e ({ frames := 7, cells := 0, slots := 0, locals := 175 }) s m ([.ref (mo), .int (v), .int (te), .int (pe)] : List Value).toArray below meth c H9 locs9 0 0 (MQ below (hp_QV D cs B (fun V' n' => n = n' ∧ hq_P cs G (fun _ => true) V V' ∧ (∀ x, x ≠ mo → x ≠ q + 21 → x ≠ q + 22 → x ≠ q + 24 → x ≠ q + 23 → V' x = V x) ∧ (∃ m_le1 : Int32, ∃ m_bc1 : Int32, ∃ m_bg1 : Int32, ∃ m_bs1 : Int32, ∃ m_be1 : Int32, ∃ m_b01 : Int32, ∃ m_b11 : Int32, ∃ wf1 : Nat → Int32, ∃ sf1 : Nat → Int32, ∃ bf1 : Nat → Int32, ∃ df1 : Nat → Int32, V' (mo) = some (.inr (13, hm_o q (m_tp) (m_sz) (m_fr) (m_bh) (m_hd) (m_ft) (m_fa) (m_le1) (m_fo) (m_as) (m_fd) (m_bc1) (m_bg1) (m_bs1) (m_be1) (m_b01) (m_b11) (m_cm) (m_hc))) ∧ V' (q + 21) = some (.inl (cs 0, 276, .inl (wf1))) ∧ V' (q + 22) = some (.inl (cs 0, 276, .inl (sf1))) ∧ V' (q + 24) = some (.inl (cs 0, 30, .inl (bf1))) ∧ V' (q + 23) = some (.inl (cs 3, 60, .inl (df1))) ∧ ((sp_y6 m_bc1 m_bg1 m_bs1 m_be1 m_b01 m_b11) = sp_tr (sp_M w bk.2.2.2 (sp_U w bk (sp_nm w t9)) ask) (sp_y6 1000 9 m_bs m_be m_b0 m_b1) (sp_wx bk.2.2.2 qq os oe)) ∧ (0 ≤ m_le1.toInt ∧ m_le1.toInt ≤ 276)))) ([.ref (mo), .int (v), .int (te), .int (pe)] : List Value).toArray s 0 0 (hp_F B)) (F0 m 94 ls []) from lp94 _ _ _ _ ls (0) (le7) (bc7) (bg7) (bs7) (be7) (b07) (b17) (wf7) (sf7) (bf7) (df7) rfl hZ hP ho324 ho325 ho326 ho327 ho328 ho330 (fun x8 hne0 hne1 hne2 hne3 hne4 => fr91 x8 hne0 hne1 hne2 hne3 hne4) pk331 (by omega) (by omega) (by omega) (hj91) (lv_sub hl [0, 1, 2, 3, 4, 5, 6, 7] rfl)
      intro k9
      induction k9 using Nat.strongRecOn with
      | _ k9 ih94 =>
        intro V9 H9 locs9 ls i94  le9 bc9 bg9 bs9 be9 b09 b19 wf9 sf9 bf9 df9 hk94 hZ hP ho337 ho338 ho339 ho340 ho341 ho342 fr94 pk343 hv345 hv346 hv347 htr hl
        have hb_i94 := hq_rng i94
        have hb_le9 := hq_rng le9
        have hb_bc9 := hq_rng bc9
        have hb_bg9 := hq_rng bg9
        have hb_bs9 := hq_rng bs9
        have hb_be9 := hq_rng be9
        have hb_b09 := hq_rng b09
        have hb_b19 := hq_rng b19
        have hf348 := hq_rg20 hP.1 (hr_21 hR) ho338
        have hf349 := hq_rg20 hP.1 (hr_22 hR) ho339
        have hf350 := hq_rg20 hP.1 (hr_24 hR) ho340
        have hf351 := hq_rg20 hP.1 (hr_37 hR) ho342
        refine lv_iload hx hb dX13_explain_94 (lv_at hl 0 rfl) ?_
        refine lv_aload_n hx hb dX13_explain_96 rfl (lv_at hl 4 rfl) ?_
        refine hp_get (v := .ref (q + 2)) hx hb hts hown hZ ho337 fl_X13_10 rfl dX13_explain_97 ?_
        refine lv_iconst (v := 0) hx hb dX13_explain_100 (by decide) ?_
        obtain ⟨rf352, hrf353⟩ : ∃ f : Nat → Int32, f = rh 2 := ⟨_, rfl⟩
        have ea354 : V9 (q + 2) = some (.inl (cs 1, 2, .inl (rf352))) := by rw [hrf353]; exact pk343 2 (by decide)
        have hra355 := hq_rg hP.1 (hr_2 hR) ea354
        refine hp_iald hx hb hZ ea354 (by unfold vp_in; decide) dX13_explain_101 ?_
        refine lv_topi (fun y356 ey357 => ?_)
        have b358 : hq_ir (hq_lo 8) (hq_hi 8) y356 := by rw [ey357]; exact hra355 _ (by decide)
        have b358 : 0 ≤ (y356).toInt ∧ (y356).toInt ≤ 60 := b358
        have b359 : (y356).toInt = (bk.2.2.2.length : Int) := by rw [ey357, hrf353]; exact hBm.2.2.1
        refine lv_icmp_ge (tgt := 147) hx hb dX13_explain_102 (by decide) (fun c360 => ?_) (fun c360 => ?_)
        · have c360 : (y356).toInt ≤ (i94).toInt := hq_lei.mp c360
          exact hp_vret hx hb hr hlocks hZ ⟨rfl, hP, (fun x8 hne0 hne1 hne2 hne3 hne4 => fr94 x8 hne0 hne1 hne2 hne3 hne4), le9, bc9, bg9, bs9, be9, b09, b19, wf9, sf9, bf9, df9, ho337, ho338, ho339, ho340, ho341, sp_wxl_out (by omega) htr, by omega⟩ dX13_explain_147
        · have c360 : ¬ (y356).toInt ≤ (i94).toInt := fun h9 => c360 (hq_lei.mpr h9)
          have hiia : ((i94).toNatClampNeg : Int) = (i94).toInt := (hq_nn (by omega)).1.symm
          obtain ⟨xa, hxa⟩ : ∃ t, bk.2.2.2[(i94).toNatClampNeg]? = some t := ⟨_, List.getElem?_eq_getElem (by omega)⟩
          obtain ⟨hq1a, -, -, -, hq5a, hq6a, hq7a⟩ := hBm.2.2.2.2.2.2 _ _ hxa
          rw [show 60 * 0 + (i94).toNatClampNeg = (i94).toNatClampNeg by omega] at hq1a hq5a hq6a hq7a
          have hFTa : hm_FT rh 14 5 (i94).toNatClampNeg (sp_F w xa) := hq6a.ft
          have hSTa : hm_FT rh 15 6 (i94).toNatClampNeg (sp_S2 w xa) := hq7a.ft
          have hFla := hFTa.1
          have hFma := hFTa.2.1
          have hSla := hSTa.1
          have hSma := hSTa.2.1
          have hkda : sp_kd bk.2.2.2 (i94.toInt.toNat) = xa.1 := sp_kd_i hxa
          refine lv_aload_n hx hb dX13_explain_105 rfl (lv_at hl 4 rfl) ?_
          refine hp_get (v := .ref (q + 10)) hx hb hts hown hZ ho337 fl_X13_29 rfl dX13_explain_106 ?_
          refine lv_iload hx hb dX13_explain_109 (lv_at hl 0 rfl) ?_
          obtain ⟨rf361, hrf362⟩ : ∃ f : Nat → Int32, f = rh 10 := ⟨_, rfl⟩
          have ea363 : V9 (q + 10) = some (.inl (cs 1, 120, .inl (rf361))) := by rw [hrf362]; exact pk343 10 (by decide)
          have hra364 := hq_rg hP.1 (hr_10 hR) ea363
          refine hp_iald hx hb hZ ea363 (hq_in (by omega) (by omega)) dX13_explain_111 ?_
          refine lv_topi (fun y365 ey366 => ?_)
          have b367 := hq_rng y365
          have b368 : (y365).toInt = (rh 10 (i94).toNatClampNeg).toInt := by rw [ey366, hrf362]
          refine lv_if_ne (tgt := 141) hx hb dX13_explain_112 (by decide) (fun c369 => ?_) (fun c369 => ?_)
          · have c369 : ¬ (y365).toInt = (0 : Int) := fun h9 => c369 (hq_eqi.mpr h9)
            obtain ⟨y370, ey371⟩ : ∃ y : Int32, y = i94 + (1) := ⟨_, rfl⟩
            obtain ⟨k372, hk373, b374, b375⟩ := hq_add (i94) (1)
            rw [← ey371] at hk373 b374 b375
            have hk373 : (y370).toInt = (i94).toInt + (1) + k372 * 4294967296 := hk373
            obtain rfl : k372 = 0 := by omega
            refine lv_iinc (v := y370) (lv' := [(7, .int (y370)), (6, .int (0)), (5, .int (r14)), (4, .int (r5)), (0, .ref (mo)), (1, .int (v)), (2, .int (te)), (3, .int (pe))]) hx hb dX13_explain_141 hl (k := 0) rfl (by rw [ey371]; rfl) (by decide) rfl (fun ls hl => ?_)
            refine lv_goto (tgt := 94) hx hb dX13_explain_144 (by decide) ?_
            exact ih94 _ (by omega) _ _ _ ls (y370) (le9) (bc9) (bg9) (bs9) (be9) (b09) (b19) (wf9) (sf9) (bf9) (df9) rfl hZ hP ho337 ho338 ho339 ho340 ho341 ho342 (fun x8 hne0 hne1 hne2 hne3 hne4 => fr94 x8 hne0 hne1 hne2 hne3 hne4) pk343 (by omega) (by omega) (by omega) (by have h9 := sp_wxl_skip (by omega) (by omega) htr; rw [show (y370).toInt.toNat = i94.toInt.toNat + 1 by omega]; exact h9) (lv_sub hl [0, 1, 2, 3, 4, 5, 6, 7] rfl)
          · have c369 : (y365).toInt = (0 : Int) := hq_eqi.mp c369
            refine lv_iload hx hb dX13_explain_115 (lv_at hl 0 rfl) ?_
            refine lv_iload hx hb dX13_explain_117 (lv_at hl 3 rfl) ?_
            refine lv_icmp_eq (tgt := 141) hx hb dX13_explain_119 (by decide) (fun c376 => ?_) (fun c376 => ?_)
            · have c376 : (i94).toInt = (r5).toInt := hq_eqi.mp c376
              obtain ⟨y377, ey378⟩ : ∃ y : Int32, y = i94 + (1) := ⟨_, rfl⟩
              obtain ⟨k379, hk380, b381, b382⟩ := hq_add (i94) (1)
              rw [← ey378] at hk380 b381 b382
              have hk380 : (y377).toInt = (i94).toInt + (1) + k379 * 4294967296 := hk380
              obtain rfl : k379 = 0 := by omega
              refine lv_iinc (v := y377) (lv' := [(7, .int (y377)), (6, .int (0)), (5, .int (r14)), (4, .int (r5)), (0, .ref (mo)), (1, .int (v)), (2, .int (te)), (3, .int (pe))]) hx hb dX13_explain_141 hl (k := 0) rfl (by rw [ey378]; rfl) (by decide) rfl (fun ls hl => ?_)
              refine lv_goto (tgt := 94) hx hb dX13_explain_144 (by decide) ?_
              exact ih94 _ (by omega) _ _ _ ls (y377) (le9) (bc9) (bg9) (bs9) (be9) (b09) (b19) (wf9) (sf9) (bf9) (df9) rfl hZ hP ho337 ho338 ho339 ho340 ho341 ho342 (fun x8 hne0 hne1 hne2 hne3 hne4 => fr94 x8 hne0 hne1 hne2 hne3 hne4) pk343 (by omega) (by omega) (by omega) (by have h9 := sp_wxl_skip (by omega) (by omega) htr; rw [show (y377).toInt.toNat = i94.toInt.toNat + 1 by omega]; exact h9) (lv_sub hl [0, 1, 2, 3, 4, 5, 6, 7] rfl)
            · have c376 : ¬ (i94).toInt = (r5).toInt := fun h9 => c376 (hq_eqi.mpr h9)
              refine lv_aload_n hx hb dX13_explain_122 rfl (lv_at hl 4 rfl) ?_
              refine lv_iload_n hx hb dX13_explain_123 rfl (lv_at hl 5 rfl) ?_
              refine lv_iload hx hb dX13_explain_124 (lv_at hl 0 rfl) ?_
              refine lv_iload hx hb dX13_explain_126 (lv_at hl 2 rfl) ?_
              refine lv_iconst (v := 2) hx hb dX13_explain_128 (by decide) ?_
              refine lv_iload hx hb dX13_explain_129 (lv_at hl 1 rfl) ?_
              refine lv_imul hx hb dX13_explain_131 ?_
              refine lv_topi (fun y383 ey384 => ?_)
              obtain ⟨k385, hk386, b387, b388⟩ := hq_mul (2) (0)
              rw [← ey384] at hk386 b387 b388
              have hk386 : (y383).toInt = (2 : Int) * (0 : Int) + k385 * 4294967296 := hk386
              obtain rfl : k385 = 0 := by omega
              refine lv_iconst (v := 3) hx hb dX13_explain_132 (by decide) ?_
              refine lv_iadd hx hb dX13_explain_133 ?_
              refine lv_topi (fun y389 ey390 => ?_)
              obtain ⟨k391, hk392, b393, b394⟩ := hq_add (y383) (3)
              rw [← ey390] at hk392 b393 b394
              have hk392 : (y389).toInt = (y383).toInt + (3 : Int) + k391 * 4294967296 := hk392
              obtain rfl : k391 = 0 := by omega
              refine lv_iload hx hb dX13_explain_134 (lv_at hl 1 rfl) ?_
              refine lv_iconst (v := 1) hx hb dX13_explain_136 (by decide) ?_
              refine lv_iadd hx hb dX13_explain_137 ?_
              refine lv_topi (fun y395 ey396 => ?_)
              obtain ⟨k397, hk398, b399, b400⟩ := hq_add (0) (1)
              rw [← ey396] at hk398 b399 b400
              have hk398 : (y395).toInt = (0 : Int) + (1 : Int) + k397 * 4294967296 := hk398
              obtain rfl : k397 = 0 := by omega
              refine hp_callv (hp_runV (As := [.int (v), .int (i94), .int (r14), .int (y389), .int (y395)]) (rest := []) hx hb hml hown hts (y_we l D cs B G V9 n hP.1 (q) (mo) (w) (bk) (t9) (rh) (m_tp) (m_sz) (m_fr) (m_bh) (m_hd) (m_ft) (m_fa) (le9) (m_fo) (m_as) (m_fd) (bc9) (bg9) (bs9) (be9) (b09) (b19) (m_cm) (m_hc) (v) (i94) (r14) (y389) (y395) (wf9) (sf9) (bf9) (df9) (af) (ask)  ho337 ho338 ho339 ho340 ho341 ho342 pk343 hR hmo hmq hBm hgd hgd2 hoc ht9 hv hask (by omega) (by omega) (Or.inr (by omega)) hrh1 (fun x9 h0 hx9 => by cases hxa.symm.trans hx9; omega) (by omega) (by omega)) hZ ho337 cv_X13_442 rfl rfl ⟨Nat.le_of_ble_eq_true rfl, Nat.le_of_ble_eq_true rfl⟩ rfl hl.1 rfl (Nat.le_of_ble_eq_true rfl) dX13_explain_138 ⟨(Nat.le_of_ble_eq_true rfl), (Nat.le_of_ble_eq_true rfl)⟩) hZ (fun V401 n402 _ _ hw403 hZ => ?_)
              obtain ⟨rfl, hq405, fr406, z407, z408, z409, z410, z411, z412, z413, u414, u415, u416, u417, ho418, ho419, ho420, ho421, ho422, hp423, hp424⟩ := hw403
              have b425 := hq_rng z407
              have b426 := hq_rng z408
              have b427 := hq_rng z409
              have b428 := hq_rng z410
              have b429 := hq_rng z411
              have b430 := hq_rng z412
              have b431 := hq_rng z413
              have hP := hP.trans hq405 (fun _ h => Bool.noConfusion h)
              have hf432 := hq_rg20 hP.1 (hr_21 hR) ho419
              have hf433 := hq_rg20 hP.1 (hr_22 hR) ho420
              have hf434 := hq_rg20 hP.1 (hr_24 hR) ho421
              have b435 := hp424
              have hwe436 := hp423
              rw [show (y389 : Int32).toInt = 2 * qq + 3 by omega, show (y395 : Int32).toInt = qq + 1 by omega, hf1, show (i94).toInt = (((i94.toInt.toNat : Nat)) : Int) by omega] at hwe436
              obtain ⟨y437, ey438⟩ : ∃ y : Int32, y = i94 + (1) := ⟨_, rfl⟩
              obtain ⟨k439, hk440, b441, b442⟩ := hq_add (i94) (1)
              rw [← ey438] at hk440 b441 b442
              have hk440 : (y437).toInt = (i94).toInt + (1) + k439 * 4294967296 := hk440
              obtain rfl : k439 = 0 := by omega
              refine lv_iinc (v := y437) (lv' := [(7, .int (y437)), (6, .int (0)), (5, .int (r14)), (4, .int (r5)), (0, .ref (mo)), (1, .int (v)), (2, .int (te)), (3, .int (pe))]) hx hb dX13_explain_141 hl (k := 0) rfl (by rw [ey438]; rfl) (by decide) rfl (fun ls hl => ?_)
              refine lv_goto (tgt := 94) hx hb dX13_explain_144 (by decide) ?_
              have fx443 : V401 (q + 37) = some (.inl (cs 0, 4000, .inl (af))) := (fr406 (q + 37) (hq_tne (hr_37 hR) hmo (by simp)) (hq_tne (hr_37 hR) (hr_21 hR) (by simp)) (hq_tne (hr_37 hR) (hr_22 hR) (by simp)) (hq_tne (hr_37 hR) (hr_24 hR) (by simp)) (hq_tne (hr_37 hR) (hr_23 hR) (by simp))).trans (ho342)
              have pk444 := pk343.keep (fun x7 (hx7 : q ≤ x7 ∧ x7 < q + 19) => fr406 x7 (by omega) (by omega) (by omega) (by omega) (by omega))
              exact ih94 _ (by omega) _ _ _ ls (y437) (z407) (z408) (z409) (z410) (z411) (z412) (z413) (u414) (u415) (u416) (u417) rfl hZ hP ho418 ho419 ho420 ho421 ho422 fx443 (fun x8 hne0 hne1 hne2 hne3 hne4 => (fr406 x8 hne0 hne1 hne2 hne3 hne4).trans (fr94 x8 hne0 hne1 hne2 hne3 hne4)) pk444 (by omega) (by omega) (by omega) (by have h9 := sp_wxl_in (by omega) (by omega) htr hwe436; rw [show (y437).toInt.toNat = i94.toInt.toNat + 1 by omega]; exact h9) (lv_sub hl [0, 1, 2, 3, 4, 5, 6, 7] rfl)
    refine lv_iload hx hb dX13_explain_67 (lv_at hl 2 rfl) ?_
    refine lv_iconst (v := -1) hx hb dX13_explain_69 (by decide) ?_
    refine lv_icmp_eq (tgt := 91) hx hb dX13_explain_70 (by decide) (fun c445 => ?_) (fun c445 => ?_)
    · have c445 : (r5).toInt = (-1 : Int) := hq_eqi.mp c445
      have pk446 := pk287.keep (fun x7 (hx7 : q ≤ x7 ∧ x7 < q + 19) => fr293 x7 (by omega) (by omega) (by omega) (by omega) (by omega))
      exact jn91 _ _ _ ls  (z294) (z295) (z296) (z297) (z298) (z299) (z300) (u301) (u302) (u303) (u304) hZ hP ho305 ho306 ho307 ho308 ho309 fx329 (fun x8 hne0 hne1 hne2 hne3 hne4 => (fr293 x8 hne0 hne1 hne2 hne3 hne4).trans ((o272 x8 hne0).trans (o269 x8 hne0))) pk446 (by omega) (sp_wx_3 (by omega) hmid) (lv_sub hl [0, 1, 2, 3, 4, 5, 6] rfl)
    · have c445 : ¬ (r5).toInt = (-1 : Int) := fun h9 => c445 (hq_eqi.mpr h9)
      refine lv_aload_n hx hb dX13_explain_73 rfl (lv_at hl 3 rfl) ?_
      refine lv_iload_n hx hb dX13_explain_74 rfl (lv_at hl 4 rfl) ?_
      refine lv_iconst (v := -1) hx hb dX13_explain_75 (by decide) ?_
      refine lv_iload hx hb dX13_explain_76 (lv_at hl 1 rfl) ?_
      refine lv_iconst (v := 2) hx hb dX13_explain_78 (by decide) ?_
      refine lv_iload hx hb dX13_explain_79 (lv_at hl 0 rfl) ?_
      refine lv_imul hx hb dX13_explain_81 ?_
      refine lv_topi (fun y447 ey448 => ?_)
      obtain ⟨k449, hk450, b451, b452⟩ := hq_mul (2) (0)
      rw [← ey448] at hk450 b451 b452
      have hk450 : (y447).toInt = (2 : Int) * (0 : Int) + k449 * 4294967296 := hk450
      obtain rfl : k449 = 0 := by omega
      refine lv_iconst (v := 2) hx hb dX13_explain_82 (by decide) ?_
      refine lv_iadd hx hb dX13_explain_83 ?_
      refine lv_topi (fun y453 ey454 => ?_)
      obtain ⟨k455, hk456, b457, b458⟩ := hq_add (y447) (2)
      rw [← ey454] at hk456 b457 b458
      have hk456 : (y453).toInt = (y447).toInt + (2 : Int) + k455 * 4294967296 := hk456
      obtain rfl : k455 = 0 := by omega
      refine lv_iload hx hb dX13_explain_84 (lv_at hl 0 rfl) ?_
      refine lv_iconst (v := 1) hx hb dX13_explain_86 (by decide) ?_
      refine lv_iadd hx hb dX13_explain_87 ?_
      refine lv_topi (fun y459 ey460 => ?_)
      obtain ⟨k461, hk462, b463, b464⟩ := hq_add (0) (1)
      rw [← ey460] at hk462 b463 b464
      have hk462 : (y459).toInt = (0 : Int) + (1 : Int) + k461 * 4294967296 := hk462
      obtain rfl : k461 = 0 := by omega
      have hl465 : (-1 : Int32).toInt = -1 := by decide
      have pk466 := pk287.keep (fun x7 (hx7 : q ≤ x7 ∧ x7 < q + 19) => fr293 x7 (by omega) (by omega) (by omega) (by omega) (by omega))
      refine hp_callv (hp_runV (As := [.int (v), .int (-1), .int (r14), .int (y453), .int (y459)]) (rest := []) hx hb hml hown hts (y_we l D cs B G V288 n hP.1 (q) (mo) (w) (bk) (t9) (rh) (m_tp) (m_sz) (m_fr) (m_bh) (m_hd) (m_ft) (m_fa) (z294) (m_fo) (m_as) (m_fd) (z295) (z296) (z297) (z298) (z299) (z300) (m_cm) (m_hc) (v) (-1) (r14) (y453) (y459) (u301) (u302) (u303) (u304) (af) (ask)  ho305 ho306 ho307 ho308 ho309 fx329 pk466 hR hmo hmq hBm hgd hgd2 hoc ht9 hv hask (by omega) (by omega) (Or.inl (by decide)) hrh1 (fun x9 h0 => absurd h0 (by decide)) (by omega) (by omega)) hZ ho305 cv_X13_442 rfl rfl ⟨Nat.le_of_ble_eq_true rfl, Nat.le_of_ble_eq_true rfl⟩ rfl hl.1 rfl (Nat.le_of_ble_eq_true rfl) dX13_explain_88 ⟨(Nat.le_of_ble_eq_true rfl), (Nat.le_of_ble_eq_true rfl)⟩) hZ (fun V467 n468 _ _ hw469 hZ => ?_)
      obtain ⟨rfl, hq471, fr472, z473, z474, z475, z476, z477, z478, z479, u480, u481, u482, u483, ho484, ho485, ho486, ho487, ho488, hp489, hp490⟩ := hw469
      have b491 := hq_rng z473
      have b492 := hq_rng z474
      have b493 := hq_rng z475
      have b494 := hq_rng z476
      have b495 := hq_rng z477
      have b496 := hq_rng z478
      have b497 := hq_rng z479
      have hP := hP.trans hq471 (fun _ h => Bool.noConfusion h)
      have hf498 := hq_rg20 hP.1 (hr_21 hR) ho485
      have hf499 := hq_rg20 hP.1 (hr_22 hR) ho486
      have hf500 := hq_rg20 hP.1 (hr_24 hR) ho487
      have b501 := hp490
      have hwe502 := hp489
      rw [show (y453 : Int32).toInt = 2 * qq + 2 by omega, show (y459 : Int32).toInt = qq + 1 by omega, hf1, show (-1 : Int32).toInt = -1 by decide] at hwe502
      have fx503 : V467 (q + 37) = some (.inl (cs 0, 4000, .inl (af))) := (fr472 (q + 37) (hq_tne (hr_37 hR) hmo (by simp)) (hq_tne (hr_37 hR) (hr_21 hR) (by simp)) (hq_tne (hr_37 hR) (hr_22 hR) (by simp)) (hq_tne (hr_37 hR) (hr_24 hR) (by simp)) (hq_tne (hr_37 hR) (hr_23 hR) (by simp))).trans (fx329)
      have pk504 := pk466.keep (fun x7 (hx7 : q ≤ x7 ∧ x7 < q + 19) => fr472 x7 (by omega) (by omega) (by omega) (by omega) (by omega))
      exact jn91 _ _ _ ls  (z473) (z474) (z475) (z476) (z477) (z478) (z479) (u480) (u481) (u482) (u483) hZ hP ho484 ho485 ho486 ho487 ho488 fx503 (fun x8 hne0 hne1 hne2 hne3 hne4 => (fr472 x8 hne0 hne1 hne2 hne3 hne4).trans ((fr293 x8 hne0 hne1 hne2 hne3 hne4).trans ((o272 x8 hne0).trans (o269 x8 hne0)))) pk504 (by omega) (sp_wx_2 (by omega) hmid hwe502) (lv_sub hl [0, 1, 2, 3, 4, 5, 6] rfl)

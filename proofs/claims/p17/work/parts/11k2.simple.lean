theorem hm_fi {r : Int} {n : Nat} (h : r = -1 ∨ (0 ≤ r ∧ r < (n : Int))) (h2 : ¬ r = -1) (h3 : n ≤ 60) : 0 ≤ r ∧ r < 60 := by omega
set_option maxHeartbeats 4000000 in
set_option maxRecDepth 100000 in
theorem y_simple (l : Launch) (D : va_G) (cs : Nat → ClassId) (B : Nat) (G : hq_G) (V : hp_V) (n : Nat) (hI : hq_I cs G V) (q : Nat) (mo : Nat) (w : sp_W) (bk : sp_B) (t9 : Nat) (rh : hm_Rh) (m_tp : Int32) (m_sz : Int32) (m_fr : Int32) (m_bh : Int32) (m_hd : Int32) (m_ft : Int32) (m_fa : Int32) (m_le : Int32) (m_fo : Int32) (m_as : Int32) (m_fd : Int32) (m_bc : Int32) (m_bg : Int32) (m_bs : Int32) (m_be : Int32) (m_b0 : Int32) (m_b1 : Int32) (m_cm : Int32) (m_hc : Int32) (c9 : Int) (v : Int32) (te : Int32) (pe : Int32) (wf : Nat → Int32) (sf : Nat → Int32) (bf : Nat → Int32) (df : Nat → Int32) (ft : Nat → Int32) (fs : Nat → Int32) (rwf : Nat → Int32) (rs : Nat → Int32) (hc0 : V (mo) = some (.inr (13, hm_o q (m_tp) (m_sz) (m_fr) (m_bh) (m_hd) (m_ft) (m_fa) (m_le) (m_fo) (m_as) (m_fd) (m_bc) (m_bg) (m_bs) (m_be) (m_b0) (m_b1) (m_cm) (m_hc)))) (hc1 : V (q + 21) = some (.inl (cs 0, 276, .inl (wf)))) (hc2 : V (q + 22) = some (.inl (cs 0, 276, .inl (sf)))) (hc3 : V (q + 24) = some (.inl (cs 0, 30, .inl (bf)))) (hc4 : V (q + 23) = some (.inl (cs 3, 60, .inl (df)))) (hc5 : V (q + 25) = some (.inl (cs 0, 244, .inl (ft)))) (hc6 : V (q + 28) = some (.inl (cs 1, 4, .inl (fs)))) (hc7 : V (q + 29) = some (.inl (cs 1, 560, .inl (rwf)))) (hc8 : V (q + 30) = some (.inl (cs 1, 4, .inl (rs)))) (hp0 : hm_AR cs V q rh) (hR : hq_RT G q) (hmo : G mo = some (24, 0, 0, 0)) (hmq : mo < q) (hBm : hm_BK rh 0 w bk) (hgd : sp_good w bk) (hgd2 : sp_good2 bk) (hoc : sp_okc w) (ht9 : bk.2.1[v.toNatClampNeg]? = some t9) (hv : 0 ≤ v.toInt) (hc9 : (rh 9 (v).toNatClampNeg).toInt = c9) (hlem : 0 ≤ m_le.toInt ∧ m_le.toInt ≤ 276) : hp_M l yX13_simple cX13_simple 7 none ({ frames := 4, cells := 0, slots := 0, locals := 95 }) D cs B V n [.ref (mo), .int (v), .int (te), .int (pe)] (hp_QV D cs B (fun V' n' => n = n' ∧ hq_P cs G (fun _ => true) V V' ∧ (∀ x, x ≠ mo → x ≠ q + 21 → x ≠ q + 22 → x ≠ q + 24 → x ≠ q + 23 → x ≠ q + 25 → x ≠ q + 28 → x ≠ q + 29 → x ≠ q + 30 → V' x = V x) ∧ (∃ m_le1 : Int32, ∃ m_fo1 : Int32, ∃ wf1 : Nat → Int32, ∃ sf1 : Nat → Int32, ∃ bf1 : Nat → Int32, ∃ df1 : Nat → Int32, ∃ ft1 : Nat → Int32, ∃ fs1 : Nat → Int32, ∃ rw1 : Nat → Int32, ∃ rs1 : Nat → Int32, ∃ L : List (List Int), V' (mo) = some (.inr (13, hm_o q (m_tp) (m_sz) (m_fr) (m_bh) (m_hd) (m_ft) (m_fa) (m_le1) (m_fo1) (m_as) (m_fd) (m_bc) (m_bg) (m_bs) (m_be) (m_b0) (m_b1) (m_cm) (m_hc))) ∧ V' (q + 21) = some (.inl (cs 0, 276, .inl (wf1))) ∧ V' (q + 22) = some (.inl (cs 0, 276, .inl (sf1))) ∧ V' (q + 24) = some (.inl (cs 0, 30, .inl (bf1))) ∧ V' (q + 23) = some (.inl (cs 3, 60, .inl (df1))) ∧ V' (q + 25) = some (.inl (cs 0, 244, .inl (ft1))) ∧ V' (q + 28) = some (.inl (cs 1, 4, .inl (fs1))) ∧ V' (q + 29) = some (.inl (cs 1, 560, .inl (rw1))) ∧ V' (q + 30) = some (.inl (cs 1, 4, .inl (rs1))) ∧ (sp_fo m_fo1 fs1 ft1 L) ∧ (sp_FM (sp_nf 5 v.toInt c9 te.toInt pe.toInt bk.2.2.2 0) (sp_nf 1 v.toInt c9 te.toInt pe.toInt bk.2.2.2 0) (sp_ex w v.toInt c9 te.toInt pe.toInt bk.2.2.2 2) (sp_sa w (-1) (-1) bk.2.2.2 0 (sp_U w bk (sp_nm w t9) (sp_nf 0 v.toInt c9 te.toInt pe.toInt bk.2.2.2 0) (sp_nf 1 v.toInt c9 te.toInt pe.toInt bk.2.2.2 0))) L) ∧ ((0 ≤ m_le1.toInt ∧ m_le1.toInt ≤ 276) ∧ (0 ≤ m_fo1.toInt ∧ m_fo1.toInt ≤ 2))))) 0 0 := by
  refine hp_walk (R0 := RX13) (by decide) rfl ?_ (Nat.le_of_ble_eq_true rfl)
  intro p e s m below meth c ls hx hb hr hts hown hlocks hin hml hZ hl
  have hP : hq_P cs G (fun _ => true) V V := hq_P.rf hI
  have hl : lv_has ls 7 [(0, .ref (mo)), (1, .int (v)), (2, .int (te)), (3, .int (pe))] := hl
  have hb_m_tp := hq_rng m_tp
  have hb_m_sz := hq_rng m_sz
  have hb_m_fr := hq_rng m_fr
  have hb_m_bh := hq_rng m_bh
  have hb_m_hd := hq_rng m_hd
  have hb_m_ft := hq_rng m_ft
  have hb_m_fa := hq_rng m_fa
  have hb_m_le := hq_rng m_le
  have hb_m_fo := hq_rng m_fo
  have hb_m_as := hq_rng m_as
  have hb_m_fd := hq_rng m_fd
  have hb_m_bc := hq_rng m_bc
  have hb_m_bg := hq_rng m_bg
  have hb_m_bs := hq_rng m_bs
  have hb_m_be := hq_rng m_be
  have hb_m_b0 := hq_rng m_b0
  have hb_m_b1 := hq_rng m_b1
  have hb_m_cm := hq_rng m_cm
  have hb_m_hc := hq_rng m_hc
  have hb_v := hq_rng v
  have hb_te := hq_rng te
  have hb_pe := hq_rng pe
  have hH0 : hm_H rh rh := hm_H.rf
  have hf1 := hq_rg20 hI (hr_25 hR) hc5
  have hf2 := hq_rg hI (hr_28 hR) hc6
  have hf3 := hq_rg hI (hr_29 hR) hc7
  have hf4 := hq_rg hI (hr_30 hR) hc8
  have hll9 := hBm.2.2.2.2.2.1
  have hlv9 := hBm.2.2.2.1.1
  have hvl := (List.getElem?_eq_some_iff.mp ht9).1
  have hvv : (v.toNatClampNeg : Int) = v.toInt := (hq_nn (by omega)).1.symm
  have ht9l : (sp_nm w t9).length ≤ 12 := by have h9 := (hBm.2.2.2.1.2 _ _ ht9).2.1; have h8 := sp_nm_len h9.1; omega
  refine lv_aload_n hx hb dX13_simple_0 rfl (lv_at hl 0 rfl) ?_
  refine lv_iconst (v := 0) hx hb dX13_simple_1 (by decide) ?_
  refine hp_put hx hb hts hown hZ hc0 fp_X13_344 rfl rfl (Nat.le_of_ble_eq_true rfl) dX13_simple_2 (fun V5 _ _ e6 o7 hZ => ?_)
  have e6 : V5 (mo) = some (.inr (13, hm_o q (m_tp) (m_sz) (m_fr) (m_bh) (m_hd) (m_ft) (m_fa) (m_le) (0) (m_as) (m_fd) (m_bc) (m_bg) (m_bs) (m_be) (m_b0) (m_b1) (m_cm) (m_hc))) := e6
  have hP := hP.put hmo e6 o7 (trivial) rfl
  refine lv_aload_n hx hb dX13_simple_5 rfl (lv_at hl 0 rfl) ?_
  refine lv_iconst (v := 5) hx hb dX13_simple_6 (by decide) ?_
  refine lv_iload_n hx hb dX13_simple_7 rfl (lv_at hl 1 rfl) ?_
  refine lv_iload_n hx hb dX13_simple_8 rfl (lv_at hl 2 rfl) ?_
  refine lv_iload_n hx hb dX13_simple_9 rfl (lv_at hl 3 rfl) ?_
  have hl8 : (0 : Int32).toInt = 0 := by decide
  have hl9 : (5 : Int32).toInt = 5 := by decide
  have pk10 := hp0.keep (fun x7 (hx7 : q ≤ x7 ∧ x7 < q + 19) => o7 x7 (by omega))
  refine hp_calli (hp_runV (As := [.int (5), .int (v), .int (te), .int (pe)]) (rest := []) hx hb hml hown hts (y_fo l D cs B G V5 n hP.1 (q) (mo) (w) (bk) (c9) (rh) (m_tp) (m_sz) (m_fr) (m_bh) (m_hd) (m_ft) (m_fa) (m_le) (0) (m_as) (m_fd) (m_bc) (m_bg) (m_bs) (m_be) (m_b0) (m_b1) (m_cm) (m_hc) (5) (v) (te) (pe)  e6 pk10 hR hmo hBm hgd2 (by decide) (by omega) hc9) hZ e6 cv_X13_347 rfl rfl ⟨Nat.le_of_ble_eq_true rfl, Nat.le_of_ble_eq_true rfl⟩ rfl hl.1 rfl (Nat.le_of_ble_eq_true rfl) dX13_simple_10 ⟨(Nat.le_of_ble_eq_true rfl), (Nat.le_of_ble_eq_true rfl)⟩) hZ (fun r14 V11 n12 _ _ hw13 hZ => ?_)
  obtain ⟨rfl, rfl, hp17⟩ := hw13
  have b18 := hq_rng r14
  have hf5 := hp17
  rw [show (5 : Int32).toInt = 5 by decide] at hf5
  have hrg5 := sp_nf_rg (k := 5) (v := v.toInt) (c := c9) (t := te.toInt) (p := pe.toInt) bk.2.2.2 0 (by omega)
  have hrh5 : (r14).toInt = -1 ∨ (0 ≤ (r14).toInt ∧ (r14).toInt < (bk.2.2.2.length : Int)) := by rcases hrg5 with g9 | ⟨g8, g9, -⟩ <;> omega
  refine lv_iconst (v := -1) hx hb dX13_simple_13 (by decide) ?_
  refine lv_icmp_eq (tgt := 18) hx hb dX13_simple_14 (by decide) (fun c19 => ?_) (fun c19 => ?_)
  · have c19 : (r14).toInt = (-1 : Int) := hq_eqi.mp c19
    refine lv_iconst (v := 0) hx hb dX13_simple_18 (by decide) ?_
    refine lv_istore (lv' := [(4, .int (0)), (0, .ref (mo)), (1, .int (v)), (2, .int (te)), (3, .int (pe))]) hx hb dX13_simple_19 hl (by decide) rfl (fun ls hl => ?_)
    have fx21 : V5 (q + 21) = some (.inl (cs 0, 276, .inl (wf))) := (o7 (q + 21) (hq_tne (hr_21 hR) hmo (by simp))).trans (hc1)
    have fx23 : V5 (q + 22) = some (.inl (cs 0, 276, .inl (sf))) := (o7 (q + 22) (hq_tne (hr_22 hR) hmo (by simp))).trans (hc2)
    have fx25 : V5 (q + 24) = some (.inl (cs 0, 30, .inl (bf))) := (o7 (q + 24) (hq_tne (hr_24 hR) hmo (by simp))).trans (hc3)
    have fx27 : V5 (q + 23) = some (.inl (cs 3, 60, .inl (df))) := (o7 (q + 23) (hq_tne (hr_23 hR) hmo (by simp))).trans (hc4)
    have fx29 : V5 (q + 25) = some (.inl (cs 0, 244, .inl (ft))) := (o7 (q + 25) (hq_tne (hr_25 hR) hmo (by simp))).trans (hc5)
    have fx31 : V5 (q + 28) = some (.inl (cs 1, 4, .inl (fs))) := (o7 (q + 28) (hq_tne (hr_28 hR) hmo (by simp))).trans (hc6)
    have fx33 : V5 (q + 29) = some (.inl (cs 1, 560, .inl (rwf))) := (o7 (q + 29) (hq_tne (hr_29 hR) hmo (by simp))).trans (hc7)
    have fx35 : V5 (q + 30) = some (.inl (cs 1, 4, .inl (rs))) := (o7 (q + 30) (hq_tne (hr_30 hR) hmo (by simp))).trans (hc8)
    have hl38 : (0 : Int32).toInt = 0 := by decide
    have hl39 : (0 : Int32).toInt = 0 := by decide
    suffices lp21 : ∀ (k9 : Nat) (V9 : hp_V) (H9 : Heap) (locs9 : List Loc) (ls : Array Slot) (i21 : Int32) (L21 : List (List Int)) (fo21 : Int32) (ft21 : Nat → Int32) (fs21 : Nat → Int32) (rw21 : Nat → Int32) (rs21 : Nat → Int32), (1000 - i21.toInt).toNat = k9 → hp_Z D cs B s V9 H9 n locs9 → hq_P cs G (fun _ => true) V V9 → V9 (mo) = some (.inr (13, hm_o q (m_tp) (m_sz) (m_fr) (m_bh) (m_hd) (m_ft) (m_fa) (m_le) (fo21) (m_as) (m_fd) (m_bc) (m_bg) (m_bs) (m_be) (m_b0) (m_b1) (m_cm) (m_hc))) → V9 (q + 21) = some (.inl (cs 0, 276, .inl (wf))) → V9 (q + 22) = some (.inl (cs 0, 276, .inl (sf))) → V9 (q + 24) = some (.inl (cs 0, 30, .inl (bf))) → V9 (q + 23) = some (.inl (cs 3, 60, .inl (df))) → V9 (q + 25) = some (.inl (cs 0, 244, .inl (ft21))) → V9 (q + 28) = some (.inl (cs 1, 4, .inl (fs21))) → V9 (q + 29) = some (.inl (cs 1, 560, .inl (rw21))) → V9 (q + 30) = some (.inl (cs 1, 4, .inl (rs21))) → (∀ x, x ≠ mo → x ≠ q + 21 → x ≠ q + 22 → x ≠ q + 24 → x ≠ q + 23 → x ≠ q + 25 → x ≠ q + 28 → x ≠ q + 29 → x ≠ q + 30 → V9 x = V x) → hm_AR cs V9 q rh → 0 ≤ i21.toInt → i21.toInt ≤ (bk.2.2.2.length : Int) → (L21.length ≤ 2) → (sp_fo fo21 fs21 ft21 L21) → (L21 ++ sp_ex w v.toInt c9 te.toInt pe.toInt (bk.2.2.2.drop i21.toInt.toNat) (2 - L21.length) = (sp_ex w v.toInt c9 te.toInt pe.toInt bk.2.2.2 2)) → lv_has ls 7 [(4, .int (i21)), (0, .ref (mo)), (1, .int (v)), (2, .int (te)), (3, .int (pe))] → W p l e ({ frames := 4, cells := 0, slots := 0, locals := 95 }) s m ([.ref (mo), .int (v), .int (te), .int (pe)] : List Value).toArray below meth c H9 locs9 0 0 (MQ below (hp_QV D cs B (fun V' n' => n = n' ∧ hq_P cs G (fun _ => true) V V' ∧ (∀ x, x ≠ mo → x ≠ q + 21 → x ≠ q + 22 → x ≠ q + 24 → x ≠ q + 23 → x ≠ q + 25 → x ≠ q + 28 → x ≠ q + 29 → x ≠ q + 30 → V' x = V x) ∧ (∃ m_le1 : Int32, ∃ m_fo1 : Int32, ∃ wf1 : Nat → Int32, ∃ sf1 : Nat → Int32, ∃ bf1 : Nat → Int32, ∃ df1 : Nat → Int32, ∃ ft1 : Nat → Int32, ∃ fs1 : Nat → Int32, ∃ rw1 : Nat → Int32, ∃ rs1 : Nat → Int32, ∃ L : List (List Int), V' (mo) = some (.inr (13, hm_o q (m_tp) (m_sz) (m_fr) (m_bh) (m_hd) (m_ft) (m_fa) (m_le1) (m_fo1) (m_as) (m_fd) (m_bc) (m_bg) (m_bs) (m_be) (m_b0) (m_b1) (m_cm) (m_hc))) ∧ V' (q + 21) = some (.inl (cs 0, 276, .inl (wf1))) ∧ V' (q + 22) = some (.inl (cs 0, 276, .inl (sf1))) ∧ V' (q + 24) = some (.inl (cs 0, 30, .inl (bf1))) ∧ V' (q + 23) = some (.inl (cs 3, 60, .inl (df1))) ∧ V' (q + 25) = some (.inl (cs 0, 244, .inl (ft1))) ∧ V' (q + 28) = some (.inl (cs 1, 4, .inl (fs1))) ∧ V' (q + 29) = some (.inl (cs 1, 560, .inl (rw1))) ∧ V' (q + 30) = some (.inl (cs 1, 4, .inl (rs1))) ∧ (sp_fo m_fo1 fs1 ft1 L) ∧ (sp_FM (sp_nf 5 v.toInt c9 te.toInt pe.toInt bk.2.2.2 0) (sp_nf 1 v.toInt c9 te.toInt pe.toInt bk.2.2.2 0) (sp_ex w v.toInt c9 te.toInt pe.toInt bk.2.2.2 2) (sp_sa w (-1) (-1) bk.2.2.2 0 (sp_U w bk (sp_nm w t9) (sp_nf 0 v.toInt c9 te.toInt pe.toInt bk.2.2.2 0) (sp_nf 1 v.toInt c9 te.toInt pe.toInt bk.2.2.2 0))) L) ∧ ((0 ≤ m_le1.toInt ∧ m_le1.toInt ≤ 276) ∧ (0 ≤ m_fo1.toInt ∧ m_fo1.toInt ≤ 2))))) ([.ref (mo), .int (v), .int (te), .int (pe)] : List Value).toArray s 0 0 (hp_F B)) (F0 m 21 ls []) from lp21 _ _ _ _ ls (0) ([]) (0) (ft) (fs) (rwf) (rs) rfl hZ hP e6 fx21 fx23 fx25 fx27 fx29 fx31 fx33 fx35 (fun x8 hne0 hne1 hne2 hne3 hne4 hne5 hne6 hne7 hne8 => o7 x8 hne0) pk10 (by omega) (by omega) (Nat.zero_le _) (sp_fo.nil) (by rw [List.nil_append]; rfl) (lv_sub hl [0, 1, 2, 3, 4] rfl)
    intro k9
    induction k9 using Nat.strongRecOn with
    | _ k9 ih21 =>
      intro V9 H9 locs9 ls i21 L21 fo21 ft21 fs21 rw21 rs21 hk21 hZ hP ho20 ho22 ho24 ho26 ho28 ho30 ho32 ho34 ho36 fr21 pk37 hv40 hv41 hL2l hL21 hE21 hl
      have hb_i21 := hq_rng i21
      have hb_fo21 := hq_rng fo21
      have hf42 := hq_rg20 hP.1 (hr_21 hR) ho22
      have hf43 := hq_rg20 hP.1 (hr_22 hR) ho24
      have hf44 := hq_rg20 hP.1 (hr_24 hR) ho26
      have hf45 := hq_rg20 hP.1 (hr_25 hR) ho30
      have hf46 := hq_rg hP.1 (hr_28 hR) ho32
      have hf47 := hq_rg hP.1 (hr_29 hR) ho34
      have hf48 := hq_rg hP.1 (hr_30 hR) ho36
      have hL211 := hL21.1
      have hfo9 : 0 ≤ fo21.toInt ∧ fo21.toInt ≤ 3 := by omega
      refine lv_iload hx hb dX13_simple_21 (lv_at hl 0 rfl) ?_
      have jn130 : ∀ (V9 : hp_V) (H9 : Heap) (locs9 : List Loc) (ls : Array Slot) , hp_Z D cs B s V9 H9 n locs9 → hq_P cs G (fun _ => true) V V9 → V9 (mo) = some (.inr (13, hm_o q (m_tp) (m_sz) (m_fr) (m_bh) (m_hd) (m_ft) (m_fa) (m_le) (fo21) (m_as) (m_fd) (m_bc) (m_bg) (m_bs) (m_be) (m_b0) (m_b1) (m_cm) (m_hc))) → V9 (q + 21) = some (.inl (cs 0, 276, .inl (wf))) → V9 (q + 22) = some (.inl (cs 0, 276, .inl (sf))) → V9 (q + 24) = some (.inl (cs 0, 30, .inl (bf))) → V9 (q + 23) = some (.inl (cs 3, 60, .inl (df))) → V9 (q + 25) = some (.inl (cs 0, 244, .inl (ft21))) → V9 (q + 28) = some (.inl (cs 1, 4, .inl (fs21))) → V9 (q + 29) = some (.inl (cs 1, 560, .inl (rw21))) → V9 (q + 30) = some (.inl (cs 1, 4, .inl (rs21))) → (∀ x, x ≠ mo → x ≠ q + 21 → x ≠ q + 22 → x ≠ q + 24 → x ≠ q + 23 → x ≠ q + 25 → x ≠ q + 28 → x ≠ q + 29 → x ≠ q + 30 → V9 x = V x) → hm_AR cs V9 q rh → (L21 = (sp_ex w v.toInt c9 te.toInt pe.toInt bk.2.2.2 2)) → lv_has ls 7 [(0, .ref (mo)), (1, .int (v)), (2, .int (te)), (3, .int (pe))] → W p l e ({ frames := 4, cells := 0, slots := 0, locals := 95 }) s m ([.ref (mo), .int (v), .int (te), .int (pe)] : List Value).toArray below meth c H9 locs9 0 0 (MQ below (hp_QV D cs B (fun V' n' => n = n' ∧ hq_P cs G (fun _ => true) V V' ∧ (∀ x, x ≠ mo → x ≠ q + 21 → x ≠ q + 22 → x ≠ q + 24 → x ≠ q + 23 → x ≠ q + 25 → x ≠ q + 28 → x ≠ q + 29 → x ≠ q + 30 → V' x = V x) ∧ (∃ m_le1 : Int32, ∃ m_fo1 : Int32, ∃ wf1 : Nat → Int32, ∃ sf1 : Nat → Int32, ∃ bf1 : Nat → Int32, ∃ df1 : Nat → Int32, ∃ ft1 : Nat → Int32, ∃ fs1 : Nat → Int32, ∃ rw1 : Nat → Int32, ∃ rs1 : Nat → Int32, ∃ L : List (List Int), V' (mo) = some (.inr (13, hm_o q (m_tp) (m_sz) (m_fr) (m_bh) (m_hd) (m_ft) (m_fa) (m_le1) (m_fo1) (m_as) (m_fd) (m_bc) (m_bg) (m_bs) (m_be) (m_b0) (m_b1) (m_cm) (m_hc))) ∧ V' (q + 21) = some (.inl (cs 0, 276, .inl (wf1))) ∧ V' (q + 22) = some (.inl (cs 0, 276, .inl (sf1))) ∧ V' (q + 24) = some (.inl (cs 0, 30, .inl (bf1))) ∧ V' (q + 23) = some (.inl (cs 3, 60, .inl (df1))) ∧ V' (q + 25) = some (.inl (cs 0, 244, .inl (ft1))) ∧ V' (q + 28) = some (.inl (cs 1, 4, .inl (fs1))) ∧ V' (q + 29) = some (.inl (cs 1, 560, .inl (rw1))) ∧ V' (q + 30) = some (.inl (cs 1, 4, .inl (rs1))) ∧ (sp_fo m_fo1 fs1 ft1 L) ∧ (sp_FM (sp_nf 5 v.toInt c9 te.toInt pe.toInt bk.2.2.2 0) (sp_nf 1 v.toInt c9 te.toInt pe.toInt bk.2.2.2 0) (sp_ex w v.toInt c9 te.toInt pe.toInt bk.2.2.2 2) (sp_sa w (-1) (-1) bk.2.2.2 0 (sp_U w bk (sp_nm w t9) (sp_nf 0 v.toInt c9 te.toInt pe.toInt bk.2.2.2 0) (sp_nf 1 v.toInt c9 te.toInt pe.toInt bk.2.2.2 0))) L) ∧ ((0 ≤ m_le1.toInt ∧ m_le1.toInt ≤ 276) ∧ (0 ≤ m_fo1.toInt ∧ m_fo1.toInt ≤ 2))))) ([.ref (mo), .int (v), .int (te), .int (pe)] : List Value).toArray s 0 0 (hp_F B)) (F0 m 130 ls []) := by
        intro V9 H9 locs9 ls    hZ hP ho49 ho50 ho51 ho52 ho53 ho54 ho55 ho56 ho57 fr130 pk58 hEE hl
        have hf59 := hq_rg20 hP.1 (hr_21 hR) ho50
        have hf60 := hq_rg20 hP.1 (hr_22 hR) ho51
        have hf61 := hq_rg20 hP.1 (hr_24 hR) ho52
        have hf62 := hq_rg20 hP.1 (hr_25 hR) ho54
        have hf63 := hq_rg hP.1 (hr_28 hR) ho55
        have hf64 := hq_rg hP.1 (hr_29 hR) ho56
        have hf65 := hq_rg hP.1 (hr_30 hR) ho57
        refine lv_aload_n hx hb dX13_simple_130 rfl (lv_at hl 0 rfl) ?_
        refine lv_iconst (v := 1) hx hb dX13_simple_131 (by decide) ?_
        refine lv_iload_n hx hb dX13_simple_132 rfl (lv_at hl 1 rfl) ?_
        refine lv_iload_n hx hb dX13_simple_133 rfl (lv_at hl 2 rfl) ?_
        refine lv_iload_n hx hb dX13_simple_134 rfl (lv_at hl 3 rfl) ?_
        have hl66 : (1 : Int32).toInt = 1 := by decide
        refine hp_calli (hp_runV (As := [.int (1), .int (v), .int (te), .int (pe)]) (rest := []) hx hb hml hown hts (y_fo l D cs B G V9 n hP.1 (q) (mo) (w) (bk) (c9) (rh) (m_tp) (m_sz) (m_fr) (m_bh) (m_hd) (m_ft) (m_fa) (m_le) (fo21) (m_as) (m_fd) (m_bc) (m_bg) (m_bs) (m_be) (m_b0) (m_b1) (m_cm) (m_hc) (1) (v) (te) (pe)  ho49 pk58 hR hmo hBm hgd2 (by decide) (by omega) hc9) hZ ho49 cv_X13_347 rfl rfl ⟨Nat.le_of_ble_eq_true rfl, Nat.le_of_ble_eq_true rfl⟩ rfl hl.1 rfl (Nat.le_of_ble_eq_true rfl) dX13_simple_135 ⟨(Nat.le_of_ble_eq_true rfl), (Nat.le_of_ble_eq_true rfl)⟩) hZ (fun r70 V67 n68 _ _ hw69 hZ => ?_)
        obtain ⟨rfl, rfl, hp73⟩ := hw69
        have b74 := hq_rng r70
        have hf1 := hp73
        rw [show (1 : Int32).toInt = 1 by decide] at hf1
        have hrg1 := sp_nf_rg (k := 1) (v := v.toInt) (c := c9) (t := te.toInt) (p := pe.toInt) bk.2.2.2 0 (by omega)
        have hrh1 : (r70).toInt = -1 ∨ (0 ≤ (r70).toInt ∧ (r70).toInt < (bk.2.2.2.length : Int)) := by rcases hrg1 with g9 | ⟨g8, g9, -⟩ <;> omega
        refine lv_istore (lv' := [(4, .int (r70)), (0, .ref (mo)), (1, .int (v)), (2, .int (te)), (3, .int (pe))]) hx hb dX13_simple_138 hl (by decide) rfl (fun ls hl => ?_)
        refine lv_aload_n hx hb dX13_simple_140 rfl (lv_at hl 1 rfl) ?_
        refine lv_iconst (v := 0) hx hb dX13_simple_141 (by decide) ?_
        refine lv_iload_n hx hb dX13_simple_142 rfl (lv_at hl 2 rfl) ?_
        refine lv_iload_n hx hb dX13_simple_143 rfl (lv_at hl 3 rfl) ?_
        refine lv_iload_n hx hb dX13_simple_144 rfl (lv_at hl 4 rfl) ?_
        have hl75 : (0 : Int32).toInt = 0 := by decide
        refine hp_calli (hp_runV (As := [.int (0), .int (v), .int (te), .int (pe)]) (rest := []) hx hb hml hown hts (y_fo l D cs B G V9 n hP.1 (q) (mo) (w) (bk) (c9) (rh) (m_tp) (m_sz) (m_fr) (m_bh) (m_hd) (m_ft) (m_fa) (m_le) (fo21) (m_as) (m_fd) (m_bc) (m_bg) (m_bs) (m_be) (m_b0) (m_b1) (m_cm) (m_hc) (0) (v) (te) (pe)  ho49 pk58 hR hmo hBm hgd2 (by decide) (by omega) hc9) hZ ho49 cv_X13_347 rfl rfl ⟨Nat.le_of_ble_eq_true rfl, Nat.le_of_ble_eq_true rfl⟩ rfl hl.1 rfl (Nat.le_of_ble_eq_true rfl) dX13_simple_145 ⟨(Nat.le_of_ble_eq_true rfl), (Nat.le_of_ble_eq_true rfl)⟩) hZ (fun r79 V76 n77 _ _ hw78 hZ => ?_)
        obtain ⟨rfl, rfl, hp82⟩ := hw78
        have b83 := hq_rng r79
        have hf0 := hp82
        rw [show (0 : Int32).toInt = 0 by decide] at hf0
        have hrg0 := sp_nf_rg (k := 0) (v := v.toInt) (c := c9) (t := te.toInt) (p := pe.toInt) bk.2.2.2 0 (by omega)
        have hrh0 : (r79).toInt = -1 ∨ (0 ≤ (r79).toInt ∧ (r79).toInt < (bk.2.2.2.length : Int)) := by rcases hrg0 with g9 | ⟨g8, g9, -⟩ <;> omega
        have hstk0 : ∀ x, 0 ≤ (r79).toInt → bk.2.2.2[(r79).toInt.toNat]? = some x → x.1 = 0 := fun x9 h0 hx9 => by rcases hrg0 with g9 | ⟨g8, g9, x8, g7, g6⟩; (· omega); (· rw [show ((sp_nf 0 v.toInt c9 te.toInt pe.toInt bk.2.2.2 0) - 0).toNat = (r79).toInt.toNat by omega] at g7; cases g7.symm.trans hx9; exact g6.1)
        refine lv_istore (lv' := [(5, .int (r79)), (4, .int (r70)), (0, .ref (mo)), (1, .int (v)), (2, .int (te)), (3, .int (pe))]) hx hb dX13_simple_148 hl (by decide) rfl (fun ls hl => ?_)
        refine lv_aload_n hx hb dX13_simple_150 rfl (lv_at hl 2 rfl) ?_
        refine hp_get (v := .int (fo21)) hx hb hts hown hZ ho49 fl_X13_344 rfl dX13_simple_151 ?_
        refine lv_if_gt (tgt := 177) hx hb dX13_simple_154 (by decide) (fun c84 => ?_) (fun c84 => ?_)
        · have c84 : (0 : Int) < (fo21).toInt := hq_lti.mp c84
          exact hp_vret hx hb hr hlocks hZ ⟨rfl, hP, (fun x8 hne0 hne1 hne2 hne3 hne4 hne5 hne6 hne7 hne8 => fr130 x8 hne0 hne1 hne2 hne3 hne4 hne5 hne6 hne7 hne8), m_le, fo21, wf, sf, bf, df, ft21, fs21, rw21, rs21, L21, ho49, ho50, ho51, ho52, ho53, ho54, ho55, ho56, ho57, hL21, (by rcases Classical.em (L21.length = 0) with c9 | c9; (· exact Or.inr (Or.inr (Or.inl ⟨by omega, (by rw [← hEE]; exact List.eq_nil_of_length_eq_zero (by omega)), by omega, (List.eq_nil_of_length_eq_zero (by omega))⟩))); (· exact Or.inr (Or.inl ⟨by omega, (fun g9 => by have h9 := congrArg List.length (hEE.trans g9); simp only [List.length_nil] at h9; omega), hEE⟩))), by omega⟩ dX13_simple_177
        · have c84 : ¬ (0 : Int) < (fo21).toInt := fun h9 => c84 (hq_lti.mpr h9)
          refine lv_iload hx hb dX13_simple_157 (lv_at hl 1 rfl) ?_
          refine lv_iconst (v := -1) hx hb dX13_simple_159 (by decide) ?_
          refine lv_icmp_eq (tgt := 177) hx hb dX13_simple_160 (by decide) (fun c85 => ?_) (fun c85 => ?_)
          · have c85 : (r70).toInt = (-1 : Int) := hq_eqi.mp c85
            exact hp_vret hx hb hr hlocks hZ ⟨rfl, hP, (fun x8 hne0 hne1 hne2 hne3 hne4 hne5 hne6 hne7 hne8 => fr130 x8 hne0 hne1 hne2 hne3 hne4 hne5 hne6 hne7 hne8), m_le, fo21, wf, sf, bf, df, ft21, fs21, rw21, rs21, L21, ho49, ho50, ho51, ho52, ho53, ho54, ho55, ho56, ho57, hL21, (by rcases Classical.em (L21.length = 0) with c9 | c9; (· exact Or.inr (Or.inr (Or.inl ⟨by omega, (by rw [← hEE]; exact List.eq_nil_of_length_eq_zero (by omega)), by omega, (List.eq_nil_of_length_eq_zero (by omega))⟩))); (· exact Or.inr (Or.inl ⟨by omega, (fun g9 => by have h9 := congrArg List.length (hEE.trans g9); simp only [List.length_nil] at h9; omega), hEE⟩))), by omega⟩ dX13_simple_177
          · have c85 : ¬ (r70).toInt = (-1 : Int) := fun h9 => c85 (hq_eqi.mpr h9)
            refine lv_aload_n hx hb dX13_simple_163 rfl (lv_at hl 2 rfl) ?_
            refine lv_iload_n hx hb dX13_simple_164 rfl (lv_at hl 3 rfl) ?_
            refine lv_iload hx hb dX13_simple_165 (lv_at hl 0 rfl) ?_
            refine lv_iload hx hb dX13_simple_167 (lv_at hl 1 rfl) ?_
            refine lv_iconst (v := -1) hx hb dX13_simple_169 (by decide) ?_
            refine lv_iconst (v := -1) hx hb dX13_simple_170 (by decide) ?_
            have hl86 : (-1 : Int32).toInt = -1 := by decide
            have hl87 : (-1 : Int32).toInt = -1 := by decide
            refine hp_calli (hp_runV (As := [.int (v), .int (r79), .int (r70), .int (-1), .int (-1)]) (rest := []) hx hb hml hown hts (y_make l D cs B G V9 n hP.1 (q) (mo) (w) (bk) (t9) (rh) (m_tp) (m_sz) (m_fr) (m_bh) (m_hd) (m_ft) (m_fa) (m_le) (fo21) (m_as) (m_fd) (m_bc) (m_bg) (m_bs) (m_be) (m_b0) (m_b1) (m_cm) (m_hc) (v) (r79) (r70) (-1) (-1) (wf) (sf) (bf) (df)  ho49 ho50 ho51 ho52 ho53 pk58 hR hmo hmq hBm hgd hgd2 hoc ht9 hv hrh0 hrh1 hstk0) hZ ho49 cv_X13_360 rfl rfl ⟨Nat.le_of_ble_eq_true rfl, Nat.le_of_ble_eq_true rfl⟩ rfl hl.1 rfl (Nat.le_of_ble_eq_true rfl) dX13_simple_171 ⟨(Nat.le_of_ble_eq_true rfl), (Nat.le_of_ble_eq_true rfl)⟩) hZ (fun r91 V88 n89 _ _ hw90 hZ => ?_)
            obtain ⟨rfl, hq92, fr93, z94, u95, u96, u97, u98, ho99, ho100, ho101, ho102, ho103, hp104, hp105⟩ := hw90
            have b106 := hq_rng z94
            have hP := hP.trans hq92 (fun _ h => Bool.noConfusion h)
            have hf107 := hq_rg20 hP.1 (hr_21 hR) ho100
            have hf108 := hq_rg20 hP.1 (hr_22 hR) ho101
            have hf109 := hq_rg20 hP.1 (hr_24 hR) ho102
            have b110 := hq_rng r91
            have b111 := hp105
            have hmk := hp104
            rw [show (-1 : Int32).toInt = -1 by decide, hf0, hf1] at hmk
            refine lv_if_ne (tgt := 178) hx hb dX13_simple_174 (by decide) (fun c112 => ?_) (fun c112 => ?_)
            · have c112 : ¬ (r91).toInt = (0 : Int) := fun h9 => c112 (hq_eqi.mpr h9)
              obtain ⟨u1, hsa, hpos, hrp⟩ := (show ∃ u1, (sp_sa w (-1) (-1) bk.2.2.2 0 (sp_U w bk (sp_nm w t9) (sp_nf 0 v.toInt c9 te.toInt pe.toInt bk.2.2.2 0) (sp_nf 1 v.toInt c9 te.toInt pe.toInt bk.2.2.2 0))) = some u1 ∧ 0 < u1.length ∧ sp_rp z94 u95 u1 by rcases hmk with g9 | g9; (· exact g9.2); (· omega))
              have hrp1 := hrp.1
              have hu30 := sp_sa_le (sp_U_le hBm.g8 ht9l (sp_nf 0 v.toInt c9 te.toInt pe.toInt bk.2.2.2 0) (sp_nf 1 v.toInt c9 te.toInt pe.toInt bk.2.2.2 0)) hsa
              have hub1 := sp_sa_b8 hoc (sp_U_b8 hoc t9 (sp_nf 0 v.toInt c9 te.toInt pe.toInt bk.2.2.2 0) (sp_nf 1 v.toInt c9 te.toInt pe.toInt bk.2.2.2 0)) hsa
              have hL0 : L21 = [] := List.eq_nil_of_length_eq_zero (by omega)
              rw [hL0] at hL21
              refine lv_aload_n hx hb dX13_simple_178 rfl (lv_at hl 2 rfl) ?_
              have fx113 : V88 (q + 25) = some (.inl (cs 0, 244, .inl (ft21))) := (fr93 (q + 25) (hq_tne (hr_25 hR) hmo (by simp)) (hq_tne (hr_25 hR) (hr_21 hR) (by simp)) (hq_tne (hr_25 hR) (hr_22 hR) (by simp)) (hq_tne (hr_25 hR) (hr_24 hR) (by simp)) (hq_tne (hr_25 hR) (hr_23 hR) (by simp))).trans (ho54)
              have fx114 : V88 (q + 28) = some (.inl (cs 1, 4, .inl (fs21))) := (fr93 (q + 28) (hq_tne (hr_28 hR) hmo (by simp)) (hq_tne (hr_28 hR) (hr_21 hR) (by simp)) (hq_tne (hr_28 hR) (hr_22 hR) (by simp)) (hq_tne (hr_28 hR) (hr_24 hR) (by simp)) (hq_tne (hr_28 hR) (hr_23 hR) (by simp))).trans (ho55)
              have fx115 : V88 (q + 30) = some (.inl (cs 1, 4, .inl (rs21))) := (fr93 (q + 30) (hq_tne (hr_30 hR) hmo (by simp)) (hq_tne (hr_30 hR) (hr_21 hR) (by simp)) (hq_tne (hr_30 hR) (hr_22 hR) (by simp)) (hq_tne (hr_30 hR) (hr_24 hR) (by simp)) (hq_tne (hr_30 hR) (hr_23 hR) (by simp))).trans (ho57)
              refine hp_callv (hp_runV (As := []) (rest := []) hx hb hml hown hts (y_bf l D cs B G V88 n hP.1 (q) (mo) (m_tp) (m_sz) (m_fr) (m_bh) (m_hd) (m_ft) (m_fa) (z94) (fo21) (m_as) (m_fd) (m_bc) (m_bg) (m_bs) (m_be) (m_b0) (m_b1) (m_cm) (m_hc) (fs21) (ft21) (rs21) ([])  ho99 fx114 fx115  hR hmo hmq hL21 (by decide)) hZ ho99 cv_X13_351 rfl rfl ⟨Nat.le_of_ble_eq_true rfl, Nat.le_of_ble_eq_true rfl⟩ rfl hl.1 rfl (Nat.le_of_ble_eq_true rfl) dX13_simple_179 ⟨(Nat.le_of_ble_eq_true rfl), (Nat.le_of_ble_eq_true rfl)⟩) hZ (fun V116 n117 _ _ hw118 hZ => ?_)
              obtain ⟨rfl, hq120, fr121, u122, u123, ho124, ho125, hp126, hp127⟩ := hw118
              have hP := hP.trans hq120 (fun _ h => Bool.noConfusion h)
              have hf128 := hq_rg hP.1 (hr_28 hR) ho124
              have hf129 := hq_rg hP.1 (hr_30 hR) ho125
              refine lv_iconst (v := 0) hx hb dX13_simple_182 (by decide) ?_
              refine lv_istore (lv' := [(6, .int (0)), (5, .int (r79)), (4, .int (r70)), (0, .ref (mo)), (1, .int (v)), (2, .int (te)), (3, .int (pe))]) hx hb dX13_simple_183 hl (by decide) rfl (fun ls hl => ?_)
              have fx130 : V116 (mo) = some (.inr (13, hm_o q (m_tp) (m_sz) (m_fr) (m_bh) (m_hd) (m_ft) (m_fa) (z94) (fo21) (m_as) (m_fd) (m_bc) (m_bg) (m_bs) (m_be) (m_b0) (m_b1) (m_cm) (m_hc))) := (fr121 (mo) (hq_tne hmo (hr_28 hR) (by simp)) (hq_tne hmo (hr_30 hR) (by simp))).trans (ho99)
              have fx132 : V116 (q + 21) = some (.inl (cs 0, 276, .inl (u95))) := (fr121 (q + 21) (hq_tne (hr_21 hR) (hr_28 hR) (by simp)) (hq_tne (hr_21 hR) (hr_30 hR) (by simp))).trans (ho100)
              have fx134 : V116 (q + 22) = some (.inl (cs 0, 276, .inl (u96))) := (fr121 (q + 22) (hq_tne (hr_22 hR) (hr_28 hR) (by simp)) (hq_tne (hr_22 hR) (hr_30 hR) (by simp))).trans (ho101)
              have fx136 : V116 (q + 24) = some (.inl (cs 0, 30, .inl (u97))) := (fr121 (q + 24) (hq_tne (hr_24 hR) (hr_28 hR) (by simp)) (hq_tne (hr_24 hR) (hr_30 hR) (by simp))).trans (ho102)
              have fx138 : V116 (q + 23) = some (.inl (cs 3, 60, .inl (u98))) := (fr121 (q + 23) (hq_tne (hr_23 hR) (hr_28 hR) (by simp)) (hq_tne (hr_23 hR) (hr_30 hR) (by simp))).trans (ho103)
              have fx140 : V116 (q + 25) = some (.inl (cs 0, 244, .inl (ft21))) := (fr121 (q + 25) (hq_tne (hr_25 hR) (hr_28 hR) (by simp)) (hq_tne (hr_25 hR) (hr_30 hR) (by simp))).trans (fx113)
              have fx143 : V116 (q + 29) = some (.inl (cs 1, 560, .inl (rw21))) := (fr121 (q + 29) (hq_tne (hr_29 hR) (hr_28 hR) (by simp)) (hq_tne (hr_29 hR) (hr_30 hR) (by simp))).trans ((fr93 (q + 29) (hq_tne (hr_29 hR) hmo (by simp)) (hq_tne (hr_29 hR) (hr_21 hR) (by simp)) (hq_tne (hr_29 hR) (hr_22 hR) (by simp)) (hq_tne (hr_29 hR) (hr_24 hR) (by simp)) (hq_tne (hr_29 hR) (hr_23 hR) (by simp))).trans (ho56))
              have pk146 := pk58.keep (fun x7 (hx7 : q ≤ x7 ∧ x7 < q + 19) => (fr121 x7 (by omega) (by omega)).trans (fr93 x7 (by omega) (by omega) (by omega) (by omega) (by omega)))
              have hl148 : (0 : Int32).toInt = 0 := by decide
              suffices lp185 : ∀ (k9 : Nat) (V9 : hp_V) (H9 : Heap) (locs9 : List Loc) (ls : Array Slot) (i185 : Int32) (ft185 : Nat → Int32) (fs185 : Nat → Int32) (rs185 : Nat → Int32), (1000 - i185.toInt).toNat = k9 → hp_Z D cs B s V9 H9 n locs9 → hq_P cs G (fun _ => true) V V9 → V9 (mo) = some (.inr (13, hm_o q (m_tp) (m_sz) (m_fr) (m_bh) (m_hd) (m_ft) (m_fa) (z94) (fo21) (m_as) (m_fd) (m_bc) (m_bg) (m_bs) (m_be) (m_b0) (m_b1) (m_cm) (m_hc))) → V9 (q + 21) = some (.inl (cs 0, 276, .inl (u95))) → V9 (q + 22) = some (.inl (cs 0, 276, .inl (u96))) → V9 (q + 24) = some (.inl (cs 0, 30, .inl (u97))) → V9 (q + 23) = some (.inl (cs 3, 60, .inl (u98))) → V9 (q + 25) = some (.inl (cs 0, 244, .inl (ft185))) → V9 (q + 28) = some (.inl (cs 1, 4, .inl (fs185))) → V9 (q + 29) = some (.inl (cs 1, 560, .inl (rw21))) → V9 (q + 30) = some (.inl (cs 1, 4, .inl (rs185))) → (∀ x, x ≠ mo → x ≠ q + 21 → x ≠ q + 22 → x ≠ q + 24 → x ≠ q + 23 → x ≠ q + 25 → x ≠ q + 28 → x ≠ q + 29 → x ≠ q + 30 → V9 x = V x) → hm_AR cs V9 q rh → 0 ≤ i185.toInt → i185.toInt ≤ (u1.length : Int) → (sp_fc fo21 fs185 ft185 [] (u1.take i185.toInt.toNat)) → ((rs185 (fo21).toNatClampNeg).toInt = 0) → lv_has ls 7 [(6, .int (i185)), (5, .int (r79)), (4, .int (r70)), (0, .ref (mo)), (1, .int (v)), (2, .int (te)), (3, .int (pe))] → W p l e ({ frames := 4, cells := 0, slots := 0, locals := 95 }) s m ([.ref (mo), .int (v), .int (te), .int (pe)] : List Value).toArray below meth c H9 locs9 0 0 (MQ below (hp_QV D cs B (fun V' n' => n = n' ∧ hq_P cs G (fun _ => true) V V' ∧ (∀ x, x ≠ mo → x ≠ q + 21 → x ≠ q + 22 → x ≠ q + 24 → x ≠ q + 23 → x ≠ q + 25 → x ≠ q + 28 → x ≠ q + 29 → x ≠ q + 30 → V' x = V x) ∧ (∃ m_le1 : Int32, ∃ m_fo1 : Int32, ∃ wf1 : Nat → Int32, ∃ sf1 : Nat → Int32, ∃ bf1 : Nat → Int32, ∃ df1 : Nat → Int32, ∃ ft1 : Nat → Int32, ∃ fs1 : Nat → Int32, ∃ rw1 : Nat → Int32, ∃ rs1 : Nat → Int32, ∃ L : List (List Int), V' (mo) = some (.inr (13, hm_o q (m_tp) (m_sz) (m_fr) (m_bh) (m_hd) (m_ft) (m_fa) (m_le1) (m_fo1) (m_as) (m_fd) (m_bc) (m_bg) (m_bs) (m_be) (m_b0) (m_b1) (m_cm) (m_hc))) ∧ V' (q + 21) = some (.inl (cs 0, 276, .inl (wf1))) ∧ V' (q + 22) = some (.inl (cs 0, 276, .inl (sf1))) ∧ V' (q + 24) = some (.inl (cs 0, 30, .inl (bf1))) ∧ V' (q + 23) = some (.inl (cs 3, 60, .inl (df1))) ∧ V' (q + 25) = some (.inl (cs 0, 244, .inl (ft1))) ∧ V' (q + 28) = some (.inl (cs 1, 4, .inl (fs1))) ∧ V' (q + 29) = some (.inl (cs 1, 560, .inl (rw1))) ∧ V' (q + 30) = some (.inl (cs 1, 4, .inl (rs1))) ∧ (sp_fo m_fo1 fs1 ft1 L) ∧ (sp_FM (sp_nf 5 v.toInt c9 te.toInt pe.toInt bk.2.2.2 0) (sp_nf 1 v.toInt c9 te.toInt pe.toInt bk.2.2.2 0) (sp_ex w v.toInt c9 te.toInt pe.toInt bk.2.2.2 2) (sp_sa w (-1) (-1) bk.2.2.2 0 (sp_U w bk (sp_nm w t9) (sp_nf 0 v.toInt c9 te.toInt pe.toInt bk.2.2.2 0) (sp_nf 1 v.toInt c9 te.toInt pe.toInt bk.2.2.2 0))) L) ∧ ((0 ≤ m_le1.toInt ∧ m_le1.toInt ≤ 276) ∧ (0 ≤ m_fo1.toInt ∧ m_fo1.toInt ≤ 2))))) ([.ref (mo), .int (v), .int (te), .int (pe)] : List Value).toArray s 0 0 (hp_F B)) (F0 m 185 ls []) from lp185 _ _ _ _ ls (0) (ft21) (u122) (u123) rfl hZ hP fx130 fx132 fx134 fx136 fx138 fx140 ho124 fx143 ho125 (fun x8 hne0 hne1 hne2 hne3 hne4 hne5 hne6 hne7 hne8 => (fr121 x8 hne6 hne8).trans ((fr93 x8 hne0 hne1 hne2 hne3 hne4).trans (fr130 x8 hne0 hne1 hne2 hne3 hne4 hne5 hne6 hne7 hne8))) pk146 (by omega) (by omega) (by rw [show (0 : Int32).toInt.toNat = 0 from rfl, List.take_zero]; exact hp126) (hp127) (lv_sub hl [0, 1, 2, 3, 4, 5, 6] rfl)
              intro k9
              induction k9 using Nat.strongRecOn with
              | _ k9 ih185 =>
                intro V9 H9 locs9 ls i185  ft185 fs185 rs185 hk185 hZ hP ho131 ho133 ho135 ho137 ho139 ho141 ho142 ho144 ho145 fr185 pk147 hv149 hv150 hfc185 hrz185 hl
                have hb_i185 := hq_rng i185
                have hf151 := hq_rg20 hP.1 (hr_21 hR) ho133
                have hf152 := hq_rg20 hP.1 (hr_22 hR) ho135
                have hf153 := hq_rg20 hP.1 (hr_24 hR) ho137
                have hf154 := hq_rg20 hP.1 (hr_25 hR) ho141
                have hf155 := hq_rg hP.1 (hr_28 hR) ho142
                have hf156 := hq_rg hP.1 (hr_29 hR) ho144
                have hf157 := hq_rg hP.1 (hr_30 hR) ho145
                have htl185 : (u1.take i185.toInt.toNat).length = i185.toInt.toNat := by rw [List.length_take]; omega
                refine lv_iload hx hb dX13_simple_185 (lv_at hl 0 rfl) ?_
                refine lv_aload_n hx hb dX13_simple_187 rfl (lv_at hl 3 rfl) ?_
                refine hp_get (v := .int (z94)) hx hb hts hown hZ ho131 fl_X13_331 rfl dX13_simple_188 ?_
                refine lv_icmp_ge (tgt := 211) hx hb dX13_simple_191 (by decide) (fun c158 => ?_) (fun c158 => ?_)
                · have c158 : (z94).toInt ≤ (i185).toInt := hq_lei.mp c158
                  have hfx : u1.take i185.toInt.toNat = u1 := List.take_of_length_le (by omega)
                  have hfc9 := hfc185
                  rw [hfx] at hfc9
                  refine lv_iload hx hb dX13_simple_211 (lv_at hl 1 rfl) ?_
                  refine lv_iconst (v := -1) hx hb dX13_simple_213 (by decide) ?_
                  refine lv_icmp_eq (tgt := 233) hx hb dX13_simple_214 (by decide) (fun c159 => ?_) (fun c159 => ?_)
                  · have c159 : (r79).toInt = (-1 : Int) := hq_eqi.mp c159
                    refine lv_aload_n hx hb dX13_simple_233 rfl (lv_at hl 3 rfl) ?_
                    refine lv_iload hx hb dX13_simple_234 (lv_at hl 2 rfl) ?_
                    have b160 := hrz185
                    refine hp_callv (hp_runV (As := [.int (r70)]) (rest := []) hx hb hml hown hts (y_noteR l D cs B G V9 n hP.1 (q) (mo) (m_tp) (m_sz) (m_fr) (m_bh) (m_hd) (m_ft) (m_fa) (z94) (fo21) (m_as) (m_fd) (m_bc) (m_bg) (m_bs) (m_be) (m_b0) (m_b1) (m_cm) (m_hc) (r70) (rw21) (rs185)  ho131 ho144 ho145  hR hmo hmq hfo9 (by omega) (by first | exact hm_fi hrh1 (by assumption) hll9 | exact hm_fi hrh0 (by assumption) hll9 | omega)) hZ ho131 cv_X13_357 rfl rfl ⟨Nat.le_of_ble_eq_true rfl, Nat.le_of_ble_eq_true rfl⟩ rfl hl.1 rfl (Nat.le_of_ble_eq_true rfl) dX13_simple_236 ⟨(Nat.le_of_ble_eq_true rfl), (Nat.le_of_ble_eq_true rfl)⟩) hZ (fun V161 n162 _ _ hw163 hZ => ?_)
                    obtain ⟨rfl, hq165, fr166, u167, u168, ho169, ho170, hp171⟩ := hw163
                    have hP := hP.trans hq165 (fun _ h => Bool.noConfusion h)
                    have hf172 := hq_rg hP.1 (hr_29 hR) ho169
                    have hf173 := hq_rg hP.1 (hr_30 hR) ho170
                    have hrz174 := hp171
                    refine lv_iconst (v := 0) hx hb dX13_simple_239 (by decide) ?_
                    refine lv_istore (lv' := [(6, .int (0)), (5, .int (r79)), (4, .int (r70)), (0, .ref (mo)), (1, .int (v)), (2, .int (te)), (3, .int (pe))]) hx hb dX13_simple_240 hl (by decide) rfl (fun ls hl => ?_)
                    have fx175 : V161 (mo) = some (.inr (13, hm_o q (m_tp) (m_sz) (m_fr) (m_bh) (m_hd) (m_ft) (m_fa) (z94) (fo21) (m_as) (m_fd) (m_bc) (m_bg) (m_bs) (m_be) (m_b0) (m_b1) (m_cm) (m_hc))) := (fr166 (mo) (hq_tne hmo (hr_29 hR) (by simp)) (hq_tne hmo (hr_30 hR) (by simp))).trans (ho131)
                    have fx177 : V161 (q + 21) = some (.inl (cs 0, 276, .inl (u95))) := (fr166 (q + 21) (hq_tne (hr_21 hR) (hr_29 hR) (by simp)) (hq_tne (hr_21 hR) (hr_30 hR) (by simp))).trans (ho133)
                    have fx179 : V161 (q + 22) = some (.inl (cs 0, 276, .inl (u96))) := (fr166 (q + 22) (hq_tne (hr_22 hR) (hr_29 hR) (by simp)) (hq_tne (hr_22 hR) (hr_30 hR) (by simp))).trans (ho135)
                    have fx181 : V161 (q + 24) = some (.inl (cs 0, 30, .inl (u97))) := (fr166 (q + 24) (hq_tne (hr_24 hR) (hr_29 hR) (by simp)) (hq_tne (hr_24 hR) (hr_30 hR) (by simp))).trans (ho137)
                    have fx183 : V161 (q + 23) = some (.inl (cs 3, 60, .inl (u98))) := (fr166 (q + 23) (hq_tne (hr_23 hR) (hr_29 hR) (by simp)) (hq_tne (hr_23 hR) (hr_30 hR) (by simp))).trans (ho139)
                    have fx185 : V161 (q + 25) = some (.inl (cs 0, 244, .inl (ft185))) := (fr166 (q + 25) (hq_tne (hr_25 hR) (hr_29 hR) (by simp)) (hq_tne (hr_25 hR) (hr_30 hR) (by simp))).trans (ho141)
                    have fx187 : V161 (q + 28) = some (.inl (cs 1, 4, .inl (fs185))) := (fr166 (q + 28) (hq_tne (hr_28 hR) (hr_29 hR) (by simp)) (hq_tne (hr_28 hR) (hr_30 hR) (by simp))).trans (ho142)
                    have pk191 := pk147.keep (fun x7 (hx7 : q ≤ x7 ∧ x7 < q + 19) => fr166 x7 (by omega) (by omega))
                    have hl193 : (0 : Int32).toInt = 0 := by decide
                    suffices lp242 : ∀ (k9 : Nat) (V9 : hp_V) (H9 : Heap) (locs9 : List Loc) (ls : Array Slot) (i242 : Int32) (rw242 : Nat → Int32) (rs242 : Nat → Int32), (1000 - i242.toInt).toNat = k9 → hp_Z D cs B s V9 H9 n locs9 → hq_P cs G (fun _ => true) V V9 → V9 (mo) = some (.inr (13, hm_o q (m_tp) (m_sz) (m_fr) (m_bh) (m_hd) (m_ft) (m_fa) (z94) (fo21) (m_as) (m_fd) (m_bc) (m_bg) (m_bs) (m_be) (m_b0) (m_b1) (m_cm) (m_hc))) → V9 (q + 21) = some (.inl (cs 0, 276, .inl (u95))) → V9 (q + 22) = some (.inl (cs 0, 276, .inl (u96))) → V9 (q + 24) = some (.inl (cs 0, 30, .inl (u97))) → V9 (q + 23) = some (.inl (cs 3, 60, .inl (u98))) → V9 (q + 25) = some (.inl (cs 0, 244, .inl (ft185))) → V9 (q + 28) = some (.inl (cs 1, 4, .inl (fs185))) → V9 (q + 29) = some (.inl (cs 1, 560, .inl (rw242))) → V9 (q + 30) = some (.inl (cs 1, 4, .inl (rs242))) → (∀ x, x ≠ mo → x ≠ q + 21 → x ≠ q + 22 → x ≠ q + 24 → x ≠ q + 23 → x ≠ q + 25 → x ≠ q + 28 → x ≠ q + 29 → x ≠ q + 30 → V9 x = V x) → hm_AR cs V9 q rh → 0 ≤ i242.toInt → i242.toInt ≤ (bk.2.2.2.length : Int) → (0 ≤ (rs242 (fo21).toNatClampNeg).toInt ∧ (rs242 (fo21).toNatClampNeg).toInt ≤ 2 + i242.toInt) → lv_has ls 7 [(6, .int (i242)), (0, .ref (mo)), (1, .int (v)), (2, .int (te)), (3, .int (pe))] → W p l e ({ frames := 4, cells := 0, slots := 0, locals := 95 }) s m ([.ref (mo), .int (v), .int (te), .int (pe)] : List Value).toArray below meth c H9 locs9 0 0 (MQ below (hp_QV D cs B (fun V' n' => n = n' ∧ hq_P cs G (fun _ => true) V V' ∧ (∀ x, x ≠ mo → x ≠ q + 21 → x ≠ q + 22 → x ≠ q + 24 → x ≠ q + 23 → x ≠ q + 25 → x ≠ q + 28 → x ≠ q + 29 → x ≠ q + 30 → V' x = V x) ∧ (∃ m_le1 : Int32, ∃ m_fo1 : Int32, ∃ wf1 : Nat → Int32, ∃ sf1 : Nat → Int32, ∃ bf1 : Nat → Int32, ∃ df1 : Nat → Int32, ∃ ft1 : Nat → Int32, ∃ fs1 : Nat → Int32, ∃ rw1 : Nat → Int32, ∃ rs1 : Nat → Int32, ∃ L : List (List Int), V' (mo) = some (.inr (13, hm_o q (m_tp) (m_sz) (m_fr) (m_bh) (m_hd) (m_ft) (m_fa) (m_le1) (m_fo1) (m_as) (m_fd) (m_bc) (m_bg) (m_bs) (m_be) (m_b0) (m_b1) (m_cm) (m_hc))) ∧ V' (q + 21) = some (.inl (cs 0, 276, .inl (wf1))) ∧ V' (q + 22) = some (.inl (cs 0, 276, .inl (sf1))) ∧ V' (q + 24) = some (.inl (cs 0, 30, .inl (bf1))) ∧ V' (q + 23) = some (.inl (cs 3, 60, .inl (df1))) ∧ V' (q + 25) = some (.inl (cs 0, 244, .inl (ft1))) ∧ V' (q + 28) = some (.inl (cs 1, 4, .inl (fs1))) ∧ V' (q + 29) = some (.inl (cs 1, 560, .inl (rw1))) ∧ V' (q + 30) = some (.inl (cs 1, 4, .inl (rs1))) ∧ (sp_fo m_fo1 fs1 ft1 L) ∧ (sp_FM (sp_nf 5 v.toInt c9 te.toInt pe.toInt bk.2.2.2 0) (sp_nf 1 v.toInt c9 te.toInt pe.toInt bk.2.2.2 0) (sp_ex w v.toInt c9 te.toInt pe.toInt bk.2.2.2 2) (sp_sa w (-1) (-1) bk.2.2.2 0 (sp_U w bk (sp_nm w t9) (sp_nf 0 v.toInt c9 te.toInt pe.toInt bk.2.2.2 0) (sp_nf 1 v.toInt c9 te.toInt pe.toInt bk.2.2.2 0))) L) ∧ ((0 ≤ m_le1.toInt ∧ m_le1.toInt ≤ 276) ∧ (0 ≤ m_fo1.toInt ∧ m_fo1.toInt ≤ 2))))) ([.ref (mo), .int (v), .int (te), .int (pe)] : List Value).toArray s 0 0 (hp_F B)) (F0 m 242 ls []) from lp242 _ _ _ _ ls (0) (u167) (u168) rfl hZ hP fx175 fx177 fx179 fx181 fx183 fx185 fx187 ho169 ho170 (fun x8 hne0 hne1 hne2 hne3 hne4 hne5 hne6 hne7 hne8 => (fr166 x8 hne7 hne8).trans (fr185 x8 hne0 hne1 hne2 hne3 hne4 hne5 hne6 hne7 hne8)) pk191 (by omega) (by omega) (by have h9 := hrz174; omega) (lv_sub hl [0, 3, 4, 5, 6] rfl)
                    intro k9
                    induction k9 using Nat.strongRecOn with
                    | _ k9 ih242 =>
                      intro V9 H9 locs9 ls i242  rw242 rs242 hk242 hZ hP ho176 ho178 ho180 ho182 ho184 ho186 ho188 ho189 ho190 fr242 pk192 hv194 hv195 hrz242 hl
                      have hb_i242 := hq_rng i242
                      have hf196 := hq_rg20 hP.1 (hr_21 hR) ho178
                      have hf197 := hq_rg20 hP.1 (hr_22 hR) ho180
                      have hf198 := hq_rg20 hP.1 (hr_24 hR) ho182
                      have hf199 := hq_rg20 hP.1 (hr_25 hR) ho186
                      have hf200 := hq_rg hP.1 (hr_28 hR) ho188
                      have hf201 := hq_rg hP.1 (hr_29 hR) ho189
                      have hf202 := hq_rg hP.1 (hr_30 hR) ho190
                      refine lv_iload hx hb dX13_simple_242 (lv_at hl 0 rfl) ?_
                      refine lv_aload_n hx hb dX13_simple_244 rfl (lv_at hl 1 rfl) ?_
                      refine hp_get (v := .ref (q + 2)) hx hb hts hown hZ ho176 fl_X13_10 rfl dX13_simple_245 ?_
                      refine lv_iconst (v := 0) hx hb dX13_simple_248 (by decide) ?_
                      obtain ⟨rf203, hrf204⟩ : ∃ f : Nat → Int32, f = rh 2 := ⟨_, rfl⟩
                      have ea205 : V9 (q + 2) = some (.inl (cs 1, 2, .inl (rf203))) := by rw [hrf204]; exact pk192 2 (by decide)
                      have hra206 := hq_rg hP.1 (hr_2 hR) ea205
                      refine hp_iald hx hb hZ ea205 (by unfold vp_in; decide) dX13_simple_249 ?_
                      refine lv_topi (fun y207 ey208 => ?_)
                      have b209 : hq_ir (hq_lo 8) (hq_hi 8) y207 := by rw [ey208]; exact hra206 _ (by decide)
                      have b209 : 0 ≤ (y207).toInt ∧ (y207).toInt ≤ 60 := b209
                      have b210 : (y207).toInt = (bk.2.2.2.length : Int) := by rw [ey208, hrf204]; exact hBm.2.2.1
                      refine lv_icmp_ge (tgt := 286) hx hb dX13_simple_250 (by decide) (fun c211 => ?_) (fun c211 => ?_)
                      · have c211 : (y207).toInt ≤ (i242).toInt := hq_lei.mp c211
                        refine lv_aload_n hx hb dX13_simple_286 rfl (lv_at hl 1 rfl) ?_
                        refine lv_iconst (v := 1) hx hb dX13_simple_287 (by decide) ?_
                        refine hp_put hx hb hts hown hZ ho176 fp_X13_344 rfl rfl (Nat.le_of_ble_eq_true rfl) dX13_simple_288 (fun V212 _ _ e213 o214 hZ => ?_)
                        have e213 : V212 (mo) = some (.inr (13, hm_o q (m_tp) (m_sz) (m_fr) (m_bh) (m_hd) (m_ft) (m_fa) (z94) (1) (m_as) (m_fd) (m_bc) (m_bg) (m_bs) (m_be) (m_b0) (m_b1) (m_cm) (m_hc))) := e213
                        have hP := hP.put hmo e213 o214 (trivial) rfl
                        have fx215 : V212 (q + 21) = some (.inl (cs 0, 276, .inl (u95))) := (o214 (q + 21) (hq_tne (hr_21 hR) hmo (by simp))).trans (ho178)
                        have fx216 : V212 (q + 22) = some (.inl (cs 0, 276, .inl (u96))) := (o214 (q + 22) (hq_tne (hr_22 hR) hmo (by simp))).trans (ho180)
                        have fx217 : V212 (q + 24) = some (.inl (cs 0, 30, .inl (u97))) := (o214 (q + 24) (hq_tne (hr_24 hR) hmo (by simp))).trans (ho182)
                        have fx218 : V212 (q + 23) = some (.inl (cs 3, 60, .inl (u98))) := (o214 (q + 23) (hq_tne (hr_23 hR) hmo (by simp))).trans (ho184)
                        have fx219 : V212 (q + 25) = some (.inl (cs 0, 244, .inl (ft185))) := (o214 (q + 25) (hq_tne (hr_25 hR) hmo (by simp))).trans (ho186)
                        have fx220 : V212 (q + 28) = some (.inl (cs 1, 4, .inl (fs185))) := (o214 (q + 28) (hq_tne (hr_28 hR) hmo (by simp))).trans (ho188)
                        have fx221 : V212 (q + 29) = some (.inl (cs 1, 560, .inl (rw242))) := (o214 (q + 29) (hq_tne (hr_29 hR) hmo (by simp))).trans (ho189)
                        have fx222 : V212 (q + 30) = some (.inl (cs 1, 4, .inl (rs242))) := (o214 (q + 30) (hq_tne (hr_30 hR) hmo (by simp))).trans (ho190)
                        have hl223 : (1 : Int32).toInt = 1 := by decide
                        exact hp_vret hx hb hr hlocks hZ ⟨rfl, hP, (fun x8 hne0 hne1 hne2 hne3 hne4 hne5 hne6 hne7 hne8 => (o214 x8 hne0).trans (fr242 x8 hne0 hne1 hne2 hne3 hne4 hne5 hne6 hne7 hne8)), z94, 1, u95, u96, u97, u98, ft185, fs185, rw242, rs242, ([] ++ [u1]), e213, fx215, fx216, fx217, fx218, fx219, fx220, fx221, fx222, (hfc9.fin (n1 := 1) (by omega)), Or.inr (Or.inr (Or.inr (Or.inl ⟨by omega, by rw [← hEE]; exact hL0, by rw [← hf1]; assumption, u1, hsa, hpos, rfl⟩))), by omega⟩ dX13_simple_291
                      · have c211 : ¬ (y207).toInt ≤ (i242).toInt := fun h9 => c211 (hq_lei.mpr h9)
                        refine lv_aload_n hx hb dX13_simple_253 rfl (lv_at hl 1 rfl) ?_
                        refine hp_get (v := .ref (q + 10)) hx hb hts hown hZ ho176 fl_X13_29 rfl dX13_simple_254 ?_
                        refine lv_iload hx hb dX13_simple_257 (lv_at hl 0 rfl) ?_
                        obtain ⟨rf224, hrf225⟩ : ∃ f : Nat → Int32, f = rh 10 := ⟨_, rfl⟩
                        have ea226 : V9 (q + 10) = some (.inl (cs 1, 120, .inl (rf224))) := by rw [hrf225]; exact pk192 10 (by decide)
                        have hra227 := hq_rg hP.1 (hr_10 hR) ea226
                        refine hp_iald hx hb hZ ea226 (hq_in (by omega) (by omega)) dX13_simple_259 ?_
                        refine lv_topi (fun y228 ey229 => ?_)
                        have b230 := hq_rng y228
                        refine lv_iconst (v := 2) hx hb dX13_simple_260 (by decide) ?_
                        refine lv_icmp_ne (tgt := 280) hx hb dX13_simple_261 (by decide) (fun c231 => ?_) (fun c231 => ?_)
                        · have c231 : ¬ (y228).toInt = (2 : Int) := fun h9 => c231 (hq_eqi.mpr h9)
                          obtain ⟨y232, ey233⟩ : ∃ y : Int32, y = i242 + (1) := ⟨_, rfl⟩
                          obtain ⟨k234, hk235, b236, b237⟩ := hq_add (i242) (1)
                          rw [← ey233] at hk235 b236 b237
                          have hk235 : (y232).toInt = (i242).toInt + (1) + k234 * 4294967296 := hk235
                          obtain rfl : k234 = 0 := by omega
                          refine lv_iinc (v := y232) (lv' := [(6, .int (y232)), (0, .ref (mo)), (1, .int (v)), (2, .int (te)), (3, .int (pe))]) hx hb dX13_simple_280 hl (k := 0) rfl (by rw [ey233]; rfl) (by decide) rfl (fun ls hl => ?_)
                          refine lv_goto (tgt := 242) hx hb dX13_simple_283 (by decide) ?_
                          exact ih242 _ (by omega) _ _ _ ls (y232) (rw242) (rs242) rfl hZ hP ho176 ho178 ho180 ho182 ho184 ho186 ho188 ho189 ho190 (fun x8 hne0 hne1 hne2 hne3 hne4 hne5 hne6 hne7 hne8 => fr242 x8 hne0 hne1 hne2 hne3 hne4 hne5 hne6 hne7 hne8) pk192 (by omega) (by omega) (by omega) (lv_sub hl [0, 1, 2, 3, 4] rfl)
                        · have c231 : (y228).toInt = (2 : Int) := hq_eqi.mp c231
                          refine lv_aload_n hx hb dX13_simple_264 rfl (lv_at hl 1 rfl) ?_
                          refine hp_get (v := .ref (q + 23)) hx hb hts hown hZ ho176 fl_X13_219 rfl dX13_simple_265 ?_
                          refine lv_iload hx hb dX13_simple_268 (lv_at hl 0 rfl) ?_
                          refine hp_zald hx hb hZ ho184 (hq_in (by omega) (by omega)) dX13_simple_270 ?_
                          refine lv_topi (fun y238 ey239 => ?_)
                          have b240 := hq_rng y238
                          refine lv_if_eq (tgt := 280) hx hb dX13_simple_271 (by decide) (fun c241 => ?_) (fun c241 => ?_)
                          · have c241 : (y238).toInt = (0 : Int) := hq_eqi.mp c241
                            obtain ⟨y242, ey243⟩ : ∃ y : Int32, y = i242 + (1) := ⟨_, rfl⟩
                            obtain ⟨k244, hk245, b246, b247⟩ := hq_add (i242) (1)
                            rw [← ey243] at hk245 b246 b247
                            have hk245 : (y242).toInt = (i242).toInt + (1) + k244 * 4294967296 := hk245
                            obtain rfl : k244 = 0 := by omega
                            refine lv_iinc (v := y242) (lv' := [(6, .int (y242)), (0, .ref (mo)), (1, .int (v)), (2, .int (te)), (3, .int (pe))]) hx hb dX13_simple_280 hl (k := 0) rfl (by rw [ey243]; rfl) (by decide) rfl (fun ls hl => ?_)
                            refine lv_goto (tgt := 242) hx hb dX13_simple_283 (by decide) ?_
                            exact ih242 _ (by omega) _ _ _ ls (y242) (rw242) (rs242) rfl hZ hP ho176 ho178 ho180 ho182 ho184 ho186 ho188 ho189 ho190 (fun x8 hne0 hne1 hne2 hne3 hne4 hne5 hne6 hne7 hne8 => fr242 x8 hne0 hne1 hne2 hne3 hne4 hne5 hne6 hne7 hne8) pk192 (by omega) (by omega) (by omega) (lv_sub hl [0, 1, 2, 3, 4] rfl)
                          · have c241 : ¬ (y238).toInt = (0 : Int) := fun h9 => c241 (hq_eqi.mpr h9)
                            refine lv_aload_n hx hb dX13_simple_274 rfl (lv_at hl 1 rfl) ?_
                            refine lv_iload hx hb dX13_simple_275 (lv_at hl 0 rfl) ?_
                            have b248 := hrz242
                            refine hp_callv (hp_runV (As := [.int (i242)]) (rest := []) hx hb hml hown hts (y_noteR l D cs B G V9 n hP.1 (q) (mo) (m_tp) (m_sz) (m_fr) (m_bh) (m_hd) (m_ft) (m_fa) (z94) (fo21) (m_as) (m_fd) (m_bc) (m_bg) (m_bs) (m_be) (m_b0) (m_b1) (m_cm) (m_hc) (i242) (rw242) (rs242)  ho176 ho189 ho190  hR hmo hmq hfo9 (by omega) (by omega)) hZ ho176 cv_X13_357 rfl rfl ⟨Nat.le_of_ble_eq_true rfl, Nat.le_of_ble_eq_true rfl⟩ rfl hl.1 rfl (Nat.le_of_ble_eq_true rfl) dX13_simple_277 ⟨(Nat.le_of_ble_eq_true rfl), (Nat.le_of_ble_eq_true rfl)⟩) hZ (fun V249 n250 _ _ hw251 hZ => ?_)
                            obtain ⟨rfl, hq253, fr254, u255, u256, ho257, ho258, hp259⟩ := hw251
                            have hP := hP.trans hq253 (fun _ h => Bool.noConfusion h)
                            have hf260 := hq_rg hP.1 (hr_29 hR) ho257
                            have hf261 := hq_rg hP.1 (hr_30 hR) ho258
                            have hrz262 := hp259
                            obtain ⟨y263, ey264⟩ : ∃ y : Int32, y = i242 + (1) := ⟨_, rfl⟩
                            obtain ⟨k265, hk266, b267, b268⟩ := hq_add (i242) (1)
                            rw [← ey264] at hk266 b267 b268
                            have hk266 : (y263).toInt = (i242).toInt + (1) + k265 * 4294967296 := hk266
                            obtain rfl : k265 = 0 := by omega
                            refine lv_iinc (v := y263) (lv' := [(6, .int (y263)), (0, .ref (mo)), (1, .int (v)), (2, .int (te)), (3, .int (pe))]) hx hb dX13_simple_280 hl (k := 0) rfl (by rw [ey264]; rfl) (by decide) rfl (fun ls hl => ?_)
                            refine lv_goto (tgt := 242) hx hb dX13_simple_283 (by decide) ?_
                            have fx269 : V249 (mo) = some (.inr (13, hm_o q (m_tp) (m_sz) (m_fr) (m_bh) (m_hd) (m_ft) (m_fa) (z94) (fo21) (m_as) (m_fd) (m_bc) (m_bg) (m_bs) (m_be) (m_b0) (m_b1) (m_cm) (m_hc))) := (fr254 (mo) (hq_tne hmo (hr_29 hR) (by simp)) (hq_tne hmo (hr_30 hR) (by simp))).trans (ho176)
                            have fx270 : V249 (q + 21) = some (.inl (cs 0, 276, .inl (u95))) := (fr254 (q + 21) (hq_tne (hr_21 hR) (hr_29 hR) (by simp)) (hq_tne (hr_21 hR) (hr_30 hR) (by simp))).trans (ho178)
                            have fx271 : V249 (q + 22) = some (.inl (cs 0, 276, .inl (u96))) := (fr254 (q + 22) (hq_tne (hr_22 hR) (hr_29 hR) (by simp)) (hq_tne (hr_22 hR) (hr_30 hR) (by simp))).trans (ho180)
                            have fx272 : V249 (q + 24) = some (.inl (cs 0, 30, .inl (u97))) := (fr254 (q + 24) (hq_tne (hr_24 hR) (hr_29 hR) (by simp)) (hq_tne (hr_24 hR) (hr_30 hR) (by simp))).trans (ho182)
                            have fx273 : V249 (q + 23) = some (.inl (cs 3, 60, .inl (u98))) := (fr254 (q + 23) (hq_tne (hr_23 hR) (hr_29 hR) (by simp)) (hq_tne (hr_23 hR) (hr_30 hR) (by simp))).trans (ho184)
                            have fx274 : V249 (q + 25) = some (.inl (cs 0, 244, .inl (ft185))) := (fr254 (q + 25) (hq_tne (hr_25 hR) (hr_29 hR) (by simp)) (hq_tne (hr_25 hR) (hr_30 hR) (by simp))).trans (ho186)
                            have fx275 : V249 (q + 28) = some (.inl (cs 1, 4, .inl (fs185))) := (fr254 (q + 28) (hq_tne (hr_28 hR) (hr_29 hR) (by simp)) (hq_tne (hr_28 hR) (hr_30 hR) (by simp))).trans (ho188)
                            have pk276 := pk192.keep (fun x7 (hx7 : q ≤ x7 ∧ x7 < q + 19) => fr254 x7 (by omega) (by omega))
                            exact ih242 _ (by omega) _ _ _ ls (y263) (u255) (u256) rfl hZ hP fx269 fx270 fx271 fx272 fx273 fx274 fx275 ho257 ho258 (fun x8 hne0 hne1 hne2 hne3 hne4 hne5 hne6 hne7 hne8 => (fr254 x8 hne7 hne8).trans (fr242 x8 hne0 hne1 hne2 hne3 hne4 hne5 hne6 hne7 hne8)) pk276 (by omega) (by omega) (by have h9 := hrz262; omega) (lv_sub hl [0, 1, 2, 3, 4] rfl)
                  · have c159 : ¬ (r79).toInt = (-1 : Int) := fun h9 => c159 (hq_eqi.mpr h9)
                    refine lv_aload_n hx hb dX13_simple_217 rfl (lv_at hl 3 rfl) ?_
                    refine hp_get (v := .ref (q + 23)) hx hb hts hown hZ ho131 fl_X13_219 rfl dX13_simple_218 ?_
                    refine lv_iload hx hb dX13_simple_221 (lv_at hl 1 rfl) ?_
                    refine hp_zald hx hb hZ ho139 (hq_in (by omega) (by omega)) dX13_simple_223 ?_
                    refine lv_topi (fun y277 ey278 => ?_)
                    have b279 := hq_rng y277
                    refine lv_if_eq (tgt := 233) hx hb dX13_simple_224 (by decide) (fun c280 => ?_) (fun c280 => ?_)
                    · have c280 : (y277).toInt = (0 : Int) := hq_eqi.mp c280
                      refine lv_aload_n hx hb dX13_simple_233 rfl (lv_at hl 3 rfl) ?_
                      refine lv_iload hx hb dX13_simple_234 (lv_at hl 2 rfl) ?_
                      have b281 := hrz185
                      refine hp_callv (hp_runV (As := [.int (r70)]) (rest := []) hx hb hml hown hts (y_noteR l D cs B G V9 n hP.1 (q) (mo) (m_tp) (m_sz) (m_fr) (m_bh) (m_hd) (m_ft) (m_fa) (z94) (fo21) (m_as) (m_fd) (m_bc) (m_bg) (m_bs) (m_be) (m_b0) (m_b1) (m_cm) (m_hc) (r70) (rw21) (rs185)  ho131 ho144 ho145  hR hmo hmq hfo9 (by omega) (by first | exact hm_fi hrh1 (by assumption) hll9 | exact hm_fi hrh0 (by assumption) hll9 | omega)) hZ ho131 cv_X13_357 rfl rfl ⟨Nat.le_of_ble_eq_true rfl, Nat.le_of_ble_eq_true rfl⟩ rfl hl.1 rfl (Nat.le_of_ble_eq_true rfl) dX13_simple_236 ⟨(Nat.le_of_ble_eq_true rfl), (Nat.le_of_ble_eq_true rfl)⟩) hZ (fun V282 n283 _ _ hw284 hZ => ?_)
                      obtain ⟨rfl, hq286, fr287, u288, u289, ho290, ho291, hp292⟩ := hw284
                      have hP := hP.trans hq286 (fun _ h => Bool.noConfusion h)
                      have hf293 := hq_rg hP.1 (hr_29 hR) ho290
                      have hf294 := hq_rg hP.1 (hr_30 hR) ho291
                      have hrz295 := hp292
                      refine lv_iconst (v := 0) hx hb dX13_simple_239 (by decide) ?_
                      refine lv_istore (lv' := [(6, .int (0)), (5, .int (r79)), (4, .int (r70)), (0, .ref (mo)), (1, .int (v)), (2, .int (te)), (3, .int (pe))]) hx hb dX13_simple_240 hl (by decide) rfl (fun ls hl => ?_)
                      have fx296 : V282 (mo) = some (.inr (13, hm_o q (m_tp) (m_sz) (m_fr) (m_bh) (m_hd) (m_ft) (m_fa) (z94) (fo21) (m_as) (m_fd) (m_bc) (m_bg) (m_bs) (m_be) (m_b0) (m_b1) (m_cm) (m_hc))) := (fr287 (mo) (hq_tne hmo (hr_29 hR) (by simp)) (hq_tne hmo (hr_30 hR) (by simp))).trans (ho131)
                      have fx298 : V282 (q + 21) = some (.inl (cs 0, 276, .inl (u95))) := (fr287 (q + 21) (hq_tne (hr_21 hR) (hr_29 hR) (by simp)) (hq_tne (hr_21 hR) (hr_30 hR) (by simp))).trans (ho133)
                      have fx300 : V282 (q + 22) = some (.inl (cs 0, 276, .inl (u96))) := (fr287 (q + 22) (hq_tne (hr_22 hR) (hr_29 hR) (by simp)) (hq_tne (hr_22 hR) (hr_30 hR) (by simp))).trans (ho135)
                      have fx302 : V282 (q + 24) = some (.inl (cs 0, 30, .inl (u97))) := (fr287 (q + 24) (hq_tne (hr_24 hR) (hr_29 hR) (by simp)) (hq_tne (hr_24 hR) (hr_30 hR) (by simp))).trans (ho137)
                      have fx304 : V282 (q + 23) = some (.inl (cs 3, 60, .inl (u98))) := (fr287 (q + 23) (hq_tne (hr_23 hR) (hr_29 hR) (by simp)) (hq_tne (hr_23 hR) (hr_30 hR) (by simp))).trans (ho139)
                      have fx306 : V282 (q + 25) = some (.inl (cs 0, 244, .inl (ft185))) := (fr287 (q + 25) (hq_tne (hr_25 hR) (hr_29 hR) (by simp)) (hq_tne (hr_25 hR) (hr_30 hR) (by simp))).trans (ho141)
                      have fx308 : V282 (q + 28) = some (.inl (cs 1, 4, .inl (fs185))) := (fr287 (q + 28) (hq_tne (hr_28 hR) (hr_29 hR) (by simp)) (hq_tne (hr_28 hR) (hr_30 hR) (by simp))).trans (ho142)
                      have pk312 := pk147.keep (fun x7 (hx7 : q ≤ x7 ∧ x7 < q + 19) => fr287 x7 (by omega) (by omega))
                      have hl314 : (0 : Int32).toInt = 0 := by decide
                      suffices lp242 : ∀ (k9 : Nat) (V9 : hp_V) (H9 : Heap) (locs9 : List Loc) (ls : Array Slot) (i242 : Int32) (rw242 : Nat → Int32) (rs242 : Nat → Int32), (1000 - i242.toInt).toNat = k9 → hp_Z D cs B s V9 H9 n locs9 → hq_P cs G (fun _ => true) V V9 → V9 (mo) = some (.inr (13, hm_o q (m_tp) (m_sz) (m_fr) (m_bh) (m_hd) (m_ft) (m_fa) (z94) (fo21) (m_as) (m_fd) (m_bc) (m_bg) (m_bs) (m_be) (m_b0) (m_b1) (m_cm) (m_hc))) → V9 (q + 21) = some (.inl (cs 0, 276, .inl (u95))) → V9 (q + 22) = some (.inl (cs 0, 276, .inl (u96))) → V9 (q + 24) = some (.inl (cs 0, 30, .inl (u97))) → V9 (q + 23) = some (.inl (cs 3, 60, .inl (u98))) → V9 (q + 25) = some (.inl (cs 0, 244, .inl (ft185))) → V9 (q + 28) = some (.inl (cs 1, 4, .inl (fs185))) → V9 (q + 29) = some (.inl (cs 1, 560, .inl (rw242))) → V9 (q + 30) = some (.inl (cs 1, 4, .inl (rs242))) → (∀ x, x ≠ mo → x ≠ q + 21 → x ≠ q + 22 → x ≠ q + 24 → x ≠ q + 23 → x ≠ q + 25 → x ≠ q + 28 → x ≠ q + 29 → x ≠ q + 30 → V9 x = V x) → hm_AR cs V9 q rh → 0 ≤ i242.toInt → i242.toInt ≤ (bk.2.2.2.length : Int) → (0 ≤ (rs242 (fo21).toNatClampNeg).toInt ∧ (rs242 (fo21).toNatClampNeg).toInt ≤ 2 + i242.toInt) → lv_has ls 7 [(6, .int (i242)), (0, .ref (mo)), (1, .int (v)), (2, .int (te)), (3, .int (pe))] → W p l e ({ frames := 4, cells := 0, slots := 0, locals := 95 }) s m ([.ref (mo), .int (v), .int (te), .int (pe)] : List Value).toArray below meth c H9 locs9 0 0 (MQ below (hp_QV D cs B (fun V' n' => n = n' ∧ hq_P cs G (fun _ => true) V V' ∧ (∀ x, x ≠ mo → x ≠ q + 21 → x ≠ q + 22 → x ≠ q + 24 → x ≠ q + 23 → x ≠ q + 25 → x ≠ q + 28 → x ≠ q + 29 → x ≠ q + 30 → V' x = V x) ∧ (∃ m_le1 : Int32, ∃ m_fo1 : Int32, ∃ wf1 : Nat → Int32, ∃ sf1 : Nat → Int32, ∃ bf1 : Nat → Int32, ∃ df1 : Nat → Int32, ∃ ft1 : Nat → Int32, ∃ fs1 : Nat → Int32, ∃ rw1 : Nat → Int32, ∃ rs1 : Nat → Int32, ∃ L : List (List Int), V' (mo) = some (.inr (13, hm_o q (m_tp) (m_sz) (m_fr) (m_bh) (m_hd) (m_ft) (m_fa) (m_le1) (m_fo1) (m_as) (m_fd) (m_bc) (m_bg) (m_bs) (m_be) (m_b0) (m_b1) (m_cm) (m_hc))) ∧ V' (q + 21) = some (.inl (cs 0, 276, .inl (wf1))) ∧ V' (q + 22) = some (.inl (cs 0, 276, .inl (sf1))) ∧ V' (q + 24) = some (.inl (cs 0, 30, .inl (bf1))) ∧ V' (q + 23) = some (.inl (cs 3, 60, .inl (df1))) ∧ V' (q + 25) = some (.inl (cs 0, 244, .inl (ft1))) ∧ V' (q + 28) = some (.inl (cs 1, 4, .inl (fs1))) ∧ V' (q + 29) = some (.inl (cs 1, 560, .inl (rw1))) ∧ V' (q + 30) = some (.inl (cs 1, 4, .inl (rs1))) ∧ (sp_fo m_fo1 fs1 ft1 L) ∧ (sp_FM (sp_nf 5 v.toInt c9 te.toInt pe.toInt bk.2.2.2 0) (sp_nf 1 v.toInt c9 te.toInt pe.toInt bk.2.2.2 0) (sp_ex w v.toInt c9 te.toInt pe.toInt bk.2.2.2 2) (sp_sa w (-1) (-1) bk.2.2.2 0 (sp_U w bk (sp_nm w t9) (sp_nf 0 v.toInt c9 te.toInt pe.toInt bk.2.2.2 0) (sp_nf 1 v.toInt c9 te.toInt pe.toInt bk.2.2.2 0))) L) ∧ ((0 ≤ m_le1.toInt ∧ m_le1.toInt ≤ 276) ∧ (0 ≤ m_fo1.toInt ∧ m_fo1.toInt ≤ 2))))) ([.ref (mo), .int (v), .int (te), .int (pe)] : List Value).toArray s 0 0 (hp_F B)) (F0 m 242 ls []) from lp242 _ _ _ _ ls (0) (u288) (u289) rfl hZ hP fx296 fx298 fx300 fx302 fx304 fx306 fx308 ho290 ho291 (fun x8 hne0 hne1 hne2 hne3 hne4 hne5 hne6 hne7 hne8 => (fr287 x8 hne7 hne8).trans (fr185 x8 hne0 hne1 hne2 hne3 hne4 hne5 hne6 hne7 hne8)) pk312 (by omega) (by omega) (by have h9 := hrz295; omega) (lv_sub hl [0, 3, 4, 5, 6] rfl)
                      intro k9
                      induction k9 using Nat.strongRecOn with
                      | _ k9 ih242 =>
                        intro V9 H9 locs9 ls i242  rw242 rs242 hk242 hZ hP ho297 ho299 ho301 ho303 ho305 ho307 ho309 ho310 ho311 fr242 pk313 hv315 hv316 hrz242 hl
                        have hb_i242 := hq_rng i242
                        have hf317 := hq_rg20 hP.1 (hr_21 hR) ho299
                        have hf318 := hq_rg20 hP.1 (hr_22 hR) ho301
                        have hf319 := hq_rg20 hP.1 (hr_24 hR) ho303
                        have hf320 := hq_rg20 hP.1 (hr_25 hR) ho307
                        have hf321 := hq_rg hP.1 (hr_28 hR) ho309
                        have hf322 := hq_rg hP.1 (hr_29 hR) ho310
                        have hf323 := hq_rg hP.1 (hr_30 hR) ho311
                        refine lv_iload hx hb dX13_simple_242 (lv_at hl 0 rfl) ?_
                        refine lv_aload_n hx hb dX13_simple_244 rfl (lv_at hl 1 rfl) ?_
                        refine hp_get (v := .ref (q + 2)) hx hb hts hown hZ ho297 fl_X13_10 rfl dX13_simple_245 ?_
                        refine lv_iconst (v := 0) hx hb dX13_simple_248 (by decide) ?_
                        obtain ⟨rf324, hrf325⟩ : ∃ f : Nat → Int32, f = rh 2 := ⟨_, rfl⟩
                        have ea326 : V9 (q + 2) = some (.inl (cs 1, 2, .inl (rf324))) := by rw [hrf325]; exact pk313 2 (by decide)
                        have hra327 := hq_rg hP.1 (hr_2 hR) ea326
                        refine hp_iald hx hb hZ ea326 (by unfold vp_in; decide) dX13_simple_249 ?_
                        refine lv_topi (fun y328 ey329 => ?_)
                        have b330 : hq_ir (hq_lo 8) (hq_hi 8) y328 := by rw [ey329]; exact hra327 _ (by decide)
                        have b330 : 0 ≤ (y328).toInt ∧ (y328).toInt ≤ 60 := b330
                        have b331 : (y328).toInt = (bk.2.2.2.length : Int) := by rw [ey329, hrf325]; exact hBm.2.2.1
                        refine lv_icmp_ge (tgt := 286) hx hb dX13_simple_250 (by decide) (fun c332 => ?_) (fun c332 => ?_)
                        · have c332 : (y328).toInt ≤ (i242).toInt := hq_lei.mp c332
                          refine lv_aload_n hx hb dX13_simple_286 rfl (lv_at hl 1 rfl) ?_
                          refine lv_iconst (v := 1) hx hb dX13_simple_287 (by decide) ?_
                          refine hp_put hx hb hts hown hZ ho297 fp_X13_344 rfl rfl (Nat.le_of_ble_eq_true rfl) dX13_simple_288 (fun V333 _ _ e334 o335 hZ => ?_)
                          have e334 : V333 (mo) = some (.inr (13, hm_o q (m_tp) (m_sz) (m_fr) (m_bh) (m_hd) (m_ft) (m_fa) (z94) (1) (m_as) (m_fd) (m_bc) (m_bg) (m_bs) (m_be) (m_b0) (m_b1) (m_cm) (m_hc))) := e334
                          have hP := hP.put hmo e334 o335 (trivial) rfl
                          have fx336 : V333 (q + 21) = some (.inl (cs 0, 276, .inl (u95))) := (o335 (q + 21) (hq_tne (hr_21 hR) hmo (by simp))).trans (ho299)
                          have fx337 : V333 (q + 22) = some (.inl (cs 0, 276, .inl (u96))) := (o335 (q + 22) (hq_tne (hr_22 hR) hmo (by simp))).trans (ho301)
                          have fx338 : V333 (q + 24) = some (.inl (cs 0, 30, .inl (u97))) := (o335 (q + 24) (hq_tne (hr_24 hR) hmo (by simp))).trans (ho303)
                          have fx339 : V333 (q + 23) = some (.inl (cs 3, 60, .inl (u98))) := (o335 (q + 23) (hq_tne (hr_23 hR) hmo (by simp))).trans (ho305)
                          have fx340 : V333 (q + 25) = some (.inl (cs 0, 244, .inl (ft185))) := (o335 (q + 25) (hq_tne (hr_25 hR) hmo (by simp))).trans (ho307)
                          have fx341 : V333 (q + 28) = some (.inl (cs 1, 4, .inl (fs185))) := (o335 (q + 28) (hq_tne (hr_28 hR) hmo (by simp))).trans (ho309)
                          have fx342 : V333 (q + 29) = some (.inl (cs 1, 560, .inl (rw242))) := (o335 (q + 29) (hq_tne (hr_29 hR) hmo (by simp))).trans (ho310)
                          have fx343 : V333 (q + 30) = some (.inl (cs 1, 4, .inl (rs242))) := (o335 (q + 30) (hq_tne (hr_30 hR) hmo (by simp))).trans (ho311)
                          have hl344 : (1 : Int32).toInt = 1 := by decide
                          exact hp_vret hx hb hr hlocks hZ ⟨rfl, hP, (fun x8 hne0 hne1 hne2 hne3 hne4 hne5 hne6 hne7 hne8 => (o335 x8 hne0).trans (fr242 x8 hne0 hne1 hne2 hne3 hne4 hne5 hne6 hne7 hne8)), z94, 1, u95, u96, u97, u98, ft185, fs185, rw242, rs242, ([] ++ [u1]), e334, fx336, fx337, fx338, fx339, fx340, fx341, fx342, fx343, (hfc9.fin (n1 := 1) (by omega)), Or.inr (Or.inr (Or.inr (Or.inl ⟨by omega, by rw [← hEE]; exact hL0, by rw [← hf1]; assumption, u1, hsa, hpos, rfl⟩))), by omega⟩ dX13_simple_291
                        · have c332 : ¬ (y328).toInt ≤ (i242).toInt := fun h9 => c332 (hq_lei.mpr h9)
                          refine lv_aload_n hx hb dX13_simple_253 rfl (lv_at hl 1 rfl) ?_
                          refine hp_get (v := .ref (q + 10)) hx hb hts hown hZ ho297 fl_X13_29 rfl dX13_simple_254 ?_
                          refine lv_iload hx hb dX13_simple_257 (lv_at hl 0 rfl) ?_
                          obtain ⟨rf345, hrf346⟩ : ∃ f : Nat → Int32, f = rh 10 := ⟨_, rfl⟩
                          have ea347 : V9 (q + 10) = some (.inl (cs 1, 120, .inl (rf345))) := by rw [hrf346]; exact pk313 10 (by decide)
                          have hra348 := hq_rg hP.1 (hr_10 hR) ea347
                          refine hp_iald hx hb hZ ea347 (hq_in (by omega) (by omega)) dX13_simple_259 ?_
                          refine lv_topi (fun y349 ey350 => ?_)
                          have b351 := hq_rng y349
                          refine lv_iconst (v := 2) hx hb dX13_simple_260 (by decide) ?_
                          refine lv_icmp_ne (tgt := 280) hx hb dX13_simple_261 (by decide) (fun c352 => ?_) (fun c352 => ?_)
                          · have c352 : ¬ (y349).toInt = (2 : Int) := fun h9 => c352 (hq_eqi.mpr h9)
                            obtain ⟨y353, ey354⟩ : ∃ y : Int32, y = i242 + (1) := ⟨_, rfl⟩
                            obtain ⟨k355, hk356, b357, b358⟩ := hq_add (i242) (1)
                            rw [← ey354] at hk356 b357 b358
                            have hk356 : (y353).toInt = (i242).toInt + (1) + k355 * 4294967296 := hk356
                            obtain rfl : k355 = 0 := by omega
                            refine lv_iinc (v := y353) (lv' := [(6, .int (y353)), (0, .ref (mo)), (1, .int (v)), (2, .int (te)), (3, .int (pe))]) hx hb dX13_simple_280 hl (k := 0) rfl (by rw [ey354]; rfl) (by decide) rfl (fun ls hl => ?_)
                            refine lv_goto (tgt := 242) hx hb dX13_simple_283 (by decide) ?_
                            exact ih242 _ (by omega) _ _ _ ls (y353) (rw242) (rs242) rfl hZ hP ho297 ho299 ho301 ho303 ho305 ho307 ho309 ho310 ho311 (fun x8 hne0 hne1 hne2 hne3 hne4 hne5 hne6 hne7 hne8 => fr242 x8 hne0 hne1 hne2 hne3 hne4 hne5 hne6 hne7 hne8) pk313 (by omega) (by omega) (by omega) (lv_sub hl [0, 1, 2, 3, 4] rfl)
                          · have c352 : (y349).toInt = (2 : Int) := hq_eqi.mp c352
                            refine lv_aload_n hx hb dX13_simple_264 rfl (lv_at hl 1 rfl) ?_
                            refine hp_get (v := .ref (q + 23)) hx hb hts hown hZ ho297 fl_X13_219 rfl dX13_simple_265 ?_
                            refine lv_iload hx hb dX13_simple_268 (lv_at hl 0 rfl) ?_
                            refine hp_zald hx hb hZ ho305 (hq_in (by omega) (by omega)) dX13_simple_270 ?_
                            refine lv_topi (fun y359 ey360 => ?_)
                            have b361 := hq_rng y359
                            refine lv_if_eq (tgt := 280) hx hb dX13_simple_271 (by decide) (fun c362 => ?_) (fun c362 => ?_)
                            · have c362 : (y359).toInt = (0 : Int) := hq_eqi.mp c362
                              obtain ⟨y363, ey364⟩ : ∃ y : Int32, y = i242 + (1) := ⟨_, rfl⟩
                              obtain ⟨k365, hk366, b367, b368⟩ := hq_add (i242) (1)
                              rw [← ey364] at hk366 b367 b368
                              have hk366 : (y363).toInt = (i242).toInt + (1) + k365 * 4294967296 := hk366
                              obtain rfl : k365 = 0 := by omega
                              refine lv_iinc (v := y363) (lv' := [(6, .int (y363)), (0, .ref (mo)), (1, .int (v)), (2, .int (te)), (3, .int (pe))]) hx hb dX13_simple_280 hl (k := 0) rfl (by rw [ey364]; rfl) (by decide) rfl (fun ls hl => ?_)
                              refine lv_goto (tgt := 242) hx hb dX13_simple_283 (by decide) ?_
                              exact ih242 _ (by omega) _ _ _ ls (y363) (rw242) (rs242) rfl hZ hP ho297 ho299 ho301 ho303 ho305 ho307 ho309 ho310 ho311 (fun x8 hne0 hne1 hne2 hne3 hne4 hne5 hne6 hne7 hne8 => fr242 x8 hne0 hne1 hne2 hne3 hne4 hne5 hne6 hne7 hne8) pk313 (by omega) (by omega) (by omega) (lv_sub hl [0, 1, 2, 3, 4] rfl)
                            · have c362 : ¬ (y359).toInt = (0 : Int) := fun h9 => c362 (hq_eqi.mpr h9)
                              refine lv_aload_n hx hb dX13_simple_274 rfl (lv_at hl 1 rfl) ?_
                              refine lv_iload hx hb dX13_simple_275 (lv_at hl 0 rfl) ?_
                              have b369 := hrz242
                              refine hp_callv (hp_runV (As := [.int (i242)]) (rest := []) hx hb hml hown hts (y_noteR l D cs B G V9 n hP.1 (q) (mo) (m_tp) (m_sz) (m_fr) (m_bh) (m_hd) (m_ft) (m_fa) (z94) (fo21) (m_as) (m_fd) (m_bc) (m_bg) (m_bs) (m_be) (m_b0) (m_b1) (m_cm) (m_hc) (i242) (rw242) (rs242)  ho297 ho310 ho311  hR hmo hmq hfo9 (by omega) (by omega)) hZ ho297 cv_X13_357 rfl rfl ⟨Nat.le_of_ble_eq_true rfl, Nat.le_of_ble_eq_true rfl⟩ rfl hl.1 rfl (Nat.le_of_ble_eq_true rfl) dX13_simple_277 ⟨(Nat.le_of_ble_eq_true rfl), (Nat.le_of_ble_eq_true rfl)⟩) hZ (fun V370 n371 _ _ hw372 hZ => ?_)
                              obtain ⟨rfl, hq374, fr375, u376, u377, ho378, ho379, hp380⟩ := hw372
                              have hP := hP.trans hq374 (fun _ h => Bool.noConfusion h)
                              have hf381 := hq_rg hP.1 (hr_29 hR) ho378
                              have hf382 := hq_rg hP.1 (hr_30 hR) ho379
                              have hrz383 := hp380
                              obtain ⟨y384, ey385⟩ : ∃ y : Int32, y = i242 + (1) := ⟨_, rfl⟩
                              obtain ⟨k386, hk387, b388, b389⟩ := hq_add (i242) (1)
                              rw [← ey385] at hk387 b388 b389
                              have hk387 : (y384).toInt = (i242).toInt + (1) + k386 * 4294967296 := hk387
                              obtain rfl : k386 = 0 := by omega
                              refine lv_iinc (v := y384) (lv' := [(6, .int (y384)), (0, .ref (mo)), (1, .int (v)), (2, .int (te)), (3, .int (pe))]) hx hb dX13_simple_280 hl (k := 0) rfl (by rw [ey385]; rfl) (by decide) rfl (fun ls hl => ?_)
                              refine lv_goto (tgt := 242) hx hb dX13_simple_283 (by decide) ?_
                              have fx390 : V370 (mo) = some (.inr (13, hm_o q (m_tp) (m_sz) (m_fr) (m_bh) (m_hd) (m_ft) (m_fa) (z94) (fo21) (m_as) (m_fd) (m_bc) (m_bg) (m_bs) (m_be) (m_b0) (m_b1) (m_cm) (m_hc))) := (fr375 (mo) (hq_tne hmo (hr_29 hR) (by simp)) (hq_tne hmo (hr_30 hR) (by simp))).trans (ho297)
                              have fx391 : V370 (q + 21) = some (.inl (cs 0, 276, .inl (u95))) := (fr375 (q + 21) (hq_tne (hr_21 hR) (hr_29 hR) (by simp)) (hq_tne (hr_21 hR) (hr_30 hR) (by simp))).trans (ho299)
                              have fx392 : V370 (q + 22) = some (.inl (cs 0, 276, .inl (u96))) := (fr375 (q + 22) (hq_tne (hr_22 hR) (hr_29 hR) (by simp)) (hq_tne (hr_22 hR) (hr_30 hR) (by simp))).trans (ho301)
                              have fx393 : V370 (q + 24) = some (.inl (cs 0, 30, .inl (u97))) := (fr375 (q + 24) (hq_tne (hr_24 hR) (hr_29 hR) (by simp)) (hq_tne (hr_24 hR) (hr_30 hR) (by simp))).trans (ho303)
                              have fx394 : V370 (q + 23) = some (.inl (cs 3, 60, .inl (u98))) := (fr375 (q + 23) (hq_tne (hr_23 hR) (hr_29 hR) (by simp)) (hq_tne (hr_23 hR) (hr_30 hR) (by simp))).trans (ho305)
                              have fx395 : V370 (q + 25) = some (.inl (cs 0, 244, .inl (ft185))) := (fr375 (q + 25) (hq_tne (hr_25 hR) (hr_29 hR) (by simp)) (hq_tne (hr_25 hR) (hr_30 hR) (by simp))).trans (ho307)
                              have fx396 : V370 (q + 28) = some (.inl (cs 1, 4, .inl (fs185))) := (fr375 (q + 28) (hq_tne (hr_28 hR) (hr_29 hR) (by simp)) (hq_tne (hr_28 hR) (hr_30 hR) (by simp))).trans (ho309)
                              have pk397 := pk313.keep (fun x7 (hx7 : q ≤ x7 ∧ x7 < q + 19) => fr375 x7 (by omega) (by omega))
                              exact ih242 _ (by omega) _ _ _ ls (y384) (u376) (u377) rfl hZ hP fx390 fx391 fx392 fx393 fx394 fx395 fx396 ho378 ho379 (fun x8 hne0 hne1 hne2 hne3 hne4 hne5 hne6 hne7 hne8 => (fr375 x8 hne7 hne8).trans (fr242 x8 hne0 hne1 hne2 hne3 hne4 hne5 hne6 hne7 hne8)) pk397 (by omega) (by omega) (by have h9 := hrz383; omega) (lv_sub hl [0, 1, 2, 3, 4] rfl)
                    · have c280 : ¬ (y277).toInt = (0 : Int) := fun h9 => c280 (hq_eqi.mpr h9)
                      refine lv_aload_n hx hb dX13_simple_227 rfl (lv_at hl 3 rfl) ?_
                      refine lv_iload hx hb dX13_simple_228 (lv_at hl 1 rfl) ?_
                      have b398 := hrz185
                      refine hp_callv (hp_runV (As := [.int (r79)]) (rest := []) hx hb hml hown hts (y_noteR l D cs B G V9 n hP.1 (q) (mo) (m_tp) (m_sz) (m_fr) (m_bh) (m_hd) (m_ft) (m_fa) (z94) (fo21) (m_as) (m_fd) (m_bc) (m_bg) (m_bs) (m_be) (m_b0) (m_b1) (m_cm) (m_hc) (r79) (rw21) (rs185)  ho131 ho144 ho145  hR hmo hmq hfo9 (by omega) (by first | exact hm_fi hrh1 (by assumption) hll9 | exact hm_fi hrh0 (by assumption) hll9 | omega)) hZ ho131 cv_X13_357 rfl rfl ⟨Nat.le_of_ble_eq_true rfl, Nat.le_of_ble_eq_true rfl⟩ rfl hl.1 rfl (Nat.le_of_ble_eq_true rfl) dX13_simple_230 ⟨(Nat.le_of_ble_eq_true rfl), (Nat.le_of_ble_eq_true rfl)⟩) hZ (fun V399 n400 _ _ hw401 hZ => ?_)
                      obtain ⟨rfl, hq403, fr404, u405, u406, ho407, ho408, hp409⟩ := hw401
                      have hP := hP.trans hq403 (fun _ h => Bool.noConfusion h)
                      have hf410 := hq_rg hP.1 (hr_29 hR) ho407
                      have hf411 := hq_rg hP.1 (hr_30 hR) ho408
                      have hrz412 := hp409
                      refine lv_aload_n hx hb dX13_simple_233 rfl (lv_at hl 3 rfl) ?_
                      refine lv_iload hx hb dX13_simple_234 (lv_at hl 2 rfl) ?_
                      have b413 := hrz412
                      have fx414 : V399 (mo) = some (.inr (13, hm_o q (m_tp) (m_sz) (m_fr) (m_bh) (m_hd) (m_ft) (m_fa) (z94) (fo21) (m_as) (m_fd) (m_bc) (m_bg) (m_bs) (m_be) (m_b0) (m_b1) (m_cm) (m_hc))) := (fr404 (mo) (hq_tne hmo (hr_29 hR) (by simp)) (hq_tne hmo (hr_30 hR) (by simp))).trans (ho131)
                      refine hp_callv (hp_runV (As := [.int (r70)]) (rest := []) hx hb hml hown hts (y_noteR l D cs B G V399 n hP.1 (q) (mo) (m_tp) (m_sz) (m_fr) (m_bh) (m_hd) (m_ft) (m_fa) (z94) (fo21) (m_as) (m_fd) (m_bc) (m_bg) (m_bs) (m_be) (m_b0) (m_b1) (m_cm) (m_hc) (r70) (u405) (u406)  fx414 ho407 ho408  hR hmo hmq hfo9 (by omega) (by first | exact hm_fi hrh1 (by assumption) hll9 | exact hm_fi hrh0 (by assumption) hll9 | omega)) hZ fx414 cv_X13_357 rfl rfl ⟨Nat.le_of_ble_eq_true rfl, Nat.le_of_ble_eq_true rfl⟩ rfl hl.1 rfl (Nat.le_of_ble_eq_true rfl) dX13_simple_236 ⟨(Nat.le_of_ble_eq_true rfl), (Nat.le_of_ble_eq_true rfl)⟩) hZ (fun V415 n416 _ _ hw417 hZ => ?_)
                      obtain ⟨rfl, hq419, fr420, u421, u422, ho423, ho424, hp425⟩ := hw417
                      have hP := hP.trans hq419 (fun _ h => Bool.noConfusion h)
                      have hf426 := hq_rg hP.1 (hr_29 hR) ho423
                      have hf427 := hq_rg hP.1 (hr_30 hR) ho424
                      have hrz428 := hp425
                      refine lv_iconst (v := 0) hx hb dX13_simple_239 (by decide) ?_
                      refine lv_istore (lv' := [(6, .int (0)), (5, .int (r79)), (4, .int (r70)), (0, .ref (mo)), (1, .int (v)), (2, .int (te)), (3, .int (pe))]) hx hb dX13_simple_240 hl (by decide) rfl (fun ls hl => ?_)
                      have fx429 : V415 (mo) = some (.inr (13, hm_o q (m_tp) (m_sz) (m_fr) (m_bh) (m_hd) (m_ft) (m_fa) (z94) (fo21) (m_as) (m_fd) (m_bc) (m_bg) (m_bs) (m_be) (m_b0) (m_b1) (m_cm) (m_hc))) := (fr420 (mo) (hq_tne hmo (hr_29 hR) (by simp)) (hq_tne hmo (hr_30 hR) (by simp))).trans (fx414)
                      have fx431 : V415 (q + 21) = some (.inl (cs 0, 276, .inl (u95))) := (fr420 (q + 21) (hq_tne (hr_21 hR) (hr_29 hR) (by simp)) (hq_tne (hr_21 hR) (hr_30 hR) (by simp))).trans ((fr404 (q + 21) (hq_tne (hr_21 hR) (hr_29 hR) (by simp)) (hq_tne (hr_21 hR) (hr_30 hR) (by simp))).trans (ho133))
                      have fx433 : V415 (q + 22) = some (.inl (cs 0, 276, .inl (u96))) := (fr420 (q + 22) (hq_tne (hr_22 hR) (hr_29 hR) (by simp)) (hq_tne (hr_22 hR) (hr_30 hR) (by simp))).trans ((fr404 (q + 22) (hq_tne (hr_22 hR) (hr_29 hR) (by simp)) (hq_tne (hr_22 hR) (hr_30 hR) (by simp))).trans (ho135))
                      have fx435 : V415 (q + 24) = some (.inl (cs 0, 30, .inl (u97))) := (fr420 (q + 24) (hq_tne (hr_24 hR) (hr_29 hR) (by simp)) (hq_tne (hr_24 hR) (hr_30 hR) (by simp))).trans ((fr404 (q + 24) (hq_tne (hr_24 hR) (hr_29 hR) (by simp)) (hq_tne (hr_24 hR) (hr_30 hR) (by simp))).trans (ho137))
                      have fx437 : V415 (q + 23) = some (.inl (cs 3, 60, .inl (u98))) := (fr420 (q + 23) (hq_tne (hr_23 hR) (hr_29 hR) (by simp)) (hq_tne (hr_23 hR) (hr_30 hR) (by simp))).trans ((fr404 (q + 23) (hq_tne (hr_23 hR) (hr_29 hR) (by simp)) (hq_tne (hr_23 hR) (hr_30 hR) (by simp))).trans (ho139))
                      have fx439 : V415 (q + 25) = some (.inl (cs 0, 244, .inl (ft185))) := (fr420 (q + 25) (hq_tne (hr_25 hR) (hr_29 hR) (by simp)) (hq_tne (hr_25 hR) (hr_30 hR) (by simp))).trans ((fr404 (q + 25) (hq_tne (hr_25 hR) (hr_29 hR) (by simp)) (hq_tne (hr_25 hR) (hr_30 hR) (by simp))).trans (ho141))
                      have fx441 : V415 (q + 28) = some (.inl (cs 1, 4, .inl (fs185))) := (fr420 (q + 28) (hq_tne (hr_28 hR) (hr_29 hR) (by simp)) (hq_tne (hr_28 hR) (hr_30 hR) (by simp))).trans ((fr404 (q + 28) (hq_tne (hr_28 hR) (hr_29 hR) (by simp)) (hq_tne (hr_28 hR) (hr_30 hR) (by simp))).trans (ho142))
                      have pk445 := pk147.keep (fun x7 (hx7 : q ≤ x7 ∧ x7 < q + 19) => (fr420 x7 (by omega) (by omega)).trans (fr404 x7 (by omega) (by omega)))
                      have hl447 : (0 : Int32).toInt = 0 := by decide
                      suffices lp242 : ∀ (k9 : Nat) (V9 : hp_V) (H9 : Heap) (locs9 : List Loc) (ls : Array Slot) (i242 : Int32) (rw242 : Nat → Int32) (rs242 : Nat → Int32), (1000 - i242.toInt).toNat = k9 → hp_Z D cs B s V9 H9 n locs9 → hq_P cs G (fun _ => true) V V9 → V9 (mo) = some (.inr (13, hm_o q (m_tp) (m_sz) (m_fr) (m_bh) (m_hd) (m_ft) (m_fa) (z94) (fo21) (m_as) (m_fd) (m_bc) (m_bg) (m_bs) (m_be) (m_b0) (m_b1) (m_cm) (m_hc))) → V9 (q + 21) = some (.inl (cs 0, 276, .inl (u95))) → V9 (q + 22) = some (.inl (cs 0, 276, .inl (u96))) → V9 (q + 24) = some (.inl (cs 0, 30, .inl (u97))) → V9 (q + 23) = some (.inl (cs 3, 60, .inl (u98))) → V9 (q + 25) = some (.inl (cs 0, 244, .inl (ft185))) → V9 (q + 28) = some (.inl (cs 1, 4, .inl (fs185))) → V9 (q + 29) = some (.inl (cs 1, 560, .inl (rw242))) → V9 (q + 30) = some (.inl (cs 1, 4, .inl (rs242))) → (∀ x, x ≠ mo → x ≠ q + 21 → x ≠ q + 22 → x ≠ q + 24 → x ≠ q + 23 → x ≠ q + 25 → x ≠ q + 28 → x ≠ q + 29 → x ≠ q + 30 → V9 x = V x) → hm_AR cs V9 q rh → 0 ≤ i242.toInt → i242.toInt ≤ (bk.2.2.2.length : Int) → (0 ≤ (rs242 (fo21).toNatClampNeg).toInt ∧ (rs242 (fo21).toNatClampNeg).toInt ≤ 2 + i242.toInt) → lv_has ls 7 [(6, .int (i242)), (0, .ref (mo)), (1, .int (v)), (2, .int (te)), (3, .int (pe))] → W p l e ({ frames := 4, cells := 0, slots := 0, locals := 95 }) s m ([.ref (mo), .int (v), .int (te), .int (pe)] : List Value).toArray below meth c H9 locs9 0 0 (MQ below (hp_QV D cs B (fun V' n' => n = n' ∧ hq_P cs G (fun _ => true) V V' ∧ (∀ x, x ≠ mo → x ≠ q + 21 → x ≠ q + 22 → x ≠ q + 24 → x ≠ q + 23 → x ≠ q + 25 → x ≠ q + 28 → x ≠ q + 29 → x ≠ q + 30 → V' x = V x) ∧ (∃ m_le1 : Int32, ∃ m_fo1 : Int32, ∃ wf1 : Nat → Int32, ∃ sf1 : Nat → Int32, ∃ bf1 : Nat → Int32, ∃ df1 : Nat → Int32, ∃ ft1 : Nat → Int32, ∃ fs1 : Nat → Int32, ∃ rw1 : Nat → Int32, ∃ rs1 : Nat → Int32, ∃ L : List (List Int), V' (mo) = some (.inr (13, hm_o q (m_tp) (m_sz) (m_fr) (m_bh) (m_hd) (m_ft) (m_fa) (m_le1) (m_fo1) (m_as) (m_fd) (m_bc) (m_bg) (m_bs) (m_be) (m_b0) (m_b1) (m_cm) (m_hc))) ∧ V' (q + 21) = some (.inl (cs 0, 276, .inl (wf1))) ∧ V' (q + 22) = some (.inl (cs 0, 276, .inl (sf1))) ∧ V' (q + 24) = some (.inl (cs 0, 30, .inl (bf1))) ∧ V' (q + 23) = some (.inl (cs 3, 60, .inl (df1))) ∧ V' (q + 25) = some (.inl (cs 0, 244, .inl (ft1))) ∧ V' (q + 28) = some (.inl (cs 1, 4, .inl (fs1))) ∧ V' (q + 29) = some (.inl (cs 1, 560, .inl (rw1))) ∧ V' (q + 30) = some (.inl (cs 1, 4, .inl (rs1))) ∧ (sp_fo m_fo1 fs1 ft1 L) ∧ (sp_FM (sp_nf 5 v.toInt c9 te.toInt pe.toInt bk.2.2.2 0) (sp_nf 1 v.toInt c9 te.toInt pe.toInt bk.2.2.2 0) (sp_ex w v.toInt c9 te.toInt pe.toInt bk.2.2.2 2) (sp_sa w (-1) (-1) bk.2.2.2 0 (sp_U w bk (sp_nm w t9) (sp_nf 0 v.toInt c9 te.toInt pe.toInt bk.2.2.2 0) (sp_nf 1 v.toInt c9 te.toInt pe.toInt bk.2.2.2 0))) L) ∧ ((0 ≤ m_le1.toInt ∧ m_le1.toInt ≤ 276) ∧ (0 ≤ m_fo1.toInt ∧ m_fo1.toInt ≤ 2))))) ([.ref (mo), .int (v), .int (te), .int (pe)] : List Value).toArray s 0 0 (hp_F B)) (F0 m 242 ls []) from lp242 _ _ _ _ ls (0) (u421) (u422) rfl hZ hP fx429 fx431 fx433 fx435 fx437 fx439 fx441 ho423 ho424 (fun x8 hne0 hne1 hne2 hne3 hne4 hne5 hne6 hne7 hne8 => (fr420 x8 hne7 hne8).trans ((fr404 x8 hne7 hne8).trans (fr185 x8 hne0 hne1 hne2 hne3 hne4 hne5 hne6 hne7 hne8))) pk445 (by omega) (by omega) (by have h9 := hrz428; omega) (lv_sub hl [0, 3, 4, 5, 6] rfl)
                      intro k9
                      induction k9 using Nat.strongRecOn with
                      | _ k9 ih242 =>
                        intro V9 H9 locs9 ls i242  rw242 rs242 hk242 hZ hP ho430 ho432 ho434 ho436 ho438 ho440 ho442 ho443 ho444 fr242 pk446 hv448 hv449 hrz242 hl
                        have hb_i242 := hq_rng i242
                        have hf450 := hq_rg20 hP.1 (hr_21 hR) ho432
                        have hf451 := hq_rg20 hP.1 (hr_22 hR) ho434
                        have hf452 := hq_rg20 hP.1 (hr_24 hR) ho436
                        have hf453 := hq_rg20 hP.1 (hr_25 hR) ho440
                        have hf454 := hq_rg hP.1 (hr_28 hR) ho442
                        have hf455 := hq_rg hP.1 (hr_29 hR) ho443
                        have hf456 := hq_rg hP.1 (hr_30 hR) ho444
                        refine lv_iload hx hb dX13_simple_242 (lv_at hl 0 rfl) ?_
                        refine lv_aload_n hx hb dX13_simple_244 rfl (lv_at hl 1 rfl) ?_
                        refine hp_get (v := .ref (q + 2)) hx hb hts hown hZ ho430 fl_X13_10 rfl dX13_simple_245 ?_
                        refine lv_iconst (v := 0) hx hb dX13_simple_248 (by decide) ?_
                        obtain ⟨rf457, hrf458⟩ : ∃ f : Nat → Int32, f = rh 2 := ⟨_, rfl⟩
                        have ea459 : V9 (q + 2) = some (.inl (cs 1, 2, .inl (rf457))) := by rw [hrf458]; exact pk446 2 (by decide)
                        have hra460 := hq_rg hP.1 (hr_2 hR) ea459
                        refine hp_iald hx hb hZ ea459 (by unfold vp_in; decide) dX13_simple_249 ?_
                        refine lv_topi (fun y461 ey462 => ?_)
                        have b463 : hq_ir (hq_lo 8) (hq_hi 8) y461 := by rw [ey462]; exact hra460 _ (by decide)
                        have b463 : 0 ≤ (y461).toInt ∧ (y461).toInt ≤ 60 := b463
                        have b464 : (y461).toInt = (bk.2.2.2.length : Int) := by rw [ey462, hrf458]; exact hBm.2.2.1
                        refine lv_icmp_ge (tgt := 286) hx hb dX13_simple_250 (by decide) (fun c465 => ?_) (fun c465 => ?_)
                        · have c465 : (y461).toInt ≤ (i242).toInt := hq_lei.mp c465
                          refine lv_aload_n hx hb dX13_simple_286 rfl (lv_at hl 1 rfl) ?_
                          refine lv_iconst (v := 1) hx hb dX13_simple_287 (by decide) ?_
                          refine hp_put hx hb hts hown hZ ho430 fp_X13_344 rfl rfl (Nat.le_of_ble_eq_true rfl) dX13_simple_288 (fun V466 _ _ e467 o468 hZ => ?_)
                          have e467 : V466 (mo) = some (.inr (13, hm_o q (m_tp) (m_sz) (m_fr) (m_bh) (m_hd) (m_ft) (m_fa) (z94) (1) (m_as) (m_fd) (m_bc) (m_bg) (m_bs) (m_be) (m_b0) (m_b1) (m_cm) (m_hc))) := e467
                          have hP := hP.put hmo e467 o468 (trivial) rfl
                          have fx469 : V466 (q + 21) = some (.inl (cs 0, 276, .inl (u95))) := (o468 (q + 21) (hq_tne (hr_21 hR) hmo (by simp))).trans (ho432)
                          have fx470 : V466 (q + 22) = some (.inl (cs 0, 276, .inl (u96))) := (o468 (q + 22) (hq_tne (hr_22 hR) hmo (by simp))).trans (ho434)
                          have fx471 : V466 (q + 24) = some (.inl (cs 0, 30, .inl (u97))) := (o468 (q + 24) (hq_tne (hr_24 hR) hmo (by simp))).trans (ho436)
                          have fx472 : V466 (q + 23) = some (.inl (cs 3, 60, .inl (u98))) := (o468 (q + 23) (hq_tne (hr_23 hR) hmo (by simp))).trans (ho438)
                          have fx473 : V466 (q + 25) = some (.inl (cs 0, 244, .inl (ft185))) := (o468 (q + 25) (hq_tne (hr_25 hR) hmo (by simp))).trans (ho440)
                          have fx474 : V466 (q + 28) = some (.inl (cs 1, 4, .inl (fs185))) := (o468 (q + 28) (hq_tne (hr_28 hR) hmo (by simp))).trans (ho442)
                          have fx475 : V466 (q + 29) = some (.inl (cs 1, 560, .inl (rw242))) := (o468 (q + 29) (hq_tne (hr_29 hR) hmo (by simp))).trans (ho443)
                          have fx476 : V466 (q + 30) = some (.inl (cs 1, 4, .inl (rs242))) := (o468 (q + 30) (hq_tne (hr_30 hR) hmo (by simp))).trans (ho444)
                          have hl477 : (1 : Int32).toInt = 1 := by decide
                          exact hp_vret hx hb hr hlocks hZ ⟨rfl, hP, (fun x8 hne0 hne1 hne2 hne3 hne4 hne5 hne6 hne7 hne8 => (o468 x8 hne0).trans (fr242 x8 hne0 hne1 hne2 hne3 hne4 hne5 hne6 hne7 hne8)), z94, 1, u95, u96, u97, u98, ft185, fs185, rw242, rs242, ([] ++ [u1]), e467, fx469, fx470, fx471, fx472, fx473, fx474, fx475, fx476, (hfc9.fin (n1 := 1) (by omega)), Or.inr (Or.inr (Or.inr (Or.inl ⟨by omega, by rw [← hEE]; exact hL0, by rw [← hf1]; assumption, u1, hsa, hpos, rfl⟩))), by omega⟩ dX13_simple_291
                        · have c465 : ¬ (y461).toInt ≤ (i242).toInt := fun h9 => c465 (hq_lei.mpr h9)
                          refine lv_aload_n hx hb dX13_simple_253 rfl (lv_at hl 1 rfl) ?_
                          refine hp_get (v := .ref (q + 10)) hx hb hts hown hZ ho430 fl_X13_29 rfl dX13_simple_254 ?_
                          refine lv_iload hx hb dX13_simple_257 (lv_at hl 0 rfl) ?_
                          obtain ⟨rf478, hrf479⟩ : ∃ f : Nat → Int32, f = rh 10 := ⟨_, rfl⟩
                          have ea480 : V9 (q + 10) = some (.inl (cs 1, 120, .inl (rf478))) := by rw [hrf479]; exact pk446 10 (by decide)
                          have hra481 := hq_rg hP.1 (hr_10 hR) ea480
                          refine hp_iald hx hb hZ ea480 (hq_in (by omega) (by omega)) dX13_simple_259 ?_
                          refine lv_topi (fun y482 ey483 => ?_)
                          have b484 := hq_rng y482
                          refine lv_iconst (v := 2) hx hb dX13_simple_260 (by decide) ?_
                          refine lv_icmp_ne (tgt := 280) hx hb dX13_simple_261 (by decide) (fun c485 => ?_) (fun c485 => ?_)
                          · have c485 : ¬ (y482).toInt = (2 : Int) := fun h9 => c485 (hq_eqi.mpr h9)
                            obtain ⟨y486, ey487⟩ : ∃ y : Int32, y = i242 + (1) := ⟨_, rfl⟩
                            obtain ⟨k488, hk489, b490, b491⟩ := hq_add (i242) (1)
                            rw [← ey487] at hk489 b490 b491
                            have hk489 : (y486).toInt = (i242).toInt + (1) + k488 * 4294967296 := hk489
                            obtain rfl : k488 = 0 := by omega
                            refine lv_iinc (v := y486) (lv' := [(6, .int (y486)), (0, .ref (mo)), (1, .int (v)), (2, .int (te)), (3, .int (pe))]) hx hb dX13_simple_280 hl (k := 0) rfl (by rw [ey487]; rfl) (by decide) rfl (fun ls hl => ?_)
                            refine lv_goto (tgt := 242) hx hb dX13_simple_283 (by decide) ?_
                            exact ih242 _ (by omega) _ _ _ ls (y486) (rw242) (rs242) rfl hZ hP ho430 ho432 ho434 ho436 ho438 ho440 ho442 ho443 ho444 (fun x8 hne0 hne1 hne2 hne3 hne4 hne5 hne6 hne7 hne8 => fr242 x8 hne0 hne1 hne2 hne3 hne4 hne5 hne6 hne7 hne8) pk446 (by omega) (by omega) (by omega) (lv_sub hl [0, 1, 2, 3, 4] rfl)
                          · have c485 : (y482).toInt = (2 : Int) := hq_eqi.mp c485
                            refine lv_aload_n hx hb dX13_simple_264 rfl (lv_at hl 1 rfl) ?_
                            refine hp_get (v := .ref (q + 23)) hx hb hts hown hZ ho430 fl_X13_219 rfl dX13_simple_265 ?_
                            refine lv_iload hx hb dX13_simple_268 (lv_at hl 0 rfl) ?_
                            refine hp_zald hx hb hZ ho438 (hq_in (by omega) (by omega)) dX13_simple_270 ?_
                            refine lv_topi (fun y492 ey493 => ?_)
                            have b494 := hq_rng y492
                            refine lv_if_eq (tgt := 280) hx hb dX13_simple_271 (by decide) (fun c495 => ?_) (fun c495 => ?_)
                            · have c495 : (y492).toInt = (0 : Int) := hq_eqi.mp c495
                              obtain ⟨y496, ey497⟩ : ∃ y : Int32, y = i242 + (1) := ⟨_, rfl⟩
                              obtain ⟨k498, hk499, b500, b501⟩ := hq_add (i242) (1)
                              rw [← ey497] at hk499 b500 b501
                              have hk499 : (y496).toInt = (i242).toInt + (1) + k498 * 4294967296 := hk499
                              obtain rfl : k498 = 0 := by omega
                              refine lv_iinc (v := y496) (lv' := [(6, .int (y496)), (0, .ref (mo)), (1, .int (v)), (2, .int (te)), (3, .int (pe))]) hx hb dX13_simple_280 hl (k := 0) rfl (by rw [ey497]; rfl) (by decide) rfl (fun ls hl => ?_)
                              refine lv_goto (tgt := 242) hx hb dX13_simple_283 (by decide) ?_
                              exact ih242 _ (by omega) _ _ _ ls (y496) (rw242) (rs242) rfl hZ hP ho430 ho432 ho434 ho436 ho438 ho440 ho442 ho443 ho444 (fun x8 hne0 hne1 hne2 hne3 hne4 hne5 hne6 hne7 hne8 => fr242 x8 hne0 hne1 hne2 hne3 hne4 hne5 hne6 hne7 hne8) pk446 (by omega) (by omega) (by omega) (lv_sub hl [0, 1, 2, 3, 4] rfl)
                            · have c495 : ¬ (y492).toInt = (0 : Int) := fun h9 => c495 (hq_eqi.mpr h9)
                              refine lv_aload_n hx hb dX13_simple_274 rfl (lv_at hl 1 rfl) ?_
                              refine lv_iload hx hb dX13_simple_275 (lv_at hl 0 rfl) ?_
                              have b502 := hrz242
                              refine hp_callv (hp_runV (As := [.int (i242)]) (rest := []) hx hb hml hown hts (y_noteR l D cs B G V9 n hP.1 (q) (mo) (m_tp) (m_sz) (m_fr) (m_bh) (m_hd) (m_ft) (m_fa) (z94) (fo21) (m_as) (m_fd) (m_bc) (m_bg) (m_bs) (m_be) (m_b0) (m_b1) (m_cm) (m_hc) (i242) (rw242) (rs242)  ho430 ho443 ho444  hR hmo hmq hfo9 (by omega) (by omega)) hZ ho430 cv_X13_357 rfl rfl ⟨Nat.le_of_ble_eq_true rfl, Nat.le_of_ble_eq_true rfl⟩ rfl hl.1 rfl (Nat.le_of_ble_eq_true rfl) dX13_simple_277 ⟨(Nat.le_of_ble_eq_true rfl), (Nat.le_of_ble_eq_true rfl)⟩) hZ (fun V503 n504 _ _ hw505 hZ => ?_)
                              obtain ⟨rfl, hq507, fr508, u509, u510, ho511, ho512, hp513⟩ := hw505
                              have hP := hP.trans hq507 (fun _ h => Bool.noConfusion h)
                              have hf514 := hq_rg hP.1 (hr_29 hR) ho511
                              have hf515 := hq_rg hP.1 (hr_30 hR) ho512
                              have hrz516 := hp513
                              obtain ⟨y517, ey518⟩ : ∃ y : Int32, y = i242 + (1) := ⟨_, rfl⟩
                              obtain ⟨k519, hk520, b521, b522⟩ := hq_add (i242) (1)
                              rw [← ey518] at hk520 b521 b522
                              have hk520 : (y517).toInt = (i242).toInt + (1) + k519 * 4294967296 := hk520
                              obtain rfl : k519 = 0 := by omega
                              refine lv_iinc (v := y517) (lv' := [(6, .int (y517)), (0, .ref (mo)), (1, .int (v)), (2, .int (te)), (3, .int (pe))]) hx hb dX13_simple_280 hl (k := 0) rfl (by rw [ey518]; rfl) (by decide) rfl (fun ls hl => ?_)
                              refine lv_goto (tgt := 242) hx hb dX13_simple_283 (by decide) ?_
                              have fx523 : V503 (mo) = some (.inr (13, hm_o q (m_tp) (m_sz) (m_fr) (m_bh) (m_hd) (m_ft) (m_fa) (z94) (fo21) (m_as) (m_fd) (m_bc) (m_bg) (m_bs) (m_be) (m_b0) (m_b1) (m_cm) (m_hc))) := (fr508 (mo) (hq_tne hmo (hr_29 hR) (by simp)) (hq_tne hmo (hr_30 hR) (by simp))).trans (ho430)
                              have fx524 : V503 (q + 21) = some (.inl (cs 0, 276, .inl (u95))) := (fr508 (q + 21) (hq_tne (hr_21 hR) (hr_29 hR) (by simp)) (hq_tne (hr_21 hR) (hr_30 hR) (by simp))).trans (ho432)
                              have fx525 : V503 (q + 22) = some (.inl (cs 0, 276, .inl (u96))) := (fr508 (q + 22) (hq_tne (hr_22 hR) (hr_29 hR) (by simp)) (hq_tne (hr_22 hR) (hr_30 hR) (by simp))).trans (ho434)
                              have fx526 : V503 (q + 24) = some (.inl (cs 0, 30, .inl (u97))) := (fr508 (q + 24) (hq_tne (hr_24 hR) (hr_29 hR) (by simp)) (hq_tne (hr_24 hR) (hr_30 hR) (by simp))).trans (ho436)
                              have fx527 : V503 (q + 23) = some (.inl (cs 3, 60, .inl (u98))) := (fr508 (q + 23) (hq_tne (hr_23 hR) (hr_29 hR) (by simp)) (hq_tne (hr_23 hR) (hr_30 hR) (by simp))).trans (ho438)
                              have fx528 : V503 (q + 25) = some (.inl (cs 0, 244, .inl (ft185))) := (fr508 (q + 25) (hq_tne (hr_25 hR) (hr_29 hR) (by simp)) (hq_tne (hr_25 hR) (hr_30 hR) (by simp))).trans (ho440)
                              have fx529 : V503 (q + 28) = some (.inl (cs 1, 4, .inl (fs185))) := (fr508 (q + 28) (hq_tne (hr_28 hR) (hr_29 hR) (by simp)) (hq_tne (hr_28 hR) (hr_30 hR) (by simp))).trans (ho442)
                              have pk530 := pk446.keep (fun x7 (hx7 : q ≤ x7 ∧ x7 < q + 19) => fr508 x7 (by omega) (by omega))
                              exact ih242 _ (by omega) _ _ _ ls (y517) (u509) (u510) rfl hZ hP fx523 fx524 fx525 fx526 fx527 fx528 fx529 ho511 ho512 (fun x8 hne0 hne1 hne2 hne3 hne4 hne5 hne6 hne7 hne8 => (fr508 x8 hne7 hne8).trans (fr242 x8 hne0 hne1 hne2 hne3 hne4 hne5 hne6 hne7 hne8)) pk530 (by omega) (by omega) (by have h9 := hrz516; omega) (lv_sub hl [0, 1, 2, 3, 4] rfl)
                · have c158 : ¬ (z94).toInt ≤ (i185).toInt := fun h9 => c158 (hq_lei.mpr h9)
                  refine lv_aload_n hx hb dX13_simple_194 rfl (lv_at hl 3 rfl) ?_
                  refine lv_aload_n hx hb dX13_simple_195 rfl (lv_at hl 3 rfl) ?_
                  refine hp_get (v := .ref (q + 21)) hx hb hts hown hZ ho131 fl_X13_213 rfl dX13_simple_196 ?_
                  refine lv_iload hx hb dX13_simple_199 (lv_at hl 0 rfl) ?_
                  refine hp_bald hx hb hZ ho133 (hq_in (by omega) (by omega)) dX13_simple_201 ?_
                  refine lv_topi (fun y531 ey532 => ?_)
                  have b533 := hq_rng y531
                  have h8i := (hq_nn (z := i185) (by omega)).1
                  obtain ⟨x9, hx9⟩ : ∃ x, u1[i185.toInt.toNat]? = some x := ⟨_, List.getElem?_eq_getElem (by omega)⟩
                  have hvx : (y531).toInt = x9 := by rw [ey532]; exact hrp.2 _ _ hx9
                  refine hp_callv (hp_runV (As := [.int (y531)]) (rest := []) hx hb hml hown hts (y_say l D cs B G V9 n hP.1 (q) (mo) (m_tp) (m_sz) (m_fr) (m_bh) (m_hd) (m_ft) (m_fa) (z94) (fo21) (m_as) (m_fd) (m_bc) (m_bg) (m_bs) (m_be) (m_b0) (m_b1) (m_cm) (m_hc) (y531) (fs185) (ft185) ([]) ((u1.take i185.toInt.toNat))  ho131 ho141 ho142  hR hmo hmq hfc185 (by decide) (by omega) (by rw [hvx]; exact hub1 _ _ hx9)) hZ ho131 cv_X13_354 rfl rfl ⟨Nat.le_of_ble_eq_true rfl, Nat.le_of_ble_eq_true rfl⟩ rfl hl.1 rfl (Nat.le_of_ble_eq_true rfl) dX13_simple_202 ⟨(Nat.le_of_ble_eq_true rfl), (Nat.le_of_ble_eq_true rfl)⟩) hZ (fun V534 n535 _ _ hw536 hZ => ?_)
                  obtain ⟨rfl, hq538, fr539, u540, u541, ho542, ho543, hp544⟩ := hw536
                  have hP := hP.trans hq538 (fun _ h => Bool.noConfusion h)
                  have hf545 := hq_rg20 hP.1 (hr_25 hR) ho542
                  have hf546 := hq_rg hP.1 (hr_28 hR) ho543
                  obtain ⟨y547, ey548⟩ : ∃ y : Int32, y = i185 + (1) := ⟨_, rfl⟩
                  obtain ⟨k549, hk550, b551, b552⟩ := hq_add (i185) (1)
                  rw [← ey548] at hk550 b551 b552
                  have hk550 : (y547).toInt = (i185).toInt + (1) + k549 * 4294967296 := hk550
                  obtain rfl : k549 = 0 := by omega
                  refine lv_iinc (v := y547) (lv' := [(6, .int (y547)), (5, .int (r79)), (4, .int (r70)), (0, .ref (mo)), (1, .int (v)), (2, .int (te)), (3, .int (pe))]) hx hb dX13_simple_205 hl (k := 0) rfl (by rw [ey548]; rfl) (by decide) rfl (fun ls hl => ?_)
                  refine lv_goto (tgt := 185) hx hb dX13_simple_208 (by decide) ?_
                  have fx553 : V534 (mo) = some (.inr (13, hm_o q (m_tp) (m_sz) (m_fr) (m_bh) (m_hd) (m_ft) (m_fa) (z94) (fo21) (m_as) (m_fd) (m_bc) (m_bg) (m_bs) (m_be) (m_b0) (m_b1) (m_cm) (m_hc))) := (fr539 (mo) (hq_tne hmo (hr_25 hR) (by simp)) (hq_tne hmo (hr_28 hR) (by simp))).trans (ho131)
                  have fx554 : V534 (q + 21) = some (.inl (cs 0, 276, .inl (u95))) := (fr539 (q + 21) (hq_tne (hr_21 hR) (hr_25 hR) (by simp)) (hq_tne (hr_21 hR) (hr_28 hR) (by simp))).trans (ho133)
                  have fx555 : V534 (q + 22) = some (.inl (cs 0, 276, .inl (u96))) := (fr539 (q + 22) (hq_tne (hr_22 hR) (hr_25 hR) (by simp)) (hq_tne (hr_22 hR) (hr_28 hR) (by simp))).trans (ho135)
                  have fx556 : V534 (q + 24) = some (.inl (cs 0, 30, .inl (u97))) := (fr539 (q + 24) (hq_tne (hr_24 hR) (hr_25 hR) (by simp)) (hq_tne (hr_24 hR) (hr_28 hR) (by simp))).trans (ho137)
                  have fx557 : V534 (q + 23) = some (.inl (cs 3, 60, .inl (u98))) := (fr539 (q + 23) (hq_tne (hr_23 hR) (hr_25 hR) (by simp)) (hq_tne (hr_23 hR) (hr_28 hR) (by simp))).trans (ho139)
                  have fx558 : V534 (q + 29) = some (.inl (cs 1, 560, .inl (rw21))) := (fr539 (q + 29) (hq_tne (hr_29 hR) (hr_25 hR) (by simp)) (hq_tne (hr_29 hR) (hr_28 hR) (by simp))).trans (ho144)
                  have fx559 : V534 (q + 30) = some (.inl (cs 1, 4, .inl (rs185))) := (fr539 (q + 30) (hq_tne (hr_30 hR) (hr_25 hR) (by simp)) (hq_tne (hr_30 hR) (hr_28 hR) (by simp))).trans (ho145)
                  have pk560 := pk147.keep (fun x7 (hx7 : q ≤ x7 ∧ x7 < q + 19) => fr539 x7 (by omega) (by omega))
                  exact ih185 _ (by omega) _ _ _ ls (y547) (u541) (u540) (rs185) rfl hZ hP fx553 fx554 fx555 fx556 fx557 ho542 ho543 fx558 fx559 (fun x8 hne0 hne1 hne2 hne3 hne4 hne5 hne6 hne7 hne8 => (fr539 x8 hne5 hne6).trans (fr185 x8 hne0 hne1 hne2 hne3 hne4 hne5 hne6 hne7 hne8)) pk560 (by omega) (by omega) (by rw [show (y547).toInt.toNat = i185.toInt.toNat + 1 by omega, sp_take_s hx9, ← hvx]; exact hp544) (hrz185) (lv_sub hl [0, 1, 2, 3, 4, 5, 6] rfl)
            · have c112 : (r91).toInt = (0 : Int) := hq_eqi.mp c112
              have hmk0 := (show ∀ u1, (sp_sa w (-1) (-1) bk.2.2.2 0 (sp_U w bk (sp_nm w t9) (sp_nf 0 v.toInt c9 te.toInt pe.toInt bk.2.2.2 0) (sp_nf 1 v.toInt c9 te.toInt pe.toInt bk.2.2.2 0))) = some u1 → u1.length = 0 by rcases hmk with g9 | g9; (· omega); (· exact g9.2))
              have fx561 : V88 (q + 25) = some (.inl (cs 0, 244, .inl (ft21))) := (fr93 (q + 25) (hq_tne (hr_25 hR) hmo (by simp)) (hq_tne (hr_25 hR) (hr_21 hR) (by simp)) (hq_tne (hr_25 hR) (hr_22 hR) (by simp)) (hq_tne (hr_25 hR) (hr_24 hR) (by simp)) (hq_tne (hr_25 hR) (hr_23 hR) (by simp))).trans (ho54)
              have fx562 : V88 (q + 28) = some (.inl (cs 1, 4, .inl (fs21))) := (fr93 (q + 28) (hq_tne (hr_28 hR) hmo (by simp)) (hq_tne (hr_28 hR) (hr_21 hR) (by simp)) (hq_tne (hr_28 hR) (hr_22 hR) (by simp)) (hq_tne (hr_28 hR) (hr_24 hR) (by simp)) (hq_tne (hr_28 hR) (hr_23 hR) (by simp))).trans (ho55)
              have fx563 : V88 (q + 29) = some (.inl (cs 1, 560, .inl (rw21))) := (fr93 (q + 29) (hq_tne (hr_29 hR) hmo (by simp)) (hq_tne (hr_29 hR) (hr_21 hR) (by simp)) (hq_tne (hr_29 hR) (hr_22 hR) (by simp)) (hq_tne (hr_29 hR) (hr_24 hR) (by simp)) (hq_tne (hr_29 hR) (hr_23 hR) (by simp))).trans (ho56)
              have fx564 : V88 (q + 30) = some (.inl (cs 1, 4, .inl (rs21))) := (fr93 (q + 30) (hq_tne (hr_30 hR) hmo (by simp)) (hq_tne (hr_30 hR) (hr_21 hR) (by simp)) (hq_tne (hr_30 hR) (hr_22 hR) (by simp)) (hq_tne (hr_30 hR) (hr_24 hR) (by simp)) (hq_tne (hr_30 hR) (hr_23 hR) (by simp))).trans (ho57)
              exact hp_vret hx hb hr hlocks hZ ⟨rfl, hP, (fun x8 hne0 hne1 hne2 hne3 hne4 hne5 hne6 hne7 hne8 => (fr93 x8 hne0 hne1 hne2 hne3 hne4).trans (fr130 x8 hne0 hne1 hne2 hne3 hne4 hne5 hne6 hne7 hne8)), z94, fo21, u95, u96, u97, u98, ft21, fs21, rw21, rs21, L21, ho99, ho100, ho101, ho102, ho103, fx561, fx562, fx563, fx564, hL21, (by rcases Classical.em (L21.length = 0) with c9 | c9; (· exact Or.inr (Or.inr (Or.inr (Or.inr ⟨by omega, (by rw [← hEE]; exact List.eq_nil_of_length_eq_zero (by omega)), by omega, hmk0, (List.eq_nil_of_length_eq_zero (by omega))⟩)))); (· exact Or.inr (Or.inl ⟨by omega, (fun g9 => by have h9 := congrArg List.length (hEE.trans g9); simp only [List.length_nil] at h9; omega), hEE⟩))), by omega⟩ dX13_simple_177
      refine lv_aload_n hx hb dX13_simple_23 rfl (lv_at hl 1 rfl) ?_
      refine hp_get (v := .ref (q + 2)) hx hb hts hown hZ ho20 fl_X13_10 rfl dX13_simple_24 ?_
      refine lv_iconst (v := 0) hx hb dX13_simple_27 (by decide) ?_
      obtain ⟨rf565, hrf566⟩ : ∃ f : Nat → Int32, f = rh 2 := ⟨_, rfl⟩
      have ea567 : V9 (q + 2) = some (.inl (cs 1, 2, .inl (rf565))) := by rw [hrf566]; exact pk37 2 (by decide)
      have hra568 := hq_rg hP.1 (hr_2 hR) ea567
      refine hp_iald hx hb hZ ea567 (by unfold vp_in; decide) dX13_simple_28 ?_
      refine lv_topi (fun y569 ey570 => ?_)
      have b571 : hq_ir (hq_lo 8) (hq_hi 8) y569 := by rw [ey570]; exact hra568 _ (by decide)
      have b571 : 0 ≤ (y569).toInt ∧ (y569).toInt ≤ 60 := b571
      have b572 : (y569).toInt = (bk.2.2.2.length : Int) := by rw [ey570, hrf566]; exact hBm.2.2.1
      refine lv_icmp_ge (tgt := 130) hx hb dX13_simple_29 (by decide) (fun c573 => ?_) (fun c573 => ?_)
      · have c573 : (y569).toInt ≤ (i21).toInt := hq_lei.mp c573
        have hEE : L21 = (sp_ex w v.toInt c9 te.toInt pe.toInt bk.2.2.2 2) := by rw [← hE21, sp_ex_o (by omega), List.append_nil]
        exact jn130 _ _ _ ls  hZ hP ho20 ho22 ho24 ho26 ho28 ho30 ho32 ho34 ho36 (fun x8 hne0 hne1 hne2 hne3 hne4 hne5 hne6 hne7 hne8 => fr21 x8 hne0 hne1 hne2 hne3 hne4 hne5 hne6 hne7 hne8) pk37 (hEE) (lv_sub hl [1, 2, 3, 4] rfl)
      · have c573 : ¬ (y569).toInt ≤ (i21).toInt := fun h9 => c573 (hq_lei.mpr h9)
        refine lv_aload_n hx hb dX13_simple_32 rfl (lv_at hl 1 rfl) ?_
        refine hp_get (v := .int (fo21)) hx hb hts hown hZ ho20 fl_X13_344 rfl dX13_simple_33 ?_
        refine lv_iconst (v := 2) hx hb dX13_simple_36 (by decide) ?_
        refine lv_icmp_ge (tgt := 130) hx hb dX13_simple_37 (by decide) (fun c574 => ?_) (fun c574 => ?_)
        · have c574 : (2 : Int) ≤ (fo21).toInt := hq_lei.mp c574
          have hEE : L21 = (sp_ex w v.toInt c9 te.toInt pe.toInt bk.2.2.2 2) := by rw [← hE21, show 2 - L21.length = 0 by omega, sp_ex_0, List.append_nil]
          exact jn130 _ _ _ ls  hZ hP ho20 ho22 ho24 ho26 ho28 ho30 ho32 ho34 ho36 (fun x8 hne0 hne1 hne2 hne3 hne4 hne5 hne6 hne7 hne8 => fr21 x8 hne0 hne1 hne2 hne3 hne4 hne5 hne6 hne7 hne8) pk37 (hEE) (lv_sub hl [1, 2, 3, 4] rfl)
        · have c574 : ¬ (2 : Int) ≤ (fo21).toInt := fun h9 => c574 (hq_lei.mpr h9)
          have hiia : ((i21).toNatClampNeg : Int) = (i21).toInt := (hq_nn (by omega)).1.symm
          obtain ⟨xa, hxa⟩ : ∃ t, bk.2.2.2[(i21).toNatClampNeg]? = some t := ⟨_, List.getElem?_eq_getElem (by omega)⟩
          obtain ⟨hq1a, -, -, -, hq5a, hq6a, hq7a⟩ := hBm.2.2.2.2.2.2 _ _ hxa
          rw [show 60 * 0 + (i21).toNatClampNeg = (i21).toNatClampNeg by omega] at hq1a hq5a hq6a hq7a
          have hFTa : hm_FT rh 14 5 (i21).toNatClampNeg (sp_F w xa) := hq6a.ft
          have hSTa : hm_FT rh 15 6 (i21).toNatClampNeg (sp_S2 w xa) := hq7a.ft
          have hFla := hFTa.1
          have hFma := hFTa.2.1
          have hSla := hSTa.1
          have hSma := hSTa.2.1
          obtain ⟨hz1, hz2, hz3, hz4, -⟩ := hBm.2.2.2.2.2.2 _ _ hxa
          rw [show 60 * 0 + (i21).toNatClampNeg = (i21).toNatClampNeg by omega] at hz1 hz2 hz3 hz4
          obtain ⟨hg1, hg2, -⟩ := hgd2 _ _ hxa
          refine lv_aload_n hx hb dX13_simple_40 rfl (lv_at hl 1 rfl) ?_
          refine hp_get (v := .ref (q + 10)) hx hb hts hown hZ ho20 fl_X13_29 rfl dX13_simple_41 ?_
          refine lv_iload hx hb dX13_simple_44 (lv_at hl 0 rfl) ?_
          obtain ⟨rf575, hrf576⟩ : ∃ f : Nat → Int32, f = rh 10 := ⟨_, rfl⟩
          have ea577 : V9 (q + 10) = some (.inl (cs 1, 120, .inl (rf575))) := by rw [hrf576]; exact pk37 10 (by decide)
          have hra578 := hq_rg hP.1 (hr_10 hR) ea577
          refine hp_iald hx hb hZ ea577 (hq_in (by omega) (by omega)) dX13_simple_46 ?_
          refine lv_topi (fun y579 ey580 => ?_)
          have b581 := hq_rng y579
          have b582 : (y579).toInt = (rh 10 (i21).toNatClampNeg).toInt := by rw [ey580, hrf576]
          refine lv_iconst (v := 4) hx hb dX13_simple_47 (by decide) ?_
          refine lv_icmp_ne (tgt := 124) hx hb dX13_simple_48 (by decide) (fun c583 => ?_) (fun c583 => ?_)
          · have c583 : ¬ (y579).toInt = (4 : Int) := fun h9 => c583 (hq_eqi.mpr h9)
            have hft : ¬ sp_ft xa 4 v.toInt c9 te.toInt pe.toInt := fun g9 => by unfold sp_ft at g9; omega
            obtain ⟨y584, ey585⟩ : ∃ y : Int32, y = i21 + (1) := ⟨_, rfl⟩
            obtain ⟨k586, hk587, b588, b589⟩ := hq_add (i21) (1)
            rw [← ey585] at hk587 b588 b589
            have hk587 : (y584).toInt = (i21).toInt + (1) + k586 * 4294967296 := hk587
            obtain rfl : k586 = 0 := by omega
            refine lv_iinc (v := y584) (lv' := [(4, .int (y584)), (0, .ref (mo)), (1, .int (v)), (2, .int (te)), (3, .int (pe))]) hx hb dX13_simple_124 hl (k := 0) rfl (by rw [ey585]; rfl) (by decide) rfl (fun ls hl => ?_)
            refine lv_goto (tgt := 21) hx hb dX13_simple_127 (by decide) ?_
            exact ih21 _ (by omega) _ _ _ ls (y584) (L21) (fo21) (ft21) (fs21) (rw21) (rs21) rfl hZ hP ho20 ho22 ho24 ho26 ho28 ho30 ho32 ho34 ho36 (fun x8 hne0 hne1 hne2 hne3 hne4 hne5 hne6 hne7 hne8 => fr21 x8 hne0 hne1 hne2 hne3 hne4 hne5 hne6 hne7 hne8) pk37 (by omega) (by omega) (by omega) (hL21) (by rw [show (y584).toInt.toNat = i21.toNatClampNeg + 1 by omega, ← sp_ex_n hxa hft]; exact hE21) (lv_sub hl [0, 1, 2, 3, 4] rfl)
          · have c583 : (y579).toInt = (4 : Int) := hq_eqi.mp c583
            refine lv_aload_n hx hb dX13_simple_51 rfl (lv_at hl 1 rfl) ?_
            refine lv_iload hx hb dX13_simple_52 (lv_at hl 0 rfl) ?_
            refine lv_iload_n hx hb dX13_simple_54 rfl (lv_at hl 2 rfl) ?_
            refine lv_iload_n hx hb dX13_simple_55 rfl (lv_at hl 3 rfl) ?_
            refine lv_iload_n hx hb dX13_simple_56 rfl (lv_at hl 4 rfl) ?_
            refine hp_calli (hp_runV (As := [.int (i21), .int (v), .int (te), .int (pe)]) (rest := []) hx hb hml hown hts (y_fitsG l D cs B G V9 n hP.1 (q) (mo) (rh) (m_tp) (m_sz) (m_fr) (m_bh) (m_hd) (m_ft) (m_fa) (m_le) (fo21) (m_as) (m_fd) (m_bc) (m_bg) (m_bs) (m_be) (m_b0) (m_b1) (m_cm) (m_hc) (i21) (v) (te) (pe)  ho20 pk37 hR hmo (by omega) (by omega)) hZ ho20 cv_X13_327 rfl rfl ⟨Nat.le_of_ble_eq_true rfl, Nat.le_of_ble_eq_true rfl⟩ rfl hl.1 rfl (Nat.le_of_ble_eq_true rfl) dX13_simple_57 ⟨(Nat.le_of_ble_eq_true rfl), (Nat.le_of_ble_eq_true rfl)⟩) hZ (fun r593 V590 n591 _ _ hw592 hZ => ?_)
            obtain ⟨rfl, rfl, hp596⟩ := hw592
            have b597 := hq_rng r593
            refine lv_if_ne (tgt := 66) hx hb dX13_simple_60 (by decide) (fun c598 => ?_) (fun c598 => ?_)
            · have c598 : ¬ (r593).toInt = (0 : Int) := fun h9 => c598 (hq_eqi.mpr h9)
              have hft : sp_ft xa 4 v.toInt c9 te.toInt pe.toInt := by unfold sp_ft; omega
              refine lv_aload_n hx hb dX13_simple_66 rfl (lv_at hl 1 rfl) ?_
              refine hp_callv (hp_runV (As := []) (rest := []) hx hb hml hown hts (y_bf l D cs B G V9 n hP.1 (q) (mo) (m_tp) (m_sz) (m_fr) (m_bh) (m_hd) (m_ft) (m_fa) (m_le) (fo21) (m_as) (m_fd) (m_bc) (m_bg) (m_bs) (m_be) (m_b0) (m_b1) (m_cm) (m_hc) (fs21) (ft21) (rs21) (L21)  ho20 ho32 ho36  hR hmo hmq hL21 (by omega)) hZ ho20 cv_X13_351 rfl rfl ⟨Nat.le_of_ble_eq_true rfl, Nat.le_of_ble_eq_true rfl⟩ rfl hl.1 rfl (Nat.le_of_ble_eq_true rfl) dX13_simple_67 ⟨(Nat.le_of_ble_eq_true rfl), (Nat.le_of_ble_eq_true rfl)⟩) hZ (fun V599 n600 _ _ hw601 hZ => ?_)
              obtain ⟨rfl, hq603, fr604, u605, u606, ho607, ho608, hp609, hp610⟩ := hw601
              have hP := hP.trans hq603 (fun _ h => Bool.noConfusion h)
              have hf611 := hq_rg hP.1 (hr_28 hR) ho607
              have hf612 := hq_rg hP.1 (hr_30 hR) ho608
              refine lv_iconst (v := 0) hx hb dX13_simple_70 (by decide) ?_
              refine lv_istore (lv' := [(5, .int (0)), (4, .int (i21)), (0, .ref (mo)), (1, .int (v)), (2, .int (te)), (3, .int (pe))]) hx hb dX13_simple_71 hl (by decide) rfl (fun ls hl => ?_)
              have fx613 : V599 (mo) = some (.inr (13, hm_o q (m_tp) (m_sz) (m_fr) (m_bh) (m_hd) (m_ft) (m_fa) (m_le) (fo21) (m_as) (m_fd) (m_bc) (m_bg) (m_bs) (m_be) (m_b0) (m_b1) (m_cm) (m_hc))) := (fr604 (mo) (hq_tne hmo (hr_28 hR) (by simp)) (hq_tne hmo (hr_30 hR) (by simp))).trans (ho20)
              have fx615 : V599 (q + 21) = some (.inl (cs 0, 276, .inl (wf))) := (fr604 (q + 21) (hq_tne (hr_21 hR) (hr_28 hR) (by simp)) (hq_tne (hr_21 hR) (hr_30 hR) (by simp))).trans (ho22)
              have fx617 : V599 (q + 22) = some (.inl (cs 0, 276, .inl (sf))) := (fr604 (q + 22) (hq_tne (hr_22 hR) (hr_28 hR) (by simp)) (hq_tne (hr_22 hR) (hr_30 hR) (by simp))).trans (ho24)
              have fx619 : V599 (q + 24) = some (.inl (cs 0, 30, .inl (bf))) := (fr604 (q + 24) (hq_tne (hr_24 hR) (hr_28 hR) (by simp)) (hq_tne (hr_24 hR) (hr_30 hR) (by simp))).trans (ho26)
              have fx621 : V599 (q + 23) = some (.inl (cs 3, 60, .inl (df))) := (fr604 (q + 23) (hq_tne (hr_23 hR) (hr_28 hR) (by simp)) (hq_tne (hr_23 hR) (hr_30 hR) (by simp))).trans (ho28)
              have fx623 : V599 (q + 25) = some (.inl (cs 0, 244, .inl (ft21))) := (fr604 (q + 25) (hq_tne (hr_25 hR) (hr_28 hR) (by simp)) (hq_tne (hr_25 hR) (hr_30 hR) (by simp))).trans (ho30)
              have fx626 : V599 (q + 29) = some (.inl (cs 1, 560, .inl (rw21))) := (fr604 (q + 29) (hq_tne (hr_29 hR) (hr_28 hR) (by simp)) (hq_tne (hr_29 hR) (hr_30 hR) (by simp))).trans (ho34)
              have pk629 := pk37.keep (fun x7 (hx7 : q ≤ x7 ∧ x7 < q + 19) => fr604 x7 (by omega) (by omega))
              have hl631 : (0 : Int32).toInt = 0 := by decide
              suffices lp73 : ∀ (k9 : Nat) (V9 : hp_V) (H9 : Heap) (locs9 : List Loc) (ls : Array Slot) (i73 : Int32) (ft73 : Nat → Int32) (fs73 : Nat → Int32) (rs73 : Nat → Int32), (1000 - i73.toInt).toNat = k9 → hp_Z D cs B s V9 H9 n locs9 → hq_P cs G (fun _ => true) V V9 → V9 (mo) = some (.inr (13, hm_o q (m_tp) (m_sz) (m_fr) (m_bh) (m_hd) (m_ft) (m_fa) (m_le) (fo21) (m_as) (m_fd) (m_bc) (m_bg) (m_bs) (m_be) (m_b0) (m_b1) (m_cm) (m_hc))) → V9 (q + 21) = some (.inl (cs 0, 276, .inl (wf))) → V9 (q + 22) = some (.inl (cs 0, 276, .inl (sf))) → V9 (q + 24) = some (.inl (cs 0, 30, .inl (bf))) → V9 (q + 23) = some (.inl (cs 3, 60, .inl (df))) → V9 (q + 25) = some (.inl (cs 0, 244, .inl (ft73))) → V9 (q + 28) = some (.inl (cs 1, 4, .inl (fs73))) → V9 (q + 29) = some (.inl (cs 1, 560, .inl (rw21))) → V9 (q + 30) = some (.inl (cs 1, 4, .inl (rs73))) → (∀ x, x ≠ mo → x ≠ q + 21 → x ≠ q + 22 → x ≠ q + 24 → x ≠ q + 23 → x ≠ q + 25 → x ≠ q + 28 → x ≠ q + 29 → x ≠ q + 30 → V9 x = V x) → hm_AR cs V9 q rh → 0 ≤ i73.toInt → i73.toInt ≤ ((sp_F w xa).length : Int) → (sp_fc fo21 fs73 ft73 L21 ((sp_F w xa).take i73.toInt.toNat)) → ((rs73 (fo21).toNatClampNeg).toInt = 0) → lv_has ls 7 [(5, .int (i73)), (4, .int (i21)), (0, .ref (mo)), (1, .int (v)), (2, .int (te)), (3, .int (pe))] → W p l e ({ frames := 4, cells := 0, slots := 0, locals := 95 }) s m ([.ref (mo), .int (v), .int (te), .int (pe)] : List Value).toArray below meth c H9 locs9 0 0 (MQ below (hp_QV D cs B (fun V' n' => n = n' ∧ hq_P cs G (fun _ => true) V V' ∧ (∀ x, x ≠ mo → x ≠ q + 21 → x ≠ q + 22 → x ≠ q + 24 → x ≠ q + 23 → x ≠ q + 25 → x ≠ q + 28 → x ≠ q + 29 → x ≠ q + 30 → V' x = V x) ∧ (∃ m_le1 : Int32, ∃ m_fo1 : Int32, ∃ wf1 : Nat → Int32, ∃ sf1 : Nat → Int32, ∃ bf1 : Nat → Int32, ∃ df1 : Nat → Int32, ∃ ft1 : Nat → Int32, ∃ fs1 : Nat → Int32, ∃ rw1 : Nat → Int32, ∃ rs1 : Nat → Int32, ∃ L : List (List Int), V' (mo) = some (.inr (13, hm_o q (m_tp) (m_sz) (m_fr) (m_bh) (m_hd) (m_ft) (m_fa) (m_le1) (m_fo1) (m_as) (m_fd) (m_bc) (m_bg) (m_bs) (m_be) (m_b0) (m_b1) (m_cm) (m_hc))) ∧ V' (q + 21) = some (.inl (cs 0, 276, .inl (wf1))) ∧ V' (q + 22) = some (.inl (cs 0, 276, .inl (sf1))) ∧ V' (q + 24) = some (.inl (cs 0, 30, .inl (bf1))) ∧ V' (q + 23) = some (.inl (cs 3, 60, .inl (df1))) ∧ V' (q + 25) = some (.inl (cs 0, 244, .inl (ft1))) ∧ V' (q + 28) = some (.inl (cs 1, 4, .inl (fs1))) ∧ V' (q + 29) = some (.inl (cs 1, 560, .inl (rw1))) ∧ V' (q + 30) = some (.inl (cs 1, 4, .inl (rs1))) ∧ (sp_fo m_fo1 fs1 ft1 L) ∧ (sp_FM (sp_nf 5 v.toInt c9 te.toInt pe.toInt bk.2.2.2 0) (sp_nf 1 v.toInt c9 te.toInt pe.toInt bk.2.2.2 0) (sp_ex w v.toInt c9 te.toInt pe.toInt bk.2.2.2 2) (sp_sa w (-1) (-1) bk.2.2.2 0 (sp_U w bk (sp_nm w t9) (sp_nf 0 v.toInt c9 te.toInt pe.toInt bk.2.2.2 0) (sp_nf 1 v.toInt c9 te.toInt pe.toInt bk.2.2.2 0))) L) ∧ ((0 ≤ m_le1.toInt ∧ m_le1.toInt ≤ 276) ∧ (0 ≤ m_fo1.toInt ∧ m_fo1.toInt ≤ 2))))) ([.ref (mo), .int (v), .int (te), .int (pe)] : List Value).toArray s 0 0 (hp_F B)) (F0 m 73 ls []) from lp73 _ _ _ _ ls (0) (ft21) (u605) (u606) rfl hZ hP fx613 fx615 fx617 fx619 fx621 fx623 ho607 fx626 ho608 (fun x8 hne0 hne1 hne2 hne3 hne4 hne5 hne6 hne7 hne8 => (fr604 x8 hne6 hne8).trans (fr21 x8 hne0 hne1 hne2 hne3 hne4 hne5 hne6 hne7 hne8)) pk629 (by omega) (by omega) (by rw [show (0 : Int32).toInt.toNat = 0 from rfl, List.take_zero]; exact hp609) (hp610) (lv_sub hl [0, 1, 2, 3, 4, 5] rfl)
              intro k9
              induction k9 using Nat.strongRecOn with
              | _ k9 ih73 =>
                intro V9 H9 locs9 ls i73  ft73 fs73 rs73 hk73 hZ hP ho614 ho616 ho618 ho620 ho622 ho624 ho625 ho627 ho628 fr73 pk630 hv632 hv633 hfc73 hrz73 hl
                have hb_i73 := hq_rng i73
                have hf634 := hq_rg20 hP.1 (hr_21 hR) ho616
                have hf635 := hq_rg20 hP.1 (hr_22 hR) ho618
                have hf636 := hq_rg20 hP.1 (hr_24 hR) ho620
                have hf637 := hq_rg20 hP.1 (hr_25 hR) ho624
                have hf638 := hq_rg hP.1 (hr_28 hR) ho625
                have hf639 := hq_rg hP.1 (hr_29 hR) ho627
                have hf640 := hq_rg hP.1 (hr_30 hR) ho628
                have htl73 : ((sp_F w xa).take i73.toInt.toNat).length = i73.toInt.toNat := by rw [List.length_take]; omega
                refine lv_iload hx hb dX13_simple_73 (lv_at hl 0 rfl) ?_
                refine lv_aload_n hx hb dX13_simple_75 rfl (lv_at hl 2 rfl) ?_
                refine hp_get (v := .ref (q + 14)) hx hb hts hown hZ ho614 fl_X13_41 rfl dX13_simple_76 ?_
                refine lv_iload hx hb dX13_simple_79 (lv_at hl 1 rfl) ?_
                obtain ⟨rf641, hrf642⟩ : ∃ f : Nat → Int32, f = rh 14 := ⟨_, rfl⟩
                have ea643 : V9 (q + 14) = some (.inl (cs 1, 120, .inl (rf641))) := by rw [hrf642]; exact pk630 14 (by decide)
                have hra644 := hq_rg hP.1 (hr_14 hR) ea643
                refine hp_iald hx hb hZ ea643 (hq_in (by omega) (by omega)) dX13_simple_81 ?_
                refine lv_topi (fun y645 ey646 => ?_)
                have b647 : hq_ir (hq_lo 1) (hq_hi 1) y645 := by rw [ey646]; exact hra644 _ (hq_ix (by omega) (by omega))
                have b647 : 0 ≤ (y645).toInt ∧ (y645).toInt ≤ 8 := b647
                have b648 : (y645).toInt = (rh 14 (i21).toNatClampNeg).toInt := by rw [ey646, hrf642]
                refine lv_icmp_ge (tgt := 108) hx hb dX13_simple_82 (by decide) (fun c649 => ?_) (fun c649 => ?_)
                · have c649 : (y645).toInt ≤ (i73).toInt := hq_lei.mp c649
                  refine lv_aload_n hx hb dX13_simple_108 rfl (lv_at hl 2 rfl) ?_
                  refine lv_iload hx hb dX13_simple_109 (lv_at hl 1 rfl) ?_
                  have b650 := hrz73
                  refine hp_callv (hp_runV (As := [.int (i21)]) (rest := []) hx hb hml hown hts (y_noteR l D cs B G V9 n hP.1 (q) (mo) (m_tp) (m_sz) (m_fr) (m_bh) (m_hd) (m_ft) (m_fa) (m_le) (fo21) (m_as) (m_fd) (m_bc) (m_bg) (m_bs) (m_be) (m_b0) (m_b1) (m_cm) (m_hc) (i21) (rw21) (rs73)  ho614 ho627 ho628  hR hmo hmq hfo9 (by omega) (by omega)) hZ ho614 cv_X13_357 rfl rfl ⟨Nat.le_of_ble_eq_true rfl, Nat.le_of_ble_eq_true rfl⟩ rfl hl.1 rfl (Nat.le_of_ble_eq_true rfl) dX13_simple_111 ⟨(Nat.le_of_ble_eq_true rfl), (Nat.le_of_ble_eq_true rfl)⟩) hZ (fun V651 n652 _ _ hw653 hZ => ?_)
                  obtain ⟨rfl, hq655, fr656, u657, u658, ho659, ho660, hp661⟩ := hw653
                  have hP := hP.trans hq655 (fun _ h => Bool.noConfusion h)
                  have hf662 := hq_rg hP.1 (hr_29 hR) ho659
                  have hf663 := hq_rg hP.1 (hr_30 hR) ho660
                  have hrz664 := hp661
                  refine lv_aload_n hx hb dX13_simple_114 rfl (lv_at hl 2 rfl) ?_
                  refine lv_dup hx hb dX13_simple_115 rfl ?_
                  have fx665 : V651 (mo) = some (.inr (13, hm_o q (m_tp) (m_sz) (m_fr) (m_bh) (m_hd) (m_ft) (m_fa) (m_le) (fo21) (m_as) (m_fd) (m_bc) (m_bg) (m_bs) (m_be) (m_b0) (m_b1) (m_cm) (m_hc))) := (fr656 (mo) (hq_tne hmo (hr_29 hR) (by simp)) (hq_tne hmo (hr_30 hR) (by simp))).trans (ho614)
                  refine hp_get (v := .int (fo21)) hx hb hts hown hZ fx665 fl_X13_344 rfl dX13_simple_116 ?_
                  refine lv_iconst (v := 1) hx hb dX13_simple_119 (by decide) ?_
                  refine lv_iadd hx hb dX13_simple_120 ?_
                  refine lv_topi (fun y666 ey667 => ?_)
                  obtain ⟨k668, hk669, b670, b671⟩ := hq_add (fo21) (1)
                  rw [← ey667] at hk669 b670 b671
                  have hk669 : (y666).toInt = (fo21).toInt + (1 : Int) + k668 * 4294967296 := hk669
                  obtain rfl : k668 = 0 := by omega
                  have hfx : (sp_F w xa).take i73.toInt.toNat = sp_F w xa := List.take_of_length_le (by omega)
                  have hfin := hfc73
                  rw [hfx] at hfin
                  have hfin := hfin.fin (n1 := y666) (by omega)
                  refine hp_put hx hb hts hown hZ fx665 fp_X13_344 rfl rfl (Nat.le_of_ble_eq_true rfl) dX13_simple_121 (fun V672 _ _ e673 o674 hZ => ?_)
                  have e673 : V672 (mo) = some (.inr (13, hm_o q (m_tp) (m_sz) (m_fr) (m_bh) (m_hd) (m_ft) (m_fa) (m_le) (y666) (m_as) (m_fd) (m_bc) (m_bg) (m_bs) (m_be) (m_b0) (m_b1) (m_cm) (m_hc))) := e673
                  have hP := hP.put hmo e673 o674 (trivial) rfl
                  obtain ⟨y675, ey676⟩ : ∃ y : Int32, y = i21 + (1) := ⟨_, rfl⟩
                  obtain ⟨k677, hk678, b679, b680⟩ := hq_add (i21) (1)
                  rw [← ey676] at hk678 b679 b680
                  have hk678 : (y675).toInt = (i21).toInt + (1) + k677 * 4294967296 := hk678
                  obtain rfl : k677 = 0 := by omega
                  refine lv_iinc (v := y675) (lv' := [(4, .int (y675)), (5, .int (i73)), (0, .ref (mo)), (1, .int (v)), (2, .int (te)), (3, .int (pe))]) hx hb dX13_simple_124 hl (k := 1) rfl (by rw [ey676]; rfl) (by decide) rfl (fun ls hl => ?_)
                  refine lv_goto (tgt := 21) hx hb dX13_simple_127 (by decide) ?_
                  have fx681 : V672 (q + 21) = some (.inl (cs 0, 276, .inl (wf))) := (o674 (q + 21) (hq_tne (hr_21 hR) hmo (by simp))).trans ((fr656 (q + 21) (hq_tne (hr_21 hR) (hr_29 hR) (by simp)) (hq_tne (hr_21 hR) (hr_30 hR) (by simp))).trans (ho616))
                  have fx682 : V672 (q + 22) = some (.inl (cs 0, 276, .inl (sf))) := (o674 (q + 22) (hq_tne (hr_22 hR) hmo (by simp))).trans ((fr656 (q + 22) (hq_tne (hr_22 hR) (hr_29 hR) (by simp)) (hq_tne (hr_22 hR) (hr_30 hR) (by simp))).trans (ho618))
                  have fx683 : V672 (q + 24) = some (.inl (cs 0, 30, .inl (bf))) := (o674 (q + 24) (hq_tne (hr_24 hR) hmo (by simp))).trans ((fr656 (q + 24) (hq_tne (hr_24 hR) (hr_29 hR) (by simp)) (hq_tne (hr_24 hR) (hr_30 hR) (by simp))).trans (ho620))
                  have fx684 : V672 (q + 23) = some (.inl (cs 3, 60, .inl (df))) := (o674 (q + 23) (hq_tne (hr_23 hR) hmo (by simp))).trans ((fr656 (q + 23) (hq_tne (hr_23 hR) (hr_29 hR) (by simp)) (hq_tne (hr_23 hR) (hr_30 hR) (by simp))).trans (ho622))
                  have fx685 : V672 (q + 25) = some (.inl (cs 0, 244, .inl (ft73))) := (o674 (q + 25) (hq_tne (hr_25 hR) hmo (by simp))).trans ((fr656 (q + 25) (hq_tne (hr_25 hR) (hr_29 hR) (by simp)) (hq_tne (hr_25 hR) (hr_30 hR) (by simp))).trans (ho624))
                  have fx686 : V672 (q + 28) = some (.inl (cs 1, 4, .inl (fs73))) := (o674 (q + 28) (hq_tne (hr_28 hR) hmo (by simp))).trans ((fr656 (q + 28) (hq_tne (hr_28 hR) (hr_29 hR) (by simp)) (hq_tne (hr_28 hR) (hr_30 hR) (by simp))).trans (ho625))
                  have fx687 : V672 (q + 29) = some (.inl (cs 1, 560, .inl (u657))) := (o674 (q + 29) (hq_tne (hr_29 hR) hmo (by simp))).trans (ho659)
                  have fx688 : V672 (q + 30) = some (.inl (cs 1, 4, .inl (u658))) := (o674 (q + 30) (hq_tne (hr_30 hR) hmo (by simp))).trans (ho660)
                  have pk689 := pk630.keep (fun x7 (hx7 : q ≤ x7 ∧ x7 < q + 19) => (o674 x7 (by omega)).trans (fr656 x7 (by omega) (by omega)))
                  exact ih21 _ (by omega) _ _ _ ls (y675) ((L21 ++ [sp_F w xa])) (y666) (ft73) (fs73) (u657) (u658) rfl hZ hP e673 fx681 fx682 fx683 fx684 fx685 fx686 fx687 fx688 (fun x8 hne0 hne1 hne2 hne3 hne4 hne5 hne6 hne7 hne8 => (o674 x8 hne0).trans ((fr656 x8 hne7 hne8).trans (fr73 x8 hne0 hne1 hne2 hne3 hne4 hne5 hne6 hne7 hne8))) pk689 (by omega) (by omega) (by rw [List.length_append]; simp only [List.length_cons, List.length_nil]; omega) (hfin) (by rw [show (y675).toInt.toNat = i21.toNatClampNeg + 1 by omega, List.append_assoc, ← hE21, show 2 - L21.length = (2 - (L21 ++ [sp_F w xa]).length) + 1 by simp only [List.length_append, List.length_cons, List.length_nil]; omega]; congr 1; exact (sp_ex_y hxa hft).symm) (lv_sub hl [0, 2, 3, 4, 5] rfl)
                · have c649 : ¬ (y645).toInt ≤ (i73).toInt := fun h9 => c649 (hq_lei.mpr h9)
                  refine lv_aload_n hx hb dX13_simple_85 rfl (lv_at hl 2 rfl) ?_
                  refine lv_aload_n hx hb dX13_simple_86 rfl (lv_at hl 2 rfl) ?_
                  refine hp_get (v := .ref (q + 5)) hx hb hts hown hZ ho614 fl_X13_23 rfl dX13_simple_87 ?_
                  refine lv_bipush (v := 8) hx hb dX13_simple_90 (by decide) ?_
                  refine lv_iload hx hb dX13_simple_92 (lv_at hl 1 rfl) ?_
                  refine lv_imul hx hb dX13_simple_94 ?_
                  refine lv_topi (fun y690 ey691 => ?_)
                  obtain ⟨k692, hk693, b694, b695⟩ := hq_mul (8) (i21)
                  rw [← ey691] at hk693 b694 b695
                  have hk693 : (y690).toInt = (8 : Int) * (i21).toInt + k692 * 4294967296 := hk693
                  obtain rfl : k692 = 0 := by omega
                  refine lv_iload hx hb dX13_simple_95 (lv_at hl 0 rfl) ?_
                  refine lv_iadd hx hb dX13_simple_97 ?_
                  refine lv_topi (fun y696 ey697 => ?_)
                  obtain ⟨k698, hk699, b700, b701⟩ := hq_add (y690) (i73)
                  rw [← ey697] at hk699 b700 b701
                  have hk699 : (y696).toInt = (y690).toInt + (i73).toInt + k698 * 4294967296 := hk699
                  obtain rfl : k698 = 0 := by omega
                  obtain ⟨rf702, hrf703⟩ : ∃ f : Nat → Int32, f = rh 5 := ⟨_, rfl⟩
                  have ea704 : V9 (q + 5) = some (.inl (cs 0, 960, .inl (rf702))) := by rw [hrf703]; exact pk630 5 (by decide)
                  refine hp_bald hx hb hZ ea704 (hq_in (by omega) (by omega)) dX13_simple_98 ?_
                  refine lv_topi (fun y706 ey707 => ?_)
                  have b708 := hq_rng y706
                  have hvn := (hq_nn (z := y696) (by omega)).1
                  obtain ⟨x9, hx9⟩ : ∃ x, (sp_F w xa)[i73.toInt.toNat]? = some x := ⟨_, List.getElem?_eq_getElem (by omega)⟩
                  have hvx : (y706).toInt = x9 := by rw [ey707, hrf703, show (y696 : Int32).toNatClampNeg = 8 * (i21).toNatClampNeg + i73.toInt.toNat by omega]; exact hFTa.2.2 _ _ hx9
                  refine hp_callv (hp_runV (As := [.int (y706)]) (rest := []) hx hb hml hown hts (y_say l D cs B G V9 n hP.1 (q) (mo) (m_tp) (m_sz) (m_fr) (m_bh) (m_hd) (m_ft) (m_fa) (m_le) (fo21) (m_as) (m_fd) (m_bc) (m_bg) (m_bs) (m_be) (m_b0) (m_b1) (m_cm) (m_hc) (y706) (fs73) (ft73) (L21) (((sp_F w xa).take i73.toInt.toNat))  ho614 ho624 ho625  hR hmo hmq hfc73 (by omega) (by omega) (by rw [hvx]; exact sp_lw_b8 hoc _ _ _ _ hx9)) hZ ho614 cv_X13_354 rfl rfl ⟨Nat.le_of_ble_eq_true rfl, Nat.le_of_ble_eq_true rfl⟩ rfl hl.1 rfl (Nat.le_of_ble_eq_true rfl) dX13_simple_99 ⟨(Nat.le_of_ble_eq_true rfl), (Nat.le_of_ble_eq_true rfl)⟩) hZ (fun V709 n710 _ _ hw711 hZ => ?_)
                  obtain ⟨rfl, hq713, fr714, u715, u716, ho717, ho718, hp719⟩ := hw711
                  have hP := hP.trans hq713 (fun _ h => Bool.noConfusion h)
                  have hf720 := hq_rg20 hP.1 (hr_25 hR) ho717
                  have hf721 := hq_rg hP.1 (hr_28 hR) ho718
                  obtain ⟨y722, ey723⟩ : ∃ y : Int32, y = i73 + (1) := ⟨_, rfl⟩
                  obtain ⟨k724, hk725, b726, b727⟩ := hq_add (i73) (1)
                  rw [← ey723] at hk725 b726 b727
                  have hk725 : (y722).toInt = (i73).toInt + (1) + k724 * 4294967296 := hk725
                  obtain rfl : k724 = 0 := by omega
                  refine lv_iinc (v := y722) (lv' := [(5, .int (y722)), (4, .int (i21)), (0, .ref (mo)), (1, .int (v)), (2, .int (te)), (3, .int (pe))]) hx hb dX13_simple_102 hl (k := 0) rfl (by rw [ey723]; rfl) (by decide) rfl (fun ls hl => ?_)
                  refine lv_goto (tgt := 73) hx hb dX13_simple_105 (by decide) ?_
                  have fx728 : V709 (mo) = some (.inr (13, hm_o q (m_tp) (m_sz) (m_fr) (m_bh) (m_hd) (m_ft) (m_fa) (m_le) (fo21) (m_as) (m_fd) (m_bc) (m_bg) (m_bs) (m_be) (m_b0) (m_b1) (m_cm) (m_hc))) := (fr714 (mo) (hq_tne hmo (hr_25 hR) (by simp)) (hq_tne hmo (hr_28 hR) (by simp))).trans (ho614)
                  have fx729 : V709 (q + 21) = some (.inl (cs 0, 276, .inl (wf))) := (fr714 (q + 21) (hq_tne (hr_21 hR) (hr_25 hR) (by simp)) (hq_tne (hr_21 hR) (hr_28 hR) (by simp))).trans (ho616)
                  have fx730 : V709 (q + 22) = some (.inl (cs 0, 276, .inl (sf))) := (fr714 (q + 22) (hq_tne (hr_22 hR) (hr_25 hR) (by simp)) (hq_tne (hr_22 hR) (hr_28 hR) (by simp))).trans (ho618)
                  have fx731 : V709 (q + 24) = some (.inl (cs 0, 30, .inl (bf))) := (fr714 (q + 24) (hq_tne (hr_24 hR) (hr_25 hR) (by simp)) (hq_tne (hr_24 hR) (hr_28 hR) (by simp))).trans (ho620)
                  have fx732 : V709 (q + 23) = some (.inl (cs 3, 60, .inl (df))) := (fr714 (q + 23) (hq_tne (hr_23 hR) (hr_25 hR) (by simp)) (hq_tne (hr_23 hR) (hr_28 hR) (by simp))).trans (ho622)
                  have fx733 : V709 (q + 29) = some (.inl (cs 1, 560, .inl (rw21))) := (fr714 (q + 29) (hq_tne (hr_29 hR) (hr_25 hR) (by simp)) (hq_tne (hr_29 hR) (hr_28 hR) (by simp))).trans (ho627)
                  have fx734 : V709 (q + 30) = some (.inl (cs 1, 4, .inl (rs73))) := (fr714 (q + 30) (hq_tne (hr_30 hR) (hr_25 hR) (by simp)) (hq_tne (hr_30 hR) (hr_28 hR) (by simp))).trans (ho628)
                  have pk735 := pk630.keep (fun x7 (hx7 : q ≤ x7 ∧ x7 < q + 19) => fr714 x7 (by omega) (by omega))
                  exact ih73 _ (by omega) _ _ _ ls (y722) (u716) (u715) (rs73) rfl hZ hP fx728 fx729 fx730 fx731 fx732 ho717 ho718 fx733 fx734 (fun x8 hne0 hne1 hne2 hne3 hne4 hne5 hne6 hne7 hne8 => (fr714 x8 hne5 hne6).trans (fr73 x8 hne0 hne1 hne2 hne3 hne4 hne5 hne6 hne7 hne8)) pk735 (by omega) (by omega) (by rw [show (y722).toInt.toNat = i73.toInt.toNat + 1 by omega, sp_take_s hx9, ← hvx]; exact hp719) (hrz73) (lv_sub hl [0, 1, 2, 3, 4, 5] rfl)
            · have c598 : (r593).toInt = (0 : Int) := hq_eqi.mp c598
              have hft : ¬ sp_ft xa 4 v.toInt c9 te.toInt pe.toInt := fun g9 => by unfold sp_ft at g9; omega
              refine lv_goto (tgt := 124) hx hb dX13_simple_63 (by decide) ?_
              obtain ⟨y736, ey737⟩ : ∃ y : Int32, y = i21 + (1) := ⟨_, rfl⟩
              obtain ⟨k738, hk739, b740, b741⟩ := hq_add (i21) (1)
              rw [← ey737] at hk739 b740 b741
              have hk739 : (y736).toInt = (i21).toInt + (1) + k738 * 4294967296 := hk739
              obtain rfl : k738 = 0 := by omega
              refine lv_iinc (v := y736) (lv' := [(4, .int (y736)), (0, .ref (mo)), (1, .int (v)), (2, .int (te)), (3, .int (pe))]) hx hb dX13_simple_124 hl (k := 0) rfl (by rw [ey737]; rfl) (by decide) rfl (fun ls hl => ?_)
              refine lv_goto (tgt := 21) hx hb dX13_simple_127 (by decide) ?_
              exact ih21 _ (by omega) _ _ _ ls (y736) (L21) (fo21) (ft21) (fs21) (rw21) (rs21) rfl hZ hP ho20 ho22 ho24 ho26 ho28 ho30 ho32 ho34 ho36 (fun x8 hne0 hne1 hne2 hne3 hne4 hne5 hne6 hne7 hne8 => fr21 x8 hne0 hne1 hne2 hne3 hne4 hne5 hne6 hne7 hne8) pk37 (by omega) (by omega) (by omega) (hL21) (by rw [show (y736).toInt.toNat = i21.toNatClampNeg + 1 by omega, ← sp_ex_n hxa hft]; exact hE21) (lv_sub hl [0, 1, 2, 3, 4] rfl)
  · have c19 : ¬ (r14).toInt = (-1 : Int) := fun h9 => c19 (hq_eqi.mpr h9)
    have fx742 : V5 (q + 21) = some (.inl (cs 0, 276, .inl (wf))) := (o7 (q + 21) (hq_tne (hr_21 hR) hmo (by simp))).trans (hc1)
    have fx743 : V5 (q + 22) = some (.inl (cs 0, 276, .inl (sf))) := (o7 (q + 22) (hq_tne (hr_22 hR) hmo (by simp))).trans (hc2)
    have fx744 : V5 (q + 24) = some (.inl (cs 0, 30, .inl (bf))) := (o7 (q + 24) (hq_tne (hr_24 hR) hmo (by simp))).trans (hc3)
    have fx745 : V5 (q + 23) = some (.inl (cs 3, 60, .inl (df))) := (o7 (q + 23) (hq_tne (hr_23 hR) hmo (by simp))).trans (hc4)
    have fx746 : V5 (q + 25) = some (.inl (cs 0, 244, .inl (ft))) := (o7 (q + 25) (hq_tne (hr_25 hR) hmo (by simp))).trans (hc5)
    have fx747 : V5 (q + 28) = some (.inl (cs 1, 4, .inl (fs))) := (o7 (q + 28) (hq_tne (hr_28 hR) hmo (by simp))).trans (hc6)
    have fx748 : V5 (q + 29) = some (.inl (cs 1, 560, .inl (rwf))) := (o7 (q + 29) (hq_tne (hr_29 hR) hmo (by simp))).trans (hc7)
    have fx749 : V5 (q + 30) = some (.inl (cs 1, 4, .inl (rs))) := (o7 (q + 30) (hq_tne (hr_30 hR) hmo (by simp))).trans (hc8)
    have hl750 : (0 : Int32).toInt = 0 := by decide
    exact hp_vret hx hb hr hlocks hZ ⟨rfl, hP, (fun x8 hne0 hne1 hne2 hne3 hne4 hne5 hne6 hne7 hne8 => o7 x8 hne0), m_le, 0, wf, sf, bf, df, ft, fs, rwf, rs, [], e6, fx742, fx743, fx744, fx745, fx746, fx747, fx748, fx749, sp_fo.nil, Or.inl ⟨by omega, rfl⟩, by omega⟩ dX13_simple_17

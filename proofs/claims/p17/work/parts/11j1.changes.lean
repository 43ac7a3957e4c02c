set_option maxHeartbeats 4000000 in
set_option maxRecDepth 100000 in
theorem y_noteC (l : Launch) (D : va_G) (cs : Nat → ClassId) (B : Nat) (G : hq_G) (V : hp_V) (n : Nat) (hI : hq_I cs G V) (q : Nat) (mo : Nat) (m_tp : Int32) (m_sz : Int32) (m_fr : Int32) (m_bh : Int32) (m_hd : Int32) (m_ft : Int32) (m_fa : Int32) (m_le : Int32) (m_fo : Int32) (m_as : Int32) (m_fd : Int32) (m_bc : Int32) (m_bg : Int32) (m_bs : Int32) (m_be : Int32) (m_b0 : Int32) (m_b1 : Int32) (m_cm : Int32) (m_hc : Int32) (k1 : Int32) (k2 : Int32) (k3 : Int32) (wh : Nat → Int32) (mi : Nat → Int32) (ta : Nat → Int32) (L : List sp_C3) (hc0 : V (mo) = some (.inr (13, hm_o q (m_tp) (m_sz) (m_fr) (m_bh) (m_hd) (m_ft) (m_fa) (m_le) (m_fo) (m_as) (m_fd) (m_bc) (m_bg) (m_bs) (m_be) (m_b0) (m_b1) (m_cm) (m_hc)))) (hc1 : V (q + 44) = some (.inl (cs 1, 2, .inl (wh)))) (hc2 : V (q + 45) = some (.inl (cs 1, 2, .inl (mi)))) (hc3 : V (q + 46) = some (.inl (cs 1, 2, .inl (ta)))) (hR : hq_RT G q) (hmo : G mo = some (24, 0, 0, 0)) (hmq : mo < q) (hL : sp_hl m_cm wh mi ta L) (hln : L.length ≤ 1) (hk2 : -1 ≤ k2.toInt ∧ k2.toInt < 60) : hp_M l yX13_noteChange cX13_noteChange 4 none ({ frames := 1, cells := 0, slots := 0, locals := 21 }) D cs B V n [.ref (mo), .int (k1), .int (k2), .int (k3)] (hp_QV D cs B (fun V' n' => n = n' ∧ hq_P cs G (fun _ => true) V V' ∧ (∀ x, x ≠ mo → x ≠ q + 44 → x ≠ q + 45 → x ≠ q + 46 → V' x = V x) ∧ (∃ m_cm1 : Int32, ∃ wh1 : Nat → Int32, ∃ mi1 : Nat → Int32, ∃ ta1 : Nat → Int32, V' (mo) = some (.inr (13, hm_o q (m_tp) (m_sz) (m_fr) (m_bh) (m_hd) (m_ft) (m_fa) (m_le) (m_fo) (m_as) (m_fd) (m_bc) (m_bg) (m_bs) (m_be) (m_b0) (m_b1) (m_cm1) (m_hc))) ∧ V' (q + 44) = some (.inl (cs 1, 2, .inl (wh1))) ∧ V' (q + 45) = some (.inl (cs 1, 2, .inl (mi1))) ∧ V' (q + 46) = some (.inl (cs 1, 2, .inl (ta1))) ∧ (sp_hl m_cm1 wh1 mi1 ta1 (L ++ [(k1.toInt, k2.toInt, k3.toInt)]))))) 0 0 := by
  refine hp_walk (R0 := RX13) (by decide) rfl ?_ (Nat.le_of_ble_eq_true rfl)
  intro p e s m below meth c ls hx hb hr hts hown hlocks hin hml hZ hl
  have hP : hq_P cs G (fun _ => true) V V := hq_P.rf hI
  have hl : lv_has ls 4 [(0, .ref (mo)), (1, .int (k1)), (2, .int (k2)), (3, .int (k3))] := hl
  have hb_m_tp := hq_rng m_tp
  have hb_m_sz := hq_rng m_sz
  have hb_m_fr := hq_rng m_fr
  have hb_m_bh := hq_rng m_bh
  have hb_m_hd := hq_rng m_hd
  have hb_m_ft := hq_rng m_ft
  have hb_m_fa := hq_rng m_fa
  have hb_m_le := hq_rng m_le
  have hb_m_fo := hq_rng m_fo
  have hb_m_as := hq_rng m_as
  have hb_m_fd := hq_rng m_fd
  have hb_m_bc := hq_rng m_bc
  have hb_m_bg := hq_rng m_bg
  have hb_m_bs := hq_rng m_bs
  have hb_m_be := hq_rng m_be
  have hb_m_b0 := hq_rng m_b0
  have hb_m_b1 := hq_rng m_b1
  have hb_m_cm := hq_rng m_cm
  have hb_m_hc := hq_rng m_hc
  have hb_k1 := hq_rng k1
  have hb_k2 := hq_rng k2
  have hb_k3 := hq_rng k3
  have hf1 := hq_rg hI (hr_44 hR) hc1
  have hf2 := hq_rg hI (hr_45 hR) hc2
  have hf3 := hq_rg hI (hr_46 hR) hc3
  have hL1 := hL.1
  refine lv_aload_n hx hb dX13_noteChange_0 rfl (lv_at hl 0 rfl) ?_
  refine hp_get (v := .ref (q + 44)) hx hb hts hown hZ hc0 fl_X13_283 rfl dX13_noteChange_1 ?_
  refine lv_aload_n hx hb dX13_noteChange_4 rfl (lv_at hl 0 rfl) ?_
  refine hp_get (v := .int (m_cm)) hx hb hts hown hZ hc0 fl_X13_445 rfl dX13_noteChange_5 ?_
  refine lv_iload_n hx hb dX13_noteChange_8 rfl (lv_at hl 1 rfl) ?_
  refine hp_iast hx hb hZ hc1 (hq_in (by omega) (by omega)) dX13_noteChange_9 (fun V4 _ _ e5 o6 hZ => ?_)
  have e5 : V4 (q + 44) = some (.inl (cs 1, 2, .inl (upd (wh) ((m_cm : Int32).toNatClampNeg) (k1)))) := e5
  have hP := hP.put (hr_44 hR) e5 o6 (hq_c21 (by omega) (hq_upd hf1 (hq_rng _))) rfl
  obtain ⟨g7, ge8⟩ : ∃ g9 : Nat → Int32, g9 = upd (wh) ((m_cm : Int32).toNatClampNeg) (k1) := ⟨_, rfl⟩
  have fx9 : V4 (q + 44) = some (.inl (cs 1, 2, .inl (g7))) := by rw [ge8]; exact e5
  have hf10 := hq_rg hP.1 (hr_44 hR) fx9
  refine lv_aload_n hx hb dX13_noteChange_10 rfl (lv_at hl 0 rfl) ?_
  have fx11 : V4 (mo) = some (.inr (13, hm_o q (m_tp) (m_sz) (m_fr) (m_bh) (m_hd) (m_ft) (m_fa) (m_le) (m_fo) (m_as) (m_fd) (m_bc) (m_bg) (m_bs) (m_be) (m_b0) (m_b1) (m_cm) (m_hc))) := (o6 (mo) (hq_tne hmo (hr_44 hR) (by simp))).trans (hc0)
  refine hp_get (v := .ref (q + 45)) hx hb hts hown hZ fx11 fl_X13_286 rfl dX13_noteChange_11 ?_
  refine lv_aload_n hx hb dX13_noteChange_14 rfl (lv_at hl 0 rfl) ?_
  refine hp_get (v := .int (m_cm)) hx hb hts hown hZ fx11 fl_X13_445 rfl dX13_noteChange_15 ?_
  refine lv_iload_n hx hb dX13_noteChange_18 rfl (lv_at hl 2 rfl) ?_
  have fx12 : V4 (q + 45) = some (.inl (cs 1, 2, .inl (mi))) := (o6 (q + 45) (hq_tne (hr_45 hR) (hr_44 hR) (by simp))).trans (hc2)
  refine hp_iast hx hb hZ fx12 (hq_in (by omega) (by omega)) dX13_noteChange_19 (fun V13 _ _ e14 o15 hZ => ?_)
  have e14 : V13 (q + 45) = some (.inl (cs 1, 2, .inl (upd (mi) ((m_cm : Int32).toNatClampNeg) (k2)))) := e14
  have hP := hP.put (hr_45 hR) e14 o15 (hq_c21 (by omega) (hq_upd hf2 (show (-1) ≤ _ ∧ _ ≤ 59 by constructor <;> omega))) rfl
  obtain ⟨g16, ge17⟩ : ∃ g9 : Nat → Int32, g9 = upd (mi) ((m_cm : Int32).toNatClampNeg) (k2) := ⟨_, rfl⟩
  have fx18 : V13 (q + 45) = some (.inl (cs 1, 2, .inl (g16))) := by rw [ge17]; exact e14
  have hf19 := hq_rg hP.1 (hr_45 hR) fx18
  refine lv_aload_n hx hb dX13_noteChange_20 rfl (lv_at hl 0 rfl) ?_
  have fx20 : V13 (mo) = some (.inr (13, hm_o q (m_tp) (m_sz) (m_fr) (m_bh) (m_hd) (m_ft) (m_fa) (m_le) (m_fo) (m_as) (m_fd) (m_bc) (m_bg) (m_bs) (m_be) (m_b0) (m_b1) (m_cm) (m_hc))) := (o15 (mo) (hq_tne hmo (hr_45 hR) (by simp))).trans (fx11)
  refine hp_get (v := .ref (q + 46)) hx hb hts hown hZ fx20 fl_X13_289 rfl dX13_noteChange_21 ?_
  refine lv_aload_n hx hb dX13_noteChange_24 rfl (lv_at hl 0 rfl) ?_
  refine hp_get (v := .int (m_cm)) hx hb hts hown hZ fx20 fl_X13_445 rfl dX13_noteChange_25 ?_
  refine lv_iload_n hx hb dX13_noteChange_28 rfl (lv_at hl 3 rfl) ?_
  have fx21 : V13 (q + 46) = some (.inl (cs 1, 2, .inl (ta))) := (o15 (q + 46) (hq_tne (hr_46 hR) (hr_45 hR) (by simp))).trans ((o6 (q + 46) (hq_ne q 46 44 (by decide))).trans (hc3))
  refine hp_iast hx hb hZ fx21 (hq_in (by omega) (by omega)) dX13_noteChange_29 (fun V22 _ _ e23 o24 hZ => ?_)
  have e23 : V22 (q + 46) = some (.inl (cs 1, 2, .inl (upd (ta) ((m_cm : Int32).toNatClampNeg) (k3)))) := e23
  have hP := hP.put (hr_46 hR) e23 o24 (hq_c21 (by omega) (hq_upd hf3 (hq_rng _))) rfl
  obtain ⟨g25, ge26⟩ : ∃ g9 : Nat → Int32, g9 = upd (ta) ((m_cm : Int32).toNatClampNeg) (k3) := ⟨_, rfl⟩
  have fx27 : V22 (q + 46) = some (.inl (cs 1, 2, .inl (g25))) := by rw [ge26]; exact e23
  have hf28 := hq_rg hP.1 (hr_46 hR) fx27
  refine lv_aload_n hx hb dX13_noteChange_30 rfl (lv_at hl 0 rfl) ?_
  refine lv_dup hx hb dX13_noteChange_31 rfl ?_
  have fx29 : V22 (mo) = some (.inr (13, hm_o q (m_tp) (m_sz) (m_fr) (m_bh) (m_hd) (m_ft) (m_fa) (m_le) (m_fo) (m_as) (m_fd) (m_bc) (m_bg) (m_bs) (m_be) (m_b0) (m_b1) (m_cm) (m_hc))) := (o24 (mo) (hq_tne hmo (hr_46 hR) (by simp))).trans (fx20)
  refine hp_get (v := .int (m_cm)) hx hb hts hown hZ fx29 fl_X13_445 rfl dX13_noteChange_32 ?_
  refine lv_iconst (v := 1) hx hb dX13_noteChange_35 (by decide) ?_
  refine lv_iadd hx hb dX13_noteChange_36 ?_
  refine lv_topi (fun y30 ey31 => ?_)
  obtain ⟨k32, hk33, b34, b35⟩ := hq_add (m_cm) (1)
  rw [← ey31] at hk33 b34 b35
  have hk33 : (y30).toInt = (m_cm).toInt + (1 : Int) + k32 * 4294967296 := hk33
  obtain rfl : k32 = 0 := by omega
  refine hp_put hx hb hts hown hZ fx29 fp_X13_445 rfl rfl (Nat.le_of_ble_eq_true rfl) dX13_noteChange_37 (fun V36 _ _ e37 o38 hZ => ?_)
  have e37 : V36 (mo) = some (.inr (13, hm_o q (m_tp) (m_sz) (m_fr) (m_bh) (m_hd) (m_ft) (m_fa) (m_le) (m_fo) (m_as) (m_fd) (m_bc) (m_bg) (m_bs) (m_be) (m_b0) (m_b1) (y30) (m_hc))) := e37
  have hP := hP.put hmo e37 o38 (trivial) rfl
  have fx39 : V36 (q + 44) = some (.inl (cs 1, 2, .inl (g7))) := (o38 (q + 44) (hq_tne (hr_44 hR) hmo (by simp))).trans ((o24 (q + 44) (hq_ne q 44 46 (by decide))).trans ((o15 (q + 44) (hq_tne (hr_44 hR) (hr_45 hR) (by simp))).trans (fx9)))
  have fx40 : V36 (q + 45) = some (.inl (cs 1, 2, .inl (g16))) := (o38 (q + 45) (hq_tne (hr_45 hR) hmo (by simp))).trans ((o24 (q + 45) (hq_tne (hr_45 hR) (hr_46 hR) (by simp))).trans (fx18))
  have fx41 : V36 (q + 46) = some (.inl (cs 1, 2, .inl (g25))) := (o38 (q + 46) (hq_tne (hr_46 hR) hmo (by simp))).trans (fx27)
  exact hp_vret hx hb hr hlocks hZ ⟨rfl, hP, (fun x8 hne0 hne1 hne2 hne3 => (o38 x8 hne0).trans ((o24 x8 hne3).trans ((o15 x8 hne2).trans (o6 x8 hne1)))), y30, g7, g16, g25, e37, fx39, fx40, fx41, (by rw [ge8, ge17, ge26]; exact hL.snoc (by omega))⟩ dX13_noteChange_40

set_option maxHeartbeats 4000000 in
set_option maxRecDepth 100000 in
theorem y_keepC (l : Launch) (D : va_G) (cs : Nat → ClassId) (B : Nat) (G : hq_G) (V : hp_V) (n : Nat) (hI : hq_I cs G V) (q : Nat) (mo : Nat) (w : sp_W) (bk : sp_B) (c9 : Int) (ex : Int) (os : Int) (oe : Int) (rh : hm_Rh) (m_tp : Int32) (m_sz : Int32) (m_fr : Int32) (m_bh : Int32) (m_hd : Int32) (m_ft : Int32) (m_fa : Int32) (m_le : Int32) (m_fo : Int32) (m_as : Int32) (m_fd : Int32) (m_bc : Int32) (m_bg : Int32) (m_bs : Int32) (m_be : Int32) (m_b0 : Int32) (m_b1 : Int32) (m_cm : Int32) (m_hc : Int32) (v : Int32) (te : Int32) (pe : Int32) (wh : Nat → Int32) (mi : Nat → Int32) (ta : Nat → Int32) (hc0 : V (mo) = some (.inr (13, hm_o q (m_tp) (m_sz) (m_fr) (m_bh) (m_hd) (m_ft) (m_fa) (m_le) (m_fo) (m_as) (m_fd) (m_bc) (m_bg) (m_bs) (m_be) (m_b0) (m_b1) (m_cm) (m_hc)))) (hc1 : V (q + 44) = some (.inl (cs 1, 2, .inl (wh)))) (hc2 : V (q + 45) = some (.inl (cs 1, 2, .inl (mi)))) (hc3 : V (q + 46) = some (.inl (cs 1, 2, .inl (ta)))) (hp0 : hm_AR cs V q rh) (hR : hq_RT G q) (hmo : G mo = some (24, 0, 0, 0)) (hmq : mo < q) (hBm : hm_BK rh 0 w bk) (hgd2 : sp_good2 bk) (hv : 0 ≤ v.toInt ∧ v.toInt < 30) (hc9 : (rh 9 (v).toNatClampNeg).toInt = c9) (hex : (sp_nf 4 v.toInt c9 te.toInt pe.toInt bk.2.2.2 0) = ex) (hos : (sp_nf 0 v.toInt c9 te.toInt pe.toInt bk.2.2.2 0) = os) (hoe : (sp_nf 1 v.toInt c9 te.toInt pe.toInt bk.2.2.2 0) = oe) (htl : (sp_tel ex os oe m_bs.toInt m_be.toInt m_b0.toInt m_b1.toInt).length ≤ 2) (hb1 : -1 ≤ m_bs.toInt ∧ m_bs.toInt < 60) (hb2 : -1 ≤ m_be.toInt ∧ m_be.toInt < 60) (hb3 : -1 ≤ m_b0.toInt ∧ m_b0.toInt < 60) (hb4 : -1 ≤ m_b1.toInt ∧ m_b1.toInt < 60) : hp_M l yX13_keepChanges cX13_keepChanges 7 none ({ frames := 3, cells := 0, slots := 0, locals := 70 }) D cs B V n [.ref (mo), .int (v), .int (te), .int (pe)] (hp_QV D cs B (fun V' n' => n = n' ∧ hq_P cs G (fun _ => true) V V' ∧ (∀ x, x ≠ mo → x ≠ q + 44 → x ≠ q + 45 → x ≠ q + 46 → V' x = V x) ∧ (∃ m_cm1 : Int32, ∃ wh1 : Nat → Int32, ∃ mi1 : Nat → Int32, ∃ ta1 : Nat → Int32, V' (mo) = some (.inr (13, hm_o q (m_tp) (m_sz) (m_fr) (m_bh) (m_hd) (m_ft) (m_fa) (m_le) (m_fo) (m_as) (m_fd) (m_bc) (m_bg) (m_bs) (m_be) (m_b0) (m_b1) (m_cm1) (1))) ∧ V' (q + 44) = some (.inl (cs 1, 2, .inl (wh1))) ∧ V' (q + 45) = some (.inl (cs 1, 2, .inl (mi1))) ∧ V' (q + 46) = some (.inl (cs 1, 2, .inl (ta1))) ∧ (sp_hl m_cm1 wh1 mi1 ta1 (sp_tel ex os oe m_bs.toInt m_be.toInt m_b0.toInt m_b1.toInt))))) 0 0 := by
  refine hp_walk (R0 := RX13) (by decide) rfl ?_ (Nat.le_of_ble_eq_true rfl)
  intro p e s m below meth c ls hx hb hr hts hown hlocks hin hml hZ hl
  have hP : hq_P cs G (fun _ => true) V V := hq_P.rf hI
  have hl : lv_has ls 7 [(0, .ref (mo)), (1, .int (v)), (2, .int (te)), (3, .int (pe))] := hl
  have hb_m_tp := hq_rng m_tp
  have hb_m_sz := hq_rng m_sz
  have hb_m_fr := hq_rng m_fr
  have hb_m_bh := hq_rng m_bh
  have hb_m_hd := hq_rng m_hd
  have hb_m_ft := hq_rng m_ft
  have hb_m_fa := hq_rng m_fa
  have hb_m_le := hq_rng m_le
  have hb_m_fo := hq_rng m_fo
  have hb_m_as := hq_rng m_as
  have hb_m_fd := hq_rng m_fd
  have hb_m_bc := hq_rng m_bc
  have hb_m_bg := hq_rng m_bg
  have hb_m_bs := hq_rng m_bs
  have hb_m_be := hq_rng m_be
  have hb_m_b0 := hq_rng m_b0
  have hb_m_b1 := hq_rng m_b1
  have hb_m_cm := hq_rng m_cm
  have hb_m_hc := hq_rng m_hc
  have hb_v := hq_rng v
  have hb_te := hq_rng te
  have hb_pe := hq_rng pe
  have hH0 : hm_H rh rh := hm_H.rf
  have hf1 := hq_rg hI (hr_44 hR) hc1
  have hf2 := hq_rg hI (hr_45 hR) hc2
  have hf3 := hq_rg hI (hr_46 hR) hc3
  have hll9 := hBm.2.2.2.2.2.1
  refine lv_aload_n hx hb dX13_keepChanges_0 rfl (lv_at hl 0 rfl) ?_
  refine lv_iconst (v := 1) hx hb dX13_keepChanges_1 (by decide) ?_
  refine hp_put hx hb hts hown hZ hc0 fp_X13_313 rfl rfl (Nat.le_of_ble_eq_true rfl) dX13_keepChanges_2 (fun V4 _ _ e5 o6 hZ => ?_)
  have e5 : V4 (mo) = some (.inr (13, hm_o q (m_tp) (m_sz) (m_fr) (m_bh) (m_hd) (m_ft) (m_fa) (m_le) (m_fo) (m_as) (m_fd) (m_bc) (m_bg) (m_bs) (m_be) (m_b0) (m_b1) (m_cm) (1))) := e5
  have hP := hP.put hmo e5 o6 (trivial) rfl
  refine lv_aload_n hx hb dX13_keepChanges_5 rfl (lv_at hl 0 rfl) ?_
  refine lv_iconst (v := 0) hx hb dX13_keepChanges_6 (by decide) ?_
  refine hp_put hx hb hts hown hZ e5 fp_X13_445 rfl rfl (Nat.le_of_ble_eq_true rfl) dX13_keepChanges_7 (fun V7 _ _ e8 o9 hZ => ?_)
  have e8 : V7 (mo) = some (.inr (13, hm_o q (m_tp) (m_sz) (m_fr) (m_bh) (m_hd) (m_ft) (m_fa) (m_le) (m_fo) (m_as) (m_fd) (m_bc) (m_bg) (m_bs) (m_be) (m_b0) (m_b1) (0) (1))) := e8
  have hP := hP.put hmo e8 o9 (trivial) rfl
  refine lv_aload_n hx hb dX13_keepChanges_10 rfl (lv_at hl 0 rfl) ?_
  refine lv_iconst (v := 4) hx hb dX13_keepChanges_11 (by decide) ?_
  refine lv_iload_n hx hb dX13_keepChanges_12 rfl (lv_at hl 1 rfl) ?_
  refine lv_iload_n hx hb dX13_keepChanges_13 rfl (lv_at hl 2 rfl) ?_
  refine lv_iload_n hx hb dX13_keepChanges_14 rfl (lv_at hl 3 rfl) ?_
  have hl10 : (0 : Int32).toInt = 0 := by decide
  have hl11 : (1 : Int32).toInt = 1 := by decide
  have hl12 : (4 : Int32).toInt = 4 := by decide
  have pk13 := hp0.keep (fun x7 (hx7 : q ≤ x7 ∧ x7 < q + 19) => (o9 x7 (by omega)).trans (o6 x7 (by omega)))
  refine hp_calli (hp_runV (As := [.int (4), .int (v), .int (te), .int (pe)]) (rest := []) hx hb hml hown hts (y_fo l D cs B G V7 n hP.1 (q) (mo) (w) (bk) (c9) (rh) (m_tp) (m_sz) (m_fr) (m_bh) (m_hd) (m_ft) (m_fa) (m_le) (m_fo) (m_as) (m_fd) (m_bc) (m_bg) (m_bs) (m_be) (m_b0) (m_b1) (0) (1) (4) (v) (te) (pe)  e8 pk13 hR hmo hBm hgd2 (by decide) (by omega) hc9) hZ e8 cv_X13_347 rfl rfl ⟨Nat.le_of_ble_eq_true rfl, Nat.le_of_ble_eq_true rfl⟩ rfl hl.1 rfl (Nat.le_of_ble_eq_true rfl) dX13_keepChanges_15 ⟨(Nat.le_of_ble_eq_true rfl), (Nat.le_of_ble_eq_true rfl)⟩) hZ (fun r17 V14 n15 _ _ hw16 hZ => ?_)
  obtain ⟨rfl, rfl, hp20⟩ := hw16
  have b21 := hq_rng r17
  have hf4 := hp20
  rw [show (4 : Int32).toInt = 4 by decide, hex] at hf4
  have hrg4 := sp_nf_rg (k := 4) (v := v.toInt) (c := c9) (t := te.toInt) (p := pe.toInt) bk.2.2.2 0 (by omega)
  rw [hex] at hrg4
  have hrh4 : -1 ≤ (r17).toInt ∧ (r17).toInt < 60 := by rcases hrg4 with g9 | ⟨g8, g9, -⟩ <;> omega
  refine lv_istore (lv' := [(4, .int (r17)), (0, .ref (mo)), (1, .int (v)), (2, .int (te)), (3, .int (pe))]) hx hb dX13_keepChanges_18 hl (by decide) rfl (fun ls hl => ?_)
  refine lv_aload_n hx hb dX13_keepChanges_20 rfl (lv_at hl 1 rfl) ?_
  refine lv_iconst (v := 0) hx hb dX13_keepChanges_21 (by decide) ?_
  refine lv_iload_n hx hb dX13_keepChanges_22 rfl (lv_at hl 2 rfl) ?_
  refine lv_iload_n hx hb dX13_keepChanges_23 rfl (lv_at hl 3 rfl) ?_
  refine lv_iload_n hx hb dX13_keepChanges_24 rfl (lv_at hl 4 rfl) ?_
  have hl22 : (0 : Int32).toInt = 0 := by decide
  have hl23 : (1 : Int32).toInt = 1 := by decide
  have hl24 : (0 : Int32).toInt = 0 := by decide
  refine hp_calli (hp_runV (As := [.int (0), .int (v), .int (te), .int (pe)]) (rest := []) hx hb hml hown hts (y_fo l D cs B G V7 n hP.1 (q) (mo) (w) (bk) (c9) (rh) (m_tp) (m_sz) (m_fr) (m_bh) (m_hd) (m_ft) (m_fa) (m_le) (m_fo) (m_as) (m_fd) (m_bc) (m_bg) (m_bs) (m_be) (m_b0) (m_b1) (0) (1) (0) (v) (te) (pe)  e8 pk13 hR hmo hBm hgd2 (by decide) (by omega) hc9) hZ e8 cv_X13_347 rfl rfl ⟨Nat.le_of_ble_eq_true rfl, Nat.le_of_ble_eq_true rfl⟩ rfl hl.1 rfl (Nat.le_of_ble_eq_true rfl) dX13_keepChanges_25 ⟨(Nat.le_of_ble_eq_true rfl), (Nat.le_of_ble_eq_true rfl)⟩) hZ (fun r28 V25 n26 _ _ hw27 hZ => ?_)
  obtain ⟨rfl, rfl, hp31⟩ := hw27
  have b32 := hq_rng r28
  have hf0 := hp31
  rw [show (0 : Int32).toInt = 0 by decide, hos] at hf0
  have hrg0 := sp_nf_rg (k := 0) (v := v.toInt) (c := c9) (t := te.toInt) (p := pe.toInt) bk.2.2.2 0 (by omega)
  rw [hos] at hrg0
  have hrh0 : -1 ≤ (r28).toInt ∧ (r28).toInt < 60 := by rcases hrg0 with g9 | ⟨g8, g9, -⟩ <;> omega
  refine lv_istore (lv' := [(5, .int (r28)), (4, .int (r17)), (0, .ref (mo)), (1, .int (v)), (2, .int (te)), (3, .int (pe))]) hx hb dX13_keepChanges_28 hl (by decide) rfl (fun ls hl => ?_)
  refine lv_aload_n hx hb dX13_keepChanges_30 rfl (lv_at hl 2 rfl) ?_
  refine lv_iconst (v := 1) hx hb dX13_keepChanges_31 (by decide) ?_
  refine lv_iload_n hx hb dX13_keepChanges_32 rfl (lv_at hl 3 rfl) ?_
  refine lv_iload_n hx hb dX13_keepChanges_33 rfl (lv_at hl 4 rfl) ?_
  refine lv_iload_n hx hb dX13_keepChanges_34 rfl (lv_at hl 5 rfl) ?_
  have hl33 : (0 : Int32).toInt = 0 := by decide
  have hl34 : (1 : Int32).toInt = 1 := by decide
  have hl35 : (1 : Int32).toInt = 1 := by decide
  refine hp_calli (hp_runV (As := [.int (1), .int (v), .int (te), .int (pe)]) (rest := []) hx hb hml hown hts (y_fo l D cs B G V7 n hP.1 (q) (mo) (w) (bk) (c9) (rh) (m_tp) (m_sz) (m_fr) (m_bh) (m_hd) (m_ft) (m_fa) (m_le) (m_fo) (m_as) (m_fd) (m_bc) (m_bg) (m_bs) (m_be) (m_b0) (m_b1) (0) (1) (1) (v) (te) (pe)  e8 pk13 hR hmo hBm hgd2 (by decide) (by omega) hc9) hZ e8 cv_X13_347 rfl rfl ⟨Nat.le_of_ble_eq_true rfl, Nat.le_of_ble_eq_true rfl⟩ rfl hl.1 rfl (Nat.le_of_ble_eq_true rfl) dX13_keepChanges_35 ⟨(Nat.le_of_ble_eq_true rfl), (Nat.le_of_ble_eq_true rfl)⟩) hZ (fun r39 V36 n37 _ _ hw38 hZ => ?_)
  obtain ⟨rfl, rfl, hp42⟩ := hw38
  have b43 := hq_rng r39
  have hf1 := hp42
  rw [show (1 : Int32).toInt = 1 by decide, hoe] at hf1
  have hrg1 := sp_nf_rg (k := 1) (v := v.toInt) (c := c9) (t := te.toInt) (p := pe.toInt) bk.2.2.2 0 (by omega)
  rw [hoe] at hrg1
  have hrh1 : -1 ≤ (r39).toInt ∧ (r39).toInt < 60 := by rcases hrg1 with g9 | ⟨g8, g9, -⟩ <;> omega
  refine lv_istore (lv' := [(6, .int (r39)), (5, .int (r28)), (4, .int (r17)), (0, .ref (mo)), (1, .int (v)), (2, .int (te)), (3, .int (pe))]) hx hb dX13_keepChanges_38 hl (by decide) rfl (fun ls hl => ?_)
  have hpc0 : ([] : List sp_C3) ++ (sp_te1 0 ex ++ (sp_te2 os m_bs.toInt ++ (sp_te3 oe m_be.toInt ++ (sp_te1 5 m_b0.toInt ++ (sp_te1 5 m_b1.toInt ++ []))))) = (sp_tel ex os oe m_bs.toInt m_be.toInt m_b0.toInt m_b1.toInt) := by rw [List.nil_append, List.append_nil, sp_tel_eq]
  have hnil : sp_hl 0 wh mi ta [] := sp_hl.nil
  have fx45 : V7 (q + 44) = some (.inl (cs 1, 2, .inl (wh))) := (o9 (q + 44) (hq_tne (hr_44 hR) hmo (by simp))).trans ((o6 (q + 44) (hq_tne (hr_44 hR) hmo (by simp))).trans (hc1))
  have fx47 : V7 (q + 45) = some (.inl (cs 1, 2, .inl (mi))) := (o9 (q + 45) (hq_tne (hr_45 hR) hmo (by simp))).trans ((o6 (q + 45) (hq_tne (hr_45 hR) hmo (by simp))).trans (hc2))
  have fx49 : V7 (q + 46) = some (.inl (cs 1, 2, .inl (ta))) := (o9 (q + 46) (hq_tne (hr_46 hR) hmo (by simp))).trans ((o6 (q + 46) (hq_tne (hr_46 hR) hmo (by simp))).trans (hc3))
  have jn54 : ∀ (V9 : hp_V) (H9 : Heap) (locs9 : List Loc) (ls : Array Slot)  (ll0 : List sp_C3) (cm0 : Int32) (wh0 : Nat → Int32) (mi0 : Nat → Int32) (ta0 : Nat → Int32), hp_Z D cs B s V9 H9 n locs9 → hq_P cs G (fun _ => true) V V9 → V9 (mo) = some (.inr (13, hm_o q (m_tp) (m_sz) (m_fr) (m_bh) (m_hd) (m_ft) (m_fa) (m_le) (m_fo) (m_as) (m_fd) (m_bc) (m_bg) (m_bs) (m_be) (m_b0) (m_b1) (cm0) (1))) → V9 (q + 44) = some (.inl (cs 1, 2, .inl (wh0))) → V9 (q + 45) = some (.inl (cs 1, 2, .inl (mi0))) → V9 (q + 46) = some (.inl (cs 1, 2, .inl (ta0))) → (∀ x, x ≠ mo → x ≠ q + 44 → x ≠ q + 45 → x ≠ q + 46 → V9 x = V x) → (sp_hl cm0 wh0 mi0 ta0 ll0) → (ll0 ++ (sp_te2 os m_bs.toInt ++ (sp_te3 oe m_be.toInt ++ (sp_te1 5 m_b0.toInt ++ (sp_te1 5 m_b1.toInt ++ [])))) = (sp_tel ex os oe m_bs.toInt m_be.toInt m_b0.toInt m_b1.toInt)) → lv_has ls 7 [(6, .int (r39)), (5, .int (r28)), (4, .int (r17)), (0, .ref (mo))] → W p l e ({ frames := 3, cells := 0, slots := 0, locals := 70 }) s m ([.ref (mo), .int (v), .int (te), .int (pe)] : List Value).toArray below meth c H9 locs9 0 0 (MQ below (hp_QV D cs B (fun V' n' => n = n' ∧ hq_P cs G (fun _ => true) V V' ∧ (∀ x, x ≠ mo → x ≠ q + 44 → x ≠ q + 45 → x ≠ q + 46 → V' x = V x) ∧ (∃ m_cm1 : Int32, ∃ wh1 : Nat → Int32, ∃ mi1 : Nat → Int32, ∃ ta1 : Nat → Int32, V' (mo) = some (.inr (13, hm_o q (m_tp) (m_sz) (m_fr) (m_bh) (m_hd) (m_ft) (m_fa) (m_le) (m_fo) (m_as) (m_fd) (m_bc) (m_bg) (m_bs) (m_be) (m_b0) (m_b1) (m_cm1) (1))) ∧ V' (q + 44) = some (.inl (cs 1, 2, .inl (wh1))) ∧ V' (q + 45) = some (.inl (cs 1, 2, .inl (mi1))) ∧ V' (q + 46) = some (.inl (cs 1, 2, .inl (ta1))) ∧ (sp_hl m_cm1 wh1 mi1 ta1 (sp_tel ex os oe m_bs.toInt m_be.toInt m_b0.toInt m_b1.toInt))))) ([.ref (mo), .int (v), .int (te), .int (pe)] : List Value).toArray s 0 0 (hp_F B)) (F0 m 54 ls []) := by
    intro V9 H9 locs9 ls  ll0 cm0 wh0 mi0 ta0 hZ hP ho44 ho46 ho48 ho50 fr54  hc54 hp54x hl
    have hb_cm0 := hq_rng cm0
    have hf51 := hq_rg hP.1 (hr_44 hR) ho46
    have hf52 := hq_rg hP.1 (hr_45 hR) ho48
    have hf53 := hq_rg hP.1 (hr_46 hR) ho50
    have jn99 : ∀ (V9 : hp_V) (H9 : Heap) (locs9 : List Loc) (ls : Array Slot)  (ll1 : List sp_C3) (cm1 : Int32) (wh1 : Nat → Int32) (mi1 : Nat → Int32) (ta1 : Nat → Int32), hp_Z D cs B s V9 H9 n locs9 → hq_P cs G (fun _ => true) V V9 → V9 (mo) = some (.inr (13, hm_o q (m_tp) (m_sz) (m_fr) (m_bh) (m_hd) (m_ft) (m_fa) (m_le) (m_fo) (m_as) (m_fd) (m_bc) (m_bg) (m_bs) (m_be) (m_b0) (m_b1) (cm1) (1))) → V9 (q + 44) = some (.inl (cs 1, 2, .inl (wh1))) → V9 (q + 45) = some (.inl (cs 1, 2, .inl (mi1))) → V9 (q + 46) = some (.inl (cs 1, 2, .inl (ta1))) → (∀ x, x ≠ mo → x ≠ q + 44 → x ≠ q + 45 → x ≠ q + 46 → V9 x = V x) → (sp_hl cm1 wh1 mi1 ta1 ll1) → (ll1 ++ (sp_te3 oe m_be.toInt ++ (sp_te1 5 m_b0.toInt ++ (sp_te1 5 m_b1.toInt ++ []))) = (sp_tel ex os oe m_bs.toInt m_be.toInt m_b0.toInt m_b1.toInt)) → lv_has ls 7 [(6, .int (r39)), (5, .int (r28)), (4, .int (r17)), (0, .ref (mo))] → W p l e ({ frames := 3, cells := 0, slots := 0, locals := 70 }) s m ([.ref (mo), .int (v), .int (te), .int (pe)] : List Value).toArray below meth c H9 locs9 0 0 (MQ below (hp_QV D cs B (fun V' n' => n = n' ∧ hq_P cs G (fun _ => true) V V' ∧ (∀ x, x ≠ mo → x ≠ q + 44 → x ≠ q + 45 → x ≠ q + 46 → V' x = V x) ∧ (∃ m_cm1 : Int32, ∃ wh1 : Nat → Int32, ∃ mi1 : Nat → Int32, ∃ ta1 : Nat → Int32, V' (mo) = some (.inr (13, hm_o q (m_tp) (m_sz) (m_fr) (m_bh) (m_hd) (m_ft) (m_fa) (m_le) (m_fo) (m_as) (m_fd) (m_bc) (m_bg) (m_bs) (m_be) (m_b0) (m_b1) (m_cm1) (1))) ∧ V' (q + 44) = some (.inl (cs 1, 2, .inl (wh1))) ∧ V' (q + 45) = some (.inl (cs 1, 2, .inl (mi1))) ∧ V' (q + 46) = some (.inl (cs 1, 2, .inl (ta1))) ∧ (sp_hl m_cm1 wh1 mi1 ta1 (sp_tel ex os oe m_bs.toInt m_be.toInt m_b0.toInt m_b1.toInt))))) ([.ref (mo), .int (v), .int (te), .int (pe)] : List Value).toArray s 0 0 (hp_F B)) (F0 m 99 ls []) := by
      intro V9 H9 locs9 ls  ll1 cm1 wh1 mi1 ta1 hZ hP ho54 ho55 ho56 ho57 fr99  hc99 hp99x hl
      have hb_cm1 := hq_rng cm1
      have hf58 := hq_rg hP.1 (hr_44 hR) ho55
      have hf59 := hq_rg hP.1 (hr_45 hR) ho56
      have hf60 := hq_rg hP.1 (hr_46 hR) ho57
      have jn150 : ∀ (V9 : hp_V) (H9 : Heap) (locs9 : List Loc) (ls : Array Slot)  (ll2 : List sp_C3) (cm2 : Int32) (wh2 : Nat → Int32) (mi2 : Nat → Int32) (ta2 : Nat → Int32), hp_Z D cs B s V9 H9 n locs9 → hq_P cs G (fun _ => true) V V9 → V9 (mo) = some (.inr (13, hm_o q (m_tp) (m_sz) (m_fr) (m_bh) (m_hd) (m_ft) (m_fa) (m_le) (m_fo) (m_as) (m_fd) (m_bc) (m_bg) (m_bs) (m_be) (m_b0) (m_b1) (cm2) (1))) → V9 (q + 44) = some (.inl (cs 1, 2, .inl (wh2))) → V9 (q + 45) = some (.inl (cs 1, 2, .inl (mi2))) → V9 (q + 46) = some (.inl (cs 1, 2, .inl (ta2))) → (∀ x, x ≠ mo → x ≠ q + 44 → x ≠ q + 45 → x ≠ q + 46 → V9 x = V x) → (sp_hl cm2 wh2 mi2 ta2 ll2) → (ll2 ++ (sp_te1 5 m_b0.toInt ++ (sp_te1 5 m_b1.toInt ++ [])) = (sp_tel ex os oe m_bs.toInt m_be.toInt m_b0.toInt m_b1.toInt)) → lv_has ls 7 [(6, .int (r39)), (5, .int (r28)), (4, .int (r17)), (0, .ref (mo))] → W p l e ({ frames := 3, cells := 0, slots := 0, locals := 70 }) s m ([.ref (mo), .int (v), .int (te), .int (pe)] : List Value).toArray below meth c H9 locs9 0 0 (MQ below (hp_QV D cs B (fun V' n' => n = n' ∧ hq_P cs G (fun _ => true) V V' ∧ (∀ x, x ≠ mo → x ≠ q + 44 → x ≠ q + 45 → x ≠ q + 46 → V' x = V x) ∧ (∃ m_cm1 : Int32, ∃ wh1 : Nat → Int32, ∃ mi1 : Nat → Int32, ∃ ta1 : Nat → Int32, V' (mo) = some (.inr (13, hm_o q (m_tp) (m_sz) (m_fr) (m_bh) (m_hd) (m_ft) (m_fa) (m_le) (m_fo) (m_as) (m_fd) (m_bc) (m_bg) (m_bs) (m_be) (m_b0) (m_b1) (m_cm1) (1))) ∧ V' (q + 44) = some (.inl (cs 1, 2, .inl (wh1))) ∧ V' (q + 45) = some (.inl (cs 1, 2, .inl (mi1))) ∧ V' (q + 46) = some (.inl (cs 1, 2, .inl (ta1))) ∧ (sp_hl m_cm1 wh1 mi1 ta1 (sp_tel ex os oe m_bs.toInt m_be.toInt m_b0.toInt m_b1.toInt))))) ([.ref (mo), .int (v), .int (te), .int (pe)] : List Value).toArray s 0 0 (hp_F B)) (F0 m 150 ls []) := by
        intro V9 H9 locs9 ls  ll2 cm2 wh2 mi2 ta2 hZ hP ho61 ho62 ho63 ho64 fr150  hc150 hp150x hl
        have hb_cm2 := hq_rng cm2
        have hf65 := hq_rg hP.1 (hr_44 hR) ho62
        have hf66 := hq_rg hP.1 (hr_45 hR) ho63
        have hf67 := hq_rg hP.1 (hr_46 hR) ho64
        have jn168 : ∀ (V9 : hp_V) (H9 : Heap) (locs9 : List Loc) (ls : Array Slot)  (ll3 : List sp_C3) (cm3 : Int32) (wh3 : Nat → Int32) (mi3 : Nat → Int32) (ta3 : Nat → Int32), hp_Z D cs B s V9 H9 n locs9 → hq_P cs G (fun _ => true) V V9 → V9 (mo) = some (.inr (13, hm_o q (m_tp) (m_sz) (m_fr) (m_bh) (m_hd) (m_ft) (m_fa) (m_le) (m_fo) (m_as) (m_fd) (m_bc) (m_bg) (m_bs) (m_be) (m_b0) (m_b1) (cm3) (1))) → V9 (q + 44) = some (.inl (cs 1, 2, .inl (wh3))) → V9 (q + 45) = some (.inl (cs 1, 2, .inl (mi3))) → V9 (q + 46) = some (.inl (cs 1, 2, .inl (ta3))) → (∀ x, x ≠ mo → x ≠ q + 44 → x ≠ q + 45 → x ≠ q + 46 → V9 x = V x) → (sp_hl cm3 wh3 mi3 ta3 ll3) → (ll3 ++ (sp_te1 5 m_b1.toInt ++ []) = (sp_tel ex os oe m_bs.toInt m_be.toInt m_b0.toInt m_b1.toInt)) → lv_has ls 7 [(6, .int (r39)), (5, .int (r28)), (4, .int (r17)), (0, .ref (mo))] → W p l e ({ frames := 3, cells := 0, slots := 0, locals := 70 }) s m ([.ref (mo), .int (v), .int (te), .int (pe)] : List Value).toArray below meth c H9 locs9 0 0 (MQ below (hp_QV D cs B (fun V' n' => n = n' ∧ hq_P cs G (fun _ => true) V V' ∧ (∀ x, x ≠ mo → x ≠ q + 44 → x ≠ q + 45 → x ≠ q + 46 → V' x = V x) ∧ (∃ m_cm1 : Int32, ∃ wh1 : Nat → Int32, ∃ mi1 : Nat → Int32, ∃ ta1 : Nat → Int32, V' (mo) = some (.inr (13, hm_o q (m_tp) (m_sz) (m_fr) (m_bh) (m_hd) (m_ft) (m_fa) (m_le) (m_fo) (m_as) (m_fd) (m_bc) (m_bg) (m_bs) (m_be) (m_b0) (m_b1) (m_cm1) (1))) ∧ V' (q + 44) = some (.inl (cs 1, 2, .inl (wh1))) ∧ V' (q + 45) = some (.inl (cs 1, 2, .inl (mi1))) ∧ V' (q + 46) = some (.inl (cs 1, 2, .inl (ta1))) ∧ (sp_hl m_cm1 wh1 mi1 ta1 (sp_tel ex os oe m_bs.toInt m_be.toInt m_b0.toInt m_b1.toInt))))) ([.ref (mo), .int (v), .int (te), .int (pe)] : List Value).toArray s 0 0 (hp_F B)) (F0 m 168 ls []) := by
          intro V9 H9 locs9 ls  ll3 cm3 wh3 mi3 ta3 hZ hP ho68 ho69 ho70 ho71 fr168  hc168 hp168x hl
          have hb_cm3 := hq_rng cm3
          have hf72 := hq_rg hP.1 (hr_44 hR) ho69
          have hf73 := hq_rg hP.1 (hr_45 hR) ho70
          have hf74 := hq_rg hP.1 (hr_46 hR) ho71
          have jn186 : ∀ (V9 : hp_V) (H9 : Heap) (locs9 : List Loc) (ls : Array Slot)  (ll4 : List sp_C3) (cm4 : Int32) (wh4 : Nat → Int32) (mi4 : Nat → Int32) (ta4 : Nat → Int32), hp_Z D cs B s V9 H9 n locs9 → hq_P cs G (fun _ => true) V V9 → V9 (mo) = some (.inr (13, hm_o q (m_tp) (m_sz) (m_fr) (m_bh) (m_hd) (m_ft) (m_fa) (m_le) (m_fo) (m_as) (m_fd) (m_bc) (m_bg) (m_bs) (m_be) (m_b0) (m_b1) (cm4) (1))) → V9 (q + 44) = some (.inl (cs 1, 2, .inl (wh4))) → V9 (q + 45) = some (.inl (cs 1, 2, .inl (mi4))) → V9 (q + 46) = some (.inl (cs 1, 2, .inl (ta4))) → (∀ x, x ≠ mo → x ≠ q + 44 → x ≠ q + 45 → x ≠ q + 46 → V9 x = V x) → (sp_hl cm4 wh4 mi4 ta4 ll4) → (ll4 ++ [] = (sp_tel ex os oe m_bs.toInt m_be.toInt m_b0.toInt m_b1.toInt)) → lv_has ls 7 [(6, .int (r39)), (5, .int (r28)), (4, .int (r17)), (0, .ref (mo))] → W p l e ({ frames := 3, cells := 0, slots := 0, locals := 70 }) s m ([.ref (mo), .int (v), .int (te), .int (pe)] : List Value).toArray below meth c H9 locs9 0 0 (MQ below (hp_QV D cs B (fun V' n' => n = n' ∧ hq_P cs G (fun _ => true) V V' ∧ (∀ x, x ≠ mo → x ≠ q + 44 → x ≠ q + 45 → x ≠ q + 46 → V' x = V x) ∧ (∃ m_cm1 : Int32, ∃ wh1 : Nat → Int32, ∃ mi1 : Nat → Int32, ∃ ta1 : Nat → Int32, V' (mo) = some (.inr (13, hm_o q (m_tp) (m_sz) (m_fr) (m_bh) (m_hd) (m_ft) (m_fa) (m_le) (m_fo) (m_as) (m_fd) (m_bc) (m_bg) (m_bs) (m_be) (m_b0) (m_b1) (m_cm1) (1))) ∧ V' (q + 44) = some (.inl (cs 1, 2, .inl (wh1))) ∧ V' (q + 45) = some (.inl (cs 1, 2, .inl (mi1))) ∧ V' (q + 46) = some (.inl (cs 1, 2, .inl (ta1))) ∧ (sp_hl m_cm1 wh1 mi1 ta1 (sp_tel ex os oe m_bs.toInt m_be.toInt m_b0.toInt m_b1.toInt))))) ([.ref (mo), .int (v), .int (te), .int (pe)] : List Value).toArray s 0 0 (hp_F B)) (F0 m 186 ls []) := by
            intro V9 H9 locs9 ls  ll4 cm4 wh4 mi4 ta4 hZ hP ho75 ho76 ho77 ho78 fr186  hc186 hp186x hl
            have hb_cm4 := hq_rng cm4
            have hf79 := hq_rg hP.1 (hr_44 hR) ho76
            have hf80 := hq_rg hP.1 (hr_45 hR) ho77
            have hf81 := hq_rg hP.1 (hr_46 hR) ho78
            exact hp_vret hx hb hr hlocks hZ ⟨rfl, hP, (fun x8 hne0 hne1 hne2 hne3 => fr186 x8 hne0 hne1 hne2 hne3), cm4, wh4, mi4, ta4, ho75, ho76, ho77, ho78, (by have h9 := hp186x; rw [List.append_nil] at h9; rw [← h9]; exact hc186)⟩ dX13_keepChanges_186
          refine lv_aload_n hx hb dX13_keepChanges_168 rfl (lv_at hl 3 rfl) ?_
          refine hp_get (v := .int (m_b1)) hx hb hts hown hZ ho68 fl_X13_431 rfl dX13_keepChanges_169 ?_
          refine lv_iconst (v := -1) hx hb dX13_keepChanges_172 (by decide) ?_
          refine lv_icmp_eq (tgt := 186) hx hb dX13_keepChanges_173 (by decide) (fun c82 => ?_) (fun c82 => ?_)
          · have c82 : (m_b1).toInt = (-1 : Int) := hq_eqi.mp c82
            exact jn186 _ _ _ ls  (ll3) (cm3) (wh3) (mi3) (ta3) hZ hP ho68 ho69 ho70 ho71 (fun x8 hne0 hne1 hne2 hne3 => fr168 x8 hne0 hne1 hne2 hne3) (hc168) (sp_pc_n hp168x (sp_te1_n (by omega))) (lv_sub hl [0, 1, 2, 3] rfl)
          · have c82 : ¬ (m_b1).toInt = (-1 : Int) := fun h9 => c82 (hq_eqi.mpr h9)
            refine lv_aload_n hx hb dX13_keepChanges_176 rfl (lv_at hl 3 rfl) ?_
            refine lv_iconst (v := 5) hx hb dX13_keepChanges_177 (by decide) ?_
            refine lv_aload_n hx hb dX13_keepChanges_178 rfl (lv_at hl 3 rfl) ?_
            refine hp_get (v := .int (m_b1)) hx hb hts hown hZ ho68 fl_X13_431 rfl dX13_keepChanges_179 ?_
            refine lv_iconst (v := -1) hx hb dX13_keepChanges_182 (by decide) ?_
            have hl83 : (5 : Int32).toInt = 5 := by decide
            have hl84 : (-1 : Int32).toInt = -1 := by decide
            have hpe85 : sp_te1 5 m_b1.toInt = [((5 : Int32).toInt, (m_b1 : Int32).toInt, (-1 : Int32).toInt)] := by rw [sp_te1_y (by omega), show (5 : Int32).toInt = 5 by decide, show (-1 : Int32).toInt = -1 by decide]
            have b86 := sp_pc_l hp168x hpe85
            have hl87 : (1 : Int32).toInt = 1 := by decide
            have hl88 : (5 : Int32).toInt = 5 := by decide
            have hl89 : (-1 : Int32).toInt = -1 := by decide
            refine hp_callv (hp_runV (As := [.int (5), .int (m_b1), .int (-1)]) (rest := []) hx hb hml hown hts (y_noteC l D cs B G V9 n hP.1 (q) (mo) (m_tp) (m_sz) (m_fr) (m_bh) (m_hd) (m_ft) (m_fa) (m_le) (m_fo) (m_as) (m_fd) (m_bc) (m_bg) (m_bs) (m_be) (m_b0) (m_b1) (cm3) (1) (5) (m_b1) (-1) (wh3) (mi3) (ta3) (ll3)  ho68 ho69 ho70 ho71  hR hmo hmq hc168 (by omega) (by omega)) hZ ho68 cv_X13_448 rfl rfl ⟨Nat.le_of_ble_eq_true rfl, Nat.le_of_ble_eq_true rfl⟩ rfl hl.1 rfl (Nat.le_of_ble_eq_true rfl) dX13_keepChanges_183 ⟨(Nat.le_of_ble_eq_true rfl), (Nat.le_of_ble_eq_true rfl)⟩) hZ (fun V90 n91 _ _ hw92 hZ => ?_)
            obtain ⟨rfl, hq94, fr95, z96, u97, u98, u99, ho100, ho101, ho102, ho103, hp104⟩ := hw92
            have b105 := hq_rng z96
            have hP := hP.trans hq94 (fun _ h => Bool.noConfusion h)
            have hf106 := hq_rg hP.1 (hr_44 hR) ho101
            have hf107 := hq_rg hP.1 (hr_45 hR) ho102
            have hf108 := hq_rg hP.1 (hr_46 hR) ho103
            exact jn186 _ _ _ ls  ((ll3 ++ [((5 : Int32).toInt, (m_b1 : Int32).toInt, (-1 : Int32).toInt)])) (z96) (u97) (u98) (u99) hZ hP ho100 ho101 ho102 ho103 (fun x8 hne0 hne1 hne2 hne3 => (fr95 x8 hne0 hne1 hne2 hne3).trans (fr168 x8 hne0 hne1 hne2 hne3)) (hp104) ((sp_pc_y hp168x hpe85)) (lv_sub hl [0, 1, 2, 3] rfl)
        refine lv_aload_n hx hb dX13_keepChanges_150 rfl (lv_at hl 3 rfl) ?_
        refine hp_get (v := .int (m_b0)) hx hb hts hown hZ ho61 fl_X13_428 rfl dX13_keepChanges_151 ?_
        refine lv_iconst (v := -1) hx hb dX13_keepChanges_154 (by decide) ?_
        refine lv_icmp_eq (tgt := 168) hx hb dX13_keepChanges_155 (by decide) (fun c109 => ?_) (fun c109 => ?_)
        · have c109 : (m_b0).toInt = (-1 : Int) := hq_eqi.mp c109
          exact jn168 _ _ _ ls  (ll2) (cm2) (wh2) (mi2) (ta2) hZ hP ho61 ho62 ho63 ho64 (fun x8 hne0 hne1 hne2 hne3 => fr150 x8 hne0 hne1 hne2 hne3) (hc150) (sp_pc_n hp150x (sp_te1_n (by omega))) (lv_sub hl [0, 1, 2, 3] rfl)
        · have c109 : ¬ (m_b0).toInt = (-1 : Int) := fun h9 => c109 (hq_eqi.mpr h9)
          refine lv_aload_n hx hb dX13_keepChanges_158 rfl (lv_at hl 3 rfl) ?_
          refine lv_iconst (v := 5) hx hb dX13_keepChanges_159 (by decide) ?_
          refine lv_aload_n hx hb dX13_keepChanges_160 rfl (lv_at hl 3 rfl) ?_
          refine hp_get (v := .int (m_b0)) hx hb hts hown hZ ho61 fl_X13_428 rfl dX13_keepChanges_161 ?_
          refine lv_iconst (v := -1) hx hb dX13_keepChanges_164 (by decide) ?_
          have hl110 : (5 : Int32).toInt = 5 := by decide
          have hl111 : (-1 : Int32).toInt = -1 := by decide
          have hpe112 : sp_te1 5 m_b0.toInt = [((5 : Int32).toInt, (m_b0 : Int32).toInt, (-1 : Int32).toInt)] := by rw [sp_te1_y (by omega), show (5 : Int32).toInt = 5 by decide, show (-1 : Int32).toInt = -1 by decide]
          have b113 := sp_pc_l hp150x hpe112
          have hl114 : (1 : Int32).toInt = 1 := by decide
          have hl115 : (5 : Int32).toInt = 5 := by decide
          have hl116 : (-1 : Int32).toInt = -1 := by decide
          refine hp_callv (hp_runV (As := [.int (5), .int (m_b0), .int (-1)]) (rest := []) hx hb hml hown hts (y_noteC l D cs B G V9 n hP.1 (q) (mo) (m_tp) (m_sz) (m_fr) (m_bh) (m_hd) (m_ft) (m_fa) (m_le) (m_fo) (m_as) (m_fd) (m_bc) (m_bg) (m_bs) (m_be) (m_b0) (m_b1) (cm2) (1) (5) (m_b0) (-1) (wh2) (mi2) (ta2) (ll2)  ho61 ho62 ho63 ho64  hR hmo hmq hc150 (by omega) (by omega)) hZ ho61 cv_X13_448 rfl rfl ⟨Nat.le_of_ble_eq_true rfl, Nat.le_of_ble_eq_true rfl⟩ rfl hl.1 rfl (Nat.le_of_ble_eq_true rfl) dX13_keepChanges_165 ⟨(Nat.le_of_ble_eq_true rfl), (Nat.le_of_ble_eq_true rfl)⟩) hZ (fun V117 n118 _ _ hw119 hZ => ?_)
          obtain ⟨rfl, hq121, fr122, z123, u124, u125, u126, ho127, ho128, ho129, ho130, hp131⟩ := hw119
          have b132 := hq_rng z123
          have hP := hP.trans hq121 (fun _ h => Bool.noConfusion h)
          have hf133 := hq_rg hP.1 (hr_44 hR) ho128
          have hf134 := hq_rg hP.1 (hr_45 hR) ho129
          have hf135 := hq_rg hP.1 (hr_46 hR) ho130
          exact jn168 _ _ _ ls  ((ll2 ++ [((5 : Int32).toInt, (m_b0 : Int32).toInt, (-1 : Int32).toInt)])) (z123) (u124) (u125) (u126) hZ hP ho127 ho128 ho129 ho130 (fun x8 hne0 hne1 hne2 hne3 => (fr122 x8 hne0 hne1 hne2 hne3).trans (fr150 x8 hne0 hne1 hne2 hne3)) (hp131) ((sp_pc_y hp150x hpe112)) (lv_sub hl [0, 1, 2, 3] rfl)
      refine lv_aload_n hx hb dX13_keepChanges_99 rfl (lv_at hl 3 rfl) ?_
      refine hp_get (v := .int (m_be)) hx hb hts hown hZ ho54 fl_X13_425 rfl dX13_keepChanges_100 ?_
      refine lv_iload hx hb dX13_keepChanges_103 (lv_at hl 0 rfl) ?_
      refine lv_icmp_ne (tgt := 114) hx hb dX13_keepChanges_105 (by decide) (fun c136 => ?_) (fun c136 => ?_)
      · have c136 : ¬ (m_be).toInt = (r39).toInt := fun h9 => c136 (hq_eqi.mpr h9)
        refine lv_aload_n hx hb dX13_keepChanges_114 rfl (lv_at hl 3 rfl) ?_
        refine lv_aload_n hx hb dX13_keepChanges_115 rfl (lv_at hl 3 rfl) ?_
        refine hp_get (v := .int (m_be)) hx hb hts hown hZ ho54 fl_X13_425 rfl dX13_keepChanges_116 ?_
        refine lv_iconst (v := -1) hx hb dX13_keepChanges_119 (by decide) ?_
        refine lv_icmp_ne (tgt := 127) hx hb dX13_keepChanges_120 (by decide) (fun c137 => ?_) (fun c137 => ?_)
        · have c137 : ¬ (m_be).toInt = (-1 : Int) := fun h9 => c137 (hq_eqi.mpr h9)
          refine lv_iconst (v := 3) hx hb dX13_keepChanges_127 (by decide) ?_
          refine lv_iload hx hb dX13_keepChanges_128 (lv_at hl 0 rfl) ?_
          refine lv_iconst (v := -1) hx hb dX13_keepChanges_130 (by decide) ?_
          refine lv_icmp_ne (tgt := 141) hx hb dX13_keepChanges_131 (by decide) (fun c138 => ?_) (fun c138 => ?_)
          · have c138 : ¬ (r39).toInt = (-1 : Int) := fun h9 => c138 (hq_eqi.mpr h9)
            refine lv_iload hx hb dX13_keepChanges_141 (lv_at hl 0 rfl) ?_
            refine lv_aload_n hx hb dX13_keepChanges_143 rfl (lv_at hl 3 rfl) ?_
            refine hp_get (v := .int (m_be)) hx hb hts hown hZ ho54 fl_X13_425 rfl dX13_keepChanges_144 ?_
            have hl139 : (3 : Int32).toInt = 3 := by decide
            have hpe140 : sp_te3 oe m_be.toInt = [((3 : Int32).toInt, (r39 : Int32).toInt, (m_be : Int32).toInt)] := sp_te3_y (by omega) (by omega) (by omega)
            have b141 := sp_pc_l hp99x hpe140
            have hl142 : (1 : Int32).toInt = 1 := by decide
            have hl143 : (3 : Int32).toInt = 3 := by decide
            refine hp_callv (hp_runV (As := [.int (3), .int (r39), .int (m_be)]) (rest := []) hx hb hml hown hts (y_noteC l D cs B G V9 n hP.1 (q) (mo) (m_tp) (m_sz) (m_fr) (m_bh) (m_hd) (m_ft) (m_fa) (m_le) (m_fo) (m_as) (m_fd) (m_bc) (m_bg) (m_bs) (m_be) (m_b0) (m_b1) (cm1) (1) (3) (r39) (m_be) (wh1) (mi1) (ta1) (ll1)  ho54 ho55 ho56 ho57  hR hmo hmq hc99 (by omega) (by omega)) hZ ho54 cv_X13_448 rfl rfl ⟨Nat.le_of_ble_eq_true rfl, Nat.le_of_ble_eq_true rfl⟩ rfl hl.1 rfl (Nat.le_of_ble_eq_true rfl) dX13_keepChanges_147 ⟨(Nat.le_of_ble_eq_true rfl), (Nat.le_of_ble_eq_true rfl)⟩) hZ (fun V144 n145 _ _ hw146 hZ => ?_)
            obtain ⟨rfl, hq148, fr149, z150, u151, u152, u153, ho154, ho155, ho156, ho157, hp158⟩ := hw146
            have b159 := hq_rng z150
            have hP := hP.trans hq148 (fun _ h => Bool.noConfusion h)
            have hf160 := hq_rg hP.1 (hr_44 hR) ho155
            have hf161 := hq_rg hP.1 (hr_45 hR) ho156
            have hf162 := hq_rg hP.1 (hr_46 hR) ho157
            exact jn150 _ _ _ ls  ((ll1 ++ [((3 : Int32).toInt, (r39 : Int32).toInt, (m_be : Int32).toInt)])) (z150) (u151) (u152) (u153) hZ hP ho154 ho155 ho156 ho157 (fun x8 hne0 hne1 hne2 hne3 => (fr149 x8 hne0 hne1 hne2 hne3).trans (fr99 x8 hne0 hne1 hne2 hne3)) (hp158) ((sp_pc_y hp99x hpe140)) (lv_sub hl [0, 1, 2, 3] rfl)
          · have c138 : (r39).toInt = (-1 : Int) := hq_eqi.mp c138
            refine lv_aload_n hx hb dX13_keepChanges_134 rfl (lv_at hl 3 rfl) ?_
            refine hp_get (v := .int (m_be)) hx hb hts hown hZ ho54 fl_X13_425 rfl dX13_keepChanges_135 ?_
            refine lv_goto (tgt := 143) hx hb dX13_keepChanges_138 (by decide) ?_
            refine lv_aload_n hx hb dX13_keepChanges_143 rfl (lv_at hl 3 rfl) ?_
            refine hp_get (v := .int (m_be)) hx hb hts hown hZ ho54 fl_X13_425 rfl dX13_keepChanges_144 ?_
            have hl163 : (3 : Int32).toInt = 3 := by decide
            have hpe164 : sp_te3 oe m_be.toInt = [((3 : Int32).toInt, (m_be : Int32).toInt, (m_be : Int32).toInt)] := sp_te3_y (by omega) (by omega) (by omega)
            have b165 := sp_pc_l hp99x hpe164
            have hl166 : (1 : Int32).toInt = 1 := by decide
            have hl167 : (3 : Int32).toInt = 3 := by decide
            refine hp_callv (hp_runV (As := [.int (3), .int (m_be), .int (m_be)]) (rest := []) hx hb hml hown hts (y_noteC l D cs B G V9 n hP.1 (q) (mo) (m_tp) (m_sz) (m_fr) (m_bh) (m_hd) (m_ft) (m_fa) (m_le) (m_fo) (m_as) (m_fd) (m_bc) (m_bg) (m_bs) (m_be) (m_b0) (m_b1) (cm1) (1) (3) (m_be) (m_be) (wh1) (mi1) (ta1) (ll1)  ho54 ho55 ho56 ho57  hR hmo hmq hc99 (by omega) (by omega)) hZ ho54 cv_X13_448 rfl rfl ⟨Nat.le_of_ble_eq_true rfl, Nat.le_of_ble_eq_true rfl⟩ rfl hl.1 rfl (Nat.le_of_ble_eq_true rfl) dX13_keepChanges_147 ⟨(Nat.le_of_ble_eq_true rfl), (Nat.le_of_ble_eq_true rfl)⟩) hZ (fun V168 n169 _ _ hw170 hZ => ?_)
            obtain ⟨rfl, hq172, fr173, z174, u175, u176, u177, ho178, ho179, ho180, ho181, hp182⟩ := hw170
            have b183 := hq_rng z174
            have hP := hP.trans hq172 (fun _ h => Bool.noConfusion h)
            have hf184 := hq_rg hP.1 (hr_44 hR) ho179
            have hf185 := hq_rg hP.1 (hr_45 hR) ho180
            have hf186 := hq_rg hP.1 (hr_46 hR) ho181
            exact jn150 _ _ _ ls  ((ll1 ++ [((3 : Int32).toInt, (m_be : Int32).toInt, (m_be : Int32).toInt)])) (z174) (u175) (u176) (u177) hZ hP ho178 ho179 ho180 ho181 (fun x8 hne0 hne1 hne2 hne3 => (fr173 x8 hne0 hne1 hne2 hne3).trans (fr99 x8 hne0 hne1 hne2 hne3)) (hp182) ((sp_pc_y hp99x hpe164)) (lv_sub hl [0, 1, 2, 3] rfl)
        · have c137 : (m_be).toInt = (-1 : Int) := hq_eqi.mp c137
          refine lv_iconst (v := 4) hx hb dX13_keepChanges_123 (by decide) ?_
          refine lv_goto (tgt := 128) hx hb dX13_keepChanges_124 (by decide) ?_
          refine lv_iload hx hb dX13_keepChanges_128 (lv_at hl 0 rfl) ?_
          refine lv_iconst (v := -1) hx hb dX13_keepChanges_130 (by decide) ?_
          refine lv_icmp_ne (tgt := 141) hx hb dX13_keepChanges_131 (by decide) (fun c187 => ?_) (fun c187 => ?_)
          · have c187 : ¬ (r39).toInt = (-1 : Int) := fun h9 => c187 (hq_eqi.mpr h9)
            refine lv_iload hx hb dX13_keepChanges_141 (lv_at hl 0 rfl) ?_
            refine lv_aload_n hx hb dX13_keepChanges_143 rfl (lv_at hl 3 rfl) ?_
            refine hp_get (v := .int (m_be)) hx hb hts hown hZ ho54 fl_X13_425 rfl dX13_keepChanges_144 ?_
            have hl188 : (4 : Int32).toInt = 4 := by decide
            have hpe189 : sp_te3 oe m_be.toInt = [((4 : Int32).toInt, (r39 : Int32).toInt, (m_be : Int32).toInt)] := sp_te3_y (by omega) (by omega) (by omega)
            have b190 := sp_pc_l hp99x hpe189
            have hl191 : (1 : Int32).toInt = 1 := by decide
            have hl192 : (4 : Int32).toInt = 4 := by decide
            refine hp_callv (hp_runV (As := [.int (4), .int (r39), .int (m_be)]) (rest := []) hx hb hml hown hts (y_noteC l D cs B G V9 n hP.1 (q) (mo) (m_tp) (m_sz) (m_fr) (m_bh) (m_hd) (m_ft) (m_fa) (m_le) (m_fo) (m_as) (m_fd) (m_bc) (m_bg) (m_bs) (m_be) (m_b0) (m_b1) (cm1) (1) (4) (r39) (m_be) (wh1) (mi1) (ta1) (ll1)  ho54 ho55 ho56 ho57  hR hmo hmq hc99 (by omega) (by omega)) hZ ho54 cv_X13_448 rfl rfl ⟨Nat.le_of_ble_eq_true rfl, Nat.le_of_ble_eq_true rfl⟩ rfl hl.1 rfl (Nat.le_of_ble_eq_true rfl) dX13_keepChanges_147 ⟨(Nat.le_of_ble_eq_true rfl), (Nat.le_of_ble_eq_true rfl)⟩) hZ (fun V193 n194 _ _ hw195 hZ => ?_)
            obtain ⟨rfl, hq197, fr198, z199, u200, u201, u202, ho203, ho204, ho205, ho206, hp207⟩ := hw195
            have b208 := hq_rng z199
            have hP := hP.trans hq197 (fun _ h => Bool.noConfusion h)
            have hf209 := hq_rg hP.1 (hr_44 hR) ho204
            have hf210 := hq_rg hP.1 (hr_45 hR) ho205
            have hf211 := hq_rg hP.1 (hr_46 hR) ho206
            exact jn150 _ _ _ ls  ((ll1 ++ [((4 : Int32).toInt, (r39 : Int32).toInt, (m_be : Int32).toInt)])) (z199) (u200) (u201) (u202) hZ hP ho203 ho204 ho205 ho206 (fun x8 hne0 hne1 hne2 hne3 => (fr198 x8 hne0 hne1 hne2 hne3).trans (fr99 x8 hne0 hne1 hne2 hne3)) (hp207) ((sp_pc_y hp99x hpe189)) (lv_sub hl [0, 1, 2, 3] rfl)
          · have c187 : (r39).toInt = (-1 : Int) := hq_eqi.mp c187
            refine lv_aload_n hx hb dX13_keepChanges_134 rfl (lv_at hl 3 rfl) ?_
            refine hp_get (v := .int (m_be)) hx hb hts hown hZ ho54 fl_X13_425 rfl dX13_keepChanges_135 ?_
            refine lv_goto (tgt := 143) hx hb dX13_keepChanges_138 (by decide) ?_
            refine lv_aload_n hx hb dX13_keepChanges_143 rfl (lv_at hl 3 rfl) ?_
            refine hp_get (v := .int (m_be)) hx hb hts hown hZ ho54 fl_X13_425 rfl dX13_keepChanges_144 ?_
            have hl212 : (4 : Int32).toInt = 4 := by decide
            have hpe213 : sp_te3 oe m_be.toInt = [((4 : Int32).toInt, (m_be : Int32).toInt, (m_be : Int32).toInt)] := sp_te3_y (by omega) (by omega) (by omega)
            have b214 := sp_pc_l hp99x hpe213
            have hl215 : (1 : Int32).toInt = 1 := by decide
            have hl216 : (4 : Int32).toInt = 4 := by decide
            refine hp_callv (hp_runV (As := [.int (4), .int (m_be), .int (m_be)]) (rest := []) hx hb hml hown hts (y_noteC l D cs B G V9 n hP.1 (q) (mo) (m_tp) (m_sz) (m_fr) (m_bh) (m_hd) (m_ft) (m_fa) (m_le) (m_fo) (m_as) (m_fd) (m_bc) (m_bg) (m_bs) (m_be) (m_b0) (m_b1) (cm1) (1) (4) (m_be) (m_be) (wh1) (mi1) (ta1) (ll1)  ho54 ho55 ho56 ho57  hR hmo hmq hc99 (by omega) (by omega)) hZ ho54 cv_X13_448 rfl rfl ⟨Nat.le_of_ble_eq_true rfl, Nat.le_of_ble_eq_true rfl⟩ rfl hl.1 rfl (Nat.le_of_ble_eq_true rfl) dX13_keepChanges_147 ⟨(Nat.le_of_ble_eq_true rfl), (Nat.le_of_ble_eq_true rfl)⟩) hZ (fun V217 n218 _ _ hw219 hZ => ?_)
            obtain ⟨rfl, hq221, fr222, z223, u224, u225, u226, ho227, ho228, ho229, ho230, hp231⟩ := hw219
            have b232 := hq_rng z223
            have hP := hP.trans hq221 (fun _ h => Bool.noConfusion h)
            have hf233 := hq_rg hP.1 (hr_44 hR) ho228
            have hf234 := hq_rg hP.1 (hr_45 hR) ho229
            have hf235 := hq_rg hP.1 (hr_46 hR) ho230
            exact jn150 _ _ _ ls  ((ll1 ++ [((4 : Int32).toInt, (m_be : Int32).toInt, (m_be : Int32).toInt)])) (z223) (u224) (u225) (u226) hZ hP ho227 ho228 ho229 ho230 (fun x8 hne0 hne1 hne2 hne3 => (fr222 x8 hne0 hne1 hne2 hne3).trans (fr99 x8 hne0 hne1 hne2 hne3)) (hp231) ((sp_pc_y hp99x hpe213)) (lv_sub hl [0, 1, 2, 3] rfl)
      · have c136 : (m_be).toInt = (r39).toInt := hq_eqi.mp c136
        refine lv_iload hx hb dX13_keepChanges_108 (lv_at hl 0 rfl) ?_
        refine lv_iconst (v := -1) hx hb dX13_keepChanges_110 (by decide) ?_
        refine lv_icmp_ne (tgt := 150) hx hb dX13_keepChanges_111 (by decide) (fun c236 => ?_) (fun c236 => ?_)
        · have c236 : ¬ (r39).toInt = (-1 : Int) := fun h9 => c236 (hq_eqi.mpr h9)
          exact jn150 _ _ _ ls  (ll1) (cm1) (wh1) (mi1) (ta1) hZ hP ho54 ho55 ho56 ho57 (fun x8 hne0 hne1 hne2 hne3 => fr99 x8 hne0 hne1 hne2 hne3) (hc99) (sp_pc_n hp99x (sp_te3_n (by omega) (by omega))) (lv_sub hl [0, 1, 2, 3] rfl)
        · have c236 : (r39).toInt = (-1 : Int) := hq_eqi.mp c236
          refine lv_aload_n hx hb dX13_keepChanges_114 rfl (lv_at hl 3 rfl) ?_
          refine lv_aload_n hx hb dX13_keepChanges_115 rfl (lv_at hl 3 rfl) ?_
          refine hp_get (v := .int (m_be)) hx hb hts hown hZ ho54 fl_X13_425 rfl dX13_keepChanges_116 ?_
          refine lv_iconst (v := -1) hx hb dX13_keepChanges_119 (by decide) ?_
          refine lv_icmp_ne (tgt := 127) hx hb dX13_keepChanges_120 (by decide) (fun c237 => ?_) (fun c237 => ?_)
          · have c237 : ¬ (m_be).toInt = (-1 : Int) := fun h9 => c237 (hq_eqi.mpr h9)
            refine lv_iconst (v := 3) hx hb dX13_keepChanges_127 (by decide) ?_
            refine lv_iload hx hb dX13_keepChanges_128 (lv_at hl 0 rfl) ?_
            refine lv_iconst (v := -1) hx hb dX13_keepChanges_130 (by decide) ?_
            have hl238 : (-1 : Int32).toInt = -1 := by decide
            refine lv_icmp_ne (tgt := 141) hx hb dX13_keepChanges_131 (by decide) (fun c239 => absurd ((Int32.toInt_inj.mp (by omega) : r39 = -1)) c239) (fun c239 => ?_)
            refine lv_aload_n hx hb dX13_keepChanges_134 rfl (lv_at hl 3 rfl) ?_
            refine hp_get (v := .int (m_be)) hx hb hts hown hZ ho54 fl_X13_425 rfl dX13_keepChanges_135 ?_
            refine lv_goto (tgt := 143) hx hb dX13_keepChanges_138 (by decide) ?_
            refine lv_aload_n hx hb dX13_keepChanges_143 rfl (lv_at hl 3 rfl) ?_
            refine hp_get (v := .int (m_be)) hx hb hts hown hZ ho54 fl_X13_425 rfl dX13_keepChanges_144 ?_
            have hl240 : (3 : Int32).toInt = 3 := by decide
            have hpe241 : sp_te3 oe m_be.toInt = [((3 : Int32).toInt, (m_be : Int32).toInt, (m_be : Int32).toInt)] := sp_te3_y (by omega) (by omega) (by omega)
            have b242 := sp_pc_l hp99x hpe241
            have hl243 : (1 : Int32).toInt = 1 := by decide
            have hl244 : (3 : Int32).toInt = 3 := by decide
            refine hp_callv (hp_runV (As := [.int (3), .int (m_be), .int (m_be)]) (rest := []) hx hb hml hown hts (y_noteC l D cs B G V9 n hP.1 (q) (mo) (m_tp) (m_sz) (m_fr) (m_bh) (m_hd) (m_ft) (m_fa) (m_le) (m_fo) (m_as) (m_fd) (m_bc) (m_bg) (m_bs) (m_be) (m_b0) (m_b1) (cm1) (1) (3) (m_be) (m_be) (wh1) (mi1) (ta1) (ll1)  ho54 ho55 ho56 ho57  hR hmo hmq hc99 (by omega) (by omega)) hZ ho54 cv_X13_448 rfl rfl ⟨Nat.le_of_ble_eq_true rfl, Nat.le_of_ble_eq_true rfl⟩ rfl hl.1 rfl (Nat.le_of_ble_eq_true rfl) dX13_keepChanges_147 ⟨(Nat.le_of_ble_eq_true rfl), (Nat.le_of_ble_eq_true rfl)⟩) hZ (fun V245 n246 _ _ hw247 hZ => ?_)
            obtain ⟨rfl, hq249, fr250, z251, u252, u253, u254, ho255, ho256, ho257, ho258, hp259⟩ := hw247
            have b260 := hq_rng z251
            have hP := hP.trans hq249 (fun _ h => Bool.noConfusion h)
            have hf261 := hq_rg hP.1 (hr_44 hR) ho256
            have hf262 := hq_rg hP.1 (hr_45 hR) ho257
            have hf263 := hq_rg hP.1 (hr_46 hR) ho258
            exact jn150 _ _ _ ls  ((ll1 ++ [((3 : Int32).toInt, (m_be : Int32).toInt, (m_be : Int32).toInt)])) (z251) (u252) (u253) (u254) hZ hP ho255 ho256 ho257 ho258 (fun x8 hne0 hne1 hne2 hne3 => (fr250 x8 hne0 hne1 hne2 hne3).trans (fr99 x8 hne0 hne1 hne2 hne3)) (hp259) ((sp_pc_y hp99x hpe241)) (lv_sub hl [0, 1, 2, 3] rfl)
          · have c237 : (m_be).toInt = (-1 : Int) := hq_eqi.mp c237
            refine lv_iconst (v := 4) hx hb dX13_keepChanges_123 (by decide) ?_
            refine lv_goto (tgt := 128) hx hb dX13_keepChanges_124 (by decide) ?_
            refine lv_iload hx hb dX13_keepChanges_128 (lv_at hl 0 rfl) ?_
            refine lv_iconst (v := -1) hx hb dX13_keepChanges_130 (by decide) ?_
            have hl264 : (-1 : Int32).toInt = -1 := by decide
            refine lv_icmp_ne (tgt := 141) hx hb dX13_keepChanges_131 (by decide) (fun c265 => absurd ((Int32.toInt_inj.mp (by omega) : r39 = -1)) c265) (fun c265 => ?_)
            refine lv_aload_n hx hb dX13_keepChanges_134 rfl (lv_at hl 3 rfl) ?_
            refine hp_get (v := .int (m_be)) hx hb hts hown hZ ho54 fl_X13_425 rfl dX13_keepChanges_135 ?_
            refine lv_goto (tgt := 143) hx hb dX13_keepChanges_138 (by decide) ?_
            refine lv_aload_n hx hb dX13_keepChanges_143 rfl (lv_at hl 3 rfl) ?_
            refine hp_get (v := .int (m_be)) hx hb hts hown hZ ho54 fl_X13_425 rfl dX13_keepChanges_144 ?_
            have hl266 : (4 : Int32).toInt = 4 := by decide
            have hpe267 : sp_te3 oe m_be.toInt = [((4 : Int32).toInt, (m_be : Int32).toInt, (m_be : Int32).toInt)] := sp_te3_y (by omega) (by omega) (by omega)
            have b268 := sp_pc_l hp99x hpe267
            have hl269 : (1 : Int32).toInt = 1 := by decide
            have hl270 : (4 : Int32).toInt = 4 := by decide
            refine hp_callv (hp_runV (As := [.int (4), .int (m_be), .int (m_be)]) (rest := []) hx hb hml hown hts (y_noteC l D cs B G V9 n hP.1 (q) (mo) (m_tp) (m_sz) (m_fr) (m_bh) (m_hd) (m_ft) (m_fa) (m_le) (m_fo) (m_as) (m_fd) (m_bc) (m_bg) (m_bs) (m_be) (m_b0) (m_b1) (cm1) (1) (4) (m_be) (m_be) (wh1) (mi1) (ta1) (ll1)  ho54 ho55 ho56 ho57  hR hmo hmq hc99 (by omega) (by omega)) hZ ho54 cv_X13_448 rfl rfl ⟨Nat.le_of_ble_eq_true rfl, Nat.le_of_ble_eq_true rfl⟩ rfl hl.1 rfl (Nat.le_of_ble_eq_true rfl) dX13_keepChanges_147 ⟨(Nat.le_of_ble_eq_true rfl), (Nat.le_of_ble_eq_true rfl)⟩) hZ (fun V271 n272 _ _ hw273 hZ => ?_)
            obtain ⟨rfl, hq275, fr276, z277, u278, u279, u280, ho281, ho282, ho283, ho284, hp285⟩ := hw273
            have b286 := hq_rng z277
            have hP := hP.trans hq275 (fun _ h => Bool.noConfusion h)
            have hf287 := hq_rg hP.1 (hr_44 hR) ho282
            have hf288 := hq_rg hP.1 (hr_45 hR) ho283
            have hf289 := hq_rg hP.1 (hr_46 hR) ho284
            exact jn150 _ _ _ ls  ((ll1 ++ [((4 : Int32).toInt, (m_be : Int32).toInt, (m_be : Int32).toInt)])) (z277) (u278) (u279) (u280) hZ hP ho281 ho282 ho283 ho284 (fun x8 hne0 hne1 hne2 hne3 => (fr276 x8 hne0 hne1 hne2 hne3).trans (fr99 x8 hne0 hne1 hne2 hne3)) (hp285) ((sp_pc_y hp99x hpe267)) (lv_sub hl [0, 1, 2, 3] rfl)
    refine lv_aload_n hx hb dX13_keepChanges_54 rfl (lv_at hl 3 rfl) ?_
    refine hp_get (v := .int (m_bs)) hx hb hts hown hZ ho44 fl_X13_422 rfl dX13_keepChanges_55 ?_
    refine lv_iload hx hb dX13_keepChanges_58 (lv_at hl 1 rfl) ?_
    refine lv_icmp_eq (tgt := 99) hx hb dX13_keepChanges_60 (by decide) (fun c290 => ?_) (fun c290 => ?_)
    · have c290 : (m_bs).toInt = (r28).toInt := hq_eqi.mp c290
      exact jn99 _ _ _ ls  (ll0) (cm0) (wh0) (mi0) (ta0) hZ hP ho44 ho46 ho48 ho50 (fun x8 hne0 hne1 hne2 hne3 => fr54 x8 hne0 hne1 hne2 hne3) (hc54) (sp_pc_n hp54x (sp_te2_n (by omega))) (lv_sub hl [0, 1, 2, 3] rfl)
    · have c290 : ¬ (m_bs).toInt = (r28).toInt := fun h9 => c290 (hq_eqi.mpr h9)
      refine lv_aload_n hx hb dX13_keepChanges_63 rfl (lv_at hl 3 rfl) ?_
      refine lv_aload_n hx hb dX13_keepChanges_64 rfl (lv_at hl 3 rfl) ?_
      refine hp_get (v := .int (m_bs)) hx hb hts hown hZ ho44 fl_X13_422 rfl dX13_keepChanges_65 ?_
      refine lv_iconst (v := -1) hx hb dX13_keepChanges_68 (by decide) ?_
      refine lv_icmp_ne (tgt := 76) hx hb dX13_keepChanges_69 (by decide) (fun c291 => ?_) (fun c291 => ?_)
      · have c291 : ¬ (m_bs).toInt = (-1 : Int) := fun h9 => c291 (hq_eqi.mpr h9)
        refine lv_iconst (v := 2) hx hb dX13_keepChanges_76 (by decide) ?_
        refine lv_iload hx hb dX13_keepChanges_77 (lv_at hl 1 rfl) ?_
        refine lv_iconst (v := -1) hx hb dX13_keepChanges_79 (by decide) ?_
        refine lv_icmp_ne (tgt := 90) hx hb dX13_keepChanges_80 (by decide) (fun c292 => ?_) (fun c292 => ?_)
        · have c292 : ¬ (r28).toInt = (-1 : Int) := fun h9 => c292 (hq_eqi.mpr h9)
          refine lv_iload hx hb dX13_keepChanges_90 (lv_at hl 1 rfl) ?_
          refine lv_aload_n hx hb dX13_keepChanges_92 rfl (lv_at hl 3 rfl) ?_
          refine hp_get (v := .int (m_bs)) hx hb hts hown hZ ho44 fl_X13_422 rfl dX13_keepChanges_93 ?_
          have hl293 : (2 : Int32).toInt = 2 := by decide
          have hpe294 : sp_te2 os m_bs.toInt = [((2 : Int32).toInt, (r28 : Int32).toInt, (m_bs : Int32).toInt)] := sp_te2_y (by omega) (by omega) (by omega)
          have b295 := sp_pc_l hp54x hpe294
          have hl296 : (1 : Int32).toInt = 1 := by decide
          have hl297 : (2 : Int32).toInt = 2 := by decide
          refine hp_callv (hp_runV (As := [.int (2), .int (r28), .int (m_bs)]) (rest := []) hx hb hml hown hts (y_noteC l D cs B G V9 n hP.1 (q) (mo) (m_tp) (m_sz) (m_fr) (m_bh) (m_hd) (m_ft) (m_fa) (m_le) (m_fo) (m_as) (m_fd) (m_bc) (m_bg) (m_bs) (m_be) (m_b0) (m_b1) (cm0) (1) (2) (r28) (m_bs) (wh0) (mi0) (ta0) (ll0)  ho44 ho46 ho48 ho50  hR hmo hmq hc54 (by omega) (by omega)) hZ ho44 cv_X13_448 rfl rfl ⟨Nat.le_of_ble_eq_true rfl, Nat.le_of_ble_eq_true rfl⟩ rfl hl.1 rfl (Nat.le_of_ble_eq_true rfl) dX13_keepChanges_96 ⟨(Nat.le_of_ble_eq_true rfl), (Nat.le_of_ble_eq_true rfl)⟩) hZ (fun V298 n299 _ _ hw300 hZ => ?_)
          obtain ⟨rfl, hq302, fr303, z304, u305, u306, u307, ho308, ho309, ho310, ho311, hp312⟩ := hw300
          have b313 := hq_rng z304
          have hP := hP.trans hq302 (fun _ h => Bool.noConfusion h)
          have hf314 := hq_rg hP.1 (hr_44 hR) ho309
          have hf315 := hq_rg hP.1 (hr_45 hR) ho310
          have hf316 := hq_rg hP.1 (hr_46 hR) ho311
          exact jn99 _ _ _ ls  ((ll0 ++ [((2 : Int32).toInt, (r28 : Int32).toInt, (m_bs : Int32).toInt)])) (z304) (u305) (u306) (u307) hZ hP ho308 ho309 ho310 ho311 (fun x8 hne0 hne1 hne2 hne3 => (fr303 x8 hne0 hne1 hne2 hne3).trans (fr54 x8 hne0 hne1 hne2 hne3)) (hp312) ((sp_pc_y hp54x hpe294)) (lv_sub hl [0, 1, 2, 3] rfl)
        · have c292 : (r28).toInt = (-1 : Int) := hq_eqi.mp c292
          refine lv_aload_n hx hb dX13_keepChanges_83 rfl (lv_at hl 3 rfl) ?_
          refine hp_get (v := .int (m_bs)) hx hb hts hown hZ ho44 fl_X13_422 rfl dX13_keepChanges_84 ?_
          refine lv_goto (tgt := 92) hx hb dX13_keepChanges_87 (by decide) ?_
          refine lv_aload_n hx hb dX13_keepChanges_92 rfl (lv_at hl 3 rfl) ?_
          refine hp_get (v := .int (m_bs)) hx hb hts hown hZ ho44 fl_X13_422 rfl dX13_keepChanges_93 ?_
          have hl317 : (2 : Int32).toInt = 2 := by decide
          have hpe318 : sp_te2 os m_bs.toInt = [((2 : Int32).toInt, (m_bs : Int32).toInt, (m_bs : Int32).toInt)] := sp_te2_y (by omega) (by omega) (by omega)
          have b319 := sp_pc_l hp54x hpe318
          have hl320 : (1 : Int32).toInt = 1 := by decide
          have hl321 : (2 : Int32).toInt = 2 := by decide
          refine hp_callv (hp_runV (As := [.int (2), .int (m_bs), .int (m_bs)]) (rest := []) hx hb hml hown hts (y_noteC l D cs B G V9 n hP.1 (q) (mo) (m_tp) (m_sz) (m_fr) (m_bh) (m_hd) (m_ft) (m_fa) (m_le) (m_fo) (m_as) (m_fd) (m_bc) (m_bg) (m_bs) (m_be) (m_b0) (m_b1) (cm0) (1) (2) (m_bs) (m_bs) (wh0) (mi0) (ta0) (ll0)  ho44 ho46 ho48 ho50  hR hmo hmq hc54 (by omega) (by omega)) hZ ho44 cv_X13_448 rfl rfl ⟨Nat.le_of_ble_eq_true rfl, Nat.le_of_ble_eq_true rfl⟩ rfl hl.1 rfl (Nat.le_of_ble_eq_true rfl) dX13_keepChanges_96 ⟨(Nat.le_of_ble_eq_true rfl), (Nat.le_of_ble_eq_true rfl)⟩) hZ (fun V322 n323 _ _ hw324 hZ => ?_)
          obtain ⟨rfl, hq326, fr327, z328, u329, u330, u331, ho332, ho333, ho334, ho335, hp336⟩ := hw324
          have b337 := hq_rng z328
          have hP := hP.trans hq326 (fun _ h => Bool.noConfusion h)
          have hf338 := hq_rg hP.1 (hr_44 hR) ho333
          have hf339 := hq_rg hP.1 (hr_45 hR) ho334
          have hf340 := hq_rg hP.1 (hr_46 hR) ho335
          exact jn99 _ _ _ ls  ((ll0 ++ [((2 : Int32).toInt, (m_bs : Int32).toInt, (m_bs : Int32).toInt)])) (z328) (u329) (u330) (u331) hZ hP ho332 ho333 ho334 ho335 (fun x8 hne0 hne1 hne2 hne3 => (fr327 x8 hne0 hne1 hne2 hne3).trans (fr54 x8 hne0 hne1 hne2 hne3)) (hp336) ((sp_pc_y hp54x hpe318)) (lv_sub hl [0, 1, 2, 3] rfl)
      · have c291 : (m_bs).toInt = (-1 : Int) := hq_eqi.mp c291
        refine lv_iconst (v := 1) hx hb dX13_keepChanges_72 (by decide) ?_
        refine lv_goto (tgt := 77) hx hb dX13_keepChanges_73 (by decide) ?_
        refine lv_iload hx hb dX13_keepChanges_77 (lv_at hl 1 rfl) ?_
        refine lv_iconst (v := -1) hx hb dX13_keepChanges_79 (by decide) ?_
        refine lv_icmp_ne (tgt := 90) hx hb dX13_keepChanges_80 (by decide) (fun c341 => ?_) (fun c341 => ?_)
        · have c341 : ¬ (r28).toInt = (-1 : Int) := fun h9 => c341 (hq_eqi.mpr h9)
          refine lv_iload hx hb dX13_keepChanges_90 (lv_at hl 1 rfl) ?_
          refine lv_aload_n hx hb dX13_keepChanges_92 rfl (lv_at hl 3 rfl) ?_
          refine hp_get (v := .int (m_bs)) hx hb hts hown hZ ho44 fl_X13_422 rfl dX13_keepChanges_93 ?_
          have hl342 : (1 : Int32).toInt = 1 := by decide
          have hpe343 : sp_te2 os m_bs.toInt = [((1 : Int32).toInt, (r28 : Int32).toInt, (m_bs : Int32).toInt)] := sp_te2_y (by omega) (by omega) (by omega)
          have b344 := sp_pc_l hp54x hpe343
          have hl345 : (1 : Int32).toInt = 1 := by decide
          have hl346 : (1 : Int32).toInt = 1 := by decide
          refine hp_callv (hp_runV (As := [.int (1), .int (r28), .int (m_bs)]) (rest := []) hx hb hml hown hts (y_noteC l D cs B G V9 n hP.1 (q) (mo) (m_tp) (m_sz) (m_fr) (m_bh) (m_hd) (m_ft) (m_fa) (m_le) (m_fo) (m_as) (m_fd) (m_bc) (m_bg) (m_bs) (m_be) (m_b0) (m_b1) (cm0) (1) (1) (r28) (m_bs) (wh0) (mi0) (ta0) (ll0)  ho44 ho46 ho48 ho50  hR hmo hmq hc54 (by omega) (by omega)) hZ ho44 cv_X13_448 rfl rfl ⟨Nat.le_of_ble_eq_true rfl, Nat.le_of_ble_eq_true rfl⟩ rfl hl.1 rfl (Nat.le_of_ble_eq_true rfl) dX13_keepChanges_96 ⟨(Nat.le_of_ble_eq_true rfl), (Nat.le_of_ble_eq_true rfl)⟩) hZ (fun V347 n348 _ _ hw349 hZ => ?_)
          obtain ⟨rfl, hq351, fr352, z353, u354, u355, u356, ho357, ho358, ho359, ho360, hp361⟩ := hw349
          have b362 := hq_rng z353
          have hP := hP.trans hq351 (fun _ h => Bool.noConfusion h)
          have hf363 := hq_rg hP.1 (hr_44 hR) ho358
          have hf364 := hq_rg hP.1 (hr_45 hR) ho359
          have hf365 := hq_rg hP.1 (hr_46 hR) ho360
          exact jn99 _ _ _ ls  ((ll0 ++ [((1 : Int32).toInt, (r28 : Int32).toInt, (m_bs : Int32).toInt)])) (z353) (u354) (u355) (u356) hZ hP ho357 ho358 ho359 ho360 (fun x8 hne0 hne1 hne2 hne3 => (fr352 x8 hne0 hne1 hne2 hne3).trans (fr54 x8 hne0 hne1 hne2 hne3)) (hp361) ((sp_pc_y hp54x hpe343)) (lv_sub hl [0, 1, 2, 3] rfl)
        · have c341 : (r28).toInt = (-1 : Int) := hq_eqi.mp c341
          refine lv_aload_n hx hb dX13_keepChanges_83 rfl (lv_at hl 3 rfl) ?_
          refine hp_get (v := .int (m_bs)) hx hb hts hown hZ ho44 fl_X13_422 rfl dX13_keepChanges_84 ?_
          refine lv_goto (tgt := 92) hx hb dX13_keepChanges_87 (by decide) ?_
          refine lv_aload_n hx hb dX13_keepChanges_92 rfl (lv_at hl 3 rfl) ?_
          refine hp_get (v := .int (m_bs)) hx hb hts hown hZ ho44 fl_X13_422 rfl dX13_keepChanges_93 ?_
          have hl366 : (1 : Int32).toInt = 1 := by decide
          have hpe367 : sp_te2 os m_bs.toInt = [((1 : Int32).toInt, (m_bs : Int32).toInt, (m_bs : Int32).toInt)] := sp_te2_y (by omega) (by omega) (by omega)
          have b368 := sp_pc_l hp54x hpe367
          have hl369 : (1 : Int32).toInt = 1 := by decide
          have hl370 : (1 : Int32).toInt = 1 := by decide
          refine hp_callv (hp_runV (As := [.int (1), .int (m_bs), .int (m_bs)]) (rest := []) hx hb hml hown hts (y_noteC l D cs B G V9 n hP.1 (q) (mo) (m_tp) (m_sz) (m_fr) (m_bh) (m_hd) (m_ft) (m_fa) (m_le) (m_fo) (m_as) (m_fd) (m_bc) (m_bg) (m_bs) (m_be) (m_b0) (m_b1) (cm0) (1) (1) (m_bs) (m_bs) (wh0) (mi0) (ta0) (ll0)  ho44 ho46 ho48 ho50  hR hmo hmq hc54 (by omega) (by omega)) hZ ho44 cv_X13_448 rfl rfl ⟨Nat.le_of_ble_eq_true rfl, Nat.le_of_ble_eq_true rfl⟩ rfl hl.1 rfl (Nat.le_of_ble_eq_true rfl) dX13_keepChanges_96 ⟨(Nat.le_of_ble_eq_true rfl), (Nat.le_of_ble_eq_true rfl)⟩) hZ (fun V371 n372 _ _ hw373 hZ => ?_)
          obtain ⟨rfl, hq375, fr376, z377, u378, u379, u380, ho381, ho382, ho383, ho384, hp385⟩ := hw373
          have b386 := hq_rng z377
          have hP := hP.trans hq375 (fun _ h => Bool.noConfusion h)
          have hf387 := hq_rg hP.1 (hr_44 hR) ho382
          have hf388 := hq_rg hP.1 (hr_45 hR) ho383
          have hf389 := hq_rg hP.1 (hr_46 hR) ho384
          exact jn99 _ _ _ ls  ((ll0 ++ [((1 : Int32).toInt, (m_bs : Int32).toInt, (m_bs : Int32).toInt)])) (z377) (u378) (u379) (u380) hZ hP ho381 ho382 ho383 ho384 (fun x8 hne0 hne1 hne2 hne3 => (fr376 x8 hne0 hne1 hne2 hne3).trans (fr54 x8 hne0 hne1 hne2 hne3)) (hp385) ((sp_pc_y hp54x hpe367)) (lv_sub hl [0, 1, 2, 3] rfl)
  refine lv_iload hx hb dX13_keepChanges_40 (lv_at hl 2 rfl) ?_
  refine lv_iconst (v := -1) hx hb dX13_keepChanges_42 (by decide) ?_
  refine lv_icmp_eq (tgt := 54) hx hb dX13_keepChanges_43 (by decide) (fun c390 => ?_) (fun c390 => ?_)
  · have c390 : (r17).toInt = (-1 : Int) := hq_eqi.mp c390
    have hl391 : (0 : Int32).toInt = 0 := by decide
    exact jn54 _ _ _ ls  ([]) (0) (wh) (mi) (ta) hZ hP e8 fx45 fx47 fx49 (fun x8 hne0 hne1 hne2 hne3 => (o9 x8 hne0).trans (o6 x8 hne0)) (hnil) (sp_pc_n hpc0 (sp_te1_n (by omega))) (lv_sub hl [0, 1, 2, 3] rfl)
  · have c390 : ¬ (r17).toInt = (-1 : Int) := fun h9 => c390 (hq_eqi.mpr h9)
    refine lv_aload_n hx hb dX13_keepChanges_46 rfl (lv_at hl 3 rfl) ?_
    refine lv_iconst (v := 0) hx hb dX13_keepChanges_47 (by decide) ?_
    refine lv_iload hx hb dX13_keepChanges_48 (lv_at hl 2 rfl) ?_
    refine lv_iconst (v := -1) hx hb dX13_keepChanges_50 (by decide) ?_
    have hl392 : (0 : Int32).toInt = 0 := by decide
    have hl393 : (-1 : Int32).toInt = -1 := by decide
    have hpe394 : sp_te1 0 ex = [((0 : Int32).toInt, (r17 : Int32).toInt, (-1 : Int32).toInt)] := by rw [sp_te1_y (by omega), show (0 : Int32).toInt = 0 by decide, show (-1 : Int32).toInt = -1 by decide, ← hf4]
    have b395 := sp_pc_l hpc0 hpe394
    have hl396 : (0 : Int32).toInt = 0 := by decide
    have hl397 : (1 : Int32).toInt = 1 := by decide
    have hl398 : (0 : Int32).toInt = 0 := by decide
    have hl399 : (-1 : Int32).toInt = -1 := by decide
    refine hp_callv (hp_runV (As := [.int (0), .int (r17), .int (-1)]) (rest := []) hx hb hml hown hts (y_noteC l D cs B G V7 n hP.1 (q) (mo) (m_tp) (m_sz) (m_fr) (m_bh) (m_hd) (m_ft) (m_fa) (m_le) (m_fo) (m_as) (m_fd) (m_bc) (m_bg) (m_bs) (m_be) (m_b0) (m_b1) (0) (1) (0) (r17) (-1) (wh) (mi) (ta) ([])  e8 fx45 fx47 fx49  hR hmo hmq hnil (by omega) (by omega)) hZ e8 cv_X13_448 rfl rfl ⟨Nat.le_of_ble_eq_true rfl, Nat.le_of_ble_eq_true rfl⟩ rfl hl.1 rfl (Nat.le_of_ble_eq_true rfl) dX13_keepChanges_51 ⟨(Nat.le_of_ble_eq_true rfl), (Nat.le_of_ble_eq_true rfl)⟩) hZ (fun V400 n401 _ _ hw402 hZ => ?_)
    obtain ⟨rfl, hq404, fr405, z406, u407, u408, u409, ho410, ho411, ho412, ho413, hp414⟩ := hw402
    have b415 := hq_rng z406
    have hP := hP.trans hq404 (fun _ h => Bool.noConfusion h)
    have hf416 := hq_rg hP.1 (hr_44 hR) ho411
    have hf417 := hq_rg hP.1 (hr_45 hR) ho412
    have hf418 := hq_rg hP.1 (hr_46 hR) ho413
    exact jn54 _ _ _ ls  (([] ++ [((0 : Int32).toInt, (r17 : Int32).toInt, (-1 : Int32).toInt)])) (z406) (u407) (u408) (u409) hZ hP ho410 ho411 ho412 ho413 (fun x8 hne0 hne1 hne2 hne3 => (fr405 x8 hne0 hne1 hne2 hne3).trans ((o9 x8 hne0).trans (o6 x8 hne0))) (hp414) ((sp_pc_y hpc0 hpe394)) (lv_sub hl [0, 1, 2, 3] rfl)

set_option maxHeartbeats 4000000 in
set_option maxRecDepth 100000 in
theorem y_ask (l : Launch) (D : va_G) (cs : Nat → ClassId) (B : Nat) (G : hq_G) (V : hp_V) (n : Nat) (hI : hq_I cs G V) (q : Nat) (mo : Nat) (w : sp_W) (m_tp : Int32) (m_sz : Int32) (m_fr : Int32) (m_bh : Int32) (m_hd : Int32) (m_ft : Int32) (m_fa : Int32) (m_le : Int32) (m_fo : Int32) (m_as : Int32) (m_fd : Int32) (m_bc : Int32) (m_bg : Int32) (m_bs : Int32) (m_be : Int32) (m_b0 : Int32) (m_b1 : Int32) (m_cm : Int32) (m_hc : Int32) (tg : Nat → Int32) (af : Nat → Int32) (hc0 : V (mo) = some (.inr (13, hm_o q (m_tp) (m_sz) (m_fr) (m_bh) (m_hd) (m_ft) (m_fa) (m_le) (m_fo) (m_as) (m_fd) (m_bc) (m_bg) (m_bs) (m_be) (m_b0) (m_b1) (m_cm) (m_hc)))) (hc1 : V (q + 20) = some (.inl (cs 0, 4000, .inl (tg)))) (hc2 : V (q + 37) = some (.inl (cs 0, 4000, .inl (af)))) (hR : hq_RT G q) (hmo : G mo = some (24, 0, 0, 0)) (hmq : mo < q) (hok : sp_okb w) (htp : m_tp.toInt = w.2) (htw : ∀ k : Nat, (k : Int) < w.2 → (tg k).toInt = w.1 k) : hp_M l yX13_ask cX13_ask 2 none ({ frames := 1, cells := 0, slots := 0, locals := 21 }) D cs B V n [.ref (mo)] (hp_QV D cs B (fun V' n' => n = n' ∧ hq_P cs G (fun _ => true) V V' ∧ (∀ x, x ≠ mo → x ≠ q + 37 → V' x = V x) ∧ (∃ af1 : Nat → Int32, V' (mo) = some (.inr (13, hm_o q (0) (m_sz) (m_fr) (m_bh) (m_hd) (m_ft) (m_fa) (m_le) (m_fo) (m_tp) (m_fd) (m_bc) (m_bg) (m_bs) (m_be) (m_b0) (m_b1) (m_cm) (m_hc))) ∧ V' (q + 37) = some (.inl (cs 0, 4000, .inl (af1))) ∧ (sp_rp m_tp af1 (sp_tw w))))) 0 0 := by
  refine hp_walk (R0 := RX13) (by decide) rfl ?_ (Nat.le_of_ble_eq_true rfl)
  intro p e s m below meth c ls hx hb hr hts hown hlocks hin hml hZ hl
  have hP : hq_P cs G (fun _ => true) V V := hq_P.rf hI
  have hl : lv_has ls 2 [(0, .ref (mo))] := hl
  have hb_m_tp := hq_rng m_tp
  have hb_m_sz := hq_rng m_sz
  have hb_m_fr := hq_rng m_fr
  have hb_m_bh := hq_rng m_bh
  have hb_m_hd := hq_rng m_hd
  have hb_m_ft := hq_rng m_ft
  have hb_m_fa := hq_rng m_fa
  have hb_m_le := hq_rng m_le
  have hb_m_fo := hq_rng m_fo
  have hb_m_as := hq_rng m_as
  have hb_m_fd := hq_rng m_fd
  have hb_m_bc := hq_rng m_bc
  have hb_m_bg := hq_rng m_bg
  have hb_m_bs := hq_rng m_bs
  have hb_m_be := hq_rng m_be
  have hb_m_b0 := hq_rng m_b0
  have hb_m_b1 := hq_rng m_b1
  have hb_m_cm := hq_rng m_cm
  have hb_m_hc := hq_rng m_hc
  have hk1 := hok.1
  refine lv_aload_n hx hb dX13_ask_0 rfl (lv_at hl 0 rfl) ?_
  refine lv_aload_n hx hb dX13_ask_1 rfl (lv_at hl 0 rfl) ?_
  refine hp_get (v := .int (m_tp)) hx hb hts hown hZ hc0 fl_X13_295 rfl dX13_ask_2 ?_
  refine hp_put hx hb hts hown hZ hc0 fp_X13_389 rfl rfl (Nat.le_of_ble_eq_true rfl) dX13_ask_5 (fun V1 _ _ e2 o3 hZ => ?_)
  have e2 : V1 (mo) = some (.inr (13, hm_o q (m_tp) (m_sz) (m_fr) (m_bh) (m_hd) (m_ft) (m_fa) (m_le) (m_fo) (m_tp) (m_fd) (m_bc) (m_bg) (m_bs) (m_be) (m_b0) (m_b1) (m_cm) (m_hc))) := e2
  have hP := hP.put hmo e2 o3 (trivial) rfl
  refine lv_aload_n hx hb dX13_ask_8 rfl (lv_at hl 0 rfl) ?_
  refine lv_iconst (v := 0) hx hb dX13_ask_9 (by decide) ?_
  refine hp_put hx hb hts hown hZ e2 fp_X13_295 rfl rfl (Nat.le_of_ble_eq_true rfl) dX13_ask_10 (fun V4 _ _ e5 o6 hZ => ?_)
  have e5 : V4 (mo) = some (.inr (13, hm_o q (0) (m_sz) (m_fr) (m_bh) (m_hd) (m_ft) (m_fa) (m_le) (m_fo) (m_tp) (m_fd) (m_bc) (m_bg) (m_bs) (m_be) (m_b0) (m_b1) (m_cm) (m_hc))) := e5
  have hP := hP.put hmo e5 o6 (trivial) rfl
  refine lv_iconst (v := 0) hx hb dX13_ask_13 (by decide) ?_
  refine lv_istore_n (lv' := [(1, .int (0)), (0, .ref (mo))]) hx hb dX13_ask_14 rfl hl (by decide) rfl (fun ls hl => ?_)
  have fx8 : V4 (q + 20) = some (.inl (cs 0, 4000, .inl (tg))) := (o6 (q + 20) (hq_tne (hr_20 hR) hmo (by simp))).trans ((o3 (q + 20) (hq_tne (hr_20 hR) hmo (by simp))).trans (hc1))
  have fx10 : V4 (q + 37) = some (.inl (cs 0, 4000, .inl (af))) := (o6 (q + 37) (hq_tne (hr_37 hR) hmo (by simp))).trans ((o3 (q + 37) (hq_tne (hr_37 hR) hmo (by simp))).trans (hc2))
  have hl12 : (0 : Int32).toInt = 0 := by decide
  suffices lp15 : ∀ (k9 : Nat) (V9 : hp_V) (H9 : Heap) (locs9 : List Loc) (ls : Array Slot) (i : Int32) (af9 : Nat → Int32), (5000 - i.toInt).toNat = k9 → hp_Z D cs B s V9 H9 n locs9 → hq_P cs G (fun _ => true) V V9 → V9 (mo) = some (.inr (13, hm_o q (0) (m_sz) (m_fr) (m_bh) (m_hd) (m_ft) (m_fa) (m_le) (m_fo) (m_tp) (m_fd) (m_bc) (m_bg) (m_bs) (m_be) (m_b0) (m_b1) (m_cm) (m_hc))) → V9 (q + 20) = some (.inl (cs 0, 4000, .inl (tg))) → V9 (q + 37) = some (.inl (cs 0, 4000, .inl (af9))) → (∀ x, x ≠ mo → x ≠ q + 37 → V9 x = V x) → 0 ≤ i.toInt → i.toInt ≤ m_tp.toInt → (∀ j : Nat, (j : Int) < i.toInt → (af9 j).toInt = w.1 (j : Int)) → lv_has ls 2 [(1, .int (i)), (0, .ref (mo))] → W p l e ({ frames := 1, cells := 0, slots := 0, locals := 21 }) s m ([.ref (mo)] : List Value).toArray below meth c H9 locs9 0 0 (MQ below (hp_QV D cs B (fun V' n' => n = n' ∧ hq_P cs G (fun _ => true) V V' ∧ (∀ x, x ≠ mo → x ≠ q + 37 → V' x = V x) ∧ (∃ af1 : Nat → Int32, V' (mo) = some (.inr (13, hm_o q (0) (m_sz) (m_fr) (m_bh) (m_hd) (m_ft) (m_fa) (m_le) (m_fo) (m_tp) (m_fd) (m_bc) (m_bg) (m_bs) (m_be) (m_b0) (m_b1) (m_cm) (m_hc))) ∧ V' (q + 37) = some (.inl (cs 0, 4000, .inl (af1))) ∧ (sp_rp m_tp af1 (sp_tw w))))) ([.ref (mo)] : List Value).toArray s 0 0 (hp_F B)) (F0 m 15 ls []) from lp15 _ _ _ _ ls (0) (af) rfl hZ hP e5 fx8 fx10 (fun x8 hne0 hne1 => (o6 x8 hne0).trans (o3 x8 hne0)) (by omega) (by omega) (fun j hj => by omega) (lv_sub hl [0, 1] rfl)
  intro k9
  induction k9 using Nat.strongRecOn with
  | _ k9 ih15 =>
    intro V9 H9 locs9 ls i  af9 hk15 hZ hP ho7 ho9 ho11 fr15  hv13 hv14 hal hl
    have hb_i := hq_rng i
    have hf15 := hq_rg20 hP.1 (hr_20 hR) ho9
    have hf16 := hq_rg20 hP.1 (hr_37 hR) ho11
    refine lv_iload_n hx hb dX13_ask_15 rfl (lv_at hl 0 rfl) ?_
    refine lv_aload_n hx hb dX13_ask_16 rfl (lv_at hl 1 rfl) ?_
    refine hp_get (v := .int (m_tp)) hx hb hts hown hZ ho7 fl_X13_389 rfl dX13_ask_17 ?_
    refine lv_icmp_ge (tgt := 41) hx hb dX13_ask_20 (by decide) (fun c17 => ?_) (fun c17 => ?_)
    · have c17 : (m_tp).toInt ≤ (i).toInt := hq_lei.mp c17
      exact hp_vret hx hb hr hlocks hZ ⟨rfl, hP, (fun x8 hne0 hne1 => fr15 x8 hne0 hne1), af9, ho7, ho11, sp_tw_rp (by omega) (by omega) (fun j hj => hal j (by omega))⟩ dX13_ask_41
    · have c17 : ¬ (m_tp).toInt ≤ (i).toInt := fun h9 => c17 (hq_lei.mpr h9)
      refine lv_aload_n hx hb dX13_ask_23 rfl (lv_at hl 1 rfl) ?_
      refine hp_get (v := .ref (q + 37)) hx hb hts hown hZ ho7 fl_X13_262 rfl dX13_ask_24 ?_
      refine lv_iload_n hx hb dX13_ask_27 rfl (lv_at hl 0 rfl) ?_
      refine lv_aload_n hx hb dX13_ask_28 rfl (lv_at hl 1 rfl) ?_
      refine hp_get (v := .ref (q + 20)) hx hb hts hown hZ ho7 fl_X13_73 rfl dX13_ask_29 ?_
      refine lv_iload_n hx hb dX13_ask_32 rfl (lv_at hl 0 rfl) ?_
      refine hp_bald hx hb hZ ho9 (hq_in (by omega) (by omega)) dX13_ask_33 ?_
      refine lv_topi (fun y18 ey19 => ?_)
      have b20 := hq_rng y18
      have h8i := (hq_nn (z := i) (by omega)).1
      have hvx : (y18).toInt = w.1 (i.toNatClampNeg : Int) := by rw [ey19]; exact htw _ (by omega)
      have hrg9 := hok.2 (i.toNatClampNeg : Int) (by omega) (by omega)
      refine hp_bast hx hb hZ ho11 (hq_in (by omega) (by omega)) dX13_ask_34 (fun V21 _ _ e22 o23 hZ => ?_)
      have e22 : V21 (q + 37) = some (.inl (cs 0, 4000, .inl (upd (af9) ((i : Int32).toNatClampNeg) ((y18 : Int32).toInt8.toInt32)))) := e22
      have hP := hP.put (hr_37 hR) e22 o23 (hq_c20 (by omega)) rfl
      obtain ⟨g24, ge25⟩ : ∃ g9 : Nat → Int32, g9 = upd (af9) ((i : Int32).toNatClampNeg) ((y18 : Int32).toInt8.toInt32) := ⟨_, rfl⟩
      have fx26 : V21 (q + 37) = some (.inl (cs 0, 4000, .inl (g24))) := by rw [ge25]; exact e22
      have hf27 := hq_rg20 hP.1 (hr_37 hR) fx26
      obtain ⟨y28, ey29⟩ : ∃ y : Int32, y = i + (1) := ⟨_, rfl⟩
      obtain ⟨k30, hk31, b32, b33⟩ := hq_add (i) (1)
      rw [← ey29] at hk31 b32 b33
      have hk31 : (y28).toInt = (i).toInt + (1) + k30 * 4294967296 := hk31
      obtain rfl : k30 = 0 := by omega
      refine lv_iinc (v := y28) (lv' := [(1, .int (y28)), (0, .ref (mo))]) hx hb dX13_ask_35 hl (k := 0) rfl (by rw [ey29]; rfl) (by decide) rfl (fun ls hl => ?_)
      refine lv_goto (tgt := 15) hx hb dX13_ask_38 (by decide) ?_
      have fx34 : V21 (mo) = some (.inr (13, hm_o q (0) (m_sz) (m_fr) (m_bh) (m_hd) (m_ft) (m_fa) (m_le) (m_fo) (m_tp) (m_fd) (m_bc) (m_bg) (m_bs) (m_be) (m_b0) (m_b1) (m_cm) (m_hc))) := (o23 (mo) (hq_tne hmo (hr_37 hR) (by simp))).trans (ho7)
      have fx35 : V21 (q + 20) = some (.inl (cs 0, 4000, .inl (tg))) := (o23 (q + 20) (hq_tne (hr_20 hR) (hr_37 hR) (by simp))).trans (ho9)
      exact ih15 _ (by omega) _ _ _ ls (y28) (g24) rfl hZ hP fx34 fx35 fx26 (fun x8 hne0 hne1 => (o23 x8 hne1).trans (fr15 x8 hne0 hne1)) (by omega) (by omega) (fun j hj => by rw [ge25]; by_cases c9 : (j : Int) < i.toInt; (· rw [hm_un (by omega)]; exact hal j c9); (· obtain rfl : j = i.toNatClampNeg := (by omega); rw [hm_ue, hx_n8 (by omega)]; exact hvx)) (lv_sub hl [0, 1] rfl)

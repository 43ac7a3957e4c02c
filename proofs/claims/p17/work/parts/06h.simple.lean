def hm_el (V : hp_V) (a j : Nat) : Int := match V a with
  | some (.inl (_, _, .inl f)) => (f j).toInt
  | _ => 0
theorem hm_el.of {V : hp_V} {a j N : Nat} {c : ClassId} {f : Nat → Int32} (e : V a = some (.inl (c, N, .inl f))) : hm_el V a j = (f j).toInt := by
  unfold hm_el
  rw [e]
def hm_S1 (ff fr : Nat → Int32) (fo : Int) : Prop := ∀ j : Nat, (j : Int) < fo → (ff j).toInt ≤ 30 ∧ (fr j).toInt ≤ 62
/-- behind simple: two forms at most, their sizes -/
def hm_S2 (V : hp_V) (q : Nat) (fo : Int32) : Prop := fo.toInt ≤ 2 ∧ ∀ j : Nat, (j : Int) < fo.toInt → hm_el V (q + 28) j ≤ 30 ∧ hm_el V (q + 30) j ≤ 62
theorem hm_S2.of {V : hp_V} {q : Nat} {fo : Int32} {c c' : ClassId} {N N' : Nat} {ff fr : Nat → Int32} (e1 : V (q + 28) = some (.inl (c, N, .inl ff))) (e2 : V (q + 30) = some (.inl (c', N', .inl fr))) (h2 : fo.toInt ≤ 2) (h : hm_S1 ff fr fo.toInt) : hm_S2 V q fo := ⟨h2, fun j hj => by rw [hm_el.of e1, hm_el.of e2]; exact h j hj⟩
theorem hm_S2.at {V : hp_V} {q : Nat} {fo : Int32} {c c' : ClassId} {N N' : Nat} {ff fr : Nat → Int32} (h : hm_S2 V q fo) (e1 : V (q + 28) = some (.inl (c, N, .inl ff))) (e2 : V (q + 30) = some (.inl (c', N', .inl fr))) (l : Int32) (h0 : 0 ≤ l.toInt) (hl : l.toInt < fo.toInt) : (ff l.toNatClampNeg).toInt ≤ 30 ∧ (fr l.toNatClampNeg).toInt ≤ 62 := by
  have n1 : l.toNatClampNeg = l.toInt.toNat := rfl
  have h9 := h.2 l.toNatClampNeg (by omega)
  rw [hm_el.of e1, hm_el.of e2] at h9
  exact h9
theorem hm_S2.two {V : hp_V} {q : Nat} {fo : Int32} (h : hm_S2 V q fo) : fo.toInt ≤ 2 := h.1
theorem hm_S1.zero {ff fr : Nat → Int32} {i : Int} (h : i ≤ 0) : hm_S1 ff fr i := fun j hj => absurd hj (by omega)
theorem hm_S1.step {ff fr ff' fr' : Nat → Int32} {fo : Int32} (h : hm_S1 ff fr fo.toInt) (h0 : 0 ≤ fo.toInt) (h1 : ∀ j, j ≠ fo.toNatClampNeg → ff' j = ff j) (h2 : ∀ j, j ≠ fo.toNatClampNeg → fr' j = fr j) (h3 : (ff' fo.toNatClampNeg).toInt ≤ 30) (h4 : (fr' fo.toNatClampNeg).toInt ≤ 62) {i : Int} (hi : i = fo.toInt + 1) : hm_S1 ff' fr' i := by
  intro j hj
  have n1 : fo.toNatClampNeg = fo.toInt.toNat := rfl
  by_cases hjf : j = fo.toNatClampNeg
  · subst hjf; exact ⟨h3, h4⟩
  · rw [h1 j hjf, h2 j hjf]; exact h j (by omega)
theorem hm_tr {f g h : Nat → Int32} {i : Nat} (h1 : ∀ j, j ≠ i → g j = f j) (h2 : ∀ j, j ≠ i → h j = g j) : ∀ j, j ≠ i → h j = f j := fun j hj => (h2 j hj).trans (h1 j hj)
set_option maxHeartbeats 4000000 in
set_option maxRecDepth 100000 in
theorem t_X13_simple (l : Launch) (D : va_G) (cs : Nat → ClassId) (B : Nat) (G : hq_G) (V : hp_V) (n : Nat) (hI : hq_I cs G V) (q : Nat) (hR : hq_RT G q) (mo : Nat) (h_mo : G mo = some (24, 0, 0, 0)) (v : Int32) (te : Int32) (pe : Int32) {m_tp m_sz m_fr m_bh m_hd m_ft m_fa m_le m_fo m_as m_fd m_bc m_bg m_bs m_be m_b0 m_b1 m_cm m_hc : Int32} (ho_mo : V mo = some (.inr (13, hm_o q (m_tp) (m_sz) (m_fr) (m_bh) (m_hd) (m_ft) (m_fa) (m_le) (m_fo) (m_as) (m_fd) (m_bc) (m_bg) (m_bs) (m_be) (m_b0) (m_b1) (m_cm) (m_hc)))) (hi_mo0 : 0 ≤ m_tp.toInt ∧ m_tp.toInt ≤ 4000) (hi_mo1 : 0 ≤ m_sz.toInt ∧ m_sz.toInt ≤ 4000) (hi_mo2 : 0 ≤ m_le.toInt ∧ m_le.toInt ≤ 276) (hi_mo3 : 0 ≤ m_fo.toInt ∧ m_fo.toInt ≤ 4) (hi_mo4 : 0 ≤ m_as.toInt ∧ m_as.toInt ≤ 4000) (hi_mo5 : 0 ≤ m_fd.toInt ∧ m_fd.toInt ≤ 900) (hi_mo6 : 0 ≤ m_cm.toInt ∧ m_cm.toInt ≤ 2) (hi_mo7 : 0 ≤ m_hc.toInt ∧ m_hc.toInt ≤ 1) {fs : Nat → Int32} (ho_fs : V (q + 14) = some (.inl (cs 1, 120, .inl (fs)))) {ss : Nat → Int32} (ho_ss : V (q + 15) = some (.inl (cs 1, 120, .inl (ss)))) {fk : Nat → Int32} (ho_fk : V (q + 10) = some (.inl (cs 1, 120, .inl (fk)))) {fl : Nat → Int32} (ho_fl : V (q + 2) = some (.inl (cs 1, 2, .inl (fl)))) {ff : Nat → Int32} (ho_ff : V (q + 28) = some (.inl (cs 1, 4, .inl (ff)))) {fr : Nat → Int32} (ho_fr : V (q + 30) = some (.inl (cs 1, 4, .inl (fr)))) (hv0 : 0 ≤ v.toInt) (hv1 : v.toInt < 30) (hH : hm_VQ cs V q 0 0) : hp_M l yX13_simple cX13_simple 7 none ({ frames := 4, cells := 0, slots := 0, locals := 95 }) D cs B V n [.ref (mo), .int (v), .int (te), .int (pe)] (hp_QV D cs B (fun V' n' => n = n' ∧ hq_P cs G (fun g => g.1 == 1 || g.1 == 43 || g.1 == 44) V V' ∧ (∃ (m_fo1 : Int32) (m_le1 : Int32), V' mo = some (.inr (13, hm_o q (m_tp) (m_sz) (m_fr) (m_bh) (m_hd) (m_ft) (m_fa) (m_le1) (m_fo1) (m_as) (m_fd) (m_bc) (m_bg) (m_bs) (m_be) (m_b0) (m_b1) (m_cm) (m_hc))) ∧ (0 ≤ m_le1.toInt ∧ m_le1.toInt ≤ 276) ∧ (0 ≤ m_fo1.toInt ∧ m_fo1.toInt ≤ 4) ∧ (hm_S2 V' q m_fo1)) ∧ (V' (q + 14) = some (.inl (cs 1, 120, .inl (fs)))) ∧ (V' (q + 15) = some (.inl (cs 1, 120, .inl (ss)))) ∧ (V' (q + 10) = some (.inl (cs 1, 120, .inl (fk)))) ∧ (V' (q + 2) = some (.inl (cs 1, 2, .inl (fl)))) ∧ (∃ ff1 : Nat → Int32, V' (q + 28) = some (.inl (cs 1, 4, .inl (ff1)))) ∧ (∃ fr1 : Nat → Int32, V' (q + 30) = some (.inl (cs 1, 4, .inl (fr1)))))) 0 0 := by
  refine hp_walk (R0 := RX13) (by decide) rfl ?_ (Nat.le_of_ble_eq_true rfl)
  intro p e s m below meth c ls hx hb hr hts hown hlocks hin hml hZ hl
  have hP : hq_P cs G (fun g => g.1 == 1 || g.1 == 43 || g.1 == 44) V V := hq_P.rf hI
  have hl : lv_has ls 7 [(0, .ref (mo)), (1, .int (v)), (2, .int (te)), (3, .int (pe))] := hl
  have hb_v := hq_rng v
  have hb_te := hq_rng te
  have hb_pe := hq_rng pe
  have hb_m_tp := hq_rng m_tp
  have hb_m_sz := hq_rng m_sz
  have hb_m_fr := hq_rng m_fr
  have hb_m_bh := hq_rng m_bh
  have hb_m_hd := hq_rng m_hd
  have hb_m_ft := hq_rng m_ft
  have hb_m_fa := hq_rng m_fa
  have hb_m_le := hq_rng m_le
  have hb_m_fo := hq_rng m_fo
  have hb_m_as := hq_rng m_as
  have hb_m_fd := hq_rng m_fd
  have hb_m_bc := hq_rng m_bc
  have hb_m_bg := hq_rng m_bg
  have hb_m_bs := hq_rng m_bs
  have hb_m_be := hq_rng m_be
  have hb_m_b0 := hq_rng m_b0
  have hb_m_b1 := hq_rng m_b1
  have hb_m_cm := hq_rng m_cm
  have hb_m_hc := hq_rng m_hc
  have hf_fs := hq_rg hI (hr_14 hR) ho_fs
  have hf_ss := hq_rg hI (hr_15 hR) ho_ss
  have hf_fk := hq_rg hI (hr_10 hR) ho_fk
  have hf_fl := hq_rg hI (hr_2 hR) ho_fl
  have hf_ff := hq_rg hI (hr_28 hR) ho_ff
  have hf_fr := hq_rg hI (hr_30 hR) ho_fr
  refine lv_aload_n hx hb dX13_simple_0 rfl (lv_at hl 0 rfl) ?_
  refine lv_iconst (v := 0) hx hb dX13_simple_1 (by decide) ?_
  refine hp_put hx hb hts hown hZ ho_mo fp_X13_344 rfl rfl (Nat.le_of_ble_eq_true rfl) dX13_simple_2 (fun V1 _ _ e2 o3 hZ => ?_)
  have e2 : V1 (mo) = some (.inr (13, hm_o q (m_tp) (m_sz) (m_fr) (m_bh) (m_hd) (m_ft) (m_fa) (m_le) (0) (m_as) (m_fd) (m_bc) (m_bg) (m_bs) (m_be) (m_b0) (m_b1) (m_cm) (m_hc))) := e2
  have hP := hP.put h_mo e2 o3 (trivial) rfl
  refine lv_aload_n hx hb dX13_simple_5 rfl (lv_at hl 0 rfl) ?_
  refine lv_iconst (v := 5) hx hb dX13_simple_6 (by decide) ?_
  refine lv_iload_n hx hb dX13_simple_7 rfl (lv_at hl 1 rfl) ?_
  refine lv_iload_n hx hb dX13_simple_8 rfl (lv_at hl 2 rfl) ?_
  refine lv_iload_n hx hb dX13_simple_9 rfl (lv_at hl 3 rfl) ?_
  have hl10 : (0 : Int32).toInt = 0 := by decide
  have hl12 : (5 : Int32).toInt = 5 := by decide
  refine hp_calli (hp_runV (As := [.int (5), .int (v), .int (te), .int (pe)]) (rest := []) hx hb hml hown hts (t_X13_firstOf l D cs B G  V1 n hP.1 q hR (mo) h_mo (5) (v) (te) (pe) e2  (by omega) (by omega) (by omega) (by omega) (by omega) (by omega) (by omega) (by omega) (by omega) (by omega)) hZ e2 cv_X13_347 rfl rfl ⟨Nat.le_of_ble_eq_true rfl, Nat.le_of_ble_eq_true rfl⟩ rfl hl.1 rfl (Nat.le_of_ble_eq_true rfl) dX13_simple_10 ⟨(Nat.le_of_ble_eq_true rfl), (Nat.le_of_ble_eq_true rfl)⟩) hZ (fun r7 V4 n5 _ _ hw6 hZ => ?_)
  obtain ⟨rfl, hq8, ho11, hr9⟩ := hw6
  have hP := hP.trans hq8 (fun _ _ => rfl)
  have b13 := hq_rng r7
  refine lv_iconst (v := -1) hx hb dX13_simple_13 (by decide) ?_
  refine lv_icmp_eq (tgt := 18) hx hb dX13_simple_14 (by decide) (fun c14 => ?_) (fun c14 => ?_)
  · have c14 : (r7).toInt = (-1 : Int) := hq_eqi.mp c14
    refine lv_iconst (v := 0) hx hb dX13_simple_18 (by decide) ?_
    refine lv_istore (lv' := [(4, .int (0)), (0, .ref (mo)), (1, .int (v)), (2, .int (te)), (3, .int (pe))]) hx hb dX13_simple_19 hl (by decide) rfl (fun ls hl => ?_)
    have hl15 : (0 : Int32).toInt = 0 := by decide
    have hl16 : (0 : Int32).toInt = 0 := by decide
    have fx18 : V4 (q + 28) = some (.inl (cs 1, 4, .inl (ff))) := (hq8.2 (q + 28) _ (hr_28 hR) rfl).trans ((o3 (q + 28) (hq_tne (hr_28 hR) h_mo (by simp))).trans (ho_ff))
    have fx20 : V4 (q + 30) = some (.inl (cs 1, 4, .inl (fr))) := (hq8.2 (q + 30) _ (hr_30 hR) rfl).trans ((o3 (q + 30) (hq_tne (hr_30 hR) h_mo (by simp))).trans (ho_fr))
    suffices lp21 : ∀ (k9 : Nat) (V9 : hp_V) (H9 : Heap) (locs9 : List Loc) (ls : Array Slot) (i : Int32) (fo9 : Int32) (ff9 : Nat → Int32) (fr9 : Nat → Int32), (100 - i.toInt).toNat = k9 → hp_Z D cs B s V9 H9 n locs9 → hq_P cs G (fun g => g.1 == 1 || g.1 == 43 || g.1 == 44) V V9 → V9 (mo) = some (.inr (13, hm_o q (m_tp) (m_sz) (m_fr) (m_bh) (m_hd) (m_ft) (m_fa) (m_le) (fo9) (m_as) (m_fd) (m_bc) (m_bg) (m_bs) (m_be) (m_b0) (m_b1) (m_cm) (m_hc))) → V9 (q + 28) = some (.inl (cs 1, 4, .inl (ff9))) → V9 (q + 30) = some (.inl (cs 1, 4, .inl (fr9))) → 0 ≤ i.toInt → i.toInt ≤ 60 → 0 ≤ fo9.toInt ∧ fo9.toInt ≤ 2 → (hm_S1 ff9 fr9 fo9.toInt) → lv_has ls 7 [(4, .int (i)), (0, .ref (mo)), (1, .int (v)), (2, .int (te)), (3, .int (pe))] → W p l e ({ frames := 4, cells := 0, slots := 0, locals := 95 }) s m ([.ref (mo), .int (v), .int (te), .int (pe)] : List Value).toArray below meth c H9 locs9 0 0 (MQ below (hp_QV D cs B (fun V' n' => n = n' ∧ hq_P cs G (fun g => g.1 == 1 || g.1 == 43 || g.1 == 44) V V' ∧ (∃ (m_fo1 : Int32) (m_le1 : Int32), V' mo = some (.inr (13, hm_o q (m_tp) (m_sz) (m_fr) (m_bh) (m_hd) (m_ft) (m_fa) (m_le1) (m_fo1) (m_as) (m_fd) (m_bc) (m_bg) (m_bs) (m_be) (m_b0) (m_b1) (m_cm) (m_hc))) ∧ (0 ≤ m_le1.toInt ∧ m_le1.toInt ≤ 276) ∧ (0 ≤ m_fo1.toInt ∧ m_fo1.toInt ≤ 4) ∧ (hm_S2 V' q m_fo1)) ∧ (V' (q + 14) = some (.inl (cs 1, 120, .inl (fs)))) ∧ (V' (q + 15) = some (.inl (cs 1, 120, .inl (ss)))) ∧ (V' (q + 10) = some (.inl (cs 1, 120, .inl (fk)))) ∧ (V' (q + 2) = some (.inl (cs 1, 2, .inl (fl)))) ∧ (∃ ff1 : Nat → Int32, V' (q + 28) = some (.inl (cs 1, 4, .inl (ff1)))) ∧ (∃ fr1 : Nat → Int32, V' (q + 30) = some (.inl (cs 1, 4, .inl (fr1)))))) ([.ref (mo), .int (v), .int (te), .int (pe)] : List Value).toArray s 0 0 (hp_F B)) (F0 m 21 ls []) from lp21 _ _ _ _ ls (0) (0) (ff) (fr) rfl hZ hP ho11 fx18 fx20 (by omega) (by omega) (by omega) (hm_S1.zero (by decide)) (lv_sub hl [0, 1, 2, 3, 4] rfl)
    intro k9
    induction k9 using Nat.strongRecOn with
    | _ k9 ih21 =>
      intro V9 H9 locs9 ls i fo9 ff9 fr9 hk21 hZ hP ho17 ho19 ho21 hv22 hv23 hv24 hvs hl
      have hb_i := hq_rng i
      have hb_fo9 := hq_rng fo9
      have hP_21 := hP
      have hf25 := hq_rg hP.1 (hr_28 hR) ho19
      have hf26 := hq_rg hP.1 (hr_30 hR) ho21
      refine lv_iload hx hb dX13_simple_21 (lv_at hl 0 rfl) ?_
      refine lv_aload_n hx hb dX13_simple_23 rfl (lv_at hl 1 rfl) ?_
      refine hp_get (v := .ref (q + 2)) hx hb hts hown hZ ho17 fl_X13_10 rfl dX13_simple_24 ?_
      refine lv_iconst (v := 0) hx hb dX13_simple_27 (by decide) ?_
      have fx27 : V9 (q + 2) = some (.inl (cs 1, 2, .inl (fl))) := (hP_21.2 (q + 2) _ (hr_2 hR) rfl).trans (ho_fl)
      refine hp_iald hx hb hZ fx27 (by unfold vp_in; decide) dX13_simple_28 ?_
      refine lv_topi (fun y28 ey29 => ?_)
      have b31 : (y28).toInt = ((fl) (0 : Int32).toNatClampNeg).toInt := by rw [ey29]
      have b30 : hq_ir (hq_lo 8) (hq_hi 8) y28 := by rw [ey29]; exact hf_fl _ (by decide)
      have b30 : 0 ≤ (y28).toInt ∧ (y28).toInt ≤ 60 := b30
      refine lv_icmp_ge (tgt := 130) hx hb dX13_simple_29 (by decide) (fun c32 => ?_) (fun c32 => ?_)
      · have c32 : (y28).toInt ≤ (i).toInt := hq_lei.mp c32
        refine lv_aload_n hx hb dX13_simple_130 rfl (lv_at hl 1 rfl) ?_
        refine lv_iconst (v := 1) hx hb dX13_simple_131 (by decide) ?_
        refine lv_iload_n hx hb dX13_simple_132 rfl (lv_at hl 2 rfl) ?_
        refine lv_iload_n hx hb dX13_simple_133 rfl (lv_at hl 3 rfl) ?_
        refine lv_iload_n hx hb dX13_simple_134 rfl (lv_at hl 4 rfl) ?_
        have hl40 : (1 : Int32).toInt = 1 := by decide
        refine hp_calli (hp_runV (As := [.int (1), .int (v), .int (te), .int (pe)]) (rest := []) hx hb hml hown hts (t_X13_firstOf l D cs B G  V9 n hP.1 q hR (mo) h_mo (1) (v) (te) (pe) ho17  (by omega) (by omega) (by omega) (by omega) (by omega) (by omega) (by omega) (by omega) (by omega) (by omega)) hZ ho17 cv_X13_347 rfl rfl ⟨Nat.le_of_ble_eq_true rfl, Nat.le_of_ble_eq_true rfl⟩ rfl hl.1 rfl (Nat.le_of_ble_eq_true rfl) dX13_simple_135 ⟨(Nat.le_of_ble_eq_true rfl), (Nat.le_of_ble_eq_true rfl)⟩) hZ (fun r36 V33 n34 _ _ hw35 hZ => ?_)
        obtain ⟨rfl, hq37, ho39, hr38⟩ := hw35
        have hP := hP.trans hq37 (fun _ _ => rfl)
        have b41 := hq_rng r36
        refine lv_istore (lv' := [(4, .int (r36)), (0, .ref (mo)), (1, .int (v)), (2, .int (te)), (3, .int (pe))]) hx hb dX13_simple_138 hl (by decide) rfl (fun ls hl => ?_)
        refine lv_aload_n hx hb dX13_simple_140 rfl (lv_at hl 1 rfl) ?_
        refine lv_iconst (v := 0) hx hb dX13_simple_141 (by decide) ?_
        refine lv_iload_n hx hb dX13_simple_142 rfl (lv_at hl 2 rfl) ?_
        refine lv_iload_n hx hb dX13_simple_143 rfl (lv_at hl 3 rfl) ?_
        refine lv_iload_n hx hb dX13_simple_144 rfl (lv_at hl 4 rfl) ?_
        have hl49 : (0 : Int32).toInt = 0 := by decide
        refine hp_calli (hp_runV (As := [.int (0), .int (v), .int (te), .int (pe)]) (rest := []) hx hb hml hown hts (t_X13_firstOf l D cs B G  V33 n hP.1 q hR (mo) h_mo (0) (v) (te) (pe) ho39  (by omega) (by omega) (by omega) (by omega) (by omega) (by omega) (by omega) (by omega) (by omega) (by omega)) hZ ho39 cv_X13_347 rfl rfl ⟨Nat.le_of_ble_eq_true rfl, Nat.le_of_ble_eq_true rfl⟩ rfl hl.1 rfl (Nat.le_of_ble_eq_true rfl) dX13_simple_145 ⟨(Nat.le_of_ble_eq_true rfl), (Nat.le_of_ble_eq_true rfl)⟩) hZ (fun r45 V42 n43 _ _ hw44 hZ => ?_)
        obtain ⟨rfl, hq46, ho48, hr47⟩ := hw44
        have hP := hP.trans hq46 (fun _ _ => rfl)
        have b50 := hq_rng r45
        refine lv_istore (lv' := [(5, .int (r45)), (4, .int (r36)), (0, .ref (mo)), (1, .int (v)), (2, .int (te)), (3, .int (pe))]) hx hb dX13_simple_148 hl (by decide) rfl (fun ls hl => ?_)
        refine lv_aload_n hx hb dX13_simple_150 rfl (lv_at hl 2 rfl) ?_
        refine hp_get (v := .int (fo9)) hx hb hts hown hZ ho48 fl_X13_344 rfl dX13_simple_151 ?_
        refine lv_if_gt (tgt := 177) hx hb dX13_simple_154 (by decide) (fun c51 => ?_) (fun c51 => ?_)
        · have c51 : (0 : Int) < (fo9).toInt := hq_lti.mp c51
          have fx52 : V42 (q + 28) = some (.inl (cs 1, 4, .inl (ff9))) := (hq46.2 (q + 28) _ (hr_28 hR) rfl).trans ((hq37.2 (q + 28) _ (hr_28 hR) rfl).trans (ho19))
          have fx53 : V42 (q + 30) = some (.inl (cs 1, 4, .inl (fr9))) := (hq46.2 (q + 30) _ (hr_30 hR) rfl).trans ((hq37.2 (q + 30) _ (hr_30 hR) rfl).trans (ho21))
          have fx54 : V42 (q + 14) = some (.inl (cs 1, 120, .inl (fs))) := (hq46.2 (q + 14) _ (hr_14 hR) rfl).trans ((hq37.2 (q + 14) _ (hr_14 hR) rfl).trans ((hP_21.2 (q + 14) _ (hr_14 hR) rfl).trans (ho_fs)))
          have fx55 : V42 (q + 15) = some (.inl (cs 1, 120, .inl (ss))) := (hq46.2 (q + 15) _ (hr_15 hR) rfl).trans ((hq37.2 (q + 15) _ (hr_15 hR) rfl).trans ((hP_21.2 (q + 15) _ (hr_15 hR) rfl).trans (ho_ss)))
          have fx56 : V42 (q + 10) = some (.inl (cs 1, 120, .inl (fk))) := (hq46.2 (q + 10) _ (hr_10 hR) rfl).trans ((hq37.2 (q + 10) _ (hr_10 hR) rfl).trans ((hP_21.2 (q + 10) _ (hr_10 hR) rfl).trans (ho_fk)))
          have fx57 : V42 (q + 2) = some (.inl (cs 1, 2, .inl (fl))) := (hq46.2 (q + 2) _ (hr_2 hR) rfl).trans ((hq37.2 (q + 2) _ (hr_2 hR) rfl).trans (fx27))
          exact hp_vret hx hb hr hlocks hZ ⟨rfl, hP, ⟨fo9, m_le, ho48, by omega, by omega, hm_S2.of fx52 fx53 (by omega) hvs⟩, fx54, fx55, fx56, fx57, ⟨ff9, fx52⟩, ⟨fr9, fx53⟩⟩ dX13_simple_177
        · have c51 : ¬ (0 : Int) < (fo9).toInt := fun h9 => c51 (hq_lti.mpr h9)
          refine lv_iload hx hb dX13_simple_157 (lv_at hl 1 rfl) ?_
          refine lv_iconst (v := -1) hx hb dX13_simple_159 (by decide) ?_
          refine lv_icmp_eq (tgt := 177) hx hb dX13_simple_160 (by decide) (fun c58 => ?_) (fun c58 => ?_)
          · have c58 : (r36).toInt = (-1 : Int) := hq_eqi.mp c58
            have fx59 : V42 (q + 28) = some (.inl (cs 1, 4, .inl (ff9))) := (hq46.2 (q + 28) _ (hr_28 hR) rfl).trans ((hq37.2 (q + 28) _ (hr_28 hR) rfl).trans (ho19))
            have fx60 : V42 (q + 30) = some (.inl (cs 1, 4, .inl (fr9))) := (hq46.2 (q + 30) _ (hr_30 hR) rfl).trans ((hq37.2 (q + 30) _ (hr_30 hR) rfl).trans (ho21))
            have fx61 : V42 (q + 14) = some (.inl (cs 1, 120, .inl (fs))) := (hq46.2 (q + 14) _ (hr_14 hR) rfl).trans ((hq37.2 (q + 14) _ (hr_14 hR) rfl).trans ((hP_21.2 (q + 14) _ (hr_14 hR) rfl).trans (ho_fs)))
            have fx62 : V42 (q + 15) = some (.inl (cs 1, 120, .inl (ss))) := (hq46.2 (q + 15) _ (hr_15 hR) rfl).trans ((hq37.2 (q + 15) _ (hr_15 hR) rfl).trans ((hP_21.2 (q + 15) _ (hr_15 hR) rfl).trans (ho_ss)))
            have fx63 : V42 (q + 10) = some (.inl (cs 1, 120, .inl (fk))) := (hq46.2 (q + 10) _ (hr_10 hR) rfl).trans ((hq37.2 (q + 10) _ (hr_10 hR) rfl).trans ((hP_21.2 (q + 10) _ (hr_10 hR) rfl).trans (ho_fk)))
            have fx64 : V42 (q + 2) = some (.inl (cs 1, 2, .inl (fl))) := (hq46.2 (q + 2) _ (hr_2 hR) rfl).trans ((hq37.2 (q + 2) _ (hr_2 hR) rfl).trans (fx27))
            exact hp_vret hx hb hr hlocks hZ ⟨rfl, hP, ⟨fo9, m_le, ho48, by omega, by omega, hm_S2.of fx59 fx60 (by omega) hvs⟩, fx61, fx62, fx63, fx64, ⟨ff9, fx59⟩, ⟨fr9, fx60⟩⟩ dX13_simple_177
          · have c58 : ¬ (r36).toInt = (-1 : Int) := fun h9 => c58 (hq_eqi.mpr h9)
            refine lv_aload_n hx hb dX13_simple_163 rfl (lv_at hl 2 rfl) ?_
            refine lv_iload_n hx hb dX13_simple_164 rfl (lv_at hl 3 rfl) ?_
            refine lv_iload hx hb dX13_simple_165 (lv_at hl 0 rfl) ?_
            refine lv_iload hx hb dX13_simple_167 (lv_at hl 1 rfl) ?_
            refine lv_iconst (v := -1) hx hb dX13_simple_169 (by decide) ?_
            refine lv_iconst (v := -1) hx hb dX13_simple_170 (by decide) ?_
            have hH9 := hH.keep hR (fun x t hx hg => hP.2 x t hx (by simp [hg]))
            have fx75 : V42 (q + 14) = some (.inl (cs 1, 120, .inl (fs))) := (hq46.2 (q + 14) _ (hr_14 hR) rfl).trans ((hq37.2 (q + 14) _ (hr_14 hR) rfl).trans ((hP_21.2 (q + 14) _ (hr_14 hR) rfl).trans (ho_fs)))
            have fx77 : V42 (q + 15) = some (.inl (cs 1, 120, .inl (ss))) := (hq46.2 (q + 15) _ (hr_15 hR) rfl).trans ((hq37.2 (q + 15) _ (hr_15 hR) rfl).trans ((hP_21.2 (q + 15) _ (hr_15 hR) rfl).trans (ho_ss)))
            have fx79 : V42 (q + 10) = some (.inl (cs 1, 120, .inl (fk))) := (hq46.2 (q + 10) _ (hr_10 hR) rfl).trans ((hq37.2 (q + 10) _ (hr_10 hR) rfl).trans ((hP_21.2 (q + 10) _ (hr_10 hR) rfl).trans (ho_fk)))
            have fx81 : V42 (q + 2) = some (.inl (cs 1, 2, .inl (fl))) := (hq46.2 (q + 2) _ (hr_2 hR) rfl).trans ((hq37.2 (q + 2) _ (hr_2 hR) rfl).trans (fx27))
            have hl83 : (-1 : Int32).toInt = -1 := by decide
            have hl84 : (-1 : Int32).toInt = -1 := by decide
            refine hp_calli (hp_runV (As := [.int (v), .int (r45), .int (r36), .int (-1), .int (-1)]) (rest := []) hx hb hml hown hts (t_X13_make l D cs B G  V42 n hP.1 q hR (mo) h_mo (v) (r45) (r36) (-1) (-1) ho48  (by omega) (by omega) (by omega) (by omega) (by omega) (by omega) (by omega) (by omega) fx75 fx77 fx79 fx81 (by omega) (by omega) (by omega) (by omega) (by omega) (by omega) hH9) hZ ho48 cv_X13_360 rfl rfl ⟨Nat.le_of_ble_eq_true rfl, Nat.le_of_ble_eq_true rfl⟩ rfl hl.1 rfl (Nat.le_of_ble_eq_true rfl) dX13_simple_171 ⟨(Nat.le_of_ble_eq_true rfl), (Nat.le_of_ble_eq_true rfl)⟩) hZ (fun r68 V65 n66 _ _ hw67 hZ => ?_)
            obtain ⟨rfl, hq69, ⟨z71, ho72, hi73, hi74⟩, ho76, ho78, ho80, ho82, hr70⟩ := hw67
            have hP := hP.trans hq69 (by intro g h; simp_all)
            have b85 := hq_rng z71
            have b86 := hq_rng r68
            refine lv_if_ne (tgt := 178) hx hb dX13_simple_174 (by decide) (fun c87 => ?_) (fun c87 => ?_)
            · have c87 : ¬ (r68).toInt = (0 : Int) := fun h9 => c87 (hq_eqi.mpr h9)
              refine lv_aload_n hx hb dX13_simple_178 rfl (lv_at hl 2 rfl) ?_
              have fx95 : V65 (q + 28) = some (.inl (cs 1, 4, .inl (ff9))) := (hq69.2 (q + 28) _ (hr_28 hR) rfl).trans ((hq46.2 (q + 28) _ (hr_28 hR) rfl).trans ((hq37.2 (q + 28) _ (hr_28 hR) rfl).trans (ho19)))
              have fx99 : V65 (q + 30) = some (.inl (cs 1, 4, .inl (fr9))) := (hq69.2 (q + 30) _ (hr_30 hR) rfl).trans ((hq46.2 (q + 30) _ (hr_30 hR) rfl).trans ((hq37.2 (q + 30) _ (hr_30 hR) rfl).trans (ho21)))
              refine hp_callv (hp_runV (As := []) (rest := []) hx hb hml hown hts (t_X13_beginForm l D cs B G  V65 n hP.1 q hR (mo) h_mo ho72  (by omega) (by omega) (by omega) (by omega) (by omega) (by omega) (by omega) (by omega) fx95 fx99 (by omega)) hZ ho72 cv_X13_351 rfl rfl ⟨Nat.le_of_ble_eq_true rfl, Nat.le_of_ble_eq_true rfl⟩ rfl hl.1 rfl (Nat.le_of_ble_eq_true rfl) dX13_simple_179 ⟨(Nat.le_of_ble_eq_true rfl), (Nat.le_of_ble_eq_true rfl)⟩) hZ (fun V88 n89 _ _ hw90 hZ => ?_)
              obtain ⟨rfl, hq92, ho94, ⟨g97, ho96, hi98⟩, ⟨g101, ho100, hi102⟩⟩ := hw90
              have hP := hP.trans hq92 (by intro g h; simp_all)
              have hf103 := hq_rg hP.1 (hr_28 hR) ho96
              have hf104 := hq_rg hP.1 (hr_30 hR) ho100
              refine lv_iconst (v := 0) hx hb dX13_simple_182 (by decide) ?_
              refine lv_istore (lv' := [(6, .int (0)), (5, .int (r45)), (4, .int (r36)), (0, .ref (mo)), (1, .int (v)), (2, .int (te)), (3, .int (pe))]) hx hb dX13_simple_183 hl (by decide) rfl (fun ls hl => ?_)
              have hl105 : (0 : Int32).toInt = 0 := by decide
              suffices lp185 : ∀ (k9 : Nat) (V9 : hp_V) (H9 : Heap) (locs9 : List Loc) (ls : Array Slot) (i6 : Int32) (ff7 : Nat → Int32), (100 - i6.toInt).toNat = k9 → hp_Z D cs B s V9 H9 n locs9 → hq_P cs G (fun g => g.1 == 1 || g.1 == 43 || g.1 == 44) V V9 → V9 (mo) = some (.inr (13, hm_o q (m_tp) (m_sz) (m_fr) (m_bh) (m_hd) (m_ft) (m_fa) (z71) (fo9) (m_as) (m_fd) (m_bc) (m_bg) (m_bs) (m_be) (m_b0) (m_b1) (m_cm) (m_hc))) → V9 (q + 28) = some (.inl (cs 1, 4, .inl (ff7))) → V9 (q + 30) = some (.inl (cs 1, 4, .inl (g101))) → 0 ≤ i6.toInt → i6.toInt ≤ 30 → (ff7 fo9.toNatClampNeg).toInt = i6.toInt → lv_has ls 7 [(6, .int (i6)), (5, .int (r45)), (4, .int (r36)), (0, .ref (mo)), (1, .int (v)), (2, .int (te)), (3, .int (pe))] → W p l e ({ frames := 4, cells := 0, slots := 0, locals := 95 }) s m ([.ref (mo), .int (v), .int (te), .int (pe)] : List Value).toArray below meth c H9 locs9 0 0 (MQ below (hp_QV D cs B (fun V' n' => n = n' ∧ hq_P cs G (fun g => g.1 == 1 || g.1 == 43 || g.1 == 44) V V' ∧ (∃ (m_fo1 : Int32) (m_le1 : Int32), V' mo = some (.inr (13, hm_o q (m_tp) (m_sz) (m_fr) (m_bh) (m_hd) (m_ft) (m_fa) (m_le1) (m_fo1) (m_as) (m_fd) (m_bc) (m_bg) (m_bs) (m_be) (m_b0) (m_b1) (m_cm) (m_hc))) ∧ (0 ≤ m_le1.toInt ∧ m_le1.toInt ≤ 276) ∧ (0 ≤ m_fo1.toInt ∧ m_fo1.toInt ≤ 4) ∧ (hm_S2 V' q m_fo1)) ∧ (V' (q + 14) = some (.inl (cs 1, 120, .inl (fs)))) ∧ (V' (q + 15) = some (.inl (cs 1, 120, .inl (ss)))) ∧ (V' (q + 10) = some (.inl (cs 1, 120, .inl (fk)))) ∧ (V' (q + 2) = some (.inl (cs 1, 2, .inl (fl)))) ∧ (∃ ff1 : Nat → Int32, V' (q + 28) = some (.inl (cs 1, 4, .inl (ff1)))) ∧ (∃ fr1 : Nat → Int32, V' (q + 30) = some (.inl (cs 1, 4, .inl (fr1)))))) ([.ref (mo), .int (v), .int (te), .int (pe)] : List Value).toArray s 0 0 (hp_F B)) (F0 m 185 ls []) from lp185 _ _ _ _ ls (0) (g97) rfl hZ hP ho94 ho96 ho100 (by omega) (by omega) (by omega) (lv_sub hl [0, 1, 2, 3, 4, 5, 6] rfl)
              intro k9
              induction k9 using Nat.strongRecOn with
              | _ k9 ih185 =>
                intro V9 H9 locs9 ls i6 ff7 hk185 hZ hP ho106 ho107 ho108 hv109 hv110 hv111 hl
                have hb_i6 := hq_rng i6
                have hP_185 := hP
                have hf112 := hq_rg hP.1 (hr_28 hR) ho107
                have hf113 := hq_rg hP.1 (hr_30 hR) ho108
                refine lv_iload hx hb dX13_simple_185 (lv_at hl 0 rfl) ?_
                refine lv_aload_n hx hb dX13_simple_187 rfl (lv_at hl 3 rfl) ?_
                refine hp_get (v := .int (z71)) hx hb hts hown hZ ho106 fl_X13_331 rfl dX13_simple_188 ?_
                refine lv_icmp_ge (tgt := 211) hx hb dX13_simple_191 (by decide) (fun c114 => ?_) (fun c114 => ?_)
                · have c114 : (z71).toInt ≤ (i6).toInt := hq_lei.mp c114
                  have jn233 : ∀ (V9 : hp_V) (H9 : Heap) (locs9 : List Loc) (ls : Array Slot)  (fr5 : Nat → Int32), hp_Z D cs B s V9 H9 n locs9 → hq_P cs G (fun g => g.1 == 1 || g.1 == 43 || g.1 == 44) V V9 → V9 (mo) = some (.inr (13, hm_o q (m_tp) (m_sz) (m_fr) (m_bh) (m_hd) (m_ft) (m_fa) (z71) (fo9) (m_as) (m_fd) (m_bc) (m_bg) (m_bs) (m_be) (m_b0) (m_b1) (m_cm) (m_hc))) → V9 (q + 28) = some (.inl (cs 1, 4, .inl (ff7))) → V9 (q + 30) = some (.inl (cs 1, 4, .inl (fr5))) → (fr5 fo9.toNatClampNeg).toInt ≤ 1 → lv_has ls 7 [(5, .int (r45)), (4, .int (r36)), (0, .ref (mo)), (1, .int (v)), (2, .int (te)), (3, .int (pe))] → W p l e ({ frames := 4, cells := 0, slots := 0, locals := 95 }) s m ([.ref (mo), .int (v), .int (te), .int (pe)] : List Value).toArray below meth c H9 locs9 0 0 (MQ below (hp_QV D cs B (fun V' n' => n = n' ∧ hq_P cs G (fun g => g.1 == 1 || g.1 == 43 || g.1 == 44) V V' ∧ (∃ (m_fo1 : Int32) (m_le1 : Int32), V' mo = some (.inr (13, hm_o q (m_tp) (m_sz) (m_fr) (m_bh) (m_hd) (m_ft) (m_fa) (m_le1) (m_fo1) (m_as) (m_fd) (m_bc) (m_bg) (m_bs) (m_be) (m_b0) (m_b1) (m_cm) (m_hc))) ∧ (0 ≤ m_le1.toInt ∧ m_le1.toInt ≤ 276) ∧ (0 ≤ m_fo1.toInt ∧ m_fo1.toInt ≤ 4) ∧ (hm_S2 V' q m_fo1)) ∧ (V' (q + 14) = some (.inl (cs 1, 120, .inl (fs)))) ∧ (V' (q + 15) = some (.inl (cs 1, 120, .inl (ss)))) ∧ (V' (q + 10) = some (.inl (cs 1, 120, .inl (fk)))) ∧ (V' (q + 2) = some (.inl (cs 1, 2, .inl (fl)))) ∧ (∃ ff1 : Nat → Int32, V' (q + 28) = some (.inl (cs 1, 4, .inl (ff1)))) ∧ (∃ fr1 : Nat → Int32, V' (q + 30) = some (.inl (cs 1, 4, .inl (fr1)))))) ([.ref (mo), .int (v), .int (te), .int (pe)] : List Value).toArray s 0 0 (hp_F B)) (F0 m 233 ls []) := by
                    intro V9 H9 locs9 ls   fr5 hZ hP  ho115 ho116 ho117 hv118 hl
                    have hPj233 := hP
                    have hf119 := hq_rg hP.1 (hr_28 hR) ho116
                    have hf120 := hq_rg hP.1 (hr_30 hR) ho117
                    refine lv_aload_n hx hb dX13_simple_233 rfl (lv_at hl 2 rfl) ?_
                    refine lv_iload hx hb dX13_simple_234 (lv_at hl 1 rfl) ?_
                    refine hp_callv (hp_runV (As := [.int (r36)]) (rest := []) hx hb hml hown hts (t_X13_note l D cs B G  V9 n hP.1 q hR (mo) h_mo (r36) ho115  (by omega) (by omega) (by omega) (by omega) (by omega) (by omega) (by omega) (by omega) ho116 ho117 (by omega) (by omega) (by omega) (by omega)) hZ ho115 cv_X13_357 rfl rfl ⟨Nat.le_of_ble_eq_true rfl, Nat.le_of_ble_eq_true rfl⟩ rfl hl.1 rfl (Nat.le_of_ble_eq_true rfl) dX13_simple_236 ⟨(Nat.le_of_ble_eq_true rfl), (Nat.le_of_ble_eq_true rfl)⟩) hZ (fun V121 n122 _ _ hw123 hZ => ?_)
                    obtain ⟨rfl, hq125, ho127, ho128, ⟨g130, ho129, hi131⟩⟩ := hw123
                    have hP := hP.trans hq125 (by intro g h; simp_all)
                    have hf132 := hq_rg hP.1 (hr_30 hR) ho129
                    refine lv_iconst (v := 0) hx hb dX13_simple_239 (by decide) ?_
                    refine lv_istore (lv' := [(6, .int (0)), (5, .int (r45)), (4, .int (r36)), (0, .ref (mo)), (1, .int (v)), (2, .int (te)), (3, .int (pe))]) hx hb dX13_simple_240 hl (by decide) rfl (fun ls hl => ?_)
                    have hl133 : (0 : Int32).toInt = 0 := by decide
                    suffices lp242 : ∀ (k9 : Nat) (V9 : hp_V) (H9 : Heap) (locs9 : List Loc) (ls : Array Slot) (i7 : Int32) (fr6 : Nat → Int32), (100 - i7.toInt).toNat = k9 → hp_Z D cs B s V9 H9 n locs9 → hq_P cs G (fun g => g.1 == 1 || g.1 == 43 || g.1 == 44) V V9 → V9 (mo) = some (.inr (13, hm_o q (m_tp) (m_sz) (m_fr) (m_bh) (m_hd) (m_ft) (m_fa) (z71) (fo9) (m_as) (m_fd) (m_bc) (m_bg) (m_bs) (m_be) (m_b0) (m_b1) (m_cm) (m_hc))) → V9 (q + 28) = some (.inl (cs 1, 4, .inl (ff7))) → V9 (q + 30) = some (.inl (cs 1, 4, .inl (fr6))) → 0 ≤ i7.toInt → i7.toInt ≤ 60 → (fr6 fo9.toNatClampNeg).toInt ≤ 2 + i7.toInt → lv_has ls 7 [(6, .int (i7)), (5, .int (r45)), (4, .int (r36)), (0, .ref (mo)), (1, .int (v)), (2, .int (te)), (3, .int (pe))] → W p l e ({ frames := 4, cells := 0, slots := 0, locals := 95 }) s m ([.ref (mo), .int (v), .int (te), .int (pe)] : List Value).toArray below meth c H9 locs9 0 0 (MQ below (hp_QV D cs B (fun V' n' => n = n' ∧ hq_P cs G (fun g => g.1 == 1 || g.1 == 43 || g.1 == 44) V V' ∧ (∃ (m_fo1 : Int32) (m_le1 : Int32), V' mo = some (.inr (13, hm_o q (m_tp) (m_sz) (m_fr) (m_bh) (m_hd) (m_ft) (m_fa) (m_le1) (m_fo1) (m_as) (m_fd) (m_bc) (m_bg) (m_bs) (m_be) (m_b0) (m_b1) (m_cm) (m_hc))) ∧ (0 ≤ m_le1.toInt ∧ m_le1.toInt ≤ 276) ∧ (0 ≤ m_fo1.toInt ∧ m_fo1.toInt ≤ 4) ∧ (hm_S2 V' q m_fo1)) ∧ (V' (q + 14) = some (.inl (cs 1, 120, .inl (fs)))) ∧ (V' (q + 15) = some (.inl (cs 1, 120, .inl (ss)))) ∧ (V' (q + 10) = some (.inl (cs 1, 120, .inl (fk)))) ∧ (V' (q + 2) = some (.inl (cs 1, 2, .inl (fl)))) ∧ (∃ ff1 : Nat → Int32, V' (q + 28) = some (.inl (cs 1, 4, .inl (ff1)))) ∧ (∃ fr1 : Nat → Int32, V' (q + 30) = some (.inl (cs 1, 4, .inl (fr1)))))) ([.ref (mo), .int (v), .int (te), .int (pe)] : List Value).toArray s 0 0 (hp_F B)) (F0 m 242 ls []) from lp242 _ _ _ _ ls (0) (g130) rfl hZ hP ho127 ho128 ho129 (by omega) (by omega) (by omega) (lv_sub hl [0, 1, 2, 3, 4, 5, 6] rfl)
                    intro k9
                    induction k9 using Nat.strongRecOn with
                    | _ k9 ih242 =>
                      intro V9 H9 locs9 ls i7 fr6 hk242 hZ hP ho134 ho135 ho136 hv137 hv138 hv139 hl
                      have hb_i7 := hq_rng i7
                      have hP_242 := hP
                      have hf140 := hq_rg hP.1 (hr_28 hR) ho135
                      have hf141 := hq_rg hP.1 (hr_30 hR) ho136
                      refine lv_iload hx hb dX13_simple_242 (lv_at hl 0 rfl) ?_
                      refine lv_aload_n hx hb dX13_simple_244 rfl (lv_at hl 3 rfl) ?_
                      refine hp_get (v := .ref (q + 2)) hx hb hts hown hZ ho134 fl_X13_10 rfl dX13_simple_245 ?_
                      refine lv_iconst (v := 0) hx hb dX13_simple_248 (by decide) ?_
                      have fx142 : V9 (q + 2) = some (.inl (cs 1, 2, .inl (fl))) := (hP_242.2 (q + 2) _ (hr_2 hR) rfl).trans (ho_fl)
                      refine hp_iald hx hb hZ fx142 (by unfold vp_in; decide) dX13_simple_249 ?_
                      refine lv_topi (fun y143 ey144 => ?_)
                      have b146 : (y143).toInt = ((fl) (0 : Int32).toNatClampNeg).toInt := by rw [ey144]
                      have b145 : hq_ir (hq_lo 8) (hq_hi 8) y143 := by rw [ey144]; exact hf_fl _ (by decide)
                      have b145 : 0 ≤ (y143).toInt ∧ (y143).toInt ≤ 60 := b145
                      refine lv_icmp_ge (tgt := 286) hx hb dX13_simple_250 (by decide) (fun c147 => ?_) (fun c147 => ?_)
                      · have c147 : (y143).toInt ≤ (i7).toInt := hq_lei.mp c147
                        refine lv_aload_n hx hb dX13_simple_286 rfl (lv_at hl 3 rfl) ?_
                        refine lv_iconst (v := 1) hx hb dX13_simple_287 (by decide) ?_
                        refine hp_put hx hb hts hown hZ ho134 fp_X13_344 rfl rfl (Nat.le_of_ble_eq_true rfl) dX13_simple_288 (fun V148 _ _ e149 o150 hZ => ?_)
                        have e149 : V148 (mo) = some (.inr (13, hm_o q (m_tp) (m_sz) (m_fr) (m_bh) (m_hd) (m_ft) (m_fa) (z71) (1) (m_as) (m_fd) (m_bc) (m_bg) (m_bs) (m_be) (m_b0) (m_b1) (m_cm) (m_hc))) := e149
                        have hP := hP.put h_mo e149 o150 (trivial) rfl
                        have hl151 : (1 : Int32).toInt = 1 := by decide
                        have fx152 : V148 (q + 28) = some (.inl (cs 1, 4, .inl (ff7))) := (o150 (q + 28) (hq_tne (hr_28 hR) h_mo (by simp))).trans (ho135)
                        have fx153 : V148 (q + 30) = some (.inl (cs 1, 4, .inl (fr6))) := (o150 (q + 30) (hq_tne (hr_30 hR) h_mo (by simp))).trans (ho136)
                        have fx154 : V148 (q + 14) = some (.inl (cs 1, 120, .inl (fs))) := (o150 (q + 14) (hq_tne (hr_14 hR) h_mo (by simp))).trans ((hP_242.2 (q + 14) _ (hr_14 hR) rfl).trans (ho_fs))
                        have fx155 : V148 (q + 15) = some (.inl (cs 1, 120, .inl (ss))) := (o150 (q + 15) (hq_tne (hr_15 hR) h_mo (by simp))).trans ((hP_242.2 (q + 15) _ (hr_15 hR) rfl).trans (ho_ss))
                        have fx156 : V148 (q + 10) = some (.inl (cs 1, 120, .inl (fk))) := (o150 (q + 10) (hq_tne (hr_10 hR) h_mo (by simp))).trans ((hP_242.2 (q + 10) _ (hr_10 hR) rfl).trans (ho_fk))
                        have fx157 : V148 (q + 2) = some (.inl (cs 1, 2, .inl (fl))) := (o150 (q + 2) (hq_tne (hr_2 hR) h_mo (by simp))).trans (fx142)
                        exact hp_vret hx hb hr hlocks hZ ⟨rfl, hP, ⟨1, z71, e149, by omega, by omega, hm_S2.of fx152 fx153 (by decide) (fun j hj => by have h9 : (1 : Int32).toInt = 1 := rfl; have n1 : fo9.toNatClampNeg = fo9.toInt.toNat := rfl; have hj0 : j = fo9.toNatClampNeg := (by omega); rw [hj0]; omega)⟩, fx154, fx155, fx156, fx157, ⟨ff7, fx152⟩, ⟨fr6, fx153⟩⟩ dX13_simple_291
                      · have c147 : ¬ (y143).toInt ≤ (i7).toInt := fun h9 => c147 (hq_lei.mpr h9)
                        refine lv_aload_n hx hb dX13_simple_253 rfl (lv_at hl 3 rfl) ?_
                        refine hp_get (v := .ref (q + 10)) hx hb hts hown hZ ho134 fl_X13_29 rfl dX13_simple_254 ?_
                        refine lv_iload hx hb dX13_simple_257 (lv_at hl 0 rfl) ?_
                        have fx158 : V9 (q + 10) = some (.inl (cs 1, 120, .inl (fk))) := (hP_242.2 (q + 10) _ (hr_10 hR) rfl).trans (ho_fk)
                        refine hp_iald hx hb hZ fx158 (hq_in (by omega) (by omega)) dX13_simple_259 ?_
                        refine lv_topi (fun y159 ey160 => ?_)
                        have b162 : (y159).toInt = ((fk) (i7 : Int32).toNatClampNeg).toInt := by rw [ey160]
                        have b161 := hq_rng y159
                        refine lv_iconst (v := 2) hx hb dX13_simple_260 (by decide) ?_
                        refine lv_icmp_ne (tgt := 280) hx hb dX13_simple_261 (by decide) (fun c163 => ?_) (fun c163 => ?_)
                        · have c163 : ¬ (y159).toInt = (2 : Int) := fun h9 => c163 (hq_eqi.mpr h9)
                          obtain ⟨y164, ey165⟩ : ∃ y : Int32, y = i7 + (1) := ⟨_, rfl⟩
                          obtain ⟨k166, hk167, b168, b169⟩ := hq_add (i7) (1)
                          rw [← ey165] at hk167 b168 b169
                          have hk167 : (y164).toInt = (i7).toInt + (1) + k166 * 4294967296 := hk167
                          refine lv_iinc (v := y164) (lv' := [(6, .int (y164)), (5, .int (r45)), (4, .int (r36)), (0, .ref (mo)), (1, .int (v)), (2, .int (te)), (3, .int (pe))]) hx hb dX13_simple_280 hl (k := 0) rfl (by rw [ey165]; rfl) (by decide) rfl (fun ls hl => ?_)
                          refine lv_goto (tgt := 242) hx hb dX13_simple_283 (by decide) ?_
                          exact ih242 _ (by omega) _ _ _ ls (y164) (fr6) rfl hZ hP ho134 ho135 ho136 (by omega) (by omega) (by omega) (lv_sub hl [0, 1, 2, 3, 4, 5, 6] rfl)
                        · have c163 : (y159).toInt = (2 : Int) := hq_eqi.mp c163
                          refine lv_aload_n hx hb dX13_simple_264 rfl (lv_at hl 3 rfl) ?_
                          refine hp_get (v := .ref (q + 23)) hx hb hts hown hZ ho134 fl_X13_219 rfl dX13_simple_265 ?_
                          refine lv_iload hx hb dX13_simple_268 (lv_at hl 0 rfl) ?_
                          obtain ⟨hN172, g171, eV170⟩ := hq_o22 hP.1 (hr_23 hR)
                          refine hp_zald hx hb hZ eV170 (hq_in (by omega) (by omega)) dX13_simple_270 ?_
                          refine lv_topi (fun y174 ey175 => ?_)
                          have b177 : (y174).toInt = ((g171) (i7 : Int32).toNatClampNeg).toInt := by rw [ey175]
                          have b176 := hq_rng y174
                          refine lv_if_eq (tgt := 280) hx hb dX13_simple_271 (by decide) (fun c178 => ?_) (fun c178 => ?_)
                          · have c178 : (y174).toInt = (0 : Int) := hq_eqi.mp c178
                            obtain ⟨y179, ey180⟩ : ∃ y : Int32, y = i7 + (1) := ⟨_, rfl⟩
                            obtain ⟨k181, hk182, b183, b184⟩ := hq_add (i7) (1)
                            rw [← ey180] at hk182 b183 b184
                            have hk182 : (y179).toInt = (i7).toInt + (1) + k181 * 4294967296 := hk182
                            refine lv_iinc (v := y179) (lv' := [(6, .int (y179)), (5, .int (r45)), (4, .int (r36)), (0, .ref (mo)), (1, .int (v)), (2, .int (te)), (3, .int (pe))]) hx hb dX13_simple_280 hl (k := 0) rfl (by rw [ey180]; rfl) (by decide) rfl (fun ls hl => ?_)
                            refine lv_goto (tgt := 242) hx hb dX13_simple_283 (by decide) ?_
                            exact ih242 _ (by omega) _ _ _ ls (y179) (fr6) rfl hZ hP ho134 ho135 ho136 (by omega) (by omega) (by omega) (lv_sub hl [0, 1, 2, 3, 4, 5, 6] rfl)
                          · have c178 : ¬ (y174).toInt = (0 : Int) := fun h9 => c178 (hq_eqi.mpr h9)
                            refine lv_aload_n hx hb dX13_simple_274 rfl (lv_at hl 3 rfl) ?_
                            refine lv_iload hx hb dX13_simple_275 (lv_at hl 0 rfl) ?_
                            refine hp_callv (hp_runV (As := [.int (i7)]) (rest := []) hx hb hml hown hts (t_X13_note l D cs B G  V9 n hP.1 q hR (mo) h_mo (i7) ho134  (by omega) (by omega) (by omega) (by omega) (by omega) (by omega) (by omega) (by omega) ho135 ho136 (by omega) (by omega) (by omega) (by omega)) hZ ho134 cv_X13_357 rfl rfl ⟨Nat.le_of_ble_eq_true rfl, Nat.le_of_ble_eq_true rfl⟩ rfl hl.1 rfl (Nat.le_of_ble_eq_true rfl) dX13_simple_277 ⟨(Nat.le_of_ble_eq_true rfl), (Nat.le_of_ble_eq_true rfl)⟩) hZ (fun V185 n186 _ _ hw187 hZ => ?_)
                            obtain ⟨rfl, hq189, ho191, ho192, ⟨g194, ho193, hi195⟩⟩ := hw187
                            have hP := hP.trans hq189 (by intro g h; simp_all)
                            have hf196 := hq_rg hP.1 (hr_30 hR) ho193
                            obtain ⟨y197, ey198⟩ : ∃ y : Int32, y = i7 + (1) := ⟨_, rfl⟩
                            obtain ⟨k199, hk200, b201, b202⟩ := hq_add (i7) (1)
                            rw [← ey198] at hk200 b201 b202
                            have hk200 : (y197).toInt = (i7).toInt + (1) + k199 * 4294967296 := hk200
                            refine lv_iinc (v := y197) (lv' := [(6, .int (y197)), (5, .int (r45)), (4, .int (r36)), (0, .ref (mo)), (1, .int (v)), (2, .int (te)), (3, .int (pe))]) hx hb dX13_simple_280 hl (k := 0) rfl (by rw [ey198]; rfl) (by decide) rfl (fun ls hl => ?_)
                            refine lv_goto (tgt := 242) hx hb dX13_simple_283 (by decide) ?_
                            exact ih242 _ (by omega) _ _ _ ls (y197) (g194) rfl hZ hP ho191 ho192 ho193 (by omega) (by omega) (by omega) (lv_sub hl [0, 1, 2, 3, 4, 5, 6] rfl)
                  refine lv_iload hx hb dX13_simple_211 (lv_at hl 1 rfl) ?_
                  refine lv_iconst (v := -1) hx hb dX13_simple_213 (by decide) ?_
                  refine lv_icmp_eq (tgt := 233) hx hb dX13_simple_214 (by decide) (fun c203 => ?_) (fun c203 => ?_)
                  · have c203 : (r45).toInt = (-1 : Int) := hq_eqi.mp c203
                    exact jn233 _ _ _ ls (g101) hZ hP ho106 ho107 ho108 (by omega) (lv_sub hl [1, 2, 3, 4, 5, 6] rfl)
                  · have c203 : ¬ (r45).toInt = (-1 : Int) := fun h9 => c203 (hq_eqi.mpr h9)
                    refine lv_aload_n hx hb dX13_simple_217 rfl (lv_at hl 3 rfl) ?_
                    refine hp_get (v := .ref (q + 23)) hx hb hts hown hZ ho106 fl_X13_219 rfl dX13_simple_218 ?_
                    refine lv_iload hx hb dX13_simple_221 (lv_at hl 1 rfl) ?_
                    obtain ⟨hN206, g205, eV204⟩ := hq_o22 hP.1 (hr_23 hR)
                    refine hp_zald hx hb hZ eV204 (hq_in (by omega) (by omega)) dX13_simple_223 ?_
                    refine lv_topi (fun y208 ey209 => ?_)
                    have b211 : (y208).toInt = ((g205) (r45 : Int32).toNatClampNeg).toInt := by rw [ey209]
                    have b210 := hq_rng y208
                    refine lv_if_eq (tgt := 233) hx hb dX13_simple_224 (by decide) (fun c212 => ?_) (fun c212 => ?_)
                    · have c212 : (y208).toInt = (0 : Int) := hq_eqi.mp c212
                      exact jn233 _ _ _ ls (g101) hZ hP ho106 ho107 ho108 (by omega) (lv_sub hl [1, 2, 3, 4, 5, 6] rfl)
                    · have c212 : ¬ (y208).toInt = (0 : Int) := fun h9 => c212 (hq_eqi.mpr h9)
                      refine lv_aload_n hx hb dX13_simple_227 rfl (lv_at hl 3 rfl) ?_
                      refine lv_iload hx hb dX13_simple_228 (lv_at hl 1 rfl) ?_
                      refine hp_callv (hp_runV (As := [.int (r45)]) (rest := []) hx hb hml hown hts (t_X13_note l D cs B G  V9 n hP.1 q hR (mo) h_mo (r45) ho106  (by omega) (by omega) (by omega) (by omega) (by omega) (by omega) (by omega) (by omega) ho107 ho108 (by omega) (by omega) (by omega) (by omega)) hZ ho106 cv_X13_357 rfl rfl ⟨Nat.le_of_ble_eq_true rfl, Nat.le_of_ble_eq_true rfl⟩ rfl hl.1 rfl (Nat.le_of_ble_eq_true rfl) dX13_simple_230 ⟨(Nat.le_of_ble_eq_true rfl), (Nat.le_of_ble_eq_true rfl)⟩) hZ (fun V213 n214 _ _ hw215 hZ => ?_)
                      obtain ⟨rfl, hq217, ho219, ho220, ⟨g222, ho221, hi223⟩⟩ := hw215
                      have hP := hP.trans hq217 (by intro g h; simp_all)
                      have hf224 := hq_rg hP.1 (hr_30 hR) ho221
                      exact jn233 _ _ _ ls (g222) hZ hP ho219 ho220 ho221 (by omega) (lv_sub hl [1, 2, 3, 4, 5, 6] rfl)
                · have c114 : ¬ (z71).toInt ≤ (i6).toInt := fun h9 => c114 (hq_lei.mpr h9)
                  refine lv_aload_n hx hb dX13_simple_194 rfl (lv_at hl 3 rfl) ?_
                  refine lv_aload_n hx hb dX13_simple_195 rfl (lv_at hl 3 rfl) ?_
                  refine hp_get (v := .ref (q + 21)) hx hb hts hown hZ ho106 fl_X13_213 rfl dX13_simple_196 ?_
                  refine lv_iload hx hb dX13_simple_199 (lv_at hl 0 rfl) ?_
                  obtain ⟨hN227, g226, eV225⟩ := hq_o20 hP.1 (hr_21 hR)
                  refine hp_bald hx hb hZ eV225 (hq_in (by omega) (by omega)) dX13_simple_201 ?_
                  refine lv_topi (fun y229 ey230 => ?_)
                  have b232 : (y229).toInt = ((g226) (i6 : Int32).toNatClampNeg).toInt := by rw [ey230]
                  have b231 := hq_rng y229
                  refine hp_callv (hp_runV (As := [.int (y229)]) (rest := []) hx hb hml hown hts (t_X13_say l D cs B G  V9 n hP.1 q hR (mo) h_mo (y229) ho106  (by omega) (by omega) (by omega) (by omega) (by omega) (by omega) (by omega) (by omega) ho107 ho108 (by omega) (by omega)) hZ ho106 cv_X13_354 rfl rfl ⟨Nat.le_of_ble_eq_true rfl, Nat.le_of_ble_eq_true rfl⟩ rfl hl.1 rfl (Nat.le_of_ble_eq_true rfl) dX13_simple_202 ⟨(Nat.le_of_ble_eq_true rfl), (Nat.le_of_ble_eq_true rfl)⟩) hZ (fun V233 n234 _ _ hw235 hZ => ?_)
                  obtain ⟨rfl, hq237, ho239, ⟨g241, ho240, hi242⟩, ho243⟩ := hw235
                  have hP := hP.trans hq237 (by intro g h; simp_all)
                  have hf244 := hq_rg hP.1 (hr_28 hR) ho240
                  obtain ⟨y245, ey246⟩ : ∃ y : Int32, y = i6 + (1) := ⟨_, rfl⟩
                  obtain ⟨k247, hk248, b249, b250⟩ := hq_add (i6) (1)
                  rw [← ey246] at hk248 b249 b250
                  have hk248 : (y245).toInt = (i6).toInt + (1) + k247 * 4294967296 := hk248
                  refine lv_iinc (v := y245) (lv' := [(6, .int (y245)), (5, .int (r45)), (4, .int (r36)), (0, .ref (mo)), (1, .int (v)), (2, .int (te)), (3, .int (pe))]) hx hb dX13_simple_205 hl (k := 0) rfl (by rw [ey246]; rfl) (by decide) rfl (fun ls hl => ?_)
                  refine lv_goto (tgt := 185) hx hb dX13_simple_208 (by decide) ?_
                  exact ih185 _ (by omega) _ _ _ ls (y245) (g241) rfl hZ hP ho239 ho240 ho243 (by omega) (by omega) (by omega) (lv_sub hl [0, 1, 2, 3, 4, 5, 6] rfl)
            · have c87 : (r68).toInt = (0 : Int) := hq_eqi.mp c87
              have fx251 : V65 (q + 28) = some (.inl (cs 1, 4, .inl (ff9))) := (hq69.2 (q + 28) _ (hr_28 hR) rfl).trans ((hq46.2 (q + 28) _ (hr_28 hR) rfl).trans ((hq37.2 (q + 28) _ (hr_28 hR) rfl).trans (ho19)))
              have fx252 : V65 (q + 30) = some (.inl (cs 1, 4, .inl (fr9))) := (hq69.2 (q + 30) _ (hr_30 hR) rfl).trans ((hq46.2 (q + 30) _ (hr_30 hR) rfl).trans ((hq37.2 (q + 30) _ (hr_30 hR) rfl).trans (ho21)))
              exact hp_vret hx hb hr hlocks hZ ⟨rfl, hP, ⟨fo9, z71, ho72, by omega, by omega, hm_S2.of fx251 fx252 (by omega) hvs⟩, ho76, ho78, ho80, ho82, ⟨ff9, fx251⟩, ⟨fr9, fx252⟩⟩ dX13_simple_177
      · have c32 : ¬ (y28).toInt ≤ (i).toInt := fun h9 => c32 (hq_lei.mpr h9)
        refine lv_aload_n hx hb dX13_simple_32 rfl (lv_at hl 1 rfl) ?_
        refine hp_get (v := .int (fo9)) hx hb hts hown hZ ho17 fl_X13_344 rfl dX13_simple_33 ?_
        refine lv_iconst (v := 2) hx hb dX13_simple_36 (by decide) ?_
        refine lv_icmp_ge (tgt := 130) hx hb dX13_simple_37 (by decide) (fun c253 => ?_) (fun c253 => ?_)
        · have c253 : (2 : Int) ≤ (fo9).toInt := hq_lei.mp c253
          refine lv_aload_n hx hb dX13_simple_130 rfl (lv_at hl 1 rfl) ?_
          refine lv_iconst (v := 1) hx hb dX13_simple_131 (by decide) ?_
          refine lv_iload_n hx hb dX13_simple_132 rfl (lv_at hl 2 rfl) ?_
          refine lv_iload_n hx hb dX13_simple_133 rfl (lv_at hl 3 rfl) ?_
          refine lv_iload_n hx hb dX13_simple_134 rfl (lv_at hl 4 rfl) ?_
          have hl261 : (1 : Int32).toInt = 1 := by decide
          refine hp_calli (hp_runV (As := [.int (1), .int (v), .int (te), .int (pe)]) (rest := []) hx hb hml hown hts (t_X13_firstOf l D cs B G  V9 n hP.1 q hR (mo) h_mo (1) (v) (te) (pe) ho17  (by omega) (by omega) (by omega) (by omega) (by omega) (by omega) (by omega) (by omega) (by omega) (by omega)) hZ ho17 cv_X13_347 rfl rfl ⟨Nat.le_of_ble_eq_true rfl, Nat.le_of_ble_eq_true rfl⟩ rfl hl.1 rfl (Nat.le_of_ble_eq_true rfl) dX13_simple_135 ⟨(Nat.le_of_ble_eq_true rfl), (Nat.le_of_ble_eq_true rfl)⟩) hZ (fun r257 V254 n255 _ _ hw256 hZ => ?_)
          obtain ⟨rfl, hq258, ho260, hr259⟩ := hw256
          have hP := hP.trans hq258 (fun _ _ => rfl)
          have b262 := hq_rng r257
          refine lv_istore (lv' := [(4, .int (r257)), (0, .ref (mo)), (1, .int (v)), (2, .int (te)), (3, .int (pe))]) hx hb dX13_simple_138 hl (by decide) rfl (fun ls hl => ?_)
          refine lv_aload_n hx hb dX13_simple_140 rfl (lv_at hl 1 rfl) ?_
          refine lv_iconst (v := 0) hx hb dX13_simple_141 (by decide) ?_
          refine lv_iload_n hx hb dX13_simple_142 rfl (lv_at hl 2 rfl) ?_
          refine lv_iload_n hx hb dX13_simple_143 rfl (lv_at hl 3 rfl) ?_
          refine lv_iload_n hx hb dX13_simple_144 rfl (lv_at hl 4 rfl) ?_
          have hl270 : (0 : Int32).toInt = 0 := by decide
          refine hp_calli (hp_runV (As := [.int (0), .int (v), .int (te), .int (pe)]) (rest := []) hx hb hml hown hts (t_X13_firstOf l D cs B G  V254 n hP.1 q hR (mo) h_mo (0) (v) (te) (pe) ho260  (by omega) (by omega) (by omega) (by omega) (by omega) (by omega) (by omega) (by omega) (by omega) (by omega)) hZ ho260 cv_X13_347 rfl rfl ⟨Nat.le_of_ble_eq_true rfl, Nat.le_of_ble_eq_true rfl⟩ rfl hl.1 rfl (Nat.le_of_ble_eq_true rfl) dX13_simple_145 ⟨(Nat.le_of_ble_eq_true rfl), (Nat.le_of_ble_eq_true rfl)⟩) hZ (fun r266 V263 n264 _ _ hw265 hZ => ?_)
          obtain ⟨rfl, hq267, ho269, hr268⟩ := hw265
          have hP := hP.trans hq267 (fun _ _ => rfl)
          have b271 := hq_rng r266
          refine lv_istore (lv' := [(5, .int (r266)), (4, .int (r257)), (0, .ref (mo)), (1, .int (v)), (2, .int (te)), (3, .int (pe))]) hx hb dX13_simple_148 hl (by decide) rfl (fun ls hl => ?_)
          refine lv_aload_n hx hb dX13_simple_150 rfl (lv_at hl 2 rfl) ?_
          refine hp_get (v := .int (fo9)) hx hb hts hown hZ ho269 fl_X13_344 rfl dX13_simple_151 ?_
          refine lv_if_gt (tgt := 177) hx hb dX13_simple_154 (by decide) (fun c272 => ?_) (fun c272 => ?_)
          · have c272 : (0 : Int) < (fo9).toInt := hq_lti.mp c272
            have fx273 : V263 (q + 28) = some (.inl (cs 1, 4, .inl (ff9))) := (hq267.2 (q + 28) _ (hr_28 hR) rfl).trans ((hq258.2 (q + 28) _ (hr_28 hR) rfl).trans (ho19))
            have fx274 : V263 (q + 30) = some (.inl (cs 1, 4, .inl (fr9))) := (hq267.2 (q + 30) _ (hr_30 hR) rfl).trans ((hq258.2 (q + 30) _ (hr_30 hR) rfl).trans (ho21))
            have fx275 : V263 (q + 14) = some (.inl (cs 1, 120, .inl (fs))) := (hq267.2 (q + 14) _ (hr_14 hR) rfl).trans ((hq258.2 (q + 14) _ (hr_14 hR) rfl).trans ((hP_21.2 (q + 14) _ (hr_14 hR) rfl).trans (ho_fs)))
            have fx276 : V263 (q + 15) = some (.inl (cs 1, 120, .inl (ss))) := (hq267.2 (q + 15) _ (hr_15 hR) rfl).trans ((hq258.2 (q + 15) _ (hr_15 hR) rfl).trans ((hP_21.2 (q + 15) _ (hr_15 hR) rfl).trans (ho_ss)))
            have fx277 : V263 (q + 10) = some (.inl (cs 1, 120, .inl (fk))) := (hq267.2 (q + 10) _ (hr_10 hR) rfl).trans ((hq258.2 (q + 10) _ (hr_10 hR) rfl).trans ((hP_21.2 (q + 10) _ (hr_10 hR) rfl).trans (ho_fk)))
            have fx278 : V263 (q + 2) = some (.inl (cs 1, 2, .inl (fl))) := (hq267.2 (q + 2) _ (hr_2 hR) rfl).trans ((hq258.2 (q + 2) _ (hr_2 hR) rfl).trans (fx27))
            exact hp_vret hx hb hr hlocks hZ ⟨rfl, hP, ⟨fo9, m_le, ho269, by omega, by omega, hm_S2.of fx273 fx274 (by omega) hvs⟩, fx275, fx276, fx277, fx278, ⟨ff9, fx273⟩, ⟨fr9, fx274⟩⟩ dX13_simple_177
          · have c272 : ¬ (0 : Int) < (fo9).toInt := fun h9 => c272 (hq_lti.mpr h9)
            refine lv_iload hx hb dX13_simple_157 (lv_at hl 1 rfl) ?_
            refine lv_iconst (v := -1) hx hb dX13_simple_159 (by decide) ?_
            refine lv_icmp_eq (tgt := 177) hx hb dX13_simple_160 (by decide) (fun c279 => ?_) (fun c279 => ?_)
            · have c279 : (r257).toInt = (-1 : Int) := hq_eqi.mp c279
              have fx280 : V263 (q + 28) = some (.inl (cs 1, 4, .inl (ff9))) := (hq267.2 (q + 28) _ (hr_28 hR) rfl).trans ((hq258.2 (q + 28) _ (hr_28 hR) rfl).trans (ho19))
              have fx281 : V263 (q + 30) = some (.inl (cs 1, 4, .inl (fr9))) := (hq267.2 (q + 30) _ (hr_30 hR) rfl).trans ((hq258.2 (q + 30) _ (hr_30 hR) rfl).trans (ho21))
              have fx282 : V263 (q + 14) = some (.inl (cs 1, 120, .inl (fs))) := (hq267.2 (q + 14) _ (hr_14 hR) rfl).trans ((hq258.2 (q + 14) _ (hr_14 hR) rfl).trans ((hP_21.2 (q + 14) _ (hr_14 hR) rfl).trans (ho_fs)))
              have fx283 : V263 (q + 15) = some (.inl (cs 1, 120, .inl (ss))) := (hq267.2 (q + 15) _ (hr_15 hR) rfl).trans ((hq258.2 (q + 15) _ (hr_15 hR) rfl).trans ((hP_21.2 (q + 15) _ (hr_15 hR) rfl).trans (ho_ss)))
              have fx284 : V263 (q + 10) = some (.inl (cs 1, 120, .inl (fk))) := (hq267.2 (q + 10) _ (hr_10 hR) rfl).trans ((hq258.2 (q + 10) _ (hr_10 hR) rfl).trans ((hP_21.2 (q + 10) _ (hr_10 hR) rfl).trans (ho_fk)))
              have fx285 : V263 (q + 2) = some (.inl (cs 1, 2, .inl (fl))) := (hq267.2 (q + 2) _ (hr_2 hR) rfl).trans ((hq258.2 (q + 2) _ (hr_2 hR) rfl).trans (fx27))
              exact hp_vret hx hb hr hlocks hZ ⟨rfl, hP, ⟨fo9, m_le, ho269, by omega, by omega, hm_S2.of fx280 fx281 (by omega) hvs⟩, fx282, fx283, fx284, fx285, ⟨ff9, fx280⟩, ⟨fr9, fx281⟩⟩ dX13_simple_177
            · have c279 : ¬ (r257).toInt = (-1 : Int) := fun h9 => c279 (hq_eqi.mpr h9)
              refine lv_aload_n hx hb dX13_simple_163 rfl (lv_at hl 2 rfl) ?_
              refine lv_iload_n hx hb dX13_simple_164 rfl (lv_at hl 3 rfl) ?_
              refine lv_iload hx hb dX13_simple_165 (lv_at hl 0 rfl) ?_
              refine lv_iload hx hb dX13_simple_167 (lv_at hl 1 rfl) ?_
              refine lv_iconst (v := -1) hx hb dX13_simple_169 (by decide) ?_
              refine lv_iconst (v := -1) hx hb dX13_simple_170 (by decide) ?_
              have hH9 := hH.keep hR (fun x t hx hg => hP.2 x t hx (by simp [hg]))
              have fx296 : V263 (q + 14) = some (.inl (cs 1, 120, .inl (fs))) := (hq267.2 (q + 14) _ (hr_14 hR) rfl).trans ((hq258.2 (q + 14) _ (hr_14 hR) rfl).trans ((hP_21.2 (q + 14) _ (hr_14 hR) rfl).trans (ho_fs)))
              have fx298 : V263 (q + 15) = some (.inl (cs 1, 120, .inl (ss))) := (hq267.2 (q + 15) _ (hr_15 hR) rfl).trans ((hq258.2 (q + 15) _ (hr_15 hR) rfl).trans ((hP_21.2 (q + 15) _ (hr_15 hR) rfl).trans (ho_ss)))
              have fx300 : V263 (q + 10) = some (.inl (cs 1, 120, .inl (fk))) := (hq267.2 (q + 10) _ (hr_10 hR) rfl).trans ((hq258.2 (q + 10) _ (hr_10 hR) rfl).trans ((hP_21.2 (q + 10) _ (hr_10 hR) rfl).trans (ho_fk)))
              have fx302 : V263 (q + 2) = some (.inl (cs 1, 2, .inl (fl))) := (hq267.2 (q + 2) _ (hr_2 hR) rfl).trans ((hq258.2 (q + 2) _ (hr_2 hR) rfl).trans (fx27))
              have hl304 : (-1 : Int32).toInt = -1 := by decide
              have hl305 : (-1 : Int32).toInt = -1 := by decide
              refine hp_calli (hp_runV (As := [.int (v), .int (r266), .int (r257), .int (-1), .int (-1)]) (rest := []) hx hb hml hown hts (t_X13_make l D cs B G  V263 n hP.1 q hR (mo) h_mo (v) (r266) (r257) (-1) (-1) ho269  (by omega) (by omega) (by omega) (by omega) (by omega) (by omega) (by omega) (by omega) fx296 fx298 fx300 fx302 (by omega) (by omega) (by omega) (by omega) (by omega) (by omega) hH9) hZ ho269 cv_X13_360 rfl rfl ⟨Nat.le_of_ble_eq_true rfl, Nat.le_of_ble_eq_true rfl⟩ rfl hl.1 rfl (Nat.le_of_ble_eq_true rfl) dX13_simple_171 ⟨(Nat.le_of_ble_eq_true rfl), (Nat.le_of_ble_eq_true rfl)⟩) hZ (fun r289 V286 n287 _ _ hw288 hZ => ?_)
              obtain ⟨rfl, hq290, ⟨z292, ho293, hi294, hi295⟩, ho297, ho299, ho301, ho303, hr291⟩ := hw288
              have hP := hP.trans hq290 (by intro g h; simp_all)
              have b306 := hq_rng z292
              have b307 := hq_rng r289
              refine lv_if_ne (tgt := 178) hx hb dX13_simple_174 (by decide) (fun c308 => ?_) (fun c308 => ?_)
              · have c308 : ¬ (r289).toInt = (0 : Int) := fun h9 => c308 (hq_eqi.mpr h9)
                refine lv_aload_n hx hb dX13_simple_178 rfl (lv_at hl 2 rfl) ?_
                have fx316 : V286 (q + 28) = some (.inl (cs 1, 4, .inl (ff9))) := (hq290.2 (q + 28) _ (hr_28 hR) rfl).trans ((hq267.2 (q + 28) _ (hr_28 hR) rfl).trans ((hq258.2 (q + 28) _ (hr_28 hR) rfl).trans (ho19)))
                have fx320 : V286 (q + 30) = some (.inl (cs 1, 4, .inl (fr9))) := (hq290.2 (q + 30) _ (hr_30 hR) rfl).trans ((hq267.2 (q + 30) _ (hr_30 hR) rfl).trans ((hq258.2 (q + 30) _ (hr_30 hR) rfl).trans (ho21)))
                refine hp_callv (hp_runV (As := []) (rest := []) hx hb hml hown hts (t_X13_beginForm l D cs B G  V286 n hP.1 q hR (mo) h_mo ho293  (by omega) (by omega) (by omega) (by omega) (by omega) (by omega) (by omega) (by omega) fx316 fx320 (by omega)) hZ ho293 cv_X13_351 rfl rfl ⟨Nat.le_of_ble_eq_true rfl, Nat.le_of_ble_eq_true rfl⟩ rfl hl.1 rfl (Nat.le_of_ble_eq_true rfl) dX13_simple_179 ⟨(Nat.le_of_ble_eq_true rfl), (Nat.le_of_ble_eq_true rfl)⟩) hZ (fun V309 n310 _ _ hw311 hZ => ?_)
                obtain ⟨rfl, hq313, ho315, ⟨g318, ho317, hi319⟩, ⟨g322, ho321, hi323⟩⟩ := hw311
                have hP := hP.trans hq313 (by intro g h; simp_all)
                have hf324 := hq_rg hP.1 (hr_28 hR) ho317
                have hf325 := hq_rg hP.1 (hr_30 hR) ho321
                refine lv_iconst (v := 0) hx hb dX13_simple_182 (by decide) ?_
                refine lv_istore (lv' := [(6, .int (0)), (5, .int (r266)), (4, .int (r257)), (0, .ref (mo)), (1, .int (v)), (2, .int (te)), (3, .int (pe))]) hx hb dX13_simple_183 hl (by decide) rfl (fun ls hl => ?_)
                have hl326 : (0 : Int32).toInt = 0 := by decide
                suffices lp185 : ∀ (k9 : Nat) (V9 : hp_V) (H9 : Heap) (locs9 : List Loc) (ls : Array Slot) (i6 : Int32) (ff7 : Nat → Int32), (100 - i6.toInt).toNat = k9 → hp_Z D cs B s V9 H9 n locs9 → hq_P cs G (fun g => g.1 == 1 || g.1 == 43 || g.1 == 44) V V9 → V9 (mo) = some (.inr (13, hm_o q (m_tp) (m_sz) (m_fr) (m_bh) (m_hd) (m_ft) (m_fa) (z292) (fo9) (m_as) (m_fd) (m_bc) (m_bg) (m_bs) (m_be) (m_b0) (m_b1) (m_cm) (m_hc))) → V9 (q + 28) = some (.inl (cs 1, 4, .inl (ff7))) → V9 (q + 30) = some (.inl (cs 1, 4, .inl (g322))) → 0 ≤ i6.toInt → i6.toInt ≤ 30 → (ff7 fo9.toNatClampNeg).toInt = i6.toInt → lv_has ls 7 [(6, .int (i6)), (5, .int (r266)), (4, .int (r257)), (0, .ref (mo)), (1, .int (v)), (2, .int (te)), (3, .int (pe))] → W p l e ({ frames := 4, cells := 0, slots := 0, locals := 95 }) s m ([.ref (mo), .int (v), .int (te), .int (pe)] : List Value).toArray below meth c H9 locs9 0 0 (MQ below (hp_QV D cs B (fun V' n' => n = n' ∧ hq_P cs G (fun g => g.1 == 1 || g.1 == 43 || g.1 == 44) V V' ∧ (∃ (m_fo1 : Int32) (m_le1 : Int32), V' mo = some (.inr (13, hm_o q (m_tp) (m_sz) (m_fr) (m_bh) (m_hd) (m_ft) (m_fa) (m_le1) (m_fo1) (m_as) (m_fd) (m_bc) (m_bg) (m_bs) (m_be) (m_b0) (m_b1) (m_cm) (m_hc))) ∧ (0 ≤ m_le1.toInt ∧ m_le1.toInt ≤ 276) ∧ (0 ≤ m_fo1.toInt ∧ m_fo1.toInt ≤ 4) ∧ (hm_S2 V' q m_fo1)) ∧ (V' (q + 14) = some (.inl (cs 1, 120, .inl (fs)))) ∧ (V' (q + 15) = some (.inl (cs 1, 120, .inl (ss)))) ∧ (V' (q + 10) = some (.inl (cs 1, 120, .inl (fk)))) ∧ (V' (q + 2) = some (.inl (cs 1, 2, .inl (fl)))) ∧ (∃ ff1 : Nat → Int32, V' (q + 28) = some (.inl (cs 1, 4, .inl (ff1)))) ∧ (∃ fr1 : Nat → Int32, V' (q + 30) = some (.inl (cs 1, 4, .inl (fr1)))))) ([.ref (mo), .int (v), .int (te), .int (pe)] : List Value).toArray s 0 0 (hp_F B)) (F0 m 185 ls []) from lp185 _ _ _ _ ls (0) (g318) rfl hZ hP ho315 ho317 ho321 (by omega) (by omega) (by omega) (lv_sub hl [0, 1, 2, 3, 4, 5, 6] rfl)
                intro k9
                induction k9 using Nat.strongRecOn with
                | _ k9 ih185 =>
                  intro V9 H9 locs9 ls i6 ff7 hk185 hZ hP ho327 ho328 ho329 hv330 hv331 hv332 hl
                  have hb_i6 := hq_rng i6
                  have hP_185 := hP
                  have hf333 := hq_rg hP.1 (hr_28 hR) ho328
                  have hf334 := hq_rg hP.1 (hr_30 hR) ho329
                  refine lv_iload hx hb dX13_simple_185 (lv_at hl 0 rfl) ?_
                  refine lv_aload_n hx hb dX13_simple_187 rfl (lv_at hl 3 rfl) ?_
                  refine hp_get (v := .int (z292)) hx hb hts hown hZ ho327 fl_X13_331 rfl dX13_simple_188 ?_
                  refine lv_icmp_ge (tgt := 211) hx hb dX13_simple_191 (by decide) (fun c335 => ?_) (fun c335 => ?_)
                  · have c335 : (z292).toInt ≤ (i6).toInt := hq_lei.mp c335
                    have jn233 : ∀ (V9 : hp_V) (H9 : Heap) (locs9 : List Loc) (ls : Array Slot)  (fr5 : Nat → Int32), hp_Z D cs B s V9 H9 n locs9 → hq_P cs G (fun g => g.1 == 1 || g.1 == 43 || g.1 == 44) V V9 → V9 (mo) = some (.inr (13, hm_o q (m_tp) (m_sz) (m_fr) (m_bh) (m_hd) (m_ft) (m_fa) (z292) (fo9) (m_as) (m_fd) (m_bc) (m_bg) (m_bs) (m_be) (m_b0) (m_b1) (m_cm) (m_hc))) → V9 (q + 28) = some (.inl (cs 1, 4, .inl (ff7))) → V9 (q + 30) = some (.inl (cs 1, 4, .inl (fr5))) → (fr5 fo9.toNatClampNeg).toInt ≤ 1 → lv_has ls 7 [(5, .int (r266)), (4, .int (r257)), (0, .ref (mo)), (1, .int (v)), (2, .int (te)), (3, .int (pe))] → W p l e ({ frames := 4, cells := 0, slots := 0, locals := 95 }) s m ([.ref (mo), .int (v), .int (te), .int (pe)] : List Value).toArray below meth c H9 locs9 0 0 (MQ below (hp_QV D cs B (fun V' n' => n = n' ∧ hq_P cs G (fun g => g.1 == 1 || g.1 == 43 || g.1 == 44) V V' ∧ (∃ (m_fo1 : Int32) (m_le1 : Int32), V' mo = some (.inr (13, hm_o q (m_tp) (m_sz) (m_fr) (m_bh) (m_hd) (m_ft) (m_fa) (m_le1) (m_fo1) (m_as) (m_fd) (m_bc) (m_bg) (m_bs) (m_be) (m_b0) (m_b1) (m_cm) (m_hc))) ∧ (0 ≤ m_le1.toInt ∧ m_le1.toInt ≤ 276) ∧ (0 ≤ m_fo1.toInt ∧ m_fo1.toInt ≤ 4) ∧ (hm_S2 V' q m_fo1)) ∧ (V' (q + 14) = some (.inl (cs 1, 120, .inl (fs)))) ∧ (V' (q + 15) = some (.inl (cs 1, 120, .inl (ss)))) ∧ (V' (q + 10) = some (.inl (cs 1, 120, .inl (fk)))) ∧ (V' (q + 2) = some (.inl (cs 1, 2, .inl (fl)))) ∧ (∃ ff1 : Nat → Int32, V' (q + 28) = some (.inl (cs 1, 4, .inl (ff1)))) ∧ (∃ fr1 : Nat → Int32, V' (q + 30) = some (.inl (cs 1, 4, .inl (fr1)))))) ([.ref (mo), .int (v), .int (te), .int (pe)] : List Value).toArray s 0 0 (hp_F B)) (F0 m 233 ls []) := by
                      intro V9 H9 locs9 ls   fr5 hZ hP  ho336 ho337 ho338 hv339 hl
                      have hPj233 := hP
                      have hf340 := hq_rg hP.1 (hr_28 hR) ho337
                      have hf341 := hq_rg hP.1 (hr_30 hR) ho338
                      refine lv_aload_n hx hb dX13_simple_233 rfl (lv_at hl 2 rfl) ?_
                      refine lv_iload hx hb dX13_simple_234 (lv_at hl 1 rfl) ?_
                      refine hp_callv (hp_runV (As := [.int (r257)]) (rest := []) hx hb hml hown hts (t_X13_note l D cs B G  V9 n hP.1 q hR (mo) h_mo (r257) ho336  (by omega) (by omega) (by omega) (by omega) (by omega) (by omega) (by omega) (by omega) ho337 ho338 (by omega) (by omega) (by omega) (by omega)) hZ ho336 cv_X13_357 rfl rfl ⟨Nat.le_of_ble_eq_true rfl, Nat.le_of_ble_eq_true rfl⟩ rfl hl.1 rfl (Nat.le_of_ble_eq_true rfl) dX13_simple_236 ⟨(Nat.le_of_ble_eq_true rfl), (Nat.le_of_ble_eq_true rfl)⟩) hZ (fun V342 n343 _ _ hw344 hZ => ?_)
                      obtain ⟨rfl, hq346, ho348, ho349, ⟨g351, ho350, hi352⟩⟩ := hw344
                      have hP := hP.trans hq346 (by intro g h; simp_all)
                      have hf353 := hq_rg hP.1 (hr_30 hR) ho350
                      refine lv_iconst (v := 0) hx hb dX13_simple_239 (by decide) ?_
                      refine lv_istore (lv' := [(6, .int (0)), (5, .int (r266)), (4, .int (r257)), (0, .ref (mo)), (1, .int (v)), (2, .int (te)), (3, .int (pe))]) hx hb dX13_simple_240 hl (by decide) rfl (fun ls hl => ?_)
                      have hl354 : (0 : Int32).toInt = 0 := by decide
                      suffices lp242 : ∀ (k9 : Nat) (V9 : hp_V) (H9 : Heap) (locs9 : List Loc) (ls : Array Slot) (i7 : Int32) (fr6 : Nat → Int32), (100 - i7.toInt).toNat = k9 → hp_Z D cs B s V9 H9 n locs9 → hq_P cs G (fun g => g.1 == 1 || g.1 == 43 || g.1 == 44) V V9 → V9 (mo) = some (.inr (13, hm_o q (m_tp) (m_sz) (m_fr) (m_bh) (m_hd) (m_ft) (m_fa) (z292) (fo9) (m_as) (m_fd) (m_bc) (m_bg) (m_bs) (m_be) (m_b0) (m_b1) (m_cm) (m_hc))) → V9 (q + 28) = some (.inl (cs 1, 4, .inl (ff7))) → V9 (q + 30) = some (.inl (cs 1, 4, .inl (fr6))) → 0 ≤ i7.toInt → i7.toInt ≤ 60 → (fr6 fo9.toNatClampNeg).toInt ≤ 2 + i7.toInt → lv_has ls 7 [(6, .int (i7)), (5, .int (r266)), (4, .int (r257)), (0, .ref (mo)), (1, .int (v)), (2, .int (te)), (3, .int (pe))] → W p l e ({ frames := 4, cells := 0, slots := 0, locals := 95 }) s m ([.ref (mo), .int (v), .int (te), .int (pe)] : List Value).toArray below meth c H9 locs9 0 0 (MQ below (hp_QV D cs B (fun V' n' => n = n' ∧ hq_P cs G (fun g => g.1 == 1 || g.1 == 43 || g.1 == 44) V V' ∧ (∃ (m_fo1 : Int32) (m_le1 : Int32), V' mo = some (.inr (13, hm_o q (m_tp) (m_sz) (m_fr) (m_bh) (m_hd) (m_ft) (m_fa) (m_le1) (m_fo1) (m_as) (m_fd) (m_bc) (m_bg) (m_bs) (m_be) (m_b0) (m_b1) (m_cm) (m_hc))) ∧ (0 ≤ m_le1.toInt ∧ m_le1.toInt ≤ 276) ∧ (0 ≤ m_fo1.toInt ∧ m_fo1.toInt ≤ 4) ∧ (hm_S2 V' q m_fo1)) ∧ (V' (q + 14) = some (.inl (cs 1, 120, .inl (fs)))) ∧ (V' (q + 15) = some (.inl (cs 1, 120, .inl (ss)))) ∧ (V' (q + 10) = some (.inl (cs 1, 120, .inl (fk)))) ∧ (V' (q + 2) = some (.inl (cs 1, 2, .inl (fl)))) ∧ (∃ ff1 : Nat → Int32, V' (q + 28) = some (.inl (cs 1, 4, .inl (ff1)))) ∧ (∃ fr1 : Nat → Int32, V' (q + 30) = some (.inl (cs 1, 4, .inl (fr1)))))) ([.ref (mo), .int (v), .int (te), .int (pe)] : List Value).toArray s 0 0 (hp_F B)) (F0 m 242 ls []) from lp242 _ _ _ _ ls (0) (g351) rfl hZ hP ho348 ho349 ho350 (by omega) (by omega) (by omega) (lv_sub hl [0, 1, 2, 3, 4, 5, 6] rfl)
                      intro k9
                      induction k9 using Nat.strongRecOn with
                      | _ k9 ih242 =>
                        intro V9 H9 locs9 ls i7 fr6 hk242 hZ hP ho355 ho356 ho357 hv358 hv359 hv360 hl
                        have hb_i7 := hq_rng i7
                        have hP_242 := hP
                        have hf361 := hq_rg hP.1 (hr_28 hR) ho356
                        have hf362 := hq_rg hP.1 (hr_30 hR) ho357
                        refine lv_iload hx hb dX13_simple_242 (lv_at hl 0 rfl) ?_
                        refine lv_aload_n hx hb dX13_simple_244 rfl (lv_at hl 3 rfl) ?_
                        refine hp_get (v := .ref (q + 2)) hx hb hts hown hZ ho355 fl_X13_10 rfl dX13_simple_245 ?_
                        refine lv_iconst (v := 0) hx hb dX13_simple_248 (by decide) ?_
                        have fx363 : V9 (q + 2) = some (.inl (cs 1, 2, .inl (fl))) := (hP_242.2 (q + 2) _ (hr_2 hR) rfl).trans (ho_fl)
                        refine hp_iald hx hb hZ fx363 (by unfold vp_in; decide) dX13_simple_249 ?_
                        refine lv_topi (fun y364 ey365 => ?_)
                        have b367 : (y364).toInt = ((fl) (0 : Int32).toNatClampNeg).toInt := by rw [ey365]
                        have b366 : hq_ir (hq_lo 8) (hq_hi 8) y364 := by rw [ey365]; exact hf_fl _ (by decide)
                        have b366 : 0 ≤ (y364).toInt ∧ (y364).toInt ≤ 60 := b366
                        refine lv_icmp_ge (tgt := 286) hx hb dX13_simple_250 (by decide) (fun c368 => ?_) (fun c368 => ?_)
                        · have c368 : (y364).toInt ≤ (i7).toInt := hq_lei.mp c368
                          refine lv_aload_n hx hb dX13_simple_286 rfl (lv_at hl 3 rfl) ?_
                          refine lv_iconst (v := 1) hx hb dX13_simple_287 (by decide) ?_
                          refine hp_put hx hb hts hown hZ ho355 fp_X13_344 rfl rfl (Nat.le_of_ble_eq_true rfl) dX13_simple_288 (fun V369 _ _ e370 o371 hZ => ?_)
                          have e370 : V369 (mo) = some (.inr (13, hm_o q (m_tp) (m_sz) (m_fr) (m_bh) (m_hd) (m_ft) (m_fa) (z292) (1) (m_as) (m_fd) (m_bc) (m_bg) (m_bs) (m_be) (m_b0) (m_b1) (m_cm) (m_hc))) := e370
                          have hP := hP.put h_mo e370 o371 (trivial) rfl
                          have hl372 : (1 : Int32).toInt = 1 := by decide
                          have fx373 : V369 (q + 28) = some (.inl (cs 1, 4, .inl (ff7))) := (o371 (q + 28) (hq_tne (hr_28 hR) h_mo (by simp))).trans (ho356)
                          have fx374 : V369 (q + 30) = some (.inl (cs 1, 4, .inl (fr6))) := (o371 (q + 30) (hq_tne (hr_30 hR) h_mo (by simp))).trans (ho357)
                          have fx375 : V369 (q + 14) = some (.inl (cs 1, 120, .inl (fs))) := (o371 (q + 14) (hq_tne (hr_14 hR) h_mo (by simp))).trans ((hP_242.2 (q + 14) _ (hr_14 hR) rfl).trans (ho_fs))
                          have fx376 : V369 (q + 15) = some (.inl (cs 1, 120, .inl (ss))) := (o371 (q + 15) (hq_tne (hr_15 hR) h_mo (by simp))).trans ((hP_242.2 (q + 15) _ (hr_15 hR) rfl).trans (ho_ss))
                          have fx377 : V369 (q + 10) = some (.inl (cs 1, 120, .inl (fk))) := (o371 (q + 10) (hq_tne (hr_10 hR) h_mo (by simp))).trans ((hP_242.2 (q + 10) _ (hr_10 hR) rfl).trans (ho_fk))
                          have fx378 : V369 (q + 2) = some (.inl (cs 1, 2, .inl (fl))) := (o371 (q + 2) (hq_tne (hr_2 hR) h_mo (by simp))).trans (fx363)
                          exact hp_vret hx hb hr hlocks hZ ⟨rfl, hP, ⟨1, z292, e370, by omega, by omega, hm_S2.of fx373 fx374 (by decide) (fun j hj => by have h9 : (1 : Int32).toInt = 1 := rfl; have n1 : fo9.toNatClampNeg = fo9.toInt.toNat := rfl; have hj0 : j = fo9.toNatClampNeg := (by omega); rw [hj0]; omega)⟩, fx375, fx376, fx377, fx378, ⟨ff7, fx373⟩, ⟨fr6, fx374⟩⟩ dX13_simple_291
                        · have c368 : ¬ (y364).toInt ≤ (i7).toInt := fun h9 => c368 (hq_lei.mpr h9)
                          refine lv_aload_n hx hb dX13_simple_253 rfl (lv_at hl 3 rfl) ?_
                          refine hp_get (v := .ref (q + 10)) hx hb hts hown hZ ho355 fl_X13_29 rfl dX13_simple_254 ?_
                          refine lv_iload hx hb dX13_simple_257 (lv_at hl 0 rfl) ?_
                          have fx379 : V9 (q + 10) = some (.inl (cs 1, 120, .inl (fk))) := (hP_242.2 (q + 10) _ (hr_10 hR) rfl).trans (ho_fk)
                          refine hp_iald hx hb hZ fx379 (hq_in (by omega) (by omega)) dX13_simple_259 ?_
                          refine lv_topi (fun y380 ey381 => ?_)
                          have b383 : (y380).toInt = ((fk) (i7 : Int32).toNatClampNeg).toInt := by rw [ey381]
                          have b382 := hq_rng y380
                          refine lv_iconst (v := 2) hx hb dX13_simple_260 (by decide) ?_
                          refine lv_icmp_ne (tgt := 280) hx hb dX13_simple_261 (by decide) (fun c384 => ?_) (fun c384 => ?_)
                          · have c384 : ¬ (y380).toInt = (2 : Int) := fun h9 => c384 (hq_eqi.mpr h9)
                            obtain ⟨y385, ey386⟩ : ∃ y : Int32, y = i7 + (1) := ⟨_, rfl⟩
                            obtain ⟨k387, hk388, b389, b390⟩ := hq_add (i7) (1)
                            rw [← ey386] at hk388 b389 b390
                            have hk388 : (y385).toInt = (i7).toInt + (1) + k387 * 4294967296 := hk388
                            refine lv_iinc (v := y385) (lv' := [(6, .int (y385)), (5, .int (r266)), (4, .int (r257)), (0, .ref (mo)), (1, .int (v)), (2, .int (te)), (3, .int (pe))]) hx hb dX13_simple_280 hl (k := 0) rfl (by rw [ey386]; rfl) (by decide) rfl (fun ls hl => ?_)
                            refine lv_goto (tgt := 242) hx hb dX13_simple_283 (by decide) ?_
                            exact ih242 _ (by omega) _ _ _ ls (y385) (fr6) rfl hZ hP ho355 ho356 ho357 (by omega) (by omega) (by omega) (lv_sub hl [0, 1, 2, 3, 4, 5, 6] rfl)
                          · have c384 : (y380).toInt = (2 : Int) := hq_eqi.mp c384
                            refine lv_aload_n hx hb dX13_simple_264 rfl (lv_at hl 3 rfl) ?_
                            refine hp_get (v := .ref (q + 23)) hx hb hts hown hZ ho355 fl_X13_219 rfl dX13_simple_265 ?_
                            refine lv_iload hx hb dX13_simple_268 (lv_at hl 0 rfl) ?_
                            obtain ⟨hN393, g392, eV391⟩ := hq_o22 hP.1 (hr_23 hR)
                            refine hp_zald hx hb hZ eV391 (hq_in (by omega) (by omega)) dX13_simple_270 ?_
                            refine lv_topi (fun y395 ey396 => ?_)
                            have b398 : (y395).toInt = ((g392) (i7 : Int32).toNatClampNeg).toInt := by rw [ey396]
                            have b397 := hq_rng y395
                            refine lv_if_eq (tgt := 280) hx hb dX13_simple_271 (by decide) (fun c399 => ?_) (fun c399 => ?_)
                            · have c399 : (y395).toInt = (0 : Int) := hq_eqi.mp c399
                              obtain ⟨y400, ey401⟩ : ∃ y : Int32, y = i7 + (1) := ⟨_, rfl⟩
                              obtain ⟨k402, hk403, b404, b405⟩ := hq_add (i7) (1)
                              rw [← ey401] at hk403 b404 b405
                              have hk403 : (y400).toInt = (i7).toInt + (1) + k402 * 4294967296 := hk403
                              refine lv_iinc (v := y400) (lv' := [(6, .int (y400)), (5, .int (r266)), (4, .int (r257)), (0, .ref (mo)), (1, .int (v)), (2, .int (te)), (3, .int (pe))]) hx hb dX13_simple_280 hl (k := 0) rfl (by rw [ey401]; rfl) (by decide) rfl (fun ls hl => ?_)
                              refine lv_goto (tgt := 242) hx hb dX13_simple_283 (by decide) ?_
                              exact ih242 _ (by omega) _ _ _ ls (y400) (fr6) rfl hZ hP ho355 ho356 ho357 (by omega) (by omega) (by omega) (lv_sub hl [0, 1, 2, 3, 4, 5, 6] rfl)
                            · have c399 : ¬ (y395).toInt = (0 : Int) := fun h9 => c399 (hq_eqi.mpr h9)
                              refine lv_aload_n hx hb dX13_simple_274 rfl (lv_at hl 3 rfl) ?_
                              refine lv_iload hx hb dX13_simple_275 (lv_at hl 0 rfl) ?_
                              refine hp_callv (hp_runV (As := [.int (i7)]) (rest := []) hx hb hml hown hts (t_X13_note l D cs B G  V9 n hP.1 q hR (mo) h_mo (i7) ho355  (by omega) (by omega) (by omega) (by omega) (by omega) (by omega) (by omega) (by omega) ho356 ho357 (by omega) (by omega) (by omega) (by omega)) hZ ho355 cv_X13_357 rfl rfl ⟨Nat.le_of_ble_eq_true rfl, Nat.le_of_ble_eq_true rfl⟩ rfl hl.1 rfl (Nat.le_of_ble_eq_true rfl) dX13_simple_277 ⟨(Nat.le_of_ble_eq_true rfl), (Nat.le_of_ble_eq_true rfl)⟩) hZ (fun V406 n407 _ _ hw408 hZ => ?_)
                              obtain ⟨rfl, hq410, ho412, ho413, ⟨g415, ho414, hi416⟩⟩ := hw408
                              have hP := hP.trans hq410 (by intro g h; simp_all)
                              have hf417 := hq_rg hP.1 (hr_30 hR) ho414
                              obtain ⟨y418, ey419⟩ : ∃ y : Int32, y = i7 + (1) := ⟨_, rfl⟩
                              obtain ⟨k420, hk421, b422, b423⟩ := hq_add (i7) (1)
                              rw [← ey419] at hk421 b422 b423
                              have hk421 : (y418).toInt = (i7).toInt + (1) + k420 * 4294967296 := hk421
                              refine lv_iinc (v := y418) (lv' := [(6, .int (y418)), (5, .int (r266)), (4, .int (r257)), (0, .ref (mo)), (1, .int (v)), (2, .int (te)), (3, .int (pe))]) hx hb dX13_simple_280 hl (k := 0) rfl (by rw [ey419]; rfl) (by decide) rfl (fun ls hl => ?_)
                              refine lv_goto (tgt := 242) hx hb dX13_simple_283 (by decide) ?_
                              exact ih242 _ (by omega) _ _ _ ls (y418) (g415) rfl hZ hP ho412 ho413 ho414 (by omega) (by omega) (by omega) (lv_sub hl [0, 1, 2, 3, 4, 5, 6] rfl)
                    refine lv_iload hx hb dX13_simple_211 (lv_at hl 1 rfl) ?_
                    refine lv_iconst (v := -1) hx hb dX13_simple_213 (by decide) ?_
                    refine lv_icmp_eq (tgt := 233) hx hb dX13_simple_214 (by decide) (fun c424 => ?_) (fun c424 => ?_)
                    · have c424 : (r266).toInt = (-1 : Int) := hq_eqi.mp c424
                      exact jn233 _ _ _ ls (g322) hZ hP ho327 ho328 ho329 (by omega) (lv_sub hl [1, 2, 3, 4, 5, 6] rfl)
                    · have c424 : ¬ (r266).toInt = (-1 : Int) := fun h9 => c424 (hq_eqi.mpr h9)
                      refine lv_aload_n hx hb dX13_simple_217 rfl (lv_at hl 3 rfl) ?_
                      refine hp_get (v := .ref (q + 23)) hx hb hts hown hZ ho327 fl_X13_219 rfl dX13_simple_218 ?_
                      refine lv_iload hx hb dX13_simple_221 (lv_at hl 1 rfl) ?_
                      obtain ⟨hN427, g426, eV425⟩ := hq_o22 hP.1 (hr_23 hR)
                      refine hp_zald hx hb hZ eV425 (hq_in (by omega) (by omega)) dX13_simple_223 ?_
                      refine lv_topi (fun y429 ey430 => ?_)
                      have b432 : (y429).toInt = ((g426) (r266 : Int32).toNatClampNeg).toInt := by rw [ey430]
                      have b431 := hq_rng y429
                      refine lv_if_eq (tgt := 233) hx hb dX13_simple_224 (by decide) (fun c433 => ?_) (fun c433 => ?_)
                      · have c433 : (y429).toInt = (0 : Int) := hq_eqi.mp c433
                        exact jn233 _ _ _ ls (g322) hZ hP ho327 ho328 ho329 (by omega) (lv_sub hl [1, 2, 3, 4, 5, 6] rfl)
                      · have c433 : ¬ (y429).toInt = (0 : Int) := fun h9 => c433 (hq_eqi.mpr h9)
                        refine lv_aload_n hx hb dX13_simple_227 rfl (lv_at hl 3 rfl) ?_
                        refine lv_iload hx hb dX13_simple_228 (lv_at hl 1 rfl) ?_
                        refine hp_callv (hp_runV (As := [.int (r266)]) (rest := []) hx hb hml hown hts (t_X13_note l D cs B G  V9 n hP.1 q hR (mo) h_mo (r266) ho327  (by omega) (by omega) (by omega) (by omega) (by omega) (by omega) (by omega) (by omega) ho328 ho329 (by omega) (by omega) (by omega) (by omega)) hZ ho327 cv_X13_357 rfl rfl ⟨Nat.le_of_ble_eq_true rfl, Nat.le_of_ble_eq_true rfl⟩ rfl hl.1 rfl (Nat.le_of_ble_eq_true rfl) dX13_simple_230 ⟨(Nat.le_of_ble_eq_true rfl), (Nat.le_of_ble_eq_true rfl)⟩) hZ (fun V434 n435 _ _ hw436 hZ => ?_)
                        obtain ⟨rfl, hq438, ho440, ho441, ⟨g443, ho442, hi444⟩⟩ := hw436
                        have hP := hP.trans hq438 (by intro g h; simp_all)
                        have hf445 := hq_rg hP.1 (hr_30 hR) ho442
                        exact jn233 _ _ _ ls (g443) hZ hP ho440 ho441 ho442 (by omega) (lv_sub hl [1, 2, 3, 4, 5, 6] rfl)
                  · have c335 : ¬ (z292).toInt ≤ (i6).toInt := fun h9 => c335 (hq_lei.mpr h9)
                    refine lv_aload_n hx hb dX13_simple_194 rfl (lv_at hl 3 rfl) ?_
                    refine lv_aload_n hx hb dX13_simple_195 rfl (lv_at hl 3 rfl) ?_
                    refine hp_get (v := .ref (q + 21)) hx hb hts hown hZ ho327 fl_X13_213 rfl dX13_simple_196 ?_
                    refine lv_iload hx hb dX13_simple_199 (lv_at hl 0 rfl) ?_
                    obtain ⟨hN448, g447, eV446⟩ := hq_o20 hP.1 (hr_21 hR)
                    refine hp_bald hx hb hZ eV446 (hq_in (by omega) (by omega)) dX13_simple_201 ?_
                    refine lv_topi (fun y450 ey451 => ?_)
                    have b453 : (y450).toInt = ((g447) (i6 : Int32).toNatClampNeg).toInt := by rw [ey451]
                    have b452 := hq_rng y450
                    refine hp_callv (hp_runV (As := [.int (y450)]) (rest := []) hx hb hml hown hts (t_X13_say l D cs B G  V9 n hP.1 q hR (mo) h_mo (y450) ho327  (by omega) (by omega) (by omega) (by omega) (by omega) (by omega) (by omega) (by omega) ho328 ho329 (by omega) (by omega)) hZ ho327 cv_X13_354 rfl rfl ⟨Nat.le_of_ble_eq_true rfl, Nat.le_of_ble_eq_true rfl⟩ rfl hl.1 rfl (Nat.le_of_ble_eq_true rfl) dX13_simple_202 ⟨(Nat.le_of_ble_eq_true rfl), (Nat.le_of_ble_eq_true rfl)⟩) hZ (fun V454 n455 _ _ hw456 hZ => ?_)
                    obtain ⟨rfl, hq458, ho460, ⟨g462, ho461, hi463⟩, ho464⟩ := hw456
                    have hP := hP.trans hq458 (by intro g h; simp_all)
                    have hf465 := hq_rg hP.1 (hr_28 hR) ho461
                    obtain ⟨y466, ey467⟩ : ∃ y : Int32, y = i6 + (1) := ⟨_, rfl⟩
                    obtain ⟨k468, hk469, b470, b471⟩ := hq_add (i6) (1)
                    rw [← ey467] at hk469 b470 b471
                    have hk469 : (y466).toInt = (i6).toInt + (1) + k468 * 4294967296 := hk469
                    refine lv_iinc (v := y466) (lv' := [(6, .int (y466)), (5, .int (r266)), (4, .int (r257)), (0, .ref (mo)), (1, .int (v)), (2, .int (te)), (3, .int (pe))]) hx hb dX13_simple_205 hl (k := 0) rfl (by rw [ey467]; rfl) (by decide) rfl (fun ls hl => ?_)
                    refine lv_goto (tgt := 185) hx hb dX13_simple_208 (by decide) ?_
                    exact ih185 _ (by omega) _ _ _ ls (y466) (g462) rfl hZ hP ho460 ho461 ho464 (by omega) (by omega) (by omega) (lv_sub hl [0, 1, 2, 3, 4, 5, 6] rfl)
              · have c308 : (r289).toInt = (0 : Int) := hq_eqi.mp c308
                have fx472 : V286 (q + 28) = some (.inl (cs 1, 4, .inl (ff9))) := (hq290.2 (q + 28) _ (hr_28 hR) rfl).trans ((hq267.2 (q + 28) _ (hr_28 hR) rfl).trans ((hq258.2 (q + 28) _ (hr_28 hR) rfl).trans (ho19)))
                have fx473 : V286 (q + 30) = some (.inl (cs 1, 4, .inl (fr9))) := (hq290.2 (q + 30) _ (hr_30 hR) rfl).trans ((hq267.2 (q + 30) _ (hr_30 hR) rfl).trans ((hq258.2 (q + 30) _ (hr_30 hR) rfl).trans (ho21)))
                exact hp_vret hx hb hr hlocks hZ ⟨rfl, hP, ⟨fo9, z292, ho293, by omega, by omega, hm_S2.of fx472 fx473 (by omega) hvs⟩, ho297, ho299, ho301, ho303, ⟨ff9, fx472⟩, ⟨fr9, fx473⟩⟩ dX13_simple_177
        · have c253 : ¬ (2 : Int) ≤ (fo9).toInt := fun h9 => c253 (hq_lei.mpr h9)
          refine lv_aload_n hx hb dX13_simple_40 rfl (lv_at hl 1 rfl) ?_
          refine hp_get (v := .ref (q + 10)) hx hb hts hown hZ ho17 fl_X13_29 rfl dX13_simple_41 ?_
          refine lv_iload hx hb dX13_simple_44 (lv_at hl 0 rfl) ?_
          have fx474 : V9 (q + 10) = some (.inl (cs 1, 120, .inl (fk))) := (hP_21.2 (q + 10) _ (hr_10 hR) rfl).trans (ho_fk)
          refine hp_iald hx hb hZ fx474 (hq_in (by omega) (by omega)) dX13_simple_46 ?_
          refine lv_topi (fun y475 ey476 => ?_)
          have b478 : (y475).toInt = ((fk) (i : Int32).toNatClampNeg).toInt := by rw [ey476]
          have b477 := hq_rng y475
          refine lv_iconst (v := 4) hx hb dX13_simple_47 (by decide) ?_
          refine lv_icmp_ne (tgt := 124) hx hb dX13_simple_48 (by decide) (fun c479 => ?_) (fun c479 => ?_)
          · have c479 : ¬ (y475).toInt = (4 : Int) := fun h9 => c479 (hq_eqi.mpr h9)
            obtain ⟨y480, ey481⟩ : ∃ y : Int32, y = i + (1) := ⟨_, rfl⟩
            obtain ⟨k482, hk483, b484, b485⟩ := hq_add (i) (1)
            rw [← ey481] at hk483 b484 b485
            have hk483 : (y480).toInt = (i).toInt + (1) + k482 * 4294967296 := hk483
            refine lv_iinc (v := y480) (lv' := [(4, .int (y480)), (0, .ref (mo)), (1, .int (v)), (2, .int (te)), (3, .int (pe))]) hx hb dX13_simple_124 hl (k := 0) rfl (by rw [ey481]; rfl) (by decide) rfl (fun ls hl => ?_)
            refine lv_goto (tgt := 21) hx hb dX13_simple_127 (by decide) ?_
            exact ih21 _ (by omega) _ _ _ ls (y480) (fo9) (ff9) (fr9) rfl hZ hP ho17 ho19 ho21 (by omega) (by omega) (by omega) (hvs) (lv_sub hl [0, 1, 2, 3, 4] rfl)
          · have c479 : (y475).toInt = (4 : Int) := hq_eqi.mp c479
            refine lv_aload_n hx hb dX13_simple_51 rfl (lv_at hl 1 rfl) ?_
            refine lv_iload hx hb dX13_simple_52 (lv_at hl 0 rfl) ?_
            refine lv_iload_n hx hb dX13_simple_54 rfl (lv_at hl 2 rfl) ?_
            refine lv_iload_n hx hb dX13_simple_55 rfl (lv_at hl 3 rfl) ?_
            refine lv_iload_n hx hb dX13_simple_56 rfl (lv_at hl 4 rfl) ?_
            refine hp_calli (hp_runV (As := [.int (i), .int (v), .int (te), .int (pe)]) (rest := []) hx hb hml hown hts (t_X13_fits l D cs B G  V9 n hP.1 q hR (mo) h_mo (i) (v) (te) (pe) ho17  (by omega) (by omega) (by omega) (by omega) (by omega) (by omega) (by omega) (by omega) (by omega) (by omega) (by omega) (by omega)) hZ ho17 cv_X13_327 rfl rfl ⟨Nat.le_of_ble_eq_true rfl, Nat.le_of_ble_eq_true rfl⟩ rfl hl.1 rfl (Nat.le_of_ble_eq_true rfl) dX13_simple_57 ⟨(Nat.le_of_ble_eq_true rfl), (Nat.le_of_ble_eq_true rfl)⟩) hZ (fun r489 V486 n487 _ _ hw488 hZ => ?_)
            obtain ⟨rfl, hq490, ho492, hr491⟩ := hw488
            have hP := hP.trans hq490 (fun _ _ => rfl)
            have b493 := hq_rng r489
            refine lv_if_ne (tgt := 66) hx hb dX13_simple_60 (by decide) (fun c494 => ?_) (fun c494 => ?_)
            · have c494 : ¬ (r489).toInt = (0 : Int) := fun h9 => c494 (hq_eqi.mpr h9)
              refine lv_aload_n hx hb dX13_simple_66 rfl (lv_at hl 1 rfl) ?_
              have fx502 : V486 (q + 28) = some (.inl (cs 1, 4, .inl (ff9))) := (hq490.2 (q + 28) _ (hr_28 hR) rfl).trans (ho19)
              have fx506 : V486 (q + 30) = some (.inl (cs 1, 4, .inl (fr9))) := (hq490.2 (q + 30) _ (hr_30 hR) rfl).trans (ho21)
              refine hp_callv (hp_runV (As := []) (rest := []) hx hb hml hown hts (t_X13_beginForm l D cs B G  V486 n hP.1 q hR (mo) h_mo ho492  (by omega) (by omega) (by omega) (by omega) (by omega) (by omega) (by omega) (by omega) fx502 fx506 (by omega)) hZ ho492 cv_X13_351 rfl rfl ⟨Nat.le_of_ble_eq_true rfl, Nat.le_of_ble_eq_true rfl⟩ rfl hl.1 rfl (Nat.le_of_ble_eq_true rfl) dX13_simple_67 ⟨(Nat.le_of_ble_eq_true rfl), (Nat.le_of_ble_eq_true rfl)⟩) hZ (fun V495 n496 _ _ hw497 hZ => ?_)
              obtain ⟨rfl, hq499, ho501, ⟨g504, ho503, hi505⟩, ⟨g508, ho507, hi509⟩⟩ := hw497
              have hP := hP.trans hq499 (by intro g h; simp_all)
              have hf510 := hq_rg hP.1 (hr_28 hR) ho503
              have hf511 := hq_rg hP.1 (hr_30 hR) ho507
              refine lv_iconst (v := 0) hx hb dX13_simple_70 (by decide) ?_
              refine lv_istore (lv' := [(5, .int (0)), (4, .int (i)), (0, .ref (mo)), (1, .int (v)), (2, .int (te)), (3, .int (pe))]) hx hb dX13_simple_71 hl (by decide) rfl (fun ls hl => ?_)
              have hl512 : (0 : Int32).toInt = 0 := by decide
              suffices lp73 : ∀ (k9 : Nat) (V9 : hp_V) (H9 : Heap) (locs9 : List Loc) (ls : Array Slot) (i5 : Int32) (ff8 : Nat → Int32), (100 - i5.toInt).toNat = k9 → hp_Z D cs B s V9 H9 n locs9 → hq_P cs G (fun g => g.1 == 1 || g.1 == 43 || g.1 == 44) V V9 → V9 (mo) = some (.inr (13, hm_o q (m_tp) (m_sz) (m_fr) (m_bh) (m_hd) (m_ft) (m_fa) (m_le) (fo9) (m_as) (m_fd) (m_bc) (m_bg) (m_bs) (m_be) (m_b0) (m_b1) (m_cm) (m_hc))) → V9 (q + 28) = some (.inl (cs 1, 4, .inl (ff8))) → V9 (q + 30) = some (.inl (cs 1, 4, .inl (g508))) → 0 ≤ i5.toInt → i5.toInt ≤ 8 → (ff8 fo9.toNatClampNeg).toInt = i5.toInt → (∀ j, j ≠ fo9.toNatClampNeg → ff8 j = g504 j) → lv_has ls 7 [(5, .int (i5)), (4, .int (i)), (0, .ref (mo)), (1, .int (v)), (2, .int (te)), (3, .int (pe))] → W p l e ({ frames := 4, cells := 0, slots := 0, locals := 95 }) s m ([.ref (mo), .int (v), .int (te), .int (pe)] : List Value).toArray below meth c H9 locs9 0 0 (MQ below (hp_QV D cs B (fun V' n' => n = n' ∧ hq_P cs G (fun g => g.1 == 1 || g.1 == 43 || g.1 == 44) V V' ∧ (∃ (m_fo1 : Int32) (m_le1 : Int32), V' mo = some (.inr (13, hm_o q (m_tp) (m_sz) (m_fr) (m_bh) (m_hd) (m_ft) (m_fa) (m_le1) (m_fo1) (m_as) (m_fd) (m_bc) (m_bg) (m_bs) (m_be) (m_b0) (m_b1) (m_cm) (m_hc))) ∧ (0 ≤ m_le1.toInt ∧ m_le1.toInt ≤ 276) ∧ (0 ≤ m_fo1.toInt ∧ m_fo1.toInt ≤ 4) ∧ (hm_S2 V' q m_fo1)) ∧ (V' (q + 14) = some (.inl (cs 1, 120, .inl (fs)))) ∧ (V' (q + 15) = some (.inl (cs 1, 120, .inl (ss)))) ∧ (V' (q + 10) = some (.inl (cs 1, 120, .inl (fk)))) ∧ (V' (q + 2) = some (.inl (cs 1, 2, .inl (fl)))) ∧ (∃ ff1 : Nat → Int32, V' (q + 28) = some (.inl (cs 1, 4, .inl (ff1)))) ∧ (∃ fr1 : Nat → Int32, V' (q + 30) = some (.inl (cs 1, 4, .inl (fr1)))))) ([.ref (mo), .int (v), .int (te), .int (pe)] : List Value).toArray s 0 0 (hp_F B)) (F0 m 73 ls []) from lp73 _ _ _ _ ls (0) (g504) rfl hZ hP ho501 ho503 ho507 (by omega) (by omega) (by omega) (fun _ _ => rfl) (lv_sub hl [0, 1, 2, 3, 4, 5] rfl)
              intro k9
              induction k9 using Nat.strongRecOn with
              | _ k9 ih73 =>
                intro V9 H9 locs9 ls i5 ff8 hk73 hZ hP ho513 ho514 ho515 hv516 hv517 hv518 hvj hl
                have hb_i5 := hq_rng i5
                have hP_73 := hP
                have hf519 := hq_rg hP.1 (hr_28 hR) ho514
                have hf520 := hq_rg hP.1 (hr_30 hR) ho515
                refine lv_iload hx hb dX13_simple_73 (lv_at hl 0 rfl) ?_
                refine lv_aload_n hx hb dX13_simple_75 rfl (lv_at hl 2 rfl) ?_
                refine hp_get (v := .ref (q + 14)) hx hb hts hown hZ ho513 fl_X13_41 rfl dX13_simple_76 ?_
                refine lv_iload hx hb dX13_simple_79 (lv_at hl 1 rfl) ?_
                have fx521 : V9 (q + 14) = some (.inl (cs 1, 120, .inl (fs))) := (hP_73.2 (q + 14) _ (hr_14 hR) rfl).trans (ho_fs)
                refine hp_iald hx hb hZ fx521 (hq_in (by omega) (by omega)) dX13_simple_81 ?_
                refine lv_topi (fun y522 ey523 => ?_)
                have b525 : (y522).toInt = ((fs) (i : Int32).toNatClampNeg).toInt := by rw [ey523]
                have b524 : hq_ir (hq_lo 1) (hq_hi 1) y522 := by rw [ey523]; exact hf_fs _ (hq_ix (by omega) (by omega))
                have b524 : 0 ≤ (y522).toInt ∧ (y522).toInt ≤ 8 := b524
                refine lv_icmp_ge (tgt := 108) hx hb dX13_simple_82 (by decide) (fun c526 => ?_) (fun c526 => ?_)
                · have c526 : (y522).toInt ≤ (i5).toInt := hq_lei.mp c526
                  refine lv_aload_n hx hb dX13_simple_108 rfl (lv_at hl 2 rfl) ?_
                  refine lv_iload hx hb dX13_simple_109 (lv_at hl 1 rfl) ?_
                  refine hp_callv (hp_runV (As := [.int (i)]) (rest := []) hx hb hml hown hts (t_X13_note l D cs B G  V9 n hP.1 q hR (mo) h_mo (i) ho513  (by omega) (by omega) (by omega) (by omega) (by omega) (by omega) (by omega) (by omega) ho514 ho515 (by omega) (by omega) (by omega) (by omega)) hZ ho513 cv_X13_357 rfl rfl ⟨Nat.le_of_ble_eq_true rfl, Nat.le_of_ble_eq_true rfl⟩ rfl hl.1 rfl (Nat.le_of_ble_eq_true rfl) dX13_simple_111 ⟨(Nat.le_of_ble_eq_true rfl), (Nat.le_of_ble_eq_true rfl)⟩) hZ (fun V527 n528 _ _ hw529 hZ => ?_)
                  obtain ⟨rfl, hq531, ho533, ho534, ⟨g536, ho535, hi537⟩⟩ := hw529
                  have hP := hP.trans hq531 (by intro g h; simp_all)
                  have hf538 := hq_rg hP.1 (hr_30 hR) ho535
                  refine lv_aload_n hx hb dX13_simple_114 rfl (lv_at hl 2 rfl) ?_
                  refine lv_dup hx hb dX13_simple_115 rfl ?_
                  refine hp_get (v := .int (fo9)) hx hb hts hown hZ ho533 fl_X13_344 rfl dX13_simple_116 ?_
                  refine lv_iconst (v := 1) hx hb dX13_simple_119 (by decide) ?_
                  refine lv_iadd hx hb dX13_simple_120 ?_
                  refine lv_topi (fun y539 ey540 => ?_)
                  obtain ⟨k541, hk542, b543, b544⟩ := hq_add (fo9) (1)
                  rw [← ey540] at hk542 b543 b544
                  have hk542 : (y539).toInt = (fo9).toInt + (1 : Int) + k541 * 4294967296 := hk542
                  obtain rfl : k541 = 0 := by omega
                  refine hp_put hx hb hts hown hZ ho533 fp_X13_344 rfl rfl (Nat.le_of_ble_eq_true rfl) dX13_simple_121 (fun V545 _ _ e546 o547 hZ => ?_)
                  have e546 : V545 (mo) = some (.inr (13, hm_o q (m_tp) (m_sz) (m_fr) (m_bh) (m_hd) (m_ft) (m_fa) (m_le) (y539) (m_as) (m_fd) (m_bc) (m_bg) (m_bs) (m_be) (m_b0) (m_b1) (m_cm) (m_hc))) := e546
                  have hP := hP.put h_mo e546 o547 (trivial) rfl
                  obtain ⟨y548, ey549⟩ : ∃ y : Int32, y = i + (1) := ⟨_, rfl⟩
                  obtain ⟨k550, hk551, b552, b553⟩ := hq_add (i) (1)
                  rw [← ey549] at hk551 b552 b553
                  have hk551 : (y548).toInt = (i).toInt + (1) + k550 * 4294967296 := hk551
                  refine lv_iinc (v := y548) (lv' := [(4, .int (y548)), (5, .int (i5)), (0, .ref (mo)), (1, .int (v)), (2, .int (te)), (3, .int (pe))]) hx hb dX13_simple_124 hl (k := 1) rfl (by rw [ey549]; rfl) (by decide) rfl (fun ls hl => ?_)
                  refine lv_goto (tgt := 21) hx hb dX13_simple_127 (by decide) ?_
                  have fx554 : V545 (q + 28) = some (.inl (cs 1, 4, .inl (ff8))) := (o547 (q + 28) (hq_tne (hr_28 hR) h_mo (by simp))).trans (ho534)
                  have fx555 : V545 (q + 30) = some (.inl (cs 1, 4, .inl (g536))) := (o547 (q + 30) (hq_tne (hr_30 hR) h_mo (by simp))).trans (ho535)
                  exact ih21 _ (by omega) _ _ _ ls (y548) (y539) (ff8) (g536) rfl hZ hP e546 fx554 fx555 (by omega) (by omega) (by omega) (hm_S1.step hvs (by omega) (hm_tr hi505.2 hvj) (hm_tr hi509.2 hi537.2) (by omega) (by omega) (by omega)) (lv_sub hl [0, 2, 3, 4, 5] rfl)
                · have c526 : ¬ (y522).toInt ≤ (i5).toInt := fun h9 => c526 (hq_lei.mpr h9)
                  refine lv_aload_n hx hb dX13_simple_85 rfl (lv_at hl 2 rfl) ?_
                  refine lv_aload_n hx hb dX13_simple_86 rfl (lv_at hl 2 rfl) ?_
                  refine hp_get (v := .ref (q + 5)) hx hb hts hown hZ ho513 fl_X13_23 rfl dX13_simple_87 ?_
                  refine lv_bipush (v := 8) hx hb dX13_simple_90 (by decide) ?_
                  refine lv_iload hx hb dX13_simple_92 (lv_at hl 1 rfl) ?_
                  refine lv_imul hx hb dX13_simple_94 ?_
                  refine lv_topi (fun y556 ey557 => ?_)
                  obtain ⟨k558, hk559, b560, b561⟩ := hq_mul (8) (i)
                  rw [← ey557] at hk559 b560 b561
                  have hk559 : (y556).toInt = (8 : Int) * (i).toInt + k558 * 4294967296 := hk559
                  obtain rfl : k558 = 0 := by omega
                  refine lv_iload hx hb dX13_simple_95 (lv_at hl 0 rfl) ?_
                  refine lv_iadd hx hb dX13_simple_97 ?_
                  refine lv_topi (fun y562 ey563 => ?_)
                  obtain ⟨k564, hk565, b566, b567⟩ := hq_add (y556) (i5)
                  rw [← ey563] at hk565 b566 b567
                  have hk565 : (y562).toInt = (y556).toInt + (i5).toInt + k564 * 4294967296 := hk565
                  obtain rfl : k564 = 0 := by omega
                  obtain ⟨hN570, g569, eV568⟩ := hq_o20 hP.1 (hr_5 hR)
                  refine hp_bald hx hb hZ eV568 (hq_in (by omega) (by omega)) dX13_simple_98 ?_
                  refine lv_topi (fun y572 ey573 => ?_)
                  have b575 : (y572).toInt = ((g569) (y562 : Int32).toNatClampNeg).toInt := by rw [ey573]
                  have b574 := hq_rng y572
                  refine hp_callv (hp_runV (As := [.int (y572)]) (rest := []) hx hb hml hown hts (t_X13_say l D cs B G  V9 n hP.1 q hR (mo) h_mo (y572) ho513  (by omega) (by omega) (by omega) (by omega) (by omega) (by omega) (by omega) (by omega) ho514 ho515 (by omega) (by omega)) hZ ho513 cv_X13_354 rfl rfl ⟨Nat.le_of_ble_eq_true rfl, Nat.le_of_ble_eq_true rfl⟩ rfl hl.1 rfl (Nat.le_of_ble_eq_true rfl) dX13_simple_99 ⟨(Nat.le_of_ble_eq_true rfl), (Nat.le_of_ble_eq_true rfl)⟩) hZ (fun V576 n577 _ _ hw578 hZ => ?_)
                  obtain ⟨rfl, hq580, ho582, ⟨g584, ho583, hi585⟩, ho586⟩ := hw578
                  have hP := hP.trans hq580 (by intro g h; simp_all)
                  have hf587 := hq_rg hP.1 (hr_28 hR) ho583
                  obtain ⟨y588, ey589⟩ : ∃ y : Int32, y = i5 + (1) := ⟨_, rfl⟩
                  obtain ⟨k590, hk591, b592, b593⟩ := hq_add (i5) (1)
                  rw [← ey589] at hk591 b592 b593
                  have hk591 : (y588).toInt = (i5).toInt + (1) + k590 * 4294967296 := hk591
                  refine lv_iinc (v := y588) (lv' := [(5, .int (y588)), (4, .int (i)), (0, .ref (mo)), (1, .int (v)), (2, .int (te)), (3, .int (pe))]) hx hb dX13_simple_102 hl (k := 0) rfl (by rw [ey589]; rfl) (by decide) rfl (fun ls hl => ?_)
                  refine lv_goto (tgt := 73) hx hb dX13_simple_105 (by decide) ?_
                  exact ih73 _ (by omega) _ _ _ ls (y588) (g584) rfl hZ hP ho582 ho583 ho586 (by omega) (by omega) (by omega) (hm_tr hvj hi585.2) (lv_sub hl [0, 1, 2, 3, 4, 5] rfl)
            · have c494 : (r489).toInt = (0 : Int) := hq_eqi.mp c494
              refine lv_goto (tgt := 124) hx hb dX13_simple_63 (by decide) ?_
              obtain ⟨y594, ey595⟩ : ∃ y : Int32, y = i + (1) := ⟨_, rfl⟩
              obtain ⟨k596, hk597, b598, b599⟩ := hq_add (i) (1)
              rw [← ey595] at hk597 b598 b599
              have hk597 : (y594).toInt = (i).toInt + (1) + k596 * 4294967296 := hk597
              refine lv_iinc (v := y594) (lv' := [(4, .int (y594)), (0, .ref (mo)), (1, .int (v)), (2, .int (te)), (3, .int (pe))]) hx hb dX13_simple_124 hl (k := 0) rfl (by rw [ey595]; rfl) (by decide) rfl (fun ls hl => ?_)
              refine lv_goto (tgt := 21) hx hb dX13_simple_127 (by decide) ?_
              have fx600 : V486 (q + 28) = some (.inl (cs 1, 4, .inl (ff9))) := (hq490.2 (q + 28) _ (hr_28 hR) rfl).trans (ho19)
              have fx601 : V486 (q + 30) = some (.inl (cs 1, 4, .inl (fr9))) := (hq490.2 (q + 30) _ (hr_30 hR) rfl).trans (ho21)
              exact ih21 _ (by omega) _ _ _ ls (y594) (fo9) (ff9) (fr9) rfl hZ hP ho492 fx600 fx601 (by omega) (by omega) (by omega) (hvs) (lv_sub hl [0, 1, 2, 3, 4] rfl)
  · have c14 : ¬ (r7).toInt = (-1 : Int) := fun h9 => c14 (hq_eqi.mpr h9)
    have hl602 : (0 : Int32).toInt = 0 := by decide
    have fx603 : V4 (q + 28) = some (.inl (cs 1, 4, .inl (ff))) := (hq8.2 (q + 28) _ (hr_28 hR) rfl).trans ((o3 (q + 28) (hq_tne (hr_28 hR) h_mo (by simp))).trans (ho_ff))
    have fx604 : V4 (q + 30) = some (.inl (cs 1, 4, .inl (fr))) := (hq8.2 (q + 30) _ (hr_30 hR) rfl).trans ((o3 (q + 30) (hq_tne (hr_30 hR) h_mo (by simp))).trans (ho_fr))
    have fx605 : V4 (q + 14) = some (.inl (cs 1, 120, .inl (fs))) := (hq8.2 (q + 14) _ (hr_14 hR) rfl).trans ((o3 (q + 14) (hq_tne (hr_14 hR) h_mo (by simp))).trans (ho_fs))
    have fx606 : V4 (q + 15) = some (.inl (cs 1, 120, .inl (ss))) := (hq8.2 (q + 15) _ (hr_15 hR) rfl).trans ((o3 (q + 15) (hq_tne (hr_15 hR) h_mo (by simp))).trans (ho_ss))
    have fx607 : V4 (q + 10) = some (.inl (cs 1, 120, .inl (fk))) := (hq8.2 (q + 10) _ (hr_10 hR) rfl).trans ((o3 (q + 10) (hq_tne (hr_10 hR) h_mo (by simp))).trans (ho_fk))
    have fx608 : V4 (q + 2) = some (.inl (cs 1, 2, .inl (fl))) := (hq8.2 (q + 2) _ (hr_2 hR) rfl).trans ((o3 (q + 2) (hq_tne (hr_2 hR) h_mo (by simp))).trans (ho_fl))
    exact hp_vret hx hb hr hlocks hZ ⟨rfl, hP, ⟨0, m_le, ho11, by omega, by omega, hm_S2.of fx603 fx604 (by decide) (hm_S1.zero (by decide))⟩, fx605, fx606, fx607, fx608, ⟨ff, fx603⟩, ⟨fr, fx604⟩⟩ dX13_simple_17

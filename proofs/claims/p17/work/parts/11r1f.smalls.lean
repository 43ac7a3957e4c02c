set_option maxHeartbeats 4000000 in
set_option maxRecDepth 100000 in
theorem y_isPl (l : Launch) (D : va_G) (cs : Nat → ClassId) (B : Nat) (G : hq_G) (V : hp_V) (n : Nat) (hI : hq_I cs G V) (q : Nat) (mo : Nat) (rh : hm_Rh) (m_tp : Int32) (m_sz : Int32) (m_fr : Int32) (m_bh : Int32) (m_hd : Int32) (m_ft : Int32) (m_fa : Int32) (m_le : Int32) (m_fo : Int32) (m_as : Int32) (m_fd : Int32) (m_bc : Int32) (m_bg : Int32) (m_bs : Int32) (m_be : Int32) (m_b0 : Int32) (m_b1 : Int32) (m_cm : Int32) (m_hc : Int32) (v : Int32) (te : Int32) (pe : Int32) (hc0 : V (mo) = some (.inr (13, hm_o q (m_tp) (m_sz) (m_fr) (m_bh) (m_hd) (m_ft) (m_fa) (m_le) (m_fo) (m_as) (m_fd) (m_bc) (m_bg) (m_bs) (m_be) (m_b0) (m_b1) (m_cm) (m_hc)))) (hp0 : hm_AR cs V q rh) (hR : hq_RT G q) (hmo : G mo = some (24, 0, 0, 0)) : hp_M l yX13_isPlace cX13_isPlace 4 (some .boolean) ({ frames := 3, cells := 0, slots := 0, locals := 67 }) D cs B V n [.ref (mo), .int (v), .int (te), .int (pe)] (hp_QI D cs B (fun r V' n' => n = n' ∧ V = V' ∧ ((r.toInt = 1 ∧ (0 ≤ v.toInt ∧ v.toInt < (rh 1 0).toInt ∧ 0 ≤ te.toInt ∧ te.toInt < 5 ∧ 0 ≤ pe.toInt ∧ pe.toInt < 6)) ∨ (r.toInt = 0 ∧ ¬ (0 ≤ v.toInt ∧ v.toInt < (rh 1 0).toInt ∧ 0 ≤ te.toInt ∧ te.toInt < 5 ∧ 0 ≤ pe.toInt ∧ pe.toInt < 6))))) 0 0 := by
  refine hp_walk (R0 := RX13) (by decide) rfl ?_ (Nat.le_of_ble_eq_true rfl)
  intro p e s m below meth c ls hx hb hr hts hown hlocks hin hml hZ hl
  have hP : hq_I cs G V := hI
  have hl : lv_has ls 4 [(0, .ref (mo)), (1, .int (v)), (2, .int (te)), (3, .int (pe))] := hl
  have hb_m_tp := hq_rng m_tp
  have hb_m_sz := hq_rng m_sz
  have hb_m_fr := hq_rng m_fr
  have hb_m_bh := hq_rng m_bh
  have hb_m_hd := hq_rng m_hd
  have hb_m_ft := hq_rng m_ft
  have hb_m_fa := hq_rng m_fa
  have hb_m_le := hq_rng m_le
  have hb_m_fo := hq_rng m_fo
  have hb_m_as := hq_rng m_as
  have hb_m_fd := hq_rng m_fd
  have hb_m_bc := hq_rng m_bc
  have hb_m_bg := hq_rng m_bg
  have hb_m_bs := hq_rng m_bs
  have hb_m_be := hq_rng m_be
  have hb_m_b0 := hq_rng m_b0
  have hb_m_b1 := hq_rng m_b1
  have hb_m_cm := hq_rng m_cm
  have hb_m_hc := hq_rng m_hc
  have hb_v := hq_rng v
  have hb_te := hq_rng te
  have hb_pe := hq_rng pe
  have hL0 : (0 : Int64).toInt = 0 := by decide
  have hL1 : (1 : Int64).toInt = 1 := by decide
  have hL4 : (4 : Int64).toInt = 4 := by decide
  have hL5 : (5 : Int64).toInt = 5 := by decide
  have hL7 : (7 : Int64).toInt = 7 := by decide
  have hL9 : (9 : Int64).toInt = 9 := by decide
  have hL10 : (10 : Int64).toInt = 10 := by decide
  have hL19 : (19 : Int64).toInt = 19 := by decide
  have hL20 : (20 : Int64).toInt = 20 := by decide
  have hL29 : (29 : Int64).toInt = 29 := by decide
  have hL30 : (30 : Int64).toInt = 30 := by decide
  refine lv_aload_n hx hb dX13_isPlace_0 rfl (lv_at hl 0 rfl) ?_
  refine lv_iload_n hx hb dX13_isPlace_1 rfl (lv_at hl 1 rfl) ?_
  refine hp_calli (hp_runV (As := [.int (v)]) (rest := []) hx hb hml hown hts (y_isVerb l D cs B G V n hP (q) (mo) (rh) (m_tp) (m_sz) (m_fr) (m_bh) (m_hd) (m_ft) (m_fa) (m_le) (m_fo) (m_as) (m_fd) (m_bc) (m_bg) (m_bs) (m_be) (m_b0) (m_b1) (m_cm) (m_hc) (v)  hc0 hp0 hR hmo) hZ hc0 cv_X13_317 rfl rfl ⟨Nat.le_of_ble_eq_true rfl, Nat.le_of_ble_eq_true rfl⟩ rfl hl.1 rfl (Nat.le_of_ble_eq_true rfl) dX13_isPlace_2 ⟨(Nat.le_of_ble_eq_true rfl), (Nat.le_of_ble_eq_true rfl)⟩) hZ (fun r4 V1 n2 _ _ hw3 hZ => ?_)
  obtain ⟨rfl, rfl, hp7⟩ := hw3
  have b8 := hq_rng r4
  refine lv_if_eq (tgt := 36) hx hb dX13_isPlace_5 (by decide) (fun c9 => ?_) (fun c9 => ?_)
  · have c9 : (r4).toInt = (0 : Int) := hq_eqi.mp c9
    refine lv_iconst (v := 0) hx hb dX13_isPlace_36 (by decide) ?_
    have hl10 : (0 : Int32).toInt = 0 := by decide
    exact hp_zret hx hb hr rfl hlocks hZ ⟨rfl, rfl, (by omega)⟩ dX13_isPlace_37
  · have c9 : ¬ (r4).toInt = (0 : Int) := fun h9 => c9 (hq_eqi.mpr h9)
    refine lv_iload_n hx hb dX13_isPlace_8 rfl (lv_at hl 2 rfl) ?_
    refine lv_i2l (v := (te).toInt64) hx hb dX13_isPlace_9 rfl ?_
    refine lv_topl (fun y11 ey12 => ?_)
    have b13 : (y11).toInt = (te).toInt := by rw [ey12]; exact hm_i2l _
    refine lv_lconst (v := 0) hx hb dX13_isPlace_10 (by decide) ?_
    refine lv_ldc2 (v := 4) hx hb hown (hts _ k64_X13_376) dX13_isPlace_11 ?_
    refine hp_calli (hp_runS (As := [.long (y11), .long (0), .long (4)]) (rest := []) hx hb hml hown hts (y_in l D cs B G V n hP (y11) (0) (4)    ) hZ cv_X13_301 rfl rfl ⟨Nat.le_of_ble_eq_true rfl, Nat.le_of_ble_eq_true rfl⟩ rfl hl.1 rfl (Nat.le_of_ble_eq_true rfl) dX13_isPlace_14 ⟨(Nat.le_of_ble_eq_true rfl), (Nat.le_of_ble_eq_true rfl)⟩) hZ (fun r17 V14 n15 _ _ hw16 hZ => ?_)
    obtain ⟨rfl, rfl, hp20⟩ := hw16
    have b21 := hq_rng r17
    refine lv_if_eq (tgt := 36) hx hb dX13_isPlace_17 (by decide) (fun c22 => ?_) (fun c22 => ?_)
    · have c22 : (r17).toInt = (0 : Int) := hq_eqi.mp c22
      refine lv_iconst (v := 0) hx hb dX13_isPlace_36 (by decide) ?_
      have hl23 : (0 : Int32).toInt = 0 := by decide
      exact hp_zret hx hb hr rfl hlocks hZ ⟨rfl, rfl, (by omega)⟩ dX13_isPlace_37
    · have c22 : ¬ (r17).toInt = (0 : Int) := fun h9 => c22 (hq_eqi.mpr h9)
      refine lv_iload_n hx hb dX13_isPlace_20 rfl (lv_at hl 3 rfl) ?_
      refine lv_i2l (v := (pe).toInt64) hx hb dX13_isPlace_21 rfl ?_
      refine lv_topl (fun y24 ey25 => ?_)
      have b26 : (y24).toInt = (pe).toInt := by rw [ey25]; exact hm_i2l _
      refine lv_lconst (v := 0) hx hb dX13_isPlace_22 (by decide) ?_
      refine lv_ldc2 (v := 5) hx hb hown (hts _ k64_X13_378) dX13_isPlace_23 ?_
      refine hp_calli (hp_runS (As := [.long (y24), .long (0), .long (5)]) (rest := []) hx hb hml hown hts (y_in l D cs B G V n hP (y24) (0) (5)    ) hZ cv_X13_301 rfl rfl ⟨Nat.le_of_ble_eq_true rfl, Nat.le_of_ble_eq_true rfl⟩ rfl hl.1 rfl (Nat.le_of_ble_eq_true rfl) dX13_isPlace_26 ⟨(Nat.le_of_ble_eq_true rfl), (Nat.le_of_ble_eq_true rfl)⟩) hZ (fun r30 V27 n28 _ _ hw29 hZ => ?_)
      obtain ⟨rfl, rfl, hp33⟩ := hw29
      have b34 := hq_rng r30
      refine lv_if_eq (tgt := 36) hx hb dX13_isPlace_29 (by decide) (fun c35 => ?_) (fun c35 => ?_)
      · have c35 : (r30).toInt = (0 : Int) := hq_eqi.mp c35
        refine lv_iconst (v := 0) hx hb dX13_isPlace_36 (by decide) ?_
        have hl36 : (0 : Int32).toInt = 0 := by decide
        exact hp_zret hx hb hr rfl hlocks hZ ⟨rfl, rfl, (by omega)⟩ dX13_isPlace_37
      · have c35 : ¬ (r30).toInt = (0 : Int) := fun h9 => c35 (hq_eqi.mpr h9)
        refine lv_iconst (v := 1) hx hb dX13_isPlace_32 (by decide) ?_
        refine lv_goto (tgt := 37) hx hb dX13_isPlace_33 (by decide) ?_
        have hl37 : (1 : Int32).toInt = 1 := by decide
        exact hp_zret hx hb hr rfl hlocks hZ ⟨rfl, rfl, (by omega)⟩ dX13_isPlace_37

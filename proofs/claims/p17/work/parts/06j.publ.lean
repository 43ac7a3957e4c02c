set_option maxHeartbeats 4000000 in
set_option maxRecDepth 100000 in
theorem t_X13_end (l : Launch) (D : va_G) (cs : Nat → ClassId) (B : Nat) (G : hq_G) (V : hp_V) (n : Nat) (hI : hq_I cs G V) (q : Nat) (hR : hq_RT G q) (mo : Nat) (h_mo : G mo = some (24, 0, 0, 0)) (k : Int32) {m_tp m_sz m_fr m_bh m_hd m_ft m_fa m_le m_fo m_as m_fd m_bc m_bg m_bs m_be m_b0 m_b1 m_cm m_hc : Int32} (ho_mo : V mo = some (.inr (13, hm_o q (m_tp) (m_sz) (m_fr) (m_bh) (m_hd) (m_ft) (m_fa) (m_le) (m_fo) (m_as) (m_fd) (m_bc) (m_bg) (m_bs) (m_be) (m_b0) (m_b1) (m_cm) (m_hc)))) (hi_mo0 : 0 ≤ m_tp.toInt ∧ m_tp.toInt ≤ 4000) (hi_mo1 : 0 ≤ m_sz.toInt ∧ m_sz.toInt ≤ 4000) (hi_mo2 : 0 ≤ m_le.toInt ∧ m_le.toInt ≤ 276) (hi_mo3 : 0 ≤ m_fo.toInt ∧ m_fo.toInt ≤ 4) (hi_mo4 : 0 ≤ m_as.toInt ∧ m_as.toInt ≤ 4000) (hi_mo5 : 0 ≤ m_fd.toInt ∧ m_fd.toInt ≤ 900) (hi_mo6 : 0 ≤ m_cm.toInt ∧ m_cm.toInt ≤ 2) (hi_mo7 : 0 ≤ m_hc.toInt ∧ m_hc.toInt ≤ 1) : hp_M l yX13_end cX13_end 2 (some .int) ({ frames := 2, cells := 0, slots := 0, locals := 46 }) D cs B V n [.ref (mo), .int (k)] (hp_QI D cs B (fun r V' n' => n = n' ∧ hq_P cs G (fun g => g.1 == 1) V V' ∧ (∃ (m_tp1 : Int32), V' mo = some (.inr (13, hm_o q (m_tp1) (m_sz) (m_fr) (m_bh) (m_hd) (m_ft) (m_fa) (m_le) (m_fo) (m_as) (m_fd) (m_bc) (m_bg) (m_bs) (m_be) (m_b0) (m_b1) (m_cm) (m_hc))) ∧ (0 ≤ m_tp1.toInt ∧ m_tp1.toInt ≤ 4000) ∧ ((0 ≤ k.toInt ∧ k.toInt ≤ m_tp.toInt ∧ m_tp1.toInt = k.toInt ∧ r.toInt = k.toInt) ∨ (¬ (0 ≤ k.toInt ∧ k.toInt ≤ m_tp.toInt) ∧ m_tp1.toInt = m_tp.toInt ∧ r.toInt = -1))) ∧ True)) 0 0 := by
  refine hp_walk (R0 := RX13) (by decide) rfl ?_ (Nat.le_of_ble_eq_true rfl)
  intro p e s m below meth c ls hx hb hr hts hown hlocks hin hml hZ hl
  have hP : hq_P cs G (fun g => g.1 == 1) V V := hq_P.rf hI
  have hl : lv_has ls 2 [(0, .ref (mo)), (1, .int (k))] := hl
  have hb_k := hq_rng k
  have hb_m_tp := hq_rng m_tp
  have hb_m_sz := hq_rng m_sz
  have hb_m_fr := hq_rng m_fr
  have hb_m_bh := hq_rng m_bh
  have hb_m_hd := hq_rng m_hd
  have hb_m_ft := hq_rng m_ft
  have hb_m_fa := hq_rng m_fa
  have hb_m_le := hq_rng m_le
  have hb_m_fo := hq_rng m_fo
  have hb_m_as := hq_rng m_as
  have hb_m_fd := hq_rng m_fd
  have hb_m_bc := hq_rng m_bc
  have hb_m_bg := hq_rng m_bg
  have hb_m_bs := hq_rng m_bs
  have hb_m_be := hq_rng m_be
  have hb_m_b0 := hq_rng m_b0
  have hb_m_b1 := hq_rng m_b1
  have hb_m_cm := hq_rng m_cm
  have hb_m_hc := hq_rng m_hc
  refine lv_iload_n hx hb dX13_end_0 rfl (lv_at hl 1 rfl) ?_
  refine lv_i2l (v := (k).toInt64) hx hb dX13_end_1 rfl ?_
  refine lv_topl (fun y1 ey2 => ?_)
  have b3 : (y1).toInt = (k).toInt := by rw [ey2]; exact hm_i2l _
  refine lv_lconst (v := 0) hx hb dX13_end_2 (by decide) ?_
  refine lv_aload_n hx hb dX13_end_3 rfl (lv_at hl 0 rfl) ?_
  refine hp_get (v := .int (m_tp)) hx hb hts hown hZ ho_mo fl_X13_295 rfl dX13_end_4 ?_
  refine lv_i2l (v := (m_tp).toInt64) hx hb dX13_end_7 rfl ?_
  refine lv_topl (fun y4 ey5 => ?_)
  have b6 : (y4).toInt = (m_tp).toInt := by rw [ey5]; exact hm_i2l _
  have hl13 : (0 : Int64).toInt = 0 := by decide
  refine hp_calli (hp_runS (As := [.long (y1), .long (0), .long (y4)]) (rest := []) hx hb hml hown hts (t_X13_in l D cs B G  V n hP.1  (y1) (0) (y4) ) hZ cv_X13_301 rfl rfl ⟨Nat.le_of_ble_eq_true rfl, Nat.le_of_ble_eq_true rfl⟩ rfl hl.1 rfl (Nat.le_of_ble_eq_true rfl) dX13_end_8 ⟨(Nat.le_of_ble_eq_true rfl), (Nat.le_of_ble_eq_true rfl)⟩) hZ (fun r10 V7 n8 _ _ hw9 hZ => ?_)
  obtain ⟨rfl, hq11, hr12⟩ := hw9
  have hP := hP.trans hq11 (fun _ _ => rfl)
  have b14 := hq_rng r10
  refine lv_if_ne (tgt := 16) hx hb dX13_end_11 (by decide) (fun c15 => ?_) (fun c15 => ?_)
  · have c15 : ¬ (r10).toInt = (0 : Int) := fun h9 => c15 (hq_eqi.mpr h9)
    refine lv_aload_n hx hb dX13_end_16 rfl (lv_at hl 0 rfl) ?_
    refine lv_iload_n hx hb dX13_end_17 rfl (lv_at hl 1 rfl) ?_
    have fx16 : V7 (mo) = some (.inr (13, hm_o q (m_tp) (m_sz) (m_fr) (m_bh) (m_hd) (m_ft) (m_fa) (m_le) (m_fo) (m_as) (m_fd) (m_bc) (m_bg) (m_bs) (m_be) (m_b0) (m_b1) (m_cm) (m_hc))) := (hq11.2 (mo) _ h_mo rfl).trans (ho_mo)
    refine hp_put hx hb hts hown hZ fx16 fp_X13_295 rfl rfl (Nat.le_of_ble_eq_true rfl) dX13_end_18 (fun V17 _ _ e18 o19 hZ => ?_)
    have e18 : V17 (mo) = some (.inr (13, hm_o q (k) (m_sz) (m_fr) (m_bh) (m_hd) (m_ft) (m_fa) (m_le) (m_fo) (m_as) (m_fd) (m_bc) (m_bg) (m_bs) (m_be) (m_b0) (m_b1) (m_cm) (m_hc))) := e18
    have hP := hP.put h_mo e18 o19 (trivial) rfl
    refine lv_iload_n hx hb dX13_end_21 rfl (lv_at hl 1 rfl) ?_
    exact hp_iret hx hb hr hlocks hZ ⟨rfl, hP, ⟨k, e18, by omega, by have h9 : (-1 : Int32).toInt = -1 := (by decide); omega⟩, trivial⟩ dX13_end_22
  · have c15 : (r10).toInt = (0 : Int) := hq_eqi.mp c15
    refine lv_iconst (v := -1) hx hb dX13_end_14 (by decide) ?_
    have fx20 : V7 (mo) = some (.inr (13, hm_o q (m_tp) (m_sz) (m_fr) (m_bh) (m_hd) (m_ft) (m_fa) (m_le) (m_fo) (m_as) (m_fd) (m_bc) (m_bg) (m_bs) (m_be) (m_b0) (m_b1) (m_cm) (m_hc))) := (hq11.2 (mo) _ h_mo rfl).trans (ho_mo)
    exact hp_iret hx hb hr hlocks hZ ⟨rfl, hP, ⟨m_tp, fx20, by omega, by have h9 : (-1 : Int32).toInt = -1 := (by decide); omega⟩, trivial⟩ dX13_end_15

set_option maxHeartbeats 4000000 in
set_option maxRecDepth 100000 in
theorem t_X13_ask (l : Launch) (D : va_G) (cs : Nat → ClassId) (B : Nat) (G : hq_G) (V : hp_V) (n : Nat) (hI : hq_I cs G V) (q : Nat) (hR : hq_RT G q) (mo : Nat) (h_mo : G mo = some (24, 0, 0, 0)) {m_tp m_sz m_fr m_bh m_hd m_ft m_fa m_le m_fo m_as m_fd m_bc m_bg m_bs m_be m_b0 m_b1 m_cm m_hc : Int32} (ho_mo : V mo = some (.inr (13, hm_o q (m_tp) (m_sz) (m_fr) (m_bh) (m_hd) (m_ft) (m_fa) (m_le) (m_fo) (m_as) (m_fd) (m_bc) (m_bg) (m_bs) (m_be) (m_b0) (m_b1) (m_cm) (m_hc)))) (hi_mo0 : 0 ≤ m_tp.toInt ∧ m_tp.toInt ≤ 4000) (hi_mo1 : 0 ≤ m_sz.toInt ∧ m_sz.toInt ≤ 4000) (hi_mo2 : 0 ≤ m_le.toInt ∧ m_le.toInt ≤ 276) (hi_mo3 : 0 ≤ m_fo.toInt ∧ m_fo.toInt ≤ 4) (hi_mo4 : 0 ≤ m_as.toInt ∧ m_as.toInt ≤ 4000) (hi_mo5 : 0 ≤ m_fd.toInt ∧ m_fd.toInt ≤ 900) (hi_mo6 : 0 ≤ m_cm.toInt ∧ m_cm.toInt ≤ 2) (hi_mo7 : 0 ≤ m_hc.toInt ∧ m_hc.toInt ≤ 1) : hp_M l yX13_ask cX13_ask 2 none ({ frames := 1, cells := 0, slots := 0, locals := 21 }) D cs B V n [.ref (mo)] (hp_QV D cs B (fun V' n' => n = n' ∧ hq_P cs G (fun g => g.1 == 1 || g.1 == 46) V V' ∧ (∃ (m_tp1 : Int32) (m_as1 : Int32), V' mo = some (.inr (13, hm_o q (m_tp1) (m_sz) (m_fr) (m_bh) (m_hd) (m_ft) (m_fa) (m_le) (m_fo) (m_as1) (m_fd) (m_bc) (m_bg) (m_bs) (m_be) (m_b0) (m_b1) (m_cm) (m_hc))) ∧ (0 ≤ m_tp1.toInt ∧ m_tp1.toInt ≤ 4000) ∧ (0 ≤ m_as1.toInt ∧ m_as1.toInt ≤ 4000) ∧ (m_tp1.toInt = 0 ∧ m_as1.toInt = m_tp.toInt)))) 0 0 := by
  refine hp_walk (R0 := RX13) (by decide) rfl ?_ (Nat.le_of_ble_eq_true rfl)
  intro p e s m below meth c ls hx hb hr hts hown hlocks hin hml hZ hl
  have hP : hq_P cs G (fun g => g.1 == 1 || g.1 == 46) V V := hq_P.rf hI
  have hl : lv_has ls 2 [(0, .ref (mo))] := hl
  have hb_m_tp := hq_rng m_tp
  have hb_m_sz := hq_rng m_sz
  have hb_m_fr := hq_rng m_fr
  have hb_m_bh := hq_rng m_bh
  have hb_m_hd := hq_rng m_hd
  have hb_m_ft := hq_rng m_ft
  have hb_m_fa := hq_rng m_fa
  have hb_m_le := hq_rng m_le
  have hb_m_fo := hq_rng m_fo
  have hb_m_as := hq_rng m_as
  have hb_m_fd := hq_rng m_fd
  have hb_m_bc := hq_rng m_bc
  have hb_m_bg := hq_rng m_bg
  have hb_m_bs := hq_rng m_bs
  have hb_m_be := hq_rng m_be
  have hb_m_b0 := hq_rng m_b0
  have hb_m_b1 := hq_rng m_b1
  have hb_m_cm := hq_rng m_cm
  have hb_m_hc := hq_rng m_hc
  refine lv_aload_n hx hb dX13_ask_0 rfl (lv_at hl 0 rfl) ?_
  refine lv_aload_n hx hb dX13_ask_1 rfl (lv_at hl 0 rfl) ?_
  refine hp_get (v := .int (m_tp)) hx hb hts hown hZ ho_mo fl_X13_295 rfl dX13_ask_2 ?_
  refine hp_put hx hb hts hown hZ ho_mo fp_X13_389 rfl rfl (Nat.le_of_ble_eq_true rfl) dX13_ask_5 (fun V1 _ _ e2 o3 hZ => ?_)
  have e2 : V1 (mo) = some (.inr (13, hm_o q (m_tp) (m_sz) (m_fr) (m_bh) (m_hd) (m_ft) (m_fa) (m_le) (m_fo) (m_tp) (m_fd) (m_bc) (m_bg) (m_bs) (m_be) (m_b0) (m_b1) (m_cm) (m_hc))) := e2
  have hP := hP.put h_mo e2 o3 (trivial) rfl
  refine lv_aload_n hx hb dX13_ask_8 rfl (lv_at hl 0 rfl) ?_
  refine lv_iconst (v := 0) hx hb dX13_ask_9 (by decide) ?_
  refine hp_put hx hb hts hown hZ e2 fp_X13_295 rfl rfl (Nat.le_of_ble_eq_true rfl) dX13_ask_10 (fun V4 _ _ e5 o6 hZ => ?_)
  have e5 : V4 (mo) = some (.inr (13, hm_o q (0) (m_sz) (m_fr) (m_bh) (m_hd) (m_ft) (m_fa) (m_le) (m_fo) (m_tp) (m_fd) (m_bc) (m_bg) (m_bs) (m_be) (m_b0) (m_b1) (m_cm) (m_hc))) := e5
  have hP := hP.put h_mo e5 o6 (trivial) rfl
  refine lv_iconst (v := 0) hx hb dX13_ask_13 (by decide) ?_
  refine lv_istore_n (lv' := [(1, .int (0)), (0, .ref (mo))]) hx hb dX13_ask_14 rfl hl (by decide) rfl (fun ls hl => ?_)
  have hl7 : (0 : Int32).toInt = 0 := by decide
  suffices lp15 : ∀ (k9 : Nat) (V9 : hp_V) (H9 : Heap) (locs9 : List Loc) (ls : Array Slot) (i : Int32), (5000 - i.toInt).toNat = k9 → hp_Z D cs B s V9 H9 n locs9 → hq_P cs G (fun g => g.1 == 1 || g.1 == 46) V V9 → V9 (mo) = some (.inr (13, hm_o q (0) (m_sz) (m_fr) (m_bh) (m_hd) (m_ft) (m_fa) (m_le) (m_fo) (m_tp) (m_fd) (m_bc) (m_bg) (m_bs) (m_be) (m_b0) (m_b1) (m_cm) (m_hc))) → 0 ≤ i.toInt → i.toInt ≤ 4000 → lv_has ls 2 [(1, .int (i)), (0, .ref (mo))] → W p l e ({ frames := 1, cells := 0, slots := 0, locals := 21 }) s m ([.ref (mo)] : List Value).toArray below meth c H9 locs9 0 0 (MQ below (hp_QV D cs B (fun V' n' => n = n' ∧ hq_P cs G (fun g => g.1 == 1 || g.1 == 46) V V' ∧ (∃ (m_tp1 : Int32) (m_as1 : Int32), V' mo = some (.inr (13, hm_o q (m_tp1) (m_sz) (m_fr) (m_bh) (m_hd) (m_ft) (m_fa) (m_le) (m_fo) (m_as1) (m_fd) (m_bc) (m_bg) (m_bs) (m_be) (m_b0) (m_b1) (m_cm) (m_hc))) ∧ (0 ≤ m_tp1.toInt ∧ m_tp1.toInt ≤ 4000) ∧ (0 ≤ m_as1.toInt ∧ m_as1.toInt ≤ 4000) ∧ (m_tp1.toInt = 0 ∧ m_as1.toInt = m_tp.toInt)))) ([.ref (mo)] : List Value).toArray s 0 0 (hp_F B)) (F0 m 15 ls []) from lp15 _ _ _ _ ls (0) rfl hZ hP e5 (by omega) (by omega) (lv_sub hl [0, 1] rfl)
  intro k9
  induction k9 using Nat.strongRecOn with
  | _ k9 ih15 =>
    intro V9 H9 locs9 ls i  hk15 hZ hP ho8 hv9 hv10 hl
    have hb_i := hq_rng i
    have hP_15 := hP
    refine lv_iload_n hx hb dX13_ask_15 rfl (lv_at hl 0 rfl) ?_
    refine lv_aload_n hx hb dX13_ask_16 rfl (lv_at hl 1 rfl) ?_
    refine hp_get (v := .int (m_tp)) hx hb hts hown hZ ho8 fl_X13_389 rfl dX13_ask_17 ?_
    refine lv_icmp_ge (tgt := 41) hx hb dX13_ask_20 (by decide) (fun c11 => ?_) (fun c11 => ?_)
    · have c11 : (m_tp).toInt ≤ (i).toInt := hq_lei.mp c11
      have hl12 : (0 : Int32).toInt = 0 := by decide
      exact hp_vret hx hb hr hlocks hZ ⟨rfl, hP, ⟨0, m_tp, ho8, by omega, by omega, by omega⟩⟩ dX13_ask_41
    · have c11 : ¬ (m_tp).toInt ≤ (i).toInt := fun h9 => c11 (hq_lei.mpr h9)
      refine lv_aload_n hx hb dX13_ask_23 rfl (lv_at hl 1 rfl) ?_
      refine hp_get (v := .ref (q + 37)) hx hb hts hown hZ ho8 fl_X13_262 rfl dX13_ask_24 ?_
      refine lv_iload_n hx hb dX13_ask_27 rfl (lv_at hl 0 rfl) ?_
      refine lv_aload_n hx hb dX13_ask_28 rfl (lv_at hl 1 rfl) ?_
      refine hp_get (v := .ref (q + 20)) hx hb hts hown hZ ho8 fl_X13_73 rfl dX13_ask_29 ?_
      refine lv_iload_n hx hb dX13_ask_32 rfl (lv_at hl 0 rfl) ?_
      obtain ⟨hN15, g14, eV13⟩ := hq_o20 hP.1 (hr_20 hR)
      refine hp_bald hx hb hZ eV13 (hq_in (by omega) (by omega)) dX13_ask_33 ?_
      refine lv_topi (fun y17 ey18 => ?_)
      have b19 := hq_rng y17
      obtain ⟨hN22, g21, eV20⟩ := hq_o20 hP.1 (hr_37 hR)
      refine hp_bast hx hb hZ eV20 (hq_in (by omega) (by omega)) dX13_ask_34 (fun V24 _ _ e25 o26 hZ => ?_)
      have e25 : V24 (q + 37) = some (.inl (cs 0, 4000, .inl (upd (g21) ((i : Int32).toNatClampNeg) ((y17 : Int32).toInt8.toInt32)))) := e25
      have hP := hP.put (hr_37 hR) e25 o26 (hq_c20 (by omega)) rfl
      obtain ⟨y27, ey28⟩ : ∃ y : Int32, y = i + (1) := ⟨_, rfl⟩
      obtain ⟨k29, hk30, b31, b32⟩ := hq_add (i) (1)
      rw [← ey28] at hk30 b31 b32
      have hk30 : (y27).toInt = (i).toInt + (1) + k29 * 4294967296 := hk30
      refine lv_iinc (v := y27) (lv' := [(1, .int (y27)), (0, .ref (mo))]) hx hb dX13_ask_35 hl (k := 0) rfl (by rw [ey28]; rfl) (by decide) rfl (fun ls hl => ?_)
      refine lv_goto (tgt := 15) hx hb dX13_ask_38 (by decide) ?_
      have fx33 : V24 (mo) = some (.inr (13, hm_o q (0) (m_sz) (m_fr) (m_bh) (m_hd) (m_ft) (m_fa) (m_le) (m_fo) (m_tp) (m_fd) (m_bc) (m_bg) (m_bs) (m_be) (m_b0) (m_b1) (m_cm) (m_hc))) := (o26 (mo) (hq_tne h_mo (hr_37 hR) (by simp))).trans (ho8)
      exact ih15 _ (by omega) _ _ _ ls (y27) rfl hZ hP fx33 (by omega) (by omega) (lv_sub hl [0, 1] rfl)

set_option maxHeartbeats 4000000 in
set_option maxRecDepth 100000 in
theorem t_X13_fault (l : Launch) (D : va_G) (cs : Nat → ClassId) (B : Nat) (G : hq_G) (V : hp_V) (n : Nat) (hI : hq_I cs G V) (q : Nat) (hR : hq_RT G q) (mo : Nat) (h_mo : G mo = some (24, 0, 0, 0)) (k : Int32) {m_tp m_sz m_fr m_bh m_hd m_ft m_fa m_le m_fo m_as m_fd m_bc m_bg m_bs m_be m_b0 m_b1 m_cm m_hc : Int32} (ho_mo : V mo = some (.inr (13, hm_o q (m_tp) (m_sz) (m_fr) (m_bh) (m_hd) (m_ft) (m_fa) (m_le) (m_fo) (m_as) (m_fd) (m_bc) (m_bg) (m_bs) (m_be) (m_b0) (m_b1) (m_cm) (m_hc)))) (hi_mo0 : 0 ≤ m_tp.toInt ∧ m_tp.toInt ≤ 4000) (hi_mo1 : 0 ≤ m_sz.toInt ∧ m_sz.toInt ≤ 4000) (hi_mo2 : 0 ≤ m_le.toInt ∧ m_le.toInt ≤ 276) (hi_mo3 : 0 ≤ m_fo.toInt ∧ m_fo.toInt ≤ 4) (hi_mo4 : 0 ≤ m_as.toInt ∧ m_as.toInt ≤ 4000) (hi_mo5 : 0 ≤ m_fd.toInt ∧ m_fd.toInt ≤ 900) (hi_mo6 : 0 ≤ m_cm.toInt ∧ m_cm.toInt ≤ 2) (hi_mo7 : 0 ≤ m_hc.toInt ∧ m_hc.toInt ≤ 1) : hp_M l yX13_fault cX13_fault 2 (some .int) ({ frames := 1, cells := 0, slots := 0, locals := 21 }) D cs B V n [.ref (mo), .int (k)] (hp_QI D cs B (fun r V' n' => n = n' ∧ hq_P cs G (fun _ => false) V V' ∧ (V' mo = some (.inr (13, hm_o q (m_tp) (m_sz) (m_fr) (m_bh) (m_hd) (m_ft) (m_fa) (m_le) (m_fo) (m_as) (m_fd) (m_bc) (m_bg) (m_bs) (m_be) (m_b0) (m_b1) (m_cm) (m_hc)))) ∧ True)) 0 0 := by
  refine hp_walk (R0 := RX13) (by decide) rfl ?_ (Nat.le_of_ble_eq_true rfl)
  intro p e s m below meth c ls hx hb hr hts hown hlocks hin hml hZ hl
  have hP : hq_P cs G (fun _ => false) V V := hq_P.rf hI
  have hl : lv_has ls 2 [(0, .ref (mo)), (1, .int (k))] := hl
  have hb_k := hq_rng k
  have hb_m_tp := hq_rng m_tp
  have hb_m_sz := hq_rng m_sz
  have hb_m_fr := hq_rng m_fr
  have hb_m_bh := hq_rng m_bh
  have hb_m_hd := hq_rng m_hd
  have hb_m_ft := hq_rng m_ft
  have hb_m_fa := hq_rng m_fa
  have hb_m_le := hq_rng m_le
  have hb_m_fo := hq_rng m_fo
  have hb_m_as := hq_rng m_as
  have hb_m_fd := hq_rng m_fd
  have hb_m_bc := hq_rng m_bc
  have hb_m_bg := hq_rng m_bg
  have hb_m_bs := hq_rng m_bs
  have hb_m_be := hq_rng m_be
  have hb_m_b0 := hq_rng m_b0
  have hb_m_b1 := hq_rng m_b1
  have hb_m_cm := hq_rng m_cm
  have hb_m_hc := hq_rng m_hc
  refine lv_iload_n hx hb dX13_fault_0 rfl (lv_at hl 1 rfl) ?_
  refine lv_if_ne (tgt := 11) hx hb dX13_fault_1 (by decide) (fun c1 => ?_) (fun c1 => ?_)
  · have c1 : ¬ (k).toInt = (0 : Int) := fun h9 => c1 (hq_eqi.mpr h9)
    refine lv_iload_n hx hb dX13_fault_11 rfl (lv_at hl 1 rfl) ?_
    refine lv_iconst (v := 1) hx hb dX13_fault_12 (by decide) ?_
    refine lv_icmp_ne (tgt := 23) hx hb dX13_fault_13 (by decide) (fun c2 => ?_) (fun c2 => ?_)
    · have c2 : ¬ (k).toInt = (1 : Int) := fun h9 => c2 (hq_eqi.mpr h9)
      refine lv_iconst (v := -1) hx hb dX13_fault_23 (by decide) ?_
      exact hp_iret hx hb hr hlocks hZ ⟨rfl, hP, ho_mo, trivial⟩ dX13_fault_24
    · have c2 : (k).toInt = (1 : Int) := hq_eqi.mp c2
      refine lv_aload_n hx hb dX13_fault_16 rfl (lv_at hl 0 rfl) ?_
      refine hp_get (v := .int (m_fa)) hx hb hts hown hZ ho_mo fl_X13_63 rfl dX13_fault_17 ?_
      refine lv_goto (tgt := 24) hx hb dX13_fault_20 (by decide) ?_
      exact hp_iret hx hb hr hlocks hZ ⟨rfl, hP, ho_mo, trivial⟩ dX13_fault_24
  · have c1 : (k).toInt = (0 : Int) := hq_eqi.mp c1
    refine lv_aload_n hx hb dX13_fault_4 rfl (lv_at hl 0 rfl) ?_
    refine hp_get (v := .int (m_ft)) hx hb hts hown hZ ho_mo fl_X13_56 rfl dX13_fault_5 ?_
    refine lv_goto (tgt := 24) hx hb dX13_fault_8 (by decide) ?_
    exact hp_iret hx hb hr hlocks hZ ⟨rfl, hP, ho_mo, trivial⟩ dX13_fault_24

set_option maxHeartbeats 4000000 in
set_option maxRecDepth 100000 in
theorem t_X13_count (l : Launch) (D : va_G) (cs : Nat → ClassId) (B : Nat) (G : hq_G) (V : hp_V) (n : Nat) (hI : hq_I cs G V) (q : Nat) (hR : hq_RT G q) (mo : Nat) (h_mo : G mo = some (24, 0, 0, 0)) (k : Int32) {m_tp m_sz m_fr m_bh m_hd m_ft m_fa m_le m_fo m_as m_fd m_bc m_bg m_bs m_be m_b0 m_b1 m_cm m_hc : Int32} (ho_mo : V mo = some (.inr (13, hm_o q (m_tp) (m_sz) (m_fr) (m_bh) (m_hd) (m_ft) (m_fa) (m_le) (m_fo) (m_as) (m_fd) (m_bc) (m_bg) (m_bs) (m_be) (m_b0) (m_b1) (m_cm) (m_hc)))) (hi_mo0 : 0 ≤ m_tp.toInt ∧ m_tp.toInt ≤ 4000) (hi_mo1 : 0 ≤ m_sz.toInt ∧ m_sz.toInt ≤ 4000) (hi_mo2 : 0 ≤ m_le.toInt ∧ m_le.toInt ≤ 276) (hi_mo3 : 0 ≤ m_fo.toInt ∧ m_fo.toInt ≤ 4) (hi_mo4 : 0 ≤ m_as.toInt ∧ m_as.toInt ≤ 4000) (hi_mo5 : 0 ≤ m_fd.toInt ∧ m_fd.toInt ≤ 900) (hi_mo6 : 0 ≤ m_cm.toInt ∧ m_cm.toInt ≤ 2) (hi_mo7 : 0 ≤ m_hc.toInt ∧ m_hc.toInt ≤ 1) : hp_M l yX13_count cX13_count 2 (some .int) ({ frames := 1, cells := 0, slots := 0, locals := 21 }) D cs B V n [.ref (mo), .int (k)] (hp_QI D cs B (fun r V' n' => n = n' ∧ hq_P cs G (fun _ => false) V V' ∧ (V' mo = some (.inr (13, hm_o q (m_tp) (m_sz) (m_fr) (m_bh) (m_hd) (m_ft) (m_fa) (m_le) (m_fo) (m_as) (m_fd) (m_bc) (m_bg) (m_bs) (m_be) (m_b0) (m_b1) (m_cm) (m_hc)))) ∧ True)) 0 0 := by
  refine hp_walk (R0 := RX13) (by decide) rfl ?_ (Nat.le_of_ble_eq_true rfl)
  intro p e s m below meth c ls hx hb hr hts hown hlocks hin hml hZ hl
  have hP : hq_P cs G (fun _ => false) V V := hq_P.rf hI
  have hl : lv_has ls 2 [(0, .ref (mo)), (1, .int (k))] := hl
  have hb_k := hq_rng k
  have hb_m_tp := hq_rng m_tp
  have hb_m_sz := hq_rng m_sz
  have hb_m_fr := hq_rng m_fr
  have hb_m_bh := hq_rng m_bh
  have hb_m_hd := hq_rng m_hd
  have hb_m_ft := hq_rng m_ft
  have hb_m_fa := hq_rng m_fa
  have hb_m_le := hq_rng m_le
  have hb_m_fo := hq_rng m_fo
  have hb_m_as := hq_rng m_as
  have hb_m_fd := hq_rng m_fd
  have hb_m_bc := hq_rng m_bc
  have hb_m_bg := hq_rng m_bg
  have hb_m_bs := hq_rng m_bs
  have hb_m_be := hq_rng m_be
  have hb_m_b0 := hq_rng m_b0
  have hb_m_b1 := hq_rng m_b1
  have hb_m_cm := hq_rng m_cm
  have hb_m_hc := hq_rng m_hc
  refine lv_iload_n hx hb dX13_count_0 rfl (lv_at hl 1 rfl) ?_
  refine lv_if_ne (tgt := 13) hx hb dX13_count_1 (by decide) (fun c1 => ?_) (fun c1 => ?_)
  · have c1 : ¬ (k).toInt = (0 : Int) := fun h9 => c1 (hq_eqi.mpr h9)
    refine lv_iload_n hx hb dX13_count_13 rfl (lv_at hl 1 rfl) ?_
    refine lv_iconst (v := 1) hx hb dX13_count_14 (by decide) ?_
    refine lv_icmp_ne (tgt := 27) hx hb dX13_count_15 (by decide) (fun c2 => ?_) (fun c2 => ?_)
    · have c2 : ¬ (k).toInt = (1 : Int) := fun h9 => c2 (hq_eqi.mpr h9)
      refine lv_iload_n hx hb dX13_count_27 rfl (lv_at hl 1 rfl) ?_
      refine lv_iconst (v := 2) hx hb dX13_count_28 (by decide) ?_
      refine lv_icmp_ne (tgt := 41) hx hb dX13_count_29 (by decide) (fun c3 => ?_) (fun c3 => ?_)
      · have c3 : ¬ (k).toInt = (2 : Int) := fun h9 => c3 (hq_eqi.mpr h9)
        refine lv_iload_n hx hb dX13_count_41 rfl (lv_at hl 1 rfl) ?_
        refine lv_iconst (v := 3) hx hb dX13_count_42 (by decide) ?_
        refine lv_icmp_ne (tgt := 53) hx hb dX13_count_43 (by decide) (fun c4 => ?_) (fun c4 => ?_)
        · have c4 : ¬ (k).toInt = (3 : Int) := fun h9 => c4 (hq_eqi.mpr h9)
          refine lv_iconst (v := -1) hx hb dX13_count_53 (by decide) ?_
          exact hp_iret hx hb hr hlocks hZ ⟨rfl, hP, ho_mo, trivial⟩ dX13_count_54
        · have c4 : (k).toInt = (3 : Int) := hq_eqi.mp c4
          refine lv_aload_n hx hb dX13_count_46 rfl (lv_at hl 0 rfl) ?_
          refine hp_get (v := .int (m_tp)) hx hb hts hown hZ ho_mo fl_X13_295 rfl dX13_count_47 ?_
          refine lv_goto (tgt := 54) hx hb dX13_count_50 (by decide) ?_
          exact hp_iret hx hb hr hlocks hZ ⟨rfl, hP, ho_mo, trivial⟩ dX13_count_54
      · have c3 : (k).toInt = (2 : Int) := hq_eqi.mp c3
        refine lv_aload_n hx hb dX13_count_32 rfl (lv_at hl 0 rfl) ?_
        refine hp_get (v := .ref (q + 2)) hx hb hts hown hZ ho_mo fl_X13_10 rfl dX13_count_33 ?_
        refine lv_iconst (v := 0) hx hb dX13_count_36 (by decide) ?_
        obtain ⟨hN7, g6, eV5, hf8⟩ := hq_o21 hP.1 (hr_2 hR)
        refine hp_iald hx hb hZ eV5 (by unfold vp_in; decide) dX13_count_37 ?_
        refine lv_topi (fun y9 ey10 => ?_)
        have b11 : hq_ir (hq_lo 8) (hq_hi 8) y9 := by rw [ey10]; exact hf8 _ (by decide)
        have b11 : 0 ≤ (y9).toInt ∧ (y9).toInt ≤ 60 := b11
        refine lv_goto (tgt := 54) hx hb dX13_count_38 (by decide) ?_
        exact hp_iret hx hb hr hlocks hZ ⟨rfl, hP, ho_mo, trivial⟩ dX13_count_54
    · have c2 : (k).toInt = (1 : Int) := hq_eqi.mp c2
      refine lv_aload_n hx hb dX13_count_18 rfl (lv_at hl 0 rfl) ?_
      refine hp_get (v := .ref (q + 1)) hx hb hts hown hZ ho_mo fl_X13_7 rfl dX13_count_19 ?_
      refine lv_iconst (v := 0) hx hb dX13_count_22 (by decide) ?_
      obtain ⟨hN14, g13, eV12, hf15⟩ := hq_o21 hP.1 (hr_1 hR)
      refine hp_iald hx hb hZ eV12 (by unfold vp_in; decide) dX13_count_23 ?_
      refine lv_topi (fun y16 ey17 => ?_)
      have b18 : hq_ir (hq_lo 9) (hq_hi 9) y16 := by rw [ey17]; exact hf15 _ (by decide)
      have b18 : 0 ≤ (y16).toInt ∧ (y16).toInt ≤ 30 := b18
      refine lv_goto (tgt := 54) hx hb dX13_count_24 (by decide) ?_
      exact hp_iret hx hb hr hlocks hZ ⟨rfl, hP, ho_mo, trivial⟩ dX13_count_54
  · have c1 : (k).toInt = (0 : Int) := hq_eqi.mp c1
    refine lv_aload_n hx hb dX13_count_4 rfl (lv_at hl 0 rfl) ?_
    refine hp_get (v := .ref (q)) hx hb hts hown hZ ho_mo fl_X13_1 rfl dX13_count_5 ?_
    refine lv_iconst (v := 0) hx hb dX13_count_8 (by decide) ?_
    obtain ⟨hN21, g20, eV19, hf22⟩ := hq_o21 hP.1 (hr_0 hR)
    refine hp_iald hx hb hZ eV19 (by unfold vp_in; decide) dX13_count_9 ?_
    refine lv_topi (fun y23 ey24 => ?_)
    have b25 : hq_ir (hq_lo 11) (hq_hi 11) y23 := by rw [ey24]; exact hf22 _ (by decide)
    have b25 : 0 ≤ (y23).toInt ∧ (y23).toInt ≤ 6 := b25
    refine lv_goto (tgt := 54) hx hb dX13_count_10 (by decide) ?_
    exact hp_iret hx hb hr hlocks hZ ⟨rfl, hP, ho_mo, trivial⟩ dX13_count_54

set_option maxHeartbeats 4000000 in
set_option maxRecDepth 100000 in
theorem t_X13_isVerb (l : Launch) (D : va_G) (cs : Nat → ClassId) (B : Nat) (G : hq_G) (V : hp_V) (n : Nat) (hI : hq_I cs G V) (q : Nat) (hR : hq_RT G q) (mo : Nat) (h_mo : G mo = some (24, 0, 0, 0)) (v : Int32) {m_tp m_sz m_fr m_bh m_hd m_ft m_fa m_le m_fo m_as m_fd m_bc m_bg m_bs m_be m_b0 m_b1 m_cm m_hc : Int32} (ho_mo : V mo = some (.inr (13, hm_o q (m_tp) (m_sz) (m_fr) (m_bh) (m_hd) (m_ft) (m_fa) (m_le) (m_fo) (m_as) (m_fd) (m_bc) (m_bg) (m_bs) (m_be) (m_b0) (m_b1) (m_cm) (m_hc)))) (hi_mo0 : 0 ≤ m_tp.toInt ∧ m_tp.toInt ≤ 4000) (hi_mo1 : 0 ≤ m_sz.toInt ∧ m_sz.toInt ≤ 4000) (hi_mo2 : 0 ≤ m_le.toInt ∧ m_le.toInt ≤ 276) (hi_mo3 : 0 ≤ m_fo.toInt ∧ m_fo.toInt ≤ 4) (hi_mo4 : 0 ≤ m_as.toInt ∧ m_as.toInt ≤ 4000) (hi_mo5 : 0 ≤ m_fd.toInt ∧ m_fd.toInt ≤ 900) (hi_mo6 : 0 ≤ m_cm.toInt ∧ m_cm.toInt ≤ 2) (hi_mo7 : 0 ≤ m_hc.toInt ∧ m_hc.toInt ≤ 1) : hp_M l yX13_isVerb cX13_isVerb 2 (some .boolean) ({ frames := 2, cells := 0, slots := 0, locals := 46 }) D cs B V n [.ref (mo), .int (v)] (hp_QI D cs B (fun r V' n' => n = n' ∧ hq_P cs G (fun _ => false) V V' ∧ (V' mo = some (.inr (13, hm_o q (m_tp) (m_sz) (m_fr) (m_bh) (m_hd) (m_ft) (m_fa) (m_le) (m_fo) (m_as) (m_fd) (m_bc) (m_bg) (m_bs) (m_be) (m_b0) (m_b1) (m_cm) (m_hc)))) ∧ (r.toInt = 0 ∨ (r.toInt = 1 ∧ 0 ≤ v.toInt ∧ v.toInt < 30)))) 0 0 := by
  refine hp_walk (R0 := RX13) (by decide) rfl ?_ (Nat.le_of_ble_eq_true rfl)
  intro p e s m below meth c ls hx hb hr hts hown hlocks hin hml hZ hl
  have hP : hq_P cs G (fun _ => false) V V := hq_P.rf hI
  have hl : lv_has ls 2 [(0, .ref (mo)), (1, .int (v))] := hl
  have hb_v := hq_rng v
  have hb_m_tp := hq_rng m_tp
  have hb_m_sz := hq_rng m_sz
  have hb_m_fr := hq_rng m_fr
  have hb_m_bh := hq_rng m_bh
  have hb_m_hd := hq_rng m_hd
  have hb_m_ft := hq_rng m_ft
  have hb_m_fa := hq_rng m_fa
  have hb_m_le := hq_rng m_le
  have hb_m_fo := hq_rng m_fo
  have hb_m_as := hq_rng m_as
  have hb_m_fd := hq_rng m_fd
  have hb_m_bc := hq_rng m_bc
  have hb_m_bg := hq_rng m_bg
  have hb_m_bs := hq_rng m_bs
  have hb_m_be := hq_rng m_be
  have hb_m_b0 := hq_rng m_b0
  have hb_m_b1 := hq_rng m_b1
  have hb_m_cm := hq_rng m_cm
  have hb_m_hc := hq_rng m_hc
  refine lv_iload_n hx hb dX13_isVerb_0 rfl (lv_at hl 1 rfl) ?_
  refine lv_i2l (v := (v).toInt64) hx hb dX13_isVerb_1 rfl ?_
  refine lv_topl (fun y1 ey2 => ?_)
  have b3 : (y1).toInt = (v).toInt := by rw [ey2]; exact hm_i2l _
  refine lv_lconst (v := 0) hx hb dX13_isVerb_2 (by decide) ?_
  refine lv_aload_n hx hb dX13_isVerb_3 rfl (lv_at hl 0 rfl) ?_
  refine hp_get (v := .ref (q + 1)) hx hb hts hown hZ ho_mo fl_X13_7 rfl dX13_isVerb_4 ?_
  refine lv_iconst (v := 0) hx hb dX13_isVerb_7 (by decide) ?_
  obtain ⟨hN6, g5, eV4, hf7⟩ := hq_o21 hP.1 (hr_1 hR)
  refine hp_iald hx hb hZ eV4 (by unfold vp_in; decide) dX13_isVerb_8 ?_
  refine lv_topi (fun y8 ey9 => ?_)
  have b10 : hq_ir (hq_lo 9) (hq_hi 9) y8 := by rw [ey9]; exact hf7 _ (by decide)
  have b10 : 0 ≤ (y8).toInt ∧ (y8).toInt ≤ 30 := b10
  refine lv_i2l (v := (y8).toInt64) hx hb dX13_isVerb_9 rfl ?_
  refine lv_topl (fun y11 ey12 => ?_)
  have b13 : (y11).toInt = (y8).toInt := by rw [ey12]; exact hm_i2l _
  refine lv_lconst (v := 1) hx hb dX13_isVerb_10 (by decide) ?_
  refine lv_lsub hx hb dX13_isVerb_11 ?_
  refine lv_topl (fun y14 ey15 => ?_)
  have b17 : (1 : Int64).toInt = 1 := by decide
  have b16 : (y14).toInt = (y11).toInt - (1 : Int) := by rw [ey15]; exact hm_lsub _ _ (by omega) (by omega)
  have hl24 : (0 : Int64).toInt = 0 := by decide
  refine hp_calli (hp_runS (As := [.long (y1), .long (0), .long (y14)]) (rest := []) hx hb hml hown hts (t_X13_in l D cs B G  V n hP.1  (y1) (0) (y14) ) hZ cv_X13_301 rfl rfl ⟨Nat.le_of_ble_eq_true rfl, Nat.le_of_ble_eq_true rfl⟩ rfl hl.1 rfl (Nat.le_of_ble_eq_true rfl) dX13_isVerb_12 ⟨(Nat.le_of_ble_eq_true rfl), (Nat.le_of_ble_eq_true rfl)⟩) hZ (fun r21 V18 n19 _ _ hw20 hZ => ?_)
  obtain ⟨rfl, hq22, hr23⟩ := hw20
  have hP := hP.trans hq22 (fun _ _ => rfl)
  have b25 := hq_rng r21
  have fx26 : V18 (mo) = some (.inr (13, hm_o q (m_tp) (m_sz) (m_fr) (m_bh) (m_hd) (m_ft) (m_fa) (m_le) (m_fo) (m_as) (m_fd) (m_bc) (m_bg) (m_bs) (m_be) (m_b0) (m_b1) (m_cm) (m_hc))) := (hq22.2 (mo) _ h_mo rfl).trans (ho_mo)
  exact hp_zret hx hb hr (hq_nzi (by omega) (by omega)) hlocks hZ ⟨rfl, hP, fx26, (by omega)⟩ dX13_isVerb_15

set_option maxHeartbeats 4000000 in
set_option maxRecDepth 100000 in
theorem t_X13_isLine (l : Launch) (D : va_G) (cs : Nat → ClassId) (B : Nat) (G : hq_G) (V : hp_V) (n : Nat) (hI : hq_I cs G V) (q : Nat) (hR : hq_RT G q) (mo : Nat) (h_mo : G mo = some (24, 0, 0, 0)) (v : Int32) {m_tp m_sz m_fr m_bh m_hd m_ft m_fa m_le m_fo m_as m_fd m_bc m_bg m_bs m_be m_b0 m_b1 m_cm m_hc : Int32} (ho_mo : V mo = some (.inr (13, hm_o q (m_tp) (m_sz) (m_fr) (m_bh) (m_hd) (m_ft) (m_fa) (m_le) (m_fo) (m_as) (m_fd) (m_bc) (m_bg) (m_bs) (m_be) (m_b0) (m_b1) (m_cm) (m_hc)))) (hi_mo0 : 0 ≤ m_tp.toInt ∧ m_tp.toInt ≤ 4000) (hi_mo1 : 0 ≤ m_sz.toInt ∧ m_sz.toInt ≤ 4000) (hi_mo2 : 0 ≤ m_le.toInt ∧ m_le.toInt ≤ 276) (hi_mo3 : 0 ≤ m_fo.toInt ∧ m_fo.toInt ≤ 4) (hi_mo4 : 0 ≤ m_as.toInt ∧ m_as.toInt ≤ 4000) (hi_mo5 : 0 ≤ m_fd.toInt ∧ m_fd.toInt ≤ 900) (hi_mo6 : 0 ≤ m_cm.toInt ∧ m_cm.toInt ≤ 2) (hi_mo7 : 0 ≤ m_hc.toInt ∧ m_hc.toInt ≤ 1) : hp_M l yX13_isLine cX13_isLine 2 (some .boolean) ({ frames := 2, cells := 0, slots := 0, locals := 46 }) D cs B V n [.ref (mo), .int (v)] (hp_QI D cs B (fun r V' n' => n = n' ∧ hq_P cs G (fun _ => false) V V' ∧ (V' mo = some (.inr (13, hm_o q (m_tp) (m_sz) (m_fr) (m_bh) (m_hd) (m_ft) (m_fa) (m_le) (m_fo) (m_as) (m_fd) (m_bc) (m_bg) (m_bs) (m_be) (m_b0) (m_b1) (m_cm) (m_hc)))) ∧ (r.toInt = 0 ∨ (r.toInt = 1 ∧ 0 ≤ v.toInt ∧ v.toInt < 60)))) 0 0 := by
  refine hp_walk (R0 := RX13) (by decide) rfl ?_ (Nat.le_of_ble_eq_true rfl)
  intro p e s m below meth c ls hx hb hr hts hown hlocks hin hml hZ hl
  have hP : hq_P cs G (fun _ => false) V V := hq_P.rf hI
  have hl : lv_has ls 2 [(0, .ref (mo)), (1, .int (v))] := hl
  have hb_v := hq_rng v
  have hb_m_tp := hq_rng m_tp
  have hb_m_sz := hq_rng m_sz
  have hb_m_fr := hq_rng m_fr
  have hb_m_bh := hq_rng m_bh
  have hb_m_hd := hq_rng m_hd
  have hb_m_ft := hq_rng m_ft
  have hb_m_fa := hq_rng m_fa
  have hb_m_le := hq_rng m_le
  have hb_m_fo := hq_rng m_fo
  have hb_m_as := hq_rng m_as
  have hb_m_fd := hq_rng m_fd
  have hb_m_bc := hq_rng m_bc
  have hb_m_bg := hq_rng m_bg
  have hb_m_bs := hq_rng m_bs
  have hb_m_be := hq_rng m_be
  have hb_m_b0 := hq_rng m_b0
  have hb_m_b1 := hq_rng m_b1
  have hb_m_cm := hq_rng m_cm
  have hb_m_hc := hq_rng m_hc
  refine lv_iload_n hx hb dX13_isLine_0 rfl (lv_at hl 1 rfl) ?_
  refine lv_i2l (v := (v).toInt64) hx hb dX13_isLine_1 rfl ?_
  refine lv_topl (fun y1 ey2 => ?_)
  have b3 : (y1).toInt = (v).toInt := by rw [ey2]; exact hm_i2l _
  refine lv_lconst (v := 0) hx hb dX13_isLine_2 (by decide) ?_
  refine lv_aload_n hx hb dX13_isLine_3 rfl (lv_at hl 0 rfl) ?_
  refine hp_get (v := .ref (q + 2)) hx hb hts hown hZ ho_mo fl_X13_10 rfl dX13_isLine_4 ?_
  refine lv_iconst (v := 0) hx hb dX13_isLine_7 (by decide) ?_
  obtain ⟨hN6, g5, eV4, hf7⟩ := hq_o21 hP.1 (hr_2 hR)
  refine hp_iald hx hb hZ eV4 (by unfold vp_in; decide) dX13_isLine_8 ?_
  refine lv_topi (fun y8 ey9 => ?_)
  have b10 : hq_ir (hq_lo 8) (hq_hi 8) y8 := by rw [ey9]; exact hf7 _ (by decide)
  have b10 : 0 ≤ (y8).toInt ∧ (y8).toInt ≤ 60 := b10
  refine lv_i2l (v := (y8).toInt64) hx hb dX13_isLine_9 rfl ?_
  refine lv_topl (fun y11 ey12 => ?_)
  have b13 : (y11).toInt = (y8).toInt := by rw [ey12]; exact hm_i2l _
  refine lv_lconst (v := 1) hx hb dX13_isLine_10 (by decide) ?_
  refine lv_lsub hx hb dX13_isLine_11 ?_
  refine lv_topl (fun y14 ey15 => ?_)
  have b17 : (1 : Int64).toInt = 1 := by decide
  have b16 : (y14).toInt = (y11).toInt - (1 : Int) := by rw [ey15]; exact hm_lsub _ _ (by omega) (by omega)
  have hl24 : (0 : Int64).toInt = 0 := by decide
  refine hp_calli (hp_runS (As := [.long (y1), .long (0), .long (y14)]) (rest := []) hx hb hml hown hts (t_X13_in l D cs B G  V n hP.1  (y1) (0) (y14) ) hZ cv_X13_301 rfl rfl ⟨Nat.le_of_ble_eq_true rfl, Nat.le_of_ble_eq_true rfl⟩ rfl hl.1 rfl (Nat.le_of_ble_eq_true rfl) dX13_isLine_12 ⟨(Nat.le_of_ble_eq_true rfl), (Nat.le_of_ble_eq_true rfl)⟩) hZ (fun r21 V18 n19 _ _ hw20 hZ => ?_)
  obtain ⟨rfl, hq22, hr23⟩ := hw20
  have hP := hP.trans hq22 (fun _ _ => rfl)
  have b25 := hq_rng r21
  have fx26 : V18 (mo) = some (.inr (13, hm_o q (m_tp) (m_sz) (m_fr) (m_bh) (m_hd) (m_ft) (m_fa) (m_le) (m_fo) (m_as) (m_fd) (m_bc) (m_bg) (m_bs) (m_be) (m_b0) (m_b1) (m_cm) (m_hc))) := (hq22.2 (mo) _ h_mo rfl).trans (ho_mo)
  exact hp_zret hx hb hr (hq_nzi (by omega) (by omega)) hlocks hZ ⟨rfl, hP, fx26, (by omega)⟩ dX13_isLine_15

set_option maxHeartbeats 4000000 in
set_option maxRecDepth 100000 in
theorem t_X13_isLearner (l : Launch) (D : va_G) (cs : Nat → ClassId) (B : Nat) (G : hq_G) (V : hp_V) (n : Nat) (hI : hq_I cs G V) (k : Int32) : hp_M l yX13_isLearner cX13_isLearner 1 (some .boolean) ({ frames := 2, cells := 0, slots := 0, locals := 46 }) D cs B V n [.int (k)] (hp_QI D cs B (fun r V' n' => n = n' ∧ hq_P cs G (fun _ => false) V V' ∧ (r.toInt = 0 ∨ (r.toInt = 1 ∧ 0 ≤ k.toInt ∧ k.toInt < 8)))) 0 0 := by
  refine hp_walk (R0 := RX13) (by decide) rfl ?_ (Nat.le_of_ble_eq_true rfl)
  intro p e s m below meth c ls hx hb hr hts hown hlocks hin hml hZ hl
  have hP : hq_P cs G (fun _ => false) V V := hq_P.rf hI
  have hl : lv_has ls 1 [(0, .int (k))] := hl
  have hb_k := hq_rng k
  refine lv_iload_n hx hb dX13_isLearner_0 rfl (lv_at hl 0 rfl) ?_
  refine lv_i2l (v := (k).toInt64) hx hb dX13_isLearner_1 rfl ?_
  refine lv_topl (fun y1 ey2 => ?_)
  have b3 : (y1).toInt = (k).toInt := by rw [ey2]; exact hm_i2l _
  refine lv_lconst (v := 0) hx hb dX13_isLearner_2 (by decide) ?_
  refine lv_ldc2 (v := 7) hx hb hown (hts _ k64_X13_451) dX13_isLearner_3 ?_
  have hl10 : (0 : Int64).toInt = 0 := by decide
  have hl11 : (7 : Int64).toInt = 7 := by decide
  refine hp_calli (hp_runS (As := [.long (y1), .long (0), .long (7)]) (rest := []) hx hb hml hown hts (t_X13_in l D cs B G  V n hP.1  (y1) (0) (7) ) hZ cv_X13_301 rfl rfl ⟨Nat.le_of_ble_eq_true rfl, Nat.le_of_ble_eq_true rfl⟩ rfl hl.1 rfl (Nat.le_of_ble_eq_true rfl) dX13_isLearner_6 ⟨(Nat.le_of_ble_eq_true rfl), (Nat.le_of_ble_eq_true rfl)⟩) hZ (fun r7 V4 n5 _ _ hw6 hZ => ?_)
  obtain ⟨rfl, hq8, hr9⟩ := hw6
  have hP := hP.trans hq8 (fun _ _ => rfl)
  have b12 := hq_rng r7
  exact hp_zret hx hb hr (hq_nzi (by omega) (by omega)) hlocks hZ ⟨rfl, hP, (by omega)⟩ dX13_isLearner_9

set_option maxHeartbeats 4000000 in
set_option maxRecDepth 100000 in
theorem t_X13_placeOf (l : Launch) (D : va_G) (cs : Nat → ClassId) (B : Nat) (G : hq_G) (V : hp_V) (n : Nat) (hI : hq_I cs G V) (v : Int32) (te : Int32) (pe : Int32) : hp_M l yX13_placeOf cX13_placeOf 3 (some .int) ({ frames := 1, cells := 0, slots := 0, locals := 21 }) D cs B V n [.int (v), .int (te), .int (pe)] (hp_QI D cs B (fun r V' n' => n = n' ∧ hq_P cs G (fun _ => false) V V' ∧ True)) 0 0 := by
  refine hp_walk (R0 := RX13) (by decide) rfl ?_ (Nat.le_of_ble_eq_true rfl)
  intro p e s m below meth c ls hx hb hr hts hown hlocks hin hml hZ hl
  have hP : hq_P cs G (fun _ => false) V V := hq_P.rf hI
  have hl : lv_has ls 3 [(0, .int (v)), (1, .int (te)), (2, .int (pe))] := hl
  have hb_v := hq_rng v
  have hb_te := hq_rng te
  have hb_pe := hq_rng pe
  refine lv_bipush (v := 100) hx hb dX13_placeOf_0 (by decide) ?_
  refine lv_iload_n hx hb dX13_placeOf_2 rfl (lv_at hl 0 rfl) ?_
  refine lv_imul hx hb dX13_placeOf_3 ?_
  refine lv_topi (fun y1 ey2 => ?_)
  obtain ⟨k3, hk4, b5, b6⟩ := hq_mul (100) (v)
  rw [← ey2] at hk4 b5 b6
  have hk4 : (y1).toInt = (100 : Int) * (v).toInt + k3 * 4294967296 := hk4
  refine lv_bipush (v := 10) hx hb dX13_placeOf_4 (by decide) ?_
  refine lv_iload_n hx hb dX13_placeOf_6 rfl (lv_at hl 1 rfl) ?_
  refine lv_imul hx hb dX13_placeOf_7 ?_
  refine lv_topi (fun y7 ey8 => ?_)
  obtain ⟨k9, hk10, b11, b12⟩ := hq_mul (10) (te)
  rw [← ey8] at hk10 b11 b12
  have hk10 : (y7).toInt = (10 : Int) * (te).toInt + k9 * 4294967296 := hk10
  refine lv_iadd hx hb dX13_placeOf_8 ?_
  refine lv_topi (fun y13 ey14 => ?_)
  obtain ⟨k15, hk16, b17, b18⟩ := hq_add (y1) (y7)
  rw [← ey14] at hk16 b17 b18
  have hk16 : (y13).toInt = (y1).toInt + (y7).toInt + k15 * 4294967296 := hk16
  refine lv_iload_n hx hb dX13_placeOf_9 rfl (lv_at hl 2 rfl) ?_
  refine lv_iadd hx hb dX13_placeOf_10 ?_
  refine lv_topi (fun y19 ey20 => ?_)
  obtain ⟨k21, hk22, b23, b24⟩ := hq_add (y13) (pe)
  rw [← ey20] at hk22 b23 b24
  have hk22 : (y19).toInt = (y13).toInt + (pe).toInt + k21 * 4294967296 := hk22
  exact hp_iret hx hb hr hlocks hZ ⟨rfl, hP, trivial⟩ dX13_placeOf_11

set_option maxHeartbeats 4000000 in
set_option maxRecDepth 100000 in
theorem t_X13_isPlace (l : Launch) (D : va_G) (cs : Nat → ClassId) (B : Nat) (G : hq_G) (V : hp_V) (n : Nat) (hI : hq_I cs G V) (q : Nat) (hR : hq_RT G q) (mo : Nat) (h_mo : G mo = some (24, 0, 0, 0)) (v : Int32) (te : Int32) (pe : Int32) {m_tp m_sz m_fr m_bh m_hd m_ft m_fa m_le m_fo m_as m_fd m_bc m_bg m_bs m_be m_b0 m_b1 m_cm m_hc : Int32} (ho_mo : V mo = some (.inr (13, hm_o q (m_tp) (m_sz) (m_fr) (m_bh) (m_hd) (m_ft) (m_fa) (m_le) (m_fo) (m_as) (m_fd) (m_bc) (m_bg) (m_bs) (m_be) (m_b0) (m_b1) (m_cm) (m_hc)))) (hi_mo0 : 0 ≤ m_tp.toInt ∧ m_tp.toInt ≤ 4000) (hi_mo1 : 0 ≤ m_sz.toInt ∧ m_sz.toInt ≤ 4000) (hi_mo2 : 0 ≤ m_le.toInt ∧ m_le.toInt ≤ 276) (hi_mo3 : 0 ≤ m_fo.toInt ∧ m_fo.toInt ≤ 4) (hi_mo4 : 0 ≤ m_as.toInt ∧ m_as.toInt ≤ 4000) (hi_mo5 : 0 ≤ m_fd.toInt ∧ m_fd.toInt ≤ 900) (hi_mo6 : 0 ≤ m_cm.toInt ∧ m_cm.toInt ≤ 2) (hi_mo7 : 0 ≤ m_hc.toInt ∧ m_hc.toInt ≤ 1) : hp_M l yX13_isPlace cX13_isPlace 4 (some .boolean) ({ frames := 3, cells := 0, slots := 0, locals := 67 }) D cs B V n [.ref (mo), .int (v), .int (te), .int (pe)] (hp_QI D cs B (fun r V' n' => n = n' ∧ hq_P cs G (fun _ => false) V V' ∧ (V' mo = some (.inr (13, hm_o q (m_tp) (m_sz) (m_fr) (m_bh) (m_hd) (m_ft) (m_fa) (m_le) (m_fo) (m_as) (m_fd) (m_bc) (m_bg) (m_bs) (m_be) (m_b0) (m_b1) (m_cm) (m_hc)))) ∧ (r.toInt = 0 ∨ (r.toInt = 1 ∧ 0 ≤ v.toInt ∧ v.toInt < 30 ∧ 0 ≤ te.toInt ∧ te.toInt < 5 ∧ 0 ≤ pe.toInt ∧ pe.toInt < 6)))) 0 0 := by
  refine hp_walk (R0 := RX13) (by decide) rfl ?_ (Nat.le_of_ble_eq_true rfl)
  intro p e s m below meth c ls hx hb hr hts hown hlocks hin hml hZ hl
  have hP : hq_P cs G (fun _ => false) V V := hq_P.rf hI
  have hl : lv_has ls 4 [(0, .ref (mo)), (1, .int (v)), (2, .int (te)), (3, .int (pe))] := hl
  have hb_v := hq_rng v
  have hb_te := hq_rng te
  have hb_pe := hq_rng pe
  have hb_m_tp := hq_rng m_tp
  have hb_m_sz := hq_rng m_sz
  have hb_m_fr := hq_rng m_fr
  have hb_m_bh := hq_rng m_bh
  have hb_m_hd := hq_rng m_hd
  have hb_m_ft := hq_rng m_ft
  have hb_m_fa := hq_rng m_fa
  have hb_m_le := hq_rng m_le
  have hb_m_fo := hq_rng m_fo
  have hb_m_as := hq_rng m_as
  have hb_m_fd := hq_rng m_fd
  have hb_m_bc := hq_rng m_bc
  have hb_m_bg := hq_rng m_bg
  have hb_m_bs := hq_rng m_bs
  have hb_m_be := hq_rng m_be
  have hb_m_b0 := hq_rng m_b0
  have hb_m_b1 := hq_rng m_b1
  have hb_m_cm := hq_rng m_cm
  have hb_m_hc := hq_rng m_hc
  refine lv_aload_n hx hb dX13_isPlace_0 rfl (lv_at hl 0 rfl) ?_
  refine lv_iload_n hx hb dX13_isPlace_1 rfl (lv_at hl 1 rfl) ?_
  refine hp_calli (hp_runV (As := [.int (v)]) (rest := []) hx hb hml hown hts (t_X13_isVerb l D cs B G  V n hP.1 q hR (mo) h_mo (v) ho_mo  (by omega) (by omega) (by omega) (by omega) (by omega) (by omega) (by omega) (by omega) ) hZ ho_mo cv_X13_317 rfl rfl ⟨Nat.le_of_ble_eq_true rfl, Nat.le_of_ble_eq_true rfl⟩ rfl hl.1 rfl (Nat.le_of_ble_eq_true rfl) dX13_isPlace_2 ⟨(Nat.le_of_ble_eq_true rfl), (Nat.le_of_ble_eq_true rfl)⟩) hZ (fun r4 V1 n2 _ _ hw3 hZ => ?_)
  obtain ⟨rfl, hq5, ho7, hr6⟩ := hw3
  have hP := hP.trans hq5 (fun _ _ => rfl)
  have b8 := hq_rng r4
  refine lv_if_eq (tgt := 36) hx hb dX13_isPlace_5 (by decide) (fun c9 => ?_) (fun c9 => ?_)
  · have c9 : (r4).toInt = (0 : Int) := hq_eqi.mp c9
    refine lv_iconst (v := 0) hx hb dX13_isPlace_36 (by decide) ?_
    exact hp_zret hx hb hr rfl hlocks hZ ⟨rfl, hP, ho7, (Or.inl (by decide))⟩ dX13_isPlace_37
  · have c9 : ¬ (r4).toInt = (0 : Int) := fun h9 => c9 (hq_eqi.mpr h9)
    refine lv_iload_n hx hb dX13_isPlace_8 rfl (lv_at hl 2 rfl) ?_
    refine lv_i2l (v := (te).toInt64) hx hb dX13_isPlace_9 rfl ?_
    refine lv_topl (fun y10 ey11 => ?_)
    have b12 : (y10).toInt = (te).toInt := by rw [ey11]; exact hm_i2l _
    refine lv_lconst (v := 0) hx hb dX13_isPlace_10 (by decide) ?_
    refine lv_ldc2 (v := 4) hx hb hown (hts _ k64_X13_376) dX13_isPlace_11 ?_
    have hl19 : (0 : Int64).toInt = 0 := by decide
    have hl20 : (4 : Int64).toInt = 4 := by decide
    refine hp_calli (hp_runS (As := [.long (y10), .long (0), .long (4)]) (rest := []) hx hb hml hown hts (t_X13_in l D cs B G  V1 n hP.1  (y10) (0) (4) ) hZ cv_X13_301 rfl rfl ⟨Nat.le_of_ble_eq_true rfl, Nat.le_of_ble_eq_true rfl⟩ rfl hl.1 rfl (Nat.le_of_ble_eq_true rfl) dX13_isPlace_14 ⟨(Nat.le_of_ble_eq_true rfl), (Nat.le_of_ble_eq_true rfl)⟩) hZ (fun r16 V13 n14 _ _ hw15 hZ => ?_)
    obtain ⟨rfl, hq17, hr18⟩ := hw15
    have hP := hP.trans hq17 (fun _ _ => rfl)
    have b21 := hq_rng r16
    refine lv_if_eq (tgt := 36) hx hb dX13_isPlace_17 (by decide) (fun c22 => ?_) (fun c22 => ?_)
    · have c22 : (r16).toInt = (0 : Int) := hq_eqi.mp c22
      refine lv_iconst (v := 0) hx hb dX13_isPlace_36 (by decide) ?_
      have fx23 : V13 (mo) = some (.inr (13, hm_o q (m_tp) (m_sz) (m_fr) (m_bh) (m_hd) (m_ft) (m_fa) (m_le) (m_fo) (m_as) (m_fd) (m_bc) (m_bg) (m_bs) (m_be) (m_b0) (m_b1) (m_cm) (m_hc))) := (hq17.2 (mo) _ h_mo rfl).trans (ho7)
      exact hp_zret hx hb hr rfl hlocks hZ ⟨rfl, hP, fx23, (Or.inl (by decide))⟩ dX13_isPlace_37
    · have c22 : ¬ (r16).toInt = (0 : Int) := fun h9 => c22 (hq_eqi.mpr h9)
      refine lv_iload_n hx hb dX13_isPlace_20 rfl (lv_at hl 3 rfl) ?_
      refine lv_i2l (v := (pe).toInt64) hx hb dX13_isPlace_21 rfl ?_
      refine lv_topl (fun y24 ey25 => ?_)
      have b26 : (y24).toInt = (pe).toInt := by rw [ey25]; exact hm_i2l _
      refine lv_lconst (v := 0) hx hb dX13_isPlace_22 (by decide) ?_
      refine lv_ldc2 (v := 5) hx hb hown (hts _ k64_X13_378) dX13_isPlace_23 ?_
      have hl33 : (0 : Int64).toInt = 0 := by decide
      have hl34 : (5 : Int64).toInt = 5 := by decide
      refine hp_calli (hp_runS (As := [.long (y24), .long (0), .long (5)]) (rest := []) hx hb hml hown hts (t_X13_in l D cs B G  V13 n hP.1  (y24) (0) (5) ) hZ cv_X13_301 rfl rfl ⟨Nat.le_of_ble_eq_true rfl, Nat.le_of_ble_eq_true rfl⟩ rfl hl.1 rfl (Nat.le_of_ble_eq_true rfl) dX13_isPlace_26 ⟨(Nat.le_of_ble_eq_true rfl), (Nat.le_of_ble_eq_true rfl)⟩) hZ (fun r30 V27 n28 _ _ hw29 hZ => ?_)
      obtain ⟨rfl, hq31, hr32⟩ := hw29
      have hP := hP.trans hq31 (fun _ _ => rfl)
      have b35 := hq_rng r30
      refine lv_if_eq (tgt := 36) hx hb dX13_isPlace_29 (by decide) (fun c36 => ?_) (fun c36 => ?_)
      · have c36 : (r30).toInt = (0 : Int) := hq_eqi.mp c36
        refine lv_iconst (v := 0) hx hb dX13_isPlace_36 (by decide) ?_
        have fx37 : V27 (mo) = some (.inr (13, hm_o q (m_tp) (m_sz) (m_fr) (m_bh) (m_hd) (m_ft) (m_fa) (m_le) (m_fo) (m_as) (m_fd) (m_bc) (m_bg) (m_bs) (m_be) (m_b0) (m_b1) (m_cm) (m_hc))) := (hq31.2 (mo) _ h_mo rfl).trans ((hq17.2 (mo) _ h_mo rfl).trans (ho7))
        exact hp_zret hx hb hr rfl hlocks hZ ⟨rfl, hP, fx37, (Or.inl (by decide))⟩ dX13_isPlace_37
      · have c36 : ¬ (r30).toInt = (0 : Int) := fun h9 => c36 (hq_eqi.mpr h9)
        refine lv_iconst (v := 1) hx hb dX13_isPlace_32 (by decide) ?_
        refine lv_goto (tgt := 37) hx hb dX13_isPlace_33 (by decide) ?_
        have fx38 : V27 (mo) = some (.inr (13, hm_o q (m_tp) (m_sz) (m_fr) (m_bh) (m_hd) (m_ft) (m_fa) (m_le) (m_fo) (m_as) (m_fd) (m_bc) (m_bg) (m_bs) (m_be) (m_b0) (m_b1) (m_cm) (m_hc))) := (hq31.2 (mo) _ h_mo rfl).trans ((hq17.2 (mo) _ h_mo rfl).trans (ho7))
        exact hp_zret hx hb hr rfl hlocks hZ ⟨rfl, hP, fx38, (Or.inr ⟨by decide, by omega, by omega, by omega, by omega, by omega, by omega⟩)⟩ dX13_isPlace_37

set_option maxHeartbeats 4000000 in
set_option maxRecDepth 100000 in
theorem t_X13_verb (l : Launch) (D : va_G) (cs : Nat → ClassId) (B : Nat) (G : hq_G) (V : hp_V) (n : Nat) (hI : hq_I cs G V) (q : Nat) (hR : hq_RT G q) (mo : Nat) (h_mo : G mo = some (24, 0, 0, 0)) (v : Int32) (k : Int32) {m_tp m_sz m_fr m_bh m_hd m_ft m_fa m_le m_fo m_as m_fd m_bc m_bg m_bs m_be m_b0 m_b1 m_cm m_hc : Int32} (ho_mo : V mo = some (.inr (13, hm_o q (m_tp) (m_sz) (m_fr) (m_bh) (m_hd) (m_ft) (m_fa) (m_le) (m_fo) (m_as) (m_fd) (m_bc) (m_bg) (m_bs) (m_be) (m_b0) (m_b1) (m_cm) (m_hc)))) (hi_mo0 : 0 ≤ m_tp.toInt ∧ m_tp.toInt ≤ 4000) (hi_mo1 : 0 ≤ m_sz.toInt ∧ m_sz.toInt ≤ 4000) (hi_mo2 : 0 ≤ m_le.toInt ∧ m_le.toInt ≤ 276) (hi_mo3 : 0 ≤ m_fo.toInt ∧ m_fo.toInt ≤ 4) (hi_mo4 : 0 ≤ m_as.toInt ∧ m_as.toInt ≤ 4000) (hi_mo5 : 0 ≤ m_fd.toInt ∧ m_fd.toInt ≤ 900) (hi_mo6 : 0 ≤ m_cm.toInt ∧ m_cm.toInt ≤ 2) (hi_mo7 : 0 ≤ m_hc.toInt ∧ m_hc.toInt ≤ 1) : hp_M l yX13_verb cX13_verb 3 (some .int) ({ frames := 3, cells := 0, slots := 0, locals := 67 }) D cs B V n [.ref (mo), .int (v), .int (k)] (hp_QI D cs B (fun r V' n' => n = n' ∧ hq_P cs G (fun _ => false) V V' ∧ (V' mo = some (.inr (13, hm_o q (m_tp) (m_sz) (m_fr) (m_bh) (m_hd) (m_ft) (m_fa) (m_le) (m_fo) (m_as) (m_fd) (m_bc) (m_bg) (m_bs) (m_be) (m_b0) (m_b1) (m_cm) (m_hc)))) ∧ True)) 0 0 := by
  refine hp_walk (R0 := RX13) (by decide) rfl ?_ (Nat.le_of_ble_eq_true rfl)
  intro p e s m below meth c ls hx hb hr hts hown hlocks hin hml hZ hl
  have hP : hq_P cs G (fun _ => false) V V := hq_P.rf hI
  have hl : lv_has ls 3 [(0, .ref (mo)), (1, .int (v)), (2, .int (k))] := hl
  have hb_v := hq_rng v
  have hb_k := hq_rng k
  have hb_m_tp := hq_rng m_tp
  have hb_m_sz := hq_rng m_sz
  have hb_m_fr := hq_rng m_fr
  have hb_m_bh := hq_rng m_bh
  have hb_m_hd := hq_rng m_hd
  have hb_m_ft := hq_rng m_ft
  have hb_m_fa := hq_rng m_fa
  have hb_m_le := hq_rng m_le
  have hb_m_fo := hq_rng m_fo
  have hb_m_as := hq_rng m_as
  have hb_m_fd := hq_rng m_fd
  have hb_m_bc := hq_rng m_bc
  have hb_m_bg := hq_rng m_bg
  have hb_m_bs := hq_rng m_bs
  have hb_m_be := hq_rng m_be
  have hb_m_b0 := hq_rng m_b0
  have hb_m_b1 := hq_rng m_b1
  have hb_m_cm := hq_rng m_cm
  have hb_m_hc := hq_rng m_hc
  refine lv_aload_n hx hb dX13_verb_0 rfl (lv_at hl 0 rfl) ?_
  refine lv_iload_n hx hb dX13_verb_1 rfl (lv_at hl 1 rfl) ?_
  refine hp_calli (hp_runV (As := [.int (v)]) (rest := []) hx hb hml hown hts (t_X13_isVerb l D cs B G  V n hP.1 q hR (mo) h_mo (v) ho_mo  (by omega) (by omega) (by omega) (by omega) (by omega) (by omega) (by omega) (by omega) ) hZ ho_mo cv_X13_317 rfl rfl ⟨Nat.le_of_ble_eq_true rfl, Nat.le_of_ble_eq_true rfl⟩ rfl hl.1 rfl (Nat.le_of_ble_eq_true rfl) dX13_verb_2 ⟨(Nat.le_of_ble_eq_true rfl), (Nat.le_of_ble_eq_true rfl)⟩) hZ (fun r4 V1 n2 _ _ hw3 hZ => ?_)
  obtain ⟨rfl, hq5, ho7, hr6⟩ := hw3
  have hP := hP.trans hq5 (fun _ _ => rfl)
  have b8 := hq_rng r4
  refine lv_if_ne (tgt := 10) hx hb dX13_verb_5 (by decide) (fun c9 => ?_) (fun c9 => ?_)
  · have c9 : ¬ (r4).toInt = (0 : Int) := fun h9 => c9 (hq_eqi.mpr h9)
    refine lv_iload_n hx hb dX13_verb_10 rfl (lv_at hl 2 rfl) ?_
    refine lv_i2l (v := (k).toInt64) hx hb dX13_verb_11 rfl ?_
    refine lv_topl (fun y10 ey11 => ?_)
    have b12 : (y10).toInt = (k).toInt := by rw [ey11]; exact hm_i2l _
    refine lv_ldc2 (v := 10) hx hb hown (hts _ k64_X13_320) dX13_verb_12 ?_
    refine lv_ldc2 (v := 9) hx hb hown (hts _ k64_X13_322) dX13_verb_15 ?_
    refine lv_aload_n hx hb dX13_verb_18 rfl (lv_at hl 0 rfl) ?_
    refine hp_get (v := .ref (q + 8)) hx hb hts hown hZ ho7 fl_X13_13 rfl dX13_verb_19 ?_
    refine lv_iload_n hx hb dX13_verb_22 rfl (lv_at hl 1 rfl) ?_
    obtain ⟨hN15, g14, eV13, hf16⟩ := hq_o21 hP.1 (hr_8 hR)
    refine hp_iald hx hb hZ eV13 (hq_in (by omega) (by omega)) dX13_verb_23 ?_
    refine lv_topi (fun y17 ey18 => ?_)
    have b19 : hq_ir (hq_lo 2) (hq_hi 2) y17 := by rw [ey18]; exact hf16 _ (hq_ix (by omega) (by omega))
    have b19 : 0 ≤ (y17).toInt ∧ (y17).toInt ≤ 12 := b19
    refine lv_i2l (v := (y17).toInt64) hx hb dX13_verb_24 rfl ?_
    refine lv_topl (fun y20 ey21 => ?_)
    have b22 : (y20).toInt = (y17).toInt := by rw [ey21]; exact hm_i2l _
    refine lv_ladd hx hb dX13_verb_25 ?_
    refine lv_topl (fun y23 ey24 => ?_)
    have b26 : (9 : Int64).toInt = 9 := by decide
    have b25 : (y23).toInt = (9 : Int) + (y20).toInt := by rw [ey24]; exact hm_ladd _ _ (by omega) (by omega)
    have hl33 : (10 : Int64).toInt = 10 := by decide
    refine hp_calli (hp_runS (As := [.long (y10), .long (10), .long (y23)]) (rest := []) hx hb hml hown hts (t_X13_in l D cs B G  V1 n hP.1  (y10) (10) (y23) ) hZ cv_X13_301 rfl rfl ⟨Nat.le_of_ble_eq_true rfl, Nat.le_of_ble_eq_true rfl⟩ rfl hl.1 rfl (Nat.le_of_ble_eq_true rfl) dX13_verb_26 ⟨(Nat.le_of_ble_eq_true rfl), (Nat.le_of_ble_eq_true rfl)⟩) hZ (fun r30 V27 n28 _ _ hw29 hZ => ?_)
    obtain ⟨rfl, hq31, hr32⟩ := hw29
    have hP := hP.trans hq31 (fun _ _ => rfl)
    have b34 := hq_rng r30
    refine lv_if_eq (tgt := 47) hx hb dX13_verb_29 (by decide) (fun c35 => ?_) (fun c35 => ?_)
    · have c35 : (r30).toInt = (0 : Int) := hq_eqi.mp c35
      refine lv_iload_n hx hb dX13_verb_47 rfl (lv_at hl 2 rfl) ?_
      refine lv_if_ne (tgt := 60) hx hb dX13_verb_48 (by decide) (fun c36 => ?_) (fun c36 => ?_)
      · have c36 : ¬ (k).toInt = (0 : Int) := fun h9 => c36 (hq_eqi.mpr h9)
        refine lv_iload_n hx hb dX13_verb_60 rfl (lv_at hl 2 rfl) ?_
        refine lv_iconst (v := 1) hx hb dX13_verb_61 (by decide) ?_
        refine lv_icmp_ne (tgt := 74) hx hb dX13_verb_62 (by decide) (fun c37 => ?_) (fun c37 => ?_)
        · have c37 : ¬ (k).toInt = (1 : Int) := fun h9 => c37 (hq_eqi.mpr h9)
          refine lv_iconst (v := -1) hx hb dX13_verb_74 (by decide) ?_
          have fx38 : V27 (mo) = some (.inr (13, hm_o q (m_tp) (m_sz) (m_fr) (m_bh) (m_hd) (m_ft) (m_fa) (m_le) (m_fo) (m_as) (m_fd) (m_bc) (m_bg) (m_bs) (m_be) (m_b0) (m_b1) (m_cm) (m_hc))) := (hq31.2 (mo) _ h_mo rfl).trans (ho7)
          exact hp_iret hx hb hr hlocks hZ ⟨rfl, hP, fx38, trivial⟩ dX13_verb_75
        · have c37 : (k).toInt = (1 : Int) := hq_eqi.mp c37
          refine lv_aload_n hx hb dX13_verb_65 rfl (lv_at hl 0 rfl) ?_
          have fx39 : V27 (mo) = some (.inr (13, hm_o q (m_tp) (m_sz) (m_fr) (m_bh) (m_hd) (m_ft) (m_fa) (m_le) (m_fo) (m_as) (m_fd) (m_bc) (m_bg) (m_bs) (m_be) (m_b0) (m_b1) (m_cm) (m_hc))) := (hq31.2 (mo) _ h_mo rfl).trans (ho7)
          refine hp_get (v := .ref (q + 8)) hx hb hts hown hZ fx39 fl_X13_13 rfl dX13_verb_66 ?_
          refine lv_iload_n hx hb dX13_verb_69 rfl (lv_at hl 1 rfl) ?_
          have fx40 : V27 (q + 8) = some (.inl (cs 1, 60, .inl (g14))) := (hq31.2 (q + 8) _ (hr_8 hR) rfl).trans (eV13)
          refine hp_iald hx hb hZ fx40 (hq_in (by omega) (by omega)) dX13_verb_70 ?_
          refine lv_topi (fun y41 ey42 => ?_)
          have b43 : hq_ir (hq_lo 2) (hq_hi 2) y41 := by rw [ey42]; exact hf16 _ (hq_ix (by omega) (by omega))
          have b43 : 0 ≤ (y41).toInt ∧ (y41).toInt ≤ 12 := b43
          refine lv_goto (tgt := 75) hx hb dX13_verb_71 (by decide) ?_
          exact hp_iret hx hb hr hlocks hZ ⟨rfl, hP, fx39, trivial⟩ dX13_verb_75
      · have c36 : (k).toInt = (0 : Int) := hq_eqi.mp c36
        refine lv_aload_n hx hb dX13_verb_51 rfl (lv_at hl 0 rfl) ?_
        have fx44 : V27 (mo) = some (.inr (13, hm_o q (m_tp) (m_sz) (m_fr) (m_bh) (m_hd) (m_ft) (m_fa) (m_le) (m_fo) (m_as) (m_fd) (m_bc) (m_bg) (m_bs) (m_be) (m_b0) (m_b1) (m_cm) (m_hc))) := (hq31.2 (mo) _ h_mo rfl).trans (ho7)
        refine hp_get (v := .ref (q + 9)) hx hb hts hown hZ fx44 fl_X13_16 rfl dX13_verb_52 ?_
        refine lv_iload_n hx hb dX13_verb_55 rfl (lv_at hl 1 rfl) ?_
        obtain ⟨hN47, g46, eV45, hf48⟩ := hq_o21 hP.1 (hr_9 hR)
        refine hp_iald hx hb hZ eV45 (hq_in (by omega) (by omega)) dX13_verb_56 ?_
        refine lv_topi (fun y49 ey50 => ?_)
        have b51 := hq_rng y49
        refine lv_goto (tgt := 75) hx hb dX13_verb_57 (by decide) ?_
        exact hp_iret hx hb hr hlocks hZ ⟨rfl, hP, fx44, trivial⟩ dX13_verb_75
    · have c35 : ¬ (r30).toInt = (0 : Int) := fun h9 => c35 (hq_eqi.mpr h9)
      refine lv_aload_n hx hb dX13_verb_32 rfl (lv_at hl 0 rfl) ?_
      have fx52 : V27 (mo) = some (.inr (13, hm_o q (m_tp) (m_sz) (m_fr) (m_bh) (m_hd) (m_ft) (m_fa) (m_le) (m_fo) (m_as) (m_fd) (m_bc) (m_bg) (m_bs) (m_be) (m_b0) (m_b1) (m_cm) (m_hc))) := (hq31.2 (mo) _ h_mo rfl).trans (ho7)
      refine hp_get (v := .ref (q + 4)) hx hb hts hown hZ fx52 fl_X13_19 rfl dX13_verb_33 ?_
      refine lv_bipush (v := 12) hx hb dX13_verb_36 (by decide) ?_
      refine lv_iload_n hx hb dX13_verb_38 rfl (lv_at hl 1 rfl) ?_
      refine lv_imul hx hb dX13_verb_39 ?_
      refine lv_topi (fun y53 ey54 => ?_)
      obtain ⟨k55, hk56, b57, b58⟩ := hq_mul (12) (v)
      rw [← ey54] at hk56 b57 b58
      have hk56 : (y53).toInt = (12 : Int) * (v).toInt + k55 * 4294967296 := hk56
      obtain rfl : k55 = 0 := by omega
      refine lv_iload_n hx hb dX13_verb_40 rfl (lv_at hl 2 rfl) ?_
      refine lv_iadd hx hb dX13_verb_41 ?_
      refine lv_topi (fun y59 ey60 => ?_)
      obtain ⟨k61, hk62, b63, b64⟩ := hq_add (y53) (k)
      rw [← ey60] at hk62 b63 b64
      have hk62 : (y59).toInt = (y53).toInt + (k).toInt + k61 * 4294967296 := hk62
      obtain rfl : k61 = 0 := by omega
      refine lv_bipush (v := 10) hx hb dX13_verb_42 (by decide) ?_
      refine lv_isub hx hb dX13_verb_44 ?_
      refine lv_topi (fun y65 ey66 => ?_)
      obtain ⟨k67, hk68, b69, b70⟩ := hq_sub (y59) (10)
      rw [← ey66] at hk68 b69 b70
      have hk68 : (y65).toInt = (y59).toInt - (10 : Int) + k67 * 4294967296 := hk68
      obtain rfl : k67 = 0 := by omega
      obtain ⟨hN73, g72, eV71⟩ := hq_o20 hP.1 (hr_4 hR)
      refine hp_bald hx hb hZ eV71 (hq_in (by omega) (by omega)) dX13_verb_45 ?_
      refine lv_topi (fun y75 ey76 => ?_)
      have b77 := hq_rng y75
      exact hp_iret hx hb hr hlocks hZ ⟨rfl, hP, fx52, trivial⟩ dX13_verb_46
  · have c9 : (r4).toInt = (0 : Int) := hq_eqi.mp c9
    refine lv_iconst (v := -1) hx hb dX13_verb_8 (by decide) ?_
    exact hp_iret hx hb hr hlocks hZ ⟨rfl, hP, ho7, trivial⟩ dX13_verb_9

set_option maxHeartbeats 4000000 in
set_option maxRecDepth 100000 in
theorem t_X13_line (l : Launch) (D : va_G) (cs : Nat → ClassId) (B : Nat) (G : hq_G) (V : hp_V) (n : Nat) (hI : hq_I cs G V) (q : Nat) (hR : hq_RT G q) (mo : Nat) (h_mo : G mo = some (24, 0, 0, 0)) (v : Int32) (k : Int32) {m_tp m_sz m_fr m_bh m_hd m_ft m_fa m_le m_fo m_as m_fd m_bc m_bg m_bs m_be m_b0 m_b1 m_cm m_hc : Int32} (ho_mo : V mo = some (.inr (13, hm_o q (m_tp) (m_sz) (m_fr) (m_bh) (m_hd) (m_ft) (m_fa) (m_le) (m_fo) (m_as) (m_fd) (m_bc) (m_bg) (m_bs) (m_be) (m_b0) (m_b1) (m_cm) (m_hc)))) (hi_mo0 : 0 ≤ m_tp.toInt ∧ m_tp.toInt ≤ 4000) (hi_mo1 : 0 ≤ m_sz.toInt ∧ m_sz.toInt ≤ 4000) (hi_mo2 : 0 ≤ m_le.toInt ∧ m_le.toInt ≤ 276) (hi_mo3 : 0 ≤ m_fo.toInt ∧ m_fo.toInt ≤ 4) (hi_mo4 : 0 ≤ m_as.toInt ∧ m_as.toInt ≤ 4000) (hi_mo5 : 0 ≤ m_fd.toInt ∧ m_fd.toInt ≤ 900) (hi_mo6 : 0 ≤ m_cm.toInt ∧ m_cm.toInt ≤ 2) (hi_mo7 : 0 ≤ m_hc.toInt ∧ m_hc.toInt ≤ 1) : hp_M l yX13_line cX13_line 3 (some .int) ({ frames := 3, cells := 0, slots := 0, locals := 67 }) D cs B V n [.ref (mo), .int (v), .int (k)] (hp_QI D cs B (fun r V' n' => n = n' ∧ hq_P cs G (fun _ => false) V V' ∧ (V' mo = some (.inr (13, hm_o q (m_tp) (m_sz) (m_fr) (m_bh) (m_hd) (m_ft) (m_fa) (m_le) (m_fo) (m_as) (m_fd) (m_bc) (m_bg) (m_bs) (m_be) (m_b0) (m_b1) (m_cm) (m_hc)))) ∧ True)) 0 0 := by
  refine hp_walk (R0 := RX13) (by decide) rfl ?_ (Nat.le_of_ble_eq_true rfl)
  intro p e s m below meth c ls hx hb hr hts hown hlocks hin hml hZ hl
  have hP : hq_P cs G (fun _ => false) V V := hq_P.rf hI
  have hl : lv_has ls 3 [(0, .ref (mo)), (1, .int (v)), (2, .int (k))] := hl
  have hb_v := hq_rng v
  have hb_k := hq_rng k
  have hb_m_tp := hq_rng m_tp
  have hb_m_sz := hq_rng m_sz
  have hb_m_fr := hq_rng m_fr
  have hb_m_bh := hq_rng m_bh
  have hb_m_hd := hq_rng m_hd
  have hb_m_ft := hq_rng m_ft
  have hb_m_fa := hq_rng m_fa
  have hb_m_le := hq_rng m_le
  have hb_m_fo := hq_rng m_fo
  have hb_m_as := hq_rng m_as
  have hb_m_fd := hq_rng m_fd
  have hb_m_bc := hq_rng m_bc
  have hb_m_bg := hq_rng m_bg
  have hb_m_bs := hq_rng m_bs
  have hb_m_be := hq_rng m_be
  have hb_m_b0 := hq_rng m_b0
  have hb_m_b1 := hq_rng m_b1
  have hb_m_cm := hq_rng m_cm
  have hb_m_hc := hq_rng m_hc
  refine lv_aload_n hx hb dX13_line_0 rfl (lv_at hl 0 rfl) ?_
  refine lv_iload_n hx hb dX13_line_1 rfl (lv_at hl 1 rfl) ?_
  refine hp_calli (hp_runV (As := [.int (v)]) (rest := []) hx hb hml hown hts (t_X13_isLine l D cs B G  V n hP.1 q hR (mo) h_mo (v) ho_mo  (by omega) (by omega) (by omega) (by omega) (by omega) (by omega) (by omega) (by omega) ) hZ ho_mo cv_X13_324 rfl rfl ⟨Nat.le_of_ble_eq_true rfl, Nat.le_of_ble_eq_true rfl⟩ rfl hl.1 rfl (Nat.le_of_ble_eq_true rfl) dX13_line_2 ⟨(Nat.le_of_ble_eq_true rfl), (Nat.le_of_ble_eq_true rfl)⟩) hZ (fun r4 V1 n2 _ _ hw3 hZ => ?_)
  obtain ⟨rfl, hq5, ho7, hr6⟩ := hw3
  have hP := hP.trans hq5 (fun _ _ => rfl)
  have b8 := hq_rng r4
  refine lv_if_ne (tgt := 11) hx hb dX13_line_5 (by decide) (fun c9 => ?_) (fun c9 => ?_)
  · have c9 : ¬ (r4).toInt = (0 : Int) := fun h9 => c9 (hq_eqi.mpr h9)
    refine lv_iload_n hx hb dX13_line_11 rfl (lv_at hl 2 rfl) ?_
    rcases Classical.em (k = 0) with h10 | h10
    · refine lv_tableIn (off := 44) (tgt := 56) hx hb dX13_line_12 (by rw [h10]; decide) (by rw [h10]; decide) (by rw [h10]; decide) (by decide) ?_
      have b11 : (k).toInt = 0 := by rw [h10]; decide
      refine lv_aload_n hx hb dX13_line_56 rfl (lv_at hl 0 rfl) ?_
      refine hp_get (v := .ref (q + 10)) hx hb hts hown hZ ho7 fl_X13_29 rfl dX13_line_57 ?_
      refine lv_iload_n hx hb dX13_line_60 rfl (lv_at hl 1 rfl) ?_
      obtain ⟨hN14, g13, eV12, hf15⟩ := hq_o21 hP.1 (hr_10 hR)
      refine hp_iald hx hb hZ eV12 (hq_in (by omega) (by omega)) dX13_line_61 ?_
      refine lv_topi (fun y16 ey17 => ?_)
      have b18 := hq_rng y16
      exact hp_iret hx hb hr hlocks hZ ⟨rfl, hP, ho7, trivial⟩ dX13_line_62
    ·
      rcases Classical.em (k = 1) with h19 | h19
      · refine lv_tableIn (off := 51) (tgt := 63) hx hb dX13_line_12 (by rw [h19]; decide) (by rw [h19]; decide) (by rw [h19]; decide) (by decide) ?_
        have b20 : (k).toInt = 1 := by rw [h19]; decide
        refine lv_aload_n hx hb dX13_line_63 rfl (lv_at hl 0 rfl) ?_
        refine hp_get (v := .ref (q + 11)) hx hb hts hown hZ ho7 fl_X13_32 rfl dX13_line_64 ?_
        refine lv_iload_n hx hb dX13_line_67 rfl (lv_at hl 1 rfl) ?_
        obtain ⟨hN23, g22, eV21, hf24⟩ := hq_o21 hP.1 (hr_11 hR)
        refine hp_iald hx hb hZ eV21 (hq_in (by omega) (by omega)) dX13_line_68 ?_
        refine lv_topi (fun y25 ey26 => ?_)
        have b27 := hq_rng y25
        exact hp_iret hx hb hr hlocks hZ ⟨rfl, hP, ho7, trivial⟩ dX13_line_69
      ·
        rcases Classical.em (k = 2) with h28 | h28
        · refine lv_tableIn (off := 58) (tgt := 70) hx hb dX13_line_12 (by rw [h28]; decide) (by rw [h28]; decide) (by rw [h28]; decide) (by decide) ?_
          have b29 : (k).toInt = 2 := by rw [h28]; decide
          refine lv_aload_n hx hb dX13_line_70 rfl (lv_at hl 0 rfl) ?_
          refine hp_get (v := .ref (q + 12)) hx hb hts hown hZ ho7 fl_X13_35 rfl dX13_line_71 ?_
          refine lv_iload_n hx hb dX13_line_74 rfl (lv_at hl 1 rfl) ?_
          obtain ⟨hN32, g31, eV30, hf33⟩ := hq_o21 hP.1 (hr_12 hR)
          refine hp_iald hx hb hZ eV30 (hq_in (by omega) (by omega)) dX13_line_75 ?_
          refine lv_topi (fun y34 ey35 => ?_)
          have b36 := hq_rng y34
          exact hp_iret hx hb hr hlocks hZ ⟨rfl, hP, ho7, trivial⟩ dX13_line_76
        ·
          rcases Classical.em (k = 3) with h37 | h37
          · refine lv_tableIn (off := 65) (tgt := 77) hx hb dX13_line_12 (by rw [h37]; decide) (by rw [h37]; decide) (by rw [h37]; decide) (by decide) ?_
            have b38 : (k).toInt = 3 := by rw [h37]; decide
            refine lv_aload_n hx hb dX13_line_77 rfl (lv_at hl 0 rfl) ?_
            refine hp_get (v := .ref (q + 13)) hx hb hts hown hZ ho7 fl_X13_38 rfl dX13_line_78 ?_
            refine lv_iload_n hx hb dX13_line_81 rfl (lv_at hl 1 rfl) ?_
            obtain ⟨hN41, g40, eV39, hf42⟩ := hq_o21 hP.1 (hr_13 hR)
            refine hp_iald hx hb hZ eV39 (hq_in (by omega) (by omega)) dX13_line_82 ?_
            refine lv_topi (fun y43 ey44 => ?_)
            have b45 := hq_rng y43
            exact hp_iret hx hb hr hlocks hZ ⟨rfl, hP, ho7, trivial⟩ dX13_line_83
          ·
            rcases Classical.em (k = 4) with h46 | h46
            · refine lv_tableIn (off := 72) (tgt := 84) hx hb dX13_line_12 (by rw [h46]; decide) (by rw [h46]; decide) (by rw [h46]; decide) (by decide) ?_
              have b47 : (k).toInt = 4 := by rw [h46]; decide
              refine lv_aload_n hx hb dX13_line_84 rfl (lv_at hl 0 rfl) ?_
              refine hp_get (v := .ref (q + 14)) hx hb hts hown hZ ho7 fl_X13_41 rfl dX13_line_85 ?_
              refine lv_iload_n hx hb dX13_line_88 rfl (lv_at hl 1 rfl) ?_
              obtain ⟨hN50, g49, eV48, hf51⟩ := hq_o21 hP.1 (hr_14 hR)
              refine hp_iald hx hb hZ eV48 (hq_in (by omega) (by omega)) dX13_line_89 ?_
              refine lv_topi (fun y52 ey53 => ?_)
              have b54 : hq_ir (hq_lo 1) (hq_hi 1) y52 := by rw [ey53]; exact hf51 _ (hq_ix (by omega) (by omega))
              have b54 : 0 ≤ (y52).toInt ∧ (y52).toInt ≤ 8 := b54
              exact hp_iret hx hb hr hlocks hZ ⟨rfl, hP, ho7, trivial⟩ dX13_line_90
            ·
              rcases Classical.em (k = 5) with h55 | h55
              · refine lv_tableIn (off := 79) (tgt := 91) hx hb dX13_line_12 (by rw [h55]; decide) (by rw [h55]; decide) (by rw [h55]; decide) (by decide) ?_
                have b56 : (k).toInt = 5 := by rw [h55]; decide
                refine lv_aload_n hx hb dX13_line_91 rfl (lv_at hl 0 rfl) ?_
                refine hp_get (v := .ref (q + 15)) hx hb hts hown hZ ho7 fl_X13_44 rfl dX13_line_92 ?_
                refine lv_iload_n hx hb dX13_line_95 rfl (lv_at hl 1 rfl) ?_
                obtain ⟨hN59, g58, eV57, hf60⟩ := hq_o21 hP.1 (hr_15 hR)
                refine hp_iald hx hb hZ eV57 (hq_in (by omega) (by omega)) dX13_line_96 ?_
                refine lv_topi (fun y61 ey62 => ?_)
                have b63 : hq_ir (hq_lo 1) (hq_hi 1) y61 := by rw [ey62]; exact hf60 _ (hq_ix (by omega) (by omega))
                have b63 : 0 ≤ (y61).toInt ∧ (y61).toInt ≤ 8 := b63
                exact hp_iret hx hb hr hlocks hZ ⟨rfl, hP, ho7, trivial⟩ dX13_line_97
              ·
                rcases Classical.em (k = 6) with h64 | h64
                · refine lv_tableIn (off := 86) (tgt := 98) hx hb dX13_line_12 (by rw [h64]; decide) (by rw [h64]; decide) (by rw [h64]; decide) (by decide) ?_
                  have b65 : (k).toInt = 6 := by rw [h64]; decide
                  refine lv_aload_n hx hb dX13_line_98 rfl (lv_at hl 0 rfl) ?_
                  refine hp_get (v := .ref (q + 16)) hx hb hts hown hZ ho7 fl_X13_47 rfl dX13_line_99 ?_
                  refine lv_iload_n hx hb dX13_line_102 rfl (lv_at hl 1 rfl) ?_
                  obtain ⟨hN68, g67, eV66, hf69⟩ := hq_o21 hP.1 (hr_16 hR)
                  refine hp_iald hx hb hZ eV66 (hq_in (by omega) (by omega)) dX13_line_103 ?_
                  refine lv_topi (fun y70 ey71 => ?_)
                  have b72 : hq_ir (hq_lo 3) (hq_hi 3) y70 := by rw [ey71]; exact hf69 _ (hq_ix (by omega) (by omega))
                  have b72 : 0 ≤ (y70).toInt ∧ (y70).toInt ≤ 29 := b72
                  exact hp_iret hx hb hr hlocks hZ ⟨rfl, hP, ho7, trivial⟩ dX13_line_104
                ·
                  have z73 : ¬ (k).toInt = 0 := lv_neT h10 (by decide)
                  have z74 : ¬ (k).toInt = 1 := lv_neT h19 (by decide)
                  have z75 : ¬ (k).toInt = 2 := lv_neT h28 (by decide)
                  have z76 : ¬ (k).toInt = 3 := lv_neT h37 (by decide)
                  have z77 : ¬ (k).toInt = 4 := lv_neT h46 (by decide)
                  have z78 : ¬ (k).toInt = 5 := lv_neT h55 (by decide)
                  have z79 : ¬ (k).toInt = 6 := lv_neT h64 (by decide)
                  refine lv_tableOut (tgt := 105) hx hb dX13_line_12 (by omega) (by decide) ?_
                  refine lv_bipush (v := -9) hx hb dX13_line_105 (by decide) ?_
                  exact hp_iret hx hb hr hlocks hZ ⟨rfl, hP, ho7, trivial⟩ dX13_line_107
  · have c9 : (r4).toInt = (0 : Int) := hq_eqi.mp c9
    refine lv_bipush (v := -9) hx hb dX13_line_8 (by decide) ?_
    exact hp_iret hx hb hr hlocks hZ ⟨rfl, hP, ho7, trivial⟩ dX13_line_10

set_option maxHeartbeats 4000000 in
set_option maxRecDepth 100000 in
theorem t_X13_rivals (l : Launch) (D : va_G) (cs : Nat → ClassId) (B : Nat) (G : hq_G) (V : hp_V) (n : Nat) (hI : hq_I cs G V) (q : Nat) (hR : hq_RT G q) (mo : Nat) (h_mo : G mo = some (24, 0, 0, 0)) (v : Int32) (te : Int32) (pe : Int32) {m_tp m_sz m_fr m_bh m_hd m_ft m_fa m_le m_fo m_as m_fd m_bc m_bg m_bs m_be m_b0 m_b1 m_cm m_hc : Int32} (ho_mo : V mo = some (.inr (13, hm_o q (m_tp) (m_sz) (m_fr) (m_bh) (m_hd) (m_ft) (m_fa) (m_le) (m_fo) (m_as) (m_fd) (m_bc) (m_bg) (m_bs) (m_be) (m_b0) (m_b1) (m_cm) (m_hc)))) (hi_mo0 : 0 ≤ m_tp.toInt ∧ m_tp.toInt ≤ 4000) (hi_mo1 : 0 ≤ m_sz.toInt ∧ m_sz.toInt ≤ 4000) (hi_mo2 : 0 ≤ m_le.toInt ∧ m_le.toInt ≤ 276) (hi_mo3 : 0 ≤ m_fo.toInt ∧ m_fo.toInt ≤ 4) (hi_mo4 : 0 ≤ m_as.toInt ∧ m_as.toInt ≤ 4000) (hi_mo5 : 0 ≤ m_fd.toInt ∧ m_fd.toInt ≤ 900) (hi_mo6 : 0 ≤ m_cm.toInt ∧ m_cm.toInt ≤ 2) (hi_mo7 : 0 ≤ m_hc.toInt ∧ m_hc.toInt ≤ 1) : hp_M l yX13_rivals cX13_rivals 4 (some .int) ({ frames := 4, cells := 0, slots := 0, locals := 90 }) D cs B V n [.ref (mo), .int (v), .int (te), .int (pe)] (hp_QI D cs B (fun r V' n' => n = n' ∧ hq_P cs G (fun _ => false) V V' ∧ (V' mo = some (.inr (13, hm_o q (m_tp) (m_sz) (m_fr) (m_bh) (m_hd) (m_ft) (m_fa) (m_le) (m_fo) (m_as) (m_fd) (m_bc) (m_bg) (m_bs) (m_be) (m_b0) (m_b1) (m_cm) (m_hc)))) ∧ True)) 0 0 := by
  refine hp_walk (R0 := RX13) (by decide) rfl ?_ (Nat.le_of_ble_eq_true rfl)
  intro p e s m below meth c ls hx hb hr hts hown hlocks hin hml hZ hl
  have hP : hq_P cs G (fun _ => false) V V := hq_P.rf hI
  have hl : lv_has ls 4 [(0, .ref (mo)), (1, .int (v)), (2, .int (te)), (3, .int (pe))] := hl
  have hb_v := hq_rng v
  have hb_te := hq_rng te
  have hb_pe := hq_rng pe
  have hb_m_tp := hq_rng m_tp
  have hb_m_sz := hq_rng m_sz
  have hb_m_fr := hq_rng m_fr
  have hb_m_bh := hq_rng m_bh
  have hb_m_hd := hq_rng m_hd
  have hb_m_ft := hq_rng m_ft
  have hb_m_fa := hq_rng m_fa
  have hb_m_le := hq_rng m_le
  have hb_m_fo := hq_rng m_fo
  have hb_m_as := hq_rng m_as
  have hb_m_fd := hq_rng m_fd
  have hb_m_bc := hq_rng m_bc
  have hb_m_bg := hq_rng m_bg
  have hb_m_bs := hq_rng m_bs
  have hb_m_be := hq_rng m_be
  have hb_m_b0 := hq_rng m_b0
  have hb_m_b1 := hq_rng m_b1
  have hb_m_cm := hq_rng m_cm
  have hb_m_hc := hq_rng m_hc
  refine lv_aload_n hx hb dX13_rivals_0 rfl (lv_at hl 0 rfl) ?_
  refine lv_iload_n hx hb dX13_rivals_1 rfl (lv_at hl 1 rfl) ?_
  refine lv_iload_n hx hb dX13_rivals_2 rfl (lv_at hl 2 rfl) ?_
  refine lv_iload_n hx hb dX13_rivals_3 rfl (lv_at hl 3 rfl) ?_
  refine hp_calli (hp_runV (As := [.int (v), .int (te), .int (pe)]) (rest := []) hx hb hml hown hts (t_X13_isPlace l D cs B G  V n hP.1 q hR (mo) h_mo (v) (te) (pe) ho_mo  (by omega) (by omega) (by omega) (by omega) (by omega) (by omega) (by omega) (by omega) ) hZ ho_mo cv_X13_380 rfl rfl ⟨Nat.le_of_ble_eq_true rfl, Nat.le_of_ble_eq_true rfl⟩ rfl hl.1 rfl (Nat.le_of_ble_eq_true rfl) dX13_rivals_4 ⟨(Nat.le_of_ble_eq_true rfl), (Nat.le_of_ble_eq_true rfl)⟩) hZ (fun r4 V1 n2 _ _ hw3 hZ => ?_)
  obtain ⟨rfl, hq5, ho7, hr6⟩ := hw3
  have hP := hP.trans hq5 (fun _ _ => rfl)
  have b8 := hq_rng r4
  refine lv_if_eq (tgt := 21) hx hb dX13_rivals_7 (by decide) (fun c9 => ?_) (fun c9 => ?_)
  · have c9 : (r4).toInt = (0 : Int) := hq_eqi.mp c9
    refine lv_bipush (v := -2) hx hb dX13_rivals_21 (by decide) ?_
    exact hp_iret hx hb hr hlocks hZ ⟨rfl, hP, ho7, trivial⟩ dX13_rivals_23
  · have c9 : ¬ (r4).toInt = (0 : Int) := fun h9 => c9 (hq_eqi.mpr h9)
    refine lv_aload_n hx hb dX13_rivals_10 rfl (lv_at hl 0 rfl) ?_
    refine lv_iconst (v := 1) hx hb dX13_rivals_11 (by decide) ?_
    refine lv_iload_n hx hb dX13_rivals_12 rfl (lv_at hl 1 rfl) ?_
    refine lv_iload_n hx hb dX13_rivals_13 rfl (lv_at hl 2 rfl) ?_
    refine lv_iload_n hx hb dX13_rivals_14 rfl (lv_at hl 3 rfl) ?_
    have hl17 : (1 : Int32).toInt = 1 := by decide
    refine hp_calli (hp_runV (As := [.int (1), .int (v), .int (te), .int (pe)]) (rest := []) hx hb hml hown hts (t_X13_manyOf l D cs B G  V1 n hP.1 q hR (mo) h_mo (1) (v) (te) (pe) ho7  (by omega) (by omega) (by omega) (by omega) (by omega) (by omega) (by omega) (by omega) (by omega) (by omega)) hZ ho7 cv_X13_386 rfl rfl ⟨Nat.le_of_ble_eq_true rfl, Nat.le_of_ble_eq_true rfl⟩ rfl hl.1 rfl (Nat.le_of_ble_eq_true rfl) dX13_rivals_15 ⟨(Nat.le_of_ble_eq_true rfl), (Nat.le_of_ble_eq_true rfl)⟩) hZ (fun r13 V10 n11 _ _ hw12 hZ => ?_)
    obtain ⟨rfl, hq14, ho16, hr15⟩ := hw12
    have hP := hP.trans hq14 (fun _ _ => rfl)
    have b18 := hq_rng r13
    refine lv_goto (tgt := 23) hx hb dX13_rivals_18 (by decide) ?_
    exact hp_iret hx hb hr hlocks hZ ⟨rfl, hP, ho16, trivial⟩ dX13_rivals_23

set_option maxHeartbeats 4000000 in
set_option maxRecDepth 100000 in
theorem t_X13_misses (l : Launch) (D : va_G) (cs : Nat → ClassId) (B : Nat) (G : hq_G) (V : hp_V) (n : Nat) (hI : hq_I cs G V) (q : Nat) (hR : hq_RT G q) (mo : Nat) (h_mo : G mo = some (24, 0, 0, 0)) (k : Int32) (k1 : Int32) {m_tp m_sz m_fr m_bh m_hd m_ft m_fa m_le m_fo m_as m_fd m_bc m_bg m_bs m_be m_b0 m_b1 m_cm m_hc : Int32} (ho_mo : V mo = some (.inr (13, hm_o q (m_tp) (m_sz) (m_fr) (m_bh) (m_hd) (m_ft) (m_fa) (m_le) (m_fo) (m_as) (m_fd) (m_bc) (m_bg) (m_bs) (m_be) (m_b0) (m_b1) (m_cm) (m_hc)))) (hi_mo0 : 0 ≤ m_tp.toInt ∧ m_tp.toInt ≤ 4000) (hi_mo1 : 0 ≤ m_sz.toInt ∧ m_sz.toInt ≤ 4000) (hi_mo2 : 0 ≤ m_le.toInt ∧ m_le.toInt ≤ 276) (hi_mo3 : 0 ≤ m_fo.toInt ∧ m_fo.toInt ≤ 4) (hi_mo4 : 0 ≤ m_as.toInt ∧ m_as.toInt ≤ 4000) (hi_mo5 : 0 ≤ m_fd.toInt ∧ m_fd.toInt ≤ 900) (hi_mo6 : 0 ≤ m_cm.toInt ∧ m_cm.toInt ≤ 2) (hi_mo7 : 0 ≤ m_hc.toInt ∧ m_hc.toInt ≤ 1) : hp_M l yX13_misses cX13_misses 3 (some .int) ({ frames := 3, cells := 0, slots := 0, locals := 67 }) D cs B V n [.ref (mo), .int (k), .int (k1)] (hp_QI D cs B (fun r V' n' => n = n' ∧ hq_P cs G (fun _ => false) V V' ∧ (V' mo = some (.inr (13, hm_o q (m_tp) (m_sz) (m_fr) (m_bh) (m_hd) (m_ft) (m_fa) (m_le) (m_fo) (m_as) (m_fd) (m_bc) (m_bg) (m_bs) (m_be) (m_b0) (m_b1) (m_cm) (m_hc)))) ∧ True)) 0 0 := by
  refine hp_walk (R0 := RX13) (by decide) rfl ?_ (Nat.le_of_ble_eq_true rfl)
  intro p e s m below meth c ls hx hb hr hts hown hlocks hin hml hZ hl
  have hP : hq_P cs G (fun _ => false) V V := hq_P.rf hI
  have hl : lv_has ls 3 [(0, .ref (mo)), (1, .int (k)), (2, .int (k1))] := hl
  have hb_k := hq_rng k
  have hb_k1 := hq_rng k1
  have hb_m_tp := hq_rng m_tp
  have hb_m_sz := hq_rng m_sz
  have hb_m_fr := hq_rng m_fr
  have hb_m_bh := hq_rng m_bh
  have hb_m_hd := hq_rng m_hd
  have hb_m_ft := hq_rng m_ft
  have hb_m_fa := hq_rng m_fa
  have hb_m_le := hq_rng m_le
  have hb_m_fo := hq_rng m_fo
  have hb_m_as := hq_rng m_as
  have hb_m_fd := hq_rng m_fd
  have hb_m_bc := hq_rng m_bc
  have hb_m_bg := hq_rng m_bg
  have hb_m_bs := hq_rng m_bs
  have hb_m_be := hq_rng m_be
  have hb_m_b0 := hq_rng m_b0
  have hb_m_b1 := hq_rng m_b1
  have hb_m_cm := hq_rng m_cm
  have hb_m_hc := hq_rng m_hc
  refine lv_iload_n hx hb dX13_misses_0 rfl (lv_at hl 1 rfl) ?_
  refine hp_calli (hp_runS (As := [.int (k)]) (rest := []) hx hb hml hown hts (t_X13_isLearner l D cs B G  V n hP.1  (k) ) hZ cv_X13_456 rfl rfl ⟨Nat.le_of_ble_eq_true rfl, Nat.le_of_ble_eq_true rfl⟩ rfl hl.1 rfl (Nat.le_of_ble_eq_true rfl) dX13_misses_1 ⟨(Nat.le_of_ble_eq_true rfl), (Nat.le_of_ble_eq_true rfl)⟩) hZ (fun r4 V1 n2 _ _ hw3 hZ => ?_)
  obtain ⟨rfl, hq5, hr6⟩ := hw3
  have hP := hP.trans hq5 (fun _ _ => rfl)
  have b7 := hq_rng r4
  refine lv_if_eq (tgt := 29) hx hb dX13_misses_4 (by decide) (fun c8 => ?_) (fun c8 => ?_)
  · have c8 : (r4).toInt = (0 : Int) := hq_eqi.mp c8
    refine lv_bipush (v := -2) hx hb dX13_misses_29 (by decide) ?_
    have fx9 : V1 (mo) = some (.inr (13, hm_o q (m_tp) (m_sz) (m_fr) (m_bh) (m_hd) (m_ft) (m_fa) (m_le) (m_fo) (m_as) (m_fd) (m_bc) (m_bg) (m_bs) (m_be) (m_b0) (m_b1) (m_cm) (m_hc))) := (hq5.2 (mo) _ h_mo rfl).trans (ho_mo)
    exact hp_iret hx hb hr hlocks hZ ⟨rfl, hP, fx9, trivial⟩ dX13_misses_31
  · have c8 : ¬ (r4).toInt = (0 : Int) := fun h9 => c8 (hq_eqi.mpr h9)
    refine lv_aload_n hx hb dX13_misses_7 rfl (lv_at hl 0 rfl) ?_
    refine lv_iload_n hx hb dX13_misses_8 rfl (lv_at hl 2 rfl) ?_
    have fx16 : V1 (mo) = some (.inr (13, hm_o q (m_tp) (m_sz) (m_fr) (m_bh) (m_hd) (m_ft) (m_fa) (m_le) (m_fo) (m_as) (m_fd) (m_bc) (m_bg) (m_bs) (m_be) (m_b0) (m_b1) (m_cm) (m_hc))) := (hq5.2 (mo) _ h_mo rfl).trans (ho_mo)
    refine hp_calli (hp_runV (As := [.int (k1)]) (rest := []) hx hb hml hown hts (t_X13_isLine l D cs B G  V1 n hP.1 q hR (mo) h_mo (k1) fx16  (by omega) (by omega) (by omega) (by omega) (by omega) (by omega) (by omega) (by omega) ) hZ fx16 cv_X13_324 rfl rfl ⟨Nat.le_of_ble_eq_true rfl, Nat.le_of_ble_eq_true rfl⟩ rfl hl.1 rfl (Nat.le_of_ble_eq_true rfl) dX13_misses_9 ⟨(Nat.le_of_ble_eq_true rfl), (Nat.le_of_ble_eq_true rfl)⟩) hZ (fun r13 V10 n11 _ _ hw12 hZ => ?_)
    obtain ⟨rfl, hq14, ho17, hr15⟩ := hw12
    have hP := hP.trans hq14 (fun _ _ => rfl)
    have b18 := hq_rng r13
    refine lv_if_eq (tgt := 29) hx hb dX13_misses_12 (by decide) (fun c19 => ?_) (fun c19 => ?_)
    · have c19 : (r13).toInt = (0 : Int) := hq_eqi.mp c19
      refine lv_bipush (v := -2) hx hb dX13_misses_29 (by decide) ?_
      exact hp_iret hx hb hr hlocks hZ ⟨rfl, hP, ho17, trivial⟩ dX13_misses_31
    · have c19 : ¬ (r13).toInt = (0 : Int) := fun h9 => c19 (hq_eqi.mpr h9)
      refine lv_aload_n hx hb dX13_misses_15 rfl (lv_at hl 0 rfl) ?_
      refine hp_get (v := .ref (q + 42)) hx hb hts hown hZ ho17 fl_X13_277 rfl dX13_misses_16 ?_
      refine lv_bipush (v := 60) hx hb dX13_misses_19 (by decide) ?_
      refine lv_iload_n hx hb dX13_misses_21 rfl (lv_at hl 1 rfl) ?_
      refine lv_imul hx hb dX13_misses_22 ?_
      refine lv_topi (fun y20 ey21 => ?_)
      obtain ⟨k22, hk23, b24, b25⟩ := hq_mul (60) (k)
      rw [← ey21] at hk23 b24 b25
      have hk23 : (y20).toInt = (60 : Int) * (k).toInt + k22 * 4294967296 := hk23
      obtain rfl : k22 = 0 := by omega
      refine lv_iload_n hx hb dX13_misses_23 rfl (lv_at hl 2 rfl) ?_
      refine lv_iadd hx hb dX13_misses_24 ?_
      refine lv_topi (fun y26 ey27 => ?_)
      obtain ⟨k28, hk29, b30, b31⟩ := hq_add (y20) (k1)
      rw [← ey27] at hk29 b30 b31
      have hk29 : (y26).toInt = (y20).toInt + (k1).toInt + k28 * 4294967296 := hk29
      obtain rfl : k28 = 0 := by omega
      obtain ⟨hN34, g33, eV32, hf35⟩ := hq_o21 hP.1 (hr_42 hR)
      refine hp_iald hx hb hZ eV32 (hq_in (by omega) (by omega)) dX13_misses_25 ?_
      refine lv_topi (fun y36 ey37 => ?_)
      have b38 := hq_rng y36
      refine lv_goto (tgt := 31) hx hb dX13_misses_26 (by decide) ?_
      exact hp_iret hx hb hr hlocks hZ ⟨rfl, hP, ho17, trivial⟩ dX13_misses_31

set_option maxHeartbeats 4000000 in
set_option maxRecDepth 100000 in
theorem t_X13_place (l : Launch) (D : va_G) (cs : Nat → ClassId) (B : Nat) (G : hq_G) (V : hp_V) (n : Nat) (hI : hq_I cs G V) (q : Nat) (hR : hq_RT G q) (mo : Nat) (h_mo : G mo = some (24, 0, 0, 0)) (k : Int32) (k1 : Int32) {m_tp m_sz m_fr m_bh m_hd m_ft m_fa m_le m_fo m_as m_fd m_bc m_bg m_bs m_be m_b0 m_b1 m_cm m_hc : Int32} (ho_mo : V mo = some (.inr (13, hm_o q (m_tp) (m_sz) (m_fr) (m_bh) (m_hd) (m_ft) (m_fa) (m_le) (m_fo) (m_as) (m_fd) (m_bc) (m_bg) (m_bs) (m_be) (m_b0) (m_b1) (m_cm) (m_hc)))) (hi_mo0 : 0 ≤ m_tp.toInt ∧ m_tp.toInt ≤ 4000) (hi_mo1 : 0 ≤ m_sz.toInt ∧ m_sz.toInt ≤ 4000) (hi_mo2 : 0 ≤ m_le.toInt ∧ m_le.toInt ≤ 276) (hi_mo3 : 0 ≤ m_fo.toInt ∧ m_fo.toInt ≤ 4) (hi_mo4 : 0 ≤ m_as.toInt ∧ m_as.toInt ≤ 4000) (hi_mo5 : 0 ≤ m_fd.toInt ∧ m_fd.toInt ≤ 900) (hi_mo6 : 0 ≤ m_cm.toInt ∧ m_cm.toInt ≤ 2) (hi_mo7 : 0 ≤ m_hc.toInt ∧ m_hc.toInt ≤ 1) : hp_M l yX13_place cX13_place 3 (some .int) ({ frames := 2, cells := 0, slots := 0, locals := 46 }) D cs B V n [.ref (mo), .int (k), .int (k1)] (hp_QI D cs B (fun r V' n' => n = n' ∧ hq_P cs G (fun _ => false) V V' ∧ (V' mo = some (.inr (13, hm_o q (m_tp) (m_sz) (m_fr) (m_bh) (m_hd) (m_ft) (m_fa) (m_le) (m_fo) (m_as) (m_fd) (m_bc) (m_bg) (m_bs) (m_be) (m_b0) (m_b1) (m_cm) (m_hc)))) ∧ True)) 0 0 := by
  refine hp_walk (R0 := RX13) (by decide) rfl ?_ (Nat.le_of_ble_eq_true rfl)
  intro p e s m below meth c ls hx hb hr hts hown hlocks hin hml hZ hl
  have hP : hq_P cs G (fun _ => false) V V := hq_P.rf hI
  have hl : lv_has ls 3 [(0, .ref (mo)), (1, .int (k)), (2, .int (k1))] := hl
  have hb_k := hq_rng k
  have hb_k1 := hq_rng k1
  have hb_m_tp := hq_rng m_tp
  have hb_m_sz := hq_rng m_sz
  have hb_m_fr := hq_rng m_fr
  have hb_m_bh := hq_rng m_bh
  have hb_m_hd := hq_rng m_hd
  have hb_m_ft := hq_rng m_ft
  have hb_m_fa := hq_rng m_fa
  have hb_m_le := hq_rng m_le
  have hb_m_fo := hq_rng m_fo
  have hb_m_as := hq_rng m_as
  have hb_m_fd := hq_rng m_fd
  have hb_m_bc := hq_rng m_bc
  have hb_m_bg := hq_rng m_bg
  have hb_m_bs := hq_rng m_bs
  have hb_m_be := hq_rng m_be
  have hb_m_b0 := hq_rng m_b0
  have hb_m_b1 := hq_rng m_b1
  have hb_m_cm := hq_rng m_cm
  have hb_m_hc := hq_rng m_hc
  refine lv_iload_n hx hb dX13_place_0 rfl (lv_at hl 1 rfl) ?_
  refine lv_i2l (v := (k).toInt64) hx hb dX13_place_1 rfl ?_
  refine lv_topl (fun y1 ey2 => ?_)
  have b3 : (y1).toInt = (k).toInt := by rw [ey2]; exact hm_i2l _
  refine lv_lconst (v := 0) hx hb dX13_place_2 (by decide) ?_
  refine lv_aload_n hx hb dX13_place_3 rfl (lv_at hl 0 rfl) ?_
  refine hp_get (v := .int (m_fd)) hx hb hts hown hZ ho_mo fl_X13_310 rfl dX13_place_4 ?_
  refine lv_bipush (v := 60) hx hb dX13_place_7 (by decide) ?_
  refine va_mmin hx hb (hml.trans hl.1.symm) hown (hts _ lk_X13_401) (hts _ ms_min) (hts _ mi_math) (hts _ mk_min) (Nat.le_of_ble_eq_true rfl) (Nat.le_of_ble_eq_true rfl) (Nat.zero_le _) (Nat.zero_le _) dX13_place_9 ?_
  refine lv_topi (fun y4 ey5 => ?_)
  have b6 := hm_mn (m_fd) (60)
  rw [← ey5] at b6
  have b7 : (60 : Int32).toInt = 60 := by decide
  refine lv_i2l (v := (y4).toInt64) hx hb dX13_place_12 rfl ?_
  refine lv_topl (fun y8 ey9 => ?_)
  have b10 : (y8).toInt = (y4).toInt := by rw [ey9]; exact hm_i2l _
  refine lv_lconst (v := 1) hx hb dX13_place_13 (by decide) ?_
  refine lv_lsub hx hb dX13_place_14 ?_
  refine lv_topl (fun y11 ey12 => ?_)
  have b14 : (1 : Int64).toInt = 1 := by decide
  have b13 : (y11).toInt = (y8).toInt - (1 : Int) := by rw [ey12]; exact hm_lsub _ _ (by omega) (by omega)
  have hl21 : (0 : Int64).toInt = 0 := by decide
  refine hp_calli (hp_runS (As := [.long (y1), .long (0), .long (y11)]) (rest := []) hx hb hml hown hts (t_X13_in l D cs B G  V n hP.1  (y1) (0) (y11) ) hZ cv_X13_301 rfl rfl ⟨Nat.le_of_ble_eq_true rfl, Nat.le_of_ble_eq_true rfl⟩ rfl hl.1 rfl (Nat.le_of_ble_eq_true rfl) dX13_place_15 ⟨(Nat.le_of_ble_eq_true rfl), (Nat.le_of_ble_eq_true rfl)⟩) hZ (fun r18 V15 n16 _ _ hw17 hZ => ?_)
  obtain ⟨rfl, hq19, hr20⟩ := hw17
  have hP := hP.trans hq19 (fun _ _ => rfl)
  have b22 := hq_rng r18
  refine lv_if_ne (tgt := 23) hx hb dX13_place_18 (by decide) (fun c23 => ?_) (fun c23 => ?_)
  · have c23 : ¬ (r18).toInt = (0 : Int) := fun h9 => c23 (hq_eqi.mpr h9)
    refine lv_iload_n hx hb dX13_place_23 rfl (lv_at hl 2 rfl) ?_
    refine lv_if_ne (tgt := 36) hx hb dX13_place_24 (by decide) (fun c24 => ?_) (fun c24 => ?_)
    · have c24 : ¬ (k1).toInt = (0 : Int) := fun h9 => c24 (hq_eqi.mpr h9)
      refine lv_iload_n hx hb dX13_place_36 rfl (lv_at hl 2 rfl) ?_
      refine lv_iconst (v := 1) hx hb dX13_place_37 (by decide) ?_
      refine lv_icmp_ne (tgt := 50) hx hb dX13_place_38 (by decide) (fun c25 => ?_) (fun c25 => ?_)
      · have c25 : ¬ (k1).toInt = (1 : Int) := fun h9 => c25 (hq_eqi.mpr h9)
        refine lv_iload_n hx hb dX13_place_50 rfl (lv_at hl 2 rfl) ?_
        refine lv_iconst (v := 2) hx hb dX13_place_51 (by decide) ?_
        refine lv_icmp_ne (tgt := 64) hx hb dX13_place_52 (by decide) (fun c26 => ?_) (fun c26 => ?_)
        · have c26 : ¬ (k1).toInt = (2 : Int) := fun h9 => c26 (hq_eqi.mpr h9)
          refine lv_iconst (v := -1) hx hb dX13_place_64 (by decide) ?_
          have fx27 : V15 (mo) = some (.inr (13, hm_o q (m_tp) (m_sz) (m_fr) (m_bh) (m_hd) (m_ft) (m_fa) (m_le) (m_fo) (m_as) (m_fd) (m_bc) (m_bg) (m_bs) (m_be) (m_b0) (m_b1) (m_cm) (m_hc))) := (hq19.2 (mo) _ h_mo rfl).trans (ho_mo)
          exact hp_iret hx hb hr hlocks hZ ⟨rfl, hP, fx27, trivial⟩ dX13_place_65
        · have c26 : (k1).toInt = (2 : Int) := hq_eqi.mp c26
          refine lv_aload_n hx hb dX13_place_55 rfl (lv_at hl 0 rfl) ?_
          have fx28 : V15 (mo) = some (.inr (13, hm_o q (m_tp) (m_sz) (m_fr) (m_bh) (m_hd) (m_ft) (m_fa) (m_le) (m_fo) (m_as) (m_fd) (m_bc) (m_bg) (m_bs) (m_be) (m_b0) (m_b1) (m_cm) (m_hc))) := (hq19.2 (mo) _ h_mo rfl).trans (ho_mo)
          refine hp_get (v := .ref (q + 40)) hx hb hts hown hZ fx28 fl_X13_271 rfl dX13_place_56 ?_
          refine lv_iload_n hx hb dX13_place_59 rfl (lv_at hl 1 rfl) ?_
          obtain ⟨hN31, g30, eV29, hf32⟩ := hq_o21 hP.1 (hr_40 hR)
          refine hp_iald hx hb hZ eV29 (hq_in (by omega) (by omega)) dX13_place_60 ?_
          refine lv_topi (fun y33 ey34 => ?_)
          have b35 := hq_rng y33
          refine lv_goto (tgt := 65) hx hb dX13_place_61 (by decide) ?_
          exact hp_iret hx hb hr hlocks hZ ⟨rfl, hP, fx28, trivial⟩ dX13_place_65
      · have c25 : (k1).toInt = (1 : Int) := hq_eqi.mp c25
        refine lv_aload_n hx hb dX13_place_41 rfl (lv_at hl 0 rfl) ?_
        have fx36 : V15 (mo) = some (.inr (13, hm_o q (m_tp) (m_sz) (m_fr) (m_bh) (m_hd) (m_ft) (m_fa) (m_le) (m_fo) (m_as) (m_fd) (m_bc) (m_bg) (m_bs) (m_be) (m_b0) (m_b1) (m_cm) (m_hc))) := (hq19.2 (mo) _ h_mo rfl).trans (ho_mo)
        refine hp_get (v := .ref (q + 39)) hx hb hts hown hZ fx36 fl_X13_268 rfl dX13_place_42 ?_
        refine lv_iload_n hx hb dX13_place_45 rfl (lv_at hl 1 rfl) ?_
        obtain ⟨hN39, g38, eV37, hf40⟩ := hq_o21 hP.1 (hr_39 hR)
        refine hp_iald hx hb hZ eV37 (hq_in (by omega) (by omega)) dX13_place_46 ?_
        refine lv_topi (fun y41 ey42 => ?_)
        have b43 := hq_rng y41
        refine lv_goto (tgt := 65) hx hb dX13_place_47 (by decide) ?_
        exact hp_iret hx hb hr hlocks hZ ⟨rfl, hP, fx36, trivial⟩ dX13_place_65
    · have c24 : (k1).toInt = (0 : Int) := hq_eqi.mp c24
      refine lv_aload_n hx hb dX13_place_27 rfl (lv_at hl 0 rfl) ?_
      have fx44 : V15 (mo) = some (.inr (13, hm_o q (m_tp) (m_sz) (m_fr) (m_bh) (m_hd) (m_ft) (m_fa) (m_le) (m_fo) (m_as) (m_fd) (m_bc) (m_bg) (m_bs) (m_be) (m_b0) (m_b1) (m_cm) (m_hc))) := (hq19.2 (mo) _ h_mo rfl).trans (ho_mo)
      refine hp_get (v := .ref (q + 38)) hx hb hts hown hZ fx44 fl_X13_265 rfl dX13_place_28 ?_
      refine lv_iload_n hx hb dX13_place_31 rfl (lv_at hl 1 rfl) ?_
      obtain ⟨hN47, g46, eV45, hf48⟩ := hq_o21 hP.1 (hr_38 hR)
      refine hp_iald hx hb hZ eV45 (hq_in (by omega) (by omega)) dX13_place_32 ?_
      refine lv_topi (fun y49 ey50 => ?_)
      have b51 := hq_rng y49
      refine lv_goto (tgt := 65) hx hb dX13_place_33 (by decide) ?_
      exact hp_iret hx hb hr hlocks hZ ⟨rfl, hP, fx44, trivial⟩ dX13_place_65
  · have c23 : (r18).toInt = (0 : Int) := hq_eqi.mp c23
    refine lv_iconst (v := -1) hx hb dX13_place_21 (by decide) ?_
    have fx52 : V15 (mo) = some (.inr (13, hm_o q (m_tp) (m_sz) (m_fr) (m_bh) (m_hd) (m_ft) (m_fa) (m_le) (m_fo) (m_as) (m_fd) (m_bc) (m_bg) (m_bs) (m_be) (m_b0) (m_b1) (m_cm) (m_hc))) := (hq19.2 (mo) _ h_mo rfl).trans (ho_mo)
    exact hp_iret hx hb hr hlocks hZ ⟨rfl, hP, fx52, trivial⟩ dX13_place_22

set_option maxHeartbeats 4000000 in
set_option maxRecDepth 100000 in
theorem t_X13_forms (l : Launch) (D : va_G) (cs : Nat → ClassId) (B : Nat) (G : hq_G) (V : hp_V) (n : Nat) (hI : hq_I cs G V) (q : Nat) (hR : hq_RT G q) (mo : Nat) (h_mo : G mo = some (24, 0, 0, 0)) (v : Int32) (te : Int32) (pe : Int32) {m_tp m_sz m_fr m_bh m_hd m_ft m_fa m_le m_fo m_as m_fd m_bc m_bg m_bs m_be m_b0 m_b1 m_cm m_hc : Int32} (ho_mo : V mo = some (.inr (13, hm_o q (m_tp) (m_sz) (m_fr) (m_bh) (m_hd) (m_ft) (m_fa) (m_le) (m_fo) (m_as) (m_fd) (m_bc) (m_bg) (m_bs) (m_be) (m_b0) (m_b1) (m_cm) (m_hc)))) (hi_mo0 : 0 ≤ m_tp.toInt ∧ m_tp.toInt ≤ 4000) (hi_mo1 : 0 ≤ m_sz.toInt ∧ m_sz.toInt ≤ 4000) (hi_mo2 : 0 ≤ m_le.toInt ∧ m_le.toInt ≤ 276) (hi_mo3 : 0 ≤ m_fo.toInt ∧ m_fo.toInt ≤ 4) (hi_mo4 : 0 ≤ m_as.toInt ∧ m_as.toInt ≤ 4000) (hi_mo5 : 0 ≤ m_fd.toInt ∧ m_fd.toInt ≤ 900) (hi_mo6 : 0 ≤ m_cm.toInt ∧ m_cm.toInt ≤ 2) (hi_mo7 : 0 ≤ m_hc.toInt ∧ m_hc.toInt ≤ 1) (hH : hm_VQ cs V q 0 0) : hp_M l yX13_forms cX13_forms 4 (some .int) ({ frames := 6, cells := 0, slots := 0, locals := 150 }) D cs B V n [.ref (mo), .int (v), .int (te), .int (pe)] (hp_QI D cs B (fun r V' n' => n = n' ∧ hq_P cs G (fun g => g.1 == 1 || g.1 == 43 || g.1 == 44 || g.1 == 45) V V' ∧ (∃ (m_fo1 : Int32) (m_le1 : Int32), V' mo = some (.inr (13, hm_o q (m_tp) (m_sz) (m_fr) (m_bh) (m_hd) (m_ft) (m_fa) (m_le1) (m_fo1) (m_as) (m_fd) (m_bc) (m_bg) (m_bs) (m_be) (m_b0) (m_b1) (m_cm) (m_hc))) ∧ (0 ≤ m_le1.toInt ∧ m_le1.toInt ≤ 276) ∧ (0 ≤ m_fo1.toInt ∧ m_fo1.toInt ≤ 4)) ∧ True)) 0 0 := by
  refine hp_walk (R0 := RX13) (by decide) rfl ?_ (Nat.le_of_ble_eq_true rfl)
  intro p e s m below meth c ls hx hb hr hts hown hlocks hin hml hZ hl
  have hP : hq_P cs G (fun g => g.1 == 1 || g.1 == 43 || g.1 == 44 || g.1 == 45) V V := hq_P.rf hI
  have hl : lv_has ls 4 [(0, .ref (mo)), (1, .int (v)), (2, .int (te)), (3, .int (pe))] := hl
  have hb_v := hq_rng v
  have hb_te := hq_rng te
  have hb_pe := hq_rng pe
  have hb_m_tp := hq_rng m_tp
  have hb_m_sz := hq_rng m_sz
  have hb_m_fr := hq_rng m_fr
  have hb_m_bh := hq_rng m_bh
  have hb_m_hd := hq_rng m_hd
  have hb_m_ft := hq_rng m_ft
  have hb_m_fa := hq_rng m_fa
  have hb_m_le := hq_rng m_le
  have hb_m_fo := hq_rng m_fo
  have hb_m_as := hq_rng m_as
  have hb_m_fd := hq_rng m_fd
  have hb_m_bc := hq_rng m_bc
  have hb_m_bg := hq_rng m_bg
  have hb_m_bs := hq_rng m_bs
  have hb_m_be := hq_rng m_be
  have hb_m_b0 := hq_rng m_b0
  have hb_m_b1 := hq_rng m_b1
  have hb_m_cm := hq_rng m_cm
  have hb_m_hc := hq_rng m_hc
  refine lv_aload_n hx hb dX13_forms_0 rfl (lv_at hl 0 rfl) ?_
  refine lv_iload_n hx hb dX13_forms_1 rfl (lv_at hl 1 rfl) ?_
  refine lv_iload_n hx hb dX13_forms_2 rfl (lv_at hl 2 rfl) ?_
  refine lv_iload_n hx hb dX13_forms_3 rfl (lv_at hl 3 rfl) ?_
  refine hp_calli (hp_runV (As := [.int (v), .int (te), .int (pe)]) (rest := []) hx hb hml hown hts (t_X13_isPlace l D cs B G  V n hP.1 q hR (mo) h_mo (v) (te) (pe) ho_mo  (by omega) (by omega) (by omega) (by omega) (by omega) (by omega) (by omega) (by omega) ) hZ ho_mo cv_X13_380 rfl rfl ⟨Nat.le_of_ble_eq_true rfl, Nat.le_of_ble_eq_true rfl⟩ rfl hl.1 rfl (Nat.le_of_ble_eq_true rfl) dX13_forms_4 ⟨(Nat.le_of_ble_eq_true rfl), (Nat.le_of_ble_eq_true rfl)⟩) hZ (fun r4 V1 n2 _ _ hw3 hZ => ?_)
  obtain ⟨rfl, hq5, ho7, hr6⟩ := hw3
  have hP := hP.trans hq5 (fun _ _ => rfl)
  have b8 := hq_rng r4
  refine lv_if_ne (tgt := 13) hx hb dX13_forms_7 (by decide) (fun c9 => ?_) (fun c9 => ?_)
  · have c9 : ¬ (r4).toInt = (0 : Int) := fun h9 => c9 (hq_eqi.mpr h9)
    refine lv_aload_n hx hb dX13_forms_13 rfl (lv_at hl 0 rfl) ?_
    refine lv_iload_n hx hb dX13_forms_14 rfl (lv_at hl 1 rfl) ?_
    refine lv_iload_n hx hb dX13_forms_15 rfl (lv_at hl 2 rfl) ?_
    refine lv_iload_n hx hb dX13_forms_16 rfl (lv_at hl 3 rfl) ?_
    obtain ⟨hN23, g22, eV21, hf24⟩ := hq_o21 hP.1 (hr_14 hR)
    obtain ⟨hN28, g27, eV26, hf29⟩ := hq_o21 hP.1 (hr_15 hR)
    obtain ⟨hN33, g32, eV31, hf34⟩ := hq_o21 hP.1 (hr_10 hR)
    obtain ⟨hN38, g37, eV36, hf39⟩ := hq_o21 hP.1 (hr_2 hR)
    refine hp_callv (hp_runV (As := [.int (v), .int (te), .int (pe)]) (rest := []) hx hb hml hown hts (t_X13_all l D cs B G  V1 n hP.1 q hR (mo) h_mo (v) (te) (pe) ho7  (by omega) (by omega) (by omega) (by omega) (by omega) (by omega) (by omega) (by omega) eV21 eV26 eV31 eV36 (by omega) (by omega) (hH.keep hR (fun x t hx hg => hP.2 x t hx (by simp [hg])))) hZ ho7 cv_X13_384 rfl rfl ⟨Nat.le_of_ble_eq_true rfl, Nat.le_of_ble_eq_true rfl⟩ rfl hl.1 rfl (Nat.le_of_ble_eq_true rfl) dX13_forms_17 ⟨(Nat.le_of_ble_eq_true rfl), (Nat.le_of_ble_eq_true rfl)⟩) hZ (fun V10 n11 _ _ hw12 hZ => ?_)
    obtain ⟨rfl, hq14, ⟨z16, z17, ho18, hi19, hi20⟩, ho25, ho30, ho35, ho40⟩ := hw12
    have hP := hP.trans hq14 (by intro g h; simp_all)
    have b41 := hq_rng z17
    have b42 := hq_rng z16
    refine lv_aload_n hx hb dX13_forms_20 rfl (lv_at hl 0 rfl) ?_
    refine hp_get (v := .int (z16)) hx hb hts hown hZ ho18 fl_X13_344 rfl dX13_forms_21 ?_
    exact hp_iret hx hb hr hlocks hZ ⟨rfl, hP, ⟨z16, z17, ho18, by omega, by omega⟩, trivial⟩ dX13_forms_24
  · have c9 : (r4).toInt = (0 : Int) := hq_eqi.mp c9
    refine lv_bipush (v := -2) hx hb dX13_forms_10 (by decide) ?_
    exact hp_iret hx hb hr hlocks hZ ⟨rfl, hP, ⟨m_fo, m_le, ho7, by omega, by omega⟩, trivial⟩ dX13_forms_12

set_option maxHeartbeats 4000000 in
set_option maxRecDepth 100000 in
theorem t_X13_form (l : Launch) (D : va_G) (cs : Nat → ClassId) (B : Nat) (G : hq_G) (V : hp_V) (n : Nat) (hI : hq_I cs G V) (q : Nat) (hR : hq_RT G q) (mo : Nat) (h_mo : G mo = some (24, 0, 0, 0)) (v : Int32) (te : Int32) (pe : Int32) (k : Int32) (k1 : Int32) {m_tp m_sz m_fr m_bh m_hd m_ft m_fa m_le m_fo m_as m_fd m_bc m_bg m_bs m_be m_b0 m_b1 m_cm m_hc : Int32} (ho_mo : V mo = some (.inr (13, hm_o q (m_tp) (m_sz) (m_fr) (m_bh) (m_hd) (m_ft) (m_fa) (m_le) (m_fo) (m_as) (m_fd) (m_bc) (m_bg) (m_bs) (m_be) (m_b0) (m_b1) (m_cm) (m_hc)))) (hi_mo0 : 0 ≤ m_tp.toInt ∧ m_tp.toInt ≤ 4000) (hi_mo1 : 0 ≤ m_sz.toInt ∧ m_sz.toInt ≤ 4000) (hi_mo2 : 0 ≤ m_le.toInt ∧ m_le.toInt ≤ 276) (hi_mo3 : 0 ≤ m_fo.toInt ∧ m_fo.toInt ≤ 4) (hi_mo4 : 0 ≤ m_as.toInt ∧ m_as.toInt ≤ 4000) (hi_mo5 : 0 ≤ m_fd.toInt ∧ m_fd.toInt ≤ 900) (hi_mo6 : 0 ≤ m_cm.toInt ∧ m_cm.toInt ≤ 2) (hi_mo7 : 0 ≤ m_hc.toInt ∧ m_hc.toInt ≤ 1) (hH : hm_VQ cs V q 0 0) : hp_M l yX13_form cX13_form 6 (some .int) ({ frames := 6, cells := 0, slots := 0, locals := 150 }) D cs B V n [.ref (mo), .int (v), .int (te), .int (pe), .int (k), .int (k1)] (hp_QI D cs B (fun r V' n' => n = n' ∧ hq_P cs G (fun g => g.1 == 1 || g.1 == 43 || g.1 == 44 || g.1 == 45) V V' ∧ (∃ (m_fo1 : Int32) (m_le1 : Int32), V' mo = some (.inr (13, hm_o q (m_tp) (m_sz) (m_fr) (m_bh) (m_hd) (m_ft) (m_fa) (m_le1) (m_fo1) (m_as) (m_fd) (m_bc) (m_bg) (m_bs) (m_be) (m_b0) (m_b1) (m_cm) (m_hc))) ∧ (0 ≤ m_le1.toInt ∧ m_le1.toInt ≤ 276) ∧ (0 ≤ m_fo1.toInt ∧ m_fo1.toInt ≤ 4)) ∧ True)) 0 0 := by
  refine hp_walk (R0 := RX13) (by decide) rfl ?_ (Nat.le_of_ble_eq_true rfl)
  intro p e s m below meth c ls hx hb hr hts hown hlocks hin hml hZ hl
  have hP : hq_P cs G (fun g => g.1 == 1 || g.1 == 43 || g.1 == 44 || g.1 == 45) V V := hq_P.rf hI
  have hl : lv_has ls 6 [(0, .ref (mo)), (1, .int (v)), (2, .int (te)), (3, .int (pe)), (4, .int (k)), (5, .int (k1))] := hl
  have hb_v := hq_rng v
  have hb_te := hq_rng te
  have hb_pe := hq_rng pe
  have hb_k := hq_rng k
  have hb_k1 := hq_rng k1
  have hb_m_tp := hq_rng m_tp
  have hb_m_sz := hq_rng m_sz
  have hb_m_fr := hq_rng m_fr
  have hb_m_bh := hq_rng m_bh
  have hb_m_hd := hq_rng m_hd
  have hb_m_ft := hq_rng m_ft
  have hb_m_fa := hq_rng m_fa
  have hb_m_le := hq_rng m_le
  have hb_m_fo := hq_rng m_fo
  have hb_m_as := hq_rng m_as
  have hb_m_fd := hq_rng m_fd
  have hb_m_bc := hq_rng m_bc
  have hb_m_bg := hq_rng m_bg
  have hb_m_bs := hq_rng m_bs
  have hb_m_be := hq_rng m_be
  have hb_m_b0 := hq_rng m_b0
  have hb_m_b1 := hq_rng m_b1
  have hb_m_cm := hq_rng m_cm
  have hb_m_hc := hq_rng m_hc
  refine lv_aload_n hx hb dX13_form_0 rfl (lv_at hl 0 rfl) ?_
  refine lv_iload_n hx hb dX13_form_1 rfl (lv_at hl 1 rfl) ?_
  refine lv_iload_n hx hb dX13_form_2 rfl (lv_at hl 2 rfl) ?_
  refine lv_iload_n hx hb dX13_form_3 rfl (lv_at hl 3 rfl) ?_
  refine hp_calli (hp_runV (As := [.int (v), .int (te), .int (pe)]) (rest := []) hx hb hml hown hts (t_X13_isPlace l D cs B G  V n hP.1 q hR (mo) h_mo (v) (te) (pe) ho_mo  (by omega) (by omega) (by omega) (by omega) (by omega) (by omega) (by omega) (by omega) ) hZ ho_mo cv_X13_380 rfl rfl ⟨Nat.le_of_ble_eq_true rfl, Nat.le_of_ble_eq_true rfl⟩ rfl hl.1 rfl (Nat.le_of_ble_eq_true rfl) dX13_form_4 ⟨(Nat.le_of_ble_eq_true rfl), (Nat.le_of_ble_eq_true rfl)⟩) hZ (fun r4 V1 n2 _ _ hw3 hZ => ?_)
  obtain ⟨rfl, hq5, ho7, hr6⟩ := hw3
  have hP := hP.trans hq5 (fun _ _ => rfl)
  have b8 := hq_rng r4
  refine lv_if_ne (tgt := 12) hx hb dX13_form_7 (by decide) (fun c9 => ?_) (fun c9 => ?_)
  · have c9 : ¬ (r4).toInt = (0 : Int) := fun h9 => c9 (hq_eqi.mpr h9)
    refine lv_aload_n hx hb dX13_form_12 rfl (lv_at hl 0 rfl) ?_
    refine lv_iload_n hx hb dX13_form_13 rfl (lv_at hl 1 rfl) ?_
    refine lv_iload_n hx hb dX13_form_14 rfl (lv_at hl 2 rfl) ?_
    refine lv_iload_n hx hb dX13_form_15 rfl (lv_at hl 3 rfl) ?_
    obtain ⟨hN23, g22, eV21, hf24⟩ := hq_o21 hP.1 (hr_14 hR)
    obtain ⟨hN28, g27, eV26, hf29⟩ := hq_o21 hP.1 (hr_15 hR)
    obtain ⟨hN33, g32, eV31, hf34⟩ := hq_o21 hP.1 (hr_10 hR)
    obtain ⟨hN38, g37, eV36, hf39⟩ := hq_o21 hP.1 (hr_2 hR)
    refine hp_callv (hp_runV (As := [.int (v), .int (te), .int (pe)]) (rest := []) hx hb hml hown hts (t_X13_all l D cs B G  V1 n hP.1 q hR (mo) h_mo (v) (te) (pe) ho7  (by omega) (by omega) (by omega) (by omega) (by omega) (by omega) (by omega) (by omega) eV21 eV26 eV31 eV36 (by omega) (by omega) (hH.keep hR (fun x t hx hg => hP.2 x t hx (by simp [hg])))) hZ ho7 cv_X13_384 rfl rfl ⟨Nat.le_of_ble_eq_true rfl, Nat.le_of_ble_eq_true rfl⟩ rfl hl.1 rfl (Nat.le_of_ble_eq_true rfl) dX13_form_16 ⟨(Nat.le_of_ble_eq_true rfl), (Nat.le_of_ble_eq_true rfl)⟩) hZ (fun V10 n11 _ _ hw12 hZ => ?_)
    obtain ⟨rfl, hq14, ⟨z16, z17, ho18, hi19, hi20⟩, ho25, ho30, ho35, ho40⟩ := hw12
    have hP := hP.trans hq14 (by intro g h; simp_all)
    have b41 := hq_rng z17
    have b42 := hq_rng z16
    refine lv_iload hx hb dX13_form_19 (lv_at hl 4 rfl) ?_
    refine lv_i2l (v := (k).toInt64) hx hb dX13_form_21 rfl ?_
    refine lv_topl (fun y43 ey44 => ?_)
    have b45 : (y43).toInt = (k).toInt := by rw [ey44]; exact hm_i2l _
    refine lv_lconst (v := 0) hx hb dX13_form_22 (by decide) ?_
    refine lv_aload_n hx hb dX13_form_23 rfl (lv_at hl 0 rfl) ?_
    refine hp_get (v := .int (z16)) hx hb hts hown hZ ho18 fl_X13_344 rfl dX13_form_24 ?_
    refine lv_i2l (v := (z16).toInt64) hx hb dX13_form_27 rfl ?_
    refine lv_topl (fun y46 ey47 => ?_)
    have b48 : (y46).toInt = (z16).toInt := by rw [ey47]; exact hm_i2l _
    refine lv_lconst (v := 1) hx hb dX13_form_28 (by decide) ?_
    refine lv_lsub hx hb dX13_form_29 ?_
    refine lv_topl (fun y49 ey50 => ?_)
    have b52 : (1 : Int64).toInt = 1 := by decide
    have b51 : (y49).toInt = (y46).toInt - (1 : Int) := by rw [ey50]; exact hm_lsub _ _ (by omega) (by omega)
    have hl59 : (0 : Int64).toInt = 0 := by decide
    refine hp_calli (hp_runS (As := [.long (y43), .long (0), .long (y49)]) (rest := []) hx hb hml hown hts (t_X13_in l D cs B G  V10 n hP.1  (y43) (0) (y49) ) hZ cv_X13_301 rfl rfl ⟨Nat.le_of_ble_eq_true rfl, Nat.le_of_ble_eq_true rfl⟩ rfl hl.1 rfl (Nat.le_of_ble_eq_true rfl) dX13_form_30 ⟨(Nat.le_of_ble_eq_true rfl), (Nat.le_of_ble_eq_true rfl)⟩) hZ (fun r56 V53 n54 _ _ hw55 hZ => ?_)
    obtain ⟨rfl, hq57, hr58⟩ := hw55
    have hP := hP.trans hq57 (fun _ _ => rfl)
    have b60 := hq_rng r56
    refine lv_if_eq (tgt := 72) hx hb dX13_form_33 (by decide) (fun c61 => ?_) (fun c61 => ?_)
    · have c61 : (r56).toInt = (0 : Int) := hq_eqi.mp c61
      refine lv_iconst (v := -1) hx hb dX13_form_72 (by decide) ?_
      have fx62 : V53 (mo) = some (.inr (13, hm_o q (m_tp) (m_sz) (m_fr) (m_bh) (m_hd) (m_ft) (m_fa) (z17) (z16) (m_as) (m_fd) (m_bc) (m_bg) (m_bs) (m_be) (m_b0) (m_b1) (m_cm) (m_hc))) := (hq57.2 (mo) _ h_mo rfl).trans (ho18)
      exact hp_iret hx hb hr hlocks hZ ⟨rfl, hP, ⟨z16, z17, fx62, by omega, by omega⟩, trivial⟩ dX13_form_73
    · have c61 : ¬ (r56).toInt = (0 : Int) := fun h9 => c61 (hq_eqi.mpr h9)
      refine lv_iload hx hb dX13_form_36 (lv_at hl 5 rfl) ?_
      refine lv_i2l (v := (k1).toInt64) hx hb dX13_form_38 rfl ?_
      refine lv_topl (fun y63 ey64 => ?_)
      have b65 : (y63).toInt = (k1).toInt := by rw [ey64]; exact hm_i2l _
      refine lv_lconst (v := 0) hx hb dX13_form_39 (by decide) ?_
      refine lv_aload_n hx hb dX13_form_40 rfl (lv_at hl 0 rfl) ?_
      have fx66 : V53 (mo) = some (.inr (13, hm_o q (m_tp) (m_sz) (m_fr) (m_bh) (m_hd) (m_ft) (m_fa) (z17) (z16) (m_as) (m_fd) (m_bc) (m_bg) (m_bs) (m_be) (m_b0) (m_b1) (m_cm) (m_hc))) := (hq57.2 (mo) _ h_mo rfl).trans (ho18)
      refine hp_get (v := .ref (q + 28)) hx hb hts hown hZ fx66 fl_X13_235 rfl dX13_form_41 ?_
      refine lv_iload hx hb dX13_form_44 (lv_at hl 4 rfl) ?_
      obtain ⟨hN69, g68, eV67, hf70⟩ := hq_o21 hP.1 (hr_28 hR)
      refine hp_iald hx hb hZ eV67 (hq_in (by omega) (by omega)) dX13_form_46 ?_
      refine lv_topi (fun y71 ey72 => ?_)
      have b73 : hq_ir (hq_lo 6) (hq_hi 6) y71 := by rw [ey72]; exact hf70 _ (hq_ix (by omega) (by omega))
      have b73 : 0 ≤ (y71).toInt ∧ (y71).toInt ≤ 61 := b73
      refine lv_i2l (v := (y71).toInt64) hx hb dX13_form_47 rfl ?_
      refine lv_topl (fun y74 ey75 => ?_)
      have b76 : (y74).toInt = (y71).toInt := by rw [ey75]; exact hm_i2l _
      refine lv_lconst (v := 1) hx hb dX13_form_48 (by decide) ?_
      refine lv_lsub hx hb dX13_form_49 ?_
      refine lv_topl (fun y77 ey78 => ?_)
      have b80 : (1 : Int64).toInt = 1 := by decide
      have b79 : (y77).toInt = (y74).toInt - (1 : Int) := by rw [ey78]; exact hm_lsub _ _ (by omega) (by omega)
      have hl87 : (0 : Int64).toInt = 0 := by decide
      refine hp_calli (hp_runS (As := [.long (y63), .long (0), .long (y77)]) (rest := []) hx hb hml hown hts (t_X13_in l D cs B G  V53 n hP.1  (y63) (0) (y77) ) hZ cv_X13_301 rfl rfl ⟨Nat.le_of_ble_eq_true rfl, Nat.le_of_ble_eq_true rfl⟩ rfl hl.1 rfl (Nat.le_of_ble_eq_true rfl) dX13_form_50 ⟨(Nat.le_of_ble_eq_true rfl), (Nat.le_of_ble_eq_true rfl)⟩) hZ (fun r84 V81 n82 _ _ hw83 hZ => ?_)
      obtain ⟨rfl, hq85, hr86⟩ := hw83
      have hP := hP.trans hq85 (fun _ _ => rfl)
      have b88 := hq_rng r84
      refine lv_if_eq (tgt := 72) hx hb dX13_form_53 (by decide) (fun c89 => ?_) (fun c89 => ?_)
      · have c89 : (r84).toInt = (0 : Int) := hq_eqi.mp c89
        refine lv_iconst (v := -1) hx hb dX13_form_72 (by decide) ?_
        have fx90 : V81 (mo) = some (.inr (13, hm_o q (m_tp) (m_sz) (m_fr) (m_bh) (m_hd) (m_ft) (m_fa) (z17) (z16) (m_as) (m_fd) (m_bc) (m_bg) (m_bs) (m_be) (m_b0) (m_b1) (m_cm) (m_hc))) := (hq85.2 (mo) _ h_mo rfl).trans (fx66)
        exact hp_iret hx hb hr hlocks hZ ⟨rfl, hP, ⟨z16, z17, fx90, by omega, by omega⟩, trivial⟩ dX13_form_73
      · have c89 : ¬ (r84).toInt = (0 : Int) := fun h9 => c89 (hq_eqi.mpr h9)
        refine lv_aload_n hx hb dX13_form_56 rfl (lv_at hl 0 rfl) ?_
        have fx91 : V81 (mo) = some (.inr (13, hm_o q (m_tp) (m_sz) (m_fr) (m_bh) (m_hd) (m_ft) (m_fa) (z17) (z16) (m_as) (m_fd) (m_bc) (m_bg) (m_bs) (m_be) (m_b0) (m_b1) (m_cm) (m_hc))) := (hq85.2 (mo) _ h_mo rfl).trans (fx66)
        refine hp_get (v := .ref (q + 25)) hx hb hts hown hZ fx91 fl_X13_226 rfl dX13_form_57 ?_
        refine lv_bipush (v := 61) hx hb dX13_form_60 (by decide) ?_
        refine lv_iload hx hb dX13_form_62 (lv_at hl 4 rfl) ?_
        refine lv_imul hx hb dX13_form_64 ?_
        refine lv_topi (fun y92 ey93 => ?_)
        obtain ⟨k94, hk95, b96, b97⟩ := hq_mul (61) (k)
        rw [← ey93] at hk95 b96 b97
        have hk95 : (y92).toInt = (61 : Int) * (k).toInt + k94 * 4294967296 := hk95
        obtain rfl : k94 = 0 := by omega
        refine lv_iload hx hb dX13_form_65 (lv_at hl 5 rfl) ?_
        refine lv_iadd hx hb dX13_form_67 ?_
        refine lv_topi (fun y98 ey99 => ?_)
        obtain ⟨k100, hk101, b102, b103⟩ := hq_add (y92) (k1)
        rw [← ey99] at hk101 b102 b103
        have hk101 : (y98).toInt = (y92).toInt + (k1).toInt + k100 * 4294967296 := hk101
        obtain rfl : k100 = 0 := by omega
        obtain ⟨hN106, g105, eV104⟩ := hq_o20 hP.1 (hr_25 hR)
        refine hp_bald hx hb hZ eV104 (hq_in (by omega) (by omega)) dX13_form_68 ?_
        refine lv_topi (fun y108 ey109 => ?_)
        have b110 := hq_rng y108
        refine lv_goto (tgt := 73) hx hb dX13_form_69 (by decide) ?_
        exact hp_iret hx hb hr hlocks hZ ⟨rfl, hP, ⟨z16, z17, fx91, by omega, by omega⟩, trivial⟩ dX13_form_73
  · have c9 : (r4).toInt = (0 : Int) := hq_eqi.mp c9
    refine lv_iconst (v := -1) hx hb dX13_form_10 (by decide) ?_
    exact hp_iret hx hb hr hlocks hZ ⟨rfl, hP, ⟨m_fo, m_le, ho7, by omega, by omega⟩, trivial⟩ dX13_form_11

set_option maxHeartbeats 4000000 in
set_option maxRecDepth 100000 in
theorem t_X13_row (l : Launch) (D : va_G) (cs : Nat → ClassId) (B : Nat) (G : hq_G) (V : hp_V) (n : Nat) (hI : hq_I cs G V) (q : Nat) (hR : hq_RT G q) (mo : Nat) (h_mo : G mo = some (24, 0, 0, 0)) (v : Int32) (te : Int32) (pe : Int32) (k : Int32) (k1 : Int32) {m_tp m_sz m_fr m_bh m_hd m_ft m_fa m_le m_fo m_as m_fd m_bc m_bg m_bs m_be m_b0 m_b1 m_cm m_hc : Int32} (ho_mo : V mo = some (.inr (13, hm_o q (m_tp) (m_sz) (m_fr) (m_bh) (m_hd) (m_ft) (m_fa) (m_le) (m_fo) (m_as) (m_fd) (m_bc) (m_bg) (m_bs) (m_be) (m_b0) (m_b1) (m_cm) (m_hc)))) (hi_mo0 : 0 ≤ m_tp.toInt ∧ m_tp.toInt ≤ 4000) (hi_mo1 : 0 ≤ m_sz.toInt ∧ m_sz.toInt ≤ 4000) (hi_mo2 : 0 ≤ m_le.toInt ∧ m_le.toInt ≤ 276) (hi_mo3 : 0 ≤ m_fo.toInt ∧ m_fo.toInt ≤ 4) (hi_mo4 : 0 ≤ m_as.toInt ∧ m_as.toInt ≤ 4000) (hi_mo5 : 0 ≤ m_fd.toInt ∧ m_fd.toInt ≤ 900) (hi_mo6 : 0 ≤ m_cm.toInt ∧ m_cm.toInt ≤ 2) (hi_mo7 : 0 ≤ m_hc.toInt ∧ m_hc.toInt ≤ 1) (hH : hm_VQ cs V q 0 0) : hp_M l yX13_row cX13_row 6 (some .int) ({ frames := 6, cells := 0, slots := 0, locals := 150 }) D cs B V n [.ref (mo), .int (v), .int (te), .int (pe), .int (k), .int (k1)] (hp_QI D cs B (fun r V' n' => n = n' ∧ hq_P cs G (fun g => g.1 == 1 || g.1 == 43 || g.1 == 44 || g.1 == 45) V V' ∧ (∃ (m_fo1 : Int32) (m_le1 : Int32), V' mo = some (.inr (13, hm_o q (m_tp) (m_sz) (m_fr) (m_bh) (m_hd) (m_ft) (m_fa) (m_le1) (m_fo1) (m_as) (m_fd) (m_bc) (m_bg) (m_bs) (m_be) (m_b0) (m_b1) (m_cm) (m_hc))) ∧ (0 ≤ m_le1.toInt ∧ m_le1.toInt ≤ 276) ∧ (0 ≤ m_fo1.toInt ∧ m_fo1.toInt ≤ 4)) ∧ True)) 0 0 := by
  refine hp_walk (R0 := RX13) (by decide) rfl ?_ (Nat.le_of_ble_eq_true rfl)
  intro p e s m below meth c ls hx hb hr hts hown hlocks hin hml hZ hl
  have hP : hq_P cs G (fun g => g.1 == 1 || g.1 == 43 || g.1 == 44 || g.1 == 45) V V := hq_P.rf hI
  have hl : lv_has ls 6 [(0, .ref (mo)), (1, .int (v)), (2, .int (te)), (3, .int (pe)), (4, .int (k)), (5, .int (k1))] := hl
  have hb_v := hq_rng v
  have hb_te := hq_rng te
  have hb_pe := hq_rng pe
  have hb_k := hq_rng k
  have hb_k1 := hq_rng k1
  have hb_m_tp := hq_rng m_tp
  have hb_m_sz := hq_rng m_sz
  have hb_m_fr := hq_rng m_fr
  have hb_m_bh := hq_rng m_bh
  have hb_m_hd := hq_rng m_hd
  have hb_m_ft := hq_rng m_ft
  have hb_m_fa := hq_rng m_fa
  have hb_m_le := hq_rng m_le
  have hb_m_fo := hq_rng m_fo
  have hb_m_as := hq_rng m_as
  have hb_m_fd := hq_rng m_fd
  have hb_m_bc := hq_rng m_bc
  have hb_m_bg := hq_rng m_bg
  have hb_m_bs := hq_rng m_bs
  have hb_m_be := hq_rng m_be
  have hb_m_b0 := hq_rng m_b0
  have hb_m_b1 := hq_rng m_b1
  have hb_m_cm := hq_rng m_cm
  have hb_m_hc := hq_rng m_hc
  refine lv_aload_n hx hb dX13_row_0 rfl (lv_at hl 0 rfl) ?_
  refine lv_iload_n hx hb dX13_row_1 rfl (lv_at hl 1 rfl) ?_
  refine lv_iload_n hx hb dX13_row_2 rfl (lv_at hl 2 rfl) ?_
  refine lv_iload_n hx hb dX13_row_3 rfl (lv_at hl 3 rfl) ?_
  refine hp_calli (hp_runV (As := [.int (v), .int (te), .int (pe)]) (rest := []) hx hb hml hown hts (t_X13_isPlace l D cs B G  V n hP.1 q hR (mo) h_mo (v) (te) (pe) ho_mo  (by omega) (by omega) (by omega) (by omega) (by omega) (by omega) (by omega) (by omega) ) hZ ho_mo cv_X13_380 rfl rfl ⟨Nat.le_of_ble_eq_true rfl, Nat.le_of_ble_eq_true rfl⟩ rfl hl.1 rfl (Nat.le_of_ble_eq_true rfl) dX13_row_4 ⟨(Nat.le_of_ble_eq_true rfl), (Nat.le_of_ble_eq_true rfl)⟩) hZ (fun r4 V1 n2 _ _ hw3 hZ => ?_)
  obtain ⟨rfl, hq5, ho7, hr6⟩ := hw3
  have hP := hP.trans hq5 (fun _ _ => rfl)
  have b8 := hq_rng r4
  refine lv_if_ne (tgt := 12) hx hb dX13_row_7 (by decide) (fun c9 => ?_) (fun c9 => ?_)
  · have c9 : ¬ (r4).toInt = (0 : Int) := fun h9 => c9 (hq_eqi.mpr h9)
    refine lv_aload_n hx hb dX13_row_12 rfl (lv_at hl 0 rfl) ?_
    refine lv_iload_n hx hb dX13_row_13 rfl (lv_at hl 1 rfl) ?_
    refine lv_iload_n hx hb dX13_row_14 rfl (lv_at hl 2 rfl) ?_
    refine lv_iload_n hx hb dX13_row_15 rfl (lv_at hl 3 rfl) ?_
    obtain ⟨hN23, g22, eV21, hf24⟩ := hq_o21 hP.1 (hr_14 hR)
    obtain ⟨hN28, g27, eV26, hf29⟩ := hq_o21 hP.1 (hr_15 hR)
    obtain ⟨hN33, g32, eV31, hf34⟩ := hq_o21 hP.1 (hr_10 hR)
    obtain ⟨hN38, g37, eV36, hf39⟩ := hq_o21 hP.1 (hr_2 hR)
    refine hp_callv (hp_runV (As := [.int (v), .int (te), .int (pe)]) (rest := []) hx hb hml hown hts (t_X13_all l D cs B G  V1 n hP.1 q hR (mo) h_mo (v) (te) (pe) ho7  (by omega) (by omega) (by omega) (by omega) (by omega) (by omega) (by omega) (by omega) eV21 eV26 eV31 eV36 (by omega) (by omega) (hH.keep hR (fun x t hx hg => hP.2 x t hx (by simp [hg])))) hZ ho7 cv_X13_384 rfl rfl ⟨Nat.le_of_ble_eq_true rfl, Nat.le_of_ble_eq_true rfl⟩ rfl hl.1 rfl (Nat.le_of_ble_eq_true rfl) dX13_row_16 ⟨(Nat.le_of_ble_eq_true rfl), (Nat.le_of_ble_eq_true rfl)⟩) hZ (fun V10 n11 _ _ hw12 hZ => ?_)
    obtain ⟨rfl, hq14, ⟨z16, z17, ho18, hi19, hi20⟩, ho25, ho30, ho35, ho40⟩ := hw12
    have hP := hP.trans hq14 (by intro g h; simp_all)
    have b41 := hq_rng z17
    have b42 := hq_rng z16
    refine lv_iload hx hb dX13_row_19 (lv_at hl 4 rfl) ?_
    refine lv_i2l (v := (k).toInt64) hx hb dX13_row_21 rfl ?_
    refine lv_topl (fun y43 ey44 => ?_)
    have b45 : (y43).toInt = (k).toInt := by rw [ey44]; exact hm_i2l _
    refine lv_lconst (v := 0) hx hb dX13_row_22 (by decide) ?_
    refine lv_aload_n hx hb dX13_row_23 rfl (lv_at hl 0 rfl) ?_
    refine hp_get (v := .int (z16)) hx hb hts hown hZ ho18 fl_X13_344 rfl dX13_row_24 ?_
    refine lv_i2l (v := (z16).toInt64) hx hb dX13_row_27 rfl ?_
    refine lv_topl (fun y46 ey47 => ?_)
    have b48 : (y46).toInt = (z16).toInt := by rw [ey47]; exact hm_i2l _
    refine lv_lconst (v := 1) hx hb dX13_row_28 (by decide) ?_
    refine lv_lsub hx hb dX13_row_29 ?_
    refine lv_topl (fun y49 ey50 => ?_)
    have b52 : (1 : Int64).toInt = 1 := by decide
    have b51 : (y49).toInt = (y46).toInt - (1 : Int) := by rw [ey50]; exact hm_lsub _ _ (by omega) (by omega)
    have hl59 : (0 : Int64).toInt = 0 := by decide
    refine hp_calli (hp_runS (As := [.long (y43), .long (0), .long (y49)]) (rest := []) hx hb hml hown hts (t_X13_in l D cs B G  V10 n hP.1  (y43) (0) (y49) ) hZ cv_X13_301 rfl rfl ⟨Nat.le_of_ble_eq_true rfl, Nat.le_of_ble_eq_true rfl⟩ rfl hl.1 rfl (Nat.le_of_ble_eq_true rfl) dX13_row_30 ⟨(Nat.le_of_ble_eq_true rfl), (Nat.le_of_ble_eq_true rfl)⟩) hZ (fun r56 V53 n54 _ _ hw55 hZ => ?_)
    obtain ⟨rfl, hq57, hr58⟩ := hw55
    have hP := hP.trans hq57 (fun _ _ => rfl)
    have b60 := hq_rng r56
    refine lv_if_eq (tgt := 73) hx hb dX13_row_33 (by decide) (fun c61 => ?_) (fun c61 => ?_)
    · have c61 : (r56).toInt = (0 : Int) := hq_eqi.mp c61
      refine lv_iconst (v := -1) hx hb dX13_row_73 (by decide) ?_
      have fx62 : V53 (mo) = some (.inr (13, hm_o q (m_tp) (m_sz) (m_fr) (m_bh) (m_hd) (m_ft) (m_fa) (z17) (z16) (m_as) (m_fd) (m_bc) (m_bg) (m_bs) (m_be) (m_b0) (m_b1) (m_cm) (m_hc))) := (hq57.2 (mo) _ h_mo rfl).trans (ho18)
      exact hp_iret hx hb hr hlocks hZ ⟨rfl, hP, ⟨z16, z17, fx62, by omega, by omega⟩, trivial⟩ dX13_row_74
    · have c61 : ¬ (r56).toInt = (0 : Int) := fun h9 => c61 (hq_eqi.mpr h9)
      refine lv_iload hx hb dX13_row_36 (lv_at hl 5 rfl) ?_
      refine lv_i2l (v := (k1).toInt64) hx hb dX13_row_38 rfl ?_
      refine lv_topl (fun y63 ey64 => ?_)
      have b65 : (y63).toInt = (k1).toInt := by rw [ey64]; exact hm_i2l _
      refine lv_lconst (v := 0) hx hb dX13_row_39 (by decide) ?_
      refine lv_aload_n hx hb dX13_row_40 rfl (lv_at hl 0 rfl) ?_
      have fx66 : V53 (mo) = some (.inr (13, hm_o q (m_tp) (m_sz) (m_fr) (m_bh) (m_hd) (m_ft) (m_fa) (z17) (z16) (m_as) (m_fd) (m_bc) (m_bg) (m_bs) (m_be) (m_b0) (m_b1) (m_cm) (m_hc))) := (hq57.2 (mo) _ h_mo rfl).trans (ho18)
      refine hp_get (v := .ref (q + 30)) hx hb hts hown hZ fx66 fl_X13_241 rfl dX13_row_41 ?_
      refine lv_iload hx hb dX13_row_44 (lv_at hl 4 rfl) ?_
      obtain ⟨hN69, g68, eV67, hf70⟩ := hq_o21 hP.1 (hr_30 hR)
      refine hp_iald hx hb hZ eV67 (hq_in (by omega) (by omega)) dX13_row_46 ?_
      refine lv_topi (fun y71 ey72 => ?_)
      have b73 : hq_ir (hq_lo 7) (hq_hi 7) y71 := by rw [ey72]; exact hf70 _ (hq_ix (by omega) (by omega))
      have b73 : 0 ≤ (y71).toInt ∧ (y71).toInt ≤ 140 := b73
      refine lv_i2l (v := (y71).toInt64) hx hb dX13_row_47 rfl ?_
      refine lv_topl (fun y74 ey75 => ?_)
      have b76 : (y74).toInt = (y71).toInt := by rw [ey75]; exact hm_i2l _
      refine lv_lconst (v := 1) hx hb dX13_row_48 (by decide) ?_
      refine lv_lsub hx hb dX13_row_49 ?_
      refine lv_topl (fun y77 ey78 => ?_)
      have b80 : (1 : Int64).toInt = 1 := by decide
      have b79 : (y77).toInt = (y74).toInt - (1 : Int) := by rw [ey78]; exact hm_lsub _ _ (by omega) (by omega)
      have hl87 : (0 : Int64).toInt = 0 := by decide
      refine hp_calli (hp_runS (As := [.long (y63), .long (0), .long (y77)]) (rest := []) hx hb hml hown hts (t_X13_in l D cs B G  V53 n hP.1  (y63) (0) (y77) ) hZ cv_X13_301 rfl rfl ⟨Nat.le_of_ble_eq_true rfl, Nat.le_of_ble_eq_true rfl⟩ rfl hl.1 rfl (Nat.le_of_ble_eq_true rfl) dX13_row_50 ⟨(Nat.le_of_ble_eq_true rfl), (Nat.le_of_ble_eq_true rfl)⟩) hZ (fun r84 V81 n82 _ _ hw83 hZ => ?_)
      obtain ⟨rfl, hq85, hr86⟩ := hw83
      have hP := hP.trans hq85 (fun _ _ => rfl)
      have b88 := hq_rng r84
      refine lv_if_eq (tgt := 73) hx hb dX13_row_53 (by decide) (fun c89 => ?_) (fun c89 => ?_)
      · have c89 : (r84).toInt = (0 : Int) := hq_eqi.mp c89
        refine lv_iconst (v := -1) hx hb dX13_row_73 (by decide) ?_
        have fx90 : V81 (mo) = some (.inr (13, hm_o q (m_tp) (m_sz) (m_fr) (m_bh) (m_hd) (m_ft) (m_fa) (z17) (z16) (m_as) (m_fd) (m_bc) (m_bg) (m_bs) (m_be) (m_b0) (m_b1) (m_cm) (m_hc))) := (hq85.2 (mo) _ h_mo rfl).trans (fx66)
        exact hp_iret hx hb hr hlocks hZ ⟨rfl, hP, ⟨z16, z17, fx90, by omega, by omega⟩, trivial⟩ dX13_row_74
      · have c89 : ¬ (r84).toInt = (0 : Int) := fun h9 => c89 (hq_eqi.mpr h9)
        refine lv_aload_n hx hb dX13_row_56 rfl (lv_at hl 0 rfl) ?_
        have fx91 : V81 (mo) = some (.inr (13, hm_o q (m_tp) (m_sz) (m_fr) (m_bh) (m_hd) (m_ft) (m_fa) (z17) (z16) (m_as) (m_fd) (m_bc) (m_bg) (m_bs) (m_be) (m_b0) (m_b1) (m_cm) (m_hc))) := (hq85.2 (mo) _ h_mo rfl).trans (fx66)
        refine hp_get (v := .ref (q + 29)) hx hb hts hown hZ fx91 fl_X13_238 rfl dX13_row_57 ?_
        refine lv_sipush (v := 140) hx hb dX13_row_60 (by decide) ?_
        refine lv_iload hx hb dX13_row_63 (lv_at hl 4 rfl) ?_
        refine lv_imul hx hb dX13_row_65 ?_
        refine lv_topi (fun y92 ey93 => ?_)
        obtain ⟨k94, hk95, b96, b97⟩ := hq_mul (140) (k)
        rw [← ey93] at hk95 b96 b97
        have hk95 : (y92).toInt = (140 : Int) * (k).toInt + k94 * 4294967296 := hk95
        obtain rfl : k94 = 0 := by omega
        refine lv_iload hx hb dX13_row_66 (lv_at hl 5 rfl) ?_
        refine lv_iadd hx hb dX13_row_68 ?_
        refine lv_topi (fun y98 ey99 => ?_)
        obtain ⟨k100, hk101, b102, b103⟩ := hq_add (y92) (k1)
        rw [← ey99] at hk101 b102 b103
        have hk101 : (y98).toInt = (y92).toInt + (k1).toInt + k100 * 4294967296 := hk101
        obtain rfl : k100 = 0 := by omega
        obtain ⟨hN106, g105, eV104, hf107⟩ := hq_o21 hP.1 (hr_29 hR)
        refine hp_iald hx hb hZ eV104 (hq_in (by omega) (by omega)) dX13_row_69 ?_
        refine lv_topi (fun y108 ey109 => ?_)
        have b110 : hq_ir (hq_lo 4) (hq_hi 4) y108 := by rw [ey109]; exact hf107 _ (hq_ix (by omega) (by omega))
        have b110 : 0 ≤ (y108).toInt ∧ (y108).toInt ≤ 59 := b110
        refine lv_goto (tgt := 74) hx hb dX13_row_70 (by decide) ?_
        exact hp_iret hx hb hr hlocks hZ ⟨rfl, hP, ⟨z16, z17, fx91, by omega, by omega⟩, trivial⟩ dX13_row_74
  · have c9 : (r4).toInt = (0 : Int) := hq_eqi.mp c9
    refine lv_iconst (v := -1) hx hb dX13_row_10 (by decide) ?_
    exact hp_iret hx hb hr hlocks hZ ⟨rfl, hP, ⟨m_fo, m_le, ho7, by omega, by omega⟩, trivial⟩ dX13_row_11

set_option maxHeartbeats 4000000 in
set_option maxRecDepth 100000 in
theorem t_X13_formAsked (l : Launch) (D : va_G) (cs : Nat → ClassId) (B : Nat) (G : hq_G) (V : hp_V) (n : Nat) (hI : hq_I cs G V) (q : Nat) (hR : hq_RT G q) (mo : Nat) (h_mo : G mo = some (24, 0, 0, 0)) {m_tp m_sz m_fr m_bh m_hd m_ft m_fa m_le m_fo m_as m_fd m_bc m_bg m_bs m_be m_b0 m_b1 m_cm m_hc : Int32} (ho_mo : V mo = some (.inr (13, hm_o q (m_tp) (m_sz) (m_fr) (m_bh) (m_hd) (m_ft) (m_fa) (m_le) (m_fo) (m_as) (m_fd) (m_bc) (m_bg) (m_bs) (m_be) (m_b0) (m_b1) (m_cm) (m_hc)))) (hi_mo0 : 0 ≤ m_tp.toInt ∧ m_tp.toInt ≤ 4000) (hi_mo1 : 0 ≤ m_sz.toInt ∧ m_sz.toInt ≤ 4000) (hi_mo2 : 0 ≤ m_le.toInt ∧ m_le.toInt ≤ 276) (hi_mo3 : 0 ≤ m_fo.toInt ∧ m_fo.toInt ≤ 4) (hi_mo4 : 0 ≤ m_as.toInt ∧ m_as.toInt ≤ 4000) (hi_mo5 : 0 ≤ m_fd.toInt ∧ m_fd.toInt ≤ 900) (hi_mo6 : 0 ≤ m_cm.toInt ∧ m_cm.toInt ≤ 2) (hi_mo7 : 0 ≤ m_hc.toInt ∧ m_hc.toInt ≤ 1) : hp_M l yX13_formAsked cX13_formAsked 4 (some .int) ({ frames := 1, cells := 0, slots := 0, locals := 21 }) D cs B V n [.ref (mo)] (hp_QI D cs B (fun r V' n' => n = n' ∧ hq_P cs G (fun _ => false) V V' ∧ (V' mo = some (.inr (13, hm_o q (m_tp) (m_sz) (m_fr) (m_bh) (m_hd) (m_ft) (m_fa) (m_le) (m_fo) (m_as) (m_fd) (m_bc) (m_bg) (m_bs) (m_be) (m_b0) (m_b1) (m_cm) (m_hc)))) ∧ (-1 ≤ r.toInt ∧ (r.toInt < m_fo.toInt ∨ r.toInt = -1)))) 0 0 := by
  refine hp_walk (R0 := RX13) (by decide) rfl ?_ (Nat.le_of_ble_eq_true rfl)
  intro p e s m below meth c ls hx hb hr hts hown hlocks hin hml hZ hl
  have hP : hq_P cs G (fun _ => false) V V := hq_P.rf hI
  have hl : lv_has ls 4 [(0, .ref (mo))] := hl
  have hb_m_tp := hq_rng m_tp
  have hb_m_sz := hq_rng m_sz
  have hb_m_fr := hq_rng m_fr
  have hb_m_bh := hq_rng m_bh
  have hb_m_hd := hq_rng m_hd
  have hb_m_ft := hq_rng m_ft
  have hb_m_fa := hq_rng m_fa
  have hb_m_le := hq_rng m_le
  have hb_m_fo := hq_rng m_fo
  have hb_m_as := hq_rng m_as
  have hb_m_fd := hq_rng m_fd
  have hb_m_bc := hq_rng m_bc
  have hb_m_bg := hq_rng m_bg
  have hb_m_bs := hq_rng m_bs
  have hb_m_be := hq_rng m_be
  have hb_m_b0 := hq_rng m_b0
  have hb_m_b1 := hq_rng m_b1
  have hb_m_cm := hq_rng m_cm
  have hb_m_hc := hq_rng m_hc
  refine lv_iconst (v := 0) hx hb dX13_formAsked_0 (by decide) ?_
  refine lv_istore_n (lv' := [(1, .int (0)), (0, .ref (mo))]) hx hb dX13_formAsked_1 rfl hl (by decide) rfl (fun ls hl => ?_)
  have hl1 : (0 : Int32).toInt = 0 := by decide
  suffices lp2 : ∀ (k9 : Nat) (V9 : hp_V) (H9 : Heap) (locs9 : List Loc) (ls : Array Slot) (k : Int32), (100 - k.toInt).toNat = k9 → hp_Z D cs B s V9 H9 n locs9 → hq_P cs G (fun _ => false) V V9 → 0 ≤ k.toInt → k.toInt ≤ 4 → lv_has ls 4 [(1, .int (k)), (0, .ref (mo))] → W p l e ({ frames := 1, cells := 0, slots := 0, locals := 21 }) s m ([.ref (mo)] : List Value).toArray below meth c H9 locs9 0 0 (MQ below (hp_QI D cs B (fun r V' n' => n = n' ∧ hq_P cs G (fun _ => false) V V' ∧ (V' mo = some (.inr (13, hm_o q (m_tp) (m_sz) (m_fr) (m_bh) (m_hd) (m_ft) (m_fa) (m_le) (m_fo) (m_as) (m_fd) (m_bc) (m_bg) (m_bs) (m_be) (m_b0) (m_b1) (m_cm) (m_hc)))) ∧ (-1 ≤ r.toInt ∧ (r.toInt < m_fo.toInt ∨ r.toInt = -1)))) ([.ref (mo)] : List Value).toArray s 0 0 (hp_F B)) (F0 m 2 ls []) from lp2 _ _ _ _ ls (0) rfl hZ hP (by omega) (by omega) (lv_sub hl [0, 1] rfl)
  intro k9
  induction k9 using Nat.strongRecOn with
  | _ k9 ih2 =>
    intro V9 H9 locs9 ls k  hk2 hZ hP  hv2 hv3 hl
    have hb_k := hq_rng k
    have hP_2 := hP
    refine lv_iload_n hx hb dX13_formAsked_2 rfl (lv_at hl 0 rfl) ?_
    refine lv_aload_n hx hb dX13_formAsked_3 rfl (lv_at hl 1 rfl) ?_
    have fx4 : V9 (mo) = some (.inr (13, hm_o q (m_tp) (m_sz) (m_fr) (m_bh) (m_hd) (m_ft) (m_fa) (m_le) (m_fo) (m_as) (m_fd) (m_bc) (m_bg) (m_bs) (m_be) (m_b0) (m_b1) (m_cm) (m_hc))) := (hP_2.2 (mo) _ h_mo rfl).trans (ho_mo)
    refine hp_get (v := .int (m_fo)) hx hb hts hown hZ fx4 fl_X13_344 rfl dX13_formAsked_4 ?_
    refine lv_icmp_ge (tgt := 87) hx hb dX13_formAsked_7 (by decide) (fun c5 => ?_) (fun c5 => ?_)
    · have c5 : (m_fo).toInt ≤ (k).toInt := hq_lei.mp c5
      refine lv_iconst (v := -1) hx hb dX13_formAsked_87 (by decide) ?_
      exact hp_iret hx hb hr hlocks hZ ⟨rfl, hP, fx4, ⟨by decide, Or.inr (by decide)⟩⟩ dX13_formAsked_88
    · have c5 : ¬ (m_fo).toInt ≤ (k).toInt := fun h9 => c5 (hq_lei.mpr h9)
      refine lv_aload_n hx hb dX13_formAsked_10 rfl (lv_at hl 1 rfl) ?_
      refine hp_get (v := .ref (q + 28)) hx hb hts hown hZ fx4 fl_X13_235 rfl dX13_formAsked_11 ?_
      refine lv_iload_n hx hb dX13_formAsked_14 rfl (lv_at hl 0 rfl) ?_
      obtain ⟨hN8, g7, eV6, hf9⟩ := hq_o21 hP.1 (hr_28 hR)
      refine hp_iald hx hb hZ eV6 (hq_in (by omega) (by omega)) dX13_formAsked_15 ?_
      refine lv_topi (fun y10 ey11 => ?_)
      have b12 : hq_ir (hq_lo 6) (hq_hi 6) y10 := by rw [ey11]; exact hf9 _ (hq_ix (by omega) (by omega))
      have b12 : 0 ≤ (y10).toInt ∧ (y10).toInt ≤ 61 := b12
      refine lv_aload_n hx hb dX13_formAsked_16 rfl (lv_at hl 1 rfl) ?_
      refine hp_get (v := .int (m_as)) hx hb hts hown hZ fx4 fl_X13_389 rfl dX13_formAsked_17 ?_
      refine lv_icmp_ne (tgt := 27) hx hb dX13_formAsked_20 (by decide) (fun c13 => ?_) (fun c13 => ?_)
      · have c13 : ¬ (y10).toInt = (m_as).toInt := fun h9 => c13 (hq_eqi.mpr h9)
        refine lv_iconst (v := 0) hx hb dX13_formAsked_27 (by decide) ?_
        refine lv_istore_n (lv' := [(2, .int (0)), (1, .int (k)), (0, .ref (mo))]) hx hb dX13_formAsked_28 rfl hl (by decide) rfl (fun ls hl => ?_)
        refine lv_iconst (v := 0) hx hb dX13_formAsked_29 (by decide) ?_
        refine lv_istore_n (lv' := [(3, .int (0)), (2, .int (0)), (1, .int (k)), (0, .ref (mo))]) hx hb dX13_formAsked_30 rfl hl (by decide) rfl (fun ls hl => ?_)
        have hl14 : (0 : Int32).toInt = 0 := by decide
        have hl15 : (0 : Int32).toInt = 0 := by decide
        suffices lp31 : ∀ (k9 : Nat) (V9 : hp_V) (H9 : Heap) (locs9 : List Loc) (ls : Array Slot) (sa : Int32) (i : Int32), (5000 - i.toInt).toNat = k9 → hp_Z D cs B s V9 H9 n locs9 → hq_P cs G (fun _ => false) V V9 → 0 ≤ i.toInt → i.toInt ≤ 4000 → sa.toInt = 0 ∨ (sa.toInt = 1 ∧ m_as.toInt ≤ 61) → lv_has ls 4 [(3, .int (i)), (2, .int (sa)), (1, .int (k)), (0, .ref (mo))] → W p l e ({ frames := 1, cells := 0, slots := 0, locals := 21 }) s m ([.ref (mo)] : List Value).toArray below meth c H9 locs9 0 0 (MQ below (hp_QI D cs B (fun r V' n' => n = n' ∧ hq_P cs G (fun _ => false) V V' ∧ (V' mo = some (.inr (13, hm_o q (m_tp) (m_sz) (m_fr) (m_bh) (m_hd) (m_ft) (m_fa) (m_le) (m_fo) (m_as) (m_fd) (m_bc) (m_bg) (m_bs) (m_be) (m_b0) (m_b1) (m_cm) (m_hc)))) ∧ (-1 ≤ r.toInt ∧ (r.toInt < m_fo.toInt ∨ r.toInt = -1)))) ([.ref (mo)] : List Value).toArray s 0 0 (hp_F B)) (F0 m 31 ls []) from lp31 _ _ _ _ ls (0) (0) rfl hZ hP (by omega) (by omega) (by omega) (lv_sub hl [0, 1, 2, 3] rfl)
        intro k9
        induction k9 using Nat.strongRecOn with
        | _ k9 ih31 =>
          intro V9 H9 locs9 ls sa i  hk31 hZ hP  hv16 hv17 hv18 hl
          have hb_sa := hq_rng sa
          have hb_i := hq_rng i
          have hP_31 := hP
          refine lv_iload_n hx hb dX13_formAsked_31 rfl (lv_at hl 0 rfl) ?_
          refine lv_aload_n hx hb dX13_formAsked_32 rfl (lv_at hl 3 rfl) ?_
          have fx19 : V9 (mo) = some (.inr (13, hm_o q (m_tp) (m_sz) (m_fr) (m_bh) (m_hd) (m_ft) (m_fa) (m_le) (m_fo) (m_as) (m_fd) (m_bc) (m_bg) (m_bs) (m_be) (m_b0) (m_b1) (m_cm) (m_hc))) := (hP_31.2 (mo) _ h_mo rfl).trans (ho_mo)
          refine hp_get (v := .int (m_as)) hx hb hts hown hZ fx19 fl_X13_389 rfl dX13_formAsked_33 ?_
          refine lv_icmp_ge (tgt := 75) hx hb dX13_formAsked_36 (by decide) (fun c20 => ?_) (fun c20 => ?_)
          · have c20 : (m_as).toInt ≤ (i).toInt := hq_lei.mp c20
            refine lv_iload_n hx hb dX13_formAsked_75 rfl (lv_at hl 1 rfl) ?_
            refine lv_if_eq (tgt := 81) hx hb dX13_formAsked_76 (by decide) (fun c21 => ?_) (fun c21 => ?_)
            · have c21 : (sa).toInt = (0 : Int) := hq_eqi.mp c21
              obtain ⟨y22, ey23⟩ : ∃ y : Int32, y = k + (1) := ⟨_, rfl⟩
              obtain ⟨k24, hk25, b26, b27⟩ := hq_add (k) (1)
              rw [← ey23] at hk25 b26 b27
              have hk25 : (y22).toInt = (k).toInt + (1) + k24 * 4294967296 := hk25
              refine lv_iinc (v := y22) (lv' := [(1, .int (y22)), (3, .int (i)), (2, .int (sa)), (0, .ref (mo))]) hx hb dX13_formAsked_81 hl (k := 2) rfl (by rw [ey23]; rfl) (by decide) rfl (fun ls hl => ?_)
              refine lv_goto (tgt := 2) hx hb dX13_formAsked_84 (by decide) ?_
              exact ih2 _ (by omega) _ _ _ ls (y22) rfl hZ hP (by omega) (by omega) (lv_sub hl [0, 3] rfl)
            · have c21 : ¬ (sa).toInt = (0 : Int) := fun h9 => c21 (hq_eqi.mpr h9)
              refine lv_iload_n hx hb dX13_formAsked_79 rfl (lv_at hl 2 rfl) ?_
              exact hp_iret hx hb hr hlocks hZ ⟨rfl, hP, fx19, ⟨by omega, Or.inl (by omega)⟩⟩ dX13_formAsked_80
          · have c20 : ¬ (m_as).toInt ≤ (i).toInt := fun h9 => c20 (hq_lei.mpr h9)
            refine lv_iload_n hx hb dX13_formAsked_39 rfl (lv_at hl 1 rfl) ?_
            refine lv_if_eq (tgt := 75) hx hb dX13_formAsked_40 (by decide) (fun c28 => ?_) (fun c28 => ?_)
            · have c28 : (sa).toInt = (0 : Int) := hq_eqi.mp c28
              refine lv_iload_n hx hb dX13_formAsked_75 rfl (lv_at hl 1 rfl) ?_
              refine lv_if_eq (tgt := 81) hx hb dX13_formAsked_76 (by decide) (fun c29 => ?_) (fun c29 => ?_)
              · have c29 : (sa).toInt = (0 : Int) := hq_eqi.mp c29
                obtain ⟨y30, ey31⟩ : ∃ y : Int32, y = k + (1) := ⟨_, rfl⟩
                obtain ⟨k32, hk33, b34, b35⟩ := hq_add (k) (1)
                rw [← ey31] at hk33 b34 b35
                have hk33 : (y30).toInt = (k).toInt + (1) + k32 * 4294967296 := hk33
                refine lv_iinc (v := y30) (lv' := [(1, .int (y30)), (3, .int (i)), (2, .int (sa)), (0, .ref (mo))]) hx hb dX13_formAsked_81 hl (k := 2) rfl (by rw [ey31]; rfl) (by decide) rfl (fun ls hl => ?_)
                refine lv_goto (tgt := 2) hx hb dX13_formAsked_84 (by decide) ?_
                exact ih2 _ (by omega) _ _ _ ls (y30) rfl hZ hP (by omega) (by omega) (lv_sub hl [0, 3] rfl)
              · have c29 : ¬ (sa).toInt = (0 : Int) := fun h9 => c29 (hq_eqi.mpr h9)
                refine lv_iload_n hx hb dX13_formAsked_79 rfl (lv_at hl 2 rfl) ?_
                exact hp_iret hx hb hr hlocks hZ ⟨rfl, hP, fx19, ⟨by omega, Or.inl (by omega)⟩⟩ dX13_formAsked_80
            · have c28 : ¬ (sa).toInt = (0 : Int) := fun h9 => c28 (hq_eqi.mpr h9)
              refine lv_aload_n hx hb dX13_formAsked_43 rfl (lv_at hl 3 rfl) ?_
              refine hp_get (v := .ref (q + 25)) hx hb hts hown hZ fx19 fl_X13_226 rfl dX13_formAsked_44 ?_
              refine lv_bipush (v := 61) hx hb dX13_formAsked_47 (by decide) ?_
              refine lv_iload_n hx hb dX13_formAsked_49 rfl (lv_at hl 2 rfl) ?_
              refine lv_imul hx hb dX13_formAsked_50 ?_
              refine lv_topi (fun y36 ey37 => ?_)
              obtain ⟨k38, hk39, b40, b41⟩ := hq_mul (61) (k)
              rw [← ey37] at hk39 b40 b41
              have hk39 : (y36).toInt = (61 : Int) * (k).toInt + k38 * 4294967296 := hk39
              obtain rfl : k38 = 0 := by omega
              refine lv_iload_n hx hb dX13_formAsked_51 rfl (lv_at hl 0 rfl) ?_
              refine lv_iadd hx hb dX13_formAsked_52 ?_
              refine lv_topi (fun y42 ey43 => ?_)
              obtain ⟨k44, hk45, b46, b47⟩ := hq_add (y36) (i)
              rw [← ey43] at hk45 b46 b47
              have hk45 : (y42).toInt = (y36).toInt + (i).toInt + k44 * 4294967296 := hk45
              obtain rfl : k44 = 0 := by omega
              obtain ⟨hN50, g49, eV48⟩ := hq_o20 hP.1 (hr_25 hR)
              refine hp_bald hx hb hZ eV48 (hq_in (by omega) (by omega)) dX13_formAsked_53 ?_
              refine lv_topi (fun y52 ey53 => ?_)
              have b54 := hq_rng y52
              refine lv_aload_n hx hb dX13_formAsked_54 rfl (lv_at hl 3 rfl) ?_
              refine hp_get (v := .ref (q + 37)) hx hb hts hown hZ fx19 fl_X13_262 rfl dX13_formAsked_55 ?_
              refine lv_iload_n hx hb dX13_formAsked_58 rfl (lv_at hl 0 rfl) ?_
              obtain ⟨hN57, g56, eV55⟩ := hq_o20 hP.1 (hr_37 hR)
              refine hp_bald hx hb hZ eV55 (hq_in (by omega) (by omega)) dX13_formAsked_59 ?_
              refine lv_topi (fun y59 ey60 => ?_)
              have b61 := hq_rng y59
              refine lv_icmp_ne (tgt := 67) hx hb dX13_formAsked_60 (by decide) (fun c62 => ?_) (fun c62 => ?_)
              · have c62 : ¬ (y52).toInt = (y59).toInt := fun h9 => c62 (hq_eqi.mpr h9)
                refine lv_iconst (v := 0) hx hb dX13_formAsked_67 (by decide) ?_
                refine lv_istore_n (lv' := [(2, .int (0)), (3, .int (i)), (1, .int (k)), (0, .ref (mo))]) hx hb dX13_formAsked_68 rfl hl (by decide) rfl (fun ls hl => ?_)
                obtain ⟨y63, ey64⟩ : ∃ y : Int32, y = i + (1) := ⟨_, rfl⟩
                obtain ⟨k65, hk66, b67, b68⟩ := hq_add (i) (1)
                rw [← ey64] at hk66 b67 b68
                have hk66 : (y63).toInt = (i).toInt + (1) + k65 * 4294967296 := hk66
                refine lv_iinc (v := y63) (lv' := [(3, .int (y63)), (2, .int (0)), (1, .int (k)), (0, .ref (mo))]) hx hb dX13_formAsked_69 hl (k := 1) rfl (by rw [ey64]; rfl) (by decide) rfl (fun ls hl => ?_)
                refine lv_goto (tgt := 31) hx hb dX13_formAsked_72 (by decide) ?_
                exact ih31 _ (by omega) _ _ _ ls (0) (y63) rfl hZ hP (by omega) (by omega) (by omega) (lv_sub hl [0, 1, 2, 3] rfl)
              · have c62 : (y52).toInt = (y59).toInt := hq_eqi.mp c62
                refine lv_iconst (v := 1) hx hb dX13_formAsked_63 (by decide) ?_
                refine lv_goto (tgt := 68) hx hb dX13_formAsked_64 (by decide) ?_
                refine lv_istore_n (lv' := [(2, .int (1)), (3, .int (i)), (1, .int (k)), (0, .ref (mo))]) hx hb dX13_formAsked_68 rfl hl (by decide) rfl (fun ls hl => ?_)
                obtain ⟨y69, ey70⟩ : ∃ y : Int32, y = i + (1) := ⟨_, rfl⟩
                obtain ⟨k71, hk72, b73, b74⟩ := hq_add (i) (1)
                rw [← ey70] at hk72 b73 b74
                have hk72 : (y69).toInt = (i).toInt + (1) + k71 * 4294967296 := hk72
                refine lv_iinc (v := y69) (lv' := [(3, .int (y69)), (2, .int (1)), (1, .int (k)), (0, .ref (mo))]) hx hb dX13_formAsked_69 hl (k := 1) rfl (by rw [ey70]; rfl) (by decide) rfl (fun ls hl => ?_)
                refine lv_goto (tgt := 31) hx hb dX13_formAsked_72 (by decide) ?_
                exact ih31 _ (by omega) _ _ _ ls (1) (y69) rfl hZ hP (by omega) (by omega) (by omega) (lv_sub hl [0, 1, 2, 3] rfl)
      · have c13 : (y10).toInt = (m_as).toInt := hq_eqi.mp c13
        refine lv_iconst (v := 1) hx hb dX13_formAsked_23 (by decide) ?_
        refine lv_goto (tgt := 28) hx hb dX13_formAsked_24 (by decide) ?_
        refine lv_istore_n (lv' := [(2, .int (1)), (1, .int (k)), (0, .ref (mo))]) hx hb dX13_formAsked_28 rfl hl (by decide) rfl (fun ls hl => ?_)
        refine lv_iconst (v := 0) hx hb dX13_formAsked_29 (by decide) ?_
        refine lv_istore_n (lv' := [(3, .int (0)), (2, .int (1)), (1, .int (k)), (0, .ref (mo))]) hx hb dX13_formAsked_30 rfl hl (by decide) rfl (fun ls hl => ?_)
        have hl75 : (1 : Int32).toInt = 1 := by decide
        have hl76 : (0 : Int32).toInt = 0 := by decide
        suffices lp31 : ∀ (k9 : Nat) (V9 : hp_V) (H9 : Heap) (locs9 : List Loc) (ls : Array Slot) (sa : Int32) (i : Int32), (5000 - i.toInt).toNat = k9 → hp_Z D cs B s V9 H9 n locs9 → hq_P cs G (fun _ => false) V V9 → 0 ≤ i.toInt → i.toInt ≤ 4000 → sa.toInt = 0 ∨ (sa.toInt = 1 ∧ m_as.toInt ≤ 61) → lv_has ls 4 [(3, .int (i)), (2, .int (sa)), (1, .int (k)), (0, .ref (mo))] → W p l e ({ frames := 1, cells := 0, slots := 0, locals := 21 }) s m ([.ref (mo)] : List Value).toArray below meth c H9 locs9 0 0 (MQ below (hp_QI D cs B (fun r V' n' => n = n' ∧ hq_P cs G (fun _ => false) V V' ∧ (V' mo = some (.inr (13, hm_o q (m_tp) (m_sz) (m_fr) (m_bh) (m_hd) (m_ft) (m_fa) (m_le) (m_fo) (m_as) (m_fd) (m_bc) (m_bg) (m_bs) (m_be) (m_b0) (m_b1) (m_cm) (m_hc)))) ∧ (-1 ≤ r.toInt ∧ (r.toInt < m_fo.toInt ∨ r.toInt = -1)))) ([.ref (mo)] : List Value).toArray s 0 0 (hp_F B)) (F0 m 31 ls []) from lp31 _ _ _ _ ls (1) (0) rfl hZ hP (by omega) (by omega) (by omega) (lv_sub hl [0, 1, 2, 3] rfl)
        intro k9
        induction k9 using Nat.strongRecOn with
        | _ k9 ih31 =>
          intro V9 H9 locs9 ls sa i  hk31 hZ hP  hv77 hv78 hv79 hl
          have hb_sa := hq_rng sa
          have hb_i := hq_rng i
          have hP_31 := hP
          refine lv_iload_n hx hb dX13_formAsked_31 rfl (lv_at hl 0 rfl) ?_
          refine lv_aload_n hx hb dX13_formAsked_32 rfl (lv_at hl 3 rfl) ?_
          have fx80 : V9 (mo) = some (.inr (13, hm_o q (m_tp) (m_sz) (m_fr) (m_bh) (m_hd) (m_ft) (m_fa) (m_le) (m_fo) (m_as) (m_fd) (m_bc) (m_bg) (m_bs) (m_be) (m_b0) (m_b1) (m_cm) (m_hc))) := (hP_31.2 (mo) _ h_mo rfl).trans (ho_mo)
          refine hp_get (v := .int (m_as)) hx hb hts hown hZ fx80 fl_X13_389 rfl dX13_formAsked_33 ?_
          refine lv_icmp_ge (tgt := 75) hx hb dX13_formAsked_36 (by decide) (fun c81 => ?_) (fun c81 => ?_)
          · have c81 : (m_as).toInt ≤ (i).toInt := hq_lei.mp c81
            refine lv_iload_n hx hb dX13_formAsked_75 rfl (lv_at hl 1 rfl) ?_
            refine lv_if_eq (tgt := 81) hx hb dX13_formAsked_76 (by decide) (fun c82 => ?_) (fun c82 => ?_)
            · have c82 : (sa).toInt = (0 : Int) := hq_eqi.mp c82
              obtain ⟨y83, ey84⟩ : ∃ y : Int32, y = k + (1) := ⟨_, rfl⟩
              obtain ⟨k85, hk86, b87, b88⟩ := hq_add (k) (1)
              rw [← ey84] at hk86 b87 b88
              have hk86 : (y83).toInt = (k).toInt + (1) + k85 * 4294967296 := hk86
              refine lv_iinc (v := y83) (lv' := [(1, .int (y83)), (3, .int (i)), (2, .int (sa)), (0, .ref (mo))]) hx hb dX13_formAsked_81 hl (k := 2) rfl (by rw [ey84]; rfl) (by decide) rfl (fun ls hl => ?_)
              refine lv_goto (tgt := 2) hx hb dX13_formAsked_84 (by decide) ?_
              exact ih2 _ (by omega) _ _ _ ls (y83) rfl hZ hP (by omega) (by omega) (lv_sub hl [0, 3] rfl)
            · have c82 : ¬ (sa).toInt = (0 : Int) := fun h9 => c82 (hq_eqi.mpr h9)
              refine lv_iload_n hx hb dX13_formAsked_79 rfl (lv_at hl 2 rfl) ?_
              exact hp_iret hx hb hr hlocks hZ ⟨rfl, hP, fx80, ⟨by omega, Or.inl (by omega)⟩⟩ dX13_formAsked_80
          · have c81 : ¬ (m_as).toInt ≤ (i).toInt := fun h9 => c81 (hq_lei.mpr h9)
            refine lv_iload_n hx hb dX13_formAsked_39 rfl (lv_at hl 1 rfl) ?_
            refine lv_if_eq (tgt := 75) hx hb dX13_formAsked_40 (by decide) (fun c89 => ?_) (fun c89 => ?_)
            · have c89 : (sa).toInt = (0 : Int) := hq_eqi.mp c89
              refine lv_iload_n hx hb dX13_formAsked_75 rfl (lv_at hl 1 rfl) ?_
              refine lv_if_eq (tgt := 81) hx hb dX13_formAsked_76 (by decide) (fun c90 => ?_) (fun c90 => ?_)
              · have c90 : (sa).toInt = (0 : Int) := hq_eqi.mp c90
                obtain ⟨y91, ey92⟩ : ∃ y : Int32, y = k + (1) := ⟨_, rfl⟩
                obtain ⟨k93, hk94, b95, b96⟩ := hq_add (k) (1)
                rw [← ey92] at hk94 b95 b96
                have hk94 : (y91).toInt = (k).toInt + (1) + k93 * 4294967296 := hk94
                refine lv_iinc (v := y91) (lv' := [(1, .int (y91)), (3, .int (i)), (2, .int (sa)), (0, .ref (mo))]) hx hb dX13_formAsked_81 hl (k := 2) rfl (by rw [ey92]; rfl) (by decide) rfl (fun ls hl => ?_)
                refine lv_goto (tgt := 2) hx hb dX13_formAsked_84 (by decide) ?_
                exact ih2 _ (by omega) _ _ _ ls (y91) rfl hZ hP (by omega) (by omega) (lv_sub hl [0, 3] rfl)
              · have c90 : ¬ (sa).toInt = (0 : Int) := fun h9 => c90 (hq_eqi.mpr h9)
                refine lv_iload_n hx hb dX13_formAsked_79 rfl (lv_at hl 2 rfl) ?_
                exact hp_iret hx hb hr hlocks hZ ⟨rfl, hP, fx80, ⟨by omega, Or.inl (by omega)⟩⟩ dX13_formAsked_80
            · have c89 : ¬ (sa).toInt = (0 : Int) := fun h9 => c89 (hq_eqi.mpr h9)
              refine lv_aload_n hx hb dX13_formAsked_43 rfl (lv_at hl 3 rfl) ?_
              refine hp_get (v := .ref (q + 25)) hx hb hts hown hZ fx80 fl_X13_226 rfl dX13_formAsked_44 ?_
              refine lv_bipush (v := 61) hx hb dX13_formAsked_47 (by decide) ?_
              refine lv_iload_n hx hb dX13_formAsked_49 rfl (lv_at hl 2 rfl) ?_
              refine lv_imul hx hb dX13_formAsked_50 ?_
              refine lv_topi (fun y97 ey98 => ?_)
              obtain ⟨k99, hk100, b101, b102⟩ := hq_mul (61) (k)
              rw [← ey98] at hk100 b101 b102
              have hk100 : (y97).toInt = (61 : Int) * (k).toInt + k99 * 4294967296 := hk100
              obtain rfl : k99 = 0 := by omega
              refine lv_iload_n hx hb dX13_formAsked_51 rfl (lv_at hl 0 rfl) ?_
              refine lv_iadd hx hb dX13_formAsked_52 ?_
              refine lv_topi (fun y103 ey104 => ?_)
              obtain ⟨k105, hk106, b107, b108⟩ := hq_add (y97) (i)
              rw [← ey104] at hk106 b107 b108
              have hk106 : (y103).toInt = (y97).toInt + (i).toInt + k105 * 4294967296 := hk106
              obtain rfl : k105 = 0 := by omega
              obtain ⟨hN111, g110, eV109⟩ := hq_o20 hP.1 (hr_25 hR)
              refine hp_bald hx hb hZ eV109 (hq_in (by omega) (by omega)) dX13_formAsked_53 ?_
              refine lv_topi (fun y113 ey114 => ?_)
              have b115 := hq_rng y113
              refine lv_aload_n hx hb dX13_formAsked_54 rfl (lv_at hl 3 rfl) ?_
              refine hp_get (v := .ref (q + 37)) hx hb hts hown hZ fx80 fl_X13_262 rfl dX13_formAsked_55 ?_
              refine lv_iload_n hx hb dX13_formAsked_58 rfl (lv_at hl 0 rfl) ?_
              obtain ⟨hN118, g117, eV116⟩ := hq_o20 hP.1 (hr_37 hR)
              refine hp_bald hx hb hZ eV116 (hq_in (by omega) (by omega)) dX13_formAsked_59 ?_
              refine lv_topi (fun y120 ey121 => ?_)
              have b122 := hq_rng y120
              refine lv_icmp_ne (tgt := 67) hx hb dX13_formAsked_60 (by decide) (fun c123 => ?_) (fun c123 => ?_)
              · have c123 : ¬ (y113).toInt = (y120).toInt := fun h9 => c123 (hq_eqi.mpr h9)
                refine lv_iconst (v := 0) hx hb dX13_formAsked_67 (by decide) ?_
                refine lv_istore_n (lv' := [(2, .int (0)), (3, .int (i)), (1, .int (k)), (0, .ref (mo))]) hx hb dX13_formAsked_68 rfl hl (by decide) rfl (fun ls hl => ?_)
                obtain ⟨y124, ey125⟩ : ∃ y : Int32, y = i + (1) := ⟨_, rfl⟩
                obtain ⟨k126, hk127, b128, b129⟩ := hq_add (i) (1)
                rw [← ey125] at hk127 b128 b129
                have hk127 : (y124).toInt = (i).toInt + (1) + k126 * 4294967296 := hk127
                refine lv_iinc (v := y124) (lv' := [(3, .int (y124)), (2, .int (0)), (1, .int (k)), (0, .ref (mo))]) hx hb dX13_formAsked_69 hl (k := 1) rfl (by rw [ey125]; rfl) (by decide) rfl (fun ls hl => ?_)
                refine lv_goto (tgt := 31) hx hb dX13_formAsked_72 (by decide) ?_
                exact ih31 _ (by omega) _ _ _ ls (0) (y124) rfl hZ hP (by omega) (by omega) (by omega) (lv_sub hl [0, 1, 2, 3] rfl)
              · have c123 : (y113).toInt = (y120).toInt := hq_eqi.mp c123
                refine lv_iconst (v := 1) hx hb dX13_formAsked_63 (by decide) ?_
                refine lv_goto (tgt := 68) hx hb dX13_formAsked_64 (by decide) ?_
                refine lv_istore_n (lv' := [(2, .int (1)), (3, .int (i)), (1, .int (k)), (0, .ref (mo))]) hx hb dX13_formAsked_68 rfl hl (by decide) rfl (fun ls hl => ?_)
                obtain ⟨y130, ey131⟩ : ∃ y : Int32, y = i + (1) := ⟨_, rfl⟩
                obtain ⟨k132, hk133, b134, b135⟩ := hq_add (i) (1)
                rw [← ey131] at hk133 b134 b135
                have hk133 : (y130).toInt = (i).toInt + (1) + k132 * 4294967296 := hk133
                refine lv_iinc (v := y130) (lv' := [(3, .int (y130)), (2, .int (1)), (1, .int (k)), (0, .ref (mo))]) hx hb dX13_formAsked_69 hl (k := 1) rfl (by rw [ey131]; rfl) (by decide) rfl (fun ls hl => ?_)
                refine lv_goto (tgt := 31) hx hb dX13_formAsked_72 (by decide) ?_
                exact ih31 _ (by omega) _ _ _ ls (1) (y130) rfl hZ hP (by omega) (by omega) (by omega) (lv_sub hl [0, 1, 2, 3] rfl)

set_option maxHeartbeats 4000000 in
set_option maxRecDepth 100000 in
theorem t_X13_look (l : Launch) (D : va_G) (cs : Nat → ClassId) (B : Nat) (G : hq_G) (V : hp_V) (n : Nat) (hI : hq_I cs G V) (q : Nat) (hR : hq_RT G q) (mo : Nat) (h_mo : G mo = some (24, 0, 0, 0)) (v : Int32) (te : Int32) (pe : Int32) {m_tp m_sz m_fr m_bh m_hd m_ft m_fa m_le m_fo m_as m_fd m_bc m_bg m_bs m_be m_b0 m_b1 m_cm m_hc : Int32} (ho_mo : V mo = some (.inr (13, hm_o q (m_tp) (m_sz) (m_fr) (m_bh) (m_hd) (m_ft) (m_fa) (m_le) (m_fo) (m_as) (m_fd) (m_bc) (m_bg) (m_bs) (m_be) (m_b0) (m_b1) (m_cm) (m_hc)))) (hi_mo0 : 0 ≤ m_tp.toInt ∧ m_tp.toInt ≤ 4000) (hi_mo1 : 0 ≤ m_sz.toInt ∧ m_sz.toInt ≤ 4000) (hi_mo2 : 0 ≤ m_le.toInt ∧ m_le.toInt ≤ 276) (hi_mo3 : 0 ≤ m_fo.toInt ∧ m_fo.toInt ≤ 4) (hi_mo4 : 0 ≤ m_as.toInt ∧ m_as.toInt ≤ 4000) (hi_mo5 : 0 ≤ m_fd.toInt ∧ m_fd.toInt ≤ 900) (hi_mo6 : 0 ≤ m_cm.toInt ∧ m_cm.toInt ≤ 2) (hi_mo7 : 0 ≤ m_hc.toInt ∧ m_hc.toInt ≤ 1) (hv0 : 0 ≤ v.toInt) (hv1 : v.toInt < 30) (hd : m_fd.toInt ≤ 899) (hH : hm_VQ cs V q 0 0) : hp_M l yX13_look cX13_look 4 none ({ frames := 6, cells := 0, slots := 0, locals := 150 }) D cs B V n [.ref (mo), .int (v), .int (te), .int (pe)] (hp_QV D cs B (fun V' n' => n = n' ∧ hq_P cs G (fun g => g.1 == 1 || g.1 == 43 || g.1 == 44 || g.1 == 45 || g.1 == 47) V V' ∧ (∃ (m_fo1 : Int32) (m_le1 : Int32) (m_fd1 : Int32), V' mo = some (.inr (13, hm_o q (m_tp) (m_sz) (m_fr) (m_bh) (m_hd) (m_ft) (m_fa) (m_le1) (m_fo1) (m_as) (m_fd1) (m_bc) (m_bg) (m_bs) (m_be) (m_b0) (m_b1) (m_cm) (m_hc))) ∧ (0 ≤ m_le1.toInt ∧ m_le1.toInt ≤ 276) ∧ (0 ≤ m_fo1.toInt ∧ m_fo1.toInt ≤ 4) ∧ (0 ≤ m_fd1.toInt ∧ m_fd1.toInt ≤ 900) ∧ (m_fd1.toInt ≤ m_fd.toInt + 1)))) 0 0 := by
  refine hp_walk (R0 := RX13) (by decide) rfl ?_ (Nat.le_of_ble_eq_true rfl)
  intro p e s m below meth c ls hx hb hr hts hown hlocks hin hml hZ hl
  have hP : hq_P cs G (fun g => g.1 == 1 || g.1 == 43 || g.1 == 44 || g.1 == 45 || g.1 == 47) V V := hq_P.rf hI
  have hl : lv_has ls 4 [(0, .ref (mo)), (1, .int (v)), (2, .int (te)), (3, .int (pe))] := hl
  have hb_v := hq_rng v
  have hb_te := hq_rng te
  have hb_pe := hq_rng pe
  have hb_m_tp := hq_rng m_tp
  have hb_m_sz := hq_rng m_sz
  have hb_m_fr := hq_rng m_fr
  have hb_m_bh := hq_rng m_bh
  have hb_m_hd := hq_rng m_hd
  have hb_m_ft := hq_rng m_ft
  have hb_m_fa := hq_rng m_fa
  have hb_m_le := hq_rng m_le
  have hb_m_fo := hq_rng m_fo
  have hb_m_as := hq_rng m_as
  have hb_m_fd := hq_rng m_fd
  have hb_m_bc := hq_rng m_bc
  have hb_m_bg := hq_rng m_bg
  have hb_m_bs := hq_rng m_bs
  have hb_m_be := hq_rng m_be
  have hb_m_b0 := hq_rng m_b0
  have hb_m_b1 := hq_rng m_b1
  have hb_m_cm := hq_rng m_cm
  have hb_m_hc := hq_rng m_hc
  refine lv_aload_n hx hb dX13_look_0 rfl (lv_at hl 0 rfl) ?_
  refine lv_iload_n hx hb dX13_look_1 rfl (lv_at hl 1 rfl) ?_
  refine lv_iload_n hx hb dX13_look_2 rfl (lv_at hl 2 rfl) ?_
  refine lv_iload_n hx hb dX13_look_3 rfl (lv_at hl 3 rfl) ?_
  obtain ⟨hN14, g13, eV12, hf15⟩ := hq_o21 hP.1 (hr_14 hR)
  obtain ⟨hN19, g18, eV17, hf20⟩ := hq_o21 hP.1 (hr_15 hR)
  obtain ⟨hN24, g23, eV22, hf25⟩ := hq_o21 hP.1 (hr_10 hR)
  obtain ⟨hN29, g28, eV27, hf30⟩ := hq_o21 hP.1 (hr_2 hR)
  refine hp_callv (hp_runV (As := [.int (v), .int (te), .int (pe)]) (rest := []) hx hb hml hown hts (t_X13_all l D cs B G  V n hP.1 q hR (mo) h_mo (v) (te) (pe) ho_mo  (by omega) (by omega) (by omega) (by omega) (by omega) (by omega) (by omega) (by omega) eV12 eV17 eV22 eV27 (by omega) (by omega) (hH.keep hR (fun x t hx hg => hP.2 x t hx (by simp [hg])))) hZ ho_mo cv_X13_384 rfl rfl ⟨Nat.le_of_ble_eq_true rfl, Nat.le_of_ble_eq_true rfl⟩ rfl hl.1 rfl (Nat.le_of_ble_eq_true rfl) dX13_look_4 ⟨(Nat.le_of_ble_eq_true rfl), (Nat.le_of_ble_eq_true rfl)⟩) hZ (fun V1 n2 _ _ hw3 hZ => ?_)
  obtain ⟨rfl, hq5, ⟨z7, z8, ho9, hi10, hi11⟩, ho16, ho21, ho26, ho31⟩ := hw3
  have hP := hP.trans hq5 (by intro g h; simp_all)
  have b32 := hq_rng z8
  have b33 := hq_rng z7
  refine lv_aload_n hx hb dX13_look_7 rfl (lv_at hl 0 rfl) ?_
  refine hp_calli (hp_runV (As := []) (rest := []) hx hb hml hown hts (t_X13_formAsked l D cs B G  V1 n hP.1 q hR (mo) h_mo ho9  (by omega) (by omega) (by omega) (by omega) (by omega) (by omega) (by omega) (by omega) ) hZ ho9 cv_X13_398 rfl rfl ⟨Nat.le_of_ble_eq_true rfl, Nat.le_of_ble_eq_true rfl⟩ rfl hl.1 rfl (Nat.le_of_ble_eq_true rfl) dX13_look_8 ⟨(Nat.le_of_ble_eq_true rfl), (Nat.le_of_ble_eq_true rfl)⟩) hZ (fun r37 V34 n35 _ _ hw36 hZ => ?_)
  obtain ⟨rfl, hq38, ho40, hr39⟩ := hw36
  have hP := hP.trans hq38 (fun _ _ => rfl)
  have b41 := hq_rng r37
  refine lv_iconst (v := -1) hx hb dX13_look_11 (by decide) ?_
  refine lv_icmp_ne (tgt := 16) hx hb dX13_look_12 (by decide) (fun c42 => ?_) (fun c42 => ?_)
  · have c42 : ¬ (r37).toInt = (-1 : Int) := fun h9 => c42 (hq_eqi.mpr h9)
    refine lv_aload_n hx hb dX13_look_16 rfl (lv_at hl 0 rfl) ?_
    refine hp_get (v := .int (m_fd)) hx hb hts hown hZ ho40 fl_X13_310 rfl dX13_look_17 ?_
    refine lv_bipush (v := 60) hx hb dX13_look_20 (by decide) ?_
    refine lv_icmp_ge (tgt := 55) hx hb dX13_look_22 (by decide) (fun c43 => ?_) (fun c43 => ?_)
    · have c43 : (60 : Int) ≤ (m_fd).toInt := hq_lei.mp c43
      refine lv_aload_n hx hb dX13_look_55 rfl (lv_at hl 0 rfl) ?_
      refine lv_dup hx hb dX13_look_56 rfl ?_
      refine hp_get (v := .int (m_fd)) hx hb hts hown hZ ho40 fl_X13_310 rfl dX13_look_57 ?_
      refine lv_iconst (v := 1) hx hb dX13_look_60 (by decide) ?_
      refine lv_iadd hx hb dX13_look_61 ?_
      refine lv_topi (fun y44 ey45 => ?_)
      obtain ⟨k46, hk47, b48, b49⟩ := hq_add (m_fd) (1)
      rw [← ey45] at hk47 b48 b49
      have hk47 : (y44).toInt = (m_fd).toInt + (1 : Int) + k46 * 4294967296 := hk47
      obtain rfl : k46 = 0 := by omega
      refine hp_put hx hb hts hown hZ ho40 fp_X13_310 rfl rfl (Nat.le_of_ble_eq_true rfl) dX13_look_62 (fun V50 _ _ e51 o52 hZ => ?_)
      have e51 : V50 (mo) = some (.inr (13, hm_o q (m_tp) (m_sz) (m_fr) (m_bh) (m_hd) (m_ft) (m_fa) (z8) (z7) (m_as) (y44) (m_bc) (m_bg) (m_bs) (m_be) (m_b0) (m_b1) (m_cm) (m_hc))) := e51
      have hP := hP.put h_mo e51 o52 (trivial) rfl
      exact hp_vret hx hb hr hlocks hZ ⟨rfl, hP, ⟨z7, z8, y44, e51, by omega, by omega, by omega, by omega⟩⟩ dX13_look_65
    · have c43 : ¬ (60 : Int) ≤ (m_fd).toInt := fun h9 => c43 (hq_lei.mpr h9)
      refine lv_aload_n hx hb dX13_look_25 rfl (lv_at hl 0 rfl) ?_
      refine hp_get (v := .ref (q + 38)) hx hb hts hown hZ ho40 fl_X13_265 rfl dX13_look_26 ?_
      refine lv_aload_n hx hb dX13_look_29 rfl (lv_at hl 0 rfl) ?_
      refine hp_get (v := .int (m_fd)) hx hb hts hown hZ ho40 fl_X13_310 rfl dX13_look_30 ?_
      refine lv_iload_n hx hb dX13_look_33 rfl (lv_at hl 1 rfl) ?_
      obtain ⟨hN55, g54, eV53, hf56⟩ := hq_o21 hP.1 (hr_38 hR)
      refine hp_iast hx hb hZ eV53 (hq_in (by omega) (by omega)) dX13_look_34 (fun V57 _ _ e58 o59 hZ => ?_)
      have e58 : V57 (q + 38) = some (.inl (cs 1, 60, .inl (upd (g54) ((m_fd : Int32).toNatClampNeg) (v)))) := e58
      have hP := hP.put (hr_38 hR) e58 o59 (hq_c21 (by omega) (hq_upd hf56 (hq_rng _))) rfl
      refine lv_aload_n hx hb dX13_look_35 rfl (lv_at hl 0 rfl) ?_
      have fx60 : V57 (mo) = some (.inr (13, hm_o q (m_tp) (m_sz) (m_fr) (m_bh) (m_hd) (m_ft) (m_fa) (z8) (z7) (m_as) (m_fd) (m_bc) (m_bg) (m_bs) (m_be) (m_b0) (m_b1) (m_cm) (m_hc))) := (o59 (mo) (hq_tne h_mo (hr_38 hR) (by simp))).trans (ho40)
      refine hp_get (v := .ref (q + 39)) hx hb hts hown hZ fx60 fl_X13_268 rfl dX13_look_36 ?_
      refine lv_aload_n hx hb dX13_look_39 rfl (lv_at hl 0 rfl) ?_
      refine hp_get (v := .int (m_fd)) hx hb hts hown hZ fx60 fl_X13_310 rfl dX13_look_40 ?_
      refine lv_iload_n hx hb dX13_look_43 rfl (lv_at hl 2 rfl) ?_
      obtain ⟨hN63, g62, eV61, hf64⟩ := hq_o21 hP.1 (hr_39 hR)
      refine hp_iast hx hb hZ eV61 (hq_in (by omega) (by omega)) dX13_look_44 (fun V65 _ _ e66 o67 hZ => ?_)
      have e66 : V65 (q + 39) = some (.inl (cs 1, 60, .inl (upd (g62) ((m_fd : Int32).toNatClampNeg) (te)))) := e66
      have hP := hP.put (hr_39 hR) e66 o67 (hq_c21 (by omega) (hq_upd hf64 (hq_rng _))) rfl
      refine lv_aload_n hx hb dX13_look_45 rfl (lv_at hl 0 rfl) ?_
      have fx68 : V65 (mo) = some (.inr (13, hm_o q (m_tp) (m_sz) (m_fr) (m_bh) (m_hd) (m_ft) (m_fa) (z8) (z7) (m_as) (m_fd) (m_bc) (m_bg) (m_bs) (m_be) (m_b0) (m_b1) (m_cm) (m_hc))) := (o67 (mo) (hq_tne h_mo (hr_39 hR) (by simp))).trans (fx60)
      refine hp_get (v := .ref (q + 40)) hx hb hts hown hZ fx68 fl_X13_271 rfl dX13_look_46 ?_
      refine lv_aload_n hx hb dX13_look_49 rfl (lv_at hl 0 rfl) ?_
      refine hp_get (v := .int (m_fd)) hx hb hts hown hZ fx68 fl_X13_310 rfl dX13_look_50 ?_
      refine lv_iload_n hx hb dX13_look_53 rfl (lv_at hl 3 rfl) ?_
      obtain ⟨hN71, g70, eV69, hf72⟩ := hq_o21 hP.1 (hr_40 hR)
      refine hp_iast hx hb hZ eV69 (hq_in (by omega) (by omega)) dX13_look_54 (fun V73 _ _ e74 o75 hZ => ?_)
      have e74 : V73 (q + 40) = some (.inl (cs 1, 60, .inl (upd (g70) ((m_fd : Int32).toNatClampNeg) (pe)))) := e74
      have hP := hP.put (hr_40 hR) e74 o75 (hq_c21 (by omega) (hq_upd hf72 (hq_rng _))) rfl
      refine lv_aload_n hx hb dX13_look_55 rfl (lv_at hl 0 rfl) ?_
      refine lv_dup hx hb dX13_look_56 rfl ?_
      have fx76 : V73 (mo) = some (.inr (13, hm_o q (m_tp) (m_sz) (m_fr) (m_bh) (m_hd) (m_ft) (m_fa) (z8) (z7) (m_as) (m_fd) (m_bc) (m_bg) (m_bs) (m_be) (m_b0) (m_b1) (m_cm) (m_hc))) := (o75 (mo) (hq_tne h_mo (hr_40 hR) (by simp))).trans (fx68)
      refine hp_get (v := .int (m_fd)) hx hb hts hown hZ fx76 fl_X13_310 rfl dX13_look_57 ?_
      refine lv_iconst (v := 1) hx hb dX13_look_60 (by decide) ?_
      refine lv_iadd hx hb dX13_look_61 ?_
      refine lv_topi (fun y77 ey78 => ?_)
      obtain ⟨k79, hk80, b81, b82⟩ := hq_add (m_fd) (1)
      rw [← ey78] at hk80 b81 b82
      have hk80 : (y77).toInt = (m_fd).toInt + (1 : Int) + k79 * 4294967296 := hk80
      obtain rfl : k79 = 0 := by omega
      refine hp_put hx hb hts hown hZ fx76 fp_X13_310 rfl rfl (Nat.le_of_ble_eq_true rfl) dX13_look_62 (fun V83 _ _ e84 o85 hZ => ?_)
      have e84 : V83 (mo) = some (.inr (13, hm_o q (m_tp) (m_sz) (m_fr) (m_bh) (m_hd) (m_ft) (m_fa) (z8) (z7) (m_as) (y77) (m_bc) (m_bg) (m_bs) (m_be) (m_b0) (m_b1) (m_cm) (m_hc))) := e84
      have hP := hP.put h_mo e84 o85 (trivial) rfl
      exact hp_vret hx hb hr hlocks hZ ⟨rfl, hP, ⟨z7, z8, y77, e84, by omega, by omega, by omega, by omega⟩⟩ dX13_look_65
  · have c42 : (r37).toInt = (-1 : Int) := hq_eqi.mp c42
    exact hp_vret hx hb hr hlocks hZ ⟨rfl, hP, ⟨z7, z8, m_fd, ho40, by omega, by omega, by omega, by omega⟩⟩ dX13_look_15

set_option maxHeartbeats 4000000 in
set_option maxRecDepth 100000 in
theorem t_X13_read (l : Launch) (D : va_G) (cs : Nat → ClassId) (B : Nat) (G : hq_G) (V : hp_V) (n : Nat) (hI : hq_I cs G V) (q : Nat) (hR : hq_RT G q) (mo : Nat) (h_mo : G mo = some (24, 0, 0, 0)) {m_tp m_sz m_fr m_bh m_hd m_ft m_fa m_le m_fo m_as m_fd m_bc m_bg m_bs m_be m_b0 m_b1 m_cm m_hc : Int32} (ho_mo : V mo = some (.inr (13, hm_o q (m_tp) (m_sz) (m_fr) (m_bh) (m_hd) (m_ft) (m_fa) (m_le) (m_fo) (m_as) (m_fd) (m_bc) (m_bg) (m_bs) (m_be) (m_b0) (m_b1) (m_cm) (m_hc)))) (hi_mo0 : 0 ≤ m_tp.toInt ∧ m_tp.toInt ≤ 4000) (hi_mo1 : 0 ≤ m_sz.toInt ∧ m_sz.toInt ≤ 4000) (hi_mo2 : 0 ≤ m_le.toInt ∧ m_le.toInt ≤ 276) (hi_mo3 : 0 ≤ m_fo.toInt ∧ m_fo.toInt ≤ 4) (hi_mo4 : 0 ≤ m_as.toInt ∧ m_as.toInt ≤ 4000) (hi_mo5 : 0 ≤ m_fd.toInt ∧ m_fd.toInt ≤ 900) (hi_mo6 : 0 ≤ m_cm.toInt ∧ m_cm.toInt ≤ 2) (hi_mo7 : 0 ≤ m_hc.toInt ∧ m_hc.toInt ≤ 1) (hH : hm_VQ cs V q 0 0) : hp_M l yX13_read cX13_read 4 (some .int) ({ frames := 7, cells := 0, slots := 0, locals := 173 }) D cs B V n [.ref (mo)] (hp_QI D cs B (fun r V' n' => n = n' ∧ hq_P cs G (fun g => g.1 == 1 || g.1 == 43 || g.1 == 44 || g.1 == 45 || g.1 == 46 || g.1 == 47) V V' ∧ (∃ (m_tp1 : Int32) (m_as1 : Int32) (m_fo1 : Int32) (m_le1 : Int32) (m_fd1 : Int32), V' mo = some (.inr (13, hm_o q (m_tp1) (m_sz) (m_fr) (m_bh) (m_hd) (m_ft) (m_fa) (m_le1) (m_fo1) (m_as1) (m_fd1) (m_bc) (m_bg) (m_bs) (m_be) (m_b0) (m_b1) (m_cm) (m_hc))) ∧ (0 ≤ m_tp1.toInt ∧ m_tp1.toInt ≤ 4000) ∧ (0 ≤ m_le1.toInt ∧ m_le1.toInt ≤ 276) ∧ (0 ≤ m_fo1.toInt ∧ m_fo1.toInt ≤ 4) ∧ (0 ≤ m_as1.toInt ∧ m_as1.toInt ≤ 4000) ∧ (0 ≤ m_fd1.toInt ∧ m_fd1.toInt ≤ 900) ∧ (m_tp1.toInt = 0)) ∧ True)) 0 0 := by
  refine hp_walk (R0 := RX13) (by decide) rfl ?_ (Nat.le_of_ble_eq_true rfl)
  intro p e s m below meth c ls hx hb hr hts hown hlocks hin hml hZ hl
  have hP : hq_P cs G (fun g => g.1 == 1 || g.1 == 43 || g.1 == 44 || g.1 == 45 || g.1 == 46 || g.1 == 47) V V := hq_P.rf hI
  have hl : lv_has ls 4 [(0, .ref (mo))] := hl
  have hb_m_tp := hq_rng m_tp
  have hb_m_sz := hq_rng m_sz
  have hb_m_fr := hq_rng m_fr
  have hb_m_bh := hq_rng m_bh
  have hb_m_hd := hq_rng m_hd
  have hb_m_ft := hq_rng m_ft
  have hb_m_fa := hq_rng m_fa
  have hb_m_le := hq_rng m_le
  have hb_m_fo := hq_rng m_fo
  have hb_m_as := hq_rng m_as
  have hb_m_fd := hq_rng m_fd
  have hb_m_bc := hq_rng m_bc
  have hb_m_bg := hq_rng m_bg
  have hb_m_bs := hq_rng m_bs
  have hb_m_be := hq_rng m_be
  have hb_m_b0 := hq_rng m_b0
  have hb_m_b1 := hq_rng m_b1
  have hb_m_cm := hq_rng m_cm
  have hb_m_hc := hq_rng m_hc
  refine lv_aload_n hx hb dX13_read_0 rfl (lv_at hl 0 rfl) ?_
  refine hp_callv (hp_runV (As := []) (rest := []) hx hb hml hown hts (t_X13_ask l D cs B G  V n hP.1 q hR (mo) h_mo ho_mo  (by omega) (by omega) (by omega) (by omega) (by omega) (by omega) (by omega) (by omega) ) hZ ho_mo cv_X13_392 rfl rfl ⟨Nat.le_of_ble_eq_true rfl, Nat.le_of_ble_eq_true rfl⟩ rfl hl.1 rfl (Nat.le_of_ble_eq_true rfl) dX13_read_1 ⟨(Nat.le_of_ble_eq_true rfl), (Nat.le_of_ble_eq_true rfl)⟩) hZ (fun V1 n2 _ _ hw3 hZ => ?_)
  obtain ⟨rfl, hq5, ⟨z7, z8, ho9, hi10, hi11, hi12⟩⟩ := hw3
  have hP := hP.trans hq5 (by intro g h; simp_all)
  have b13 := hq_rng z7
  have b14 := hq_rng z8
  refine lv_aload_n hx hb dX13_read_4 rfl (lv_at hl 0 rfl) ?_
  refine lv_iconst (v := 0) hx hb dX13_read_5 (by decide) ?_
  refine hp_put hx hb hts hown hZ ho9 fp_X13_310 rfl rfl (Nat.le_of_ble_eq_true rfl) dX13_read_6 (fun V15 _ _ e16 o17 hZ => ?_)
  have e16 : V15 (mo) = some (.inr (13, hm_o q (z7) (m_sz) (m_fr) (m_bh) (m_hd) (m_ft) (m_fa) (m_le) (m_fo) (z8) (0) (m_bc) (m_bg) (m_bs) (m_be) (m_b0) (m_b1) (m_cm) (m_hc))) := e16
  have hP := hP.put h_mo e16 o17 (trivial) rfl
  refine lv_iconst (v := 0) hx hb dX13_read_9 (by decide) ?_
  refine lv_istore_n (lv' := [(1, .int (0)), (0, .ref (mo))]) hx hb dX13_read_10 rfl hl (by decide) rfl (fun ls hl => ?_)
  have hl18 : (0 : Int32).toInt = 0 := by decide
  have hl19 : (0 : Int32).toInt = 0 := by decide
  suffices lp11 : ∀ (k9 : Nat) (V9 : hp_V) (H9 : Heap) (locs9 : List Loc) (ls : Array Slot) (v : Int32) (le9 : Int32) (fo9 : Int32) (fd9 : Int32), (100 - v.toInt).toNat = k9 → hp_Z D cs B s V9 H9 n locs9 → hq_P cs G (fun g => g.1 == 1 || g.1 == 43 || g.1 == 44 || g.1 == 45 || g.1 == 46 || g.1 == 47) V V9 → V9 (mo) = some (.inr (13, hm_o q (z7) (m_sz) (m_fr) (m_bh) (m_hd) (m_ft) (m_fa) (le9) (fo9) (z8) (fd9) (m_bc) (m_bg) (m_bs) (m_be) (m_b0) (m_b1) (m_cm) (m_hc))) → 0 ≤ v.toInt → v.toInt ≤ 30 → 0 ≤ fd9.toInt ∧ fd9.toInt ≤ 30 * v.toInt → 0 ≤ le9.toInt ∧ le9.toInt ≤ 276 → 0 ≤ fo9.toInt ∧ fo9.toInt ≤ 4 → lv_has ls 4 [(1, .int (v)), (0, .ref (mo))] → W p l e ({ frames := 7, cells := 0, slots := 0, locals := 173 }) s m ([.ref (mo)] : List Value).toArray below meth c H9 locs9 0 0 (MQ below (hp_QI D cs B (fun r V' n' => n = n' ∧ hq_P cs G (fun g => g.1 == 1 || g.1 == 43 || g.1 == 44 || g.1 == 45 || g.1 == 46 || g.1 == 47) V V' ∧ (∃ (m_tp1 : Int32) (m_as1 : Int32) (m_fo1 : Int32) (m_le1 : Int32) (m_fd1 : Int32), V' mo = some (.inr (13, hm_o q (m_tp1) (m_sz) (m_fr) (m_bh) (m_hd) (m_ft) (m_fa) (m_le1) (m_fo1) (m_as1) (m_fd1) (m_bc) (m_bg) (m_bs) (m_be) (m_b0) (m_b1) (m_cm) (m_hc))) ∧ (0 ≤ m_tp1.toInt ∧ m_tp1.toInt ≤ 4000) ∧ (0 ≤ m_le1.toInt ∧ m_le1.toInt ≤ 276) ∧ (0 ≤ m_fo1.toInt ∧ m_fo1.toInt ≤ 4) ∧ (0 ≤ m_as1.toInt ∧ m_as1.toInt ≤ 4000) ∧ (0 ≤ m_fd1.toInt ∧ m_fd1.toInt ≤ 900) ∧ (m_tp1.toInt = 0)) ∧ True)) ([.ref (mo)] : List Value).toArray s 0 0 (hp_F B)) (F0 m 11 ls []) from lp11 _ _ _ _ ls (0) (m_le) (m_fo) (0) rfl hZ hP e16 (by omega) (by omega) (by omega) (by omega) (by omega) (lv_sub hl [0, 1] rfl)
  intro k9
  induction k9 using Nat.strongRecOn with
  | _ k9 ih11 =>
    intro V9 H9 locs9 ls v le9 fo9 fd9 hk11 hZ hP ho20 hv21 hv22 hv23 hv24 hv25 hl
    have hb_v := hq_rng v
    have hb_le9 := hq_rng le9
    have hb_fo9 := hq_rng fo9
    have hb_fd9 := hq_rng fd9
    have hP_11 := hP
    refine lv_iload_n hx hb dX13_read_11 rfl (lv_at hl 0 rfl) ?_
    refine lv_aload_n hx hb dX13_read_12 rfl (lv_at hl 1 rfl) ?_
    refine hp_get (v := .ref (q + 1)) hx hb hts hown hZ ho20 fl_X13_7 rfl dX13_read_13 ?_
    refine lv_iconst (v := 0) hx hb dX13_read_16 (by decide) ?_
    obtain ⟨hN28, g27, eV26, hf29⟩ := hq_o21 hP.1 (hr_1 hR)
    refine hp_iald hx hb hZ eV26 (by unfold vp_in; decide) dX13_read_17 ?_
    refine lv_topi (fun y30 ey31 => ?_)
    have b32 : hq_ir (hq_lo 9) (hq_hi 9) y30 := by rw [ey31]; exact hf29 _ (by decide)
    have b32 : 0 ≤ (y30).toInt ∧ (y30).toInt ≤ 30 := b32
    refine lv_icmp_ge (tgt := 61) hx hb dX13_read_18 (by decide) (fun c33 => ?_) (fun c33 => ?_)
    · have c33 : (y30).toInt ≤ (v).toInt := hq_lei.mp c33
      refine lv_aload_n hx hb dX13_read_61 rfl (lv_at hl 1 rfl) ?_
      refine hp_get (v := .int (fd9)) hx hb hts hown hZ ho20 fl_X13_310 rfl dX13_read_62 ?_
      exact hp_iret hx hb hr hlocks hZ ⟨rfl, hP, ⟨z7, z8, fo9, le9, fd9, ho20, by omega, by omega, by omega, by omega, by omega, by omega⟩, trivial⟩ dX13_read_65
    · have c33 : ¬ (y30).toInt ≤ (v).toInt := fun h9 => c33 (hq_lei.mpr h9)
      refine lv_iconst (v := 0) hx hb dX13_read_21 (by decide) ?_
      refine lv_istore_n (lv' := [(2, .int (0)), (1, .int (v)), (0, .ref (mo))]) hx hb dX13_read_22 rfl hl (by decide) rfl (fun ls hl => ?_)
      have hl34 : (0 : Int32).toInt = 0 := by decide
      suffices lp23 : ∀ (k9 : Nat) (V9 : hp_V) (H9 : Heap) (locs9 : List Loc) (ls : Array Slot) (te : Int32) (le8 : Int32) (fo8 : Int32) (fd8 : Int32), (100 - te.toInt).toNat = k9 → hp_Z D cs B s V9 H9 n locs9 → hq_P cs G (fun g => g.1 == 1 || g.1 == 43 || g.1 == 44 || g.1 == 45 || g.1 == 46 || g.1 == 47) V V9 → V9 (mo) = some (.inr (13, hm_o q (z7) (m_sz) (m_fr) (m_bh) (m_hd) (m_ft) (m_fa) (le8) (fo8) (z8) (fd8) (m_bc) (m_bg) (m_bs) (m_be) (m_b0) (m_b1) (m_cm) (m_hc))) → 0 ≤ te.toInt → te.toInt ≤ 5 → 0 ≤ fd8.toInt ∧ fd8.toInt ≤ 30 * v.toInt + 6 * te.toInt → 0 ≤ le8.toInt ∧ le8.toInt ≤ 276 → 0 ≤ fo8.toInt ∧ fo8.toInt ≤ 4 → lv_has ls 4 [(2, .int (te)), (1, .int (v)), (0, .ref (mo))] → W p l e ({ frames := 7, cells := 0, slots := 0, locals := 173 }) s m ([.ref (mo)] : List Value).toArray below meth c H9 locs9 0 0 (MQ below (hp_QI D cs B (fun r V' n' => n = n' ∧ hq_P cs G (fun g => g.1 == 1 || g.1 == 43 || g.1 == 44 || g.1 == 45 || g.1 == 46 || g.1 == 47) V V' ∧ (∃ (m_tp1 : Int32) (m_as1 : Int32) (m_fo1 : Int32) (m_le1 : Int32) (m_fd1 : Int32), V' mo = some (.inr (13, hm_o q (m_tp1) (m_sz) (m_fr) (m_bh) (m_hd) (m_ft) (m_fa) (m_le1) (m_fo1) (m_as1) (m_fd1) (m_bc) (m_bg) (m_bs) (m_be) (m_b0) (m_b1) (m_cm) (m_hc))) ∧ (0 ≤ m_tp1.toInt ∧ m_tp1.toInt ≤ 4000) ∧ (0 ≤ m_le1.toInt ∧ m_le1.toInt ≤ 276) ∧ (0 ≤ m_fo1.toInt ∧ m_fo1.toInt ≤ 4) ∧ (0 ≤ m_as1.toInt ∧ m_as1.toInt ≤ 4000) ∧ (0 ≤ m_fd1.toInt ∧ m_fd1.toInt ≤ 900) ∧ (m_tp1.toInt = 0)) ∧ True)) ([.ref (mo)] : List Value).toArray s 0 0 (hp_F B)) (F0 m 23 ls []) from lp23 _ _ _ _ ls (0) (le9) (fo9) (fd9) rfl hZ hP ho20 (by omega) (by omega) (by omega) (by omega) (by omega) (lv_sub hl [0, 1, 2] rfl)
      intro k9
      induction k9 using Nat.strongRecOn with
      | _ k9 ih23 =>
        intro V9 H9 locs9 ls te le8 fo8 fd8 hk23 hZ hP ho35 hv36 hv37 hv38 hv39 hv40 hl
        have hb_te := hq_rng te
        have hb_le8 := hq_rng le8
        have hb_fo8 := hq_rng fo8
        have hb_fd8 := hq_rng fd8
        have hP_23 := hP
        refine lv_iload_n hx hb dX13_read_23 rfl (lv_at hl 0 rfl) ?_
        refine lv_iconst (v := 5) hx hb dX13_read_24 (by decide) ?_
        refine lv_icmp_ge (tgt := 55) hx hb dX13_read_25 (by decide) (fun c41 => ?_) (fun c41 => ?_)
        · have c41 : (5 : Int) ≤ (te).toInt := hq_lei.mp c41
          obtain ⟨y42, ey43⟩ : ∃ y : Int32, y = v + (1) := ⟨_, rfl⟩
          obtain ⟨k44, hk45, b46, b47⟩ := hq_add (v) (1)
          rw [← ey43] at hk45 b46 b47
          have hk45 : (y42).toInt = (v).toInt + (1) + k44 * 4294967296 := hk45
          refine lv_iinc (v := y42) (lv' := [(1, .int (y42)), (2, .int (te)), (0, .ref (mo))]) hx hb dX13_read_55 hl (k := 1) rfl (by rw [ey43]; rfl) (by decide) rfl (fun ls hl => ?_)
          refine lv_goto (tgt := 11) hx hb dX13_read_58 (by decide) ?_
          exact ih11 _ (by omega) _ _ _ ls (y42) (le8) (fo8) (fd8) rfl hZ hP ho35 (by omega) (by omega) (by omega) (by omega) (by omega) (lv_sub hl [0, 2] rfl)
        · have c41 : ¬ (5 : Int) ≤ (te).toInt := fun h9 => c41 (hq_lei.mpr h9)
          refine lv_iconst (v := 0) hx hb dX13_read_28 (by decide) ?_
          refine lv_istore_n (lv' := [(3, .int (0)), (2, .int (te)), (1, .int (v)), (0, .ref (mo))]) hx hb dX13_read_29 rfl hl (by decide) rfl (fun ls hl => ?_)
          have hl48 : (0 : Int32).toInt = 0 := by decide
          suffices lp30 : ∀ (k9 : Nat) (V9 : hp_V) (H9 : Heap) (locs9 : List Loc) (ls : Array Slot) (pe : Int32) (le7 : Int32) (fo7 : Int32) (fd7 : Int32), (100 - pe.toInt).toNat = k9 → hp_Z D cs B s V9 H9 n locs9 → hq_P cs G (fun g => g.1 == 1 || g.1 == 43 || g.1 == 44 || g.1 == 45 || g.1 == 46 || g.1 == 47) V V9 → V9 (mo) = some (.inr (13, hm_o q (z7) (m_sz) (m_fr) (m_bh) (m_hd) (m_ft) (m_fa) (le7) (fo7) (z8) (fd7) (m_bc) (m_bg) (m_bs) (m_be) (m_b0) (m_b1) (m_cm) (m_hc))) → 0 ≤ pe.toInt → pe.toInt ≤ 6 → 0 ≤ fd7.toInt ∧ fd7.toInt ≤ 30 * v.toInt + 6 * te.toInt + pe.toInt → 0 ≤ le7.toInt ∧ le7.toInt ≤ 276 → 0 ≤ fo7.toInt ∧ fo7.toInt ≤ 4 → lv_has ls 4 [(3, .int (pe)), (2, .int (te)), (1, .int (v)), (0, .ref (mo))] → W p l e ({ frames := 7, cells := 0, slots := 0, locals := 173 }) s m ([.ref (mo)] : List Value).toArray below meth c H9 locs9 0 0 (MQ below (hp_QI D cs B (fun r V' n' => n = n' ∧ hq_P cs G (fun g => g.1 == 1 || g.1 == 43 || g.1 == 44 || g.1 == 45 || g.1 == 46 || g.1 == 47) V V' ∧ (∃ (m_tp1 : Int32) (m_as1 : Int32) (m_fo1 : Int32) (m_le1 : Int32) (m_fd1 : Int32), V' mo = some (.inr (13, hm_o q (m_tp1) (m_sz) (m_fr) (m_bh) (m_hd) (m_ft) (m_fa) (m_le1) (m_fo1) (m_as1) (m_fd1) (m_bc) (m_bg) (m_bs) (m_be) (m_b0) (m_b1) (m_cm) (m_hc))) ∧ (0 ≤ m_tp1.toInt ∧ m_tp1.toInt ≤ 4000) ∧ (0 ≤ m_le1.toInt ∧ m_le1.toInt ≤ 276) ∧ (0 ≤ m_fo1.toInt ∧ m_fo1.toInt ≤ 4) ∧ (0 ≤ m_as1.toInt ∧ m_as1.toInt ≤ 4000) ∧ (0 ≤ m_fd1.toInt ∧ m_fd1.toInt ≤ 900) ∧ (m_tp1.toInt = 0)) ∧ True)) ([.ref (mo)] : List Value).toArray s 0 0 (hp_F B)) (F0 m 30 ls []) from lp30 _ _ _ _ ls (0) (le8) (fo8) (fd8) rfl hZ hP ho35 (by omega) (by omega) (by omega) (by omega) (by omega) (lv_sub hl [0, 1, 2, 3] rfl)
          intro k9
          induction k9 using Nat.strongRecOn with
          | _ k9 ih30 =>
            intro V9 H9 locs9 ls pe le7 fo7 fd7 hk30 hZ hP ho49 hv50 hv51 hv52 hv53 hv54 hl
            have hb_pe := hq_rng pe
            have hb_le7 := hq_rng le7
            have hb_fo7 := hq_rng fo7
            have hb_fd7 := hq_rng fd7
            have hP_30 := hP
            refine lv_iload_n hx hb dX13_read_30 rfl (lv_at hl 0 rfl) ?_
            refine lv_bipush (v := 6) hx hb dX13_read_31 (by decide) ?_
            refine lv_icmp_ge (tgt := 49) hx hb dX13_read_33 (by decide) (fun c55 => ?_) (fun c55 => ?_)
            · have c55 : (6 : Int) ≤ (pe).toInt := hq_lei.mp c55
              obtain ⟨y56, ey57⟩ : ∃ y : Int32, y = te + (1) := ⟨_, rfl⟩
              obtain ⟨k58, hk59, b60, b61⟩ := hq_add (te) (1)
              rw [← ey57] at hk59 b60 b61
              have hk59 : (y56).toInt = (te).toInt + (1) + k58 * 4294967296 := hk59
              refine lv_iinc (v := y56) (lv' := [(2, .int (y56)), (3, .int (pe)), (1, .int (v)), (0, .ref (mo))]) hx hb dX13_read_49 hl (k := 1) rfl (by rw [ey57]; rfl) (by decide) rfl (fun ls hl => ?_)
              refine lv_goto (tgt := 23) hx hb dX13_read_52 (by decide) ?_
              exact ih23 _ (by omega) _ _ _ ls (y56) (le7) (fo7) (fd7) rfl hZ hP ho49 (by omega) (by omega) (by omega) (by omega) (by omega) (lv_sub hl [0, 2, 3] rfl)
            · have c55 : ¬ (6 : Int) ≤ (pe).toInt := fun h9 => c55 (hq_lei.mpr h9)
              refine lv_aload_n hx hb dX13_read_36 rfl (lv_at hl 3 rfl) ?_
              refine lv_iload_n hx hb dX13_read_37 rfl (lv_at hl 2 rfl) ?_
              refine lv_iload_n hx hb dX13_read_38 rfl (lv_at hl 1 rfl) ?_
              refine lv_iload_n hx hb dX13_read_39 rfl (lv_at hl 0 rfl) ?_
              refine hp_callv (hp_runV (As := [.int (v), .int (te), .int (pe)]) (rest := []) hx hb hml hown hts (t_X13_look l D cs B G  V9 n hP.1 q hR (mo) h_mo (v) (te) (pe) ho49  (by omega) (by omega) (by omega) (by omega) (by omega) (by omega) (by omega) (by omega) (by omega) (by omega) (by omega) (hH.keep hR (fun x t hx hg => hP.2 x t hx (by simp [hg])))) hZ ho49 cv_X13_395 rfl rfl ⟨Nat.le_of_ble_eq_true rfl, Nat.le_of_ble_eq_true rfl⟩ rfl hl.1 rfl (Nat.le_of_ble_eq_true rfl) dX13_read_40 ⟨(Nat.le_of_ble_eq_true rfl), (Nat.le_of_ble_eq_true rfl)⟩) hZ (fun V62 n63 _ _ hw64 hZ => ?_)
              obtain ⟨rfl, hq66, ⟨z68, z69, z70, ho71, hi72, hi73, hi74, hi75⟩⟩ := hw64
              have hP := hP.trans hq66 (by intro g h; simp_all)
              have b76 := hq_rng z69
              have b77 := hq_rng z68
              have b78 := hq_rng z70
              obtain ⟨y79, ey80⟩ : ∃ y : Int32, y = pe + (1) := ⟨_, rfl⟩
              obtain ⟨k81, hk82, b83, b84⟩ := hq_add (pe) (1)
              rw [← ey80] at hk82 b83 b84
              have hk82 : (y79).toInt = (pe).toInt + (1) + k81 * 4294967296 := hk82
              refine lv_iinc (v := y79) (lv' := [(3, .int (y79)), (2, .int (te)), (1, .int (v)), (0, .ref (mo))]) hx hb dX13_read_43 hl (k := 0) rfl (by rw [ey80]; rfl) (by decide) rfl (fun ls hl => ?_)
              refine lv_goto (tgt := 30) hx hb dX13_read_46 (by decide) ?_
              exact ih30 _ (by omega) _ _ _ ls (y79) (z69) (z68) (z70) rfl hZ hP ho71 (by omega) (by omega) (by omega) (by omega) (by omega) (lv_sub hl [0, 1, 2, 3] rfl)

set_option maxHeartbeats 4000000 in
set_option maxRecDepth 100000 in
theorem t_X13_isUsed (l : Launch) (D : va_G) (cs : Nat → ClassId) (B : Nat) (G : hq_G) (V : hp_V) (n : Nat) (hI : hq_I cs G V) (q : Nat) (hR : hq_RT G q) (mo : Nat) (h_mo : G mo = some (24, 0, 0, 0)) (kk : Int32) {m_tp m_sz m_fr m_bh m_hd m_ft m_fa m_le m_fo m_as m_fd m_bc m_bg m_bs m_be m_b0 m_b1 m_cm m_hc : Int32} (ho_mo : V mo = some (.inr (13, hm_o q (m_tp) (m_sz) (m_fr) (m_bh) (m_hd) (m_ft) (m_fa) (m_le) (m_fo) (m_as) (m_fd) (m_bc) (m_bg) (m_bs) (m_be) (m_b0) (m_b1) (m_cm) (m_hc)))) (hi_mo0 : 0 ≤ m_tp.toInt ∧ m_tp.toInt ≤ 4000) (hi_mo1 : 0 ≤ m_sz.toInt ∧ m_sz.toInt ≤ 4000) (hi_mo2 : 0 ≤ m_le.toInt ∧ m_le.toInt ≤ 276) (hi_mo3 : 0 ≤ m_fo.toInt ∧ m_fo.toInt ≤ 4) (hi_mo4 : 0 ≤ m_as.toInt ∧ m_as.toInt ≤ 4000) (hi_mo5 : 0 ≤ m_fd.toInt ∧ m_fd.toInt ≤ 900) (hi_mo6 : 0 ≤ m_cm.toInt ∧ m_cm.toInt ≤ 2) (hi_mo7 : 0 ≤ m_hc.toInt ∧ m_hc.toInt ≤ 1) : hp_M l yX13_isUsed cX13_isUsed 4 (some .boolean) ({ frames := 1, cells := 0, slots := 0, locals := 21 }) D cs B V n [.ref (mo), .int (kk)] (hp_QI D cs B (fun r V' n' => n = n' ∧ hq_P cs G (fun _ => false) V V' ∧ (V' mo = some (.inr (13, hm_o q (m_tp) (m_sz) (m_fr) (m_bh) (m_hd) (m_ft) (m_fa) (m_le) (m_fo) (m_as) (m_fd) (m_bc) (m_bg) (m_bs) (m_be) (m_b0) (m_b1) (m_cm) (m_hc)))) ∧ (0 ≤ r.toInt ∧ r.toInt ≤ 1))) 0 0 := by
  refine hp_walk (R0 := RX13) (by decide) rfl ?_ (Nat.le_of_ble_eq_true rfl)
  intro p e s m below meth c ls hx hb hr hts hown hlocks hin hml hZ hl
  have hP : hq_P cs G (fun _ => false) V V := hq_P.rf hI
  have hl : lv_has ls 4 [(0, .ref (mo)), (1, .int (kk))] := hl
  have hb_kk := hq_rng kk
  have hb_m_tp := hq_rng m_tp
  have hb_m_sz := hq_rng m_sz
  have hb_m_fr := hq_rng m_fr
  have hb_m_bh := hq_rng m_bh
  have hb_m_hd := hq_rng m_hd
  have hb_m_ft := hq_rng m_ft
  have hb_m_fa := hq_rng m_fa
  have hb_m_le := hq_rng m_le
  have hb_m_fo := hq_rng m_fo
  have hb_m_as := hq_rng m_as
  have hb_m_fd := hq_rng m_fd
  have hb_m_bc := hq_rng m_bc
  have hb_m_bg := hq_rng m_bg
  have hb_m_bs := hq_rng m_bs
  have hb_m_be := hq_rng m_be
  have hb_m_b0 := hq_rng m_b0
  have hb_m_b1 := hq_rng m_b1
  have hb_m_cm := hq_rng m_cm
  have hb_m_hc := hq_rng m_hc
  refine lv_iconst (v := 0) hx hb dX13_isUsed_0 (by decide) ?_
  refine lv_istore_n (lv' := [(2, .int (0)), (0, .ref (mo)), (1, .int (kk))]) hx hb dX13_isUsed_1 rfl hl (by decide) rfl (fun ls hl => ?_)
  have hl1 : (0 : Int32).toInt = 0 := by decide
  suffices lp2 : ∀ (k9 : Nat) (V9 : hp_V) (H9 : Heap) (locs9 : List Loc) (ls : Array Slot) (k : Int32), (100 - k.toInt).toNat = k9 → hp_Z D cs B s V9 H9 n locs9 → hq_P cs G (fun _ => false) V V9 → 0 ≤ k.toInt → k.toInt ≤ 4 → lv_has ls 4 [(2, .int (k)), (0, .ref (mo)), (1, .int (kk))] → W p l e ({ frames := 1, cells := 0, slots := 0, locals := 21 }) s m ([.ref (mo), .int (kk)] : List Value).toArray below meth c H9 locs9 0 0 (MQ below (hp_QI D cs B (fun r V' n' => n = n' ∧ hq_P cs G (fun _ => false) V V' ∧ (V' mo = some (.inr (13, hm_o q (m_tp) (m_sz) (m_fr) (m_bh) (m_hd) (m_ft) (m_fa) (m_le) (m_fo) (m_as) (m_fd) (m_bc) (m_bg) (m_bs) (m_be) (m_b0) (m_b1) (m_cm) (m_hc)))) ∧ (0 ≤ r.toInt ∧ r.toInt ≤ 1))) ([.ref (mo), .int (kk)] : List Value).toArray s 0 0 (hp_F B)) (F0 m 2 ls []) from lp2 _ _ _ _ ls (0) rfl hZ hP (by omega) (by omega) (lv_sub hl [0, 1, 2] rfl)
  intro k9
  induction k9 using Nat.strongRecOn with
  | _ k9 ih2 =>
    intro V9 H9 locs9 ls k  hk2 hZ hP  hv2 hv3 hl
    have hb_k := hq_rng k
    have hP_2 := hP
    refine lv_iload_n hx hb dX13_isUsed_2 rfl (lv_at hl 0 rfl) ?_
    refine lv_aload_n hx hb dX13_isUsed_3 rfl (lv_at hl 1 rfl) ?_
    have fx4 : V9 (mo) = some (.inr (13, hm_o q (m_tp) (m_sz) (m_fr) (m_bh) (m_hd) (m_ft) (m_fa) (m_le) (m_fo) (m_as) (m_fd) (m_bc) (m_bg) (m_bs) (m_be) (m_b0) (m_b1) (m_cm) (m_hc))) := (hP_2.2 (mo) _ h_mo rfl).trans (ho_mo)
    refine hp_get (v := .int (m_fo)) hx hb hts hown hZ fx4 fl_X13_344 rfl dX13_isUsed_4 ?_
    refine lv_icmp_ge (tgt := 52) hx hb dX13_isUsed_7 (by decide) (fun c5 => ?_) (fun c5 => ?_)
    · have c5 : (m_fo).toInt ≤ (k).toInt := hq_lei.mp c5
      refine lv_iconst (v := 0) hx hb dX13_isUsed_52 (by decide) ?_
      exact hp_zret hx hb hr rfl hlocks hZ ⟨rfl, hP, fx4, (by decide)⟩ dX13_isUsed_53
    · have c5 : ¬ (m_fo).toInt ≤ (k).toInt := fun h9 => c5 (hq_lei.mpr h9)
      refine lv_iconst (v := 0) hx hb dX13_isUsed_10 (by decide) ?_
      refine lv_istore_n (lv' := [(3, .int (0)), (2, .int (k)), (0, .ref (mo)), (1, .int (kk))]) hx hb dX13_isUsed_11 rfl hl (by decide) rfl (fun ls hl => ?_)
      have hl6 : (0 : Int32).toInt = 0 := by decide
      suffices lp12 : ∀ (k9 : Nat) (V9 : hp_V) (H9 : Heap) (locs9 : List Loc) (ls : Array Slot) (i : Int32), (200 - i.toInt).toNat = k9 → hp_Z D cs B s V9 H9 n locs9 → hq_P cs G (fun _ => false) V V9 → 0 ≤ i.toInt → i.toInt ≤ 140 → lv_has ls 4 [(3, .int (i)), (2, .int (k)), (0, .ref (mo)), (1, .int (kk))] → W p l e ({ frames := 1, cells := 0, slots := 0, locals := 21 }) s m ([.ref (mo), .int (kk)] : List Value).toArray below meth c H9 locs9 0 0 (MQ below (hp_QI D cs B (fun r V' n' => n = n' ∧ hq_P cs G (fun _ => false) V V' ∧ (V' mo = some (.inr (13, hm_o q (m_tp) (m_sz) (m_fr) (m_bh) (m_hd) (m_ft) (m_fa) (m_le) (m_fo) (m_as) (m_fd) (m_bc) (m_bg) (m_bs) (m_be) (m_b0) (m_b1) (m_cm) (m_hc)))) ∧ (0 ≤ r.toInt ∧ r.toInt ≤ 1))) ([.ref (mo), .int (kk)] : List Value).toArray s 0 0 (hp_F B)) (F0 m 12 ls []) from lp12 _ _ _ _ ls (0) rfl hZ hP (by omega) (by omega) (lv_sub hl [0, 1, 2, 3] rfl)
      intro k9
      induction k9 using Nat.strongRecOn with
      | _ k9 ih12 =>
        intro V9 H9 locs9 ls i  hk12 hZ hP  hv7 hv8 hl
        have hb_i := hq_rng i
        have hP_12 := hP
        refine lv_iload_n hx hb dX13_isUsed_12 rfl (lv_at hl 0 rfl) ?_
        refine lv_aload_n hx hb dX13_isUsed_13 rfl (lv_at hl 2 rfl) ?_
        have fx9 : V9 (mo) = some (.inr (13, hm_o q (m_tp) (m_sz) (m_fr) (m_bh) (m_hd) (m_ft) (m_fa) (m_le) (m_fo) (m_as) (m_fd) (m_bc) (m_bg) (m_bs) (m_be) (m_b0) (m_b1) (m_cm) (m_hc))) := (hP_12.2 (mo) _ h_mo rfl).trans (ho_mo)
        refine hp_get (v := .ref (q + 30)) hx hb hts hown hZ fx9 fl_X13_241 rfl dX13_isUsed_14 ?_
        refine lv_iload_n hx hb dX13_isUsed_17 rfl (lv_at hl 1 rfl) ?_
        obtain ⟨hN12, g11, eV10, hf13⟩ := hq_o21 hP.1 (hr_30 hR)
        refine hp_iald hx hb hZ eV10 (hq_in (by omega) (by omega)) dX13_isUsed_18 ?_
        refine lv_topi (fun y14 ey15 => ?_)
        have b16 : hq_ir (hq_lo 7) (hq_hi 7) y14 := by rw [ey15]; exact hf13 _ (hq_ix (by omega) (by omega))
        have b16 : 0 ≤ (y14).toInt ∧ (y14).toInt ≤ 140 := b16
        refine lv_icmp_ge (tgt := 46) hx hb dX13_isUsed_19 (by decide) (fun c17 => ?_) (fun c17 => ?_)
        · have c17 : (y14).toInt ≤ (i).toInt := hq_lei.mp c17
          obtain ⟨y18, ey19⟩ : ∃ y : Int32, y = k + (1) := ⟨_, rfl⟩
          obtain ⟨k20, hk21, b22, b23⟩ := hq_add (k) (1)
          rw [← ey19] at hk21 b22 b23
          have hk21 : (y18).toInt = (k).toInt + (1) + k20 * 4294967296 := hk21
          refine lv_iinc (v := y18) (lv' := [(2, .int (y18)), (3, .int (i)), (0, .ref (mo)), (1, .int (kk))]) hx hb dX13_isUsed_46 hl (k := 1) rfl (by rw [ey19]; rfl) (by decide) rfl (fun ls hl => ?_)
          refine lv_goto (tgt := 2) hx hb dX13_isUsed_49 (by decide) ?_
          exact ih2 _ (by omega) _ _ _ ls (y18) rfl hZ hP (by omega) (by omega) (lv_sub hl [0, 2, 3] rfl)
        · have c17 : ¬ (y14).toInt ≤ (i).toInt := fun h9 => c17 (hq_lei.mpr h9)
          refine lv_aload_n hx hb dX13_isUsed_22 rfl (lv_at hl 2 rfl) ?_
          refine hp_get (v := .ref (q + 29)) hx hb hts hown hZ fx9 fl_X13_238 rfl dX13_isUsed_23 ?_
          refine lv_sipush (v := 140) hx hb dX13_isUsed_26 (by decide) ?_
          refine lv_iload_n hx hb dX13_isUsed_29 rfl (lv_at hl 1 rfl) ?_
          refine lv_imul hx hb dX13_isUsed_30 ?_
          refine lv_topi (fun y24 ey25 => ?_)
          obtain ⟨k26, hk27, b28, b29⟩ := hq_mul (140) (k)
          rw [← ey25] at hk27 b28 b29
          have hk27 : (y24).toInt = (140 : Int) * (k).toInt + k26 * 4294967296 := hk27
          obtain rfl : k26 = 0 := by omega
          refine lv_iload_n hx hb dX13_isUsed_31 rfl (lv_at hl 0 rfl) ?_
          refine lv_iadd hx hb dX13_isUsed_32 ?_
          refine lv_topi (fun y30 ey31 => ?_)
          obtain ⟨k32, hk33, b34, b35⟩ := hq_add (y24) (i)
          rw [← ey31] at hk33 b34 b35
          have hk33 : (y30).toInt = (y24).toInt + (i).toInt + k32 * 4294967296 := hk33
          obtain rfl : k32 = 0 := by omega
          obtain ⟨hN38, g37, eV36, hf39⟩ := hq_o21 hP.1 (hr_29 hR)
          refine hp_iald hx hb hZ eV36 (hq_in (by omega) (by omega)) dX13_isUsed_33 ?_
          refine lv_topi (fun y40 ey41 => ?_)
          have b42 : hq_ir (hq_lo 4) (hq_hi 4) y40 := by rw [ey41]; exact hf39 _ (hq_ix (by omega) (by omega))
          have b42 : 0 ≤ (y40).toInt ∧ (y40).toInt ≤ 59 := b42
          refine lv_iload_n hx hb dX13_isUsed_34 rfl (lv_at hl 3 rfl) ?_
          refine lv_icmp_ne (tgt := 40) hx hb dX13_isUsed_35 (by decide) (fun c43 => ?_) (fun c43 => ?_)
          · have c43 : ¬ (y40).toInt = (kk).toInt := fun h9 => c43 (hq_eqi.mpr h9)
            obtain ⟨y44, ey45⟩ : ∃ y : Int32, y = i + (1) := ⟨_, rfl⟩
            obtain ⟨k46, hk47, b48, b49⟩ := hq_add (i) (1)
            rw [← ey45] at hk47 b48 b49
            have hk47 : (y44).toInt = (i).toInt + (1) + k46 * 4294967296 := hk47
            refine lv_iinc (v := y44) (lv' := [(3, .int (y44)), (2, .int (k)), (0, .ref (mo)), (1, .int (kk))]) hx hb dX13_isUsed_40 hl (k := 0) rfl (by rw [ey45]; rfl) (by decide) rfl (fun ls hl => ?_)
            refine lv_goto (tgt := 12) hx hb dX13_isUsed_43 (by decide) ?_
            exact ih12 _ (by omega) _ _ _ ls (y44) rfl hZ hP (by omega) (by omega) (lv_sub hl [0, 1, 2, 3] rfl)
          · have c43 : (y40).toInt = (kk).toInt := hq_eqi.mp c43
            refine lv_iconst (v := 1) hx hb dX13_isUsed_38 (by decide) ?_
            exact hp_zret hx hb hr rfl hlocks hZ ⟨rfl, hP, fx9, (by decide)⟩ dX13_isUsed_39

set_option maxHeartbeats 4000000 in
set_option maxRecDepth 100000 in
theorem t_X13_countUses (l : Launch) (D : va_G) (cs : Nat → ClassId) (B : Nat) (G : hq_G) (V : hp_V) (n : Nat) (hI : hq_I cs G V) (q : Nat) (hR : hq_RT G q) (mo : Nat) (h_mo : G mo = some (24, 0, 0, 0)) {m_tp m_sz m_fr m_bh m_hd m_ft m_fa m_le m_fo m_as m_fd m_bc m_bg m_bs m_be m_b0 m_b1 m_cm m_hc : Int32} (ho_mo : V mo = some (.inr (13, hm_o q (m_tp) (m_sz) (m_fr) (m_bh) (m_hd) (m_ft) (m_fa) (m_le) (m_fo) (m_as) (m_fd) (m_bc) (m_bg) (m_bs) (m_be) (m_b0) (m_b1) (m_cm) (m_hc)))) (hi_mo0 : 0 ≤ m_tp.toInt ∧ m_tp.toInt ≤ 4000) (hi_mo1 : 0 ≤ m_sz.toInt ∧ m_sz.toInt ≤ 4000) (hi_mo2 : 0 ≤ m_le.toInt ∧ m_le.toInt ≤ 276) (hi_mo3 : 0 ≤ m_fo.toInt ∧ m_fo.toInt ≤ 4) (hi_mo4 : 0 ≤ m_as.toInt ∧ m_as.toInt ≤ 4000) (hi_mo5 : 0 ≤ m_fd.toInt ∧ m_fd.toInt ≤ 900) (hi_mo6 : 0 ≤ m_cm.toInt ∧ m_cm.toInt ≤ 2) (hi_mo7 : 0 ≤ m_hc.toInt ∧ m_hc.toInt ≤ 1) (hH : hm_VQ cs V q 0 0) : hp_M l yX13_countUses cX13_countUses 5 none ({ frames := 6, cells := 0, slots := 0, locals := 150 }) D cs B V n [.ref (mo)] (hp_QV D cs B (fun V' n' => n = n' ∧ hq_P cs G (fun g => g.1 == 1 || g.1 == 43 || g.1 == 44 || g.1 == 45 || g.1 == 47) V V' ∧ (∃ (m_fo1 : Int32) (m_le1 : Int32), V' mo = some (.inr (13, hm_o q (m_tp) (m_sz) (m_fr) (m_bh) (m_hd) (m_ft) (m_fa) (m_le1) (m_fo1) (m_as) (m_fd) (m_bc) (m_bg) (m_bs) (m_be) (m_b0) (m_b1) (m_cm) (m_hc))) ∧ (0 ≤ m_le1.toInt ∧ m_le1.toInt ≤ 276) ∧ (0 ≤ m_fo1.toInt ∧ m_fo1.toInt ≤ 4)))) 0 0 := by
  refine hp_walk (R0 := RX13) (by decide) rfl ?_ (Nat.le_of_ble_eq_true rfl)
  intro p e s m below meth c ls hx hb hr hts hown hlocks hin hml hZ hl
  have hP : hq_P cs G (fun g => g.1 == 1 || g.1 == 43 || g.1 == 44 || g.1 == 45 || g.1 == 47) V V := hq_P.rf hI
  have hl : lv_has ls 5 [(0, .ref (mo))] := hl
  have hb_m_tp := hq_rng m_tp
  have hb_m_sz := hq_rng m_sz
  have hb_m_fr := hq_rng m_fr
  have hb_m_bh := hq_rng m_bh
  have hb_m_hd := hq_rng m_hd
  have hb_m_ft := hq_rng m_ft
  have hb_m_fa := hq_rng m_fa
  have hb_m_le := hq_rng m_le
  have hb_m_fo := hq_rng m_fo
  have hb_m_as := hq_rng m_as
  have hb_m_fd := hq_rng m_fd
  have hb_m_bc := hq_rng m_bc
  have hb_m_bg := hq_rng m_bg
  have hb_m_bs := hq_rng m_bs
  have hb_m_be := hq_rng m_be
  have hb_m_b0 := hq_rng m_b0
  have hb_m_b1 := hq_rng m_b1
  have hb_m_cm := hq_rng m_cm
  have hb_m_hc := hq_rng m_hc
  refine lv_iconst (v := 0) hx hb dX13_countUses_0 (by decide) ?_
  refine lv_istore_n (lv' := [(1, .int (0)), (0, .ref (mo))]) hx hb dX13_countUses_1 rfl hl (by decide) rfl (fun ls hl => ?_)
  have hl1 : (0 : Int32).toInt = 0 := by decide
  suffices lp2 : ∀ (k9 : Nat) (V9 : hp_V) (H9 : Heap) (locs9 : List Loc) (ls : Array Slot) (i : Int32), (100 - i.toInt).toNat = k9 → hp_Z D cs B s V9 H9 n locs9 → hq_P cs G (fun g => g.1 == 1 || g.1 == 43 || g.1 == 44 || g.1 == 45 || g.1 == 47) V V9 → V9 (mo) = some (.inr (13, hm_o q (m_tp) (m_sz) (m_fr) (m_bh) (m_hd) (m_ft) (m_fa) (m_le) (m_fo) (m_as) (m_fd) (m_bc) (m_bg) (m_bs) (m_be) (m_b0) (m_b1) (m_cm) (m_hc))) → 0 ≤ i.toInt → i.toInt ≤ 60 → lv_has ls 5 [(1, .int (i)), (0, .ref (mo))] → W p l e ({ frames := 6, cells := 0, slots := 0, locals := 150 }) s m ([.ref (mo)] : List Value).toArray below meth c H9 locs9 0 0 (MQ below (hp_QV D cs B (fun V' n' => n = n' ∧ hq_P cs G (fun g => g.1 == 1 || g.1 == 43 || g.1 == 44 || g.1 == 45 || g.1 == 47) V V' ∧ (∃ (m_fo1 : Int32) (m_le1 : Int32), V' mo = some (.inr (13, hm_o q (m_tp) (m_sz) (m_fr) (m_bh) (m_hd) (m_ft) (m_fa) (m_le1) (m_fo1) (m_as) (m_fd) (m_bc) (m_bg) (m_bs) (m_be) (m_b0) (m_b1) (m_cm) (m_hc))) ∧ (0 ≤ m_le1.toInt ∧ m_le1.toInt ≤ 276) ∧ (0 ≤ m_fo1.toInt ∧ m_fo1.toInt ≤ 4)))) ([.ref (mo)] : List Value).toArray s 0 0 (hp_F B)) (F0 m 2 ls []) from lp2 _ _ _ _ ls (0) rfl hZ hP ho_mo (by omega) (by omega) (lv_sub hl [0, 1] rfl)
  intro k9
  induction k9 using Nat.strongRecOn with
  | _ k9 ih2 =>
    intro V9 H9 locs9 ls i  hk2 hZ hP ho2 hv3 hv4 hl
    have hb_i := hq_rng i
    have hP_2 := hP
    refine lv_iload_n hx hb dX13_countUses_2 rfl (lv_at hl 0 rfl) ?_
    refine lv_bipush (v := 60) hx hb dX13_countUses_3 (by decide) ?_
    refine lv_icmp_ge (tgt := 21) hx hb dX13_countUses_5 (by decide) (fun c5 => ?_) (fun c5 => ?_)
    · have c5 : (60 : Int) ≤ (i).toInt := hq_lei.mp c5
      refine lv_iconst (v := 0) hx hb dX13_countUses_21 (by decide) ?_
      refine lv_istore_n (lv' := [(1, .int (0)), (0, .ref (mo))]) hx hb dX13_countUses_22 rfl hl (by decide) rfl (fun ls hl => ?_)
      have hl6 : (0 : Int32).toInt = 0 := by decide
      suffices lp23 : ∀ (k9 : Nat) (V9 : hp_V) (H9 : Heap) (locs9 : List Loc) (ls : Array Slot) (v : Int32) (le9 : Int32) (fo9 : Int32), (100 - v.toInt).toNat = k9 → hp_Z D cs B s V9 H9 n locs9 → hq_P cs G (fun g => g.1 == 1 || g.1 == 43 || g.1 == 44 || g.1 == 45 || g.1 == 47) V V9 → V9 (mo) = some (.inr (13, hm_o q (m_tp) (m_sz) (m_fr) (m_bh) (m_hd) (m_ft) (m_fa) (le9) (fo9) (m_as) (m_fd) (m_bc) (m_bg) (m_bs) (m_be) (m_b0) (m_b1) (m_cm) (m_hc))) → 0 ≤ v.toInt → v.toInt ≤ 30 → 0 ≤ le9.toInt ∧ le9.toInt ≤ 276 → 0 ≤ fo9.toInt ∧ fo9.toInt ≤ 4 → lv_has ls 5 [(1, .int (v)), (0, .ref (mo))] → W p l e ({ frames := 6, cells := 0, slots := 0, locals := 150 }) s m ([.ref (mo)] : List Value).toArray below meth c H9 locs9 0 0 (MQ below (hp_QV D cs B (fun V' n' => n = n' ∧ hq_P cs G (fun g => g.1 == 1 || g.1 == 43 || g.1 == 44 || g.1 == 45 || g.1 == 47) V V' ∧ (∃ (m_fo1 : Int32) (m_le1 : Int32), V' mo = some (.inr (13, hm_o q (m_tp) (m_sz) (m_fr) (m_bh) (m_hd) (m_ft) (m_fa) (m_le1) (m_fo1) (m_as) (m_fd) (m_bc) (m_bg) (m_bs) (m_be) (m_b0) (m_b1) (m_cm) (m_hc))) ∧ (0 ≤ m_le1.toInt ∧ m_le1.toInt ≤ 276) ∧ (0 ≤ m_fo1.toInt ∧ m_fo1.toInt ≤ 4)))) ([.ref (mo)] : List Value).toArray s 0 0 (hp_F B)) (F0 m 23 ls []) from lp23 _ _ _ _ ls (0) (m_le) (m_fo) rfl hZ hP ho2 (by omega) (by omega) (by omega) (by omega) (lv_sub hl [0, 1] rfl)
      intro k9
      induction k9 using Nat.strongRecOn with
      | _ k9 ih23 =>
        intro V9 H9 locs9 ls v le9 fo9 hk23 hZ hP ho7 hv8 hv9 hv10 hv11 hl
        have hb_v := hq_rng v
        have hb_le9 := hq_rng le9
        have hb_fo9 := hq_rng fo9
        have hP_23 := hP
        refine lv_iload_n hx hb dX13_countUses_23 rfl (lv_at hl 0 rfl) ?_
        refine lv_aload_n hx hb dX13_countUses_24 rfl (lv_at hl 1 rfl) ?_
        refine hp_get (v := .ref (q + 1)) hx hb hts hown hZ ho7 fl_X13_7 rfl dX13_countUses_25 ?_
        refine lv_iconst (v := 0) hx hb dX13_countUses_28 (by decide) ?_
        obtain ⟨hN14, g13, eV12, hf15⟩ := hq_o21 hP.1 (hr_1 hR)
        refine hp_iald hx hb hZ eV12 (by unfold vp_in; decide) dX13_countUses_29 ?_
        refine lv_topi (fun y16 ey17 => ?_)
        have b18 : hq_ir (hq_lo 9) (hq_hi 9) y16 := by rw [ey17]; exact hf15 _ (by decide)
        have b18 : 0 ≤ (y16).toInt ∧ (y16).toInt ≤ 30 := b18
        refine lv_icmp_ge (tgt := 117) hx hb dX13_countUses_30 (by decide) (fun c19 => ?_) (fun c19 => ?_)
        · have c19 : (y16).toInt ≤ (v).toInt := hq_lei.mp c19
          exact hp_vret hx hb hr hlocks hZ ⟨rfl, hP, ⟨fo9, le9, ho7, by omega, by omega⟩⟩ dX13_countUses_117
        · have c19 : ¬ (y16).toInt ≤ (v).toInt := fun h9 => c19 (hq_lei.mpr h9)
          refine lv_iconst (v := 0) hx hb dX13_countUses_33 (by decide) ?_
          refine lv_istore_n (lv' := [(2, .int (0)), (1, .int (v)), (0, .ref (mo))]) hx hb dX13_countUses_34 rfl hl (by decide) rfl (fun ls hl => ?_)
          have hl20 : (0 : Int32).toInt = 0 := by decide
          suffices lp35 : ∀ (k9 : Nat) (V9 : hp_V) (H9 : Heap) (locs9 : List Loc) (ls : Array Slot) (te : Int32) (le8 : Int32) (fo8 : Int32), (100 - te.toInt).toNat = k9 → hp_Z D cs B s V9 H9 n locs9 → hq_P cs G (fun g => g.1 == 1 || g.1 == 43 || g.1 == 44 || g.1 == 45 || g.1 == 47) V V9 → V9 (mo) = some (.inr (13, hm_o q (m_tp) (m_sz) (m_fr) (m_bh) (m_hd) (m_ft) (m_fa) (le8) (fo8) (m_as) (m_fd) (m_bc) (m_bg) (m_bs) (m_be) (m_b0) (m_b1) (m_cm) (m_hc))) → 0 ≤ te.toInt → te.toInt ≤ 5 → 0 ≤ le8.toInt ∧ le8.toInt ≤ 276 → 0 ≤ fo8.toInt ∧ fo8.toInt ≤ 4 → lv_has ls 5 [(2, .int (te)), (1, .int (v)), (0, .ref (mo))] → W p l e ({ frames := 6, cells := 0, slots := 0, locals := 150 }) s m ([.ref (mo)] : List Value).toArray below meth c H9 locs9 0 0 (MQ below (hp_QV D cs B (fun V' n' => n = n' ∧ hq_P cs G (fun g => g.1 == 1 || g.1 == 43 || g.1 == 44 || g.1 == 45 || g.1 == 47) V V' ∧ (∃ (m_fo1 : Int32) (m_le1 : Int32), V' mo = some (.inr (13, hm_o q (m_tp) (m_sz) (m_fr) (m_bh) (m_hd) (m_ft) (m_fa) (m_le1) (m_fo1) (m_as) (m_fd) (m_bc) (m_bg) (m_bs) (m_be) (m_b0) (m_b1) (m_cm) (m_hc))) ∧ (0 ≤ m_le1.toInt ∧ m_le1.toInt ≤ 276) ∧ (0 ≤ m_fo1.toInt ∧ m_fo1.toInt ≤ 4)))) ([.ref (mo)] : List Value).toArray s 0 0 (hp_F B)) (F0 m 35 ls []) from lp35 _ _ _ _ ls (0) (le9) (fo9) rfl hZ hP ho7 (by omega) (by omega) (by omega) (by omega) (lv_sub hl [0, 1, 2] rfl)
          intro k9
          induction k9 using Nat.strongRecOn with
          | _ k9 ih35 =>
            intro V9 H9 locs9 ls te le8 fo8 hk35 hZ hP ho21 hv22 hv23 hv24 hv25 hl
            have hb_te := hq_rng te
            have hb_le8 := hq_rng le8
            have hb_fo8 := hq_rng fo8
            have hP_35 := hP
            refine lv_iload_n hx hb dX13_countUses_35 rfl (lv_at hl 0 rfl) ?_
            refine lv_iconst (v := 5) hx hb dX13_countUses_36 (by decide) ?_
            refine lv_icmp_ge (tgt := 111) hx hb dX13_countUses_37 (by decide) (fun c26 => ?_) (fun c26 => ?_)
            · have c26 : (5 : Int) ≤ (te).toInt := hq_lei.mp c26
              obtain ⟨y27, ey28⟩ : ∃ y : Int32, y = v + (1) := ⟨_, rfl⟩
              obtain ⟨k29, hk30, b31, b32⟩ := hq_add (v) (1)
              rw [← ey28] at hk30 b31 b32
              have hk30 : (y27).toInt = (v).toInt + (1) + k29 * 4294967296 := hk30
              refine lv_iinc (v := y27) (lv' := [(1, .int (y27)), (2, .int (te)), (0, .ref (mo))]) hx hb dX13_countUses_111 hl (k := 1) rfl (by rw [ey28]; rfl) (by decide) rfl (fun ls hl => ?_)
              refine lv_goto (tgt := 23) hx hb dX13_countUses_114 (by decide) ?_
              exact ih23 _ (by omega) _ _ _ ls (y27) (le8) (fo8) rfl hZ hP ho21 (by omega) (by omega) (by omega) (by omega) (lv_sub hl [0, 2] rfl)
            · have c26 : ¬ (5 : Int) ≤ (te).toInt := fun h9 => c26 (hq_lei.mpr h9)
              refine lv_iconst (v := 0) hx hb dX13_countUses_40 (by decide) ?_
              refine lv_istore_n (lv' := [(3, .int (0)), (2, .int (te)), (1, .int (v)), (0, .ref (mo))]) hx hb dX13_countUses_41 rfl hl (by decide) rfl (fun ls hl => ?_)
              have hl33 : (0 : Int32).toInt = 0 := by decide
              suffices lp42 : ∀ (k9 : Nat) (V9 : hp_V) (H9 : Heap) (locs9 : List Loc) (ls : Array Slot) (pe : Int32) (le7 : Int32) (fo7 : Int32), (100 - pe.toInt).toNat = k9 → hp_Z D cs B s V9 H9 n locs9 → hq_P cs G (fun g => g.1 == 1 || g.1 == 43 || g.1 == 44 || g.1 == 45 || g.1 == 47) V V9 → V9 (mo) = some (.inr (13, hm_o q (m_tp) (m_sz) (m_fr) (m_bh) (m_hd) (m_ft) (m_fa) (le7) (fo7) (m_as) (m_fd) (m_bc) (m_bg) (m_bs) (m_be) (m_b0) (m_b1) (m_cm) (m_hc))) → 0 ≤ pe.toInt → pe.toInt ≤ 6 → 0 ≤ le7.toInt ∧ le7.toInt ≤ 276 → 0 ≤ fo7.toInt ∧ fo7.toInt ≤ 4 → lv_has ls 5 [(3, .int (pe)), (2, .int (te)), (1, .int (v)), (0, .ref (mo))] → W p l e ({ frames := 6, cells := 0, slots := 0, locals := 150 }) s m ([.ref (mo)] : List Value).toArray below meth c H9 locs9 0 0 (MQ below (hp_QV D cs B (fun V' n' => n = n' ∧ hq_P cs G (fun g => g.1 == 1 || g.1 == 43 || g.1 == 44 || g.1 == 45 || g.1 == 47) V V' ∧ (∃ (m_fo1 : Int32) (m_le1 : Int32), V' mo = some (.inr (13, hm_o q (m_tp) (m_sz) (m_fr) (m_bh) (m_hd) (m_ft) (m_fa) (m_le1) (m_fo1) (m_as) (m_fd) (m_bc) (m_bg) (m_bs) (m_be) (m_b0) (m_b1) (m_cm) (m_hc))) ∧ (0 ≤ m_le1.toInt ∧ m_le1.toInt ≤ 276) ∧ (0 ≤ m_fo1.toInt ∧ m_fo1.toInt ≤ 4)))) ([.ref (mo)] : List Value).toArray s 0 0 (hp_F B)) (F0 m 42 ls []) from lp42 _ _ _ _ ls (0) (le8) (fo8) rfl hZ hP ho21 (by omega) (by omega) (by omega) (by omega) (lv_sub hl [0, 1, 2, 3] rfl)
              intro k9
              induction k9 using Nat.strongRecOn with
              | _ k9 ih42 =>
                intro V9 H9 locs9 ls pe le7 fo7 hk42 hZ hP ho34 hv35 hv36 hv37 hv38 hl
                have hb_pe := hq_rng pe
                have hb_le7 := hq_rng le7
                have hb_fo7 := hq_rng fo7
                have hP_42 := hP
                refine lv_iload_n hx hb dX13_countUses_42 rfl (lv_at hl 0 rfl) ?_
                refine lv_bipush (v := 6) hx hb dX13_countUses_43 (by decide) ?_
                refine lv_icmp_ge (tgt := 105) hx hb dX13_countUses_45 (by decide) (fun c39 => ?_) (fun c39 => ?_)
                · have c39 : (6 : Int) ≤ (pe).toInt := hq_lei.mp c39
                  obtain ⟨y40, ey41⟩ : ∃ y : Int32, y = te + (1) := ⟨_, rfl⟩
                  obtain ⟨k42, hk43, b44, b45⟩ := hq_add (te) (1)
                  rw [← ey41] at hk43 b44 b45
                  have hk43 : (y40).toInt = (te).toInt + (1) + k42 * 4294967296 := hk43
                  refine lv_iinc (v := y40) (lv' := [(2, .int (y40)), (3, .int (pe)), (1, .int (v)), (0, .ref (mo))]) hx hb dX13_countUses_105 hl (k := 1) rfl (by rw [ey41]; rfl) (by decide) rfl (fun ls hl => ?_)
                  refine lv_goto (tgt := 35) hx hb dX13_countUses_108 (by decide) ?_
                  exact ih35 _ (by omega) _ _ _ ls (y40) (le7) (fo7) rfl hZ hP ho34 (by omega) (by omega) (by omega) (by omega) (lv_sub hl [0, 2, 3] rfl)
                · have c39 : ¬ (6 : Int) ≤ (pe).toInt := fun h9 => c39 (hq_lei.mpr h9)
                  refine lv_aload_n hx hb dX13_countUses_48 rfl (lv_at hl 3 rfl) ?_
                  refine lv_iload_n hx hb dX13_countUses_49 rfl (lv_at hl 2 rfl) ?_
                  refine lv_iload_n hx hb dX13_countUses_50 rfl (lv_at hl 1 rfl) ?_
                  refine lv_iload_n hx hb dX13_countUses_51 rfl (lv_at hl 0 rfl) ?_
                  obtain ⟨hN59, g58, eV57, hf60⟩ := hq_o21 hP.1 (hr_14 hR)
                  obtain ⟨hN64, g63, eV62, hf65⟩ := hq_o21 hP.1 (hr_15 hR)
                  obtain ⟨hN69, g68, eV67, hf70⟩ := hq_o21 hP.1 (hr_10 hR)
                  obtain ⟨hN74, g73, eV72, hf75⟩ := hq_o21 hP.1 (hr_2 hR)
                  refine hp_callv (hp_runV (As := [.int (v), .int (te), .int (pe)]) (rest := []) hx hb hml hown hts (t_X13_all l D cs B G  V9 n hP.1 q hR (mo) h_mo (v) (te) (pe) ho34  (by omega) (by omega) (by omega) (by omega) (by omega) (by omega) (by omega) (by omega) eV57 eV62 eV67 eV72 (by omega) (by omega) (hH.keep hR (fun x t hx hg => hP.2 x t hx (by simp [hg])))) hZ ho34 cv_X13_384 rfl rfl ⟨Nat.le_of_ble_eq_true rfl, Nat.le_of_ble_eq_true rfl⟩ rfl hl.1 rfl (Nat.le_of_ble_eq_true rfl) dX13_countUses_52 ⟨(Nat.le_of_ble_eq_true rfl), (Nat.le_of_ble_eq_true rfl)⟩) hZ (fun V46 n47 _ _ hw48 hZ => ?_)
                  obtain ⟨rfl, hq50, ⟨z52, z53, ho54, hi55, hi56⟩, ho61, ho66, ho71, ho76⟩ := hw48
                  have hP := hP.trans hq50 (by intro g h; simp_all)
                  have b77 := hq_rng z53
                  have b78 := hq_rng z52
                  refine lv_iconst (v := 0) hx hb dX13_countUses_55 (by decide) ?_
                  refine lv_istore (lv' := [(4, .int (0)), (3, .int (pe)), (2, .int (te)), (1, .int (v)), (0, .ref (mo))]) hx hb dX13_countUses_56 hl (by decide) rfl (fun ls hl => ?_)
                  have hl79 : (0 : Int32).toInt = 0 := by decide
                  suffices lp58 : ∀ (k9 : Nat) (V9 : hp_V) (H9 : Heap) (locs9 : List Loc) (ls : Array Slot) (i : Int32), (100 - i.toInt).toNat = k9 → hp_Z D cs B s V9 H9 n locs9 → hq_P cs G (fun g => g.1 == 1 || g.1 == 43 || g.1 == 44 || g.1 == 45 || g.1 == 47) V V9 → V9 (mo) = some (.inr (13, hm_o q (m_tp) (m_sz) (m_fr) (m_bh) (m_hd) (m_ft) (m_fa) (z53) (z52) (m_as) (m_fd) (m_bc) (m_bg) (m_bs) (m_be) (m_b0) (m_b1) (m_cm) (m_hc))) → 0 ≤ i.toInt → i.toInt ≤ 60 → lv_has ls 5 [(4, .int (i)), (3, .int (pe)), (2, .int (te)), (1, .int (v)), (0, .ref (mo))] → W p l e ({ frames := 6, cells := 0, slots := 0, locals := 150 }) s m ([.ref (mo)] : List Value).toArray below meth c H9 locs9 0 0 (MQ below (hp_QV D cs B (fun V' n' => n = n' ∧ hq_P cs G (fun g => g.1 == 1 || g.1 == 43 || g.1 == 44 || g.1 == 45 || g.1 == 47) V V' ∧ (∃ (m_fo1 : Int32) (m_le1 : Int32), V' mo = some (.inr (13, hm_o q (m_tp) (m_sz) (m_fr) (m_bh) (m_hd) (m_ft) (m_fa) (m_le1) (m_fo1) (m_as) (m_fd) (m_bc) (m_bg) (m_bs) (m_be) (m_b0) (m_b1) (m_cm) (m_hc))) ∧ (0 ≤ m_le1.toInt ∧ m_le1.toInt ≤ 276) ∧ (0 ≤ m_fo1.toInt ∧ m_fo1.toInt ≤ 4)))) ([.ref (mo)] : List Value).toArray s 0 0 (hp_F B)) (F0 m 58 ls []) from lp58 _ _ _ _ ls (0) rfl hZ hP ho54 (by omega) (by omega) (lv_sub hl [0, 1, 2, 3, 4] rfl)
                  intro k9
                  induction k9 using Nat.strongRecOn with
                  | _ k9 ih58 =>
                    intro V9 H9 locs9 ls i  hk58 hZ hP ho80 hv81 hv82 hl
                    have hb_i := hq_rng i
                    have hP_58 := hP
                    refine lv_iload hx hb dX13_countUses_58 (lv_at hl 0 rfl) ?_
                    refine lv_aload_n hx hb dX13_countUses_60 rfl (lv_at hl 4 rfl) ?_
                    refine hp_get (v := .ref (q + 2)) hx hb hts hown hZ ho80 fl_X13_10 rfl dX13_countUses_61 ?_
                    refine lv_iconst (v := 0) hx hb dX13_countUses_64 (by decide) ?_
                    obtain ⟨hN85, g84, eV83, hf86⟩ := hq_o21 hP.1 (hr_2 hR)
                    refine hp_iald hx hb hZ eV83 (by unfold vp_in; decide) dX13_countUses_65 ?_
                    refine lv_topi (fun y87 ey88 => ?_)
                    have b89 : hq_ir (hq_lo 8) (hq_hi 8) y87 := by rw [ey88]; exact hf86 _ (by decide)
                    have b89 : 0 ≤ (y87).toInt ∧ (y87).toInt ≤ 60 := b89
                    refine lv_icmp_ge (tgt := 99) hx hb dX13_countUses_66 (by decide) (fun c90 => ?_) (fun c90 => ?_)
                    · have c90 : (y87).toInt ≤ (i).toInt := hq_lei.mp c90
                      obtain ⟨y91, ey92⟩ : ∃ y : Int32, y = pe + (1) := ⟨_, rfl⟩
                      obtain ⟨k93, hk94, b95, b96⟩ := hq_add (pe) (1)
                      rw [← ey92] at hk94 b95 b96
                      have hk94 : (y91).toInt = (pe).toInt + (1) + k93 * 4294967296 := hk94
                      refine lv_iinc (v := y91) (lv' := [(3, .int (y91)), (4, .int (i)), (2, .int (te)), (1, .int (v)), (0, .ref (mo))]) hx hb dX13_countUses_99 hl (k := 1) rfl (by rw [ey92]; rfl) (by decide) rfl (fun ls hl => ?_)
                      refine lv_goto (tgt := 42) hx hb dX13_countUses_102 (by decide) ?_
                      exact ih42 _ (by omega) _ _ _ ls (y91) (z53) (z52) rfl hZ hP ho80 (by omega) (by omega) (by omega) (by omega) (lv_sub hl [0, 2, 3, 4] rfl)
                    · have c90 : ¬ (y87).toInt ≤ (i).toInt := fun h9 => c90 (hq_lei.mpr h9)
                      refine lv_aload_n hx hb dX13_countUses_69 rfl (lv_at hl 4 rfl) ?_
                      refine hp_get (v := .ref (q + 41)) hx hb hts hown hZ ho80 fl_X13_274 rfl dX13_countUses_70 ?_
                      refine lv_iload hx hb dX13_countUses_73 (lv_at hl 0 rfl) ?_
                      refine lv_dup2_11 hx hb dX13_countUses_75 rfl rfl ?_
                      obtain ⟨hN99, g98, eV97, hf100⟩ := hq_o21 hP.1 (hr_41 hR)
                      refine hp_iald hx hb hZ eV97 (hq_in (by omega) (by omega)) dX13_countUses_76 ?_
                      refine lv_topi (fun y101 ey102 => ?_)
                      have b103 := hq_rng y101
                      refine lv_aload_n hx hb dX13_countUses_77 rfl (lv_at hl 4 rfl) ?_
                      refine lv_iload hx hb dX13_countUses_78 (lv_at hl 0 rfl) ?_
                      refine hp_calli (hp_runV (As := [.int (i)]) (rest := [.int (y101), .int (i), .ref (q + 41)]) hx hb hml hown hts (t_X13_isUsed l D cs B G  V9 n hP.1 q hR (mo) h_mo (i) ho80  (by omega) (by omega) (by omega) (by omega) (by omega) (by omega) (by omega) (by omega) ) hZ ho80 cv_X13_407 rfl rfl ⟨Nat.le_of_ble_eq_true rfl, Nat.le_of_ble_eq_true rfl⟩ rfl hl.1 rfl (Nat.le_of_ble_eq_true rfl) dX13_countUses_80 ⟨(Nat.le_of_ble_eq_true rfl), (Nat.le_of_ble_eq_true rfl)⟩) hZ (fun r107 V104 n105 _ _ hw106 hZ => ?_)
                      obtain ⟨rfl, hq108, ho110, hr109⟩ := hw106
                      have hP := hP.trans hq108 (fun _ _ => rfl)
                      have b111 := hq_rng r107
                      refine lv_if_eq (tgt := 90) hx hb dX13_countUses_83 (by decide) (fun c112 => ?_) (fun c112 => ?_)
                      · have c112 : (r107).toInt = (0 : Int) := hq_eqi.mp c112
                        refine lv_iconst (v := 0) hx hb dX13_countUses_90 (by decide) ?_
                        refine lv_iadd hx hb dX13_countUses_91 ?_
                        refine lv_topi (fun y113 ey114 => ?_)
                        obtain ⟨k115, hk116, b117, b118⟩ := hq_add (y101) (0)
                        rw [← ey114] at hk116 b117 b118
                        have hk116 : (y113).toInt = (y101).toInt + (0 : Int) + k115 * 4294967296 := hk116
                        have fx119 : V104 (q + 41) = some (.inl (cs 1, 60, .inl (g98))) := (hq108.2 (q + 41) _ (hr_41 hR) rfl).trans (eV97)
                        refine hp_iast hx hb hZ fx119 (hq_in (by omega) (by omega)) dX13_countUses_92 (fun V120 _ _ e121 o122 hZ => ?_)
                        have e121 : V120 (q + 41) = some (.inl (cs 1, 60, .inl (upd (g98) ((i : Int32).toNatClampNeg) (y113)))) := e121
                        have hP := hP.put (hr_41 hR) e121 o122 (hq_c21 (by omega) (hq_upd hf100 (hq_rng _))) rfl
                        obtain ⟨y123, ey124⟩ : ∃ y : Int32, y = i + (1) := ⟨_, rfl⟩
                        obtain ⟨k125, hk126, b127, b128⟩ := hq_add (i) (1)
                        rw [← ey124] at hk126 b127 b128
                        have hk126 : (y123).toInt = (i).toInt + (1) + k125 * 4294967296 := hk126
                        refine lv_iinc (v := y123) (lv' := [(4, .int (y123)), (3, .int (pe)), (2, .int (te)), (1, .int (v)), (0, .ref (mo))]) hx hb dX13_countUses_93 hl (k := 0) rfl (by rw [ey124]; rfl) (by decide) rfl (fun ls hl => ?_)
                        refine lv_goto (tgt := 58) hx hb dX13_countUses_96 (by decide) ?_
                        have fx129 : V120 (mo) = some (.inr (13, hm_o q (m_tp) (m_sz) (m_fr) (m_bh) (m_hd) (m_ft) (m_fa) (z53) (z52) (m_as) (m_fd) (m_bc) (m_bg) (m_bs) (m_be) (m_b0) (m_b1) (m_cm) (m_hc))) := (o122 (mo) (hq_tne h_mo (hr_41 hR) (by simp))).trans (ho110)
                        exact ih58 _ (by omega) _ _ _ ls (y123) rfl hZ hP fx129 (by omega) (by omega) (lv_sub hl [0, 1, 2, 3, 4] rfl)
                      · have c112 : ¬ (r107).toInt = (0 : Int) := fun h9 => c112 (hq_eqi.mpr h9)
                        refine lv_iconst (v := 1) hx hb dX13_countUses_86 (by decide) ?_
                        refine lv_goto (tgt := 91) hx hb dX13_countUses_87 (by decide) ?_
                        refine lv_iadd hx hb dX13_countUses_91 ?_
                        refine lv_topi (fun y130 ey131 => ?_)
                        obtain ⟨k132, hk133, b134, b135⟩ := hq_add (y101) (1)
                        rw [← ey131] at hk133 b134 b135
                        have hk133 : (y130).toInt = (y101).toInt + (1 : Int) + k132 * 4294967296 := hk133
                        have fx136 : V104 (q + 41) = some (.inl (cs 1, 60, .inl (g98))) := (hq108.2 (q + 41) _ (hr_41 hR) rfl).trans (eV97)
                        refine hp_iast hx hb hZ fx136 (hq_in (by omega) (by omega)) dX13_countUses_92 (fun V137 _ _ e138 o139 hZ => ?_)
                        have e138 : V137 (q + 41) = some (.inl (cs 1, 60, .inl (upd (g98) ((i : Int32).toNatClampNeg) (y130)))) := e138
                        have hP := hP.put (hr_41 hR) e138 o139 (hq_c21 (by omega) (hq_upd hf100 (hq_rng _))) rfl
                        obtain ⟨y140, ey141⟩ : ∃ y : Int32, y = i + (1) := ⟨_, rfl⟩
                        obtain ⟨k142, hk143, b144, b145⟩ := hq_add (i) (1)
                        rw [← ey141] at hk143 b144 b145
                        have hk143 : (y140).toInt = (i).toInt + (1) + k142 * 4294967296 := hk143
                        refine lv_iinc (v := y140) (lv' := [(4, .int (y140)), (3, .int (pe)), (2, .int (te)), (1, .int (v)), (0, .ref (mo))]) hx hb dX13_countUses_93 hl (k := 0) rfl (by rw [ey141]; rfl) (by decide) rfl (fun ls hl => ?_)
                        refine lv_goto (tgt := 58) hx hb dX13_countUses_96 (by decide) ?_
                        have fx146 : V137 (mo) = some (.inr (13, hm_o q (m_tp) (m_sz) (m_fr) (m_bh) (m_hd) (m_ft) (m_fa) (z53) (z52) (m_as) (m_fd) (m_bc) (m_bg) (m_bs) (m_be) (m_b0) (m_b1) (m_cm) (m_hc))) := (o139 (mo) (hq_tne h_mo (hr_41 hR) (by simp))).trans (ho110)
                        exact ih58 _ (by omega) _ _ _ ls (y140) rfl hZ hP fx146 (by omega) (by omega) (lv_sub hl [0, 1, 2, 3, 4] rfl)
    · have c5 : ¬ (60 : Int) ≤ (i).toInt := fun h9 => c5 (hq_lei.mpr h9)
      refine lv_aload_n hx hb dX13_countUses_8 rfl (lv_at hl 1 rfl) ?_
      refine hp_get (v := .ref (q + 41)) hx hb hts hown hZ ho2 fl_X13_274 rfl dX13_countUses_9 ?_
      refine lv_iload_n hx hb dX13_countUses_12 rfl (lv_at hl 0 rfl) ?_
      refine lv_iconst (v := 0) hx hb dX13_countUses_13 (by decide) ?_
      obtain ⟨hN149, g148, eV147, hf150⟩ := hq_o21 hP.1 (hr_41 hR)
      refine hp_iast hx hb hZ eV147 (hq_in (by omega) (by omega)) dX13_countUses_14 (fun V151 _ _ e152 o153 hZ => ?_)
      have e152 : V151 (q + 41) = some (.inl (cs 1, 60, .inl (upd (g148) ((i : Int32).toNatClampNeg) (0)))) := e152
      have hl154 : (0 : Int32).toInt = 0 := by decide
      have hP := hP.put (hr_41 hR) e152 o153 (hq_c21 (by omega) (hq_upd hf150 (hq_rng _))) rfl
      obtain ⟨y155, ey156⟩ : ∃ y : Int32, y = i + (1) := ⟨_, rfl⟩
      obtain ⟨k157, hk158, b159, b160⟩ := hq_add (i) (1)
      rw [← ey156] at hk158 b159 b160
      have hk158 : (y155).toInt = (i).toInt + (1) + k157 * 4294967296 := hk158
      refine lv_iinc (v := y155) (lv' := [(1, .int (y155)), (0, .ref (mo))]) hx hb dX13_countUses_15 hl (k := 0) rfl (by rw [ey156]; rfl) (by decide) rfl (fun ls hl => ?_)
      refine lv_goto (tgt := 2) hx hb dX13_countUses_18 (by decide) ?_
      have fx161 : V151 (mo) = some (.inr (13, hm_o q (m_tp) (m_sz) (m_fr) (m_bh) (m_hd) (m_ft) (m_fa) (m_le) (m_fo) (m_as) (m_fd) (m_bc) (m_bg) (m_bs) (m_be) (m_b0) (m_b1) (m_cm) (m_hc))) := (o153 (mo) (hq_tne h_mo (hr_41 hR) (by simp))).trans (ho2)
      exact ih2 _ (by omega) _ _ _ ls (y155) rfl hZ hP fx161 (by omega) (by omega) (lv_sub hl [0, 1] rfl)

set_option maxHeartbeats 4000000 in
set_option maxRecDepth 100000 in
theorem t_X13_unused (l : Launch) (D : va_G) (cs : Nat → ClassId) (B : Nat) (G : hq_G) (V : hp_V) (n : Nat) (hI : hq_I cs G V) (q : Nat) (hR : hq_RT G q) (mo : Nat) (h_mo : G mo = some (24, 0, 0, 0)) {m_tp m_sz m_fr m_bh m_hd m_ft m_fa m_le m_fo m_as m_fd m_bc m_bg m_bs m_be m_b0 m_b1 m_cm m_hc : Int32} (ho_mo : V mo = some (.inr (13, hm_o q (m_tp) (m_sz) (m_fr) (m_bh) (m_hd) (m_ft) (m_fa) (m_le) (m_fo) (m_as) (m_fd) (m_bc) (m_bg) (m_bs) (m_be) (m_b0) (m_b1) (m_cm) (m_hc)))) (hi_mo0 : 0 ≤ m_tp.toInt ∧ m_tp.toInt ≤ 4000) (hi_mo1 : 0 ≤ m_sz.toInt ∧ m_sz.toInt ≤ 4000) (hi_mo2 : 0 ≤ m_le.toInt ∧ m_le.toInt ≤ 276) (hi_mo3 : 0 ≤ m_fo.toInt ∧ m_fo.toInt ≤ 4) (hi_mo4 : 0 ≤ m_as.toInt ∧ m_as.toInt ≤ 4000) (hi_mo5 : 0 ≤ m_fd.toInt ∧ m_fd.toInt ≤ 900) (hi_mo6 : 0 ≤ m_cm.toInt ∧ m_cm.toInt ≤ 2) (hi_mo7 : 0 ≤ m_hc.toInt ∧ m_hc.toInt ≤ 1) (hH : hm_VQ cs V q 0 0) : hp_M l yX13_unused cX13_unused 3 (some .int) ({ frames := 7, cells := 0, slots := 0, locals := 174 }) D cs B V n [.ref (mo)] (hp_QI D cs B (fun r V' n' => n = n' ∧ hq_P cs G (fun g => g.1 == 1 || g.1 == 43 || g.1 == 44 || g.1 == 45 || g.1 == 47) V V' ∧ (∃ (m_fo1 : Int32) (m_le1 : Int32), V' mo = some (.inr (13, hm_o q (m_tp) (m_sz) (m_fr) (m_bh) (m_hd) (m_ft) (m_fa) (m_le1) (m_fo1) (m_as) (m_fd) (m_bc) (m_bg) (m_bs) (m_be) (m_b0) (m_b1) (m_cm) (m_hc))) ∧ (0 ≤ m_le1.toInt ∧ m_le1.toInt ≤ 276) ∧ (0 ≤ m_fo1.toInt ∧ m_fo1.toInt ≤ 4)) ∧ True)) 0 0 := by
  refine hp_walk (R0 := RX13) (by decide) rfl ?_ (Nat.le_of_ble_eq_true rfl)
  intro p e s m below meth c ls hx hb hr hts hown hlocks hin hml hZ hl
  have hP : hq_P cs G (fun g => g.1 == 1 || g.1 == 43 || g.1 == 44 || g.1 == 45 || g.1 == 47) V V := hq_P.rf hI
  have hl : lv_has ls 3 [(0, .ref (mo))] := hl
  have hb_m_tp := hq_rng m_tp
  have hb_m_sz := hq_rng m_sz
  have hb_m_fr := hq_rng m_fr
  have hb_m_bh := hq_rng m_bh
  have hb_m_hd := hq_rng m_hd
  have hb_m_ft := hq_rng m_ft
  have hb_m_fa := hq_rng m_fa
  have hb_m_le := hq_rng m_le
  have hb_m_fo := hq_rng m_fo
  have hb_m_as := hq_rng m_as
  have hb_m_fd := hq_rng m_fd
  have hb_m_bc := hq_rng m_bc
  have hb_m_bg := hq_rng m_bg
  have hb_m_bs := hq_rng m_bs
  have hb_m_be := hq_rng m_be
  have hb_m_b0 := hq_rng m_b0
  have hb_m_b1 := hq_rng m_b1
  have hb_m_cm := hq_rng m_cm
  have hb_m_hc := hq_rng m_hc
  refine lv_aload_n hx hb dX13_unused_0 rfl (lv_at hl 0 rfl) ?_
  refine hp_callv (hp_runV (As := []) (rest := []) hx hb hml hown hts (t_X13_countUses l D cs B G  V n hP.1 q hR (mo) h_mo ho_mo  (by omega) (by omega) (by omega) (by omega) (by omega) (by omega) (by omega) (by omega) (hH.keep hR (fun x t hx hg => hP.2 x t hx (by simp [hg])))) hZ ho_mo cv_X13_410 rfl rfl ⟨Nat.le_of_ble_eq_true rfl, Nat.le_of_ble_eq_true rfl⟩ rfl hl.1 rfl (Nat.le_of_ble_eq_true rfl) dX13_unused_1 ⟨(Nat.le_of_ble_eq_true rfl), (Nat.le_of_ble_eq_true rfl)⟩) hZ (fun V1 n2 _ _ hw3 hZ => ?_)
  obtain ⟨rfl, hq5, ⟨z7, z8, ho9, hi10, hi11⟩⟩ := hw3
  have hP := hP.trans hq5 (by intro g h; simp_all)
  have b12 := hq_rng z8
  have b13 := hq_rng z7
  refine lv_iconst (v := 0) hx hb dX13_unused_4 (by decide) ?_
  refine lv_istore_n (lv' := [(1, .int (0)), (0, .ref (mo))]) hx hb dX13_unused_5 rfl hl (by decide) rfl (fun ls hl => ?_)
  refine lv_iconst (v := 0) hx hb dX13_unused_6 (by decide) ?_
  refine lv_istore_n (lv' := [(2, .int (0)), (1, .int (0)), (0, .ref (mo))]) hx hb dX13_unused_7 rfl hl (by decide) rfl (fun ls hl => ?_)
  have hl14 : (0 : Int32).toInt = 0 := by decide
  have hl15 : (0 : Int32).toInt = 0 := by decide
  suffices lp8 : ∀ (k9 : Nat) (V9 : hp_V) (H9 : Heap) (locs9 : List Loc) (ls : Array Slot) (no : Int32) (i : Int32), (100 - i.toInt).toNat = k9 → hp_Z D cs B s V9 H9 n locs9 → hq_P cs G (fun g => g.1 == 1 || g.1 == 43 || g.1 == 44 || g.1 == 45 || g.1 == 47) V V9 → V9 (mo) = some (.inr (13, hm_o q (m_tp) (m_sz) (m_fr) (m_bh) (m_hd) (m_ft) (m_fa) (z8) (z7) (m_as) (m_fd) (m_bc) (m_bg) (m_bs) (m_be) (m_b0) (m_b1) (m_cm) (m_hc))) → 0 ≤ i.toInt → i.toInt ≤ 60 → lv_has ls 3 [(2, .int (i)), (1, .int (no)), (0, .ref (mo))] → W p l e ({ frames := 7, cells := 0, slots := 0, locals := 174 }) s m ([.ref (mo)] : List Value).toArray below meth c H9 locs9 0 0 (MQ below (hp_QI D cs B (fun r V' n' => n = n' ∧ hq_P cs G (fun g => g.1 == 1 || g.1 == 43 || g.1 == 44 || g.1 == 45 || g.1 == 47) V V' ∧ (∃ (m_fo1 : Int32) (m_le1 : Int32), V' mo = some (.inr (13, hm_o q (m_tp) (m_sz) (m_fr) (m_bh) (m_hd) (m_ft) (m_fa) (m_le1) (m_fo1) (m_as) (m_fd) (m_bc) (m_bg) (m_bs) (m_be) (m_b0) (m_b1) (m_cm) (m_hc))) ∧ (0 ≤ m_le1.toInt ∧ m_le1.toInt ≤ 276) ∧ (0 ≤ m_fo1.toInt ∧ m_fo1.toInt ≤ 4)) ∧ True)) ([.ref (mo)] : List Value).toArray s 0 0 (hp_F B)) (F0 m 8 ls []) from lp8 _ _ _ _ ls (0) (0) rfl hZ hP ho9 (by omega) (by omega) (lv_sub hl [0, 1, 2] rfl)
  intro k9
  induction k9 using Nat.strongRecOn with
  | _ k9 ih8 =>
    intro V9 H9 locs9 ls no i  hk8 hZ hP ho16 hv17 hv18 hl
    have hb_no := hq_rng no
    have hb_i := hq_rng i
    have hP_8 := hP
    refine lv_iload_n hx hb dX13_unused_8 rfl (lv_at hl 0 rfl) ?_
    refine lv_aload_n hx hb dX13_unused_9 rfl (lv_at hl 2 rfl) ?_
    refine hp_get (v := .ref (q + 2)) hx hb hts hown hZ ho16 fl_X13_10 rfl dX13_unused_10 ?_
    refine lv_iconst (v := 0) hx hb dX13_unused_13 (by decide) ?_
    obtain ⟨hN21, g20, eV19, hf22⟩ := hq_o21 hP.1 (hr_2 hR)
    refine hp_iald hx hb hZ eV19 (by unfold vp_in; decide) dX13_unused_14 ?_
    refine lv_topi (fun y23 ey24 => ?_)
    have b25 : hq_ir (hq_lo 8) (hq_hi 8) y23 := by rw [ey24]; exact hf22 _ (by decide)
    have b25 : 0 ≤ (y23).toInt ∧ (y23).toInt ≤ 60 := b25
    refine lv_icmp_ge (tgt := 41) hx hb dX13_unused_15 (by decide) (fun c26 => ?_) (fun c26 => ?_)
    · have c26 : (y23).toInt ≤ (i).toInt := hq_lei.mp c26
      refine lv_iload_n hx hb dX13_unused_41 rfl (lv_at hl 1 rfl) ?_
      exact hp_iret hx hb hr hlocks hZ ⟨rfl, hP, ⟨z7, z8, ho16, by omega, by omega⟩, trivial⟩ dX13_unused_42
    · have c26 : ¬ (y23).toInt ≤ (i).toInt := fun h9 => c26 (hq_lei.mpr h9)
      refine lv_iload_n hx hb dX13_unused_18 rfl (lv_at hl 1 rfl) ?_
      refine lv_aload_n hx hb dX13_unused_19 rfl (lv_at hl 2 rfl) ?_
      refine hp_get (v := .ref (q + 41)) hx hb hts hown hZ ho16 fl_X13_274 rfl dX13_unused_20 ?_
      refine lv_iload_n hx hb dX13_unused_23 rfl (lv_at hl 0 rfl) ?_
      obtain ⟨hN29, g28, eV27, hf30⟩ := hq_o21 hP.1 (hr_41 hR)
      refine hp_iald hx hb hZ eV27 (hq_in (by omega) (by omega)) dX13_unused_24 ?_
      refine lv_topi (fun y31 ey32 => ?_)
      have b33 := hq_rng y31
      refine lv_if_ne (tgt := 32) hx hb dX13_unused_25 (by decide) (fun c34 => ?_) (fun c34 => ?_)
      · have c34 : ¬ (y31).toInt = (0 : Int) := fun h9 => c34 (hq_eqi.mpr h9)
        refine lv_iconst (v := 0) hx hb dX13_unused_32 (by decide) ?_
        refine lv_iadd hx hb dX13_unused_33 ?_
        refine lv_topi (fun y35 ey36 => ?_)
        obtain ⟨k37, hk38, b39, b40⟩ := hq_add (no) (0)
        rw [← ey36] at hk38 b39 b40
        have hk38 : (y35).toInt = (no).toInt + (0 : Int) + k37 * 4294967296 := hk38
        refine lv_istore_n (lv' := [(1, .int (y35)), (2, .int (i)), (0, .ref (mo))]) hx hb dX13_unused_34 rfl hl (by decide) rfl (fun ls hl => ?_)
        obtain ⟨y41, ey42⟩ : ∃ y : Int32, y = i + (1) := ⟨_, rfl⟩
        obtain ⟨k43, hk44, b45, b46⟩ := hq_add (i) (1)
        rw [← ey42] at hk44 b45 b46
        have hk44 : (y41).toInt = (i).toInt + (1) + k43 * 4294967296 := hk44
        refine lv_iinc (v := y41) (lv' := [(2, .int (y41)), (1, .int (y35)), (0, .ref (mo))]) hx hb dX13_unused_35 hl (k := 1) rfl (by rw [ey42]; rfl) (by decide) rfl (fun ls hl => ?_)
        refine lv_goto (tgt := 8) hx hb dX13_unused_38 (by decide) ?_
        exact ih8 _ (by omega) _ _ _ ls (y35) (y41) rfl hZ hP ho16 (by omega) (by omega) (lv_sub hl [0, 1, 2] rfl)
      · have c34 : (y31).toInt = (0 : Int) := hq_eqi.mp c34
        refine lv_iconst (v := 1) hx hb dX13_unused_28 (by decide) ?_
        refine lv_goto (tgt := 33) hx hb dX13_unused_29 (by decide) ?_
        refine lv_iadd hx hb dX13_unused_33 ?_
        refine lv_topi (fun y47 ey48 => ?_)
        obtain ⟨k49, hk50, b51, b52⟩ := hq_add (no) (1)
        rw [← ey48] at hk50 b51 b52
        have hk50 : (y47).toInt = (no).toInt + (1 : Int) + k49 * 4294967296 := hk50
        refine lv_istore_n (lv' := [(1, .int (y47)), (2, .int (i)), (0, .ref (mo))]) hx hb dX13_unused_34 rfl hl (by decide) rfl (fun ls hl => ?_)
        obtain ⟨y53, ey54⟩ : ∃ y : Int32, y = i + (1) := ⟨_, rfl⟩
        obtain ⟨k55, hk56, b57, b58⟩ := hq_add (i) (1)
        rw [← ey54] at hk56 b57 b58
        have hk56 : (y53).toInt = (i).toInt + (1) + k55 * 4294967296 := hk56
        refine lv_iinc (v := y53) (lv' := [(2, .int (y53)), (1, .int (y47)), (0, .ref (mo))]) hx hb dX13_unused_35 hl (k := 1) rfl (by rw [ey54]; rfl) (by decide) rfl (fun ls hl => ?_)
        refine lv_goto (tgt := 8) hx hb dX13_unused_38 (by decide) ?_
        exact ih8 _ (by omega) _ _ _ ls (y47) (y53) rfl hZ hP ho16 (by omega) (by omega) (lv_sub hl [0, 1, 2] rfl)

set_option maxHeartbeats 4000000 in
set_option maxRecDepth 100000 in
theorem t_X13_users (l : Launch) (D : va_G) (cs : Nat → ClassId) (B : Nat) (G : hq_G) (V : hp_V) (n : Nat) (hI : hq_I cs G V) (q : Nat) (hR : hq_RT G q) (mo : Nat) (h_mo : G mo = some (24, 0, 0, 0)) (k : Int32) {m_tp m_sz m_fr m_bh m_hd m_ft m_fa m_le m_fo m_as m_fd m_bc m_bg m_bs m_be m_b0 m_b1 m_cm m_hc : Int32} (ho_mo : V mo = some (.inr (13, hm_o q (m_tp) (m_sz) (m_fr) (m_bh) (m_hd) (m_ft) (m_fa) (m_le) (m_fo) (m_as) (m_fd) (m_bc) (m_bg) (m_bs) (m_be) (m_b0) (m_b1) (m_cm) (m_hc)))) (hi_mo0 : 0 ≤ m_tp.toInt ∧ m_tp.toInt ≤ 4000) (hi_mo1 : 0 ≤ m_sz.toInt ∧ m_sz.toInt ≤ 4000) (hi_mo2 : 0 ≤ m_le.toInt ∧ m_le.toInt ≤ 276) (hi_mo3 : 0 ≤ m_fo.toInt ∧ m_fo.toInt ≤ 4) (hi_mo4 : 0 ≤ m_as.toInt ∧ m_as.toInt ≤ 4000) (hi_mo5 : 0 ≤ m_fd.toInt ∧ m_fd.toInt ≤ 900) (hi_mo6 : 0 ≤ m_cm.toInt ∧ m_cm.toInt ≤ 2) (hi_mo7 : 0 ≤ m_hc.toInt ∧ m_hc.toInt ≤ 1) (hH : hm_VQ cs V q 0 0) : hp_M l yX13_users cX13_users 2 (some .int) ({ frames := 7, cells := 0, slots := 0, locals := 174 }) D cs B V n [.ref (mo), .int (k)] (hp_QI D cs B (fun r V' n' => n = n' ∧ hq_P cs G (fun g => g.1 == 1 || g.1 == 43 || g.1 == 44 || g.1 == 45 || g.1 == 47) V V' ∧ (∃ (m_fo1 : Int32) (m_le1 : Int32), V' mo = some (.inr (13, hm_o q (m_tp) (m_sz) (m_fr) (m_bh) (m_hd) (m_ft) (m_fa) (m_le1) (m_fo1) (m_as) (m_fd) (m_bc) (m_bg) (m_bs) (m_be) (m_b0) (m_b1) (m_cm) (m_hc))) ∧ (0 ≤ m_le1.toInt ∧ m_le1.toInt ≤ 276) ∧ (0 ≤ m_fo1.toInt ∧ m_fo1.toInt ≤ 4)) ∧ True)) 0 0 := by
  refine hp_walk (R0 := RX13) (by decide) rfl ?_ (Nat.le_of_ble_eq_true rfl)
  intro p e s m below meth c ls hx hb hr hts hown hlocks hin hml hZ hl
  have hP : hq_P cs G (fun g => g.1 == 1 || g.1 == 43 || g.1 == 44 || g.1 == 45 || g.1 == 47) V V := hq_P.rf hI
  have hl : lv_has ls 2 [(0, .ref (mo)), (1, .int (k))] := hl
  have hb_k := hq_rng k
  have hb_m_tp := hq_rng m_tp
  have hb_m_sz := hq_rng m_sz
  have hb_m_fr := hq_rng m_fr
  have hb_m_bh := hq_rng m_bh
  have hb_m_hd := hq_rng m_hd
  have hb_m_ft := hq_rng m_ft
  have hb_m_fa := hq_rng m_fa
  have hb_m_le := hq_rng m_le
  have hb_m_fo := hq_rng m_fo
  have hb_m_as := hq_rng m_as
  have hb_m_fd := hq_rng m_fd
  have hb_m_bc := hq_rng m_bc
  have hb_m_bg := hq_rng m_bg
  have hb_m_bs := hq_rng m_bs
  have hb_m_be := hq_rng m_be
  have hb_m_b0 := hq_rng m_b0
  have hb_m_b1 := hq_rng m_b1
  have hb_m_cm := hq_rng m_cm
  have hb_m_hc := hq_rng m_hc
  refine lv_aload_n hx hb dX13_users_0 rfl (lv_at hl 0 rfl) ?_
  refine lv_iload_n hx hb dX13_users_1 rfl (lv_at hl 1 rfl) ?_
  refine hp_calli (hp_runV (As := [.int (k)]) (rest := []) hx hb hml hown hts (t_X13_isLine l D cs B G  V n hP.1 q hR (mo) h_mo (k) ho_mo  (by omega) (by omega) (by omega) (by omega) (by omega) (by omega) (by omega) (by omega) ) hZ ho_mo cv_X13_324 rfl rfl ⟨Nat.le_of_ble_eq_true rfl, Nat.le_of_ble_eq_true rfl⟩ rfl hl.1 rfl (Nat.le_of_ble_eq_true rfl) dX13_users_2 ⟨(Nat.le_of_ble_eq_true rfl), (Nat.le_of_ble_eq_true rfl)⟩) hZ (fun r4 V1 n2 _ _ hw3 hZ => ?_)
  obtain ⟨rfl, hq5, ho7, hr6⟩ := hw3
  have hP := hP.trans hq5 (fun _ _ => rfl)
  have b8 := hq_rng r4
  refine lv_if_ne (tgt := 11) hx hb dX13_users_5 (by decide) (fun c9 => ?_) (fun c9 => ?_)
  · have c9 : ¬ (r4).toInt = (0 : Int) := fun h9 => c9 (hq_eqi.mpr h9)
    refine lv_aload_n hx hb dX13_users_11 rfl (lv_at hl 0 rfl) ?_
    refine hp_callv (hp_runV (As := []) (rest := []) hx hb hml hown hts (t_X13_countUses l D cs B G  V1 n hP.1 q hR (mo) h_mo ho7  (by omega) (by omega) (by omega) (by omega) (by omega) (by omega) (by omega) (by omega) (hH.keep hR (fun x t hx hg => hP.2 x t hx (by simp [hg])))) hZ ho7 cv_X13_410 rfl rfl ⟨Nat.le_of_ble_eq_true rfl, Nat.le_of_ble_eq_true rfl⟩ rfl hl.1 rfl (Nat.le_of_ble_eq_true rfl) dX13_users_12 ⟨(Nat.le_of_ble_eq_true rfl), (Nat.le_of_ble_eq_true rfl)⟩) hZ (fun V10 n11 _ _ hw12 hZ => ?_)
    obtain ⟨rfl, hq14, ⟨z16, z17, ho18, hi19, hi20⟩⟩ := hw12
    have hP := hP.trans hq14 (by intro g h; simp_all)
    have b21 := hq_rng z17
    have b22 := hq_rng z16
    refine lv_aload_n hx hb dX13_users_15 rfl (lv_at hl 0 rfl) ?_
    refine hp_get (v := .ref (q + 41)) hx hb hts hown hZ ho18 fl_X13_274 rfl dX13_users_16 ?_
    refine lv_iload_n hx hb dX13_users_19 rfl (lv_at hl 1 rfl) ?_
    obtain ⟨hN25, g24, eV23, hf26⟩ := hq_o21 hP.1 (hr_41 hR)
    refine hp_iald hx hb hZ eV23 (hq_in (by omega) (by omega)) dX13_users_20 ?_
    refine lv_topi (fun y27 ey28 => ?_)
    have b29 := hq_rng y27
    exact hp_iret hx hb hr hlocks hZ ⟨rfl, hP, ⟨z16, z17, ho18, by omega, by omega⟩, trivial⟩ dX13_users_21
  · have c9 : (r4).toInt = (0 : Int) := hq_eqi.mp c9
    refine lv_bipush (v := -2) hx hb dX13_users_8 (by decide) ?_
    exact hp_iret hx hb hr hlocks hZ ⟨rfl, hP, ⟨m_fo, m_le, ho7, by omega, by omega⟩, trivial⟩ dX13_users_10

set_option maxHeartbeats 4000000 in
set_option maxRecDepth 100000 in
theorem t_X13_remember (l : Launch) (D : va_G) (cs : Nat → ClassId) (B : Nat) (G : hq_G) (V : hp_V) (n : Nat) (hI : hq_I cs G V) (q : Nat) (hR : hq_RT G q) (mo : Nat) (h_mo : G mo = some (24, 0, 0, 0)) (k : Int32) (k1 : Int32) {m_tp m_sz m_fr m_bh m_hd m_ft m_fa m_le m_fo m_as m_fd m_bc m_bg m_bs m_be m_b0 m_b1 m_cm m_hc : Int32} (ho_mo : V mo = some (.inr (13, hm_o q (m_tp) (m_sz) (m_fr) (m_bh) (m_hd) (m_ft) (m_fa) (m_le) (m_fo) (m_as) (m_fd) (m_bc) (m_bg) (m_bs) (m_be) (m_b0) (m_b1) (m_cm) (m_hc)))) (hi_mo0 : 0 ≤ m_tp.toInt ∧ m_tp.toInt ≤ 4000) (hi_mo1 : 0 ≤ m_sz.toInt ∧ m_sz.toInt ≤ 4000) (hi_mo2 : 0 ≤ m_le.toInt ∧ m_le.toInt ≤ 276) (hi_mo3 : 0 ≤ m_fo.toInt ∧ m_fo.toInt ≤ 4) (hi_mo4 : 0 ≤ m_as.toInt ∧ m_as.toInt ≤ 4000) (hi_mo5 : 0 ≤ m_fd.toInt ∧ m_fd.toInt ≤ 900) (hi_mo6 : 0 ≤ m_cm.toInt ∧ m_cm.toInt ≤ 2) (hi_mo7 : 0 ≤ m_hc.toInt ∧ m_hc.toInt ≤ 1) (hk0 : 0 ≤ k.toInt) (hk1 : k.toInt < 8) : hp_M l yX13_remember cX13_remember 3 none ({ frames := 1, cells := 0, slots := 0, locals := 21 }) D cs B V n [.ref (mo), .int (k), .int (k1)] (hp_QV D cs B (fun V' n' => n = n' ∧ hq_P cs G (fun g => g.1 == 48) V V' ∧ (V' mo = some (.inr (13, hm_o q (m_tp) (m_sz) (m_fr) (m_bh) (m_hd) (m_ft) (m_fa) (m_le) (m_fo) (m_as) (m_fd) (m_bc) (m_bg) (m_bs) (m_be) (m_b0) (m_b1) (m_cm) (m_hc)))))) 0 0 := by
  refine hp_walk (R0 := RX13) (by decide) rfl ?_ (Nat.le_of_ble_eq_true rfl)
  intro p e s m below meth c ls hx hb hr hts hown hlocks hin hml hZ hl
  have hP : hq_P cs G (fun g => g.1 == 48) V V := hq_P.rf hI
  have hl : lv_has ls 3 [(0, .ref (mo)), (1, .int (k)), (2, .int (k1))] := hl
  have hb_k := hq_rng k
  have hb_k1 := hq_rng k1
  have hb_m_tp := hq_rng m_tp
  have hb_m_sz := hq_rng m_sz
  have hb_m_fr := hq_rng m_fr
  have hb_m_bh := hq_rng m_bh
  have hb_m_hd := hq_rng m_hd
  have hb_m_ft := hq_rng m_ft
  have hb_m_fa := hq_rng m_fa
  have hb_m_le := hq_rng m_le
  have hb_m_fo := hq_rng m_fo
  have hb_m_as := hq_rng m_as
  have hb_m_fd := hq_rng m_fd
  have hb_m_bc := hq_rng m_bc
  have hb_m_bg := hq_rng m_bg
  have hb_m_bs := hq_rng m_bs
  have hb_m_be := hq_rng m_be
  have hb_m_b0 := hq_rng m_b0
  have hb_m_b1 := hq_rng m_b1
  have hb_m_cm := hq_rng m_cm
  have hb_m_hc := hq_rng m_hc
  refine lv_aload_n hx hb dX13_remember_0 rfl (lv_at hl 0 rfl) ?_
  refine hp_get (v := .ref (q + 43)) hx hb hts hown hZ ho_mo fl_X13_280 rfl dX13_remember_1 ?_
  refine lv_iconst (v := 3) hx hb dX13_remember_4 (by decide) ?_
  refine lv_iload_n hx hb dX13_remember_5 rfl (lv_at hl 1 rfl) ?_
  refine lv_imul hx hb dX13_remember_6 ?_
  refine lv_topi (fun y1 ey2 => ?_)
  obtain ⟨k3, hk4, b5, b6⟩ := hq_mul (3) (k)
  rw [← ey2] at hk4 b5 b6
  have hk4 : (y1).toInt = (3 : Int) * (k).toInt + k3 * 4294967296 := hk4
  obtain rfl : k3 = 0 := by omega
  refine lv_iconst (v := 2) hx hb dX13_remember_7 (by decide) ?_
  refine lv_iadd hx hb dX13_remember_8 ?_
  refine lv_topi (fun y7 ey8 => ?_)
  obtain ⟨k9, hk10, b11, b12⟩ := hq_add (y1) (2)
  rw [← ey8] at hk10 b11 b12
  have hk10 : (y7).toInt = (y1).toInt + (2 : Int) + k9 * 4294967296 := hk10
  obtain rfl : k9 = 0 := by omega
  refine lv_aload_n hx hb dX13_remember_9 rfl (lv_at hl 0 rfl) ?_
  refine hp_get (v := .ref (q + 43)) hx hb hts hown hZ ho_mo fl_X13_280 rfl dX13_remember_10 ?_
  refine lv_iconst (v := 3) hx hb dX13_remember_13 (by decide) ?_
  refine lv_iload_n hx hb dX13_remember_14 rfl (lv_at hl 1 rfl) ?_
  refine lv_imul hx hb dX13_remember_15 ?_
  refine lv_topi (fun y13 ey14 => ?_)
  obtain ⟨k15, hk16, b17, b18⟩ := hq_mul (3) (k)
  rw [← ey14] at hk16 b17 b18
  have hk16 : (y13).toInt = (3 : Int) * (k).toInt + k15 * 4294967296 := hk16
  obtain rfl : k15 = 0 := by omega
  refine lv_iconst (v := 1) hx hb dX13_remember_16 (by decide) ?_
  refine lv_iadd hx hb dX13_remember_17 ?_
  refine lv_topi (fun y19 ey20 => ?_)
  obtain ⟨k21, hk22, b23, b24⟩ := hq_add (y13) (1)
  rw [← ey20] at hk22 b23 b24
  have hk22 : (y19).toInt = (y13).toInt + (1 : Int) + k21 * 4294967296 := hk22
  obtain rfl : k21 = 0 := by omega
  obtain ⟨hN27, g26, eV25, hf28⟩ := hq_o21 hP.1 (hr_43 hR)
  refine hp_iald hx hb hZ eV25 (hq_in (by omega) (by omega)) dX13_remember_18 ?_
  refine lv_topi (fun y29 ey30 => ?_)
  have b31 := hq_rng y29
  refine hp_iast hx hb hZ eV25 (hq_in (by omega) (by omega)) dX13_remember_19 (fun V32 _ _ e33 o34 hZ => ?_)
  have e33 : V32 (q + 43) = some (.inl (cs 1, 24, .inl (upd (g26) ((y7 : Int32).toNatClampNeg) (y29)))) := e33
  have hP := hP.put (hr_43 hR) e33 o34 (hq_c21 (by omega) (hq_upd hf28 (hq_rng _))) rfl
  refine lv_aload_n hx hb dX13_remember_20 rfl (lv_at hl 0 rfl) ?_
  have fx35 : V32 (mo) = some (.inr (13, hm_o q (m_tp) (m_sz) (m_fr) (m_bh) (m_hd) (m_ft) (m_fa) (m_le) (m_fo) (m_as) (m_fd) (m_bc) (m_bg) (m_bs) (m_be) (m_b0) (m_b1) (m_cm) (m_hc))) := (o34 (mo) (hq_tne h_mo (hr_43 hR) (by simp))).trans (ho_mo)
  refine hp_get (v := .ref (q + 43)) hx hb hts hown hZ fx35 fl_X13_280 rfl dX13_remember_21 ?_
  refine lv_iconst (v := 3) hx hb dX13_remember_24 (by decide) ?_
  refine lv_iload_n hx hb dX13_remember_25 rfl (lv_at hl 1 rfl) ?_
  refine lv_imul hx hb dX13_remember_26 ?_
  refine lv_topi (fun y36 ey37 => ?_)
  obtain ⟨k38, hk39, b40, b41⟩ := hq_mul (3) (k)
  rw [← ey37] at hk39 b40 b41
  have hk39 : (y36).toInt = (3 : Int) * (k).toInt + k38 * 4294967296 := hk39
  obtain rfl : k38 = 0 := by omega
  refine lv_iconst (v := 1) hx hb dX13_remember_27 (by decide) ?_
  refine lv_iadd hx hb dX13_remember_28 ?_
  refine lv_topi (fun y42 ey43 => ?_)
  obtain ⟨k44, hk45, b46, b47⟩ := hq_add (y36) (1)
  rw [← ey43] at hk45 b46 b47
  have hk45 : (y42).toInt = (y36).toInt + (1 : Int) + k44 * 4294967296 := hk45
  obtain rfl : k44 = 0 := by omega
  refine lv_aload_n hx hb dX13_remember_29 rfl (lv_at hl 0 rfl) ?_
  refine hp_get (v := .ref (q + 43)) hx hb hts hown hZ fx35 fl_X13_280 rfl dX13_remember_30 ?_
  refine lv_iconst (v := 3) hx hb dX13_remember_33 (by decide) ?_
  refine lv_iload_n hx hb dX13_remember_34 rfl (lv_at hl 1 rfl) ?_
  refine lv_imul hx hb dX13_remember_35 ?_
  refine lv_topi (fun y48 ey49 => ?_)
  obtain ⟨k50, hk51, b52, b53⟩ := hq_mul (3) (k)
  rw [← ey49] at hk51 b52 b53
  have hk51 : (y48).toInt = (3 : Int) * (k).toInt + k50 * 4294967296 := hk51
  obtain rfl : k50 = 0 := by omega
  obtain ⟨hN56, g55, eV54, hf57⟩ := hq_o21 hP.1 (hr_43 hR)
  refine hp_iald hx hb hZ eV54 (hq_in (by omega) (by omega)) dX13_remember_36 ?_
  refine lv_topi (fun y58 ey59 => ?_)
  have b60 := hq_rng y58
  refine hp_iast hx hb hZ eV54 (hq_in (by omega) (by omega)) dX13_remember_37 (fun V61 _ _ e62 o63 hZ => ?_)
  have e62 : V61 (q + 43) = some (.inl (cs 1, 24, .inl (upd (g55) ((y42 : Int32).toNatClampNeg) (y58)))) := e62
  have hP := hP.put (hr_43 hR) e62 o63 (hq_c21 (by omega) (hq_upd hf57 (hq_rng _))) rfl
  refine lv_aload_n hx hb dX13_remember_38 rfl (lv_at hl 0 rfl) ?_
  have fx64 : V61 (mo) = some (.inr (13, hm_o q (m_tp) (m_sz) (m_fr) (m_bh) (m_hd) (m_ft) (m_fa) (m_le) (m_fo) (m_as) (m_fd) (m_bc) (m_bg) (m_bs) (m_be) (m_b0) (m_b1) (m_cm) (m_hc))) := (o63 (mo) (hq_tne h_mo (hr_43 hR) (by simp))).trans (fx35)
  refine hp_get (v := .ref (q + 43)) hx hb hts hown hZ fx64 fl_X13_280 rfl dX13_remember_39 ?_
  refine lv_iconst (v := 3) hx hb dX13_remember_42 (by decide) ?_
  refine lv_iload_n hx hb dX13_remember_43 rfl (lv_at hl 1 rfl) ?_
  refine lv_imul hx hb dX13_remember_44 ?_
  refine lv_topi (fun y65 ey66 => ?_)
  obtain ⟨k67, hk68, b69, b70⟩ := hq_mul (3) (k)
  rw [← ey66] at hk68 b69 b70
  have hk68 : (y65).toInt = (3 : Int) * (k).toInt + k67 * 4294967296 := hk68
  obtain rfl : k67 = 0 := by omega
  refine lv_iload_n hx hb dX13_remember_45 rfl (lv_at hl 2 rfl) ?_
  obtain ⟨hN73, g72, eV71, hf74⟩ := hq_o21 hP.1 (hr_43 hR)
  refine hp_iast hx hb hZ eV71 (hq_in (by omega) (by omega)) dX13_remember_46 (fun V75 _ _ e76 o77 hZ => ?_)
  have e76 : V75 (q + 43) = some (.inl (cs 1, 24, .inl (upd (g72) ((y65 : Int32).toNatClampNeg) (k1)))) := e76
  have hP := hP.put (hr_43 hR) e76 o77 (hq_c21 (by omega) (hq_upd hf74 (hq_rng _))) rfl
  have fx78 : V75 (mo) = some (.inr (13, hm_o q (m_tp) (m_sz) (m_fr) (m_bh) (m_hd) (m_ft) (m_fa) (m_le) (m_fo) (m_as) (m_fd) (m_bc) (m_bg) (m_bs) (m_be) (m_b0) (m_b1) (m_cm) (m_hc))) := (o77 (mo) (hq_tne h_mo (hr_43 hR) (by simp))).trans (fx64)
  exact hp_vret hx hb hr hlocks hZ ⟨rfl, hP, fx78⟩ dX13_remember_47

set_option maxHeartbeats 4000000 in
set_option maxRecDepth 100000 in
theorem t_X13_praise (l : Launch) (D : va_G) (cs : Nat → ClassId) (B : Nat) (G : hq_G) (V : hp_V) (n : Nat) (hI : hq_I cs G V) (q : Nat) (hR : hq_RT G q) (mo : Nat) (h_mo : G mo = some (24, 0, 0, 0)) (k : Int32) (k1 : Int32) {m_tp m_sz m_fr m_bh m_hd m_ft m_fa m_le m_fo m_as m_fd m_bc m_bg m_bs m_be m_b0 m_b1 m_cm m_hc : Int32} (ho_mo : V mo = some (.inr (13, hm_o q (m_tp) (m_sz) (m_fr) (m_bh) (m_hd) (m_ft) (m_fa) (m_le) (m_fo) (m_as) (m_fd) (m_bc) (m_bg) (m_bs) (m_be) (m_b0) (m_b1) (m_cm) (m_hc)))) (hi_mo0 : 0 ≤ m_tp.toInt ∧ m_tp.toInt ≤ 4000) (hi_mo1 : 0 ≤ m_sz.toInt ∧ m_sz.toInt ≤ 4000) (hi_mo2 : 0 ≤ m_le.toInt ∧ m_le.toInt ≤ 276) (hi_mo3 : 0 ≤ m_fo.toInt ∧ m_fo.toInt ≤ 4) (hi_mo4 : 0 ≤ m_as.toInt ∧ m_as.toInt ≤ 4000) (hi_mo5 : 0 ≤ m_fd.toInt ∧ m_fd.toInt ≤ 900) (hi_mo6 : 0 ≤ m_cm.toInt ∧ m_cm.toInt ≤ 2) (hi_mo7 : 0 ≤ m_hc.toInt ∧ m_hc.toInt ≤ 1) (hk0 : 0 ≤ k.toInt) (hk1 : k.toInt < 8) (hj0 : 0 ≤ k1.toInt) (hj1 : k1.toInt < 4) : hp_M l yX13_praise cX13_praise 6 none ({ frames := 1, cells := 0, slots := 0, locals := 21 }) D cs B V n [.ref (mo), .int (k), .int (k1)] (hp_QV D cs B (fun V' n' => n = n' ∧ hq_P cs G (fun g => g.1 == 48) V V' ∧ (V' mo = some (.inr (13, hm_o q (m_tp) (m_sz) (m_fr) (m_bh) (m_hd) (m_ft) (m_fa) (m_le) (m_fo) (m_as) (m_fd) (m_bc) (m_bg) (m_bs) (m_be) (m_b0) (m_b1) (m_cm) (m_hc)))))) 0 0 := by
  refine hp_walk (R0 := RX13) (by decide) rfl ?_ (Nat.le_of_ble_eq_true rfl)
  intro p e s m below meth c ls hx hb hr hts hown hlocks hin hml hZ hl
  have hP : hq_P cs G (fun g => g.1 == 48) V V := hq_P.rf hI
  have hl : lv_has ls 6 [(0, .ref (mo)), (1, .int (k)), (2, .int (k1))] := hl
  have hb_k := hq_rng k
  have hb_k1 := hq_rng k1
  have hb_m_tp := hq_rng m_tp
  have hb_m_sz := hq_rng m_sz
  have hb_m_fr := hq_rng m_fr
  have hb_m_bh := hq_rng m_bh
  have hb_m_hd := hq_rng m_hd
  have hb_m_ft := hq_rng m_ft
  have hb_m_fa := hq_rng m_fa
  have hb_m_le := hq_rng m_le
  have hb_m_fo := hq_rng m_fo
  have hb_m_as := hq_rng m_as
  have hb_m_fd := hq_rng m_fd
  have hb_m_bc := hq_rng m_bc
  have hb_m_bg := hq_rng m_bg
  have hb_m_bs := hq_rng m_bs
  have hb_m_be := hq_rng m_be
  have hb_m_b0 := hq_rng m_b0
  have hb_m_b1 := hq_rng m_b1
  have hb_m_cm := hq_rng m_cm
  have hb_m_hc := hq_rng m_hc
  refine lv_iconst (v := 0) hx hb dX13_praise_0 (by decide) ?_
  refine lv_istore_n (lv' := [(3, .int (0)), (0, .ref (mo)), (1, .int (k)), (2, .int (k1))]) hx hb dX13_praise_1 rfl hl (by decide) rfl (fun ls hl => ?_)
  have hl1 : (0 : Int32).toInt = 0 := by decide
  suffices lp2 : ∀ (k9 : Nat) (V9 : hp_V) (H9 : Heap) (locs9 : List Loc) (ls : Array Slot) (i : Int32), (200 - i.toInt).toNat = k9 → hp_Z D cs B s V9 H9 n locs9 → hq_P cs G (fun g => g.1 == 48) V V9 → 0 ≤ i.toInt → i.toInt ≤ 140 → lv_has ls 6 [(3, .int (i)), (0, .ref (mo)), (1, .int (k)), (2, .int (k1))] → W p l e ({ frames := 1, cells := 0, slots := 0, locals := 21 }) s m ([.ref (mo), .int (k), .int (k1)] : List Value).toArray below meth c H9 locs9 0 0 (MQ below (hp_QV D cs B (fun V' n' => n = n' ∧ hq_P cs G (fun g => g.1 == 48) V V' ∧ (V' mo = some (.inr (13, hm_o q (m_tp) (m_sz) (m_fr) (m_bh) (m_hd) (m_ft) (m_fa) (m_le) (m_fo) (m_as) (m_fd) (m_bc) (m_bg) (m_bs) (m_be) (m_b0) (m_b1) (m_cm) (m_hc)))))) ([.ref (mo), .int (k), .int (k1)] : List Value).toArray s 0 0 (hp_F B)) (F0 m 2 ls []) from lp2 _ _ _ _ ls (0) rfl hZ hP (by omega) (by omega) (lv_sub hl [0, 1, 2, 3] rfl)
  intro k9
  induction k9 using Nat.strongRecOn with
  | _ k9 ih2 =>
    intro V9 H9 locs9 ls i  hk2 hZ hP  hv2 hv3 hl
    have hb_i := hq_rng i
    have hP_2 := hP
    refine lv_iload_n hx hb dX13_praise_2 rfl (lv_at hl 0 rfl) ?_
    refine lv_aload_n hx hb dX13_praise_3 rfl (lv_at hl 1 rfl) ?_
    have fx4 : V9 (mo) = some (.inr (13, hm_o q (m_tp) (m_sz) (m_fr) (m_bh) (m_hd) (m_ft) (m_fa) (m_le) (m_fo) (m_as) (m_fd) (m_bc) (m_bg) (m_bs) (m_be) (m_b0) (m_b1) (m_cm) (m_hc))) := (hP_2.2 (mo) _ h_mo rfl).trans (ho_mo)
    refine hp_get (v := .ref (q + 30)) hx hb hts hown hZ fx4 fl_X13_241 rfl dX13_praise_4 ?_
    refine lv_iload_n hx hb dX13_praise_7 rfl (lv_at hl 3 rfl) ?_
    obtain ⟨hN7, g6, eV5, hf8⟩ := hq_o21 hP.1 (hr_30 hR)
    refine hp_iald hx hb hZ eV5 (hq_in (by omega) (by omega)) dX13_praise_8 ?_
    refine lv_topi (fun y9 ey10 => ?_)
    have b11 : hq_ir (hq_lo 7) (hq_hi 7) y9 := by rw [ey10]; exact hf8 _ (hq_ix (by omega) (by omega))
    have b11 : 0 ≤ (y9).toInt ∧ (y9).toInt ≤ 140 := b11
    refine lv_icmp_ge (tgt := 120) hx hb dX13_praise_9 (by decide) (fun c12 => ?_) (fun c12 => ?_)
    · have c12 : (y9).toInt ≤ (i).toInt := hq_lei.mp c12
      exact hp_vret hx hb hr hlocks hZ ⟨rfl, hP, fx4⟩ dX13_praise_120
    · have c12 : ¬ (y9).toInt ≤ (i).toInt := fun h9 => c12 (hq_lei.mpr h9)
      refine lv_iconst (v := 0) hx hb dX13_praise_12 (by decide) ?_
      refine lv_istore (lv' := [(4, .int (0)), (3, .int (i)), (0, .ref (mo)), (1, .int (k)), (2, .int (k1))]) hx hb dX13_praise_13 hl (by decide) rfl (fun ls hl => ?_)
      refine lv_iconst (v := 0) hx hb dX13_praise_15 (by decide) ?_
      refine lv_istore (lv' := [(5, .int (0)), (4, .int (0)), (3, .int (i)), (0, .ref (mo)), (1, .int (k)), (2, .int (k1))]) hx hb dX13_praise_16 hl (by decide) rfl (fun ls hl => ?_)
      have hl13 : (0 : Int32).toInt = 0 := by decide
      have hl14 : (0 : Int32).toInt = 0 := by decide
      suffices lp18 : ∀ (k9 : Nat) (V9 : hp_V) (H9 : Heap) (locs9 : List Loc) (ls : Array Slot) (ag : Int32) (j : Int32), (200 - j.toInt).toNat = k9 → hp_Z D cs B s V9 H9 n locs9 → hq_P cs G (fun g => g.1 == 48) V V9 → 0 ≤ j.toInt → j.toInt ≤ 140 → lv_has ls 6 [(5, .int (j)), (4, .int (ag)), (3, .int (i)), (0, .ref (mo)), (1, .int (k)), (2, .int (k1))] → W p l e ({ frames := 1, cells := 0, slots := 0, locals := 21 }) s m ([.ref (mo), .int (k), .int (k1)] : List Value).toArray below meth c H9 locs9 0 0 (MQ below (hp_QV D cs B (fun V' n' => n = n' ∧ hq_P cs G (fun g => g.1 == 48) V V' ∧ (V' mo = some (.inr (13, hm_o q (m_tp) (m_sz) (m_fr) (m_bh) (m_hd) (m_ft) (m_fa) (m_le) (m_fo) (m_as) (m_fd) (m_bc) (m_bg) (m_bs) (m_be) (m_b0) (m_b1) (m_cm) (m_hc)))))) ([.ref (mo), .int (k), .int (k1)] : List Value).toArray s 0 0 (hp_F B)) (F0 m 18 ls []) from lp18 _ _ _ _ ls (0) (0) rfl hZ hP (by omega) (by omega) (lv_sub hl [0, 1, 2, 3, 4, 5] rfl)
      intro k9
      induction k9 using Nat.strongRecOn with
      | _ k9 ih18 =>
        intro V9 H9 locs9 ls ag j  hk18 hZ hP  hv15 hv16 hl
        have hb_ag := hq_rng ag
        have hb_j := hq_rng j
        have hP_18 := hP
        refine lv_iload hx hb dX13_praise_18 (lv_at hl 0 rfl) ?_
        refine lv_iload_n hx hb dX13_praise_20 rfl (lv_at hl 2 rfl) ?_
        refine lv_icmp_ge (tgt := 70) hx hb dX13_praise_21 (by decide) (fun c17 => ?_) (fun c17 => ?_)
        · have c17 : (i).toInt ≤ (j).toInt := hq_lei.mp c17
          refine lv_bipush (v := 60) hx hb dX13_praise_70 (by decide) ?_
          refine lv_iload_n hx hb dX13_praise_72 rfl (lv_at hl 4 rfl) ?_
          refine lv_imul hx hb dX13_praise_73 ?_
          refine lv_topi (fun y18 ey19 => ?_)
          obtain ⟨k20, hk21, b22, b23⟩ := hq_mul (60) (k)
          rw [← ey19] at hk21 b22 b23
          have hk21 : (y18).toInt = (60 : Int) * (k).toInt + k20 * 4294967296 := hk21
          obtain rfl : k20 = 0 := by omega
          refine lv_aload_n hx hb dX13_praise_74 rfl (lv_at hl 3 rfl) ?_
          have fx24 : V9 (mo) = some (.inr (13, hm_o q (m_tp) (m_sz) (m_fr) (m_bh) (m_hd) (m_ft) (m_fa) (m_le) (m_fo) (m_as) (m_fd) (m_bc) (m_bg) (m_bs) (m_be) (m_b0) (m_b1) (m_cm) (m_hc))) := (hP_18.2 (mo) _ h_mo rfl).trans (ho_mo)
          refine hp_get (v := .ref (q + 29)) hx hb hts hown hZ fx24 fl_X13_238 rfl dX13_praise_75 ?_
          refine lv_sipush (v := 140) hx hb dX13_praise_78 (by decide) ?_
          refine lv_iload_n hx hb dX13_praise_81 rfl (lv_at hl 5 rfl) ?_
          refine lv_imul hx hb dX13_praise_82 ?_
          refine lv_topi (fun y25 ey26 => ?_)
          obtain ⟨k27, hk28, b29, b30⟩ := hq_mul (140) (k1)
          rw [← ey26] at hk28 b29 b30
          have hk28 : (y25).toInt = (140 : Int) * (k1).toInt + k27 * 4294967296 := hk28
          obtain rfl : k27 = 0 := by omega
          refine lv_iload_n hx hb dX13_praise_83 rfl (lv_at hl 2 rfl) ?_
          refine lv_iadd hx hb dX13_praise_84 ?_
          refine lv_topi (fun y31 ey32 => ?_)
          obtain ⟨k33, hk34, b35, b36⟩ := hq_add (y25) (i)
          rw [← ey32] at hk34 b35 b36
          have hk34 : (y31).toInt = (y25).toInt + (i).toInt + k33 * 4294967296 := hk34
          obtain rfl : k33 = 0 := by omega
          obtain ⟨hN39, g38, eV37, hf40⟩ := hq_o21 hP.1 (hr_29 hR)
          refine hp_iald hx hb hZ eV37 (hq_in (by omega) (by omega)) dX13_praise_85 ?_
          refine lv_topi (fun y41 ey42 => ?_)
          have b43 : hq_ir (hq_lo 4) (hq_hi 4) y41 := by rw [ey42]; exact hf40 _ (hq_ix (by omega) (by omega))
          have b43 : 0 ≤ (y41).toInt ∧ (y41).toInt ≤ 59 := b43
          refine lv_iadd hx hb dX13_praise_86 ?_
          refine lv_topi (fun y44 ey45 => ?_)
          obtain ⟨k46, hk47, b48, b49⟩ := hq_add (y18) (y41)
          rw [← ey45] at hk47 b48 b49
          have hk47 : (y44).toInt = (y18).toInt + (y41).toInt + k46 * 4294967296 := hk47
          obtain rfl : k46 = 0 := by omega
          refine lv_istore (lv' := [(5, .int (y44)), (4, .int (ag)), (3, .int (i)), (0, .ref (mo)), (1, .int (k)), (2, .int (k1))]) hx hb dX13_praise_87 hl (by decide) rfl (fun ls hl => ?_)
          refine lv_iload hx hb dX13_praise_89 (lv_at hl 1 rfl) ?_
          refine lv_if_ne (tgt := 114) hx hb dX13_praise_91 (by decide) (fun c50 => ?_) (fun c50 => ?_)
          · have c50 : ¬ (ag).toInt = (0 : Int) := fun h9 => c50 (hq_eqi.mpr h9)
            obtain ⟨y51, ey52⟩ : ∃ y : Int32, y = i + (1) := ⟨_, rfl⟩
            obtain ⟨k53, hk54, b55, b56⟩ := hq_add (i) (1)
            rw [← ey52] at hk54 b55 b56
            have hk54 : (y51).toInt = (i).toInt + (1) + k53 * 4294967296 := hk54
            refine lv_iinc (v := y51) (lv' := [(3, .int (y51)), (5, .int (y44)), (4, .int (ag)), (0, .ref (mo)), (1, .int (k)), (2, .int (k1))]) hx hb dX13_praise_114 hl (k := 2) rfl (by rw [ey52]; rfl) (by decide) rfl (fun ls hl => ?_)
            refine lv_goto (tgt := 2) hx hb dX13_praise_117 (by decide) ?_
            exact ih2 _ (by omega) _ _ _ ls (y51) rfl hZ hP (by omega) (by omega) (lv_sub hl [0, 3, 4, 5] rfl)
          · have c50 : (ag).toInt = (0 : Int) := hq_eqi.mp c50
            refine lv_aload_n hx hb dX13_praise_94 rfl (lv_at hl 3 rfl) ?_
            refine hp_get (v := .ref (q + 42)) hx hb hts hown hZ fx24 fl_X13_277 rfl dX13_praise_95 ?_
            refine lv_iload hx hb dX13_praise_98 (lv_at hl 0 rfl) ?_
            refine lv_iconst (v := 0) hx hb dX13_praise_100 (by decide) ?_
            refine lv_aload_n hx hb dX13_praise_101 rfl (lv_at hl 3 rfl) ?_
            refine hp_get (v := .ref (q + 42)) hx hb hts hown hZ fx24 fl_X13_277 rfl dX13_praise_102 ?_
            refine lv_iload hx hb dX13_praise_105 (lv_at hl 0 rfl) ?_
            obtain ⟨hN59, g58, eV57, hf60⟩ := hq_o21 hP.1 (hr_42 hR)
            refine hp_iald hx hb hZ eV57 (hq_in (by omega) (by omega)) dX13_praise_107 ?_
            refine lv_topi (fun y61 ey62 => ?_)
            have b63 := hq_rng y61
            refine lv_iconst (v := 1) hx hb dX13_praise_108 (by decide) ?_
            refine lv_isub hx hb dX13_praise_109 ?_
            refine lv_topi (fun y64 ey65 => ?_)
            obtain ⟨k66, hk67, b68, b69⟩ := hq_sub (y61) (1)
            rw [← ey65] at hk67 b68 b69
            have hk67 : (y64).toInt = (y61).toInt - (1 : Int) + k66 * 4294967296 := hk67
            refine va_mmax hx hb (hml.trans hl.1.symm) hown (hts _ lk_X13_453) (hts _ ms_max) (hts _ mi_math) (hts _ mk_max) (Nat.le_of_ble_eq_true rfl) (Nat.le_of_ble_eq_true rfl) (Nat.zero_le _) (Nat.zero_le _) dX13_praise_110 ?_
            refine lv_topi (fun y70 ey71 => ?_)
            have b72 := hq_mx (0) (y64)
            rw [← ey71] at b72
            refine hp_iast hx hb hZ eV57 (hq_in (by omega) (by omega)) dX13_praise_113 (fun V73 _ _ e74 o75 hZ => ?_)
            have e74 : V73 (q + 42) = some (.inl (cs 1, 480, .inl (upd (g58) ((y44 : Int32).toNatClampNeg) (y70)))) := e74
            have hP := hP.put (hr_42 hR) e74 o75 (hq_c21 (by omega) (hq_upd hf60 (hq_rng _))) rfl
            obtain ⟨y76, ey77⟩ : ∃ y : Int32, y = i + (1) := ⟨_, rfl⟩
            obtain ⟨k78, hk79, b80, b81⟩ := hq_add (i) (1)
            rw [← ey77] at hk79 b80 b81
            have hk79 : (y76).toInt = (i).toInt + (1) + k78 * 4294967296 := hk79
            refine lv_iinc (v := y76) (lv' := [(3, .int (y76)), (5, .int (y44)), (4, .int (ag)), (0, .ref (mo)), (1, .int (k)), (2, .int (k1))]) hx hb dX13_praise_114 hl (k := 2) rfl (by rw [ey77]; rfl) (by decide) rfl (fun ls hl => ?_)
            refine lv_goto (tgt := 2) hx hb dX13_praise_117 (by decide) ?_
            exact ih2 _ (by omega) _ _ _ ls (y76) rfl hZ hP (by omega) (by omega) (lv_sub hl [0, 3, 4, 5] rfl)
        · have c17 : ¬ (i).toInt ≤ (j).toInt := fun h9 => c17 (hq_lei.mpr h9)
          refine lv_iload hx hb dX13_praise_24 (lv_at hl 1 rfl) ?_
          refine lv_if_ne (tgt := 57) hx hb dX13_praise_26 (by decide) (fun c82 => ?_) (fun c82 => ?_)
          · have c82 : ¬ (ag).toInt = (0 : Int) := fun h9 => c82 (hq_eqi.mpr h9)
            refine lv_iconst (v := 1) hx hb dX13_praise_57 (by decide) ?_
            refine lv_goto (tgt := 62) hx hb dX13_praise_58 (by decide) ?_
            refine lv_istore (lv' := [(4, .int (1)), (5, .int (j)), (3, .int (i)), (0, .ref (mo)), (1, .int (k)), (2, .int (k1))]) hx hb dX13_praise_62 hl (by decide) rfl (fun ls hl => ?_)
            obtain ⟨y83, ey84⟩ : ∃ y : Int32, y = j + (1) := ⟨_, rfl⟩
            obtain ⟨k85, hk86, b87, b88⟩ := hq_add (j) (1)
            rw [← ey84] at hk86 b87 b88
            have hk86 : (y83).toInt = (j).toInt + (1) + k85 * 4294967296 := hk86
            refine lv_iinc (v := y83) (lv' := [(5, .int (y83)), (4, .int (1)), (3, .int (i)), (0, .ref (mo)), (1, .int (k)), (2, .int (k1))]) hx hb dX13_praise_64 hl (k := 1) rfl (by rw [ey84]; rfl) (by decide) rfl (fun ls hl => ?_)
            refine lv_goto (tgt := 18) hx hb dX13_praise_67 (by decide) ?_
            exact ih18 _ (by omega) _ _ _ ls (1) (y83) rfl hZ hP (by omega) (by omega) (lv_sub hl [0, 1, 2, 3, 4, 5] rfl)
          · have c82 : (ag).toInt = (0 : Int) := hq_eqi.mp c82
            refine lv_aload_n hx hb dX13_praise_29 rfl (lv_at hl 3 rfl) ?_
            have fx89 : V9 (mo) = some (.inr (13, hm_o q (m_tp) (m_sz) (m_fr) (m_bh) (m_hd) (m_ft) (m_fa) (m_le) (m_fo) (m_as) (m_fd) (m_bc) (m_bg) (m_bs) (m_be) (m_b0) (m_b1) (m_cm) (m_hc))) := (hP_18.2 (mo) _ h_mo rfl).trans (ho_mo)
            refine hp_get (v := .ref (q + 29)) hx hb hts hown hZ fx89 fl_X13_238 rfl dX13_praise_30 ?_
            refine lv_sipush (v := 140) hx hb dX13_praise_33 (by decide) ?_
            refine lv_iload_n hx hb dX13_praise_36 rfl (lv_at hl 5 rfl) ?_
            refine lv_imul hx hb dX13_praise_37 ?_
            refine lv_topi (fun y90 ey91 => ?_)
            obtain ⟨k92, hk93, b94, b95⟩ := hq_mul (140) (k1)
            rw [← ey91] at hk93 b94 b95
            have hk93 : (y90).toInt = (140 : Int) * (k1).toInt + k92 * 4294967296 := hk93
            obtain rfl : k92 = 0 := by omega
            refine lv_iload hx hb dX13_praise_38 (lv_at hl 0 rfl) ?_
            refine lv_iadd hx hb dX13_praise_40 ?_
            refine lv_topi (fun y96 ey97 => ?_)
            obtain ⟨k98, hk99, b100, b101⟩ := hq_add (y90) (j)
            rw [← ey97] at hk99 b100 b101
            have hk99 : (y96).toInt = (y90).toInt + (j).toInt + k98 * 4294967296 := hk99
            obtain rfl : k98 = 0 := by omega
            obtain ⟨hN104, g103, eV102, hf105⟩ := hq_o21 hP.1 (hr_29 hR)
            refine hp_iald hx hb hZ eV102 (hq_in (by omega) (by omega)) dX13_praise_41 ?_
            refine lv_topi (fun y106 ey107 => ?_)
            have b108 : hq_ir (hq_lo 4) (hq_hi 4) y106 := by rw [ey107]; exact hf105 _ (hq_ix (by omega) (by omega))
            have b108 : 0 ≤ (y106).toInt ∧ (y106).toInt ≤ 59 := b108
            refine lv_aload_n hx hb dX13_praise_42 rfl (lv_at hl 3 rfl) ?_
            refine hp_get (v := .ref (q + 29)) hx hb hts hown hZ fx89 fl_X13_238 rfl dX13_praise_43 ?_
            refine lv_sipush (v := 140) hx hb dX13_praise_46 (by decide) ?_
            refine lv_iload_n hx hb dX13_praise_49 rfl (lv_at hl 5 rfl) ?_
            refine lv_imul hx hb dX13_praise_50 ?_
            refine lv_topi (fun y109 ey110 => ?_)
            obtain ⟨k111, hk112, b113, b114⟩ := hq_mul (140) (k1)
            rw [← ey110] at hk112 b113 b114
            have hk112 : (y109).toInt = (140 : Int) * (k1).toInt + k111 * 4294967296 := hk112
            obtain rfl : k111 = 0 := by omega
            refine lv_iload_n hx hb dX13_praise_51 rfl (lv_at hl 2 rfl) ?_
            refine lv_iadd hx hb dX13_praise_52 ?_
            refine lv_topi (fun y115 ey116 => ?_)
            obtain ⟨k117, hk118, b119, b120⟩ := hq_add (y109) (i)
            rw [← ey116] at hk118 b119 b120
            have hk118 : (y115).toInt = (y109).toInt + (i).toInt + k117 * 4294967296 := hk118
            obtain rfl : k117 = 0 := by omega
            refine hp_iald hx hb hZ eV102 (hq_in (by omega) (by omega)) dX13_praise_53 ?_
            refine lv_topi (fun y121 ey122 => ?_)
            have b123 : hq_ir (hq_lo 4) (hq_hi 4) y121 := by rw [ey122]; exact hf105 _ (hq_ix (by omega) (by omega))
            have b123 : 0 ≤ (y121).toInt ∧ (y121).toInt ≤ 59 := b123
            refine lv_icmp_ne (tgt := 61) hx hb dX13_praise_54 (by decide) (fun c124 => ?_) (fun c124 => ?_)
            · have c124 : ¬ (y106).toInt = (y121).toInt := fun h9 => c124 (hq_eqi.mpr h9)
              refine lv_iconst (v := 0) hx hb dX13_praise_61 (by decide) ?_
              refine lv_istore (lv' := [(4, .int (0)), (5, .int (j)), (3, .int (i)), (0, .ref (mo)), (1, .int (k)), (2, .int (k1))]) hx hb dX13_praise_62 hl (by decide) rfl (fun ls hl => ?_)
              obtain ⟨y125, ey126⟩ : ∃ y : Int32, y = j + (1) := ⟨_, rfl⟩
              obtain ⟨k127, hk128, b129, b130⟩ := hq_add (j) (1)
              rw [← ey126] at hk128 b129 b130
              have hk128 : (y125).toInt = (j).toInt + (1) + k127 * 4294967296 := hk128
              refine lv_iinc (v := y125) (lv' := [(5, .int (y125)), (4, .int (0)), (3, .int (i)), (0, .ref (mo)), (1, .int (k)), (2, .int (k1))]) hx hb dX13_praise_64 hl (k := 1) rfl (by rw [ey126]; rfl) (by decide) rfl (fun ls hl => ?_)
              refine lv_goto (tgt := 18) hx hb dX13_praise_67 (by decide) ?_
              exact ih18 _ (by omega) _ _ _ ls (0) (y125) rfl hZ hP (by omega) (by omega) (lv_sub hl [0, 1, 2, 3, 4, 5] rfl)
            · have c124 : (y106).toInt = (y121).toInt := hq_eqi.mp c124
              refine lv_iconst (v := 1) hx hb dX13_praise_57 (by decide) ?_
              refine lv_goto (tgt := 62) hx hb dX13_praise_58 (by decide) ?_
              refine lv_istore (lv' := [(4, .int (1)), (5, .int (j)), (3, .int (i)), (0, .ref (mo)), (1, .int (k)), (2, .int (k1))]) hx hb dX13_praise_62 hl (by decide) rfl (fun ls hl => ?_)
              obtain ⟨y131, ey132⟩ : ∃ y : Int32, y = j + (1) := ⟨_, rfl⟩
              obtain ⟨k133, hk134, b135, b136⟩ := hq_add (j) (1)
              rw [← ey132] at hk134 b135 b136
              have hk134 : (y131).toInt = (j).toInt + (1) + k133 * 4294967296 := hk134
              refine lv_iinc (v := y131) (lv' := [(5, .int (y131)), (4, .int (1)), (3, .int (i)), (0, .ref (mo)), (1, .int (k)), (2, .int (k1))]) hx hb dX13_praise_64 hl (k := 1) rfl (by rw [ey132]; rfl) (by decide) rfl (fun ls hl => ?_)
              refine lv_goto (tgt := 18) hx hb dX13_praise_67 (by decide) ?_
              exact ih18 _ (by omega) _ _ _ ls (1) (y131) rfl hZ hP (by omega) (by omega) (lv_sub hl [0, 1, 2, 3, 4, 5] rfl)

set_option maxHeartbeats 4000000 in
set_option maxRecDepth 100000 in
theorem t_X13_weight (l : Launch) (D : va_G) (cs : Nat → ClassId) (B : Nat) (G : hq_G) (V : hp_V) (n : Nat) (hI : hq_I cs G V) (q : Nat) (hR : hq_RT G q) (mo : Nat) (h_mo : G mo = some (24, 0, 0, 0)) (k : Int32) (v : Int32) (te : Int32) (pe : Int32) {m_tp m_sz m_fr m_bh m_hd m_ft m_fa m_le m_fo m_as m_fd m_bc m_bg m_bs m_be m_b0 m_b1 m_cm m_hc : Int32} (ho_mo : V mo = some (.inr (13, hm_o q (m_tp) (m_sz) (m_fr) (m_bh) (m_hd) (m_ft) (m_fa) (m_le) (m_fo) (m_as) (m_fd) (m_bc) (m_bg) (m_bs) (m_be) (m_b0) (m_b1) (m_cm) (m_hc)))) (hi_mo0 : 0 ≤ m_tp.toInt ∧ m_tp.toInt ≤ 4000) (hi_mo1 : 0 ≤ m_sz.toInt ∧ m_sz.toInt ≤ 4000) (hi_mo2 : 0 ≤ m_le.toInt ∧ m_le.toInt ≤ 276) (hi_mo3 : 0 ≤ m_fo.toInt ∧ m_fo.toInt ≤ 4) (hi_mo4 : 0 ≤ m_as.toInt ∧ m_as.toInt ≤ 4000) (hi_mo5 : 0 ≤ m_fd.toInt ∧ m_fd.toInt ≤ 900) (hi_mo6 : 0 ≤ m_cm.toInt ∧ m_cm.toInt ≤ 2) (hi_mo7 : 0 ≤ m_hc.toInt ∧ m_hc.toInt ≤ 1) (hk0 : 0 ≤ k.toInt) (hk1 : k.toInt < 8) (hv0 : 0 ≤ v.toInt) (hv1 : v.toInt < 30) (hH : hm_VQ cs V q 0 0) : hp_M l yX13_weight cX13_weight 9 (some .int) ({ frames := 6, cells := 0, slots := 0, locals := 150 }) D cs B V n [.ref (mo), .int (k), .int (v), .int (te), .int (pe)] (hp_QI D cs B (fun r V' n' => n = n' ∧ hq_P cs G (fun g => g.1 == 1 || g.1 == 43 || g.1 == 44 || g.1 == 45) V V' ∧ (∃ (m_fo1 : Int32) (m_le1 : Int32), V' mo = some (.inr (13, hm_o q (m_tp) (m_sz) (m_fr) (m_bh) (m_hd) (m_ft) (m_fa) (m_le1) (m_fo1) (m_as) (m_fd) (m_bc) (m_bg) (m_bs) (m_be) (m_b0) (m_b1) (m_cm) (m_hc))) ∧ (0 ≤ m_le1.toInt ∧ m_le1.toInt ≤ 276) ∧ (0 ≤ m_fo1.toInt ∧ m_fo1.toInt ≤ 4)) ∧ True)) 0 0 := by
  refine hp_walk (R0 := RX13) (by decide) rfl ?_ (Nat.le_of_ble_eq_true rfl)
  intro p e s m below meth c ls hx hb hr hts hown hlocks hin hml hZ hl
  have hP : hq_P cs G (fun g => g.1 == 1 || g.1 == 43 || g.1 == 44 || g.1 == 45) V V := hq_P.rf hI
  have hl : lv_has ls 9 [(0, .ref (mo)), (1, .int (k)), (2, .int (v)), (3, .int (te)), (4, .int (pe))] := hl
  have hb_k := hq_rng k
  have hb_v := hq_rng v
  have hb_te := hq_rng te
  have hb_pe := hq_rng pe
  have hb_m_tp := hq_rng m_tp
  have hb_m_sz := hq_rng m_sz
  have hb_m_fr := hq_rng m_fr
  have hb_m_bh := hq_rng m_bh
  have hb_m_hd := hq_rng m_hd
  have hb_m_ft := hq_rng m_ft
  have hb_m_fa := hq_rng m_fa
  have hb_m_le := hq_rng m_le
  have hb_m_fo := hq_rng m_fo
  have hb_m_as := hq_rng m_as
  have hb_m_fd := hq_rng m_fd
  have hb_m_bc := hq_rng m_bc
  have hb_m_bg := hq_rng m_bg
  have hb_m_bs := hq_rng m_bs
  have hb_m_be := hq_rng m_be
  have hb_m_b0 := hq_rng m_b0
  have hb_m_b1 := hq_rng m_b1
  have hb_m_cm := hq_rng m_cm
  have hb_m_hc := hq_rng m_hc
  refine lv_aload_n hx hb dX13_weight_0 rfl (lv_at hl 0 rfl) ?_
  refine lv_iload_n hx hb dX13_weight_1 rfl (lv_at hl 2 rfl) ?_
  refine lv_iload_n hx hb dX13_weight_2 rfl (lv_at hl 3 rfl) ?_
  refine lv_iload hx hb dX13_weight_3 (lv_at hl 4 rfl) ?_
  obtain ⟨hN14, g13, eV12, hf15⟩ := hq_o21 hP.1 (hr_14 hR)
  obtain ⟨hN19, g18, eV17, hf20⟩ := hq_o21 hP.1 (hr_15 hR)
  obtain ⟨hN24, g23, eV22, hf25⟩ := hq_o21 hP.1 (hr_10 hR)
  obtain ⟨hN29, g28, eV27, hf30⟩ := hq_o21 hP.1 (hr_2 hR)
  refine hp_callv (hp_runV (As := [.int (v), .int (te), .int (pe)]) (rest := []) hx hb hml hown hts (t_X13_all l D cs B G  V n hP.1 q hR (mo) h_mo (v) (te) (pe) ho_mo  (by omega) (by omega) (by omega) (by omega) (by omega) (by omega) (by omega) (by omega) eV12 eV17 eV22 eV27 (by omega) (by omega) (hH.keep hR (fun x t hx hg => hP.2 x t hx (by simp [hg])))) hZ ho_mo cv_X13_384 rfl rfl ⟨Nat.le_of_ble_eq_true rfl, Nat.le_of_ble_eq_true rfl⟩ rfl hl.1 rfl (Nat.le_of_ble_eq_true rfl) dX13_weight_5 ⟨(Nat.le_of_ble_eq_true rfl), (Nat.le_of_ble_eq_true rfl)⟩) hZ (fun V1 n2 _ _ hw3 hZ => ?_)
  obtain ⟨rfl, hq5, ⟨z7, z8, ho9, hi10, hi11⟩, ho16, ho21, ho26, ho31⟩ := hw3
  have hP := hP.trans hq5 (by intro g h; simp_all)
  have b32 := hq_rng z8
  have b33 := hq_rng z7
  refine lv_aload_n hx hb dX13_weight_8 rfl (lv_at hl 0 rfl) ?_
  refine hp_get (v := .int (z7)) hx hb hts hown hZ ho9 fl_X13_344 rfl dX13_weight_9 ?_
  refine lv_if_ne (tgt := 17) hx hb dX13_weight_12 (by decide) (fun c34 => ?_) (fun c34 => ?_)
  · have c34 : ¬ (z7).toInt = (0 : Int) := fun h9 => c34 (hq_eqi.mpr h9)
    refine lv_iconst (v := 0) hx hb dX13_weight_17 (by decide) ?_
    refine lv_istore (lv' := [(5, .int (0)), (0, .ref (mo)), (1, .int (k)), (2, .int (v)), (3, .int (te)), (4, .int (pe))]) hx hb dX13_weight_18 hl (by decide) rfl (fun ls hl => ?_)
    refine lv_iconst (v := 0) hx hb dX13_weight_20 (by decide) ?_
    refine lv_istore (lv' := [(6, .int (0)), (5, .int (0)), (0, .ref (mo)), (1, .int (k)), (2, .int (v)), (3, .int (te)), (4, .int (pe))]) hx hb dX13_weight_21 hl (by decide) rfl (fun ls hl => ?_)
    have hl35 : (0 : Int32).toInt = 0 := by decide
    have hl36 : (0 : Int32).toInt = 0 := by decide
    suffices lp23 : ∀ (k9 : Nat) (V9 : hp_V) (H9 : Heap) (locs9 : List Loc) (ls : Array Slot) (no : Int32) (i : Int32), (200 - i.toInt).toNat = k9 → hp_Z D cs B s V9 H9 n locs9 → hq_P cs G (fun g => g.1 == 1 || g.1 == 43 || g.1 == 44 || g.1 == 45) V V9 → V9 (mo) = some (.inr (13, hm_o q (m_tp) (m_sz) (m_fr) (m_bh) (m_hd) (m_ft) (m_fa) (z8) (z7) (m_as) (m_fd) (m_bc) (m_bg) (m_bs) (m_be) (m_b0) (m_b1) (m_cm) (m_hc))) → 0 ≤ i.toInt → i.toInt ≤ 140 → lv_has ls 9 [(6, .int (i)), (5, .int (no)), (0, .ref (mo)), (1, .int (k)), (2, .int (v)), (3, .int (te)), (4, .int (pe))] → W p l e ({ frames := 6, cells := 0, slots := 0, locals := 150 }) s m ([.ref (mo), .int (k), .int (v), .int (te), .int (pe)] : List Value).toArray below meth c H9 locs9 0 0 (MQ below (hp_QI D cs B (fun r V' n' => n = n' ∧ hq_P cs G (fun g => g.1 == 1 || g.1 == 43 || g.1 == 44 || g.1 == 45) V V' ∧ (∃ (m_fo1 : Int32) (m_le1 : Int32), V' mo = some (.inr (13, hm_o q (m_tp) (m_sz) (m_fr) (m_bh) (m_hd) (m_ft) (m_fa) (m_le1) (m_fo1) (m_as) (m_fd) (m_bc) (m_bg) (m_bs) (m_be) (m_b0) (m_b1) (m_cm) (m_hc))) ∧ (0 ≤ m_le1.toInt ∧ m_le1.toInt ≤ 276) ∧ (0 ≤ m_fo1.toInt ∧ m_fo1.toInt ≤ 4)) ∧ True)) ([.ref (mo), .int (k), .int (v), .int (te), .int (pe)] : List Value).toArray s 0 0 (hp_F B)) (F0 m 23 ls []) from lp23 _ _ _ _ ls (0) (0) rfl hZ hP ho9 (by omega) (by omega) (lv_sub hl [0, 1, 2, 3, 4, 5, 6] rfl)
    intro k9
    induction k9 using Nat.strongRecOn with
    | _ k9 ih23 =>
      intro V9 H9 locs9 ls no i  hk23 hZ hP ho37 hv38 hv39 hl
      have hb_no := hq_rng no
      have hb_i := hq_rng i
      have hP_23 := hP
      refine lv_iload hx hb dX13_weight_23 (lv_at hl 0 rfl) ?_
      refine lv_aload_n hx hb dX13_weight_25 rfl (lv_at hl 2 rfl) ?_
      refine hp_get (v := .ref (q + 30)) hx hb hts hown hZ ho37 fl_X13_241 rfl dX13_weight_26 ?_
      refine lv_iconst (v := 0) hx hb dX13_weight_29 (by decide) ?_
      obtain ⟨hN42, g41, eV40, hf43⟩ := hq_o21 hP.1 (hr_30 hR)
      refine hp_iald hx hb hZ eV40 (by unfold vp_in; decide) dX13_weight_30 ?_
      refine lv_topi (fun y44 ey45 => ?_)
      have b46 : hq_ir (hq_lo 7) (hq_hi 7) y44 := by rw [ey45]; exact hf43 _ (by decide)
      have b46 : 0 ≤ (y44).toInt ∧ (y44).toInt ≤ 140 := b46
      refine lv_icmp_ge (tgt := 119) hx hb dX13_weight_31 (by decide) (fun c47 => ?_) (fun c47 => ?_)
      · have c47 : (y44).toInt ≤ (i).toInt := hq_lei.mp c47
        refine lv_iload hx hb dX13_weight_119 (lv_at hl 1 rfl) ?_
        exact hp_iret hx hb hr hlocks hZ ⟨rfl, hP, ⟨z7, z8, ho37, by omega, by omega⟩, trivial⟩ dX13_weight_121
      · have c47 : ¬ (y44).toInt ≤ (i).toInt := fun h9 => c47 (hq_lei.mpr h9)
        refine lv_iconst (v := 0) hx hb dX13_weight_34 (by decide) ?_
        refine lv_istore (lv' := [(7, .int (0)), (6, .int (i)), (5, .int (no)), (0, .ref (mo)), (1, .int (k)), (2, .int (v)), (3, .int (te)), (4, .int (pe))]) hx hb dX13_weight_35 hl (by decide) rfl (fun ls hl => ?_)
        refine lv_iconst (v := 0) hx hb dX13_weight_37 (by decide) ?_
        refine lv_istore (lv' := [(8, .int (0)), (7, .int (0)), (6, .int (i)), (5, .int (no)), (0, .ref (mo)), (1, .int (k)), (2, .int (v)), (3, .int (te)), (4, .int (pe))]) hx hb dX13_weight_38 hl (by decide) rfl (fun ls hl => ?_)
        have hl48 : (0 : Int32).toInt = 0 := by decide
        have hl49 : (0 : Int32).toInt = 0 := by decide
        suffices lp40 : ∀ (k9 : Nat) (V9 : hp_V) (H9 : Heap) (locs9 : List Loc) (ls : Array Slot) (ag : Int32) (j : Int32), (200 - j.toInt).toNat = k9 → hp_Z D cs B s V9 H9 n locs9 → hq_P cs G (fun g => g.1 == 1 || g.1 == 43 || g.1 == 44 || g.1 == 45) V V9 → V9 (mo) = some (.inr (13, hm_o q (m_tp) (m_sz) (m_fr) (m_bh) (m_hd) (m_ft) (m_fa) (z8) (z7) (m_as) (m_fd) (m_bc) (m_bg) (m_bs) (m_be) (m_b0) (m_b1) (m_cm) (m_hc))) → 0 ≤ j.toInt → j.toInt ≤ 140 → lv_has ls 9 [(8, .int (j)), (7, .int (ag)), (6, .int (i)), (5, .int (no)), (0, .ref (mo)), (1, .int (k)), (2, .int (v)), (3, .int (te)), (4, .int (pe))] → W p l e ({ frames := 6, cells := 0, slots := 0, locals := 150 }) s m ([.ref (mo), .int (k), .int (v), .int (te), .int (pe)] : List Value).toArray below meth c H9 locs9 0 0 (MQ below (hp_QI D cs B (fun r V' n' => n = n' ∧ hq_P cs G (fun g => g.1 == 1 || g.1 == 43 || g.1 == 44 || g.1 == 45) V V' ∧ (∃ (m_fo1 : Int32) (m_le1 : Int32), V' mo = some (.inr (13, hm_o q (m_tp) (m_sz) (m_fr) (m_bh) (m_hd) (m_ft) (m_fa) (m_le1) (m_fo1) (m_as) (m_fd) (m_bc) (m_bg) (m_bs) (m_be) (m_b0) (m_b1) (m_cm) (m_hc))) ∧ (0 ≤ m_le1.toInt ∧ m_le1.toInt ≤ 276) ∧ (0 ≤ m_fo1.toInt ∧ m_fo1.toInt ≤ 4)) ∧ True)) ([.ref (mo), .int (k), .int (v), .int (te), .int (pe)] : List Value).toArray s 0 0 (hp_F B)) (F0 m 40 ls []) from lp40 _ _ _ _ ls (0) (0) rfl hZ hP ho37 (by omega) (by omega) (lv_sub hl [0, 1, 2, 3, 4, 5, 6, 7, 8] rfl)
        intro k9
        induction k9 using Nat.strongRecOn with
        | _ k9 ih40 =>
          intro V9 H9 locs9 ls ag j  hk40 hZ hP ho50 hv51 hv52 hl
          have hb_ag := hq_rng ag
          have hb_j := hq_rng j
          have hP_40 := hP
          refine lv_iload hx hb dX13_weight_40 (lv_at hl 0 rfl) ?_
          refine lv_iload hx hb dX13_weight_42 (lv_at hl 2 rfl) ?_
          refine lv_icmp_ge (tgt := 82) hx hb dX13_weight_44 (by decide) (fun c53 => ?_) (fun c53 => ?_)
          · have c53 : (i).toInt ≤ (j).toInt := hq_lei.mp c53
            refine lv_iload hx hb dX13_weight_82 (lv_at hl 3 rfl) ?_
            refine lv_iload hx hb dX13_weight_84 (lv_at hl 1 rfl) ?_
            refine lv_if_eq (tgt := 93) hx hb dX13_weight_86 (by decide) (fun c54 => ?_) (fun c54 => ?_)
            · have c54 : (ag).toInt = (0 : Int) := hq_eqi.mp c54
              refine lv_aload_n hx hb dX13_weight_93 rfl (lv_at hl 4 rfl) ?_
              refine hp_get (v := .ref (q + 42)) hx hb hts hown hZ ho50 fl_X13_277 rfl dX13_weight_94 ?_
              refine lv_bipush (v := 60) hx hb dX13_weight_97 (by decide) ?_
              refine lv_iload_n hx hb dX13_weight_99 rfl (lv_at hl 5 rfl) ?_
              refine lv_imul hx hb dX13_weight_100 ?_
              refine lv_topi (fun y55 ey56 => ?_)
              obtain ⟨k57, hk58, b59, b60⟩ := hq_mul (60) (k)
              rw [← ey56] at hk58 b59 b60
              have hk58 : (y55).toInt = (60 : Int) * (k).toInt + k57 * 4294967296 := hk58
              obtain rfl : k57 = 0 := by omega
              refine lv_aload_n hx hb dX13_weight_101 rfl (lv_at hl 4 rfl) ?_
              refine hp_get (v := .ref (q + 29)) hx hb hts hown hZ ho50 fl_X13_238 rfl dX13_weight_102 ?_
              refine lv_iload hx hb dX13_weight_105 (lv_at hl 2 rfl) ?_
              obtain ⟨hN63, g62, eV61, hf64⟩ := hq_o21 hP.1 (hr_29 hR)
              refine hp_iald hx hb hZ eV61 (hq_in (by omega) (by omega)) dX13_weight_107 ?_
              refine lv_topi (fun y65 ey66 => ?_)
              have b67 : hq_ir (hq_lo 4) (hq_hi 4) y65 := by rw [ey66]; exact hf64 _ (hq_ix (by omega) (by omega))
              have b67 : 0 ≤ (y65).toInt ∧ (y65).toInt ≤ 59 := b67
              refine lv_iadd hx hb dX13_weight_108 ?_
              refine lv_topi (fun y68 ey69 => ?_)
              obtain ⟨k70, hk71, b72, b73⟩ := hq_add (y55) (y65)
              rw [← ey69] at hk71 b72 b73
              have hk71 : (y68).toInt = (y55).toInt + (y65).toInt + k70 * 4294967296 := hk71
              obtain rfl : k70 = 0 := by omega
              obtain ⟨hN76, g75, eV74, hf77⟩ := hq_o21 hP.1 (hr_42 hR)
              refine hp_iald hx hb hZ eV74 (hq_in (by omega) (by omega)) dX13_weight_109 ?_
              refine lv_topi (fun y78 ey79 => ?_)
              have b80 := hq_rng y78
              refine lv_iadd hx hb dX13_weight_110 ?_
              refine lv_topi (fun y81 ey82 => ?_)
              obtain ⟨k83, hk84, b85, b86⟩ := hq_add (no) (y78)
              rw [← ey82] at hk84 b85 b86
              have hk84 : (y81).toInt = (no).toInt + (y78).toInt + k83 * 4294967296 := hk84
              refine lv_istore (lv' := [(5, .int (y81)), (8, .int (j)), (7, .int (ag)), (6, .int (i)), (0, .ref (mo)), (1, .int (k)), (2, .int (v)), (3, .int (te)), (4, .int (pe))]) hx hb dX13_weight_111 hl (by decide) rfl (fun ls hl => ?_)
              obtain ⟨y87, ey88⟩ : ∃ y : Int32, y = i + (1) := ⟨_, rfl⟩
              obtain ⟨k89, hk90, b91, b92⟩ := hq_add (i) (1)
              rw [← ey88] at hk90 b91 b92
              have hk90 : (y87).toInt = (i).toInt + (1) + k89 * 4294967296 := hk90
              refine lv_iinc (v := y87) (lv' := [(6, .int (y87)), (5, .int (y81)), (8, .int (j)), (7, .int (ag)), (0, .ref (mo)), (1, .int (k)), (2, .int (v)), (3, .int (te)), (4, .int (pe))]) hx hb dX13_weight_113 hl (k := 3) rfl (by rw [ey88]; rfl) (by decide) rfl (fun ls hl => ?_)
              refine lv_goto (tgt := 23) hx hb dX13_weight_116 (by decide) ?_
              exact ih23 _ (by omega) _ _ _ ls (y81) (y87) rfl hZ hP ho50 (by omega) (by omega) (lv_sub hl [0, 1, 4, 5, 6, 7, 8] rfl)
            · have c54 : ¬ (ag).toInt = (0 : Int) := fun h9 => c54 (hq_eqi.mpr h9)
              refine lv_iconst (v := 0) hx hb dX13_weight_89 (by decide) ?_
              refine lv_goto (tgt := 110) hx hb dX13_weight_90 (by decide) ?_
              refine lv_iadd hx hb dX13_weight_110 ?_
              refine lv_topi (fun y93 ey94 => ?_)
              obtain ⟨k95, hk96, b97, b98⟩ := hq_add (no) (0)
              rw [← ey94] at hk96 b97 b98
              have hk96 : (y93).toInt = (no).toInt + (0 : Int) + k95 * 4294967296 := hk96
              refine lv_istore (lv' := [(5, .int (y93)), (8, .int (j)), (7, .int (ag)), (6, .int (i)), (0, .ref (mo)), (1, .int (k)), (2, .int (v)), (3, .int (te)), (4, .int (pe))]) hx hb dX13_weight_111 hl (by decide) rfl (fun ls hl => ?_)
              obtain ⟨y99, ey100⟩ : ∃ y : Int32, y = i + (1) := ⟨_, rfl⟩
              obtain ⟨k101, hk102, b103, b104⟩ := hq_add (i) (1)
              rw [← ey100] at hk102 b103 b104
              have hk102 : (y99).toInt = (i).toInt + (1) + k101 * 4294967296 := hk102
              refine lv_iinc (v := y99) (lv' := [(6, .int (y99)), (5, .int (y93)), (8, .int (j)), (7, .int (ag)), (0, .ref (mo)), (1, .int (k)), (2, .int (v)), (3, .int (te)), (4, .int (pe))]) hx hb dX13_weight_113 hl (k := 3) rfl (by rw [ey100]; rfl) (by decide) rfl (fun ls hl => ?_)
              refine lv_goto (tgt := 23) hx hb dX13_weight_116 (by decide) ?_
              exact ih23 _ (by omega) _ _ _ ls (y93) (y99) rfl hZ hP ho50 (by omega) (by omega) (lv_sub hl [0, 1, 4, 5, 6, 7, 8] rfl)
          · have c53 : ¬ (i).toInt ≤ (j).toInt := fun h9 => c53 (hq_lei.mpr h9)
            refine lv_iload hx hb dX13_weight_47 (lv_at hl 1 rfl) ?_
            refine lv_if_ne (tgt := 69) hx hb dX13_weight_49 (by decide) (fun c105 => ?_) (fun c105 => ?_)
            · have c105 : ¬ (ag).toInt = (0 : Int) := fun h9 => c105 (hq_eqi.mpr h9)
              refine lv_iconst (v := 1) hx hb dX13_weight_69 (by decide) ?_
              refine lv_goto (tgt := 74) hx hb dX13_weight_70 (by decide) ?_
              refine lv_istore (lv' := [(7, .int (1)), (8, .int (j)), (6, .int (i)), (5, .int (no)), (0, .ref (mo)), (1, .int (k)), (2, .int (v)), (3, .int (te)), (4, .int (pe))]) hx hb dX13_weight_74 hl (by decide) rfl (fun ls hl => ?_)
              obtain ⟨y106, ey107⟩ : ∃ y : Int32, y = j + (1) := ⟨_, rfl⟩
              obtain ⟨k108, hk109, b110, b111⟩ := hq_add (j) (1)
              rw [← ey107] at hk109 b110 b111
              have hk109 : (y106).toInt = (j).toInt + (1) + k108 * 4294967296 := hk109
              refine lv_iinc (v := y106) (lv' := [(8, .int (y106)), (7, .int (1)), (6, .int (i)), (5, .int (no)), (0, .ref (mo)), (1, .int (k)), (2, .int (v)), (3, .int (te)), (4, .int (pe))]) hx hb dX13_weight_76 hl (k := 1) rfl (by rw [ey107]; rfl) (by decide) rfl (fun ls hl => ?_)
              refine lv_goto (tgt := 40) hx hb dX13_weight_79 (by decide) ?_
              exact ih40 _ (by omega) _ _ _ ls (1) (y106) rfl hZ hP ho50 (by omega) (by omega) (lv_sub hl [0, 1, 2, 3, 4, 5, 6, 7, 8] rfl)
            · have c105 : (ag).toInt = (0 : Int) := hq_eqi.mp c105
              refine lv_aload_n hx hb dX13_weight_52 rfl (lv_at hl 4 rfl) ?_
              refine hp_get (v := .ref (q + 29)) hx hb hts hown hZ ho50 fl_X13_238 rfl dX13_weight_53 ?_
              refine lv_iload hx hb dX13_weight_56 (lv_at hl 0 rfl) ?_
              obtain ⟨hN114, g113, eV112, hf115⟩ := hq_o21 hP.1 (hr_29 hR)
              refine hp_iald hx hb hZ eV112 (hq_in (by omega) (by omega)) dX13_weight_58 ?_
              refine lv_topi (fun y116 ey117 => ?_)
              have b118 : hq_ir (hq_lo 4) (hq_hi 4) y116 := by rw [ey117]; exact hf115 _ (hq_ix (by omega) (by omega))
              have b118 : 0 ≤ (y116).toInt ∧ (y116).toInt ≤ 59 := b118
              refine lv_aload_n hx hb dX13_weight_59 rfl (lv_at hl 4 rfl) ?_
              refine hp_get (v := .ref (q + 29)) hx hb hts hown hZ ho50 fl_X13_238 rfl dX13_weight_60 ?_
              refine lv_iload hx hb dX13_weight_63 (lv_at hl 2 rfl) ?_
              refine hp_iald hx hb hZ eV112 (hq_in (by omega) (by omega)) dX13_weight_65 ?_
              refine lv_topi (fun y119 ey120 => ?_)
              have b121 : hq_ir (hq_lo 4) (hq_hi 4) y119 := by rw [ey120]; exact hf115 _ (hq_ix (by omega) (by omega))
              have b121 : 0 ≤ (y119).toInt ∧ (y119).toInt ≤ 59 := b121
              refine lv_icmp_ne (tgt := 73) hx hb dX13_weight_66 (by decide) (fun c122 => ?_) (fun c122 => ?_)
              · have c122 : ¬ (y116).toInt = (y119).toInt := fun h9 => c122 (hq_eqi.mpr h9)
                refine lv_iconst (v := 0) hx hb dX13_weight_73 (by decide) ?_
                refine lv_istore (lv' := [(7, .int (0)), (8, .int (j)), (6, .int (i)), (5, .int (no)), (0, .ref (mo)), (1, .int (k)), (2, .int (v)), (3, .int (te)), (4, .int (pe))]) hx hb dX13_weight_74 hl (by decide) rfl (fun ls hl => ?_)
                obtain ⟨y123, ey124⟩ : ∃ y : Int32, y = j + (1) := ⟨_, rfl⟩
                obtain ⟨k125, hk126, b127, b128⟩ := hq_add (j) (1)
                rw [← ey124] at hk126 b127 b128
                have hk126 : (y123).toInt = (j).toInt + (1) + k125 * 4294967296 := hk126
                refine lv_iinc (v := y123) (lv' := [(8, .int (y123)), (7, .int (0)), (6, .int (i)), (5, .int (no)), (0, .ref (mo)), (1, .int (k)), (2, .int (v)), (3, .int (te)), (4, .int (pe))]) hx hb dX13_weight_76 hl (k := 1) rfl (by rw [ey124]; rfl) (by decide) rfl (fun ls hl => ?_)
                refine lv_goto (tgt := 40) hx hb dX13_weight_79 (by decide) ?_
                exact ih40 _ (by omega) _ _ _ ls (0) (y123) rfl hZ hP ho50 (by omega) (by omega) (lv_sub hl [0, 1, 2, 3, 4, 5, 6, 7, 8] rfl)
              · have c122 : (y116).toInt = (y119).toInt := hq_eqi.mp c122
                refine lv_iconst (v := 1) hx hb dX13_weight_69 (by decide) ?_
                refine lv_goto (tgt := 74) hx hb dX13_weight_70 (by decide) ?_
                refine lv_istore (lv' := [(7, .int (1)), (8, .int (j)), (6, .int (i)), (5, .int (no)), (0, .ref (mo)), (1, .int (k)), (2, .int (v)), (3, .int (te)), (4, .int (pe))]) hx hb dX13_weight_74 hl (by decide) rfl (fun ls hl => ?_)
                obtain ⟨y129, ey130⟩ : ∃ y : Int32, y = j + (1) := ⟨_, rfl⟩
                obtain ⟨k131, hk132, b133, b134⟩ := hq_add (j) (1)
                rw [← ey130] at hk132 b133 b134
                have hk132 : (y129).toInt = (j).toInt + (1) + k131 * 4294967296 := hk132
                refine lv_iinc (v := y129) (lv' := [(8, .int (y129)), (7, .int (1)), (6, .int (i)), (5, .int (no)), (0, .ref (mo)), (1, .int (k)), (2, .int (v)), (3, .int (te)), (4, .int (pe))]) hx hb dX13_weight_76 hl (k := 1) rfl (by rw [ey130]; rfl) (by decide) rfl (fun ls hl => ?_)
                refine lv_goto (tgt := 40) hx hb dX13_weight_79 (by decide) ?_
                exact ih40 _ (by omega) _ _ _ ls (1) (y129) rfl hZ hP ho50 (by omega) (by omega) (lv_sub hl [0, 1, 2, 3, 4, 5, 6, 7, 8] rfl)
  · have c34 : (z7).toInt = (0 : Int) := hq_eqi.mp c34
    refine lv_iconst (v := -1) hx hb dX13_weight_15 (by decide) ?_
    exact hp_iret hx hb hr hlocks hZ ⟨rfl, hP, ⟨z7, z8, ho9, by omega, by omega⟩, trivial⟩ dX13_weight_16

set_option maxHeartbeats 4000000 in
set_option maxRecDepth 100000 in
theorem t_X13_drill (l : Launch) (D : va_G) (cs : Nat → ClassId) (B : Nat) (G : hq_G) (V : hp_V) (n : Nat) (hI : hq_I cs G V) (q : Nat) (hR : hq_RT G q) (mo : Nat) (h_mo : G mo = some (24, 0, 0, 0)) (k : Int32) {m_tp m_sz m_fr m_bh m_hd m_ft m_fa m_le m_fo m_as m_fd m_bc m_bg m_bs m_be m_b0 m_b1 m_cm m_hc : Int32} (ho_mo : V mo = some (.inr (13, hm_o q (m_tp) (m_sz) (m_fr) (m_bh) (m_hd) (m_ft) (m_fa) (m_le) (m_fo) (m_as) (m_fd) (m_bc) (m_bg) (m_bs) (m_be) (m_b0) (m_b1) (m_cm) (m_hc)))) (hi_mo0 : 0 ≤ m_tp.toInt ∧ m_tp.toInt ≤ 4000) (hi_mo1 : 0 ≤ m_sz.toInt ∧ m_sz.toInt ≤ 4000) (hi_mo2 : 0 ≤ m_le.toInt ∧ m_le.toInt ≤ 276) (hi_mo3 : 0 ≤ m_fo.toInt ∧ m_fo.toInt ≤ 4) (hi_mo4 : 0 ≤ m_as.toInt ∧ m_as.toInt ≤ 4000) (hi_mo5 : 0 ≤ m_fd.toInt ∧ m_fd.toInt ≤ 900) (hi_mo6 : 0 ≤ m_cm.toInt ∧ m_cm.toInt ≤ 2) (hi_mo7 : 0 ≤ m_hc.toInt ∧ m_hc.toInt ≤ 1) (hH : hm_VQ cs V q 0 0) : hp_M l yX13_drill cX13_drill 9 (some .int) ({ frames := 7, cells := 0, slots := 0, locals := 178 }) D cs B V n [.ref (mo), .int (k)] (hp_QI D cs B (fun r V' n' => n = n' ∧ hq_P cs G (fun g => g.1 == 1 || g.1 == 43 || g.1 == 44 || g.1 == 45) V V' ∧ (∃ (m_fo1 : Int32) (m_le1 : Int32), V' mo = some (.inr (13, hm_o q (m_tp) (m_sz) (m_fr) (m_bh) (m_hd) (m_ft) (m_fa) (m_le1) (m_fo1) (m_as) (m_fd) (m_bc) (m_bg) (m_bs) (m_be) (m_b0) (m_b1) (m_cm) (m_hc))) ∧ (0 ≤ m_le1.toInt ∧ m_le1.toInt ≤ 276) ∧ (0 ≤ m_fo1.toInt ∧ m_fo1.toInt ≤ 4)) ∧ True)) 0 0 := by
  refine hp_walk (R0 := RX13) (by decide) rfl ?_ (Nat.le_of_ble_eq_true rfl)
  intro p e s m below meth c ls hx hb hr hts hown hlocks hin hml hZ hl
  have hP : hq_P cs G (fun g => g.1 == 1 || g.1 == 43 || g.1 == 44 || g.1 == 45) V V := hq_P.rf hI
  have hl : lv_has ls 9 [(0, .ref (mo)), (1, .int (k))] := hl
  have hb_k := hq_rng k
  have hb_m_tp := hq_rng m_tp
  have hb_m_sz := hq_rng m_sz
  have hb_m_fr := hq_rng m_fr
  have hb_m_bh := hq_rng m_bh
  have hb_m_hd := hq_rng m_hd
  have hb_m_ft := hq_rng m_ft
  have hb_m_fa := hq_rng m_fa
  have hb_m_le := hq_rng m_le
  have hb_m_fo := hq_rng m_fo
  have hb_m_as := hq_rng m_as
  have hb_m_fd := hq_rng m_fd
  have hb_m_bc := hq_rng m_bc
  have hb_m_bg := hq_rng m_bg
  have hb_m_bs := hq_rng m_bs
  have hb_m_be := hq_rng m_be
  have hb_m_b0 := hq_rng m_b0
  have hb_m_b1 := hq_rng m_b1
  have hb_m_cm := hq_rng m_cm
  have hb_m_hc := hq_rng m_hc
  refine lv_iload_n hx hb dX13_drill_0 rfl (lv_at hl 1 rfl) ?_
  refine hp_calli (hp_runS (As := [.int (k)]) (rest := []) hx hb hml hown hts (t_X13_isLearner l D cs B G  V n hP.1  (k) ) hZ cv_X13_456 rfl rfl ⟨Nat.le_of_ble_eq_true rfl, Nat.le_of_ble_eq_true rfl⟩ rfl hl.1 rfl (Nat.le_of_ble_eq_true rfl) dX13_drill_1 ⟨(Nat.le_of_ble_eq_true rfl), (Nat.le_of_ble_eq_true rfl)⟩) hZ (fun r4 V1 n2 _ _ hw3 hZ => ?_)
  obtain ⟨rfl, hq5, hr6⟩ := hw3
  have hP := hP.trans hq5 (fun _ _ => rfl)
  have b7 := hq_rng r4
  refine lv_if_ne (tgt := 10) hx hb dX13_drill_4 (by decide) (fun c8 => ?_) (fun c8 => ?_)
  · have c8 : ¬ (r4).toInt = (0 : Int) := fun h9 => c8 (hq_eqi.mpr h9)
    refine lv_iconst (v := -1) hx hb dX13_drill_10 (by decide) ?_
    refine lv_istore_n (lv' := [(2, .int (-1)), (0, .ref (mo)), (1, .int (k))]) hx hb dX13_drill_11 rfl hl (by decide) rfl (fun ls hl => ?_)
    refine lv_iconst (v := -1) hx hb dX13_drill_12 (by decide) ?_
    refine lv_istore_n (lv' := [(3, .int (-1)), (2, .int (-1)), (0, .ref (mo)), (1, .int (k))]) hx hb dX13_drill_13 rfl hl (by decide) rfl (fun ls hl => ?_)
    refine lv_iconst (v := 0) hx hb dX13_drill_14 (by decide) ?_
    refine lv_istore (lv' := [(4, .int (0)), (3, .int (-1)), (2, .int (-1)), (0, .ref (mo)), (1, .int (k))]) hx hb dX13_drill_15 hl (by decide) rfl (fun ls hl => ?_)
    have hl9 : (-1 : Int32).toInt = -1 := by decide
    have hl10 : (-1 : Int32).toInt = -1 := by decide
    have hl11 : (0 : Int32).toInt = 0 := by decide
    have fx12 : V1 (mo) = some (.inr (13, hm_o q (m_tp) (m_sz) (m_fr) (m_bh) (m_hd) (m_ft) (m_fa) (m_le) (m_fo) (m_as) (m_fd) (m_bc) (m_bg) (m_bs) (m_be) (m_b0) (m_b1) (m_cm) (m_hc))) := (hq5.2 (mo) _ h_mo rfl).trans (ho_mo)
    suffices lp17 : ∀ (k9 : Nat) (V9 : hp_V) (H9 : Heap) (locs9 : List Loc) (ls : Array Slot) (best : Int32) (most : Int32) (v : Int32) (le9 : Int32) (fo9 : Int32), (100 - v.toInt).toNat = k9 → hp_Z D cs B s V9 H9 n locs9 → hq_P cs G (fun g => g.1 == 1 || g.1 == 43 || g.1 == 44 || g.1 == 45) V V9 → V9 (mo) = some (.inr (13, hm_o q (m_tp) (m_sz) (m_fr) (m_bh) (m_hd) (m_ft) (m_fa) (le9) (fo9) (m_as) (m_fd) (m_bc) (m_bg) (m_bs) (m_be) (m_b0) (m_b1) (m_cm) (m_hc))) → 0 ≤ v.toInt → v.toInt ≤ 30 → 0 ≤ le9.toInt ∧ le9.toInt ≤ 276 → 0 ≤ fo9.toInt ∧ fo9.toInt ≤ 4 → lv_has ls 9 [(4, .int (v)), (3, .int (most)), (2, .int (best)), (0, .ref (mo)), (1, .int (k))] → W p l e ({ frames := 7, cells := 0, slots := 0, locals := 178 }) s m ([.ref (mo), .int (k)] : List Value).toArray below meth c H9 locs9 0 0 (MQ below (hp_QI D cs B (fun r V' n' => n = n' ∧ hq_P cs G (fun g => g.1 == 1 || g.1 == 43 || g.1 == 44 || g.1 == 45) V V' ∧ (∃ (m_fo1 : Int32) (m_le1 : Int32), V' mo = some (.inr (13, hm_o q (m_tp) (m_sz) (m_fr) (m_bh) (m_hd) (m_ft) (m_fa) (m_le1) (m_fo1) (m_as) (m_fd) (m_bc) (m_bg) (m_bs) (m_be) (m_b0) (m_b1) (m_cm) (m_hc))) ∧ (0 ≤ m_le1.toInt ∧ m_le1.toInt ≤ 276) ∧ (0 ≤ m_fo1.toInt ∧ m_fo1.toInt ≤ 4)) ∧ True)) ([.ref (mo), .int (k)] : List Value).toArray s 0 0 (hp_F B)) (F0 m 17 ls []) from lp17 _ _ _ _ ls (-1) (-1) (0) (m_le) (m_fo) rfl hZ hP fx12 (by omega) (by omega) (by omega) (by omega) (lv_sub hl [0, 1, 2, 3, 4] rfl)
    intro k9
    induction k9 using Nat.strongRecOn with
    | _ k9 ih17 =>
      intro V9 H9 locs9 ls best most v le9 fo9 hk17 hZ hP ho13 hv14 hv15 hv16 hv17 hl
      have hb_best := hq_rng best
      have hb_most := hq_rng most
      have hb_v := hq_rng v
      have hb_le9 := hq_rng le9
      have hb_fo9 := hq_rng fo9
      have hP_17 := hP
      refine lv_iload hx hb dX13_drill_17 (lv_at hl 0 rfl) ?_
      refine lv_aload_n hx hb dX13_drill_19 rfl (lv_at hl 3 rfl) ?_
      refine hp_get (v := .ref (q + 1)) hx hb hts hown hZ ho13 fl_X13_7 rfl dX13_drill_20 ?_
      refine lv_iconst (v := 0) hx hb dX13_drill_23 (by decide) ?_
      obtain ⟨hN20, g19, eV18, hf21⟩ := hq_o21 hP.1 (hr_1 hR)
      refine hp_iald hx hb hZ eV18 (by unfold vp_in; decide) dX13_drill_24 ?_
      refine lv_topi (fun y22 ey23 => ?_)
      have b24 : hq_ir (hq_lo 9) (hq_hi 9) y22 := by rw [ey23]; exact hf21 _ (by decide)
      have b24 : 0 ≤ (y22).toInt ∧ (y22).toInt ≤ 30 := b24
      refine lv_icmp_ge (tgt := 150) hx hb dX13_drill_25 (by decide) (fun c25 => ?_) (fun c25 => ?_)
      · have c25 : (y22).toInt ≤ (v).toInt := hq_lei.mp c25
        refine lv_iload_n hx hb dX13_drill_150 rfl (lv_at hl 2 rfl) ?_
        exact hp_iret hx hb hr hlocks hZ ⟨rfl, hP, ⟨fo9, le9, ho13, by omega, by omega⟩, trivial⟩ dX13_drill_151
      · have c25 : ¬ (y22).toInt ≤ (v).toInt := fun h9 => c25 (hq_lei.mpr h9)
        refine lv_iconst (v := 0) hx hb dX13_drill_28 (by decide) ?_
        refine lv_istore (lv' := [(5, .int (0)), (4, .int (v)), (3, .int (most)), (2, .int (best)), (0, .ref (mo)), (1, .int (k))]) hx hb dX13_drill_29 hl (by decide) rfl (fun ls hl => ?_)
        have hl26 : (0 : Int32).toInt = 0 := by decide
        suffices lp31 : ∀ (k9 : Nat) (V9 : hp_V) (H9 : Heap) (locs9 : List Loc) (ls : Array Slot) (best8 : Int32) (most8 : Int32) (te : Int32) (le8 : Int32) (fo8 : Int32), (100 - te.toInt).toNat = k9 → hp_Z D cs B s V9 H9 n locs9 → hq_P cs G (fun g => g.1 == 1 || g.1 == 43 || g.1 == 44 || g.1 == 45) V V9 → V9 (mo) = some (.inr (13, hm_o q (m_tp) (m_sz) (m_fr) (m_bh) (m_hd) (m_ft) (m_fa) (le8) (fo8) (m_as) (m_fd) (m_bc) (m_bg) (m_bs) (m_be) (m_b0) (m_b1) (m_cm) (m_hc))) → 0 ≤ te.toInt → te.toInt ≤ 5 → 0 ≤ le8.toInt ∧ le8.toInt ≤ 276 → 0 ≤ fo8.toInt ∧ fo8.toInt ≤ 4 → lv_has ls 9 [(5, .int (te)), (4, .int (v)), (3, .int (most8)), (2, .int (best8)), (0, .ref (mo)), (1, .int (k))] → W p l e ({ frames := 7, cells := 0, slots := 0, locals := 178 }) s m ([.ref (mo), .int (k)] : List Value).toArray below meth c H9 locs9 0 0 (MQ below (hp_QI D cs B (fun r V' n' => n = n' ∧ hq_P cs G (fun g => g.1 == 1 || g.1 == 43 || g.1 == 44 || g.1 == 45) V V' ∧ (∃ (m_fo1 : Int32) (m_le1 : Int32), V' mo = some (.inr (13, hm_o q (m_tp) (m_sz) (m_fr) (m_bh) (m_hd) (m_ft) (m_fa) (m_le1) (m_fo1) (m_as) (m_fd) (m_bc) (m_bg) (m_bs) (m_be) (m_b0) (m_b1) (m_cm) (m_hc))) ∧ (0 ≤ m_le1.toInt ∧ m_le1.toInt ≤ 276) ∧ (0 ≤ m_fo1.toInt ∧ m_fo1.toInt ≤ 4)) ∧ True)) ([.ref (mo), .int (k)] : List Value).toArray s 0 0 (hp_F B)) (F0 m 31 ls []) from lp31 _ _ _ _ ls (best) (most) (0) (le9) (fo9) rfl hZ hP ho13 (by omega) (by omega) (by omega) (by omega) (lv_sub hl [0, 1, 2, 3, 4, 5] rfl)
        intro k9
        induction k9 using Nat.strongRecOn with
        | _ k9 ih31 =>
          intro V9 H9 locs9 ls best8 most8 te le8 fo8 hk31 hZ hP ho27 hv28 hv29 hv30 hv31 hl
          have hb_best8 := hq_rng best8
          have hb_most8 := hq_rng most8
          have hb_te := hq_rng te
          have hb_le8 := hq_rng le8
          have hb_fo8 := hq_rng fo8
          have hP_31 := hP
          refine lv_iload hx hb dX13_drill_31 (lv_at hl 0 rfl) ?_
          refine lv_iconst (v := 5) hx hb dX13_drill_33 (by decide) ?_
          refine lv_icmp_ge (tgt := 144) hx hb dX13_drill_34 (by decide) (fun c32 => ?_) (fun c32 => ?_)
          · have c32 : (5 : Int) ≤ (te).toInt := hq_lei.mp c32
            obtain ⟨y33, ey34⟩ : ∃ y : Int32, y = v + (1) := ⟨_, rfl⟩
            obtain ⟨k35, hk36, b37, b38⟩ := hq_add (v) (1)
            rw [← ey34] at hk36 b37 b38
            have hk36 : (y33).toInt = (v).toInt + (1) + k35 * 4294967296 := hk36
            refine lv_iinc (v := y33) (lv' := [(4, .int (y33)), (5, .int (te)), (3, .int (most8)), (2, .int (best8)), (0, .ref (mo)), (1, .int (k))]) hx hb dX13_drill_144 hl (k := 1) rfl (by rw [ey34]; rfl) (by decide) rfl (fun ls hl => ?_)
            refine lv_goto (tgt := 17) hx hb dX13_drill_147 (by decide) ?_
            exact ih17 _ (by omega) _ _ _ ls (best8) (most8) (y33) (le8) (fo8) rfl hZ hP ho27 (by omega) (by omega) (by omega) (by omega) (lv_sub hl [0, 2, 3, 4, 5] rfl)
          · have c32 : ¬ (5 : Int) ≤ (te).toInt := fun h9 => c32 (hq_lei.mpr h9)
            refine lv_iconst (v := 0) hx hb dX13_drill_37 (by decide) ?_
            refine lv_istore (lv' := [(6, .int (0)), (5, .int (te)), (4, .int (v)), (3, .int (most8)), (2, .int (best8)), (0, .ref (mo)), (1, .int (k))]) hx hb dX13_drill_38 hl (by decide) rfl (fun ls hl => ?_)
            have hl39 : (0 : Int32).toInt = 0 := by decide
            suffices lp40 : ∀ (k9 : Nat) (V9 : hp_V) (H9 : Heap) (locs9 : List Loc) (ls : Array Slot) (best7 : Int32) (most7 : Int32) (pe : Int32) (le7 : Int32) (fo7 : Int32), (100 - pe.toInt).toNat = k9 → hp_Z D cs B s V9 H9 n locs9 → hq_P cs G (fun g => g.1 == 1 || g.1 == 43 || g.1 == 44 || g.1 == 45) V V9 → V9 (mo) = some (.inr (13, hm_o q (m_tp) (m_sz) (m_fr) (m_bh) (m_hd) (m_ft) (m_fa) (le7) (fo7) (m_as) (m_fd) (m_bc) (m_bg) (m_bs) (m_be) (m_b0) (m_b1) (m_cm) (m_hc))) → 0 ≤ pe.toInt → pe.toInt ≤ 6 → 0 ≤ le7.toInt ∧ le7.toInt ≤ 276 → 0 ≤ fo7.toInt ∧ fo7.toInt ≤ 4 → lv_has ls 9 [(6, .int (pe)), (5, .int (te)), (4, .int (v)), (3, .int (most7)), (2, .int (best7)), (0, .ref (mo)), (1, .int (k))] → W p l e ({ frames := 7, cells := 0, slots := 0, locals := 178 }) s m ([.ref (mo), .int (k)] : List Value).toArray below meth c H9 locs9 0 0 (MQ below (hp_QI D cs B (fun r V' n' => n = n' ∧ hq_P cs G (fun g => g.1 == 1 || g.1 == 43 || g.1 == 44 || g.1 == 45) V V' ∧ (∃ (m_fo1 : Int32) (m_le1 : Int32), V' mo = some (.inr (13, hm_o q (m_tp) (m_sz) (m_fr) (m_bh) (m_hd) (m_ft) (m_fa) (m_le1) (m_fo1) (m_as) (m_fd) (m_bc) (m_bg) (m_bs) (m_be) (m_b0) (m_b1) (m_cm) (m_hc))) ∧ (0 ≤ m_le1.toInt ∧ m_le1.toInt ≤ 276) ∧ (0 ≤ m_fo1.toInt ∧ m_fo1.toInt ≤ 4)) ∧ True)) ([.ref (mo), .int (k)] : List Value).toArray s 0 0 (hp_F B)) (F0 m 40 ls []) from lp40 _ _ _ _ ls (best8) (most8) (0) (le8) (fo8) rfl hZ hP ho27 (by omega) (by omega) (by omega) (by omega) (lv_sub hl [0, 1, 2, 3, 4, 5, 6] rfl)
            intro k9
            induction k9 using Nat.strongRecOn with
            | _ k9 ih40 =>
              intro V9 H9 locs9 ls best7 most7 pe le7 fo7 hk40 hZ hP ho40 hv41 hv42 hv43 hv44 hl
              have hb_best7 := hq_rng best7
              have hb_most7 := hq_rng most7
              have hb_pe := hq_rng pe
              have hb_le7 := hq_rng le7
              have hb_fo7 := hq_rng fo7
              have hP_40 := hP
              refine lv_iload hx hb dX13_drill_40 (lv_at hl 0 rfl) ?_
              refine lv_bipush (v := 6) hx hb dX13_drill_42 (by decide) ?_
              refine lv_icmp_ge (tgt := 138) hx hb dX13_drill_44 (by decide) (fun c45 => ?_) (fun c45 => ?_)
              · have c45 : (6 : Int) ≤ (pe).toInt := hq_lei.mp c45
                obtain ⟨y46, ey47⟩ : ∃ y : Int32, y = te + (1) := ⟨_, rfl⟩
                obtain ⟨k48, hk49, b50, b51⟩ := hq_add (te) (1)
                rw [← ey47] at hk49 b50 b51
                have hk49 : (y46).toInt = (te).toInt + (1) + k48 * 4294967296 := hk49
                refine lv_iinc (v := y46) (lv' := [(5, .int (y46)), (6, .int (pe)), (4, .int (v)), (3, .int (most7)), (2, .int (best7)), (0, .ref (mo)), (1, .int (k))]) hx hb dX13_drill_138 hl (k := 1) rfl (by rw [ey47]; rfl) (by decide) rfl (fun ls hl => ?_)
                refine lv_goto (tgt := 31) hx hb dX13_drill_141 (by decide) ?_
                exact ih31 _ (by omega) _ _ _ ls (best7) (most7) (y46) (le7) (fo7) rfl hZ hP ho40 (by omega) (by omega) (by omega) (by omega) (lv_sub hl [0, 2, 3, 4, 5, 6] rfl)
              · have c45 : ¬ (6 : Int) ≤ (pe).toInt := fun h9 => c45 (hq_lei.mpr h9)
                refine lv_iload hx hb dX13_drill_47 (lv_at hl 2 rfl) ?_
                refine lv_iload hx hb dX13_drill_49 (lv_at hl 1 rfl) ?_
                refine lv_iload hx hb dX13_drill_51 (lv_at hl 0 rfl) ?_
                refine hp_calli (hp_runS (As := [.int (v), .int (te), .int (pe)]) (rest := []) hx hb hml hown hts (t_X13_placeOf l D cs B G  V9 n hP.1  (v) (te) (pe) ) hZ cv_X13_459 rfl rfl ⟨Nat.le_of_ble_eq_true rfl, Nat.le_of_ble_eq_true rfl⟩ rfl hl.1 rfl (Nat.le_of_ble_eq_true rfl) dX13_drill_53 ⟨(Nat.le_of_ble_eq_true rfl), (Nat.le_of_ble_eq_true rfl)⟩) hZ (fun r55 V52 n53 _ _ hw54 hZ => ?_)
                obtain ⟨rfl, hq56, hr57⟩ := hw54
                have hP := hP.trans hq56 (fun _ _ => rfl)
                have b58 := hq_rng r55
                refine lv_istore (lv' := [(7, .int (r55)), (6, .int (pe)), (5, .int (te)), (4, .int (v)), (3, .int (most7)), (2, .int (best7)), (0, .ref (mo)), (1, .int (k))]) hx hb dX13_drill_56 hl (by decide) rfl (fun ls hl => ?_)
                refine lv_aload_n hx hb dX13_drill_58 rfl (lv_at hl 6 rfl) ?_
                have fx59 : V52 (mo) = some (.inr (13, hm_o q (m_tp) (m_sz) (m_fr) (m_bh) (m_hd) (m_ft) (m_fa) (le7) (fo7) (m_as) (m_fd) (m_bc) (m_bg) (m_bs) (m_be) (m_b0) (m_b1) (m_cm) (m_hc))) := (hq56.2 (mo) _ h_mo rfl).trans (ho40)
                refine hp_get (v := .ref (q + 43)) hx hb hts hown hZ fx59 fl_X13_280 rfl dX13_drill_59 ?_
                refine lv_iconst (v := 3) hx hb dX13_drill_62 (by decide) ?_
                refine lv_iload_n hx hb dX13_drill_63 rfl (lv_at hl 7 rfl) ?_
                refine lv_imul hx hb dX13_drill_64 ?_
                refine lv_topi (fun y60 ey61 => ?_)
                obtain ⟨k62, hk63, b64, b65⟩ := hq_mul (3) (k)
                rw [← ey61] at hk63 b64 b65
                have hk63 : (y60).toInt = (3 : Int) * (k).toInt + k62 * 4294967296 := hk63
                obtain rfl : k62 = 0 := by omega
                obtain ⟨hN68, g67, eV66, hf69⟩ := hq_o21 hP.1 (hr_43 hR)
                refine hp_iald hx hb hZ eV66 (hq_in (by omega) (by omega)) dX13_drill_65 ?_
                refine lv_topi (fun y70 ey71 => ?_)
                have b72 := hq_rng y70
                refine lv_iload hx hb dX13_drill_66 (lv_at hl 0 rfl) ?_
                refine lv_icmp_eq (tgt := 132) hx hb dX13_drill_68 (by decide) (fun c73 => ?_) (fun c73 => ?_)
                · have c73 : (y70).toInt = (r55).toInt := hq_eqi.mp c73
                  obtain ⟨y74, ey75⟩ : ∃ y : Int32, y = pe + (1) := ⟨_, rfl⟩
                  obtain ⟨k76, hk77, b78, b79⟩ := hq_add (pe) (1)
                  rw [← ey75] at hk77 b78 b79
                  have hk77 : (y74).toInt = (pe).toInt + (1) + k76 * 4294967296 := hk77
                  refine lv_iinc (v := y74) (lv' := [(6, .int (y74)), (7, .int (r55)), (5, .int (te)), (4, .int (v)), (3, .int (most7)), (2, .int (best7)), (0, .ref (mo)), (1, .int (k))]) hx hb dX13_drill_132 hl (k := 1) rfl (by rw [ey75]; rfl) (by decide) rfl (fun ls hl => ?_)
                  refine lv_goto (tgt := 40) hx hb dX13_drill_135 (by decide) ?_
                  exact ih40 _ (by omega) _ _ _ ls (best7) (most7) (y74) (le7) (fo7) rfl hZ hP fx59 (by omega) (by omega) (by omega) (by omega) (lv_sub hl [0, 2, 3, 4, 5, 6, 7] rfl)
                · have c73 : ¬ (y70).toInt = (r55).toInt := fun h9 => c73 (hq_eqi.mpr h9)
                  refine lv_aload_n hx hb dX13_drill_71 rfl (lv_at hl 6 rfl) ?_
                  refine hp_get (v := .ref (q + 43)) hx hb hts hown hZ fx59 fl_X13_280 rfl dX13_drill_72 ?_
                  refine lv_iconst (v := 3) hx hb dX13_drill_75 (by decide) ?_
                  refine lv_iload_n hx hb dX13_drill_76 rfl (lv_at hl 7 rfl) ?_
                  refine lv_imul hx hb dX13_drill_77 ?_
                  refine lv_topi (fun y80 ey81 => ?_)
                  obtain ⟨k82, hk83, b84, b85⟩ := hq_mul (3) (k)
                  rw [← ey81] at hk83 b84 b85
                  have hk83 : (y80).toInt = (3 : Int) * (k).toInt + k82 * 4294967296 := hk83
                  obtain rfl : k82 = 0 := by omega
                  refine lv_iconst (v := 1) hx hb dX13_drill_78 (by decide) ?_
                  refine lv_iadd hx hb dX13_drill_79 ?_
                  refine lv_topi (fun y86 ey87 => ?_)
                  obtain ⟨k88, hk89, b90, b91⟩ := hq_add (y80) (1)
                  rw [← ey87] at hk89 b90 b91
                  have hk89 : (y86).toInt = (y80).toInt + (1 : Int) + k88 * 4294967296 := hk89
                  obtain rfl : k88 = 0 := by omega
                  refine hp_iald hx hb hZ eV66 (hq_in (by omega) (by omega)) dX13_drill_80 ?_
                  refine lv_topi (fun y92 ey93 => ?_)
                  have b94 := hq_rng y92
                  refine lv_iload hx hb dX13_drill_81 (lv_at hl 0 rfl) ?_
                  refine lv_icmp_eq (tgt := 132) hx hb dX13_drill_83 (by decide) (fun c95 => ?_) (fun c95 => ?_)
                  · have c95 : (y92).toInt = (r55).toInt := hq_eqi.mp c95
                    obtain ⟨y96, ey97⟩ : ∃ y : Int32, y = pe + (1) := ⟨_, rfl⟩
                    obtain ⟨k98, hk99, b100, b101⟩ := hq_add (pe) (1)
                    rw [← ey97] at hk99 b100 b101
                    have hk99 : (y96).toInt = (pe).toInt + (1) + k98 * 4294967296 := hk99
                    refine lv_iinc (v := y96) (lv' := [(6, .int (y96)), (7, .int (r55)), (5, .int (te)), (4, .int (v)), (3, .int (most7)), (2, .int (best7)), (0, .ref (mo)), (1, .int (k))]) hx hb dX13_drill_132 hl (k := 1) rfl (by rw [ey97]; rfl) (by decide) rfl (fun ls hl => ?_)
                    refine lv_goto (tgt := 40) hx hb dX13_drill_135 (by decide) ?_
                    exact ih40 _ (by omega) _ _ _ ls (best7) (most7) (y96) (le7) (fo7) rfl hZ hP fx59 (by omega) (by omega) (by omega) (by omega) (lv_sub hl [0, 2, 3, 4, 5, 6, 7] rfl)
                  · have c95 : ¬ (y92).toInt = (r55).toInt := fun h9 => c95 (hq_eqi.mpr h9)
                    refine lv_aload_n hx hb dX13_drill_86 rfl (lv_at hl 6 rfl) ?_
                    refine hp_get (v := .ref (q + 43)) hx hb hts hown hZ fx59 fl_X13_280 rfl dX13_drill_87 ?_
                    refine lv_iconst (v := 3) hx hb dX13_drill_90 (by decide) ?_
                    refine lv_iload_n hx hb dX13_drill_91 rfl (lv_at hl 7 rfl) ?_
                    refine lv_imul hx hb dX13_drill_92 ?_
                    refine lv_topi (fun y102 ey103 => ?_)
                    obtain ⟨k104, hk105, b106, b107⟩ := hq_mul (3) (k)
                    rw [← ey103] at hk105 b106 b107
                    have hk105 : (y102).toInt = (3 : Int) * (k).toInt + k104 * 4294967296 := hk105
                    obtain rfl : k104 = 0 := by omega
                    refine lv_iconst (v := 2) hx hb dX13_drill_93 (by decide) ?_
                    refine lv_iadd hx hb dX13_drill_94 ?_
                    refine lv_topi (fun y108 ey109 => ?_)
                    obtain ⟨k110, hk111, b112, b113⟩ := hq_add (y102) (2)
                    rw [← ey109] at hk111 b112 b113
                    have hk111 : (y108).toInt = (y102).toInt + (2 : Int) + k110 * 4294967296 := hk111
                    obtain rfl : k110 = 0 := by omega
                    refine hp_iald hx hb hZ eV66 (hq_in (by omega) (by omega)) dX13_drill_95 ?_
                    refine lv_topi (fun y114 ey115 => ?_)
                    have b116 := hq_rng y114
                    refine lv_iload hx hb dX13_drill_96 (lv_at hl 0 rfl) ?_
                    refine lv_icmp_ne (tgt := 104) hx hb dX13_drill_98 (by decide) (fun c117 => ?_) (fun c117 => ?_)
                    · have c117 : ¬ (y114).toInt = (r55).toInt := fun h9 => c117 (hq_eqi.mpr h9)
                      refine lv_aload_n hx hb dX13_drill_104 rfl (lv_at hl 6 rfl) ?_
                      refine lv_iload_n hx hb dX13_drill_105 rfl (lv_at hl 7 rfl) ?_
                      refine lv_iload hx hb dX13_drill_106 (lv_at hl 3 rfl) ?_
                      refine lv_iload hx hb dX13_drill_108 (lv_at hl 2 rfl) ?_
                      refine lv_iload hx hb dX13_drill_110 (lv_at hl 1 rfl) ?_
                      refine hp_calli (hp_runV (As := [.int (k), .int (v), .int (te), .int (pe)]) (rest := []) hx hb hml hown hts (t_X13_weight l D cs B G  V52 n hP.1 q hR (mo) h_mo (k) (v) (te) (pe) fx59  (by omega) (by omega) (by omega) (by omega) (by omega) (by omega) (by omega) (by omega) (by omega) (by omega) (by omega) (by omega) (hH.keep hR (fun x t hx hg => hP.2 x t hx (by simp [hg])))) hZ fx59 cv_X13_485 rfl rfl ⟨Nat.le_of_ble_eq_true rfl, Nat.le_of_ble_eq_true rfl⟩ rfl hl.1 rfl (Nat.le_of_ble_eq_true rfl) dX13_drill_112 ⟨(Nat.le_of_ble_eq_true rfl), (Nat.le_of_ble_eq_true rfl)⟩) hZ (fun r121 V118 n119 _ _ hw120 hZ => ?_)
                      obtain ⟨rfl, hq122, ⟨z124, z125, ho126, hi127, hi128⟩, hr123⟩ := hw120
                      have hP := hP.trans hq122 (by intro g h; simp_all)
                      have b129 := hq_rng z125
                      have b130 := hq_rng z124
                      have b131 := hq_rng r121
                      refine lv_istore (lv' := [(8, .int (r121)), (7, .int (r55)), (6, .int (pe)), (5, .int (te)), (4, .int (v)), (3, .int (most7)), (2, .int (best7)), (0, .ref (mo)), (1, .int (k))]) hx hb dX13_drill_115 hl (by decide) rfl (fun ls hl => ?_)
                      refine lv_iload hx hb dX13_drill_117 (lv_at hl 0 rfl) ?_
                      refine lv_iload_n hx hb dX13_drill_119 rfl (lv_at hl 5 rfl) ?_
                      refine lv_icmp_gt (tgt := 126) hx hb dX13_drill_120 (by decide) (fun c132 => ?_) (fun c132 => ?_)
                      · have c132 : (most7).toInt < (r121).toInt := hq_lti.mp c132
                        refine lv_iload hx hb dX13_drill_126 (lv_at hl 0 rfl) ?_
                        refine lv_istore_n (lv' := [(3, .int (r121)), (8, .int (r121)), (7, .int (r55)), (6, .int (pe)), (5, .int (te)), (4, .int (v)), (2, .int (best7)), (0, .ref (mo)), (1, .int (k))]) hx hb dX13_drill_128 rfl hl (by decide) rfl (fun ls hl => ?_)
                        refine lv_iload hx hb dX13_drill_129 (lv_at hl 2 rfl) ?_
                        refine lv_istore_n (lv' := [(2, .int (r55)), (3, .int (r121)), (8, .int (r121)), (7, .int (r55)), (6, .int (pe)), (5, .int (te)), (4, .int (v)), (0, .ref (mo)), (1, .int (k))]) hx hb dX13_drill_131 rfl hl (by decide) rfl (fun ls hl => ?_)
                        obtain ⟨y133, ey134⟩ : ∃ y : Int32, y = pe + (1) := ⟨_, rfl⟩
                        obtain ⟨k135, hk136, b137, b138⟩ := hq_add (pe) (1)
                        rw [← ey134] at hk136 b137 b138
                        have hk136 : (y133).toInt = (pe).toInt + (1) + k135 * 4294967296 := hk136
                        refine lv_iinc (v := y133) (lv' := [(6, .int (y133)), (2, .int (r55)), (3, .int (r121)), (8, .int (r121)), (7, .int (r55)), (5, .int (te)), (4, .int (v)), (0, .ref (mo)), (1, .int (k))]) hx hb dX13_drill_132 hl (k := 4) rfl (by rw [ey134]; rfl) (by decide) rfl (fun ls hl => ?_)
                        refine lv_goto (tgt := 40) hx hb dX13_drill_135 (by decide) ?_
                        exact ih40 _ (by omega) _ _ _ ls (r55) (r121) (y133) (z125) (z124) rfl hZ hP ho126 (by omega) (by omega) (by omega) (by omega) (lv_sub hl [0, 5, 6, 2, 1, 7, 8] rfl)
                      · have c132 : ¬ (most7).toInt < (r121).toInt := fun h9 => c132 (hq_lti.mpr h9)
                        refine lv_goto (tgt := 132) hx hb dX13_drill_123 (by decide) ?_
                        obtain ⟨y139, ey140⟩ : ∃ y : Int32, y = pe + (1) := ⟨_, rfl⟩
                        obtain ⟨k141, hk142, b143, b144⟩ := hq_add (pe) (1)
                        rw [← ey140] at hk142 b143 b144
                        have hk142 : (y139).toInt = (pe).toInt + (1) + k141 * 4294967296 := hk142
                        refine lv_iinc (v := y139) (lv' := [(6, .int (y139)), (8, .int (r121)), (7, .int (r55)), (5, .int (te)), (4, .int (v)), (3, .int (most7)), (2, .int (best7)), (0, .ref (mo)), (1, .int (k))]) hx hb dX13_drill_132 hl (k := 2) rfl (by rw [ey140]; rfl) (by decide) rfl (fun ls hl => ?_)
                        refine lv_goto (tgt := 40) hx hb dX13_drill_135 (by decide) ?_
                        exact ih40 _ (by omega) _ _ _ ls (best7) (most7) (y139) (z125) (z124) rfl hZ hP ho126 (by omega) (by omega) (by omega) (by omega) (lv_sub hl [0, 3, 4, 5, 6, 7, 8] rfl)
                    · have c117 : (y114).toInt = (r55).toInt := hq_eqi.mp c117
                      refine lv_goto (tgt := 132) hx hb dX13_drill_101 (by decide) ?_
                      obtain ⟨y145, ey146⟩ : ∃ y : Int32, y = pe + (1) := ⟨_, rfl⟩
                      obtain ⟨k147, hk148, b149, b150⟩ := hq_add (pe) (1)
                      rw [← ey146] at hk148 b149 b150
                      have hk148 : (y145).toInt = (pe).toInt + (1) + k147 * 4294967296 := hk148
                      refine lv_iinc (v := y145) (lv' := [(6, .int (y145)), (7, .int (r55)), (5, .int (te)), (4, .int (v)), (3, .int (most7)), (2, .int (best7)), (0, .ref (mo)), (1, .int (k))]) hx hb dX13_drill_132 hl (k := 1) rfl (by rw [ey146]; rfl) (by decide) rfl (fun ls hl => ?_)
                      refine lv_goto (tgt := 40) hx hb dX13_drill_135 (by decide) ?_
                      exact ih40 _ (by omega) _ _ _ ls (best7) (most7) (y145) (le7) (fo7) rfl hZ hP fx59 (by omega) (by omega) (by omega) (by omega) (lv_sub hl [0, 2, 3, 4, 5, 6, 7] rfl)
  · have c8 : (r4).toInt = (0 : Int) := hq_eqi.mp c8
    refine lv_bipush (v := -2) hx hb dX13_drill_7 (by decide) ?_
    have fx151 : V1 (mo) = some (.inr (13, hm_o q (m_tp) (m_sz) (m_fr) (m_bh) (m_hd) (m_ft) (m_fa) (m_le) (m_fo) (m_as) (m_fd) (m_bc) (m_bg) (m_bs) (m_be) (m_b0) (m_b1) (m_cm) (m_hc))) := (hq5.2 (mo) _ h_mo rfl).trans (ho_mo)
    exact hp_iret hx hb hr hlocks hZ ⟨rfl, hP, ⟨m_fo, m_le, fx151, by omega, by omega⟩, trivial⟩ dX13_drill_9

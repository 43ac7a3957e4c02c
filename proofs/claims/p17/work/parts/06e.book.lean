theorem hm_B.zero {fk fs : Nat → Int32} {i : Int} (h : i ≤ 0) : hm_B fk fs fk fs i := ⟨fun _ _ => ⟨rfl, rfl⟩, fun j hj => absurd hj (by omega)⟩

theorem cl_X13_210 : Cond.classLink RX13 210 RX12 ∈ TBG := TBG_mem (List.mem_of_getElem? (i := 990) (by decide +kernel)) (by decide +kernel)

set_option maxHeartbeats 4000000 in
set_option maxRecDepth 100000 in
theorem t_X13_forget (l : Launch) (D : va_G) (cs : Nat → ClassId) (B : Nat) (G : hq_G) (V : hp_V) (n : Nat) (hI : hq_I cs G V) (q : Nat) (hR : hq_RT G q) (mo : Nat) (h_mo : G mo = some (24, 0, 0, 0)) {m_tp m_sz m_fr m_bh m_hd m_ft m_fa m_le m_fo m_as m_fd m_bc m_bg m_bs m_be m_b0 m_b1 m_cm m_hc : Int32} (ho_mo : V mo = some (.inr (13, hm_o q (m_tp) (m_sz) (m_fr) (m_bh) (m_hd) (m_ft) (m_fa) (m_le) (m_fo) (m_as) (m_fd) (m_bc) (m_bg) (m_bs) (m_be) (m_b0) (m_b1) (m_cm) (m_hc)))) (hi_mo0 : 0 ≤ m_tp.toInt ∧ m_tp.toInt ≤ 4000) (hi_mo1 : 0 ≤ m_sz.toInt ∧ m_sz.toInt ≤ 4000) (hi_mo2 : 0 ≤ m_le.toInt ∧ m_le.toInt ≤ 276) (hi_mo3 : 0 ≤ m_fo.toInt ∧ m_fo.toInt ≤ 4) (hi_mo4 : 0 ≤ m_as.toInt ∧ m_as.toInt ≤ 4000) (hi_mo5 : 0 ≤ m_fd.toInt ∧ m_fd.toInt ≤ 900) (hi_mo6 : 0 ≤ m_cm.toInt ∧ m_cm.toInt ≤ 2) (hi_mo7 : 0 ≤ m_hc.toInt ∧ m_hc.toInt ≤ 1) : hp_M l yX13_forget cX13_forget 2 none ({ frames := 1, cells := 0, slots := 0, locals := 21 }) D cs B V n [.ref (mo)] (hp_QV D cs B (fun V' n' => n = n' ∧ hq_P cs G (fun g => g.1 == 48) V V' ∧ (V' mo = some (.inr (13, hm_o q (m_tp) (m_sz) (m_fr) (m_bh) (m_hd) (m_ft) (m_fa) (m_le) (m_fo) (m_as) (m_fd) (m_bc) (m_bg) (m_bs) (m_be) (m_b0) (m_b1) (m_cm) (m_hc)))))) 0 0 := by
  refine hp_walk (R0 := RX13) (by decide) rfl ?_ (Nat.le_of_ble_eq_true rfl)
  intro p e s m below meth c ls hx hb hr hts hown hlocks hin hml hZ hl
  have hP : hq_P cs G (fun g => g.1 == 48) V V := hq_P.rf hI
  have hl : lv_has ls 2 [(0, .ref (mo))] := hl
  have hb_m_tp := hq_rng m_tp
  have hb_m_sz := hq_rng m_sz
  have hb_m_fr := hq_rng m_fr
  have hb_m_bh := hq_rng m_bh
  have hb_m_hd := hq_rng m_hd
  have hb_m_ft := hq_rng m_ft
  have hb_m_fa := hq_rng m_fa
  have hb_m_le := hq_rng m_le
  have hb_m_fo := hq_rng m_fo
  have hb_m_as := hq_rng m_as
  have hb_m_fd := hq_rng m_fd
  have hb_m_bc := hq_rng m_bc
  have hb_m_bg := hq_rng m_bg
  have hb_m_bs := hq_rng m_bs
  have hb_m_be := hq_rng m_be
  have hb_m_b0 := hq_rng m_b0
  have hb_m_b1 := hq_rng m_b1
  have hb_m_cm := hq_rng m_cm
  have hb_m_hc := hq_rng m_hc
  refine lv_iconst (v := 0) hx hb dX13_forget_0 (by decide) ?_
  refine lv_istore_n (lv' := [(1, .int (0)), (0, .ref (mo))]) hx hb dX13_forget_1 rfl hl (by decide) rfl (fun ls hl => ?_)
  have hl1 : (0 : Int32).toInt = 0 := by decide
  suffices lp2 : ∀ (k9 : Nat) (V9 : hp_V) (H9 : Heap) (locs9 : List Loc) (ls : Array Slot) (i : Int32), (1000 - i.toInt).toNat = k9 → hp_Z D cs B s V9 H9 n locs9 → hq_P cs G (fun g => g.1 == 48) V V9 → 0 ≤ i.toInt → i.toInt ≤ 480 → lv_has ls 2 [(1, .int (i)), (0, .ref (mo))] → W p l e ({ frames := 1, cells := 0, slots := 0, locals := 21 }) s m ([.ref (mo)] : List Value).toArray below meth c H9 locs9 0 0 (MQ below (hp_QV D cs B (fun V' n' => n = n' ∧ hq_P cs G (fun g => g.1 == 48) V V' ∧ (V' mo = some (.inr (13, hm_o q (m_tp) (m_sz) (m_fr) (m_bh) (m_hd) (m_ft) (m_fa) (m_le) (m_fo) (m_as) (m_fd) (m_bc) (m_bg) (m_bs) (m_be) (m_b0) (m_b1) (m_cm) (m_hc)))))) ([.ref (mo)] : List Value).toArray s 0 0 (hp_F B)) (F0 m 2 ls []) from lp2 _ _ _ _ ls (0) rfl hZ hP (by omega) (by omega) (lv_sub hl [0, 1] rfl)
  intro k9
  induction k9 using Nat.strongRecOn with
  | _ k9 ih2 =>
    intro V9 H9 locs9 ls i  hk2 hZ hP  hv2 hv3 hl
    have hb_i := hq_rng i
    have hP_2 := hP
    refine lv_iload_n hx hb dX13_forget_2 rfl (lv_at hl 0 rfl) ?_
    refine lv_sipush (v := 480) hx hb dX13_forget_3 (by decide) ?_
    refine lv_icmp_ge (tgt := 22) hx hb dX13_forget_6 (by decide) (fun c4 => ?_) (fun c4 => ?_)
    · have c4 : (480 : Int) ≤ (i).toInt := hq_lei.mp c4
      refine lv_iconst (v := 0) hx hb dX13_forget_22 (by decide) ?_
      refine lv_istore_n (lv' := [(1, .int (0)), (0, .ref (mo))]) hx hb dX13_forget_23 rfl hl (by decide) rfl (fun ls hl => ?_)
      have hl5 : (0 : Int32).toInt = 0 := by decide
      suffices lp24 : ∀ (k9 : Nat) (V9 : hp_V) (H9 : Heap) (locs9 : List Loc) (ls : Array Slot) (i : Int32), (1000 - i.toInt).toNat = k9 → hp_Z D cs B s V9 H9 n locs9 → hq_P cs G (fun g => g.1 == 48) V V9 → 0 ≤ i.toInt → i.toInt ≤ 24 → lv_has ls 2 [(1, .int (i)), (0, .ref (mo))] → W p l e ({ frames := 1, cells := 0, slots := 0, locals := 21 }) s m ([.ref (mo)] : List Value).toArray below meth c H9 locs9 0 0 (MQ below (hp_QV D cs B (fun V' n' => n = n' ∧ hq_P cs G (fun g => g.1 == 48) V V' ∧ (V' mo = some (.inr (13, hm_o q (m_tp) (m_sz) (m_fr) (m_bh) (m_hd) (m_ft) (m_fa) (m_le) (m_fo) (m_as) (m_fd) (m_bc) (m_bg) (m_bs) (m_be) (m_b0) (m_b1) (m_cm) (m_hc)))))) ([.ref (mo)] : List Value).toArray s 0 0 (hp_F B)) (F0 m 24 ls []) from lp24 _ _ _ _ ls (0) rfl hZ hP (by omega) (by omega) (lv_sub hl [0, 1] rfl)
      intro k9
      induction k9 using Nat.strongRecOn with
      | _ k9 ih24 =>
        intro V9 H9 locs9 ls i  hk24 hZ hP  hv6 hv7 hl
        have hb_i := hq_rng i
        have hP_24 := hP
        refine lv_iload_n hx hb dX13_forget_24 rfl (lv_at hl 0 rfl) ?_
        refine lv_bipush (v := 24) hx hb dX13_forget_25 (by decide) ?_
        refine lv_icmp_ge (tgt := 43) hx hb dX13_forget_27 (by decide) (fun c8 => ?_) (fun c8 => ?_)
        · have c8 : (24 : Int) ≤ (i).toInt := hq_lei.mp c8
          have fx9 : V9 (mo) = some (.inr (13, hm_o q (m_tp) (m_sz) (m_fr) (m_bh) (m_hd) (m_ft) (m_fa) (m_le) (m_fo) (m_as) (m_fd) (m_bc) (m_bg) (m_bs) (m_be) (m_b0) (m_b1) (m_cm) (m_hc))) := (hP_24.2 (mo) _ h_mo rfl).trans (ho_mo)
          exact hp_vret hx hb hr hlocks hZ ⟨rfl, hP, fx9⟩ dX13_forget_43
        · have c8 : ¬ (24 : Int) ≤ (i).toInt := fun h9 => c8 (hq_lei.mpr h9)
          refine lv_aload_n hx hb dX13_forget_30 rfl (lv_at hl 1 rfl) ?_
          have fx10 : V9 (mo) = some (.inr (13, hm_o q (m_tp) (m_sz) (m_fr) (m_bh) (m_hd) (m_ft) (m_fa) (m_le) (m_fo) (m_as) (m_fd) (m_bc) (m_bg) (m_bs) (m_be) (m_b0) (m_b1) (m_cm) (m_hc))) := (hP_24.2 (mo) _ h_mo rfl).trans (ho_mo)
          refine hp_get (v := .ref (q + 43)) hx hb hts hown hZ fx10 fl_X13_280 rfl dX13_forget_31 ?_
          refine lv_iload_n hx hb dX13_forget_34 rfl (lv_at hl 0 rfl) ?_
          refine lv_iconst (v := -1) hx hb dX13_forget_35 (by decide) ?_
          obtain ⟨hN13, g12, eV11, hf14⟩ := hq_o21 hP.1 (hr_43 hR)
          refine hp_iast hx hb hZ eV11 (hq_in (by omega) (by omega)) dX13_forget_36 (fun V15 _ _ e16 o17 hZ => ?_)
          have e16 : V15 (q + 43) = some (.inl (cs 1, 24, .inl (upd (g12) ((i : Int32).toNatClampNeg) (-1)))) := e16
          have hl18 : (-1 : Int32).toInt = -1 := by decide
          have hP := hP.put (hr_43 hR) e16 o17 (hq_c21 (by omega) (hq_upd hf14 (hq_rng _))) rfl
          obtain ⟨y19, ey20⟩ : ∃ y : Int32, y = i + (1) := ⟨_, rfl⟩
          obtain ⟨k21, hk22, b23, b24⟩ := hq_add (i) (1)
          rw [← ey20] at hk22 b23 b24
          have hk22 : (y19).toInt = (i).toInt + (1) + k21 * 4294967296 := hk22
          refine lv_iinc (v := y19) (lv' := [(1, .int (y19)), (0, .ref (mo))]) hx hb dX13_forget_37 hl (k := 0) rfl (by rw [ey20]; rfl) (by decide) rfl (fun ls hl => ?_)
          refine lv_goto (tgt := 24) hx hb dX13_forget_40 (by decide) ?_
          exact ih24 _ (by omega) _ _ _ ls (y19) rfl hZ hP (by omega) (by omega) (lv_sub hl [0, 1] rfl)
    · have c4 : ¬ (480 : Int) ≤ (i).toInt := fun h9 => c4 (hq_lei.mpr h9)
      refine lv_aload_n hx hb dX13_forget_9 rfl (lv_at hl 1 rfl) ?_
      have fx25 : V9 (mo) = some (.inr (13, hm_o q (m_tp) (m_sz) (m_fr) (m_bh) (m_hd) (m_ft) (m_fa) (m_le) (m_fo) (m_as) (m_fd) (m_bc) (m_bg) (m_bs) (m_be) (m_b0) (m_b1) (m_cm) (m_hc))) := (hP_2.2 (mo) _ h_mo rfl).trans (ho_mo)
      refine hp_get (v := .ref (q + 42)) hx hb hts hown hZ fx25 fl_X13_277 rfl dX13_forget_10 ?_
      refine lv_iload_n hx hb dX13_forget_13 rfl (lv_at hl 0 rfl) ?_
      refine lv_iconst (v := 0) hx hb dX13_forget_14 (by decide) ?_
      obtain ⟨hN28, g27, eV26, hf29⟩ := hq_o21 hP.1 (hr_42 hR)
      refine hp_iast hx hb hZ eV26 (hq_in (by omega) (by omega)) dX13_forget_15 (fun V30 _ _ e31 o32 hZ => ?_)
      have e31 : V30 (q + 42) = some (.inl (cs 1, 480, .inl (upd (g27) ((i : Int32).toNatClampNeg) (0)))) := e31
      have hl33 : (0 : Int32).toInt = 0 := by decide
      have hP := hP.put (hr_42 hR) e31 o32 (hq_c21 (by omega) (hq_upd hf29 (hq_rng _))) rfl
      obtain ⟨y34, ey35⟩ : ∃ y : Int32, y = i + (1) := ⟨_, rfl⟩
      obtain ⟨k36, hk37, b38, b39⟩ := hq_add (i) (1)
      rw [← ey35] at hk37 b38 b39
      have hk37 : (y34).toInt = (i).toInt + (1) + k36 * 4294967296 := hk37
      refine lv_iinc (v := y34) (lv' := [(1, .int (y34)), (0, .ref (mo))]) hx hb dX13_forget_16 hl (k := 0) rfl (by rw [ey35]; rfl) (by decide) rfl (fun ls hl => ?_)
      refine lv_goto (tgt := 2) hx hb dX13_forget_19 (by decide) ?_
      exact ih2 _ (by omega) _ _ _ ls (y34) rfl hZ hP (by omega) (by omega) (lv_sub hl [0, 1] rfl)

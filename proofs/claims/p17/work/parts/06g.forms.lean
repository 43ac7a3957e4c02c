set_option maxHeartbeats 4000000 in
set_option maxRecDepth 100000 in
theorem t_X13_beginForm (l : Launch) (D : va_G) (cs : Nat → ClassId) (B : Nat) (G : hq_G) (V : hp_V) (n : Nat) (hI : hq_I cs G V) (q : Nat) (hR : hq_RT G q) (mo : Nat) (h_mo : G mo = some (24, 0, 0, 0)) {m_tp m_sz m_fr m_bh m_hd m_ft m_fa m_le m_fo m_as m_fd m_bc m_bg m_bs m_be m_b0 m_b1 m_cm m_hc : Int32} (ho_mo : V mo = some (.inr (13, hm_o q (m_tp) (m_sz) (m_fr) (m_bh) (m_hd) (m_ft) (m_fa) (m_le) (m_fo) (m_as) (m_fd) (m_bc) (m_bg) (m_bs) (m_be) (m_b0) (m_b1) (m_cm) (m_hc)))) (hi_mo0 : 0 ≤ m_tp.toInt ∧ m_tp.toInt ≤ 4000) (hi_mo1 : 0 ≤ m_sz.toInt ∧ m_sz.toInt ≤ 4000) (hi_mo2 : 0 ≤ m_le.toInt ∧ m_le.toInt ≤ 276) (hi_mo3 : 0 ≤ m_fo.toInt ∧ m_fo.toInt ≤ 4) (hi_mo4 : 0 ≤ m_as.toInt ∧ m_as.toInt ≤ 4000) (hi_mo5 : 0 ≤ m_fd.toInt ∧ m_fd.toInt ≤ 900) (hi_mo6 : 0 ≤ m_cm.toInt ∧ m_cm.toInt ≤ 2) (hi_mo7 : 0 ≤ m_hc.toInt ∧ m_hc.toInt ≤ 1) {ff : Nat → Int32} (ho_ff : V (q + 28) = some (.inl (cs 1, 4, .inl (ff)))) {fr : Nat → Int32} (ho_fr : V (q + 30) = some (.inl (cs 1, 4, .inl (fr)))) (hf : m_fo.toInt ≤ 3) : hp_M l yX13_beginForm cX13_beginForm 1 none ({ frames := 1, cells := 0, slots := 0, locals := 21 }) D cs B V n [.ref (mo)] (hp_QV D cs B (fun V' n' => n = n' ∧ hq_P cs G (fun g => g.1 == 44) V V' ∧ (V' mo = some (.inr (13, hm_o q (m_tp) (m_sz) (m_fr) (m_bh) (m_hd) (m_ft) (m_fa) (m_le) (m_fo) (m_as) (m_fd) (m_bc) (m_bg) (m_bs) (m_be) (m_b0) (m_b1) (m_cm) (m_hc)))) ∧ (∃ ff1 : Nat → Int32, V' (q + 28) = some (.inl (cs 1, 4, .inl (ff1))) ∧ ((ff1 m_fo.toNatClampNeg).toInt = 0 ∧ ∀ j, j ≠ m_fo.toNatClampNeg → ff1 j = ff j)) ∧ (∃ fr1 : Nat → Int32, V' (q + 30) = some (.inl (cs 1, 4, .inl (fr1))) ∧ ((fr1 m_fo.toNatClampNeg).toInt = 0 ∧ ∀ j, j ≠ m_fo.toNatClampNeg → fr1 j = fr j)))) 0 0 := by
  refine hp_walk (R0 := RX13) (by decide) rfl ?_ (Nat.le_of_ble_eq_true rfl)
  intro p e s m below meth c ls hx hb hr hts hown hlocks hin hml hZ hl
  have hP : hq_P cs G (fun g => g.1 == 44) V V := hq_P.rf hI
  have hl : lv_has ls 1 [(0, .ref (mo))] := hl
  have hb_m_tp := hq_rng m_tp
  have hb_m_sz := hq_rng m_sz
  have hb_m_fr := hq_rng m_fr
  have hb_m_bh := hq_rng m_bh
  have hb_m_hd := hq_rng m_hd
  have hb_m_ft := hq_rng m_ft
  have hb_m_fa := hq_rng m_fa
  have hb_m_le := hq_rng m_le
  have hb_m_fo := hq_rng m_fo
  have hb_m_as := hq_rng m_as
  have hb_m_fd := hq_rng m_fd
  have hb_m_bc := hq_rng m_bc
  have hb_m_bg := hq_rng m_bg
  have hb_m_bs := hq_rng m_bs
  have hb_m_be := hq_rng m_be
  have hb_m_b0 := hq_rng m_b0
  have hb_m_b1 := hq_rng m_b1
  have hb_m_cm := hq_rng m_cm
  have hb_m_hc := hq_rng m_hc
  have hf_ff := hq_rg hI (hr_28 hR) ho_ff
  have hf_fr := hq_rg hI (hr_30 hR) ho_fr
  refine lv_aload_n hx hb dX13_beginForm_0 rfl (lv_at hl 0 rfl) ?_
  refine hp_get (v := .ref (q + 28)) hx hb hts hown hZ ho_mo fl_X13_235 rfl dX13_beginForm_1 ?_
  refine lv_aload_n hx hb dX13_beginForm_4 rfl (lv_at hl 0 rfl) ?_
  refine hp_get (v := .int (m_fo)) hx hb hts hown hZ ho_mo fl_X13_344 rfl dX13_beginForm_5 ?_
  refine lv_iconst (v := 0) hx hb dX13_beginForm_8 (by decide) ?_
  refine hp_iast hx hb hZ ho_ff (hq_in (by omega) (by omega)) dX13_beginForm_9 (fun V1 _ _ e2 o3 hZ => ?_)
  have e2 : V1 (q + 28) = some (.inl (cs 1, 4, .inl (upd (ff) ((m_fo : Int32).toNatClampNeg) (0)))) := e2
  have hl4 : (0 : Int32).toInt = 0 := by decide
  have hP := hP.put (hr_28 hR) e2 o3 (hq_c21 (by omega) (hq_upd hf_ff (show 0 ≤ _ ∧ _ ≤ 61 by constructor <;> omega))) rfl
  obtain ⟨g5, ge6⟩ : ∃ g9 : Nat → Int32, g9 = upd (ff) ((m_fo : Int32).toNatClampNeg) (0) := ⟨_, rfl⟩
  have fx8 : V1 (q + 28) = some (.inl (cs 1, 4, .inl (g5))) := by rw [ge6]; exact e2
  have hf7 := hq_rg hP.1 (hr_28 hR) fx8
  have b9 : (g5 (m_fo : Int32).toNatClampNeg).toInt = (0 : Int32).toInt := congrArg Int32.toInt ((congrFun ge6 _).trans hm_ue)
  have b10 : (0 : Int32).toInt = 0 := by decide
  refine lv_aload_n hx hb dX13_beginForm_10 rfl (lv_at hl 0 rfl) ?_
  have fx11 : V1 (mo) = some (.inr (13, hm_o q (m_tp) (m_sz) (m_fr) (m_bh) (m_hd) (m_ft) (m_fa) (m_le) (m_fo) (m_as) (m_fd) (m_bc) (m_bg) (m_bs) (m_be) (m_b0) (m_b1) (m_cm) (m_hc))) := (o3 (mo) (hq_tne h_mo (hr_28 hR) (by simp))).trans (ho_mo)
  refine hp_get (v := .ref (q + 30)) hx hb hts hown hZ fx11 fl_X13_241 rfl dX13_beginForm_11 ?_
  refine lv_aload_n hx hb dX13_beginForm_14 rfl (lv_at hl 0 rfl) ?_
  refine hp_get (v := .int (m_fo)) hx hb hts hown hZ fx11 fl_X13_344 rfl dX13_beginForm_15 ?_
  refine lv_iconst (v := 0) hx hb dX13_beginForm_18 (by decide) ?_
  have fx12 : V1 (q + 30) = some (.inl (cs 1, 4, .inl (fr))) := (o3 (q + 30) (hq_ne q 30 28 (by decide))).trans (ho_fr)
  refine hp_iast hx hb hZ fx12 (hq_in (by omega) (by omega)) dX13_beginForm_19 (fun V13 _ _ e14 o15 hZ => ?_)
  have e14 : V13 (q + 30) = some (.inl (cs 1, 4, .inl (upd (fr) ((m_fo : Int32).toNatClampNeg) (0)))) := e14
  have hl16 : (0 : Int32).toInt = 0 := by decide
  have hP := hP.put (hr_30 hR) e14 o15 (hq_c21 (by omega) (hq_upd hf_fr (show 0 ≤ _ ∧ _ ≤ 140 by constructor <;> omega))) rfl
  obtain ⟨g17, ge18⟩ : ∃ g9 : Nat → Int32, g9 = upd (fr) ((m_fo : Int32).toNatClampNeg) (0) := ⟨_, rfl⟩
  have fx20 : V13 (q + 30) = some (.inl (cs 1, 4, .inl (g17))) := by rw [ge18]; exact e14
  have hf19 := hq_rg hP.1 (hr_30 hR) fx20
  have b21 : (g17 (m_fo : Int32).toNatClampNeg).toInt = (0 : Int32).toInt := congrArg Int32.toInt ((congrFun ge18 _).trans hm_ue)
  have b22 : (0 : Int32).toInt = 0 := by decide
  have fx23 : V13 (mo) = some (.inr (13, hm_o q (m_tp) (m_sz) (m_fr) (m_bh) (m_hd) (m_ft) (m_fa) (m_le) (m_fo) (m_as) (m_fd) (m_bc) (m_bg) (m_bs) (m_be) (m_b0) (m_b1) (m_cm) (m_hc))) := (o15 (mo) (hq_tne h_mo (hr_30 hR) (by simp))).trans (fx11)
  have fx24 : V13 (q + 28) = some (.inl (cs 1, 4, .inl (g5))) := (o15 (q + 28) (hq_ne q 28 30 (by decide))).trans (fx8)
  exact hp_vret hx hb hr hlocks hZ ⟨rfl, hP, fx23, ⟨g5, fx24, ⟨by omega, fun j hj => (congrFun ge6 j).trans (hm_un hj)⟩⟩, ⟨g17, fx20, ⟨by omega, fun j hj => (congrFun ge18 j).trans (hm_un hj)⟩⟩⟩ dX13_beginForm_20

set_option maxHeartbeats 4000000 in
set_option maxRecDepth 100000 in
theorem t_X13_say (l : Launch) (D : va_G) (cs : Nat → ClassId) (B : Nat) (G : hq_G) (V : hp_V) (n : Nat) (hI : hq_I cs G V) (q : Nat) (hR : hq_RT G q) (mo : Nat) (h_mo : G mo = some (24, 0, 0, 0)) (k : Int32) {m_tp m_sz m_fr m_bh m_hd m_ft m_fa m_le m_fo m_as m_fd m_bc m_bg m_bs m_be m_b0 m_b1 m_cm m_hc : Int32} (ho_mo : V mo = some (.inr (13, hm_o q (m_tp) (m_sz) (m_fr) (m_bh) (m_hd) (m_ft) (m_fa) (m_le) (m_fo) (m_as) (m_fd) (m_bc) (m_bg) (m_bs) (m_be) (m_b0) (m_b1) (m_cm) (m_hc)))) (hi_mo0 : 0 ≤ m_tp.toInt ∧ m_tp.toInt ≤ 4000) (hi_mo1 : 0 ≤ m_sz.toInt ∧ m_sz.toInt ≤ 4000) (hi_mo2 : 0 ≤ m_le.toInt ∧ m_le.toInt ≤ 276) (hi_mo3 : 0 ≤ m_fo.toInt ∧ m_fo.toInt ≤ 4) (hi_mo4 : 0 ≤ m_as.toInt ∧ m_as.toInt ≤ 4000) (hi_mo5 : 0 ≤ m_fd.toInt ∧ m_fd.toInt ≤ 900) (hi_mo6 : 0 ≤ m_cm.toInt ∧ m_cm.toInt ≤ 2) (hi_mo7 : 0 ≤ m_hc.toInt ∧ m_hc.toInt ≤ 1) {ff : Nat → Int32} (ho_ff : V (q + 28) = some (.inl (cs 1, 4, .inl (ff)))) {fr : Nat → Int32} (ho_fr : V (q + 30) = some (.inl (cs 1, 4, .inl (fr)))) (hf : m_fo.toInt ≤ 3) (hz : (ff m_fo.toNatClampNeg).toInt ≤ 60) : hp_M l yX13_say cX13_say 2 none ({ frames := 1, cells := 0, slots := 0, locals := 21 }) D cs B V n [.ref (mo), .int (k)] (hp_QV D cs B (fun V' n' => n = n' ∧ hq_P cs G (fun g => g.1 == 44) V V' ∧ (V' mo = some (.inr (13, hm_o q (m_tp) (m_sz) (m_fr) (m_bh) (m_hd) (m_ft) (m_fa) (m_le) (m_fo) (m_as) (m_fd) (m_bc) (m_bg) (m_bs) (m_be) (m_b0) (m_b1) (m_cm) (m_hc)))) ∧ (∃ ff1 : Nat → Int32, V' (q + 28) = some (.inl (cs 1, 4, .inl (ff1))) ∧ ((ff1 m_fo.toNatClampNeg).toInt = (ff m_fo.toNatClampNeg).toInt + 1 ∧ ∀ j, j ≠ m_fo.toNatClampNeg → ff1 j = ff j)) ∧ (V' (q + 30) = some (.inl (cs 1, 4, .inl (fr)))))) 0 0 := by
  refine hp_walk (R0 := RX13) (by decide) rfl ?_ (Nat.le_of_ble_eq_true rfl)
  intro p e s m below meth c ls hx hb hr hts hown hlocks hin hml hZ hl
  have hP : hq_P cs G (fun g => g.1 == 44) V V := hq_P.rf hI
  have hl : lv_has ls 2 [(0, .ref (mo)), (1, .int (k))] := hl
  have hb_k := hq_rng k
  have hb_m_tp := hq_rng m_tp
  have hb_m_sz := hq_rng m_sz
  have hb_m_fr := hq_rng m_fr
  have hb_m_bh := hq_rng m_bh
  have hb_m_hd := hq_rng m_hd
  have hb_m_ft := hq_rng m_ft
  have hb_m_fa := hq_rng m_fa
  have hb_m_le := hq_rng m_le
  have hb_m_fo := hq_rng m_fo
  have hb_m_as := hq_rng m_as
  have hb_m_fd := hq_rng m_fd
  have hb_m_bc := hq_rng m_bc
  have hb_m_bg := hq_rng m_bg
  have hb_m_bs := hq_rng m_bs
  have hb_m_be := hq_rng m_be
  have hb_m_b0 := hq_rng m_b0
  have hb_m_b1 := hq_rng m_b1
  have hb_m_cm := hq_rng m_cm
  have hb_m_hc := hq_rng m_hc
  have hf_ff := hq_rg hI (hr_28 hR) ho_ff
  have hf_fr := hq_rg hI (hr_30 hR) ho_fr
  refine lv_aload_n hx hb dX13_say_0 rfl (lv_at hl 0 rfl) ?_
  refine hp_get (v := .ref (q + 25)) hx hb hts hown hZ ho_mo fl_X13_226 rfl dX13_say_1 ?_
  refine lv_bipush (v := 61) hx hb dX13_say_4 (by decide) ?_
  refine lv_aload_n hx hb dX13_say_6 rfl (lv_at hl 0 rfl) ?_
  refine hp_get (v := .int (m_fo)) hx hb hts hown hZ ho_mo fl_X13_344 rfl dX13_say_7 ?_
  refine lv_imul hx hb dX13_say_10 ?_
  refine lv_topi (fun y1 ey2 => ?_)
  obtain ⟨k3, hk4, b5, b6⟩ := hq_mul (61) (m_fo)
  rw [← ey2] at hk4 b5 b6
  have hk4 : (y1).toInt = (61 : Int) * (m_fo).toInt + k3 * 4294967296 := hk4
  obtain rfl : k3 = 0 := by omega
  refine lv_aload_n hx hb dX13_say_11 rfl (lv_at hl 0 rfl) ?_
  refine hp_get (v := .ref (q + 28)) hx hb hts hown hZ ho_mo fl_X13_235 rfl dX13_say_12 ?_
  refine lv_aload_n hx hb dX13_say_15 rfl (lv_at hl 0 rfl) ?_
  refine hp_get (v := .int (m_fo)) hx hb hts hown hZ ho_mo fl_X13_344 rfl dX13_say_16 ?_
  refine hp_iald hx hb hZ ho_ff (hq_in (by omega) (by omega)) dX13_say_19 ?_
  refine lv_topi (fun y7 ey8 => ?_)
  have b10 : (y7).toInt = ((ff) (m_fo : Int32).toNatClampNeg).toInt := by rw [ey8]
  have b9 : hq_ir (hq_lo 6) (hq_hi 6) y7 := by rw [ey8]; exact hf_ff _ (hq_ix (by omega) (by omega))
  have b9 : 0 ≤ (y7).toInt ∧ (y7).toInt ≤ 61 := b9
  refine lv_iadd hx hb dX13_say_20 ?_
  refine lv_topi (fun y11 ey12 => ?_)
  obtain ⟨k13, hk14, b15, b16⟩ := hq_add (y1) (y7)
  rw [← ey12] at hk14 b15 b16
  have hk14 : (y11).toInt = (y1).toInt + (y7).toInt + k13 * 4294967296 := hk14
  obtain rfl : k13 = 0 := by omega
  refine lv_iload_n hx hb dX13_say_21 rfl (lv_at hl 1 rfl) ?_
  refine lv_i2b (v := (k).toInt8.toInt32) hx hb dX13_say_22 rfl ?_
  refine lv_topi (fun y17 ey18 => ?_)
  have b19 := hq_rng y17
  obtain ⟨hN22, g21, eV20⟩ := hq_o20 hP.1 (hr_25 hR)
  refine hp_bast hx hb hZ eV20 (hq_in (by omega) (by omega)) dX13_say_23 (fun V24 _ _ e25 o26 hZ => ?_)
  have e25 : V24 (q + 25) = some (.inl (cs 0, 244, .inl (upd (g21) ((y11 : Int32).toNatClampNeg) ((y17 : Int32).toInt8.toInt32)))) := e25
  have hP := hP.put (hr_25 hR) e25 o26 (hq_c20 (by omega)) rfl
  refine lv_aload_n hx hb dX13_say_24 rfl (lv_at hl 0 rfl) ?_
  have fx27 : V24 (mo) = some (.inr (13, hm_o q (m_tp) (m_sz) (m_fr) (m_bh) (m_hd) (m_ft) (m_fa) (m_le) (m_fo) (m_as) (m_fd) (m_bc) (m_bg) (m_bs) (m_be) (m_b0) (m_b1) (m_cm) (m_hc))) := (o26 (mo) (hq_tne h_mo (hr_25 hR) (by simp))).trans (ho_mo)
  refine hp_get (v := .ref (q + 28)) hx hb hts hown hZ fx27 fl_X13_235 rfl dX13_say_25 ?_
  refine lv_aload_n hx hb dX13_say_28 rfl (lv_at hl 0 rfl) ?_
  refine hp_get (v := .int (m_fo)) hx hb hts hown hZ fx27 fl_X13_344 rfl dX13_say_29 ?_
  refine lv_dup2_11 hx hb dX13_say_32 rfl rfl ?_
  have fx28 : V24 (q + 28) = some (.inl (cs 1, 4, .inl (ff))) := (o26 (q + 28) (hq_ne q 28 25 (by decide))).trans (ho_ff)
  refine hp_iald hx hb hZ fx28 (hq_in (by omega) (by omega)) dX13_say_33 ?_
  refine lv_topi (fun y29 ey30 => ?_)
  have b32 : (y29).toInt = ((ff) (m_fo : Int32).toNatClampNeg).toInt := by rw [ey30]
  have b31 : hq_ir (hq_lo 6) (hq_hi 6) y29 := by rw [ey30]; exact hf_ff _ (hq_ix (by omega) (by omega))
  have b31 : 0 ≤ (y29).toInt ∧ (y29).toInt ≤ 61 := b31
  refine lv_iconst (v := 1) hx hb dX13_say_34 (by decide) ?_
  refine lv_iadd hx hb dX13_say_35 ?_
  refine lv_topi (fun y33 ey34 => ?_)
  obtain ⟨k35, hk36, b37, b38⟩ := hq_add (y29) (1)
  rw [← ey34] at hk36 b37 b38
  have hk36 : (y33).toInt = (y29).toInt + (1 : Int) + k35 * 4294967296 := hk36
  obtain rfl : k35 = 0 := by omega
  refine hp_iast hx hb hZ fx28 (hq_in (by omega) (by omega)) dX13_say_36 (fun V39 _ _ e40 o41 hZ => ?_)
  have e40 : V39 (q + 28) = some (.inl (cs 1, 4, .inl (upd (ff) ((m_fo : Int32).toNatClampNeg) (y33)))) := e40
  have hP := hP.put (hr_28 hR) e40 o41 (hq_c21 (by omega) (hq_upd hf_ff (show 0 ≤ _ ∧ _ ≤ 61 by constructor <;> omega))) rfl
  obtain ⟨g42, ge43⟩ : ∃ g9 : Nat → Int32, g9 = upd (ff) ((m_fo : Int32).toNatClampNeg) (y33) := ⟨_, rfl⟩
  have fx45 : V39 (q + 28) = some (.inl (cs 1, 4, .inl (g42))) := by rw [ge43]; exact e40
  have hf44 := hq_rg hP.1 (hr_28 hR) fx45
  have b46 : (g42 (m_fo : Int32).toNatClampNeg).toInt = (y33 : Int32).toInt := congrArg Int32.toInt ((congrFun ge43 _).trans hm_ue)
  have fx47 : V39 (mo) = some (.inr (13, hm_o q (m_tp) (m_sz) (m_fr) (m_bh) (m_hd) (m_ft) (m_fa) (m_le) (m_fo) (m_as) (m_fd) (m_bc) (m_bg) (m_bs) (m_be) (m_b0) (m_b1) (m_cm) (m_hc))) := (o41 (mo) (hq_tne h_mo (hr_28 hR) (by simp))).trans (fx27)
  have fx48 : V39 (q + 30) = some (.inl (cs 1, 4, .inl (fr))) := (o41 (q + 30) (hq_ne q 30 28 (by decide))).trans ((o26 (q + 30) (hq_ne q 30 25 (by decide))).trans (ho_fr))
  exact hp_vret hx hb hr hlocks hZ ⟨rfl, hP, fx47, ⟨g42, fx45, ⟨by omega, fun j hj => (congrFun ge43 j).trans (hm_un hj)⟩⟩, fx48⟩ dX13_say_37

set_option maxHeartbeats 4000000 in
set_option maxRecDepth 100000 in
theorem t_X13_note (l : Launch) (D : va_G) (cs : Nat → ClassId) (B : Nat) (G : hq_G) (V : hp_V) (n : Nat) (hI : hq_I cs G V) (q : Nat) (hR : hq_RT G q) (mo : Nat) (h_mo : G mo = some (24, 0, 0, 0)) (k : Int32) {m_tp m_sz m_fr m_bh m_hd m_ft m_fa m_le m_fo m_as m_fd m_bc m_bg m_bs m_be m_b0 m_b1 m_cm m_hc : Int32} (ho_mo : V mo = some (.inr (13, hm_o q (m_tp) (m_sz) (m_fr) (m_bh) (m_hd) (m_ft) (m_fa) (m_le) (m_fo) (m_as) (m_fd) (m_bc) (m_bg) (m_bs) (m_be) (m_b0) (m_b1) (m_cm) (m_hc)))) (hi_mo0 : 0 ≤ m_tp.toInt ∧ m_tp.toInt ≤ 4000) (hi_mo1 : 0 ≤ m_sz.toInt ∧ m_sz.toInt ≤ 4000) (hi_mo2 : 0 ≤ m_le.toInt ∧ m_le.toInt ≤ 276) (hi_mo3 : 0 ≤ m_fo.toInt ∧ m_fo.toInt ≤ 4) (hi_mo4 : 0 ≤ m_as.toInt ∧ m_as.toInt ≤ 4000) (hi_mo5 : 0 ≤ m_fd.toInt ∧ m_fd.toInt ≤ 900) (hi_mo6 : 0 ≤ m_cm.toInt ∧ m_cm.toInt ≤ 2) (hi_mo7 : 0 ≤ m_hc.toInt ∧ m_hc.toInt ≤ 1) {ff : Nat → Int32} (ho_ff : V (q + 28) = some (.inl (cs 1, 4, .inl (ff)))) {fr : Nat → Int32} (ho_fr : V (q + 30) = some (.inl (cs 1, 4, .inl (fr)))) (hf : m_fo.toInt ≤ 3) (hz : (fr m_fo.toNatClampNeg).toInt ≤ 139) (hk0 : 0 ≤ k.toInt) (hk1 : k.toInt < 60) : hp_M l yX13_note cX13_note 2 none ({ frames := 1, cells := 0, slots := 0, locals := 21 }) D cs B V n [.ref (mo), .int (k)] (hp_QV D cs B (fun V' n' => n = n' ∧ hq_P cs G (fun g => g.1 == 44) V V' ∧ (V' mo = some (.inr (13, hm_o q (m_tp) (m_sz) (m_fr) (m_bh) (m_hd) (m_ft) (m_fa) (m_le) (m_fo) (m_as) (m_fd) (m_bc) (m_bg) (m_bs) (m_be) (m_b0) (m_b1) (m_cm) (m_hc)))) ∧ (V' (q + 28) = some (.inl (cs 1, 4, .inl (ff)))) ∧ (∃ fr1 : Nat → Int32, V' (q + 30) = some (.inl (cs 1, 4, .inl (fr1))) ∧ ((fr1 m_fo.toNatClampNeg).toInt = (fr m_fo.toNatClampNeg).toInt + 1 ∧ ∀ j, j ≠ m_fo.toNatClampNeg → fr1 j = fr j)))) 0 0 := by
  refine hp_walk (R0 := RX13) (by decide) rfl ?_ (Nat.le_of_ble_eq_true rfl)
  intro p e s m below meth c ls hx hb hr hts hown hlocks hin hml hZ hl
  have hP : hq_P cs G (fun g => g.1 == 44) V V := hq_P.rf hI
  have hl : lv_has ls 2 [(0, .ref (mo)), (1, .int (k))] := hl
  have hb_k := hq_rng k
  have hb_m_tp := hq_rng m_tp
  have hb_m_sz := hq_rng m_sz
  have hb_m_fr := hq_rng m_fr
  have hb_m_bh := hq_rng m_bh
  have hb_m_hd := hq_rng m_hd
  have hb_m_ft := hq_rng m_ft
  have hb_m_fa := hq_rng m_fa
  have hb_m_le := hq_rng m_le
  have hb_m_fo := hq_rng m_fo
  have hb_m_as := hq_rng m_as
  have hb_m_fd := hq_rng m_fd
  have hb_m_bc := hq_rng m_bc
  have hb_m_bg := hq_rng m_bg
  have hb_m_bs := hq_rng m_bs
  have hb_m_be := hq_rng m_be
  have hb_m_b0 := hq_rng m_b0
  have hb_m_b1 := hq_rng m_b1
  have hb_m_cm := hq_rng m_cm
  have hb_m_hc := hq_rng m_hc
  have hf_ff := hq_rg hI (hr_28 hR) ho_ff
  have hf_fr := hq_rg hI (hr_30 hR) ho_fr
  refine lv_aload_n hx hb dX13_note_0 rfl (lv_at hl 0 rfl) ?_
  refine hp_get (v := .ref (q + 29)) hx hb hts hown hZ ho_mo fl_X13_238 rfl dX13_note_1 ?_
  refine lv_sipush (v := 140) hx hb dX13_note_4 (by decide) ?_
  refine lv_aload_n hx hb dX13_note_7 rfl (lv_at hl 0 rfl) ?_
  refine hp_get (v := .int (m_fo)) hx hb hts hown hZ ho_mo fl_X13_344 rfl dX13_note_8 ?_
  refine lv_imul hx hb dX13_note_11 ?_
  refine lv_topi (fun y1 ey2 => ?_)
  obtain ⟨k3, hk4, b5, b6⟩ := hq_mul (140) (m_fo)
  rw [← ey2] at hk4 b5 b6
  have hk4 : (y1).toInt = (140 : Int) * (m_fo).toInt + k3 * 4294967296 := hk4
  obtain rfl : k3 = 0 := by omega
  refine lv_aload_n hx hb dX13_note_12 rfl (lv_at hl 0 rfl) ?_
  refine hp_get (v := .ref (q + 30)) hx hb hts hown hZ ho_mo fl_X13_241 rfl dX13_note_13 ?_
  refine lv_aload_n hx hb dX13_note_16 rfl (lv_at hl 0 rfl) ?_
  refine hp_get (v := .int (m_fo)) hx hb hts hown hZ ho_mo fl_X13_344 rfl dX13_note_17 ?_
  refine hp_iald hx hb hZ ho_fr (hq_in (by omega) (by omega)) dX13_note_20 ?_
  refine lv_topi (fun y7 ey8 => ?_)
  have b10 : (y7).toInt = ((fr) (m_fo : Int32).toNatClampNeg).toInt := by rw [ey8]
  have b9 : hq_ir (hq_lo 7) (hq_hi 7) y7 := by rw [ey8]; exact hf_fr _ (hq_ix (by omega) (by omega))
  have b9 : 0 ≤ (y7).toInt ∧ (y7).toInt ≤ 140 := b9
  refine lv_iadd hx hb dX13_note_21 ?_
  refine lv_topi (fun y11 ey12 => ?_)
  obtain ⟨k13, hk14, b15, b16⟩ := hq_add (y1) (y7)
  rw [← ey12] at hk14 b15 b16
  have hk14 : (y11).toInt = (y1).toInt + (y7).toInt + k13 * 4294967296 := hk14
  obtain rfl : k13 = 0 := by omega
  refine lv_iload_n hx hb dX13_note_22 rfl (lv_at hl 1 rfl) ?_
  obtain ⟨hN19, g18, eV17, hf20⟩ := hq_o21 hP.1 (hr_29 hR)
  refine hp_iast hx hb hZ eV17 (hq_in (by omega) (by omega)) dX13_note_23 (fun V21 _ _ e22 o23 hZ => ?_)
  have e22 : V21 (q + 29) = some (.inl (cs 1, 560, .inl (upd (g18) ((y11 : Int32).toNatClampNeg) (k)))) := e22
  have hP := hP.put (hr_29 hR) e22 o23 (hq_c21 (by omega) (hq_upd hf20 (show 0 ≤ _ ∧ _ ≤ 59 by constructor <;> omega))) rfl
  refine lv_aload_n hx hb dX13_note_24 rfl (lv_at hl 0 rfl) ?_
  have fx24 : V21 (mo) = some (.inr (13, hm_o q (m_tp) (m_sz) (m_fr) (m_bh) (m_hd) (m_ft) (m_fa) (m_le) (m_fo) (m_as) (m_fd) (m_bc) (m_bg) (m_bs) (m_be) (m_b0) (m_b1) (m_cm) (m_hc))) := (o23 (mo) (hq_tne h_mo (hr_29 hR) (by simp))).trans (ho_mo)
  refine hp_get (v := .ref (q + 30)) hx hb hts hown hZ fx24 fl_X13_241 rfl dX13_note_25 ?_
  refine lv_aload_n hx hb dX13_note_28 rfl (lv_at hl 0 rfl) ?_
  refine hp_get (v := .int (m_fo)) hx hb hts hown hZ fx24 fl_X13_344 rfl dX13_note_29 ?_
  refine lv_dup2_11 hx hb dX13_note_32 rfl rfl ?_
  have fx25 : V21 (q + 30) = some (.inl (cs 1, 4, .inl (fr))) := (o23 (q + 30) (hq_ne q 30 29 (by decide))).trans (ho_fr)
  refine hp_iald hx hb hZ fx25 (hq_in (by omega) (by omega)) dX13_note_33 ?_
  refine lv_topi (fun y26 ey27 => ?_)
  have b29 : (y26).toInt = ((fr) (m_fo : Int32).toNatClampNeg).toInt := by rw [ey27]
  have b28 : hq_ir (hq_lo 7) (hq_hi 7) y26 := by rw [ey27]; exact hf_fr _ (hq_ix (by omega) (by omega))
  have b28 : 0 ≤ (y26).toInt ∧ (y26).toInt ≤ 140 := b28
  refine lv_iconst (v := 1) hx hb dX13_note_34 (by decide) ?_
  refine lv_iadd hx hb dX13_note_35 ?_
  refine lv_topi (fun y30 ey31 => ?_)
  obtain ⟨k32, hk33, b34, b35⟩ := hq_add (y26) (1)
  rw [← ey31] at hk33 b34 b35
  have hk33 : (y30).toInt = (y26).toInt + (1 : Int) + k32 * 4294967296 := hk33
  obtain rfl : k32 = 0 := by omega
  refine hp_iast hx hb hZ fx25 (hq_in (by omega) (by omega)) dX13_note_36 (fun V36 _ _ e37 o38 hZ => ?_)
  have e37 : V36 (q + 30) = some (.inl (cs 1, 4, .inl (upd (fr) ((m_fo : Int32).toNatClampNeg) (y30)))) := e37
  have hP := hP.put (hr_30 hR) e37 o38 (hq_c21 (by omega) (hq_upd hf_fr (show 0 ≤ _ ∧ _ ≤ 140 by constructor <;> omega))) rfl
  obtain ⟨g39, ge40⟩ : ∃ g9 : Nat → Int32, g9 = upd (fr) ((m_fo : Int32).toNatClampNeg) (y30) := ⟨_, rfl⟩
  have fx42 : V36 (q + 30) = some (.inl (cs 1, 4, .inl (g39))) := by rw [ge40]; exact e37
  have hf41 := hq_rg hP.1 (hr_30 hR) fx42
  have b43 : (g39 (m_fo : Int32).toNatClampNeg).toInt = (y30 : Int32).toInt := congrArg Int32.toInt ((congrFun ge40 _).trans hm_ue)
  have fx44 : V36 (mo) = some (.inr (13, hm_o q (m_tp) (m_sz) (m_fr) (m_bh) (m_hd) (m_ft) (m_fa) (m_le) (m_fo) (m_as) (m_fd) (m_bc) (m_bg) (m_bs) (m_be) (m_b0) (m_b1) (m_cm) (m_hc))) := (o38 (mo) (hq_tne h_mo (hr_30 hR) (by simp))).trans (fx24)
  have fx45 : V36 (q + 28) = some (.inl (cs 1, 4, .inl (ff))) := (o38 (q + 28) (hq_ne q 28 30 (by decide))).trans ((o23 (q + 28) (hq_ne q 28 29 (by decide))).trans (ho_ff))
  exact hp_vret hx hb hr hlocks hZ ⟨rfl, hP, fx44, fx45, ⟨g39, fx42, ⟨by omega, fun j hj => (congrFun ge40 j).trans (hm_un hj)⟩⟩⟩ dX13_note_37

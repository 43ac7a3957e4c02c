set_option maxHeartbeats 4000000 in
set_option maxRecDepth 100000 in
theorem y_bf (l : Launch) (D : va_G) (cs : Nat → ClassId) (B : Nat) (G : hq_G) (V : hp_V) (n : Nat) (hI : hq_I cs G V) (q : Nat) (mo : Nat) (m_tp : Int32) (m_sz : Int32) (m_fr : Int32) (m_bh : Int32) (m_hd : Int32) (m_ft : Int32) (m_fa : Int32) (m_le : Int32) (m_fo : Int32) (m_as : Int32) (m_fd : Int32) (m_bc : Int32) (m_bg : Int32) (m_bs : Int32) (m_be : Int32) (m_b0 : Int32) (m_b1 : Int32) (m_cm : Int32) (m_hc : Int32) (fs : Nat → Int32) (ft : Nat → Int32) (rs : Nat → Int32) (L : List (List Int)) (hc0 : V (mo) = some (.inr (13, hm_o q (m_tp) (m_sz) (m_fr) (m_bh) (m_hd) (m_ft) (m_fa) (m_le) (m_fo) (m_as) (m_fd) (m_bc) (m_bg) (m_bs) (m_be) (m_b0) (m_b1) (m_cm) (m_hc)))) (hc1 : V (q + 28) = some (.inl (cs 1, 4, .inl (fs)))) (hc2 : V (q + 30) = some (.inl (cs 1, 4, .inl (rs)))) (hR : hq_RT G q) (hmo : G mo = some (24, 0, 0, 0)) (hmq : mo < q) (hL : sp_fo m_fo fs ft L) (hln : L.length ≤ 3) : hp_M l yX13_beginForm cX13_beginForm 1 none ({ frames := 1, cells := 0, slots := 0, locals := 21 }) D cs B V n [.ref (mo)] (hp_QV D cs B (fun V' n' => n = n' ∧ hq_P cs G (fun _ => true) V V' ∧ (∀ x, x ≠ q + 28 → x ≠ q + 30 → V' x = V x) ∧ (∃ fs1 : Nat → Int32, ∃ rs1 : Nat → Int32, V' (q + 28) = some (.inl (cs 1, 4, .inl (fs1))) ∧ V' (q + 30) = some (.inl (cs 1, 4, .inl (rs1))) ∧ (sp_fc m_fo fs1 ft L []) ∧ ((rs1 (m_fo).toNatClampNeg).toInt = 0)))) 0 0 := by
  refine hp_walk (R0 := RX13) (by decide) rfl ?_ (Nat.le_of_ble_eq_true rfl)
  intro p e s m below meth c ls hx hb hr hts hown hlocks hin hml hZ hl
  have hP : hq_P cs G (fun _ => true) V V := hq_P.rf hI
  have hl : lv_has ls 1 [(0, .ref (mo))] := hl
  have hb_m_tp := hq_rng m_tp
  have hb_m_sz := hq_rng m_sz
  have hb_m_fr := hq_rng m_fr
  have hb_m_bh := hq_rng m_bh
  have hb_m_hd := hq_rng m_hd
  have hb_m_ft := hq_rng m_ft
  have hb_m_fa := hq_rng m_fa
  have hb_m_le := hq_rng m_le
  have hb_m_fo := hq_rng m_fo
  have hb_m_as := hq_rng m_as
  have hb_m_fd := hq_rng m_fd
  have hb_m_bc := hq_rng m_bc
  have hb_m_bg := hq_rng m_bg
  have hb_m_bs := hq_rng m_bs
  have hb_m_be := hq_rng m_be
  have hb_m_b0 := hq_rng m_b0
  have hb_m_b1 := hq_rng m_b1
  have hb_m_cm := hq_rng m_cm
  have hb_m_hc := hq_rng m_hc
  have hf1 := hq_rg hI (hr_28 hR) hc1
  have hf2 := hq_rg hI (hr_30 hR) hc2
  have hL1 := hL.1
  refine lv_aload_n hx hb dX13_beginForm_0 rfl (lv_at hl 0 rfl) ?_
  refine hp_get (v := .ref (q + 28)) hx hb hts hown hZ hc0 fl_X13_235 rfl dX13_beginForm_1 ?_
  refine lv_aload_n hx hb dX13_beginForm_4 rfl (lv_at hl 0 rfl) ?_
  refine hp_get (v := .int (m_fo)) hx hb hts hown hZ hc0 fl_X13_344 rfl dX13_beginForm_5 ?_
  refine lv_iconst (v := 0) hx hb dX13_beginForm_8 (by decide) ?_
  refine hp_iast hx hb hZ hc1 (hq_in (by omega) (by omega)) dX13_beginForm_9 (fun V3 _ _ e4 o5 hZ => ?_)
  have e4 : V3 (q + 28) = some (.inl (cs 1, 4, .inl (upd (fs) ((m_fo : Int32).toNatClampNeg) (0)))) := e4
  have hl6 : (0 : Int32).toInt = 0 := by decide
  have hP := hP.put (hr_28 hR) e4 o5 (hq_c21 (by omega) (hq_upd hf1 (show 0 ≤ _ ∧ _ ≤ 61 by constructor <;> omega))) rfl
  obtain ⟨g7, ge8⟩ : ∃ g9 : Nat → Int32, g9 = upd (fs) ((m_fo : Int32).toNatClampNeg) (0) := ⟨_, rfl⟩
  have fx9 : V3 (q + 28) = some (.inl (cs 1, 4, .inl (g7))) := by rw [ge8]; exact e4
  have hf10 := hq_rg hP.1 (hr_28 hR) fx9
  refine lv_aload_n hx hb dX13_beginForm_10 rfl (lv_at hl 0 rfl) ?_
  have fx11 : V3 (mo) = some (.inr (13, hm_o q (m_tp) (m_sz) (m_fr) (m_bh) (m_hd) (m_ft) (m_fa) (m_le) (m_fo) (m_as) (m_fd) (m_bc) (m_bg) (m_bs) (m_be) (m_b0) (m_b1) (m_cm) (m_hc))) := (o5 (mo) (hq_tne hmo (hr_28 hR) (by simp))).trans (hc0)
  refine hp_get (v := .ref (q + 30)) hx hb hts hown hZ fx11 fl_X13_241 rfl dX13_beginForm_11 ?_
  refine lv_aload_n hx hb dX13_beginForm_14 rfl (lv_at hl 0 rfl) ?_
  refine hp_get (v := .int (m_fo)) hx hb hts hown hZ fx11 fl_X13_344 rfl dX13_beginForm_15 ?_
  refine lv_iconst (v := 0) hx hb dX13_beginForm_18 (by decide) ?_
  have fx12 : V3 (q + 30) = some (.inl (cs 1, 4, .inl (rs))) := (o5 (q + 30) (hq_tne (hr_30 hR) (hr_28 hR) (by simp))).trans (hc2)
  refine hp_iast hx hb hZ fx12 (hq_in (by omega) (by omega)) dX13_beginForm_19 (fun V13 _ _ e14 o15 hZ => ?_)
  have e14 : V13 (q + 30) = some (.inl (cs 1, 4, .inl (upd (rs) ((m_fo : Int32).toNatClampNeg) (0)))) := e14
  have hl16 : (0 : Int32).toInt = 0 := by decide
  have hP := hP.put (hr_30 hR) e14 o15 (hq_c21 (by omega) (hq_upd hf2 (show 0 ≤ _ ∧ _ ≤ 140 by constructor <;> omega))) rfl
  obtain ⟨g17, ge18⟩ : ∃ g9 : Nat → Int32, g9 = upd (rs) ((m_fo : Int32).toNatClampNeg) (0) := ⟨_, rfl⟩
  have fx19 : V13 (q + 30) = some (.inl (cs 1, 4, .inl (g17))) := by rw [ge18]; exact e14
  have hf20 := hq_rg hP.1 (hr_30 hR) fx19
  have fx21 : V13 (q + 28) = some (.inl (cs 1, 4, .inl (g7))) := (o15 (q + 28) (hq_tne (hr_28 hR) (hr_30 hR) (by simp))).trans (fx9)
  exact hp_vret hx hb hr hlocks hZ ⟨rfl, hP, (fun x8 hne0 hne1 => (o15 x8 hne1).trans (o5 x8 hne0)), g7, g17, fx21, fx19, (by rw [ge8]; exact hL.begin), (by rw [ge18, hm_ue]; rfl)⟩ dX13_beginForm_20

set_option maxHeartbeats 4000000 in
set_option maxRecDepth 100000 in
theorem y_say (l : Launch) (D : va_G) (cs : Nat → ClassId) (B : Nat) (G : hq_G) (V : hp_V) (n : Nat) (hI : hq_I cs G V) (q : Nat) (mo : Nat) (m_tp : Int32) (m_sz : Int32) (m_fr : Int32) (m_bh : Int32) (m_hd : Int32) (m_ft : Int32) (m_fa : Int32) (m_le : Int32) (m_fo : Int32) (m_as : Int32) (m_fd : Int32) (m_bc : Int32) (m_bg : Int32) (m_bs : Int32) (m_be : Int32) (m_b0 : Int32) (m_b1 : Int32) (m_cm : Int32) (m_hc : Int32) (k : Int32) (fs : Nat → Int32) (ft : Nat → Int32) (L : List (List Int)) (u : List Int) (hc0 : V (mo) = some (.inr (13, hm_o q (m_tp) (m_sz) (m_fr) (m_bh) (m_hd) (m_ft) (m_fa) (m_le) (m_fo) (m_as) (m_fd) (m_bc) (m_bg) (m_bs) (m_be) (m_b0) (m_b1) (m_cm) (m_hc)))) (hc1 : V (q + 25) = some (.inl (cs 0, 244, .inl (ft)))) (hc2 : V (q + 28) = some (.inl (cs 1, 4, .inl (fs)))) (hR : hq_RT G q) (hmo : G mo = some (24, 0, 0, 0)) (hmq : mo < q) (hL : sp_fc m_fo fs ft L u) (hln : L.length ≤ 3) (hul : u.length ≤ 60) (hk8 : -128 ≤ k.toInt ∧ k.toInt ≤ 127) : hp_M l yX13_say cX13_say 2 none ({ frames := 1, cells := 0, slots := 0, locals := 21 }) D cs B V n [.ref (mo), .int (k)] (hp_QV D cs B (fun V' n' => n = n' ∧ hq_P cs G (fun _ => true) V V' ∧ (∀ x, x ≠ q + 25 → x ≠ q + 28 → V' x = V x) ∧ (∃ fs1 : Nat → Int32, ∃ ft1 : Nat → Int32, V' (q + 25) = some (.inl (cs 0, 244, .inl (ft1))) ∧ V' (q + 28) = some (.inl (cs 1, 4, .inl (fs1))) ∧ (sp_fc m_fo fs1 ft1 L (u ++ [k.toInt]))))) 0 0 := by
  refine hp_walk (R0 := RX13) (by decide) rfl ?_ (Nat.le_of_ble_eq_true rfl)
  intro p e s m below meth c ls hx hb hr hts hown hlocks hin hml hZ hl
  have hP : hq_P cs G (fun _ => true) V V := hq_P.rf hI
  have hl : lv_has ls 2 [(0, .ref (mo)), (1, .int (k))] := hl
  have hb_m_tp := hq_rng m_tp
  have hb_m_sz := hq_rng m_sz
  have hb_m_fr := hq_rng m_fr
  have hb_m_bh := hq_rng m_bh
  have hb_m_hd := hq_rng m_hd
  have hb_m_ft := hq_rng m_ft
  have hb_m_fa := hq_rng m_fa
  have hb_m_le := hq_rng m_le
  have hb_m_fo := hq_rng m_fo
  have hb_m_as := hq_rng m_as
  have hb_m_fd := hq_rng m_fd
  have hb_m_bc := hq_rng m_bc
  have hb_m_bg := hq_rng m_bg
  have hb_m_bs := hq_rng m_bs
  have hb_m_be := hq_rng m_be
  have hb_m_b0 := hq_rng m_b0
  have hb_m_b1 := hq_rng m_b1
  have hb_m_cm := hq_rng m_cm
  have hb_m_hc := hq_rng m_hc
  have hb_k := hq_rng k
  have hf1 := hq_rg hI (hr_28 hR) hc2
  have hf2 := hq_rg20 hI (hr_25 hR) hc1
  have hL1 := hL.1.1
  have hm9 := (hq_nn (z := m_fo) (by omega)).1
  refine lv_aload_n hx hb dX13_say_0 rfl (lv_at hl 0 rfl) ?_
  refine hp_get (v := .ref (q + 25)) hx hb hts hown hZ hc0 fl_X13_226 rfl dX13_say_1 ?_
  refine lv_bipush (v := 61) hx hb dX13_say_4 (by decide) ?_
  refine lv_aload_n hx hb dX13_say_6 rfl (lv_at hl 0 rfl) ?_
  refine hp_get (v := .int (m_fo)) hx hb hts hown hZ hc0 fl_X13_344 rfl dX13_say_7 ?_
  refine lv_imul hx hb dX13_say_10 ?_
  refine lv_topi (fun y3 ey4 => ?_)
  obtain ⟨k5, hk6, b7, b8⟩ := hq_mul (61) (m_fo)
  rw [← ey4] at hk6 b7 b8
  have hk6 : (y3).toInt = (61 : Int) * (m_fo).toInt + k5 * 4294967296 := hk6
  obtain rfl : k5 = 0 := by omega
  refine lv_aload_n hx hb dX13_say_11 rfl (lv_at hl 0 rfl) ?_
  refine hp_get (v := .ref (q + 28)) hx hb hts hown hZ hc0 fl_X13_235 rfl dX13_say_12 ?_
  refine lv_aload_n hx hb dX13_say_15 rfl (lv_at hl 0 rfl) ?_
  refine hp_get (v := .int (m_fo)) hx hb hts hown hZ hc0 fl_X13_344 rfl dX13_say_16 ?_
  refine hp_iald hx hb hZ hc2 (hq_in (by omega) (by omega)) dX13_say_19 ?_
  refine lv_topi (fun y9 ey10 => ?_)
  have b11 : hq_ir (hq_lo 6) (hq_hi 6) y9 := by rw [ey10]; exact hf1 _ (hq_ix (by omega) (by omega))
  have b11 : 0 ≤ (y9).toInt ∧ (y9).toInt ≤ 61 := b11
  have b12 : (y9).toInt = (u.length : Int) := by rw [ey10]; exact hL.2.1
  refine lv_iadd hx hb dX13_say_20 ?_
  refine lv_topi (fun y13 ey14 => ?_)
  obtain ⟨k15, hk16, b17, b18⟩ := hq_add (y3) (y9)
  rw [← ey14] at hk16 b17 b18
  have hk16 : (y13).toInt = (y3).toInt + (y9).toInt + k15 * 4294967296 := hk16
  obtain rfl : k15 = 0 := by omega
  refine lv_iload_n hx hb dX13_say_21 rfl (lv_at hl 1 rfl) ?_
  refine lv_i2b (v := (k).toInt8.toInt32) hx hb dX13_say_22 rfl ?_
  refine lv_topi (fun y19 ey20 => ?_)
  have b21 := hq_rng y19
  refine hp_bast hx hb hZ hc1 (hq_in (by omega) (by omega)) dX13_say_23 (fun V22 _ _ e23 o24 hZ => ?_)
  have e23 : V22 (q + 25) = some (.inl (cs 0, 244, .inl (upd (ft) ((y13 : Int32).toNatClampNeg) ((y19 : Int32).toInt8.toInt32)))) := e23
  have hP := hP.put (hr_25 hR) e23 o24 (hq_c20 (by omega)) rfl
  obtain ⟨g25, ge26⟩ : ∃ g9 : Nat → Int32, g9 = upd (ft) ((y13 : Int32).toNatClampNeg) ((y19 : Int32).toInt8.toInt32) := ⟨_, rfl⟩
  have fx27 : V22 (q + 25) = some (.inl (cs 0, 244, .inl (g25))) := by rw [ge26]; exact e23
  have hf28 := hq_rg20 hP.1 (hr_25 hR) fx27
  refine lv_aload_n hx hb dX13_say_24 rfl (lv_at hl 0 rfl) ?_
  have fx29 : V22 (mo) = some (.inr (13, hm_o q (m_tp) (m_sz) (m_fr) (m_bh) (m_hd) (m_ft) (m_fa) (m_le) (m_fo) (m_as) (m_fd) (m_bc) (m_bg) (m_bs) (m_be) (m_b0) (m_b1) (m_cm) (m_hc))) := (o24 (mo) (hq_tne hmo (hr_25 hR) (by simp))).trans (hc0)
  refine hp_get (v := .ref (q + 28)) hx hb hts hown hZ fx29 fl_X13_235 rfl dX13_say_25 ?_
  refine lv_aload_n hx hb dX13_say_28 rfl (lv_at hl 0 rfl) ?_
  refine hp_get (v := .int (m_fo)) hx hb hts hown hZ fx29 fl_X13_344 rfl dX13_say_29 ?_
  refine lv_dup2_11 hx hb dX13_say_32 rfl rfl ?_
  have fx30 : V22 (q + 28) = some (.inl (cs 1, 4, .inl (fs))) := (o24 (q + 28) (hq_tne (hr_28 hR) (hr_25 hR) (by simp))).trans (hc2)
  refine hp_iald hx hb hZ fx30 (hq_in (by omega) (by omega)) dX13_say_33 ?_
  refine lv_topi (fun y31 ey32 => ?_)
  have b33 : hq_ir (hq_lo 6) (hq_hi 6) y31 := by rw [ey32]; exact hf1 _ (hq_ix (by omega) (by omega))
  have b33 : 0 ≤ (y31).toInt ∧ (y31).toInt ≤ 61 := b33
  have b34 : (y31).toInt = (u.length : Int) := by rw [ey32]; exact hL.2.1
  refine lv_iconst (v := 1) hx hb dX13_say_34 (by decide) ?_
  refine lv_iadd hx hb dX13_say_35 ?_
  refine lv_topi (fun y35 ey36 => ?_)
  obtain ⟨k37, hk38, b39, b40⟩ := hq_add (y31) (1)
  rw [← ey36] at hk38 b39 b40
  have hk38 : (y35).toInt = (y31).toInt + (1 : Int) + k37 * 4294967296 := hk38
  obtain rfl : k37 = 0 := by omega
  refine hp_iast hx hb hZ fx30 (hq_in (by omega) (by omega)) dX13_say_36 (fun V41 _ _ e42 o43 hZ => ?_)
  have e42 : V41 (q + 28) = some (.inl (cs 1, 4, .inl (upd (fs) ((m_fo : Int32).toNatClampNeg) (y35)))) := e42
  have hP := hP.put (hr_28 hR) e42 o43 (hq_c21 (by omega) (hq_upd hf1 (show 0 ≤ _ ∧ _ ≤ 61 by constructor <;> omega))) rfl
  obtain ⟨g44, ge45⟩ : ∃ g9 : Nat → Int32, g9 = upd (fs) ((m_fo : Int32).toNatClampNeg) (y35) := ⟨_, rfl⟩
  have fx46 : V41 (q + 28) = some (.inl (cs 1, 4, .inl (g44))) := by rw [ge45]; exact e42
  have hf47 := hq_rg hP.1 (hr_28 hR) fx46
  have fx48 : V41 (q + 25) = some (.inl (cs 0, 244, .inl (g25))) := (o43 (q + 25) (hq_tne (hr_25 hR) (hr_28 hR) (by simp))).trans (fx27)
  exact hp_vret hx hb hr hlocks hZ ⟨rfl, hP, (fun x8 hne0 hne1 => (o43 x8 hne1).trans (o24 x8 hne0)), g44, g25, fx48, fx46, (by rw [ge45, ge26, ey20, hx_n88]; exact hL.say (by omega) (by omega) (by have h8 := (hq_nn (z := y13) (by omega)).1; omega) hk8)⟩ dX13_say_37

set_option maxHeartbeats 4000000 in
set_option maxRecDepth 100000 in
theorem y_noteR (l : Launch) (D : va_G) (cs : Nat → ClassId) (B : Nat) (G : hq_G) (V : hp_V) (n : Nat) (hI : hq_I cs G V) (q : Nat) (mo : Nat) (m_tp : Int32) (m_sz : Int32) (m_fr : Int32) (m_bh : Int32) (m_hd : Int32) (m_ft : Int32) (m_fa : Int32) (m_le : Int32) (m_fo : Int32) (m_as : Int32) (m_fd : Int32) (m_bc : Int32) (m_bg : Int32) (m_bs : Int32) (m_be : Int32) (m_b0 : Int32) (m_b1 : Int32) (m_cm : Int32) (m_hc : Int32) (k : Int32) (rwf : Nat → Int32) (rs : Nat → Int32) (hc0 : V (mo) = some (.inr (13, hm_o q (m_tp) (m_sz) (m_fr) (m_bh) (m_hd) (m_ft) (m_fa) (m_le) (m_fo) (m_as) (m_fd) (m_bc) (m_bg) (m_bs) (m_be) (m_b0) (m_b1) (m_cm) (m_hc)))) (hc1 : V (q + 29) = some (.inl (cs 1, 560, .inl (rwf)))) (hc2 : V (q + 30) = some (.inl (cs 1, 4, .inl (rs)))) (hR : hq_RT G q) (hmo : G mo = some (24, 0, 0, 0)) (hmq : mo < q) (hfo : 0 ≤ m_fo.toInt ∧ m_fo.toInt ≤ 3) (hrs : 0 ≤ (rs (m_fo).toNatClampNeg).toInt ∧ (rs (m_fo).toNatClampNeg).toInt ≤ 100) (hk : 0 ≤ k.toInt ∧ k.toInt < 60) : hp_M l yX13_note cX13_note 2 none ({ frames := 1, cells := 0, slots := 0, locals := 21 }) D cs B V n [.ref (mo), .int (k)] (hp_QV D cs B (fun V' n' => n = n' ∧ hq_P cs G (fun _ => true) V V' ∧ (∀ x, x ≠ q + 29 → x ≠ q + 30 → V' x = V x) ∧ (∃ rw1 : Nat → Int32, ∃ rs1 : Nat → Int32, V' (q + 29) = some (.inl (cs 1, 560, .inl (rw1))) ∧ V' (q + 30) = some (.inl (cs 1, 4, .inl (rs1))) ∧ ((rs1 (m_fo).toNatClampNeg).toInt = (rs (m_fo).toNatClampNeg).toInt + 1)))) 0 0 := by
  refine hp_walk (R0 := RX13) (by decide) rfl ?_ (Nat.le_of_ble_eq_true rfl)
  intro p e s m below meth c ls hx hb hr hts hown hlocks hin hml hZ hl
  have hP : hq_P cs G (fun _ => true) V V := hq_P.rf hI
  have hl : lv_has ls 2 [(0, .ref (mo)), (1, .int (k))] := hl
  have hb_m_tp := hq_rng m_tp
  have hb_m_sz := hq_rng m_sz
  have hb_m_fr := hq_rng m_fr
  have hb_m_bh := hq_rng m_bh
  have hb_m_hd := hq_rng m_hd
  have hb_m_ft := hq_rng m_ft
  have hb_m_fa := hq_rng m_fa
  have hb_m_le := hq_rng m_le
  have hb_m_fo := hq_rng m_fo
  have hb_m_as := hq_rng m_as
  have hb_m_fd := hq_rng m_fd
  have hb_m_bc := hq_rng m_bc
  have hb_m_bg := hq_rng m_bg
  have hb_m_bs := hq_rng m_bs
  have hb_m_be := hq_rng m_be
  have hb_m_b0 := hq_rng m_b0
  have hb_m_b1 := hq_rng m_b1
  have hb_m_cm := hq_rng m_cm
  have hb_m_hc := hq_rng m_hc
  have hb_k := hq_rng k
  have hf1 := hq_rg hI (hr_29 hR) hc1
  have hf2 := hq_rg hI (hr_30 hR) hc2
  refine lv_aload_n hx hb dX13_note_0 rfl (lv_at hl 0 rfl) ?_
  refine hp_get (v := .ref (q + 29)) hx hb hts hown hZ hc0 fl_X13_238 rfl dX13_note_1 ?_
  refine lv_sipush (v := 140) hx hb dX13_note_4 (by decide) ?_
  refine lv_aload_n hx hb dX13_note_7 rfl (lv_at hl 0 rfl) ?_
  refine hp_get (v := .int (m_fo)) hx hb hts hown hZ hc0 fl_X13_344 rfl dX13_note_8 ?_
  refine lv_imul hx hb dX13_note_11 ?_
  refine lv_topi (fun y3 ey4 => ?_)
  obtain ⟨k5, hk6, b7, b8⟩ := hq_mul (140) (m_fo)
  rw [← ey4] at hk6 b7 b8
  have hk6 : (y3).toInt = (140 : Int) * (m_fo).toInt + k5 * 4294967296 := hk6
  obtain rfl : k5 = 0 := by omega
  refine lv_aload_n hx hb dX13_note_12 rfl (lv_at hl 0 rfl) ?_
  refine hp_get (v := .ref (q + 30)) hx hb hts hown hZ hc0 fl_X13_241 rfl dX13_note_13 ?_
  refine lv_aload_n hx hb dX13_note_16 rfl (lv_at hl 0 rfl) ?_
  refine hp_get (v := .int (m_fo)) hx hb hts hown hZ hc0 fl_X13_344 rfl dX13_note_17 ?_
  refine hp_iald hx hb hZ hc2 (hq_in (by omega) (by omega)) dX13_note_20 ?_
  refine lv_topi (fun y9 ey10 => ?_)
  have b11 : hq_ir (hq_lo 7) (hq_hi 7) y9 := by rw [ey10]; exact hf2 _ (hq_ix (by omega) (by omega))
  have b11 : 0 ≤ (y9).toInt ∧ (y9).toInt ≤ 140 := b11
  have b12 : (y9).toInt = (rs (m_fo).toNatClampNeg).toInt := by rw [ey10]
  refine lv_iadd hx hb dX13_note_21 ?_
  refine lv_topi (fun y13 ey14 => ?_)
  obtain ⟨k15, hk16, b17, b18⟩ := hq_add (y3) (y9)
  rw [← ey14] at hk16 b17 b18
  have hk16 : (y13).toInt = (y3).toInt + (y9).toInt + k15 * 4294967296 := hk16
  obtain rfl : k15 = 0 := by omega
  refine lv_iload_n hx hb dX13_note_22 rfl (lv_at hl 1 rfl) ?_
  refine hp_iast hx hb hZ hc1 (hq_in (by omega) (by omega)) dX13_note_23 (fun V19 _ _ e20 o21 hZ => ?_)
  have e20 : V19 (q + 29) = some (.inl (cs 1, 560, .inl (upd (rwf) ((y13 : Int32).toNatClampNeg) (k)))) := e20
  have hP := hP.put (hr_29 hR) e20 o21 (hq_c21 (by omega) (hq_upd hf1 (show 0 ≤ _ ∧ _ ≤ 59 by constructor <;> omega))) rfl
  obtain ⟨g22, ge23⟩ : ∃ g9 : Nat → Int32, g9 = upd (rwf) ((y13 : Int32).toNatClampNeg) (k) := ⟨_, rfl⟩
  have fx24 : V19 (q + 29) = some (.inl (cs 1, 560, .inl (g22))) := by rw [ge23]; exact e20
  have hf25 := hq_rg hP.1 (hr_29 hR) fx24
  refine lv_aload_n hx hb dX13_note_24 rfl (lv_at hl 0 rfl) ?_
  have fx26 : V19 (mo) = some (.inr (13, hm_o q (m_tp) (m_sz) (m_fr) (m_bh) (m_hd) (m_ft) (m_fa) (m_le) (m_fo) (m_as) (m_fd) (m_bc) (m_bg) (m_bs) (m_be) (m_b0) (m_b1) (m_cm) (m_hc))) := (o21 (mo) (hq_tne hmo (hr_29 hR) (by simp))).trans (hc0)
  refine hp_get (v := .ref (q + 30)) hx hb hts hown hZ fx26 fl_X13_241 rfl dX13_note_25 ?_
  refine lv_aload_n hx hb dX13_note_28 rfl (lv_at hl 0 rfl) ?_
  refine hp_get (v := .int (m_fo)) hx hb hts hown hZ fx26 fl_X13_344 rfl dX13_note_29 ?_
  refine lv_dup2_11 hx hb dX13_note_32 rfl rfl ?_
  have fx27 : V19 (q + 30) = some (.inl (cs 1, 4, .inl (rs))) := (o21 (q + 30) (hq_tne (hr_30 hR) (hr_29 hR) (by simp))).trans (hc2)
  refine hp_iald hx hb hZ fx27 (hq_in (by omega) (by omega)) dX13_note_33 ?_
  refine lv_topi (fun y28 ey29 => ?_)
  have b30 : hq_ir (hq_lo 7) (hq_hi 7) y28 := by rw [ey29]; exact hf2 _ (hq_ix (by omega) (by omega))
  have b30 : 0 ≤ (y28).toInt ∧ (y28).toInt ≤ 140 := b30
  have b31 : (y28).toInt = (rs (m_fo).toNatClampNeg).toInt := by rw [ey29]
  refine lv_iconst (v := 1) hx hb dX13_note_34 (by decide) ?_
  refine lv_iadd hx hb dX13_note_35 ?_
  refine lv_topi (fun y32 ey33 => ?_)
  obtain ⟨k34, hk35, b36, b37⟩ := hq_add (y28) (1)
  rw [← ey33] at hk35 b36 b37
  have hk35 : (y32).toInt = (y28).toInt + (1 : Int) + k34 * 4294967296 := hk35
  obtain rfl : k34 = 0 := by omega
  refine hp_iast hx hb hZ fx27 (hq_in (by omega) (by omega)) dX13_note_36 (fun V38 _ _ e39 o40 hZ => ?_)
  have e39 : V38 (q + 30) = some (.inl (cs 1, 4, .inl (upd (rs) ((m_fo : Int32).toNatClampNeg) (y32)))) := e39
  have hP := hP.put (hr_30 hR) e39 o40 (hq_c21 (by omega) (hq_upd hf2 (show 0 ≤ _ ∧ _ ≤ 140 by constructor <;> omega))) rfl
  obtain ⟨g41, ge42⟩ : ∃ g9 : Nat → Int32, g9 = upd (rs) ((m_fo : Int32).toNatClampNeg) (y32) := ⟨_, rfl⟩
  have fx43 : V38 (q + 30) = some (.inl (cs 1, 4, .inl (g41))) := by rw [ge42]; exact e39
  have hf44 := hq_rg hP.1 (hr_30 hR) fx43
  have fx45 : V38 (q + 29) = some (.inl (cs 1, 560, .inl (g22))) := (o40 (q + 29) (hq_tne (hr_29 hR) (hr_30 hR) (by simp))).trans (fx24)
  exact hp_vret hx hb hr hlocks hZ ⟨rfl, hP, (fun x8 hne0 hne1 => (o40 x8 hne1).trans (o21 x8 hne0)), g22, g41, fx45, fx43, (by rw [ge42, hm_ue]; omega)⟩ dX13_note_37

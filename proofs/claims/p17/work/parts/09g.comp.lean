set_option maxHeartbeats 4000000 in
set_option maxRecDepth 100000 in
theorem y_readCompound (l : Launch) (D : va_G) (cs : Nat → ClassId) (B : Nat) (G : hq_G) (V : hp_V) (n : Nat) (hI : hq_I cs G V) (q : Nat) (mo : Nat) (w : sp_W) (rh : hm_Rh) (j : Nat) (vn : List Nat) (m_tp : Int32) (m_sz : Int32) (m_fr : Int32) (m_bh : Int32) (m_hd : Int32) (m_ft : Int32) (m_fa : Int32) (m_le : Int32) (m_fo : Int32) (m_as : Int32) (m_fd : Int32) (m_bc : Int32) (m_bg : Int32) (m_bs : Int32) (m_be : Int32) (m_b0 : Int32) (m_b1 : Int32) (m_cm : Int32) (m_hc : Int32) (k : Int32) (hc0 : V (mo) = some (.inr (13, hm_o q (m_tp) (m_sz) (m_fr) (m_bh) (m_hd) (m_ft) (m_fa) (m_le) (m_fo) (m_as) (m_fd) (m_bc) (m_bg) (m_bs) (m_be) (m_b0) (m_b1) (m_cm) (m_hc)))) (hp0 : hm_TP cs V q w) (hp1 : hm_AR cs V q rh) (hR : hq_RT G q) (hmo : G mo = some (24, 0, 0, 0)) (hmq : mo < q) (hsz : m_sz.toInt = w.2) (hA : hm_A w j m_fr m_bh m_hd) (hVN : hm_NL rh 8 4 30 30 w vn) (hcnt : (rh 1 1).toInt = (vn.length : Int)) (hk : 60 ≤ k.toInt ∧ k.toInt < 120) : hq_M l yX13_readCompound cX13_readCompound 2 none ({ frames := 9, cells := 0, slots := 0, locals := 191 }) D cs B V n [.ref (mo), .int (k)] (hq_QX D cs B (fun v V' n' => v = none ∧ n = n' ∧ hq_P cs G (fun _ => true) V V' ∧ (∀ x, x ≠ mo → (x < q ∨ q + 19 ≤ x) → V' x = V x) ∧ (∃ m_fr1 : Int32, ∃ m_bh1 : Int32, ∃ m_hd1 : Int32, ∃ rh1 : hm_Rh, V' (mo) = some (.inr (13, hm_o q (m_tp) (m_sz) (m_fr1) (m_bh1) (m_hd1) (m_ft) (m_fa) (m_le) (m_fo) (m_as) (m_fd) (m_bc) (m_bg) (m_bs) (m_be) (m_b0) (m_b1) (m_cm) (m_hc))) ∧ ((sp_comp w vn j).1 = 0 ∧ hm_A w (sp_comp w vn j).2.1 m_fr1 m_bh1 m_hd1 ∧ (rh1 12 (k).toNatClampNeg).toInt = (sp_comp w vn j).2.2.1 ∧ (rh1 16 (k).toNatClampNeg).toInt = (sp_comp w vn j).2.2.2) ∧ (hm_AR cs V' q rh1) ∧ (hm_W [12, 16, 17, 18] (k).toNatClampNeg rh rh1))) (fun x V' n' => x = q + 19 ∧ n = n' ∧ hq_P cs G (fun _ => true) V V' ∧ (∀ x, x ≠ mo → (x < q ∨ q + 19 ≤ x) → V' x = V x) ∧ (∃ m_fr1 : Int32, ∃ m_bh1 : Int32, ∃ m_hd1 : Int32, ∃ m_ft1 : Int32, ∃ m_fa1 : Int32, ∃ rh1 : hm_Rh, V' (mo) = some (.inr (13, hm_o q (m_tp) (m_sz) (m_fr1) (m_bh1) (m_hd1) (m_ft1) (m_fa1) (m_le) (m_fo) (m_as) (m_fd) (m_bc) (m_bg) (m_bs) (m_be) (m_b0) (m_b1) (m_cm) (m_hc))) ∧ (hx_F w (sp_comp w vn j).1 (sp_comp w vn j).2.1 m_ft1 m_fa1) ∧ (hm_AR cs V' q rh1) ∧ (hm_H rh rh1)))) 0 0 := by
  refine hq_walk (R0 := RX13) (by decide) rfl ?_ (Nat.le_of_ble_eq_true rfl)
  intro p e s m below meth c ls hx hb hr hts hown hlocks hin hml hnx hZ hl
  have hP : hq_P cs G (fun _ => true) V V := hq_P.rf hI
  have hl : lv_has ls 2 [(0, .ref (mo)), (1, .int (k))] := hl
  have hb_m_tp := hq_rng m_tp
  have hb_m_sz := hq_rng m_sz
  have hb_m_fr := hq_rng m_fr
  have hb_m_bh := hq_rng m_bh
  have hb_m_hd := hq_rng m_hd
  have hb_m_ft := hq_rng m_ft
  have hb_m_fa := hq_rng m_fa
  have hb_m_le := hq_rng m_le
  have hb_m_fo := hq_rng m_fo
  have hb_m_as := hq_rng m_as
  have hb_m_fd := hq_rng m_fd
  have hb_m_bc := hq_rng m_bc
  have hb_m_bg := hq_rng m_bg
  have hb_m_bs := hq_rng m_bs
  have hb_m_be := hq_rng m_be
  have hb_m_b0 := hq_rng m_b0
  have hb_m_b1 := hq_rng m_b1
  have hb_m_cm := hq_rng m_cm
  have hb_m_hc := hq_rng m_hc
  have hb_k := hq_rng k
  obtain ⟨b1, b2, b3, -⟩ := id hA
  have hH0 : hm_H rh rh := hm_H.rf
  refine lv_aload_n hx hb dX13_readCompound_0 rfl (lv_at hl 0 rfl) ?_
  refine va_ldcS (tx := (hp_so.getD 10 ("", 0, "")).2.2) (q := cs (100 + 10)) hx hb hown (hZ.2.2.2.2.2.2.2.2.2.2 10 (by decide)) dX13_readCompound_1 ?_
  refine hq_callx (hq_runV (As := [.ref (cs (100 + 10))]) (rest := []) hx hb hml hown hts (y_need l D cs B G V n hP.1 (q) (mo) (w) (j) (10) (11) (11) (m_tp) (m_sz) (m_fr) (m_bh) (m_hd) (m_ft) (m_fa) (m_le) (m_fo) (m_as) (m_fd) (m_bc) (m_bg) (m_bs) (m_be) (m_b0) (m_b1) (m_cm) (m_hc)  hc0 hp0 hR hmo hmq (by omega) hA (by decide) (by decide) rfl (by decide) rfl) hZ hc0 cv_X13_172 rfl rfl ⟨Nat.le_of_ble_eq_true rfl, Nat.le_of_ble_eq_true rfl⟩ rfl hl.1 rfl (Nat.le_of_ble_eq_true rfl) dX13_readCompound_3 ⟨(Nat.le_of_ble_eq_true rfl), (Nat.le_of_ble_eq_true rfl)⟩) hZ hnx hlocks (by rintro x9 V9x n9 ⟨rfl, rfl, hqx, frx, zx10, zx11, zx12, zx13, zx14, hox15, hpx16⟩; have b17 := hq_rng zx10; have b18 := hq_rng zx11; have b19 := hq_rng zx12; have b20 := hq_rng zx13; have b21 := hq_rng zx14; have pk22 := hp1.keep (fun x7 (hx7 : q ≤ x7 ∧ x7 < q + 19) => frx x7 (by omega)); exact ⟨rfl, rfl, hP.trans hqx (fun _ h => Bool.noConfusion h), (fun x8 hne0 hne1 => frx x8 hne0), zx10, zx11, zx12, zx13, zx14, rh, hox15, (by have hk9 := hpx16.1; unfold sp_comp; (repeat (first | (rw [if_pos]; rotate_left; omega) | (rw [if_neg]; rotate_left; omega))); (try dsimp only); exact hpx16), pk22, hH0⟩) (fun v9 V4 n5 _ _ hw6 hZ => ?_)
  obtain ⟨rfl, rfl, hq8, fr9, z23, z24, z25, ho26, hp27⟩ := hw6
  refine W.eq (g2 := F0 m 6 ls []) rfl ?_
  have b28 := hq_rng z23
  have b29 := hq_rng z24
  have b30 := hq_rng z25
  have hP := hP.trans hq8 (fun _ h => Bool.noConfusion h)
  obtain ⟨b31, hA32⟩ := hp27
  obtain ⟨b33, b34, b35, -⟩ := id hA32
  refine lv_aload_n hx hb dX13_readCompound_6 rfl (lv_at hl 0 rfl) ?_
  refine hp_get (v := .ref (q + 12)) hx hb hts hown hZ ho26 fl_X13_35 rfl dX13_readCompound_7 ?_
  refine lv_iload_n hx hb dX13_readCompound_10 rfl (lv_at hl 1 rfl) ?_
  refine lv_aload_n hx hb dX13_readCompound_11 rfl (lv_at hl 0 rfl) ?_
  refine lv_iconst (v := 4) hx hb dX13_readCompound_12 (by decide) ?_
  have hl36 : (4 : Int32).toInt = 4 := by decide
  have pk37 := hp0.keep (fr9 (q + 20) (hq_tne (hr_20 hR) hmo (by simp)))
  refine hq_callx (hq_runV (As := [.int (4)]) (rest := [.int (k), .ref (q + 12)]) hx hb hml hown hts (y_digit l D cs B G V4 n hP.1 (q) (mo) (w) ((sp_take w 11 j).2) (5) (4) (m_tp) (m_sz) (z23) (z24) (z25) (m_ft) (m_fa) (m_le) (m_fo) (m_as) (m_fd) (m_bc) (m_bg) (m_bs) (m_be) (m_b0) (m_b1) (m_cm) (m_hc)  ho26 pk37 hR hmo hmq (by omega) hA32 (by decide) (by decide)) hZ ho26 cv_X13_202 rfl rfl ⟨Nat.le_of_ble_eq_true rfl, Nat.le_of_ble_eq_true rfl⟩ rfl hl.1 rfl (Nat.le_of_ble_eq_true rfl) dX13_readCompound_13 ⟨(Nat.le_of_ble_eq_true rfl), (Nat.le_of_ble_eq_true rfl)⟩) hZ hnx hlocks (by rintro x9 V9x n9 ⟨rfl, rfl, hqx, frx, zx44, zx45, zx46, zx47, zx48, hox49, hpx50⟩; have b51 := hq_rng zx44; have b52 := hq_rng zx45; have b53 := hq_rng zx46; have b54 := hq_rng zx47; have b55 := hq_rng zx48; have pk56 := hp1.keep (fun x7 (hx7 : q ≤ x7 ∧ x7 < q + 19) => (frx x7 (by omega)).trans (fr9 x7 (by omega))); exact ⟨rfl, rfl, hP.trans hqx (fun _ h => Bool.noConfusion h), (fun x8 hne0 hne1 => (frx x8 hne0).trans (fr9 x8 hne0)), zx44, zx45, zx46, zx47, zx48, rh, hox49, (by have hk9 := hpx50.1; unfold sp_comp; (repeat (first | (rw [if_pos]; rotate_left; omega) | (rw [if_neg]; rotate_left; omega))); (try dsimp only); exact hpx50), pk56, hH0⟩) (fun v9 V38 n39 _ _ hw40 hZ => ?_)
  obtain ⟨r41, rfl, rfl, hq42, fr43, z57, z58, z59, ho60, hp61, hp62⟩ := hw40
  refine W.eq (g2 := F0 m 16 ls [.int (r41), .int (k), .ref (q + 12)]) rfl ?_
  have b63 := hq_rng z57
  have b64 := hq_rng z58
  have b65 := hq_rng z59
  have hP := hP.trans hq42 (fun _ h => Bool.noConfusion h)
  have b66 := hq_rng r41
  obtain ⟨b67, hA68, b69⟩ := hp61
  obtain ⟨b70, b71, b72, -⟩ := id hA68
  have pk77 := hp1.keep (fun x7 (hx7 : q ≤ x7 ∧ x7 < q + 19) => (fr43 x7 (by omega)).trans (fr9 x7 (by omega)))
  obtain ⟨rf73, hrf74⟩ : ∃ f : Nat → Int32, f = rh 12 := ⟨_, rfl⟩
  have ea75 : V38 (q + 12) = some (.inl (cs 1, 120, .inl (rf73))) := by rw [hrf74]; exact pk77 12 (by decide)
  have hra76 := hq_rg hP.1 (hr_12 hR) ea75
  refine hp_iast hx hb hZ ea75 (hq_in (by omega) (by omega)) dX13_readCompound_16 (fun V78 _ _ e79 o80 hZ => ?_)
  have e79 : V78 (q + 12) = some (.inl (cs 1, 120, .inl (upd (rf73) ((k : Int32).toNatClampNeg) (r41)))) := e79
  have hP := hP.put (hr_12 hR) e79 o80 (hq_c21 (by omega) (hq_upd hra76 (hq_rng _))) rfl
  obtain ⟨g81, ge82⟩ : ∃ g9 : Nat → Int32, g9 = upd (rf73) ((k : Int32).toNatClampNeg) (r41) := ⟨_, rfl⟩
  have fx83 : V78 (q + 12) = some (.inl (cs 1, 120, .inl (g81))) := by rw [ge82]; exact e79
  have hf84 := hq_rg hP.1 (hr_12 hR) fx83
  obtain ⟨rh85, hrh86⟩ : ∃ r9 : hm_Rh, r9 = hm_u2 rh 12 (k : Int32).toNatClampNeg ((r41 : Int32)) := ⟨_, rfl⟩
  have pk87 : hm_AR cs V78 q rh85 := by rw [hrh86]; exact pk77.put (a := 12) (by decide) (by rw [ge82, hrf74]) fx83 o80
  have hH88 : hm_H rh rh85 := by rw [hrh86]; exact hH0.put (show 60 ≤ (k : Int32).toNatClampNeg by have h8 := (hq_nn (z := k) (by omega)).1; omega)
  refine lv_aload_n hx hb dX13_readCompound_17 rfl (lv_at hl 0 rfl) ?_
  refine va_ldcS (tx := (hp_so.getD 11 ("", 0, "")).2.2) (q := cs (100 + 11)) hx hb hown (hZ.2.2.2.2.2.2.2.2.2.2 11 (by decide)) dX13_readCompound_18 ?_
  have fx89 : V78 (mo) = some (.inr (13, hm_o q (m_tp) (m_sz) (z57) (z58) (z59) (m_ft) (m_fa) (m_le) (m_fo) (m_as) (m_fd) (m_bc) (m_bg) (m_bs) (m_be) (m_b0) (m_b1) (m_cm) (m_hc))) := (o80 (mo) (hq_tne hmo (hr_12 hR) (by simp))).trans (ho60)
  have pk90 := pk37.keep ((o80 (q + 20) (hq_tne (hr_20 hR) (hr_12 hR) (by simp))).trans (fr43 (q + 20) (hq_tne (hr_20 hR) hmo (by simp))))
  refine hq_callx (hq_runV (As := [.ref (cs (100 + 11))]) (rest := []) hx hb hml hown hts (y_need l D cs B G V78 n hP.1 (q) (mo) (w) ((sp_num w 5 ((sp_take w 11 j).2)).2.1) (11) (12) (12) (m_tp) (m_sz) (z57) (z58) (z59) (m_ft) (m_fa) (m_le) (m_fo) (m_as) (m_fd) (m_bc) (m_bg) (m_bs) (m_be) (m_b0) (m_b1) (m_cm) (m_hc)  fx89 pk90 hR hmo hmq (by omega) hA68 (by decide) (by decide) rfl (by decide) rfl) hZ fx89 cv_X13_172 rfl rfl ⟨Nat.le_of_ble_eq_true rfl, Nat.le_of_ble_eq_true rfl⟩ rfl hl.1 rfl (Nat.le_of_ble_eq_true rfl) dX13_readCompound_20 ⟨(Nat.le_of_ble_eq_true rfl), (Nat.le_of_ble_eq_true rfl)⟩) hZ hnx hlocks (by rintro x9 V9x n9 ⟨rfl, rfl, hqx, frx, zx97, zx98, zx99, zx100, zx101, hox102, hpx103⟩; have b104 := hq_rng zx97; have b105 := hq_rng zx98; have b106 := hq_rng zx99; have b107 := hq_rng zx100; have b108 := hq_rng zx101; have pk109 := pk87.keep (fun x7 (hx7 : q ≤ x7 ∧ x7 < q + 19) => frx x7 (by omega)); exact ⟨rfl, rfl, hP.trans hqx (fun _ h => Bool.noConfusion h), (fun x8 hne0 hne1 => (frx x8 hne0).trans ((o80 x8 (by omega)).trans ((fr43 x8 hne0).trans (fr9 x8 hne0)))), zx97, zx98, zx99, zx100, zx101, rh85, hox102, (by have hk9 := hpx103.1; unfold sp_comp; (repeat (first | (rw [if_pos]; rotate_left; omega) | (rw [if_neg]; rotate_left; omega))); (try dsimp only); exact hpx103), pk109, hH88⟩) (fun v9 V91 n92 _ _ hw93 hZ => ?_)
  obtain ⟨rfl, rfl, hq95, fr96, z110, z111, z112, ho113, hp114⟩ := hw93
  refine W.eq (g2 := F0 m 23 ls []) rfl ?_
  have b115 := hq_rng z110
  have b116 := hq_rng z111
  have b117 := hq_rng z112
  have hP := hP.trans hq95 (fun _ h => Bool.noConfusion h)
  obtain ⟨b118, hA119⟩ := hp114
  obtain ⟨b120, b121, b122, -⟩ := id hA119
  refine lv_aload_n hx hb dX13_readCompound_23 rfl (lv_at hl 0 rfl) ?_
  refine hp_get (v := .ref (q + 16)) hx hb hts hown hZ ho113 fl_X13_47 rfl dX13_readCompound_24 ?_
  refine lv_iload_n hx hb dX13_readCompound_27 rfl (lv_at hl 1 rfl) ?_
  refine lv_aload_n hx hb dX13_readCompound_28 rfl (lv_at hl 0 rfl) ?_
  have hw123 : hm_W [12, 16, 17, 18] (k).toNatClampNeg rh rh85 := by rw [hrh86]; exact (hm_W.rf).put (by decide)
  have nl124 : hm_NL rh85 8 4 30 30 w vn := hVN.keep (fun i _ _ => hw123 8 i (fun g9 => absurd g9.1 (by decide))) (fun i _ _ => hw123 4 i (fun g9 => absurd g9.1 (by decide)))
  have cn125 : (rh85 1 1).toInt = (vn.length : Int) := by rw [hw123 1 1 (fun g9 => absurd g9.1 (by decide))]; exact hcnt
  have pk126 := pk90.keep (fr96 (q + 20) (hq_tne (hr_20 hR) hmo (by simp)))
  have pk127 := pk87.keep (fun x7 (hx7 : q ≤ x7 ∧ x7 < q + 19) => fr96 x7 (by omega))
  refine hq_callx (hq_runV (As := []) (rest := [.int (k), .ref (q + 16)]) hx hb hml hown hts (y_takeVerb l D cs B G V91 n hP.1 (q) (mo) (w) (rh85) ((sp_take w 12 ((sp_num w 5 ((sp_take w 11 j).2)).2.1)).2) (vn) (m_tp) (m_sz) (z110) (z111) (z112) (m_ft) (m_fa) (m_le) (m_fo) (m_as) (m_fd) (m_bc) (m_bg) (m_bs) (m_be) (m_b0) (m_b1) (m_cm) (m_hc)  ho113 pk126 pk127 hR hmo hmq (by omega) hA119 nl124 cn125) hZ ho113 cv_X13_182 rfl rfl ⟨Nat.le_of_ble_eq_true rfl, Nat.le_of_ble_eq_true rfl⟩ rfl hl.1 rfl (Nat.le_of_ble_eq_true rfl) dX13_readCompound_29 ⟨(Nat.le_of_ble_eq_true rfl), (Nat.le_of_ble_eq_true rfl)⟩) hZ hnx hlocks (by rintro x9 V9x n9 ⟨rfl, rfl, hqx, frx, zx134, zx135, zx136, zx137, zx138, hox139, hpx140⟩; have b141 := hq_rng zx134; have b142 := hq_rng zx135; have b143 := hq_rng zx136; have b144 := hq_rng zx137; have b145 := hq_rng zx138; have pk146 := pk127.keep (fun x7 (hx7 : q ≤ x7 ∧ x7 < q + 19) => frx x7 (by omega)); exact ⟨rfl, rfl, hP.trans hqx (fun _ h => Bool.noConfusion h), (fun x8 hne0 hne1 => (frx x8 hne0).trans ((fr96 x8 hne0).trans ((o80 x8 (by omega)).trans ((fr43 x8 hne0).trans (fr9 x8 hne0))))), zx134, zx135, zx136, zx137, zx138, rh85, hox139, (by have hk9 := hpx140.1; unfold sp_comp; (repeat (first | (rw [if_pos]; rotate_left; omega) | (rw [if_neg]; rotate_left; omega))); (try dsimp only); exact hpx140), pk146, hH88⟩) (fun v9 V128 n129 _ _ hw130 hZ => ?_)
  obtain ⟨r131, rfl, rfl, hq132, fr133, z147, z148, z149, ho150, hp151, hp152⟩ := hw130
  refine W.eq (g2 := F0 m 32 ls [.int (r131), .int (k), .ref (q + 16)]) rfl ?_
  have b153 := hq_rng z147
  have b154 := hq_rng z148
  have b155 := hq_rng z149
  have hP := hP.trans hq132 (fun _ h => Bool.noConfusion h)
  have b156 := hq_rng r131
  obtain ⟨b157, hA158, b159⟩ := hp151
  obtain ⟨b160, b161, b162, -⟩ := id hA158
  have pk167 := pk127.keep (fun x7 (hx7 : q ≤ x7 ∧ x7 < q + 19) => fr133 x7 (by omega))
  obtain ⟨rf163, hrf164⟩ : ∃ f : Nat → Int32, f = rh85 16 := ⟨_, rfl⟩
  have ea165 : V128 (q + 16) = some (.inl (cs 1, 120, .inl (rf163))) := by rw [hrf164]; exact pk167 16 (by decide)
  have hra166 := hq_rg hP.1 (hr_16 hR) ea165
  refine hp_iast hx hb hZ ea165 (hq_in (by omega) (by omega)) dX13_readCompound_32 (fun V168 _ _ e169 o170 hZ => ?_)
  have e169 : V168 (q + 16) = some (.inl (cs 1, 120, .inl (upd (rf163) ((k : Int32).toNatClampNeg) (r131)))) := e169
  have hP := hP.put (hr_16 hR) e169 o170 (hq_c21 (by omega) (hq_upd hra166 (show 0 ≤ _ ∧ _ ≤ 29 by constructor <;> omega))) rfl
  obtain ⟨g171, ge172⟩ : ∃ g9 : Nat → Int32, g9 = upd (rf163) ((k : Int32).toNatClampNeg) (r131) := ⟨_, rfl⟩
  have fx173 : V168 (q + 16) = some (.inl (cs 1, 120, .inl (g171))) := by rw [ge172]; exact e169
  have hf174 := hq_rg hP.1 (hr_16 hR) fx173
  obtain ⟨rh175, hrh176⟩ : ∃ r9 : hm_Rh, r9 = hm_u2 rh85 16 (k : Int32).toNatClampNeg ((r131 : Int32)) := ⟨_, rfl⟩
  have pk177 : hm_AR cs V168 q rh175 := by rw [hrh176]; exact pk167.put (a := 16) (by decide) (by rw [ge172, hrf164]) fx173 o170
  have hH178 : hm_H rh rh175 := by rw [hrh176]; exact hH88.put (show 60 ≤ (k : Int32).toNatClampNeg by have h8 := (hq_nn (z := k) (by omega)).1; omega)
  refine lv_aload_n hx hb dX13_readCompound_33 rfl (lv_at hl 0 rfl) ?_
  refine va_ldcS (tx := (hp_so.getD 10 ("", 0, "")).2.2) (q := cs (100 + 10)) hx hb hown (hZ.2.2.2.2.2.2.2.2.2.2 10 (by decide)) dX13_readCompound_34 ?_
  have fx179 : V168 (mo) = some (.inr (13, hm_o q (m_tp) (m_sz) (z147) (z148) (z149) (m_ft) (m_fa) (m_le) (m_fo) (m_as) (m_fd) (m_bc) (m_bg) (m_bs) (m_be) (m_b0) (m_b1) (m_cm) (m_hc))) := (o170 (mo) (hq_tne hmo (hr_16 hR) (by simp))).trans (ho150)
  have pk180 := pk126.keep ((o170 (q + 20) (hq_tne (hr_20 hR) (hr_16 hR) (by simp))).trans (fr133 (q + 20) (hq_tne (hr_20 hR) hmo (by simp))))
  refine hq_callx (hq_runV (As := [.ref (cs (100 + 10))]) (rest := []) hx hb hml hown hts (y_need l D cs B G V168 n hP.1 (q) (mo) (w) ((sp_old w vn ((sp_take w 12 ((sp_num w 5 ((sp_take w 11 j).2)).2.1)).2)).2.1) (10) (11) (11) (m_tp) (m_sz) (z147) (z148) (z149) (m_ft) (m_fa) (m_le) (m_fo) (m_as) (m_fd) (m_bc) (m_bg) (m_bs) (m_be) (m_b0) (m_b1) (m_cm) (m_hc)  fx179 pk180 hR hmo hmq (by omega) hA158 (by decide) (by decide) rfl (by decide) rfl) hZ fx179 cv_X13_172 rfl rfl ⟨Nat.le_of_ble_eq_true rfl, Nat.le_of_ble_eq_true rfl⟩ rfl hl.1 rfl (Nat.le_of_ble_eq_true rfl) dX13_readCompound_36 ⟨(Nat.le_of_ble_eq_true rfl), (Nat.le_of_ble_eq_true rfl)⟩) hZ hnx hlocks (by rintro x9 V9x n9 ⟨rfl, rfl, hqx, frx, zx187, zx188, zx189, zx190, zx191, hox192, hpx193⟩; have b194 := hq_rng zx187; have b195 := hq_rng zx188; have b196 := hq_rng zx189; have b197 := hq_rng zx190; have b198 := hq_rng zx191; have pk199 := pk177.keep (fun x7 (hx7 : q ≤ x7 ∧ x7 < q + 19) => frx x7 (by omega)); exact ⟨rfl, rfl, hP.trans hqx (fun _ h => Bool.noConfusion h), (fun x8 hne0 hne1 => (frx x8 hne0).trans ((o170 x8 (by omega)).trans ((fr133 x8 hne0).trans ((fr96 x8 hne0).trans ((o80 x8 (by omega)).trans ((fr43 x8 hne0).trans (fr9 x8 hne0))))))), zx187, zx188, zx189, zx190, zx191, rh175, hox192, (by have hk9 := hpx193.1; unfold sp_comp; (repeat (first | (rw [if_pos]; rotate_left; omega) | (rw [if_neg]; rotate_left; omega))); (try dsimp only); exact hpx193), pk199, hH178⟩) (fun v9 V181 n182 _ _ hw183 hZ => ?_)
  obtain ⟨rfl, rfl, hq185, fr186, z200, z201, z202, ho203, hp204⟩ := hw183
  refine W.eq (g2 := F0 m 39 ls []) rfl ?_
  have b205 := hq_rng z200
  have b206 := hq_rng z201
  have b207 := hq_rng z202
  have hP := hP.trans hq185 (fun _ h => Bool.noConfusion h)
  obtain ⟨b208, hA209⟩ := hp204
  obtain ⟨b210, b211, b212, -⟩ := id hA209
  refine lv_aload_n hx hb dX13_readCompound_39 rfl (lv_at hl 0 rfl) ?_
  refine hp_get (v := .ref (q + 17)) hx hb hts hown hZ ho203 fl_X13_50 rfl dX13_readCompound_40 ?_
  refine lv_iload_n hx hb dX13_readCompound_43 rfl (lv_at hl 1 rfl) ?_
  refine lv_aload_n hx hb dX13_readCompound_44 rfl (lv_at hl 0 rfl) ?_
  refine lv_iconst (v := 4) hx hb dX13_readCompound_45 (by decide) ?_
  have hl213 : (4 : Int32).toInt = 4 := by decide
  have pk214 := pk180.keep (fr186 (q + 20) (hq_tne (hr_20 hR) hmo (by simp)))
  refine hq_callx (hq_runV (As := [.int (4)]) (rest := [.int (k), .ref (q + 17)]) hx hb hml hown hts (y_digit l D cs B G V181 n hP.1 (q) (mo) (w) ((sp_take w 11 ((sp_old w vn ((sp_take w 12 ((sp_num w 5 ((sp_take w 11 j).2)).2.1)).2)).2.1)).2) (5) (4) (m_tp) (m_sz) (z200) (z201) (z202) (m_ft) (m_fa) (m_le) (m_fo) (m_as) (m_fd) (m_bc) (m_bg) (m_bs) (m_be) (m_b0) (m_b1) (m_cm) (m_hc)  ho203 pk214 hR hmo hmq (by omega) hA209 (by decide) (by decide)) hZ ho203 cv_X13_202 rfl rfl ⟨Nat.le_of_ble_eq_true rfl, Nat.le_of_ble_eq_true rfl⟩ rfl hl.1 rfl (Nat.le_of_ble_eq_true rfl) dX13_readCompound_46 ⟨(Nat.le_of_ble_eq_true rfl), (Nat.le_of_ble_eq_true rfl)⟩) hZ hnx hlocks (by rintro x9 V9x n9 ⟨rfl, rfl, hqx, frx, zx221, zx222, zx223, zx224, zx225, hox226, hpx227⟩; have b228 := hq_rng zx221; have b229 := hq_rng zx222; have b230 := hq_rng zx223; have b231 := hq_rng zx224; have b232 := hq_rng zx225; have pk233 := pk177.keep (fun x7 (hx7 : q ≤ x7 ∧ x7 < q + 19) => (frx x7 (by omega)).trans (fr186 x7 (by omega))); exact ⟨rfl, rfl, hP.trans hqx (fun _ h => Bool.noConfusion h), (fun x8 hne0 hne1 => (frx x8 hne0).trans ((fr186 x8 hne0).trans ((o170 x8 (by omega)).trans ((fr133 x8 hne0).trans ((fr96 x8 hne0).trans ((o80 x8 (by omega)).trans ((fr43 x8 hne0).trans (fr9 x8 hne0)))))))), zx221, zx222, zx223, zx224, zx225, rh175, hox226, (by have hk9 := hpx227.1; unfold sp_comp; (repeat (first | (rw [if_pos]; rotate_left; omega) | (rw [if_neg]; rotate_left; omega))); (try dsimp only); exact hpx227), pk233, hH178⟩) (fun v9 V215 n216 _ _ hw217 hZ => ?_)
  obtain ⟨r218, rfl, rfl, hq219, fr220, z234, z235, z236, ho237, hp238, hp239⟩ := hw217
  refine W.eq (g2 := F0 m 49 ls [.int (r218), .int (k), .ref (q + 17)]) rfl ?_
  have b240 := hq_rng z234
  have b241 := hq_rng z235
  have b242 := hq_rng z236
  have hP := hP.trans hq219 (fun _ h => Bool.noConfusion h)
  have b243 := hq_rng r218
  obtain ⟨b244, hA245, b246⟩ := hp238
  obtain ⟨b247, b248, b249, -⟩ := id hA245
  have pk254 := pk177.keep (fun x7 (hx7 : q ≤ x7 ∧ x7 < q + 19) => (fr220 x7 (by omega)).trans (fr186 x7 (by omega)))
  obtain ⟨rf250, hrf251⟩ : ∃ f : Nat → Int32, f = rh175 17 := ⟨_, rfl⟩
  have ea252 : V215 (q + 17) = some (.inl (cs 1, 120, .inl (rf250))) := by rw [hrf251]; exact pk254 17 (by decide)
  have hra253 := hq_rg hP.1 (hr_17 hR) ea252
  refine hp_iast hx hb hZ ea252 (hq_in (by omega) (by omega)) dX13_readCompound_49 (fun V255 _ _ e256 o257 hZ => ?_)
  have e256 : V255 (q + 17) = some (.inl (cs 1, 120, .inl (upd (rf250) ((k : Int32).toNatClampNeg) (r218)))) := e256
  have hP := hP.put (hr_17 hR) e256 o257 (hq_c21 (by omega) (hq_upd hra253 (hq_rng _))) rfl
  obtain ⟨g258, ge259⟩ : ∃ g9 : Nat → Int32, g9 = upd (rf250) ((k : Int32).toNatClampNeg) (r218) := ⟨_, rfl⟩
  have fx260 : V255 (q + 17) = some (.inl (cs 1, 120, .inl (g258))) := by rw [ge259]; exact e256
  have hf261 := hq_rg hP.1 (hr_17 hR) fx260
  obtain ⟨rh262, hrh263⟩ : ∃ r9 : hm_Rh, r9 = hm_u2 rh175 17 (k : Int32).toNatClampNeg ((r218 : Int32)) := ⟨_, rfl⟩
  have pk264 : hm_AR cs V255 q rh262 := by rw [hrh263]; exact pk254.put (a := 17) (by decide) (by rw [ge259, hrf251]) fx260 o257
  have hH265 : hm_H rh rh262 := by rw [hrh263]; exact hH178.put (show 60 ≤ (k : Int32).toNatClampNeg by have h8 := (hq_nn (z := k) (by omega)).1; omega)
  refine lv_aload_n hx hb dX13_readCompound_50 rfl (lv_at hl 0 rfl) ?_
  refine va_ldcS (tx := (hp_so.getD 12 ("", 0, "")).2.2) (q := cs (100 + 12)) hx hb hown (hZ.2.2.2.2.2.2.2.2.2.2 12 (by decide)) dX13_readCompound_51 ?_
  have fx266 : V255 (mo) = some (.inr (13, hm_o q (m_tp) (m_sz) (z234) (z235) (z236) (m_ft) (m_fa) (m_le) (m_fo) (m_as) (m_fd) (m_bc) (m_bg) (m_bs) (m_be) (m_b0) (m_b1) (m_cm) (m_hc))) := (o257 (mo) (hq_tne hmo (hr_17 hR) (by simp))).trans (ho237)
  have pk267 := pk214.keep ((o257 (q + 20) (hq_tne (hr_20 hR) (hr_17 hR) (by simp))).trans (fr220 (q + 20) (hq_tne (hr_20 hR) hmo (by simp))))
  refine hq_callx (hq_runV (As := [.ref (cs (100 + 12))]) (rest := []) hx hb hml hown hts (y_need l D cs B G V255 n hP.1 (q) (mo) (w) ((sp_num w 5 ((sp_take w 11 ((sp_old w vn ((sp_take w 12 ((sp_num w 5 ((sp_take w 11 j).2)).2.1)).2)).2.1)).2)).2.1) (12) (13) (13) (m_tp) (m_sz) (z234) (z235) (z236) (m_ft) (m_fa) (m_le) (m_fo) (m_as) (m_fd) (m_bc) (m_bg) (m_bs) (m_be) (m_b0) (m_b1) (m_cm) (m_hc)  fx266 pk267 hR hmo hmq (by omega) hA245 (by decide) (by decide) rfl (by decide) rfl) hZ fx266 cv_X13_172 rfl rfl ⟨Nat.le_of_ble_eq_true rfl, Nat.le_of_ble_eq_true rfl⟩ rfl hl.1 rfl (Nat.le_of_ble_eq_true rfl) dX13_readCompound_53 ⟨(Nat.le_of_ble_eq_true rfl), (Nat.le_of_ble_eq_true rfl)⟩) hZ hnx hlocks (by rintro x9 V9x n9 ⟨rfl, rfl, hqx, frx, zx274, zx275, zx276, zx277, zx278, hox279, hpx280⟩; have b281 := hq_rng zx274; have b282 := hq_rng zx275; have b283 := hq_rng zx276; have b284 := hq_rng zx277; have b285 := hq_rng zx278; have pk286 := pk264.keep (fun x7 (hx7 : q ≤ x7 ∧ x7 < q + 19) => frx x7 (by omega)); exact ⟨rfl, rfl, hP.trans hqx (fun _ h => Bool.noConfusion h), (fun x8 hne0 hne1 => (frx x8 hne0).trans ((o257 x8 (by omega)).trans ((fr220 x8 hne0).trans ((fr186 x8 hne0).trans ((o170 x8 (by omega)).trans ((fr133 x8 hne0).trans ((fr96 x8 hne0).trans ((o80 x8 (by omega)).trans ((fr43 x8 hne0).trans (fr9 x8 hne0)))))))))), zx274, zx275, zx276, zx277, zx278, rh262, hox279, (by have hk9 := hpx280.1; unfold sp_comp; (repeat (first | (rw [if_pos]; rotate_left; omega) | (rw [if_neg]; rotate_left; omega))); (try dsimp only); exact hpx280), pk286, hH265⟩) (fun v9 V268 n269 _ _ hw270 hZ => ?_)
  obtain ⟨rfl, rfl, hq272, fr273, z287, z288, z289, ho290, hp291⟩ := hw270
  refine W.eq (g2 := F0 m 56 ls []) rfl ?_
  have b292 := hq_rng z287
  have b293 := hq_rng z288
  have b294 := hq_rng z289
  have hP := hP.trans hq272 (fun _ h => Bool.noConfusion h)
  obtain ⟨b295, hA296⟩ := hp291
  obtain ⟨b297, b298, b299, -⟩ := id hA296
  refine lv_aload_n hx hb dX13_readCompound_56 rfl (lv_at hl 0 rfl) ?_
  refine hp_get (v := .ref (q + 18)) hx hb hts hown hZ ho290 fl_X13_53 rfl dX13_readCompound_57 ?_
  refine lv_iload_n hx hb dX13_readCompound_60 rfl (lv_at hl 1 rfl) ?_
  refine lv_aload_n hx hb dX13_readCompound_61 rfl (lv_at hl 0 rfl) ?_
  refine lv_iconst (v := 4) hx hb dX13_readCompound_62 (by decide) ?_
  have hl300 : (4 : Int32).toInt = 4 := by decide
  have pk301 := pk267.keep (fr273 (q + 20) (hq_tne (hr_20 hR) hmo (by simp)))
  refine hq_callx (hq_runV (As := [.int (4)]) (rest := [.int (k), .ref (q + 18)]) hx hb hml hown hts (y_digit l D cs B G V268 n hP.1 (q) (mo) (w) ((sp_take w 13 ((sp_num w 5 ((sp_take w 11 ((sp_old w vn ((sp_take w 12 ((sp_num w 5 ((sp_take w 11 j).2)).2.1)).2)).2.1)).2)).2.1)).2) (5) (4) (m_tp) (m_sz) (z287) (z288) (z289) (m_ft) (m_fa) (m_le) (m_fo) (m_as) (m_fd) (m_bc) (m_bg) (m_bs) (m_be) (m_b0) (m_b1) (m_cm) (m_hc)  ho290 pk301 hR hmo hmq (by omega) hA296 (by decide) (by decide)) hZ ho290 cv_X13_202 rfl rfl ⟨Nat.le_of_ble_eq_true rfl, Nat.le_of_ble_eq_true rfl⟩ rfl hl.1 rfl (Nat.le_of_ble_eq_true rfl) dX13_readCompound_63 ⟨(Nat.le_of_ble_eq_true rfl), (Nat.le_of_ble_eq_true rfl)⟩) hZ hnx hlocks (by rintro x9 V9x n9 ⟨rfl, rfl, hqx, frx, zx308, zx309, zx310, zx311, zx312, hox313, hpx314⟩; have b315 := hq_rng zx308; have b316 := hq_rng zx309; have b317 := hq_rng zx310; have b318 := hq_rng zx311; have b319 := hq_rng zx312; have pk320 := pk264.keep (fun x7 (hx7 : q ≤ x7 ∧ x7 < q + 19) => (frx x7 (by omega)).trans (fr273 x7 (by omega))); exact ⟨rfl, rfl, hP.trans hqx (fun _ h => Bool.noConfusion h), (fun x8 hne0 hne1 => (frx x8 hne0).trans ((fr273 x8 hne0).trans ((o257 x8 (by omega)).trans ((fr220 x8 hne0).trans ((fr186 x8 hne0).trans ((o170 x8 (by omega)).trans ((fr133 x8 hne0).trans ((fr96 x8 hne0).trans ((o80 x8 (by omega)).trans ((fr43 x8 hne0).trans (fr9 x8 hne0))))))))))), zx308, zx309, zx310, zx311, zx312, rh262, hox313, (by have hk9 := hpx314.1; unfold sp_comp; (repeat (first | (rw [if_pos]; rotate_left; omega) | (rw [if_neg]; rotate_left; omega))); (try dsimp only); exact hpx314), pk320, hH265⟩) (fun v9 V302 n303 _ _ hw304 hZ => ?_)
  obtain ⟨r305, rfl, rfl, hq306, fr307, z321, z322, z323, ho324, hp325, hp326⟩ := hw304
  refine W.eq (g2 := F0 m 66 ls [.int (r305), .int (k), .ref (q + 18)]) rfl ?_
  have b327 := hq_rng z321
  have b328 := hq_rng z322
  have b329 := hq_rng z323
  have hP := hP.trans hq306 (fun _ h => Bool.noConfusion h)
  have b330 := hq_rng r305
  obtain ⟨b331, hA332, b333⟩ := hp325
  obtain ⟨b334, b335, b336, -⟩ := id hA332
  have pk341 := pk264.keep (fun x7 (hx7 : q ≤ x7 ∧ x7 < q + 19) => (fr307 x7 (by omega)).trans (fr273 x7 (by omega)))
  obtain ⟨rf337, hrf338⟩ : ∃ f : Nat → Int32, f = rh262 18 := ⟨_, rfl⟩
  have ea339 : V302 (q + 18) = some (.inl (cs 1, 120, .inl (rf337))) := by rw [hrf338]; exact pk341 18 (by decide)
  have hra340 := hq_rg hP.1 (hr_18 hR) ea339
  refine hp_iast hx hb hZ ea339 (hq_in (by omega) (by omega)) dX13_readCompound_66 (fun V342 _ _ e343 o344 hZ => ?_)
  have e343 : V342 (q + 18) = some (.inl (cs 1, 120, .inl (upd (rf337) ((k : Int32).toNatClampNeg) (r305)))) := e343
  have hP := hP.put (hr_18 hR) e343 o344 (hq_c21 (by omega) (hq_upd hra340 (hq_rng _))) rfl
  obtain ⟨g345, ge346⟩ : ∃ g9 : Nat → Int32, g9 = upd (rf337) ((k : Int32).toNatClampNeg) (r305) := ⟨_, rfl⟩
  have fx347 : V342 (q + 18) = some (.inl (cs 1, 120, .inl (g345))) := by rw [ge346]; exact e343
  have hf348 := hq_rg hP.1 (hr_18 hR) fx347
  obtain ⟨rh349, hrh350⟩ : ∃ r9 : hm_Rh, r9 = hm_u2 rh262 18 (k : Int32).toNatClampNeg ((r305 : Int32)) := ⟨_, rfl⟩
  have pk351 : hm_AR cs V342 q rh349 := by rw [hrh350]; exact pk341.put (a := 18) (by decide) (by rw [ge346, hrf338]) fx347 o344
  have hH352 : hm_H rh rh349 := by rw [hrh350]; exact hH265.put (show 60 ≤ (k : Int32).toNatClampNeg by have h8 := (hq_nn (z := k) (by omega)).1; omega)
  have hw353 : hm_W [12, 16, 17, 18] (k).toNatClampNeg rh rh85 := by rw [hrh86]; exact (hm_W.rf).put (by decide)
  have hw354 : hm_W [12, 16, 17, 18] (k).toNatClampNeg rh rh175 := by rw [hrh176]; exact (hw353).put (by decide)
  have hw355 : hm_W [12, 16, 17, 18] (k).toNatClampNeg rh rh262 := by rw [hrh263]; exact (hw354).put (by decide)
  have hw356 : hm_W [12, 16, 17, 18] (k).toNatClampNeg rh rh349 := by rw [hrh350]; exact (hw355).put (by decide)
  have fx357 : V342 (mo) = some (.inr (13, hm_o q (m_tp) (m_sz) (z321) (z322) (z323) (m_ft) (m_fa) (m_le) (m_fo) (m_as) (m_fd) (m_bc) (m_bg) (m_bs) (m_be) (m_b0) (m_b1) (m_cm) (m_hc))) := (o344 (mo) (hq_tne hmo (hr_18 hR) (by simp))).trans (ho324)
  exact hq_vret hx hb hr hlocks hZ ⟨rfl, rfl, hP, (fun x8 hne0 hne1 => (o344 x8 (by omega)).trans ((fr307 x8 hne0).trans ((fr273 x8 hne0).trans ((o257 x8 (by omega)).trans ((fr220 x8 hne0).trans ((fr186 x8 hne0).trans ((o170 x8 (by omega)).trans ((fr133 x8 hne0).trans ((fr96 x8 hne0).trans ((o80 x8 (by omega)).trans ((fr43 x8 hne0).trans (fr9 x8 hne0)))))))))))), z321, z322, z323, rh349, fx357, (by unfold sp_comp; (repeat (first | (rw [if_pos]; rotate_left; omega) | (rw [if_neg]; rotate_left; omega))); (try dsimp only); exact ⟨by first | rfl | omega, hA332, by rw [hrh350, hm_u2a (by decide), hrh263, hm_u2a (by decide), hrh176, hm_u2a (by decide), hrh86, hm_u2e]; omega, by rw [hrh350, hm_u2a (by decide), hrh263, hm_u2a (by decide), hrh176, hm_u2e]; omega⟩), pk351, hw356⟩ dX13_readCompound_67

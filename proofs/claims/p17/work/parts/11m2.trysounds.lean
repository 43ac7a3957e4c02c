set_option maxHeartbeats 4000000 in
set_option maxRecDepth 100000 in
theorem x_trySounds (l : Launch) (D : va_G) (cs : Nat → ClassId) (B : Nat) (G : hq_G) (V : hp_V) (n : Nat) (hI : hq_I cs G V) (kb : Nat) (qt : Nat) (md : Nat) (mh : Nat) (pt : Nat) (ch : Nat) (bb : Nat) (t9 : Nat) (w : sp_W) (bk : sp_B) (Y : sp_Y) (ask : List Int) (e_fd : Int32) (e_sz : Int32) (mw : Int32) (bc : Int32) (bv : Int32) (bl : Int32) (bz0 : Int32) (bz1 : Int32) (bz2 : Int32) (bz3 : Int32) (bz4 : Int32) (bz5 : Int32) (bz6 : Int32) (tz0 : Int32) (tz1 : Int32) (tz2 : Int32) (tz3 : Int32) (tz4 : Int32) (tz5 : Int32) (tz6 : Int32) (ez : Int32) (ef : Nat → Int32) (wz_ : Int32) (wf_ : Nat → Int32) (pz : Int32) (pf : Nat → Int32) (cz : Int32) (cf : Nat → Int32) (hy0 : G (kb + 50) = some (14, 0, 0, 0)) (hy1 : G (kb + 51) = some (13, 0, 0, 0)) (hy2 : G (kb + 52) = some (13, 0, 0, 0)) (hy3 : G (kb + 55) = some (0, 30, 0, 0)) (hy4 : G (kb + 56) = some (1, 30, 0, 0)) (hy5 : G (kb + 57) = some (0, 30, 0, 0)) (hy6 : G (kb + 58) = some (1, 30, 0, 0)) (hy7 : G (kb) = some (0, 4000, 0, 0)) (hy8 : G (kb + 1) = some (1, 4000, 0, 0)) (hy9 : G (kb + 5) = some (11, 0, 0, 0)) (hy10 : G (md) = some (8, 4, 0, 0)) (hy11 : G (mh) = some (8, 2, 0, 0)) (hy12 : G (pt) = some (8, 2, 0, 0)) (hy13 : G (ch) = some (0, 30, 0, 0)) (hy14 : G (ch + 1) = some (1, 30, 0, 0)) (hc0 : V (kb + 50) = some (.inr (1, [.ref (kb + 51), .ref (kb + 52), .int (e_fd), .ref (kb + 53), .ref (kb + 55), .ref (kb + 57), .ref (qt), .ref (kb), .ref (kb + 5), .int (e_sz), .ref (kb + 59), .ref (kb + 60), .ref (kb + 61)]))) (hc1 : V (kb + 51) = some (.inr (10, [.int (bz0), .int (bz1), .int (bz2), .int (bz3), .int (bz4), .int (bz5), .int (bz6)]))) (hc2 : V (kb + 52) = some (.inr (10, [.int (tz0), .int (tz1), .int (tz2), .int (tz3), .int (tz4), .int (tz5), .int (tz6)]))) (hc3 : V (kb + 55) = some (.inr (9, [.ref (kb + 55 + 1), .int (ez)]))) (hc4 : V (kb + 56) = some (.inl (cs 0, 30, .inl (ef)))) (hc5 : V (kb + 57) = some (.inr (9, [.ref (kb + 57 + 1), .int (wz_)]))) (hc6 : V (kb + 58) = some (.inl (cs 0, 30, .inl (wf_)))) (hc7 : V (kb) = some (.inr (9, [.ref (kb + 1), .int (pz)]))) (hc8 : V (kb + 1) = some (.inl (cs 0, 4000, .inl (pf)))) (hc9 : V (kb + 5) = some (.inr (6, [.ref (md), .int (mw), .ref (mh), .ref (pt), .ref (ch)]))) (hc10 : V (ch) = some (.inr (9, [.ref (ch + 1), .int (cz)]))) (hc11 : V (ch + 1) = some (.inl (cs 0, 30, .inl (cf)))) (hc12 : V (qt) = some (.inr (0, [.ref (qt + 1), .int (bc), .ref (qt + 14), .ref (qt + 75), .int (bv), .ref (qt + 76), .int (bl)]))) (hp0 : hx_LL cs V (qt + 77) w bk.2.2.2) (hp1 : hx_BS cs V qt) (hbl : bl.toInt = (bk.2.2.2.length : Int)) (hgd : sp_good w bk) (hgd2 : sp_good2 bk) (hBT : hx_BT G qt bb) (hask : sp_rp pz pf ask) (hend : sp_rp ez ef (sp_U w bk (sp_nm w t9) (sp_ys tz1.toInt tz3.toInt) (sp_ye tz2.toInt tz4.toInt))) (hlen : (sp_U w bk (sp_nm w t9) (sp_ys tz1.toInt tz3.toInt) (sp_ye tz2.toInt tz4.toInt)).length ≤ 30 ∧ (0 ≤ wz_.toInt ∧ wz_.toInt ≤ 30) ∧ (0 ≤ cz.toInt ∧ cz.toInt ≤ 30) ∧ pz.toInt ≤ 4000) (hne : kb + 61 < qt) (hsh : md = kb + 6 ∧ mh = kb + 24 ∧ pt = kb + 34 ∧ ch = kb + 44) (hbw : hx_BW bk.2.2.2.length e_fd.toInt tz0.toInt tz1.toInt tz2.toInt bz0.toInt bz1.toInt bz2.toInt bz3.toInt bz4.toInt bz5.toInt bz6.toInt Y) (hvs : sp_vs bk.2.2.2.length tz1.toInt tz3.toInt) (hve : sp_ve bk.2.2.2.length tz2.toInt tz4.toInt) (hes : (0 ≤ e_sz.toInt ∧ e_sz.toInt ≤ 2) ∧ (0 ≤ e_fd.toInt ∧ e_fd.toInt ≤ 1)) (howx : (-1 ≤ tz1.toInt ∧ tz1.toInt < (bk.2.2.2.length : Int)) ∧ (-1 ≤ tz2.toInt ∧ tz2.toInt < (bk.2.2.2.length : Int))) (hn5 : tz5.toInt = -1 ∧ tz6.toInt = -1) : hp_M l yX1_trySounds cX1_trySounds 8 none ({ frames := 6, cells := 0, slots := 0, locals := 143 }) D cs B V n [.ref (kb + 50)] (hp_QV D cs B (fun V' n' => n = n' ∧ hq_P cs G (fun _ => true) V V' ∧ (∀ x, x ≠ kb + 50 → x ≠ kb + 51 → x ≠ kb + 52 → x ≠ kb + 57 → x ≠ kb + 58 → x ≠ kb + 5 → x ≠ ch → x ≠ ch + 1 → V' x = V x) ∧ (∃ e_fd1 : Int32, ∃ bw0 : Int32, ∃ bw1 : Int32, ∃ bw2 : Int32, ∃ bw3 : Int32, ∃ bw4 : Int32, ∃ bw5 : Int32, ∃ bw6 : Int32, ∃ mw1 : Int32, ∃ wz1 : Int32, ∃ wf1 : Nat → Int32, ∃ cz1 : Int32, ∃ cf1 : Nat → Int32, ∃ tq5 : Int32, ∃ tq6 : Int32, V' (kb + 50) = some (.inr (1, [.ref (kb + 51), .ref (kb + 52), .int (e_fd1), .ref (kb + 53), .ref (kb + 55), .ref (kb + 57), .ref (qt), .ref (kb), .ref (kb + 5), .int (e_sz), .ref (kb + 59), .ref (kb + 60), .ref (kb + 61)])) ∧ V' (kb + 51) = some (.inr (10, [.int (bw0), .int (bw1), .int (bw2), .int (bw3), .int (bw4), .int (bw5), .int (bw6)])) ∧ V' (kb + 5) = some (.inr (6, [.ref (md), .int (mw1), .ref (mh), .ref (pt), .ref (ch)])) ∧ V' (kb + 57) = some (.inr (9, [.ref (kb + 57 + 1), .int (wz1)])) ∧ V' (kb + 58) = some (.inl (cs 0, 30, .inl (wf1))) ∧ V' (ch) = some (.inr (9, [.ref (ch + 1), .int (cz1)])) ∧ V' (ch + 1) = some (.inl (cs 0, 30, .inl (cf1))) ∧ V' (kb + 52) = some (.inr (10, [.int (tz0), .int (tz1), .int (tz2), .int (tz3), .int (tz4), .int (tq5), .int (tq6)])) ∧ (hx_BW bk.2.2.2.length e_fd1.toInt tz0.toInt tz1.toInt tz2.toInt bw0.toInt bw1.toInt bw2.toInt bw3.toInt bw4.toInt bw5.toInt bw6.toInt (sp_tr (sp_M w bk.2.2.2 (sp_U w bk (sp_nm w t9)) ask) Y (sp_cw bk.2.2.2 (sp_wc tz0.toInt tz3.toInt tz4.toInt (-1) (-1)) (sp_wk tz0.toInt tz3.toInt tz4.toInt (-1) (-1)) (sp_ys tz1.toInt tz3.toInt) (sp_ye tz2.toInt tz4.toInt) (sp_hd w (-1) (-1) bk.2.2.2 (sp_U w bk (sp_nm w t9) (sp_ys tz1.toInt tz3.toInt) (sp_ye tz2.toInt tz4.toInt))) (fun a : Nat => sp_hd w (a : Int) (-1) bk.2.2.2 (sp_U w bk (sp_nm w t9) (sp_ys tz1.toInt tz3.toInt) (sp_ye tz2.toInt tz4.toInt)))))) ∧ ((0 ≤ wz1.toInt ∧ wz1.toInt ≤ 30) ∧ (0 ≤ cz1.toInt ∧ cz1.toInt ≤ 30) ∧ (0 ≤ e_fd1.toInt ∧ e_fd1.toInt ≤ 1))))) 0 0 := by
  refine hp_walk (R0 := RX1) (by decide) rfl ?_ (Nat.le_of_ble_eq_true rfl)
  intro p e s m below meth c ls hx hb hr hts hown hlocks hin hml hZ hl
  have hP : hq_P cs G (fun _ => true) V V := hq_P.rf hI
  have hl : lv_has ls 8 [(0, .ref (kb + 50))] := hl
  have hb_e_fd := hq_rng e_fd
  have hb_e_sz := hq_rng e_sz
  have hb_mw := hq_rng mw
  have hb_bc := hq_rng bc
  have hb_bv := hq_rng bv
  have hb_bl := hq_rng bl
  have hb_bz0 := hq_rng bz0
  have hb_bz1 := hq_rng bz1
  have hb_bz2 := hq_rng bz2
  have hb_bz3 := hq_rng bz3
  have hb_bz4 := hq_rng bz4
  have hb_bz5 := hq_rng bz5
  have hb_bz6 := hq_rng bz6
  have hb_tz0 := hq_rng tz0
  have hb_tz1 := hq_rng tz1
  have hb_tz2 := hq_rng tz2
  have hb_tz3 := hq_rng tz3
  have hb_tz4 := hq_rng tz4
  have hb_tz5 := hq_rng tz5
  have hb_tz6 := hq_rng tz6
  have hb_ez := hq_rng ez
  have hb_wz_ := hq_rng wz_
  have hb_pz := hq_rng pz
  have hb_cz := hq_rng cz
  have hf_4 := hq_rgB hI hy4 hc4
  have hf_6 := hq_rgB hI hy6 hc6
  have hf_8 := hq_rgB hI hy8 hc8
  have hf_11 := hq_rgB hI hy14 hc11
  have hll9 := hp0.1
  have ha1 := hask.1
  have he1 := hend.1
  obtain ⟨hq1, hq2, hq3, hq4⟩ := hlen
  obtain ⟨ho1, ho2⟩ := howx
  have hkr := sp_wk_rg tz0.toInt tz3.toInt tz4.toInt (-1) (-1)
  refine lv_iconst (v := 2) hx hb dX1_trySounds_0 (by decide) ?_
  refine lv_aload_n hx hb dX1_trySounds_1 rfl (lv_at hl 0 rfl) ?_
  refine hp_get (v := .ref (kb + 52)) hx hb hts hown hZ hc0 fl_X1_18 rfl dX1_trySounds_2 ?_
  refine hp_calli (hp_runV (As := []) (rest := [.int (2)]) hx hb hml hown hts (x_chgs l D cs B G V n hP.1 (kb + 52) (tz0) (tz1) (tz2) (tz3) (tz4) (tz5) (tz6)  hc2  ) hZ hc2 cv_X1_140 rfl rfl ⟨Nat.le_of_ble_eq_true rfl, Nat.le_of_ble_eq_true rfl⟩ rfl hl.1 rfl (Nat.le_of_ble_eq_true rfl) dX1_trySounds_5 ⟨(Nat.le_of_ble_eq_true rfl), (Nat.le_of_ble_eq_true rfl)⟩) hZ (fun r4 V1 n2 _ _ hw3 hZ => ?_)
  obtain ⟨rfl, rfl, hp7⟩ := hw3
  have b8 := hq_rng r4
  have hk0 : (r4).toInt = (sp_wk tz0.toInt tz3.toInt tz4.toInt (-1) (-1)) := by rw [hp7, hn5.1, hn5.2]
  refine lv_isub hx hb dX1_trySounds_8 ?_
  refine lv_topi (fun y9 ey10 => ?_)
  obtain ⟨k11, hk12, b13, b14⟩ := hq_sub (2) (r4)
  rw [← ey10] at hk12 b13 b14
  have hk12 : (y9).toInt = (2 : Int) - (r4).toInt + k11 * 4294967296 := hk12
  obtain rfl : k11 = 0 := by omega
  refine lv_istore_n (lv' := [(1, .int (y9)), (0, .ref (kb + 50))]) hx hb dX1_trySounds_9 rfl hl (by decide) rfl (fun ls hl => ?_)
  refine lv_aload_n hx hb dX1_trySounds_10 rfl (lv_at hl 1 rfl) ?_
  refine hp_calll (hp_runV (As := []) (rest := []) hx hb hml hown hts (x_tryWord l D cs B G V n hP.1 (kb) (qt) (md) (mh) (pt) (ch) (bb) (t9) (w) (bk) (Y) (ask) (e_fd) (e_sz) (mw) (bc) (bv) (bl) (bz0) (bz1) (bz2) (bz3) (bz4) (bz5) (bz6) (tz0) (tz1) (tz2) (tz3) (tz4) (tz5) (tz6) (ez) (ef) (wz_) (wf_) (pz) (pf) (cz) (cf) hy0 hy1 hy2 hy3 hy4 hy5 hy6 hy7 hy8 hy9 hy10 hy11 hy12 hy13 hy14 hc0 hc1 hc2 hc3 hc4 hc5 hc6 hc7 hc8 hc9 hc10 hc11 hc12 hp0 hp1 hbl hgd hgd2 hBT hask hend ⟨hq1, by omega, by omega, hq4⟩ hne hsh hbw hvs hve (by omega) ⟨ho1, ho2⟩ (by omega)) hZ hc0 cv_X1_144 rfl rfl ⟨Nat.le_of_ble_eq_true rfl, Nat.le_of_ble_eq_true rfl⟩ rfl hl.1 rfl (Nat.le_of_ble_eq_true rfl) dX1_trySounds_11 ⟨(Nat.le_of_ble_eq_true rfl), (Nat.le_of_ble_eq_true rfl)⟩) hZ (fun r18 V15 n16 _ _ hw17 hZ => ?_)
  obtain ⟨rfl, hq19, fr20, z21, z22, z23, z24, z25, z26, z27, z28, z29, z30, u31, z32, u33, ho34, ho35, ho36, ho37, ho38, ho39, ho40, hp41, hp42, hp43⟩ := hw17
  have b44 := hq_rng z21
  have b45 := hq_rng z22
  have b46 := hq_rng z23
  have b47 := hq_rng z24
  have b48 := hq_rng z25
  have b49 := hq_rng z26
  have b50 := hq_rng z27
  have b51 := hq_rng z28
  have b52 := hq_rng z29
  have b53 := hq_rng z30
  have b54 := hq_rng z32
  have hP := hP.trans hq19 (fun _ h => Bool.noConfusion h)
  have hf55 := hq_rgB hP.1 hy6 ho38
  have hf56 := hq_rgB hP.1 hy14 ho40
  have b57 := hp43
  have b58 := hx_BW.fd hp41
  refine lv_lstore_n (lv' := [(2, .long (r18)), (1, .int (y9)), (0, .ref (kb + 50))]) hx hb dX1_trySounds_14 rfl hl (by decide) rfl (fun ls hl => ?_)
  have hbt0 : ∀ cc : Nat, (sp_bt r18 cc ↔ (sp_hd w (-1) (-1) bk.2.2.2 (sp_U w bk (sp_nm w t9) (sp_ys tz1.toInt tz3.toInt) (sp_ye tz2.toInt tz4.toInt))) cc) := by have h9 := hp42; rw [hn5.1, hn5.2] at h9; exact h9
  refine lv_iconst (v := 0) hx hb dX1_trySounds_15 (by decide) ?_
  refine lv_istore (lv' := [(4, .int (0)), (2, .long (r18)), (1, .int (y9)), (0, .ref (kb + 50))]) hx hb dX1_trySounds_16 hl (by decide) rfl (fun ls hl => ?_)
  have fx61 : V15 (kb + 52) = some (.inr (10, [.int (tz0), .int (tz1), .int (tz2), .int (tz3), .int (tz4), .int (tz5), .int (tz6)])) := (fr20 (kb + 52) (hq_tne hy2 hy0 (by simp)) (hq_ne kb 52 51 (by decide)) (hq_tne hy2 hy5 (by simp)) (hq_tne hy2 hy6 (by simp)) (hq_tne hy2 hy9 (by simp)) (hq_tne hy2 hy13 (by simp)) (hq_tne hy2 hy14 (by simp))).trans (hc2)
  have pk68 := hp0.keep (fun x7 (hx7 : qt + 77 ≤ x7 ∧ x7 < qt + 77 + 5 * bk.2.2.2.length) => fr20 x7 (by omega) (by omega) (by omega) (by omega) (by omega) (by omega) (by omega))
  have hl70 : (0 : Int32).toInt = 0 := by decide
  suffices lp18 : ∀ (k9 : Nat) (V9 : hp_V) (H9 : Heap) (locs9 : List Loc) (ls : Array Slot) (i18 : Int32) (Y9 : sp_Y) (fd9 : Int32) (b09 : Int32) (b19 : Int32) (b29 : Int32) (b39 : Int32) (b49 : Int32) (b59 : Int32) (b69 : Int32) (tq5 : Int32) (tq6 : Int32) (mw9 : Int32) (wz9 : Int32) (wf9 : Nat → Int32) (cz9 : Int32) (cf9 : Nat → Int32), (1000 - i18.toInt).toNat = k9 → hp_Z D cs B s V9 H9 n locs9 → hq_P cs G (fun _ => true) V V9 → V9 (kb + 50) = some (.inr (1, [.ref (kb + 51), .ref (kb + 52), .int (fd9), .ref (kb + 53), .ref (kb + 55), .ref (kb + 57), .ref (qt), .ref (kb), .ref (kb + 5), .int (e_sz), .ref (kb + 59), .ref (kb + 60), .ref (kb + 61)])) → V9 (kb + 51) = some (.inr (10, [.int (b09), .int (b19), .int (b29), .int (b39), .int (b49), .int (b59), .int (b69)])) → V9 (kb + 52) = some (.inr (10, [.int (tz0), .int (tz1), .int (tz2), .int (tz3), .int (tz4), .int (tq5), .int (tq6)])) → V9 (kb + 5) = some (.inr (6, [.ref (md), .int (mw9), .ref (mh), .ref (pt), .ref (ch)])) → V9 (kb + 57) = some (.inr (9, [.ref (kb + 58), .int (wz9)])) → V9 (kb + 58) = some (.inl (cs 0, 30, .inl (wf9))) → V9 (ch) = some (.inr (9, [.ref (ch + 1), .int (cz9)])) → V9 (ch + 1) = some (.inl (cs 0, 30, .inl (cf9))) → (∀ x, x ≠ kb + 50 → x ≠ kb + 51 → x ≠ kb + 52 → x ≠ kb + 57 → x ≠ kb + 58 → x ≠ kb + 5 → x ≠ ch → x ≠ ch + 1 → V9 x = V x) → hx_LL cs V9 (qt + 77) w bk.2.2.2 → 0 ≤ i18.toInt → i18.toInt ≤ (bk.2.2.2.length : Int) → (0 ≤ wz9.toInt ∧ wz9.toInt ≤ 30) ∧ (0 ≤ cz9.toInt ∧ cz9.toInt ≤ 30) ∧ (0 ≤ fd9.toInt ∧ fd9.toInt ≤ 1) → (tq6.toInt = -1) → (hx_BW bk.2.2.2.length fd9.toInt tz0.toInt tz1.toInt tz2.toInt b09.toInt b19.toInt b29.toInt b39.toInt b49.toInt b59.toInt b69.toInt Y9) → (sp_tr (sp_M w bk.2.2.2 (sp_U w bk (sp_nm w t9)) ask) Y9 (sp_fl (sp_ca bk.2.2.2 (sp_wc tz0.toInt tz3.toInt tz4.toInt (-1) (-1)) (sp_wk tz0.toInt tz3.toInt tz4.toInt (-1) (-1)) (sp_ys tz1.toInt tz3.toInt) (sp_ye tz2.toInt tz4.toInt) (sp_hd w (-1) (-1) bk.2.2.2 (sp_U w bk (sp_nm w t9) (sp_ys tz1.toInt tz3.toInt) (sp_ye tz2.toInt tz4.toInt))) (fun a : Nat => sp_hd w (a : Int) (-1) bk.2.2.2 (sp_U w bk (sp_nm w t9) (sp_ys tz1.toInt tz3.toInt) (sp_ye tz2.toInt tz4.toInt)))) i18.toInt.toNat (bk.2.2.2.length - i18.toInt.toNat)) = (sp_tr (sp_M w bk.2.2.2 (sp_U w bk (sp_nm w t9)) ask) Y (sp_cw bk.2.2.2 (sp_wc tz0.toInt tz3.toInt tz4.toInt (-1) (-1)) (sp_wk tz0.toInt tz3.toInt tz4.toInt (-1) (-1)) (sp_ys tz1.toInt tz3.toInt) (sp_ye tz2.toInt tz4.toInt) (sp_hd w (-1) (-1) bk.2.2.2 (sp_U w bk (sp_nm w t9) (sp_ys tz1.toInt tz3.toInt) (sp_ye tz2.toInt tz4.toInt))) (fun a : Nat => sp_hd w (a : Int) (-1) bk.2.2.2 (sp_U w bk (sp_nm w t9) (sp_ys tz1.toInt tz3.toInt) (sp_ye tz2.toInt tz4.toInt)))))) → lv_has ls 8 [(4, .int (i18)), (2, .long (r18)), (1, .int (y9)), (0, .ref (kb + 50))] → W p l e ({ frames := 6, cells := 0, slots := 0, locals := 143 }) s m ([.ref (kb + 50)] : List Value).toArray below meth c H9 locs9 0 0 (MQ below (hp_QV D cs B (fun V' n' => n = n' ∧ hq_P cs G (fun _ => true) V V' ∧ (∀ x, x ≠ kb + 50 → x ≠ kb + 51 → x ≠ kb + 52 → x ≠ kb + 57 → x ≠ kb + 58 → x ≠ kb + 5 → x ≠ ch → x ≠ ch + 1 → V' x = V x) ∧ (∃ e_fd1 : Int32, ∃ bw0 : Int32, ∃ bw1 : Int32, ∃ bw2 : Int32, ∃ bw3 : Int32, ∃ bw4 : Int32, ∃ bw5 : Int32, ∃ bw6 : Int32, ∃ mw1 : Int32, ∃ wz1 : Int32, ∃ wf1 : Nat → Int32, ∃ cz1 : Int32, ∃ cf1 : Nat → Int32, ∃ tq5 : Int32, ∃ tq6 : Int32, V' (kb + 50) = some (.inr (1, [.ref (kb + 51), .ref (kb + 52), .int (e_fd1), .ref (kb + 53), .ref (kb + 55), .ref (kb + 57), .ref (qt), .ref (kb), .ref (kb + 5), .int (e_sz), .ref (kb + 59), .ref (kb + 60), .ref (kb + 61)])) ∧ V' (kb + 51) = some (.inr (10, [.int (bw0), .int (bw1), .int (bw2), .int (bw3), .int (bw4), .int (bw5), .int (bw6)])) ∧ V' (kb + 5) = some (.inr (6, [.ref (md), .int (mw1), .ref (mh), .ref (pt), .ref (ch)])) ∧ V' (kb + 57) = some (.inr (9, [.ref (kb + 57 + 1), .int (wz1)])) ∧ V' (kb + 58) = some (.inl (cs 0, 30, .inl (wf1))) ∧ V' (ch) = some (.inr (9, [.ref (ch + 1), .int (cz1)])) ∧ V' (ch + 1) = some (.inl (cs 0, 30, .inl (cf1))) ∧ V' (kb + 52) = some (.inr (10, [.int (tz0), .int (tz1), .int (tz2), .int (tz3), .int (tz4), .int (tq5), .int (tq6)])) ∧ (hx_BW bk.2.2.2.length e_fd1.toInt tz0.toInt tz1.toInt tz2.toInt bw0.toInt bw1.toInt bw2.toInt bw3.toInt bw4.toInt bw5.toInt bw6.toInt (sp_tr (sp_M w bk.2.2.2 (sp_U w bk (sp_nm w t9)) ask) Y (sp_cw bk.2.2.2 (sp_wc tz0.toInt tz3.toInt tz4.toInt (-1) (-1)) (sp_wk tz0.toInt tz3.toInt tz4.toInt (-1) (-1)) (sp_ys tz1.toInt tz3.toInt) (sp_ye tz2.toInt tz4.toInt) (sp_hd w (-1) (-1) bk.2.2.2 (sp_U w bk (sp_nm w t9) (sp_ys tz1.toInt tz3.toInt) (sp_ye tz2.toInt tz4.toInt))) (fun a : Nat => sp_hd w (a : Int) (-1) bk.2.2.2 (sp_U w bk (sp_nm w t9) (sp_ys tz1.toInt tz3.toInt) (sp_ye tz2.toInt tz4.toInt)))))) ∧ ((0 ≤ wz1.toInt ∧ wz1.toInt ≤ 30) ∧ (0 ≤ cz1.toInt ∧ cz1.toInt ≤ 30) ∧ (0 ≤ e_fd1.toInt ∧ e_fd1.toInt ≤ 1))))) ([.ref (kb + 50)] : List Value).toArray s 0 0 (hp_F B)) (F0 m 18 ls []) from lp18 _ _ _ _ ls (0) ((sp_t1 (sp_M w bk.2.2.2 (sp_U w bk (sp_nm w t9)) ask) Y (sp_yw tz0.toInt tz1.toInt tz2.toInt tz3.toInt tz4.toInt (tz5 : Int32).toInt (tz6 : Int32).toInt))) (z21) (z22) (z23) (z24) (z25) (z26) (z27) (z28) (tz5) (tz6) (z29) (z30) (u31) (z32) (u33) rfl hZ hP ho34 ho35 fx61 ho36 ho37 ho38 ho39 ho40 (fun x8 hne0 hne1 hne2 hne3 hne4 hne5 hne6 hne7 => fr20 x8 hne0 hne1 hne3 hne4 hne5 hne6 hne7) pk68 (by omega) (by omega) (by omega) (by omega) (hp41) (sp_cw_in (congrArg (sp_t1 _ _) (sp_yw_0 hn5.1 hn5.2))) (lv_sub hl [0, 1, 2, 3] rfl)
  intro k9
  induction k9 using Nat.strongRecOn with
  | _ k9 ih18 =>
    intro V9 H9 locs9 ls i18 Y9 fd9 b09 b19 b29 b39 b49 b59 b69 tq5 tq6 mw9 wz9 wf9 cz9 cf9 hk18 hZ hP ho59 ho60 ho62 ho63 ho64 ho65 ho66 ho67 fr18 pk69 hv71 hv72 hv73 htq6 hbw9 htr hl
    have hb_i18 := hq_rng i18
    have hb_fd9 := hq_rng fd9
    have hb_b09 := hq_rng b09
    have hb_b19 := hq_rng b19
    have hb_b29 := hq_rng b29
    have hb_b39 := hq_rng b39
    have hb_b49 := hq_rng b49
    have hb_b59 := hq_rng b59
    have hb_b69 := hq_rng b69
    have hb_tq5 := hq_rng tq5
    have hb_tq6 := hq_rng tq6
    have hb_mw9 := hq_rng mw9
    have hb_wz9 := hq_rng wz9
    have hb_cz9 := hq_rng cz9
    have hf74 := hq_rgB hP.1 hy6 ho65
    have hf75 := hq_rgB hP.1 hy14 ho67
    refine lv_iload hx hb dX1_trySounds_18 (lv_at hl 0 rfl) ?_
    refine lv_aload_n hx hb dX1_trySounds_20 rfl (lv_at hl 3 rfl) ?_
    refine hp_get (v := .ref (qt)) hx hb hts hown hZ ho59 fl_X1_50 rfl dX1_trySounds_21 ?_
    have fx76 : V9 (qt) = some (.inr (0, [.ref (qt + 1), .int (bc), .ref (qt + 14), .ref (qt + 75), .int (bv), .ref (qt + 76), .int (bl)])) := (fr18 (qt) (by omega) (by omega) (by omega) (by omega) (by omega) (by omega) (by omega) (by omega)).trans (hc12)
    refine hp_get (v := .int (bl)) hx hb hts hown hZ fx76 fl_X1_80 rfl dX1_trySounds_24 ?_
    refine lv_icmp_ge (tgt := 129) hx hb dX1_trySounds_27 (by decide) (fun c77 => ?_) (fun c77 => ?_)
    · have c77 : (bl).toInt ≤ (i18).toInt := hq_lei.mp c77
      exact hp_vret hx hb hr hlocks hZ ⟨rfl, hP, (fun x8 hne0 hne1 hne2 hne3 hne4 hne5 hne6 hne7 => fr18 x8 hne0 hne1 hne2 hne3 hne4 hne5 hne6 hne7), fd9, b09, b19, b29, b39, b49, b59, b69, mw9, wz9, wf9, cz9, cf9, tq5, tq6, ho59, ho60, ho63, ho64, ho65, ho66, ho67, ho62, (by rw [← sp_ca_out (by omega) htr]; exact hbw9), by omega⟩ dX1_trySounds_129
    · have c77 : ¬ (bl).toInt ≤ (i18).toInt := fun h9 => c77 (hq_lei.mpr h9)
      refine lv_iload_n hx hb dX1_trySounds_30 rfl (lv_at hl 2 rfl) ?_
      refine lv_if_le (tgt := 129) hx hb dX1_trySounds_31 (by decide) (fun c78 => ?_) (fun c78 => ?_)
      · have c78 : (y9).toInt ≤ (0 : Int) := hq_lei.mp c78
        exact hp_vret hx hb hr hlocks hZ ⟨rfl, hP, (fun x8 hne0 hne1 hne2 hne3 hne4 hne5 hne6 hne7 => fr18 x8 hne0 hne1 hne2 hne3 hne4 hne5 hne6 hne7), fd9, b09, b19, b29, b39, b49, b59, b69, mw9, wz9, wf9, cz9, cf9, tq5, tq6, ho59, ho60, ho63, ho64, ho65, ho66, ho67, ho62, (by rw [← sp_ca_end (by omega) htr]; exact hbw9), by omega⟩ dX1_trySounds_129
      · have c78 : ¬ (y9).toInt ≤ (0 : Int) := fun h9 => c78 (hq_lei.mpr h9)
        refine lv_lload_n hx hb dX1_trySounds_34 rfl (lv_at hl 1 rfl) ?_
        refine lv_iload hx hb dX1_trySounds_35 (lv_at hl 0 rfl) ?_
        refine lv_lushr (v := ((r18 : Int64).toUInt64 >>> ((i18 : Int32).toInt64.toUInt64 &&& Int64.toUInt64 63)).toInt64) hx hb dX1_trySounds_37 rfl ?_
        refine lv_topl (fun y79 ey80 => ?_)
        refine lv_lconst (v := 1) hx hb dX1_trySounds_38 (by decide) ?_
        refine lv_land hx hb dX1_trySounds_39 ?_
        refine lv_topl (fun y81 ey82 => ?_)
        refine lv_lconst (v := 0) hx hb dX1_trySounds_40 (by decide) ?_
        refine W.lcmp hx hb dX1_trySounds_41 ?_
        refine lv_topi (fun y83 ey84 => ?_)
        have b85 := hm_cmp (y81) (0)
        rw [← ey84] at b85
        have b86 : (0 : Int64).toInt = 0 := by decide
        refine lv_if_eq (tgt := 123) hx hb dX1_trySounds_42 (by decide) (fun c87 => ?_) (fun c87 => ?_)
        · have c87 : (y83).toInt = (0 : Int) := hq_eqi.mp c87
          have hnb : ¬ sp_bt r18 (i18).toInt.toNat := (sp_bt_and (by omega) (by omega)).mp (by rw [← ey80, ← ey82]; exact Int64.toInt_inj.mp (by omega))
          obtain ⟨y88, ey89⟩ : ∃ y : Int32, y = i18 + (1) := ⟨_, rfl⟩
          obtain ⟨k90, hk91, b92, b93⟩ := hq_add (i18) (1)
          rw [← ey89] at hk91 b92 b93
          have hk91 : (y88).toInt = (i18).toInt + (1) + k90 * 4294967296 := hk91
          obtain rfl : k90 = 0 := by omega
          refine lv_iinc (v := y88) (lv' := [(4, .int (y88)), (2, .long (r18)), (1, .int (y9)), (0, .ref (kb + 50))]) hx hb dX1_trySounds_123 hl (k := 0) rfl (by rw [ey89]; rfl) (by decide) rfl (fun ls hl => ?_)
          refine lv_goto (tgt := 18) hx hb dX1_trySounds_126 (by decide) ?_
          exact ih18 _ (by omega) _ _ _ ls (y88) (Y9) (fd9) (b09) (b19) (b29) (b39) (b49) (b59) (b69) (tq5) (tq6) (mw9) (wz9) (wf9) (cz9) (cf9) rfl hZ hP ho59 ho60 ho62 ho63 ho64 ho65 ho66 ho67 (fun x8 hne0 hne1 hne2 hne3 hne4 hne5 hne6 hne7 => fr18 x8 hne0 hne1 hne2 hne3 hne4 hne5 hne6 hne7) pk69 (by omega) (by omega) (by omega) (by omega) (hbw9) (by have h9 := (sp_ca_skip (by omega) (fun g9 => hnb ((hbt0 _).mpr g9.1)) htr); rw [show (y88).toInt.toNat = i18.toInt.toNat + 1 by omega]; exact h9) (lv_sub hl [0, 1, 2, 3] rfl)
        · have c87 : ¬ (y83).toInt = (0 : Int) := fun h9 => c87 (hq_eqi.mpr h9)
          have hyb : sp_bt r18 (i18).toInt.toNat := Classical.byContradiction (fun g9 => by have h9 := (sp_bt_and (by omega) (by omega)).mpr g9; rw [← ey80, ← ey82] at h9; have h8 := congrArg Int64.toInt h9; omega)
          refine lv_aload_n hx hb dX1_trySounds_45 rfl (lv_at hl 3 rfl) ?_
          refine hp_get (v := .ref (kb + 52)) hx hb hts hown hZ ho59 fl_X1_18 rfl dX1_trySounds_46 ?_
          refine lv_iload hx hb dX1_trySounds_49 (lv_at hl 0 rfl) ?_
          refine hp_put hx hb hts hown hZ ho62 fp_X1_114 rfl rfl (Nat.le_of_ble_eq_true rfl) dX1_trySounds_51 (fun V94 _ _ e95 o96 hZ => ?_)
          have e95 : V94 (kb + 52) = some (.inr (10, [.int (tz0), .int (tz1), .int (tz2), .int (tz3), .int (tz4), .int (i18), .int (tq6)])) := e95
          have hP := hP.put hy2 e95 o96 (hq_c13 (show -1 ≤ (tz1).toInt ∧ (tz1).toInt ≤ 59 by omega) (show -1 ≤ (tz2).toInt ∧ (tz2).toInt ≤ 59 by omega)) rfl
          refine lv_aload_n hx hb dX1_trySounds_54 rfl (lv_at hl 3 rfl) ?_
          have fx97 : V94 (kb + 50) = some (.inr (1, [.ref (kb + 51), .ref (kb + 52), .int (fd9), .ref (kb + 53), .ref (kb + 55), .ref (kb + 57), .ref (qt), .ref (kb), .ref (kb + 5), .int (e_sz), .ref (kb + 59), .ref (kb + 60), .ref (kb + 61)])) := (o96 (kb + 50) (hq_tne hy0 hy2 (by simp))).trans (ho59)
          have fx98 : V94 (kb + 51) = some (.inr (10, [.int (b09), .int (b19), .int (b29), .int (b39), .int (b49), .int (b59), .int (b69)])) := (o96 (kb + 51) (hq_ne kb 51 52 (by decide))).trans (ho60)
          have fx99 : V94 (kb + 55) = some (.inr (9, [.ref (kb + 55 + 1), .int (ez)])) := (o96 (kb + 55) (hq_tne hy3 hy2 (by simp))).trans ((fr18 (kb + 55) (hq_tne hy3 hy0 (by simp)) (hq_tne hy3 hy1 (by simp)) (hq_tne hy3 hy2 (by simp)) (hq_ne kb 55 57 (by decide)) (hq_tne hy3 hy6 (by simp)) (hq_tne hy3 hy9 (by simp)) (by omega) (hq_tne hy3 hy14 (by simp))).trans (hc3))
          have fx100 : V94 (kb + 56) = some (.inl (cs 0, 30, .inl (ef))) := (o96 (kb + 56) (hq_tne hy4 hy2 (by simp))).trans ((fr18 (kb + 56) (hq_tne hy4 hy0 (by simp)) (hq_tne hy4 hy1 (by simp)) (hq_tne hy4 hy2 (by simp)) (hq_tne hy4 hy5 (by simp)) (hq_ne kb 56 58 (by decide)) (hq_tne hy4 hy9 (by simp)) (hq_tne hy4 hy13 (by simp)) (by omega)).trans (hc4))
          have fx101 : V94 (kb + 57) = some (.inr (9, [.ref (kb + 58), .int (wz9)])) := (o96 (kb + 57) (hq_tne hy5 hy2 (by simp))).trans (ho64)
          have fx102 : V94 (kb + 58) = some (.inl (cs 0, 30, .inl (wf9))) := (o96 (kb + 58) (hq_tne hy6 hy2 (by simp))).trans (ho65)
          have fx103 : V94 (kb) = some (.inr (9, [.ref (kb + 1), .int (pz)])) := (o96 (kb) (hq_tne hy7 hy2 (by simp))).trans ((fr18 (kb) (hq_tne hy7 hy0 (by simp)) (hq_tne hy7 hy1 (by simp)) (hq_tne hy7 hy2 (by simp)) (hq_tne hy7 hy5 (by simp)) (hq_tne hy7 hy6 (by simp)) (hq_tne hy7 hy9 (by simp)) (hq_tne hy7 hy13 (by simp)) (hq_tne hy7 hy14 (by simp))).trans (hc7))
          have fx104 : V94 (kb + 1) = some (.inl (cs 0, 4000, .inl (pf))) := (o96 (kb + 1) (hq_tne hy8 hy2 (by simp))).trans ((fr18 (kb + 1) (hq_tne hy8 hy0 (by simp)) (hq_tne hy8 hy1 (by simp)) (hq_tne hy8 hy2 (by simp)) (hq_tne hy8 hy5 (by simp)) (hq_tne hy8 hy6 (by simp)) (hq_tne hy8 hy9 (by simp)) (hq_tne hy8 hy13 (by simp)) (hq_tne hy8 hy14 (by simp))).trans (hc8))
          have fx105 : V94 (kb + 5) = some (.inr (6, [.ref (md), .int (mw9), .ref (mh), .ref (pt), .ref (ch)])) := (o96 (kb + 5) (hq_tne hy9 hy2 (by simp))).trans (ho63)
          have fx106 : V94 (ch) = some (.inr (9, [.ref (ch + 1), .int (cz9)])) := (o96 (ch) (hq_tne hy13 hy2 (by simp))).trans (ho66)
          have fx107 : V94 (ch + 1) = some (.inl (cs 0, 30, .inl (cf9))) := (o96 (ch + 1) (hq_tne hy14 hy2 (by simp))).trans (ho67)
          have fx108 : V94 (qt) = some (.inr (0, [.ref (qt + 1), .int (bc), .ref (qt + 14), .ref (qt + 75), .int (bv), .ref (qt + 76), .int (bl)])) := (o96 (qt) (by omega)).trans (fx76)
          have pk109 := pk69.keep (fun x7 (hx7 : qt + 77 ≤ x7 ∧ x7 < qt + 77 + 5 * bk.2.2.2.length) => o96 x7 (by omega))
          have pk110 := hp1.keep ((o96 (qt + 1) (by omega)).trans (fr18 (qt + 1) (by omega) (by omega) (by omega) (by omega) (by omega) (by omega) (by omega) (by omega))) ((o96 (qt + 14) (by omega)).trans (fr18 (qt + 14) (by omega) (by omega) (by omega) (by omega) (by omega) (by omega) (by omega) (by omega))) ((o96 (qt + 76) (by omega)).trans (fr18 (qt + 76) (by omega) (by omega) (by omega) (by omega) (by omega) (by omega) (by omega) (by omega)))
          refine hp_calll (hp_runV (As := []) (rest := []) hx hb hml hown hts (x_tryWord l D cs B G V94 n hP.1 (kb) (qt) (md) (mh) (pt) (ch) (bb) (t9) (w) (bk) (Y9) (ask) (fd9) (e_sz) (mw9) (bc) (bv) (bl) (b09) (b19) (b29) (b39) (b49) (b59) (b69) (tz0) (tz1) (tz2) (tz3) (tz4) (i18) (tq6) (ez) (ef) (wz9) (wf9) (pz) (pf) (cz9) (cf9) hy0 hy1 hy2 hy3 hy4 hy5 hy6 hy7 hy8 hy9 hy10 hy11 hy12 hy13 hy14 fx97 fx98 e95 fx99 fx100 fx101 fx102 fx103 fx104 fx105 fx106 fx107 fx108 pk109 pk110 hbl hgd hgd2 hBT hask hend ⟨hq1, by omega, by omega, hq4⟩ hne hsh hbw9 hvs hve (by omega) ⟨ho1, ho2⟩ (by omega)) hZ fx97 cv_X1_144 rfl rfl ⟨Nat.le_of_ble_eq_true rfl, Nat.le_of_ble_eq_true rfl⟩ rfl hl.1 rfl (Nat.le_of_ble_eq_true rfl) dX1_trySounds_55 ⟨(Nat.le_of_ble_eq_true rfl), (Nat.le_of_ble_eq_true rfl)⟩) hZ (fun r114 V111 n112 _ _ hw113 hZ => ?_)
          obtain ⟨rfl, hq115, fr116, z117, z118, z119, z120, z121, z122, z123, z124, z125, z126, u127, z128, u129, ho130, ho131, ho132, ho133, ho134, ho135, ho136, hp137, hp138, hp139⟩ := hw113
          have b140 := hq_rng z117
          have b141 := hq_rng z118
          have b142 := hq_rng z119
          have b143 := hq_rng z120
          have b144 := hq_rng z121
          have b145 := hq_rng z122
          have b146 := hq_rng z123
          have b147 := hq_rng z124
          have b148 := hq_rng z125
          have b149 := hq_rng z126
          have b150 := hq_rng z128
          have hP := hP.trans hq115 (fun _ h => Bool.noConfusion h)
          have hf151 := hq_rgB hP.1 hy6 ho134
          have hf152 := hq_rgB hP.1 hy14 ho136
          have b153 := hp139
          have b154 := hx_BW.fd hp137
          refine lv_lstore (lv' := [(5, .long (r114)), (4, .int (i18)), (2, .long (r18)), (1, .int (y9)), (0, .ref (kb + 50))]) hx hb dX1_trySounds_58 hl (by decide) rfl (fun ls hl => ?_)
          have fx155 : V111 (kb + 52) = some (.inr (10, [.int (tz0), .int (tz1), .int (tz2), .int (tz3), .int (tz4), .int (i18), .int (tq6)])) := (fr116 (kb + 52) (hq_tne hy2 hy0 (by simp)) (hq_ne kb 52 51 (by decide)) (hq_tne hy2 hy5 (by simp)) (hq_tne hy2 hy6 (by simp)) (hq_tne hy2 hy9 (by simp)) (hq_tne hy2 hy13 (by simp)) (hq_tne hy2 hy14 (by simp))).trans (e95)
          have hbt1 : ∀ cc : Nat, (sp_bt r114 cc ↔ ((fun a : Nat => sp_hd w (a : Int) (-1) bk.2.2.2 (sp_U w bk (sp_nm w t9) (sp_ys tz1.toInt tz3.toInt) (sp_ye tz2.toInt tz4.toInt))) i18.toInt.toNat) cc) := by have h9 := hp138; rw [htq6] at h9; show ∀ cc : Nat, (sp_bt r114 cc ↔ sp_hd w (((i18.toInt.toNat : Nat)) : Int) (-1) bk.2.2.2 (sp_U w bk (sp_nm w t9) (sp_ys tz1.toInt tz3.toInt) (sp_ye tz2.toInt tz4.toInt)) cc); rw [show (((i18.toInt.toNat : Nat)) : Int) = i18.toInt by omega]; exact h9
          refine lv_iload hx hb dX1_trySounds_60 (lv_at hl 1 rfl) ?_
          refine lv_iconst (v := 1) hx hb dX1_trySounds_62 (by decide) ?_
          refine lv_iadd hx hb dX1_trySounds_63 ?_
          refine lv_topi (fun y156 ey157 => ?_)
          obtain ⟨k158, hk159, b160, b161⟩ := hq_add (i18) (1)
          rw [← ey157] at hk159 b160 b161
          have hk159 : (y156).toInt = (i18).toInt + (1 : Int) + k158 * 4294967296 := hk159
          obtain rfl : k158 = 0 := by omega
          refine lv_istore (lv' := [(7, .int (y156)), (5, .long (r114)), (4, .int (i18)), (2, .long (r18)), (1, .int (y9)), (0, .ref (kb + 50))]) hx hb dX1_trySounds_64 hl (by decide) rfl (fun ls hl => ?_)
          have pk170 := pk109.keep (fun x7 (hx7 : qt + 77 ≤ x7 ∧ x7 < qt + 77 + 5 * bk.2.2.2.length) => fr116 x7 (by omega) (by omega) (by omega) (by omega) (by omega) (by omega) (by omega))
          suffices lp66 : ∀ (k9 : Nat) (V9 : hp_V) (H9 : Heap) (locs9 : List Loc) (ls : Array Slot) (i66 : Int32) (Y8 : sp_Y) (fd8 : Int32) (b08 : Int32) (b18 : Int32) (b28 : Int32) (b38 : Int32) (b48 : Int32) (b58 : Int32) (b68 : Int32) (tq6b : Int32) (mw8 : Int32) (wz8 : Int32) (wf8 : Nat → Int32) (cz8 : Int32) (cf8 : Nat → Int32), (1000 - i66.toInt).toNat = k9 → hp_Z D cs B s V9 H9 n locs9 → hq_P cs G (fun _ => true) V V9 → V9 (kb + 50) = some (.inr (1, [.ref (kb + 51), .ref (kb + 52), .int (fd8), .ref (kb + 53), .ref (kb + 55), .ref (kb + 57), .ref (qt), .ref (kb), .ref (kb + 5), .int (e_sz), .ref (kb + 59), .ref (kb + 60), .ref (kb + 61)])) → V9 (kb + 51) = some (.inr (10, [.int (b08), .int (b18), .int (b28), .int (b38), .int (b48), .int (b58), .int (b68)])) → V9 (kb + 52) = some (.inr (10, [.int (tz0), .int (tz1), .int (tz2), .int (tz3), .int (tz4), .int (i18), .int (tq6b)])) → V9 (kb + 5) = some (.inr (6, [.ref (md), .int (mw8), .ref (mh), .ref (pt), .ref (ch)])) → V9 (kb + 57) = some (.inr (9, [.ref (kb + 58), .int (wz8)])) → V9 (kb + 58) = some (.inl (cs 0, 30, .inl (wf8))) → V9 (ch) = some (.inr (9, [.ref (ch + 1), .int (cz8)])) → V9 (ch + 1) = some (.inl (cs 0, 30, .inl (cf8))) → (∀ x, x ≠ kb + 50 → x ≠ kb + 51 → x ≠ kb + 52 → x ≠ kb + 57 → x ≠ kb + 58 → x ≠ kb + 5 → x ≠ ch → x ≠ ch + 1 → V9 x = V x) → hx_LL cs V9 (qt + 77) w bk.2.2.2 → i18.toInt + 1 ≤ i66.toInt → i66.toInt ≤ (bk.2.2.2.length : Int) → (0 ≤ wz8.toInt ∧ wz8.toInt ≤ 30) ∧ (0 ≤ cz8.toInt ∧ cz8.toInt ≤ 30) ∧ (0 ≤ fd8.toInt ∧ fd8.toInt ≤ 1) → -1 ≤ tq6b.toInt ∧ tq6b.toInt < 60 → (hx_BW bk.2.2.2.length fd8.toInt tz0.toInt tz1.toInt tz2.toInt b08.toInt b18.toInt b28.toInt b38.toInt b48.toInt b58.toInt b68.toInt Y8) → (sp_tr (sp_M w bk.2.2.2 (sp_U w bk (sp_nm w t9)) ask) Y8 ((sp_fl (sp_cb (sp_wc tz0.toInt tz3.toInt tz4.toInt (-1) (-1)) (sp_wk tz0.toInt tz3.toInt tz4.toInt (-1) (-1)) (sp_ys tz1.toInt tz3.toInt) (sp_ye tz2.toInt tz4.toInt) ((fun a : Nat => sp_hd w (a : Int) (-1) bk.2.2.2 (sp_U w bk (sp_nm w t9) (sp_ys tz1.toInt tz3.toInt) (sp_ye tz2.toInt tz4.toInt))) i18.toInt.toNat) i18.toInt.toNat) i66.toInt.toNat (bk.2.2.2.length - i66.toInt.toNat)) ++ (sp_fl (sp_ca bk.2.2.2 (sp_wc tz0.toInt tz3.toInt tz4.toInt (-1) (-1)) (sp_wk tz0.toInt tz3.toInt tz4.toInt (-1) (-1)) (sp_ys tz1.toInt tz3.toInt) (sp_ye tz2.toInt tz4.toInt) (sp_hd w (-1) (-1) bk.2.2.2 (sp_U w bk (sp_nm w t9) (sp_ys tz1.toInt tz3.toInt) (sp_ye tz2.toInt tz4.toInt))) (fun a : Nat => sp_hd w (a : Int) (-1) bk.2.2.2 (sp_U w bk (sp_nm w t9) (sp_ys tz1.toInt tz3.toInt) (sp_ye tz2.toInt tz4.toInt)))) (i18.toInt.toNat + 1) (bk.2.2.2.length - (i18.toInt.toNat + 1)))) = (sp_tr (sp_M w bk.2.2.2 (sp_U w bk (sp_nm w t9)) ask) Y (sp_cw bk.2.2.2 (sp_wc tz0.toInt tz3.toInt tz4.toInt (-1) (-1)) (sp_wk tz0.toInt tz3.toInt tz4.toInt (-1) (-1)) (sp_ys tz1.toInt tz3.toInt) (sp_ye tz2.toInt tz4.toInt) (sp_hd w (-1) (-1) bk.2.2.2 (sp_U w bk (sp_nm w t9) (sp_ys tz1.toInt tz3.toInt) (sp_ye tz2.toInt tz4.toInt))) (fun a : Nat => sp_hd w (a : Int) (-1) bk.2.2.2 (sp_U w bk (sp_nm w t9) (sp_ys tz1.toInt tz3.toInt) (sp_ye tz2.toInt tz4.toInt)))))) → lv_has ls 8 [(7, .int (i66)), (5, .long (r114)), (4, .int (i18)), (2, .long (r18)), (1, .int (y9)), (0, .ref (kb + 50))] → W p l e ({ frames := 6, cells := 0, slots := 0, locals := 143 }) s m ([.ref (kb + 50)] : List Value).toArray below meth c H9 locs9 0 0 (MQ below (hp_QV D cs B (fun V' n' => n = n' ∧ hq_P cs G (fun _ => true) V V' ∧ (∀ x, x ≠ kb + 50 → x ≠ kb + 51 → x ≠ kb + 52 → x ≠ kb + 57 → x ≠ kb + 58 → x ≠ kb + 5 → x ≠ ch → x ≠ ch + 1 → V' x = V x) ∧ (∃ e_fd1 : Int32, ∃ bw0 : Int32, ∃ bw1 : Int32, ∃ bw2 : Int32, ∃ bw3 : Int32, ∃ bw4 : Int32, ∃ bw5 : Int32, ∃ bw6 : Int32, ∃ mw1 : Int32, ∃ wz1 : Int32, ∃ wf1 : Nat → Int32, ∃ cz1 : Int32, ∃ cf1 : Nat → Int32, ∃ tq5 : Int32, ∃ tq6 : Int32, V' (kb + 50) = some (.inr (1, [.ref (kb + 51), .ref (kb + 52), .int (e_fd1), .ref (kb + 53), .ref (kb + 55), .ref (kb + 57), .ref (qt), .ref (kb), .ref (kb + 5), .int (e_sz), .ref (kb + 59), .ref (kb + 60), .ref (kb + 61)])) ∧ V' (kb + 51) = some (.inr (10, [.int (bw0), .int (bw1), .int (bw2), .int (bw3), .int (bw4), .int (bw5), .int (bw6)])) ∧ V' (kb + 5) = some (.inr (6, [.ref (md), .int (mw1), .ref (mh), .ref (pt), .ref (ch)])) ∧ V' (kb + 57) = some (.inr (9, [.ref (kb + 57 + 1), .int (wz1)])) ∧ V' (kb + 58) = some (.inl (cs 0, 30, .inl (wf1))) ∧ V' (ch) = some (.inr (9, [.ref (ch + 1), .int (cz1)])) ∧ V' (ch + 1) = some (.inl (cs 0, 30, .inl (cf1))) ∧ V' (kb + 52) = some (.inr (10, [.int (tz0), .int (tz1), .int (tz2), .int (tz3), .int (tz4), .int (tq5), .int (tq6)])) ∧ (hx_BW bk.2.2.2.length e_fd1.toInt tz0.toInt tz1.toInt tz2.toInt bw0.toInt bw1.toInt bw2.toInt bw3.toInt bw4.toInt bw5.toInt bw6.toInt (sp_tr (sp_M w bk.2.2.2 (sp_U w bk (sp_nm w t9)) ask) Y (sp_cw bk.2.2.2 (sp_wc tz0.toInt tz3.toInt tz4.toInt (-1) (-1)) (sp_wk tz0.toInt tz3.toInt tz4.toInt (-1) (-1)) (sp_ys tz1.toInt tz3.toInt) (sp_ye tz2.toInt tz4.toInt) (sp_hd w (-1) (-1) bk.2.2.2 (sp_U w bk (sp_nm w t9) (sp_ys tz1.toInt tz3.toInt) (sp_ye tz2.toInt tz4.toInt))) (fun a : Nat => sp_hd w (a : Int) (-1) bk.2.2.2 (sp_U w bk (sp_nm w t9) (sp_ys tz1.toInt tz3.toInt) (sp_ye tz2.toInt tz4.toInt)))))) ∧ ((0 ≤ wz1.toInt ∧ wz1.toInt ≤ 30) ∧ (0 ≤ cz1.toInt ∧ cz1.toInt ≤ 30) ∧ (0 ≤ e_fd1.toInt ∧ e_fd1.toInt ≤ 1))))) ([.ref (kb + 50)] : List Value).toArray s 0 0 (hp_F B)) (F0 m 66 ls []) from lp66 _ _ _ _ ls (y156) ((sp_t1 (sp_M w bk.2.2.2 (sp_U w bk (sp_nm w t9)) ask) Y9 (sp_yw tz0.toInt tz1.toInt tz2.toInt tz3.toInt tz4.toInt (i18 : Int32).toInt (tq6 : Int32).toInt))) (z117) (z118) (z119) (z120) (z121) (z122) (z123) (z124) (tq6) (z125) (z126) (u127) (z128) (u129) rfl hZ hP ho130 ho131 fx155 ho132 ho133 ho134 ho135 ho136 (fun x8 hne0 hne1 hne2 hne3 hne4 hne5 hne6 hne7 => (fr116 x8 hne0 hne1 hne3 hne4 hne5 hne6 hne7).trans ((o96 x8 hne2).trans (fr18 x8 hne0 hne1 hne2 hne3 hne4 hne5 hne6 hne7))) pk170 (by omega) (by omega) (by omega) (by omega) (hp137) (by have h9 := sp_ca_in (by omega) ((hbt0 _).mp hyb) (by omega) htr (Y1 := (sp_t1 (sp_M w bk.2.2.2 (sp_U w bk (sp_nm w t9)) ask) Y9 (sp_yw tz0.toInt tz1.toInt tz2.toInt tz3.toInt tz4.toInt (i18 : Int32).toInt (tq6 : Int32).toInt))) (congrArg (sp_t1 _ _) (sp_yw_1 (by omega) (by omega) (by omega))); rw [show (y156).toInt.toNat = i18.toInt.toNat + 1 by omega]; exact h9) (lv_sub hl [0, 1, 2, 3, 4, 5] rfl)
          intro k9
          induction k9 using Nat.strongRecOn with
          | _ k9 ih66 =>
            intro V9 H9 locs9 ls i66 Y8 fd8 b08 b18 b28 b38 b48 b58 b68 tq6b mw8 wz8 wf8 cz8 cf8 hk66 hZ hP ho162 ho163 ho164 ho165 ho166 ho167 ho168 ho169 fr66 pk171 hv172 hv173 hv174 hv175 hbw8 htb hl
            have hb_i66 := hq_rng i66
            have hb_fd8 := hq_rng fd8
            have hb_b08 := hq_rng b08
            have hb_b18 := hq_rng b18
            have hb_b28 := hq_rng b28
            have hb_b38 := hq_rng b38
            have hb_b48 := hq_rng b48
            have hb_b58 := hq_rng b58
            have hb_b68 := hq_rng b68
            have hb_tq6b := hq_rng tq6b
            have hb_mw8 := hq_rng mw8
            have hb_wz8 := hq_rng wz8
            have hb_cz8 := hq_rng cz8
            have hf176 := hq_rgB hP.1 hy6 ho167
            have hf177 := hq_rgB hP.1 hy14 ho169
            refine lv_iload hx hb dX1_trySounds_66 (lv_at hl 0 rfl) ?_
            refine lv_aload_n hx hb dX1_trySounds_68 rfl (lv_at hl 5 rfl) ?_
            refine hp_get (v := .ref (qt)) hx hb hts hown hZ ho162 fl_X1_50 rfl dX1_trySounds_69 ?_
            have fx178 : V9 (qt) = some (.inr (0, [.ref (qt + 1), .int (bc), .ref (qt + 14), .ref (qt + 75), .int (bv), .ref (qt + 76), .int (bl)])) := (fr66 (qt) (by omega) (by omega) (by omega) (by omega) (by omega) (by omega) (by omega) (by omega)).trans (hc12)
            refine hp_get (v := .int (bl)) hx hb hts hown hZ fx178 fl_X1_80 rfl dX1_trySounds_72 ?_
            refine lv_icmp_ge (tgt := 115) hx hb dX1_trySounds_75 (by decide) (fun c179 => ?_) (fun c179 => ?_)
            · have c179 : (bl).toInt ≤ (i66).toInt := hq_lei.mp c179
              refine lv_aload_n hx hb dX1_trySounds_115 rfl (lv_at hl 5 rfl) ?_
              refine hp_get (v := .ref (kb + 52)) hx hb hts hown hZ ho162 fl_X1_18 rfl dX1_trySounds_116 ?_
              refine lv_iconst (v := -1) hx hb dX1_trySounds_119 (by decide) ?_
              refine hp_put hx hb hts hown hZ ho164 fp_X1_117 rfl rfl (Nat.le_of_ble_eq_true rfl) dX1_trySounds_120 (fun V180 _ _ e181 o182 hZ => ?_)
              have e181 : V180 (kb + 52) = some (.inr (10, [.int (tz0), .int (tz1), .int (tz2), .int (tz3), .int (tz4), .int (i18), .int (-1)])) := e181
              have hP := hP.put hy2 e181 o182 (hq_c13 (show -1 ≤ (tz1).toInt ∧ (tz1).toInt ≤ 59 by omega) (show -1 ≤ (tz2).toInt ∧ (tz2).toInt ≤ 59 by omega)) rfl
              obtain ⟨y183, ey184⟩ : ∃ y : Int32, y = i18 + (1) := ⟨_, rfl⟩
              obtain ⟨k185, hk186, b187, b188⟩ := hq_add (i18) (1)
              rw [← ey184] at hk186 b187 b188
              have hk186 : (y183).toInt = (i18).toInt + (1) + k185 * 4294967296 := hk186
              obtain rfl : k185 = 0 := by omega
              refine lv_iinc (v := y183) (lv' := [(4, .int (y183)), (7, .int (i66)), (5, .long (r114)), (2, .long (r18)), (1, .int (y9)), (0, .ref (kb + 50))]) hx hb dX1_trySounds_123 hl (k := 2) rfl (by rw [ey184]; rfl) (by decide) rfl (fun ls hl => ?_)
              refine lv_goto (tgt := 18) hx hb dX1_trySounds_126 (by decide) ?_
              have fx189 : V180 (kb + 50) = some (.inr (1, [.ref (kb + 51), .ref (kb + 52), .int (fd8), .ref (kb + 53), .ref (kb + 55), .ref (kb + 57), .ref (qt), .ref (kb), .ref (kb + 5), .int (e_sz), .ref (kb + 59), .ref (kb + 60), .ref (kb + 61)])) := (o182 (kb + 50) (hq_tne hy0 hy2 (by simp))).trans (ho162)
              have fx190 : V180 (kb + 51) = some (.inr (10, [.int (b08), .int (b18), .int (b28), .int (b38), .int (b48), .int (b58), .int (b68)])) := (o182 (kb + 51) (hq_ne kb 51 52 (by decide))).trans (ho163)
              have hl191 : (-1 : Int32).toInt = -1 := by decide
              have fx192 : V180 (kb + 5) = some (.inr (6, [.ref (md), .int (mw8), .ref (mh), .ref (pt), .ref (ch)])) := (o182 (kb + 5) (hq_tne hy9 hy2 (by simp))).trans (ho165)
              have fx193 : V180 (kb + 57) = some (.inr (9, [.ref (kb + 58), .int (wz8)])) := (o182 (kb + 57) (hq_tne hy5 hy2 (by simp))).trans (ho166)
              have fx194 : V180 (kb + 58) = some (.inl (cs 0, 30, .inl (wf8))) := (o182 (kb + 58) (hq_tne hy6 hy2 (by simp))).trans (ho167)
              have fx195 : V180 (ch) = some (.inr (9, [.ref (ch + 1), .int (cz8)])) := (o182 (ch) (hq_tne hy13 hy2 (by simp))).trans (ho168)
              have fx196 : V180 (ch + 1) = some (.inl (cs 0, 30, .inl (cf8))) := (o182 (ch + 1) (hq_tne hy14 hy2 (by simp))).trans (ho169)
              have pk197 := pk171.keep (fun x7 (hx7 : qt + 77 ≤ x7 ∧ x7 < qt + 77 + 5 * bk.2.2.2.length) => o182 x7 (by omega))
              exact ih18 _ (by omega) _ _ _ ls (y183) (Y8) (fd8) (b08) (b18) (b28) (b38) (b48) (b58) (b68) (i18) (-1) (mw8) (wz8) (wf8) (cz8) (cf8) rfl hZ hP fx189 fx190 e181 fx192 fx193 fx194 fx195 fx196 (fun x8 hne0 hne1 hne2 hne3 hne4 hne5 hne6 hne7 => (o182 x8 hne2).trans (fr66 x8 hne0 hne1 hne2 hne3 hne4 hne5 hne6 hne7)) pk197 (by omega) (by omega) (by omega) (by omega) (hbw8) (by have h9 := (sp_cb_out (by omega) htb); rw [show (y183).toInt.toNat = i18.toInt.toNat + 1 by omega]; exact h9) (lv_sub hl [0, 3, 4, 5] rfl)
            · have c179 : ¬ (bl).toInt ≤ (i66).toInt := fun h9 => c179 (hq_lei.mpr h9)
              refine lv_iload_n hx hb dX1_trySounds_78 rfl (lv_at hl 4 rfl) ?_
              refine lv_iconst (v := 1) hx hb dX1_trySounds_79 (by decide) ?_
              refine lv_icmp_le (tgt := 115) hx hb dX1_trySounds_80 (by decide) (fun c198 => ?_) (fun c198 => ?_)
              · have c198 : (y9).toInt ≤ (1 : Int) := hq_lei.mp c198
                refine lv_aload_n hx hb dX1_trySounds_115 rfl (lv_at hl 5 rfl) ?_
                refine hp_get (v := .ref (kb + 52)) hx hb hts hown hZ ho162 fl_X1_18 rfl dX1_trySounds_116 ?_
                refine lv_iconst (v := -1) hx hb dX1_trySounds_119 (by decide) ?_
                refine hp_put hx hb hts hown hZ ho164 fp_X1_117 rfl rfl (Nat.le_of_ble_eq_true rfl) dX1_trySounds_120 (fun V199 _ _ e200 o201 hZ => ?_)
                have e200 : V199 (kb + 52) = some (.inr (10, [.int (tz0), .int (tz1), .int (tz2), .int (tz3), .int (tz4), .int (i18), .int (-1)])) := e200
                have hP := hP.put hy2 e200 o201 (hq_c13 (show -1 ≤ (tz1).toInt ∧ (tz1).toInt ≤ 59 by omega) (show -1 ≤ (tz2).toInt ∧ (tz2).toInt ≤ 59 by omega)) rfl
                obtain ⟨y202, ey203⟩ : ∃ y : Int32, y = i18 + (1) := ⟨_, rfl⟩
                obtain ⟨k204, hk205, b206, b207⟩ := hq_add (i18) (1)
                rw [← ey203] at hk205 b206 b207
                have hk205 : (y202).toInt = (i18).toInt + (1) + k204 * 4294967296 := hk205
                obtain rfl : k204 = 0 := by omega
                refine lv_iinc (v := y202) (lv' := [(4, .int (y202)), (7, .int (i66)), (5, .long (r114)), (2, .long (r18)), (1, .int (y9)), (0, .ref (kb + 50))]) hx hb dX1_trySounds_123 hl (k := 2) rfl (by rw [ey203]; rfl) (by decide) rfl (fun ls hl => ?_)
                refine lv_goto (tgt := 18) hx hb dX1_trySounds_126 (by decide) ?_
                have fx208 : V199 (kb + 50) = some (.inr (1, [.ref (kb + 51), .ref (kb + 52), .int (fd8), .ref (kb + 53), .ref (kb + 55), .ref (kb + 57), .ref (qt), .ref (kb), .ref (kb + 5), .int (e_sz), .ref (kb + 59), .ref (kb + 60), .ref (kb + 61)])) := (o201 (kb + 50) (hq_tne hy0 hy2 (by simp))).trans (ho162)
                have fx209 : V199 (kb + 51) = some (.inr (10, [.int (b08), .int (b18), .int (b28), .int (b38), .int (b48), .int (b58), .int (b68)])) := (o201 (kb + 51) (hq_ne kb 51 52 (by decide))).trans (ho163)
                have hl210 : (-1 : Int32).toInt = -1 := by decide
                have fx211 : V199 (kb + 5) = some (.inr (6, [.ref (md), .int (mw8), .ref (mh), .ref (pt), .ref (ch)])) := (o201 (kb + 5) (hq_tne hy9 hy2 (by simp))).trans (ho165)
                have fx212 : V199 (kb + 57) = some (.inr (9, [.ref (kb + 58), .int (wz8)])) := (o201 (kb + 57) (hq_tne hy5 hy2 (by simp))).trans (ho166)
                have fx213 : V199 (kb + 58) = some (.inl (cs 0, 30, .inl (wf8))) := (o201 (kb + 58) (hq_tne hy6 hy2 (by simp))).trans (ho167)
                have fx214 : V199 (ch) = some (.inr (9, [.ref (ch + 1), .int (cz8)])) := (o201 (ch) (hq_tne hy13 hy2 (by simp))).trans (ho168)
                have fx215 : V199 (ch + 1) = some (.inl (cs 0, 30, .inl (cf8))) := (o201 (ch + 1) (hq_tne hy14 hy2 (by simp))).trans (ho169)
                have pk216 := pk171.keep (fun x7 (hx7 : qt + 77 ≤ x7 ∧ x7 < qt + 77 + 5 * bk.2.2.2.length) => o201 x7 (by omega))
                exact ih18 _ (by omega) _ _ _ ls (y202) (Y8) (fd8) (b08) (b18) (b28) (b38) (b48) (b58) (b68) (i18) (-1) (mw8) (wz8) (wf8) (cz8) (cf8) rfl hZ hP fx208 fx209 e200 fx211 fx212 fx213 fx214 fx215 (fun x8 hne0 hne1 hne2 hne3 hne4 hne5 hne6 hne7 => (o201 x8 hne2).trans (fr66 x8 hne0 hne1 hne2 hne3 hne4 hne5 hne6 hne7)) pk216 (by omega) (by omega) (by omega) (by omega) (hbw8) (by have h9 := (sp_cb_out (by omega) htb); rw [show (y202).toInt.toNat = i18.toInt.toNat + 1 by omega]; exact h9) (lv_sub hl [0, 3, 4, 5] rfl)
              · have c198 : ¬ (y9).toInt ≤ (1 : Int) := fun h9 => c198 (hq_lei.mpr h9)
                refine lv_lload hx hb dX1_trySounds_83 (lv_at hl 1 rfl) ?_
                refine lv_iload hx hb dX1_trySounds_85 (lv_at hl 0 rfl) ?_
                refine lv_lushr (v := ((r114 : Int64).toUInt64 >>> ((i66 : Int32).toInt64.toUInt64 &&& Int64.toUInt64 63)).toInt64) hx hb dX1_trySounds_87 rfl ?_
                refine lv_topl (fun y217 ey218 => ?_)
                refine lv_lconst (v := 1) hx hb dX1_trySounds_88 (by decide) ?_
                refine lv_land hx hb dX1_trySounds_89 ?_
                refine lv_topl (fun y219 ey220 => ?_)
                refine lv_lconst (v := 0) hx hb dX1_trySounds_90 (by decide) ?_
                refine W.lcmp hx hb dX1_trySounds_91 ?_
                refine lv_topi (fun y221 ey222 => ?_)
                have b223 := hm_cmp (y219) (0)
                rw [← ey222] at b223
                have b224 : (0 : Int64).toInt = 0 := by decide
                refine lv_if_eq (tgt := 109) hx hb dX1_trySounds_92 (by decide) (fun c225 => ?_) (fun c225 => ?_)
                · have c225 : (y221).toInt = (0 : Int) := hq_eqi.mp c225
                  have hnb2 : ¬ sp_bt r114 (i66).toInt.toNat := (sp_bt_and (by omega) (by omega)).mp (by rw [← ey218, ← ey220]; exact Int64.toInt_inj.mp (by omega))
                  obtain ⟨y226, ey227⟩ : ∃ y : Int32, y = i66 + (1) := ⟨_, rfl⟩
                  obtain ⟨k228, hk229, b230, b231⟩ := hq_add (i66) (1)
                  rw [← ey227] at hk229 b230 b231
                  have hk229 : (y226).toInt = (i66).toInt + (1) + k228 * 4294967296 := hk229
                  obtain rfl : k228 = 0 := by omega
                  refine lv_iinc (v := y226) (lv' := [(7, .int (y226)), (5, .long (r114)), (4, .int (i18)), (2, .long (r18)), (1, .int (y9)), (0, .ref (kb + 50))]) hx hb dX1_trySounds_109 hl (k := 0) rfl (by rw [ey227]; rfl) (by decide) rfl (fun ls hl => ?_)
                  refine lv_goto (tgt := 66) hx hb dX1_trySounds_112 (by decide) ?_
                  exact ih66 _ (by omega) _ _ _ ls (y226) (Y8) (fd8) (b08) (b18) (b28) (b38) (b48) (b58) (b68) (tq6b) (mw8) (wz8) (wf8) (cz8) (cf8) rfl hZ hP ho162 ho163 ho164 ho165 ho166 ho167 ho168 ho169 (fun x8 hne0 hne1 hne2 hne3 hne4 hne5 hne6 hne7 => fr66 x8 hne0 hne1 hne2 hne3 hne4 hne5 hne6 hne7) pk171 (by omega) (by omega) (by omega) (by omega) (hbw8) (by have h9 := sp_cb_skip (by omega) (fun g9 => hnb2 ((hbt1 _).mpr g9.1)) htb; rw [show (y226).toInt.toNat = i66.toInt.toNat + 1 by omega]; exact h9) (lv_sub hl [0, 1, 2, 3, 4, 5] rfl)
                · have c225 : ¬ (y221).toInt = (0 : Int) := fun h9 => c225 (hq_eqi.mpr h9)
                  have hyb2 : sp_bt r114 (i66).toInt.toNat := Classical.byContradiction (fun g9 => by have h9 := (sp_bt_and (by omega) (by omega)).mpr g9; rw [← ey218, ← ey220] at h9; have h8 := congrArg Int64.toInt h9; omega)
                  refine lv_aload_n hx hb dX1_trySounds_95 rfl (lv_at hl 5 rfl) ?_
                  refine hp_get (v := .ref (kb + 52)) hx hb hts hown hZ ho162 fl_X1_18 rfl dX1_trySounds_96 ?_
                  refine lv_iload hx hb dX1_trySounds_99 (lv_at hl 0 rfl) ?_
                  refine hp_put hx hb hts hown hZ ho164 fp_X1_117 rfl rfl (Nat.le_of_ble_eq_true rfl) dX1_trySounds_101 (fun V232 _ _ e233 o234 hZ => ?_)
                  have e233 : V232 (kb + 52) = some (.inr (10, [.int (tz0), .int (tz1), .int (tz2), .int (tz3), .int (tz4), .int (i18), .int (i66)])) := e233
                  have hP := hP.put hy2 e233 o234 (hq_c13 (show -1 ≤ (tz1).toInt ∧ (tz1).toInt ≤ 59 by omega) (show -1 ≤ (tz2).toInt ∧ (tz2).toInt ≤ 59 by omega)) rfl
                  refine lv_aload_n hx hb dX1_trySounds_104 rfl (lv_at hl 5 rfl) ?_
                  have fx235 : V232 (kb + 50) = some (.inr (1, [.ref (kb + 51), .ref (kb + 52), .int (fd8), .ref (kb + 53), .ref (kb + 55), .ref (kb + 57), .ref (qt), .ref (kb), .ref (kb + 5), .int (e_sz), .ref (kb + 59), .ref (kb + 60), .ref (kb + 61)])) := (o234 (kb + 50) (hq_tne hy0 hy2 (by simp))).trans (ho162)
                  have fx236 : V232 (kb + 51) = some (.inr (10, [.int (b08), .int (b18), .int (b28), .int (b38), .int (b48), .int (b58), .int (b68)])) := (o234 (kb + 51) (hq_ne kb 51 52 (by decide))).trans (ho163)
                  have fx237 : V232 (kb + 55) = some (.inr (9, [.ref (kb + 55 + 1), .int (ez)])) := (o234 (kb + 55) (hq_tne hy3 hy2 (by simp))).trans ((fr66 (kb + 55) (hq_tne hy3 hy0 (by simp)) (hq_tne hy3 hy1 (by simp)) (hq_tne hy3 hy2 (by simp)) (hq_ne kb 55 57 (by decide)) (hq_tne hy3 hy6 (by simp)) (hq_tne hy3 hy9 (by simp)) (by omega) (hq_tne hy3 hy14 (by simp))).trans (hc3))
                  have fx238 : V232 (kb + 56) = some (.inl (cs 0, 30, .inl (ef))) := (o234 (kb + 56) (hq_tne hy4 hy2 (by simp))).trans ((fr66 (kb + 56) (hq_tne hy4 hy0 (by simp)) (hq_tne hy4 hy1 (by simp)) (hq_tne hy4 hy2 (by simp)) (hq_tne hy4 hy5 (by simp)) (hq_ne kb 56 58 (by decide)) (hq_tne hy4 hy9 (by simp)) (hq_tne hy4 hy13 (by simp)) (by omega)).trans (hc4))
                  have fx239 : V232 (kb + 57) = some (.inr (9, [.ref (kb + 58), .int (wz8)])) := (o234 (kb + 57) (hq_tne hy5 hy2 (by simp))).trans (ho166)
                  have fx240 : V232 (kb + 58) = some (.inl (cs 0, 30, .inl (wf8))) := (o234 (kb + 58) (hq_tne hy6 hy2 (by simp))).trans (ho167)
                  have fx241 : V232 (kb) = some (.inr (9, [.ref (kb + 1), .int (pz)])) := (o234 (kb) (hq_tne hy7 hy2 (by simp))).trans ((fr66 (kb) (hq_tne hy7 hy0 (by simp)) (hq_tne hy7 hy1 (by simp)) (hq_tne hy7 hy2 (by simp)) (hq_tne hy7 hy5 (by simp)) (hq_tne hy7 hy6 (by simp)) (hq_tne hy7 hy9 (by simp)) (hq_tne hy7 hy13 (by simp)) (hq_tne hy7 hy14 (by simp))).trans (hc7))
                  have fx242 : V232 (kb + 1) = some (.inl (cs 0, 4000, .inl (pf))) := (o234 (kb + 1) (hq_tne hy8 hy2 (by simp))).trans ((fr66 (kb + 1) (hq_tne hy8 hy0 (by simp)) (hq_tne hy8 hy1 (by simp)) (hq_tne hy8 hy2 (by simp)) (hq_tne hy8 hy5 (by simp)) (hq_tne hy8 hy6 (by simp)) (hq_tne hy8 hy9 (by simp)) (hq_tne hy8 hy13 (by simp)) (hq_tne hy8 hy14 (by simp))).trans (hc8))
                  have fx243 : V232 (kb + 5) = some (.inr (6, [.ref (md), .int (mw8), .ref (mh), .ref (pt), .ref (ch)])) := (o234 (kb + 5) (hq_tne hy9 hy2 (by simp))).trans (ho165)
                  have fx244 : V232 (ch) = some (.inr (9, [.ref (ch + 1), .int (cz8)])) := (o234 (ch) (hq_tne hy13 hy2 (by simp))).trans (ho168)
                  have fx245 : V232 (ch + 1) = some (.inl (cs 0, 30, .inl (cf8))) := (o234 (ch + 1) (hq_tne hy14 hy2 (by simp))).trans (ho169)
                  have fx246 : V232 (qt) = some (.inr (0, [.ref (qt + 1), .int (bc), .ref (qt + 14), .ref (qt + 75), .int (bv), .ref (qt + 76), .int (bl)])) := (o234 (qt) (by omega)).trans (fx178)
                  have pk247 := pk171.keep (fun x7 (hx7 : qt + 77 ≤ x7 ∧ x7 < qt + 77 + 5 * bk.2.2.2.length) => o234 x7 (by omega))
                  have pk248 := hp1.keep ((o234 (qt + 1) (by omega)).trans (fr66 (qt + 1) (by omega) (by omega) (by omega) (by omega) (by omega) (by omega) (by omega) (by omega))) ((o234 (qt + 14) (by omega)).trans (fr66 (qt + 14) (by omega) (by omega) (by omega) (by omega) (by omega) (by omega) (by omega) (by omega))) ((o234 (qt + 76) (by omega)).trans (fr66 (qt + 76) (by omega) (by omega) (by omega) (by omega) (by omega) (by omega) (by omega) (by omega)))
                  refine hp_calll (hp_runV (As := []) (rest := []) hx hb hml hown hts (x_tryWord l D cs B G V232 n hP.1 (kb) (qt) (md) (mh) (pt) (ch) (bb) (t9) (w) (bk) (Y8) (ask) (fd8) (e_sz) (mw8) (bc) (bv) (bl) (b08) (b18) (b28) (b38) (b48) (b58) (b68) (tz0) (tz1) (tz2) (tz3) (tz4) (i18) (i66) (ez) (ef) (wz8) (wf8) (pz) (pf) (cz8) (cf8) hy0 hy1 hy2 hy3 hy4 hy5 hy6 hy7 hy8 hy9 hy10 hy11 hy12 hy13 hy14 fx235 fx236 e233 fx237 fx238 fx239 fx240 fx241 fx242 fx243 fx244 fx245 fx246 pk247 pk248 hbl hgd hgd2 hBT hask hend ⟨hq1, by omega, by omega, hq4⟩ hne hsh hbw8 hvs hve (by omega) ⟨ho1, ho2⟩ (by omega)) hZ fx235 cv_X1_144 rfl rfl ⟨Nat.le_of_ble_eq_true rfl, Nat.le_of_ble_eq_true rfl⟩ rfl hl.1 rfl (Nat.le_of_ble_eq_true rfl) dX1_trySounds_105 ⟨(Nat.le_of_ble_eq_true rfl), (Nat.le_of_ble_eq_true rfl)⟩) hZ (fun r252 V249 n250 _ _ hw251 hZ => ?_)
                  obtain ⟨rfl, hq253, fr254, z255, z256, z257, z258, z259, z260, z261, z262, z263, z264, u265, z266, u267, ho268, ho269, ho270, ho271, ho272, ho273, ho274, hp275, hp276, hp277⟩ := hw251
                  have b278 := hq_rng z255
                  have b279 := hq_rng z256
                  have b280 := hq_rng z257
                  have b281 := hq_rng z258
                  have b282 := hq_rng z259
                  have b283 := hq_rng z260
                  have b284 := hq_rng z261
                  have b285 := hq_rng z262
                  have b286 := hq_rng z263
                  have b287 := hq_rng z264
                  have b288 := hq_rng z266
                  have hP := hP.trans hq253 (fun _ h => Bool.noConfusion h)
                  have hf289 := hq_rgB hP.1 hy6 ho272
                  have hf290 := hq_rgB hP.1 hy14 ho274
                  have b291 := hp277
                  have b292 := hx_BW.fd hp275
                  refine lv_pop2_2 hx hb dX1_trySounds_108 rfl ?_
                  obtain ⟨y293, ey294⟩ : ∃ y : Int32, y = i66 + (1) := ⟨_, rfl⟩
                  obtain ⟨k295, hk296, b297, b298⟩ := hq_add (i66) (1)
                  rw [← ey294] at hk296 b297 b298
                  have hk296 : (y293).toInt = (i66).toInt + (1) + k295 * 4294967296 := hk296
                  obtain rfl : k295 = 0 := by omega
                  refine lv_iinc (v := y293) (lv' := [(7, .int (y293)), (5, .long (r114)), (4, .int (i18)), (2, .long (r18)), (1, .int (y9)), (0, .ref (kb + 50))]) hx hb dX1_trySounds_109 hl (k := 0) rfl (by rw [ey294]; rfl) (by decide) rfl (fun ls hl => ?_)
                  refine lv_goto (tgt := 66) hx hb dX1_trySounds_112 (by decide) ?_
                  have fx299 : V249 (kb + 52) = some (.inr (10, [.int (tz0), .int (tz1), .int (tz2), .int (tz3), .int (tz4), .int (i18), .int (i66)])) := (fr254 (kb + 52) (hq_tne hy2 hy0 (by simp)) (hq_ne kb 52 51 (by decide)) (hq_tne hy2 hy5 (by simp)) (hq_tne hy2 hy6 (by simp)) (hq_tne hy2 hy9 (by simp)) (hq_tne hy2 hy13 (by simp)) (hq_tne hy2 hy14 (by simp))).trans (e233)
                  have pk300 := pk247.keep (fun x7 (hx7 : qt + 77 ≤ x7 ∧ x7 < qt + 77 + 5 * bk.2.2.2.length) => fr254 x7 (by omega) (by omega) (by omega) (by omega) (by omega) (by omega) (by omega))
                  exact ih66 _ (by omega) _ _ _ ls (y293) ((sp_t1 (sp_M w bk.2.2.2 (sp_U w bk (sp_nm w t9)) ask) Y8 (sp_yw tz0.toInt tz1.toInt tz2.toInt tz3.toInt tz4.toInt (i18 : Int32).toInt (i66 : Int32).toInt))) (z255) (z256) (z257) (z258) (z259) (z260) (z261) (z262) (i66) (z263) (z264) (u265) (z266) (u267) rfl hZ hP ho268 ho269 fx299 ho270 ho271 ho272 ho273 ho274 (fun x8 hne0 hne1 hne2 hne3 hne4 hne5 hne6 hne7 => (fr254 x8 hne0 hne1 hne3 hne4 hne5 hne6 hne7).trans ((o234 x8 hne2).trans (fr66 x8 hne0 hne1 hne2 hne3 hne4 hne5 hne6 hne7))) pk300 (by omega) (by omega) (by omega) (by omega) (hp275) (by have h9 := sp_cb_in (by omega) ((hbt1 _).mp hyb2) (by omega) htb (Y1 := (sp_t1 (sp_M w bk.2.2.2 (sp_U w bk (sp_nm w t9)) ask) Y8 (sp_yw tz0.toInt tz1.toInt tz2.toInt tz3.toInt tz4.toInt (i18 : Int32).toInt (i66 : Int32).toInt))) (congrArg (sp_t1 _ _) (sp_yw_2 (by omega) (by omega) (by omega) (by omega))); rw [show (y293).toInt.toNat = i66.toInt.toNat + 1 by omega]; exact h9) (lv_sub hl [0, 1, 2, 3, 4, 5] rfl)

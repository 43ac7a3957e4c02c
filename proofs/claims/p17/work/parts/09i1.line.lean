set_option maxHeartbeats 4000000 in
set_option maxRecDepth 100000 in
theorem y_readLine (l : Launch) (D : va_G) (cs : Nat → ClassId) (B : Nat) (G : hq_G) (V : hp_V) (n : Nat) (hI : hq_I cs G V) (q : Nat) (mo : Nat) (w : sp_W) (rh : hm_Rh) (j : Nat) (cl : List Nat) (vn : List Nat) (vc : List Int) (lz : List sp_L) (m_tp : Int32) (m_sz : Int32) (m_fr : Int32) (m_bh : Int32) (m_hd : Int32) (m_ft : Int32) (m_fa : Int32) (m_le : Int32) (m_fo : Int32) (m_as : Int32) (m_fd : Int32) (m_bc : Int32) (m_bg : Int32) (m_bs : Int32) (m_be : Int32) (m_b0 : Int32) (m_b1 : Int32) (m_cm : Int32) (m_hc : Int32) (hc0 : V (mo) = some (.inr (13, hm_o q (m_tp) (m_sz) (m_fr) (m_bh) (m_hd) (m_ft) (m_fa) (m_le) (m_fo) (m_as) (m_fd) (m_bc) (m_bg) (m_bs) (m_be) (m_b0) (m_b1) (m_cm) (m_hc)))) (hp0 : hm_TP cs V q w) (hp1 : hm_AR cs V q rh) (hR : hq_RT G q) (hmo : G mo = some (24, 0, 0, 0)) (hmq : mo < q) (hsz : m_sz.toInt = w.2) (hA : hm_A w j m_fr m_bh m_hd) (hCN : hm_NL rh 7 3 6 6 w cl) (hVN : hm_NL rh 8 4 30 30 w vn) (hLL : hm_LL rh 60 w lz) (hcc : (rh 0 1).toInt = (cl.length : Int)) (hcv : (rh 1 1).toInt = (vn.length : Int)) (hcl : (rh 2 1).toInt = (lz.length : Int)) : hq_M l yX13_readLine cX13_readLine 3 none ({ frames := 10, cells := 0, slots := 0, locals := 212 }) D cs B V n [.ref (mo)] (hq_QX D cs B (fun v V' n' => v = none ∧ n = n' ∧ hq_P cs G (fun _ => true) V V' ∧ (∀ x, x ≠ mo → (x < q ∨ q + 19 ≤ x) → V' x = V x) ∧ (∃ m_fr1 : Int32, ∃ m_bh1 : Int32, ∃ m_hd1 : Int32, ∃ rh1 : hm_Rh, V' (mo) = some (.inr (13, hm_o q (m_tp) (m_sz) (m_fr1) (m_bh1) (m_hd1) (m_ft) (m_fa) (m_le) (m_fo) (m_as) (m_fd) (m_bc) (m_bg) (m_bs) (m_be) (m_b0) (m_b1) (m_cm) (m_hc))) ∧ ((sp_tl w (cl, vn, vc, lz) j).1 = 0 ∧ hm_A w (sp_tl w (cl, vn, vc, lz) j).2.1 m_fr1 m_bh1 m_hd1 ∧ hm_LN rh1 (60 + lz.length) w (sp_tl w (cl, vn, vc, lz) j).2.2 ∧ lz.length < 60 ∧ (rh1 2 1).toInt = (lz.length : Int) + 1) ∧ (hm_AR cs V' q rh1) ∧ (hm_WL (60 + lz.length) rh rh1) ∧ (hm_H rh rh1))) (fun x V' n' => x = q + 19 ∧ n = n' ∧ hq_P cs G (fun _ => true) V V' ∧ (∀ x, x ≠ mo → (x < q ∨ q + 19 ≤ x) → V' x = V x) ∧ (∃ m_fr1 : Int32, ∃ m_bh1 : Int32, ∃ m_hd1 : Int32, ∃ m_ft1 : Int32, ∃ m_fa1 : Int32, ∃ rh1 : hm_Rh, V' (mo) = some (.inr (13, hm_o q (m_tp) (m_sz) (m_fr1) (m_bh1) (m_hd1) (m_ft1) (m_fa1) (m_le) (m_fo) (m_as) (m_fd) (m_bc) (m_bg) (m_bs) (m_be) (m_b0) (m_b1) (m_cm) (m_hc))) ∧ (hx_F w (sp_tl w (cl, vn, vc, lz) j).1 (sp_tl w (cl, vn, vc, lz) j).2.1 m_ft1 m_fa1) ∧ (hm_AR cs V' q rh1) ∧ (hm_H rh rh1)))) 0 0 := by
  refine hq_walk (R0 := RX13) (by decide) rfl ?_ (Nat.le_of_ble_eq_true rfl)
  intro p e s m below meth c ls hx hb hr hts hown hlocks hin hml hnx hZ hl
  have hP : hq_P cs G (fun _ => true) V V := hq_P.rf hI
  have hl : lv_has ls 3 [(0, .ref (mo))] := hl
  have hb_m_tp := hq_rng m_tp
  have hb_m_sz := hq_rng m_sz
  have hb_m_fr := hq_rng m_fr
  have hb_m_bh := hq_rng m_bh
  have hb_m_hd := hq_rng m_hd
  have hb_m_ft := hq_rng m_ft
  have hb_m_fa := hq_rng m_fa
  have hb_m_le := hq_rng m_le
  have hb_m_fo := hq_rng m_fo
  have hb_m_as := hq_rng m_as
  have hb_m_fd := hq_rng m_fd
  have hb_m_bc := hq_rng m_bc
  have hb_m_bg := hq_rng m_bg
  have hb_m_bs := hq_rng m_bs
  have hb_m_be := hq_rng m_be
  have hb_m_b0 := hq_rng m_b0
  have hb_m_b1 := hq_rng m_b1
  have hb_m_cm := hq_rng m_cm
  have hb_m_hc := hq_rng m_hc
  obtain ⟨b1, b2, b3, -⟩ := id hA
  have hH0 : hm_H rh rh := hm_H.rf
  have htk0 := sp_tok (w := w) (j := j) hA.1
  have hll9 := hLL.1
  have hlc9 := hCN.1
  have hlv9 := hVN.1
  refine lv_aload_n hx hb dX13_readLine_0 rfl (lv_at hl 0 rfl) ?_
  refine va_ldcS (tx := (hp_so.getD 4 ("", 0, "")).2.2) (q := cs (100 + 4)) hx hb hown (hZ.2.2.2.2.2.2.2.2.2.2 4 (by decide)) dX13_readLine_1 ?_
  refine hp_calli (hp_runV (As := [.ref (cs (100 + 4))]) (rest := []) hx hb hml hown hts (y_is l D cs B G V n hP.1 (q) (mo) (w) (j) (4) (0) (m_tp) (m_sz) (m_fr) (m_bh) (m_hd) (m_ft) (m_fa) (m_le) (m_fo) (m_as) (m_fd) (m_bc) (m_bg) (m_bs) (m_be) (m_b0) (m_b1) (m_cm) (m_hc)  hc0 hp0 hR hmo (by omega) hA (by decide) (by decide) rfl) hZ hc0 cv_X13_103 rfl rfl ⟨Nat.le_of_ble_eq_true rfl, Nat.le_of_ble_eq_true rfl⟩ rfl hl.1 rfl (Nat.le_of_ble_eq_true rfl) dX13_readLine_3 ⟨(Nat.le_of_ble_eq_true rfl), (Nat.le_of_ble_eq_true rfl)⟩) hZ (fun r7 V4 n5 _ _ hw6 hZ => ?_)
  obtain ⟨rfl, rfl, hp10⟩ := hw6
  have b11 := hq_rng r7
  refine lv_if_eq (tgt := 13) hx hb dX13_readLine_6 (by decide) (fun c12 => ?_) (fun c12 => ?_)
  · have c12 : (r7).toInt = (0 : Int) := hq_eqi.mp c12
    have b13 : ¬ sp_k w (j) = 0 := by have h9 := hp10; omega
    refine lv_aload_n hx hb dX13_readLine_13 rfl (lv_at hl 0 rfl) ?_
    refine va_ldcS (tx := (hp_so.getD 6 ("", 0, "")).2.2) (q := cs (100 + 6)) hx hb hown (hZ.2.2.2.2.2.2.2.2.2.2 6 (by decide)) dX13_readLine_14 ?_
    refine hp_calli (hp_runV (As := [.ref (cs (100 + 6))]) (rest := []) hx hb hml hown hts (y_is l D cs B G V n hP.1 (q) (mo) (w) (j) (6) (1) (m_tp) (m_sz) (m_fr) (m_bh) (m_hd) (m_ft) (m_fa) (m_le) (m_fo) (m_as) (m_fd) (m_bc) (m_bg) (m_bs) (m_be) (m_b0) (m_b1) (m_cm) (m_hc)  hc0 hp0 hR hmo (by omega) hA (by decide) (by decide) rfl) hZ hc0 cv_X13_103 rfl rfl ⟨Nat.le_of_ble_eq_true rfl, Nat.le_of_ble_eq_true rfl⟩ rfl hl.1 rfl (Nat.le_of_ble_eq_true rfl) dX13_readLine_16 ⟨(Nat.le_of_ble_eq_true rfl), (Nat.le_of_ble_eq_true rfl)⟩) hZ (fun r17 V14 n15 _ _ hw16 hZ => ?_)
    obtain ⟨rfl, rfl, hp20⟩ := hw16
    have b21 := hq_rng r17
    refine lv_if_eq (tgt := 26) hx hb dX13_readLine_19 (by decide) (fun c22 => ?_) (fun c22 => ?_)
    · have c22 : (r17).toInt = (0 : Int) := hq_eqi.mp c22
      have b23 : ¬ sp_k w (j) = 1 := by have h9 := hp20; omega
      refine lv_aload_n hx hb dX13_readLine_26 rfl (lv_at hl 0 rfl) ?_
      refine va_ldcS (tx := (hp_so.getD 7 ("", 0, "")).2.2) (q := cs (100 + 7)) hx hb hown (hZ.2.2.2.2.2.2.2.2.2.2 7 (by decide)) dX13_readLine_27 ?_
      refine hp_calli (hp_runV (As := [.ref (cs (100 + 7))]) (rest := []) hx hb hml hown hts (y_is l D cs B G V n hP.1 (q) (mo) (w) (j) (7) (2) (m_tp) (m_sz) (m_fr) (m_bh) (m_hd) (m_ft) (m_fa) (m_le) (m_fo) (m_as) (m_fd) (m_bc) (m_bg) (m_bs) (m_be) (m_b0) (m_b1) (m_cm) (m_hc)  hc0 hp0 hR hmo (by omega) hA (by decide) (by decide) rfl) hZ hc0 cv_X13_103 rfl rfl ⟨Nat.le_of_ble_eq_true rfl, Nat.le_of_ble_eq_true rfl⟩ rfl hl.1 rfl (Nat.le_of_ble_eq_true rfl) dX13_readLine_29 ⟨(Nat.le_of_ble_eq_true rfl), (Nat.le_of_ble_eq_true rfl)⟩) hZ (fun r27 V24 n25 _ _ hw26 hZ => ?_)
      obtain ⟨rfl, rfl, hp30⟩ := hw26
      have b31 := hq_rng r27
      refine lv_if_eq (tgt := 39) hx hb dX13_readLine_32 (by decide) (fun c32 => ?_) (fun c32 => ?_)
      · have c32 : (r27).toInt = (0 : Int) := hq_eqi.mp c32
        have b33 : ¬ sp_k w (j) = 2 := by have h9 := hp30; omega
        refine lv_aload_n hx hb dX13_readLine_39 rfl (lv_at hl 0 rfl) ?_
        refine va_ldcS (tx := (hp_so.getD 9 ("", 0, "")).2.2) (q := cs (100 + 9)) hx hb hown (hZ.2.2.2.2.2.2.2.2.2.2 9 (by decide)) dX13_readLine_40 ?_
        refine hp_calli (hp_runV (As := [.ref (cs (100 + 9))]) (rest := []) hx hb hml hown hts (y_is l D cs B G V n hP.1 (q) (mo) (w) (j) (9) (3) (m_tp) (m_sz) (m_fr) (m_bh) (m_hd) (m_ft) (m_fa) (m_le) (m_fo) (m_as) (m_fd) (m_bc) (m_bg) (m_bs) (m_be) (m_b0) (m_b1) (m_cm) (m_hc)  hc0 hp0 hR hmo (by omega) hA (by decide) (by decide) rfl) hZ hc0 cv_X13_103 rfl rfl ⟨Nat.le_of_ble_eq_true rfl, Nat.le_of_ble_eq_true rfl⟩ rfl hl.1 rfl (Nat.le_of_ble_eq_true rfl) dX13_readLine_42 ⟨(Nat.le_of_ble_eq_true rfl), (Nat.le_of_ble_eq_true rfl)⟩) hZ (fun r37 V34 n35 _ _ hw36 hZ => ?_)
        obtain ⟨rfl, rfl, hp40⟩ := hw36
        have b41 := hq_rng r37
        refine lv_if_eq (tgt := 52) hx hb dX13_readLine_45 (by decide) (fun c42 => ?_) (fun c42 => ?_)
        · have c42 : (r37).toInt = (0 : Int) := hq_eqi.mp c42
          have b43 : ¬ sp_k w (j) = 3 := by have h9 := hp40; omega
          refine lv_aload_n hx hb dX13_readLine_52 rfl (lv_at hl 0 rfl) ?_
          refine va_ldcS (tx := (hp_so.getD 13 ("", 0, "")).2.2) (q := cs (100 + 13)) hx hb hown (hZ.2.2.2.2.2.2.2.2.2.2 13 (by decide)) dX13_readLine_53 ?_
          refine hp_calli (hp_runV (As := [.ref (cs (100 + 13))]) (rest := []) hx hb hml hown hts (y_is l D cs B G V n hP.1 (q) (mo) (w) (j) (13) (4) (m_tp) (m_sz) (m_fr) (m_bh) (m_hd) (m_ft) (m_fa) (m_le) (m_fo) (m_as) (m_fd) (m_bc) (m_bg) (m_bs) (m_be) (m_b0) (m_b1) (m_cm) (m_hc)  hc0 hp0 hR hmo (by omega) hA (by decide) (by decide) rfl) hZ hc0 cv_X13_103 rfl rfl ⟨Nat.le_of_ble_eq_true rfl, Nat.le_of_ble_eq_true rfl⟩ rfl hl.1 rfl (Nat.le_of_ble_eq_true rfl) dX13_readLine_55 ⟨(Nat.le_of_ble_eq_true rfl), (Nat.le_of_ble_eq_true rfl)⟩) hZ (fun r47 V44 n45 _ _ hw46 hZ => ?_)
          obtain ⟨rfl, rfl, hp50⟩ := hw46
          have b51 := hq_rng r47
          refine lv_if_eq (tgt := 65) hx hb dX13_readLine_58 (by decide) (fun c52 => ?_) (fun c52 => ?_)
          · have c52 : (r47).toInt = (0 : Int) := hq_eqi.mp c52
            have b53 : ¬ sp_k w (j) = 4 := by have h9 := hp50; omega
            refine lv_aload_n hx hb dX13_readLine_65 rfl (lv_at hl 0 rfl) ?_
            refine va_ldcS (tx := (hp_so.getD 14 ("", 0, "")).2.2) (q := cs (100 + 14)) hx hb hown (hZ.2.2.2.2.2.2.2.2.2.2 14 (by decide)) dX13_readLine_66 ?_
            refine hp_calli (hp_runV (As := [.ref (cs (100 + 14))]) (rest := []) hx hb hml hown hts (y_is l D cs B G V n hP.1 (q) (mo) (w) (j) (14) (5) (m_tp) (m_sz) (m_fr) (m_bh) (m_hd) (m_ft) (m_fa) (m_le) (m_fo) (m_as) (m_fd) (m_bc) (m_bg) (m_bs) (m_be) (m_b0) (m_b1) (m_cm) (m_hc)  hc0 hp0 hR hmo (by omega) hA (by decide) (by decide) rfl) hZ hc0 cv_X13_103 rfl rfl ⟨Nat.le_of_ble_eq_true rfl, Nat.le_of_ble_eq_true rfl⟩ rfl hl.1 rfl (Nat.le_of_ble_eq_true rfl) dX13_readLine_68 ⟨(Nat.le_of_ble_eq_true rfl), (Nat.le_of_ble_eq_true rfl)⟩) hZ (fun r57 V54 n55 _ _ hw56 hZ => ?_)
            obtain ⟨rfl, rfl, hp60⟩ := hw56
            have b61 := hq_rng r57
            refine lv_if_eq (tgt := 78) hx hb dX13_readLine_71 (by decide) (fun c62 => ?_) (fun c62 => ?_)
            · have c62 : (r57).toInt = (0 : Int) := hq_eqi.mp c62
              have b63 : ¬ sp_k w (j) = 5 := by have h9 := hp60; omega
              refine lv_iconst (v := -1) hx hb dX13_readLine_78 (by decide) ?_
              refine lv_istore_n (lv' := [(1, .int (-1)), (0, .ref (mo))]) hx hb dX13_readLine_79 rfl hl (by decide) rfl (fun ls hl => ?_)
              refine lv_iload_n hx hb dX13_readLine_80 rfl (lv_at hl 0 rfl) ?_
              refine lv_iconst (v := -1) hx hb dX13_readLine_81 (by decide) ?_
              refine lv_icmp_ne (tgt := 91) hx hb dX13_readLine_82 (by decide) (fun c64 => absurd (by decide) c64) (fun c64 => ?_)
              refine lv_aload_n hx hb dX13_readLine_85 rfl (lv_at hl 1 rfl) ?_
              refine lv_iconst (v := 1) hx hb dX13_readLine_86 (by decide) ?_
              have hl65 : (1 : Int32).toInt = 1 := by decide
              refine hp_callq (hp_runV (As := [.int (1)]) (rest := []) hx hb hml hown hts (y_wrong l D cs B G V n hP.1 (q) (mo) (m_tp) (m_sz) (m_fr) (m_bh) (m_hd) (m_ft) (m_fa) (m_le) (m_fo) (m_as) (m_fd) (m_bc) (m_bg) (m_bs) (m_be) (m_b0) (m_b1) (m_cm) (m_hc) (1)  hc0  hR hmo hmq) hZ hc0 cv_X13_107 rfl rfl ⟨Nat.le_of_ble_eq_true rfl, Nat.le_of_ble_eq_true rfl⟩ rfl hl.1 rfl (Nat.le_of_ble_eq_true rfl) dX13_readLine_87 ⟨(Nat.le_of_ble_eq_true rfl), (Nat.le_of_ble_eq_true rfl)⟩) hZ (fun r69 V66 n67 _ _ hw68 hZ => ?_)
              obtain ⟨rfl, hq70, fr71, ho72, hp73⟩ := hw68
              have hP := hP.trans hq70 (fun _ h => Bool.noConfusion h)
              subst hp73
              refine W.eq (g2 := F0 m 90 ls [.ref (q + 19)]) rfl ?_
              have hl74 : (1 : Int32).toInt = 1 := by decide
              have pk75 := hp1.keep (fun x7 (hx7 : q ≤ x7 ∧ x7 < q + 19) => fr71 x7 (by omega))
              exact hq_athrow hx hb hnx hlocks hZ ⟨rfl, rfl, hP, (fun x8 hne0 hne1 => fr71 x8 hne0), m_fr, m_bh, m_hd, 1, m_fr, rh, ho72, (by unfold sp_tl sp_line; (try dsimp only); (repeat (first | (rw [if_pos]; rotate_left; omega) | (rw [if_neg]; rotate_left; omega))); (try dsimp only); exact ⟨by omega, by omega, by omega⟩), pk75, hH0⟩ dX13_readLine_90
            · have c62 : ¬ (r57).toInt = (0 : Int) := fun h9 => c62 (hq_eqi.mpr h9)
              have b76 : sp_k w (j) = 5 := by have h9 := hp60; omega
              refine lv_iconst (v := 5) hx hb dX13_readLine_74 (by decide) ?_
              refine lv_goto (tgt := 79) hx hb dX13_readLine_75 (by decide) ?_
              refine lv_istore_n (lv' := [(1, .int (5)), (0, .ref (mo))]) hx hb dX13_readLine_79 rfl hl (by decide) rfl (fun ls hl => ?_)
              refine lv_iload_n hx hb dX13_readLine_80 rfl (lv_at hl 0 rfl) ?_
              refine lv_iconst (v := -1) hx hb dX13_readLine_81 (by decide) ?_
              refine lv_icmp_ne (tgt := 91) hx hb dX13_readLine_82 (by decide) (fun c77 => ?_) (fun c77 => absurd c77 (by decide))
              refine lv_aload_n hx hb dX13_readLine_91 rfl (lv_at hl 1 rfl) ?_
              refine hp_get (v := .ref (q + 2)) hx hb hts hown hZ hc0 fl_X13_10 rfl dX13_readLine_92 ?_
              refine lv_iconst (v := 1) hx hb dX13_readLine_95 (by decide) ?_
              obtain ⟨rf78, hrf79⟩ : ∃ f : Nat → Int32, f = rh 2 := ⟨_, rfl⟩
              have ea80 : V (q + 2) = some (.inl (cs 1, 2, .inl (rf78))) := by rw [hrf79]; exact hp1 2 (by decide)
              have hra81 := hq_rg hP.1 (hr_2 hR) ea80
              refine hp_iald hx hb hZ ea80 (by unfold vp_in; decide) dX13_readLine_96 ?_
              refine lv_topi (fun y82 ey83 => ?_)
              have b84 : hq_ir (hq_lo 8) (hq_hi 8) y82 := by rw [ey83]; exact hra81 _ (by decide)
              have b84 : 0 ≤ (y82).toInt ∧ (y82).toInt ≤ 60 := b84
              have b85 : (y82).toInt = (lz.length : Int) := by rw [ey83, hrf79]; exact hcl
              refine lv_bipush (v := 60) hx hb dX13_readLine_97 (by decide) ?_
              refine lv_icmp_ne (tgt := 108) hx hb dX13_readLine_99 (by decide) (fun c86 => ?_) (fun c86 => ?_)
              · have c86 : ¬ (y82).toInt = (60 : Int) := fun h9 => c86 (hq_eqi.mpr h9)
                refine lv_bipush (v := 60) hx hb dX13_readLine_108 (by decide) ?_
                refine lv_aload_n hx hb dX13_readLine_110 rfl (lv_at hl 1 rfl) ?_
                refine hp_get (v := .ref (q + 2)) hx hb hts hown hZ hc0 fl_X13_10 rfl dX13_readLine_111 ?_
                refine lv_iconst (v := 1) hx hb dX13_readLine_114 (by decide) ?_
                refine hp_iald hx hb hZ ea80 (by unfold vp_in; decide) dX13_readLine_115 ?_
                refine lv_topi (fun y87 ey88 => ?_)
                have b89 : hq_ir (hq_lo 8) (hq_hi 8) y87 := by rw [ey88]; exact hra81 _ (by decide)
                have b89 : 0 ≤ (y87).toInt ∧ (y87).toInt ≤ 60 := b89
                have b90 : (y87).toInt = (lz.length : Int) := by rw [ey88, hrf79]; exact hcl
                refine lv_iadd hx hb dX13_readLine_116 ?_
                refine lv_topi (fun y91 ey92 => ?_)
                obtain ⟨k93, hk94, b95, b96⟩ := hq_add (60) (y87)
                rw [← ey92] at hk94 b95 b96
                have hk94 : (y91).toInt = (60 : Int) + (y87).toInt + k93 * 4294967296 := hk94
                obtain rfl : k93 = 0 := by omega
                refine lv_istore_n (lv' := [(2, .int (y91)), (1, .int (5)), (0, .ref (mo))]) hx hb dX13_readLine_117 rfl hl (by decide) rfl (fun ls hl => ?_)
                have hL9 : (y91).toNatClampNeg = 60 + lz.length := by have h8 := (hq_nn (z := y91) (by omega)).1; omega
                have wl0 : hm_WL (y91).toNatClampNeg rh rh := hm_WL.rf
                have hl97 : (-1 : Int32).toInt = -1 := by decide
                have hl98 : (0 : Int32).toInt = 0 := by decide
                refine lv_aload_n hx hb dX13_readLine_118 rfl (lv_at hl 2 rfl) ?_
                refine hp_get (v := .ref (q + 10)) hx hb hts hown hZ hc0 fl_X13_29 rfl dX13_readLine_119 ?_
                refine lv_iload_n hx hb dX13_readLine_122 rfl (lv_at hl 0 rfl) ?_
                refine lv_iload_n hx hb dX13_readLine_123 rfl (lv_at hl 1 rfl) ?_
                obtain ⟨rf99, hrf100⟩ : ∃ f : Nat → Int32, f = rh 10 := ⟨_, rfl⟩
                have ea101 : V (q + 10) = some (.inl (cs 1, 120, .inl (rf99))) := by rw [hrf100]; exact hp1 10 (by decide)
                have hra102 := hq_rg hP.1 (hr_10 hR) ea101
                refine hp_iast hx hb hZ ea101 (hq_in (by omega) (by omega)) dX13_readLine_124 (fun V103 _ _ e104 o105 hZ => ?_)
                have e104 : V103 (q + 10) = some (.inl (cs 1, 120, .inl (upd (rf99) ((y91 : Int32).toNatClampNeg) (5)))) := e104
                have hl106 : (5 : Int32).toInt = 5 := by decide
                have hP := hP.put (hr_10 hR) e104 o105 (hq_c21 (by omega) (hq_upd hra102 (hq_rng _))) rfl
                obtain ⟨g107, ge108⟩ : ∃ g9 : Nat → Int32, g9 = upd (rf99) ((y91 : Int32).toNatClampNeg) (5) := ⟨_, rfl⟩
                have fx109 : V103 (q + 10) = some (.inl (cs 1, 120, .inl (g107))) := by rw [ge108]; exact e104
                have hf110 := hq_rg hP.1 (hr_10 hR) fx109
                obtain ⟨rh111, hrh112⟩ : ∃ r9 : hm_Rh, r9 = hm_u2 rh 10 (y91 : Int32).toNatClampNeg ((5 : Int32)) := ⟨_, rfl⟩
                have pk113 : hm_AR cs V103 q rh111 := by rw [hrh112]; exact hp1.put (a := 10) (by decide) (by rw [ge108, hrf100]) fx109 o105
                have hH114 : hm_H rh rh111 := by rw [hrh112]; exact hH0.put (show 60 ≤ (y91 : Int32).toNatClampNeg by have h8 := (hq_nn (z := y91) (by omega)).1; omega)
                refine lv_aload_n hx hb dX13_readLine_125 rfl (lv_at hl 2 rfl) ?_
                have fx115 : V103 (mo) = some (.inr (13, hm_o q (m_tp) (m_sz) (m_fr) (m_bh) (m_hd) (m_ft) (m_fa) (m_le) (m_fo) (m_as) (m_fd) (m_bc) (m_bg) (m_bs) (m_be) (m_b0) (m_b1) (m_cm) (m_hc))) := (o105 (mo) (hq_tne hmo (hr_10 hR) (by simp))).trans (hc0)
                refine hp_get (v := .ref (q + 11)) hx hb hts hown hZ fx115 fl_X13_32 rfl dX13_readLine_126 ?_
                refine lv_iload_n hx hb dX13_readLine_129 rfl (lv_at hl 0 rfl) ?_
                refine lv_iconst (v := -1) hx hb dX13_readLine_130 (by decide) ?_
                obtain ⟨rf116, hrf117⟩ : ∃ f : Nat → Int32, f = rh111 11 := ⟨_, rfl⟩
                have ea118 : V103 (q + 11) = some (.inl (cs 1, 120, .inl (rf116))) := by rw [hrf117]; exact pk113 11 (by decide)
                have hra119 := hq_rg hP.1 (hr_11 hR) ea118
                refine hp_iast hx hb hZ ea118 (hq_in (by omega) (by omega)) dX13_readLine_131 (fun V120 _ _ e121 o122 hZ => ?_)
                have e121 : V120 (q + 11) = some (.inl (cs 1, 120, .inl (upd (rf116) ((y91 : Int32).toNatClampNeg) (-1)))) := e121
                have hl123 : (-1 : Int32).toInt = -1 := by decide
                have hP := hP.put (hr_11 hR) e121 o122 (hq_c21 (by omega) (hq_upd hra119 (hq_rng _))) rfl
                obtain ⟨g124, ge125⟩ : ∃ g9 : Nat → Int32, g9 = upd (rf116) ((y91 : Int32).toNatClampNeg) (-1) := ⟨_, rfl⟩
                have fx126 : V120 (q + 11) = some (.inl (cs 1, 120, .inl (g124))) := by rw [ge125]; exact e121
                have hf127 := hq_rg hP.1 (hr_11 hR) fx126
                obtain ⟨rh128, hrh129⟩ : ∃ r9 : hm_Rh, r9 = hm_u2 rh111 11 (y91 : Int32).toNatClampNeg ((-1 : Int32)) := ⟨_, rfl⟩
                have pk130 : hm_AR cs V120 q rh128 := by rw [hrh129]; exact pk113.put (a := 11) (by decide) (by rw [ge125, hrf117]) fx126 o122
                have hH131 : hm_H rh rh128 := by rw [hrh129]; exact hH114.put (show 60 ≤ (y91 : Int32).toNatClampNeg by have h8 := (hq_nn (z := y91) (by omega)).1; omega)
                refine lv_aload_n hx hb dX13_readLine_132 rfl (lv_at hl 2 rfl) ?_
                have fx132 : V120 (mo) = some (.inr (13, hm_o q (m_tp) (m_sz) (m_fr) (m_bh) (m_hd) (m_ft) (m_fa) (m_le) (m_fo) (m_as) (m_fd) (m_bc) (m_bg) (m_bs) (m_be) (m_b0) (m_b1) (m_cm) (m_hc))) := (o122 (mo) (hq_tne hmo (hr_11 hR) (by simp))).trans (fx115)
                refine hp_get (v := .ref (q + 12)) hx hb hts hown hZ fx132 fl_X13_35 rfl dX13_readLine_133 ?_
                refine lv_iload_n hx hb dX13_readLine_136 rfl (lv_at hl 0 rfl) ?_
                refine lv_iconst (v := -1) hx hb dX13_readLine_137 (by decide) ?_
                obtain ⟨rf133, hrf134⟩ : ∃ f : Nat → Int32, f = rh128 12 := ⟨_, rfl⟩
                have ea135 : V120 (q + 12) = some (.inl (cs 1, 120, .inl (rf133))) := by rw [hrf134]; exact pk130 12 (by decide)
                have hra136 := hq_rg hP.1 (hr_12 hR) ea135
                refine hp_iast hx hb hZ ea135 (hq_in (by omega) (by omega)) dX13_readLine_138 (fun V137 _ _ e138 o139 hZ => ?_)
                have e138 : V137 (q + 12) = some (.inl (cs 1, 120, .inl (upd (rf133) ((y91 : Int32).toNatClampNeg) (-1)))) := e138
                have hl140 : (-1 : Int32).toInt = -1 := by decide
                have hP := hP.put (hr_12 hR) e138 o139 (hq_c21 (by omega) (hq_upd hra136 (hq_rng _))) rfl
                obtain ⟨g141, ge142⟩ : ∃ g9 : Nat → Int32, g9 = upd (rf133) ((y91 : Int32).toNatClampNeg) (-1) := ⟨_, rfl⟩
                have fx143 : V137 (q + 12) = some (.inl (cs 1, 120, .inl (g141))) := by rw [ge142]; exact e138
                have hf144 := hq_rg hP.1 (hr_12 hR) fx143
                obtain ⟨rh145, hrh146⟩ : ∃ r9 : hm_Rh, r9 = hm_u2 rh128 12 (y91 : Int32).toNatClampNeg ((-1 : Int32)) := ⟨_, rfl⟩
                have pk147 : hm_AR cs V137 q rh145 := by rw [hrh146]; exact pk130.put (a := 12) (by decide) (by rw [ge142, hrf134]) fx143 o139
                have hH148 : hm_H rh rh145 := by rw [hrh146]; exact hH131.put (show 60 ≤ (y91 : Int32).toNatClampNeg by have h8 := (hq_nn (z := y91) (by omega)).1; omega)
                refine lv_aload_n hx hb dX13_readLine_139 rfl (lv_at hl 2 rfl) ?_
                have fx149 : V137 (mo) = some (.inr (13, hm_o q (m_tp) (m_sz) (m_fr) (m_bh) (m_hd) (m_ft) (m_fa) (m_le) (m_fo) (m_as) (m_fd) (m_bc) (m_bg) (m_bs) (m_be) (m_b0) (m_b1) (m_cm) (m_hc))) := (o139 (mo) (hq_tne hmo (hr_12 hR) (by simp))).trans (fx132)
                refine hp_get (v := .ref (q + 13)) hx hb hts hown hZ fx149 fl_X13_38 rfl dX13_readLine_140 ?_
                refine lv_iload_n hx hb dX13_readLine_143 rfl (lv_at hl 0 rfl) ?_
                refine lv_iconst (v := -1) hx hb dX13_readLine_144 (by decide) ?_
                obtain ⟨rf150, hrf151⟩ : ∃ f : Nat → Int32, f = rh145 13 := ⟨_, rfl⟩
                have ea152 : V137 (q + 13) = some (.inl (cs 1, 120, .inl (rf150))) := by rw [hrf151]; exact pk147 13 (by decide)
                have hra153 := hq_rg hP.1 (hr_13 hR) ea152
                refine hp_iast hx hb hZ ea152 (hq_in (by omega) (by omega)) dX13_readLine_145 (fun V154 _ _ e155 o156 hZ => ?_)
                have e155 : V154 (q + 13) = some (.inl (cs 1, 120, .inl (upd (rf150) ((y91 : Int32).toNatClampNeg) (-1)))) := e155
                have hl157 : (-1 : Int32).toInt = -1 := by decide
                have hP := hP.put (hr_13 hR) e155 o156 (hq_c21 (by omega) (hq_upd hra153 (hq_rng _))) rfl
                obtain ⟨g158, ge159⟩ : ∃ g9 : Nat → Int32, g9 = upd (rf150) ((y91 : Int32).toNatClampNeg) (-1) := ⟨_, rfl⟩
                have fx160 : V154 (q + 13) = some (.inl (cs 1, 120, .inl (g158))) := by rw [ge159]; exact e155
                have hf161 := hq_rg hP.1 (hr_13 hR) fx160
                obtain ⟨rh162, hrh163⟩ : ∃ r9 : hm_Rh, r9 = hm_u2 rh145 13 (y91 : Int32).toNatClampNeg ((-1 : Int32)) := ⟨_, rfl⟩
                have pk164 : hm_AR cs V154 q rh162 := by rw [hrh163]; exact pk147.put (a := 13) (by decide) (by rw [ge159, hrf151]) fx160 o156
                have hH165 : hm_H rh rh162 := by rw [hrh163]; exact hH148.put (show 60 ≤ (y91 : Int32).toNatClampNeg by have h8 := (hq_nn (z := y91) (by omega)).1; omega)
                refine lv_aload_n hx hb dX13_readLine_146 rfl (lv_at hl 2 rfl) ?_
                have fx166 : V154 (mo) = some (.inr (13, hm_o q (m_tp) (m_sz) (m_fr) (m_bh) (m_hd) (m_ft) (m_fa) (m_le) (m_fo) (m_as) (m_fd) (m_bc) (m_bg) (m_bs) (m_be) (m_b0) (m_b1) (m_cm) (m_hc))) := (o156 (mo) (hq_tne hmo (hr_13 hR) (by simp))).trans (fx149)
                refine hp_get (v := .ref (q + 14)) hx hb hts hown hZ fx166 fl_X13_41 rfl dX13_readLine_147 ?_
                refine lv_iload_n hx hb dX13_readLine_150 rfl (lv_at hl 0 rfl) ?_
                refine lv_iconst (v := 0) hx hb dX13_readLine_151 (by decide) ?_
                obtain ⟨rf167, hrf168⟩ : ∃ f : Nat → Int32, f = rh162 14 := ⟨_, rfl⟩
                have ea169 : V154 (q + 14) = some (.inl (cs 1, 120, .inl (rf167))) := by rw [hrf168]; exact pk164 14 (by decide)
                have hra170 := hq_rg hP.1 (hr_14 hR) ea169
                refine hp_iast hx hb hZ ea169 (hq_in (by omega) (by omega)) dX13_readLine_152 (fun V171 _ _ e172 o173 hZ => ?_)
                have e172 : V171 (q + 14) = some (.inl (cs 1, 120, .inl (upd (rf167) ((y91 : Int32).toNatClampNeg) (0)))) := e172
                have hl174 : (0 : Int32).toInt = 0 := by decide
                have hP := hP.put (hr_14 hR) e172 o173 (hq_c21 (by omega) (hq_upd hra170 (show 0 ≤ _ ∧ _ ≤ 8 by constructor <;> omega))) rfl
                obtain ⟨g175, ge176⟩ : ∃ g9 : Nat → Int32, g9 = upd (rf167) ((y91 : Int32).toNatClampNeg) (0) := ⟨_, rfl⟩
                have fx177 : V171 (q + 14) = some (.inl (cs 1, 120, .inl (g175))) := by rw [ge176]; exact e172
                have hf178 := hq_rg hP.1 (hr_14 hR) fx177
                obtain ⟨rh179, hrh180⟩ : ∃ r9 : hm_Rh, r9 = hm_u2 rh162 14 (y91 : Int32).toNatClampNeg ((0 : Int32)) := ⟨_, rfl⟩
                have pk181 : hm_AR cs V171 q rh179 := by rw [hrh180]; exact pk164.put (a := 14) (by decide) (by rw [ge176, hrf168]) fx177 o173
                have hH182 : hm_H rh rh179 := by rw [hrh180]; exact hH165.put (show 60 ≤ (y91 : Int32).toNatClampNeg by have h8 := (hq_nn (z := y91) (by omega)).1; omega)
                refine lv_aload_n hx hb dX13_readLine_153 rfl (lv_at hl 2 rfl) ?_
                have fx183 : V171 (mo) = some (.inr (13, hm_o q (m_tp) (m_sz) (m_fr) (m_bh) (m_hd) (m_ft) (m_fa) (m_le) (m_fo) (m_as) (m_fd) (m_bc) (m_bg) (m_bs) (m_be) (m_b0) (m_b1) (m_cm) (m_hc))) := (o173 (mo) (hq_tne hmo (hr_14 hR) (by simp))).trans (fx166)
                refine hp_get (v := .ref (q + 15)) hx hb hts hown hZ fx183 fl_X13_44 rfl dX13_readLine_154 ?_
                refine lv_iload_n hx hb dX13_readLine_157 rfl (lv_at hl 0 rfl) ?_
                refine lv_iconst (v := 0) hx hb dX13_readLine_158 (by decide) ?_
                obtain ⟨rf184, hrf185⟩ : ∃ f : Nat → Int32, f = rh179 15 := ⟨_, rfl⟩
                have ea186 : V171 (q + 15) = some (.inl (cs 1, 120, .inl (rf184))) := by rw [hrf185]; exact pk181 15 (by decide)
                have hra187 := hq_rg hP.1 (hr_15 hR) ea186
                refine hp_iast hx hb hZ ea186 (hq_in (by omega) (by omega)) dX13_readLine_159 (fun V188 _ _ e189 o190 hZ => ?_)
                have e189 : V188 (q + 15) = some (.inl (cs 1, 120, .inl (upd (rf184) ((y91 : Int32).toNatClampNeg) (0)))) := e189
                have hl191 : (0 : Int32).toInt = 0 := by decide
                have hP := hP.put (hr_15 hR) e189 o190 (hq_c21 (by omega) (hq_upd hra187 (show 0 ≤ _ ∧ _ ≤ 8 by constructor <;> omega))) rfl
                obtain ⟨g192, ge193⟩ : ∃ g9 : Nat → Int32, g9 = upd (rf184) ((y91 : Int32).toNatClampNeg) (0) := ⟨_, rfl⟩
                have fx194 : V188 (q + 15) = some (.inl (cs 1, 120, .inl (g192))) := by rw [ge193]; exact e189
                have hf195 := hq_rg hP.1 (hr_15 hR) fx194
                obtain ⟨rh196, hrh197⟩ : ∃ r9 : hm_Rh, r9 = hm_u2 rh179 15 (y91 : Int32).toNatClampNeg ((0 : Int32)) := ⟨_, rfl⟩
                have pk198 : hm_AR cs V188 q rh196 := by rw [hrh197]; exact pk181.put (a := 15) (by decide) (by rw [ge193, hrf185]) fx194 o190
                have hH199 : hm_H rh rh196 := by rw [hrh197]; exact hH182.put (show 60 ≤ (y91 : Int32).toNatClampNeg by have h8 := (hq_nn (z := y91) (by omega)).1; omega)
                refine lv_aload_n hx hb dX13_readLine_160 rfl (lv_at hl 2 rfl) ?_
                have fx200 : V188 (mo) = some (.inr (13, hm_o q (m_tp) (m_sz) (m_fr) (m_bh) (m_hd) (m_ft) (m_fa) (m_le) (m_fo) (m_as) (m_fd) (m_bc) (m_bg) (m_bs) (m_be) (m_b0) (m_b1) (m_cm) (m_hc))) := (o190 (mo) (hq_tne hmo (hr_15 hR) (by simp))).trans (fx183)
                refine hp_get (v := .ref (q + 16)) hx hb hts hown hZ fx200 fl_X13_47 rfl dX13_readLine_161 ?_
                refine lv_iload_n hx hb dX13_readLine_164 rfl (lv_at hl 0 rfl) ?_
                refine lv_iconst (v := 0) hx hb dX13_readLine_165 (by decide) ?_
                obtain ⟨rf201, hrf202⟩ : ∃ f : Nat → Int32, f = rh196 16 := ⟨_, rfl⟩
                have ea203 : V188 (q + 16) = some (.inl (cs 1, 120, .inl (rf201))) := by rw [hrf202]; exact pk198 16 (by decide)
                have hra204 := hq_rg hP.1 (hr_16 hR) ea203
                refine hp_iast hx hb hZ ea203 (hq_in (by omega) (by omega)) dX13_readLine_166 (fun V205 _ _ e206 o207 hZ => ?_)
                have e206 : V205 (q + 16) = some (.inl (cs 1, 120, .inl (upd (rf201) ((y91 : Int32).toNatClampNeg) (0)))) := e206
                have hl208 : (0 : Int32).toInt = 0 := by decide
                have hP := hP.put (hr_16 hR) e206 o207 (hq_c21 (by omega) (hq_upd hra204 (show 0 ≤ _ ∧ _ ≤ 29 by constructor <;> omega))) rfl
                obtain ⟨g209, ge210⟩ : ∃ g9 : Nat → Int32, g9 = upd (rf201) ((y91 : Int32).toNatClampNeg) (0) := ⟨_, rfl⟩
                have fx211 : V205 (q + 16) = some (.inl (cs 1, 120, .inl (g209))) := by rw [ge210]; exact e206
                have hf212 := hq_rg hP.1 (hr_16 hR) fx211
                obtain ⟨rh213, hrh214⟩ : ∃ r9 : hm_Rh, r9 = hm_u2 rh196 16 (y91 : Int32).toNatClampNeg ((0 : Int32)) := ⟨_, rfl⟩
                have pk215 : hm_AR cs V205 q rh213 := by rw [hrh214]; exact pk198.put (a := 16) (by decide) (by rw [ge210, hrf202]) fx211 o207
                have hH216 : hm_H rh rh213 := by rw [hrh214]; exact hH199.put (show 60 ≤ (y91 : Int32).toNatClampNeg by have h8 := (hq_nn (z := y91) (by omega)).1; omega)
                refine lv_aload_n hx hb dX13_readLine_167 rfl (lv_at hl 2 rfl) ?_
                have fx217 : V205 (mo) = some (.inr (13, hm_o q (m_tp) (m_sz) (m_fr) (m_bh) (m_hd) (m_ft) (m_fa) (m_le) (m_fo) (m_as) (m_fd) (m_bc) (m_bg) (m_bs) (m_be) (m_b0) (m_b1) (m_cm) (m_hc))) := (o207 (mo) (hq_tne hmo (hr_16 hR) (by simp))).trans (fx200)
                have pk218 := hp0.keep ((o207 (q + 20) (hq_tne (hr_20 hR) (hr_16 hR) (by simp))).trans ((o190 (q + 20) (hq_tne (hr_20 hR) (hr_15 hR) (by simp))).trans ((o173 (q + 20) (hq_tne (hr_20 hR) (hr_14 hR) (by simp))).trans ((o156 (q + 20) (hq_tne (hr_20 hR) (hr_13 hR) (by simp))).trans ((o139 (q + 20) (hq_tne (hr_20 hR) (hr_12 hR) (by simp))).trans ((o122 (q + 20) (hq_tne (hr_20 hR) (hr_11 hR) (by simp))).trans (o105 (q + 20) (hq_tne (hr_20 hR) (hr_10 hR) (by simp)))))))))
                refine hp_callv (hp_runV (As := []) (rest := []) hx hb hml hown hts (y_next l D cs B G V205 n hP.1 (q) (mo) (w) (j) (m_tp) (m_sz) (m_fr) (m_bh) (m_hd) (m_ft) (m_fa) (m_le) (m_fo) (m_as) (m_fd) (m_bc) (m_bg) (m_bs) (m_be) (m_b0) (m_b1) (m_cm) (m_hc)  fx217 pk218 hR hmo hmq (by omega) hA (by omega)) hZ fx217 cv_X13_111 rfl rfl ⟨Nat.le_of_ble_eq_true rfl, Nat.le_of_ble_eq_true rfl⟩ rfl hl.1 rfl (Nat.le_of_ble_eq_true rfl) dX13_readLine_168 ⟨(Nat.le_of_ble_eq_true rfl), (Nat.le_of_ble_eq_true rfl)⟩) hZ (fun V219 n220 _ _ hw221 hZ => ?_)
                obtain ⟨rfl, hq223, fr224, z225, z226, z227, ho228, hp229, hp230⟩ := hw221
                have b231 := hq_rng z225
                have b232 := hq_rng z226
                have b233 := hq_rng z227
                have hP := hP.trans hq223 (fun _ h => Bool.noConfusion h)
                obtain ⟨b234, b235, b236, -⟩ := id hp229
                refine lv_iload_n hx hb dX13_readLine_171 rfl (lv_at hl 1 rfl) ?_
                refine lv_iconst (v := 4) hx hb dX13_readLine_172 (by decide) ?_
                refine lv_icmp_eq (tgt := 181) hx hb dX13_readLine_173 (by decide) (fun c237 => absurd c237 (by decide)) (fun c237 => ?_)
                refine lv_iload_n hx hb dX13_readLine_176 rfl (lv_at hl 1 rfl) ?_
                refine lv_iconst (v := 5) hx hb dX13_readLine_177 (by decide) ?_
                refine lv_icmp_ne (tgt := 194) hx hb dX13_readLine_178 (by decide) (fun c238 => absurd (by decide) c238) (fun c238 => ?_)
                refine lv_aload_n hx hb dX13_readLine_181 rfl (lv_at hl 2 rfl) ?_
                refine hp_get (v := .ref (q + 11)) hx hb hts hown hZ ho228 fl_X13_32 rfl dX13_readLine_182 ?_
                refine lv_iload_n hx hb dX13_readLine_185 rfl (lv_at hl 0 rfl) ?_
                refine lv_aload_n hx hb dX13_readLine_186 rfl (lv_at hl 2 rfl) ?_
                have wl239 : hm_WL (y91).toNatClampNeg rh rh111 := by rw [hrh112]; exact wl0.put (Or.inl ⟨by decide, rfl⟩)
                have wl240 : hm_WL (y91).toNatClampNeg rh rh128 := by rw [hrh129]; exact wl239.put (Or.inl ⟨by decide, rfl⟩)
                have wl241 : hm_WL (y91).toNatClampNeg rh rh145 := by rw [hrh146]; exact wl240.put (Or.inl ⟨by decide, rfl⟩)
                have wl242 : hm_WL (y91).toNatClampNeg rh rh162 := by rw [hrh163]; exact wl241.put (Or.inl ⟨by decide, rfl⟩)
                have wl243 : hm_WL (y91).toNatClampNeg rh rh179 := by rw [hrh180]; exact wl242.put (Or.inl ⟨by decide, rfl⟩)
                have wl244 : hm_WL (y91).toNatClampNeg rh rh196 := by rw [hrh197]; exact wl243.put (Or.inl ⟨by decide, rfl⟩)
                have wl245 : hm_WL (y91).toNatClampNeg rh rh213 := by rw [hrh214]; exact wl244.put (Or.inl ⟨by decide, rfl⟩)
                have nl246 : hm_NL rh213 8 4 30 30 w vn := hVN.keep (fun i _ _ => wl245 8 i (fun g9 => by omega)) (fun i _ _ => wl245 4 i (fun g9 => by omega))
                have cn247 : (rh213 1 1).toInt = (vn.length : Int) := by rw [wl245 1 1 (fun g9 => by omega)]; exact hcv
                have pk248 := pk218.keep (fr224 (q + 20) (hq_tne (hr_20 hR) hmo (by simp)))
                have pk249 := pk215.keep (fun x7 (hx7 : q ≤ x7 ∧ x7 < q + 19) => fr224 x7 (by omega))
                refine hq_callx (hq_runV (As := []) (rest := [.int (y91), .ref (q + 11)]) hx hb hml hown hts (y_takeVerb l D cs B G V219 n hP.1 (q) (mo) (w) (rh213) (j + 1) (vn) (m_tp) (m_sz) (z225) (z226) (z227) (m_ft) (m_fa) (m_le) (m_fo) (m_as) (m_fd) (m_bc) (m_bg) (m_bs) (m_be) (m_b0) (m_b1) (m_cm) (m_hc)  ho228 pk248 pk249 hR hmo hmq (by omega) hp229 nl246 cn247) hZ ho228 cv_X13_182 rfl rfl ⟨Nat.le_of_ble_eq_true rfl, Nat.le_of_ble_eq_true rfl⟩ rfl hl.1 rfl (Nat.le_of_ble_eq_true rfl) dX13_readLine_187 ⟨(Nat.le_of_ble_eq_true rfl), (Nat.le_of_ble_eq_true rfl)⟩) hZ hnx hlocks (by rintro x9 V9x n9 ⟨rfl, rfl, hqx, frx, zx256, zx257, zx258, zx259, zx260, hox261, hpx262⟩; have b263 := hq_rng zx256; have b264 := hq_rng zx257; have b265 := hq_rng zx258; have b266 := hq_rng zx259; have b267 := hq_rng zx260; have pk268 := pk249.keep (fun x7 (hx7 : q ≤ x7 ∧ x7 < q + 19) => frx x7 (by omega)); exact ⟨rfl, rfl, hP.trans hqx (fun _ h => Bool.noConfusion h), (fun x8 hne0 hne1 => (frx x8 hne0).trans ((fr224 x8 hne0).trans ((o207 x8 (by omega)).trans ((o190 x8 (by omega)).trans ((o173 x8 (by omega)).trans ((o156 x8 (by omega)).trans ((o139 x8 (by omega)).trans ((o122 x8 (by omega)).trans (o105 x8 (by omega)))))))))), zx256, zx257, zx258, zx259, zx260, rh213, hox261, (by have hk9 := hpx262.1; unfold sp_tl sp_line; (try dsimp only); (repeat (first | (rw [if_pos]; rotate_left; omega) | (rw [if_neg]; rotate_left; omega))); (try dsimp only); exact hpx262), pk268, hH216⟩) (fun v9 V250 n251 _ _ hw252 hZ => ?_)
                obtain ⟨r253, rfl, rfl, hq254, fr255, z269, z270, z271, ho272, hp273, hp274⟩ := hw252
                refine W.eq (g2 := F0 m 190 ls [.int (r253), .int (y91), .ref (q + 11)]) rfl ?_
                have b275 := hq_rng z269
                have b276 := hq_rng z270
                have b277 := hq_rng z271
                have hP := hP.trans hq254 (fun _ h => Bool.noConfusion h)
                have b278 := hq_rng r253
                obtain ⟨b279, hA280, b281⟩ := hp273
                obtain ⟨b282, b283, b284, -⟩ := id hA280
                have pk289 := pk249.keep (fun x7 (hx7 : q ≤ x7 ∧ x7 < q + 19) => fr255 x7 (by omega))
                obtain ⟨rf285, hrf286⟩ : ∃ f : Nat → Int32, f = rh213 11 := ⟨_, rfl⟩
                have ea287 : V250 (q + 11) = some (.inl (cs 1, 120, .inl (rf285))) := by rw [hrf286]; exact pk289 11 (by decide)
                have hra288 := hq_rg hP.1 (hr_11 hR) ea287
                refine hp_iast hx hb hZ ea287 (hq_in (by omega) (by omega)) dX13_readLine_190 (fun V290 _ _ e291 o292 hZ => ?_)
                have e291 : V290 (q + 11) = some (.inl (cs 1, 120, .inl (upd (rf285) ((y91 : Int32).toNatClampNeg) (r253)))) := e291
                have hP := hP.put (hr_11 hR) e291 o292 (hq_c21 (by omega) (hq_upd hra288 (hq_rng _))) rfl
                obtain ⟨g293, ge294⟩ : ∃ g9 : Nat → Int32, g9 = upd (rf285) ((y91 : Int32).toNatClampNeg) (r253) := ⟨_, rfl⟩
                have fx295 : V290 (q + 11) = some (.inl (cs 1, 120, .inl (g293))) := by rw [ge294]; exact e291
                have hf296 := hq_rg hP.1 (hr_11 hR) fx295
                obtain ⟨rh297, hrh298⟩ : ∃ r9 : hm_Rh, r9 = hm_u2 rh213 11 (y91 : Int32).toNatClampNeg ((r253 : Int32)) := ⟨_, rfl⟩
                have pk299 : hm_AR cs V290 q rh297 := by rw [hrh298]; exact pk289.put (a := 11) (by decide) (by rw [ge294, hrf286]) fx295 o292
                have hH300 : hm_H rh rh297 := by rw [hrh298]; exact hH216.put (show 60 ≤ (y91 : Int32).toNatClampNeg by have h8 := (hq_nn (z := y91) (by omega)).1; omega)
                refine lv_goto (tgt := 204) hx hb dX13_readLine_191 (by decide) ?_
                refine lv_iload_n hx hb dX13_readLine_204 rfl (lv_at hl 1 rfl) ?_
                refine lv_iconst (v := 2) hx hb dX13_readLine_205 (by decide) ?_
                refine lv_icmp_eq (tgt := 219) hx hb dX13_readLine_206 (by decide) (fun c301 => absurd c301 (by decide)) (fun c301 => ?_)
                refine lv_iload_n hx hb dX13_readLine_209 rfl (lv_at hl 1 rfl) ?_
                refine lv_iconst (v := 3) hx hb dX13_readLine_210 (by decide) ?_
                refine lv_icmp_eq (tgt := 219) hx hb dX13_readLine_211 (by decide) (fun c302 => absurd c302 (by decide)) (fun c302 => ?_)
                refine lv_aload_n hx hb dX13_readLine_214 rfl (lv_at hl 2 rfl) ?_
                refine lv_iload_n hx hb dX13_readLine_215 rfl (lv_at hl 0 rfl) ?_
                have wl303 : hm_WL (y91).toNatClampNeg rh rh297 := by rw [hrh298]; exact wl245.put (Or.inl ⟨by decide, rfl⟩)
                have b304 : (rh297 13 (y91).toNatClampNeg).toInt = -1 := by rw [hrh298, hm_u2a (by decide), hrh214, hm_u2a (by decide), hrh197, hm_u2a (by decide), hrh180, hm_u2a (by decide), hrh163, hm_u2e]; decide
                have fx305 : V290 (mo) = some (.inr (13, hm_o q (m_tp) (m_sz) (z269) (z270) (z271) (m_ft) (m_fa) (m_le) (m_fo) (m_as) (m_fd) (m_bc) (m_bg) (m_bs) (m_be) (m_b0) (m_b1) (m_cm) (m_hc))) := (o292 (mo) (hq_tne hmo (hr_11 hR) (by simp))).trans (ho272)
                have pk306 := pk248.keep ((o292 (q + 20) (hq_tne (hr_20 hR) (hr_11 hR) (by simp))).trans (fr255 (q + 20) (hq_tne (hr_20 hR) hmo (by simp))))
                refine hq_callx (hq_runV (As := [.int (y91)]) (rest := []) hx hb hml hown hts (y_readSlot l D cs B G V290 n hP.1 (q) (mo) (w) (rh297) ((sp_old w vn (j + 1)).2.1) (m_tp) (m_sz) (z269) (z270) (z271) (m_ft) (m_fa) (m_le) (m_fo) (m_as) (m_fd) (m_bc) (m_bg) (m_bs) (m_be) (m_b0) (m_b1) (m_cm) (m_hc) (y91)  fx305 pk306 pk299 hR hmo hmq (by omega) hA280 (by omega) b304) hZ fx305 cv_X13_189 rfl rfl ⟨Nat.le_of_ble_eq_true rfl, Nat.le_of_ble_eq_true rfl⟩ rfl hl.1 rfl (Nat.le_of_ble_eq_true rfl) dX13_readLine_216 ⟨(Nat.le_of_ble_eq_true rfl), (Nat.le_of_ble_eq_true rfl)⟩) hZ hnx hlocks (by rintro x9 V9x n9 ⟨rfl, rfl, hqx, frx, zx313, zx314, zx315, zx316, zx317, zx318, hox319, hpx320, hpx321, hpx322⟩; have b323 := hq_rng zx313; have b324 := hq_rng zx314; have b325 := hq_rng zx315; have b326 := hq_rng zx316; have b327 := hq_rng zx317; exact ⟨rfl, rfl, hP.trans hqx (fun _ h => Bool.noConfusion h), (fun x8 hne0 hne1 => (frx x8 hne0 hne1).trans ((o292 x8 (by omega)).trans ((fr255 x8 hne0).trans ((fr224 x8 hne0).trans ((o207 x8 (by omega)).trans ((o190 x8 (by omega)).trans ((o173 x8 (by omega)).trans ((o156 x8 (by omega)).trans ((o139 x8 (by omega)).trans ((o122 x8 (by omega)).trans (o105 x8 (by omega)))))))))))), zx313, zx314, zx315, zx316, zx317, zx318, hox319, (by have hk9 := hpx320.1; unfold sp_tl sp_line; (try dsimp only); (repeat (first | (rw [if_pos]; rotate_left; omega) | (rw [if_neg]; rotate_left; omega))); (try dsimp only); exact hpx320), hpx321, (hH300.trans hpx322)⟩) (fun v9 V307 n308 _ _ hw309 hZ => ?_)
                obtain ⟨rfl, rfl, hq311, fr312, z328, z329, z330, u331, ho332, hp333, hp334, hp335⟩ := hw309
                refine W.eq (g2 := F0 m 219 ls []) rfl ?_
                have b336 := hq_rng z328
                have b337 := hq_rng z329
                have b338 := hq_rng z330
                have hP := hP.trans hq311 (fun _ h => Bool.noConfusion h)
                obtain ⟨b339, hA340, b341, b342⟩ := hp333
                obtain ⟨b343, b344, b345, -⟩ := id hA340
                have wl346 := wl303.w hp335 (by decide)
                have hH347 := hH300.trans (hp335.H (hm_h60 (by decide) (by omega)))
                refine lv_iload_n hx hb dX13_readLine_219 rfl (lv_at hl 1 rfl) ?_
                refine lv_iconst (v := 3) hx hb dX13_readLine_220 (by decide) ?_
                refine lv_icmp_ne (tgt := 229) hx hb dX13_readLine_221 (by decide) (fun c348 => ?_) (fun c348 => absurd c348 (by decide))
                refine lv_iload_n hx hb dX13_readLine_229 rfl (lv_at hl 1 rfl) ?_
                refine lv_if_eq (tgt := 248) hx hb dX13_readLine_230 (by decide) (fun c349 => absurd c349 (by decide)) (fun c349 => ?_)
                refine lv_iload_n hx hb dX13_readLine_233 rfl (lv_at hl 1 rfl) ?_
                refine lv_iconst (v := 1) hx hb dX13_readLine_234 (by decide) ?_
                refine lv_icmp_eq (tgt := 248) hx hb dX13_readLine_235 (by decide) (fun c350 => absurd c350 (by decide)) (fun c350 => ?_)
                refine lv_iload_n hx hb dX13_readLine_238 rfl (lv_at hl 1 rfl) ?_
                refine lv_iconst (v := 2) hx hb dX13_readLine_239 (by decide) ?_
                refine lv_icmp_eq (tgt := 248) hx hb dX13_readLine_240 (by decide) (fun c351 => absurd c351 (by decide)) (fun c351 => ?_)
                refine lv_iload_n hx hb dX13_readLine_243 rfl (lv_at hl 1 rfl) ?_
                refine lv_iconst (v := 4) hx hb dX13_readLine_244 (by decide) ?_
                refine lv_icmp_ne (tgt := 321) hx hb dX13_readLine_245 (by decide) (fun c352 => ?_) (fun c352 => absurd c352 (by decide))
                refine lv_iload_n hx hb dX13_readLine_321 rfl (lv_at hl 1 rfl) ?_
                refine lv_if_eq (tgt := 330) hx hb dX13_readLine_322 (by decide) (fun c353 => absurd c353 (by decide)) (fun c353 => ?_)
                refine lv_iload_n hx hb dX13_readLine_325 rfl (lv_at hl 1 rfl) ?_
                refine lv_iconst (v := 2) hx hb dX13_readLine_326 (by decide) ?_
                refine lv_icmp_ne (tgt := 365) hx hb dX13_readLine_327 (by decide) (fun c354 => ?_) (fun c354 => absurd c354 (by decide))
                refine lv_iload_n hx hb dX13_readLine_365 rfl (lv_at hl 1 rfl) ?_
                refine lv_iconst (v := 2) hx hb dX13_readLine_366 (by decide) ?_
                refine lv_icmp_ne (tgt := 390) hx hb dX13_readLine_367 (by decide) (fun c355 => ?_) (fun c355 => absurd c355 (by decide))
                refine lv_aload_n hx hb dX13_readLine_390 rfl (lv_at hl 2 rfl) ?_
                refine hp_get (v := .ref (q + 2)) hx hb hts hown hZ ho332 fl_X13_10 rfl dX13_readLine_391 ?_
                refine lv_iconst (v := 1) hx hb dX13_readLine_394 (by decide) ?_
                refine lv_dup2_11 hx hb dX13_readLine_395 rfl rfl ?_
                obtain ⟨rf356, hrf357⟩ : ∃ f : Nat → Int32, f = u331 2 := ⟨_, rfl⟩
                have ea358 : V307 (q + 2) = some (.inl (cs 1, 2, .inl (rf356))) := by rw [hrf357]; exact hp334 2 (by decide)
                have hra359 := hq_rg hP.1 (hr_2 hR) ea358
                refine hp_iald hx hb hZ ea358 (by unfold vp_in; decide) dX13_readLine_396 ?_
                refine lv_topi (fun y360 ey361 => ?_)
                have b362 : hq_ir (hq_lo 8) (hq_hi 8) y360 := by rw [ey361]; exact hra359 _ (by decide)
                have b362 : 0 ≤ (y360).toInt ∧ (y360).toInt ≤ 60 := b362
                have b363 : (y360).toInt = (lz.length : Int) := by rw [ey361, hrf357, hp335 2 _ (fun g9 => absurd g9.1 (by decide)), hrh298, hm_u2a (by decide), hrh214, hm_u2a (by decide), hrh197, hm_u2a (by decide), hrh180, hm_u2a (by decide), hrh163, hm_u2a (by decide), hrh146, hm_u2a (by decide), hrh129, hm_u2a (by decide), hrh112, hm_u2a (by decide)]; exact hcl
                refine lv_iconst (v := 1) hx hb dX13_readLine_397 (by decide) ?_
                refine lv_iadd hx hb dX13_readLine_398 ?_
                refine lv_topi (fun y364 ey365 => ?_)
                obtain ⟨k366, hk367, b368, b369⟩ := hq_add (y360) (1)
                rw [← ey365] at hk367 b368 b369
                have hk367 : (y364).toInt = (y360).toInt + (1 : Int) + k366 * 4294967296 := hk367
                obtain rfl : k366 = 0 := by omega
                refine hp_iast hx hb hZ ea358 (by unfold vp_in; decide) dX13_readLine_399 (fun V370 _ _ e371 o372 hZ => ?_)
                have e371 : V370 (q + 2) = some (.inl (cs 1, 2, .inl (upd (rf356) ((1 : Int32).toNatClampNeg) (y364)))) := e371
                have hP := hP.put (hr_2 hR) e371 o372 (hq_c21 (by omega) (hq_upd hra359 (show 0 ≤ _ ∧ _ ≤ 60 by constructor <;> omega))) rfl
                obtain ⟨g373, ge374⟩ : ∃ g9 : Nat → Int32, g9 = upd (rf356) ((1 : Int32).toNatClampNeg) (y364) := ⟨_, rfl⟩
                have fx375 : V370 (q + 2) = some (.inl (cs 1, 2, .inl (g373))) := by rw [ge374]; exact e371
                have hf376 := hq_rg hP.1 (hr_2 hR) fx375
                obtain ⟨rh377, hrh378⟩ : ∃ r9 : hm_Rh, r9 = hm_u2 u331 2 (1 : Int32).toNatClampNeg ((y364 : Int32)) := ⟨_, rfl⟩
                have pk379 : hm_AR cs V370 q rh377 := by rw [hrh378]; exact hp334.put (a := 2) (by decide) (by rw [ge374, hrf357]) fx375 o372
                have hH380 : hm_H rh rh377 := by rw [hrh378]; exact hH347.put (show 1 ≤ (1 : Int32).toNatClampNeg by have h8 := (hq_nn (z := 1) (by omega)).1; omega)
                have wl381 : hm_WL (y91).toNatClampNeg rh rh377 := by rw [hrh378]; exact wl346.put (Or.inr ⟨rfl, rfl⟩)
                have hl382 : (5 : Int32).toInt = 5 := by decide
                have hl383 : (1 : Int32).toInt = 1 := by decide
                have fx384 : V370 (mo) = some (.inr (13, hm_o q (m_tp) (m_sz) (z328) (z329) (z330) (m_ft) (m_fa) (m_le) (m_fo) (m_as) (m_fd) (m_bc) (m_bg) (m_bs) (m_be) (m_b0) (m_b1) (m_cm) (m_hc))) := (o372 (mo) (hq_tne hmo (hr_2 hR) (by simp))).trans (ho332)
                exact hq_vret hx hb hr hlocks hZ ⟨rfl, rfl, hP, (fun x8 hne0 hne1 => (o372 x8 (by omega)).trans ((fr312 x8 hne0 hne1).trans ((o292 x8 (by omega)).trans ((fr255 x8 hne0).trans ((fr224 x8 hne0).trans ((o207 x8 (by omega)).trans ((o190 x8 (by omega)).trans ((o173 x8 (by omega)).trans ((o156 x8 (by omega)).trans ((o139 x8 (by omega)).trans ((o122 x8 (by omega)).trans (o105 x8 (by omega))))))))))))), z328, z329, z330, rh377, fx384, (by unfold sp_tl sp_line; (try dsimp only); (repeat (first | (rw [if_pos]; rotate_left; omega) | (rw [if_neg]; rotate_left; omega))); (try dsimp only); exact ⟨by first | rfl | omega, hA340, (by rw [← hL9]; exact ⟨by rw [hrh378, hm_u2a (by decide), hp335 10 _ (fun g9 => absurd g9.1 (by decide)), hrh298, hm_u2a (by decide), hrh214, hm_u2a (by decide), hrh197, hm_u2a (by decide), hrh180, hm_u2a (by decide), hrh163, hm_u2a (by decide), hrh146, hm_u2a (by decide), hrh129, hm_u2a (by decide), hrh112, hm_u2e]; first | omega | (dsimp only; omega), by rw [hrh378, hm_u2a (by decide), hp335 11 _ (fun g9 => absurd g9.1 (by decide)), hrh298, hm_u2e]; first | omega | (dsimp only; omega), by rw [hrh378, hm_u2a (by decide)]; first | omega | (dsimp only; omega), by rw [hrh378, hm_u2a (by decide)]; first | omega | (dsimp only; omega), by rw [hrh378, hm_u2a (by decide), hp335 16 _ (fun g9 => absurd g9.1 (by decide)), hrh298, hm_u2a (by decide), hrh214, hm_u2e]; first | omega | (dsimp only; omega), ⟨by rw [hrh378, hm_u2a (by decide), hp335 14 _ (fun g9 => absurd g9.1 (by decide)), hrh298, hm_u2a (by decide), hrh214, hm_u2a (by decide), hrh197, hm_u2a (by decide), hrh180, hm_u2e]; first | omega | (dsimp only; omega), by first | omega | (dsimp only; omega), fun k9 hk9 => by first | omega | (dsimp only at hk9; omega)⟩, ⟨by rw [hrh378, hm_u2a (by decide), hp335 15 _ (fun g9 => absurd g9.1 (by decide)), hrh298, hm_u2a (by decide), hrh214, hm_u2a (by decide), hrh197, hm_u2e]; first | omega | (dsimp only; omega), by first | omega | (dsimp only; omega), fun k9 hk9 => by first | omega | (dsimp only at hk9; omega)⟩⟩), by omega, by show (rh377 2 (1 : Int32).toNatClampNeg).toInt = _; rw [hrh378, hm_u2e]; omega⟩), pk379, (by rw [← hL9]; exact wl381), hH380⟩ dX13_readLine_400
              · have c86 : (y82).toInt = (60 : Int) := hq_eqi.mp c86
                refine lv_aload_n hx hb dX13_readLine_102 rfl (lv_at hl 1 rfl) ?_
                refine lv_iconst (v := 4) hx hb dX13_readLine_103 (by decide) ?_
                have hl385 : (4 : Int32).toInt = 4 := by decide
                refine hp_callq (hp_runV (As := [.int (4)]) (rest := []) hx hb hml hown hts (y_wrong l D cs B G V n hP.1 (q) (mo) (m_tp) (m_sz) (m_fr) (m_bh) (m_hd) (m_ft) (m_fa) (m_le) (m_fo) (m_as) (m_fd) (m_bc) (m_bg) (m_bs) (m_be) (m_b0) (m_b1) (m_cm) (m_hc) (4)  hc0  hR hmo hmq) hZ hc0 cv_X13_107 rfl rfl ⟨Nat.le_of_ble_eq_true rfl, Nat.le_of_ble_eq_true rfl⟩ rfl hl.1 rfl (Nat.le_of_ble_eq_true rfl) dX13_readLine_104 ⟨(Nat.le_of_ble_eq_true rfl), (Nat.le_of_ble_eq_true rfl)⟩) hZ (fun r389 V386 n387 _ _ hw388 hZ => ?_)
                obtain ⟨rfl, hq390, fr391, ho392, hp393⟩ := hw388
                have hP := hP.trans hq390 (fun _ h => Bool.noConfusion h)
                subst hp393
                refine W.eq (g2 := F0 m 107 ls [.ref (q + 19)]) rfl ?_
                have hl394 : (4 : Int32).toInt = 4 := by decide
                have pk395 := hp1.keep (fun x7 (hx7 : q ≤ x7 ∧ x7 < q + 19) => fr391 x7 (by omega))
                exact hq_athrow hx hb hnx hlocks hZ ⟨rfl, rfl, hP, (fun x8 hne0 hne1 => fr391 x8 hne0), m_fr, m_bh, m_hd, 4, m_fr, rh, ho392, (by unfold sp_tl sp_line; (try dsimp only); (repeat (first | (rw [if_pos]; rotate_left; omega) | (rw [if_neg]; rotate_left; omega))); (try dsimp only); exact ⟨by omega, by omega, by omega⟩), pk395, hH0⟩ dX13_readLine_107
          · have c52 : ¬ (r47).toInt = (0 : Int) := fun h9 => c52 (hq_eqi.mpr h9)
            have b396 : sp_k w (j) = 4 := by have h9 := hp50; omega
            refine lv_iconst (v := 4) hx hb dX13_readLine_61 (by decide) ?_
            refine lv_goto (tgt := 79) hx hb dX13_readLine_62 (by decide) ?_
            refine lv_istore_n (lv' := [(1, .int (4)), (0, .ref (mo))]) hx hb dX13_readLine_79 rfl hl (by decide) rfl (fun ls hl => ?_)
            refine lv_iload_n hx hb dX13_readLine_80 rfl (lv_at hl 0 rfl) ?_
            refine lv_iconst (v := -1) hx hb dX13_readLine_81 (by decide) ?_
            refine lv_icmp_ne (tgt := 91) hx hb dX13_readLine_82 (by decide) (fun c397 => ?_) (fun c397 => absurd c397 (by decide))
            refine lv_aload_n hx hb dX13_readLine_91 rfl (lv_at hl 1 rfl) ?_
            refine hp_get (v := .ref (q + 2)) hx hb hts hown hZ hc0 fl_X13_10 rfl dX13_readLine_92 ?_
            refine lv_iconst (v := 1) hx hb dX13_readLine_95 (by decide) ?_
            obtain ⟨rf398, hrf399⟩ : ∃ f : Nat → Int32, f = rh 2 := ⟨_, rfl⟩
            have ea400 : V (q + 2) = some (.inl (cs 1, 2, .inl (rf398))) := by rw [hrf399]; exact hp1 2 (by decide)
            have hra401 := hq_rg hP.1 (hr_2 hR) ea400
            refine hp_iald hx hb hZ ea400 (by unfold vp_in; decide) dX13_readLine_96 ?_
            refine lv_topi (fun y402 ey403 => ?_)
            have b404 : hq_ir (hq_lo 8) (hq_hi 8) y402 := by rw [ey403]; exact hra401 _ (by decide)
            have b404 : 0 ≤ (y402).toInt ∧ (y402).toInt ≤ 60 := b404
            have b405 : (y402).toInt = (lz.length : Int) := by rw [ey403, hrf399]; exact hcl
            refine lv_bipush (v := 60) hx hb dX13_readLine_97 (by decide) ?_
            refine lv_icmp_ne (tgt := 108) hx hb dX13_readLine_99 (by decide) (fun c406 => ?_) (fun c406 => ?_)
            · have c406 : ¬ (y402).toInt = (60 : Int) := fun h9 => c406 (hq_eqi.mpr h9)
              refine lv_bipush (v := 60) hx hb dX13_readLine_108 (by decide) ?_
              refine lv_aload_n hx hb dX13_readLine_110 rfl (lv_at hl 1 rfl) ?_
              refine hp_get (v := .ref (q + 2)) hx hb hts hown hZ hc0 fl_X13_10 rfl dX13_readLine_111 ?_
              refine lv_iconst (v := 1) hx hb dX13_readLine_114 (by decide) ?_
              refine hp_iald hx hb hZ ea400 (by unfold vp_in; decide) dX13_readLine_115 ?_
              refine lv_topi (fun y407 ey408 => ?_)
              have b409 : hq_ir (hq_lo 8) (hq_hi 8) y407 := by rw [ey408]; exact hra401 _ (by decide)
              have b409 : 0 ≤ (y407).toInt ∧ (y407).toInt ≤ 60 := b409
              have b410 : (y407).toInt = (lz.length : Int) := by rw [ey408, hrf399]; exact hcl
              refine lv_iadd hx hb dX13_readLine_116 ?_
              refine lv_topi (fun y411 ey412 => ?_)
              obtain ⟨k413, hk414, b415, b416⟩ := hq_add (60) (y407)
              rw [← ey412] at hk414 b415 b416
              have hk414 : (y411).toInt = (60 : Int) + (y407).toInt + k413 * 4294967296 := hk414
              obtain rfl : k413 = 0 := by omega
              refine lv_istore_n (lv' := [(2, .int (y411)), (1, .int (4)), (0, .ref (mo))]) hx hb dX13_readLine_117 rfl hl (by decide) rfl (fun ls hl => ?_)
              have hL9 : (y411).toNatClampNeg = 60 + lz.length := by have h8 := (hq_nn (z := y411) (by omega)).1; omega
              have wl0 : hm_WL (y411).toNatClampNeg rh rh := hm_WL.rf
              have hl417 : (-1 : Int32).toInt = -1 := by decide
              have hl418 : (0 : Int32).toInt = 0 := by decide
              refine lv_aload_n hx hb dX13_readLine_118 rfl (lv_at hl 2 rfl) ?_
              refine hp_get (v := .ref (q + 10)) hx hb hts hown hZ hc0 fl_X13_29 rfl dX13_readLine_119 ?_
              refine lv_iload_n hx hb dX13_readLine_122 rfl (lv_at hl 0 rfl) ?_
              refine lv_iload_n hx hb dX13_readLine_123 rfl (lv_at hl 1 rfl) ?_
              obtain ⟨rf419, hrf420⟩ : ∃ f : Nat → Int32, f = rh 10 := ⟨_, rfl⟩
              have ea421 : V (q + 10) = some (.inl (cs 1, 120, .inl (rf419))) := by rw [hrf420]; exact hp1 10 (by decide)
              have hra422 := hq_rg hP.1 (hr_10 hR) ea421
              refine hp_iast hx hb hZ ea421 (hq_in (by omega) (by omega)) dX13_readLine_124 (fun V423 _ _ e424 o425 hZ => ?_)
              have e424 : V423 (q + 10) = some (.inl (cs 1, 120, .inl (upd (rf419) ((y411 : Int32).toNatClampNeg) (4)))) := e424
              have hl426 : (4 : Int32).toInt = 4 := by decide
              have hP := hP.put (hr_10 hR) e424 o425 (hq_c21 (by omega) (hq_upd hra422 (hq_rng _))) rfl
              obtain ⟨g427, ge428⟩ : ∃ g9 : Nat → Int32, g9 = upd (rf419) ((y411 : Int32).toNatClampNeg) (4) := ⟨_, rfl⟩
              have fx429 : V423 (q + 10) = some (.inl (cs 1, 120, .inl (g427))) := by rw [ge428]; exact e424
              have hf430 := hq_rg hP.1 (hr_10 hR) fx429
              obtain ⟨rh431, hrh432⟩ : ∃ r9 : hm_Rh, r9 = hm_u2 rh 10 (y411 : Int32).toNatClampNeg ((4 : Int32)) := ⟨_, rfl⟩
              have pk433 : hm_AR cs V423 q rh431 := by rw [hrh432]; exact hp1.put (a := 10) (by decide) (by rw [ge428, hrf420]) fx429 o425
              have hH434 : hm_H rh rh431 := by rw [hrh432]; exact hH0.put (show 60 ≤ (y411 : Int32).toNatClampNeg by have h8 := (hq_nn (z := y411) (by omega)).1; omega)
              refine lv_aload_n hx hb dX13_readLine_125 rfl (lv_at hl 2 rfl) ?_
              have fx435 : V423 (mo) = some (.inr (13, hm_o q (m_tp) (m_sz) (m_fr) (m_bh) (m_hd) (m_ft) (m_fa) (m_le) (m_fo) (m_as) (m_fd) (m_bc) (m_bg) (m_bs) (m_be) (m_b0) (m_b1) (m_cm) (m_hc))) := (o425 (mo) (hq_tne hmo (hr_10 hR) (by simp))).trans (hc0)
              refine hp_get (v := .ref (q + 11)) hx hb hts hown hZ fx435 fl_X13_32 rfl dX13_readLine_126 ?_
              refine lv_iload_n hx hb dX13_readLine_129 rfl (lv_at hl 0 rfl) ?_
              refine lv_iconst (v := -1) hx hb dX13_readLine_130 (by decide) ?_
              obtain ⟨rf436, hrf437⟩ : ∃ f : Nat → Int32, f = rh431 11 := ⟨_, rfl⟩
              have ea438 : V423 (q + 11) = some (.inl (cs 1, 120, .inl (rf436))) := by rw [hrf437]; exact pk433 11 (by decide)
              have hra439 := hq_rg hP.1 (hr_11 hR) ea438
              refine hp_iast hx hb hZ ea438 (hq_in (by omega) (by omega)) dX13_readLine_131 (fun V440 _ _ e441 o442 hZ => ?_)
              have e441 : V440 (q + 11) = some (.inl (cs 1, 120, .inl (upd (rf436) ((y411 : Int32).toNatClampNeg) (-1)))) := e441
              have hl443 : (-1 : Int32).toInt = -1 := by decide
              have hP := hP.put (hr_11 hR) e441 o442 (hq_c21 (by omega) (hq_upd hra439 (hq_rng _))) rfl
              obtain ⟨g444, ge445⟩ : ∃ g9 : Nat → Int32, g9 = upd (rf436) ((y411 : Int32).toNatClampNeg) (-1) := ⟨_, rfl⟩
              have fx446 : V440 (q + 11) = some (.inl (cs 1, 120, .inl (g444))) := by rw [ge445]; exact e441
              have hf447 := hq_rg hP.1 (hr_11 hR) fx446
              obtain ⟨rh448, hrh449⟩ : ∃ r9 : hm_Rh, r9 = hm_u2 rh431 11 (y411 : Int32).toNatClampNeg ((-1 : Int32)) := ⟨_, rfl⟩
              have pk450 : hm_AR cs V440 q rh448 := by rw [hrh449]; exact pk433.put (a := 11) (by decide) (by rw [ge445, hrf437]) fx446 o442
              have hH451 : hm_H rh rh448 := by rw [hrh449]; exact hH434.put (show 60 ≤ (y411 : Int32).toNatClampNeg by have h8 := (hq_nn (z := y411) (by omega)).1; omega)
              refine lv_aload_n hx hb dX13_readLine_132 rfl (lv_at hl 2 rfl) ?_
              have fx452 : V440 (mo) = some (.inr (13, hm_o q (m_tp) (m_sz) (m_fr) (m_bh) (m_hd) (m_ft) (m_fa) (m_le) (m_fo) (m_as) (m_fd) (m_bc) (m_bg) (m_bs) (m_be) (m_b0) (m_b1) (m_cm) (m_hc))) := (o442 (mo) (hq_tne hmo (hr_11 hR) (by simp))).trans (fx435)
              refine hp_get (v := .ref (q + 12)) hx hb hts hown hZ fx452 fl_X13_35 rfl dX13_readLine_133 ?_
              refine lv_iload_n hx hb dX13_readLine_136 rfl (lv_at hl 0 rfl) ?_
              refine lv_iconst (v := -1) hx hb dX13_readLine_137 (by decide) ?_
              obtain ⟨rf453, hrf454⟩ : ∃ f : Nat → Int32, f = rh448 12 := ⟨_, rfl⟩
              have ea455 : V440 (q + 12) = some (.inl (cs 1, 120, .inl (rf453))) := by rw [hrf454]; exact pk450 12 (by decide)
              have hra456 := hq_rg hP.1 (hr_12 hR) ea455
              refine hp_iast hx hb hZ ea455 (hq_in (by omega) (by omega)) dX13_readLine_138 (fun V457 _ _ e458 o459 hZ => ?_)
              have e458 : V457 (q + 12) = some (.inl (cs 1, 120, .inl (upd (rf453) ((y411 : Int32).toNatClampNeg) (-1)))) := e458
              have hl460 : (-1 : Int32).toInt = -1 := by decide
              have hP := hP.put (hr_12 hR) e458 o459 (hq_c21 (by omega) (hq_upd hra456 (hq_rng _))) rfl
              obtain ⟨g461, ge462⟩ : ∃ g9 : Nat → Int32, g9 = upd (rf453) ((y411 : Int32).toNatClampNeg) (-1) := ⟨_, rfl⟩
              have fx463 : V457 (q + 12) = some (.inl (cs 1, 120, .inl (g461))) := by rw [ge462]; exact e458
              have hf464 := hq_rg hP.1 (hr_12 hR) fx463
              obtain ⟨rh465, hrh466⟩ : ∃ r9 : hm_Rh, r9 = hm_u2 rh448 12 (y411 : Int32).toNatClampNeg ((-1 : Int32)) := ⟨_, rfl⟩
              have pk467 : hm_AR cs V457 q rh465 := by rw [hrh466]; exact pk450.put (a := 12) (by decide) (by rw [ge462, hrf454]) fx463 o459
              have hH468 : hm_H rh rh465 := by rw [hrh466]; exact hH451.put (show 60 ≤ (y411 : Int32).toNatClampNeg by have h8 := (hq_nn (z := y411) (by omega)).1; omega)
              refine lv_aload_n hx hb dX13_readLine_139 rfl (lv_at hl 2 rfl) ?_
              have fx469 : V457 (mo) = some (.inr (13, hm_o q (m_tp) (m_sz) (m_fr) (m_bh) (m_hd) (m_ft) (m_fa) (m_le) (m_fo) (m_as) (m_fd) (m_bc) (m_bg) (m_bs) (m_be) (m_b0) (m_b1) (m_cm) (m_hc))) := (o459 (mo) (hq_tne hmo (hr_12 hR) (by simp))).trans (fx452)
              refine hp_get (v := .ref (q + 13)) hx hb hts hown hZ fx469 fl_X13_38 rfl dX13_readLine_140 ?_
              refine lv_iload_n hx hb dX13_readLine_143 rfl (lv_at hl 0 rfl) ?_
              refine lv_iconst (v := -1) hx hb dX13_readLine_144 (by decide) ?_
              obtain ⟨rf470, hrf471⟩ : ∃ f : Nat → Int32, f = rh465 13 := ⟨_, rfl⟩
              have ea472 : V457 (q + 13) = some (.inl (cs 1, 120, .inl (rf470))) := by rw [hrf471]; exact pk467 13 (by decide)
              have hra473 := hq_rg hP.1 (hr_13 hR) ea472
              refine hp_iast hx hb hZ ea472 (hq_in (by omega) (by omega)) dX13_readLine_145 (fun V474 _ _ e475 o476 hZ => ?_)
              have e475 : V474 (q + 13) = some (.inl (cs 1, 120, .inl (upd (rf470) ((y411 : Int32).toNatClampNeg) (-1)))) := e475
              have hl477 : (-1 : Int32).toInt = -1 := by decide
              have hP := hP.put (hr_13 hR) e475 o476 (hq_c21 (by omega) (hq_upd hra473 (hq_rng _))) rfl
              obtain ⟨g478, ge479⟩ : ∃ g9 : Nat → Int32, g9 = upd (rf470) ((y411 : Int32).toNatClampNeg) (-1) := ⟨_, rfl⟩
              have fx480 : V474 (q + 13) = some (.inl (cs 1, 120, .inl (g478))) := by rw [ge479]; exact e475
              have hf481 := hq_rg hP.1 (hr_13 hR) fx480
              obtain ⟨rh482, hrh483⟩ : ∃ r9 : hm_Rh, r9 = hm_u2 rh465 13 (y411 : Int32).toNatClampNeg ((-1 : Int32)) := ⟨_, rfl⟩
              have pk484 : hm_AR cs V474 q rh482 := by rw [hrh483]; exact pk467.put (a := 13) (by decide) (by rw [ge479, hrf471]) fx480 o476
              have hH485 : hm_H rh rh482 := by rw [hrh483]; exact hH468.put (show 60 ≤ (y411 : Int32).toNatClampNeg by have h8 := (hq_nn (z := y411) (by omega)).1; omega)
              refine lv_aload_n hx hb dX13_readLine_146 rfl (lv_at hl 2 rfl) ?_
              have fx486 : V474 (mo) = some (.inr (13, hm_o q (m_tp) (m_sz) (m_fr) (m_bh) (m_hd) (m_ft) (m_fa) (m_le) (m_fo) (m_as) (m_fd) (m_bc) (m_bg) (m_bs) (m_be) (m_b0) (m_b1) (m_cm) (m_hc))) := (o476 (mo) (hq_tne hmo (hr_13 hR) (by simp))).trans (fx469)
              refine hp_get (v := .ref (q + 14)) hx hb hts hown hZ fx486 fl_X13_41 rfl dX13_readLine_147 ?_
              refine lv_iload_n hx hb dX13_readLine_150 rfl (lv_at hl 0 rfl) ?_
              refine lv_iconst (v := 0) hx hb dX13_readLine_151 (by decide) ?_
              obtain ⟨rf487, hrf488⟩ : ∃ f : Nat → Int32, f = rh482 14 := ⟨_, rfl⟩
              have ea489 : V474 (q + 14) = some (.inl (cs 1, 120, .inl (rf487))) := by rw [hrf488]; exact pk484 14 (by decide)
              have hra490 := hq_rg hP.1 (hr_14 hR) ea489
              refine hp_iast hx hb hZ ea489 (hq_in (by omega) (by omega)) dX13_readLine_152 (fun V491 _ _ e492 o493 hZ => ?_)
              have e492 : V491 (q + 14) = some (.inl (cs 1, 120, .inl (upd (rf487) ((y411 : Int32).toNatClampNeg) (0)))) := e492
              have hl494 : (0 : Int32).toInt = 0 := by decide
              have hP := hP.put (hr_14 hR) e492 o493 (hq_c21 (by omega) (hq_upd hra490 (show 0 ≤ _ ∧ _ ≤ 8 by constructor <;> omega))) rfl
              obtain ⟨g495, ge496⟩ : ∃ g9 : Nat → Int32, g9 = upd (rf487) ((y411 : Int32).toNatClampNeg) (0) := ⟨_, rfl⟩
              have fx497 : V491 (q + 14) = some (.inl (cs 1, 120, .inl (g495))) := by rw [ge496]; exact e492
              have hf498 := hq_rg hP.1 (hr_14 hR) fx497
              obtain ⟨rh499, hrh500⟩ : ∃ r9 : hm_Rh, r9 = hm_u2 rh482 14 (y411 : Int32).toNatClampNeg ((0 : Int32)) := ⟨_, rfl⟩
              have pk501 : hm_AR cs V491 q rh499 := by rw [hrh500]; exact pk484.put (a := 14) (by decide) (by rw [ge496, hrf488]) fx497 o493
              have hH502 : hm_H rh rh499 := by rw [hrh500]; exact hH485.put (show 60 ≤ (y411 : Int32).toNatClampNeg by have h8 := (hq_nn (z := y411) (by omega)).1; omega)
              refine lv_aload_n hx hb dX13_readLine_153 rfl (lv_at hl 2 rfl) ?_
              have fx503 : V491 (mo) = some (.inr (13, hm_o q (m_tp) (m_sz) (m_fr) (m_bh) (m_hd) (m_ft) (m_fa) (m_le) (m_fo) (m_as) (m_fd) (m_bc) (m_bg) (m_bs) (m_be) (m_b0) (m_b1) (m_cm) (m_hc))) := (o493 (mo) (hq_tne hmo (hr_14 hR) (by simp))).trans (fx486)
              refine hp_get (v := .ref (q + 15)) hx hb hts hown hZ fx503 fl_X13_44 rfl dX13_readLine_154 ?_
              refine lv_iload_n hx hb dX13_readLine_157 rfl (lv_at hl 0 rfl) ?_
              refine lv_iconst (v := 0) hx hb dX13_readLine_158 (by decide) ?_
              obtain ⟨rf504, hrf505⟩ : ∃ f : Nat → Int32, f = rh499 15 := ⟨_, rfl⟩
              have ea506 : V491 (q + 15) = some (.inl (cs 1, 120, .inl (rf504))) := by rw [hrf505]; exact pk501 15 (by decide)
              have hra507 := hq_rg hP.1 (hr_15 hR) ea506
              refine hp_iast hx hb hZ ea506 (hq_in (by omega) (by omega)) dX13_readLine_159 (fun V508 _ _ e509 o510 hZ => ?_)
              have e509 : V508 (q + 15) = some (.inl (cs 1, 120, .inl (upd (rf504) ((y411 : Int32).toNatClampNeg) (0)))) := e509
              have hl511 : (0 : Int32).toInt = 0 := by decide
              have hP := hP.put (hr_15 hR) e509 o510 (hq_c21 (by omega) (hq_upd hra507 (show 0 ≤ _ ∧ _ ≤ 8 by constructor <;> omega))) rfl
              obtain ⟨g512, ge513⟩ : ∃ g9 : Nat → Int32, g9 = upd (rf504) ((y411 : Int32).toNatClampNeg) (0) := ⟨_, rfl⟩
              have fx514 : V508 (q + 15) = some (.inl (cs 1, 120, .inl (g512))) := by rw [ge513]; exact e509
              have hf515 := hq_rg hP.1 (hr_15 hR) fx514
              obtain ⟨rh516, hrh517⟩ : ∃ r9 : hm_Rh, r9 = hm_u2 rh499 15 (y411 : Int32).toNatClampNeg ((0 : Int32)) := ⟨_, rfl⟩
              have pk518 : hm_AR cs V508 q rh516 := by rw [hrh517]; exact pk501.put (a := 15) (by decide) (by rw [ge513, hrf505]) fx514 o510
              have hH519 : hm_H rh rh516 := by rw [hrh517]; exact hH502.put (show 60 ≤ (y411 : Int32).toNatClampNeg by have h8 := (hq_nn (z := y411) (by omega)).1; omega)
              refine lv_aload_n hx hb dX13_readLine_160 rfl (lv_at hl 2 rfl) ?_
              have fx520 : V508 (mo) = some (.inr (13, hm_o q (m_tp) (m_sz) (m_fr) (m_bh) (m_hd) (m_ft) (m_fa) (m_le) (m_fo) (m_as) (m_fd) (m_bc) (m_bg) (m_bs) (m_be) (m_b0) (m_b1) (m_cm) (m_hc))) := (o510 (mo) (hq_tne hmo (hr_15 hR) (by simp))).trans (fx503)
              refine hp_get (v := .ref (q + 16)) hx hb hts hown hZ fx520 fl_X13_47 rfl dX13_readLine_161 ?_
              refine lv_iload_n hx hb dX13_readLine_164 rfl (lv_at hl 0 rfl) ?_
              refine lv_iconst (v := 0) hx hb dX13_readLine_165 (by decide) ?_
              obtain ⟨rf521, hrf522⟩ : ∃ f : Nat → Int32, f = rh516 16 := ⟨_, rfl⟩
              have ea523 : V508 (q + 16) = some (.inl (cs 1, 120, .inl (rf521))) := by rw [hrf522]; exact pk518 16 (by decide)
              have hra524 := hq_rg hP.1 (hr_16 hR) ea523
              refine hp_iast hx hb hZ ea523 (hq_in (by omega) (by omega)) dX13_readLine_166 (fun V525 _ _ e526 o527 hZ => ?_)
              have e526 : V525 (q + 16) = some (.inl (cs 1, 120, .inl (upd (rf521) ((y411 : Int32).toNatClampNeg) (0)))) := e526
              have hl528 : (0 : Int32).toInt = 0 := by decide
              have hP := hP.put (hr_16 hR) e526 o527 (hq_c21 (by omega) (hq_upd hra524 (show 0 ≤ _ ∧ _ ≤ 29 by constructor <;> omega))) rfl
              obtain ⟨g529, ge530⟩ : ∃ g9 : Nat → Int32, g9 = upd (rf521) ((y411 : Int32).toNatClampNeg) (0) := ⟨_, rfl⟩
              have fx531 : V525 (q + 16) = some (.inl (cs 1, 120, .inl (g529))) := by rw [ge530]; exact e526
              have hf532 := hq_rg hP.1 (hr_16 hR) fx531
              obtain ⟨rh533, hrh534⟩ : ∃ r9 : hm_Rh, r9 = hm_u2 rh516 16 (y411 : Int32).toNatClampNeg ((0 : Int32)) := ⟨_, rfl⟩
              have pk535 : hm_AR cs V525 q rh533 := by rw [hrh534]; exact pk518.put (a := 16) (by decide) (by rw [ge530, hrf522]) fx531 o527
              have hH536 : hm_H rh rh533 := by rw [hrh534]; exact hH519.put (show 60 ≤ (y411 : Int32).toNatClampNeg by have h8 := (hq_nn (z := y411) (by omega)).1; omega)
              refine lv_aload_n hx hb dX13_readLine_167 rfl (lv_at hl 2 rfl) ?_
              have fx537 : V525 (mo) = some (.inr (13, hm_o q (m_tp) (m_sz) (m_fr) (m_bh) (m_hd) (m_ft) (m_fa) (m_le) (m_fo) (m_as) (m_fd) (m_bc) (m_bg) (m_bs) (m_be) (m_b0) (m_b1) (m_cm) (m_hc))) := (o527 (mo) (hq_tne hmo (hr_16 hR) (by simp))).trans (fx520)
              have pk538 := hp0.keep ((o527 (q + 20) (hq_tne (hr_20 hR) (hr_16 hR) (by simp))).trans ((o510 (q + 20) (hq_tne (hr_20 hR) (hr_15 hR) (by simp))).trans ((o493 (q + 20) (hq_tne (hr_20 hR) (hr_14 hR) (by simp))).trans ((o476 (q + 20) (hq_tne (hr_20 hR) (hr_13 hR) (by simp))).trans ((o459 (q + 20) (hq_tne (hr_20 hR) (hr_12 hR) (by simp))).trans ((o442 (q + 20) (hq_tne (hr_20 hR) (hr_11 hR) (by simp))).trans (o425 (q + 20) (hq_tne (hr_20 hR) (hr_10 hR) (by simp)))))))))
              refine hp_callv (hp_runV (As := []) (rest := []) hx hb hml hown hts (y_next l D cs B G V525 n hP.1 (q) (mo) (w) (j) (m_tp) (m_sz) (m_fr) (m_bh) (m_hd) (m_ft) (m_fa) (m_le) (m_fo) (m_as) (m_fd) (m_bc) (m_bg) (m_bs) (m_be) (m_b0) (m_b1) (m_cm) (m_hc)  fx537 pk538 hR hmo hmq (by omega) hA (by omega)) hZ fx537 cv_X13_111 rfl rfl ⟨Nat.le_of_ble_eq_true rfl, Nat.le_of_ble_eq_true rfl⟩ rfl hl.1 rfl (Nat.le_of_ble_eq_true rfl) dX13_readLine_168 ⟨(Nat.le_of_ble_eq_true rfl), (Nat.le_of_ble_eq_true rfl)⟩) hZ (fun V539 n540 _ _ hw541 hZ => ?_)
              obtain ⟨rfl, hq543, fr544, z545, z546, z547, ho548, hp549, hp550⟩ := hw541
              have b551 := hq_rng z545
              have b552 := hq_rng z546
              have b553 := hq_rng z547
              have hP := hP.trans hq543 (fun _ h => Bool.noConfusion h)
              obtain ⟨b554, b555, b556, -⟩ := id hp549
              refine lv_iload_n hx hb dX13_readLine_171 rfl (lv_at hl 1 rfl) ?_
              refine lv_iconst (v := 4) hx hb dX13_readLine_172 (by decide) ?_
              refine lv_icmp_eq (tgt := 181) hx hb dX13_readLine_173 (by decide) (fun c557 => ?_) (fun c557 => absurd (by decide) c557)
              refine lv_aload_n hx hb dX13_readLine_181 rfl (lv_at hl 2 rfl) ?_
              refine hp_get (v := .ref (q + 11)) hx hb hts hown hZ ho548 fl_X13_32 rfl dX13_readLine_182 ?_
              refine lv_iload_n hx hb dX13_readLine_185 rfl (lv_at hl 0 rfl) ?_
              refine lv_aload_n hx hb dX13_readLine_186 rfl (lv_at hl 2 rfl) ?_
              have wl558 : hm_WL (y411).toNatClampNeg rh rh431 := by rw [hrh432]; exact wl0.put (Or.inl ⟨by decide, rfl⟩)
              have wl559 : hm_WL (y411).toNatClampNeg rh rh448 := by rw [hrh449]; exact wl558.put (Or.inl ⟨by decide, rfl⟩)
              have wl560 : hm_WL (y411).toNatClampNeg rh rh465 := by rw [hrh466]; exact wl559.put (Or.inl ⟨by decide, rfl⟩)
              have wl561 : hm_WL (y411).toNatClampNeg rh rh482 := by rw [hrh483]; exact wl560.put (Or.inl ⟨by decide, rfl⟩)
              have wl562 : hm_WL (y411).toNatClampNeg rh rh499 := by rw [hrh500]; exact wl561.put (Or.inl ⟨by decide, rfl⟩)
              have wl563 : hm_WL (y411).toNatClampNeg rh rh516 := by rw [hrh517]; exact wl562.put (Or.inl ⟨by decide, rfl⟩)
              have wl564 : hm_WL (y411).toNatClampNeg rh rh533 := by rw [hrh534]; exact wl563.put (Or.inl ⟨by decide, rfl⟩)
              have nl565 : hm_NL rh533 8 4 30 30 w vn := hVN.keep (fun i _ _ => wl564 8 i (fun g9 => by omega)) (fun i _ _ => wl564 4 i (fun g9 => by omega))
              have cn566 : (rh533 1 1).toInt = (vn.length : Int) := by rw [wl564 1 1 (fun g9 => by omega)]; exact hcv
              have pk567 := pk538.keep (fr544 (q + 20) (hq_tne (hr_20 hR) hmo (by simp)))
              have pk568 := pk535.keep (fun x7 (hx7 : q ≤ x7 ∧ x7 < q + 19) => fr544 x7 (by omega))
              refine hq_callx (hq_runV (As := []) (rest := [.int (y411), .ref (q + 11)]) hx hb hml hown hts (y_takeVerb l D cs B G V539 n hP.1 (q) (mo) (w) (rh533) (j + 1) (vn) (m_tp) (m_sz) (z545) (z546) (z547) (m_ft) (m_fa) (m_le) (m_fo) (m_as) (m_fd) (m_bc) (m_bg) (m_bs) (m_be) (m_b0) (m_b1) (m_cm) (m_hc)  ho548 pk567 pk568 hR hmo hmq (by omega) hp549 nl565 cn566) hZ ho548 cv_X13_182 rfl rfl ⟨Nat.le_of_ble_eq_true rfl, Nat.le_of_ble_eq_true rfl⟩ rfl hl.1 rfl (Nat.le_of_ble_eq_true rfl) dX13_readLine_187 ⟨(Nat.le_of_ble_eq_true rfl), (Nat.le_of_ble_eq_true rfl)⟩) hZ hnx hlocks (by rintro x9 V9x n9 ⟨rfl, rfl, hqx, frx, zx575, zx576, zx577, zx578, zx579, hox580, hpx581⟩; have b582 := hq_rng zx575; have b583 := hq_rng zx576; have b584 := hq_rng zx577; have b585 := hq_rng zx578; have b586 := hq_rng zx579; have pk587 := pk568.keep (fun x7 (hx7 : q ≤ x7 ∧ x7 < q + 19) => frx x7 (by omega)); exact ⟨rfl, rfl, hP.trans hqx (fun _ h => Bool.noConfusion h), (fun x8 hne0 hne1 => (frx x8 hne0).trans ((fr544 x8 hne0).trans ((o527 x8 (by omega)).trans ((o510 x8 (by omega)).trans ((o493 x8 (by omega)).trans ((o476 x8 (by omega)).trans ((o459 x8 (by omega)).trans ((o442 x8 (by omega)).trans (o425 x8 (by omega)))))))))), zx575, zx576, zx577, zx578, zx579, rh533, hox580, (by have hk9 := hpx581.1; unfold sp_tl sp_line; (try dsimp only); (repeat (first | (rw [if_pos]; rotate_left; omega) | (rw [if_neg]; rotate_left; omega))); (try dsimp only); exact hpx581), pk587, hH536⟩) (fun v9 V569 n570 _ _ hw571 hZ => ?_)
              obtain ⟨r572, rfl, rfl, hq573, fr574, z588, z589, z590, ho591, hp592, hp593⟩ := hw571
              refine W.eq (g2 := F0 m 190 ls [.int (r572), .int (y411), .ref (q + 11)]) rfl ?_
              have b594 := hq_rng z588
              have b595 := hq_rng z589
              have b596 := hq_rng z590
              have hP := hP.trans hq573 (fun _ h => Bool.noConfusion h)
              have b597 := hq_rng r572
              obtain ⟨b598, hA599, b600⟩ := hp592
              obtain ⟨b601, b602, b603, -⟩ := id hA599
              have pk608 := pk568.keep (fun x7 (hx7 : q ≤ x7 ∧ x7 < q + 19) => fr574 x7 (by omega))
              obtain ⟨rf604, hrf605⟩ : ∃ f : Nat → Int32, f = rh533 11 := ⟨_, rfl⟩
              have ea606 : V569 (q + 11) = some (.inl (cs 1, 120, .inl (rf604))) := by rw [hrf605]; exact pk608 11 (by decide)
              have hra607 := hq_rg hP.1 (hr_11 hR) ea606
              refine hp_iast hx hb hZ ea606 (hq_in (by omega) (by omega)) dX13_readLine_190 (fun V609 _ _ e610 o611 hZ => ?_)
              have e610 : V609 (q + 11) = some (.inl (cs 1, 120, .inl (upd (rf604) ((y411 : Int32).toNatClampNeg) (r572)))) := e610
              have hP := hP.put (hr_11 hR) e610 o611 (hq_c21 (by omega) (hq_upd hra607 (hq_rng _))) rfl
              obtain ⟨g612, ge613⟩ : ∃ g9 : Nat → Int32, g9 = upd (rf604) ((y411 : Int32).toNatClampNeg) (r572) := ⟨_, rfl⟩
              have fx614 : V609 (q + 11) = some (.inl (cs 1, 120, .inl (g612))) := by rw [ge613]; exact e610
              have hf615 := hq_rg hP.1 (hr_11 hR) fx614
              obtain ⟨rh616, hrh617⟩ : ∃ r9 : hm_Rh, r9 = hm_u2 rh533 11 (y411 : Int32).toNatClampNeg ((r572 : Int32)) := ⟨_, rfl⟩
              have pk618 : hm_AR cs V609 q rh616 := by rw [hrh617]; exact pk608.put (a := 11) (by decide) (by rw [ge613, hrf605]) fx614 o611
              have hH619 : hm_H rh rh616 := by rw [hrh617]; exact hH536.put (show 60 ≤ (y411 : Int32).toNatClampNeg by have h8 := (hq_nn (z := y411) (by omega)).1; omega)
              refine lv_goto (tgt := 204) hx hb dX13_readLine_191 (by decide) ?_
              refine lv_iload_n hx hb dX13_readLine_204 rfl (lv_at hl 1 rfl) ?_
              refine lv_iconst (v := 2) hx hb dX13_readLine_205 (by decide) ?_
              refine lv_icmp_eq (tgt := 219) hx hb dX13_readLine_206 (by decide) (fun c620 => absurd c620 (by decide)) (fun c620 => ?_)
              refine lv_iload_n hx hb dX13_readLine_209 rfl (lv_at hl 1 rfl) ?_
              refine lv_iconst (v := 3) hx hb dX13_readLine_210 (by decide) ?_
              refine lv_icmp_eq (tgt := 219) hx hb dX13_readLine_211 (by decide) (fun c621 => absurd c621 (by decide)) (fun c621 => ?_)
              refine lv_aload_n hx hb dX13_readLine_214 rfl (lv_at hl 2 rfl) ?_
              refine lv_iload_n hx hb dX13_readLine_215 rfl (lv_at hl 0 rfl) ?_
              have wl622 : hm_WL (y411).toNatClampNeg rh rh616 := by rw [hrh617]; exact wl564.put (Or.inl ⟨by decide, rfl⟩)
              have b623 : (rh616 13 (y411).toNatClampNeg).toInt = -1 := by rw [hrh617, hm_u2a (by decide), hrh534, hm_u2a (by decide), hrh517, hm_u2a (by decide), hrh500, hm_u2a (by decide), hrh483, hm_u2e]; decide
              have fx624 : V609 (mo) = some (.inr (13, hm_o q (m_tp) (m_sz) (z588) (z589) (z590) (m_ft) (m_fa) (m_le) (m_fo) (m_as) (m_fd) (m_bc) (m_bg) (m_bs) (m_be) (m_b0) (m_b1) (m_cm) (m_hc))) := (o611 (mo) (hq_tne hmo (hr_11 hR) (by simp))).trans (ho591)
              have pk625 := pk567.keep ((o611 (q + 20) (hq_tne (hr_20 hR) (hr_11 hR) (by simp))).trans (fr574 (q + 20) (hq_tne (hr_20 hR) hmo (by simp))))
              refine hq_callx (hq_runV (As := [.int (y411)]) (rest := []) hx hb hml hown hts (y_readSlot l D cs B G V609 n hP.1 (q) (mo) (w) (rh616) ((sp_old w vn (j + 1)).2.1) (m_tp) (m_sz) (z588) (z589) (z590) (m_ft) (m_fa) (m_le) (m_fo) (m_as) (m_fd) (m_bc) (m_bg) (m_bs) (m_be) (m_b0) (m_b1) (m_cm) (m_hc) (y411)  fx624 pk625 pk618 hR hmo hmq (by omega) hA599 (by omega) b623) hZ fx624 cv_X13_189 rfl rfl ⟨Nat.le_of_ble_eq_true rfl, Nat.le_of_ble_eq_true rfl⟩ rfl hl.1 rfl (Nat.le_of_ble_eq_true rfl) dX13_readLine_216 ⟨(Nat.le_of_ble_eq_true rfl), (Nat.le_of_ble_eq_true rfl)⟩) hZ hnx hlocks (by rintro x9 V9x n9 ⟨rfl, rfl, hqx, frx, zx632, zx633, zx634, zx635, zx636, zx637, hox638, hpx639, hpx640, hpx641⟩; have b642 := hq_rng zx632; have b643 := hq_rng zx633; have b644 := hq_rng zx634; have b645 := hq_rng zx635; have b646 := hq_rng zx636; exact ⟨rfl, rfl, hP.trans hqx (fun _ h => Bool.noConfusion h), (fun x8 hne0 hne1 => (frx x8 hne0 hne1).trans ((o611 x8 (by omega)).trans ((fr574 x8 hne0).trans ((fr544 x8 hne0).trans ((o527 x8 (by omega)).trans ((o510 x8 (by omega)).trans ((o493 x8 (by omega)).trans ((o476 x8 (by omega)).trans ((o459 x8 (by omega)).trans ((o442 x8 (by omega)).trans (o425 x8 (by omega)))))))))))), zx632, zx633, zx634, zx635, zx636, zx637, hox638, (by have hk9 := hpx639.1; unfold sp_tl sp_line; (try dsimp only); (repeat (first | (rw [if_pos]; rotate_left; omega) | (rw [if_neg]; rotate_left; omega))); (try dsimp only); exact hpx639), hpx640, (hH619.trans hpx641)⟩) (fun v9 V626 n627 _ _ hw628 hZ => ?_)
              obtain ⟨rfl, rfl, hq630, fr631, z647, z648, z649, u650, ho651, hp652, hp653, hp654⟩ := hw628
              refine W.eq (g2 := F0 m 219 ls []) rfl ?_
              have b655 := hq_rng z647
              have b656 := hq_rng z648
              have b657 := hq_rng z649
              have hP := hP.trans hq630 (fun _ h => Bool.noConfusion h)
              obtain ⟨b658, hA659, b660, b661⟩ := hp652
              obtain ⟨b662, b663, b664, -⟩ := id hA659
              have wl665 := wl622.w hp654 (by decide)
              have hH666 := hH619.trans (hp654.H (hm_h60 (by decide) (by omega)))
              refine lv_iload_n hx hb dX13_readLine_219 rfl (lv_at hl 1 rfl) ?_
              refine lv_iconst (v := 3) hx hb dX13_readLine_220 (by decide) ?_
              refine lv_icmp_ne (tgt := 229) hx hb dX13_readLine_221 (by decide) (fun c667 => ?_) (fun c667 => absurd c667 (by decide))
              refine lv_iload_n hx hb dX13_readLine_229 rfl (lv_at hl 1 rfl) ?_
              refine lv_if_eq (tgt := 248) hx hb dX13_readLine_230 (by decide) (fun c668 => absurd c668 (by decide)) (fun c668 => ?_)
              refine lv_iload_n hx hb dX13_readLine_233 rfl (lv_at hl 1 rfl) ?_
              refine lv_iconst (v := 1) hx hb dX13_readLine_234 (by decide) ?_
              refine lv_icmp_eq (tgt := 248) hx hb dX13_readLine_235 (by decide) (fun c669 => absurd c669 (by decide)) (fun c669 => ?_)
              refine lv_iload_n hx hb dX13_readLine_238 rfl (lv_at hl 1 rfl) ?_
              refine lv_iconst (v := 2) hx hb dX13_readLine_239 (by decide) ?_
              refine lv_icmp_eq (tgt := 248) hx hb dX13_readLine_240 (by decide) (fun c670 => absurd c670 (by decide)) (fun c670 => ?_)
              refine lv_iload_n hx hb dX13_readLine_243 rfl (lv_at hl 1 rfl) ?_
              refine lv_iconst (v := 4) hx hb dX13_readLine_244 (by decide) ?_
              refine lv_icmp_ne (tgt := 321) hx hb dX13_readLine_245 (by decide) (fun c671 => absurd (by decide) c671) (fun c671 => ?_)
              refine lv_aload_n hx hb dX13_readLine_248 rfl (lv_at hl 2 rfl) ?_
              refine hp_get (v := .int (z649)) hx hb hts hown hZ ho651 fl_X13_83 rfl dX13_readLine_249 ?_
              refine lv_iconst (v := 3) hx hb dX13_readLine_252 (by decide) ?_
              refine lv_icmp_eq (tgt := 262) hx hb dX13_readLine_253 (by decide) (fun c672 => ?_) (fun c672 => ?_)
              · have c672 : (z649).toInt = (3 : Int) := hq_eqi.mp c672
                have b673 := sp_h_3 (sp_k w ((sp_slot w ((sp_old w vn (j + 1)).2.1)).2.1))
                have hk19 : sp_k w ((sp_slot w ((sp_old w vn (j + 1)).2.1)).2.1) = 19 := by omega
                have hlt1 := sp_tok_let (w := w) (j := (sp_slot w ((sp_old w vn (j + 1)).2.1)).2.1) hk19
                have hsz1 : sp_sz w ((sp_slot w ((sp_old w vn (j + 1)).2.1)).2.1) = sp_e w ((sp_slot w ((sp_old w vn (j + 1)).2.1)).2.1) - sp_s w ((sp_slot w ((sp_old w vn (j + 1)).2.1)).2.1) - 2 := rfl
                have hbe1 := hA659.2.2.2 (by omega)
                refine lv_iload_n hx hb dX13_readLine_262 rfl (lv_at hl 1 rfl) ?_
                refine lv_iconst (v := 4) hx hb dX13_readLine_263 (by decide) ?_
                refine lv_icmp_ne (tgt := 282) hx hb dX13_readLine_264 (by decide) (fun c674 => absurd (by decide) c674) (fun c674 => ?_)
                refine lv_aload_n hx hb dX13_readLine_267 rfl (lv_at hl 2 rfl) ?_
                refine lv_iload_n hx hb dX13_readLine_268 rfl (lv_at hl 0 rfl) ?_
                have hll675 : hm_LL u650 60 w lz := hLL.keep (fun a i _ _ _ _ => wl665 a i (fun g9 => by omega)) (fun a i _ _ _ _ => wl665 a i (fun g9 => by omega))
                refine hp_calli (hp_runV (As := [.int (y411)]) (rest := []) hx hb hml hown hts (y_alike l D cs B G V626 n hP.1 (q) (mo) (w) (u650) (lz) (m_tp) (m_sz) (z647) (z648) (z649) (m_ft) (m_fa) (m_le) (m_fo) (m_as) (m_fd) (m_bc) (m_bg) (m_bs) (m_be) (m_b0) (m_b1) (m_cm) (m_hc) (y411)  ho651 hp653 hR hmo hmq (by omega) (by omega) hll675) hZ ho651 cv_X13_195 rfl rfl ⟨Nat.le_of_ble_eq_true rfl, Nat.le_of_ble_eq_true rfl⟩ rfl hl.1 rfl (Nat.le_of_ble_eq_true rfl) dX13_readLine_269 ⟨(Nat.le_of_ble_eq_true rfl), (Nat.le_of_ble_eq_true rfl)⟩) hZ (fun r679 V676 n677 _ _ hw678 hZ => ?_)
                obtain ⟨rfl, rfl, hp682⟩ := hw678
                have b683 := hq_rng r679
                have he684 : (u650 11 (y411).toNatClampNeg).toInt = (sp_old w vn (j + 1)).2.2 := by rw [hp654 11 _ (fun g9 => absurd g9.1 (by decide)), hrh617, hm_u2e]; omega
                have he685 : (u650 12 (y411).toNatClampNeg).toInt = (sp_slot w (sp_old w vn (j + 1)).2.1).2.2.1 := by omega
                have he686 : (u650 13 (y411).toNatClampNeg).toInt = (sp_slot w (sp_old w vn (j + 1)).2.1).2.2.2 := by omega
                rw [he684, he685, he686] at hp682
                refine lv_iconst (v := 2) hx hb dX13_readLine_272 (by decide) ?_
                refine lv_icmp_lt (tgt := 282) hx hb dX13_readLine_273 (by decide) (fun c687 => ?_) (fun c687 => ?_)
                · have c687 : (r679).toInt < (2 : Int) := hq_lti.mp c687
                  have hnl : ¬ 2 ≤ sp_like (sp_old w vn (j + 1)).2.2 (sp_slot w (sp_old w vn (j + 1)).2.1).2.2.1 (sp_slot w (sp_old w vn (j + 1)).2.1).2.2.2 lz 0 := by omega
                  refine lv_iload_n hx hb dX13_readLine_282 rfl (lv_at hl 1 rfl) ?_
                  refine lv_iconst (v := 1) hx hb dX13_readLine_283 (by decide) ?_
                  refine lv_icmp_eq (tgt := 306) hx hb dX13_readLine_284 (by decide) (fun c688 => absurd c688 (by decide)) (fun c688 => ?_)
                  refine lv_aload_n hx hb dX13_readLine_287 rfl (lv_at hl 2 rfl) ?_
                  refine hp_get (v := .int (z648)) hx hb hts hown hZ ho651 fl_X13_76 rfl dX13_readLine_288 ?_
                  refine lv_aload_n hx hb dX13_readLine_291 rfl (lv_at hl 2 rfl) ?_
                  refine hp_get (v := .int (z647)) hx hb hts hown hZ ho651 fl_X13_60 rfl dX13_readLine_292 ?_
                  refine lv_isub hx hb dX13_readLine_295 ?_
                  refine lv_topi (fun y689 ey690 => ?_)
                  obtain ⟨k691, hk692, b693, b694⟩ := hq_sub (z648) (z647)
                  rw [← ey690] at hk692 b693 b694
                  have hk692 : (y689).toInt = (z648).toInt - (z647).toInt + k691 * 4294967296 := hk692
                  obtain rfl : k691 = 0 := by omega
                  refine lv_iconst (v := 2) hx hb dX13_readLine_296 (by decide) ?_
                  refine lv_icmp_ne (tgt := 306) hx hb dX13_readLine_297 (by decide) (fun c695 => ?_) (fun c695 => ?_)
                  · have c695 : ¬ (y689).toInt = (2 : Int) := fun h9 => c695 (hq_eqi.mpr h9)
                    have hn2 : ¬ sp_e w ((sp_slot w ((sp_old w vn (j + 1)).2.1)).2.1) - sp_s w ((sp_slot w ((sp_old w vn (j + 1)).2.1)).2.1) = 2 := by omega
                    refine lv_aload_n hx hb dX13_readLine_306 rfl (lv_at hl 2 rfl) ?_
                    refine hp_get (v := .ref (q + 14)) hx hb hts hown hZ ho651 fl_X13_41 rfl dX13_readLine_307 ?_
                    refine lv_iload_n hx hb dX13_readLine_310 rfl (lv_at hl 0 rfl) ?_
                    refine lv_aload_n hx hb dX13_readLine_311 rfl (lv_at hl 2 rfl) ?_
                    refine lv_aload_n hx hb dX13_readLine_312 rfl (lv_at hl 2 rfl) ?_
                    refine hp_get (v := .ref (q + 5)) hx hb hts hown hZ ho651 fl_X13_23 rfl dX13_readLine_313 ?_
                    refine lv_iload_n hx hb dX13_readLine_316 rfl (lv_at hl 0 rfl) ?_
                    have pk696 := pk625.keep (fr631 (q + 20) (hq_tne (hr_20 hR) hmo (by simp)) (by omega))
                    refine hp_calli (hp_runV (As := [.ref (q + 5), .int (y411)]) (rest := [.int (y411), .ref (q + 14)]) hx hb hml hown hts (y_takeLetters5 l D cs B G V626 n hP.1 (q) (mo) (w) (u650) ((sp_slot w ((sp_old w vn (j + 1)).2.1)).2.1) (m_tp) (m_sz) (z647) (z648) (z649) (m_ft) (m_fa) (m_le) (m_fo) (m_as) (m_fd) (m_bc) (m_bg) (m_bs) (m_be) (m_b0) (m_b1) (m_cm) (m_hc) (y411)  ho651 pk696 hp653 hR hmo hmq (by omega) hA659 hk19 (by omega)) hZ ho651 cv_X13_198 rfl rfl ⟨Nat.le_of_ble_eq_true rfl, Nat.le_of_ble_eq_true rfl⟩ rfl hl.1 rfl (Nat.le_of_ble_eq_true rfl) dX13_readLine_317 ⟨(Nat.le_of_ble_eq_true rfl), (Nat.le_of_ble_eq_true rfl)⟩) hZ (fun r700 V697 n698 _ _ hw699 hZ => ?_)
                    obtain ⟨rfl, hq701, fr702, z703, z704, z705, u706, ho707, hp708, hp709, hp710, hp711, hp712, hp713⟩ := hw699
                    have b714 := hq_rng z703
                    have b715 := hq_rng z704
                    have b716 := hq_rng z705
                    have hP := hP.trans hq701 (fun _ h => Bool.noConfusion h)
                    have b717 := hq_rng r700
                    have wl718 := wl665.l hp711 (Or.inl rfl)
                    have hH719 := hH666.trans hp713
                    obtain ⟨b720, b721, b722, -⟩ := id hp709
                    obtain ⟨rf723, hrf724⟩ : ∃ f : Nat → Int32, f = u706 14 := ⟨_, rfl⟩
                    have ea725 : V697 (q + 14) = some (.inl (cs 1, 120, .inl (rf723))) := by rw [hrf724]; exact hp710 14 (by decide)
                    have hra726 := hq_rg hP.1 (hr_14 hR) ea725
                    refine hp_iast hx hb hZ ea725 (hq_in (by omega) (by omega)) dX13_readLine_320 (fun V727 _ _ e728 o729 hZ => ?_)
                    have e728 : V727 (q + 14) = some (.inl (cs 1, 120, .inl (upd (rf723) ((y411 : Int32).toNatClampNeg) (r700)))) := e728
                    have hP := hP.put (hr_14 hR) e728 o729 (hq_c21 (by omega) (hq_upd hra726 (show 0 ≤ _ ∧ _ ≤ 8 by constructor <;> omega))) rfl
                    obtain ⟨g730, ge731⟩ : ∃ g9 : Nat → Int32, g9 = upd (rf723) ((y411 : Int32).toNatClampNeg) (r700) := ⟨_, rfl⟩
                    have fx732 : V727 (q + 14) = some (.inl (cs 1, 120, .inl (g730))) := by rw [ge731]; exact e728
                    have hf733 := hq_rg hP.1 (hr_14 hR) fx732
                    obtain ⟨rh734, hrh735⟩ : ∃ r9 : hm_Rh, r9 = hm_u2 u706 14 (y411 : Int32).toNatClampNeg ((r700 : Int32)) := ⟨_, rfl⟩
                    have pk736 : hm_AR cs V727 q rh734 := by rw [hrh735]; exact hp710.put (a := 14) (by decide) (by rw [ge731, hrf724]) fx732 o729
                    have hH737 : hm_H rh rh734 := by rw [hrh735]; exact hH719.put (show 60 ≤ (y411 : Int32).toNatClampNeg by have h8 := (hq_nn (z := y411) (by omega)).1; omega)
                    refine lv_iload_n hx hb dX13_readLine_321 rfl (lv_at hl 1 rfl) ?_
                    refine lv_if_eq (tgt := 330) hx hb dX13_readLine_322 (by decide) (fun c738 => absurd c738 (by decide)) (fun c738 => ?_)
                    refine lv_iload_n hx hb dX13_readLine_325 rfl (lv_at hl 1 rfl) ?_
                    refine lv_iconst (v := 2) hx hb dX13_readLine_326 (by decide) ?_
                    refine lv_icmp_ne (tgt := 365) hx hb dX13_readLine_327 (by decide) (fun c739 => ?_) (fun c739 => absurd c739 (by decide))
                    refine lv_iload_n hx hb dX13_readLine_365 rfl (lv_at hl 1 rfl) ?_
                    refine lv_iconst (v := 2) hx hb dX13_readLine_366 (by decide) ?_
                    refine lv_icmp_ne (tgt := 390) hx hb dX13_readLine_367 (by decide) (fun c740 => ?_) (fun c740 => absurd c740 (by decide))
                    refine lv_aload_n hx hb dX13_readLine_390 rfl (lv_at hl 2 rfl) ?_
                    have fx741 : V727 (mo) = some (.inr (13, hm_o q (m_tp) (m_sz) (z703) (z704) (z705) (m_ft) (m_fa) (m_le) (m_fo) (m_as) (m_fd) (m_bc) (m_bg) (m_bs) (m_be) (m_b0) (m_b1) (m_cm) (m_hc))) := (o729 (mo) (hq_tne hmo (hr_14 hR) (by simp))).trans (ho707)
                    refine hp_get (v := .ref (q + 2)) hx hb hts hown hZ fx741 fl_X13_10 rfl dX13_readLine_391 ?_
                    refine lv_iconst (v := 1) hx hb dX13_readLine_394 (by decide) ?_
                    refine lv_dup2_11 hx hb dX13_readLine_395 rfl rfl ?_
                    obtain ⟨rf742, hrf743⟩ : ∃ f : Nat → Int32, f = rh734 2 := ⟨_, rfl⟩
                    have ea744 : V727 (q + 2) = some (.inl (cs 1, 2, .inl (rf742))) := by rw [hrf743]; exact pk736 2 (by decide)
                    have hra745 := hq_rg hP.1 (hr_2 hR) ea744
                    refine hp_iald hx hb hZ ea744 (by unfold vp_in; decide) dX13_readLine_396 ?_
                    refine lv_topi (fun y746 ey747 => ?_)
                    have b748 : hq_ir (hq_lo 8) (hq_hi 8) y746 := by rw [ey747]; exact hra745 _ (by decide)
                    have b748 : 0 ≤ (y746).toInt ∧ (y746).toInt ≤ 60 := b748
                    have b749 : (y746).toInt = (lz.length : Int) := by rw [ey747, hrf743, hrh735, hm_u2a (by decide), hp711 2 _ (fun g9 => absurd g9.1 (by decide)), hp654 2 _ (fun g9 => absurd g9.1 (by decide)), hrh617, hm_u2a (by decide), hrh534, hm_u2a (by decide), hrh517, hm_u2a (by decide), hrh500, hm_u2a (by decide), hrh483, hm_u2a (by decide), hrh466, hm_u2a (by decide), hrh449, hm_u2a (by decide), hrh432, hm_u2a (by decide)]; exact hcl
                    refine lv_iconst (v := 1) hx hb dX13_readLine_397 (by decide) ?_
                    refine lv_iadd hx hb dX13_readLine_398 ?_
                    refine lv_topi (fun y750 ey751 => ?_)
                    obtain ⟨k752, hk753, b754, b755⟩ := hq_add (y746) (1)
                    rw [← ey751] at hk753 b754 b755
                    have hk753 : (y750).toInt = (y746).toInt + (1 : Int) + k752 * 4294967296 := hk753
                    obtain rfl : k752 = 0 := by omega
                    refine hp_iast hx hb hZ ea744 (by unfold vp_in; decide) dX13_readLine_399 (fun V756 _ _ e757 o758 hZ => ?_)
                    have e757 : V756 (q + 2) = some (.inl (cs 1, 2, .inl (upd (rf742) ((1 : Int32).toNatClampNeg) (y750)))) := e757
                    have hP := hP.put (hr_2 hR) e757 o758 (hq_c21 (by omega) (hq_upd hra745 (show 0 ≤ _ ∧ _ ≤ 60 by constructor <;> omega))) rfl
                    obtain ⟨g759, ge760⟩ : ∃ g9 : Nat → Int32, g9 = upd (rf742) ((1 : Int32).toNatClampNeg) (y750) := ⟨_, rfl⟩
                    have fx761 : V756 (q + 2) = some (.inl (cs 1, 2, .inl (g759))) := by rw [ge760]; exact e757
                    have hf762 := hq_rg hP.1 (hr_2 hR) fx761
                    obtain ⟨rh763, hrh764⟩ : ∃ r9 : hm_Rh, r9 = hm_u2 rh734 2 (1 : Int32).toNatClampNeg ((y750 : Int32)) := ⟨_, rfl⟩
                    have pk765 : hm_AR cs V756 q rh763 := by rw [hrh764]; exact pk736.put (a := 2) (by decide) (by rw [ge760, hrf743]) fx761 o758
                    have hH766 : hm_H rh rh763 := by rw [hrh764]; exact hH737.put (show 1 ≤ (1 : Int32).toNatClampNeg by have h8 := (hq_nn (z := 1) (by omega)).1; omega)
                    have wl767 : hm_WL (y411).toNatClampNeg rh rh734 := by rw [hrh735]; exact wl718.put (Or.inl ⟨by decide, rfl⟩)
                    have wl768 : hm_WL (y411).toNatClampNeg rh rh763 := by rw [hrh764]; exact wl767.put (Or.inr ⟨rfl, rfl⟩)
                    have hl769 : (4 : Int32).toInt = 4 := by decide
                    have hl770 : (1 : Int32).toInt = 1 := by decide
                    obtain ⟨hc91, hc92⟩ := sp_exc_d (w := w) (j := (sp_slot w ((sp_old w vn (j + 1)).2.1)).2.1) (n := sp_like (sp_old w vn (j + 1)).2.2 (sp_slot w (sp_old w vn (j + 1)).2.1).2.2.1 (sp_slot w (sp_old w vn (j + 1)).2.1).2.2.2 lz 0) hk19 hnl hn2
                    have fx771 : V756 (mo) = some (.inr (13, hm_o q (m_tp) (m_sz) (z703) (z704) (z705) (m_ft) (m_fa) (m_le) (m_fo) (m_as) (m_fd) (m_bc) (m_bg) (m_bs) (m_be) (m_b0) (m_b1) (m_cm) (m_hc))) := (o758 (mo) (hq_tne hmo (hr_2 hR) (by simp))).trans (fx741)
                    exact hq_vret hx hb hr hlocks hZ ⟨rfl, rfl, hP, (fun x8 hne0 hne1 => (o758 x8 (by omega)).trans ((o729 x8 (by omega)).trans ((fr702 x8 hne0 hne1).trans ((fr631 x8 hne0 hne1).trans ((o611 x8 (by omega)).trans ((fr574 x8 hne0).trans ((fr544 x8 hne0).trans ((o527 x8 (by omega)).trans ((o510 x8 (by omega)).trans ((o493 x8 (by omega)).trans ((o476 x8 (by omega)).trans ((o459 x8 (by omega)).trans ((o442 x8 (by omega)).trans (o425 x8 (by omega))))))))))))))), z703, z704, z705, rh763, fx771, (by unfold sp_tl sp_line; (try dsimp only); (repeat (first | (rw [if_pos]; rotate_left; omega) | (rw [if_neg]; rotate_left; omega))); (try dsimp only); exact ⟨by first | rfl | omega, (by rw [hc92]; exact hp709), (by rw [← hL9]; exact ⟨by rw [hrh764, hm_u2a (by decide), hrh735, hm_u2a (by decide), hp711 10 _ (fun g9 => absurd g9.1 (by decide)), hp654 10 _ (fun g9 => absurd g9.1 (by decide)), hrh617, hm_u2a (by decide), hrh534, hm_u2a (by decide), hrh517, hm_u2a (by decide), hrh500, hm_u2a (by decide), hrh483, hm_u2a (by decide), hrh466, hm_u2a (by decide), hrh449, hm_u2a (by decide), hrh432, hm_u2e]; first | omega | (dsimp only; omega), by rw [hrh764, hm_u2a (by decide), hrh735, hm_u2a (by decide), hp711 11 _ (fun g9 => absurd g9.1 (by decide)), hp654 11 _ (fun g9 => absurd g9.1 (by decide)), hrh617, hm_u2e]; first | omega | (dsimp only; omega), by rw [hrh764, hm_u2a (by decide), hrh735, hm_u2a (by decide), hp711 12 _ (fun g9 => absurd g9.1 (by decide))]; first | omega | (dsimp only; omega), by rw [hrh764, hm_u2a (by decide), hrh735, hm_u2a (by decide), hp711 13 _ (fun g9 => absurd g9.1 (by decide))]; first | omega | (dsimp only; omega), by rw [hrh764, hm_u2a (by decide), hrh735, hm_u2a (by decide), hp711 16 _ (fun g9 => absurd g9.1 (by decide)), hp654 16 _ (fun g9 => absurd g9.1 (by decide)), hrh617, hm_u2a (by decide), hrh534, hm_u2e]; first | omega | (dsimp only; omega), ⟨by rw [hrh764, hm_u2a (by decide), hrh735, hm_u2e]; first | omega | (dsimp only; omega), by first | omega | (dsimp only; omega), fun k9 hk9 => by rw [hrh764, hm_u2a (by decide), hrh735, hm_u2a (by decide)]; exact hp712 k9 hk9⟩, ⟨by rw [hrh764, hm_u2a (by decide), hrh735, hm_u2a (by decide), hp711 15 _ (fun g9 => absurd g9.1 (by decide)), hp654 15 _ (fun g9 => absurd g9.1 (by decide)), hrh617, hm_u2a (by decide), hrh534, hm_u2a (by decide), hrh517, hm_u2e]; first | omega | (dsimp only; omega), by first | omega | (dsimp only; omega), fun k9 hk9 => by first | omega | (dsimp only at hk9; omega)⟩⟩), by omega, by show (rh763 2 (1 : Int32).toNatClampNeg).toInt = _; rw [hrh764, hm_u2e]; omega⟩), pk765, (by rw [← hL9]; exact wl768), hH766⟩ dX13_readLine_400
                  · have c695 : (y689).toInt = (2 : Int) := hq_eqi.mp c695
                    obtain ⟨b772, hj773⟩ := sp_exc_c (w := w) (j := (sp_slot w ((sp_old w vn (j + 1)).2.1)).2.1) hk19 hnl (by omega)
                    have b774 : sp_s w (sp_exc w (sp_like (sp_old w vn (j + 1)).2.2 (sp_slot w (sp_old w vn (j + 1)).2.1).2.2.1 (sp_slot w (sp_old w vn (j + 1)).2.1).2.2.2 lz 0) ((sp_slot w ((sp_old w vn (j + 1)).2.1)).2.1)).2 = sp_s w ((sp_slot w ((sp_old w vn (j + 1)).2.1)).2.1) := by rw [hj773]
                    refine lv_aload_n hx hb dX13_readLine_300 rfl (lv_at hl 2 rfl) ?_
                    refine lv_iconst (v := 5) hx hb dX13_readLine_301 (by decide) ?_
                    have hl775 : (5 : Int32).toInt = 5 := by decide
                    refine hp_callq (hp_runV (As := [.int (5)]) (rest := []) hx hb hml hown hts (y_wrong l D cs B G V626 n hP.1 (q) (mo) (m_tp) (m_sz) (z647) (z648) (z649) (m_ft) (m_fa) (m_le) (m_fo) (m_as) (m_fd) (m_bc) (m_bg) (m_bs) (m_be) (m_b0) (m_b1) (m_cm) (m_hc) (5)  ho651  hR hmo hmq) hZ ho651 cv_X13_107 rfl rfl ⟨Nat.le_of_ble_eq_true rfl, Nat.le_of_ble_eq_true rfl⟩ rfl hl.1 rfl (Nat.le_of_ble_eq_true rfl) dX13_readLine_302 ⟨(Nat.le_of_ble_eq_true rfl), (Nat.le_of_ble_eq_true rfl)⟩) hZ (fun r779 V776 n777 _ _ hw778 hZ => ?_)
                    obtain ⟨rfl, hq780, fr781, ho782, hp783⟩ := hw778
                    have hP := hP.trans hq780 (fun _ h => Bool.noConfusion h)
                    subst hp783
                    refine W.eq (g2 := F0 m 305 ls [.ref (q + 19)]) rfl ?_
                    have hl784 : (5 : Int32).toInt = 5 := by decide
                    have pk785 := hp653.keep (fun x7 (hx7 : q ≤ x7 ∧ x7 < q + 19) => fr781 x7 (by omega))
                    exact hq_athrow hx hb hnx hlocks hZ ⟨rfl, rfl, hP, (fun x8 hne0 hne1 => (fr781 x8 hne0).trans ((fr631 x8 hne0 hne1).trans ((o611 x8 (by omega)).trans ((fr574 x8 hne0).trans ((fr544 x8 hne0).trans ((o527 x8 (by omega)).trans ((o510 x8 (by omega)).trans ((o493 x8 (by omega)).trans ((o476 x8 (by omega)).trans ((o459 x8 (by omega)).trans ((o442 x8 (by omega)).trans (o425 x8 (by omega))))))))))))), z647, z648, z649, 5, z647, u650, ho782, (by unfold sp_tl sp_line; (try dsimp only); (repeat (first | (rw [if_pos]; rotate_left; omega) | (rw [if_neg]; rotate_left; omega))); (try dsimp only); exact ⟨by omega, by omega, by omega⟩), pk785, hH666⟩ dX13_readLine_305
                · have c687 : ¬ (r679).toInt < (2 : Int) := fun h9 => c687 (hq_lti.mpr h9)
                  obtain ⟨b786, hj787⟩ := sp_exc_b (w := w) (j := (sp_slot w ((sp_old w vn (j + 1)).2.1)).2.1) (n := sp_like (sp_old w vn (j + 1)).2.2 (sp_slot w (sp_old w vn (j + 1)).2.1).2.2.1 (sp_slot w (sp_old w vn (j + 1)).2.1).2.2.2 lz 0) hk19 (by omega)
                  have b788 : sp_s w (sp_exc w (sp_like (sp_old w vn (j + 1)).2.2 (sp_slot w (sp_old w vn (j + 1)).2.1).2.2.1 (sp_slot w (sp_old w vn (j + 1)).2.1).2.2.2 lz 0) ((sp_slot w ((sp_old w vn (j + 1)).2.1)).2.1)).2 = sp_s w ((sp_slot w ((sp_old w vn (j + 1)).2.1)).2.1) := by rw [hj787]
                  refine lv_aload_n hx hb dX13_readLine_276 rfl (lv_at hl 2 rfl) ?_
                  refine lv_iconst (v := 4) hx hb dX13_readLine_277 (by decide) ?_
                  have hl789 : (4 : Int32).toInt = 4 := by decide
                  refine hp_callq (hp_runV (As := [.int (4)]) (rest := []) hx hb hml hown hts (y_wrong l D cs B G V626 n hP.1 (q) (mo) (m_tp) (m_sz) (z647) (z648) (z649) (m_ft) (m_fa) (m_le) (m_fo) (m_as) (m_fd) (m_bc) (m_bg) (m_bs) (m_be) (m_b0) (m_b1) (m_cm) (m_hc) (4)  ho651  hR hmo hmq) hZ ho651 cv_X13_107 rfl rfl ⟨Nat.le_of_ble_eq_true rfl, Nat.le_of_ble_eq_true rfl⟩ rfl hl.1 rfl (Nat.le_of_ble_eq_true rfl) dX13_readLine_278 ⟨(Nat.le_of_ble_eq_true rfl), (Nat.le_of_ble_eq_true rfl)⟩) hZ (fun r793 V790 n791 _ _ hw792 hZ => ?_)
                  obtain ⟨rfl, hq794, fr795, ho796, hp797⟩ := hw792
                  have hP := hP.trans hq794 (fun _ h => Bool.noConfusion h)
                  subst hp797
                  refine W.eq (g2 := F0 m 281 ls [.ref (q + 19)]) rfl ?_
                  have hl798 : (4 : Int32).toInt = 4 := by decide
                  have pk799 := hp653.keep (fun x7 (hx7 : q ≤ x7 ∧ x7 < q + 19) => fr795 x7 (by omega))
                  exact hq_athrow hx hb hnx hlocks hZ ⟨rfl, rfl, hP, (fun x8 hne0 hne1 => (fr795 x8 hne0).trans ((fr631 x8 hne0 hne1).trans ((o611 x8 (by omega)).trans ((fr574 x8 hne0).trans ((fr544 x8 hne0).trans ((o527 x8 (by omega)).trans ((o510 x8 (by omega)).trans ((o493 x8 (by omega)).trans ((o476 x8 (by omega)).trans ((o459 x8 (by omega)).trans ((o442 x8 (by omega)).trans (o425 x8 (by omega))))))))))))), z647, z648, z649, 4, z647, u650, ho796, (by unfold sp_tl sp_line; (try dsimp only); (repeat (first | (rw [if_pos]; rotate_left; omega) | (rw [if_neg]; rotate_left; omega))); (try dsimp only); exact ⟨by omega, by omega, by omega⟩), pk799, hH666⟩ dX13_readLine_281
              · have c672 : ¬ (z649).toInt = (3 : Int) := fun h9 => c672 (hq_eqi.mpr h9)
                have b800 := sp_h_3 (sp_k w ((sp_slot w ((sp_old w vn (j + 1)).2.1)).2.1))
                obtain ⟨b801, hj802⟩ := sp_exc_a (n := sp_like (sp_old w vn (j + 1)).2.2 (sp_slot w (sp_old w vn (j + 1)).2.1).2.2.1 (sp_slot w (sp_old w vn (j + 1)).2.1).2.2.2 lz 0) (w := w) (j := (sp_slot w ((sp_old w vn (j + 1)).2.1)).2.1) (by omega)
                have b803 : sp_s w (sp_exc w (sp_like (sp_old w vn (j + 1)).2.2 (sp_slot w (sp_old w vn (j + 1)).2.1).2.2.1 (sp_slot w (sp_old w vn (j + 1)).2.1).2.2.2 lz 0) ((sp_slot w ((sp_old w vn (j + 1)).2.1)).2.1)).2 = sp_s w ((sp_slot w ((sp_old w vn (j + 1)).2.1)).2.1) := by rw [hj802]
                refine lv_aload_n hx hb dX13_readLine_256 rfl (lv_at hl 2 rfl) ?_
                refine lv_iconst (v := 1) hx hb dX13_readLine_257 (by decide) ?_
                have hl804 : (1 : Int32).toInt = 1 := by decide
                refine hp_callq (hp_runV (As := [.int (1)]) (rest := []) hx hb hml hown hts (y_wrong l D cs B G V626 n hP.1 (q) (mo) (m_tp) (m_sz) (z647) (z648) (z649) (m_ft) (m_fa) (m_le) (m_fo) (m_as) (m_fd) (m_bc) (m_bg) (m_bs) (m_be) (m_b0) (m_b1) (m_cm) (m_hc) (1)  ho651  hR hmo hmq) hZ ho651 cv_X13_107 rfl rfl ⟨Nat.le_of_ble_eq_true rfl, Nat.le_of_ble_eq_true rfl⟩ rfl hl.1 rfl (Nat.le_of_ble_eq_true rfl) dX13_readLine_258 ⟨(Nat.le_of_ble_eq_true rfl), (Nat.le_of_ble_eq_true rfl)⟩) hZ (fun r808 V805 n806 _ _ hw807 hZ => ?_)
                obtain ⟨rfl, hq809, fr810, ho811, hp812⟩ := hw807
                have hP := hP.trans hq809 (fun _ h => Bool.noConfusion h)
                subst hp812
                refine W.eq (g2 := F0 m 261 ls [.ref (q + 19)]) rfl ?_
                have hl813 : (1 : Int32).toInt = 1 := by decide
                have pk814 := hp653.keep (fun x7 (hx7 : q ≤ x7 ∧ x7 < q + 19) => fr810 x7 (by omega))
                exact hq_athrow hx hb hnx hlocks hZ ⟨rfl, rfl, hP, (fun x8 hne0 hne1 => (fr810 x8 hne0).trans ((fr631 x8 hne0 hne1).trans ((o611 x8 (by omega)).trans ((fr574 x8 hne0).trans ((fr544 x8 hne0).trans ((o527 x8 (by omega)).trans ((o510 x8 (by omega)).trans ((o493 x8 (by omega)).trans ((o476 x8 (by omega)).trans ((o459 x8 (by omega)).trans ((o442 x8 (by omega)).trans (o425 x8 (by omega))))))))))))), z647, z648, z649, 1, z647, u650, ho811, (by unfold sp_tl sp_line; (try dsimp only); (repeat (first | (rw [if_pos]; rotate_left; omega) | (rw [if_neg]; rotate_left; omega))); (try dsimp only); exact ⟨by omega, by omega, by omega⟩), pk814, hH666⟩ dX13_readLine_261
            · have c406 : (y402).toInt = (60 : Int) := hq_eqi.mp c406
              refine lv_aload_n hx hb dX13_readLine_102 rfl (lv_at hl 1 rfl) ?_
              refine lv_iconst (v := 4) hx hb dX13_readLine_103 (by decide) ?_
              have hl815 : (4 : Int32).toInt = 4 := by decide
              refine hp_callq (hp_runV (As := [.int (4)]) (rest := []) hx hb hml hown hts (y_wrong l D cs B G V n hP.1 (q) (mo) (m_tp) (m_sz) (m_fr) (m_bh) (m_hd) (m_ft) (m_fa) (m_le) (m_fo) (m_as) (m_fd) (m_bc) (m_bg) (m_bs) (m_be) (m_b0) (m_b1) (m_cm) (m_hc) (4)  hc0  hR hmo hmq) hZ hc0 cv_X13_107 rfl rfl ⟨Nat.le_of_ble_eq_true rfl, Nat.le_of_ble_eq_true rfl⟩ rfl hl.1 rfl (Nat.le_of_ble_eq_true rfl) dX13_readLine_104 ⟨(Nat.le_of_ble_eq_true rfl), (Nat.le_of_ble_eq_true rfl)⟩) hZ (fun r819 V816 n817 _ _ hw818 hZ => ?_)
              obtain ⟨rfl, hq820, fr821, ho822, hp823⟩ := hw818
              have hP := hP.trans hq820 (fun _ h => Bool.noConfusion h)
              subst hp823
              refine W.eq (g2 := F0 m 107 ls [.ref (q + 19)]) rfl ?_
              have hl824 : (4 : Int32).toInt = 4 := by decide
              have pk825 := hp1.keep (fun x7 (hx7 : q ≤ x7 ∧ x7 < q + 19) => fr821 x7 (by omega))
              exact hq_athrow hx hb hnx hlocks hZ ⟨rfl, rfl, hP, (fun x8 hne0 hne1 => fr821 x8 hne0), m_fr, m_bh, m_hd, 4, m_fr, rh, ho822, (by unfold sp_tl sp_line; (try dsimp only); (repeat (first | (rw [if_pos]; rotate_left; omega) | (rw [if_neg]; rotate_left; omega))); (try dsimp only); exact ⟨by omega, by omega, by omega⟩), pk825, hH0⟩ dX13_readLine_107
        · have c42 : ¬ (r37).toInt = (0 : Int) := fun h9 => c42 (hq_eqi.mpr h9)
          have b826 : sp_k w (j) = 3 := by have h9 := hp40; omega
          refine lv_iconst (v := 3) hx hb dX13_readLine_48 (by decide) ?_
          refine lv_goto (tgt := 79) hx hb dX13_readLine_49 (by decide) ?_
          refine lv_istore_n (lv' := [(1, .int (3)), (0, .ref (mo))]) hx hb dX13_readLine_79 rfl hl (by decide) rfl (fun ls hl => ?_)
          refine lv_iload_n hx hb dX13_readLine_80 rfl (lv_at hl 0 rfl) ?_
          refine lv_iconst (v := -1) hx hb dX13_readLine_81 (by decide) ?_
          refine lv_icmp_ne (tgt := 91) hx hb dX13_readLine_82 (by decide) (fun c827 => ?_) (fun c827 => absurd c827 (by decide))
          refine lv_aload_n hx hb dX13_readLine_91 rfl (lv_at hl 1 rfl) ?_
          refine hp_get (v := .ref (q + 2)) hx hb hts hown hZ hc0 fl_X13_10 rfl dX13_readLine_92 ?_
          refine lv_iconst (v := 1) hx hb dX13_readLine_95 (by decide) ?_
          obtain ⟨rf828, hrf829⟩ : ∃ f : Nat → Int32, f = rh 2 := ⟨_, rfl⟩
          have ea830 : V (q + 2) = some (.inl (cs 1, 2, .inl (rf828))) := by rw [hrf829]; exact hp1 2 (by decide)
          have hra831 := hq_rg hP.1 (hr_2 hR) ea830
          refine hp_iald hx hb hZ ea830 (by unfold vp_in; decide) dX13_readLine_96 ?_
          refine lv_topi (fun y832 ey833 => ?_)
          have b834 : hq_ir (hq_lo 8) (hq_hi 8) y832 := by rw [ey833]; exact hra831 _ (by decide)
          have b834 : 0 ≤ (y832).toInt ∧ (y832).toInt ≤ 60 := b834
          have b835 : (y832).toInt = (lz.length : Int) := by rw [ey833, hrf829]; exact hcl
          refine lv_bipush (v := 60) hx hb dX13_readLine_97 (by decide) ?_
          refine lv_icmp_ne (tgt := 108) hx hb dX13_readLine_99 (by decide) (fun c836 => ?_) (fun c836 => ?_)
          · have c836 : ¬ (y832).toInt = (60 : Int) := fun h9 => c836 (hq_eqi.mpr h9)
            refine lv_bipush (v := 60) hx hb dX13_readLine_108 (by decide) ?_
            refine lv_aload_n hx hb dX13_readLine_110 rfl (lv_at hl 1 rfl) ?_
            refine hp_get (v := .ref (q + 2)) hx hb hts hown hZ hc0 fl_X13_10 rfl dX13_readLine_111 ?_
            refine lv_iconst (v := 1) hx hb dX13_readLine_114 (by decide) ?_
            refine hp_iald hx hb hZ ea830 (by unfold vp_in; decide) dX13_readLine_115 ?_
            refine lv_topi (fun y837 ey838 => ?_)
            have b839 : hq_ir (hq_lo 8) (hq_hi 8) y837 := by rw [ey838]; exact hra831 _ (by decide)
            have b839 : 0 ≤ (y837).toInt ∧ (y837).toInt ≤ 60 := b839
            have b840 : (y837).toInt = (lz.length : Int) := by rw [ey838, hrf829]; exact hcl
            refine lv_iadd hx hb dX13_readLine_116 ?_
            refine lv_topi (fun y841 ey842 => ?_)
            obtain ⟨k843, hk844, b845, b846⟩ := hq_add (60) (y837)
            rw [← ey842] at hk844 b845 b846
            have hk844 : (y841).toInt = (60 : Int) + (y837).toInt + k843 * 4294967296 := hk844
            obtain rfl : k843 = 0 := by omega
            refine lv_istore_n (lv' := [(2, .int (y841)), (1, .int (3)), (0, .ref (mo))]) hx hb dX13_readLine_117 rfl hl (by decide) rfl (fun ls hl => ?_)
            have hL9 : (y841).toNatClampNeg = 60 + lz.length := by have h8 := (hq_nn (z := y841) (by omega)).1; omega
            have wl0 : hm_WL (y841).toNatClampNeg rh rh := hm_WL.rf
            have hl847 : (-1 : Int32).toInt = -1 := by decide
            have hl848 : (0 : Int32).toInt = 0 := by decide
            refine lv_aload_n hx hb dX13_readLine_118 rfl (lv_at hl 2 rfl) ?_
            refine hp_get (v := .ref (q + 10)) hx hb hts hown hZ hc0 fl_X13_29 rfl dX13_readLine_119 ?_
            refine lv_iload_n hx hb dX13_readLine_122 rfl (lv_at hl 0 rfl) ?_
            refine lv_iload_n hx hb dX13_readLine_123 rfl (lv_at hl 1 rfl) ?_
            obtain ⟨rf849, hrf850⟩ : ∃ f : Nat → Int32, f = rh 10 := ⟨_, rfl⟩
            have ea851 : V (q + 10) = some (.inl (cs 1, 120, .inl (rf849))) := by rw [hrf850]; exact hp1 10 (by decide)
            have hra852 := hq_rg hP.1 (hr_10 hR) ea851
            refine hp_iast hx hb hZ ea851 (hq_in (by omega) (by omega)) dX13_readLine_124 (fun V853 _ _ e854 o855 hZ => ?_)
            have e854 : V853 (q + 10) = some (.inl (cs 1, 120, .inl (upd (rf849) ((y841 : Int32).toNatClampNeg) (3)))) := e854
            have hl856 : (3 : Int32).toInt = 3 := by decide
            have hP := hP.put (hr_10 hR) e854 o855 (hq_c21 (by omega) (hq_upd hra852 (hq_rng _))) rfl
            obtain ⟨g857, ge858⟩ : ∃ g9 : Nat → Int32, g9 = upd (rf849) ((y841 : Int32).toNatClampNeg) (3) := ⟨_, rfl⟩
            have fx859 : V853 (q + 10) = some (.inl (cs 1, 120, .inl (g857))) := by rw [ge858]; exact e854
            have hf860 := hq_rg hP.1 (hr_10 hR) fx859
            obtain ⟨rh861, hrh862⟩ : ∃ r9 : hm_Rh, r9 = hm_u2 rh 10 (y841 : Int32).toNatClampNeg ((3 : Int32)) := ⟨_, rfl⟩
            have pk863 : hm_AR cs V853 q rh861 := by rw [hrh862]; exact hp1.put (a := 10) (by decide) (by rw [ge858, hrf850]) fx859 o855
            have hH864 : hm_H rh rh861 := by rw [hrh862]; exact hH0.put (show 60 ≤ (y841 : Int32).toNatClampNeg by have h8 := (hq_nn (z := y841) (by omega)).1; omega)
            refine lv_aload_n hx hb dX13_readLine_125 rfl (lv_at hl 2 rfl) ?_
            have fx865 : V853 (mo) = some (.inr (13, hm_o q (m_tp) (m_sz) (m_fr) (m_bh) (m_hd) (m_ft) (m_fa) (m_le) (m_fo) (m_as) (m_fd) (m_bc) (m_bg) (m_bs) (m_be) (m_b0) (m_b1) (m_cm) (m_hc))) := (o855 (mo) (hq_tne hmo (hr_10 hR) (by simp))).trans (hc0)
            refine hp_get (v := .ref (q + 11)) hx hb hts hown hZ fx865 fl_X13_32 rfl dX13_readLine_126 ?_
            refine lv_iload_n hx hb dX13_readLine_129 rfl (lv_at hl 0 rfl) ?_
            refine lv_iconst (v := -1) hx hb dX13_readLine_130 (by decide) ?_
            obtain ⟨rf866, hrf867⟩ : ∃ f : Nat → Int32, f = rh861 11 := ⟨_, rfl⟩
            have ea868 : V853 (q + 11) = some (.inl (cs 1, 120, .inl (rf866))) := by rw [hrf867]; exact pk863 11 (by decide)
            have hra869 := hq_rg hP.1 (hr_11 hR) ea868
            refine hp_iast hx hb hZ ea868 (hq_in (by omega) (by omega)) dX13_readLine_131 (fun V870 _ _ e871 o872 hZ => ?_)
            have e871 : V870 (q + 11) = some (.inl (cs 1, 120, .inl (upd (rf866) ((y841 : Int32).toNatClampNeg) (-1)))) := e871
            have hl873 : (-1 : Int32).toInt = -1 := by decide
            have hP := hP.put (hr_11 hR) e871 o872 (hq_c21 (by omega) (hq_upd hra869 (hq_rng _))) rfl
            obtain ⟨g874, ge875⟩ : ∃ g9 : Nat → Int32, g9 = upd (rf866) ((y841 : Int32).toNatClampNeg) (-1) := ⟨_, rfl⟩
            have fx876 : V870 (q + 11) = some (.inl (cs 1, 120, .inl (g874))) := by rw [ge875]; exact e871
            have hf877 := hq_rg hP.1 (hr_11 hR) fx876
            obtain ⟨rh878, hrh879⟩ : ∃ r9 : hm_Rh, r9 = hm_u2 rh861 11 (y841 : Int32).toNatClampNeg ((-1 : Int32)) := ⟨_, rfl⟩
            have pk880 : hm_AR cs V870 q rh878 := by rw [hrh879]; exact pk863.put (a := 11) (by decide) (by rw [ge875, hrf867]) fx876 o872
            have hH881 : hm_H rh rh878 := by rw [hrh879]; exact hH864.put (show 60 ≤ (y841 : Int32).toNatClampNeg by have h8 := (hq_nn (z := y841) (by omega)).1; omega)
            refine lv_aload_n hx hb dX13_readLine_132 rfl (lv_at hl 2 rfl) ?_
            have fx882 : V870 (mo) = some (.inr (13, hm_o q (m_tp) (m_sz) (m_fr) (m_bh) (m_hd) (m_ft) (m_fa) (m_le) (m_fo) (m_as) (m_fd) (m_bc) (m_bg) (m_bs) (m_be) (m_b0) (m_b1) (m_cm) (m_hc))) := (o872 (mo) (hq_tne hmo (hr_11 hR) (by simp))).trans (fx865)
            refine hp_get (v := .ref (q + 12)) hx hb hts hown hZ fx882 fl_X13_35 rfl dX13_readLine_133 ?_
            refine lv_iload_n hx hb dX13_readLine_136 rfl (lv_at hl 0 rfl) ?_
            refine lv_iconst (v := -1) hx hb dX13_readLine_137 (by decide) ?_
            obtain ⟨rf883, hrf884⟩ : ∃ f : Nat → Int32, f = rh878 12 := ⟨_, rfl⟩
            have ea885 : V870 (q + 12) = some (.inl (cs 1, 120, .inl (rf883))) := by rw [hrf884]; exact pk880 12 (by decide)
            have hra886 := hq_rg hP.1 (hr_12 hR) ea885
            refine hp_iast hx hb hZ ea885 (hq_in (by omega) (by omega)) dX13_readLine_138 (fun V887 _ _ e888 o889 hZ => ?_)
            have e888 : V887 (q + 12) = some (.inl (cs 1, 120, .inl (upd (rf883) ((y841 : Int32).toNatClampNeg) (-1)))) := e888
            have hl890 : (-1 : Int32).toInt = -1 := by decide
            have hP := hP.put (hr_12 hR) e888 o889 (hq_c21 (by omega) (hq_upd hra886 (hq_rng _))) rfl
            obtain ⟨g891, ge892⟩ : ∃ g9 : Nat → Int32, g9 = upd (rf883) ((y841 : Int32).toNatClampNeg) (-1) := ⟨_, rfl⟩
            have fx893 : V887 (q + 12) = some (.inl (cs 1, 120, .inl (g891))) := by rw [ge892]; exact e888
            have hf894 := hq_rg hP.1 (hr_12 hR) fx893
            obtain ⟨rh895, hrh896⟩ : ∃ r9 : hm_Rh, r9 = hm_u2 rh878 12 (y841 : Int32).toNatClampNeg ((-1 : Int32)) := ⟨_, rfl⟩
            have pk897 : hm_AR cs V887 q rh895 := by rw [hrh896]; exact pk880.put (a := 12) (by decide) (by rw [ge892, hrf884]) fx893 o889
            have hH898 : hm_H rh rh895 := by rw [hrh896]; exact hH881.put (show 60 ≤ (y841 : Int32).toNatClampNeg by have h8 := (hq_nn (z := y841) (by omega)).1; omega)
            refine lv_aload_n hx hb dX13_readLine_139 rfl (lv_at hl 2 rfl) ?_
            have fx899 : V887 (mo) = some (.inr (13, hm_o q (m_tp) (m_sz) (m_fr) (m_bh) (m_hd) (m_ft) (m_fa) (m_le) (m_fo) (m_as) (m_fd) (m_bc) (m_bg) (m_bs) (m_be) (m_b0) (m_b1) (m_cm) (m_hc))) := (o889 (mo) (hq_tne hmo (hr_12 hR) (by simp))).trans (fx882)
            refine hp_get (v := .ref (q + 13)) hx hb hts hown hZ fx899 fl_X13_38 rfl dX13_readLine_140 ?_
            refine lv_iload_n hx hb dX13_readLine_143 rfl (lv_at hl 0 rfl) ?_
            refine lv_iconst (v := -1) hx hb dX13_readLine_144 (by decide) ?_
            obtain ⟨rf900, hrf901⟩ : ∃ f : Nat → Int32, f = rh895 13 := ⟨_, rfl⟩
            have ea902 : V887 (q + 13) = some (.inl (cs 1, 120, .inl (rf900))) := by rw [hrf901]; exact pk897 13 (by decide)
            have hra903 := hq_rg hP.1 (hr_13 hR) ea902
            refine hp_iast hx hb hZ ea902 (hq_in (by omega) (by omega)) dX13_readLine_145 (fun V904 _ _ e905 o906 hZ => ?_)
            have e905 : V904 (q + 13) = some (.inl (cs 1, 120, .inl (upd (rf900) ((y841 : Int32).toNatClampNeg) (-1)))) := e905
            have hl907 : (-1 : Int32).toInt = -1 := by decide
            have hP := hP.put (hr_13 hR) e905 o906 (hq_c21 (by omega) (hq_upd hra903 (hq_rng _))) rfl
            obtain ⟨g908, ge909⟩ : ∃ g9 : Nat → Int32, g9 = upd (rf900) ((y841 : Int32).toNatClampNeg) (-1) := ⟨_, rfl⟩
            have fx910 : V904 (q + 13) = some (.inl (cs 1, 120, .inl (g908))) := by rw [ge909]; exact e905
            have hf911 := hq_rg hP.1 (hr_13 hR) fx910
            obtain ⟨rh912, hrh913⟩ : ∃ r9 : hm_Rh, r9 = hm_u2 rh895 13 (y841 : Int32).toNatClampNeg ((-1 : Int32)) := ⟨_, rfl⟩
            have pk914 : hm_AR cs V904 q rh912 := by rw [hrh913]; exact pk897.put (a := 13) (by decide) (by rw [ge909, hrf901]) fx910 o906
            have hH915 : hm_H rh rh912 := by rw [hrh913]; exact hH898.put (show 60 ≤ (y841 : Int32).toNatClampNeg by have h8 := (hq_nn (z := y841) (by omega)).1; omega)
            refine lv_aload_n hx hb dX13_readLine_146 rfl (lv_at hl 2 rfl) ?_
            have fx916 : V904 (mo) = some (.inr (13, hm_o q (m_tp) (m_sz) (m_fr) (m_bh) (m_hd) (m_ft) (m_fa) (m_le) (m_fo) (m_as) (m_fd) (m_bc) (m_bg) (m_bs) (m_be) (m_b0) (m_b1) (m_cm) (m_hc))) := (o906 (mo) (hq_tne hmo (hr_13 hR) (by simp))).trans (fx899)
            refine hp_get (v := .ref (q + 14)) hx hb hts hown hZ fx916 fl_X13_41 rfl dX13_readLine_147 ?_
            refine lv_iload_n hx hb dX13_readLine_150 rfl (lv_at hl 0 rfl) ?_
            refine lv_iconst (v := 0) hx hb dX13_readLine_151 (by decide) ?_
            obtain ⟨rf917, hrf918⟩ : ∃ f : Nat → Int32, f = rh912 14 := ⟨_, rfl⟩
            have ea919 : V904 (q + 14) = some (.inl (cs 1, 120, .inl (rf917))) := by rw [hrf918]; exact pk914 14 (by decide)
            have hra920 := hq_rg hP.1 (hr_14 hR) ea919
            refine hp_iast hx hb hZ ea919 (hq_in (by omega) (by omega)) dX13_readLine_152 (fun V921 _ _ e922 o923 hZ => ?_)
            have e922 : V921 (q + 14) = some (.inl (cs 1, 120, .inl (upd (rf917) ((y841 : Int32).toNatClampNeg) (0)))) := e922
            have hl924 : (0 : Int32).toInt = 0 := by decide
            have hP := hP.put (hr_14 hR) e922 o923 (hq_c21 (by omega) (hq_upd hra920 (show 0 ≤ _ ∧ _ ≤ 8 by constructor <;> omega))) rfl
            obtain ⟨g925, ge926⟩ : ∃ g9 : Nat → Int32, g9 = upd (rf917) ((y841 : Int32).toNatClampNeg) (0) := ⟨_, rfl⟩
            have fx927 : V921 (q + 14) = some (.inl (cs 1, 120, .inl (g925))) := by rw [ge926]; exact e922
            have hf928 := hq_rg hP.1 (hr_14 hR) fx927
            obtain ⟨rh929, hrh930⟩ : ∃ r9 : hm_Rh, r9 = hm_u2 rh912 14 (y841 : Int32).toNatClampNeg ((0 : Int32)) := ⟨_, rfl⟩
            have pk931 : hm_AR cs V921 q rh929 := by rw [hrh930]; exact pk914.put (a := 14) (by decide) (by rw [ge926, hrf918]) fx927 o923
            have hH932 : hm_H rh rh929 := by rw [hrh930]; exact hH915.put (show 60 ≤ (y841 : Int32).toNatClampNeg by have h8 := (hq_nn (z := y841) (by omega)).1; omega)
            refine lv_aload_n hx hb dX13_readLine_153 rfl (lv_at hl 2 rfl) ?_
            have fx933 : V921 (mo) = some (.inr (13, hm_o q (m_tp) (m_sz) (m_fr) (m_bh) (m_hd) (m_ft) (m_fa) (m_le) (m_fo) (m_as) (m_fd) (m_bc) (m_bg) (m_bs) (m_be) (m_b0) (m_b1) (m_cm) (m_hc))) := (o923 (mo) (hq_tne hmo (hr_14 hR) (by simp))).trans (fx916)
            refine hp_get (v := .ref (q + 15)) hx hb hts hown hZ fx933 fl_X13_44 rfl dX13_readLine_154 ?_
            refine lv_iload_n hx hb dX13_readLine_157 rfl (lv_at hl 0 rfl) ?_
            refine lv_iconst (v := 0) hx hb dX13_readLine_158 (by decide) ?_
            obtain ⟨rf934, hrf935⟩ : ∃ f : Nat → Int32, f = rh929 15 := ⟨_, rfl⟩
            have ea936 : V921 (q + 15) = some (.inl (cs 1, 120, .inl (rf934))) := by rw [hrf935]; exact pk931 15 (by decide)
            have hra937 := hq_rg hP.1 (hr_15 hR) ea936
            refine hp_iast hx hb hZ ea936 (hq_in (by omega) (by omega)) dX13_readLine_159 (fun V938 _ _ e939 o940 hZ => ?_)
            have e939 : V938 (q + 15) = some (.inl (cs 1, 120, .inl (upd (rf934) ((y841 : Int32).toNatClampNeg) (0)))) := e939
            have hl941 : (0 : Int32).toInt = 0 := by decide
            have hP := hP.put (hr_15 hR) e939 o940 (hq_c21 (by omega) (hq_upd hra937 (show 0 ≤ _ ∧ _ ≤ 8 by constructor <;> omega))) rfl
            obtain ⟨g942, ge943⟩ : ∃ g9 : Nat → Int32, g9 = upd (rf934) ((y841 : Int32).toNatClampNeg) (0) := ⟨_, rfl⟩
            have fx944 : V938 (q + 15) = some (.inl (cs 1, 120, .inl (g942))) := by rw [ge943]; exact e939
            have hf945 := hq_rg hP.1 (hr_15 hR) fx944
            obtain ⟨rh946, hrh947⟩ : ∃ r9 : hm_Rh, r9 = hm_u2 rh929 15 (y841 : Int32).toNatClampNeg ((0 : Int32)) := ⟨_, rfl⟩
            have pk948 : hm_AR cs V938 q rh946 := by rw [hrh947]; exact pk931.put (a := 15) (by decide) (by rw [ge943, hrf935]) fx944 o940
            have hH949 : hm_H rh rh946 := by rw [hrh947]; exact hH932.put (show 60 ≤ (y841 : Int32).toNatClampNeg by have h8 := (hq_nn (z := y841) (by omega)).1; omega)
            refine lv_aload_n hx hb dX13_readLine_160 rfl (lv_at hl 2 rfl) ?_
            have fx950 : V938 (mo) = some (.inr (13, hm_o q (m_tp) (m_sz) (m_fr) (m_bh) (m_hd) (m_ft) (m_fa) (m_le) (m_fo) (m_as) (m_fd) (m_bc) (m_bg) (m_bs) (m_be) (m_b0) (m_b1) (m_cm) (m_hc))) := (o940 (mo) (hq_tne hmo (hr_15 hR) (by simp))).trans (fx933)
            refine hp_get (v := .ref (q + 16)) hx hb hts hown hZ fx950 fl_X13_47 rfl dX13_readLine_161 ?_
            refine lv_iload_n hx hb dX13_readLine_164 rfl (lv_at hl 0 rfl) ?_
            refine lv_iconst (v := 0) hx hb dX13_readLine_165 (by decide) ?_
            obtain ⟨rf951, hrf952⟩ : ∃ f : Nat → Int32, f = rh946 16 := ⟨_, rfl⟩
            have ea953 : V938 (q + 16) = some (.inl (cs 1, 120, .inl (rf951))) := by rw [hrf952]; exact pk948 16 (by decide)
            have hra954 := hq_rg hP.1 (hr_16 hR) ea953
            refine hp_iast hx hb hZ ea953 (hq_in (by omega) (by omega)) dX13_readLine_166 (fun V955 _ _ e956 o957 hZ => ?_)
            have e956 : V955 (q + 16) = some (.inl (cs 1, 120, .inl (upd (rf951) ((y841 : Int32).toNatClampNeg) (0)))) := e956
            have hl958 : (0 : Int32).toInt = 0 := by decide
            have hP := hP.put (hr_16 hR) e956 o957 (hq_c21 (by omega) (hq_upd hra954 (show 0 ≤ _ ∧ _ ≤ 29 by constructor <;> omega))) rfl
            obtain ⟨g959, ge960⟩ : ∃ g9 : Nat → Int32, g9 = upd (rf951) ((y841 : Int32).toNatClampNeg) (0) := ⟨_, rfl⟩
            have fx961 : V955 (q + 16) = some (.inl (cs 1, 120, .inl (g959))) := by rw [ge960]; exact e956
            have hf962 := hq_rg hP.1 (hr_16 hR) fx961
            obtain ⟨rh963, hrh964⟩ : ∃ r9 : hm_Rh, r9 = hm_u2 rh946 16 (y841 : Int32).toNatClampNeg ((0 : Int32)) := ⟨_, rfl⟩
            have pk965 : hm_AR cs V955 q rh963 := by rw [hrh964]; exact pk948.put (a := 16) (by decide) (by rw [ge960, hrf952]) fx961 o957
            have hH966 : hm_H rh rh963 := by rw [hrh964]; exact hH949.put (show 60 ≤ (y841 : Int32).toNatClampNeg by have h8 := (hq_nn (z := y841) (by omega)).1; omega)
            refine lv_aload_n hx hb dX13_readLine_167 rfl (lv_at hl 2 rfl) ?_
            have fx967 : V955 (mo) = some (.inr (13, hm_o q (m_tp) (m_sz) (m_fr) (m_bh) (m_hd) (m_ft) (m_fa) (m_le) (m_fo) (m_as) (m_fd) (m_bc) (m_bg) (m_bs) (m_be) (m_b0) (m_b1) (m_cm) (m_hc))) := (o957 (mo) (hq_tne hmo (hr_16 hR) (by simp))).trans (fx950)
            have pk968 := hp0.keep ((o957 (q + 20) (hq_tne (hr_20 hR) (hr_16 hR) (by simp))).trans ((o940 (q + 20) (hq_tne (hr_20 hR) (hr_15 hR) (by simp))).trans ((o923 (q + 20) (hq_tne (hr_20 hR) (hr_14 hR) (by simp))).trans ((o906 (q + 20) (hq_tne (hr_20 hR) (hr_13 hR) (by simp))).trans ((o889 (q + 20) (hq_tne (hr_20 hR) (hr_12 hR) (by simp))).trans ((o872 (q + 20) (hq_tne (hr_20 hR) (hr_11 hR) (by simp))).trans (o855 (q + 20) (hq_tne (hr_20 hR) (hr_10 hR) (by simp)))))))))
            refine hp_callv (hp_runV (As := []) (rest := []) hx hb hml hown hts (y_next l D cs B G V955 n hP.1 (q) (mo) (w) (j) (m_tp) (m_sz) (m_fr) (m_bh) (m_hd) (m_ft) (m_fa) (m_le) (m_fo) (m_as) (m_fd) (m_bc) (m_bg) (m_bs) (m_be) (m_b0) (m_b1) (m_cm) (m_hc)  fx967 pk968 hR hmo hmq (by omega) hA (by omega)) hZ fx967 cv_X13_111 rfl rfl ⟨Nat.le_of_ble_eq_true rfl, Nat.le_of_ble_eq_true rfl⟩ rfl hl.1 rfl (Nat.le_of_ble_eq_true rfl) dX13_readLine_168 ⟨(Nat.le_of_ble_eq_true rfl), (Nat.le_of_ble_eq_true rfl)⟩) hZ (fun V969 n970 _ _ hw971 hZ => ?_)
            obtain ⟨rfl, hq973, fr974, z975, z976, z977, ho978, hp979, hp980⟩ := hw971
            have b981 := hq_rng z975
            have b982 := hq_rng z976
            have b983 := hq_rng z977
            have hP := hP.trans hq973 (fun _ h => Bool.noConfusion h)
            obtain ⟨b984, b985, b986, -⟩ := id hp979
            refine lv_iload_n hx hb dX13_readLine_171 rfl (lv_at hl 1 rfl) ?_
            refine lv_iconst (v := 4) hx hb dX13_readLine_172 (by decide) ?_
            refine lv_icmp_eq (tgt := 181) hx hb dX13_readLine_173 (by decide) (fun c987 => absurd c987 (by decide)) (fun c987 => ?_)
            refine lv_iload_n hx hb dX13_readLine_176 rfl (lv_at hl 1 rfl) ?_
            refine lv_iconst (v := 5) hx hb dX13_readLine_177 (by decide) ?_
            refine lv_icmp_ne (tgt := 194) hx hb dX13_readLine_178 (by decide) (fun c988 => ?_) (fun c988 => absurd c988 (by decide))
            refine lv_iload_n hx hb dX13_readLine_194 rfl (lv_at hl 1 rfl) ?_
            refine lv_iconst (v := 2) hx hb dX13_readLine_195 (by decide) ?_
            refine lv_icmp_eq (tgt := 204) hx hb dX13_readLine_196 (by decide) (fun c989 => absurd c989 (by decide)) (fun c989 => ?_)
            refine lv_aload_n hx hb dX13_readLine_199 rfl (lv_at hl 2 rfl) ?_
            refine lv_iload_n hx hb dX13_readLine_200 rfl (lv_at hl 0 rfl) ?_
            have wl990 : hm_WL (y841).toNatClampNeg rh rh861 := by rw [hrh862]; exact wl0.put (Or.inl ⟨by decide, rfl⟩)
            have wl991 : hm_WL (y841).toNatClampNeg rh rh878 := by rw [hrh879]; exact wl990.put (Or.inl ⟨by decide, rfl⟩)
            have wl992 : hm_WL (y841).toNatClampNeg rh rh895 := by rw [hrh896]; exact wl991.put (Or.inl ⟨by decide, rfl⟩)
            have wl993 : hm_WL (y841).toNatClampNeg rh rh912 := by rw [hrh913]; exact wl992.put (Or.inl ⟨by decide, rfl⟩)
            have wl994 : hm_WL (y841).toNatClampNeg rh rh929 := by rw [hrh930]; exact wl993.put (Or.inl ⟨by decide, rfl⟩)
            have wl995 : hm_WL (y841).toNatClampNeg rh rh946 := by rw [hrh947]; exact wl994.put (Or.inl ⟨by decide, rfl⟩)
            have wl996 : hm_WL (y841).toNatClampNeg rh rh963 := by rw [hrh964]; exact wl995.put (Or.inl ⟨by decide, rfl⟩)
            have nl997 : hm_NL rh963 7 3 6 6 w cl := hCN.keep (fun i _ _ => wl996 7 i (fun g9 => by omega)) (fun i _ _ => wl996 3 i (fun g9 => by omega))
            have cn998 : (rh963 0 1).toInt = (cl.length : Int) := by rw [wl996 0 1 (fun g9 => by omega)]; exact hcc
            have b999 : (rh963 11 (y841).toNatClampNeg).toInt = -1 := by rw [hrh964, hm_u2a (by decide), hrh947, hm_u2a (by decide), hrh930, hm_u2a (by decide), hrh913, hm_u2a (by decide), hrh896, hm_u2a (by decide), hrh879, hm_u2e]; decide
            have pk1000 := pk968.keep (fr974 (q + 20) (hq_tne (hr_20 hR) hmo (by simp)))
            have pk1001 := pk965.keep (fun x7 (hx7 : q ≤ x7 ∧ x7 < q + 19) => fr974 x7 (by omega))
            refine hq_callx (hq_runV (As := [.int (y841)]) (rest := []) hx hb hml hown hts (y_readWhere l D cs B G V969 n hP.1 (q) (mo) (w) (rh963) (j + 1) (cl) (m_tp) (m_sz) (z975) (z976) (z977) (m_ft) (m_fa) (m_le) (m_fo) (m_as) (m_fd) (m_bc) (m_bg) (m_bs) (m_be) (m_b0) (m_b1) (m_cm) (m_hc) (y841)  ho978 pk1000 pk1001 hR hmo hmq (by omega) hp979 nl997 cn998 (by omega) b999) hZ ho978 cv_X13_185 rfl rfl ⟨Nat.le_of_ble_eq_true rfl, Nat.le_of_ble_eq_true rfl⟩ rfl hl.1 rfl (Nat.le_of_ble_eq_true rfl) dX13_readLine_201 ⟨(Nat.le_of_ble_eq_true rfl), (Nat.le_of_ble_eq_true rfl)⟩) hZ hnx hlocks (by rintro x9 V9x n9 ⟨rfl, rfl, hqx, frx, zx1008, zx1009, zx1010, zx1011, zx1012, zx1013, hox1014, hpx1015, hpx1016, hpx1017⟩; have b1018 := hq_rng zx1008; have b1019 := hq_rng zx1009; have b1020 := hq_rng zx1010; have b1021 := hq_rng zx1011; have b1022 := hq_rng zx1012; exact ⟨rfl, rfl, hP.trans hqx (fun _ h => Bool.noConfusion h), (fun x8 hne0 hne1 => (frx x8 hne0 hne1).trans ((fr974 x8 hne0).trans ((o957 x8 (by omega)).trans ((o940 x8 (by omega)).trans ((o923 x8 (by omega)).trans ((o906 x8 (by omega)).trans ((o889 x8 (by omega)).trans ((o872 x8 (by omega)).trans (o855 x8 (by omega)))))))))), zx1008, zx1009, zx1010, zx1011, zx1012, zx1013, hox1014, (by have hk9 := hpx1015.1; unfold sp_tl sp_line; (try dsimp only); (repeat (first | (rw [if_pos]; rotate_left; omega) | (rw [if_neg]; rotate_left; omega))); (try dsimp only); exact hpx1015), hpx1016, (hH966.trans hpx1017)⟩) (fun v9 V1002 n1003 _ _ hw1004 hZ => ?_)
            obtain ⟨rfl, rfl, hq1006, fr1007, z1023, z1024, z1025, u1026, ho1027, hp1028, hp1029, hp1030⟩ := hw1004
            refine W.eq (g2 := F0 m 204 ls []) rfl ?_
            have b1031 := hq_rng z1023
            have b1032 := hq_rng z1024
            have b1033 := hq_rng z1025
            have hP := hP.trans hq1006 (fun _ h => Bool.noConfusion h)
            obtain ⟨b1034, hA1035, b1036⟩ := hp1028
            obtain ⟨b1037, b1038, b1039, -⟩ := id hA1035
            have wl1040 := wl996.w hp1030 (by decide)
            have hH1041 := hH966.trans (hp1030.H (hm_h60 (by decide) (by omega)))
            refine lv_iload_n hx hb dX13_readLine_204 rfl (lv_at hl 1 rfl) ?_
            refine lv_iconst (v := 2) hx hb dX13_readLine_205 (by decide) ?_
            refine lv_icmp_eq (tgt := 219) hx hb dX13_readLine_206 (by decide) (fun c1042 => absurd c1042 (by decide)) (fun c1042 => ?_)
            refine lv_iload_n hx hb dX13_readLine_209 rfl (lv_at hl 1 rfl) ?_
            refine lv_iconst (v := 3) hx hb dX13_readLine_210 (by decide) ?_
            refine lv_icmp_eq (tgt := 219) hx hb dX13_readLine_211 (by decide) (fun c1043 => ?_) (fun c1043 => absurd (by decide) c1043)
            refine lv_iload_n hx hb dX13_readLine_219 rfl (lv_at hl 1 rfl) ?_
            refine lv_iconst (v := 3) hx hb dX13_readLine_220 (by decide) ?_
            refine lv_icmp_ne (tgt := 229) hx hb dX13_readLine_221 (by decide) (fun c1044 => absurd (by decide) c1044) (fun c1044 => ?_)
            refine lv_aload_n hx hb dX13_readLine_224 rfl (lv_at hl 2 rfl) ?_
            refine lv_iload_n hx hb dX13_readLine_225 rfl (lv_at hl 0 rfl) ?_
            have nl1045 : hm_NL u1026 8 4 30 30 w vn := hVN.keep (fun i _ _ => wl1040 8 i (fun g9 => by omega)) (fun i _ _ => wl1040 4 i (fun g9 => by omega))
            have cn1046 : (u1026 1 1).toInt = (vn.length : Int) := by rw [wl1040 1 1 (fun g9 => by omega)]; exact hcv
            have pk1047 := pk1000.keep (fr1007 (q + 20) (hq_tne (hr_20 hR) hmo (by simp)) (by omega))
            refine hq_callx (hq_runV (As := [.int (y841)]) (rest := []) hx hb hml hown hts (y_readCompound l D cs B G V1002 n hP.1 (q) (mo) (w) (u1026) ((sp_where w cl (j + 1)).2.1) (vn) (m_tp) (m_sz) (z1023) (z1024) (z1025) (m_ft) (m_fa) (m_le) (m_fo) (m_as) (m_fd) (m_bc) (m_bg) (m_bs) (m_be) (m_b0) (m_b1) (m_cm) (m_hc) (y841)  ho1027 pk1047 hp1029 hR hmo hmq (by omega) hA1035 nl1045 cn1046 (by omega)) hZ ho1027 cv_X13_192 rfl rfl ⟨Nat.le_of_ble_eq_true rfl, Nat.le_of_ble_eq_true rfl⟩ rfl hl.1 rfl (Nat.le_of_ble_eq_true rfl) dX13_readLine_226 ⟨(Nat.le_of_ble_eq_true rfl), (Nat.le_of_ble_eq_true rfl)⟩) hZ hnx hlocks (by rintro x9 V9x n9 ⟨rfl, rfl, hqx, frx, zx1054, zx1055, zx1056, zx1057, zx1058, zx1059, hox1060, hpx1061, hpx1062, hpx1063⟩; have b1064 := hq_rng zx1054; have b1065 := hq_rng zx1055; have b1066 := hq_rng zx1056; have b1067 := hq_rng zx1057; have b1068 := hq_rng zx1058; exact ⟨rfl, rfl, hP.trans hqx (fun _ h => Bool.noConfusion h), (fun x8 hne0 hne1 => (frx x8 hne0 hne1).trans ((fr1007 x8 hne0 hne1).trans ((fr974 x8 hne0).trans ((o957 x8 (by omega)).trans ((o940 x8 (by omega)).trans ((o923 x8 (by omega)).trans ((o906 x8 (by omega)).trans ((o889 x8 (by omega)).trans ((o872 x8 (by omega)).trans (o855 x8 (by omega))))))))))), zx1054, zx1055, zx1056, zx1057, zx1058, zx1059, hox1060, (by have hk9 := hpx1061.1; unfold sp_tl sp_line; (try dsimp only); (repeat (first | (rw [if_pos]; rotate_left; omega) | (rw [if_neg]; rotate_left; omega))); (try dsimp only); exact hpx1061), hpx1062, (hH1041.trans hpx1063)⟩) (fun v9 V1048 n1049 _ _ hw1050 hZ => ?_)
            obtain ⟨rfl, rfl, hq1052, fr1053, z1069, z1070, z1071, u1072, ho1073, hp1074, hp1075, hp1076⟩ := hw1050
            refine W.eq (g2 := F0 m 229 ls []) rfl ?_
            have b1077 := hq_rng z1069
            have b1078 := hq_rng z1070
            have b1079 := hq_rng z1071
            have hP := hP.trans hq1052 (fun _ h => Bool.noConfusion h)
            obtain ⟨b1080, hA1081, b1082, b1083⟩ := hp1074
            obtain ⟨b1084, b1085, b1086, -⟩ := id hA1081
            have wl1087 := wl1040.w hp1076 (by decide)
            have hH1088 := hH1041.trans (hp1076.H (hm_h60 (by decide) (by omega)))
            refine lv_iload_n hx hb dX13_readLine_229 rfl (lv_at hl 1 rfl) ?_
            refine lv_if_eq (tgt := 248) hx hb dX13_readLine_230 (by decide) (fun c1089 => absurd c1089 (by decide)) (fun c1089 => ?_)
            refine lv_iload_n hx hb dX13_readLine_233 rfl (lv_at hl 1 rfl) ?_
            refine lv_iconst (v := 1) hx hb dX13_readLine_234 (by decide) ?_
            refine lv_icmp_eq (tgt := 248) hx hb dX13_readLine_235 (by decide) (fun c1090 => absurd c1090 (by decide)) (fun c1090 => ?_)
            refine lv_iload_n hx hb dX13_readLine_238 rfl (lv_at hl 1 rfl) ?_
            refine lv_iconst (v := 2) hx hb dX13_readLine_239 (by decide) ?_
            refine lv_icmp_eq (tgt := 248) hx hb dX13_readLine_240 (by decide) (fun c1091 => absurd c1091 (by decide)) (fun c1091 => ?_)
            refine lv_iload_n hx hb dX13_readLine_243 rfl (lv_at hl 1 rfl) ?_
            refine lv_iconst (v := 4) hx hb dX13_readLine_244 (by decide) ?_
            refine lv_icmp_ne (tgt := 321) hx hb dX13_readLine_245 (by decide) (fun c1092 => ?_) (fun c1092 => absurd c1092 (by decide))
            refine lv_iload_n hx hb dX13_readLine_321 rfl (lv_at hl 1 rfl) ?_
            refine lv_if_eq (tgt := 330) hx hb dX13_readLine_322 (by decide) (fun c1093 => absurd c1093 (by decide)) (fun c1093 => ?_)
            refine lv_iload_n hx hb dX13_readLine_325 rfl (lv_at hl 1 rfl) ?_
            refine lv_iconst (v := 2) hx hb dX13_readLine_326 (by decide) ?_
            refine lv_icmp_ne (tgt := 365) hx hb dX13_readLine_327 (by decide) (fun c1094 => ?_) (fun c1094 => absurd c1094 (by decide))
            refine lv_iload_n hx hb dX13_readLine_365 rfl (lv_at hl 1 rfl) ?_
            refine lv_iconst (v := 2) hx hb dX13_readLine_366 (by decide) ?_
            refine lv_icmp_ne (tgt := 390) hx hb dX13_readLine_367 (by decide) (fun c1095 => ?_) (fun c1095 => absurd c1095 (by decide))
            refine lv_aload_n hx hb dX13_readLine_390 rfl (lv_at hl 2 rfl) ?_
            refine hp_get (v := .ref (q + 2)) hx hb hts hown hZ ho1073 fl_X13_10 rfl dX13_readLine_391 ?_
            refine lv_iconst (v := 1) hx hb dX13_readLine_394 (by decide) ?_
            refine lv_dup2_11 hx hb dX13_readLine_395 rfl rfl ?_
            obtain ⟨rf1096, hrf1097⟩ : ∃ f : Nat → Int32, f = u1072 2 := ⟨_, rfl⟩
            have ea1098 : V1048 (q + 2) = some (.inl (cs 1, 2, .inl (rf1096))) := by rw [hrf1097]; exact hp1075 2 (by decide)
            have hra1099 := hq_rg hP.1 (hr_2 hR) ea1098
            refine hp_iald hx hb hZ ea1098 (by unfold vp_in; decide) dX13_readLine_396 ?_
            refine lv_topi (fun y1100 ey1101 => ?_)
            have b1102 : hq_ir (hq_lo 8) (hq_hi 8) y1100 := by rw [ey1101]; exact hra1099 _ (by decide)
            have b1102 : 0 ≤ (y1100).toInt ∧ (y1100).toInt ≤ 60 := b1102
            have b1103 : (y1100).toInt = (lz.length : Int) := by rw [ey1101, hrf1097, hp1076 2 _ (fun g9 => absurd g9.1 (by decide)), hp1030 2 _ (fun g9 => absurd g9.1 (by decide)), hrh964, hm_u2a (by decide), hrh947, hm_u2a (by decide), hrh930, hm_u2a (by decide), hrh913, hm_u2a (by decide), hrh896, hm_u2a (by decide), hrh879, hm_u2a (by decide), hrh862, hm_u2a (by decide)]; exact hcl
            refine lv_iconst (v := 1) hx hb dX13_readLine_397 (by decide) ?_
            refine lv_iadd hx hb dX13_readLine_398 ?_
            refine lv_topi (fun y1104 ey1105 => ?_)
            obtain ⟨k1106, hk1107, b1108, b1109⟩ := hq_add (y1100) (1)
            rw [← ey1105] at hk1107 b1108 b1109
            have hk1107 : (y1104).toInt = (y1100).toInt + (1 : Int) + k1106 * 4294967296 := hk1107
            obtain rfl : k1106 = 0 := by omega
            refine hp_iast hx hb hZ ea1098 (by unfold vp_in; decide) dX13_readLine_399 (fun V1110 _ _ e1111 o1112 hZ => ?_)
            have e1111 : V1110 (q + 2) = some (.inl (cs 1, 2, .inl (upd (rf1096) ((1 : Int32).toNatClampNeg) (y1104)))) := e1111
            have hP := hP.put (hr_2 hR) e1111 o1112 (hq_c21 (by omega) (hq_upd hra1099 (show 0 ≤ _ ∧ _ ≤ 60 by constructor <;> omega))) rfl
            obtain ⟨g1113, ge1114⟩ : ∃ g9 : Nat → Int32, g9 = upd (rf1096) ((1 : Int32).toNatClampNeg) (y1104) := ⟨_, rfl⟩
            have fx1115 : V1110 (q + 2) = some (.inl (cs 1, 2, .inl (g1113))) := by rw [ge1114]; exact e1111
            have hf1116 := hq_rg hP.1 (hr_2 hR) fx1115
            obtain ⟨rh1117, hrh1118⟩ : ∃ r9 : hm_Rh, r9 = hm_u2 u1072 2 (1 : Int32).toNatClampNeg ((y1104 : Int32)) := ⟨_, rfl⟩
            have pk1119 : hm_AR cs V1110 q rh1117 := by rw [hrh1118]; exact hp1075.put (a := 2) (by decide) (by rw [ge1114, hrf1097]) fx1115 o1112
            have hH1120 : hm_H rh rh1117 := by rw [hrh1118]; exact hH1088.put (show 1 ≤ (1 : Int32).toNatClampNeg by have h8 := (hq_nn (z := 1) (by omega)).1; omega)
            have wl1121 : hm_WL (y841).toNatClampNeg rh rh1117 := by rw [hrh1118]; exact wl1087.put (Or.inr ⟨rfl, rfl⟩)
            have hl1122 : (3 : Int32).toInt = 3 := by decide
            have hl1123 : (1 : Int32).toInt = 1 := by decide
            have fx1124 : V1110 (mo) = some (.inr (13, hm_o q (m_tp) (m_sz) (z1069) (z1070) (z1071) (m_ft) (m_fa) (m_le) (m_fo) (m_as) (m_fd) (m_bc) (m_bg) (m_bs) (m_be) (m_b0) (m_b1) (m_cm) (m_hc))) := (o1112 (mo) (hq_tne hmo (hr_2 hR) (by simp))).trans (ho1073)
            exact hq_vret hx hb hr hlocks hZ ⟨rfl, rfl, hP, (fun x8 hne0 hne1 => (o1112 x8 (by omega)).trans ((fr1053 x8 hne0 hne1).trans ((fr1007 x8 hne0 hne1).trans ((fr974 x8 hne0).trans ((o957 x8 (by omega)).trans ((o940 x8 (by omega)).trans ((o923 x8 (by omega)).trans ((o906 x8 (by omega)).trans ((o889 x8 (by omega)).trans ((o872 x8 (by omega)).trans (o855 x8 (by omega)))))))))))), z1069, z1070, z1071, rh1117, fx1124, (by unfold sp_tl sp_line; (try dsimp only); (repeat (first | (rw [if_pos]; rotate_left; omega) | (rw [if_neg]; rotate_left; omega))); (try dsimp only); exact ⟨by first | rfl | omega, hA1081, (by rw [← hL9]; exact ⟨by rw [hrh1118, hm_u2a (by decide), hp1076 10 _ (fun g9 => absurd g9.1 (by decide)), hp1030 10 _ (fun g9 => absurd g9.1 (by decide)), hrh964, hm_u2a (by decide), hrh947, hm_u2a (by decide), hrh930, hm_u2a (by decide), hrh913, hm_u2a (by decide), hrh896, hm_u2a (by decide), hrh879, hm_u2a (by decide), hrh862, hm_u2e]; first | omega | (dsimp only; omega), by rw [hrh1118, hm_u2a (by decide), hp1076 11 _ (fun g9 => absurd g9.1 (by decide))]; first | omega | (dsimp only; omega), by rw [hrh1118, hm_u2a (by decide)]; first | omega | (dsimp only; omega), by rw [hrh1118, hm_u2a (by decide), hp1076 13 _ (fun g9 => absurd g9.1 (by decide)), hp1030 13 _ (fun g9 => absurd g9.1 (by decide)), hrh964, hm_u2a (by decide), hrh947, hm_u2a (by decide), hrh930, hm_u2a (by decide), hrh913, hm_u2e]; first | omega | (dsimp only; omega), by rw [hrh1118, hm_u2a (by decide)]; first | omega | (dsimp only; omega), ⟨by rw [hrh1118, hm_u2a (by decide), hp1076 14 _ (fun g9 => absurd g9.1 (by decide)), hp1030 14 _ (fun g9 => absurd g9.1 (by decide)), hrh964, hm_u2a (by decide), hrh947, hm_u2a (by decide), hrh930, hm_u2e]; first | omega | (dsimp only; omega), by first | omega | (dsimp only; omega), fun k9 hk9 => by first | omega | (dsimp only at hk9; omega)⟩, ⟨by rw [hrh1118, hm_u2a (by decide), hp1076 15 _ (fun g9 => absurd g9.1 (by decide)), hp1030 15 _ (fun g9 => absurd g9.1 (by decide)), hrh964, hm_u2a (by decide), hrh947, hm_u2e]; first | omega | (dsimp only; omega), by first | omega | (dsimp only; omega), fun k9 hk9 => by first | omega | (dsimp only at hk9; omega)⟩⟩), by omega, by show (rh1117 2 (1 : Int32).toNatClampNeg).toInt = _; rw [hrh1118, hm_u2e]; omega⟩), pk1119, (by rw [← hL9]; exact wl1121), hH1120⟩ dX13_readLine_400
          · have c836 : (y832).toInt = (60 : Int) := hq_eqi.mp c836
            refine lv_aload_n hx hb dX13_readLine_102 rfl (lv_at hl 1 rfl) ?_
            refine lv_iconst (v := 4) hx hb dX13_readLine_103 (by decide) ?_
            have hl1125 : (4 : Int32).toInt = 4 := by decide
            refine hp_callq (hp_runV (As := [.int (4)]) (rest := []) hx hb hml hown hts (y_wrong l D cs B G V n hP.1 (q) (mo) (m_tp) (m_sz) (m_fr) (m_bh) (m_hd) (m_ft) (m_fa) (m_le) (m_fo) (m_as) (m_fd) (m_bc) (m_bg) (m_bs) (m_be) (m_b0) (m_b1) (m_cm) (m_hc) (4)  hc0  hR hmo hmq) hZ hc0 cv_X13_107 rfl rfl ⟨Nat.le_of_ble_eq_true rfl, Nat.le_of_ble_eq_true rfl⟩ rfl hl.1 rfl (Nat.le_of_ble_eq_true rfl) dX13_readLine_104 ⟨(Nat.le_of_ble_eq_true rfl), (Nat.le_of_ble_eq_true rfl)⟩) hZ (fun r1129 V1126 n1127 _ _ hw1128 hZ => ?_)
            obtain ⟨rfl, hq1130, fr1131, ho1132, hp1133⟩ := hw1128
            have hP := hP.trans hq1130 (fun _ h => Bool.noConfusion h)
            subst hp1133
            refine W.eq (g2 := F0 m 107 ls [.ref (q + 19)]) rfl ?_
            have hl1134 : (4 : Int32).toInt = 4 := by decide
            have pk1135 := hp1.keep (fun x7 (hx7 : q ≤ x7 ∧ x7 < q + 19) => fr1131 x7 (by omega))
            exact hq_athrow hx hb hnx hlocks hZ ⟨rfl, rfl, hP, (fun x8 hne0 hne1 => fr1131 x8 hne0), m_fr, m_bh, m_hd, 4, m_fr, rh, ho1132, (by unfold sp_tl sp_line; (try dsimp only); (repeat (first | (rw [if_pos]; rotate_left; omega) | (rw [if_neg]; rotate_left; omega))); (try dsimp only); exact ⟨by omega, by omega, by omega⟩), pk1135, hH0⟩ dX13_readLine_107
      · have c32 : ¬ (r27).toInt = (0 : Int) := fun h9 => c32 (hq_eqi.mpr h9)
        have b1136 : sp_k w (j) = 2 := by have h9 := hp30; omega
        refine lv_iconst (v := 2) hx hb dX13_readLine_35 (by decide) ?_
        refine lv_goto (tgt := 79) hx hb dX13_readLine_36 (by decide) ?_
        refine lv_istore_n (lv' := [(1, .int (2)), (0, .ref (mo))]) hx hb dX13_readLine_79 rfl hl (by decide) rfl (fun ls hl => ?_)
        refine lv_iload_n hx hb dX13_readLine_80 rfl (lv_at hl 0 rfl) ?_
        refine lv_iconst (v := -1) hx hb dX13_readLine_81 (by decide) ?_
        refine lv_icmp_ne (tgt := 91) hx hb dX13_readLine_82 (by decide) (fun c1137 => ?_) (fun c1137 => absurd c1137 (by decide))
        refine lv_aload_n hx hb dX13_readLine_91 rfl (lv_at hl 1 rfl) ?_
        refine hp_get (v := .ref (q + 2)) hx hb hts hown hZ hc0 fl_X13_10 rfl dX13_readLine_92 ?_
        refine lv_iconst (v := 1) hx hb dX13_readLine_95 (by decide) ?_
        obtain ⟨rf1138, hrf1139⟩ : ∃ f : Nat → Int32, f = rh 2 := ⟨_, rfl⟩
        have ea1140 : V (q + 2) = some (.inl (cs 1, 2, .inl (rf1138))) := by rw [hrf1139]; exact hp1 2 (by decide)
        have hra1141 := hq_rg hP.1 (hr_2 hR) ea1140
        refine hp_iald hx hb hZ ea1140 (by unfold vp_in; decide) dX13_readLine_96 ?_
        refine lv_topi (fun y1142 ey1143 => ?_)
        have b1144 : hq_ir (hq_lo 8) (hq_hi 8) y1142 := by rw [ey1143]; exact hra1141 _ (by decide)
        have b1144 : 0 ≤ (y1142).toInt ∧ (y1142).toInt ≤ 60 := b1144
        have b1145 : (y1142).toInt = (lz.length : Int) := by rw [ey1143, hrf1139]; exact hcl
        refine lv_bipush (v := 60) hx hb dX13_readLine_97 (by decide) ?_
        refine lv_icmp_ne (tgt := 108) hx hb dX13_readLine_99 (by decide) (fun c1146 => ?_) (fun c1146 => ?_)
        · have c1146 : ¬ (y1142).toInt = (60 : Int) := fun h9 => c1146 (hq_eqi.mpr h9)
          refine lv_bipush (v := 60) hx hb dX13_readLine_108 (by decide) ?_
          refine lv_aload_n hx hb dX13_readLine_110 rfl (lv_at hl 1 rfl) ?_
          refine hp_get (v := .ref (q + 2)) hx hb hts hown hZ hc0 fl_X13_10 rfl dX13_readLine_111 ?_
          refine lv_iconst (v := 1) hx hb dX13_readLine_114 (by decide) ?_
          refine hp_iald hx hb hZ ea1140 (by unfold vp_in; decide) dX13_readLine_115 ?_
          refine lv_topi (fun y1147 ey1148 => ?_)
          have b1149 : hq_ir (hq_lo 8) (hq_hi 8) y1147 := by rw [ey1148]; exact hra1141 _ (by decide)
          have b1149 : 0 ≤ (y1147).toInt ∧ (y1147).toInt ≤ 60 := b1149
          have b1150 : (y1147).toInt = (lz.length : Int) := by rw [ey1148, hrf1139]; exact hcl
          refine lv_iadd hx hb dX13_readLine_116 ?_
          refine lv_topi (fun y1151 ey1152 => ?_)
          obtain ⟨k1153, hk1154, b1155, b1156⟩ := hq_add (60) (y1147)
          rw [← ey1152] at hk1154 b1155 b1156
          have hk1154 : (y1151).toInt = (60 : Int) + (y1147).toInt + k1153 * 4294967296 := hk1154
          obtain rfl : k1153 = 0 := by omega
          refine lv_istore_n (lv' := [(2, .int (y1151)), (1, .int (2)), (0, .ref (mo))]) hx hb dX13_readLine_117 rfl hl (by decide) rfl (fun ls hl => ?_)
          have hL9 : (y1151).toNatClampNeg = 60 + lz.length := by have h8 := (hq_nn (z := y1151) (by omega)).1; omega
          have wl0 : hm_WL (y1151).toNatClampNeg rh rh := hm_WL.rf
          have hl1157 : (-1 : Int32).toInt = -1 := by decide
          have hl1158 : (0 : Int32).toInt = 0 := by decide
          refine lv_aload_n hx hb dX13_readLine_118 rfl (lv_at hl 2 rfl) ?_
          refine hp_get (v := .ref (q + 10)) hx hb hts hown hZ hc0 fl_X13_29 rfl dX13_readLine_119 ?_
          refine lv_iload_n hx hb dX13_readLine_122 rfl (lv_at hl 0 rfl) ?_
          refine lv_iload_n hx hb dX13_readLine_123 rfl (lv_at hl 1 rfl) ?_
          obtain ⟨rf1159, hrf1160⟩ : ∃ f : Nat → Int32, f = rh 10 := ⟨_, rfl⟩
          have ea1161 : V (q + 10) = some (.inl (cs 1, 120, .inl (rf1159))) := by rw [hrf1160]; exact hp1 10 (by decide)
          have hra1162 := hq_rg hP.1 (hr_10 hR) ea1161
          refine hp_iast hx hb hZ ea1161 (hq_in (by omega) (by omega)) dX13_readLine_124 (fun V1163 _ _ e1164 o1165 hZ => ?_)
          have e1164 : V1163 (q + 10) = some (.inl (cs 1, 120, .inl (upd (rf1159) ((y1151 : Int32).toNatClampNeg) (2)))) := e1164
          have hl1166 : (2 : Int32).toInt = 2 := by decide
          have hP := hP.put (hr_10 hR) e1164 o1165 (hq_c21 (by omega) (hq_upd hra1162 (hq_rng _))) rfl
          obtain ⟨g1167, ge1168⟩ : ∃ g9 : Nat → Int32, g9 = upd (rf1159) ((y1151 : Int32).toNatClampNeg) (2) := ⟨_, rfl⟩
          have fx1169 : V1163 (q + 10) = some (.inl (cs 1, 120, .inl (g1167))) := by rw [ge1168]; exact e1164
          have hf1170 := hq_rg hP.1 (hr_10 hR) fx1169
          obtain ⟨rh1171, hrh1172⟩ : ∃ r9 : hm_Rh, r9 = hm_u2 rh 10 (y1151 : Int32).toNatClampNeg ((2 : Int32)) := ⟨_, rfl⟩
          have pk1173 : hm_AR cs V1163 q rh1171 := by rw [hrh1172]; exact hp1.put (a := 10) (by decide) (by rw [ge1168, hrf1160]) fx1169 o1165
          have hH1174 : hm_H rh rh1171 := by rw [hrh1172]; exact hH0.put (show 60 ≤ (y1151 : Int32).toNatClampNeg by have h8 := (hq_nn (z := y1151) (by omega)).1; omega)
          refine lv_aload_n hx hb dX13_readLine_125 rfl (lv_at hl 2 rfl) ?_
          have fx1175 : V1163 (mo) = some (.inr (13, hm_o q (m_tp) (m_sz) (m_fr) (m_bh) (m_hd) (m_ft) (m_fa) (m_le) (m_fo) (m_as) (m_fd) (m_bc) (m_bg) (m_bs) (m_be) (m_b0) (m_b1) (m_cm) (m_hc))) := (o1165 (mo) (hq_tne hmo (hr_10 hR) (by simp))).trans (hc0)
          refine hp_get (v := .ref (q + 11)) hx hb hts hown hZ fx1175 fl_X13_32 rfl dX13_readLine_126 ?_
          refine lv_iload_n hx hb dX13_readLine_129 rfl (lv_at hl 0 rfl) ?_
          refine lv_iconst (v := -1) hx hb dX13_readLine_130 (by decide) ?_
          obtain ⟨rf1176, hrf1177⟩ : ∃ f : Nat → Int32, f = rh1171 11 := ⟨_, rfl⟩
          have ea1178 : V1163 (q + 11) = some (.inl (cs 1, 120, .inl (rf1176))) := by rw [hrf1177]; exact pk1173 11 (by decide)
          have hra1179 := hq_rg hP.1 (hr_11 hR) ea1178
          refine hp_iast hx hb hZ ea1178 (hq_in (by omega) (by omega)) dX13_readLine_131 (fun V1180 _ _ e1181 o1182 hZ => ?_)
          have e1181 : V1180 (q + 11) = some (.inl (cs 1, 120, .inl (upd (rf1176) ((y1151 : Int32).toNatClampNeg) (-1)))) := e1181
          have hl1183 : (-1 : Int32).toInt = -1 := by decide
          have hP := hP.put (hr_11 hR) e1181 o1182 (hq_c21 (by omega) (hq_upd hra1179 (hq_rng _))) rfl
          obtain ⟨g1184, ge1185⟩ : ∃ g9 : Nat → Int32, g9 = upd (rf1176) ((y1151 : Int32).toNatClampNeg) (-1) := ⟨_, rfl⟩
          have fx1186 : V1180 (q + 11) = some (.inl (cs 1, 120, .inl (g1184))) := by rw [ge1185]; exact e1181
          have hf1187 := hq_rg hP.1 (hr_11 hR) fx1186
          obtain ⟨rh1188, hrh1189⟩ : ∃ r9 : hm_Rh, r9 = hm_u2 rh1171 11 (y1151 : Int32).toNatClampNeg ((-1 : Int32)) := ⟨_, rfl⟩
          have pk1190 : hm_AR cs V1180 q rh1188 := by rw [hrh1189]; exact pk1173.put (a := 11) (by decide) (by rw [ge1185, hrf1177]) fx1186 o1182
          have hH1191 : hm_H rh rh1188 := by rw [hrh1189]; exact hH1174.put (show 60 ≤ (y1151 : Int32).toNatClampNeg by have h8 := (hq_nn (z := y1151) (by omega)).1; omega)
          refine lv_aload_n hx hb dX13_readLine_132 rfl (lv_at hl 2 rfl) ?_
          have fx1192 : V1180 (mo) = some (.inr (13, hm_o q (m_tp) (m_sz) (m_fr) (m_bh) (m_hd) (m_ft) (m_fa) (m_le) (m_fo) (m_as) (m_fd) (m_bc) (m_bg) (m_bs) (m_be) (m_b0) (m_b1) (m_cm) (m_hc))) := (o1182 (mo) (hq_tne hmo (hr_11 hR) (by simp))).trans (fx1175)
          refine hp_get (v := .ref (q + 12)) hx hb hts hown hZ fx1192 fl_X13_35 rfl dX13_readLine_133 ?_
          refine lv_iload_n hx hb dX13_readLine_136 rfl (lv_at hl 0 rfl) ?_
          refine lv_iconst (v := -1) hx hb dX13_readLine_137 (by decide) ?_
          obtain ⟨rf1193, hrf1194⟩ : ∃ f : Nat → Int32, f = rh1188 12 := ⟨_, rfl⟩
          have ea1195 : V1180 (q + 12) = some (.inl (cs 1, 120, .inl (rf1193))) := by rw [hrf1194]; exact pk1190 12 (by decide)
          have hra1196 := hq_rg hP.1 (hr_12 hR) ea1195
          refine hp_iast hx hb hZ ea1195 (hq_in (by omega) (by omega)) dX13_readLine_138 (fun V1197 _ _ e1198 o1199 hZ => ?_)
          have e1198 : V1197 (q + 12) = some (.inl (cs 1, 120, .inl (upd (rf1193) ((y1151 : Int32).toNatClampNeg) (-1)))) := e1198
          have hl1200 : (-1 : Int32).toInt = -1 := by decide
          have hP := hP.put (hr_12 hR) e1198 o1199 (hq_c21 (by omega) (hq_upd hra1196 (hq_rng _))) rfl
          obtain ⟨g1201, ge1202⟩ : ∃ g9 : Nat → Int32, g9 = upd (rf1193) ((y1151 : Int32).toNatClampNeg) (-1) := ⟨_, rfl⟩
          have fx1203 : V1197 (q + 12) = some (.inl (cs 1, 120, .inl (g1201))) := by rw [ge1202]; exact e1198
          have hf1204 := hq_rg hP.1 (hr_12 hR) fx1203
          obtain ⟨rh1205, hrh1206⟩ : ∃ r9 : hm_Rh, r9 = hm_u2 rh1188 12 (y1151 : Int32).toNatClampNeg ((-1 : Int32)) := ⟨_, rfl⟩
          have pk1207 : hm_AR cs V1197 q rh1205 := by rw [hrh1206]; exact pk1190.put (a := 12) (by decide) (by rw [ge1202, hrf1194]) fx1203 o1199
          have hH1208 : hm_H rh rh1205 := by rw [hrh1206]; exact hH1191.put (show 60 ≤ (y1151 : Int32).toNatClampNeg by have h8 := (hq_nn (z := y1151) (by omega)).1; omega)
          refine lv_aload_n hx hb dX13_readLine_139 rfl (lv_at hl 2 rfl) ?_
          have fx1209 : V1197 (mo) = some (.inr (13, hm_o q (m_tp) (m_sz) (m_fr) (m_bh) (m_hd) (m_ft) (m_fa) (m_le) (m_fo) (m_as) (m_fd) (m_bc) (m_bg) (m_bs) (m_be) (m_b0) (m_b1) (m_cm) (m_hc))) := (o1199 (mo) (hq_tne hmo (hr_12 hR) (by simp))).trans (fx1192)
          refine hp_get (v := .ref (q + 13)) hx hb hts hown hZ fx1209 fl_X13_38 rfl dX13_readLine_140 ?_
          refine lv_iload_n hx hb dX13_readLine_143 rfl (lv_at hl 0 rfl) ?_
          refine lv_iconst (v := -1) hx hb dX13_readLine_144 (by decide) ?_
          obtain ⟨rf1210, hrf1211⟩ : ∃ f : Nat → Int32, f = rh1205 13 := ⟨_, rfl⟩
          have ea1212 : V1197 (q + 13) = some (.inl (cs 1, 120, .inl (rf1210))) := by rw [hrf1211]; exact pk1207 13 (by decide)
          have hra1213 := hq_rg hP.1 (hr_13 hR) ea1212
          refine hp_iast hx hb hZ ea1212 (hq_in (by omega) (by omega)) dX13_readLine_145 (fun V1214 _ _ e1215 o1216 hZ => ?_)
          have e1215 : V1214 (q + 13) = some (.inl (cs 1, 120, .inl (upd (rf1210) ((y1151 : Int32).toNatClampNeg) (-1)))) := e1215
          have hl1217 : (-1 : Int32).toInt = -1 := by decide
          have hP := hP.put (hr_13 hR) e1215 o1216 (hq_c21 (by omega) (hq_upd hra1213 (hq_rng _))) rfl
          obtain ⟨g1218, ge1219⟩ : ∃ g9 : Nat → Int32, g9 = upd (rf1210) ((y1151 : Int32).toNatClampNeg) (-1) := ⟨_, rfl⟩
          have fx1220 : V1214 (q + 13) = some (.inl (cs 1, 120, .inl (g1218))) := by rw [ge1219]; exact e1215
          have hf1221 := hq_rg hP.1 (hr_13 hR) fx1220
          obtain ⟨rh1222, hrh1223⟩ : ∃ r9 : hm_Rh, r9 = hm_u2 rh1205 13 (y1151 : Int32).toNatClampNeg ((-1 : Int32)) := ⟨_, rfl⟩
          have pk1224 : hm_AR cs V1214 q rh1222 := by rw [hrh1223]; exact pk1207.put (a := 13) (by decide) (by rw [ge1219, hrf1211]) fx1220 o1216
          have hH1225 : hm_H rh rh1222 := by rw [hrh1223]; exact hH1208.put (show 60 ≤ (y1151 : Int32).toNatClampNeg by have h8 := (hq_nn (z := y1151) (by omega)).1; omega)
          refine lv_aload_n hx hb dX13_readLine_146 rfl (lv_at hl 2 rfl) ?_
          have fx1226 : V1214 (mo) = some (.inr (13, hm_o q (m_tp) (m_sz) (m_fr) (m_bh) (m_hd) (m_ft) (m_fa) (m_le) (m_fo) (m_as) (m_fd) (m_bc) (m_bg) (m_bs) (m_be) (m_b0) (m_b1) (m_cm) (m_hc))) := (o1216 (mo) (hq_tne hmo (hr_13 hR) (by simp))).trans (fx1209)
          refine hp_get (v := .ref (q + 14)) hx hb hts hown hZ fx1226 fl_X13_41 rfl dX13_readLine_147 ?_
          refine lv_iload_n hx hb dX13_readLine_150 rfl (lv_at hl 0 rfl) ?_
          refine lv_iconst (v := 0) hx hb dX13_readLine_151 (by decide) ?_
          obtain ⟨rf1227, hrf1228⟩ : ∃ f : Nat → Int32, f = rh1222 14 := ⟨_, rfl⟩
          have ea1229 : V1214 (q + 14) = some (.inl (cs 1, 120, .inl (rf1227))) := by rw [hrf1228]; exact pk1224 14 (by decide)
          have hra1230 := hq_rg hP.1 (hr_14 hR) ea1229
          refine hp_iast hx hb hZ ea1229 (hq_in (by omega) (by omega)) dX13_readLine_152 (fun V1231 _ _ e1232 o1233 hZ => ?_)
          have e1232 : V1231 (q + 14) = some (.inl (cs 1, 120, .inl (upd (rf1227) ((y1151 : Int32).toNatClampNeg) (0)))) := e1232
          have hl1234 : (0 : Int32).toInt = 0 := by decide
          have hP := hP.put (hr_14 hR) e1232 o1233 (hq_c21 (by omega) (hq_upd hra1230 (show 0 ≤ _ ∧ _ ≤ 8 by constructor <;> omega))) rfl
          obtain ⟨g1235, ge1236⟩ : ∃ g9 : Nat → Int32, g9 = upd (rf1227) ((y1151 : Int32).toNatClampNeg) (0) := ⟨_, rfl⟩
          have fx1237 : V1231 (q + 14) = some (.inl (cs 1, 120, .inl (g1235))) := by rw [ge1236]; exact e1232
          have hf1238 := hq_rg hP.1 (hr_14 hR) fx1237
          obtain ⟨rh1239, hrh1240⟩ : ∃ r9 : hm_Rh, r9 = hm_u2 rh1222 14 (y1151 : Int32).toNatClampNeg ((0 : Int32)) := ⟨_, rfl⟩
          have pk1241 : hm_AR cs V1231 q rh1239 := by rw [hrh1240]; exact pk1224.put (a := 14) (by decide) (by rw [ge1236, hrf1228]) fx1237 o1233
          have hH1242 : hm_H rh rh1239 := by rw [hrh1240]; exact hH1225.put (show 60 ≤ (y1151 : Int32).toNatClampNeg by have h8 := (hq_nn (z := y1151) (by omega)).1; omega)
          refine lv_aload_n hx hb dX13_readLine_153 rfl (lv_at hl 2 rfl) ?_
          have fx1243 : V1231 (mo) = some (.inr (13, hm_o q (m_tp) (m_sz) (m_fr) (m_bh) (m_hd) (m_ft) (m_fa) (m_le) (m_fo) (m_as) (m_fd) (m_bc) (m_bg) (m_bs) (m_be) (m_b0) (m_b1) (m_cm) (m_hc))) := (o1233 (mo) (hq_tne hmo (hr_14 hR) (by simp))).trans (fx1226)
          refine hp_get (v := .ref (q + 15)) hx hb hts hown hZ fx1243 fl_X13_44 rfl dX13_readLine_154 ?_
          refine lv_iload_n hx hb dX13_readLine_157 rfl (lv_at hl 0 rfl) ?_
          refine lv_iconst (v := 0) hx hb dX13_readLine_158 (by decide) ?_
          obtain ⟨rf1244, hrf1245⟩ : ∃ f : Nat → Int32, f = rh1239 15 := ⟨_, rfl⟩
          have ea1246 : V1231 (q + 15) = some (.inl (cs 1, 120, .inl (rf1244))) := by rw [hrf1245]; exact pk1241 15 (by decide)
          have hra1247 := hq_rg hP.1 (hr_15 hR) ea1246
          refine hp_iast hx hb hZ ea1246 (hq_in (by omega) (by omega)) dX13_readLine_159 (fun V1248 _ _ e1249 o1250 hZ => ?_)
          have e1249 : V1248 (q + 15) = some (.inl (cs 1, 120, .inl (upd (rf1244) ((y1151 : Int32).toNatClampNeg) (0)))) := e1249
          have hl1251 : (0 : Int32).toInt = 0 := by decide
          have hP := hP.put (hr_15 hR) e1249 o1250 (hq_c21 (by omega) (hq_upd hra1247 (show 0 ≤ _ ∧ _ ≤ 8 by constructor <;> omega))) rfl
          obtain ⟨g1252, ge1253⟩ : ∃ g9 : Nat → Int32, g9 = upd (rf1244) ((y1151 : Int32).toNatClampNeg) (0) := ⟨_, rfl⟩
          have fx1254 : V1248 (q + 15) = some (.inl (cs 1, 120, .inl (g1252))) := by rw [ge1253]; exact e1249
          have hf1255 := hq_rg hP.1 (hr_15 hR) fx1254
          obtain ⟨rh1256, hrh1257⟩ : ∃ r9 : hm_Rh, r9 = hm_u2 rh1239 15 (y1151 : Int32).toNatClampNeg ((0 : Int32)) := ⟨_, rfl⟩
          have pk1258 : hm_AR cs V1248 q rh1256 := by rw [hrh1257]; exact pk1241.put (a := 15) (by decide) (by rw [ge1253, hrf1245]) fx1254 o1250
          have hH1259 : hm_H rh rh1256 := by rw [hrh1257]; exact hH1242.put (show 60 ≤ (y1151 : Int32).toNatClampNeg by have h8 := (hq_nn (z := y1151) (by omega)).1; omega)
          refine lv_aload_n hx hb dX13_readLine_160 rfl (lv_at hl 2 rfl) ?_
          have fx1260 : V1248 (mo) = some (.inr (13, hm_o q (m_tp) (m_sz) (m_fr) (m_bh) (m_hd) (m_ft) (m_fa) (m_le) (m_fo) (m_as) (m_fd) (m_bc) (m_bg) (m_bs) (m_be) (m_b0) (m_b1) (m_cm) (m_hc))) := (o1250 (mo) (hq_tne hmo (hr_15 hR) (by simp))).trans (fx1243)
          refine hp_get (v := .ref (q + 16)) hx hb hts hown hZ fx1260 fl_X13_47 rfl dX13_readLine_161 ?_
          refine lv_iload_n hx hb dX13_readLine_164 rfl (lv_at hl 0 rfl) ?_
          refine lv_iconst (v := 0) hx hb dX13_readLine_165 (by decide) ?_
          obtain ⟨rf1261, hrf1262⟩ : ∃ f : Nat → Int32, f = rh1256 16 := ⟨_, rfl⟩
          have ea1263 : V1248 (q + 16) = some (.inl (cs 1, 120, .inl (rf1261))) := by rw [hrf1262]; exact pk1258 16 (by decide)
          have hra1264 := hq_rg hP.1 (hr_16 hR) ea1263
          refine hp_iast hx hb hZ ea1263 (hq_in (by omega) (by omega)) dX13_readLine_166 (fun V1265 _ _ e1266 o1267 hZ => ?_)
          have e1266 : V1265 (q + 16) = some (.inl (cs 1, 120, .inl (upd (rf1261) ((y1151 : Int32).toNatClampNeg) (0)))) := e1266
          have hl1268 : (0 : Int32).toInt = 0 := by decide
          have hP := hP.put (hr_16 hR) e1266 o1267 (hq_c21 (by omega) (hq_upd hra1264 (show 0 ≤ _ ∧ _ ≤ 29 by constructor <;> omega))) rfl
          obtain ⟨g1269, ge1270⟩ : ∃ g9 : Nat → Int32, g9 = upd (rf1261) ((y1151 : Int32).toNatClampNeg) (0) := ⟨_, rfl⟩
          have fx1271 : V1265 (q + 16) = some (.inl (cs 1, 120, .inl (g1269))) := by rw [ge1270]; exact e1266
          have hf1272 := hq_rg hP.1 (hr_16 hR) fx1271
          obtain ⟨rh1273, hrh1274⟩ : ∃ r9 : hm_Rh, r9 = hm_u2 rh1256 16 (y1151 : Int32).toNatClampNeg ((0 : Int32)) := ⟨_, rfl⟩
          have pk1275 : hm_AR cs V1265 q rh1273 := by rw [hrh1274]; exact pk1258.put (a := 16) (by decide) (by rw [ge1270, hrf1262]) fx1271 o1267
          have hH1276 : hm_H rh rh1273 := by rw [hrh1274]; exact hH1259.put (show 60 ≤ (y1151 : Int32).toNatClampNeg by have h8 := (hq_nn (z := y1151) (by omega)).1; omega)
          refine lv_aload_n hx hb dX13_readLine_167 rfl (lv_at hl 2 rfl) ?_
          have fx1277 : V1265 (mo) = some (.inr (13, hm_o q (m_tp) (m_sz) (m_fr) (m_bh) (m_hd) (m_ft) (m_fa) (m_le) (m_fo) (m_as) (m_fd) (m_bc) (m_bg) (m_bs) (m_be) (m_b0) (m_b1) (m_cm) (m_hc))) := (o1267 (mo) (hq_tne hmo (hr_16 hR) (by simp))).trans (fx1260)
          have pk1278 := hp0.keep ((o1267 (q + 20) (hq_tne (hr_20 hR) (hr_16 hR) (by simp))).trans ((o1250 (q + 20) (hq_tne (hr_20 hR) (hr_15 hR) (by simp))).trans ((o1233 (q + 20) (hq_tne (hr_20 hR) (hr_14 hR) (by simp))).trans ((o1216 (q + 20) (hq_tne (hr_20 hR) (hr_13 hR) (by simp))).trans ((o1199 (q + 20) (hq_tne (hr_20 hR) (hr_12 hR) (by simp))).trans ((o1182 (q + 20) (hq_tne (hr_20 hR) (hr_11 hR) (by simp))).trans (o1165 (q + 20) (hq_tne (hr_20 hR) (hr_10 hR) (by simp)))))))))
          refine hp_callv (hp_runV (As := []) (rest := []) hx hb hml hown hts (y_next l D cs B G V1265 n hP.1 (q) (mo) (w) (j) (m_tp) (m_sz) (m_fr) (m_bh) (m_hd) (m_ft) (m_fa) (m_le) (m_fo) (m_as) (m_fd) (m_bc) (m_bg) (m_bs) (m_be) (m_b0) (m_b1) (m_cm) (m_hc)  fx1277 pk1278 hR hmo hmq (by omega) hA (by omega)) hZ fx1277 cv_X13_111 rfl rfl ⟨Nat.le_of_ble_eq_true rfl, Nat.le_of_ble_eq_true rfl⟩ rfl hl.1 rfl (Nat.le_of_ble_eq_true rfl) dX13_readLine_168 ⟨(Nat.le_of_ble_eq_true rfl), (Nat.le_of_ble_eq_true rfl)⟩) hZ (fun V1279 n1280 _ _ hw1281 hZ => ?_)
          obtain ⟨rfl, hq1283, fr1284, z1285, z1286, z1287, ho1288, hp1289, hp1290⟩ := hw1281
          have b1291 := hq_rng z1285
          have b1292 := hq_rng z1286
          have b1293 := hq_rng z1287
          have hP := hP.trans hq1283 (fun _ h => Bool.noConfusion h)
          obtain ⟨b1294, b1295, b1296, -⟩ := id hp1289
          refine lv_iload_n hx hb dX13_readLine_171 rfl (lv_at hl 1 rfl) ?_
          refine lv_iconst (v := 4) hx hb dX13_readLine_172 (by decide) ?_
          refine lv_icmp_eq (tgt := 181) hx hb dX13_readLine_173 (by decide) (fun c1297 => absurd c1297 (by decide)) (fun c1297 => ?_)
          refine lv_iload_n hx hb dX13_readLine_176 rfl (lv_at hl 1 rfl) ?_
          refine lv_iconst (v := 5) hx hb dX13_readLine_177 (by decide) ?_
          refine lv_icmp_ne (tgt := 194) hx hb dX13_readLine_178 (by decide) (fun c1298 => ?_) (fun c1298 => absurd c1298 (by decide))
          refine lv_iload_n hx hb dX13_readLine_194 rfl (lv_at hl 1 rfl) ?_
          refine lv_iconst (v := 2) hx hb dX13_readLine_195 (by decide) ?_
          refine lv_icmp_eq (tgt := 204) hx hb dX13_readLine_196 (by decide) (fun c1299 => ?_) (fun c1299 => absurd (by decide) c1299)
          refine lv_iload_n hx hb dX13_readLine_204 rfl (lv_at hl 1 rfl) ?_
          refine lv_iconst (v := 2) hx hb dX13_readLine_205 (by decide) ?_
          refine lv_icmp_eq (tgt := 219) hx hb dX13_readLine_206 (by decide) (fun c1300 => ?_) (fun c1300 => absurd (by decide) c1300)
          refine lv_iload_n hx hb dX13_readLine_219 rfl (lv_at hl 1 rfl) ?_
          refine lv_iconst (v := 3) hx hb dX13_readLine_220 (by decide) ?_
          refine lv_icmp_ne (tgt := 229) hx hb dX13_readLine_221 (by decide) (fun c1301 => ?_) (fun c1301 => absurd c1301 (by decide))
          refine lv_iload_n hx hb dX13_readLine_229 rfl (lv_at hl 1 rfl) ?_
          refine lv_if_eq (tgt := 248) hx hb dX13_readLine_230 (by decide) (fun c1302 => absurd c1302 (by decide)) (fun c1302 => ?_)
          refine lv_iload_n hx hb dX13_readLine_233 rfl (lv_at hl 1 rfl) ?_
          refine lv_iconst (v := 1) hx hb dX13_readLine_234 (by decide) ?_
          refine lv_icmp_eq (tgt := 248) hx hb dX13_readLine_235 (by decide) (fun c1303 => absurd c1303 (by decide)) (fun c1303 => ?_)
          refine lv_iload_n hx hb dX13_readLine_238 rfl (lv_at hl 1 rfl) ?_
          refine lv_iconst (v := 2) hx hb dX13_readLine_239 (by decide) ?_
          refine lv_icmp_eq (tgt := 248) hx hb dX13_readLine_240 (by decide) (fun c1304 => ?_) (fun c1304 => absurd (by decide) c1304)
          refine lv_aload_n hx hb dX13_readLine_248 rfl (lv_at hl 2 rfl) ?_
          refine hp_get (v := .int (z1287)) hx hb hts hown hZ ho1288 fl_X13_83 rfl dX13_readLine_249 ?_
          refine lv_iconst (v := 3) hx hb dX13_readLine_252 (by decide) ?_
          refine lv_icmp_eq (tgt := 262) hx hb dX13_readLine_253 (by decide) (fun c1305 => ?_) (fun c1305 => ?_)
          · have c1305 : (z1287).toInt = (3 : Int) := hq_eqi.mp c1305
            have b1306 := sp_h_3 (sp_k w (j + 1))
            have hk19 : sp_k w (j + 1) = 19 := by omega
            have hlt1 := sp_tok_let (w := w) (j := j + 1) hk19
            have hsz1 : sp_sz w (j + 1) = sp_e w (j + 1) - sp_s w (j + 1) - 2 := rfl
            have hbe1 := hp1289.2.2.2 (by omega)
            refine lv_iload_n hx hb dX13_readLine_262 rfl (lv_at hl 1 rfl) ?_
            refine lv_iconst (v := 4) hx hb dX13_readLine_263 (by decide) ?_
            refine lv_icmp_ne (tgt := 282) hx hb dX13_readLine_264 (by decide) (fun c1307 => ?_) (fun c1307 => absurd c1307 (by decide))
            refine lv_iload_n hx hb dX13_readLine_282 rfl (lv_at hl 1 rfl) ?_
            refine lv_iconst (v := 1) hx hb dX13_readLine_283 (by decide) ?_
            refine lv_icmp_eq (tgt := 306) hx hb dX13_readLine_284 (by decide) (fun c1308 => absurd c1308 (by decide)) (fun c1308 => ?_)
            refine lv_aload_n hx hb dX13_readLine_287 rfl (lv_at hl 2 rfl) ?_
            refine hp_get (v := .int (z1286)) hx hb hts hown hZ ho1288 fl_X13_76 rfl dX13_readLine_288 ?_
            refine lv_aload_n hx hb dX13_readLine_291 rfl (lv_at hl 2 rfl) ?_
            refine hp_get (v := .int (z1285)) hx hb hts hown hZ ho1288 fl_X13_60 rfl dX13_readLine_292 ?_
            refine lv_isub hx hb dX13_readLine_295 ?_
            refine lv_topi (fun y1309 ey1310 => ?_)
            obtain ⟨k1311, hk1312, b1313, b1314⟩ := hq_sub (z1286) (z1285)
            rw [← ey1310] at hk1312 b1313 b1314
            have hk1312 : (y1309).toInt = (z1286).toInt - (z1285).toInt + k1311 * 4294967296 := hk1312
            obtain rfl : k1311 = 0 := by omega
            refine lv_iconst (v := 2) hx hb dX13_readLine_296 (by decide) ?_
            refine lv_icmp_ne (tgt := 306) hx hb dX13_readLine_297 (by decide) (fun c1315 => ?_) (fun c1315 => ?_)
            · have c1315 : ¬ (y1309).toInt = (2 : Int) := fun h9 => c1315 (hq_eqi.mpr h9)
              have hn2 : ¬ sp_e w (j + 1) - sp_s w (j + 1) = 2 := by omega
              refine lv_aload_n hx hb dX13_readLine_306 rfl (lv_at hl 2 rfl) ?_
              refine hp_get (v := .ref (q + 14)) hx hb hts hown hZ ho1288 fl_X13_41 rfl dX13_readLine_307 ?_
              refine lv_iload_n hx hb dX13_readLine_310 rfl (lv_at hl 0 rfl) ?_
              refine lv_aload_n hx hb dX13_readLine_311 rfl (lv_at hl 2 rfl) ?_
              refine lv_aload_n hx hb dX13_readLine_312 rfl (lv_at hl 2 rfl) ?_
              refine hp_get (v := .ref (q + 5)) hx hb hts hown hZ ho1288 fl_X13_23 rfl dX13_readLine_313 ?_
              refine lv_iload_n hx hb dX13_readLine_316 rfl (lv_at hl 0 rfl) ?_
              have wl1316 : hm_WL (y1151).toNatClampNeg rh rh1171 := by rw [hrh1172]; exact wl0.put (Or.inl ⟨by decide, rfl⟩)
              have wl1317 : hm_WL (y1151).toNatClampNeg rh rh1188 := by rw [hrh1189]; exact wl1316.put (Or.inl ⟨by decide, rfl⟩)
              have wl1318 : hm_WL (y1151).toNatClampNeg rh rh1205 := by rw [hrh1206]; exact wl1317.put (Or.inl ⟨by decide, rfl⟩)
              have wl1319 : hm_WL (y1151).toNatClampNeg rh rh1222 := by rw [hrh1223]; exact wl1318.put (Or.inl ⟨by decide, rfl⟩)
              have wl1320 : hm_WL (y1151).toNatClampNeg rh rh1239 := by rw [hrh1240]; exact wl1319.put (Or.inl ⟨by decide, rfl⟩)
              have wl1321 : hm_WL (y1151).toNatClampNeg rh rh1256 := by rw [hrh1257]; exact wl1320.put (Or.inl ⟨by decide, rfl⟩)
              have wl1322 : hm_WL (y1151).toNatClampNeg rh rh1273 := by rw [hrh1274]; exact wl1321.put (Or.inl ⟨by decide, rfl⟩)
              have pk1323 := pk1278.keep (fr1284 (q + 20) (hq_tne (hr_20 hR) hmo (by simp)))
              have pk1324 := pk1275.keep (fun x7 (hx7 : q ≤ x7 ∧ x7 < q + 19) => fr1284 x7 (by omega))
              refine hp_calli (hp_runV (As := [.ref (q + 5), .int (y1151)]) (rest := [.int (y1151), .ref (q + 14)]) hx hb hml hown hts (y_takeLetters5 l D cs B G V1279 n hP.1 (q) (mo) (w) (rh1273) (j + 1) (m_tp) (m_sz) (z1285) (z1286) (z1287) (m_ft) (m_fa) (m_le) (m_fo) (m_as) (m_fd) (m_bc) (m_bg) (m_bs) (m_be) (m_b0) (m_b1) (m_cm) (m_hc) (y1151)  ho1288 pk1323 pk1324 hR hmo hmq (by omega) hp1289 hk19 (by omega)) hZ ho1288 cv_X13_198 rfl rfl ⟨Nat.le_of_ble_eq_true rfl, Nat.le_of_ble_eq_true rfl⟩ rfl hl.1 rfl (Nat.le_of_ble_eq_true rfl) dX13_readLine_317 ⟨(Nat.le_of_ble_eq_true rfl), (Nat.le_of_ble_eq_true rfl)⟩) hZ (fun r1328 V1325 n1326 _ _ hw1327 hZ => ?_)
              obtain ⟨rfl, hq1329, fr1330, z1331, z1332, z1333, u1334, ho1335, hp1336, hp1337, hp1338, hp1339, hp1340, hp1341⟩ := hw1327
              have b1342 := hq_rng z1331
              have b1343 := hq_rng z1332
              have b1344 := hq_rng z1333
              have hP := hP.trans hq1329 (fun _ h => Bool.noConfusion h)
              have b1345 := hq_rng r1328
              have wl1346 := wl1322.l hp1339 (Or.inl rfl)
              have hH1347 := hH1276.trans hp1341
              obtain ⟨b1348, b1349, b1350, -⟩ := id hp1337
              obtain ⟨rf1351, hrf1352⟩ : ∃ f : Nat → Int32, f = u1334 14 := ⟨_, rfl⟩
              have ea1353 : V1325 (q + 14) = some (.inl (cs 1, 120, .inl (rf1351))) := by rw [hrf1352]; exact hp1338 14 (by decide)
              have hra1354 := hq_rg hP.1 (hr_14 hR) ea1353
              refine hp_iast hx hb hZ ea1353 (hq_in (by omega) (by omega)) dX13_readLine_320 (fun V1355 _ _ e1356 o1357 hZ => ?_)
              have e1356 : V1355 (q + 14) = some (.inl (cs 1, 120, .inl (upd (rf1351) ((y1151 : Int32).toNatClampNeg) (r1328)))) := e1356
              have hP := hP.put (hr_14 hR) e1356 o1357 (hq_c21 (by omega) (hq_upd hra1354 (show 0 ≤ _ ∧ _ ≤ 8 by constructor <;> omega))) rfl
              obtain ⟨g1358, ge1359⟩ : ∃ g9 : Nat → Int32, g9 = upd (rf1351) ((y1151 : Int32).toNatClampNeg) (r1328) := ⟨_, rfl⟩
              have fx1360 : V1355 (q + 14) = some (.inl (cs 1, 120, .inl (g1358))) := by rw [ge1359]; exact e1356
              have hf1361 := hq_rg hP.1 (hr_14 hR) fx1360
              obtain ⟨rh1362, hrh1363⟩ : ∃ r9 : hm_Rh, r9 = hm_u2 u1334 14 (y1151 : Int32).toNatClampNeg ((r1328 : Int32)) := ⟨_, rfl⟩
              have pk1364 : hm_AR cs V1355 q rh1362 := by rw [hrh1363]; exact hp1338.put (a := 14) (by decide) (by rw [ge1359, hrf1352]) fx1360 o1357
              have hH1365 : hm_H rh rh1362 := by rw [hrh1363]; exact hH1347.put (show 60 ≤ (y1151 : Int32).toNatClampNeg by have h8 := (hq_nn (z := y1151) (by omega)).1; omega)
              refine lv_iload_n hx hb dX13_readLine_321 rfl (lv_at hl 1 rfl) ?_
              refine lv_if_eq (tgt := 330) hx hb dX13_readLine_322 (by decide) (fun c1366 => absurd c1366 (by decide)) (fun c1366 => ?_)
              refine lv_iload_n hx hb dX13_readLine_325 rfl (lv_at hl 1 rfl) ?_
              refine lv_iconst (v := 2) hx hb dX13_readLine_326 (by decide) ?_
              refine lv_icmp_ne (tgt := 365) hx hb dX13_readLine_327 (by decide) (fun c1367 => absurd (by decide) c1367) (fun c1367 => ?_)
              refine lv_aload_n hx hb dX13_readLine_330 rfl (lv_at hl 2 rfl) ?_
              refine va_ldcS (tx := (hp_so.getD 5 ("", 0, "")).2.2) (q := cs (100 + 5)) hx hb hown (hZ.2.2.2.2.2.2.2.2.2.2 5 (by decide)) dX13_readLine_331 ?_
              have fx1368 : V1355 (mo) = some (.inr (13, hm_o q (m_tp) (m_sz) (z1331) (z1332) (z1333) (m_ft) (m_fa) (m_le) (m_fo) (m_as) (m_fd) (m_bc) (m_bg) (m_bs) (m_be) (m_b0) (m_b1) (m_cm) (m_hc))) := (o1357 (mo) (hq_tne hmo (hr_14 hR) (by simp))).trans (ho1335)
              have pk1369 := pk1323.keep ((o1357 (q + 20) (hq_tne (hr_20 hR) (hr_14 hR) (by simp))).trans (fr1330 (q + 20) (hq_tne (hr_20 hR) hmo (by simp)) (by omega)))
              refine hq_callx (hq_runV (As := [.ref (cs (100 + 5))]) (rest := []) hx hb hml hown hts (y_need l D cs B G V1355 n hP.1 (q) (mo) (w) (j + 1 + 1) (5) (9) (9) (m_tp) (m_sz) (z1331) (z1332) (z1333) (m_ft) (m_fa) (m_le) (m_fo) (m_as) (m_fd) (m_bc) (m_bg) (m_bs) (m_be) (m_b0) (m_b1) (m_cm) (m_hc)  fx1368 pk1369 hR hmo hmq (by omega) hp1337 (by decide) (by decide) rfl (by decide) rfl) hZ fx1368 cv_X13_172 rfl rfl ⟨Nat.le_of_ble_eq_true rfl, Nat.le_of_ble_eq_true rfl⟩ rfl hl.1 rfl (Nat.le_of_ble_eq_true rfl) dX13_readLine_333 ⟨(Nat.le_of_ble_eq_true rfl), (Nat.le_of_ble_eq_true rfl)⟩) hZ hnx hlocks (by rintro x9 V9x n9 ⟨rfl, rfl, hqx, frx, zx1376, zx1377, zx1378, zx1379, zx1380, hox1381, hpx1382⟩; have b1383 := hq_rng zx1376; have b1384 := hq_rng zx1377; have b1385 := hq_rng zx1378; have b1386 := hq_rng zx1379; have b1387 := hq_rng zx1380; obtain ⟨ht91, ht92, ht93⟩ := sp_take_F hpx1382; obtain ⟨hc91, hc92⟩ := sp_chg_c (w := w) (j := j + 1) hk19 hn2 ht91; have hc93 : sp_s w (sp_chg w (j + 1)).2 = sp_s w (j + 1 + 1) := (by rw [hc92]); have pk1388 := pk1364.keep (fun x7 (hx7 : q ≤ x7 ∧ x7 < q + 19) => frx x7 (by omega)); exact ⟨rfl, rfl, hP.trans hqx (fun _ h => Bool.noConfusion h), (fun x8 hne0 hne1 => (frx x8 hne0).trans ((o1357 x8 (by omega)).trans ((fr1330 x8 hne0 hne1).trans ((fr1284 x8 hne0).trans ((o1267 x8 (by omega)).trans ((o1250 x8 (by omega)).trans ((o1233 x8 (by omega)).trans ((o1216 x8 (by omega)).trans ((o1199 x8 (by omega)).trans ((o1182 x8 (by omega)).trans (o1165 x8 (by omega)))))))))))), zx1376, zx1377, zx1378, zx1379, zx1380, rh1362, hox1381, (by unfold sp_tl sp_line; (try dsimp only); (repeat (first | (rw [if_pos]; rotate_left; omega) | (rw [if_neg]; rotate_left; omega))); (try dsimp only); exact ⟨by omega, by omega, by omega⟩), pk1388, hH1365⟩) (fun v9 V1370 n1371 _ _ hw1372 hZ => ?_)
              obtain ⟨rfl, rfl, hq1374, fr1375, z1389, z1390, z1391, ho1392, hp1393⟩ := hw1372
              refine W.eq (g2 := F0 m 336 ls []) rfl ?_
              have b1394 := hq_rng z1389
              have b1395 := hq_rng z1390
              have b1396 := hq_rng z1391
              have hP := hP.trans hq1374 (fun _ h => Bool.noConfusion h)
              obtain ⟨b1397, hA1398⟩ := hp1393
              obtain ⟨hto1, hto2⟩ := sp_take_j (w := w) (d := 9) (j := j + 1 + 1) b1397
              rw [hto1] at hA1398
              have hA1399 : hm_A w (j + 1 + 2) _ _ _ := hA1398
              obtain ⟨b1400, b1401, b1402, -⟩ := id hA1399
              refine lv_aload_n hx hb dX13_readLine_336 rfl (lv_at hl 2 rfl) ?_
              refine hp_get (v := .int (z1391)) hx hb hts hown hZ ho1392 fl_X13_83 rfl dX13_readLine_337 ?_
              refine lv_iconst (v := 3) hx hb dX13_readLine_340 (by decide) ?_
              refine lv_icmp_eq (tgt := 350) hx hb dX13_readLine_341 (by decide) (fun c1403 => ?_) (fun c1403 => ?_)
              · have c1403 : (z1391).toInt = (3 : Int) := hq_eqi.mp c1403
                have b1404 := sp_h_3 (sp_k w (j + 1 + 2))
                have hk19b : sp_k w (j + 1 + 2) = 19 := by omega
                have hlt2 := sp_tok_let (w := w) (j := j + 1 + 2) hk19b
                have hsz2 : sp_sz w (j + 1 + 2) = sp_e w (j + 1 + 2) - sp_s w (j + 1 + 2) - 2 := rfl
                refine lv_aload_n hx hb dX13_readLine_350 rfl (lv_at hl 2 rfl) ?_
                refine hp_get (v := .ref (q + 15)) hx hb hts hown hZ ho1392 fl_X13_44 rfl dX13_readLine_351 ?_
                refine lv_iload_n hx hb dX13_readLine_354 rfl (lv_at hl 0 rfl) ?_
                refine lv_aload_n hx hb dX13_readLine_355 rfl (lv_at hl 2 rfl) ?_
                refine lv_aload_n hx hb dX13_readLine_356 rfl (lv_at hl 2 rfl) ?_
                refine hp_get (v := .ref (q + 6)) hx hb hts hown hZ ho1392 fl_X13_26 rfl dX13_readLine_357 ?_
                refine lv_iload_n hx hb dX13_readLine_360 rfl (lv_at hl 0 rfl) ?_
                have wl1405 : hm_WL (y1151).toNatClampNeg rh rh1362 := by rw [hrh1363]; exact wl1346.put (Or.inl ⟨by decide, rfl⟩)
                have pk1406 := pk1369.keep (fr1375 (q + 20) (hq_tne (hr_20 hR) hmo (by simp)))
                have pk1407 := pk1364.keep (fun x7 (hx7 : q ≤ x7 ∧ x7 < q + 19) => fr1375 x7 (by omega))
                refine hp_calli (hp_runV (As := [.ref (q + 6), .int (y1151)]) (rest := [.int (y1151), .ref (q + 15)]) hx hb hml hown hts (y_takeLetters6 l D cs B G V1370 n hP.1 (q) (mo) (w) (rh1362) (j + 1 + 2) (m_tp) (m_sz) (z1389) (z1390) (z1391) (m_ft) (m_fa) (m_le) (m_fo) (m_as) (m_fd) (m_bc) (m_bg) (m_bs) (m_be) (m_b0) (m_b1) (m_cm) (m_hc) (y1151)  ho1392 pk1406 pk1407 hR hmo hmq (by omega) hA1399 hk19b (by omega)) hZ ho1392 cv_X13_198 rfl rfl ⟨Nat.le_of_ble_eq_true rfl, Nat.le_of_ble_eq_true rfl⟩ rfl hl.1 rfl (Nat.le_of_ble_eq_true rfl) dX13_readLine_361 ⟨(Nat.le_of_ble_eq_true rfl), (Nat.le_of_ble_eq_true rfl)⟩) hZ (fun r1411 V1408 n1409 _ _ hw1410 hZ => ?_)
                obtain ⟨rfl, hq1412, fr1413, z1414, z1415, z1416, u1417, ho1418, hp1419, hp1420, hp1421, hp1422, hp1423, hp1424⟩ := hw1410
                have b1425 := hq_rng z1414
                have b1426 := hq_rng z1415
                have b1427 := hq_rng z1416
                have hP := hP.trans hq1412 (fun _ h => Bool.noConfusion h)
                have b1428 := hq_rng r1411
                have wl1429 := wl1405.l hp1422 (Or.inr rfl)
                have hH1430 := hH1365.trans hp1424
                obtain ⟨b1431, b1432, b1433, -⟩ := id hp1420
                obtain ⟨rf1434, hrf1435⟩ : ∃ f : Nat → Int32, f = u1417 15 := ⟨_, rfl⟩
                have ea1436 : V1408 (q + 15) = some (.inl (cs 1, 120, .inl (rf1434))) := by rw [hrf1435]; exact hp1421 15 (by decide)
                have hra1437 := hq_rg hP.1 (hr_15 hR) ea1436
                refine hp_iast hx hb hZ ea1436 (hq_in (by omega) (by omega)) dX13_readLine_364 (fun V1438 _ _ e1439 o1440 hZ => ?_)
                have e1439 : V1438 (q + 15) = some (.inl (cs 1, 120, .inl (upd (rf1434) ((y1151 : Int32).toNatClampNeg) (r1411)))) := e1439
                have hP := hP.put (hr_15 hR) e1439 o1440 (hq_c21 (by omega) (hq_upd hra1437 (show 0 ≤ _ ∧ _ ≤ 8 by constructor <;> omega))) rfl
                obtain ⟨g1441, ge1442⟩ : ∃ g9 : Nat → Int32, g9 = upd (rf1434) ((y1151 : Int32).toNatClampNeg) (r1411) := ⟨_, rfl⟩
                have fx1443 : V1438 (q + 15) = some (.inl (cs 1, 120, .inl (g1441))) := by rw [ge1442]; exact e1439
                have hf1444 := hq_rg hP.1 (hr_15 hR) fx1443
                obtain ⟨rh1445, hrh1446⟩ : ∃ r9 : hm_Rh, r9 = hm_u2 u1417 15 (y1151 : Int32).toNatClampNeg ((r1411 : Int32)) := ⟨_, rfl⟩
                have pk1447 : hm_AR cs V1438 q rh1445 := by rw [hrh1446]; exact hp1421.put (a := 15) (by decide) (by rw [ge1442, hrf1435]) fx1443 o1440
                have hH1448 : hm_H rh rh1445 := by rw [hrh1446]; exact hH1430.put (show 60 ≤ (y1151 : Int32).toNatClampNeg by have h8 := (hq_nn (z := y1151) (by omega)).1; omega)
                refine lv_iload_n hx hb dX13_readLine_365 rfl (lv_at hl 1 rfl) ?_
                refine lv_iconst (v := 2) hx hb dX13_readLine_366 (by decide) ?_
                refine lv_icmp_ne (tgt := 390) hx hb dX13_readLine_367 (by decide) (fun c1449 => absurd (by decide) c1449) (fun c1449 => ?_)
                refine lv_aload_n hx hb dX13_readLine_370 rfl (lv_at hl 2 rfl) ?_
                refine va_ldcS (tx := (hp_so.getD 8 ("", 0, "")).2.2) (q := cs (100 + 8)) hx hb hown (hZ.2.2.2.2.2.2.2.2.2.2 8 (by decide)) dX13_readLine_371 ?_
                have fx1450 : V1438 (mo) = some (.inr (13, hm_o q (m_tp) (m_sz) (z1414) (z1415) (z1416) (m_ft) (m_fa) (m_le) (m_fo) (m_as) (m_fd) (m_bc) (m_bg) (m_bs) (m_be) (m_b0) (m_b1) (m_cm) (m_hc))) := (o1440 (mo) (hq_tne hmo (hr_15 hR) (by simp))).trans (ho1418)
                have pk1451 := pk1406.keep ((o1440 (q + 20) (hq_tne (hr_20 hR) (hr_15 hR) (by simp))).trans (fr1413 (q + 20) (hq_tne (hr_20 hR) hmo (by simp)) (by omega)))
                refine hp_calli (hp_runV (As := [.ref (cs (100 + 8))]) (rest := []) hx hb hml hown hts (y_is l D cs B G V1438 n hP.1 (q) (mo) (w) (j + 1 + 2 + 1) (8) (10) (m_tp) (m_sz) (z1414) (z1415) (z1416) (m_ft) (m_fa) (m_le) (m_fo) (m_as) (m_fd) (m_bc) (m_bg) (m_bs) (m_be) (m_b0) (m_b1) (m_cm) (m_hc)  fx1450 pk1451 hR hmo (by omega) hp1420 (by decide) (by decide) rfl) hZ fx1450 cv_X13_103 rfl rfl ⟨Nat.le_of_ble_eq_true rfl, Nat.le_of_ble_eq_true rfl⟩ rfl hl.1 rfl (Nat.le_of_ble_eq_true rfl) dX13_readLine_373 ⟨(Nat.le_of_ble_eq_true rfl), (Nat.le_of_ble_eq_true rfl)⟩) hZ (fun r1455 V1452 n1453 _ _ hw1454 hZ => ?_)
                obtain ⟨rfl, rfl, hp1458⟩ := hw1454
                have b1459 := hq_rng r1455
                refine lv_if_eq (tgt := 390) hx hb dX13_readLine_376 (by decide) (fun c1460 => ?_) (fun c1460 => ?_)
                · have c1460 : (r1455).toInt = (0 : Int) := hq_eqi.mp c1460
                  have b1461 : ¬ sp_k w (j + 1 + 2 + 1) = 10 := by have h9 := hp1458; omega
                  refine lv_aload_n hx hb dX13_readLine_390 rfl (lv_at hl 2 rfl) ?_
                  refine hp_get (v := .ref (q + 2)) hx hb hts hown hZ fx1450 fl_X13_10 rfl dX13_readLine_391 ?_
                  refine lv_iconst (v := 1) hx hb dX13_readLine_394 (by decide) ?_
                  refine lv_dup2_11 hx hb dX13_readLine_395 rfl rfl ?_
                  obtain ⟨rf1462, hrf1463⟩ : ∃ f : Nat → Int32, f = rh1445 2 := ⟨_, rfl⟩
                  have ea1464 : V1438 (q + 2) = some (.inl (cs 1, 2, .inl (rf1462))) := by rw [hrf1463]; exact pk1447 2 (by decide)
                  have hra1465 := hq_rg hP.1 (hr_2 hR) ea1464
                  refine hp_iald hx hb hZ ea1464 (by unfold vp_in; decide) dX13_readLine_396 ?_
                  refine lv_topi (fun y1466 ey1467 => ?_)
                  have b1468 : hq_ir (hq_lo 8) (hq_hi 8) y1466 := by rw [ey1467]; exact hra1465 _ (by decide)
                  have b1468 : 0 ≤ (y1466).toInt ∧ (y1466).toInt ≤ 60 := b1468
                  have b1469 : (y1466).toInt = (lz.length : Int) := by rw [ey1467, hrf1463, hrh1446, hm_u2a (by decide), hp1422 2 _ (fun g9 => absurd g9.1 (by decide)), hrh1363, hm_u2a (by decide), hp1339 2 _ (fun g9 => absurd g9.1 (by decide)), hrh1274, hm_u2a (by decide), hrh1257, hm_u2a (by decide), hrh1240, hm_u2a (by decide), hrh1223, hm_u2a (by decide), hrh1206, hm_u2a (by decide), hrh1189, hm_u2a (by decide), hrh1172, hm_u2a (by decide)]; exact hcl
                  refine lv_iconst (v := 1) hx hb dX13_readLine_397 (by decide) ?_
                  refine lv_iadd hx hb dX13_readLine_398 ?_
                  refine lv_topi (fun y1470 ey1471 => ?_)
                  obtain ⟨k1472, hk1473, b1474, b1475⟩ := hq_add (y1466) (1)
                  rw [← ey1471] at hk1473 b1474 b1475
                  have hk1473 : (y1470).toInt = (y1466).toInt + (1 : Int) + k1472 * 4294967296 := hk1473
                  obtain rfl : k1472 = 0 := by omega
                  refine hp_iast hx hb hZ ea1464 (by unfold vp_in; decide) dX13_readLine_399 (fun V1476 _ _ e1477 o1478 hZ => ?_)
                  have e1477 : V1476 (q + 2) = some (.inl (cs 1, 2, .inl (upd (rf1462) ((1 : Int32).toNatClampNeg) (y1470)))) := e1477
                  have hP := hP.put (hr_2 hR) e1477 o1478 (hq_c21 (by omega) (hq_upd hra1465 (show 0 ≤ _ ∧ _ ≤ 60 by constructor <;> omega))) rfl
                  obtain ⟨g1479, ge1480⟩ : ∃ g9 : Nat → Int32, g9 = upd (rf1462) ((1 : Int32).toNatClampNeg) (y1470) := ⟨_, rfl⟩
                  have fx1481 : V1476 (q + 2) = some (.inl (cs 1, 2, .inl (g1479))) := by rw [ge1480]; exact e1477
                  have hf1482 := hq_rg hP.1 (hr_2 hR) fx1481
                  obtain ⟨rh1483, hrh1484⟩ : ∃ r9 : hm_Rh, r9 = hm_u2 rh1445 2 (1 : Int32).toNatClampNeg ((y1470 : Int32)) := ⟨_, rfl⟩
                  have pk1485 : hm_AR cs V1476 q rh1483 := by rw [hrh1484]; exact pk1447.put (a := 2) (by decide) (by rw [ge1480, hrf1463]) fx1481 o1478
                  have hH1486 : hm_H rh rh1483 := by rw [hrh1484]; exact hH1448.put (show 1 ≤ (1 : Int32).toNatClampNeg by have h8 := (hq_nn (z := 1) (by omega)).1; omega)
                  have wl1487 : hm_WL (y1151).toNatClampNeg rh rh1445 := by rw [hrh1446]; exact wl1429.put (Or.inl ⟨by decide, rfl⟩)
                  have wl1488 : hm_WL (y1151).toNatClampNeg rh rh1483 := by rw [hrh1484]; exact wl1487.put (Or.inr ⟨rfl, rfl⟩)
                  have hl1489 : (2 : Int32).toInt = 2 := by decide
                  have hl1490 : (1 : Int32).toInt = 1 := by decide
                  obtain ⟨hc91, hc92⟩ := sp_chg_e (w := w) (j := j + 1) hk19 hn2 hto2 hk19b
                  obtain ⟨hla1, hla2⟩ := sp_last_n (w := w) (j := j + 1 + 2 + 1) (by omega)
                  have hla3 : sp_last w (sp_chg w (j + 1)).2 = sp_last w (j + 1 + 2 + 1) := by rw [hc92]
                  rw [← hla3] at hla1 hla2
                  have fx1491 : V1476 (mo) = some (.inr (13, hm_o q (m_tp) (m_sz) (z1414) (z1415) (z1416) (m_ft) (m_fa) (m_le) (m_fo) (m_as) (m_fd) (m_bc) (m_bg) (m_bs) (m_be) (m_b0) (m_b1) (m_cm) (m_hc))) := (o1478 (mo) (hq_tne hmo (hr_2 hR) (by simp))).trans (fx1450)
                  exact hq_vret hx hb hr hlocks hZ ⟨rfl, rfl, hP, (fun x8 hne0 hne1 => (o1478 x8 (by omega)).trans ((o1440 x8 (by omega)).trans ((fr1413 x8 hne0 hne1).trans ((fr1375 x8 hne0).trans ((o1357 x8 (by omega)).trans ((fr1330 x8 hne0 hne1).trans ((fr1284 x8 hne0).trans ((o1267 x8 (by omega)).trans ((o1250 x8 (by omega)).trans ((o1233 x8 (by omega)).trans ((o1216 x8 (by omega)).trans ((o1199 x8 (by omega)).trans ((o1182 x8 (by omega)).trans (o1165 x8 (by omega))))))))))))))), z1414, z1415, z1416, rh1483, fx1491, (by unfold sp_tl sp_line; (try dsimp only); (repeat (first | (rw [if_pos]; rotate_left; omega) | (rw [if_neg]; rotate_left; omega))); (try dsimp only); exact ⟨by first | rfl | omega, (by rw [hla1]; exact hp1420), (by rw [← hL9]; exact ⟨by rw [hrh1484, hm_u2a (by decide), hrh1446, hm_u2a (by decide), hp1422 10 _ (fun g9 => absurd g9.1 (by decide)), hrh1363, hm_u2a (by decide), hp1339 10 _ (fun g9 => absurd g9.1 (by decide)), hrh1274, hm_u2a (by decide), hrh1257, hm_u2a (by decide), hrh1240, hm_u2a (by decide), hrh1223, hm_u2a (by decide), hrh1206, hm_u2a (by decide), hrh1189, hm_u2a (by decide), hrh1172, hm_u2e]; first | omega | (dsimp only; omega), by rw [hrh1484, hm_u2a (by decide), hrh1446, hm_u2a (by decide), hp1422 11 _ (fun g9 => absurd g9.1 (by decide)), hrh1363, hm_u2a (by decide), hp1339 11 _ (fun g9 => absurd g9.1 (by decide)), hrh1274, hm_u2a (by decide), hrh1257, hm_u2a (by decide), hrh1240, hm_u2a (by decide), hrh1223, hm_u2a (by decide), hrh1206, hm_u2a (by decide), hrh1189, hm_u2e]; first | omega | (dsimp only; omega), by rw [hrh1484, hm_u2a (by decide), hrh1446, hm_u2a (by decide), hp1422 12 _ (fun g9 => absurd g9.1 (by decide)), hrh1363, hm_u2a (by decide), hp1339 12 _ (fun g9 => absurd g9.1 (by decide)), hrh1274, hm_u2a (by decide), hrh1257, hm_u2a (by decide), hrh1240, hm_u2a (by decide), hrh1223, hm_u2a (by decide), hrh1206, hm_u2e]; first | omega | (dsimp only; omega), by rw [hrh1484, hm_u2a (by decide), hrh1446, hm_u2a (by decide), hp1422 13 _ (fun g9 => absurd g9.1 (by decide)), hrh1363, hm_u2a (by decide), hp1339 13 _ (fun g9 => absurd g9.1 (by decide)), hrh1274, hm_u2a (by decide), hrh1257, hm_u2a (by decide), hrh1240, hm_u2a (by decide), hrh1223, hm_u2e]; first | omega | (dsimp only; omega), by rw [hrh1484, hm_u2a (by decide), hrh1446, hm_u2a (by decide), hp1422 16 _ (fun g9 => absurd g9.1 (by decide)), hrh1363, hm_u2a (by decide), hp1339 16 _ (fun g9 => absurd g9.1 (by decide)), hrh1274, hm_u2e]; first | omega | (dsimp only; omega), ⟨by rw [hrh1484, hm_u2a (by decide), hrh1446, hm_u2a (by decide), hp1422 14 _ (fun g9 => absurd g9.1 (by decide)), hrh1363, hm_u2e]; first | omega | (dsimp only; omega), by first | omega | (dsimp only; omega), fun k9 hk9 => by rw [hrh1484, hm_u2a (by decide), hrh1446, hm_u2a (by decide), hp1422 5 _ (fun g9 => absurd g9.1 (by decide)), hrh1363, hm_u2a (by decide)]; exact hp1340 k9 hk9⟩, ⟨by rw [hrh1484, hm_u2a (by decide), hrh1446, hm_u2e]; first | omega | (dsimp only; omega), by first | omega | (dsimp only; omega), fun k9 hk9 => by rw [hrh1484, hm_u2a (by decide), hrh1446, hm_u2a (by decide)]; exact hp1423 k9 hk9⟩⟩), by omega, by show (rh1483 2 (1 : Int32).toNatClampNeg).toInt = _; rw [hrh1484, hm_u2e]; omega⟩), pk1485, (by rw [← hL9]; exact wl1488), hH1486⟩ dX13_readLine_400
                · have c1460 : ¬ (r1455).toInt = (0 : Int) := fun h9 => c1460 (hq_eqi.mpr h9)
                  have b1492 : sp_k w (j + 1 + 2 + 1) = 10 := by have h9 := hp1458; omega
                  refine lv_aload_n hx hb dX13_readLine_379 rfl (lv_at hl 2 rfl) ?_
                  refine hp_get (v := .ref (q + 16)) hx hb hts hown hZ fx1450 fl_X13_47 rfl dX13_readLine_380 ?_
                  refine lv_iload_n hx hb dX13_readLine_383 rfl (lv_at hl 0 rfl) ?_
                  refine lv_iconst (v := 1) hx hb dX13_readLine_384 (by decide) ?_
                  obtain ⟨rf1493, hrf1494⟩ : ∃ f : Nat → Int32, f = rh1445 16 := ⟨_, rfl⟩
                  have ea1495 : V1438 (q + 16) = some (.inl (cs 1, 120, .inl (rf1493))) := by rw [hrf1494]; exact pk1447 16 (by decide)
                  have hra1496 := hq_rg hP.1 (hr_16 hR) ea1495
                  refine hp_iast hx hb hZ ea1495 (hq_in (by omega) (by omega)) dX13_readLine_385 (fun V1497 _ _ e1498 o1499 hZ => ?_)
                  have e1498 : V1497 (q + 16) = some (.inl (cs 1, 120, .inl (upd (rf1493) ((y1151 : Int32).toNatClampNeg) (1)))) := e1498
                  have hl1500 : (1 : Int32).toInt = 1 := by decide
                  have hP := hP.put (hr_16 hR) e1498 o1499 (hq_c21 (by omega) (hq_upd hra1496 (show 0 ≤ _ ∧ _ ≤ 29 by constructor <;> omega))) rfl
                  obtain ⟨g1501, ge1502⟩ : ∃ g9 : Nat → Int32, g9 = upd (rf1493) ((y1151 : Int32).toNatClampNeg) (1) := ⟨_, rfl⟩
                  have fx1503 : V1497 (q + 16) = some (.inl (cs 1, 120, .inl (g1501))) := by rw [ge1502]; exact e1498
                  have hf1504 := hq_rg hP.1 (hr_16 hR) fx1503
                  obtain ⟨rh1505, hrh1506⟩ : ∃ r9 : hm_Rh, r9 = hm_u2 rh1445 16 (y1151 : Int32).toNatClampNeg ((1 : Int32)) := ⟨_, rfl⟩
                  have pk1507 : hm_AR cs V1497 q rh1505 := by rw [hrh1506]; exact pk1447.put (a := 16) (by decide) (by rw [ge1502, hrf1494]) fx1503 o1499
                  have hH1508 : hm_H rh rh1505 := by rw [hrh1506]; exact hH1448.put (show 60 ≤ (y1151 : Int32).toNatClampNeg by have h8 := (hq_nn (z := y1151) (by omega)).1; omega)
                  refine lv_aload_n hx hb dX13_readLine_386 rfl (lv_at hl 2 rfl) ?_
                  have fx1509 : V1497 (mo) = some (.inr (13, hm_o q (m_tp) (m_sz) (z1414) (z1415) (z1416) (m_ft) (m_fa) (m_le) (m_fo) (m_as) (m_fd) (m_bc) (m_bg) (m_bs) (m_be) (m_b0) (m_b1) (m_cm) (m_hc))) := (o1499 (mo) (hq_tne hmo (hr_16 hR) (by simp))).trans (fx1450)
                  have pk1510 := pk1451.keep (o1499 (q + 20) (hq_tne (hr_20 hR) (hr_16 hR) (by simp)))
                  refine hp_callv (hp_runV (As := []) (rest := []) hx hb hml hown hts (y_next l D cs B G V1497 n hP.1 (q) (mo) (w) (j + 1 + 2 + 1) (m_tp) (m_sz) (z1414) (z1415) (z1416) (m_ft) (m_fa) (m_le) (m_fo) (m_as) (m_fd) (m_bc) (m_bg) (m_bs) (m_be) (m_b0) (m_b1) (m_cm) (m_hc)  fx1509 pk1510 hR hmo hmq (by omega) hp1420 (by omega)) hZ fx1509 cv_X13_111 rfl rfl ⟨Nat.le_of_ble_eq_true rfl, Nat.le_of_ble_eq_true rfl⟩ rfl hl.1 rfl (Nat.le_of_ble_eq_true rfl) dX13_readLine_387 ⟨(Nat.le_of_ble_eq_true rfl), (Nat.le_of_ble_eq_true rfl)⟩) hZ (fun V1511 n1512 _ _ hw1513 hZ => ?_)
                  obtain ⟨rfl, hq1515, fr1516, z1517, z1518, z1519, ho1520, hp1521, hp1522⟩ := hw1513
                  have b1523 := hq_rng z1517
                  have b1524 := hq_rng z1518
                  have b1525 := hq_rng z1519
                  have hP := hP.trans hq1515 (fun _ h => Bool.noConfusion h)
                  have hA1526 : hm_A w (j + 1 + 2 + 2) _ _ _ := hp1521
                  obtain ⟨b1527, b1528, b1529, -⟩ := id hA1526
                  refine lv_aload_n hx hb dX13_readLine_390 rfl (lv_at hl 2 rfl) ?_
                  refine hp_get (v := .ref (q + 2)) hx hb hts hown hZ ho1520 fl_X13_10 rfl dX13_readLine_391 ?_
                  refine lv_iconst (v := 1) hx hb dX13_readLine_394 (by decide) ?_
                  refine lv_dup2_11 hx hb dX13_readLine_395 rfl rfl ?_
                  have pk1534 := pk1507.keep (fun x7 (hx7 : q ≤ x7 ∧ x7 < q + 19) => fr1516 x7 (by omega))
                  obtain ⟨rf1530, hrf1531⟩ : ∃ f : Nat → Int32, f = rh1505 2 := ⟨_, rfl⟩
                  have ea1532 : V1511 (q + 2) = some (.inl (cs 1, 2, .inl (rf1530))) := by rw [hrf1531]; exact pk1534 2 (by decide)
                  have hra1533 := hq_rg hP.1 (hr_2 hR) ea1532
                  refine hp_iald hx hb hZ ea1532 (by unfold vp_in; decide) dX13_readLine_396 ?_
                  refine lv_topi (fun y1535 ey1536 => ?_)
                  have b1537 : hq_ir (hq_lo 8) (hq_hi 8) y1535 := by rw [ey1536]; exact hra1533 _ (by decide)
                  have b1537 : 0 ≤ (y1535).toInt ∧ (y1535).toInt ≤ 60 := b1537
                  have b1538 : (y1535).toInt = (lz.length : Int) := by rw [ey1536, hrf1531, hrh1506, hm_u2a (by decide), hrh1446, hm_u2a (by decide), hp1422 2 _ (fun g9 => absurd g9.1 (by decide)), hrh1363, hm_u2a (by decide), hp1339 2 _ (fun g9 => absurd g9.1 (by decide)), hrh1274, hm_u2a (by decide), hrh1257, hm_u2a (by decide), hrh1240, hm_u2a (by decide), hrh1223, hm_u2a (by decide), hrh1206, hm_u2a (by decide), hrh1189, hm_u2a (by decide), hrh1172, hm_u2a (by decide)]; exact hcl
                  refine lv_iconst (v := 1) hx hb dX13_readLine_397 (by decide) ?_
                  refine lv_iadd hx hb dX13_readLine_398 ?_
                  refine lv_topi (fun y1539 ey1540 => ?_)
                  obtain ⟨k1541, hk1542, b1543, b1544⟩ := hq_add (y1535) (1)
                  rw [← ey1540] at hk1542 b1543 b1544
                  have hk1542 : (y1539).toInt = (y1535).toInt + (1 : Int) + k1541 * 4294967296 := hk1542
                  obtain rfl : k1541 = 0 := by omega
                  refine hp_iast hx hb hZ ea1532 (by unfold vp_in; decide) dX13_readLine_399 (fun V1545 _ _ e1546 o1547 hZ => ?_)
                  have e1546 : V1545 (q + 2) = some (.inl (cs 1, 2, .inl (upd (rf1530) ((1 : Int32).toNatClampNeg) (y1539)))) := e1546
                  have hP := hP.put (hr_2 hR) e1546 o1547 (hq_c21 (by omega) (hq_upd hra1533 (show 0 ≤ _ ∧ _ ≤ 60 by constructor <;> omega))) rfl
                  obtain ⟨g1548, ge1549⟩ : ∃ g9 : Nat → Int32, g9 = upd (rf1530) ((1 : Int32).toNatClampNeg) (y1539) := ⟨_, rfl⟩
                  have fx1550 : V1545 (q + 2) = some (.inl (cs 1, 2, .inl (g1548))) := by rw [ge1549]; exact e1546
                  have hf1551 := hq_rg hP.1 (hr_2 hR) fx1550
                  obtain ⟨rh1552, hrh1553⟩ : ∃ r9 : hm_Rh, r9 = hm_u2 rh1505 2 (1 : Int32).toNatClampNeg ((y1539 : Int32)) := ⟨_, rfl⟩
                  have pk1554 : hm_AR cs V1545 q rh1552 := by rw [hrh1553]; exact pk1534.put (a := 2) (by decide) (by rw [ge1549, hrf1531]) fx1550 o1547
                  have hH1555 : hm_H rh rh1552 := by rw [hrh1553]; exact hH1508.put (show 1 ≤ (1 : Int32).toNatClampNeg by have h8 := (hq_nn (z := 1) (by omega)).1; omega)
                  have wl1556 : hm_WL (y1151).toNatClampNeg rh rh1445 := by rw [hrh1446]; exact wl1429.put (Or.inl ⟨by decide, rfl⟩)
                  have wl1557 : hm_WL (y1151).toNatClampNeg rh rh1505 := by rw [hrh1506]; exact wl1556.put (Or.inl ⟨by decide, rfl⟩)
                  have wl1558 : hm_WL (y1151).toNatClampNeg rh rh1552 := by rw [hrh1553]; exact wl1557.put (Or.inr ⟨rfl, rfl⟩)
                  have hl1559 : (2 : Int32).toInt = 2 := by decide
                  have hl1560 : (1 : Int32).toInt = 1 := by decide
                  obtain ⟨hc91, hc92⟩ := sp_chg_e (w := w) (j := j + 1) hk19 hn2 hto2 hk19b
                  obtain ⟨hla1, hla2⟩ := sp_last_y (w := w) (j := j + 1 + 2 + 1) (by omega)
                  have hla3 : sp_last w (sp_chg w (j + 1)).2 = sp_last w (j + 1 + 2 + 1) := by rw [hc92]
                  rw [← hla3] at hla1 hla2
                  have fx1561 : V1545 (mo) = some (.inr (13, hm_o q (m_tp) (m_sz) (z1517) (z1518) (z1519) (m_ft) (m_fa) (m_le) (m_fo) (m_as) (m_fd) (m_bc) (m_bg) (m_bs) (m_be) (m_b0) (m_b1) (m_cm) (m_hc))) := (o1547 (mo) (hq_tne hmo (hr_2 hR) (by simp))).trans (ho1520)
                  exact hq_vret hx hb hr hlocks hZ ⟨rfl, rfl, hP, (fun x8 hne0 hne1 => (o1547 x8 (by omega)).trans ((fr1516 x8 hne0).trans ((o1499 x8 (by omega)).trans ((o1440 x8 (by omega)).trans ((fr1413 x8 hne0 hne1).trans ((fr1375 x8 hne0).trans ((o1357 x8 (by omega)).trans ((fr1330 x8 hne0 hne1).trans ((fr1284 x8 hne0).trans ((o1267 x8 (by omega)).trans ((o1250 x8 (by omega)).trans ((o1233 x8 (by omega)).trans ((o1216 x8 (by omega)).trans ((o1199 x8 (by omega)).trans ((o1182 x8 (by omega)).trans (o1165 x8 (by omega))))))))))))))))), z1517, z1518, z1519, rh1552, fx1561, (by unfold sp_tl sp_line; (try dsimp only); (repeat (first | (rw [if_pos]; rotate_left; omega) | (rw [if_neg]; rotate_left; omega))); (try dsimp only); exact ⟨by first | rfl | omega, (by rw [hla1]; exact hA1526), (by rw [← hL9]; exact ⟨by rw [hrh1553, hm_u2a (by decide), hrh1506, hm_u2a (by decide), hrh1446, hm_u2a (by decide), hp1422 10 _ (fun g9 => absurd g9.1 (by decide)), hrh1363, hm_u2a (by decide), hp1339 10 _ (fun g9 => absurd g9.1 (by decide)), hrh1274, hm_u2a (by decide), hrh1257, hm_u2a (by decide), hrh1240, hm_u2a (by decide), hrh1223, hm_u2a (by decide), hrh1206, hm_u2a (by decide), hrh1189, hm_u2a (by decide), hrh1172, hm_u2e]; first | omega | (dsimp only; omega), by rw [hrh1553, hm_u2a (by decide), hrh1506, hm_u2a (by decide), hrh1446, hm_u2a (by decide), hp1422 11 _ (fun g9 => absurd g9.1 (by decide)), hrh1363, hm_u2a (by decide), hp1339 11 _ (fun g9 => absurd g9.1 (by decide)), hrh1274, hm_u2a (by decide), hrh1257, hm_u2a (by decide), hrh1240, hm_u2a (by decide), hrh1223, hm_u2a (by decide), hrh1206, hm_u2a (by decide), hrh1189, hm_u2e]; first | omega | (dsimp only; omega), by rw [hrh1553, hm_u2a (by decide), hrh1506, hm_u2a (by decide), hrh1446, hm_u2a (by decide), hp1422 12 _ (fun g9 => absurd g9.1 (by decide)), hrh1363, hm_u2a (by decide), hp1339 12 _ (fun g9 => absurd g9.1 (by decide)), hrh1274, hm_u2a (by decide), hrh1257, hm_u2a (by decide), hrh1240, hm_u2a (by decide), hrh1223, hm_u2a (by decide), hrh1206, hm_u2e]; first | omega | (dsimp only; omega), by rw [hrh1553, hm_u2a (by decide), hrh1506, hm_u2a (by decide), hrh1446, hm_u2a (by decide), hp1422 13 _ (fun g9 => absurd g9.1 (by decide)), hrh1363, hm_u2a (by decide), hp1339 13 _ (fun g9 => absurd g9.1 (by decide)), hrh1274, hm_u2a (by decide), hrh1257, hm_u2a (by decide), hrh1240, hm_u2a (by decide), hrh1223, hm_u2e]; first | omega | (dsimp only; omega), by rw [hrh1553, hm_u2a (by decide), hrh1506, hm_u2e]; first | omega | (dsimp only; omega), ⟨by rw [hrh1553, hm_u2a (by decide), hrh1506, hm_u2a (by decide), hrh1446, hm_u2a (by decide), hp1422 14 _ (fun g9 => absurd g9.1 (by decide)), hrh1363, hm_u2e]; first | omega | (dsimp only; omega), by first | omega | (dsimp only; omega), fun k9 hk9 => by rw [hrh1553, hm_u2a (by decide), hrh1506, hm_u2a (by decide), hrh1446, hm_u2a (by decide), hp1422 5 _ (fun g9 => absurd g9.1 (by decide)), hrh1363, hm_u2a (by decide)]; exact hp1340 k9 hk9⟩, ⟨by rw [hrh1553, hm_u2a (by decide), hrh1506, hm_u2a (by decide), hrh1446, hm_u2e]; first | omega | (dsimp only; omega), by first | omega | (dsimp only; omega), fun k9 hk9 => by rw [hrh1553, hm_u2a (by decide), hrh1506, hm_u2a (by decide), hrh1446, hm_u2a (by decide)]; exact hp1423 k9 hk9⟩⟩), by omega, by show (rh1552 2 (1 : Int32).toNatClampNeg).toInt = _; rw [hrh1553, hm_u2e]; omega⟩), pk1554, (by rw [← hL9]; exact wl1558), hH1555⟩ dX13_readLine_400
              · have c1403 : ¬ (z1391).toInt = (3 : Int) := fun h9 => c1403 (hq_eqi.mpr h9)
                have b1562 := sp_h_3 (sp_k w (j + 1 + 2))
                obtain ⟨b1563, hj1564⟩ := sp_chg_d (w := w) (j := j + 1) hk19 hn2 hto2 (by omega)
                have b1565 : sp_s w (sp_chg w (j + 1)).2 = sp_s w (j + 1 + 2) := by rw [hj1564]
                refine lv_aload_n hx hb dX13_readLine_344 rfl (lv_at hl 2 rfl) ?_
                refine lv_iconst (v := 1) hx hb dX13_readLine_345 (by decide) ?_
                have hl1566 : (1 : Int32).toInt = 1 := by decide
                refine hp_callq (hp_runV (As := [.int (1)]) (rest := []) hx hb hml hown hts (y_wrong l D cs B G V1370 n hP.1 (q) (mo) (m_tp) (m_sz) (z1389) (z1390) (z1391) (m_ft) (m_fa) (m_le) (m_fo) (m_as) (m_fd) (m_bc) (m_bg) (m_bs) (m_be) (m_b0) (m_b1) (m_cm) (m_hc) (1)  ho1392  hR hmo hmq) hZ ho1392 cv_X13_107 rfl rfl ⟨Nat.le_of_ble_eq_true rfl, Nat.le_of_ble_eq_true rfl⟩ rfl hl.1 rfl (Nat.le_of_ble_eq_true rfl) dX13_readLine_346 ⟨(Nat.le_of_ble_eq_true rfl), (Nat.le_of_ble_eq_true rfl)⟩) hZ (fun r1570 V1567 n1568 _ _ hw1569 hZ => ?_)
                obtain ⟨rfl, hq1571, fr1572, ho1573, hp1574⟩ := hw1569
                have hP := hP.trans hq1571 (fun _ h => Bool.noConfusion h)
                subst hp1574
                refine W.eq (g2 := F0 m 349 ls [.ref (q + 19)]) rfl ?_
                have hl1575 : (1 : Int32).toInt = 1 := by decide
                have pk1576 := pk1364.keep (fun x7 (hx7 : q ≤ x7 ∧ x7 < q + 19) => (fr1572 x7 (by omega)).trans (fr1375 x7 (by omega)))
                exact hq_athrow hx hb hnx hlocks hZ ⟨rfl, rfl, hP, (fun x8 hne0 hne1 => (fr1572 x8 hne0).trans ((fr1375 x8 hne0).trans ((o1357 x8 (by omega)).trans ((fr1330 x8 hne0 hne1).trans ((fr1284 x8 hne0).trans ((o1267 x8 (by omega)).trans ((o1250 x8 (by omega)).trans ((o1233 x8 (by omega)).trans ((o1216 x8 (by omega)).trans ((o1199 x8 (by omega)).trans ((o1182 x8 (by omega)).trans (o1165 x8 (by omega))))))))))))), z1389, z1390, z1391, 1, z1389, rh1362, ho1573, (by unfold sp_tl sp_line; (try dsimp only); (repeat (first | (rw [if_pos]; rotate_left; omega) | (rw [if_neg]; rotate_left; omega))); (try dsimp only); exact ⟨by omega, by omega, by omega⟩), pk1576, hH1365⟩ dX13_readLine_349
            · have c1315 : (y1309).toInt = (2 : Int) := hq_eqi.mp c1315
              obtain ⟨b1577, hj1578⟩ := sp_chg_b (w := w) (j := j + 1) hk19 (by omega)
              have b1579 : sp_s w (sp_chg w (j + 1)).2 = sp_s w (j + 1) := by rw [hj1578]
              refine lv_aload_n hx hb dX13_readLine_300 rfl (lv_at hl 2 rfl) ?_
              refine lv_iconst (v := 5) hx hb dX13_readLine_301 (by decide) ?_
              have hl1580 : (5 : Int32).toInt = 5 := by decide
              refine hp_callq (hp_runV (As := [.int (5)]) (rest := []) hx hb hml hown hts (y_wrong l D cs B G V1279 n hP.1 (q) (mo) (m_tp) (m_sz) (z1285) (z1286) (z1287) (m_ft) (m_fa) (m_le) (m_fo) (m_as) (m_fd) (m_bc) (m_bg) (m_bs) (m_be) (m_b0) (m_b1) (m_cm) (m_hc) (5)  ho1288  hR hmo hmq) hZ ho1288 cv_X13_107 rfl rfl ⟨Nat.le_of_ble_eq_true rfl, Nat.le_of_ble_eq_true rfl⟩ rfl hl.1 rfl (Nat.le_of_ble_eq_true rfl) dX13_readLine_302 ⟨(Nat.le_of_ble_eq_true rfl), (Nat.le_of_ble_eq_true rfl)⟩) hZ (fun r1584 V1581 n1582 _ _ hw1583 hZ => ?_)
              obtain ⟨rfl, hq1585, fr1586, ho1587, hp1588⟩ := hw1583
              have hP := hP.trans hq1585 (fun _ h => Bool.noConfusion h)
              subst hp1588
              refine W.eq (g2 := F0 m 305 ls [.ref (q + 19)]) rfl ?_
              have hl1589 : (5 : Int32).toInt = 5 := by decide
              have pk1590 := pk1275.keep (fun x7 (hx7 : q ≤ x7 ∧ x7 < q + 19) => (fr1586 x7 (by omega)).trans (fr1284 x7 (by omega)))
              exact hq_athrow hx hb hnx hlocks hZ ⟨rfl, rfl, hP, (fun x8 hne0 hne1 => (fr1586 x8 hne0).trans ((fr1284 x8 hne0).trans ((o1267 x8 (by omega)).trans ((o1250 x8 (by omega)).trans ((o1233 x8 (by omega)).trans ((o1216 x8 (by omega)).trans ((o1199 x8 (by omega)).trans ((o1182 x8 (by omega)).trans (o1165 x8 (by omega)))))))))), z1285, z1286, z1287, 5, z1285, rh1273, ho1587, (by unfold sp_tl sp_line; (try dsimp only); (repeat (first | (rw [if_pos]; rotate_left; omega) | (rw [if_neg]; rotate_left; omega))); (try dsimp only); exact ⟨by omega, by omega, by omega⟩), pk1590, hH1276⟩ dX13_readLine_305
          · have c1305 : ¬ (z1287).toInt = (3 : Int) := fun h9 => c1305 (hq_eqi.mpr h9)
            have b1591 := sp_h_3 (sp_k w (j + 1))
            obtain ⟨b1592, hj1593⟩ := sp_chg_a (w := w) (j := j + 1) (by omega)
            have b1594 : sp_s w (sp_chg w (j + 1)).2 = sp_s w (j + 1) := by rw [hj1593]
            refine lv_aload_n hx hb dX13_readLine_256 rfl (lv_at hl 2 rfl) ?_
            refine lv_iconst (v := 1) hx hb dX13_readLine_257 (by decide) ?_
            have hl1595 : (1 : Int32).toInt = 1 := by decide
            refine hp_callq (hp_runV (As := [.int (1)]) (rest := []) hx hb hml hown hts (y_wrong l D cs B G V1279 n hP.1 (q) (mo) (m_tp) (m_sz) (z1285) (z1286) (z1287) (m_ft) (m_fa) (m_le) (m_fo) (m_as) (m_fd) (m_bc) (m_bg) (m_bs) (m_be) (m_b0) (m_b1) (m_cm) (m_hc) (1)  ho1288  hR hmo hmq) hZ ho1288 cv_X13_107 rfl rfl ⟨Nat.le_of_ble_eq_true rfl, Nat.le_of_ble_eq_true rfl⟩ rfl hl.1 rfl (Nat.le_of_ble_eq_true rfl) dX13_readLine_258 ⟨(Nat.le_of_ble_eq_true rfl), (Nat.le_of_ble_eq_true rfl)⟩) hZ (fun r1599 V1596 n1597 _ _ hw1598 hZ => ?_)
            obtain ⟨rfl, hq1600, fr1601, ho1602, hp1603⟩ := hw1598
            have hP := hP.trans hq1600 (fun _ h => Bool.noConfusion h)
            subst hp1603
            refine W.eq (g2 := F0 m 261 ls [.ref (q + 19)]) rfl ?_
            have hl1604 : (1 : Int32).toInt = 1 := by decide
            have pk1605 := pk1275.keep (fun x7 (hx7 : q ≤ x7 ∧ x7 < q + 19) => (fr1601 x7 (by omega)).trans (fr1284 x7 (by omega)))
            exact hq_athrow hx hb hnx hlocks hZ ⟨rfl, rfl, hP, (fun x8 hne0 hne1 => (fr1601 x8 hne0).trans ((fr1284 x8 hne0).trans ((o1267 x8 (by omega)).trans ((o1250 x8 (by omega)).trans ((o1233 x8 (by omega)).trans ((o1216 x8 (by omega)).trans ((o1199 x8 (by omega)).trans ((o1182 x8 (by omega)).trans (o1165 x8 (by omega)))))))))), z1285, z1286, z1287, 1, z1285, rh1273, ho1602, (by unfold sp_tl sp_line; (try dsimp only); (repeat (first | (rw [if_pos]; rotate_left; omega) | (rw [if_neg]; rotate_left; omega))); (try dsimp only); exact ⟨by omega, by omega, by omega⟩), pk1605, hH1276⟩ dX13_readLine_261
        · have c1146 : (y1142).toInt = (60 : Int) := hq_eqi.mp c1146
          refine lv_aload_n hx hb dX13_readLine_102 rfl (lv_at hl 1 rfl) ?_
          refine lv_iconst (v := 4) hx hb dX13_readLine_103 (by decide) ?_
          have hl1606 : (4 : Int32).toInt = 4 := by decide
          refine hp_callq (hp_runV (As := [.int (4)]) (rest := []) hx hb hml hown hts (y_wrong l D cs B G V n hP.1 (q) (mo) (m_tp) (m_sz) (m_fr) (m_bh) (m_hd) (m_ft) (m_fa) (m_le) (m_fo) (m_as) (m_fd) (m_bc) (m_bg) (m_bs) (m_be) (m_b0) (m_b1) (m_cm) (m_hc) (4)  hc0  hR hmo hmq) hZ hc0 cv_X13_107 rfl rfl ⟨Nat.le_of_ble_eq_true rfl, Nat.le_of_ble_eq_true rfl⟩ rfl hl.1 rfl (Nat.le_of_ble_eq_true rfl) dX13_readLine_104 ⟨(Nat.le_of_ble_eq_true rfl), (Nat.le_of_ble_eq_true rfl)⟩) hZ (fun r1610 V1607 n1608 _ _ hw1609 hZ => ?_)
          obtain ⟨rfl, hq1611, fr1612, ho1613, hp1614⟩ := hw1609
          have hP := hP.trans hq1611 (fun _ h => Bool.noConfusion h)
          subst hp1614
          refine W.eq (g2 := F0 m 107 ls [.ref (q + 19)]) rfl ?_
          have hl1615 : (4 : Int32).toInt = 4 := by decide
          have pk1616 := hp1.keep (fun x7 (hx7 : q ≤ x7 ∧ x7 < q + 19) => fr1612 x7 (by omega))
          exact hq_athrow hx hb hnx hlocks hZ ⟨rfl, rfl, hP, (fun x8 hne0 hne1 => fr1612 x8 hne0), m_fr, m_bh, m_hd, 4, m_fr, rh, ho1613, (by unfold sp_tl sp_line; (try dsimp only); (repeat (first | (rw [if_pos]; rotate_left; omega) | (rw [if_neg]; rotate_left; omega))); (try dsimp only); exact ⟨by omega, by omega, by omega⟩), pk1616, hH0⟩ dX13_readLine_107
    · have c22 : ¬ (r17).toInt = (0 : Int) := fun h9 => c22 (hq_eqi.mpr h9)
      have b1617 : sp_k w (j) = 1 := by have h9 := hp20; omega
      refine lv_iconst (v := 1) hx hb dX13_readLine_22 (by decide) ?_
      refine lv_goto (tgt := 79) hx hb dX13_readLine_23 (by decide) ?_
      refine lv_istore_n (lv' := [(1, .int (1)), (0, .ref (mo))]) hx hb dX13_readLine_79 rfl hl (by decide) rfl (fun ls hl => ?_)
      refine lv_iload_n hx hb dX13_readLine_80 rfl (lv_at hl 0 rfl) ?_
      refine lv_iconst (v := -1) hx hb dX13_readLine_81 (by decide) ?_
      refine lv_icmp_ne (tgt := 91) hx hb dX13_readLine_82 (by decide) (fun c1618 => ?_) (fun c1618 => absurd c1618 (by decide))
      refine lv_aload_n hx hb dX13_readLine_91 rfl (lv_at hl 1 rfl) ?_
      refine hp_get (v := .ref (q + 2)) hx hb hts hown hZ hc0 fl_X13_10 rfl dX13_readLine_92 ?_
      refine lv_iconst (v := 1) hx hb dX13_readLine_95 (by decide) ?_
      obtain ⟨rf1619, hrf1620⟩ : ∃ f : Nat → Int32, f = rh 2 := ⟨_, rfl⟩
      have ea1621 : V (q + 2) = some (.inl (cs 1, 2, .inl (rf1619))) := by rw [hrf1620]; exact hp1 2 (by decide)
      have hra1622 := hq_rg hP.1 (hr_2 hR) ea1621
      refine hp_iald hx hb hZ ea1621 (by unfold vp_in; decide) dX13_readLine_96 ?_
      refine lv_topi (fun y1623 ey1624 => ?_)
      have b1625 : hq_ir (hq_lo 8) (hq_hi 8) y1623 := by rw [ey1624]; exact hra1622 _ (by decide)
      have b1625 : 0 ≤ (y1623).toInt ∧ (y1623).toInt ≤ 60 := b1625
      have b1626 : (y1623).toInt = (lz.length : Int) := by rw [ey1624, hrf1620]; exact hcl
      refine lv_bipush (v := 60) hx hb dX13_readLine_97 (by decide) ?_
      refine lv_icmp_ne (tgt := 108) hx hb dX13_readLine_99 (by decide) (fun c1627 => ?_) (fun c1627 => ?_)
      · have c1627 : ¬ (y1623).toInt = (60 : Int) := fun h9 => c1627 (hq_eqi.mpr h9)
        refine lv_bipush (v := 60) hx hb dX13_readLine_108 (by decide) ?_
        refine lv_aload_n hx hb dX13_readLine_110 rfl (lv_at hl 1 rfl) ?_
        refine hp_get (v := .ref (q + 2)) hx hb hts hown hZ hc0 fl_X13_10 rfl dX13_readLine_111 ?_
        refine lv_iconst (v := 1) hx hb dX13_readLine_114 (by decide) ?_
        refine hp_iald hx hb hZ ea1621 (by unfold vp_in; decide) dX13_readLine_115 ?_
        refine lv_topi (fun y1628 ey1629 => ?_)
        have b1630 : hq_ir (hq_lo 8) (hq_hi 8) y1628 := by rw [ey1629]; exact hra1622 _ (by decide)
        have b1630 : 0 ≤ (y1628).toInt ∧ (y1628).toInt ≤ 60 := b1630
        have b1631 : (y1628).toInt = (lz.length : Int) := by rw [ey1629, hrf1620]; exact hcl
        refine lv_iadd hx hb dX13_readLine_116 ?_
        refine lv_topi (fun y1632 ey1633 => ?_)
        obtain ⟨k1634, hk1635, b1636, b1637⟩ := hq_add (60) (y1628)
        rw [← ey1633] at hk1635 b1636 b1637
        have hk1635 : (y1632).toInt = (60 : Int) + (y1628).toInt + k1634 * 4294967296 := hk1635
        obtain rfl : k1634 = 0 := by omega
        refine lv_istore_n (lv' := [(2, .int (y1632)), (1, .int (1)), (0, .ref (mo))]) hx hb dX13_readLine_117 rfl hl (by decide) rfl (fun ls hl => ?_)
        have hL9 : (y1632).toNatClampNeg = 60 + lz.length := by have h8 := (hq_nn (z := y1632) (by omega)).1; omega
        have wl0 : hm_WL (y1632).toNatClampNeg rh rh := hm_WL.rf
        have hl1638 : (-1 : Int32).toInt = -1 := by decide
        have hl1639 : (0 : Int32).toInt = 0 := by decide
        refine lv_aload_n hx hb dX13_readLine_118 rfl (lv_at hl 2 rfl) ?_
        refine hp_get (v := .ref (q + 10)) hx hb hts hown hZ hc0 fl_X13_29 rfl dX13_readLine_119 ?_
        refine lv_iload_n hx hb dX13_readLine_122 rfl (lv_at hl 0 rfl) ?_
        refine lv_iload_n hx hb dX13_readLine_123 rfl (lv_at hl 1 rfl) ?_
        obtain ⟨rf1640, hrf1641⟩ : ∃ f : Nat → Int32, f = rh 10 := ⟨_, rfl⟩
        have ea1642 : V (q + 10) = some (.inl (cs 1, 120, .inl (rf1640))) := by rw [hrf1641]; exact hp1 10 (by decide)
        have hra1643 := hq_rg hP.1 (hr_10 hR) ea1642
        refine hp_iast hx hb hZ ea1642 (hq_in (by omega) (by omega)) dX13_readLine_124 (fun V1644 _ _ e1645 o1646 hZ => ?_)
        have e1645 : V1644 (q + 10) = some (.inl (cs 1, 120, .inl (upd (rf1640) ((y1632 : Int32).toNatClampNeg) (1)))) := e1645
        have hl1647 : (1 : Int32).toInt = 1 := by decide
        have hP := hP.put (hr_10 hR) e1645 o1646 (hq_c21 (by omega) (hq_upd hra1643 (hq_rng _))) rfl
        obtain ⟨g1648, ge1649⟩ : ∃ g9 : Nat → Int32, g9 = upd (rf1640) ((y1632 : Int32).toNatClampNeg) (1) := ⟨_, rfl⟩
        have fx1650 : V1644 (q + 10) = some (.inl (cs 1, 120, .inl (g1648))) := by rw [ge1649]; exact e1645
        have hf1651 := hq_rg hP.1 (hr_10 hR) fx1650
        obtain ⟨rh1652, hrh1653⟩ : ∃ r9 : hm_Rh, r9 = hm_u2 rh 10 (y1632 : Int32).toNatClampNeg ((1 : Int32)) := ⟨_, rfl⟩
        have pk1654 : hm_AR cs V1644 q rh1652 := by rw [hrh1653]; exact hp1.put (a := 10) (by decide) (by rw [ge1649, hrf1641]) fx1650 o1646
        have hH1655 : hm_H rh rh1652 := by rw [hrh1653]; exact hH0.put (show 60 ≤ (y1632 : Int32).toNatClampNeg by have h8 := (hq_nn (z := y1632) (by omega)).1; omega)
        refine lv_aload_n hx hb dX13_readLine_125 rfl (lv_at hl 2 rfl) ?_
        have fx1656 : V1644 (mo) = some (.inr (13, hm_o q (m_tp) (m_sz) (m_fr) (m_bh) (m_hd) (m_ft) (m_fa) (m_le) (m_fo) (m_as) (m_fd) (m_bc) (m_bg) (m_bs) (m_be) (m_b0) (m_b1) (m_cm) (m_hc))) := (o1646 (mo) (hq_tne hmo (hr_10 hR) (by simp))).trans (hc0)
        refine hp_get (v := .ref (q + 11)) hx hb hts hown hZ fx1656 fl_X13_32 rfl dX13_readLine_126 ?_
        refine lv_iload_n hx hb dX13_readLine_129 rfl (lv_at hl 0 rfl) ?_
        refine lv_iconst (v := -1) hx hb dX13_readLine_130 (by decide) ?_
        obtain ⟨rf1657, hrf1658⟩ : ∃ f : Nat → Int32, f = rh1652 11 := ⟨_, rfl⟩
        have ea1659 : V1644 (q + 11) = some (.inl (cs 1, 120, .inl (rf1657))) := by rw [hrf1658]; exact pk1654 11 (by decide)
        have hra1660 := hq_rg hP.1 (hr_11 hR) ea1659
        refine hp_iast hx hb hZ ea1659 (hq_in (by omega) (by omega)) dX13_readLine_131 (fun V1661 _ _ e1662 o1663 hZ => ?_)
        have e1662 : V1661 (q + 11) = some (.inl (cs 1, 120, .inl (upd (rf1657) ((y1632 : Int32).toNatClampNeg) (-1)))) := e1662
        have hl1664 : (-1 : Int32).toInt = -1 := by decide
        have hP := hP.put (hr_11 hR) e1662 o1663 (hq_c21 (by omega) (hq_upd hra1660 (hq_rng _))) rfl
        obtain ⟨g1665, ge1666⟩ : ∃ g9 : Nat → Int32, g9 = upd (rf1657) ((y1632 : Int32).toNatClampNeg) (-1) := ⟨_, rfl⟩
        have fx1667 : V1661 (q + 11) = some (.inl (cs 1, 120, .inl (g1665))) := by rw [ge1666]; exact e1662
        have hf1668 := hq_rg hP.1 (hr_11 hR) fx1667
        obtain ⟨rh1669, hrh1670⟩ : ∃ r9 : hm_Rh, r9 = hm_u2 rh1652 11 (y1632 : Int32).toNatClampNeg ((-1 : Int32)) := ⟨_, rfl⟩
        have pk1671 : hm_AR cs V1661 q rh1669 := by rw [hrh1670]; exact pk1654.put (a := 11) (by decide) (by rw [ge1666, hrf1658]) fx1667 o1663
        have hH1672 : hm_H rh rh1669 := by rw [hrh1670]; exact hH1655.put (show 60 ≤ (y1632 : Int32).toNatClampNeg by have h8 := (hq_nn (z := y1632) (by omega)).1; omega)
        refine lv_aload_n hx hb dX13_readLine_132 rfl (lv_at hl 2 rfl) ?_
        have fx1673 : V1661 (mo) = some (.inr (13, hm_o q (m_tp) (m_sz) (m_fr) (m_bh) (m_hd) (m_ft) (m_fa) (m_le) (m_fo) (m_as) (m_fd) (m_bc) (m_bg) (m_bs) (m_be) (m_b0) (m_b1) (m_cm) (m_hc))) := (o1663 (mo) (hq_tne hmo (hr_11 hR) (by simp))).trans (fx1656)
        refine hp_get (v := .ref (q + 12)) hx hb hts hown hZ fx1673 fl_X13_35 rfl dX13_readLine_133 ?_
        refine lv_iload_n hx hb dX13_readLine_136 rfl (lv_at hl 0 rfl) ?_
        refine lv_iconst (v := -1) hx hb dX13_readLine_137 (by decide) ?_
        obtain ⟨rf1674, hrf1675⟩ : ∃ f : Nat → Int32, f = rh1669 12 := ⟨_, rfl⟩
        have ea1676 : V1661 (q + 12) = some (.inl (cs 1, 120, .inl (rf1674))) := by rw [hrf1675]; exact pk1671 12 (by decide)
        have hra1677 := hq_rg hP.1 (hr_12 hR) ea1676
        refine hp_iast hx hb hZ ea1676 (hq_in (by omega) (by omega)) dX13_readLine_138 (fun V1678 _ _ e1679 o1680 hZ => ?_)
        have e1679 : V1678 (q + 12) = some (.inl (cs 1, 120, .inl (upd (rf1674) ((y1632 : Int32).toNatClampNeg) (-1)))) := e1679
        have hl1681 : (-1 : Int32).toInt = -1 := by decide
        have hP := hP.put (hr_12 hR) e1679 o1680 (hq_c21 (by omega) (hq_upd hra1677 (hq_rng _))) rfl
        obtain ⟨g1682, ge1683⟩ : ∃ g9 : Nat → Int32, g9 = upd (rf1674) ((y1632 : Int32).toNatClampNeg) (-1) := ⟨_, rfl⟩
        have fx1684 : V1678 (q + 12) = some (.inl (cs 1, 120, .inl (g1682))) := by rw [ge1683]; exact e1679
        have hf1685 := hq_rg hP.1 (hr_12 hR) fx1684
        obtain ⟨rh1686, hrh1687⟩ : ∃ r9 : hm_Rh, r9 = hm_u2 rh1669 12 (y1632 : Int32).toNatClampNeg ((-1 : Int32)) := ⟨_, rfl⟩
        have pk1688 : hm_AR cs V1678 q rh1686 := by rw [hrh1687]; exact pk1671.put (a := 12) (by decide) (by rw [ge1683, hrf1675]) fx1684 o1680
        have hH1689 : hm_H rh rh1686 := by rw [hrh1687]; exact hH1672.put (show 60 ≤ (y1632 : Int32).toNatClampNeg by have h8 := (hq_nn (z := y1632) (by omega)).1; omega)
        refine lv_aload_n hx hb dX13_readLine_139 rfl (lv_at hl 2 rfl) ?_
        have fx1690 : V1678 (mo) = some (.inr (13, hm_o q (m_tp) (m_sz) (m_fr) (m_bh) (m_hd) (m_ft) (m_fa) (m_le) (m_fo) (m_as) (m_fd) (m_bc) (m_bg) (m_bs) (m_be) (m_b0) (m_b1) (m_cm) (m_hc))) := (o1680 (mo) (hq_tne hmo (hr_12 hR) (by simp))).trans (fx1673)
        refine hp_get (v := .ref (q + 13)) hx hb hts hown hZ fx1690 fl_X13_38 rfl dX13_readLine_140 ?_
        refine lv_iload_n hx hb dX13_readLine_143 rfl (lv_at hl 0 rfl) ?_
        refine lv_iconst (v := -1) hx hb dX13_readLine_144 (by decide) ?_
        obtain ⟨rf1691, hrf1692⟩ : ∃ f : Nat → Int32, f = rh1686 13 := ⟨_, rfl⟩
        have ea1693 : V1678 (q + 13) = some (.inl (cs 1, 120, .inl (rf1691))) := by rw [hrf1692]; exact pk1688 13 (by decide)
        have hra1694 := hq_rg hP.1 (hr_13 hR) ea1693
        refine hp_iast hx hb hZ ea1693 (hq_in (by omega) (by omega)) dX13_readLine_145 (fun V1695 _ _ e1696 o1697 hZ => ?_)
        have e1696 : V1695 (q + 13) = some (.inl (cs 1, 120, .inl (upd (rf1691) ((y1632 : Int32).toNatClampNeg) (-1)))) := e1696
        have hl1698 : (-1 : Int32).toInt = -1 := by decide
        have hP := hP.put (hr_13 hR) e1696 o1697 (hq_c21 (by omega) (hq_upd hra1694 (hq_rng _))) rfl
        obtain ⟨g1699, ge1700⟩ : ∃ g9 : Nat → Int32, g9 = upd (rf1691) ((y1632 : Int32).toNatClampNeg) (-1) := ⟨_, rfl⟩
        have fx1701 : V1695 (q + 13) = some (.inl (cs 1, 120, .inl (g1699))) := by rw [ge1700]; exact e1696
        have hf1702 := hq_rg hP.1 (hr_13 hR) fx1701
        obtain ⟨rh1703, hrh1704⟩ : ∃ r9 : hm_Rh, r9 = hm_u2 rh1686 13 (y1632 : Int32).toNatClampNeg ((-1 : Int32)) := ⟨_, rfl⟩
        have pk1705 : hm_AR cs V1695 q rh1703 := by rw [hrh1704]; exact pk1688.put (a := 13) (by decide) (by rw [ge1700, hrf1692]) fx1701 o1697
        have hH1706 : hm_H rh rh1703 := by rw [hrh1704]; exact hH1689.put (show 60 ≤ (y1632 : Int32).toNatClampNeg by have h8 := (hq_nn (z := y1632) (by omega)).1; omega)
        refine lv_aload_n hx hb dX13_readLine_146 rfl (lv_at hl 2 rfl) ?_
        have fx1707 : V1695 (mo) = some (.inr (13, hm_o q (m_tp) (m_sz) (m_fr) (m_bh) (m_hd) (m_ft) (m_fa) (m_le) (m_fo) (m_as) (m_fd) (m_bc) (m_bg) (m_bs) (m_be) (m_b0) (m_b1) (m_cm) (m_hc))) := (o1697 (mo) (hq_tne hmo (hr_13 hR) (by simp))).trans (fx1690)
        refine hp_get (v := .ref (q + 14)) hx hb hts hown hZ fx1707 fl_X13_41 rfl dX13_readLine_147 ?_
        refine lv_iload_n hx hb dX13_readLine_150 rfl (lv_at hl 0 rfl) ?_
        refine lv_iconst (v := 0) hx hb dX13_readLine_151 (by decide) ?_
        obtain ⟨rf1708, hrf1709⟩ : ∃ f : Nat → Int32, f = rh1703 14 := ⟨_, rfl⟩
        have ea1710 : V1695 (q + 14) = some (.inl (cs 1, 120, .inl (rf1708))) := by rw [hrf1709]; exact pk1705 14 (by decide)
        have hra1711 := hq_rg hP.1 (hr_14 hR) ea1710
        refine hp_iast hx hb hZ ea1710 (hq_in (by omega) (by omega)) dX13_readLine_152 (fun V1712 _ _ e1713 o1714 hZ => ?_)
        have e1713 : V1712 (q + 14) = some (.inl (cs 1, 120, .inl (upd (rf1708) ((y1632 : Int32).toNatClampNeg) (0)))) := e1713
        have hl1715 : (0 : Int32).toInt = 0 := by decide
        have hP := hP.put (hr_14 hR) e1713 o1714 (hq_c21 (by omega) (hq_upd hra1711 (show 0 ≤ _ ∧ _ ≤ 8 by constructor <;> omega))) rfl
        obtain ⟨g1716, ge1717⟩ : ∃ g9 : Nat → Int32, g9 = upd (rf1708) ((y1632 : Int32).toNatClampNeg) (0) := ⟨_, rfl⟩
        have fx1718 : V1712 (q + 14) = some (.inl (cs 1, 120, .inl (g1716))) := by rw [ge1717]; exact e1713
        have hf1719 := hq_rg hP.1 (hr_14 hR) fx1718
        obtain ⟨rh1720, hrh1721⟩ : ∃ r9 : hm_Rh, r9 = hm_u2 rh1703 14 (y1632 : Int32).toNatClampNeg ((0 : Int32)) := ⟨_, rfl⟩
        have pk1722 : hm_AR cs V1712 q rh1720 := by rw [hrh1721]; exact pk1705.put (a := 14) (by decide) (by rw [ge1717, hrf1709]) fx1718 o1714
        have hH1723 : hm_H rh rh1720 := by rw [hrh1721]; exact hH1706.put (show 60 ≤ (y1632 : Int32).toNatClampNeg by have h8 := (hq_nn (z := y1632) (by omega)).1; omega)
        refine lv_aload_n hx hb dX13_readLine_153 rfl (lv_at hl 2 rfl) ?_
        have fx1724 : V1712 (mo) = some (.inr (13, hm_o q (m_tp) (m_sz) (m_fr) (m_bh) (m_hd) (m_ft) (m_fa) (m_le) (m_fo) (m_as) (m_fd) (m_bc) (m_bg) (m_bs) (m_be) (m_b0) (m_b1) (m_cm) (m_hc))) := (o1714 (mo) (hq_tne hmo (hr_14 hR) (by simp))).trans (fx1707)
        refine hp_get (v := .ref (q + 15)) hx hb hts hown hZ fx1724 fl_X13_44 rfl dX13_readLine_154 ?_
        refine lv_iload_n hx hb dX13_readLine_157 rfl (lv_at hl 0 rfl) ?_
        refine lv_iconst (v := 0) hx hb dX13_readLine_158 (by decide) ?_
        obtain ⟨rf1725, hrf1726⟩ : ∃ f : Nat → Int32, f = rh1720 15 := ⟨_, rfl⟩
        have ea1727 : V1712 (q + 15) = some (.inl (cs 1, 120, .inl (rf1725))) := by rw [hrf1726]; exact pk1722 15 (by decide)
        have hra1728 := hq_rg hP.1 (hr_15 hR) ea1727
        refine hp_iast hx hb hZ ea1727 (hq_in (by omega) (by omega)) dX13_readLine_159 (fun V1729 _ _ e1730 o1731 hZ => ?_)
        have e1730 : V1729 (q + 15) = some (.inl (cs 1, 120, .inl (upd (rf1725) ((y1632 : Int32).toNatClampNeg) (0)))) := e1730
        have hl1732 : (0 : Int32).toInt = 0 := by decide
        have hP := hP.put (hr_15 hR) e1730 o1731 (hq_c21 (by omega) (hq_upd hra1728 (show 0 ≤ _ ∧ _ ≤ 8 by constructor <;> omega))) rfl
        obtain ⟨g1733, ge1734⟩ : ∃ g9 : Nat → Int32, g9 = upd (rf1725) ((y1632 : Int32).toNatClampNeg) (0) := ⟨_, rfl⟩
        have fx1735 : V1729 (q + 15) = some (.inl (cs 1, 120, .inl (g1733))) := by rw [ge1734]; exact e1730
        have hf1736 := hq_rg hP.1 (hr_15 hR) fx1735
        obtain ⟨rh1737, hrh1738⟩ : ∃ r9 : hm_Rh, r9 = hm_u2 rh1720 15 (y1632 : Int32).toNatClampNeg ((0 : Int32)) := ⟨_, rfl⟩
        have pk1739 : hm_AR cs V1729 q rh1737 := by rw [hrh1738]; exact pk1722.put (a := 15) (by decide) (by rw [ge1734, hrf1726]) fx1735 o1731
        have hH1740 : hm_H rh rh1737 := by rw [hrh1738]; exact hH1723.put (show 60 ≤ (y1632 : Int32).toNatClampNeg by have h8 := (hq_nn (z := y1632) (by omega)).1; omega)
        refine lv_aload_n hx hb dX13_readLine_160 rfl (lv_at hl 2 rfl) ?_
        have fx1741 : V1729 (mo) = some (.inr (13, hm_o q (m_tp) (m_sz) (m_fr) (m_bh) (m_hd) (m_ft) (m_fa) (m_le) (m_fo) (m_as) (m_fd) (m_bc) (m_bg) (m_bs) (m_be) (m_b0) (m_b1) (m_cm) (m_hc))) := (o1731 (mo) (hq_tne hmo (hr_15 hR) (by simp))).trans (fx1724)
        refine hp_get (v := .ref (q + 16)) hx hb hts hown hZ fx1741 fl_X13_47 rfl dX13_readLine_161 ?_
        refine lv_iload_n hx hb dX13_readLine_164 rfl (lv_at hl 0 rfl) ?_
        refine lv_iconst (v := 0) hx hb dX13_readLine_165 (by decide) ?_
        obtain ⟨rf1742, hrf1743⟩ : ∃ f : Nat → Int32, f = rh1737 16 := ⟨_, rfl⟩
        have ea1744 : V1729 (q + 16) = some (.inl (cs 1, 120, .inl (rf1742))) := by rw [hrf1743]; exact pk1739 16 (by decide)
        have hra1745 := hq_rg hP.1 (hr_16 hR) ea1744
        refine hp_iast hx hb hZ ea1744 (hq_in (by omega) (by omega)) dX13_readLine_166 (fun V1746 _ _ e1747 o1748 hZ => ?_)
        have e1747 : V1746 (q + 16) = some (.inl (cs 1, 120, .inl (upd (rf1742) ((y1632 : Int32).toNatClampNeg) (0)))) := e1747
        have hl1749 : (0 : Int32).toInt = 0 := by decide
        have hP := hP.put (hr_16 hR) e1747 o1748 (hq_c21 (by omega) (hq_upd hra1745 (show 0 ≤ _ ∧ _ ≤ 29 by constructor <;> omega))) rfl
        obtain ⟨g1750, ge1751⟩ : ∃ g9 : Nat → Int32, g9 = upd (rf1742) ((y1632 : Int32).toNatClampNeg) (0) := ⟨_, rfl⟩
        have fx1752 : V1746 (q + 16) = some (.inl (cs 1, 120, .inl (g1750))) := by rw [ge1751]; exact e1747
        have hf1753 := hq_rg hP.1 (hr_16 hR) fx1752
        obtain ⟨rh1754, hrh1755⟩ : ∃ r9 : hm_Rh, r9 = hm_u2 rh1737 16 (y1632 : Int32).toNatClampNeg ((0 : Int32)) := ⟨_, rfl⟩
        have pk1756 : hm_AR cs V1746 q rh1754 := by rw [hrh1755]; exact pk1739.put (a := 16) (by decide) (by rw [ge1751, hrf1743]) fx1752 o1748
        have hH1757 : hm_H rh rh1754 := by rw [hrh1755]; exact hH1740.put (show 60 ≤ (y1632 : Int32).toNatClampNeg by have h8 := (hq_nn (z := y1632) (by omega)).1; omega)
        refine lv_aload_n hx hb dX13_readLine_167 rfl (lv_at hl 2 rfl) ?_
        have fx1758 : V1746 (mo) = some (.inr (13, hm_o q (m_tp) (m_sz) (m_fr) (m_bh) (m_hd) (m_ft) (m_fa) (m_le) (m_fo) (m_as) (m_fd) (m_bc) (m_bg) (m_bs) (m_be) (m_b0) (m_b1) (m_cm) (m_hc))) := (o1748 (mo) (hq_tne hmo (hr_16 hR) (by simp))).trans (fx1741)
        have pk1759 := hp0.keep ((o1748 (q + 20) (hq_tne (hr_20 hR) (hr_16 hR) (by simp))).trans ((o1731 (q + 20) (hq_tne (hr_20 hR) (hr_15 hR) (by simp))).trans ((o1714 (q + 20) (hq_tne (hr_20 hR) (hr_14 hR) (by simp))).trans ((o1697 (q + 20) (hq_tne (hr_20 hR) (hr_13 hR) (by simp))).trans ((o1680 (q + 20) (hq_tne (hr_20 hR) (hr_12 hR) (by simp))).trans ((o1663 (q + 20) (hq_tne (hr_20 hR) (hr_11 hR) (by simp))).trans (o1646 (q + 20) (hq_tne (hr_20 hR) (hr_10 hR) (by simp)))))))))
        refine hp_callv (hp_runV (As := []) (rest := []) hx hb hml hown hts (y_next l D cs B G V1746 n hP.1 (q) (mo) (w) (j) (m_tp) (m_sz) (m_fr) (m_bh) (m_hd) (m_ft) (m_fa) (m_le) (m_fo) (m_as) (m_fd) (m_bc) (m_bg) (m_bs) (m_be) (m_b0) (m_b1) (m_cm) (m_hc)  fx1758 pk1759 hR hmo hmq (by omega) hA (by omega)) hZ fx1758 cv_X13_111 rfl rfl ⟨Nat.le_of_ble_eq_true rfl, Nat.le_of_ble_eq_true rfl⟩ rfl hl.1 rfl (Nat.le_of_ble_eq_true rfl) dX13_readLine_168 ⟨(Nat.le_of_ble_eq_true rfl), (Nat.le_of_ble_eq_true rfl)⟩) hZ (fun V1760 n1761 _ _ hw1762 hZ => ?_)
        obtain ⟨rfl, hq1764, fr1765, z1766, z1767, z1768, ho1769, hp1770, hp1771⟩ := hw1762
        have b1772 := hq_rng z1766
        have b1773 := hq_rng z1767
        have b1774 := hq_rng z1768
        have hP := hP.trans hq1764 (fun _ h => Bool.noConfusion h)
        obtain ⟨b1775, b1776, b1777, -⟩ := id hp1770
        refine lv_iload_n hx hb dX13_readLine_171 rfl (lv_at hl 1 rfl) ?_
        refine lv_iconst (v := 4) hx hb dX13_readLine_172 (by decide) ?_
        refine lv_icmp_eq (tgt := 181) hx hb dX13_readLine_173 (by decide) (fun c1778 => absurd c1778 (by decide)) (fun c1778 => ?_)
        refine lv_iload_n hx hb dX13_readLine_176 rfl (lv_at hl 1 rfl) ?_
        refine lv_iconst (v := 5) hx hb dX13_readLine_177 (by decide) ?_
        refine lv_icmp_ne (tgt := 194) hx hb dX13_readLine_178 (by decide) (fun c1779 => ?_) (fun c1779 => absurd c1779 (by decide))
        refine lv_iload_n hx hb dX13_readLine_194 rfl (lv_at hl 1 rfl) ?_
        refine lv_iconst (v := 2) hx hb dX13_readLine_195 (by decide) ?_
        refine lv_icmp_eq (tgt := 204) hx hb dX13_readLine_196 (by decide) (fun c1780 => absurd c1780 (by decide)) (fun c1780 => ?_)
        refine lv_aload_n hx hb dX13_readLine_199 rfl (lv_at hl 2 rfl) ?_
        refine lv_iload_n hx hb dX13_readLine_200 rfl (lv_at hl 0 rfl) ?_
        have wl1781 : hm_WL (y1632).toNatClampNeg rh rh1652 := by rw [hrh1653]; exact wl0.put (Or.inl ⟨by decide, rfl⟩)
        have wl1782 : hm_WL (y1632).toNatClampNeg rh rh1669 := by rw [hrh1670]; exact wl1781.put (Or.inl ⟨by decide, rfl⟩)
        have wl1783 : hm_WL (y1632).toNatClampNeg rh rh1686 := by rw [hrh1687]; exact wl1782.put (Or.inl ⟨by decide, rfl⟩)
        have wl1784 : hm_WL (y1632).toNatClampNeg rh rh1703 := by rw [hrh1704]; exact wl1783.put (Or.inl ⟨by decide, rfl⟩)
        have wl1785 : hm_WL (y1632).toNatClampNeg rh rh1720 := by rw [hrh1721]; exact wl1784.put (Or.inl ⟨by decide, rfl⟩)
        have wl1786 : hm_WL (y1632).toNatClampNeg rh rh1737 := by rw [hrh1738]; exact wl1785.put (Or.inl ⟨by decide, rfl⟩)
        have wl1787 : hm_WL (y1632).toNatClampNeg rh rh1754 := by rw [hrh1755]; exact wl1786.put (Or.inl ⟨by decide, rfl⟩)
        have nl1788 : hm_NL rh1754 7 3 6 6 w cl := hCN.keep (fun i _ _ => wl1787 7 i (fun g9 => by omega)) (fun i _ _ => wl1787 3 i (fun g9 => by omega))
        have cn1789 : (rh1754 0 1).toInt = (cl.length : Int) := by rw [wl1787 0 1 (fun g9 => by omega)]; exact hcc
        have b1790 : (rh1754 11 (y1632).toNatClampNeg).toInt = -1 := by rw [hrh1755, hm_u2a (by decide), hrh1738, hm_u2a (by decide), hrh1721, hm_u2a (by decide), hrh1704, hm_u2a (by decide), hrh1687, hm_u2a (by decide), hrh1670, hm_u2e]; decide
        have pk1791 := pk1759.keep (fr1765 (q + 20) (hq_tne (hr_20 hR) hmo (by simp)))
        have pk1792 := pk1756.keep (fun x7 (hx7 : q ≤ x7 ∧ x7 < q + 19) => fr1765 x7 (by omega))
        refine hq_callx (hq_runV (As := [.int (y1632)]) (rest := []) hx hb hml hown hts (y_readWhere l D cs B G V1760 n hP.1 (q) (mo) (w) (rh1754) (j + 1) (cl) (m_tp) (m_sz) (z1766) (z1767) (z1768) (m_ft) (m_fa) (m_le) (m_fo) (m_as) (m_fd) (m_bc) (m_bg) (m_bs) (m_be) (m_b0) (m_b1) (m_cm) (m_hc) (y1632)  ho1769 pk1791 pk1792 hR hmo hmq (by omega) hp1770 nl1788 cn1789 (by omega) b1790) hZ ho1769 cv_X13_185 rfl rfl ⟨Nat.le_of_ble_eq_true rfl, Nat.le_of_ble_eq_true rfl⟩ rfl hl.1 rfl (Nat.le_of_ble_eq_true rfl) dX13_readLine_201 ⟨(Nat.le_of_ble_eq_true rfl), (Nat.le_of_ble_eq_true rfl)⟩) hZ hnx hlocks (by rintro x9 V9x n9 ⟨rfl, rfl, hqx, frx, zx1799, zx1800, zx1801, zx1802, zx1803, zx1804, hox1805, hpx1806, hpx1807, hpx1808⟩; have b1809 := hq_rng zx1799; have b1810 := hq_rng zx1800; have b1811 := hq_rng zx1801; have b1812 := hq_rng zx1802; have b1813 := hq_rng zx1803; exact ⟨rfl, rfl, hP.trans hqx (fun _ h => Bool.noConfusion h), (fun x8 hne0 hne1 => (frx x8 hne0 hne1).trans ((fr1765 x8 hne0).trans ((o1748 x8 (by omega)).trans ((o1731 x8 (by omega)).trans ((o1714 x8 (by omega)).trans ((o1697 x8 (by omega)).trans ((o1680 x8 (by omega)).trans ((o1663 x8 (by omega)).trans (o1646 x8 (by omega)))))))))), zx1799, zx1800, zx1801, zx1802, zx1803, zx1804, hox1805, (by have hk9 := hpx1806.1; unfold sp_tl sp_line; (try dsimp only); (repeat (first | (rw [if_pos]; rotate_left; omega) | (rw [if_neg]; rotate_left; omega))); (try dsimp only); exact hpx1806), hpx1807, (hH1757.trans hpx1808)⟩) (fun v9 V1793 n1794 _ _ hw1795 hZ => ?_)
        obtain ⟨rfl, rfl, hq1797, fr1798, z1814, z1815, z1816, u1817, ho1818, hp1819, hp1820, hp1821⟩ := hw1795
        refine W.eq (g2 := F0 m 204 ls []) rfl ?_
        have b1822 := hq_rng z1814
        have b1823 := hq_rng z1815
        have b1824 := hq_rng z1816
        have hP := hP.trans hq1797 (fun _ h => Bool.noConfusion h)
        obtain ⟨b1825, hA1826, b1827⟩ := hp1819
        obtain ⟨b1828, b1829, b1830, -⟩ := id hA1826
        have wl1831 := wl1787.w hp1821 (by decide)
        have hH1832 := hH1757.trans (hp1821.H (hm_h60 (by decide) (by omega)))
        refine lv_iload_n hx hb dX13_readLine_204 rfl (lv_at hl 1 rfl) ?_
        refine lv_iconst (v := 2) hx hb dX13_readLine_205 (by decide) ?_
        refine lv_icmp_eq (tgt := 219) hx hb dX13_readLine_206 (by decide) (fun c1833 => absurd c1833 (by decide)) (fun c1833 => ?_)
        refine lv_iload_n hx hb dX13_readLine_209 rfl (lv_at hl 1 rfl) ?_
        refine lv_iconst (v := 3) hx hb dX13_readLine_210 (by decide) ?_
        refine lv_icmp_eq (tgt := 219) hx hb dX13_readLine_211 (by decide) (fun c1834 => absurd c1834 (by decide)) (fun c1834 => ?_)
        refine lv_aload_n hx hb dX13_readLine_214 rfl (lv_at hl 2 rfl) ?_
        refine lv_iload_n hx hb dX13_readLine_215 rfl (lv_at hl 0 rfl) ?_
        have b1835 : (u1817 13 (y1632).toNatClampNeg).toInt = -1 := by rw [hp1821 13 _ (fun g9 => absurd g9.1 (by decide)), hrh1755, hm_u2a (by decide), hrh1738, hm_u2a (by decide), hrh1721, hm_u2a (by decide), hrh1704, hm_u2e]; decide
        have pk1836 := pk1791.keep (fr1798 (q + 20) (hq_tne (hr_20 hR) hmo (by simp)) (by omega))
        refine hq_callx (hq_runV (As := [.int (y1632)]) (rest := []) hx hb hml hown hts (y_readSlot l D cs B G V1793 n hP.1 (q) (mo) (w) (u1817) ((sp_where w cl (j + 1)).2.1) (m_tp) (m_sz) (z1814) (z1815) (z1816) (m_ft) (m_fa) (m_le) (m_fo) (m_as) (m_fd) (m_bc) (m_bg) (m_bs) (m_be) (m_b0) (m_b1) (m_cm) (m_hc) (y1632)  ho1818 pk1836 hp1820 hR hmo hmq (by omega) hA1826 (by omega) b1835) hZ ho1818 cv_X13_189 rfl rfl ⟨Nat.le_of_ble_eq_true rfl, Nat.le_of_ble_eq_true rfl⟩ rfl hl.1 rfl (Nat.le_of_ble_eq_true rfl) dX13_readLine_216 ⟨(Nat.le_of_ble_eq_true rfl), (Nat.le_of_ble_eq_true rfl)⟩) hZ hnx hlocks (by rintro x9 V9x n9 ⟨rfl, rfl, hqx, frx, zx1843, zx1844, zx1845, zx1846, zx1847, zx1848, hox1849, hpx1850, hpx1851, hpx1852⟩; have b1853 := hq_rng zx1843; have b1854 := hq_rng zx1844; have b1855 := hq_rng zx1845; have b1856 := hq_rng zx1846; have b1857 := hq_rng zx1847; exact ⟨rfl, rfl, hP.trans hqx (fun _ h => Bool.noConfusion h), (fun x8 hne0 hne1 => (frx x8 hne0 hne1).trans ((fr1798 x8 hne0 hne1).trans ((fr1765 x8 hne0).trans ((o1748 x8 (by omega)).trans ((o1731 x8 (by omega)).trans ((o1714 x8 (by omega)).trans ((o1697 x8 (by omega)).trans ((o1680 x8 (by omega)).trans ((o1663 x8 (by omega)).trans (o1646 x8 (by omega))))))))))), zx1843, zx1844, zx1845, zx1846, zx1847, zx1848, hox1849, (by have hk9 := hpx1850.1; unfold sp_tl sp_line; (try dsimp only); (repeat (first | (rw [if_pos]; rotate_left; omega) | (rw [if_neg]; rotate_left; omega))); (try dsimp only); exact hpx1850), hpx1851, (hH1832.trans hpx1852)⟩) (fun v9 V1837 n1838 _ _ hw1839 hZ => ?_)
        obtain ⟨rfl, rfl, hq1841, fr1842, z1858, z1859, z1860, u1861, ho1862, hp1863, hp1864, hp1865⟩ := hw1839
        refine W.eq (g2 := F0 m 219 ls []) rfl ?_
        have b1866 := hq_rng z1858
        have b1867 := hq_rng z1859
        have b1868 := hq_rng z1860
        have hP := hP.trans hq1841 (fun _ h => Bool.noConfusion h)
        obtain ⟨b1869, hA1870, b1871, b1872⟩ := hp1863
        obtain ⟨b1873, b1874, b1875, -⟩ := id hA1870
        have wl1876 := wl1831.w hp1865 (by decide)
        have hH1877 := hH1832.trans (hp1865.H (hm_h60 (by decide) (by omega)))
        refine lv_iload_n hx hb dX13_readLine_219 rfl (lv_at hl 1 rfl) ?_
        refine lv_iconst (v := 3) hx hb dX13_readLine_220 (by decide) ?_
        refine lv_icmp_ne (tgt := 229) hx hb dX13_readLine_221 (by decide) (fun c1878 => ?_) (fun c1878 => absurd c1878 (by decide))
        refine lv_iload_n hx hb dX13_readLine_229 rfl (lv_at hl 1 rfl) ?_
        refine lv_if_eq (tgt := 248) hx hb dX13_readLine_230 (by decide) (fun c1879 => absurd c1879 (by decide)) (fun c1879 => ?_)
        refine lv_iload_n hx hb dX13_readLine_233 rfl (lv_at hl 1 rfl) ?_
        refine lv_iconst (v := 1) hx hb dX13_readLine_234 (by decide) ?_
        refine lv_icmp_eq (tgt := 248) hx hb dX13_readLine_235 (by decide) (fun c1880 => ?_) (fun c1880 => absurd (by decide) c1880)
        refine lv_aload_n hx hb dX13_readLine_248 rfl (lv_at hl 2 rfl) ?_
        refine hp_get (v := .int (z1860)) hx hb hts hown hZ ho1862 fl_X13_83 rfl dX13_readLine_249 ?_
        refine lv_iconst (v := 3) hx hb dX13_readLine_252 (by decide) ?_
        refine lv_icmp_eq (tgt := 262) hx hb dX13_readLine_253 (by decide) (fun c1881 => ?_) (fun c1881 => ?_)
        · have c1881 : (z1860).toInt = (3 : Int) := hq_eqi.mp c1881
          have b1882 := sp_h_3 (sp_k w ((sp_slot w ((sp_where w cl (j + 1)).2.1)).2.1))
          have hk19 : sp_k w ((sp_slot w ((sp_where w cl (j + 1)).2.1)).2.1) = 19 := by omega
          have hlt1 := sp_tok_let (w := w) (j := (sp_slot w ((sp_where w cl (j + 1)).2.1)).2.1) hk19
          have hsz1 : sp_sz w ((sp_slot w ((sp_where w cl (j + 1)).2.1)).2.1) = sp_e w ((sp_slot w ((sp_where w cl (j + 1)).2.1)).2.1) - sp_s w ((sp_slot w ((sp_where w cl (j + 1)).2.1)).2.1) - 2 := rfl
          have hbe1 := hA1870.2.2.2 (by omega)
          refine lv_iload_n hx hb dX13_readLine_262 rfl (lv_at hl 1 rfl) ?_
          refine lv_iconst (v := 4) hx hb dX13_readLine_263 (by decide) ?_
          refine lv_icmp_ne (tgt := 282) hx hb dX13_readLine_264 (by decide) (fun c1883 => ?_) (fun c1883 => absurd c1883 (by decide))
          refine lv_iload_n hx hb dX13_readLine_282 rfl (lv_at hl 1 rfl) ?_
          refine lv_iconst (v := 1) hx hb dX13_readLine_283 (by decide) ?_
          refine lv_icmp_eq (tgt := 306) hx hb dX13_readLine_284 (by decide) (fun c1884 => ?_) (fun c1884 => absurd (by decide) c1884)
          refine lv_aload_n hx hb dX13_readLine_306 rfl (lv_at hl 2 rfl) ?_
          refine hp_get (v := .ref (q + 14)) hx hb hts hown hZ ho1862 fl_X13_41 rfl dX13_readLine_307 ?_
          refine lv_iload_n hx hb dX13_readLine_310 rfl (lv_at hl 0 rfl) ?_
          refine lv_aload_n hx hb dX13_readLine_311 rfl (lv_at hl 2 rfl) ?_
          refine lv_aload_n hx hb dX13_readLine_312 rfl (lv_at hl 2 rfl) ?_
          refine hp_get (v := .ref (q + 5)) hx hb hts hown hZ ho1862 fl_X13_23 rfl dX13_readLine_313 ?_
          refine lv_iload_n hx hb dX13_readLine_316 rfl (lv_at hl 0 rfl) ?_
          have pk1885 := pk1836.keep (fr1842 (q + 20) (hq_tne (hr_20 hR) hmo (by simp)) (by omega))
          refine hp_calli (hp_runV (As := [.ref (q + 5), .int (y1632)]) (rest := [.int (y1632), .ref (q + 14)]) hx hb hml hown hts (y_takeLetters5 l D cs B G V1837 n hP.1 (q) (mo) (w) (u1861) ((sp_slot w ((sp_where w cl (j + 1)).2.1)).2.1) (m_tp) (m_sz) (z1858) (z1859) (z1860) (m_ft) (m_fa) (m_le) (m_fo) (m_as) (m_fd) (m_bc) (m_bg) (m_bs) (m_be) (m_b0) (m_b1) (m_cm) (m_hc) (y1632)  ho1862 pk1885 hp1864 hR hmo hmq (by omega) hA1870 hk19 (by omega)) hZ ho1862 cv_X13_198 rfl rfl ⟨Nat.le_of_ble_eq_true rfl, Nat.le_of_ble_eq_true rfl⟩ rfl hl.1 rfl (Nat.le_of_ble_eq_true rfl) dX13_readLine_317 ⟨(Nat.le_of_ble_eq_true rfl), (Nat.le_of_ble_eq_true rfl)⟩) hZ (fun r1889 V1886 n1887 _ _ hw1888 hZ => ?_)
          obtain ⟨rfl, hq1890, fr1891, z1892, z1893, z1894, u1895, ho1896, hp1897, hp1898, hp1899, hp1900, hp1901, hp1902⟩ := hw1888
          have b1903 := hq_rng z1892
          have b1904 := hq_rng z1893
          have b1905 := hq_rng z1894
          have hP := hP.trans hq1890 (fun _ h => Bool.noConfusion h)
          have b1906 := hq_rng r1889
          have wl1907 := wl1876.l hp1900 (Or.inl rfl)
          have hH1908 := hH1877.trans hp1902
          obtain ⟨b1909, b1910, b1911, -⟩ := id hp1898
          obtain ⟨rf1912, hrf1913⟩ : ∃ f : Nat → Int32, f = u1895 14 := ⟨_, rfl⟩
          have ea1914 : V1886 (q + 14) = some (.inl (cs 1, 120, .inl (rf1912))) := by rw [hrf1913]; exact hp1899 14 (by decide)
          have hra1915 := hq_rg hP.1 (hr_14 hR) ea1914
          refine hp_iast hx hb hZ ea1914 (hq_in (by omega) (by omega)) dX13_readLine_320 (fun V1916 _ _ e1917 o1918 hZ => ?_)
          have e1917 : V1916 (q + 14) = some (.inl (cs 1, 120, .inl (upd (rf1912) ((y1632 : Int32).toNatClampNeg) (r1889)))) := e1917
          have hP := hP.put (hr_14 hR) e1917 o1918 (hq_c21 (by omega) (hq_upd hra1915 (show 0 ≤ _ ∧ _ ≤ 8 by constructor <;> omega))) rfl
          obtain ⟨g1919, ge1920⟩ : ∃ g9 : Nat → Int32, g9 = upd (rf1912) ((y1632 : Int32).toNatClampNeg) (r1889) := ⟨_, rfl⟩
          have fx1921 : V1916 (q + 14) = some (.inl (cs 1, 120, .inl (g1919))) := by rw [ge1920]; exact e1917
          have hf1922 := hq_rg hP.1 (hr_14 hR) fx1921
          obtain ⟨rh1923, hrh1924⟩ : ∃ r9 : hm_Rh, r9 = hm_u2 u1895 14 (y1632 : Int32).toNatClampNeg ((r1889 : Int32)) := ⟨_, rfl⟩
          have pk1925 : hm_AR cs V1916 q rh1923 := by rw [hrh1924]; exact hp1899.put (a := 14) (by decide) (by rw [ge1920, hrf1913]) fx1921 o1918
          have hH1926 : hm_H rh rh1923 := by rw [hrh1924]; exact hH1908.put (show 60 ≤ (y1632 : Int32).toNatClampNeg by have h8 := (hq_nn (z := y1632) (by omega)).1; omega)
          refine lv_iload_n hx hb dX13_readLine_321 rfl (lv_at hl 1 rfl) ?_
          refine lv_if_eq (tgt := 330) hx hb dX13_readLine_322 (by decide) (fun c1927 => absurd c1927 (by decide)) (fun c1927 => ?_)
          refine lv_iload_n hx hb dX13_readLine_325 rfl (lv_at hl 1 rfl) ?_
          refine lv_iconst (v := 2) hx hb dX13_readLine_326 (by decide) ?_
          refine lv_icmp_ne (tgt := 365) hx hb dX13_readLine_327 (by decide) (fun c1928 => ?_) (fun c1928 => absurd c1928 (by decide))
          refine lv_iload_n hx hb dX13_readLine_365 rfl (lv_at hl 1 rfl) ?_
          refine lv_iconst (v := 2) hx hb dX13_readLine_366 (by decide) ?_
          refine lv_icmp_ne (tgt := 390) hx hb dX13_readLine_367 (by decide) (fun c1929 => ?_) (fun c1929 => absurd c1929 (by decide))
          refine lv_aload_n hx hb dX13_readLine_390 rfl (lv_at hl 2 rfl) ?_
          have fx1930 : V1916 (mo) = some (.inr (13, hm_o q (m_tp) (m_sz) (z1892) (z1893) (z1894) (m_ft) (m_fa) (m_le) (m_fo) (m_as) (m_fd) (m_bc) (m_bg) (m_bs) (m_be) (m_b0) (m_b1) (m_cm) (m_hc))) := (o1918 (mo) (hq_tne hmo (hr_14 hR) (by simp))).trans (ho1896)
          refine hp_get (v := .ref (q + 2)) hx hb hts hown hZ fx1930 fl_X13_10 rfl dX13_readLine_391 ?_
          refine lv_iconst (v := 1) hx hb dX13_readLine_394 (by decide) ?_
          refine lv_dup2_11 hx hb dX13_readLine_395 rfl rfl ?_
          obtain ⟨rf1931, hrf1932⟩ : ∃ f : Nat → Int32, f = rh1923 2 := ⟨_, rfl⟩
          have ea1933 : V1916 (q + 2) = some (.inl (cs 1, 2, .inl (rf1931))) := by rw [hrf1932]; exact pk1925 2 (by decide)
          have hra1934 := hq_rg hP.1 (hr_2 hR) ea1933
          refine hp_iald hx hb hZ ea1933 (by unfold vp_in; decide) dX13_readLine_396 ?_
          refine lv_topi (fun y1935 ey1936 => ?_)
          have b1937 : hq_ir (hq_lo 8) (hq_hi 8) y1935 := by rw [ey1936]; exact hra1934 _ (by decide)
          have b1937 : 0 ≤ (y1935).toInt ∧ (y1935).toInt ≤ 60 := b1937
          have b1938 : (y1935).toInt = (lz.length : Int) := by rw [ey1936, hrf1932, hrh1924, hm_u2a (by decide), hp1900 2 _ (fun g9 => absurd g9.1 (by decide)), hp1865 2 _ (fun g9 => absurd g9.1 (by decide)), hp1821 2 _ (fun g9 => absurd g9.1 (by decide)), hrh1755, hm_u2a (by decide), hrh1738, hm_u2a (by decide), hrh1721, hm_u2a (by decide), hrh1704, hm_u2a (by decide), hrh1687, hm_u2a (by decide), hrh1670, hm_u2a (by decide), hrh1653, hm_u2a (by decide)]; exact hcl
          refine lv_iconst (v := 1) hx hb dX13_readLine_397 (by decide) ?_
          refine lv_iadd hx hb dX13_readLine_398 ?_
          refine lv_topi (fun y1939 ey1940 => ?_)
          obtain ⟨k1941, hk1942, b1943, b1944⟩ := hq_add (y1935) (1)
          rw [← ey1940] at hk1942 b1943 b1944
          have hk1942 : (y1939).toInt = (y1935).toInt + (1 : Int) + k1941 * 4294967296 := hk1942
          obtain rfl : k1941 = 0 := by omega
          refine hp_iast hx hb hZ ea1933 (by unfold vp_in; decide) dX13_readLine_399 (fun V1945 _ _ e1946 o1947 hZ => ?_)
          have e1946 : V1945 (q + 2) = some (.inl (cs 1, 2, .inl (upd (rf1931) ((1 : Int32).toNatClampNeg) (y1939)))) := e1946
          have hP := hP.put (hr_2 hR) e1946 o1947 (hq_c21 (by omega) (hq_upd hra1934 (show 0 ≤ _ ∧ _ ≤ 60 by constructor <;> omega))) rfl
          obtain ⟨g1948, ge1949⟩ : ∃ g9 : Nat → Int32, g9 = upd (rf1931) ((1 : Int32).toNatClampNeg) (y1939) := ⟨_, rfl⟩
          have fx1950 : V1945 (q + 2) = some (.inl (cs 1, 2, .inl (g1948))) := by rw [ge1949]; exact e1946
          have hf1951 := hq_rg hP.1 (hr_2 hR) fx1950
          obtain ⟨rh1952, hrh1953⟩ : ∃ r9 : hm_Rh, r9 = hm_u2 rh1923 2 (1 : Int32).toNatClampNeg ((y1939 : Int32)) := ⟨_, rfl⟩
          have pk1954 : hm_AR cs V1945 q rh1952 := by rw [hrh1953]; exact pk1925.put (a := 2) (by decide) (by rw [ge1949, hrf1932]) fx1950 o1947
          have hH1955 : hm_H rh rh1952 := by rw [hrh1953]; exact hH1926.put (show 1 ≤ (1 : Int32).toNatClampNeg by have h8 := (hq_nn (z := 1) (by omega)).1; omega)
          have wl1956 : hm_WL (y1632).toNatClampNeg rh rh1923 := by rw [hrh1924]; exact wl1907.put (Or.inl ⟨by decide, rfl⟩)
          have wl1957 : hm_WL (y1632).toNatClampNeg rh rh1952 := by rw [hrh1953]; exact wl1956.put (Or.inr ⟨rfl, rfl⟩)
          have hl1958 : (1 : Int32).toInt = 1 := by decide
          have hl1959 : (1 : Int32).toInt = 1 := by decide
          obtain ⟨hc91, hc92⟩ := sp_let_y (w := w) (j := (sp_slot w ((sp_where w cl (j + 1)).2.1)).2.1) hk19
          have fx1960 : V1945 (mo) = some (.inr (13, hm_o q (m_tp) (m_sz) (z1892) (z1893) (z1894) (m_ft) (m_fa) (m_le) (m_fo) (m_as) (m_fd) (m_bc) (m_bg) (m_bs) (m_be) (m_b0) (m_b1) (m_cm) (m_hc))) := (o1947 (mo) (hq_tne hmo (hr_2 hR) (by simp))).trans (fx1930)
          exact hq_vret hx hb hr hlocks hZ ⟨rfl, rfl, hP, (fun x8 hne0 hne1 => (o1947 x8 (by omega)).trans ((o1918 x8 (by omega)).trans ((fr1891 x8 hne0 hne1).trans ((fr1842 x8 hne0 hne1).trans ((fr1798 x8 hne0 hne1).trans ((fr1765 x8 hne0).trans ((o1748 x8 (by omega)).trans ((o1731 x8 (by omega)).trans ((o1714 x8 (by omega)).trans ((o1697 x8 (by omega)).trans ((o1680 x8 (by omega)).trans ((o1663 x8 (by omega)).trans (o1646 x8 (by omega)))))))))))))), z1892, z1893, z1894, rh1952, fx1960, (by unfold sp_tl sp_line; (try dsimp only); (repeat (first | (rw [if_pos]; rotate_left; omega) | (rw [if_neg]; rotate_left; omega))); (try dsimp only); exact ⟨by first | rfl | omega, (by rw [hc92]; exact hp1898), (by rw [← hL9]; exact ⟨by rw [hrh1953, hm_u2a (by decide), hrh1924, hm_u2a (by decide), hp1900 10 _ (fun g9 => absurd g9.1 (by decide)), hp1865 10 _ (fun g9 => absurd g9.1 (by decide)), hp1821 10 _ (fun g9 => absurd g9.1 (by decide)), hrh1755, hm_u2a (by decide), hrh1738, hm_u2a (by decide), hrh1721, hm_u2a (by decide), hrh1704, hm_u2a (by decide), hrh1687, hm_u2a (by decide), hrh1670, hm_u2a (by decide), hrh1653, hm_u2e]; first | omega | (dsimp only; omega), by rw [hrh1953, hm_u2a (by decide), hrh1924, hm_u2a (by decide), hp1900 11 _ (fun g9 => absurd g9.1 (by decide)), hp1865 11 _ (fun g9 => absurd g9.1 (by decide))]; first | omega | (dsimp only; omega), by rw [hrh1953, hm_u2a (by decide), hrh1924, hm_u2a (by decide), hp1900 12 _ (fun g9 => absurd g9.1 (by decide))]; first | omega | (dsimp only; omega), by rw [hrh1953, hm_u2a (by decide), hrh1924, hm_u2a (by decide), hp1900 13 _ (fun g9 => absurd g9.1 (by decide))]; first | omega | (dsimp only; omega), by rw [hrh1953, hm_u2a (by decide), hrh1924, hm_u2a (by decide), hp1900 16 _ (fun g9 => absurd g9.1 (by decide)), hp1865 16 _ (fun g9 => absurd g9.1 (by decide)), hp1821 16 _ (fun g9 => absurd g9.1 (by decide)), hrh1755, hm_u2e]; first | omega | (dsimp only; omega), ⟨by rw [hrh1953, hm_u2a (by decide), hrh1924, hm_u2e]; first | omega | (dsimp only; omega), by first | omega | (dsimp only; omega), fun k9 hk9 => by rw [hrh1953, hm_u2a (by decide), hrh1924, hm_u2a (by decide)]; exact hp1901 k9 hk9⟩, ⟨by rw [hrh1953, hm_u2a (by decide), hrh1924, hm_u2a (by decide), hp1900 15 _ (fun g9 => absurd g9.1 (by decide)), hp1865 15 _ (fun g9 => absurd g9.1 (by decide)), hp1821 15 _ (fun g9 => absurd g9.1 (by decide)), hrh1755, hm_u2a (by decide), hrh1738, hm_u2e]; first | omega | (dsimp only; omega), by first | omega | (dsimp only; omega), fun k9 hk9 => by first | omega | (dsimp only at hk9; omega)⟩⟩), by omega, by show (rh1952 2 (1 : Int32).toNatClampNeg).toInt = _; rw [hrh1953, hm_u2e]; omega⟩), pk1954, (by rw [← hL9]; exact wl1957), hH1955⟩ dX13_readLine_400
        · have c1881 : ¬ (z1860).toInt = (3 : Int) := fun h9 => c1881 (hq_eqi.mpr h9)
          have b1961 := sp_h_3 (sp_k w ((sp_slot w ((sp_where w cl (j + 1)).2.1)).2.1))
          obtain ⟨b1962, hj1963⟩ := sp_let_n (w := w) (j := (sp_slot w ((sp_where w cl (j + 1)).2.1)).2.1) (by omega)
          have b1964 : sp_s w (sp_let w ((sp_slot w ((sp_where w cl (j + 1)).2.1)).2.1)).2 = sp_s w ((sp_slot w ((sp_where w cl (j + 1)).2.1)).2.1) := by rw [hj1963]
          refine lv_aload_n hx hb dX13_readLine_256 rfl (lv_at hl 2 rfl) ?_
          refine lv_iconst (v := 1) hx hb dX13_readLine_257 (by decide) ?_
          have hl1965 : (1 : Int32).toInt = 1 := by decide
          refine hp_callq (hp_runV (As := [.int (1)]) (rest := []) hx hb hml hown hts (y_wrong l D cs B G V1837 n hP.1 (q) (mo) (m_tp) (m_sz) (z1858) (z1859) (z1860) (m_ft) (m_fa) (m_le) (m_fo) (m_as) (m_fd) (m_bc) (m_bg) (m_bs) (m_be) (m_b0) (m_b1) (m_cm) (m_hc) (1)  ho1862  hR hmo hmq) hZ ho1862 cv_X13_107 rfl rfl ⟨Nat.le_of_ble_eq_true rfl, Nat.le_of_ble_eq_true rfl⟩ rfl hl.1 rfl (Nat.le_of_ble_eq_true rfl) dX13_readLine_258 ⟨(Nat.le_of_ble_eq_true rfl), (Nat.le_of_ble_eq_true rfl)⟩) hZ (fun r1969 V1966 n1967 _ _ hw1968 hZ => ?_)
          obtain ⟨rfl, hq1970, fr1971, ho1972, hp1973⟩ := hw1968
          have hP := hP.trans hq1970 (fun _ h => Bool.noConfusion h)
          subst hp1973
          refine W.eq (g2 := F0 m 261 ls [.ref (q + 19)]) rfl ?_
          have hl1974 : (1 : Int32).toInt = 1 := by decide
          have pk1975 := hp1864.keep (fun x7 (hx7 : q ≤ x7 ∧ x7 < q + 19) => fr1971 x7 (by omega))
          exact hq_athrow hx hb hnx hlocks hZ ⟨rfl, rfl, hP, (fun x8 hne0 hne1 => (fr1971 x8 hne0).trans ((fr1842 x8 hne0 hne1).trans ((fr1798 x8 hne0 hne1).trans ((fr1765 x8 hne0).trans ((o1748 x8 (by omega)).trans ((o1731 x8 (by omega)).trans ((o1714 x8 (by omega)).trans ((o1697 x8 (by omega)).trans ((o1680 x8 (by omega)).trans ((o1663 x8 (by omega)).trans (o1646 x8 (by omega)))))))))))), z1858, z1859, z1860, 1, z1858, u1861, ho1972, (by unfold sp_tl sp_line; (try dsimp only); (repeat (first | (rw [if_pos]; rotate_left; omega) | (rw [if_neg]; rotate_left; omega))); (try dsimp only); exact ⟨by omega, by omega, by omega⟩), pk1975, hH1877⟩ dX13_readLine_261
      · have c1627 : (y1623).toInt = (60 : Int) := hq_eqi.mp c1627
        refine lv_aload_n hx hb dX13_readLine_102 rfl (lv_at hl 1 rfl) ?_
        refine lv_iconst (v := 4) hx hb dX13_readLine_103 (by decide) ?_
        have hl1976 : (4 : Int32).toInt = 4 := by decide
        refine hp_callq (hp_runV (As := [.int (4)]) (rest := []) hx hb hml hown hts (y_wrong l D cs B G V n hP.1 (q) (mo) (m_tp) (m_sz) (m_fr) (m_bh) (m_hd) (m_ft) (m_fa) (m_le) (m_fo) (m_as) (m_fd) (m_bc) (m_bg) (m_bs) (m_be) (m_b0) (m_b1) (m_cm) (m_hc) (4)  hc0  hR hmo hmq) hZ hc0 cv_X13_107 rfl rfl ⟨Nat.le_of_ble_eq_true rfl, Nat.le_of_ble_eq_true rfl⟩ rfl hl.1 rfl (Nat.le_of_ble_eq_true rfl) dX13_readLine_104 ⟨(Nat.le_of_ble_eq_true rfl), (Nat.le_of_ble_eq_true rfl)⟩) hZ (fun r1980 V1977 n1978 _ _ hw1979 hZ => ?_)
        obtain ⟨rfl, hq1981, fr1982, ho1983, hp1984⟩ := hw1979
        have hP := hP.trans hq1981 (fun _ h => Bool.noConfusion h)
        subst hp1984
        refine W.eq (g2 := F0 m 107 ls [.ref (q + 19)]) rfl ?_
        have hl1985 : (4 : Int32).toInt = 4 := by decide
        have pk1986 := hp1.keep (fun x7 (hx7 : q ≤ x7 ∧ x7 < q + 19) => fr1982 x7 (by omega))
        exact hq_athrow hx hb hnx hlocks hZ ⟨rfl, rfl, hP, (fun x8 hne0 hne1 => fr1982 x8 hne0), m_fr, m_bh, m_hd, 4, m_fr, rh, ho1983, (by unfold sp_tl sp_line; (try dsimp only); (repeat (first | (rw [if_pos]; rotate_left; omega) | (rw [if_neg]; rotate_left; omega))); (try dsimp only); exact ⟨by omega, by omega, by omega⟩), pk1986, hH0⟩ dX13_readLine_107
  · have c12 : ¬ (r7).toInt = (0 : Int) := fun h9 => c12 (hq_eqi.mpr h9)
    have b1987 : sp_k w (j) = 0 := by have h9 := hp10; omega
    refine lv_iconst (v := 0) hx hb dX13_readLine_9 (by decide) ?_
    refine lv_goto (tgt := 79) hx hb dX13_readLine_10 (by decide) ?_
    refine lv_istore_n (lv' := [(1, .int (0)), (0, .ref (mo))]) hx hb dX13_readLine_79 rfl hl (by decide) rfl (fun ls hl => ?_)
    refine lv_iload_n hx hb dX13_readLine_80 rfl (lv_at hl 0 rfl) ?_
    refine lv_iconst (v := -1) hx hb dX13_readLine_81 (by decide) ?_
    refine lv_icmp_ne (tgt := 91) hx hb dX13_readLine_82 (by decide) (fun c1988 => ?_) (fun c1988 => absurd c1988 (by decide))
    refine lv_aload_n hx hb dX13_readLine_91 rfl (lv_at hl 1 rfl) ?_
    refine hp_get (v := .ref (q + 2)) hx hb hts hown hZ hc0 fl_X13_10 rfl dX13_readLine_92 ?_
    refine lv_iconst (v := 1) hx hb dX13_readLine_95 (by decide) ?_
    obtain ⟨rf1989, hrf1990⟩ : ∃ f : Nat → Int32, f = rh 2 := ⟨_, rfl⟩
    have ea1991 : V (q + 2) = some (.inl (cs 1, 2, .inl (rf1989))) := by rw [hrf1990]; exact hp1 2 (by decide)
    have hra1992 := hq_rg hP.1 (hr_2 hR) ea1991
    refine hp_iald hx hb hZ ea1991 (by unfold vp_in; decide) dX13_readLine_96 ?_
    refine lv_topi (fun y1993 ey1994 => ?_)
    have b1995 : hq_ir (hq_lo 8) (hq_hi 8) y1993 := by rw [ey1994]; exact hra1992 _ (by decide)
    have b1995 : 0 ≤ (y1993).toInt ∧ (y1993).toInt ≤ 60 := b1995
    have b1996 : (y1993).toInt = (lz.length : Int) := by rw [ey1994, hrf1990]; exact hcl
    refine lv_bipush (v := 60) hx hb dX13_readLine_97 (by decide) ?_
    refine lv_icmp_ne (tgt := 108) hx hb dX13_readLine_99 (by decide) (fun c1997 => ?_) (fun c1997 => ?_)
    · have c1997 : ¬ (y1993).toInt = (60 : Int) := fun h9 => c1997 (hq_eqi.mpr h9)
      refine lv_bipush (v := 60) hx hb dX13_readLine_108 (by decide) ?_
      refine lv_aload_n hx hb dX13_readLine_110 rfl (lv_at hl 1 rfl) ?_
      refine hp_get (v := .ref (q + 2)) hx hb hts hown hZ hc0 fl_X13_10 rfl dX13_readLine_111 ?_
      refine lv_iconst (v := 1) hx hb dX13_readLine_114 (by decide) ?_
      refine hp_iald hx hb hZ ea1991 (by unfold vp_in; decide) dX13_readLine_115 ?_
      refine lv_topi (fun y1998 ey1999 => ?_)
      have b2000 : hq_ir (hq_lo 8) (hq_hi 8) y1998 := by rw [ey1999]; exact hra1992 _ (by decide)
      have b2000 : 0 ≤ (y1998).toInt ∧ (y1998).toInt ≤ 60 := b2000
      have b2001 : (y1998).toInt = (lz.length : Int) := by rw [ey1999, hrf1990]; exact hcl
      refine lv_iadd hx hb dX13_readLine_116 ?_
      refine lv_topi (fun y2002 ey2003 => ?_)
      obtain ⟨k2004, hk2005, b2006, b2007⟩ := hq_add (60) (y1998)
      rw [← ey2003] at hk2005 b2006 b2007
      have hk2005 : (y2002).toInt = (60 : Int) + (y1998).toInt + k2004 * 4294967296 := hk2005
      obtain rfl : k2004 = 0 := by omega
      refine lv_istore_n (lv' := [(2, .int (y2002)), (1, .int (0)), (0, .ref (mo))]) hx hb dX13_readLine_117 rfl hl (by decide) rfl (fun ls hl => ?_)
      have hL9 : (y2002).toNatClampNeg = 60 + lz.length := by have h8 := (hq_nn (z := y2002) (by omega)).1; omega
      have wl0 : hm_WL (y2002).toNatClampNeg rh rh := hm_WL.rf
      have hl2008 : (-1 : Int32).toInt = -1 := by decide
      have hl2009 : (0 : Int32).toInt = 0 := by decide
      refine lv_aload_n hx hb dX13_readLine_118 rfl (lv_at hl 2 rfl) ?_
      refine hp_get (v := .ref (q + 10)) hx hb hts hown hZ hc0 fl_X13_29 rfl dX13_readLine_119 ?_
      refine lv_iload_n hx hb dX13_readLine_122 rfl (lv_at hl 0 rfl) ?_
      refine lv_iload_n hx hb dX13_readLine_123 rfl (lv_at hl 1 rfl) ?_
      obtain ⟨rf2010, hrf2011⟩ : ∃ f : Nat → Int32, f = rh 10 := ⟨_, rfl⟩
      have ea2012 : V (q + 10) = some (.inl (cs 1, 120, .inl (rf2010))) := by rw [hrf2011]; exact hp1 10 (by decide)
      have hra2013 := hq_rg hP.1 (hr_10 hR) ea2012
      refine hp_iast hx hb hZ ea2012 (hq_in (by omega) (by omega)) dX13_readLine_124 (fun V2014 _ _ e2015 o2016 hZ => ?_)
      have e2015 : V2014 (q + 10) = some (.inl (cs 1, 120, .inl (upd (rf2010) ((y2002 : Int32).toNatClampNeg) (0)))) := e2015
      have hl2017 : (0 : Int32).toInt = 0 := by decide
      have hP := hP.put (hr_10 hR) e2015 o2016 (hq_c21 (by omega) (hq_upd hra2013 (hq_rng _))) rfl
      obtain ⟨g2018, ge2019⟩ : ∃ g9 : Nat → Int32, g9 = upd (rf2010) ((y2002 : Int32).toNatClampNeg) (0) := ⟨_, rfl⟩
      have fx2020 : V2014 (q + 10) = some (.inl (cs 1, 120, .inl (g2018))) := by rw [ge2019]; exact e2015
      have hf2021 := hq_rg hP.1 (hr_10 hR) fx2020
      obtain ⟨rh2022, hrh2023⟩ : ∃ r9 : hm_Rh, r9 = hm_u2 rh 10 (y2002 : Int32).toNatClampNeg ((0 : Int32)) := ⟨_, rfl⟩
      have pk2024 : hm_AR cs V2014 q rh2022 := by rw [hrh2023]; exact hp1.put (a := 10) (by decide) (by rw [ge2019, hrf2011]) fx2020 o2016
      have hH2025 : hm_H rh rh2022 := by rw [hrh2023]; exact hH0.put (show 60 ≤ (y2002 : Int32).toNatClampNeg by have h8 := (hq_nn (z := y2002) (by omega)).1; omega)
      refine lv_aload_n hx hb dX13_readLine_125 rfl (lv_at hl 2 rfl) ?_
      have fx2026 : V2014 (mo) = some (.inr (13, hm_o q (m_tp) (m_sz) (m_fr) (m_bh) (m_hd) (m_ft) (m_fa) (m_le) (m_fo) (m_as) (m_fd) (m_bc) (m_bg) (m_bs) (m_be) (m_b0) (m_b1) (m_cm) (m_hc))) := (o2016 (mo) (hq_tne hmo (hr_10 hR) (by simp))).trans (hc0)
      refine hp_get (v := .ref (q + 11)) hx hb hts hown hZ fx2026 fl_X13_32 rfl dX13_readLine_126 ?_
      refine lv_iload_n hx hb dX13_readLine_129 rfl (lv_at hl 0 rfl) ?_
      refine lv_iconst (v := -1) hx hb dX13_readLine_130 (by decide) ?_
      obtain ⟨rf2027, hrf2028⟩ : ∃ f : Nat → Int32, f = rh2022 11 := ⟨_, rfl⟩
      have ea2029 : V2014 (q + 11) = some (.inl (cs 1, 120, .inl (rf2027))) := by rw [hrf2028]; exact pk2024 11 (by decide)
      have hra2030 := hq_rg hP.1 (hr_11 hR) ea2029
      refine hp_iast hx hb hZ ea2029 (hq_in (by omega) (by omega)) dX13_readLine_131 (fun V2031 _ _ e2032 o2033 hZ => ?_)
      have e2032 : V2031 (q + 11) = some (.inl (cs 1, 120, .inl (upd (rf2027) ((y2002 : Int32).toNatClampNeg) (-1)))) := e2032
      have hl2034 : (-1 : Int32).toInt = -1 := by decide
      have hP := hP.put (hr_11 hR) e2032 o2033 (hq_c21 (by omega) (hq_upd hra2030 (hq_rng _))) rfl
      obtain ⟨g2035, ge2036⟩ : ∃ g9 : Nat → Int32, g9 = upd (rf2027) ((y2002 : Int32).toNatClampNeg) (-1) := ⟨_, rfl⟩
      have fx2037 : V2031 (q + 11) = some (.inl (cs 1, 120, .inl (g2035))) := by rw [ge2036]; exact e2032
      have hf2038 := hq_rg hP.1 (hr_11 hR) fx2037
      obtain ⟨rh2039, hrh2040⟩ : ∃ r9 : hm_Rh, r9 = hm_u2 rh2022 11 (y2002 : Int32).toNatClampNeg ((-1 : Int32)) := ⟨_, rfl⟩
      have pk2041 : hm_AR cs V2031 q rh2039 := by rw [hrh2040]; exact pk2024.put (a := 11) (by decide) (by rw [ge2036, hrf2028]) fx2037 o2033
      have hH2042 : hm_H rh rh2039 := by rw [hrh2040]; exact hH2025.put (show 60 ≤ (y2002 : Int32).toNatClampNeg by have h8 := (hq_nn (z := y2002) (by omega)).1; omega)
      refine lv_aload_n hx hb dX13_readLine_132 rfl (lv_at hl 2 rfl) ?_
      have fx2043 : V2031 (mo) = some (.inr (13, hm_o q (m_tp) (m_sz) (m_fr) (m_bh) (m_hd) (m_ft) (m_fa) (m_le) (m_fo) (m_as) (m_fd) (m_bc) (m_bg) (m_bs) (m_be) (m_b0) (m_b1) (m_cm) (m_hc))) := (o2033 (mo) (hq_tne hmo (hr_11 hR) (by simp))).trans (fx2026)
      refine hp_get (v := .ref (q + 12)) hx hb hts hown hZ fx2043 fl_X13_35 rfl dX13_readLine_133 ?_
      refine lv_iload_n hx hb dX13_readLine_136 rfl (lv_at hl 0 rfl) ?_
      refine lv_iconst (v := -1) hx hb dX13_readLine_137 (by decide) ?_
      obtain ⟨rf2044, hrf2045⟩ : ∃ f : Nat → Int32, f = rh2039 12 := ⟨_, rfl⟩
      have ea2046 : V2031 (q + 12) = some (.inl (cs 1, 120, .inl (rf2044))) := by rw [hrf2045]; exact pk2041 12 (by decide)
      have hra2047 := hq_rg hP.1 (hr_12 hR) ea2046
      refine hp_iast hx hb hZ ea2046 (hq_in (by omega) (by omega)) dX13_readLine_138 (fun V2048 _ _ e2049 o2050 hZ => ?_)
      have e2049 : V2048 (q + 12) = some (.inl (cs 1, 120, .inl (upd (rf2044) ((y2002 : Int32).toNatClampNeg) (-1)))) := e2049
      have hl2051 : (-1 : Int32).toInt = -1 := by decide
      have hP := hP.put (hr_12 hR) e2049 o2050 (hq_c21 (by omega) (hq_upd hra2047 (hq_rng _))) rfl
      obtain ⟨g2052, ge2053⟩ : ∃ g9 : Nat → Int32, g9 = upd (rf2044) ((y2002 : Int32).toNatClampNeg) (-1) := ⟨_, rfl⟩
      have fx2054 : V2048 (q + 12) = some (.inl (cs 1, 120, .inl (g2052))) := by rw [ge2053]; exact e2049
      have hf2055 := hq_rg hP.1 (hr_12 hR) fx2054
      obtain ⟨rh2056, hrh2057⟩ : ∃ r9 : hm_Rh, r9 = hm_u2 rh2039 12 (y2002 : Int32).toNatClampNeg ((-1 : Int32)) := ⟨_, rfl⟩
      have pk2058 : hm_AR cs V2048 q rh2056 := by rw [hrh2057]; exact pk2041.put (a := 12) (by decide) (by rw [ge2053, hrf2045]) fx2054 o2050
      have hH2059 : hm_H rh rh2056 := by rw [hrh2057]; exact hH2042.put (show 60 ≤ (y2002 : Int32).toNatClampNeg by have h8 := (hq_nn (z := y2002) (by omega)).1; omega)
      refine lv_aload_n hx hb dX13_readLine_139 rfl (lv_at hl 2 rfl) ?_
      have fx2060 : V2048 (mo) = some (.inr (13, hm_o q (m_tp) (m_sz) (m_fr) (m_bh) (m_hd) (m_ft) (m_fa) (m_le) (m_fo) (m_as) (m_fd) (m_bc) (m_bg) (m_bs) (m_be) (m_b0) (m_b1) (m_cm) (m_hc))) := (o2050 (mo) (hq_tne hmo (hr_12 hR) (by simp))).trans (fx2043)
      refine hp_get (v := .ref (q + 13)) hx hb hts hown hZ fx2060 fl_X13_38 rfl dX13_readLine_140 ?_
      refine lv_iload_n hx hb dX13_readLine_143 rfl (lv_at hl 0 rfl) ?_
      refine lv_iconst (v := -1) hx hb dX13_readLine_144 (by decide) ?_
      obtain ⟨rf2061, hrf2062⟩ : ∃ f : Nat → Int32, f = rh2056 13 := ⟨_, rfl⟩
      have ea2063 : V2048 (q + 13) = some (.inl (cs 1, 120, .inl (rf2061))) := by rw [hrf2062]; exact pk2058 13 (by decide)
      have hra2064 := hq_rg hP.1 (hr_13 hR) ea2063
      refine hp_iast hx hb hZ ea2063 (hq_in (by omega) (by omega)) dX13_readLine_145 (fun V2065 _ _ e2066 o2067 hZ => ?_)
      have e2066 : V2065 (q + 13) = some (.inl (cs 1, 120, .inl (upd (rf2061) ((y2002 : Int32).toNatClampNeg) (-1)))) := e2066
      have hl2068 : (-1 : Int32).toInt = -1 := by decide
      have hP := hP.put (hr_13 hR) e2066 o2067 (hq_c21 (by omega) (hq_upd hra2064 (hq_rng _))) rfl
      obtain ⟨g2069, ge2070⟩ : ∃ g9 : Nat → Int32, g9 = upd (rf2061) ((y2002 : Int32).toNatClampNeg) (-1) := ⟨_, rfl⟩
      have fx2071 : V2065 (q + 13) = some (.inl (cs 1, 120, .inl (g2069))) := by rw [ge2070]; exact e2066
      have hf2072 := hq_rg hP.1 (hr_13 hR) fx2071
      obtain ⟨rh2073, hrh2074⟩ : ∃ r9 : hm_Rh, r9 = hm_u2 rh2056 13 (y2002 : Int32).toNatClampNeg ((-1 : Int32)) := ⟨_, rfl⟩
      have pk2075 : hm_AR cs V2065 q rh2073 := by rw [hrh2074]; exact pk2058.put (a := 13) (by decide) (by rw [ge2070, hrf2062]) fx2071 o2067
      have hH2076 : hm_H rh rh2073 := by rw [hrh2074]; exact hH2059.put (show 60 ≤ (y2002 : Int32).toNatClampNeg by have h8 := (hq_nn (z := y2002) (by omega)).1; omega)
      refine lv_aload_n hx hb dX13_readLine_146 rfl (lv_at hl 2 rfl) ?_
      have fx2077 : V2065 (mo) = some (.inr (13, hm_o q (m_tp) (m_sz) (m_fr) (m_bh) (m_hd) (m_ft) (m_fa) (m_le) (m_fo) (m_as) (m_fd) (m_bc) (m_bg) (m_bs) (m_be) (m_b0) (m_b1) (m_cm) (m_hc))) := (o2067 (mo) (hq_tne hmo (hr_13 hR) (by simp))).trans (fx2060)
      refine hp_get (v := .ref (q + 14)) hx hb hts hown hZ fx2077 fl_X13_41 rfl dX13_readLine_147 ?_
      refine lv_iload_n hx hb dX13_readLine_150 rfl (lv_at hl 0 rfl) ?_
      refine lv_iconst (v := 0) hx hb dX13_readLine_151 (by decide) ?_
      obtain ⟨rf2078, hrf2079⟩ : ∃ f : Nat → Int32, f = rh2073 14 := ⟨_, rfl⟩
      have ea2080 : V2065 (q + 14) = some (.inl (cs 1, 120, .inl (rf2078))) := by rw [hrf2079]; exact pk2075 14 (by decide)
      have hra2081 := hq_rg hP.1 (hr_14 hR) ea2080
      refine hp_iast hx hb hZ ea2080 (hq_in (by omega) (by omega)) dX13_readLine_152 (fun V2082 _ _ e2083 o2084 hZ => ?_)
      have e2083 : V2082 (q + 14) = some (.inl (cs 1, 120, .inl (upd (rf2078) ((y2002 : Int32).toNatClampNeg) (0)))) := e2083
      have hl2085 : (0 : Int32).toInt = 0 := by decide
      have hP := hP.put (hr_14 hR) e2083 o2084 (hq_c21 (by omega) (hq_upd hra2081 (show 0 ≤ _ ∧ _ ≤ 8 by constructor <;> omega))) rfl
      obtain ⟨g2086, ge2087⟩ : ∃ g9 : Nat → Int32, g9 = upd (rf2078) ((y2002 : Int32).toNatClampNeg) (0) := ⟨_, rfl⟩
      have fx2088 : V2082 (q + 14) = some (.inl (cs 1, 120, .inl (g2086))) := by rw [ge2087]; exact e2083
      have hf2089 := hq_rg hP.1 (hr_14 hR) fx2088
      obtain ⟨rh2090, hrh2091⟩ : ∃ r9 : hm_Rh, r9 = hm_u2 rh2073 14 (y2002 : Int32).toNatClampNeg ((0 : Int32)) := ⟨_, rfl⟩
      have pk2092 : hm_AR cs V2082 q rh2090 := by rw [hrh2091]; exact pk2075.put (a := 14) (by decide) (by rw [ge2087, hrf2079]) fx2088 o2084
      have hH2093 : hm_H rh rh2090 := by rw [hrh2091]; exact hH2076.put (show 60 ≤ (y2002 : Int32).toNatClampNeg by have h8 := (hq_nn (z := y2002) (by omega)).1; omega)
      refine lv_aload_n hx hb dX13_readLine_153 rfl (lv_at hl 2 rfl) ?_
      have fx2094 : V2082 (mo) = some (.inr (13, hm_o q (m_tp) (m_sz) (m_fr) (m_bh) (m_hd) (m_ft) (m_fa) (m_le) (m_fo) (m_as) (m_fd) (m_bc) (m_bg) (m_bs) (m_be) (m_b0) (m_b1) (m_cm) (m_hc))) := (o2084 (mo) (hq_tne hmo (hr_14 hR) (by simp))).trans (fx2077)
      refine hp_get (v := .ref (q + 15)) hx hb hts hown hZ fx2094 fl_X13_44 rfl dX13_readLine_154 ?_
      refine lv_iload_n hx hb dX13_readLine_157 rfl (lv_at hl 0 rfl) ?_
      refine lv_iconst (v := 0) hx hb dX13_readLine_158 (by decide) ?_
      obtain ⟨rf2095, hrf2096⟩ : ∃ f : Nat → Int32, f = rh2090 15 := ⟨_, rfl⟩
      have ea2097 : V2082 (q + 15) = some (.inl (cs 1, 120, .inl (rf2095))) := by rw [hrf2096]; exact pk2092 15 (by decide)
      have hra2098 := hq_rg hP.1 (hr_15 hR) ea2097
      refine hp_iast hx hb hZ ea2097 (hq_in (by omega) (by omega)) dX13_readLine_159 (fun V2099 _ _ e2100 o2101 hZ => ?_)
      have e2100 : V2099 (q + 15) = some (.inl (cs 1, 120, .inl (upd (rf2095) ((y2002 : Int32).toNatClampNeg) (0)))) := e2100
      have hl2102 : (0 : Int32).toInt = 0 := by decide
      have hP := hP.put (hr_15 hR) e2100 o2101 (hq_c21 (by omega) (hq_upd hra2098 (show 0 ≤ _ ∧ _ ≤ 8 by constructor <;> omega))) rfl
      obtain ⟨g2103, ge2104⟩ : ∃ g9 : Nat → Int32, g9 = upd (rf2095) ((y2002 : Int32).toNatClampNeg) (0) := ⟨_, rfl⟩
      have fx2105 : V2099 (q + 15) = some (.inl (cs 1, 120, .inl (g2103))) := by rw [ge2104]; exact e2100
      have hf2106 := hq_rg hP.1 (hr_15 hR) fx2105
      obtain ⟨rh2107, hrh2108⟩ : ∃ r9 : hm_Rh, r9 = hm_u2 rh2090 15 (y2002 : Int32).toNatClampNeg ((0 : Int32)) := ⟨_, rfl⟩
      have pk2109 : hm_AR cs V2099 q rh2107 := by rw [hrh2108]; exact pk2092.put (a := 15) (by decide) (by rw [ge2104, hrf2096]) fx2105 o2101
      have hH2110 : hm_H rh rh2107 := by rw [hrh2108]; exact hH2093.put (show 60 ≤ (y2002 : Int32).toNatClampNeg by have h8 := (hq_nn (z := y2002) (by omega)).1; omega)
      refine lv_aload_n hx hb dX13_readLine_160 rfl (lv_at hl 2 rfl) ?_
      have fx2111 : V2099 (mo) = some (.inr (13, hm_o q (m_tp) (m_sz) (m_fr) (m_bh) (m_hd) (m_ft) (m_fa) (m_le) (m_fo) (m_as) (m_fd) (m_bc) (m_bg) (m_bs) (m_be) (m_b0) (m_b1) (m_cm) (m_hc))) := (o2101 (mo) (hq_tne hmo (hr_15 hR) (by simp))).trans (fx2094)
      refine hp_get (v := .ref (q + 16)) hx hb hts hown hZ fx2111 fl_X13_47 rfl dX13_readLine_161 ?_
      refine lv_iload_n hx hb dX13_readLine_164 rfl (lv_at hl 0 rfl) ?_
      refine lv_iconst (v := 0) hx hb dX13_readLine_165 (by decide) ?_
      obtain ⟨rf2112, hrf2113⟩ : ∃ f : Nat → Int32, f = rh2107 16 := ⟨_, rfl⟩
      have ea2114 : V2099 (q + 16) = some (.inl (cs 1, 120, .inl (rf2112))) := by rw [hrf2113]; exact pk2109 16 (by decide)
      have hra2115 := hq_rg hP.1 (hr_16 hR) ea2114
      refine hp_iast hx hb hZ ea2114 (hq_in (by omega) (by omega)) dX13_readLine_166 (fun V2116 _ _ e2117 o2118 hZ => ?_)
      have e2117 : V2116 (q + 16) = some (.inl (cs 1, 120, .inl (upd (rf2112) ((y2002 : Int32).toNatClampNeg) (0)))) := e2117
      have hl2119 : (0 : Int32).toInt = 0 := by decide
      have hP := hP.put (hr_16 hR) e2117 o2118 (hq_c21 (by omega) (hq_upd hra2115 (show 0 ≤ _ ∧ _ ≤ 29 by constructor <;> omega))) rfl
      obtain ⟨g2120, ge2121⟩ : ∃ g9 : Nat → Int32, g9 = upd (rf2112) ((y2002 : Int32).toNatClampNeg) (0) := ⟨_, rfl⟩
      have fx2122 : V2116 (q + 16) = some (.inl (cs 1, 120, .inl (g2120))) := by rw [ge2121]; exact e2117
      have hf2123 := hq_rg hP.1 (hr_16 hR) fx2122
      obtain ⟨rh2124, hrh2125⟩ : ∃ r9 : hm_Rh, r9 = hm_u2 rh2107 16 (y2002 : Int32).toNatClampNeg ((0 : Int32)) := ⟨_, rfl⟩
      have pk2126 : hm_AR cs V2116 q rh2124 := by rw [hrh2125]; exact pk2109.put (a := 16) (by decide) (by rw [ge2121, hrf2113]) fx2122 o2118
      have hH2127 : hm_H rh rh2124 := by rw [hrh2125]; exact hH2110.put (show 60 ≤ (y2002 : Int32).toNatClampNeg by have h8 := (hq_nn (z := y2002) (by omega)).1; omega)
      refine lv_aload_n hx hb dX13_readLine_167 rfl (lv_at hl 2 rfl) ?_
      have fx2128 : V2116 (mo) = some (.inr (13, hm_o q (m_tp) (m_sz) (m_fr) (m_bh) (m_hd) (m_ft) (m_fa) (m_le) (m_fo) (m_as) (m_fd) (m_bc) (m_bg) (m_bs) (m_be) (m_b0) (m_b1) (m_cm) (m_hc))) := (o2118 (mo) (hq_tne hmo (hr_16 hR) (by simp))).trans (fx2111)
      have pk2129 := hp0.keep ((o2118 (q + 20) (hq_tne (hr_20 hR) (hr_16 hR) (by simp))).trans ((o2101 (q + 20) (hq_tne (hr_20 hR) (hr_15 hR) (by simp))).trans ((o2084 (q + 20) (hq_tne (hr_20 hR) (hr_14 hR) (by simp))).trans ((o2067 (q + 20) (hq_tne (hr_20 hR) (hr_13 hR) (by simp))).trans ((o2050 (q + 20) (hq_tne (hr_20 hR) (hr_12 hR) (by simp))).trans ((o2033 (q + 20) (hq_tne (hr_20 hR) (hr_11 hR) (by simp))).trans (o2016 (q + 20) (hq_tne (hr_20 hR) (hr_10 hR) (by simp)))))))))
      refine hp_callv (hp_runV (As := []) (rest := []) hx hb hml hown hts (y_next l D cs B G V2116 n hP.1 (q) (mo) (w) (j) (m_tp) (m_sz) (m_fr) (m_bh) (m_hd) (m_ft) (m_fa) (m_le) (m_fo) (m_as) (m_fd) (m_bc) (m_bg) (m_bs) (m_be) (m_b0) (m_b1) (m_cm) (m_hc)  fx2128 pk2129 hR hmo hmq (by omega) hA (by omega)) hZ fx2128 cv_X13_111 rfl rfl ⟨Nat.le_of_ble_eq_true rfl, Nat.le_of_ble_eq_true rfl⟩ rfl hl.1 rfl (Nat.le_of_ble_eq_true rfl) dX13_readLine_168 ⟨(Nat.le_of_ble_eq_true rfl), (Nat.le_of_ble_eq_true rfl)⟩) hZ (fun V2130 n2131 _ _ hw2132 hZ => ?_)
      obtain ⟨rfl, hq2134, fr2135, z2136, z2137, z2138, ho2139, hp2140, hp2141⟩ := hw2132
      have b2142 := hq_rng z2136
      have b2143 := hq_rng z2137
      have b2144 := hq_rng z2138
      have hP := hP.trans hq2134 (fun _ h => Bool.noConfusion h)
      obtain ⟨b2145, b2146, b2147, -⟩ := id hp2140
      refine lv_iload_n hx hb dX13_readLine_171 rfl (lv_at hl 1 rfl) ?_
      refine lv_iconst (v := 4) hx hb dX13_readLine_172 (by decide) ?_
      refine lv_icmp_eq (tgt := 181) hx hb dX13_readLine_173 (by decide) (fun c2148 => absurd c2148 (by decide)) (fun c2148 => ?_)
      refine lv_iload_n hx hb dX13_readLine_176 rfl (lv_at hl 1 rfl) ?_
      refine lv_iconst (v := 5) hx hb dX13_readLine_177 (by decide) ?_
      refine lv_icmp_ne (tgt := 194) hx hb dX13_readLine_178 (by decide) (fun c2149 => ?_) (fun c2149 => absurd c2149 (by decide))
      refine lv_iload_n hx hb dX13_readLine_194 rfl (lv_at hl 1 rfl) ?_
      refine lv_iconst (v := 2) hx hb dX13_readLine_195 (by decide) ?_
      refine lv_icmp_eq (tgt := 204) hx hb dX13_readLine_196 (by decide) (fun c2150 => absurd c2150 (by decide)) (fun c2150 => ?_)
      refine lv_aload_n hx hb dX13_readLine_199 rfl (lv_at hl 2 rfl) ?_
      refine lv_iload_n hx hb dX13_readLine_200 rfl (lv_at hl 0 rfl) ?_
      have wl2151 : hm_WL (y2002).toNatClampNeg rh rh2022 := by rw [hrh2023]; exact wl0.put (Or.inl ⟨by decide, rfl⟩)
      have wl2152 : hm_WL (y2002).toNatClampNeg rh rh2039 := by rw [hrh2040]; exact wl2151.put (Or.inl ⟨by decide, rfl⟩)
      have wl2153 : hm_WL (y2002).toNatClampNeg rh rh2056 := by rw [hrh2057]; exact wl2152.put (Or.inl ⟨by decide, rfl⟩)
      have wl2154 : hm_WL (y2002).toNatClampNeg rh rh2073 := by rw [hrh2074]; exact wl2153.put (Or.inl ⟨by decide, rfl⟩)
      have wl2155 : hm_WL (y2002).toNatClampNeg rh rh2090 := by rw [hrh2091]; exact wl2154.put (Or.inl ⟨by decide, rfl⟩)
      have wl2156 : hm_WL (y2002).toNatClampNeg rh rh2107 := by rw [hrh2108]; exact wl2155.put (Or.inl ⟨by decide, rfl⟩)
      have wl2157 : hm_WL (y2002).toNatClampNeg rh rh2124 := by rw [hrh2125]; exact wl2156.put (Or.inl ⟨by decide, rfl⟩)
      have nl2158 : hm_NL rh2124 7 3 6 6 w cl := hCN.keep (fun i _ _ => wl2157 7 i (fun g9 => by omega)) (fun i _ _ => wl2157 3 i (fun g9 => by omega))
      have cn2159 : (rh2124 0 1).toInt = (cl.length : Int) := by rw [wl2157 0 1 (fun g9 => by omega)]; exact hcc
      have b2160 : (rh2124 11 (y2002).toNatClampNeg).toInt = -1 := by rw [hrh2125, hm_u2a (by decide), hrh2108, hm_u2a (by decide), hrh2091, hm_u2a (by decide), hrh2074, hm_u2a (by decide), hrh2057, hm_u2a (by decide), hrh2040, hm_u2e]; decide
      have pk2161 := pk2129.keep (fr2135 (q + 20) (hq_tne (hr_20 hR) hmo (by simp)))
      have pk2162 := pk2126.keep (fun x7 (hx7 : q ≤ x7 ∧ x7 < q + 19) => fr2135 x7 (by omega))
      refine hq_callx (hq_runV (As := [.int (y2002)]) (rest := []) hx hb hml hown hts (y_readWhere l D cs B G V2130 n hP.1 (q) (mo) (w) (rh2124) (j + 1) (cl) (m_tp) (m_sz) (z2136) (z2137) (z2138) (m_ft) (m_fa) (m_le) (m_fo) (m_as) (m_fd) (m_bc) (m_bg) (m_bs) (m_be) (m_b0) (m_b1) (m_cm) (m_hc) (y2002)  ho2139 pk2161 pk2162 hR hmo hmq (by omega) hp2140 nl2158 cn2159 (by omega) b2160) hZ ho2139 cv_X13_185 rfl rfl ⟨Nat.le_of_ble_eq_true rfl, Nat.le_of_ble_eq_true rfl⟩ rfl hl.1 rfl (Nat.le_of_ble_eq_true rfl) dX13_readLine_201 ⟨(Nat.le_of_ble_eq_true rfl), (Nat.le_of_ble_eq_true rfl)⟩) hZ hnx hlocks (by rintro x9 V9x n9 ⟨rfl, rfl, hqx, frx, zx2169, zx2170, zx2171, zx2172, zx2173, zx2174, hox2175, hpx2176, hpx2177, hpx2178⟩; have b2179 := hq_rng zx2169; have b2180 := hq_rng zx2170; have b2181 := hq_rng zx2171; have b2182 := hq_rng zx2172; have b2183 := hq_rng zx2173; exact ⟨rfl, rfl, hP.trans hqx (fun _ h => Bool.noConfusion h), (fun x8 hne0 hne1 => (frx x8 hne0 hne1).trans ((fr2135 x8 hne0).trans ((o2118 x8 (by omega)).trans ((o2101 x8 (by omega)).trans ((o2084 x8 (by omega)).trans ((o2067 x8 (by omega)).trans ((o2050 x8 (by omega)).trans ((o2033 x8 (by omega)).trans (o2016 x8 (by omega)))))))))), zx2169, zx2170, zx2171, zx2172, zx2173, zx2174, hox2175, (by have hk9 := hpx2176.1; unfold sp_tl sp_line; (try dsimp only); (repeat (first | (rw [if_pos]; rotate_left; omega) | (rw [if_neg]; rotate_left; omega))); (try dsimp only); exact hpx2176), hpx2177, (hH2127.trans hpx2178)⟩) (fun v9 V2163 n2164 _ _ hw2165 hZ => ?_)
      obtain ⟨rfl, rfl, hq2167, fr2168, z2184, z2185, z2186, u2187, ho2188, hp2189, hp2190, hp2191⟩ := hw2165
      refine W.eq (g2 := F0 m 204 ls []) rfl ?_
      have b2192 := hq_rng z2184
      have b2193 := hq_rng z2185
      have b2194 := hq_rng z2186
      have hP := hP.trans hq2167 (fun _ h => Bool.noConfusion h)
      obtain ⟨b2195, hA2196, b2197⟩ := hp2189
      obtain ⟨b2198, b2199, b2200, -⟩ := id hA2196
      have wl2201 := wl2157.w hp2191 (by decide)
      have hH2202 := hH2127.trans (hp2191.H (hm_h60 (by decide) (by omega)))
      refine lv_iload_n hx hb dX13_readLine_204 rfl (lv_at hl 1 rfl) ?_
      refine lv_iconst (v := 2) hx hb dX13_readLine_205 (by decide) ?_
      refine lv_icmp_eq (tgt := 219) hx hb dX13_readLine_206 (by decide) (fun c2203 => absurd c2203 (by decide)) (fun c2203 => ?_)
      refine lv_iload_n hx hb dX13_readLine_209 rfl (lv_at hl 1 rfl) ?_
      refine lv_iconst (v := 3) hx hb dX13_readLine_210 (by decide) ?_
      refine lv_icmp_eq (tgt := 219) hx hb dX13_readLine_211 (by decide) (fun c2204 => absurd c2204 (by decide)) (fun c2204 => ?_)
      refine lv_aload_n hx hb dX13_readLine_214 rfl (lv_at hl 2 rfl) ?_
      refine lv_iload_n hx hb dX13_readLine_215 rfl (lv_at hl 0 rfl) ?_
      have b2205 : (u2187 13 (y2002).toNatClampNeg).toInt = -1 := by rw [hp2191 13 _ (fun g9 => absurd g9.1 (by decide)), hrh2125, hm_u2a (by decide), hrh2108, hm_u2a (by decide), hrh2091, hm_u2a (by decide), hrh2074, hm_u2e]; decide
      have pk2206 := pk2161.keep (fr2168 (q + 20) (hq_tne (hr_20 hR) hmo (by simp)) (by omega))
      refine hq_callx (hq_runV (As := [.int (y2002)]) (rest := []) hx hb hml hown hts (y_readSlot l D cs B G V2163 n hP.1 (q) (mo) (w) (u2187) ((sp_where w cl (j + 1)).2.1) (m_tp) (m_sz) (z2184) (z2185) (z2186) (m_ft) (m_fa) (m_le) (m_fo) (m_as) (m_fd) (m_bc) (m_bg) (m_bs) (m_be) (m_b0) (m_b1) (m_cm) (m_hc) (y2002)  ho2188 pk2206 hp2190 hR hmo hmq (by omega) hA2196 (by omega) b2205) hZ ho2188 cv_X13_189 rfl rfl ⟨Nat.le_of_ble_eq_true rfl, Nat.le_of_ble_eq_true rfl⟩ rfl hl.1 rfl (Nat.le_of_ble_eq_true rfl) dX13_readLine_216 ⟨(Nat.le_of_ble_eq_true rfl), (Nat.le_of_ble_eq_true rfl)⟩) hZ hnx hlocks (by rintro x9 V9x n9 ⟨rfl, rfl, hqx, frx, zx2213, zx2214, zx2215, zx2216, zx2217, zx2218, hox2219, hpx2220, hpx2221, hpx2222⟩; have b2223 := hq_rng zx2213; have b2224 := hq_rng zx2214; have b2225 := hq_rng zx2215; have b2226 := hq_rng zx2216; have b2227 := hq_rng zx2217; exact ⟨rfl, rfl, hP.trans hqx (fun _ h => Bool.noConfusion h), (fun x8 hne0 hne1 => (frx x8 hne0 hne1).trans ((fr2168 x8 hne0 hne1).trans ((fr2135 x8 hne0).trans ((o2118 x8 (by omega)).trans ((o2101 x8 (by omega)).trans ((o2084 x8 (by omega)).trans ((o2067 x8 (by omega)).trans ((o2050 x8 (by omega)).trans ((o2033 x8 (by omega)).trans (o2016 x8 (by omega))))))))))), zx2213, zx2214, zx2215, zx2216, zx2217, zx2218, hox2219, (by have hk9 := hpx2220.1; unfold sp_tl sp_line; (try dsimp only); (repeat (first | (rw [if_pos]; rotate_left; omega) | (rw [if_neg]; rotate_left; omega))); (try dsimp only); exact hpx2220), hpx2221, (hH2202.trans hpx2222)⟩) (fun v9 V2207 n2208 _ _ hw2209 hZ => ?_)
      obtain ⟨rfl, rfl, hq2211, fr2212, z2228, z2229, z2230, u2231, ho2232, hp2233, hp2234, hp2235⟩ := hw2209
      refine W.eq (g2 := F0 m 219 ls []) rfl ?_
      have b2236 := hq_rng z2228
      have b2237 := hq_rng z2229
      have b2238 := hq_rng z2230
      have hP := hP.trans hq2211 (fun _ h => Bool.noConfusion h)
      obtain ⟨b2239, hA2240, b2241, b2242⟩ := hp2233
      obtain ⟨b2243, b2244, b2245, -⟩ := id hA2240
      have wl2246 := wl2201.w hp2235 (by decide)
      have hH2247 := hH2202.trans (hp2235.H (hm_h60 (by decide) (by omega)))
      refine lv_iload_n hx hb dX13_readLine_219 rfl (lv_at hl 1 rfl) ?_
      refine lv_iconst (v := 3) hx hb dX13_readLine_220 (by decide) ?_
      refine lv_icmp_ne (tgt := 229) hx hb dX13_readLine_221 (by decide) (fun c2248 => ?_) (fun c2248 => absurd c2248 (by decide))
      refine lv_iload_n hx hb dX13_readLine_229 rfl (lv_at hl 1 rfl) ?_
      refine lv_if_eq (tgt := 248) hx hb dX13_readLine_230 (by decide) (fun c2249 => ?_) (fun c2249 => absurd (by decide) c2249)
      refine lv_aload_n hx hb dX13_readLine_248 rfl (lv_at hl 2 rfl) ?_
      refine hp_get (v := .int (z2230)) hx hb hts hown hZ ho2232 fl_X13_83 rfl dX13_readLine_249 ?_
      refine lv_iconst (v := 3) hx hb dX13_readLine_252 (by decide) ?_
      refine lv_icmp_eq (tgt := 262) hx hb dX13_readLine_253 (by decide) (fun c2250 => ?_) (fun c2250 => ?_)
      · have c2250 : (z2230).toInt = (3 : Int) := hq_eqi.mp c2250
        have b2251 := sp_h_3 (sp_k w ((sp_slot w ((sp_where w cl (j + 1)).2.1)).2.1))
        have hk19 : sp_k w ((sp_slot w ((sp_where w cl (j + 1)).2.1)).2.1) = 19 := by omega
        have hlt1 := sp_tok_let (w := w) (j := (sp_slot w ((sp_where w cl (j + 1)).2.1)).2.1) hk19
        have hsz1 : sp_sz w ((sp_slot w ((sp_where w cl (j + 1)).2.1)).2.1) = sp_e w ((sp_slot w ((sp_where w cl (j + 1)).2.1)).2.1) - sp_s w ((sp_slot w ((sp_where w cl (j + 1)).2.1)).2.1) - 2 := rfl
        have hbe1 := hA2240.2.2.2 (by omega)
        refine lv_iload_n hx hb dX13_readLine_262 rfl (lv_at hl 1 rfl) ?_
        refine lv_iconst (v := 4) hx hb dX13_readLine_263 (by decide) ?_
        refine lv_icmp_ne (tgt := 282) hx hb dX13_readLine_264 (by decide) (fun c2252 => ?_) (fun c2252 => absurd c2252 (by decide))
        refine lv_iload_n hx hb dX13_readLine_282 rfl (lv_at hl 1 rfl) ?_
        refine lv_iconst (v := 1) hx hb dX13_readLine_283 (by decide) ?_
        refine lv_icmp_eq (tgt := 306) hx hb dX13_readLine_284 (by decide) (fun c2253 => absurd c2253 (by decide)) (fun c2253 => ?_)
        refine lv_aload_n hx hb dX13_readLine_287 rfl (lv_at hl 2 rfl) ?_
        refine hp_get (v := .int (z2229)) hx hb hts hown hZ ho2232 fl_X13_76 rfl dX13_readLine_288 ?_
        refine lv_aload_n hx hb dX13_readLine_291 rfl (lv_at hl 2 rfl) ?_
        refine hp_get (v := .int (z2228)) hx hb hts hown hZ ho2232 fl_X13_60 rfl dX13_readLine_292 ?_
        refine lv_isub hx hb dX13_readLine_295 ?_
        refine lv_topi (fun y2254 ey2255 => ?_)
        obtain ⟨k2256, hk2257, b2258, b2259⟩ := hq_sub (z2229) (z2228)
        rw [← ey2255] at hk2257 b2258 b2259
        have hk2257 : (y2254).toInt = (z2229).toInt - (z2228).toInt + k2256 * 4294967296 := hk2257
        obtain rfl : k2256 = 0 := by omega
        refine lv_iconst (v := 2) hx hb dX13_readLine_296 (by decide) ?_
        refine lv_icmp_ne (tgt := 306) hx hb dX13_readLine_297 (by decide) (fun c2260 => ?_) (fun c2260 => ?_)
        · have c2260 : ¬ (y2254).toInt = (2 : Int) := fun h9 => c2260 (hq_eqi.mpr h9)
          have hn2 : ¬ sp_e w ((sp_slot w ((sp_where w cl (j + 1)).2.1)).2.1) - sp_s w ((sp_slot w ((sp_where w cl (j + 1)).2.1)).2.1) = 2 := by omega
          refine lv_aload_n hx hb dX13_readLine_306 rfl (lv_at hl 2 rfl) ?_
          refine hp_get (v := .ref (q + 14)) hx hb hts hown hZ ho2232 fl_X13_41 rfl dX13_readLine_307 ?_
          refine lv_iload_n hx hb dX13_readLine_310 rfl (lv_at hl 0 rfl) ?_
          refine lv_aload_n hx hb dX13_readLine_311 rfl (lv_at hl 2 rfl) ?_
          refine lv_aload_n hx hb dX13_readLine_312 rfl (lv_at hl 2 rfl) ?_
          refine hp_get (v := .ref (q + 5)) hx hb hts hown hZ ho2232 fl_X13_23 rfl dX13_readLine_313 ?_
          refine lv_iload_n hx hb dX13_readLine_316 rfl (lv_at hl 0 rfl) ?_
          have pk2261 := pk2206.keep (fr2212 (q + 20) (hq_tne (hr_20 hR) hmo (by simp)) (by omega))
          refine hp_calli (hp_runV (As := [.ref (q + 5), .int (y2002)]) (rest := [.int (y2002), .ref (q + 14)]) hx hb hml hown hts (y_takeLetters5 l D cs B G V2207 n hP.1 (q) (mo) (w) (u2231) ((sp_slot w ((sp_where w cl (j + 1)).2.1)).2.1) (m_tp) (m_sz) (z2228) (z2229) (z2230) (m_ft) (m_fa) (m_le) (m_fo) (m_as) (m_fd) (m_bc) (m_bg) (m_bs) (m_be) (m_b0) (m_b1) (m_cm) (m_hc) (y2002)  ho2232 pk2261 hp2234 hR hmo hmq (by omega) hA2240 hk19 (by omega)) hZ ho2232 cv_X13_198 rfl rfl ⟨Nat.le_of_ble_eq_true rfl, Nat.le_of_ble_eq_true rfl⟩ rfl hl.1 rfl (Nat.le_of_ble_eq_true rfl) dX13_readLine_317 ⟨(Nat.le_of_ble_eq_true rfl), (Nat.le_of_ble_eq_true rfl)⟩) hZ (fun r2265 V2262 n2263 _ _ hw2264 hZ => ?_)
          obtain ⟨rfl, hq2266, fr2267, z2268, z2269, z2270, u2271, ho2272, hp2273, hp2274, hp2275, hp2276, hp2277, hp2278⟩ := hw2264
          have b2279 := hq_rng z2268
          have b2280 := hq_rng z2269
          have b2281 := hq_rng z2270
          have hP := hP.trans hq2266 (fun _ h => Bool.noConfusion h)
          have b2282 := hq_rng r2265
          have wl2283 := wl2246.l hp2276 (Or.inl rfl)
          have hH2284 := hH2247.trans hp2278
          obtain ⟨b2285, b2286, b2287, -⟩ := id hp2274
          obtain ⟨rf2288, hrf2289⟩ : ∃ f : Nat → Int32, f = u2271 14 := ⟨_, rfl⟩
          have ea2290 : V2262 (q + 14) = some (.inl (cs 1, 120, .inl (rf2288))) := by rw [hrf2289]; exact hp2275 14 (by decide)
          have hra2291 := hq_rg hP.1 (hr_14 hR) ea2290
          refine hp_iast hx hb hZ ea2290 (hq_in (by omega) (by omega)) dX13_readLine_320 (fun V2292 _ _ e2293 o2294 hZ => ?_)
          have e2293 : V2292 (q + 14) = some (.inl (cs 1, 120, .inl (upd (rf2288) ((y2002 : Int32).toNatClampNeg) (r2265)))) := e2293
          have hP := hP.put (hr_14 hR) e2293 o2294 (hq_c21 (by omega) (hq_upd hra2291 (show 0 ≤ _ ∧ _ ≤ 8 by constructor <;> omega))) rfl
          obtain ⟨g2295, ge2296⟩ : ∃ g9 : Nat → Int32, g9 = upd (rf2288) ((y2002 : Int32).toNatClampNeg) (r2265) := ⟨_, rfl⟩
          have fx2297 : V2292 (q + 14) = some (.inl (cs 1, 120, .inl (g2295))) := by rw [ge2296]; exact e2293
          have hf2298 := hq_rg hP.1 (hr_14 hR) fx2297
          obtain ⟨rh2299, hrh2300⟩ : ∃ r9 : hm_Rh, r9 = hm_u2 u2271 14 (y2002 : Int32).toNatClampNeg ((r2265 : Int32)) := ⟨_, rfl⟩
          have pk2301 : hm_AR cs V2292 q rh2299 := by rw [hrh2300]; exact hp2275.put (a := 14) (by decide) (by rw [ge2296, hrf2289]) fx2297 o2294
          have hH2302 : hm_H rh rh2299 := by rw [hrh2300]; exact hH2284.put (show 60 ≤ (y2002 : Int32).toNatClampNeg by have h8 := (hq_nn (z := y2002) (by omega)).1; omega)
          refine lv_iload_n hx hb dX13_readLine_321 rfl (lv_at hl 1 rfl) ?_
          refine lv_if_eq (tgt := 330) hx hb dX13_readLine_322 (by decide) (fun c2303 => ?_) (fun c2303 => absurd (by decide) c2303)
          refine lv_aload_n hx hb dX13_readLine_330 rfl (lv_at hl 2 rfl) ?_
          refine va_ldcS (tx := (hp_so.getD 5 ("", 0, "")).2.2) (q := cs (100 + 5)) hx hb hown (hZ.2.2.2.2.2.2.2.2.2.2 5 (by decide)) dX13_readLine_331 ?_
          have fx2304 : V2292 (mo) = some (.inr (13, hm_o q (m_tp) (m_sz) (z2268) (z2269) (z2270) (m_ft) (m_fa) (m_le) (m_fo) (m_as) (m_fd) (m_bc) (m_bg) (m_bs) (m_be) (m_b0) (m_b1) (m_cm) (m_hc))) := (o2294 (mo) (hq_tne hmo (hr_14 hR) (by simp))).trans (ho2272)
          have pk2305 := pk2261.keep ((o2294 (q + 20) (hq_tne (hr_20 hR) (hr_14 hR) (by simp))).trans (fr2267 (q + 20) (hq_tne (hr_20 hR) hmo (by simp)) (by omega)))
          refine hq_callx (hq_runV (As := [.ref (cs (100 + 5))]) (rest := []) hx hb hml hown hts (y_need l D cs B G V2292 n hP.1 (q) (mo) (w) ((sp_slot w ((sp_where w cl (j + 1)).2.1)).2.1 + 1) (5) (9) (9) (m_tp) (m_sz) (z2268) (z2269) (z2270) (m_ft) (m_fa) (m_le) (m_fo) (m_as) (m_fd) (m_bc) (m_bg) (m_bs) (m_be) (m_b0) (m_b1) (m_cm) (m_hc)  fx2304 pk2305 hR hmo hmq (by omega) hp2274 (by decide) (by decide) rfl (by decide) rfl) hZ fx2304 cv_X13_172 rfl rfl ⟨Nat.le_of_ble_eq_true rfl, Nat.le_of_ble_eq_true rfl⟩ rfl hl.1 rfl (Nat.le_of_ble_eq_true rfl) dX13_readLine_333 ⟨(Nat.le_of_ble_eq_true rfl), (Nat.le_of_ble_eq_true rfl)⟩) hZ hnx hlocks (by rintro x9 V9x n9 ⟨rfl, rfl, hqx, frx, zx2312, zx2313, zx2314, zx2315, zx2316, hox2317, hpx2318⟩; have b2319 := hq_rng zx2312; have b2320 := hq_rng zx2313; have b2321 := hq_rng zx2314; have b2322 := hq_rng zx2315; have b2323 := hq_rng zx2316; obtain ⟨ht91, ht92, ht93⟩ := sp_take_F hpx2318; obtain ⟨hc91, hc92⟩ := sp_chg_c (w := w) (j := (sp_slot w ((sp_where w cl (j + 1)).2.1)).2.1) hk19 hn2 ht91; have hc93 : sp_s w (sp_chg w ((sp_slot w ((sp_where w cl (j + 1)).2.1)).2.1)).2 = sp_s w ((sp_slot w ((sp_where w cl (j + 1)).2.1)).2.1 + 1) := (by rw [hc92]); have pk2324 := pk2301.keep (fun x7 (hx7 : q ≤ x7 ∧ x7 < q + 19) => frx x7 (by omega)); exact ⟨rfl, rfl, hP.trans hqx (fun _ h => Bool.noConfusion h), (fun x8 hne0 hne1 => (frx x8 hne0).trans ((o2294 x8 (by omega)).trans ((fr2267 x8 hne0 hne1).trans ((fr2212 x8 hne0 hne1).trans ((fr2168 x8 hne0 hne1).trans ((fr2135 x8 hne0).trans ((o2118 x8 (by omega)).trans ((o2101 x8 (by omega)).trans ((o2084 x8 (by omega)).trans ((o2067 x8 (by omega)).trans ((o2050 x8 (by omega)).trans ((o2033 x8 (by omega)).trans (o2016 x8 (by omega)))))))))))))), zx2312, zx2313, zx2314, zx2315, zx2316, rh2299, hox2317, (by unfold sp_tl sp_line; (try dsimp only); (repeat (first | (rw [if_pos]; rotate_left; omega) | (rw [if_neg]; rotate_left; omega))); (try dsimp only); exact ⟨by omega, by omega, by omega⟩), pk2324, hH2302⟩) (fun v9 V2306 n2307 _ _ hw2308 hZ => ?_)
          obtain ⟨rfl, rfl, hq2310, fr2311, z2325, z2326, z2327, ho2328, hp2329⟩ := hw2308
          refine W.eq (g2 := F0 m 336 ls []) rfl ?_
          have b2330 := hq_rng z2325
          have b2331 := hq_rng z2326
          have b2332 := hq_rng z2327
          have hP := hP.trans hq2310 (fun _ h => Bool.noConfusion h)
          obtain ⟨b2333, hA2334⟩ := hp2329
          obtain ⟨hto1, hto2⟩ := sp_take_j (w := w) (d := 9) (j := (sp_slot w ((sp_where w cl (j + 1)).2.1)).2.1 + 1) b2333
          rw [hto1] at hA2334
          have hA2335 : hm_A w ((sp_slot w ((sp_where w cl (j + 1)).2.1)).2.1 + 2) _ _ _ := hA2334
          obtain ⟨b2336, b2337, b2338, -⟩ := id hA2335
          refine lv_aload_n hx hb dX13_readLine_336 rfl (lv_at hl 2 rfl) ?_
          refine hp_get (v := .int (z2327)) hx hb hts hown hZ ho2328 fl_X13_83 rfl dX13_readLine_337 ?_
          refine lv_iconst (v := 3) hx hb dX13_readLine_340 (by decide) ?_
          refine lv_icmp_eq (tgt := 350) hx hb dX13_readLine_341 (by decide) (fun c2339 => ?_) (fun c2339 => ?_)
          · have c2339 : (z2327).toInt = (3 : Int) := hq_eqi.mp c2339
            have b2340 := sp_h_3 (sp_k w ((sp_slot w ((sp_where w cl (j + 1)).2.1)).2.1 + 2))
            have hk19b : sp_k w ((sp_slot w ((sp_where w cl (j + 1)).2.1)).2.1 + 2) = 19 := by omega
            have hlt2 := sp_tok_let (w := w) (j := (sp_slot w ((sp_where w cl (j + 1)).2.1)).2.1 + 2) hk19b
            have hsz2 : sp_sz w ((sp_slot w ((sp_where w cl (j + 1)).2.1)).2.1 + 2) = sp_e w ((sp_slot w ((sp_where w cl (j + 1)).2.1)).2.1 + 2) - sp_s w ((sp_slot w ((sp_where w cl (j + 1)).2.1)).2.1 + 2) - 2 := rfl
            refine lv_aload_n hx hb dX13_readLine_350 rfl (lv_at hl 2 rfl) ?_
            refine hp_get (v := .ref (q + 15)) hx hb hts hown hZ ho2328 fl_X13_44 rfl dX13_readLine_351 ?_
            refine lv_iload_n hx hb dX13_readLine_354 rfl (lv_at hl 0 rfl) ?_
            refine lv_aload_n hx hb dX13_readLine_355 rfl (lv_at hl 2 rfl) ?_
            refine lv_aload_n hx hb dX13_readLine_356 rfl (lv_at hl 2 rfl) ?_
            refine hp_get (v := .ref (q + 6)) hx hb hts hown hZ ho2328 fl_X13_26 rfl dX13_readLine_357 ?_
            refine lv_iload_n hx hb dX13_readLine_360 rfl (lv_at hl 0 rfl) ?_
            have wl2341 : hm_WL (y2002).toNatClampNeg rh rh2299 := by rw [hrh2300]; exact wl2283.put (Or.inl ⟨by decide, rfl⟩)
            have pk2342 := pk2305.keep (fr2311 (q + 20) (hq_tne (hr_20 hR) hmo (by simp)))
            have pk2343 := pk2301.keep (fun x7 (hx7 : q ≤ x7 ∧ x7 < q + 19) => fr2311 x7 (by omega))
            refine hp_calli (hp_runV (As := [.ref (q + 6), .int (y2002)]) (rest := [.int (y2002), .ref (q + 15)]) hx hb hml hown hts (y_takeLetters6 l D cs B G V2306 n hP.1 (q) (mo) (w) (rh2299) ((sp_slot w ((sp_where w cl (j + 1)).2.1)).2.1 + 2) (m_tp) (m_sz) (z2325) (z2326) (z2327) (m_ft) (m_fa) (m_le) (m_fo) (m_as) (m_fd) (m_bc) (m_bg) (m_bs) (m_be) (m_b0) (m_b1) (m_cm) (m_hc) (y2002)  ho2328 pk2342 pk2343 hR hmo hmq (by omega) hA2335 hk19b (by omega)) hZ ho2328 cv_X13_198 rfl rfl ⟨Nat.le_of_ble_eq_true rfl, Nat.le_of_ble_eq_true rfl⟩ rfl hl.1 rfl (Nat.le_of_ble_eq_true rfl) dX13_readLine_361 ⟨(Nat.le_of_ble_eq_true rfl), (Nat.le_of_ble_eq_true rfl)⟩) hZ (fun r2347 V2344 n2345 _ _ hw2346 hZ => ?_)
            obtain ⟨rfl, hq2348, fr2349, z2350, z2351, z2352, u2353, ho2354, hp2355, hp2356, hp2357, hp2358, hp2359, hp2360⟩ := hw2346
            have b2361 := hq_rng z2350
            have b2362 := hq_rng z2351
            have b2363 := hq_rng z2352
            have hP := hP.trans hq2348 (fun _ h => Bool.noConfusion h)
            have b2364 := hq_rng r2347
            have wl2365 := wl2341.l hp2358 (Or.inr rfl)
            have hH2366 := hH2302.trans hp2360
            obtain ⟨b2367, b2368, b2369, -⟩ := id hp2356
            obtain ⟨rf2370, hrf2371⟩ : ∃ f : Nat → Int32, f = u2353 15 := ⟨_, rfl⟩
            have ea2372 : V2344 (q + 15) = some (.inl (cs 1, 120, .inl (rf2370))) := by rw [hrf2371]; exact hp2357 15 (by decide)
            have hra2373 := hq_rg hP.1 (hr_15 hR) ea2372
            refine hp_iast hx hb hZ ea2372 (hq_in (by omega) (by omega)) dX13_readLine_364 (fun V2374 _ _ e2375 o2376 hZ => ?_)
            have e2375 : V2374 (q + 15) = some (.inl (cs 1, 120, .inl (upd (rf2370) ((y2002 : Int32).toNatClampNeg) (r2347)))) := e2375
            have hP := hP.put (hr_15 hR) e2375 o2376 (hq_c21 (by omega) (hq_upd hra2373 (show 0 ≤ _ ∧ _ ≤ 8 by constructor <;> omega))) rfl
            obtain ⟨g2377, ge2378⟩ : ∃ g9 : Nat → Int32, g9 = upd (rf2370) ((y2002 : Int32).toNatClampNeg) (r2347) := ⟨_, rfl⟩
            have fx2379 : V2374 (q + 15) = some (.inl (cs 1, 120, .inl (g2377))) := by rw [ge2378]; exact e2375
            have hf2380 := hq_rg hP.1 (hr_15 hR) fx2379
            obtain ⟨rh2381, hrh2382⟩ : ∃ r9 : hm_Rh, r9 = hm_u2 u2353 15 (y2002 : Int32).toNatClampNeg ((r2347 : Int32)) := ⟨_, rfl⟩
            have pk2383 : hm_AR cs V2374 q rh2381 := by rw [hrh2382]; exact hp2357.put (a := 15) (by decide) (by rw [ge2378, hrf2371]) fx2379 o2376
            have hH2384 : hm_H rh rh2381 := by rw [hrh2382]; exact hH2366.put (show 60 ≤ (y2002 : Int32).toNatClampNeg by have h8 := (hq_nn (z := y2002) (by omega)).1; omega)
            refine lv_iload_n hx hb dX13_readLine_365 rfl (lv_at hl 1 rfl) ?_
            refine lv_iconst (v := 2) hx hb dX13_readLine_366 (by decide) ?_
            refine lv_icmp_ne (tgt := 390) hx hb dX13_readLine_367 (by decide) (fun c2385 => ?_) (fun c2385 => absurd c2385 (by decide))
            refine lv_aload_n hx hb dX13_readLine_390 rfl (lv_at hl 2 rfl) ?_
            have fx2386 : V2374 (mo) = some (.inr (13, hm_o q (m_tp) (m_sz) (z2350) (z2351) (z2352) (m_ft) (m_fa) (m_le) (m_fo) (m_as) (m_fd) (m_bc) (m_bg) (m_bs) (m_be) (m_b0) (m_b1) (m_cm) (m_hc))) := (o2376 (mo) (hq_tne hmo (hr_15 hR) (by simp))).trans (ho2354)
            refine hp_get (v := .ref (q + 2)) hx hb hts hown hZ fx2386 fl_X13_10 rfl dX13_readLine_391 ?_
            refine lv_iconst (v := 1) hx hb dX13_readLine_394 (by decide) ?_
            refine lv_dup2_11 hx hb dX13_readLine_395 rfl rfl ?_
            obtain ⟨rf2387, hrf2388⟩ : ∃ f : Nat → Int32, f = rh2381 2 := ⟨_, rfl⟩
            have ea2389 : V2374 (q + 2) = some (.inl (cs 1, 2, .inl (rf2387))) := by rw [hrf2388]; exact pk2383 2 (by decide)
            have hra2390 := hq_rg hP.1 (hr_2 hR) ea2389
            refine hp_iald hx hb hZ ea2389 (by unfold vp_in; decide) dX13_readLine_396 ?_
            refine lv_topi (fun y2391 ey2392 => ?_)
            have b2393 : hq_ir (hq_lo 8) (hq_hi 8) y2391 := by rw [ey2392]; exact hra2390 _ (by decide)
            have b2393 : 0 ≤ (y2391).toInt ∧ (y2391).toInt ≤ 60 := b2393
            have b2394 : (y2391).toInt = (lz.length : Int) := by rw [ey2392, hrf2388, hrh2382, hm_u2a (by decide), hp2358 2 _ (fun g9 => absurd g9.1 (by decide)), hrh2300, hm_u2a (by decide), hp2276 2 _ (fun g9 => absurd g9.1 (by decide)), hp2235 2 _ (fun g9 => absurd g9.1 (by decide)), hp2191 2 _ (fun g9 => absurd g9.1 (by decide)), hrh2125, hm_u2a (by decide), hrh2108, hm_u2a (by decide), hrh2091, hm_u2a (by decide), hrh2074, hm_u2a (by decide), hrh2057, hm_u2a (by decide), hrh2040, hm_u2a (by decide), hrh2023, hm_u2a (by decide)]; exact hcl
            refine lv_iconst (v := 1) hx hb dX13_readLine_397 (by decide) ?_
            refine lv_iadd hx hb dX13_readLine_398 ?_
            refine lv_topi (fun y2395 ey2396 => ?_)
            obtain ⟨k2397, hk2398, b2399, b2400⟩ := hq_add (y2391) (1)
            rw [← ey2396] at hk2398 b2399 b2400
            have hk2398 : (y2395).toInt = (y2391).toInt + (1 : Int) + k2397 * 4294967296 := hk2398
            obtain rfl : k2397 = 0 := by omega
            refine hp_iast hx hb hZ ea2389 (by unfold vp_in; decide) dX13_readLine_399 (fun V2401 _ _ e2402 o2403 hZ => ?_)
            have e2402 : V2401 (q + 2) = some (.inl (cs 1, 2, .inl (upd (rf2387) ((1 : Int32).toNatClampNeg) (y2395)))) := e2402
            have hP := hP.put (hr_2 hR) e2402 o2403 (hq_c21 (by omega) (hq_upd hra2390 (show 0 ≤ _ ∧ _ ≤ 60 by constructor <;> omega))) rfl
            obtain ⟨g2404, ge2405⟩ : ∃ g9 : Nat → Int32, g9 = upd (rf2387) ((1 : Int32).toNatClampNeg) (y2395) := ⟨_, rfl⟩
            have fx2406 : V2401 (q + 2) = some (.inl (cs 1, 2, .inl (g2404))) := by rw [ge2405]; exact e2402
            have hf2407 := hq_rg hP.1 (hr_2 hR) fx2406
            obtain ⟨rh2408, hrh2409⟩ : ∃ r9 : hm_Rh, r9 = hm_u2 rh2381 2 (1 : Int32).toNatClampNeg ((y2395 : Int32)) := ⟨_, rfl⟩
            have pk2410 : hm_AR cs V2401 q rh2408 := by rw [hrh2409]; exact pk2383.put (a := 2) (by decide) (by rw [ge2405, hrf2388]) fx2406 o2403
            have hH2411 : hm_H rh rh2408 := by rw [hrh2409]; exact hH2384.put (show 1 ≤ (1 : Int32).toNatClampNeg by have h8 := (hq_nn (z := 1) (by omega)).1; omega)
            have wl2412 : hm_WL (y2002).toNatClampNeg rh rh2381 := by rw [hrh2382]; exact wl2365.put (Or.inl ⟨by decide, rfl⟩)
            have wl2413 : hm_WL (y2002).toNatClampNeg rh rh2408 := by rw [hrh2409]; exact wl2412.put (Or.inr ⟨rfl, rfl⟩)
            have hl2414 : (0 : Int32).toInt = 0 := by decide
            have hl2415 : (1 : Int32).toInt = 1 := by decide
            obtain ⟨hc91, hc92⟩ := sp_chg_e (w := w) (j := (sp_slot w ((sp_where w cl (j + 1)).2.1)).2.1) hk19 hn2 hto2 hk19b
            have fx2416 : V2401 (mo) = some (.inr (13, hm_o q (m_tp) (m_sz) (z2350) (z2351) (z2352) (m_ft) (m_fa) (m_le) (m_fo) (m_as) (m_fd) (m_bc) (m_bg) (m_bs) (m_be) (m_b0) (m_b1) (m_cm) (m_hc))) := (o2403 (mo) (hq_tne hmo (hr_2 hR) (by simp))).trans (fx2386)
            exact hq_vret hx hb hr hlocks hZ ⟨rfl, rfl, hP, (fun x8 hne0 hne1 => (o2403 x8 (by omega)).trans ((o2376 x8 (by omega)).trans ((fr2349 x8 hne0 hne1).trans ((fr2311 x8 hne0).trans ((o2294 x8 (by omega)).trans ((fr2267 x8 hne0 hne1).trans ((fr2212 x8 hne0 hne1).trans ((fr2168 x8 hne0 hne1).trans ((fr2135 x8 hne0).trans ((o2118 x8 (by omega)).trans ((o2101 x8 (by omega)).trans ((o2084 x8 (by omega)).trans ((o2067 x8 (by omega)).trans ((o2050 x8 (by omega)).trans ((o2033 x8 (by omega)).trans (o2016 x8 (by omega))))))))))))))))), z2350, z2351, z2352, rh2408, fx2416, (by unfold sp_tl sp_line; (try dsimp only); (repeat (first | (rw [if_pos]; rotate_left; omega) | (rw [if_neg]; rotate_left; omega))); (try dsimp only); exact ⟨by first | rfl | omega, (by rw [hc92]; exact hp2356), (by rw [← hL9]; exact ⟨by rw [hrh2409, hm_u2a (by decide), hrh2382, hm_u2a (by decide), hp2358 10 _ (fun g9 => absurd g9.1 (by decide)), hrh2300, hm_u2a (by decide), hp2276 10 _ (fun g9 => absurd g9.1 (by decide)), hp2235 10 _ (fun g9 => absurd g9.1 (by decide)), hp2191 10 _ (fun g9 => absurd g9.1 (by decide)), hrh2125, hm_u2a (by decide), hrh2108, hm_u2a (by decide), hrh2091, hm_u2a (by decide), hrh2074, hm_u2a (by decide), hrh2057, hm_u2a (by decide), hrh2040, hm_u2a (by decide), hrh2023, hm_u2e]; first | omega | (dsimp only; omega), by rw [hrh2409, hm_u2a (by decide), hrh2382, hm_u2a (by decide), hp2358 11 _ (fun g9 => absurd g9.1 (by decide)), hrh2300, hm_u2a (by decide), hp2276 11 _ (fun g9 => absurd g9.1 (by decide)), hp2235 11 _ (fun g9 => absurd g9.1 (by decide))]; first | omega | (dsimp only; omega), by rw [hrh2409, hm_u2a (by decide), hrh2382, hm_u2a (by decide), hp2358 12 _ (fun g9 => absurd g9.1 (by decide)), hrh2300, hm_u2a (by decide), hp2276 12 _ (fun g9 => absurd g9.1 (by decide))]; first | omega | (dsimp only; omega), by rw [hrh2409, hm_u2a (by decide), hrh2382, hm_u2a (by decide), hp2358 13 _ (fun g9 => absurd g9.1 (by decide)), hrh2300, hm_u2a (by decide), hp2276 13 _ (fun g9 => absurd g9.1 (by decide))]; first | omega | (dsimp only; omega), by rw [hrh2409, hm_u2a (by decide), hrh2382, hm_u2a (by decide), hp2358 16 _ (fun g9 => absurd g9.1 (by decide)), hrh2300, hm_u2a (by decide), hp2276 16 _ (fun g9 => absurd g9.1 (by decide)), hp2235 16 _ (fun g9 => absurd g9.1 (by decide)), hp2191 16 _ (fun g9 => absurd g9.1 (by decide)), hrh2125, hm_u2e]; first | omega | (dsimp only; omega), ⟨by rw [hrh2409, hm_u2a (by decide), hrh2382, hm_u2a (by decide), hp2358 14 _ (fun g9 => absurd g9.1 (by decide)), hrh2300, hm_u2e]; first | omega | (dsimp only; omega), by first | omega | (dsimp only; omega), fun k9 hk9 => by rw [hrh2409, hm_u2a (by decide), hrh2382, hm_u2a (by decide), hp2358 5 _ (fun g9 => absurd g9.1 (by decide)), hrh2300, hm_u2a (by decide)]; exact hp2277 k9 hk9⟩, ⟨by rw [hrh2409, hm_u2a (by decide), hrh2382, hm_u2e]; first | omega | (dsimp only; omega), by first | omega | (dsimp only; omega), fun k9 hk9 => by rw [hrh2409, hm_u2a (by decide), hrh2382, hm_u2a (by decide)]; exact hp2359 k9 hk9⟩⟩), by omega, by show (rh2408 2 (1 : Int32).toNatClampNeg).toInt = _; rw [hrh2409, hm_u2e]; omega⟩), pk2410, (by rw [← hL9]; exact wl2413), hH2411⟩ dX13_readLine_400
          · have c2339 : ¬ (z2327).toInt = (3 : Int) := fun h9 => c2339 (hq_eqi.mpr h9)
            have b2417 := sp_h_3 (sp_k w ((sp_slot w ((sp_where w cl (j + 1)).2.1)).2.1 + 2))
            obtain ⟨b2418, hj2419⟩ := sp_chg_d (w := w) (j := (sp_slot w ((sp_where w cl (j + 1)).2.1)).2.1) hk19 hn2 hto2 (by omega)
            have b2420 : sp_s w (sp_chg w ((sp_slot w ((sp_where w cl (j + 1)).2.1)).2.1)).2 = sp_s w ((sp_slot w ((sp_where w cl (j + 1)).2.1)).2.1 + 2) := by rw [hj2419]
            refine lv_aload_n hx hb dX13_readLine_344 rfl (lv_at hl 2 rfl) ?_
            refine lv_iconst (v := 1) hx hb dX13_readLine_345 (by decide) ?_
            have hl2421 : (1 : Int32).toInt = 1 := by decide
            refine hp_callq (hp_runV (As := [.int (1)]) (rest := []) hx hb hml hown hts (y_wrong l D cs B G V2306 n hP.1 (q) (mo) (m_tp) (m_sz) (z2325) (z2326) (z2327) (m_ft) (m_fa) (m_le) (m_fo) (m_as) (m_fd) (m_bc) (m_bg) (m_bs) (m_be) (m_b0) (m_b1) (m_cm) (m_hc) (1)  ho2328  hR hmo hmq) hZ ho2328 cv_X13_107 rfl rfl ⟨Nat.le_of_ble_eq_true rfl, Nat.le_of_ble_eq_true rfl⟩ rfl hl.1 rfl (Nat.le_of_ble_eq_true rfl) dX13_readLine_346 ⟨(Nat.le_of_ble_eq_true rfl), (Nat.le_of_ble_eq_true rfl)⟩) hZ (fun r2425 V2422 n2423 _ _ hw2424 hZ => ?_)
            obtain ⟨rfl, hq2426, fr2427, ho2428, hp2429⟩ := hw2424
            have hP := hP.trans hq2426 (fun _ h => Bool.noConfusion h)
            subst hp2429
            refine W.eq (g2 := F0 m 349 ls [.ref (q + 19)]) rfl ?_
            have hl2430 : (1 : Int32).toInt = 1 := by decide
            have pk2431 := pk2301.keep (fun x7 (hx7 : q ≤ x7 ∧ x7 < q + 19) => (fr2427 x7 (by omega)).trans (fr2311 x7 (by omega)))
            exact hq_athrow hx hb hnx hlocks hZ ⟨rfl, rfl, hP, (fun x8 hne0 hne1 => (fr2427 x8 hne0).trans ((fr2311 x8 hne0).trans ((o2294 x8 (by omega)).trans ((fr2267 x8 hne0 hne1).trans ((fr2212 x8 hne0 hne1).trans ((fr2168 x8 hne0 hne1).trans ((fr2135 x8 hne0).trans ((o2118 x8 (by omega)).trans ((o2101 x8 (by omega)).trans ((o2084 x8 (by omega)).trans ((o2067 x8 (by omega)).trans ((o2050 x8 (by omega)).trans ((o2033 x8 (by omega)).trans (o2016 x8 (by omega))))))))))))))), z2325, z2326, z2327, 1, z2325, rh2299, ho2428, (by unfold sp_tl sp_line; (try dsimp only); (repeat (first | (rw [if_pos]; rotate_left; omega) | (rw [if_neg]; rotate_left; omega))); (try dsimp only); exact ⟨by omega, by omega, by omega⟩), pk2431, hH2302⟩ dX13_readLine_349
        · have c2260 : (y2254).toInt = (2 : Int) := hq_eqi.mp c2260
          obtain ⟨b2432, hj2433⟩ := sp_chg_b (w := w) (j := (sp_slot w ((sp_where w cl (j + 1)).2.1)).2.1) hk19 (by omega)
          have b2434 : sp_s w (sp_chg w ((sp_slot w ((sp_where w cl (j + 1)).2.1)).2.1)).2 = sp_s w ((sp_slot w ((sp_where w cl (j + 1)).2.1)).2.1) := by rw [hj2433]
          refine lv_aload_n hx hb dX13_readLine_300 rfl (lv_at hl 2 rfl) ?_
          refine lv_iconst (v := 5) hx hb dX13_readLine_301 (by decide) ?_
          have hl2435 : (5 : Int32).toInt = 5 := by decide
          refine hp_callq (hp_runV (As := [.int (5)]) (rest := []) hx hb hml hown hts (y_wrong l D cs B G V2207 n hP.1 (q) (mo) (m_tp) (m_sz) (z2228) (z2229) (z2230) (m_ft) (m_fa) (m_le) (m_fo) (m_as) (m_fd) (m_bc) (m_bg) (m_bs) (m_be) (m_b0) (m_b1) (m_cm) (m_hc) (5)  ho2232  hR hmo hmq) hZ ho2232 cv_X13_107 rfl rfl ⟨Nat.le_of_ble_eq_true rfl, Nat.le_of_ble_eq_true rfl⟩ rfl hl.1 rfl (Nat.le_of_ble_eq_true rfl) dX13_readLine_302 ⟨(Nat.le_of_ble_eq_true rfl), (Nat.le_of_ble_eq_true rfl)⟩) hZ (fun r2439 V2436 n2437 _ _ hw2438 hZ => ?_)
          obtain ⟨rfl, hq2440, fr2441, ho2442, hp2443⟩ := hw2438
          have hP := hP.trans hq2440 (fun _ h => Bool.noConfusion h)
          subst hp2443
          refine W.eq (g2 := F0 m 305 ls [.ref (q + 19)]) rfl ?_
          have hl2444 : (5 : Int32).toInt = 5 := by decide
          have pk2445 := hp2234.keep (fun x7 (hx7 : q ≤ x7 ∧ x7 < q + 19) => fr2441 x7 (by omega))
          exact hq_athrow hx hb hnx hlocks hZ ⟨rfl, rfl, hP, (fun x8 hne0 hne1 => (fr2441 x8 hne0).trans ((fr2212 x8 hne0 hne1).trans ((fr2168 x8 hne0 hne1).trans ((fr2135 x8 hne0).trans ((o2118 x8 (by omega)).trans ((o2101 x8 (by omega)).trans ((o2084 x8 (by omega)).trans ((o2067 x8 (by omega)).trans ((o2050 x8 (by omega)).trans ((o2033 x8 (by omega)).trans (o2016 x8 (by omega)))))))))))), z2228, z2229, z2230, 5, z2228, u2231, ho2442, (by unfold sp_tl sp_line; (try dsimp only); (repeat (first | (rw [if_pos]; rotate_left; omega) | (rw [if_neg]; rotate_left; omega))); (try dsimp only); exact ⟨by omega, by omega, by omega⟩), pk2445, hH2247⟩ dX13_readLine_305
      · have c2250 : ¬ (z2230).toInt = (3 : Int) := fun h9 => c2250 (hq_eqi.mpr h9)
        have b2446 := sp_h_3 (sp_k w ((sp_slot w ((sp_where w cl (j + 1)).2.1)).2.1))
        obtain ⟨b2447, hj2448⟩ := sp_chg_a (w := w) (j := (sp_slot w ((sp_where w cl (j + 1)).2.1)).2.1) (by omega)
        have b2449 : sp_s w (sp_chg w ((sp_slot w ((sp_where w cl (j + 1)).2.1)).2.1)).2 = sp_s w ((sp_slot w ((sp_where w cl (j + 1)).2.1)).2.1) := by rw [hj2448]
        refine lv_aload_n hx hb dX13_readLine_256 rfl (lv_at hl 2 rfl) ?_
        refine lv_iconst (v := 1) hx hb dX13_readLine_257 (by decide) ?_
        have hl2450 : (1 : Int32).toInt = 1 := by decide
        refine hp_callq (hp_runV (As := [.int (1)]) (rest := []) hx hb hml hown hts (y_wrong l D cs B G V2207 n hP.1 (q) (mo) (m_tp) (m_sz) (z2228) (z2229) (z2230) (m_ft) (m_fa) (m_le) (m_fo) (m_as) (m_fd) (m_bc) (m_bg) (m_bs) (m_be) (m_b0) (m_b1) (m_cm) (m_hc) (1)  ho2232  hR hmo hmq) hZ ho2232 cv_X13_107 rfl rfl ⟨Nat.le_of_ble_eq_true rfl, Nat.le_of_ble_eq_true rfl⟩ rfl hl.1 rfl (Nat.le_of_ble_eq_true rfl) dX13_readLine_258 ⟨(Nat.le_of_ble_eq_true rfl), (Nat.le_of_ble_eq_true rfl)⟩) hZ (fun r2454 V2451 n2452 _ _ hw2453 hZ => ?_)
        obtain ⟨rfl, hq2455, fr2456, ho2457, hp2458⟩ := hw2453
        have hP := hP.trans hq2455 (fun _ h => Bool.noConfusion h)
        subst hp2458
        refine W.eq (g2 := F0 m 261 ls [.ref (q + 19)]) rfl ?_
        have hl2459 : (1 : Int32).toInt = 1 := by decide
        have pk2460 := hp2234.keep (fun x7 (hx7 : q ≤ x7 ∧ x7 < q + 19) => fr2456 x7 (by omega))
        exact hq_athrow hx hb hnx hlocks hZ ⟨rfl, rfl, hP, (fun x8 hne0 hne1 => (fr2456 x8 hne0).trans ((fr2212 x8 hne0 hne1).trans ((fr2168 x8 hne0 hne1).trans ((fr2135 x8 hne0).trans ((o2118 x8 (by omega)).trans ((o2101 x8 (by omega)).trans ((o2084 x8 (by omega)).trans ((o2067 x8 (by omega)).trans ((o2050 x8 (by omega)).trans ((o2033 x8 (by omega)).trans (o2016 x8 (by omega)))))))))))), z2228, z2229, z2230, 1, z2228, u2231, ho2457, (by unfold sp_tl sp_line; (try dsimp only); (repeat (first | (rw [if_pos]; rotate_left; omega) | (rw [if_neg]; rotate_left; omega))); (try dsimp only); exact ⟨by omega, by omega, by omega⟩), pk2460, hH2247⟩ dX13_readLine_261
    · have c1997 : (y1993).toInt = (60 : Int) := hq_eqi.mp c1997
      refine lv_aload_n hx hb dX13_readLine_102 rfl (lv_at hl 1 rfl) ?_
      refine lv_iconst (v := 4) hx hb dX13_readLine_103 (by decide) ?_
      have hl2461 : (4 : Int32).toInt = 4 := by decide
      refine hp_callq (hp_runV (As := [.int (4)]) (rest := []) hx hb hml hown hts (y_wrong l D cs B G V n hP.1 (q) (mo) (m_tp) (m_sz) (m_fr) (m_bh) (m_hd) (m_ft) (m_fa) (m_le) (m_fo) (m_as) (m_fd) (m_bc) (m_bg) (m_bs) (m_be) (m_b0) (m_b1) (m_cm) (m_hc) (4)  hc0  hR hmo hmq) hZ hc0 cv_X13_107 rfl rfl ⟨Nat.le_of_ble_eq_true rfl, Nat.le_of_ble_eq_true rfl⟩ rfl hl.1 rfl (Nat.le_of_ble_eq_true rfl) dX13_readLine_104 ⟨(Nat.le_of_ble_eq_true rfl), (Nat.le_of_ble_eq_true rfl)⟩) hZ (fun r2465 V2462 n2463 _ _ hw2464 hZ => ?_)
      obtain ⟨rfl, hq2466, fr2467, ho2468, hp2469⟩ := hw2464
      have hP := hP.trans hq2466 (fun _ h => Bool.noConfusion h)
      subst hp2469
      refine W.eq (g2 := F0 m 107 ls [.ref (q + 19)]) rfl ?_
      have hl2470 : (4 : Int32).toInt = 4 := by decide
      have pk2471 := hp1.keep (fun x7 (hx7 : q ≤ x7 ∧ x7 < q + 19) => fr2467 x7 (by omega))
      exact hq_athrow hx hb hnx hlocks hZ ⟨rfl, rfl, hP, (fun x8 hne0 hne1 => fr2467 x8 hne0), m_fr, m_bh, m_hd, 4, m_fr, rh, ho2468, (by unfold sp_tl sp_line; (try dsimp only); (repeat (first | (rw [if_pos]; rotate_left; omega) | (rw [if_neg]; rotate_left; omega))); (try dsimp only); exact ⟨by omega, by omega, by omega⟩), pk2471, hH0⟩ dX13_readLine_107

set_option maxHeartbeats 4000000 in
set_option maxRecDepth 100000 in
theorem t_X13_explain (l : Launch) (D : va_G) (cs : Nat → ClassId) (B : Nat) (G : hq_G) (V : hp_V) (n : Nat) (hI : hq_I cs G V) (q : Nat) (hR : hq_RT G q) (mo : Nat) (h_mo : G mo = some (24, 0, 0, 0)) (v : Int32) (te : Int32) (pe : Int32) {m_tp m_sz m_fr m_bh m_hd m_ft m_fa m_le m_fo m_as m_fd m_bc m_bg m_bs m_be m_b0 m_b1 m_cm m_hc : Int32} (ho_mo : V mo = some (.inr (13, hm_o q (m_tp) (m_sz) (m_fr) (m_bh) (m_hd) (m_ft) (m_fa) (m_le) (m_fo) (m_as) (m_fd) (m_bc) (m_bg) (m_bs) (m_be) (m_b0) (m_b1) (m_cm) (m_hc)))) (hi_mo0 : 0 ≤ m_tp.toInt ∧ m_tp.toInt ≤ 4000) (hi_mo1 : 0 ≤ m_sz.toInt ∧ m_sz.toInt ≤ 4000) (hi_mo2 : 0 ≤ m_le.toInt ∧ m_le.toInt ≤ 276) (hi_mo3 : 0 ≤ m_fo.toInt ∧ m_fo.toInt ≤ 4) (hi_mo4 : 0 ≤ m_as.toInt ∧ m_as.toInt ≤ 4000) (hi_mo5 : 0 ≤ m_fd.toInt ∧ m_fd.toInt ≤ 900) (hi_mo6 : 0 ≤ m_cm.toInt ∧ m_cm.toInt ≤ 2) (hi_mo7 : 0 ≤ m_hc.toInt ∧ m_hc.toInt ≤ 1) {fk : Nat → Int32} (ho_fk : V (q + 10) = some (.inl (cs 1, 120, .inl (fk)))) {fw : Nat → Int32} (ho_fw : V (q + 11) = some (.inl (cs 1, 120, .inl (fw)))) {ft : Nat → Int32} (ho_ft : V (q + 12) = some (.inl (cs 1, 120, .inl (ft)))) {fp : Nat → Int32} (ho_fp : V (q + 13) = some (.inl (cs 1, 120, .inl (fp)))) {fc : Nat → Int32} (ho_fc : V (q + 9) = some (.inl (cs 1, 60, .inl (fc)))) {fl : Nat → Int32} (ho_fl : V (q + 2) = some (.inl (cs 1, 2, .inl (fl)))) (hv0 : 0 ≤ v.toInt) (hv1 : v.toInt < 30) (hH : hm_VQ cs V q 0 0) : hp_M l yX13_explain cX13_explain 8 none ({ frames := 7, cells := 0, slots := 0, locals := 175 }) D cs B V n [.ref (mo), .int (v), .int (te), .int (pe)] (hp_QV D cs B (fun V' n' => n = n' ∧ hq_P cs G (fun g => g.1 == 1 || g.1 == 43) V V' ∧ (∃ (m_le1 : Int32) (m_bc1 : Int32) (m_bg1 : Int32) (m_bs1 : Int32) (m_be1 : Int32) (m_b01 : Int32) (m_b11 : Int32), V' mo = some (.inr (13, hm_o q (m_tp) (m_sz) (m_fr) (m_bh) (m_hd) (m_ft) (m_fa) (m_le1) (m_fo) (m_as) (m_fd) (m_bc1) (m_bg1) (m_bs1) (m_be1) (m_b01) (m_b11) (m_cm) (m_hc))) ∧ (0 ≤ m_le1.toInt ∧ m_le1.toInt ≤ 276) ∧ (hm_XP fk fw ft fp fc (fl (0 : Int32).toNatClampNeg).toInt v te pe m_bc1 m_bs1 m_be1 m_b01 m_b11)) ∧ (V' (q + 10) = some (.inl (cs 1, 120, .inl (fk)))) ∧ (V' (q + 11) = some (.inl (cs 1, 120, .inl (fw)))) ∧ (V' (q + 12) = some (.inl (cs 1, 120, .inl (ft)))) ∧ (V' (q + 13) = some (.inl (cs 1, 120, .inl (fp)))) ∧ (V' (q + 9) = some (.inl (cs 1, 60, .inl (fc)))) ∧ (V' (q + 2) = some (.inl (cs 1, 2, .inl (fl)))))) 0 0 := by
  refine hp_walk (R0 := RX13) (by decide) rfl ?_ (Nat.le_of_ble_eq_true rfl)
  intro p e s m below meth c ls hx hb hr hts hown hlocks hin hml hZ hl
  have hP : hq_P cs G (fun g => g.1 == 1 || g.1 == 43) V V := hq_P.rf hI
  have hl : lv_has ls 8 [(0, .ref (mo)), (1, .int (v)), (2, .int (te)), (3, .int (pe))] := hl
  have hb_v := hq_rng v
  have hb_te := hq_rng te
  have hb_pe := hq_rng pe
  have hb_m_tp := hq_rng m_tp
  have hb_m_sz := hq_rng m_sz
  have hb_m_fr := hq_rng m_fr
  have hb_m_bh := hq_rng m_bh
  have hb_m_hd := hq_rng m_hd
  have hb_m_ft := hq_rng m_ft
  have hb_m_fa := hq_rng m_fa
  have hb_m_le := hq_rng m_le
  have hb_m_fo := hq_rng m_fo
  have hb_m_as := hq_rng m_as
  have hb_m_fd := hq_rng m_fd
  have hb_m_bc := hq_rng m_bc
  have hb_m_bg := hq_rng m_bg
  have hb_m_bs := hq_rng m_bs
  have hb_m_be := hq_rng m_be
  have hb_m_b0 := hq_rng m_b0
  have hb_m_b1 := hq_rng m_b1
  have hb_m_cm := hq_rng m_cm
  have hb_m_hc := hq_rng m_hc
  have hf_fk := hq_rg hI (hr_10 hR) ho_fk
  have hf_fw := hq_rg hI (hr_11 hR) ho_fw
  have hf_ft := hq_rg hI (hr_12 hR) ho_ft
  have hf_fp := hq_rg hI (hr_13 hR) ho_fp
  have hf_fc := hq_rg hI (hr_9 hR) ho_fc
  have hf_fl := hq_rg hI (hr_2 hR) ho_fl
  refine lv_aload_n hx hb dX13_explain_0 rfl (lv_at hl 0 rfl) ?_
  refine lv_iconst (v := 0) hx hb dX13_explain_1 (by decide) ?_
  refine lv_iload_n hx hb dX13_explain_2 rfl (lv_at hl 1 rfl) ?_
  refine lv_iload_n hx hb dX13_explain_3 rfl (lv_at hl 2 rfl) ?_
  refine lv_iload_n hx hb dX13_explain_4 rfl (lv_at hl 3 rfl) ?_
  have hl14 : (0 : Int32).toInt = 0 := by decide
  refine hp_calli (hp_runV (As := [.int (0), .int (v), .int (te), .int (pe)]) (rest := []) hx hb hml hown hts (t_X13_firstOfX l D cs B G  V n hP.1 q hR (mo) h_mo (0) (v) (te) (pe) ho_mo  (by omega) (by omega) (by omega) (by omega) (by omega) (by omega) (by omega) (by omega) ho_fk ho_fw ho_ft ho_fp ho_fc ho_fl (by omega) (by omega)) hZ ho_mo cv_X13_347 rfl rfl ⟨Nat.le_of_ble_eq_true rfl, Nat.le_of_ble_eq_true rfl⟩ rfl hl.1 rfl (Nat.le_of_ble_eq_true rfl) dX13_explain_5 ⟨(Nat.le_of_ble_eq_true rfl), (Nat.le_of_ble_eq_true rfl)⟩) hZ (fun r4 V1 n2 _ _ hw3 hZ => ?_)
  obtain ⟨rfl, hq5, ho7, ho8, ho9, ho10, ho11, ho12, ho13, hr6⟩ := hw3
  have hP := hP.trans hq5 (fun _ _ => rfl)
  have b15 := hq_rng r4
  refine lv_istore (lv' := [(4, .int (r4)), (0, .ref (mo)), (1, .int (v)), (2, .int (te)), (3, .int (pe))]) hx hb dX13_explain_8 hl (by decide) rfl (fun ls hl => ?_)
  refine lv_aload_n hx hb dX13_explain_10 rfl (lv_at hl 1 rfl) ?_
  refine lv_iconst (v := 1) hx hb dX13_explain_11 (by decide) ?_
  refine lv_iload_n hx hb dX13_explain_12 rfl (lv_at hl 2 rfl) ?_
  refine lv_iload_n hx hb dX13_explain_13 rfl (lv_at hl 3 rfl) ?_
  refine lv_iload_n hx hb dX13_explain_14 rfl (lv_at hl 4 rfl) ?_
  have hl29 : (1 : Int32).toInt = 1 := by decide
  refine hp_calli (hp_runV (As := [.int (1), .int (v), .int (te), .int (pe)]) (rest := []) hx hb hml hown hts (t_X13_firstOfX l D cs B G  V1 n hP.1 q hR (mo) h_mo (1) (v) (te) (pe) ho7  (by omega) (by omega) (by omega) (by omega) (by omega) (by omega) (by omega) (by omega) ho8 ho9 ho10 ho11 ho12 ho13 (by omega) (by omega)) hZ ho7 cv_X13_347 rfl rfl ⟨Nat.le_of_ble_eq_true rfl, Nat.le_of_ble_eq_true rfl⟩ rfl hl.1 rfl (Nat.le_of_ble_eq_true rfl) dX13_explain_15 ⟨(Nat.le_of_ble_eq_true rfl), (Nat.le_of_ble_eq_true rfl)⟩) hZ (fun r19 V16 n17 _ _ hw18 hZ => ?_)
  obtain ⟨rfl, hq20, ho22, ho23, ho24, ho25, ho26, ho27, ho28, hr21⟩ := hw18
  have hP := hP.trans hq20 (fun _ _ => rfl)
  have b30 := hq_rng r19
  refine lv_istore (lv' := [(5, .int (r19)), (4, .int (r4)), (0, .ref (mo)), (1, .int (v)), (2, .int (te)), (3, .int (pe))]) hx hb dX13_explain_18 hl (by decide) rfl (fun ls hl => ?_)
  refine lv_aload_n hx hb dX13_explain_20 rfl (lv_at hl 2 rfl) ?_
  refine lv_iconst (v := 4) hx hb dX13_explain_21 (by decide) ?_
  refine lv_iload_n hx hb dX13_explain_22 rfl (lv_at hl 3 rfl) ?_
  refine lv_iload_n hx hb dX13_explain_23 rfl (lv_at hl 4 rfl) ?_
  refine lv_iload_n hx hb dX13_explain_24 rfl (lv_at hl 5 rfl) ?_
  have hl44 : (4 : Int32).toInt = 4 := by decide
  refine hp_calli (hp_runV (As := [.int (4), .int (v), .int (te), .int (pe)]) (rest := []) hx hb hml hown hts (t_X13_firstOfX l D cs B G  V16 n hP.1 q hR (mo) h_mo (4) (v) (te) (pe) ho22  (by omega) (by omega) (by omega) (by omega) (by omega) (by omega) (by omega) (by omega) ho23 ho24 ho25 ho26 ho27 ho28 (by omega) (by omega)) hZ ho22 cv_X13_347 rfl rfl ⟨Nat.le_of_ble_eq_true rfl, Nat.le_of_ble_eq_true rfl⟩ rfl hl.1 rfl (Nat.le_of_ble_eq_true rfl) dX13_explain_25 ⟨(Nat.le_of_ble_eq_true rfl), (Nat.le_of_ble_eq_true rfl)⟩) hZ (fun r34 V31 n32 _ _ hw33 hZ => ?_)
  obtain ⟨rfl, hq35, ho37, ho38, ho39, ho40, ho41, ho42, ho43, hr36⟩ := hw33
  have hP := hP.trans hq35 (fun _ _ => rfl)
  have b45 := hq_rng r34
  refine lv_iconst (v := -1) hx hb dX13_explain_28 (by decide) ?_
  refine lv_icmp_ne (tgt := 36) hx hb dX13_explain_29 (by decide) (fun c46 => ?_) (fun c46 => ?_)
  · have c46 : ¬ (r34).toInt = (-1 : Int) := fun h9 => c46 (hq_eqi.mpr h9)
    refine lv_iconst (v := 1) hx hb dX13_explain_36 (by decide) ?_
    refine lv_istore (lv' := [(6, .int (1)), (5, .int (r19)), (4, .int (r4)), (0, .ref (mo)), (1, .int (v)), (2, .int (te)), (3, .int (pe))]) hx hb dX13_explain_37 hl (by decide) rfl (fun ls hl => ?_)
    refine lv_aload_n hx hb dX13_explain_39 rfl (lv_at hl 3 rfl) ?_
    refine lv_sipush (v := 1000) hx hb dX13_explain_40 (by decide) ?_
    refine hp_put hx hb hts hown hZ ho37 fp_X13_413 rfl rfl (Nat.le_of_ble_eq_true rfl) dX13_explain_43 (fun V47 _ _ e48 o49 hZ => ?_)
    have e48 : V47 (mo) = some (.inr (13, hm_o q (m_tp) (m_sz) (m_fr) (m_bh) (m_hd) (m_ft) (m_fa) (m_le) (m_fo) (m_as) (m_fd) (1000) (m_bg) (m_bs) (m_be) (m_b0) (m_b1) (m_cm) (m_hc))) := e48
    have hP := hP.put h_mo e48 o49 (trivial) rfl
    refine lv_aload_n hx hb dX13_explain_46 rfl (lv_at hl 3 rfl) ?_
    refine lv_bipush (v := 9) hx hb dX13_explain_47 (by decide) ?_
    refine hp_put hx hb hts hown hZ e48 fp_X13_416 rfl rfl (Nat.le_of_ble_eq_true rfl) dX13_explain_49 (fun V50 _ _ e51 o52 hZ => ?_)
    have e51 : V50 (mo) = some (.inr (13, hm_o q (m_tp) (m_sz) (m_fr) (m_bh) (m_hd) (m_ft) (m_fa) (m_le) (m_fo) (m_as) (m_fd) (1000) (9) (m_bs) (m_be) (m_b0) (m_b1) (m_cm) (m_hc))) := e51
    have hP := hP.put h_mo e51 o52 (trivial) rfl
    refine lv_aload_n hx hb dX13_explain_52 rfl (lv_at hl 3 rfl) ?_
    refine lv_iload_n hx hb dX13_explain_53 rfl (lv_at hl 4 rfl) ?_
    refine lv_iload hx hb dX13_explain_54 (lv_at hl 2 rfl) ?_
    refine lv_iload hx hb dX13_explain_56 (lv_at hl 1 rfl) ?_
    refine lv_iconst (v := 2) hx hb dX13_explain_58 (by decide) ?_
    refine lv_iload hx hb dX13_explain_59 (lv_at hl 0 rfl) ?_
    refine lv_imul hx hb dX13_explain_61 ?_
    refine lv_topi (fun y53 ey54 => ?_)
    obtain ⟨k55, hk56, b57, b58⟩ := hq_mul (2) (1)
    rw [← ey54] at hk56 b57 b58
    have hk56 : (y53).toInt = (2 : Int) * (1 : Int) + k55 * 4294967296 := hk56
    obtain rfl : k55 = 0 := by omega
    refine lv_iload hx hb dX13_explain_62 (lv_at hl 0 rfl) ?_
    have hbi0 : hm_BI (r4) (r19) (hm_1 (r34)) (1000) (m_bs) (m_be) (m_b0) (m_b1) := Or.inl (by decide)
    have q59 := hm_Ns.of (r4) (r4)
    have q60 := hm_1.of (r34)
    have hl67 : (1000 : Int32).toInt = 1000 := by decide
    have hl68 : (9 : Int32).toInt = 9 := by decide
    have hl79 : (1 : Int32).toInt = 1 := by decide
    refine hp_callv (hp_runV (As := [.int (v), .int (r4), .int (r19), .int (y53), .int (1)]) (rest := []) hx hb hml hown hts (t_X13_withEndings l D cs B G  V50 n hP.1 q hR (r4) (r19) (hm_1 (r34)) (mo) h_mo (v) (r4) (r19) (y53) (1) e51  (by omega) (by omega) (by omega) (by omega) (by omega) (by omega) (by omega) (by omega) (by assumption) (by omega) (by omega) (by omega) (by omega) (by omega) (by omega) (by omega) (by omega) (by omega) (hH.keep hR (fun x t hx hg => hP.2 x t hx (by simp [hg])))) hZ e51 cv_X13_442 rfl rfl ⟨Nat.le_of_ble_eq_true rfl, Nat.le_of_ble_eq_true rfl⟩ rfl hl.1 rfl (Nat.le_of_ble_eq_true rfl) dX13_explain_64 ⟨(Nat.le_of_ble_eq_true rfl), (Nat.le_of_ble_eq_true rfl)⟩) hZ (fun V61 n62 _ _ hw63 hZ => ?_)
    obtain ⟨rfl, hq65, ⟨z69, z70, z71, z72, z73, z74, z75, ho76, hi77, hi78⟩⟩ := hw63
    have hP := hP.trans hq65 (by intro g h; simp_all)
    have b80 := hq_rng z69
    have b81 := hq_rng z70
    have b82 := hq_rng z71
    have b83 := hq_rng z72
    have b84 := hq_rng z73
    have b85 := hq_rng z74
    have b86 := hq_rng z75
    refine lv_iload hx hb dX13_explain_67 (lv_at hl 2 rfl) ?_
    refine lv_iconst (v := -1) hx hb dX13_explain_69 (by decide) ?_
    refine lv_icmp_eq (tgt := 91) hx hb dX13_explain_70 (by decide) (fun c87 => ?_) (fun c87 => ?_)
    · have c87 : (r4).toInt = (-1 : Int) := hq_eqi.mp c87
      refine lv_iconst (v := 0) hx hb dX13_explain_91 (by decide) ?_
      refine lv_istore (lv' := [(7, .int (0)), (6, .int (1)), (5, .int (r19)), (4, .int (r4)), (0, .ref (mo)), (1, .int (v)), (2, .int (te)), (3, .int (pe))]) hx hb dX13_explain_92 hl (by decide) rfl (fun ls hl => ?_)
      have hl88 : (0 : Int32).toInt = 0 := by decide
      suffices lp94 : ∀ (k9 : Nat) (V9 : hp_V) (H9 : Heap) (locs9 : List Loc) (ls : Array Slot) (a : Int32) (le9 : Int32) (bc9 : Int32) (bg9 : Int32) (bs9 : Int32) (be9 : Int32) (b09 : Int32) (b19 : Int32), (100 - a.toInt).toNat = k9 → hp_Z D cs B s V9 H9 n locs9 → hq_P cs G (fun g => g.1 == 1 || g.1 == 43) V V9 → V9 (mo) = some (.inr (13, hm_o q (m_tp) (m_sz) (m_fr) (m_bh) (m_hd) (m_ft) (m_fa) (le9) (m_fo) (m_as) (m_fd) (bc9) (bg9) (bs9) (be9) (b09) (b19) (m_cm) (m_hc))) → 0 ≤ a.toInt → a.toInt ≤ 60 → 0 ≤ le9.toInt ∧ le9.toInt ≤ 276 → (hm_BI (r4) (r19) (hm_1 (r34)) bc9 bs9 be9 b09 b19) → lv_has ls 8 [(7, .int (a)), (6, .int (1)), (5, .int (r19)), (4, .int (r4)), (0, .ref (mo)), (1, .int (v)), (2, .int (te)), (3, .int (pe))] → W p l e ({ frames := 7, cells := 0, slots := 0, locals := 175 }) s m ([.ref (mo), .int (v), .int (te), .int (pe)] : List Value).toArray below meth c H9 locs9 0 0 (MQ below (hp_QV D cs B (fun V' n' => n = n' ∧ hq_P cs G (fun g => g.1 == 1 || g.1 == 43) V V' ∧ (∃ (m_le1 : Int32) (m_bc1 : Int32) (m_bg1 : Int32) (m_bs1 : Int32) (m_be1 : Int32) (m_b01 : Int32) (m_b11 : Int32), V' mo = some (.inr (13, hm_o q (m_tp) (m_sz) (m_fr) (m_bh) (m_hd) (m_ft) (m_fa) (m_le1) (m_fo) (m_as) (m_fd) (m_bc1) (m_bg1) (m_bs1) (m_be1) (m_b01) (m_b11) (m_cm) (m_hc))) ∧ (0 ≤ m_le1.toInt ∧ m_le1.toInt ≤ 276) ∧ (hm_XP fk fw ft fp fc (fl (0 : Int32).toNatClampNeg).toInt v te pe m_bc1 m_bs1 m_be1 m_b01 m_b11)) ∧ (V' (q + 10) = some (.inl (cs 1, 120, .inl (fk)))) ∧ (V' (q + 11) = some (.inl (cs 1, 120, .inl (fw)))) ∧ (V' (q + 12) = some (.inl (cs 1, 120, .inl (ft)))) ∧ (V' (q + 13) = some (.inl (cs 1, 120, .inl (fp)))) ∧ (V' (q + 9) = some (.inl (cs 1, 60, .inl (fc)))) ∧ (V' (q + 2) = some (.inl (cs 1, 2, .inl (fl)))))) ([.ref (mo), .int (v), .int (te), .int (pe)] : List Value).toArray s 0 0 (hp_F B)) (F0 m 94 ls []) from lp94 _ _ _ _ ls (0) (z69) (z70) (z71) (z72) (z73) (z74) (z75) rfl hZ hP ho76 (by omega) (by omega) (by omega) (by assumption) (lv_sub hl [0, 1, 2, 3, 4, 5, 6, 7] rfl)
      intro k9
      induction k9 using Nat.strongRecOn with
      | _ k9 ih94 =>
        intro V9 H9 locs9 ls a le9 bc9 bg9 bs9 be9 b09 b19 hk94 hZ hP ho89 hv90 hv91 hv92 hbi9 hl
        have hb_a := hq_rng a
        have hb_le9 := hq_rng le9
        have hb_bc9 := hq_rng bc9
        have hb_bg9 := hq_rng bg9
        have hb_bs9 := hq_rng bs9
        have hb_be9 := hq_rng be9
        have hb_b09 := hq_rng b09
        have hb_b19 := hq_rng b19
        have hP_94 := hP
        refine lv_iload hx hb dX13_explain_94 (lv_at hl 0 rfl) ?_
        refine lv_aload_n hx hb dX13_explain_96 rfl (lv_at hl 4 rfl) ?_
        refine hp_get (v := .ref (q + 2)) hx hb hts hown hZ ho89 fl_X13_10 rfl dX13_explain_97 ?_
        refine lv_iconst (v := 0) hx hb dX13_explain_100 (by decide) ?_
        have fx93 : V9 (q + 2) = some (.inl (cs 1, 2, .inl (fl))) := (hP_94.2 (q + 2) _ (hr_2 hR) rfl).trans (ho_fl)
        refine hp_iald hx hb hZ fx93 (by unfold vp_in; decide) dX13_explain_101 ?_
        refine lv_topi (fun y94 ey95 => ?_)
        have b97 : (y94).toInt = ((fl) (0 : Int32).toNatClampNeg).toInt := by rw [ey95]
        have b96 : hq_ir (hq_lo 8) (hq_hi 8) y94 := by rw [ey95]; exact hf_fl _ (by decide)
        have b96 : 0 ≤ (y94).toInt ∧ (y94).toInt ≤ 60 := b96
        refine lv_icmp_ge (tgt := 147) hx hb dX13_explain_102 (by decide) (fun c98 => ?_) (fun c98 => ?_)
        · have c98 : (y94).toInt ≤ (a).toInt := hq_lei.mp c98
          have fx99 : V9 (q + 10) = some (.inl (cs 1, 120, .inl (fk))) := (hP_94.2 (q + 10) _ (hr_10 hR) rfl).trans (ho_fk)
          have fx100 : V9 (q + 11) = some (.inl (cs 1, 120, .inl (fw))) := (hP_94.2 (q + 11) _ (hr_11 hR) rfl).trans (ho_fw)
          have fx101 : V9 (q + 12) = some (.inl (cs 1, 120, .inl (ft))) := (hP_94.2 (q + 12) _ (hr_12 hR) rfl).trans (ho_ft)
          have fx102 : V9 (q + 13) = some (.inl (cs 1, 120, .inl (fp))) := (hP_94.2 (q + 13) _ (hr_13 hR) rfl).trans (ho_fp)
          have fx103 : V9 (q + 9) = some (.inl (cs 1, 60, .inl (fc))) := (hP_94.2 (q + 9) _ (hr_9 hR) rfl).trans (ho_fc)
          exact hp_vret hx hb hr hlocks hZ ⟨rfl, hP, ⟨le9, bc9, bg9, bs9, be9, b09, b19, ho89, by omega, ⟨_, _, _, hr6.2, hr21.2, hr36.2, by assumption⟩⟩, fx99, fx100, fx101, fx102, fx103, fx93⟩ dX13_explain_147
        · have c98 : ¬ (y94).toInt ≤ (a).toInt := fun h9 => c98 (hq_lei.mpr h9)
          refine lv_aload_n hx hb dX13_explain_105 rfl (lv_at hl 4 rfl) ?_
          refine hp_get (v := .ref (q + 10)) hx hb hts hown hZ ho89 fl_X13_29 rfl dX13_explain_106 ?_
          refine lv_iload hx hb dX13_explain_109 (lv_at hl 0 rfl) ?_
          have fx104 : V9 (q + 10) = some (.inl (cs 1, 120, .inl (fk))) := (hP_94.2 (q + 10) _ (hr_10 hR) rfl).trans (ho_fk)
          refine hp_iald hx hb hZ fx104 (hq_in (by omega) (by omega)) dX13_explain_111 ?_
          refine lv_topi (fun y105 ey106 => ?_)
          have b108 : (y105).toInt = ((fk) (a : Int32).toNatClampNeg).toInt := by rw [ey106]
          have b107 := hq_rng y105
          refine lv_if_ne (tgt := 141) hx hb dX13_explain_112 (by decide) (fun c109 => ?_) (fun c109 => ?_)
          · have c109 : ¬ (y105).toInt = (0 : Int) := fun h9 => c109 (hq_eqi.mpr h9)
            obtain ⟨y110, ey111⟩ : ∃ y : Int32, y = a + (1) := ⟨_, rfl⟩
            obtain ⟨k112, hk113, b114, b115⟩ := hq_add (a) (1)
            rw [← ey111] at hk113 b114 b115
            have hk113 : (y110).toInt = (a).toInt + (1) + k112 * 4294967296 := hk113
            refine lv_iinc (v := y110) (lv' := [(7, .int (y110)), (6, .int (1)), (5, .int (r19)), (4, .int (r4)), (0, .ref (mo)), (1, .int (v)), (2, .int (te)), (3, .int (pe))]) hx hb dX13_explain_141 hl (k := 0) rfl (by rw [ey111]; rfl) (by decide) rfl (fun ls hl => ?_)
            refine lv_goto (tgt := 94) hx hb dX13_explain_144 (by decide) ?_
            exact ih94 _ (by omega) _ _ _ ls (y110) (le9) (bc9) (bg9) (bs9) (be9) (b09) (b19) rfl hZ hP ho89 (by omega) (by omega) (by omega) (by assumption) (lv_sub hl [0, 1, 2, 3, 4, 5, 6, 7] rfl)
          · have c109 : (y105).toInt = (0 : Int) := hq_eqi.mp c109
            refine lv_iload hx hb dX13_explain_115 (lv_at hl 0 rfl) ?_
            refine lv_iload hx hb dX13_explain_117 (lv_at hl 3 rfl) ?_
            refine lv_icmp_eq (tgt := 141) hx hb dX13_explain_119 (by decide) (fun c116 => ?_) (fun c116 => ?_)
            · have c116 : (a).toInt = (r4).toInt := hq_eqi.mp c116
              obtain ⟨y117, ey118⟩ : ∃ y : Int32, y = a + (1) := ⟨_, rfl⟩
              obtain ⟨k119, hk120, b121, b122⟩ := hq_add (a) (1)
              rw [← ey118] at hk120 b121 b122
              have hk120 : (y117).toInt = (a).toInt + (1) + k119 * 4294967296 := hk120
              refine lv_iinc (v := y117) (lv' := [(7, .int (y117)), (6, .int (1)), (5, .int (r19)), (4, .int (r4)), (0, .ref (mo)), (1, .int (v)), (2, .int (te)), (3, .int (pe))]) hx hb dX13_explain_141 hl (k := 0) rfl (by rw [ey118]; rfl) (by decide) rfl (fun ls hl => ?_)
              refine lv_goto (tgt := 94) hx hb dX13_explain_144 (by decide) ?_
              exact ih94 _ (by omega) _ _ _ ls (y117) (le9) (bc9) (bg9) (bs9) (be9) (b09) (b19) rfl hZ hP ho89 (by omega) (by omega) (by omega) (by assumption) (lv_sub hl [0, 1, 2, 3, 4, 5, 6, 7] rfl)
            · have c116 : ¬ (a).toInt = (r4).toInt := fun h9 => c116 (hq_eqi.mpr h9)
              refine lv_aload_n hx hb dX13_explain_122 rfl (lv_at hl 4 rfl) ?_
              refine lv_iload_n hx hb dX13_explain_123 rfl (lv_at hl 5 rfl) ?_
              refine lv_iload hx hb dX13_explain_124 (lv_at hl 0 rfl) ?_
              refine lv_iload hx hb dX13_explain_126 (lv_at hl 2 rfl) ?_
              refine lv_iconst (v := 2) hx hb dX13_explain_128 (by decide) ?_
              refine lv_iload hx hb dX13_explain_129 (lv_at hl 1 rfl) ?_
              refine lv_imul hx hb dX13_explain_131 ?_
              refine lv_topi (fun y123 ey124 => ?_)
              obtain ⟨k125, hk126, b127, b128⟩ := hq_mul (2) (1)
              rw [← ey124] at hk126 b127 b128
              have hk126 : (y123).toInt = (2 : Int) * (1 : Int) + k125 * 4294967296 := hk126
              obtain rfl : k125 = 0 := by omega
              refine lv_iconst (v := 3) hx hb dX13_explain_132 (by decide) ?_
              refine lv_iadd hx hb dX13_explain_133 ?_
              refine lv_topi (fun y129 ey130 => ?_)
              obtain ⟨k131, hk132, b133, b134⟩ := hq_add (y123) (3)
              rw [← ey130] at hk132 b133 b134
              have hk132 : (y129).toInt = (y123).toInt + (3 : Int) + k131 * 4294967296 := hk132
              obtain rfl : k131 = 0 := by omega
              refine lv_iload hx hb dX13_explain_134 (lv_at hl 1 rfl) ?_
              refine lv_iconst (v := 1) hx hb dX13_explain_136 (by decide) ?_
              refine lv_iadd hx hb dX13_explain_137 ?_
              refine lv_topi (fun y135 ey136 => ?_)
              obtain ⟨k137, hk138, b139, b140⟩ := hq_add (1) (1)
              rw [← ey136] at hk138 b139 b140
              have hk138 : (y135).toInt = (1 : Int) + (1 : Int) + k137 * 4294967296 := hk138
              obtain rfl : k137 = 0 := by omega
              have q141 := hm_Ns.of (r4) (a)
              have q142 := hm_1.of (r34)
              refine hp_callv (hp_runV (As := [.int (v), .int (a), .int (r19), .int (y129), .int (y135)]) (rest := []) hx hb hml hown hts (t_X13_withEndings l D cs B G  V9 n hP.1 q hR (r4) (r19) (hm_1 (r34)) (mo) h_mo (v) (a) (r19) (y129) (y135) ho89  (by omega) (by omega) (by omega) (by omega) (by omega) (by omega) (by omega) (by omega) (by assumption) (by omega) (by omega) (by omega) (by omega) (by omega) (by omega) (by omega) (by omega) (by omega) (hH.keep hR (fun x t hx hg => hP.2 x t hx (by simp [hg])))) hZ ho89 cv_X13_442 rfl rfl ⟨Nat.le_of_ble_eq_true rfl, Nat.le_of_ble_eq_true rfl⟩ rfl hl.1 rfl (Nat.le_of_ble_eq_true rfl) dX13_explain_138 ⟨(Nat.le_of_ble_eq_true rfl), (Nat.le_of_ble_eq_true rfl)⟩) hZ (fun V143 n144 _ _ hw145 hZ => ?_)
              obtain ⟨rfl, hq147, ⟨z149, z150, z151, z152, z153, z154, z155, ho156, hi157, hi158⟩⟩ := hw145
              have hP := hP.trans hq147 (by intro g h; simp_all)
              have b159 := hq_rng z149
              have b160 := hq_rng z150
              have b161 := hq_rng z151
              have b162 := hq_rng z152
              have b163 := hq_rng z153
              have b164 := hq_rng z154
              have b165 := hq_rng z155
              obtain ⟨y166, ey167⟩ : ∃ y : Int32, y = a + (1) := ⟨_, rfl⟩
              obtain ⟨k168, hk169, b170, b171⟩ := hq_add (a) (1)
              rw [← ey167] at hk169 b170 b171
              have hk169 : (y166).toInt = (a).toInt + (1) + k168 * 4294967296 := hk169
              refine lv_iinc (v := y166) (lv' := [(7, .int (y166)), (6, .int (1)), (5, .int (r19)), (4, .int (r4)), (0, .ref (mo)), (1, .int (v)), (2, .int (te)), (3, .int (pe))]) hx hb dX13_explain_141 hl (k := 0) rfl (by rw [ey167]; rfl) (by decide) rfl (fun ls hl => ?_)
              refine lv_goto (tgt := 94) hx hb dX13_explain_144 (by decide) ?_
              exact ih94 _ (by omega) _ _ _ ls (y166) (z149) (z150) (z151) (z152) (z153) (z154) (z155) rfl hZ hP ho156 (by omega) (by omega) (by omega) (by assumption) (lv_sub hl [0, 1, 2, 3, 4, 5, 6, 7] rfl)
    · have c87 : ¬ (r4).toInt = (-1 : Int) := fun h9 => c87 (hq_eqi.mpr h9)
      refine lv_aload_n hx hb dX13_explain_73 rfl (lv_at hl 3 rfl) ?_
      refine lv_iload_n hx hb dX13_explain_74 rfl (lv_at hl 4 rfl) ?_
      refine lv_iconst (v := -1) hx hb dX13_explain_75 (by decide) ?_
      refine lv_iload hx hb dX13_explain_76 (lv_at hl 1 rfl) ?_
      refine lv_iconst (v := 2) hx hb dX13_explain_78 (by decide) ?_
      refine lv_iload hx hb dX13_explain_79 (lv_at hl 0 rfl) ?_
      refine lv_imul hx hb dX13_explain_81 ?_
      refine lv_topi (fun y172 ey173 => ?_)
      obtain ⟨k174, hk175, b176, b177⟩ := hq_mul (2) (1)
      rw [← ey173] at hk175 b176 b177
      have hk175 : (y172).toInt = (2 : Int) * (1 : Int) + k174 * 4294967296 := hk175
      obtain rfl : k174 = 0 := by omega
      refine lv_iconst (v := 2) hx hb dX13_explain_82 (by decide) ?_
      refine lv_iadd hx hb dX13_explain_83 ?_
      refine lv_topi (fun y178 ey179 => ?_)
      obtain ⟨k180, hk181, b182, b183⟩ := hq_add (y172) (2)
      rw [← ey179] at hk181 b182 b183
      have hk181 : (y178).toInt = (y172).toInt + (2 : Int) + k180 * 4294967296 := hk181
      obtain rfl : k180 = 0 := by omega
      refine lv_iload hx hb dX13_explain_84 (lv_at hl 0 rfl) ?_
      refine lv_iconst (v := 1) hx hb dX13_explain_86 (by decide) ?_
      refine lv_iadd hx hb dX13_explain_87 ?_
      refine lv_topi (fun y184 ey185 => ?_)
      obtain ⟨k186, hk187, b188, b189⟩ := hq_add (1) (1)
      rw [← ey185] at hk187 b188 b189
      have hk187 : (y184).toInt = (1 : Int) + (1 : Int) + k186 * 4294967296 := hk187
      obtain rfl : k186 = 0 := by omega
      have hl190 : (-1 : Int32).toInt = -1 := by decide
      have q191 := hm_Ns.of (r4) (-1)
      have q192 := hm_1.of (r34)
      have hl209 : (-1 : Int32).toInt = -1 := by decide
      refine hp_callv (hp_runV (As := [.int (v), .int (-1), .int (r19), .int (y178), .int (y184)]) (rest := []) hx hb hml hown hts (t_X13_withEndings l D cs B G  V61 n hP.1 q hR (r4) (r19) (hm_1 (r34)) (mo) h_mo (v) (-1) (r19) (y178) (y184) ho76  (by omega) (by omega) (by omega) (by omega) (by omega) (by omega) (by omega) (by omega) (by assumption) (by omega) (by omega) (by omega) (by omega) (by omega) (by omega) (by omega) (by omega) (by omega) (hH.keep hR (fun x t hx hg => hP.2 x t hx (by simp [hg])))) hZ ho76 cv_X13_442 rfl rfl ⟨Nat.le_of_ble_eq_true rfl, Nat.le_of_ble_eq_true rfl⟩ rfl hl.1 rfl (Nat.le_of_ble_eq_true rfl) dX13_explain_88 ⟨(Nat.le_of_ble_eq_true rfl), (Nat.le_of_ble_eq_true rfl)⟩) hZ (fun V193 n194 _ _ hw195 hZ => ?_)
      obtain ⟨rfl, hq197, ⟨z199, z200, z201, z202, z203, z204, z205, ho206, hi207, hi208⟩⟩ := hw195
      have hP := hP.trans hq197 (by intro g h; simp_all)
      have b210 := hq_rng z199
      have b211 := hq_rng z200
      have b212 := hq_rng z201
      have b213 := hq_rng z202
      have b214 := hq_rng z203
      have b215 := hq_rng z204
      have b216 := hq_rng z205
      refine lv_iconst (v := 0) hx hb dX13_explain_91 (by decide) ?_
      refine lv_istore (lv' := [(7, .int (0)), (6, .int (1)), (5, .int (r19)), (4, .int (r4)), (0, .ref (mo)), (1, .int (v)), (2, .int (te)), (3, .int (pe))]) hx hb dX13_explain_92 hl (by decide) rfl (fun ls hl => ?_)
      have hl217 : (0 : Int32).toInt = 0 := by decide
      suffices lp94 : ∀ (k9 : Nat) (V9 : hp_V) (H9 : Heap) (locs9 : List Loc) (ls : Array Slot) (a : Int32) (le9 : Int32) (bc9 : Int32) (bg9 : Int32) (bs9 : Int32) (be9 : Int32) (b09 : Int32) (b19 : Int32), (100 - a.toInt).toNat = k9 → hp_Z D cs B s V9 H9 n locs9 → hq_P cs G (fun g => g.1 == 1 || g.1 == 43) V V9 → V9 (mo) = some (.inr (13, hm_o q (m_tp) (m_sz) (m_fr) (m_bh) (m_hd) (m_ft) (m_fa) (le9) (m_fo) (m_as) (m_fd) (bc9) (bg9) (bs9) (be9) (b09) (b19) (m_cm) (m_hc))) → 0 ≤ a.toInt → a.toInt ≤ 60 → 0 ≤ le9.toInt ∧ le9.toInt ≤ 276 → (hm_BI (r4) (r19) (hm_1 (r34)) bc9 bs9 be9 b09 b19) → lv_has ls 8 [(7, .int (a)), (6, .int (1)), (5, .int (r19)), (4, .int (r4)), (0, .ref (mo)), (1, .int (v)), (2, .int (te)), (3, .int (pe))] → W p l e ({ frames := 7, cells := 0, slots := 0, locals := 175 }) s m ([.ref (mo), .int (v), .int (te), .int (pe)] : List Value).toArray below meth c H9 locs9 0 0 (MQ below (hp_QV D cs B (fun V' n' => n = n' ∧ hq_P cs G (fun g => g.1 == 1 || g.1 == 43) V V' ∧ (∃ (m_le1 : Int32) (m_bc1 : Int32) (m_bg1 : Int32) (m_bs1 : Int32) (m_be1 : Int32) (m_b01 : Int32) (m_b11 : Int32), V' mo = some (.inr (13, hm_o q (m_tp) (m_sz) (m_fr) (m_bh) (m_hd) (m_ft) (m_fa) (m_le1) (m_fo) (m_as) (m_fd) (m_bc1) (m_bg1) (m_bs1) (m_be1) (m_b01) (m_b11) (m_cm) (m_hc))) ∧ (0 ≤ m_le1.toInt ∧ m_le1.toInt ≤ 276) ∧ (hm_XP fk fw ft fp fc (fl (0 : Int32).toNatClampNeg).toInt v te pe m_bc1 m_bs1 m_be1 m_b01 m_b11)) ∧ (V' (q + 10) = some (.inl (cs 1, 120, .inl (fk)))) ∧ (V' (q + 11) = some (.inl (cs 1, 120, .inl (fw)))) ∧ (V' (q + 12) = some (.inl (cs 1, 120, .inl (ft)))) ∧ (V' (q + 13) = some (.inl (cs 1, 120, .inl (fp)))) ∧ (V' (q + 9) = some (.inl (cs 1, 60, .inl (fc)))) ∧ (V' (q + 2) = some (.inl (cs 1, 2, .inl (fl)))))) ([.ref (mo), .int (v), .int (te), .int (pe)] : List Value).toArray s 0 0 (hp_F B)) (F0 m 94 ls []) from lp94 _ _ _ _ ls (0) (z199) (z200) (z201) (z202) (z203) (z204) (z205) rfl hZ hP ho206 (by omega) (by omega) (by omega) (by assumption) (lv_sub hl [0, 1, 2, 3, 4, 5, 6, 7] rfl)
      intro k9
      induction k9 using Nat.strongRecOn with
      | _ k9 ih94 =>
        intro V9 H9 locs9 ls a le9 bc9 bg9 bs9 be9 b09 b19 hk94 hZ hP ho218 hv219 hv220 hv221 hbi9 hl
        have hb_a := hq_rng a
        have hb_le9 := hq_rng le9
        have hb_bc9 := hq_rng bc9
        have hb_bg9 := hq_rng bg9
        have hb_bs9 := hq_rng bs9
        have hb_be9 := hq_rng be9
        have hb_b09 := hq_rng b09
        have hb_b19 := hq_rng b19
        have hP_94 := hP
        refine lv_iload hx hb dX13_explain_94 (lv_at hl 0 rfl) ?_
        refine lv_aload_n hx hb dX13_explain_96 rfl (lv_at hl 4 rfl) ?_
        refine hp_get (v := .ref (q + 2)) hx hb hts hown hZ ho218 fl_X13_10 rfl dX13_explain_97 ?_
        refine lv_iconst (v := 0) hx hb dX13_explain_100 (by decide) ?_
        have fx222 : V9 (q + 2) = some (.inl (cs 1, 2, .inl (fl))) := (hP_94.2 (q + 2) _ (hr_2 hR) rfl).trans (ho_fl)
        refine hp_iald hx hb hZ fx222 (by unfold vp_in; decide) dX13_explain_101 ?_
        refine lv_topi (fun y223 ey224 => ?_)
        have b226 : (y223).toInt = ((fl) (0 : Int32).toNatClampNeg).toInt := by rw [ey224]
        have b225 : hq_ir (hq_lo 8) (hq_hi 8) y223 := by rw [ey224]; exact hf_fl _ (by decide)
        have b225 : 0 ≤ (y223).toInt ∧ (y223).toInt ≤ 60 := b225
        refine lv_icmp_ge (tgt := 147) hx hb dX13_explain_102 (by decide) (fun c227 => ?_) (fun c227 => ?_)
        · have c227 : (y223).toInt ≤ (a).toInt := hq_lei.mp c227
          have fx228 : V9 (q + 10) = some (.inl (cs 1, 120, .inl (fk))) := (hP_94.2 (q + 10) _ (hr_10 hR) rfl).trans (ho_fk)
          have fx229 : V9 (q + 11) = some (.inl (cs 1, 120, .inl (fw))) := (hP_94.2 (q + 11) _ (hr_11 hR) rfl).trans (ho_fw)
          have fx230 : V9 (q + 12) = some (.inl (cs 1, 120, .inl (ft))) := (hP_94.2 (q + 12) _ (hr_12 hR) rfl).trans (ho_ft)
          have fx231 : V9 (q + 13) = some (.inl (cs 1, 120, .inl (fp))) := (hP_94.2 (q + 13) _ (hr_13 hR) rfl).trans (ho_fp)
          have fx232 : V9 (q + 9) = some (.inl (cs 1, 60, .inl (fc))) := (hP_94.2 (q + 9) _ (hr_9 hR) rfl).trans (ho_fc)
          exact hp_vret hx hb hr hlocks hZ ⟨rfl, hP, ⟨le9, bc9, bg9, bs9, be9, b09, b19, ho218, by omega, ⟨_, _, _, hr6.2, hr21.2, hr36.2, by assumption⟩⟩, fx228, fx229, fx230, fx231, fx232, fx222⟩ dX13_explain_147
        · have c227 : ¬ (y223).toInt ≤ (a).toInt := fun h9 => c227 (hq_lei.mpr h9)
          refine lv_aload_n hx hb dX13_explain_105 rfl (lv_at hl 4 rfl) ?_
          refine hp_get (v := .ref (q + 10)) hx hb hts hown hZ ho218 fl_X13_29 rfl dX13_explain_106 ?_
          refine lv_iload hx hb dX13_explain_109 (lv_at hl 0 rfl) ?_
          have fx233 : V9 (q + 10) = some (.inl (cs 1, 120, .inl (fk))) := (hP_94.2 (q + 10) _ (hr_10 hR) rfl).trans (ho_fk)
          refine hp_iald hx hb hZ fx233 (hq_in (by omega) (by omega)) dX13_explain_111 ?_
          refine lv_topi (fun y234 ey235 => ?_)
          have b237 : (y234).toInt = ((fk) (a : Int32).toNatClampNeg).toInt := by rw [ey235]
          have b236 := hq_rng y234
          refine lv_if_ne (tgt := 141) hx hb dX13_explain_112 (by decide) (fun c238 => ?_) (fun c238 => ?_)
          · have c238 : ¬ (y234).toInt = (0 : Int) := fun h9 => c238 (hq_eqi.mpr h9)
            obtain ⟨y239, ey240⟩ : ∃ y : Int32, y = a + (1) := ⟨_, rfl⟩
            obtain ⟨k241, hk242, b243, b244⟩ := hq_add (a) (1)
            rw [← ey240] at hk242 b243 b244
            have hk242 : (y239).toInt = (a).toInt + (1) + k241 * 4294967296 := hk242
            refine lv_iinc (v := y239) (lv' := [(7, .int (y239)), (6, .int (1)), (5, .int (r19)), (4, .int (r4)), (0, .ref (mo)), (1, .int (v)), (2, .int (te)), (3, .int (pe))]) hx hb dX13_explain_141 hl (k := 0) rfl (by rw [ey240]; rfl) (by decide) rfl (fun ls hl => ?_)
            refine lv_goto (tgt := 94) hx hb dX13_explain_144 (by decide) ?_
            exact ih94 _ (by omega) _ _ _ ls (y239) (le9) (bc9) (bg9) (bs9) (be9) (b09) (b19) rfl hZ hP ho218 (by omega) (by omega) (by omega) (by assumption) (lv_sub hl [0, 1, 2, 3, 4, 5, 6, 7] rfl)
          · have c238 : (y234).toInt = (0 : Int) := hq_eqi.mp c238
            refine lv_iload hx hb dX13_explain_115 (lv_at hl 0 rfl) ?_
            refine lv_iload hx hb dX13_explain_117 (lv_at hl 3 rfl) ?_
            refine lv_icmp_eq (tgt := 141) hx hb dX13_explain_119 (by decide) (fun c245 => ?_) (fun c245 => ?_)
            · have c245 : (a).toInt = (r4).toInt := hq_eqi.mp c245
              obtain ⟨y246, ey247⟩ : ∃ y : Int32, y = a + (1) := ⟨_, rfl⟩
              obtain ⟨k248, hk249, b250, b251⟩ := hq_add (a) (1)
              rw [← ey247] at hk249 b250 b251
              have hk249 : (y246).toInt = (a).toInt + (1) + k248 * 4294967296 := hk249
              refine lv_iinc (v := y246) (lv' := [(7, .int (y246)), (6, .int (1)), (5, .int (r19)), (4, .int (r4)), (0, .ref (mo)), (1, .int (v)), (2, .int (te)), (3, .int (pe))]) hx hb dX13_explain_141 hl (k := 0) rfl (by rw [ey247]; rfl) (by decide) rfl (fun ls hl => ?_)
              refine lv_goto (tgt := 94) hx hb dX13_explain_144 (by decide) ?_
              exact ih94 _ (by omega) _ _ _ ls (y246) (le9) (bc9) (bg9) (bs9) (be9) (b09) (b19) rfl hZ hP ho218 (by omega) (by omega) (by omega) (by assumption) (lv_sub hl [0, 1, 2, 3, 4, 5, 6, 7] rfl)
            · have c245 : ¬ (a).toInt = (r4).toInt := fun h9 => c245 (hq_eqi.mpr h9)
              refine lv_aload_n hx hb dX13_explain_122 rfl (lv_at hl 4 rfl) ?_
              refine lv_iload_n hx hb dX13_explain_123 rfl (lv_at hl 5 rfl) ?_
              refine lv_iload hx hb dX13_explain_124 (lv_at hl 0 rfl) ?_
              refine lv_iload hx hb dX13_explain_126 (lv_at hl 2 rfl) ?_
              refine lv_iconst (v := 2) hx hb dX13_explain_128 (by decide) ?_
              refine lv_iload hx hb dX13_explain_129 (lv_at hl 1 rfl) ?_
              refine lv_imul hx hb dX13_explain_131 ?_
              refine lv_topi (fun y252 ey253 => ?_)
              obtain ⟨k254, hk255, b256, b257⟩ := hq_mul (2) (1)
              rw [← ey253] at hk255 b256 b257
              have hk255 : (y252).toInt = (2 : Int) * (1 : Int) + k254 * 4294967296 := hk255
              obtain rfl : k254 = 0 := by omega
              refine lv_iconst (v := 3) hx hb dX13_explain_132 (by decide) ?_
              refine lv_iadd hx hb dX13_explain_133 ?_
              refine lv_topi (fun y258 ey259 => ?_)
              obtain ⟨k260, hk261, b262, b263⟩ := hq_add (y252) (3)
              rw [← ey259] at hk261 b262 b263
              have hk261 : (y258).toInt = (y252).toInt + (3 : Int) + k260 * 4294967296 := hk261
              obtain rfl : k260 = 0 := by omega
              refine lv_iload hx hb dX13_explain_134 (lv_at hl 1 rfl) ?_
              refine lv_iconst (v := 1) hx hb dX13_explain_136 (by decide) ?_
              refine lv_iadd hx hb dX13_explain_137 ?_
              refine lv_topi (fun y264 ey265 => ?_)
              obtain ⟨k266, hk267, b268, b269⟩ := hq_add (1) (1)
              rw [← ey265] at hk267 b268 b269
              have hk267 : (y264).toInt = (1 : Int) + (1 : Int) + k266 * 4294967296 := hk267
              obtain rfl : k266 = 0 := by omega
              have q270 := hm_Ns.of (r4) (a)
              have q271 := hm_1.of (r34)
              refine hp_callv (hp_runV (As := [.int (v), .int (a), .int (r19), .int (y258), .int (y264)]) (rest := []) hx hb hml hown hts (t_X13_withEndings l D cs B G  V9 n hP.1 q hR (r4) (r19) (hm_1 (r34)) (mo) h_mo (v) (a) (r19) (y258) (y264) ho218  (by omega) (by omega) (by omega) (by omega) (by omega) (by omega) (by omega) (by omega) (by assumption) (by omega) (by omega) (by omega) (by omega) (by omega) (by omega) (by omega) (by omega) (by omega) (hH.keep hR (fun x t hx hg => hP.2 x t hx (by simp [hg])))) hZ ho218 cv_X13_442 rfl rfl ⟨Nat.le_of_ble_eq_true rfl, Nat.le_of_ble_eq_true rfl⟩ rfl hl.1 rfl (Nat.le_of_ble_eq_true rfl) dX13_explain_138 ⟨(Nat.le_of_ble_eq_true rfl), (Nat.le_of_ble_eq_true rfl)⟩) hZ (fun V272 n273 _ _ hw274 hZ => ?_)
              obtain ⟨rfl, hq276, ⟨z278, z279, z280, z281, z282, z283, z284, ho285, hi286, hi287⟩⟩ := hw274
              have hP := hP.trans hq276 (by intro g h; simp_all)
              have b288 := hq_rng z278
              have b289 := hq_rng z279
              have b290 := hq_rng z280
              have b291 := hq_rng z281
              have b292 := hq_rng z282
              have b293 := hq_rng z283
              have b294 := hq_rng z284
              obtain ⟨y295, ey296⟩ : ∃ y : Int32, y = a + (1) := ⟨_, rfl⟩
              obtain ⟨k297, hk298, b299, b300⟩ := hq_add (a) (1)
              rw [← ey296] at hk298 b299 b300
              have hk298 : (y295).toInt = (a).toInt + (1) + k297 * 4294967296 := hk298
              refine lv_iinc (v := y295) (lv' := [(7, .int (y295)), (6, .int (1)), (5, .int (r19)), (4, .int (r4)), (0, .ref (mo)), (1, .int (v)), (2, .int (te)), (3, .int (pe))]) hx hb dX13_explain_141 hl (k := 0) rfl (by rw [ey296]; rfl) (by decide) rfl (fun ls hl => ?_)
              refine lv_goto (tgt := 94) hx hb dX13_explain_144 (by decide) ?_
              exact ih94 _ (by omega) _ _ _ ls (y295) (z278) (z279) (z280) (z281) (z282) (z283) (z284) rfl hZ hP ho285 (by omega) (by omega) (by omega) (by assumption) (lv_sub hl [0, 1, 2, 3, 4, 5, 6, 7] rfl)
  · have c46 : (r34).toInt = (-1 : Int) := hq_eqi.mp c46
    refine lv_iconst (v := 0) hx hb dX13_explain_32 (by decide) ?_
    refine lv_goto (tgt := 37) hx hb dX13_explain_33 (by decide) ?_
    refine lv_istore (lv' := [(6, .int (0)), (5, .int (r19)), (4, .int (r4)), (0, .ref (mo)), (1, .int (v)), (2, .int (te)), (3, .int (pe))]) hx hb dX13_explain_37 hl (by decide) rfl (fun ls hl => ?_)
    refine lv_aload_n hx hb dX13_explain_39 rfl (lv_at hl 3 rfl) ?_
    refine lv_sipush (v := 1000) hx hb dX13_explain_40 (by decide) ?_
    refine hp_put hx hb hts hown hZ ho37 fp_X13_413 rfl rfl (Nat.le_of_ble_eq_true rfl) dX13_explain_43 (fun V301 _ _ e302 o303 hZ => ?_)
    have e302 : V301 (mo) = some (.inr (13, hm_o q (m_tp) (m_sz) (m_fr) (m_bh) (m_hd) (m_ft) (m_fa) (m_le) (m_fo) (m_as) (m_fd) (1000) (m_bg) (m_bs) (m_be) (m_b0) (m_b1) (m_cm) (m_hc))) := e302
    have hP := hP.put h_mo e302 o303 (trivial) rfl
    refine lv_aload_n hx hb dX13_explain_46 rfl (lv_at hl 3 rfl) ?_
    refine lv_bipush (v := 9) hx hb dX13_explain_47 (by decide) ?_
    refine hp_put hx hb hts hown hZ e302 fp_X13_416 rfl rfl (Nat.le_of_ble_eq_true rfl) dX13_explain_49 (fun V304 _ _ e305 o306 hZ => ?_)
    have e305 : V304 (mo) = some (.inr (13, hm_o q (m_tp) (m_sz) (m_fr) (m_bh) (m_hd) (m_ft) (m_fa) (m_le) (m_fo) (m_as) (m_fd) (1000) (9) (m_bs) (m_be) (m_b0) (m_b1) (m_cm) (m_hc))) := e305
    have hP := hP.put h_mo e305 o306 (trivial) rfl
    refine lv_aload_n hx hb dX13_explain_52 rfl (lv_at hl 3 rfl) ?_
    refine lv_iload_n hx hb dX13_explain_53 rfl (lv_at hl 4 rfl) ?_
    refine lv_iload hx hb dX13_explain_54 (lv_at hl 2 rfl) ?_
    refine lv_iload hx hb dX13_explain_56 (lv_at hl 1 rfl) ?_
    refine lv_iconst (v := 2) hx hb dX13_explain_58 (by decide) ?_
    refine lv_iload hx hb dX13_explain_59 (lv_at hl 0 rfl) ?_
    refine lv_imul hx hb dX13_explain_61 ?_
    refine lv_topi (fun y307 ey308 => ?_)
    obtain ⟨k309, hk310, b311, b312⟩ := hq_mul (2) (0)
    rw [← ey308] at hk310 b311 b312
    have hk310 : (y307).toInt = (2 : Int) * (0 : Int) + k309 * 4294967296 := hk310
    obtain rfl : k309 = 0 := by omega
    refine lv_iload hx hb dX13_explain_62 (lv_at hl 0 rfl) ?_
    have hbi0 : hm_BI (r4) (r19) (hm_1 (r34)) (1000) (m_bs) (m_be) (m_b0) (m_b1) := Or.inl (by decide)
    have q313 := hm_Ns.of (r4) (r4)
    have q314 := hm_1.of (r34)
    have hl321 : (1000 : Int32).toInt = 1000 := by decide
    have hl322 : (9 : Int32).toInt = 9 := by decide
    have hl333 : (0 : Int32).toInt = 0 := by decide
    refine hp_callv (hp_runV (As := [.int (v), .int (r4), .int (r19), .int (y307), .int (0)]) (rest := []) hx hb hml hown hts (t_X13_withEndings l D cs B G  V304 n hP.1 q hR (r4) (r19) (hm_1 (r34)) (mo) h_mo (v) (r4) (r19) (y307) (0) e305  (by omega) (by omega) (by omega) (by omega) (by omega) (by omega) (by omega) (by omega) (by assumption) (by omega) (by omega) (by omega) (by omega) (by omega) (by omega) (by omega) (by omega) (by omega) (hH.keep hR (fun x t hx hg => hP.2 x t hx (by simp [hg])))) hZ e305 cv_X13_442 rfl rfl ⟨Nat.le_of_ble_eq_true rfl, Nat.le_of_ble_eq_true rfl⟩ rfl hl.1 rfl (Nat.le_of_ble_eq_true rfl) dX13_explain_64 ⟨(Nat.le_of_ble_eq_true rfl), (Nat.le_of_ble_eq_true rfl)⟩) hZ (fun V315 n316 _ _ hw317 hZ => ?_)
    obtain ⟨rfl, hq319, ⟨z323, z324, z325, z326, z327, z328, z329, ho330, hi331, hi332⟩⟩ := hw317
    have hP := hP.trans hq319 (by intro g h; simp_all)
    have b334 := hq_rng z323
    have b335 := hq_rng z324
    have b336 := hq_rng z325
    have b337 := hq_rng z326
    have b338 := hq_rng z327
    have b339 := hq_rng z328
    have b340 := hq_rng z329
    refine lv_iload hx hb dX13_explain_67 (lv_at hl 2 rfl) ?_
    refine lv_iconst (v := -1) hx hb dX13_explain_69 (by decide) ?_
    refine lv_icmp_eq (tgt := 91) hx hb dX13_explain_70 (by decide) (fun c341 => ?_) (fun c341 => ?_)
    · have c341 : (r4).toInt = (-1 : Int) := hq_eqi.mp c341
      refine lv_iconst (v := 0) hx hb dX13_explain_91 (by decide) ?_
      refine lv_istore (lv' := [(7, .int (0)), (6, .int (0)), (5, .int (r19)), (4, .int (r4)), (0, .ref (mo)), (1, .int (v)), (2, .int (te)), (3, .int (pe))]) hx hb dX13_explain_92 hl (by decide) rfl (fun ls hl => ?_)
      have hl342 : (0 : Int32).toInt = 0 := by decide
      suffices lp94 : ∀ (k9 : Nat) (V9 : hp_V) (H9 : Heap) (locs9 : List Loc) (ls : Array Slot) (a : Int32) (le9 : Int32) (bc9 : Int32) (bg9 : Int32) (bs9 : Int32) (be9 : Int32) (b09 : Int32) (b19 : Int32), (100 - a.toInt).toNat = k9 → hp_Z D cs B s V9 H9 n locs9 → hq_P cs G (fun g => g.1 == 1 || g.1 == 43) V V9 → V9 (mo) = some (.inr (13, hm_o q (m_tp) (m_sz) (m_fr) (m_bh) (m_hd) (m_ft) (m_fa) (le9) (m_fo) (m_as) (m_fd) (bc9) (bg9) (bs9) (be9) (b09) (b19) (m_cm) (m_hc))) → 0 ≤ a.toInt → a.toInt ≤ 60 → 0 ≤ le9.toInt ∧ le9.toInt ≤ 276 → (hm_BI (r4) (r19) (hm_1 (r34)) bc9 bs9 be9 b09 b19) → lv_has ls 8 [(7, .int (a)), (6, .int (0)), (5, .int (r19)), (4, .int (r4)), (0, .ref (mo)), (1, .int (v)), (2, .int (te)), (3, .int (pe))] → W p l e ({ frames := 7, cells := 0, slots := 0, locals := 175 }) s m ([.ref (mo), .int (v), .int (te), .int (pe)] : List Value).toArray below meth c H9 locs9 0 0 (MQ below (hp_QV D cs B (fun V' n' => n = n' ∧ hq_P cs G (fun g => g.1 == 1 || g.1 == 43) V V' ∧ (∃ (m_le1 : Int32) (m_bc1 : Int32) (m_bg1 : Int32) (m_bs1 : Int32) (m_be1 : Int32) (m_b01 : Int32) (m_b11 : Int32), V' mo = some (.inr (13, hm_o q (m_tp) (m_sz) (m_fr) (m_bh) (m_hd) (m_ft) (m_fa) (m_le1) (m_fo) (m_as) (m_fd) (m_bc1) (m_bg1) (m_bs1) (m_be1) (m_b01) (m_b11) (m_cm) (m_hc))) ∧ (0 ≤ m_le1.toInt ∧ m_le1.toInt ≤ 276) ∧ (hm_XP fk fw ft fp fc (fl (0 : Int32).toNatClampNeg).toInt v te pe m_bc1 m_bs1 m_be1 m_b01 m_b11)) ∧ (V' (q + 10) = some (.inl (cs 1, 120, .inl (fk)))) ∧ (V' (q + 11) = some (.inl (cs 1, 120, .inl (fw)))) ∧ (V' (q + 12) = some (.inl (cs 1, 120, .inl (ft)))) ∧ (V' (q + 13) = some (.inl (cs 1, 120, .inl (fp)))) ∧ (V' (q + 9) = some (.inl (cs 1, 60, .inl (fc)))) ∧ (V' (q + 2) = some (.inl (cs 1, 2, .inl (fl)))))) ([.ref (mo), .int (v), .int (te), .int (pe)] : List Value).toArray s 0 0 (hp_F B)) (F0 m 94 ls []) from lp94 _ _ _ _ ls (0) (z323) (z324) (z325) (z326) (z327) (z328) (z329) rfl hZ hP ho330 (by omega) (by omega) (by omega) (by assumption) (lv_sub hl [0, 1, 2, 3, 4, 5, 6, 7] rfl)
      intro k9
      induction k9 using Nat.strongRecOn with
      | _ k9 ih94 =>
        intro V9 H9 locs9 ls a le9 bc9 bg9 bs9 be9 b09 b19 hk94 hZ hP ho343 hv344 hv345 hv346 hbi9 hl
        have hb_a := hq_rng a
        have hb_le9 := hq_rng le9
        have hb_bc9 := hq_rng bc9
        have hb_bg9 := hq_rng bg9
        have hb_bs9 := hq_rng bs9
        have hb_be9 := hq_rng be9
        have hb_b09 := hq_rng b09
        have hb_b19 := hq_rng b19
        have hP_94 := hP
        refine lv_iload hx hb dX13_explain_94 (lv_at hl 0 rfl) ?_
        refine lv_aload_n hx hb dX13_explain_96 rfl (lv_at hl 4 rfl) ?_
        refine hp_get (v := .ref (q + 2)) hx hb hts hown hZ ho343 fl_X13_10 rfl dX13_explain_97 ?_
        refine lv_iconst (v := 0) hx hb dX13_explain_100 (by decide) ?_
        have fx347 : V9 (q + 2) = some (.inl (cs 1, 2, .inl (fl))) := (hP_94.2 (q + 2) _ (hr_2 hR) rfl).trans (ho_fl)
        refine hp_iald hx hb hZ fx347 (by unfold vp_in; decide) dX13_explain_101 ?_
        refine lv_topi (fun y348 ey349 => ?_)
        have b351 : (y348).toInt = ((fl) (0 : Int32).toNatClampNeg).toInt := by rw [ey349]
        have b350 : hq_ir (hq_lo 8) (hq_hi 8) y348 := by rw [ey349]; exact hf_fl _ (by decide)
        have b350 : 0 ≤ (y348).toInt ∧ (y348).toInt ≤ 60 := b350
        refine lv_icmp_ge (tgt := 147) hx hb dX13_explain_102 (by decide) (fun c352 => ?_) (fun c352 => ?_)
        · have c352 : (y348).toInt ≤ (a).toInt := hq_lei.mp c352
          have fx353 : V9 (q + 10) = some (.inl (cs 1, 120, .inl (fk))) := (hP_94.2 (q + 10) _ (hr_10 hR) rfl).trans (ho_fk)
          have fx354 : V9 (q + 11) = some (.inl (cs 1, 120, .inl (fw))) := (hP_94.2 (q + 11) _ (hr_11 hR) rfl).trans (ho_fw)
          have fx355 : V9 (q + 12) = some (.inl (cs 1, 120, .inl (ft))) := (hP_94.2 (q + 12) _ (hr_12 hR) rfl).trans (ho_ft)
          have fx356 : V9 (q + 13) = some (.inl (cs 1, 120, .inl (fp))) := (hP_94.2 (q + 13) _ (hr_13 hR) rfl).trans (ho_fp)
          have fx357 : V9 (q + 9) = some (.inl (cs 1, 60, .inl (fc))) := (hP_94.2 (q + 9) _ (hr_9 hR) rfl).trans (ho_fc)
          exact hp_vret hx hb hr hlocks hZ ⟨rfl, hP, ⟨le9, bc9, bg9, bs9, be9, b09, b19, ho343, by omega, ⟨_, _, _, hr6.2, hr21.2, hr36.2, by assumption⟩⟩, fx353, fx354, fx355, fx356, fx357, fx347⟩ dX13_explain_147
        · have c352 : ¬ (y348).toInt ≤ (a).toInt := fun h9 => c352 (hq_lei.mpr h9)
          refine lv_aload_n hx hb dX13_explain_105 rfl (lv_at hl 4 rfl) ?_
          refine hp_get (v := .ref (q + 10)) hx hb hts hown hZ ho343 fl_X13_29 rfl dX13_explain_106 ?_
          refine lv_iload hx hb dX13_explain_109 (lv_at hl 0 rfl) ?_
          have fx358 : V9 (q + 10) = some (.inl (cs 1, 120, .inl (fk))) := (hP_94.2 (q + 10) _ (hr_10 hR) rfl).trans (ho_fk)
          refine hp_iald hx hb hZ fx358 (hq_in (by omega) (by omega)) dX13_explain_111 ?_
          refine lv_topi (fun y359 ey360 => ?_)
          have b362 : (y359).toInt = ((fk) (a : Int32).toNatClampNeg).toInt := by rw [ey360]
          have b361 := hq_rng y359
          refine lv_if_ne (tgt := 141) hx hb dX13_explain_112 (by decide) (fun c363 => ?_) (fun c363 => ?_)
          · have c363 : ¬ (y359).toInt = (0 : Int) := fun h9 => c363 (hq_eqi.mpr h9)
            obtain ⟨y364, ey365⟩ : ∃ y : Int32, y = a + (1) := ⟨_, rfl⟩
            obtain ⟨k366, hk367, b368, b369⟩ := hq_add (a) (1)
            rw [← ey365] at hk367 b368 b369
            have hk367 : (y364).toInt = (a).toInt + (1) + k366 * 4294967296 := hk367
            refine lv_iinc (v := y364) (lv' := [(7, .int (y364)), (6, .int (0)), (5, .int (r19)), (4, .int (r4)), (0, .ref (mo)), (1, .int (v)), (2, .int (te)), (3, .int (pe))]) hx hb dX13_explain_141 hl (k := 0) rfl (by rw [ey365]; rfl) (by decide) rfl (fun ls hl => ?_)
            refine lv_goto (tgt := 94) hx hb dX13_explain_144 (by decide) ?_
            exact ih94 _ (by omega) _ _ _ ls (y364) (le9) (bc9) (bg9) (bs9) (be9) (b09) (b19) rfl hZ hP ho343 (by omega) (by omega) (by omega) (by assumption) (lv_sub hl [0, 1, 2, 3, 4, 5, 6, 7] rfl)
          · have c363 : (y359).toInt = (0 : Int) := hq_eqi.mp c363
            refine lv_iload hx hb dX13_explain_115 (lv_at hl 0 rfl) ?_
            refine lv_iload hx hb dX13_explain_117 (lv_at hl 3 rfl) ?_
            refine lv_icmp_eq (tgt := 141) hx hb dX13_explain_119 (by decide) (fun c370 => ?_) (fun c370 => ?_)
            · have c370 : (a).toInt = (r4).toInt := hq_eqi.mp c370
              obtain ⟨y371, ey372⟩ : ∃ y : Int32, y = a + (1) := ⟨_, rfl⟩
              obtain ⟨k373, hk374, b375, b376⟩ := hq_add (a) (1)
              rw [← ey372] at hk374 b375 b376
              have hk374 : (y371).toInt = (a).toInt + (1) + k373 * 4294967296 := hk374
              refine lv_iinc (v := y371) (lv' := [(7, .int (y371)), (6, .int (0)), (5, .int (r19)), (4, .int (r4)), (0, .ref (mo)), (1, .int (v)), (2, .int (te)), (3, .int (pe))]) hx hb dX13_explain_141 hl (k := 0) rfl (by rw [ey372]; rfl) (by decide) rfl (fun ls hl => ?_)
              refine lv_goto (tgt := 94) hx hb dX13_explain_144 (by decide) ?_
              exact ih94 _ (by omega) _ _ _ ls (y371) (le9) (bc9) (bg9) (bs9) (be9) (b09) (b19) rfl hZ hP ho343 (by omega) (by omega) (by omega) (by assumption) (lv_sub hl [0, 1, 2, 3, 4, 5, 6, 7] rfl)
            · have c370 : ¬ (a).toInt = (r4).toInt := fun h9 => c370 (hq_eqi.mpr h9)
              refine lv_aload_n hx hb dX13_explain_122 rfl (lv_at hl 4 rfl) ?_
              refine lv_iload_n hx hb dX13_explain_123 rfl (lv_at hl 5 rfl) ?_
              refine lv_iload hx hb dX13_explain_124 (lv_at hl 0 rfl) ?_
              refine lv_iload hx hb dX13_explain_126 (lv_at hl 2 rfl) ?_
              refine lv_iconst (v := 2) hx hb dX13_explain_128 (by decide) ?_
              refine lv_iload hx hb dX13_explain_129 (lv_at hl 1 rfl) ?_
              refine lv_imul hx hb dX13_explain_131 ?_
              refine lv_topi (fun y377 ey378 => ?_)
              obtain ⟨k379, hk380, b381, b382⟩ := hq_mul (2) (0)
              rw [← ey378] at hk380 b381 b382
              have hk380 : (y377).toInt = (2 : Int) * (0 : Int) + k379 * 4294967296 := hk380
              obtain rfl : k379 = 0 := by omega
              refine lv_iconst (v := 3) hx hb dX13_explain_132 (by decide) ?_
              refine lv_iadd hx hb dX13_explain_133 ?_
              refine lv_topi (fun y383 ey384 => ?_)
              obtain ⟨k385, hk386, b387, b388⟩ := hq_add (y377) (3)
              rw [← ey384] at hk386 b387 b388
              have hk386 : (y383).toInt = (y377).toInt + (3 : Int) + k385 * 4294967296 := hk386
              obtain rfl : k385 = 0 := by omega
              refine lv_iload hx hb dX13_explain_134 (lv_at hl 1 rfl) ?_
              refine lv_iconst (v := 1) hx hb dX13_explain_136 (by decide) ?_
              refine lv_iadd hx hb dX13_explain_137 ?_
              refine lv_topi (fun y389 ey390 => ?_)
              obtain ⟨k391, hk392, b393, b394⟩ := hq_add (0) (1)
              rw [← ey390] at hk392 b393 b394
              have hk392 : (y389).toInt = (0 : Int) + (1 : Int) + k391 * 4294967296 := hk392
              obtain rfl : k391 = 0 := by omega
              have q395 := hm_Ns.of (r4) (a)
              have q396 := hm_1.of (r34)
              refine hp_callv (hp_runV (As := [.int (v), .int (a), .int (r19), .int (y383), .int (y389)]) (rest := []) hx hb hml hown hts (t_X13_withEndings l D cs B G  V9 n hP.1 q hR (r4) (r19) (hm_1 (r34)) (mo) h_mo (v) (a) (r19) (y383) (y389) ho343  (by omega) (by omega) (by omega) (by omega) (by omega) (by omega) (by omega) (by omega) (by assumption) (by omega) (by omega) (by omega) (by omega) (by omega) (by omega) (by omega) (by omega) (by omega) (hH.keep hR (fun x t hx hg => hP.2 x t hx (by simp [hg])))) hZ ho343 cv_X13_442 rfl rfl ⟨Nat.le_of_ble_eq_true rfl, Nat.le_of_ble_eq_true rfl⟩ rfl hl.1 rfl (Nat.le_of_ble_eq_true rfl) dX13_explain_138 ⟨(Nat.le_of_ble_eq_true rfl), (Nat.le_of_ble_eq_true rfl)⟩) hZ (fun V397 n398 _ _ hw399 hZ => ?_)
              obtain ⟨rfl, hq401, ⟨z403, z404, z405, z406, z407, z408, z409, ho410, hi411, hi412⟩⟩ := hw399
              have hP := hP.trans hq401 (by intro g h; simp_all)
              have b413 := hq_rng z403
              have b414 := hq_rng z404
              have b415 := hq_rng z405
              have b416 := hq_rng z406
              have b417 := hq_rng z407
              have b418 := hq_rng z408
              have b419 := hq_rng z409
              obtain ⟨y420, ey421⟩ : ∃ y : Int32, y = a + (1) := ⟨_, rfl⟩
              obtain ⟨k422, hk423, b424, b425⟩ := hq_add (a) (1)
              rw [← ey421] at hk423 b424 b425
              have hk423 : (y420).toInt = (a).toInt + (1) + k422 * 4294967296 := hk423
              refine lv_iinc (v := y420) (lv' := [(7, .int (y420)), (6, .int (0)), (5, .int (r19)), (4, .int (r4)), (0, .ref (mo)), (1, .int (v)), (2, .int (te)), (3, .int (pe))]) hx hb dX13_explain_141 hl (k := 0) rfl (by rw [ey421]; rfl) (by decide) rfl (fun ls hl => ?_)
              refine lv_goto (tgt := 94) hx hb dX13_explain_144 (by decide) ?_
              exact ih94 _ (by omega) _ _ _ ls (y420) (z403) (z404) (z405) (z406) (z407) (z408) (z409) rfl hZ hP ho410 (by omega) (by omega) (by omega) (by assumption) (lv_sub hl [0, 1, 2, 3, 4, 5, 6, 7] rfl)
    · have c341 : ¬ (r4).toInt = (-1 : Int) := fun h9 => c341 (hq_eqi.mpr h9)
      refine lv_aload_n hx hb dX13_explain_73 rfl (lv_at hl 3 rfl) ?_
      refine lv_iload_n hx hb dX13_explain_74 rfl (lv_at hl 4 rfl) ?_
      refine lv_iconst (v := -1) hx hb dX13_explain_75 (by decide) ?_
      refine lv_iload hx hb dX13_explain_76 (lv_at hl 1 rfl) ?_
      refine lv_iconst (v := 2) hx hb dX13_explain_78 (by decide) ?_
      refine lv_iload hx hb dX13_explain_79 (lv_at hl 0 rfl) ?_
      refine lv_imul hx hb dX13_explain_81 ?_
      refine lv_topi (fun y426 ey427 => ?_)
      obtain ⟨k428, hk429, b430, b431⟩ := hq_mul (2) (0)
      rw [← ey427] at hk429 b430 b431
      have hk429 : (y426).toInt = (2 : Int) * (0 : Int) + k428 * 4294967296 := hk429
      obtain rfl : k428 = 0 := by omega
      refine lv_iconst (v := 2) hx hb dX13_explain_82 (by decide) ?_
      refine lv_iadd hx hb dX13_explain_83 ?_
      refine lv_topi (fun y432 ey433 => ?_)
      obtain ⟨k434, hk435, b436, b437⟩ := hq_add (y426) (2)
      rw [← ey433] at hk435 b436 b437
      have hk435 : (y432).toInt = (y426).toInt + (2 : Int) + k434 * 4294967296 := hk435
      obtain rfl : k434 = 0 := by omega
      refine lv_iload hx hb dX13_explain_84 (lv_at hl 0 rfl) ?_
      refine lv_iconst (v := 1) hx hb dX13_explain_86 (by decide) ?_
      refine lv_iadd hx hb dX13_explain_87 ?_
      refine lv_topi (fun y438 ey439 => ?_)
      obtain ⟨k440, hk441, b442, b443⟩ := hq_add (0) (1)
      rw [← ey439] at hk441 b442 b443
      have hk441 : (y438).toInt = (0 : Int) + (1 : Int) + k440 * 4294967296 := hk441
      obtain rfl : k440 = 0 := by omega
      have hl444 : (-1 : Int32).toInt = -1 := by decide
      have q445 := hm_Ns.of (r4) (-1)
      have q446 := hm_1.of (r34)
      have hl463 : (-1 : Int32).toInt = -1 := by decide
      refine hp_callv (hp_runV (As := [.int (v), .int (-1), .int (r19), .int (y432), .int (y438)]) (rest := []) hx hb hml hown hts (t_X13_withEndings l D cs B G  V315 n hP.1 q hR (r4) (r19) (hm_1 (r34)) (mo) h_mo (v) (-1) (r19) (y432) (y438) ho330  (by omega) (by omega) (by omega) (by omega) (by omega) (by omega) (by omega) (by omega) (by assumption) (by omega) (by omega) (by omega) (by omega) (by omega) (by omega) (by omega) (by omega) (by omega) (hH.keep hR (fun x t hx hg => hP.2 x t hx (by simp [hg])))) hZ ho330 cv_X13_442 rfl rfl ⟨Nat.le_of_ble_eq_true rfl, Nat.le_of_ble_eq_true rfl⟩ rfl hl.1 rfl (Nat.le_of_ble_eq_true rfl) dX13_explain_88 ⟨(Nat.le_of_ble_eq_true rfl), (Nat.le_of_ble_eq_true rfl)⟩) hZ (fun V447 n448 _ _ hw449 hZ => ?_)
      obtain ⟨rfl, hq451, ⟨z453, z454, z455, z456, z457, z458, z459, ho460, hi461, hi462⟩⟩ := hw449
      have hP := hP.trans hq451 (by intro g h; simp_all)
      have b464 := hq_rng z453
      have b465 := hq_rng z454
      have b466 := hq_rng z455
      have b467 := hq_rng z456
      have b468 := hq_rng z457
      have b469 := hq_rng z458
      have b470 := hq_rng z459
      refine lv_iconst (v := 0) hx hb dX13_explain_91 (by decide) ?_
      refine lv_istore (lv' := [(7, .int (0)), (6, .int (0)), (5, .int (r19)), (4, .int (r4)), (0, .ref (mo)), (1, .int (v)), (2, .int (te)), (3, .int (pe))]) hx hb dX13_explain_92 hl (by decide) rfl (fun ls hl => ?_)
      have hl471 : (0 : Int32).toInt = 0 := by decide
      suffices lp94 : ∀ (k9 : Nat) (V9 : hp_V) (H9 : Heap) (locs9 : List Loc) (ls : Array Slot) (a : Int32) (le9 : Int32) (bc9 : Int32) (bg9 : Int32) (bs9 : Int32) (be9 : Int32) (b09 : Int32) (b19 : Int32), (100 - a.toInt).toNat = k9 → hp_Z D cs B s V9 H9 n locs9 → hq_P cs G (fun g => g.1 == 1 || g.1 == 43) V V9 → V9 (mo) = some (.inr (13, hm_o q (m_tp) (m_sz) (m_fr) (m_bh) (m_hd) (m_ft) (m_fa) (le9) (m_fo) (m_as) (m_fd) (bc9) (bg9) (bs9) (be9) (b09) (b19) (m_cm) (m_hc))) → 0 ≤ a.toInt → a.toInt ≤ 60 → 0 ≤ le9.toInt ∧ le9.toInt ≤ 276 → (hm_BI (r4) (r19) (hm_1 (r34)) bc9 bs9 be9 b09 b19) → lv_has ls 8 [(7, .int (a)), (6, .int (0)), (5, .int (r19)), (4, .int (r4)), (0, .ref (mo)), (1, .int (v)), (2, .int (te)), (3, .int (pe))] → W p l e ({ frames := 7, cells := 0, slots := 0, locals := 175 }) s m ([.ref (mo), .int (v), .int (te), .int (pe)] : List Value).toArray below meth c H9 locs9 0 0 (MQ below (hp_QV D cs B (fun V' n' => n = n' ∧ hq_P cs G (fun g => g.1 == 1 || g.1 == 43) V V' ∧ (∃ (m_le1 : Int32) (m_bc1 : Int32) (m_bg1 : Int32) (m_bs1 : Int32) (m_be1 : Int32) (m_b01 : Int32) (m_b11 : Int32), V' mo = some (.inr (13, hm_o q (m_tp) (m_sz) (m_fr) (m_bh) (m_hd) (m_ft) (m_fa) (m_le1) (m_fo) (m_as) (m_fd) (m_bc1) (m_bg1) (m_bs1) (m_be1) (m_b01) (m_b11) (m_cm) (m_hc))) ∧ (0 ≤ m_le1.toInt ∧ m_le1.toInt ≤ 276) ∧ (hm_XP fk fw ft fp fc (fl (0 : Int32).toNatClampNeg).toInt v te pe m_bc1 m_bs1 m_be1 m_b01 m_b11)) ∧ (V' (q + 10) = some (.inl (cs 1, 120, .inl (fk)))) ∧ (V' (q + 11) = some (.inl (cs 1, 120, .inl (fw)))) ∧ (V' (q + 12) = some (.inl (cs 1, 120, .inl (ft)))) ∧ (V' (q + 13) = some (.inl (cs 1, 120, .inl (fp)))) ∧ (V' (q + 9) = some (.inl (cs 1, 60, .inl (fc)))) ∧ (V' (q + 2) = some (.inl (cs 1, 2, .inl (fl)))))) ([.ref (mo), .int (v), .int (te), .int (pe)] : List Value).toArray s 0 0 (hp_F B)) (F0 m 94 ls []) from lp94 _ _ _ _ ls (0) (z453) (z454) (z455) (z456) (z457) (z458) (z459) rfl hZ hP ho460 (by omega) (by omega) (by omega) (by assumption) (lv_sub hl [0, 1, 2, 3, 4, 5, 6, 7] rfl)
      intro k9
      induction k9 using Nat.strongRecOn with
      | _ k9 ih94 =>
        intro V9 H9 locs9 ls a le9 bc9 bg9 bs9 be9 b09 b19 hk94 hZ hP ho472 hv473 hv474 hv475 hbi9 hl
        have hb_a := hq_rng a
        have hb_le9 := hq_rng le9
        have hb_bc9 := hq_rng bc9
        have hb_bg9 := hq_rng bg9
        have hb_bs9 := hq_rng bs9
        have hb_be9 := hq_rng be9
        have hb_b09 := hq_rng b09
        have hb_b19 := hq_rng b19
        have hP_94 := hP
        refine lv_iload hx hb dX13_explain_94 (lv_at hl 0 rfl) ?_
        refine lv_aload_n hx hb dX13_explain_96 rfl (lv_at hl 4 rfl) ?_
        refine hp_get (v := .ref (q + 2)) hx hb hts hown hZ ho472 fl_X13_10 rfl dX13_explain_97 ?_
        refine lv_iconst (v := 0) hx hb dX13_explain_100 (by decide) ?_
        have fx476 : V9 (q + 2) = some (.inl (cs 1, 2, .inl (fl))) := (hP_94.2 (q + 2) _ (hr_2 hR) rfl).trans (ho_fl)
        refine hp_iald hx hb hZ fx476 (by unfold vp_in; decide) dX13_explain_101 ?_
        refine lv_topi (fun y477 ey478 => ?_)
        have b480 : (y477).toInt = ((fl) (0 : Int32).toNatClampNeg).toInt := by rw [ey478]
        have b479 : hq_ir (hq_lo 8) (hq_hi 8) y477 := by rw [ey478]; exact hf_fl _ (by decide)
        have b479 : 0 ≤ (y477).toInt ∧ (y477).toInt ≤ 60 := b479
        refine lv_icmp_ge (tgt := 147) hx hb dX13_explain_102 (by decide) (fun c481 => ?_) (fun c481 => ?_)
        · have c481 : (y477).toInt ≤ (a).toInt := hq_lei.mp c481
          have fx482 : V9 (q + 10) = some (.inl (cs 1, 120, .inl (fk))) := (hP_94.2 (q + 10) _ (hr_10 hR) rfl).trans (ho_fk)
          have fx483 : V9 (q + 11) = some (.inl (cs 1, 120, .inl (fw))) := (hP_94.2 (q + 11) _ (hr_11 hR) rfl).trans (ho_fw)
          have fx484 : V9 (q + 12) = some (.inl (cs 1, 120, .inl (ft))) := (hP_94.2 (q + 12) _ (hr_12 hR) rfl).trans (ho_ft)
          have fx485 : V9 (q + 13) = some (.inl (cs 1, 120, .inl (fp))) := (hP_94.2 (q + 13) _ (hr_13 hR) rfl).trans (ho_fp)
          have fx486 : V9 (q + 9) = some (.inl (cs 1, 60, .inl (fc))) := (hP_94.2 (q + 9) _ (hr_9 hR) rfl).trans (ho_fc)
          exact hp_vret hx hb hr hlocks hZ ⟨rfl, hP, ⟨le9, bc9, bg9, bs9, be9, b09, b19, ho472, by omega, ⟨_, _, _, hr6.2, hr21.2, hr36.2, by assumption⟩⟩, fx482, fx483, fx484, fx485, fx486, fx476⟩ dX13_explain_147
        · have c481 : ¬ (y477).toInt ≤ (a).toInt := fun h9 => c481 (hq_lei.mpr h9)
          refine lv_aload_n hx hb dX13_explain_105 rfl (lv_at hl 4 rfl) ?_
          refine hp_get (v := .ref (q + 10)) hx hb hts hown hZ ho472 fl_X13_29 rfl dX13_explain_106 ?_
          refine lv_iload hx hb dX13_explain_109 (lv_at hl 0 rfl) ?_
          have fx487 : V9 (q + 10) = some (.inl (cs 1, 120, .inl (fk))) := (hP_94.2 (q + 10) _ (hr_10 hR) rfl).trans (ho_fk)
          refine hp_iald hx hb hZ fx487 (hq_in (by omega) (by omega)) dX13_explain_111 ?_
          refine lv_topi (fun y488 ey489 => ?_)
          have b491 : (y488).toInt = ((fk) (a : Int32).toNatClampNeg).toInt := by rw [ey489]
          have b490 := hq_rng y488
          refine lv_if_ne (tgt := 141) hx hb dX13_explain_112 (by decide) (fun c492 => ?_) (fun c492 => ?_)
          · have c492 : ¬ (y488).toInt = (0 : Int) := fun h9 => c492 (hq_eqi.mpr h9)
            obtain ⟨y493, ey494⟩ : ∃ y : Int32, y = a + (1) := ⟨_, rfl⟩
            obtain ⟨k495, hk496, b497, b498⟩ := hq_add (a) (1)
            rw [← ey494] at hk496 b497 b498
            have hk496 : (y493).toInt = (a).toInt + (1) + k495 * 4294967296 := hk496
            refine lv_iinc (v := y493) (lv' := [(7, .int (y493)), (6, .int (0)), (5, .int (r19)), (4, .int (r4)), (0, .ref (mo)), (1, .int (v)), (2, .int (te)), (3, .int (pe))]) hx hb dX13_explain_141 hl (k := 0) rfl (by rw [ey494]; rfl) (by decide) rfl (fun ls hl => ?_)
            refine lv_goto (tgt := 94) hx hb dX13_explain_144 (by decide) ?_
            exact ih94 _ (by omega) _ _ _ ls (y493) (le9) (bc9) (bg9) (bs9) (be9) (b09) (b19) rfl hZ hP ho472 (by omega) (by omega) (by omega) (by assumption) (lv_sub hl [0, 1, 2, 3, 4, 5, 6, 7] rfl)
          · have c492 : (y488).toInt = (0 : Int) := hq_eqi.mp c492
            refine lv_iload hx hb dX13_explain_115 (lv_at hl 0 rfl) ?_
            refine lv_iload hx hb dX13_explain_117 (lv_at hl 3 rfl) ?_
            refine lv_icmp_eq (tgt := 141) hx hb dX13_explain_119 (by decide) (fun c499 => ?_) (fun c499 => ?_)
            · have c499 : (a).toInt = (r4).toInt := hq_eqi.mp c499
              obtain ⟨y500, ey501⟩ : ∃ y : Int32, y = a + (1) := ⟨_, rfl⟩
              obtain ⟨k502, hk503, b504, b505⟩ := hq_add (a) (1)
              rw [← ey501] at hk503 b504 b505
              have hk503 : (y500).toInt = (a).toInt + (1) + k502 * 4294967296 := hk503
              refine lv_iinc (v := y500) (lv' := [(7, .int (y500)), (6, .int (0)), (5, .int (r19)), (4, .int (r4)), (0, .ref (mo)), (1, .int (v)), (2, .int (te)), (3, .int (pe))]) hx hb dX13_explain_141 hl (k := 0) rfl (by rw [ey501]; rfl) (by decide) rfl (fun ls hl => ?_)
              refine lv_goto (tgt := 94) hx hb dX13_explain_144 (by decide) ?_
              exact ih94 _ (by omega) _ _ _ ls (y500) (le9) (bc9) (bg9) (bs9) (be9) (b09) (b19) rfl hZ hP ho472 (by omega) (by omega) (by omega) (by assumption) (lv_sub hl [0, 1, 2, 3, 4, 5, 6, 7] rfl)
            · have c499 : ¬ (a).toInt = (r4).toInt := fun h9 => c499 (hq_eqi.mpr h9)
              refine lv_aload_n hx hb dX13_explain_122 rfl (lv_at hl 4 rfl) ?_
              refine lv_iload_n hx hb dX13_explain_123 rfl (lv_at hl 5 rfl) ?_
              refine lv_iload hx hb dX13_explain_124 (lv_at hl 0 rfl) ?_
              refine lv_iload hx hb dX13_explain_126 (lv_at hl 2 rfl) ?_
              refine lv_iconst (v := 2) hx hb dX13_explain_128 (by decide) ?_
              refine lv_iload hx hb dX13_explain_129 (lv_at hl 1 rfl) ?_
              refine lv_imul hx hb dX13_explain_131 ?_
              refine lv_topi (fun y506 ey507 => ?_)
              obtain ⟨k508, hk509, b510, b511⟩ := hq_mul (2) (0)
              rw [← ey507] at hk509 b510 b511
              have hk509 : (y506).toInt = (2 : Int) * (0 : Int) + k508 * 4294967296 := hk509
              obtain rfl : k508 = 0 := by omega
              refine lv_iconst (v := 3) hx hb dX13_explain_132 (by decide) ?_
              refine lv_iadd hx hb dX13_explain_133 ?_
              refine lv_topi (fun y512 ey513 => ?_)
              obtain ⟨k514, hk515, b516, b517⟩ := hq_add (y506) (3)
              rw [← ey513] at hk515 b516 b517
              have hk515 : (y512).toInt = (y506).toInt + (3 : Int) + k514 * 4294967296 := hk515
              obtain rfl : k514 = 0 := by omega
              refine lv_iload hx hb dX13_explain_134 (lv_at hl 1 rfl) ?_
              refine lv_iconst (v := 1) hx hb dX13_explain_136 (by decide) ?_
              refine lv_iadd hx hb dX13_explain_137 ?_
              refine lv_topi (fun y518 ey519 => ?_)
              obtain ⟨k520, hk521, b522, b523⟩ := hq_add (0) (1)
              rw [← ey519] at hk521 b522 b523
              have hk521 : (y518).toInt = (0 : Int) + (1 : Int) + k520 * 4294967296 := hk521
              obtain rfl : k520 = 0 := by omega
              have q524 := hm_Ns.of (r4) (a)
              have q525 := hm_1.of (r34)
              refine hp_callv (hp_runV (As := [.int (v), .int (a), .int (r19), .int (y512), .int (y518)]) (rest := []) hx hb hml hown hts (t_X13_withEndings l D cs B G  V9 n hP.1 q hR (r4) (r19) (hm_1 (r34)) (mo) h_mo (v) (a) (r19) (y512) (y518) ho472  (by omega) (by omega) (by omega) (by omega) (by omega) (by omega) (by omega) (by omega) (by assumption) (by omega) (by omega) (by omega) (by omega) (by omega) (by omega) (by omega) (by omega) (by omega) (hH.keep hR (fun x t hx hg => hP.2 x t hx (by simp [hg])))) hZ ho472 cv_X13_442 rfl rfl ⟨Nat.le_of_ble_eq_true rfl, Nat.le_of_ble_eq_true rfl⟩ rfl hl.1 rfl (Nat.le_of_ble_eq_true rfl) dX13_explain_138 ⟨(Nat.le_of_ble_eq_true rfl), (Nat.le_of_ble_eq_true rfl)⟩) hZ (fun V526 n527 _ _ hw528 hZ => ?_)
              obtain ⟨rfl, hq530, ⟨z532, z533, z534, z535, z536, z537, z538, ho539, hi540, hi541⟩⟩ := hw528
              have hP := hP.trans hq530 (by intro g h; simp_all)
              have b542 := hq_rng z532
              have b543 := hq_rng z533
              have b544 := hq_rng z534
              have b545 := hq_rng z535
              have b546 := hq_rng z536
              have b547 := hq_rng z537
              have b548 := hq_rng z538
              obtain ⟨y549, ey550⟩ : ∃ y : Int32, y = a + (1) := ⟨_, rfl⟩
              obtain ⟨k551, hk552, b553, b554⟩ := hq_add (a) (1)
              rw [← ey550] at hk552 b553 b554
              have hk552 : (y549).toInt = (a).toInt + (1) + k551 * 4294967296 := hk552
              refine lv_iinc (v := y549) (lv' := [(7, .int (y549)), (6, .int (0)), (5, .int (r19)), (4, .int (r4)), (0, .ref (mo)), (1, .int (v)), (2, .int (te)), (3, .int (pe))]) hx hb dX13_explain_141 hl (k := 0) rfl (by rw [ey550]; rfl) (by decide) rfl (fun ls hl => ?_)
              refine lv_goto (tgt := 94) hx hb dX13_explain_144 (by decide) ?_
              exact ih94 _ (by omega) _ _ _ ls (y549) (z532) (z533) (z534) (z535) (z536) (z537) (z538) rfl hZ hP ho539 (by omega) (by omega) (by omega) (by assumption) (lv_sub hl [0, 1, 2, 3, 4, 5, 6, 7] rfl)

set_option maxHeartbeats 4000000 in
set_option maxRecDepth 100000 in
theorem t_X13_noteChange (l : Launch) (D : va_G) (cs : Nat → ClassId) (B : Nat) (G : hq_G) (V : hp_V) (n : Nat) (hI : hq_I cs G V) (q : Nat) (hR : hq_RT G q) (mo : Nat) (h_mo : G mo = some (24, 0, 0, 0)) (k1 : Int32) (k2 : Int32) (k3 : Int32) {m_tp m_sz m_fr m_bh m_hd m_ft m_fa m_le m_fo m_as m_fd m_bc m_bg m_bs m_be m_b0 m_b1 m_cm m_hc : Int32} (ho_mo : V mo = some (.inr (13, hm_o q (m_tp) (m_sz) (m_fr) (m_bh) (m_hd) (m_ft) (m_fa) (m_le) (m_fo) (m_as) (m_fd) (m_bc) (m_bg) (m_bs) (m_be) (m_b0) (m_b1) (m_cm) (m_hc)))) (hi_mo0 : 0 ≤ m_tp.toInt ∧ m_tp.toInt ≤ 4000) (hi_mo1 : 0 ≤ m_sz.toInt ∧ m_sz.toInt ≤ 4000) (hi_mo2 : 0 ≤ m_le.toInt ∧ m_le.toInt ≤ 276) (hi_mo3 : 0 ≤ m_fo.toInt ∧ m_fo.toInt ≤ 4) (hi_mo4 : 0 ≤ m_as.toInt ∧ m_as.toInt ≤ 4000) (hi_mo5 : 0 ≤ m_fd.toInt ∧ m_fd.toInt ≤ 900) (hi_mo6 : 0 ≤ m_cm.toInt ∧ m_cm.toInt ≤ 2) (hi_mo7 : 0 ≤ m_hc.toInt ∧ m_hc.toInt ≤ 1) (hc : m_cm.toInt ≤ 1) (hk0 : -1 ≤ k2.toInt) (hk1 : k2.toInt < 60) : hp_M l yX13_noteChange cX13_noteChange 4 none ({ frames := 1, cells := 0, slots := 0, locals := 21 }) D cs B V n [.ref (mo), .int (k1), .int (k2), .int (k3)] (hp_QV D cs B (fun V' n' => n = n' ∧ hq_P cs G (fun g => g.1 == 1 || g.1 == 49) V V' ∧ (∃ (m_cm1 : Int32), V' mo = some (.inr (13, hm_o q (m_tp) (m_sz) (m_fr) (m_bh) (m_hd) (m_ft) (m_fa) (m_le) (m_fo) (m_as) (m_fd) (m_bc) (m_bg) (m_bs) (m_be) (m_b0) (m_b1) (m_cm1) (m_hc))) ∧ (0 ≤ m_cm1.toInt ∧ m_cm1.toInt ≤ 2) ∧ (m_cm1.toInt = m_cm.toInt + 1)))) 0 0 := by
  refine hp_walk (R0 := RX13) (by decide) rfl ?_ (Nat.le_of_ble_eq_true rfl)
  intro p e s m below meth c ls hx hb hr hts hown hlocks hin hml hZ hl
  have hP : hq_P cs G (fun g => g.1 == 1 || g.1 == 49) V V := hq_P.rf hI
  have hl : lv_has ls 4 [(0, .ref (mo)), (1, .int (k1)), (2, .int (k2)), (3, .int (k3))] := hl
  have hb_k1 := hq_rng k1
  have hb_k2 := hq_rng k2
  have hb_k3 := hq_rng k3
  have hb_m_tp := hq_rng m_tp
  have hb_m_sz := hq_rng m_sz
  have hb_m_fr := hq_rng m_fr
  have hb_m_bh := hq_rng m_bh
  have hb_m_hd := hq_rng m_hd
  have hb_m_ft := hq_rng m_ft
  have hb_m_fa := hq_rng m_fa
  have hb_m_le := hq_rng m_le
  have hb_m_fo := hq_rng m_fo
  have hb_m_as := hq_rng m_as
  have hb_m_fd := hq_rng m_fd
  have hb_m_bc := hq_rng m_bc
  have hb_m_bg := hq_rng m_bg
  have hb_m_bs := hq_rng m_bs
  have hb_m_be := hq_rng m_be
  have hb_m_b0 := hq_rng m_b0
  have hb_m_b1 := hq_rng m_b1
  have hb_m_cm := hq_rng m_cm
  have hb_m_hc := hq_rng m_hc
  refine lv_aload_n hx hb dX13_noteChange_0 rfl (lv_at hl 0 rfl) ?_
  refine hp_get (v := .ref (q + 44)) hx hb hts hown hZ ho_mo fl_X13_283 rfl dX13_noteChange_1 ?_
  refine lv_aload_n hx hb dX13_noteChange_4 rfl (lv_at hl 0 rfl) ?_
  refine hp_get (v := .int (m_cm)) hx hb hts hown hZ ho_mo fl_X13_445 rfl dX13_noteChange_5 ?_
  refine lv_iload_n hx hb dX13_noteChange_8 rfl (lv_at hl 1 rfl) ?_
  obtain ⟨hN3, g2, eV1, hf4⟩ := hq_o21 hP.1 (hr_44 hR)
  refine hp_iast hx hb hZ eV1 (hq_in (by omega) (by omega)) dX13_noteChange_9 (fun V5 _ _ e6 o7 hZ => ?_)
  have e6 : V5 (q + 44) = some (.inl (cs 1, 2, .inl (upd (g2) ((m_cm : Int32).toNatClampNeg) (k1)))) := e6
  have hP := hP.put (hr_44 hR) e6 o7 (hq_c21 (by omega) (hq_upd hf4 (hq_rng _))) rfl
  refine lv_aload_n hx hb dX13_noteChange_10 rfl (lv_at hl 0 rfl) ?_
  have fx8 : V5 (mo) = some (.inr (13, hm_o q (m_tp) (m_sz) (m_fr) (m_bh) (m_hd) (m_ft) (m_fa) (m_le) (m_fo) (m_as) (m_fd) (m_bc) (m_bg) (m_bs) (m_be) (m_b0) (m_b1) (m_cm) (m_hc))) := (o7 (mo) (hq_tne h_mo (hr_44 hR) (by simp))).trans (ho_mo)
  refine hp_get (v := .ref (q + 45)) hx hb hts hown hZ fx8 fl_X13_286 rfl dX13_noteChange_11 ?_
  refine lv_aload_n hx hb dX13_noteChange_14 rfl (lv_at hl 0 rfl) ?_
  refine hp_get (v := .int (m_cm)) hx hb hts hown hZ fx8 fl_X13_445 rfl dX13_noteChange_15 ?_
  refine lv_iload_n hx hb dX13_noteChange_18 rfl (lv_at hl 2 rfl) ?_
  obtain ⟨hN11, g10, eV9, hf12⟩ := hq_o21 hP.1 (hr_45 hR)
  refine hp_iast hx hb hZ eV9 (hq_in (by omega) (by omega)) dX13_noteChange_19 (fun V13 _ _ e14 o15 hZ => ?_)
  have e14 : V13 (q + 45) = some (.inl (cs 1, 2, .inl (upd (g10) ((m_cm : Int32).toNatClampNeg) (k2)))) := e14
  have hP := hP.put (hr_45 hR) e14 o15 (hq_c21 (by omega) (hq_upd hf12 (show (-1) ≤ _ ∧ _ ≤ 59 by constructor <;> omega))) rfl
  refine lv_aload_n hx hb dX13_noteChange_20 rfl (lv_at hl 0 rfl) ?_
  have fx16 : V13 (mo) = some (.inr (13, hm_o q (m_tp) (m_sz) (m_fr) (m_bh) (m_hd) (m_ft) (m_fa) (m_le) (m_fo) (m_as) (m_fd) (m_bc) (m_bg) (m_bs) (m_be) (m_b0) (m_b1) (m_cm) (m_hc))) := (o15 (mo) (hq_tne h_mo (hr_45 hR) (by simp))).trans (fx8)
  refine hp_get (v := .ref (q + 46)) hx hb hts hown hZ fx16 fl_X13_289 rfl dX13_noteChange_21 ?_
  refine lv_aload_n hx hb dX13_noteChange_24 rfl (lv_at hl 0 rfl) ?_
  refine hp_get (v := .int (m_cm)) hx hb hts hown hZ fx16 fl_X13_445 rfl dX13_noteChange_25 ?_
  refine lv_iload_n hx hb dX13_noteChange_28 rfl (lv_at hl 3 rfl) ?_
  obtain ⟨hN19, g18, eV17, hf20⟩ := hq_o21 hP.1 (hr_46 hR)
  refine hp_iast hx hb hZ eV17 (hq_in (by omega) (by omega)) dX13_noteChange_29 (fun V21 _ _ e22 o23 hZ => ?_)
  have e22 : V21 (q + 46) = some (.inl (cs 1, 2, .inl (upd (g18) ((m_cm : Int32).toNatClampNeg) (k3)))) := e22
  have hP := hP.put (hr_46 hR) e22 o23 (hq_c21 (by omega) (hq_upd hf20 (hq_rng _))) rfl
  refine lv_aload_n hx hb dX13_noteChange_30 rfl (lv_at hl 0 rfl) ?_
  refine lv_dup hx hb dX13_noteChange_31 rfl ?_
  have fx24 : V21 (mo) = some (.inr (13, hm_o q (m_tp) (m_sz) (m_fr) (m_bh) (m_hd) (m_ft) (m_fa) (m_le) (m_fo) (m_as) (m_fd) (m_bc) (m_bg) (m_bs) (m_be) (m_b0) (m_b1) (m_cm) (m_hc))) := (o23 (mo) (hq_tne h_mo (hr_46 hR) (by simp))).trans (fx16)
  refine hp_get (v := .int (m_cm)) hx hb hts hown hZ fx24 fl_X13_445 rfl dX13_noteChange_32 ?_
  refine lv_iconst (v := 1) hx hb dX13_noteChange_35 (by decide) ?_
  refine lv_iadd hx hb dX13_noteChange_36 ?_
  refine lv_topi (fun y25 ey26 => ?_)
  obtain ⟨k27, hk28, b29, b30⟩ := hq_add (m_cm) (1)
  rw [← ey26] at hk28 b29 b30
  have hk28 : (y25).toInt = (m_cm).toInt + (1 : Int) + k27 * 4294967296 := hk28
  obtain rfl : k27 = 0 := by omega
  refine hp_put hx hb hts hown hZ fx24 fp_X13_445 rfl rfl (Nat.le_of_ble_eq_true rfl) dX13_noteChange_37 (fun V31 _ _ e32 o33 hZ => ?_)
  have e32 : V31 (mo) = some (.inr (13, hm_o q (m_tp) (m_sz) (m_fr) (m_bh) (m_hd) (m_ft) (m_fa) (m_le) (m_fo) (m_as) (m_fd) (m_bc) (m_bg) (m_bs) (m_be) (m_b0) (m_b1) (y25) (m_hc))) := e32
  have hP := hP.put h_mo e32 o33 (trivial) rfl
  exact hp_vret hx hb hr hlocks hZ ⟨rfl, hP, ⟨y25, e32, by omega, by omega⟩⟩ dX13_noteChange_40

set_option maxHeartbeats 4000000 in
set_option maxRecDepth 100000 in
theorem t_X13_keepChanges (l : Launch) (D : va_G) (cs : Nat → ClassId) (B : Nat) (G : hq_G) (V : hp_V) (n : Nat) (hI : hq_I cs G V) (q : Nat) (hR : hq_RT G q) (mo : Nat) (h_mo : G mo = some (24, 0, 0, 0)) (v : Int32) (te : Int32) (pe : Int32) {m_tp m_sz m_fr m_bh m_hd m_ft m_fa m_le m_fo m_as m_fd m_bc m_bg m_bs m_be m_b0 m_b1 m_cm m_hc : Int32} (ho_mo : V mo = some (.inr (13, hm_o q (m_tp) (m_sz) (m_fr) (m_bh) (m_hd) (m_ft) (m_fa) (m_le) (m_fo) (m_as) (m_fd) (m_bc) (m_bg) (m_bs) (m_be) (m_b0) (m_b1) (m_cm) (m_hc)))) (hi_mo0 : 0 ≤ m_tp.toInt ∧ m_tp.toInt ≤ 4000) (hi_mo1 : 0 ≤ m_sz.toInt ∧ m_sz.toInt ≤ 4000) (hi_mo2 : 0 ≤ m_le.toInt ∧ m_le.toInt ≤ 276) (hi_mo3 : 0 ≤ m_fo.toInt ∧ m_fo.toInt ≤ 4) (hi_mo4 : 0 ≤ m_as.toInt ∧ m_as.toInt ≤ 4000) (hi_mo5 : 0 ≤ m_fd.toInt ∧ m_fd.toInt ≤ 900) (hi_mo6 : 0 ≤ m_cm.toInt ∧ m_cm.toInt ≤ 2) (hi_mo7 : 0 ≤ m_hc.toInt ∧ m_hc.toInt ≤ 1) {fk : Nat → Int32} (ho_fk : V (q + 10) = some (.inl (cs 1, 120, .inl (fk)))) {fw : Nat → Int32} (ho_fw : V (q + 11) = some (.inl (cs 1, 120, .inl (fw)))) {ft : Nat → Int32} (ho_ft : V (q + 12) = some (.inl (cs 1, 120, .inl (ft)))) {fp : Nat → Int32} (ho_fp : V (q + 13) = some (.inl (cs 1, 120, .inl (fp)))) {fc : Nat → Int32} (ho_fc : V (q + 9) = some (.inl (cs 1, 60, .inl (fc)))) {fl : Nat → Int32} (ho_fl : V (q + 2) = some (.inl (cs 1, 2, .inl (fl)))) (hv0 : 0 ≤ v.toInt) (hv1 : v.toInt < 30) (hX : hm_XP fk fw ft fp fc (fl (0 : Int32).toNatClampNeg).toInt v te pe m_bc m_bs m_be m_b0 m_b1) (hbb : ¬ m_bc.toInt = 1000) : hp_M l yX13_keepChanges cX13_keepChanges 7 none ({ frames := 3, cells := 0, slots := 0, locals := 70 }) D cs B V n [.ref (mo), .int (v), .int (te), .int (pe)] (hp_QV D cs B (fun V' n' => n = n' ∧ hq_P cs G (fun g => g.1 == 1 || g.1 == 49) V V' ∧ (∃ (m_cm1 : Int32) (m_hc1 : Int32), V' mo = some (.inr (13, hm_o q (m_tp) (m_sz) (m_fr) (m_bh) (m_hd) (m_ft) (m_fa) (m_le) (m_fo) (m_as) (m_fd) (m_bc) (m_bg) (m_bs) (m_be) (m_b0) (m_b1) (m_cm1) (m_hc1))) ∧ (0 ≤ m_cm1.toInt ∧ m_cm1.toInt ≤ 2) ∧ (0 ≤ m_hc1.toInt ∧ m_hc1.toInt ≤ 1)) ∧ (V' (q + 10) = some (.inl (cs 1, 120, .inl (fk)))) ∧ (V' (q + 11) = some (.inl (cs 1, 120, .inl (fw)))) ∧ (V' (q + 12) = some (.inl (cs 1, 120, .inl (ft)))) ∧ (V' (q + 13) = some (.inl (cs 1, 120, .inl (fp)))) ∧ (V' (q + 9) = some (.inl (cs 1, 60, .inl (fc)))) ∧ (V' (q + 2) = some (.inl (cs 1, 2, .inl (fl)))))) 0 0 := by
  refine hp_walk (R0 := RX13) (by decide) rfl ?_ (Nat.le_of_ble_eq_true rfl)
  intro p e s m below meth c ls hx hb hr hts hown hlocks hin hml hZ hl
  have hP : hq_P cs G (fun g => g.1 == 1 || g.1 == 49) V V := hq_P.rf hI
  have hl : lv_has ls 7 [(0, .ref (mo)), (1, .int (v)), (2, .int (te)), (3, .int (pe))] := hl
  have hb_v := hq_rng v
  have hb_te := hq_rng te
  have hb_pe := hq_rng pe
  have hb_m_tp := hq_rng m_tp
  have hb_m_sz := hq_rng m_sz
  have hb_m_fr := hq_rng m_fr
  have hb_m_bh := hq_rng m_bh
  have hb_m_hd := hq_rng m_hd
  have hb_m_ft := hq_rng m_ft
  have hb_m_fa := hq_rng m_fa
  have hb_m_le := hq_rng m_le
  have hb_m_fo := hq_rng m_fo
  have hb_m_as := hq_rng m_as
  have hb_m_fd := hq_rng m_fd
  have hb_m_bc := hq_rng m_bc
  have hb_m_bg := hq_rng m_bg
  have hb_m_bs := hq_rng m_bs
  have hb_m_be := hq_rng m_be
  have hb_m_b0 := hq_rng m_b0
  have hb_m_b1 := hq_rng m_b1
  have hb_m_cm := hq_rng m_cm
  have hb_m_hc := hq_rng m_hc
  have hf_fk := hq_rg hI (hr_10 hR) ho_fk
  have hf_fw := hq_rg hI (hr_11 hR) ho_fw
  have hf_ft := hq_rg hI (hr_12 hR) ho_ft
  have hf_fp := hq_rg hI (hr_13 hR) ho_fp
  have hf_fc := hq_rg hI (hr_9 hR) ho_fc
  have hf_fl := hq_rg hI (hr_2 hR) ho_fl
  refine lv_aload_n hx hb dX13_keepChanges_0 rfl (lv_at hl 0 rfl) ?_
  refine lv_iconst (v := 1) hx hb dX13_keepChanges_1 (by decide) ?_
  refine hp_put hx hb hts hown hZ ho_mo fp_X13_313 rfl rfl (Nat.le_of_ble_eq_true rfl) dX13_keepChanges_2 (fun V1 _ _ e2 o3 hZ => ?_)
  have e2 : V1 (mo) = some (.inr (13, hm_o q (m_tp) (m_sz) (m_fr) (m_bh) (m_hd) (m_ft) (m_fa) (m_le) (m_fo) (m_as) (m_fd) (m_bc) (m_bg) (m_bs) (m_be) (m_b0) (m_b1) (m_cm) (1))) := e2
  have hP := hP.put h_mo e2 o3 (trivial) rfl
  refine lv_aload_n hx hb dX13_keepChanges_5 rfl (lv_at hl 0 rfl) ?_
  refine lv_iconst (v := 0) hx hb dX13_keepChanges_6 (by decide) ?_
  refine hp_put hx hb hts hown hZ e2 fp_X13_445 rfl rfl (Nat.le_of_ble_eq_true rfl) dX13_keepChanges_7 (fun V4 _ _ e5 o6 hZ => ?_)
  have e5 : V4 (mo) = some (.inr (13, hm_o q (m_tp) (m_sz) (m_fr) (m_bh) (m_hd) (m_ft) (m_fa) (m_le) (m_fo) (m_as) (m_fd) (m_bc) (m_bg) (m_bs) (m_be) (m_b0) (m_b1) (0) (1))) := e5
  have hP := hP.put h_mo e5 o6 (trivial) rfl
  refine lv_aload_n hx hb dX13_keepChanges_10 rfl (lv_at hl 0 rfl) ?_
  refine lv_iconst (v := 4) hx hb dX13_keepChanges_11 (by decide) ?_
  refine lv_iload_n hx hb dX13_keepChanges_12 rfl (lv_at hl 1 rfl) ?_
  refine lv_iload_n hx hb dX13_keepChanges_13 rfl (lv_at hl 2 rfl) ?_
  refine lv_iload_n hx hb dX13_keepChanges_14 rfl (lv_at hl 3 rfl) ?_
  have hl13 : (0 : Int32).toInt = 0 := by decide
  have hl14 : (1 : Int32).toInt = 1 := by decide
  have fx16 : V4 (q + 10) = some (.inl (cs 1, 120, .inl (fk))) := (o6 (q + 10) (hq_tne (hr_10 hR) h_mo (by simp))).trans ((o3 (q + 10) (hq_tne (hr_10 hR) h_mo (by simp))).trans (ho_fk))
  have fx18 : V4 (q + 11) = some (.inl (cs 1, 120, .inl (fw))) := (o6 (q + 11) (hq_tne (hr_11 hR) h_mo (by simp))).trans ((o3 (q + 11) (hq_tne (hr_11 hR) h_mo (by simp))).trans (ho_fw))
  have fx20 : V4 (q + 12) = some (.inl (cs 1, 120, .inl (ft))) := (o6 (q + 12) (hq_tne (hr_12 hR) h_mo (by simp))).trans ((o3 (q + 12) (hq_tne (hr_12 hR) h_mo (by simp))).trans (ho_ft))
  have fx22 : V4 (q + 13) = some (.inl (cs 1, 120, .inl (fp))) := (o6 (q + 13) (hq_tne (hr_13 hR) h_mo (by simp))).trans ((o3 (q + 13) (hq_tne (hr_13 hR) h_mo (by simp))).trans (ho_fp))
  have fx24 : V4 (q + 9) = some (.inl (cs 1, 60, .inl (fc))) := (o6 (q + 9) (hq_tne (hr_9 hR) h_mo (by simp))).trans ((o3 (q + 9) (hq_tne (hr_9 hR) h_mo (by simp))).trans (ho_fc))
  have fx26 : V4 (q + 2) = some (.inl (cs 1, 2, .inl (fl))) := (o6 (q + 2) (hq_tne (hr_2 hR) h_mo (by simp))).trans ((o3 (q + 2) (hq_tne (hr_2 hR) h_mo (by simp))).trans (ho_fl))
  have hl28 : (4 : Int32).toInt = 4 := by decide
  refine hp_calli (hp_runV (As := [.int (4), .int (v), .int (te), .int (pe)]) (rest := []) hx hb hml hown hts (t_X13_firstOfX l D cs B G  V4 n hP.1 q hR (mo) h_mo (4) (v) (te) (pe) e5  (by omega) (by omega) (by omega) (by omega) (by omega) (by omega) (by omega) (by omega) fx16 fx18 fx20 fx22 fx24 fx26 (by omega) (by omega)) hZ e5 cv_X13_347 rfl rfl ⟨Nat.le_of_ble_eq_true rfl, Nat.le_of_ble_eq_true rfl⟩ rfl hl.1 rfl (Nat.le_of_ble_eq_true rfl) dX13_keepChanges_15 ⟨(Nat.le_of_ble_eq_true rfl), (Nat.le_of_ble_eq_true rfl)⟩) hZ (fun r10 V7 n8 _ _ hw9 hZ => ?_)
  obtain ⟨rfl, hq11, ho15, ho17, ho19, ho21, ho23, ho25, ho27, hr12⟩ := hw9
  have hP := hP.trans hq11 (fun _ _ => rfl)
  have b29 := hq_rng r10
  refine lv_istore (lv' := [(4, .int (r10)), (0, .ref (mo)), (1, .int (v)), (2, .int (te)), (3, .int (pe))]) hx hb dX13_keepChanges_18 hl (by decide) rfl (fun ls hl => ?_)
  refine lv_aload_n hx hb dX13_keepChanges_20 rfl (lv_at hl 1 rfl) ?_
  refine lv_iconst (v := 0) hx hb dX13_keepChanges_21 (by decide) ?_
  refine lv_iload_n hx hb dX13_keepChanges_22 rfl (lv_at hl 2 rfl) ?_
  refine lv_iload_n hx hb dX13_keepChanges_23 rfl (lv_at hl 3 rfl) ?_
  refine lv_iload_n hx hb dX13_keepChanges_24 rfl (lv_at hl 4 rfl) ?_
  have hl36 : (0 : Int32).toInt = 0 := by decide
  have hl37 : (1 : Int32).toInt = 1 := by decide
  have hl45 : (0 : Int32).toInt = 0 := by decide
  refine hp_calli (hp_runV (As := [.int (0), .int (v), .int (te), .int (pe)]) (rest := []) hx hb hml hown hts (t_X13_firstOfX l D cs B G  V7 n hP.1 q hR (mo) h_mo (0) (v) (te) (pe) ho15  (by omega) (by omega) (by omega) (by omega) (by omega) (by omega) (by omega) (by omega) ho17 ho19 ho21 ho23 ho25 ho27 (by omega) (by omega)) hZ ho15 cv_X13_347 rfl rfl ⟨Nat.le_of_ble_eq_true rfl, Nat.le_of_ble_eq_true rfl⟩ rfl hl.1 rfl (Nat.le_of_ble_eq_true rfl) dX13_keepChanges_25 ⟨(Nat.le_of_ble_eq_true rfl), (Nat.le_of_ble_eq_true rfl)⟩) hZ (fun r33 V30 n31 _ _ hw32 hZ => ?_)
  obtain ⟨rfl, hq34, ho38, ho39, ho40, ho41, ho42, ho43, ho44, hr35⟩ := hw32
  have hP := hP.trans hq34 (fun _ _ => rfl)
  have b46 := hq_rng r33
  refine lv_istore (lv' := [(5, .int (r33)), (4, .int (r10)), (0, .ref (mo)), (1, .int (v)), (2, .int (te)), (3, .int (pe))]) hx hb dX13_keepChanges_28 hl (by decide) rfl (fun ls hl => ?_)
  refine lv_aload_n hx hb dX13_keepChanges_30 rfl (lv_at hl 2 rfl) ?_
  refine lv_iconst (v := 1) hx hb dX13_keepChanges_31 (by decide) ?_
  refine lv_iload_n hx hb dX13_keepChanges_32 rfl (lv_at hl 3 rfl) ?_
  refine lv_iload_n hx hb dX13_keepChanges_33 rfl (lv_at hl 4 rfl) ?_
  refine lv_iload_n hx hb dX13_keepChanges_34 rfl (lv_at hl 5 rfl) ?_
  have hl53 : (0 : Int32).toInt = 0 := by decide
  have hl54 : (1 : Int32).toInt = 1 := by decide
  have hl62 : (1 : Int32).toInt = 1 := by decide
  refine hp_calli (hp_runV (As := [.int (1), .int (v), .int (te), .int (pe)]) (rest := []) hx hb hml hown hts (t_X13_firstOfX l D cs B G  V30 n hP.1 q hR (mo) h_mo (1) (v) (te) (pe) ho38  (by omega) (by omega) (by omega) (by omega) (by omega) (by omega) (by omega) (by omega) ho39 ho40 ho41 ho42 ho43 ho44 (by omega) (by omega)) hZ ho38 cv_X13_347 rfl rfl ⟨Nat.le_of_ble_eq_true rfl, Nat.le_of_ble_eq_true rfl⟩ rfl hl.1 rfl (Nat.le_of_ble_eq_true rfl) dX13_keepChanges_35 ⟨(Nat.le_of_ble_eq_true rfl), (Nat.le_of_ble_eq_true rfl)⟩) hZ (fun r50 V47 n48 _ _ hw49 hZ => ?_)
  obtain ⟨rfl, hq51, ho55, ho56, ho57, ho58, ho59, ho60, ho61, hr52⟩ := hw49
  have hP := hP.trans hq51 (fun _ _ => rfl)
  have b63 := hq_rng r50
  refine lv_istore (lv' := [(6, .int (r50)), (5, .int (r33)), (4, .int (r10)), (0, .ref (mo)), (1, .int (v)), (2, .int (te)), (3, .int (pe))]) hx hb dX13_keepChanges_38 hl (by decide) rfl (fun ls hl => ?_)
  obtain ⟨hu0, hu1, hu2, hu3, hu4⟩ := hm_XP.use hX hbb hr35.2 hr52.2 hr12.2
  have hqa := hm_1.of (r10)
  have hqb := hm_Ns.of (r33) m_bs
  have hqc := hm_Ne.of (r50) m_be
  have hqd := hm_1.of m_b0
  have hqe := hm_1.of m_b1
  have jn54 : ∀ (V9 : hp_V) (H9 : Heap) (locs9 : List Loc) (ls : Array Slot)  (cm54 : Int32), hp_Z D cs B s V9 H9 n locs9 → hq_P cs G (fun g => g.1 == 1 || g.1 == 49) V V9 → V9 (mo) = some (.inr (13, hm_o q (m_tp) (m_sz) (m_fr) (m_bh) (m_hd) (m_ft) (m_fa) (m_le) (m_fo) (m_as) (m_fd) (m_bc) (m_bg) (m_bs) (m_be) (m_b0) (m_b1) (cm54) (1))) → cm54.toInt = hm_1 (r10) → lv_has ls 7 [(6, .int (r50)), (5, .int (r33)), (4, .int (r10)), (0, .ref (mo)), (1, .int (v)), (2, .int (te)), (3, .int (pe))] → W p l e ({ frames := 3, cells := 0, slots := 0, locals := 70 }) s m ([.ref (mo), .int (v), .int (te), .int (pe)] : List Value).toArray below meth c H9 locs9 0 0 (MQ below (hp_QV D cs B (fun V' n' => n = n' ∧ hq_P cs G (fun g => g.1 == 1 || g.1 == 49) V V' ∧ (∃ (m_cm1 : Int32) (m_hc1 : Int32), V' mo = some (.inr (13, hm_o q (m_tp) (m_sz) (m_fr) (m_bh) (m_hd) (m_ft) (m_fa) (m_le) (m_fo) (m_as) (m_fd) (m_bc) (m_bg) (m_bs) (m_be) (m_b0) (m_b1) (m_cm1) (m_hc1))) ∧ (0 ≤ m_cm1.toInt ∧ m_cm1.toInt ≤ 2) ∧ (0 ≤ m_hc1.toInt ∧ m_hc1.toInt ≤ 1)) ∧ (V' (q + 10) = some (.inl (cs 1, 120, .inl (fk)))) ∧ (V' (q + 11) = some (.inl (cs 1, 120, .inl (fw)))) ∧ (V' (q + 12) = some (.inl (cs 1, 120, .inl (ft)))) ∧ (V' (q + 13) = some (.inl (cs 1, 120, .inl (fp)))) ∧ (V' (q + 9) = some (.inl (cs 1, 60, .inl (fc)))) ∧ (V' (q + 2) = some (.inl (cs 1, 2, .inl (fl)))))) ([.ref (mo), .int (v), .int (te), .int (pe)] : List Value).toArray s 0 0 (hp_F B)) (F0 m 54 ls []) := by
    intro V9 H9 locs9 ls   cm54 hZ hP  ho64 hv65 hl
    have hb_cm54 := hq_rng cm54
    have hPj54 := hP
    have jn99 : ∀ (V9 : hp_V) (H9 : Heap) (locs9 : List Loc) (ls : Array Slot)  (cm99 : Int32), hp_Z D cs B s V9 H9 n locs9 → hq_P cs G (fun g => g.1 == 1 || g.1 == 49) V V9 → V9 (mo) = some (.inr (13, hm_o q (m_tp) (m_sz) (m_fr) (m_bh) (m_hd) (m_ft) (m_fa) (m_le) (m_fo) (m_as) (m_fd) (m_bc) (m_bg) (m_bs) (m_be) (m_b0) (m_b1) (cm99) (1))) → cm99.toInt = hm_1 (r10) + hm_Ns (r33) m_bs → lv_has ls 7 [(6, .int (r50)), (5, .int (r33)), (4, .int (r10)), (0, .ref (mo)), (1, .int (v)), (2, .int (te)), (3, .int (pe))] → W p l e ({ frames := 3, cells := 0, slots := 0, locals := 70 }) s m ([.ref (mo), .int (v), .int (te), .int (pe)] : List Value).toArray below meth c H9 locs9 0 0 (MQ below (hp_QV D cs B (fun V' n' => n = n' ∧ hq_P cs G (fun g => g.1 == 1 || g.1 == 49) V V' ∧ (∃ (m_cm1 : Int32) (m_hc1 : Int32), V' mo = some (.inr (13, hm_o q (m_tp) (m_sz) (m_fr) (m_bh) (m_hd) (m_ft) (m_fa) (m_le) (m_fo) (m_as) (m_fd) (m_bc) (m_bg) (m_bs) (m_be) (m_b0) (m_b1) (m_cm1) (m_hc1))) ∧ (0 ≤ m_cm1.toInt ∧ m_cm1.toInt ≤ 2) ∧ (0 ≤ m_hc1.toInt ∧ m_hc1.toInt ≤ 1)) ∧ (V' (q + 10) = some (.inl (cs 1, 120, .inl (fk)))) ∧ (V' (q + 11) = some (.inl (cs 1, 120, .inl (fw)))) ∧ (V' (q + 12) = some (.inl (cs 1, 120, .inl (ft)))) ∧ (V' (q + 13) = some (.inl (cs 1, 120, .inl (fp)))) ∧ (V' (q + 9) = some (.inl (cs 1, 60, .inl (fc)))) ∧ (V' (q + 2) = some (.inl (cs 1, 2, .inl (fl)))))) ([.ref (mo), .int (v), .int (te), .int (pe)] : List Value).toArray s 0 0 (hp_F B)) (F0 m 99 ls []) := by
      intro V9 H9 locs9 ls   cm99 hZ hP  ho66 hv67 hl
      have hb_cm99 := hq_rng cm99
      have hPj99 := hP
      have jn150 : ∀ (V9 : hp_V) (H9 : Heap) (locs9 : List Loc) (ls : Array Slot)  (cm150 : Int32), hp_Z D cs B s V9 H9 n locs9 → hq_P cs G (fun g => g.1 == 1 || g.1 == 49) V V9 → V9 (mo) = some (.inr (13, hm_o q (m_tp) (m_sz) (m_fr) (m_bh) (m_hd) (m_ft) (m_fa) (m_le) (m_fo) (m_as) (m_fd) (m_bc) (m_bg) (m_bs) (m_be) (m_b0) (m_b1) (cm150) (1))) → cm150.toInt = hm_1 (r10) + hm_Ns (r33) m_bs + hm_Ne (r50) m_be → lv_has ls 7 [(6, .int (r50)), (5, .int (r33)), (4, .int (r10)), (0, .ref (mo)), (1, .int (v)), (2, .int (te)), (3, .int (pe))] → W p l e ({ frames := 3, cells := 0, slots := 0, locals := 70 }) s m ([.ref (mo), .int (v), .int (te), .int (pe)] : List Value).toArray below meth c H9 locs9 0 0 (MQ below (hp_QV D cs B (fun V' n' => n = n' ∧ hq_P cs G (fun g => g.1 == 1 || g.1 == 49) V V' ∧ (∃ (m_cm1 : Int32) (m_hc1 : Int32), V' mo = some (.inr (13, hm_o q (m_tp) (m_sz) (m_fr) (m_bh) (m_hd) (m_ft) (m_fa) (m_le) (m_fo) (m_as) (m_fd) (m_bc) (m_bg) (m_bs) (m_be) (m_b0) (m_b1) (m_cm1) (m_hc1))) ∧ (0 ≤ m_cm1.toInt ∧ m_cm1.toInt ≤ 2) ∧ (0 ≤ m_hc1.toInt ∧ m_hc1.toInt ≤ 1)) ∧ (V' (q + 10) = some (.inl (cs 1, 120, .inl (fk)))) ∧ (V' (q + 11) = some (.inl (cs 1, 120, .inl (fw)))) ∧ (V' (q + 12) = some (.inl (cs 1, 120, .inl (ft)))) ∧ (V' (q + 13) = some (.inl (cs 1, 120, .inl (fp)))) ∧ (V' (q + 9) = some (.inl (cs 1, 60, .inl (fc)))) ∧ (V' (q + 2) = some (.inl (cs 1, 2, .inl (fl)))))) ([.ref (mo), .int (v), .int (te), .int (pe)] : List Value).toArray s 0 0 (hp_F B)) (F0 m 150 ls []) := by
        intro V9 H9 locs9 ls   cm150 hZ hP  ho68 hv69 hl
        have hb_cm150 := hq_rng cm150
        have hPj150 := hP
        have jn168 : ∀ (V9 : hp_V) (H9 : Heap) (locs9 : List Loc) (ls : Array Slot)  (cm168 : Int32), hp_Z D cs B s V9 H9 n locs9 → hq_P cs G (fun g => g.1 == 1 || g.1 == 49) V V9 → V9 (mo) = some (.inr (13, hm_o q (m_tp) (m_sz) (m_fr) (m_bh) (m_hd) (m_ft) (m_fa) (m_le) (m_fo) (m_as) (m_fd) (m_bc) (m_bg) (m_bs) (m_be) (m_b0) (m_b1) (cm168) (1))) → cm168.toInt = hm_1 (r10) + hm_Ns (r33) m_bs + hm_Ne (r50) m_be + hm_1 m_b0 → lv_has ls 7 [(6, .int (r50)), (5, .int (r33)), (4, .int (r10)), (0, .ref (mo)), (1, .int (v)), (2, .int (te)), (3, .int (pe))] → W p l e ({ frames := 3, cells := 0, slots := 0, locals := 70 }) s m ([.ref (mo), .int (v), .int (te), .int (pe)] : List Value).toArray below meth c H9 locs9 0 0 (MQ below (hp_QV D cs B (fun V' n' => n = n' ∧ hq_P cs G (fun g => g.1 == 1 || g.1 == 49) V V' ∧ (∃ (m_cm1 : Int32) (m_hc1 : Int32), V' mo = some (.inr (13, hm_o q (m_tp) (m_sz) (m_fr) (m_bh) (m_hd) (m_ft) (m_fa) (m_le) (m_fo) (m_as) (m_fd) (m_bc) (m_bg) (m_bs) (m_be) (m_b0) (m_b1) (m_cm1) (m_hc1))) ∧ (0 ≤ m_cm1.toInt ∧ m_cm1.toInt ≤ 2) ∧ (0 ≤ m_hc1.toInt ∧ m_hc1.toInt ≤ 1)) ∧ (V' (q + 10) = some (.inl (cs 1, 120, .inl (fk)))) ∧ (V' (q + 11) = some (.inl (cs 1, 120, .inl (fw)))) ∧ (V' (q + 12) = some (.inl (cs 1, 120, .inl (ft)))) ∧ (V' (q + 13) = some (.inl (cs 1, 120, .inl (fp)))) ∧ (V' (q + 9) = some (.inl (cs 1, 60, .inl (fc)))) ∧ (V' (q + 2) = some (.inl (cs 1, 2, .inl (fl)))))) ([.ref (mo), .int (v), .int (te), .int (pe)] : List Value).toArray s 0 0 (hp_F B)) (F0 m 168 ls []) := by
          intro V9 H9 locs9 ls   cm168 hZ hP  ho70 hv71 hl
          have hb_cm168 := hq_rng cm168
          have hPj168 := hP
          refine lv_aload_n hx hb dX13_keepChanges_168 rfl (lv_at hl 3 rfl) ?_
          refine hp_get (v := .int (m_b1)) hx hb hts hown hZ ho70 fl_X13_431 rfl dX13_keepChanges_169 ?_
          refine lv_iconst (v := -1) hx hb dX13_keepChanges_172 (by decide) ?_
          refine lv_icmp_eq (tgt := 186) hx hb dX13_keepChanges_173 (by decide) (fun c72 => ?_) (fun c72 => ?_)
          · have c72 : (m_b1).toInt = (-1 : Int) := hq_eqi.mp c72
            have hl73 : (1 : Int32).toInt = 1 := by decide
            have fx74 : V9 (q + 10) = some (.inl (cs 1, 120, .inl (fk))) := (hPj168.2 (q + 10) _ (hr_10 hR) rfl).trans (ho_fk)
            have fx75 : V9 (q + 11) = some (.inl (cs 1, 120, .inl (fw))) := (hPj168.2 (q + 11) _ (hr_11 hR) rfl).trans (ho_fw)
            have fx76 : V9 (q + 12) = some (.inl (cs 1, 120, .inl (ft))) := (hPj168.2 (q + 12) _ (hr_12 hR) rfl).trans (ho_ft)
            have fx77 : V9 (q + 13) = some (.inl (cs 1, 120, .inl (fp))) := (hPj168.2 (q + 13) _ (hr_13 hR) rfl).trans (ho_fp)
            have fx78 : V9 (q + 9) = some (.inl (cs 1, 60, .inl (fc))) := (hPj168.2 (q + 9) _ (hr_9 hR) rfl).trans (ho_fc)
            have fx79 : V9 (q + 2) = some (.inl (cs 1, 2, .inl (fl))) := (hPj168.2 (q + 2) _ (hr_2 hR) rfl).trans (ho_fl)
            exact hp_vret hx hb hr hlocks hZ ⟨rfl, hP, ⟨cm168, 1, ho70, by omega, by omega⟩, fx74, fx75, fx76, fx77, fx78, fx79⟩ dX13_keepChanges_186
          · have c72 : ¬ (m_b1).toInt = (-1 : Int) := fun h9 => c72 (hq_eqi.mpr h9)
            refine lv_aload_n hx hb dX13_keepChanges_176 rfl (lv_at hl 3 rfl) ?_
            refine lv_iconst (v := 5) hx hb dX13_keepChanges_177 (by decide) ?_
            refine lv_aload_n hx hb dX13_keepChanges_178 rfl (lv_at hl 3 rfl) ?_
            refine hp_get (v := .int (m_b1)) hx hb hts hown hZ ho70 fl_X13_431 rfl dX13_keepChanges_179 ?_
            refine lv_iconst (v := -1) hx hb dX13_keepChanges_182 (by decide) ?_
            have hl86 : (1 : Int32).toInt = 1 := by decide
            have hl91 : (5 : Int32).toInt = 5 := by decide
            have hl92 : (-1 : Int32).toInt = -1 := by decide
            refine hp_callv (hp_runV (As := [.int (5), .int (m_b1), .int (-1)]) (rest := []) hx hb hml hown hts (t_X13_noteChange l D cs B G  V9 n hP.1 q hR (mo) h_mo (5) (m_b1) (-1) ho70  (by omega) (by omega) (by omega) (by omega) (by omega) (by omega) (by omega) (by omega) (by omega) (by omega) (by omega)) hZ ho70 cv_X13_448 rfl rfl ⟨Nat.le_of_ble_eq_true rfl, Nat.le_of_ble_eq_true rfl⟩ rfl hl.1 rfl (Nat.le_of_ble_eq_true rfl) dX13_keepChanges_183 ⟨(Nat.le_of_ble_eq_true rfl), (Nat.le_of_ble_eq_true rfl)⟩) hZ (fun V80 n81 _ _ hw82 hZ => ?_)
            obtain ⟨rfl, hq84, ⟨z87, ho88, hi89, hi90⟩⟩ := hw82
            have hP := hP.trans hq84 (by intro g h; simp_all)
            have b93 := hq_rng z87
            have hl94 : (1 : Int32).toInt = 1 := by decide
            have fx95 : V80 (q + 10) = some (.inl (cs 1, 120, .inl (fk))) := (hq84.2 (q + 10) _ (hr_10 hR) rfl).trans ((hPj168.2 (q + 10) _ (hr_10 hR) rfl).trans (ho_fk))
            have fx96 : V80 (q + 11) = some (.inl (cs 1, 120, .inl (fw))) := (hq84.2 (q + 11) _ (hr_11 hR) rfl).trans ((hPj168.2 (q + 11) _ (hr_11 hR) rfl).trans (ho_fw))
            have fx97 : V80 (q + 12) = some (.inl (cs 1, 120, .inl (ft))) := (hq84.2 (q + 12) _ (hr_12 hR) rfl).trans ((hPj168.2 (q + 12) _ (hr_12 hR) rfl).trans (ho_ft))
            have fx98 : V80 (q + 13) = some (.inl (cs 1, 120, .inl (fp))) := (hq84.2 (q + 13) _ (hr_13 hR) rfl).trans ((hPj168.2 (q + 13) _ (hr_13 hR) rfl).trans (ho_fp))
            have fx99 : V80 (q + 9) = some (.inl (cs 1, 60, .inl (fc))) := (hq84.2 (q + 9) _ (hr_9 hR) rfl).trans ((hPj168.2 (q + 9) _ (hr_9 hR) rfl).trans (ho_fc))
            have fx100 : V80 (q + 2) = some (.inl (cs 1, 2, .inl (fl))) := (hq84.2 (q + 2) _ (hr_2 hR) rfl).trans ((hPj168.2 (q + 2) _ (hr_2 hR) rfl).trans (ho_fl))
            exact hp_vret hx hb hr hlocks hZ ⟨rfl, hP, ⟨z87, 1, ho88, by omega, by omega⟩, fx95, fx96, fx97, fx98, fx99, fx100⟩ dX13_keepChanges_186
        refine lv_aload_n hx hb dX13_keepChanges_150 rfl (lv_at hl 3 rfl) ?_
        refine hp_get (v := .int (m_b0)) hx hb hts hown hZ ho68 fl_X13_428 rfl dX13_keepChanges_151 ?_
        refine lv_iconst (v := -1) hx hb dX13_keepChanges_154 (by decide) ?_
        refine lv_icmp_eq (tgt := 168) hx hb dX13_keepChanges_155 (by decide) (fun c101 => ?_) (fun c101 => ?_)
        · have c101 : (m_b0).toInt = (-1 : Int) := hq_eqi.mp c101
          exact jn168 _ _ _ ls (cm150) hZ hP ho68 (by omega) (lv_sub hl [0, 1, 2, 3, 4, 5, 6] rfl)
        · have c101 : ¬ (m_b0).toInt = (-1 : Int) := fun h9 => c101 (hq_eqi.mpr h9)
          refine lv_aload_n hx hb dX13_keepChanges_158 rfl (lv_at hl 3 rfl) ?_
          refine lv_iconst (v := 5) hx hb dX13_keepChanges_159 (by decide) ?_
          refine lv_aload_n hx hb dX13_keepChanges_160 rfl (lv_at hl 3 rfl) ?_
          refine hp_get (v := .int (m_b0)) hx hb hts hown hZ ho68 fl_X13_428 rfl dX13_keepChanges_161 ?_
          refine lv_iconst (v := -1) hx hb dX13_keepChanges_164 (by decide) ?_
          have hl108 : (1 : Int32).toInt = 1 := by decide
          have hl113 : (5 : Int32).toInt = 5 := by decide
          have hl114 : (-1 : Int32).toInt = -1 := by decide
          refine hp_callv (hp_runV (As := [.int (5), .int (m_b0), .int (-1)]) (rest := []) hx hb hml hown hts (t_X13_noteChange l D cs B G  V9 n hP.1 q hR (mo) h_mo (5) (m_b0) (-1) ho68  (by omega) (by omega) (by omega) (by omega) (by omega) (by omega) (by omega) (by omega) (by omega) (by omega) (by omega)) hZ ho68 cv_X13_448 rfl rfl ⟨Nat.le_of_ble_eq_true rfl, Nat.le_of_ble_eq_true rfl⟩ rfl hl.1 rfl (Nat.le_of_ble_eq_true rfl) dX13_keepChanges_165 ⟨(Nat.le_of_ble_eq_true rfl), (Nat.le_of_ble_eq_true rfl)⟩) hZ (fun V102 n103 _ _ hw104 hZ => ?_)
          obtain ⟨rfl, hq106, ⟨z109, ho110, hi111, hi112⟩⟩ := hw104
          have hP := hP.trans hq106 (by intro g h; simp_all)
          have b115 := hq_rng z109
          exact jn168 _ _ _ ls (z109) hZ hP ho110 (by omega) (lv_sub hl [0, 1, 2, 3, 4, 5, 6] rfl)
      refine lv_aload_n hx hb dX13_keepChanges_99 rfl (lv_at hl 3 rfl) ?_
      refine hp_get (v := .int (m_be)) hx hb hts hown hZ ho66 fl_X13_425 rfl dX13_keepChanges_100 ?_
      refine lv_iload hx hb dX13_keepChanges_103 (lv_at hl 0 rfl) ?_
      refine lv_icmp_ne (tgt := 114) hx hb dX13_keepChanges_105 (by decide) (fun c116 => ?_) (fun c116 => ?_)
      · have c116 : ¬ (m_be).toInt = (r50).toInt := fun h9 => c116 (hq_eqi.mpr h9)
        refine lv_aload_n hx hb dX13_keepChanges_114 rfl (lv_at hl 3 rfl) ?_
        refine lv_aload_n hx hb dX13_keepChanges_115 rfl (lv_at hl 3 rfl) ?_
        refine hp_get (v := .int (m_be)) hx hb hts hown hZ ho66 fl_X13_425 rfl dX13_keepChanges_116 ?_
        refine lv_iconst (v := -1) hx hb dX13_keepChanges_119 (by decide) ?_
        refine lv_icmp_ne (tgt := 127) hx hb dX13_keepChanges_120 (by decide) (fun c117 => ?_) (fun c117 => ?_)
        · have c117 : ¬ (m_be).toInt = (-1 : Int) := fun h9 => c117 (hq_eqi.mpr h9)
          refine lv_iconst (v := 3) hx hb dX13_keepChanges_127 (by decide) ?_
          refine lv_iload hx hb dX13_keepChanges_128 (lv_at hl 0 rfl) ?_
          refine lv_iconst (v := -1) hx hb dX13_keepChanges_130 (by decide) ?_
          refine lv_icmp_ne (tgt := 141) hx hb dX13_keepChanges_131 (by decide) (fun c118 => ?_) (fun c118 => ?_)
          · have c118 : ¬ (r50).toInt = (-1 : Int) := fun h9 => c118 (hq_eqi.mpr h9)
            refine lv_iload hx hb dX13_keepChanges_141 (lv_at hl 0 rfl) ?_
            refine lv_aload_n hx hb dX13_keepChanges_143 rfl (lv_at hl 3 rfl) ?_
            refine hp_get (v := .int (m_be)) hx hb hts hown hZ ho66 fl_X13_425 rfl dX13_keepChanges_144 ?_
            have hl125 : (1 : Int32).toInt = 1 := by decide
            have hl130 : (3 : Int32).toInt = 3 := by decide
            refine hp_callv (hp_runV (As := [.int (3), .int (r50), .int (m_be)]) (rest := []) hx hb hml hown hts (t_X13_noteChange l D cs B G  V9 n hP.1 q hR (mo) h_mo (3) (r50) (m_be) ho66  (by omega) (by omega) (by omega) (by omega) (by omega) (by omega) (by omega) (by omega) (by omega) (by omega) (by omega)) hZ ho66 cv_X13_448 rfl rfl ⟨Nat.le_of_ble_eq_true rfl, Nat.le_of_ble_eq_true rfl⟩ rfl hl.1 rfl (Nat.le_of_ble_eq_true rfl) dX13_keepChanges_147 ⟨(Nat.le_of_ble_eq_true rfl), (Nat.le_of_ble_eq_true rfl)⟩) hZ (fun V119 n120 _ _ hw121 hZ => ?_)
            obtain ⟨rfl, hq123, ⟨z126, ho127, hi128, hi129⟩⟩ := hw121
            have hP := hP.trans hq123 (by intro g h; simp_all)
            have b131 := hq_rng z126
            exact jn150 _ _ _ ls (z126) hZ hP ho127 (by omega) (lv_sub hl [0, 1, 2, 3, 4, 5, 6] rfl)
          · have c118 : (r50).toInt = (-1 : Int) := hq_eqi.mp c118
            refine lv_aload_n hx hb dX13_keepChanges_134 rfl (lv_at hl 3 rfl) ?_
            refine hp_get (v := .int (m_be)) hx hb hts hown hZ ho66 fl_X13_425 rfl dX13_keepChanges_135 ?_
            refine lv_goto (tgt := 143) hx hb dX13_keepChanges_138 (by decide) ?_
            refine lv_aload_n hx hb dX13_keepChanges_143 rfl (lv_at hl 3 rfl) ?_
            refine hp_get (v := .int (m_be)) hx hb hts hown hZ ho66 fl_X13_425 rfl dX13_keepChanges_144 ?_
            have hl138 : (1 : Int32).toInt = 1 := by decide
            have hl143 : (3 : Int32).toInt = 3 := by decide
            refine hp_callv (hp_runV (As := [.int (3), .int (m_be), .int (m_be)]) (rest := []) hx hb hml hown hts (t_X13_noteChange l D cs B G  V9 n hP.1 q hR (mo) h_mo (3) (m_be) (m_be) ho66  (by omega) (by omega) (by omega) (by omega) (by omega) (by omega) (by omega) (by omega) (by omega) (by omega) (by omega)) hZ ho66 cv_X13_448 rfl rfl ⟨Nat.le_of_ble_eq_true rfl, Nat.le_of_ble_eq_true rfl⟩ rfl hl.1 rfl (Nat.le_of_ble_eq_true rfl) dX13_keepChanges_147 ⟨(Nat.le_of_ble_eq_true rfl), (Nat.le_of_ble_eq_true rfl)⟩) hZ (fun V132 n133 _ _ hw134 hZ => ?_)
            obtain ⟨rfl, hq136, ⟨z139, ho140, hi141, hi142⟩⟩ := hw134
            have hP := hP.trans hq136 (by intro g h; simp_all)
            have b144 := hq_rng z139
            exact jn150 _ _ _ ls (z139) hZ hP ho140 (by omega) (lv_sub hl [0, 1, 2, 3, 4, 5, 6] rfl)
        · have c117 : (m_be).toInt = (-1 : Int) := hq_eqi.mp c117
          refine lv_iconst (v := 4) hx hb dX13_keepChanges_123 (by decide) ?_
          refine lv_goto (tgt := 128) hx hb dX13_keepChanges_124 (by decide) ?_
          refine lv_iload hx hb dX13_keepChanges_128 (lv_at hl 0 rfl) ?_
          refine lv_iconst (v := -1) hx hb dX13_keepChanges_130 (by decide) ?_
          refine lv_icmp_ne (tgt := 141) hx hb dX13_keepChanges_131 (by decide) (fun c145 => ?_) (fun c145 => ?_)
          · have c145 : ¬ (r50).toInt = (-1 : Int) := fun h9 => c145 (hq_eqi.mpr h9)
            refine lv_iload hx hb dX13_keepChanges_141 (lv_at hl 0 rfl) ?_
            refine lv_aload_n hx hb dX13_keepChanges_143 rfl (lv_at hl 3 rfl) ?_
            refine hp_get (v := .int (m_be)) hx hb hts hown hZ ho66 fl_X13_425 rfl dX13_keepChanges_144 ?_
            have hl152 : (1 : Int32).toInt = 1 := by decide
            have hl157 : (4 : Int32).toInt = 4 := by decide
            refine hp_callv (hp_runV (As := [.int (4), .int (r50), .int (m_be)]) (rest := []) hx hb hml hown hts (t_X13_noteChange l D cs B G  V9 n hP.1 q hR (mo) h_mo (4) (r50) (m_be) ho66  (by omega) (by omega) (by omega) (by omega) (by omega) (by omega) (by omega) (by omega) (by omega) (by omega) (by omega)) hZ ho66 cv_X13_448 rfl rfl ⟨Nat.le_of_ble_eq_true rfl, Nat.le_of_ble_eq_true rfl⟩ rfl hl.1 rfl (Nat.le_of_ble_eq_true rfl) dX13_keepChanges_147 ⟨(Nat.le_of_ble_eq_true rfl), (Nat.le_of_ble_eq_true rfl)⟩) hZ (fun V146 n147 _ _ hw148 hZ => ?_)
            obtain ⟨rfl, hq150, ⟨z153, ho154, hi155, hi156⟩⟩ := hw148
            have hP := hP.trans hq150 (by intro g h; simp_all)
            have b158 := hq_rng z153
            exact jn150 _ _ _ ls (z153) hZ hP ho154 (by omega) (lv_sub hl [0, 1, 2, 3, 4, 5, 6] rfl)
          · have c145 : (r50).toInt = (-1 : Int) := hq_eqi.mp c145
            refine lv_aload_n hx hb dX13_keepChanges_134 rfl (lv_at hl 3 rfl) ?_
            refine hp_get (v := .int (m_be)) hx hb hts hown hZ ho66 fl_X13_425 rfl dX13_keepChanges_135 ?_
            refine lv_goto (tgt := 143) hx hb dX13_keepChanges_138 (by decide) ?_
            refine lv_aload_n hx hb dX13_keepChanges_143 rfl (lv_at hl 3 rfl) ?_
            refine hp_get (v := .int (m_be)) hx hb hts hown hZ ho66 fl_X13_425 rfl dX13_keepChanges_144 ?_
            have hl165 : (1 : Int32).toInt = 1 := by decide
            have hl170 : (4 : Int32).toInt = 4 := by decide
            refine hp_callv (hp_runV (As := [.int (4), .int (m_be), .int (m_be)]) (rest := []) hx hb hml hown hts (t_X13_noteChange l D cs B G  V9 n hP.1 q hR (mo) h_mo (4) (m_be) (m_be) ho66  (by omega) (by omega) (by omega) (by omega) (by omega) (by omega) (by omega) (by omega) (by omega) (by omega) (by omega)) hZ ho66 cv_X13_448 rfl rfl ⟨Nat.le_of_ble_eq_true rfl, Nat.le_of_ble_eq_true rfl⟩ rfl hl.1 rfl (Nat.le_of_ble_eq_true rfl) dX13_keepChanges_147 ⟨(Nat.le_of_ble_eq_true rfl), (Nat.le_of_ble_eq_true rfl)⟩) hZ (fun V159 n160 _ _ hw161 hZ => ?_)
            obtain ⟨rfl, hq163, ⟨z166, ho167, hi168, hi169⟩⟩ := hw161
            have hP := hP.trans hq163 (by intro g h; simp_all)
            have b171 := hq_rng z166
            exact jn150 _ _ _ ls (z166) hZ hP ho167 (by omega) (lv_sub hl [0, 1, 2, 3, 4, 5, 6] rfl)
      · have c116 : (m_be).toInt = (r50).toInt := hq_eqi.mp c116
        refine lv_iload hx hb dX13_keepChanges_108 (lv_at hl 0 rfl) ?_
        refine lv_iconst (v := -1) hx hb dX13_keepChanges_110 (by decide) ?_
        refine lv_icmp_ne (tgt := 150) hx hb dX13_keepChanges_111 (by decide) (fun c172 => ?_) (fun c172 => ?_)
        · have c172 : ¬ (r50).toInt = (-1 : Int) := fun h9 => c172 (hq_eqi.mpr h9)
          exact jn150 _ _ _ ls (cm99) hZ hP ho66 (by omega) (lv_sub hl [0, 1, 2, 3, 4, 5, 6] rfl)
        · have c172 : (r50).toInt = (-1 : Int) := hq_eqi.mp c172
          refine lv_aload_n hx hb dX13_keepChanges_114 rfl (lv_at hl 3 rfl) ?_
          refine lv_aload_n hx hb dX13_keepChanges_115 rfl (lv_at hl 3 rfl) ?_
          refine hp_get (v := .int (m_be)) hx hb hts hown hZ ho66 fl_X13_425 rfl dX13_keepChanges_116 ?_
          refine lv_iconst (v := -1) hx hb dX13_keepChanges_119 (by decide) ?_
          refine lv_icmp_ne (tgt := 127) hx hb dX13_keepChanges_120 (by decide) (fun c173 => ?_) (fun c173 => ?_)
          · have c173 : ¬ (m_be).toInt = (-1 : Int) := fun h9 => c173 (hq_eqi.mpr h9)
            refine lv_iconst (v := 3) hx hb dX13_keepChanges_127 (by decide) ?_
            refine lv_iload hx hb dX13_keepChanges_128 (lv_at hl 0 rfl) ?_
            refine lv_iconst (v := -1) hx hb dX13_keepChanges_130 (by decide) ?_
            refine lv_icmp_ne (tgt := 141) hx hb dX13_keepChanges_131 (by decide) (fun c174 => ?_) (fun c174 => ?_)
            · have c174 : ¬ (r50).toInt = (-1 : Int) := fun h9 => c174 (hq_eqi.mpr h9)
              refine lv_iload hx hb dX13_keepChanges_141 (lv_at hl 0 rfl) ?_
              refine lv_aload_n hx hb dX13_keepChanges_143 rfl (lv_at hl 3 rfl) ?_
              refine hp_get (v := .int (m_be)) hx hb hts hown hZ ho66 fl_X13_425 rfl dX13_keepChanges_144 ?_
              have hl181 : (1 : Int32).toInt = 1 := by decide
              have hl186 : (3 : Int32).toInt = 3 := by decide
              refine hp_callv (hp_runV (As := [.int (3), .int (r50), .int (m_be)]) (rest := []) hx hb hml hown hts (t_X13_noteChange l D cs B G  V9 n hP.1 q hR (mo) h_mo (3) (r50) (m_be) ho66  (by omega) (by omega) (by omega) (by omega) (by omega) (by omega) (by omega) (by omega) (by omega) (by omega) (by omega)) hZ ho66 cv_X13_448 rfl rfl ⟨Nat.le_of_ble_eq_true rfl, Nat.le_of_ble_eq_true rfl⟩ rfl hl.1 rfl (Nat.le_of_ble_eq_true rfl) dX13_keepChanges_147 ⟨(Nat.le_of_ble_eq_true rfl), (Nat.le_of_ble_eq_true rfl)⟩) hZ (fun V175 n176 _ _ hw177 hZ => ?_)
              obtain ⟨rfl, hq179, ⟨z182, ho183, hi184, hi185⟩⟩ := hw177
              have hP := hP.trans hq179 (by intro g h; simp_all)
              have b187 := hq_rng z182
              exact jn150 _ _ _ ls (z182) hZ hP ho183 (by omega) (lv_sub hl [0, 1, 2, 3, 4, 5, 6] rfl)
            · have c174 : (r50).toInt = (-1 : Int) := hq_eqi.mp c174
              refine lv_aload_n hx hb dX13_keepChanges_134 rfl (lv_at hl 3 rfl) ?_
              refine hp_get (v := .int (m_be)) hx hb hts hown hZ ho66 fl_X13_425 rfl dX13_keepChanges_135 ?_
              refine lv_goto (tgt := 143) hx hb dX13_keepChanges_138 (by decide) ?_
              refine lv_aload_n hx hb dX13_keepChanges_143 rfl (lv_at hl 3 rfl) ?_
              refine hp_get (v := .int (m_be)) hx hb hts hown hZ ho66 fl_X13_425 rfl dX13_keepChanges_144 ?_
              have hl194 : (1 : Int32).toInt = 1 := by decide
              have hl199 : (3 : Int32).toInt = 3 := by decide
              refine hp_callv (hp_runV (As := [.int (3), .int (m_be), .int (m_be)]) (rest := []) hx hb hml hown hts (t_X13_noteChange l D cs B G  V9 n hP.1 q hR (mo) h_mo (3) (m_be) (m_be) ho66  (by omega) (by omega) (by omega) (by omega) (by omega) (by omega) (by omega) (by omega) (by omega) (by omega) (by omega)) hZ ho66 cv_X13_448 rfl rfl ⟨Nat.le_of_ble_eq_true rfl, Nat.le_of_ble_eq_true rfl⟩ rfl hl.1 rfl (Nat.le_of_ble_eq_true rfl) dX13_keepChanges_147 ⟨(Nat.le_of_ble_eq_true rfl), (Nat.le_of_ble_eq_true rfl)⟩) hZ (fun V188 n189 _ _ hw190 hZ => ?_)
              obtain ⟨rfl, hq192, ⟨z195, ho196, hi197, hi198⟩⟩ := hw190
              have hP := hP.trans hq192 (by intro g h; simp_all)
              have b200 := hq_rng z195
              exact jn150 _ _ _ ls (z195) hZ hP ho196 (by omega) (lv_sub hl [0, 1, 2, 3, 4, 5, 6] rfl)
          · have c173 : (m_be).toInt = (-1 : Int) := hq_eqi.mp c173
            refine lv_iconst (v := 4) hx hb dX13_keepChanges_123 (by decide) ?_
            refine lv_goto (tgt := 128) hx hb dX13_keepChanges_124 (by decide) ?_
            refine lv_iload hx hb dX13_keepChanges_128 (lv_at hl 0 rfl) ?_
            refine lv_iconst (v := -1) hx hb dX13_keepChanges_130 (by decide) ?_
            refine lv_icmp_ne (tgt := 141) hx hb dX13_keepChanges_131 (by decide) (fun c201 => ?_) (fun c201 => ?_)
            · have c201 : ¬ (r50).toInt = (-1 : Int) := fun h9 => c201 (hq_eqi.mpr h9)
              refine lv_iload hx hb dX13_keepChanges_141 (lv_at hl 0 rfl) ?_
              refine lv_aload_n hx hb dX13_keepChanges_143 rfl (lv_at hl 3 rfl) ?_
              refine hp_get (v := .int (m_be)) hx hb hts hown hZ ho66 fl_X13_425 rfl dX13_keepChanges_144 ?_
              have hl208 : (1 : Int32).toInt = 1 := by decide
              have hl213 : (4 : Int32).toInt = 4 := by decide
              refine hp_callv (hp_runV (As := [.int (4), .int (r50), .int (m_be)]) (rest := []) hx hb hml hown hts (t_X13_noteChange l D cs B G  V9 n hP.1 q hR (mo) h_mo (4) (r50) (m_be) ho66  (by omega) (by omega) (by omega) (by omega) (by omega) (by omega) (by omega) (by omega) (by omega) (by omega) (by omega)) hZ ho66 cv_X13_448 rfl rfl ⟨Nat.le_of_ble_eq_true rfl, Nat.le_of_ble_eq_true rfl⟩ rfl hl.1 rfl (Nat.le_of_ble_eq_true rfl) dX13_keepChanges_147 ⟨(Nat.le_of_ble_eq_true rfl), (Nat.le_of_ble_eq_true rfl)⟩) hZ (fun V202 n203 _ _ hw204 hZ => ?_)
              obtain ⟨rfl, hq206, ⟨z209, ho210, hi211, hi212⟩⟩ := hw204
              have hP := hP.trans hq206 (by intro g h; simp_all)
              have b214 := hq_rng z209
              exact jn150 _ _ _ ls (z209) hZ hP ho210 (by omega) (lv_sub hl [0, 1, 2, 3, 4, 5, 6] rfl)
            · have c201 : (r50).toInt = (-1 : Int) := hq_eqi.mp c201
              refine lv_aload_n hx hb dX13_keepChanges_134 rfl (lv_at hl 3 rfl) ?_
              refine hp_get (v := .int (m_be)) hx hb hts hown hZ ho66 fl_X13_425 rfl dX13_keepChanges_135 ?_
              refine lv_goto (tgt := 143) hx hb dX13_keepChanges_138 (by decide) ?_
              refine lv_aload_n hx hb dX13_keepChanges_143 rfl (lv_at hl 3 rfl) ?_
              refine hp_get (v := .int (m_be)) hx hb hts hown hZ ho66 fl_X13_425 rfl dX13_keepChanges_144 ?_
              have hl221 : (1 : Int32).toInt = 1 := by decide
              have hl226 : (4 : Int32).toInt = 4 := by decide
              refine hp_callv (hp_runV (As := [.int (4), .int (m_be), .int (m_be)]) (rest := []) hx hb hml hown hts (t_X13_noteChange l D cs B G  V9 n hP.1 q hR (mo) h_mo (4) (m_be) (m_be) ho66  (by omega) (by omega) (by omega) (by omega) (by omega) (by omega) (by omega) (by omega) (by omega) (by omega) (by omega)) hZ ho66 cv_X13_448 rfl rfl ⟨Nat.le_of_ble_eq_true rfl, Nat.le_of_ble_eq_true rfl⟩ rfl hl.1 rfl (Nat.le_of_ble_eq_true rfl) dX13_keepChanges_147 ⟨(Nat.le_of_ble_eq_true rfl), (Nat.le_of_ble_eq_true rfl)⟩) hZ (fun V215 n216 _ _ hw217 hZ => ?_)
              obtain ⟨rfl, hq219, ⟨z222, ho223, hi224, hi225⟩⟩ := hw217
              have hP := hP.trans hq219 (by intro g h; simp_all)
              have b227 := hq_rng z222
              exact jn150 _ _ _ ls (z222) hZ hP ho223 (by omega) (lv_sub hl [0, 1, 2, 3, 4, 5, 6] rfl)
    refine lv_aload_n hx hb dX13_keepChanges_54 rfl (lv_at hl 3 rfl) ?_
    refine hp_get (v := .int (m_bs)) hx hb hts hown hZ ho64 fl_X13_422 rfl dX13_keepChanges_55 ?_
    refine lv_iload hx hb dX13_keepChanges_58 (lv_at hl 1 rfl) ?_
    refine lv_icmp_eq (tgt := 99) hx hb dX13_keepChanges_60 (by decide) (fun c228 => ?_) (fun c228 => ?_)
    · have c228 : (m_bs).toInt = (r33).toInt := hq_eqi.mp c228
      exact jn99 _ _ _ ls (cm54) hZ hP ho64 (by omega) (lv_sub hl [0, 1, 2, 3, 4, 5, 6] rfl)
    · have c228 : ¬ (m_bs).toInt = (r33).toInt := fun h9 => c228 (hq_eqi.mpr h9)
      refine lv_aload_n hx hb dX13_keepChanges_63 rfl (lv_at hl 3 rfl) ?_
      refine lv_aload_n hx hb dX13_keepChanges_64 rfl (lv_at hl 3 rfl) ?_
      refine hp_get (v := .int (m_bs)) hx hb hts hown hZ ho64 fl_X13_422 rfl dX13_keepChanges_65 ?_
      refine lv_iconst (v := -1) hx hb dX13_keepChanges_68 (by decide) ?_
      refine lv_icmp_ne (tgt := 76) hx hb dX13_keepChanges_69 (by decide) (fun c229 => ?_) (fun c229 => ?_)
      · have c229 : ¬ (m_bs).toInt = (-1 : Int) := fun h9 => c229 (hq_eqi.mpr h9)
        refine lv_iconst (v := 2) hx hb dX13_keepChanges_76 (by decide) ?_
        refine lv_iload hx hb dX13_keepChanges_77 (lv_at hl 1 rfl) ?_
        refine lv_iconst (v := -1) hx hb dX13_keepChanges_79 (by decide) ?_
        refine lv_icmp_ne (tgt := 90) hx hb dX13_keepChanges_80 (by decide) (fun c230 => ?_) (fun c230 => ?_)
        · have c230 : ¬ (r33).toInt = (-1 : Int) := fun h9 => c230 (hq_eqi.mpr h9)
          refine lv_iload hx hb dX13_keepChanges_90 (lv_at hl 1 rfl) ?_
          refine lv_aload_n hx hb dX13_keepChanges_92 rfl (lv_at hl 3 rfl) ?_
          refine hp_get (v := .int (m_bs)) hx hb hts hown hZ ho64 fl_X13_422 rfl dX13_keepChanges_93 ?_
          have hl237 : (1 : Int32).toInt = 1 := by decide
          have hl242 : (2 : Int32).toInt = 2 := by decide
          refine hp_callv (hp_runV (As := [.int (2), .int (r33), .int (m_bs)]) (rest := []) hx hb hml hown hts (t_X13_noteChange l D cs B G  V9 n hP.1 q hR (mo) h_mo (2) (r33) (m_bs) ho64  (by omega) (by omega) (by omega) (by omega) (by omega) (by omega) (by omega) (by omega) (by omega) (by omega) (by omega)) hZ ho64 cv_X13_448 rfl rfl ⟨Nat.le_of_ble_eq_true rfl, Nat.le_of_ble_eq_true rfl⟩ rfl hl.1 rfl (Nat.le_of_ble_eq_true rfl) dX13_keepChanges_96 ⟨(Nat.le_of_ble_eq_true rfl), (Nat.le_of_ble_eq_true rfl)⟩) hZ (fun V231 n232 _ _ hw233 hZ => ?_)
          obtain ⟨rfl, hq235, ⟨z238, ho239, hi240, hi241⟩⟩ := hw233
          have hP := hP.trans hq235 (by intro g h; simp_all)
          have b243 := hq_rng z238
          exact jn99 _ _ _ ls (z238) hZ hP ho239 (by omega) (lv_sub hl [0, 1, 2, 3, 4, 5, 6] rfl)
        · have c230 : (r33).toInt = (-1 : Int) := hq_eqi.mp c230
          refine lv_aload_n hx hb dX13_keepChanges_83 rfl (lv_at hl 3 rfl) ?_
          refine hp_get (v := .int (m_bs)) hx hb hts hown hZ ho64 fl_X13_422 rfl dX13_keepChanges_84 ?_
          refine lv_goto (tgt := 92) hx hb dX13_keepChanges_87 (by decide) ?_
          refine lv_aload_n hx hb dX13_keepChanges_92 rfl (lv_at hl 3 rfl) ?_
          refine hp_get (v := .int (m_bs)) hx hb hts hown hZ ho64 fl_X13_422 rfl dX13_keepChanges_93 ?_
          have hl250 : (1 : Int32).toInt = 1 := by decide
          have hl255 : (2 : Int32).toInt = 2 := by decide
          refine hp_callv (hp_runV (As := [.int (2), .int (m_bs), .int (m_bs)]) (rest := []) hx hb hml hown hts (t_X13_noteChange l D cs B G  V9 n hP.1 q hR (mo) h_mo (2) (m_bs) (m_bs) ho64  (by omega) (by omega) (by omega) (by omega) (by omega) (by omega) (by omega) (by omega) (by omega) (by omega) (by omega)) hZ ho64 cv_X13_448 rfl rfl ⟨Nat.le_of_ble_eq_true rfl, Nat.le_of_ble_eq_true rfl⟩ rfl hl.1 rfl (Nat.le_of_ble_eq_true rfl) dX13_keepChanges_96 ⟨(Nat.le_of_ble_eq_true rfl), (Nat.le_of_ble_eq_true rfl)⟩) hZ (fun V244 n245 _ _ hw246 hZ => ?_)
          obtain ⟨rfl, hq248, ⟨z251, ho252, hi253, hi254⟩⟩ := hw246
          have hP := hP.trans hq248 (by intro g h; simp_all)
          have b256 := hq_rng z251
          exact jn99 _ _ _ ls (z251) hZ hP ho252 (by omega) (lv_sub hl [0, 1, 2, 3, 4, 5, 6] rfl)
      · have c229 : (m_bs).toInt = (-1 : Int) := hq_eqi.mp c229
        refine lv_iconst (v := 1) hx hb dX13_keepChanges_72 (by decide) ?_
        refine lv_goto (tgt := 77) hx hb dX13_keepChanges_73 (by decide) ?_
        refine lv_iload hx hb dX13_keepChanges_77 (lv_at hl 1 rfl) ?_
        refine lv_iconst (v := -1) hx hb dX13_keepChanges_79 (by decide) ?_
        refine lv_icmp_ne (tgt := 90) hx hb dX13_keepChanges_80 (by decide) (fun c257 => ?_) (fun c257 => ?_)
        · have c257 : ¬ (r33).toInt = (-1 : Int) := fun h9 => c257 (hq_eqi.mpr h9)
          refine lv_iload hx hb dX13_keepChanges_90 (lv_at hl 1 rfl) ?_
          refine lv_aload_n hx hb dX13_keepChanges_92 rfl (lv_at hl 3 rfl) ?_
          refine hp_get (v := .int (m_bs)) hx hb hts hown hZ ho64 fl_X13_422 rfl dX13_keepChanges_93 ?_
          have hl264 : (1 : Int32).toInt = 1 := by decide
          have hl269 : (1 : Int32).toInt = 1 := by decide
          refine hp_callv (hp_runV (As := [.int (1), .int (r33), .int (m_bs)]) (rest := []) hx hb hml hown hts (t_X13_noteChange l D cs B G  V9 n hP.1 q hR (mo) h_mo (1) (r33) (m_bs) ho64  (by omega) (by omega) (by omega) (by omega) (by omega) (by omega) (by omega) (by omega) (by omega) (by omega) (by omega)) hZ ho64 cv_X13_448 rfl rfl ⟨Nat.le_of_ble_eq_true rfl, Nat.le_of_ble_eq_true rfl⟩ rfl hl.1 rfl (Nat.le_of_ble_eq_true rfl) dX13_keepChanges_96 ⟨(Nat.le_of_ble_eq_true rfl), (Nat.le_of_ble_eq_true rfl)⟩) hZ (fun V258 n259 _ _ hw260 hZ => ?_)
          obtain ⟨rfl, hq262, ⟨z265, ho266, hi267, hi268⟩⟩ := hw260
          have hP := hP.trans hq262 (by intro g h; simp_all)
          have b270 := hq_rng z265
          exact jn99 _ _ _ ls (z265) hZ hP ho266 (by omega) (lv_sub hl [0, 1, 2, 3, 4, 5, 6] rfl)
        · have c257 : (r33).toInt = (-1 : Int) := hq_eqi.mp c257
          refine lv_aload_n hx hb dX13_keepChanges_83 rfl (lv_at hl 3 rfl) ?_
          refine hp_get (v := .int (m_bs)) hx hb hts hown hZ ho64 fl_X13_422 rfl dX13_keepChanges_84 ?_
          refine lv_goto (tgt := 92) hx hb dX13_keepChanges_87 (by decide) ?_
          refine lv_aload_n hx hb dX13_keepChanges_92 rfl (lv_at hl 3 rfl) ?_
          refine hp_get (v := .int (m_bs)) hx hb hts hown hZ ho64 fl_X13_422 rfl dX13_keepChanges_93 ?_
          have hl277 : (1 : Int32).toInt = 1 := by decide
          have hl282 : (1 : Int32).toInt = 1 := by decide
          refine hp_callv (hp_runV (As := [.int (1), .int (m_bs), .int (m_bs)]) (rest := []) hx hb hml hown hts (t_X13_noteChange l D cs B G  V9 n hP.1 q hR (mo) h_mo (1) (m_bs) (m_bs) ho64  (by omega) (by omega) (by omega) (by omega) (by omega) (by omega) (by omega) (by omega) (by omega) (by omega) (by omega)) hZ ho64 cv_X13_448 rfl rfl ⟨Nat.le_of_ble_eq_true rfl, Nat.le_of_ble_eq_true rfl⟩ rfl hl.1 rfl (Nat.le_of_ble_eq_true rfl) dX13_keepChanges_96 ⟨(Nat.le_of_ble_eq_true rfl), (Nat.le_of_ble_eq_true rfl)⟩) hZ (fun V271 n272 _ _ hw273 hZ => ?_)
          obtain ⟨rfl, hq275, ⟨z278, ho279, hi280, hi281⟩⟩ := hw273
          have hP := hP.trans hq275 (by intro g h; simp_all)
          have b283 := hq_rng z278
          exact jn99 _ _ _ ls (z278) hZ hP ho279 (by omega) (lv_sub hl [0, 1, 2, 3, 4, 5, 6] rfl)
  refine lv_iload hx hb dX13_keepChanges_40 (lv_at hl 2 rfl) ?_
  refine lv_iconst (v := -1) hx hb dX13_keepChanges_42 (by decide) ?_
  refine lv_icmp_eq (tgt := 54) hx hb dX13_keepChanges_43 (by decide) (fun c284 => ?_) (fun c284 => ?_)
  · have c284 : (r10).toInt = (-1 : Int) := hq_eqi.mp c284
    have hl285 : (0 : Int32).toInt = 0 := by decide
    exact jn54 _ _ _ ls (0) hZ hP ho55 (by omega) (lv_sub hl [0, 1, 2, 3, 4, 5, 6] rfl)
  · have c284 : ¬ (r10).toInt = (-1 : Int) := fun h9 => c284 (hq_eqi.mpr h9)
    refine lv_aload_n hx hb dX13_keepChanges_46 rfl (lv_at hl 3 rfl) ?_
    refine lv_iconst (v := 0) hx hb dX13_keepChanges_47 (by decide) ?_
    refine lv_iload hx hb dX13_keepChanges_48 (lv_at hl 2 rfl) ?_
    refine lv_iconst (v := -1) hx hb dX13_keepChanges_50 (by decide) ?_
    have hl292 : (0 : Int32).toInt = 0 := by decide
    have hl293 : (1 : Int32).toInt = 1 := by decide
    have hl298 : (0 : Int32).toInt = 0 := by decide
    have hl299 : (-1 : Int32).toInt = -1 := by decide
    refine hp_callv (hp_runV (As := [.int (0), .int (r10), .int (-1)]) (rest := []) hx hb hml hown hts (t_X13_noteChange l D cs B G  V47 n hP.1 q hR (mo) h_mo (0) (r10) (-1) ho55  (by omega) (by omega) (by omega) (by omega) (by omega) (by omega) (by omega) (by omega) (by omega) (by omega) (by omega)) hZ ho55 cv_X13_448 rfl rfl ⟨Nat.le_of_ble_eq_true rfl, Nat.le_of_ble_eq_true rfl⟩ rfl hl.1 rfl (Nat.le_of_ble_eq_true rfl) dX13_keepChanges_51 ⟨(Nat.le_of_ble_eq_true rfl), (Nat.le_of_ble_eq_true rfl)⟩) hZ (fun V286 n287 _ _ hw288 hZ => ?_)
    obtain ⟨rfl, hq290, ⟨z294, ho295, hi296, hi297⟩⟩ := hw288
    have hP := hP.trans hq290 (by intro g h; simp_all)
    have b300 := hq_rng z294
    exact jn54 _ _ _ ls (z294) hZ hP ho295 (by omega) (lv_sub hl [0, 1, 2, 3, 4, 5, 6] rfl)

set_option maxHeartbeats 4000000 in
set_option maxRecDepth 100000 in
theorem t_X13_blame (l : Launch) (D : va_G) (cs : Nat → ClassId) (B : Nat) (G : hq_G) (V : hp_V) (n : Nat) (hI : hq_I cs G V) (q : Nat) (hR : hq_RT G q) (mo : Nat) (h_mo : G mo = some (24, 0, 0, 0)) (k : Int32) {m_tp m_sz m_fr m_bh m_hd m_ft m_fa m_le m_fo m_as m_fd m_bc m_bg m_bs m_be m_b0 m_b1 m_cm m_hc : Int32} (ho_mo : V mo = some (.inr (13, hm_o q (m_tp) (m_sz) (m_fr) (m_bh) (m_hd) (m_ft) (m_fa) (m_le) (m_fo) (m_as) (m_fd) (m_bc) (m_bg) (m_bs) (m_be) (m_b0) (m_b1) (m_cm) (m_hc)))) (hi_mo0 : 0 ≤ m_tp.toInt ∧ m_tp.toInt ≤ 4000) (hi_mo1 : 0 ≤ m_sz.toInt ∧ m_sz.toInt ≤ 4000) (hi_mo2 : 0 ≤ m_le.toInt ∧ m_le.toInt ≤ 276) (hi_mo3 : 0 ≤ m_fo.toInt ∧ m_fo.toInt ≤ 4) (hi_mo4 : 0 ≤ m_as.toInt ∧ m_as.toInt ≤ 4000) (hi_mo5 : 0 ≤ m_fd.toInt ∧ m_fd.toInt ≤ 900) (hi_mo6 : 0 ≤ m_cm.toInt ∧ m_cm.toInt ≤ 2) (hi_mo7 : 0 ≤ m_hc.toInt ∧ m_hc.toInt ≤ 1) (hk0 : 0 ≤ k.toInt) (hk1 : k.toInt < 8) : hp_M l yX13_blame cX13_blame 4 none ({ frames := 1, cells := 0, slots := 0, locals := 21 }) D cs B V n [.ref (mo), .int (k)] (hp_QV D cs B (fun V' n' => n = n' ∧ hq_P cs G (fun g => g.1 == 48) V V' ∧ (V' mo = some (.inr (13, hm_o q (m_tp) (m_sz) (m_fr) (m_bh) (m_hd) (m_ft) (m_fa) (m_le) (m_fo) (m_as) (m_fd) (m_bc) (m_bg) (m_bs) (m_be) (m_b0) (m_b1) (m_cm) (m_hc)))))) 0 0 := by
  refine hp_walk (R0 := RX13) (by decide) rfl ?_ (Nat.le_of_ble_eq_true rfl)
  intro p e s m below meth c ls hx hb hr hts hown hlocks hin hml hZ hl
  have hP : hq_P cs G (fun g => g.1 == 48) V V := hq_P.rf hI
  have hl : lv_has ls 4 [(0, .ref (mo)), (1, .int (k))] := hl
  have hb_k := hq_rng k
  have hb_m_tp := hq_rng m_tp
  have hb_m_sz := hq_rng m_sz
  have hb_m_fr := hq_rng m_fr
  have hb_m_bh := hq_rng m_bh
  have hb_m_hd := hq_rng m_hd
  have hb_m_ft := hq_rng m_ft
  have hb_m_fa := hq_rng m_fa
  have hb_m_le := hq_rng m_le
  have hb_m_fo := hq_rng m_fo
  have hb_m_as := hq_rng m_as
  have hb_m_fd := hq_rng m_fd
  have hb_m_bc := hq_rng m_bc
  have hb_m_bg := hq_rng m_bg
  have hb_m_bs := hq_rng m_bs
  have hb_m_be := hq_rng m_be
  have hb_m_b0 := hq_rng m_b0
  have hb_m_b1 := hq_rng m_b1
  have hb_m_cm := hq_rng m_cm
  have hb_m_hc := hq_rng m_hc
  refine lv_iconst (v := 0) hx hb dX13_blame_0 (by decide) ?_
  refine lv_istore_n (lv' := [(2, .int (0)), (0, .ref (mo)), (1, .int (k))]) hx hb dX13_blame_1 rfl hl (by decide) rfl (fun ls hl => ?_)
  have hl1 : (0 : Int32).toInt = 0 := by decide
  suffices lp2 : ∀ (k9 : Nat) (V9 : hp_V) (H9 : Heap) (locs9 : List Loc) (ls : Array Slot) (i : Int32), (100 - i.toInt).toNat = k9 → hp_Z D cs B s V9 H9 n locs9 → hq_P cs G (fun g => g.1 == 48) V V9 → 0 ≤ i.toInt → i.toInt ≤ 2 → lv_has ls 4 [(2, .int (i)), (0, .ref (mo)), (1, .int (k))] → W p l e ({ frames := 1, cells := 0, slots := 0, locals := 21 }) s m ([.ref (mo), .int (k)] : List Value).toArray below meth c H9 locs9 0 0 (MQ below (hp_QV D cs B (fun V' n' => n = n' ∧ hq_P cs G (fun g => g.1 == 48) V V' ∧ (V' mo = some (.inr (13, hm_o q (m_tp) (m_sz) (m_fr) (m_bh) (m_hd) (m_ft) (m_fa) (m_le) (m_fo) (m_as) (m_fd) (m_bc) (m_bg) (m_bs) (m_be) (m_b0) (m_b1) (m_cm) (m_hc)))))) ([.ref (mo), .int (k)] : List Value).toArray s 0 0 (hp_F B)) (F0 m 2 ls []) from lp2 _ _ _ _ ls (0) rfl hZ hP (by omega) (by omega) (lv_sub hl [0, 1, 2] rfl)
  intro k9
  induction k9 using Nat.strongRecOn with
  | _ k9 ih2 =>
    intro V9 H9 locs9 ls i  hk2 hZ hP  hv2 hv3 hl
    have hb_i := hq_rng i
    have hP_2 := hP
    refine lv_iload_n hx hb dX13_blame_2 rfl (lv_at hl 0 rfl) ?_
    refine lv_aload_n hx hb dX13_blame_3 rfl (lv_at hl 1 rfl) ?_
    have fx4 : V9 (mo) = some (.inr (13, hm_o q (m_tp) (m_sz) (m_fr) (m_bh) (m_hd) (m_ft) (m_fa) (m_le) (m_fo) (m_as) (m_fd) (m_bc) (m_bg) (m_bs) (m_be) (m_b0) (m_b1) (m_cm) (m_hc))) := (hP_2.2 (mo) _ h_mo rfl).trans (ho_mo)
    refine hp_get (v := .int (m_cm)) hx hb hts hown hZ fx4 fl_X13_445 rfl dX13_blame_4 ?_
    refine lv_icmp_ge (tgt := 80) hx hb dX13_blame_7 (by decide) (fun c5 => ?_) (fun c5 => ?_)
    · have c5 : (m_cm).toInt ≤ (i).toInt := hq_lei.mp c5
      exact hp_vret hx hb hr hlocks hZ ⟨rfl, hP, fx4⟩ dX13_blame_80
    · have c5 : ¬ (m_cm).toInt ≤ (i).toInt := fun h9 => c5 (hq_lei.mpr h9)
      refine lv_aload_n hx hb dX13_blame_10 rfl (lv_at hl 1 rfl) ?_
      refine hp_get (v := .ref (q + 45)) hx hb hts hown hZ fx4 fl_X13_286 rfl dX13_blame_11 ?_
      refine lv_iload_n hx hb dX13_blame_14 rfl (lv_at hl 0 rfl) ?_
      obtain ⟨hN8, g7, eV6, hf9⟩ := hq_o21 hP.1 (hr_45 hR)
      refine hp_iald hx hb hZ eV6 (hq_in (by omega) (by omega)) dX13_blame_15 ?_
      refine lv_topi (fun y10 ey11 => ?_)
      have b13 : (y10).toInt = ((g7) (i : Int32).toNatClampNeg).toInt := by rw [ey11]
      have b12 : hq_ir (hq_lo 5) (hq_hi 5) y10 := by rw [ey11]; exact hf9 _ (hq_ix (by omega) (by omega))
      have b12 : (-1) ≤ (y10).toInt ∧ (y10).toInt ≤ 59 := b12
      refine lv_iconst (v := -1) hx hb dX13_blame_16 (by decide) ?_
      refine lv_icmp_eq (tgt := 74) hx hb dX13_blame_17 (by decide) (fun c14 => ?_) (fun c14 => ?_)
      · have c14 : (y10).toInt = (-1 : Int) := hq_eqi.mp c14
        obtain ⟨y15, ey16⟩ : ∃ y : Int32, y = i + (1) := ⟨_, rfl⟩
        obtain ⟨k17, hk18, b19, b20⟩ := hq_add (i) (1)
        rw [← ey16] at hk18 b19 b20
        have hk18 : (y15).toInt = (i).toInt + (1) + k17 * 4294967296 := hk18
        refine lv_iinc (v := y15) (lv' := [(2, .int (y15)), (0, .ref (mo)), (1, .int (k))]) hx hb dX13_blame_74 hl (k := 0) rfl (by rw [ey16]; rfl) (by decide) rfl (fun ls hl => ?_)
        refine lv_goto (tgt := 2) hx hb dX13_blame_77 (by decide) ?_
        exact ih2 _ (by omega) _ _ _ ls (y15) rfl hZ hP (by omega) (by omega) (lv_sub hl [0, 1, 2] rfl)
      · have c14 : ¬ (y10).toInt = (-1 : Int) := fun h9 => c14 (hq_eqi.mpr h9)
        refine lv_iload_n hx hb dX13_blame_20 rfl (lv_at hl 0 rfl) ?_
        refine lv_iconst (v := 1) hx hb dX13_blame_21 (by decide) ?_
        refine lv_icmp_ne (tgt := 43) hx hb dX13_blame_22 (by decide) (fun c21 => ?_) (fun c21 => ?_)
        · have c21 : ¬ (i).toInt = (1 : Int) := fun h9 => c21 (hq_eqi.mpr h9)
          refine lv_bipush (v := 60) hx hb dX13_blame_43 (by decide) ?_
          refine lv_iload_n hx hb dX13_blame_45 rfl (lv_at hl 2 rfl) ?_
          refine lv_imul hx hb dX13_blame_46 ?_
          refine lv_topi (fun y22 ey23 => ?_)
          obtain ⟨k24, hk25, b26, b27⟩ := hq_mul (60) (k)
          rw [← ey23] at hk25 b26 b27
          have hk25 : (y22).toInt = (60 : Int) * (k).toInt + k24 * 4294967296 := hk25
          obtain rfl : k24 = 0 := by omega
          refine lv_aload_n hx hb dX13_blame_47 rfl (lv_at hl 1 rfl) ?_
          refine hp_get (v := .ref (q + 45)) hx hb hts hown hZ fx4 fl_X13_286 rfl dX13_blame_48 ?_
          refine lv_iload_n hx hb dX13_blame_51 rfl (lv_at hl 0 rfl) ?_
          refine hp_iald hx hb hZ eV6 (hq_in (by omega) (by omega)) dX13_blame_52 ?_
          refine lv_topi (fun y28 ey29 => ?_)
          have b31 : (y28).toInt = ((g7) (i : Int32).toNatClampNeg).toInt := by rw [ey29]
          have b30 : hq_ir (hq_lo 5) (hq_hi 5) y28 := by rw [ey29]; exact hf9 _ (hq_ix (by omega) (by omega))
          have b30 : (-1) ≤ (y28).toInt ∧ (y28).toInt ≤ 59 := b30
          refine lv_iadd hx hb dX13_blame_53 ?_
          refine lv_topi (fun y32 ey33 => ?_)
          obtain ⟨k34, hk35, b36, b37⟩ := hq_add (y22) (y28)
          rw [← ey33] at hk35 b36 b37
          have hk35 : (y32).toInt = (y22).toInt + (y28).toInt + k34 * 4294967296 := hk35
          obtain rfl : k34 = 0 := by omega
          refine lv_istore_n (lv' := [(3, .int (y32)), (2, .int (i)), (0, .ref (mo)), (1, .int (k))]) hx hb dX13_blame_54 rfl hl (by decide) rfl (fun ls hl => ?_)
          refine lv_aload_n hx hb dX13_blame_55 rfl (lv_at hl 2 rfl) ?_
          refine hp_get (v := .ref (q + 42)) hx hb hts hown hZ fx4 fl_X13_277 rfl dX13_blame_56 ?_
          refine lv_iload_n hx hb dX13_blame_59 rfl (lv_at hl 0 rfl) ?_
          refine lv_bipush (v := 99) hx hb dX13_blame_60 (by decide) ?_
          refine lv_aload_n hx hb dX13_blame_62 rfl (lv_at hl 2 rfl) ?_
          refine hp_get (v := .ref (q + 42)) hx hb hts hown hZ fx4 fl_X13_277 rfl dX13_blame_63 ?_
          refine lv_iload_n hx hb dX13_blame_66 rfl (lv_at hl 0 rfl) ?_
          obtain ⟨hN40, g39, eV38, hf41⟩ := hq_o21 hP.1 (hr_42 hR)
          refine hp_iald hx hb hZ eV38 (hq_in (by omega) (by omega)) dX13_blame_67 ?_
          refine lv_topi (fun y42 ey43 => ?_)
          have b45 : (y42).toInt = ((g39) (y32 : Int32).toNatClampNeg).toInt := by rw [ey43]
          have b44 := hq_rng y42
          refine lv_iconst (v := 1) hx hb dX13_blame_68 (by decide) ?_
          refine lv_iadd hx hb dX13_blame_69 ?_
          refine lv_topi (fun y46 ey47 => ?_)
          obtain ⟨k48, hk49, b50, b51⟩ := hq_add (y42) (1)
          rw [← ey47] at hk49 b50 b51
          have hk49 : (y46).toInt = (y42).toInt + (1 : Int) + k48 * 4294967296 := hk49
          refine va_mmin hx hb (hml.trans hl.1.symm) hown (hts _ lk_X13_401) (hts _ ms_min) (hts _ mi_math) (hts _ mk_min) (Nat.le_of_ble_eq_true rfl) (Nat.le_of_ble_eq_true rfl) (Nat.zero_le _) (Nat.zero_le _) dX13_blame_70 ?_
          refine lv_topi (fun y52 ey53 => ?_)
          have b54 := hm_mn (99) (y46)
          rw [← ey53] at b54
          have b55 : (99 : Int32).toInt = 99 := by decide
          refine hp_iast hx hb hZ eV38 (hq_in (by omega) (by omega)) dX13_blame_73 (fun V56 _ _ e57 o58 hZ => ?_)
          have e57 : V56 (q + 42) = some (.inl (cs 1, 480, .inl (upd (g39) ((y32 : Int32).toNatClampNeg) (y52)))) := e57
          have hP := hP.put (hr_42 hR) e57 o58 (hq_c21 (by omega) (hq_upd hf41 (hq_rng _))) rfl
          obtain ⟨y59, ey60⟩ : ∃ y : Int32, y = i + (1) := ⟨_, rfl⟩
          obtain ⟨k61, hk62, b63, b64⟩ := hq_add (i) (1)
          rw [← ey60] at hk62 b63 b64
          have hk62 : (y59).toInt = (i).toInt + (1) + k61 * 4294967296 := hk62
          refine lv_iinc (v := y59) (lv' := [(2, .int (y59)), (3, .int (y32)), (0, .ref (mo)), (1, .int (k))]) hx hb dX13_blame_74 hl (k := 1) rfl (by rw [ey60]; rfl) (by decide) rfl (fun ls hl => ?_)
          refine lv_goto (tgt := 2) hx hb dX13_blame_77 (by decide) ?_
          exact ih2 _ (by omega) _ _ _ ls (y59) rfl hZ hP (by omega) (by omega) (lv_sub hl [0, 2, 3] rfl)
        · have c21 : (i).toInt = (1 : Int) := hq_eqi.mp c21
          refine lv_aload_n hx hb dX13_blame_25 rfl (lv_at hl 1 rfl) ?_
          refine hp_get (v := .ref (q + 45)) hx hb hts hown hZ fx4 fl_X13_286 rfl dX13_blame_26 ?_
          refine lv_iconst (v := 1) hx hb dX13_blame_29 (by decide) ?_
          refine hp_iald hx hb hZ eV6 (by unfold vp_in; decide) dX13_blame_30 ?_
          refine lv_topi (fun y65 ey66 => ?_)
          have b68 : (y65).toInt = ((g7) (1 : Int32).toNatClampNeg).toInt := by rw [ey66]
          have b67 : hq_ir (hq_lo 5) (hq_hi 5) y65 := by rw [ey66]; exact hf9 _ (by decide)
          have b67 : (-1) ≤ (y65).toInt ∧ (y65).toInt ≤ 59 := b67
          refine lv_aload_n hx hb dX13_blame_31 rfl (lv_at hl 1 rfl) ?_
          refine hp_get (v := .ref (q + 45)) hx hb hts hown hZ fx4 fl_X13_286 rfl dX13_blame_32 ?_
          refine lv_iconst (v := 0) hx hb dX13_blame_35 (by decide) ?_
          refine hp_iald hx hb hZ eV6 (by unfold vp_in; decide) dX13_blame_36 ?_
          refine lv_topi (fun y69 ey70 => ?_)
          have b72 : (y69).toInt = ((g7) (0 : Int32).toNatClampNeg).toInt := by rw [ey70]
          have b71 : hq_ir (hq_lo 5) (hq_hi 5) y69 := by rw [ey70]; exact hf9 _ (by decide)
          have b71 : (-1) ≤ (y69).toInt ∧ (y69).toInt ≤ 59 := b71
          refine lv_icmp_ne (tgt := 43) hx hb dX13_blame_37 (by decide) (fun c73 => ?_) (fun c73 => ?_)
          · have c73 : ¬ (y65).toInt = (y69).toInt := fun h9 => c73 (hq_eqi.mpr h9)
            refine lv_bipush (v := 60) hx hb dX13_blame_43 (by decide) ?_
            refine lv_iload_n hx hb dX13_blame_45 rfl (lv_at hl 2 rfl) ?_
            refine lv_imul hx hb dX13_blame_46 ?_
            refine lv_topi (fun y74 ey75 => ?_)
            obtain ⟨k76, hk77, b78, b79⟩ := hq_mul (60) (k)
            rw [← ey75] at hk77 b78 b79
            have hk77 : (y74).toInt = (60 : Int) * (k).toInt + k76 * 4294967296 := hk77
            obtain rfl : k76 = 0 := by omega
            refine lv_aload_n hx hb dX13_blame_47 rfl (lv_at hl 1 rfl) ?_
            refine hp_get (v := .ref (q + 45)) hx hb hts hown hZ fx4 fl_X13_286 rfl dX13_blame_48 ?_
            refine lv_iload_n hx hb dX13_blame_51 rfl (lv_at hl 0 rfl) ?_
            refine hp_iald hx hb hZ eV6 (hq_in (by omega) (by omega)) dX13_blame_52 ?_
            refine lv_topi (fun y80 ey81 => ?_)
            have b83 : (y80).toInt = ((g7) (i : Int32).toNatClampNeg).toInt := by rw [ey81]
            have b82 : hq_ir (hq_lo 5) (hq_hi 5) y80 := by rw [ey81]; exact hf9 _ (hq_ix (by omega) (by omega))
            have b82 : (-1) ≤ (y80).toInt ∧ (y80).toInt ≤ 59 := b82
            refine lv_iadd hx hb dX13_blame_53 ?_
            refine lv_topi (fun y84 ey85 => ?_)
            obtain ⟨k86, hk87, b88, b89⟩ := hq_add (y74) (y80)
            rw [← ey85] at hk87 b88 b89
            have hk87 : (y84).toInt = (y74).toInt + (y80).toInt + k86 * 4294967296 := hk87
            obtain rfl : k86 = 0 := by omega
            refine lv_istore_n (lv' := [(3, .int (y84)), (2, .int (i)), (0, .ref (mo)), (1, .int (k))]) hx hb dX13_blame_54 rfl hl (by decide) rfl (fun ls hl => ?_)
            refine lv_aload_n hx hb dX13_blame_55 rfl (lv_at hl 2 rfl) ?_
            refine hp_get (v := .ref (q + 42)) hx hb hts hown hZ fx4 fl_X13_277 rfl dX13_blame_56 ?_
            refine lv_iload_n hx hb dX13_blame_59 rfl (lv_at hl 0 rfl) ?_
            refine lv_bipush (v := 99) hx hb dX13_blame_60 (by decide) ?_
            refine lv_aload_n hx hb dX13_blame_62 rfl (lv_at hl 2 rfl) ?_
            refine hp_get (v := .ref (q + 42)) hx hb hts hown hZ fx4 fl_X13_277 rfl dX13_blame_63 ?_
            refine lv_iload_n hx hb dX13_blame_66 rfl (lv_at hl 0 rfl) ?_
            obtain ⟨hN92, g91, eV90, hf93⟩ := hq_o21 hP.1 (hr_42 hR)
            refine hp_iald hx hb hZ eV90 (hq_in (by omega) (by omega)) dX13_blame_67 ?_
            refine lv_topi (fun y94 ey95 => ?_)
            have b97 : (y94).toInt = ((g91) (y84 : Int32).toNatClampNeg).toInt := by rw [ey95]
            have b96 := hq_rng y94
            refine lv_iconst (v := 1) hx hb dX13_blame_68 (by decide) ?_
            refine lv_iadd hx hb dX13_blame_69 ?_
            refine lv_topi (fun y98 ey99 => ?_)
            obtain ⟨k100, hk101, b102, b103⟩ := hq_add (y94) (1)
            rw [← ey99] at hk101 b102 b103
            have hk101 : (y98).toInt = (y94).toInt + (1 : Int) + k100 * 4294967296 := hk101
            refine va_mmin hx hb (hml.trans hl.1.symm) hown (hts _ lk_X13_401) (hts _ ms_min) (hts _ mi_math) (hts _ mk_min) (Nat.le_of_ble_eq_true rfl) (Nat.le_of_ble_eq_true rfl) (Nat.zero_le _) (Nat.zero_le _) dX13_blame_70 ?_
            refine lv_topi (fun y104 ey105 => ?_)
            have b106 := hm_mn (99) (y98)
            rw [← ey105] at b106
            have b107 : (99 : Int32).toInt = 99 := by decide
            refine hp_iast hx hb hZ eV90 (hq_in (by omega) (by omega)) dX13_blame_73 (fun V108 _ _ e109 o110 hZ => ?_)
            have e109 : V108 (q + 42) = some (.inl (cs 1, 480, .inl (upd (g91) ((y84 : Int32).toNatClampNeg) (y104)))) := e109
            have hP := hP.put (hr_42 hR) e109 o110 (hq_c21 (by omega) (hq_upd hf93 (hq_rng _))) rfl
            obtain ⟨y111, ey112⟩ : ∃ y : Int32, y = i + (1) := ⟨_, rfl⟩
            obtain ⟨k113, hk114, b115, b116⟩ := hq_add (i) (1)
            rw [← ey112] at hk114 b115 b116
            have hk114 : (y111).toInt = (i).toInt + (1) + k113 * 4294967296 := hk114
            refine lv_iinc (v := y111) (lv' := [(2, .int (y111)), (3, .int (y84)), (0, .ref (mo)), (1, .int (k))]) hx hb dX13_blame_74 hl (k := 1) rfl (by rw [ey112]; rfl) (by decide) rfl (fun ls hl => ?_)
            refine lv_goto (tgt := 2) hx hb dX13_blame_77 (by decide) ?_
            exact ih2 _ (by omega) _ _ _ ls (y111) rfl hZ hP (by omega) (by omega) (lv_sub hl [0, 2, 3] rfl)
          · have c73 : (y65).toInt = (y69).toInt := hq_eqi.mp c73
            refine lv_goto (tgt := 74) hx hb dX13_blame_40 (by decide) ?_
            obtain ⟨y117, ey118⟩ : ∃ y : Int32, y = i + (1) := ⟨_, rfl⟩
            obtain ⟨k119, hk120, b121, b122⟩ := hq_add (i) (1)
            rw [← ey118] at hk120 b121 b122
            have hk120 : (y117).toInt = (i).toInt + (1) + k119 * 4294967296 := hk120
            refine lv_iinc (v := y117) (lv' := [(2, .int (y117)), (0, .ref (mo)), (1, .int (k))]) hx hb dX13_blame_74 hl (k := 0) rfl (by rw [ey118]; rfl) (by decide) rfl (fun ls hl => ?_)
            refine lv_goto (tgt := 2) hx hb dX13_blame_77 (by decide) ?_
            exact ih2 _ (by omega) _ _ _ ls (y117) rfl hZ hP (by omega) (by omega) (lv_sub hl [0, 1, 2] rfl)

set_option maxHeartbeats 4000000 in
set_option maxRecDepth 100000 in
theorem t_X13_answer (l : Launch) (D : va_G) (cs : Nat → ClassId) (B : Nat) (G : hq_G) (V : hp_V) (n : Nat) (hI : hq_I cs G V) (q : Nat) (hR : hq_RT G q) (mo : Nat) (h_mo : G mo = some (24, 0, 0, 0)) (k : Int32) (v : Int32) (te : Int32) (pe : Int32) {m_tp m_sz m_fr m_bh m_hd m_ft m_fa m_le m_fo m_as m_fd m_bc m_bg m_bs m_be m_b0 m_b1 m_cm m_hc : Int32} (ho_mo : V mo = some (.inr (13, hm_o q (m_tp) (m_sz) (m_fr) (m_bh) (m_hd) (m_ft) (m_fa) (m_le) (m_fo) (m_as) (m_fd) (m_bc) (m_bg) (m_bs) (m_be) (m_b0) (m_b1) (m_cm) (m_hc)))) (hi_mo0 : 0 ≤ m_tp.toInt ∧ m_tp.toInt ≤ 4000) (hi_mo1 : 0 ≤ m_sz.toInt ∧ m_sz.toInt ≤ 4000) (hi_mo2 : 0 ≤ m_le.toInt ∧ m_le.toInt ≤ 276) (hi_mo3 : 0 ≤ m_fo.toInt ∧ m_fo.toInt ≤ 4) (hi_mo4 : 0 ≤ m_as.toInt ∧ m_as.toInt ≤ 4000) (hi_mo5 : 0 ≤ m_fd.toInt ∧ m_fd.toInt ≤ 900) (hi_mo6 : 0 ≤ m_cm.toInt ∧ m_cm.toInt ≤ 2) (hi_mo7 : 0 ≤ m_hc.toInt ∧ m_hc.toInt ≤ 1) (hH : hm_VQ cs V q 0 0) : hp_M l yX13_answer cX13_answer 6 (some .int) ({ frames := 8, cells := 0, slots := 0, locals := 202 }) D cs B V n [.ref (mo), .int (k), .int (v), .int (te), .int (pe)] (hp_QI D cs B (fun r V' n' => n = n' ∧ hq_P cs G (fun g => g.1 == 1 || g.1 == 43 || g.1 == 44 || g.1 == 45 || g.1 == 46 || g.1 == 48 || g.1 == 49) V V' ∧ (∃ (m_tp1 : Int32) (m_as1 : Int32) (m_fo1 : Int32) (m_cm1 : Int32) (m_hc1 : Int32) (m_le1 : Int32) (m_bc1 : Int32) (m_bg1 : Int32) (m_bs1 : Int32) (m_be1 : Int32) (m_b01 : Int32) (m_b11 : Int32), V' mo = some (.inr (13, hm_o q (m_tp1) (m_sz) (m_fr) (m_bh) (m_hd) (m_ft) (m_fa) (m_le1) (m_fo1) (m_as1) (m_fd) (m_bc1) (m_bg1) (m_bs1) (m_be1) (m_b01) (m_b11) (m_cm1) (m_hc1))) ∧ (0 ≤ m_tp1.toInt ∧ m_tp1.toInt ≤ 4000) ∧ (0 ≤ m_le1.toInt ∧ m_le1.toInt ≤ 276) ∧ (0 ≤ m_fo1.toInt ∧ m_fo1.toInt ≤ 4) ∧ (0 ≤ m_as1.toInt ∧ m_as1.toInt ≤ 4000) ∧ (0 ≤ m_cm1.toInt ∧ m_cm1.toInt ≤ 2) ∧ (0 ≤ m_hc1.toInt ∧ m_hc1.toInt ≤ 1) ∧ (m_tp1.toInt = 0)) ∧ True)) 0 0 := by
  refine hp_walk (R0 := RX13) (by decide) rfl ?_ (Nat.le_of_ble_eq_true rfl)
  intro p e s m below meth c ls hx hb hr hts hown hlocks hin hml hZ hl
  have hP : hq_P cs G (fun g => g.1 == 1 || g.1 == 43 || g.1 == 44 || g.1 == 45 || g.1 == 46 || g.1 == 48 || g.1 == 49) V V := hq_P.rf hI
  have hl : lv_has ls 6 [(0, .ref (mo)), (1, .int (k)), (2, .int (v)), (3, .int (te)), (4, .int (pe))] := hl
  have hb_k := hq_rng k
  have hb_v := hq_rng v
  have hb_te := hq_rng te
  have hb_pe := hq_rng pe
  have hb_m_tp := hq_rng m_tp
  have hb_m_sz := hq_rng m_sz
  have hb_m_fr := hq_rng m_fr
  have hb_m_bh := hq_rng m_bh
  have hb_m_hd := hq_rng m_hd
  have hb_m_ft := hq_rng m_ft
  have hb_m_fa := hq_rng m_fa
  have hb_m_le := hq_rng m_le
  have hb_m_fo := hq_rng m_fo
  have hb_m_as := hq_rng m_as
  have hb_m_fd := hq_rng m_fd
  have hb_m_bc := hq_rng m_bc
  have hb_m_bg := hq_rng m_bg
  have hb_m_bs := hq_rng m_bs
  have hb_m_be := hq_rng m_be
  have hb_m_b0 := hq_rng m_b0
  have hb_m_b1 := hq_rng m_b1
  have hb_m_cm := hq_rng m_cm
  have hb_m_hc := hq_rng m_hc
  refine lv_aload_n hx hb dX13_answer_0 rfl (lv_at hl 0 rfl) ?_
  refine hp_callv (hp_runV (As := []) (rest := []) hx hb hml hown hts (t_X13_ask l D cs B G  V n hP.1 q hR (mo) h_mo ho_mo  (by omega) (by omega) (by omega) (by omega) (by omega) (by omega) (by omega) (by omega) ) hZ ho_mo cv_X13_392 rfl rfl ⟨Nat.le_of_ble_eq_true rfl, Nat.le_of_ble_eq_true rfl⟩ rfl hl.1 rfl (Nat.le_of_ble_eq_true rfl) dX13_answer_1 ⟨(Nat.le_of_ble_eq_true rfl), (Nat.le_of_ble_eq_true rfl)⟩) hZ (fun V1 n2 _ _ hw3 hZ => ?_)
  obtain ⟨rfl, hq5, ⟨z7, z8, ho9, hi10, hi11, hi12⟩⟩ := hw3
  have hP := hP.trans hq5 (by intro g h; simp_all)
  have b13 := hq_rng z7
  have b14 := hq_rng z8
  refine lv_iload_n hx hb dX13_answer_4 rfl (lv_at hl 1 rfl) ?_
  refine hp_calli (hp_runS (As := [.int (k)]) (rest := []) hx hb hml hown hts (t_X13_isLearner l D cs B G  V1 n hP.1  (k) ) hZ cv_X13_456 rfl rfl ⟨Nat.le_of_ble_eq_true rfl, Nat.le_of_ble_eq_true rfl⟩ rfl hl.1 rfl (Nat.le_of_ble_eq_true rfl) dX13_answer_5 ⟨(Nat.le_of_ble_eq_true rfl), (Nat.le_of_ble_eq_true rfl)⟩) hZ (fun r18 V15 n16 _ _ hw17 hZ => ?_)
  obtain ⟨rfl, hq19, hr20⟩ := hw17
  have hP := hP.trans hq19 (fun _ _ => rfl)
  have b21 := hq_rng r18
  refine lv_if_eq (tgt := 22) hx hb dX13_answer_8 (by decide) (fun c22 => ?_) (fun c22 => ?_)
  · have c22 : (r18).toInt = (0 : Int) := hq_eqi.mp c22
    refine lv_bipush (v := -2) hx hb dX13_answer_22 (by decide) ?_
    have fx23 : V15 (mo) = some (.inr (13, hm_o q (z7) (m_sz) (m_fr) (m_bh) (m_hd) (m_ft) (m_fa) (m_le) (m_fo) (z8) (m_fd) (m_bc) (m_bg) (m_bs) (m_be) (m_b0) (m_b1) (m_cm) (m_hc))) := (hq19.2 (mo) _ h_mo rfl).trans (ho9)
    exact hp_iret hx hb hr hlocks hZ ⟨rfl, hP, ⟨z7, z8, m_fo, m_cm, m_hc, m_le, m_bc, m_bg, m_bs, m_be, m_b0, m_b1, fx23, by omega, by omega, by omega, by omega, by omega, by omega, by omega⟩, trivial⟩ dX13_answer_24
  · have c22 : ¬ (r18).toInt = (0 : Int) := fun h9 => c22 (hq_eqi.mpr h9)
    refine lv_aload_n hx hb dX13_answer_11 rfl (lv_at hl 0 rfl) ?_
    refine lv_iload_n hx hb dX13_answer_12 rfl (lv_at hl 2 rfl) ?_
    refine lv_iload_n hx hb dX13_answer_13 rfl (lv_at hl 3 rfl) ?_
    refine lv_iload hx hb dX13_answer_14 (lv_at hl 4 rfl) ?_
    have fx30 : V15 (mo) = some (.inr (13, hm_o q (z7) (m_sz) (m_fr) (m_bh) (m_hd) (m_ft) (m_fa) (m_le) (m_fo) (z8) (m_fd) (m_bc) (m_bg) (m_bs) (m_be) (m_b0) (m_b1) (m_cm) (m_hc))) := (hq19.2 (mo) _ h_mo rfl).trans (ho9)
    refine hp_calli (hp_runV (As := [.int (v), .int (te), .int (pe)]) (rest := []) hx hb hml hown hts (t_X13_isPlace l D cs B G  V15 n hP.1 q hR (mo) h_mo (v) (te) (pe) fx30  (by omega) (by omega) (by omega) (by omega) (by omega) (by omega) (by omega) (by omega) ) hZ fx30 cv_X13_380 rfl rfl ⟨Nat.le_of_ble_eq_true rfl, Nat.le_of_ble_eq_true rfl⟩ rfl hl.1 rfl (Nat.le_of_ble_eq_true rfl) dX13_answer_16 ⟨(Nat.le_of_ble_eq_true rfl), (Nat.le_of_ble_eq_true rfl)⟩) hZ (fun r27 V24 n25 _ _ hw26 hZ => ?_)
    obtain ⟨rfl, hq28, ho31, hr29⟩ := hw26
    have hP := hP.trans hq28 (fun _ _ => rfl)
    have b32 := hq_rng r27
    refine lv_if_ne (tgt := 25) hx hb dX13_answer_19 (by decide) (fun c33 => ?_) (fun c33 => ?_)
    · have c33 : ¬ (r27).toInt = (0 : Int) := fun h9 => c33 (hq_eqi.mpr h9)
      refine lv_aload_n hx hb dX13_answer_25 rfl (lv_at hl 0 rfl) ?_
      refine lv_iload_n hx hb dX13_answer_26 rfl (lv_at hl 1 rfl) ?_
      refine lv_iload_n hx hb dX13_answer_27 rfl (lv_at hl 2 rfl) ?_
      refine lv_iload_n hx hb dX13_answer_28 rfl (lv_at hl 3 rfl) ?_
      refine lv_iload hx hb dX13_answer_29 (lv_at hl 4 rfl) ?_
      refine hp_calli (hp_runS (As := [.int (v), .int (te), .int (pe)]) (rest := [.int (k), .ref (mo)]) hx hb hml hown hts (t_X13_placeOf l D cs B G  V24 n hP.1  (v) (te) (pe) ) hZ cv_X13_459 rfl rfl ⟨Nat.le_of_ble_eq_true rfl, Nat.le_of_ble_eq_true rfl⟩ rfl hl.1 rfl (Nat.le_of_ble_eq_true rfl) dX13_answer_31 ⟨(Nat.le_of_ble_eq_true rfl), (Nat.le_of_ble_eq_true rfl)⟩) hZ (fun r37 V34 n35 _ _ hw36 hZ => ?_)
      obtain ⟨rfl, hq38, hr39⟩ := hw36
      have hP := hP.trans hq38 (fun _ _ => rfl)
      have b40 := hq_rng r37
      have fx47 : V34 (mo) = some (.inr (13, hm_o q (z7) (m_sz) (m_fr) (m_bh) (m_hd) (m_ft) (m_fa) (m_le) (m_fo) (z8) (m_fd) (m_bc) (m_bg) (m_bs) (m_be) (m_b0) (m_b1) (m_cm) (m_hc))) := (hq38.2 (mo) _ h_mo rfl).trans (ho31)
      refine hp_callv (hp_runV (As := [.int (k), .int (r37)]) (rest := []) hx hb hml hown hts (t_X13_remember l D cs B G  V34 n hP.1 q hR (mo) h_mo (k) (r37) fx47  (by omega) (by omega) (by omega) (by omega) (by omega) (by omega) (by omega) (by omega) (by omega) (by omega)) hZ fx47 cv_X13_462 rfl rfl ⟨Nat.le_of_ble_eq_true rfl, Nat.le_of_ble_eq_true rfl⟩ rfl hl.1 rfl (Nat.le_of_ble_eq_true rfl) dX13_answer_34 ⟨(Nat.le_of_ble_eq_true rfl), (Nat.le_of_ble_eq_true rfl)⟩) hZ (fun V41 n42 _ _ hw43 hZ => ?_)
      obtain ⟨rfl, hq45, ho48⟩ := hw43
      have hP := hP.trans hq45 (by intro g h; simp_all)
      refine lv_aload_n hx hb dX13_answer_37 rfl (lv_at hl 0 rfl) ?_
      refine lv_iload_n hx hb dX13_answer_38 rfl (lv_at hl 2 rfl) ?_
      refine lv_iload_n hx hb dX13_answer_39 rfl (lv_at hl 3 rfl) ?_
      refine lv_iload hx hb dX13_answer_40 (lv_at hl 4 rfl) ?_
      obtain ⟨hN62, g61, eV60, hf63⟩ := hq_o21 hP.1 (hr_14 hR)
      obtain ⟨hN67, g66, eV65, hf68⟩ := hq_o21 hP.1 (hr_15 hR)
      obtain ⟨hN72, g71, eV70, hf73⟩ := hq_o21 hP.1 (hr_10 hR)
      obtain ⟨hN77, g76, eV75, hf78⟩ := hq_o21 hP.1 (hr_2 hR)
      refine hp_callv (hp_runV (As := [.int (v), .int (te), .int (pe)]) (rest := []) hx hb hml hown hts (t_X13_all l D cs B G  V41 n hP.1 q hR (mo) h_mo (v) (te) (pe) ho48  (by omega) (by omega) (by omega) (by omega) (by omega) (by omega) (by omega) (by omega) eV60 eV65 eV70 eV75 (by omega) (by omega) (hH.keep hR (fun x t hx hg => hP.2 x t hx (by simp [hg])))) hZ ho48 cv_X13_384 rfl rfl ⟨Nat.le_of_ble_eq_true rfl, Nat.le_of_ble_eq_true rfl⟩ rfl hl.1 rfl (Nat.le_of_ble_eq_true rfl) dX13_answer_42 ⟨(Nat.le_of_ble_eq_true rfl), (Nat.le_of_ble_eq_true rfl)⟩) hZ (fun V49 n50 _ _ hw51 hZ => ?_)
      obtain ⟨rfl, hq53, ⟨z55, z56, ho57, hi58, hi59⟩, ho64, ho69, ho74, ho79⟩ := hw51
      have hP := hP.trans hq53 (by intro g h; simp_all)
      have b80 := hq_rng z56
      have b81 := hq_rng z55
      refine lv_aload_n hx hb dX13_answer_45 rfl (lv_at hl 0 rfl) ?_
      refine hp_calli (hp_runV (As := []) (rest := []) hx hb hml hown hts (t_X13_formAsked l D cs B G  V49 n hP.1 q hR (mo) h_mo ho57  (by omega) (by omega) (by omega) (by omega) (by omega) (by omega) (by omega) (by omega) ) hZ ho57 cv_X13_398 rfl rfl ⟨Nat.le_of_ble_eq_true rfl, Nat.le_of_ble_eq_true rfl⟩ rfl hl.1 rfl (Nat.le_of_ble_eq_true rfl) dX13_answer_46 ⟨(Nat.le_of_ble_eq_true rfl), (Nat.le_of_ble_eq_true rfl)⟩) hZ (fun r85 V82 n83 _ _ hw84 hZ => ?_)
      obtain ⟨rfl, hq86, ho88, hr87⟩ := hw84
      have hP := hP.trans hq86 (fun _ _ => rfl)
      have b89 := hq_rng r85
      refine lv_istore (lv' := [(5, .int (r85)), (0, .ref (mo)), (1, .int (k)), (2, .int (v)), (3, .int (te)), (4, .int (pe))]) hx hb dX13_answer_49 hl (by decide) rfl (fun ls hl => ?_)
      refine lv_iload hx hb dX13_answer_51 (lv_at hl 0 rfl) ?_
      refine lv_iconst (v := -1) hx hb dX13_answer_53 (by decide) ?_
      refine lv_icmp_eq (tgt := 66) hx hb dX13_answer_54 (by decide) (fun c90 => ?_) (fun c90 => ?_)
      · have c90 : (r85).toInt = (-1 : Int) := hq_eqi.mp c90
        refine lv_aload_n hx hb dX13_answer_66 rfl (lv_at hl 1 rfl) ?_
        refine hp_get (v := .int (z55)) hx hb hts hown hZ ho88 fl_X13_344 rfl dX13_answer_67 ?_
        refine lv_if_eq (tgt := 86) hx hb dX13_answer_70 (by decide) (fun c91 => ?_) (fun c91 => ?_)
        · have c91 : (z55).toInt = (0 : Int) := hq_eqi.mp c91
          refine lv_bipush (v := -5) hx hb dX13_answer_86 (by decide) ?_
          exact hp_iret hx hb hr hlocks hZ ⟨rfl, hP, ⟨z7, z8, z55, m_cm, m_hc, z56, m_bc, m_bg, m_bs, m_be, m_b0, m_b1, ho88, by omega, by omega, by omega, by omega, by omega, by omega, by omega⟩, trivial⟩ dX13_answer_88
        · have c91 : ¬ (z55).toInt = (0 : Int) := fun h9 => c91 (hq_eqi.mpr h9)
          refine lv_aload_n hx hb dX13_answer_73 rfl (lv_at hl 1 rfl) ?_
          refine lv_iconst (v := 3) hx hb dX13_answer_74 (by decide) ?_
          refine lv_iload_n hx hb dX13_answer_75 rfl (lv_at hl 3 rfl) ?_
          refine lv_iload_n hx hb dX13_answer_76 rfl (lv_at hl 4 rfl) ?_
          refine lv_iload hx hb dX13_answer_77 (lv_at hl 5 rfl) ?_
          have hl99 : (3 : Int32).toInt = 3 := by decide
          refine hp_calli (hp_runV (As := [.int (3), .int (v), .int (te), .int (pe)]) (rest := []) hx hb hml hown hts (t_X13_firstOf l D cs B G  V82 n hP.1 q hR (mo) h_mo (3) (v) (te) (pe) ho88  (by omega) (by omega) (by omega) (by omega) (by omega) (by omega) (by omega) (by omega) (by omega) (by omega)) hZ ho88 cv_X13_347 rfl rfl ⟨Nat.le_of_ble_eq_true rfl, Nat.le_of_ble_eq_true rfl⟩ rfl hl.1 rfl (Nat.le_of_ble_eq_true rfl) dX13_answer_79 ⟨(Nat.le_of_ble_eq_true rfl), (Nat.le_of_ble_eq_true rfl)⟩) hZ (fun r95 V92 n93 _ _ hw94 hZ => ?_)
          obtain ⟨rfl, hq96, ho98, hr97⟩ := hw94
          have hP := hP.trans hq96 (fun _ _ => rfl)
          have b100 := hq_rng r95
          refine lv_iconst (v := -1) hx hb dX13_answer_82 (by decide) ?_
          refine lv_icmp_eq (tgt := 89) hx hb dX13_answer_83 (by decide) (fun c101 => ?_) (fun c101 => ?_)
          · have c101 : (r95).toInt = (-1 : Int) := hq_eqi.mp c101
            refine lv_aload_n hx hb dX13_answer_89 rfl (lv_at hl 1 rfl) ?_
            refine lv_iload_n hx hb dX13_answer_90 rfl (lv_at hl 3 rfl) ?_
            refine lv_iload_n hx hb dX13_answer_91 rfl (lv_at hl 4 rfl) ?_
            refine lv_iload hx hb dX13_answer_92 (lv_at hl 5 rfl) ?_
            have fx118 : V92 (q + 10) = some (.inl (cs 1, 120, .inl (g71))) := (hq96.2 (q + 10) _ (hr_10 hR) rfl).trans ((hq86.2 (q + 10) _ (hr_10 hR) rfl).trans (ho74))
            obtain ⟨hN122, g121, eV120, hf123⟩ := hq_o21 hP.1 (hr_11 hR)
            obtain ⟨hN127, g126, eV125, hf128⟩ := hq_o21 hP.1 (hr_12 hR)
            obtain ⟨hN132, g131, eV130, hf133⟩ := hq_o21 hP.1 (hr_13 hR)
            obtain ⟨hN137, g136, eV135, hf138⟩ := hq_o21 hP.1 (hr_9 hR)
            have fx140 : V92 (q + 2) = some (.inl (cs 1, 2, .inl (g76))) := (hq96.2 (q + 2) _ (hr_2 hR) rfl).trans ((hq86.2 (q + 2) _ (hr_2 hR) rfl).trans (ho79))
            refine hp_callv (hp_runV (As := [.int (v), .int (te), .int (pe)]) (rest := []) hx hb hml hown hts (t_X13_explain l D cs B G  V92 n hP.1 q hR (mo) h_mo (v) (te) (pe) ho98  (by omega) (by omega) (by omega) (by omega) (by omega) (by omega) (by omega) (by omega) fx118 eV120 eV125 eV130 eV135 fx140 (by omega) (by omega) (hH.keep hR (fun x t hx hg => hP.2 x t hx (by simp [hg])))) hZ ho98 cv_X13_468 rfl rfl ⟨Nat.le_of_ble_eq_true rfl, Nat.le_of_ble_eq_true rfl⟩ rfl hl.1 rfl (Nat.le_of_ble_eq_true rfl) dX13_answer_94 ⟨(Nat.le_of_ble_eq_true rfl), (Nat.le_of_ble_eq_true rfl)⟩) hZ (fun V102 n103 _ _ hw104 hZ => ?_)
            obtain ⟨rfl, hq106, ⟨z108, z109, z110, z111, z112, z113, z114, ho115, hi116, hi117⟩, ho119, ho124, ho129, ho134, ho139, ho141⟩ := hw104
            have hP := hP.trans hq106 (by intro g h; simp_all)
            have b142 := hq_rng z108
            have b143 := hq_rng z109
            have b144 := hq_rng z110
            have b145 := hq_rng z111
            have b146 := hq_rng z112
            have b147 := hq_rng z113
            have b148 := hq_rng z114
            refine lv_aload_n hx hb dX13_answer_97 rfl (lv_at hl 1 rfl) ?_
            refine hp_get (v := .int (z109)) hx hb hts hown hZ ho115 fl_X13_413 rfl dX13_answer_98 ?_
            refine lv_sipush (v := 1000) hx hb dX13_answer_101 (by decide) ?_
            refine lv_icmp_ne (tgt := 110) hx hb dX13_answer_104 (by decide) (fun c149 => ?_) (fun c149 => ?_)
            · have c149 : ¬ (z109).toInt = (1000 : Int) := fun h9 => c149 (hq_eqi.mpr h9)
              refine lv_aload_n hx hb dX13_answer_110 rfl (lv_at hl 1 rfl) ?_
              refine lv_iload_n hx hb dX13_answer_111 rfl (lv_at hl 3 rfl) ?_
              refine lv_iload_n hx hb dX13_answer_112 rfl (lv_at hl 4 rfl) ?_
              refine lv_iload hx hb dX13_answer_113 (lv_at hl 5 rfl) ?_
              refine hp_callv (hp_runV (As := [.int (v), .int (te), .int (pe)]) (rest := []) hx hb hml hown hts (t_X13_keepChanges l D cs B G  V102 n hP.1 q hR (mo) h_mo (v) (te) (pe) ho115  (by omega) (by omega) (by omega) (by omega) (by omega) (by omega) (by omega) (by omega) ho119 ho124 ho129 ho134 ho139 ho141 (by omega) (by omega) (by assumption) (by omega)) hZ ho115 cv_X13_471 rfl rfl ⟨Nat.le_of_ble_eq_true rfl, Nat.le_of_ble_eq_true rfl⟩ rfl hl.1 rfl (Nat.le_of_ble_eq_true rfl) dX13_answer_115 ⟨(Nat.le_of_ble_eq_true rfl), (Nat.le_of_ble_eq_true rfl)⟩) hZ (fun V150 n151 _ _ hw152 hZ => ?_)
              obtain ⟨rfl, hq154, ⟨z156, z157, ho158, hi159, hi160⟩, ho161, ho162, ho163, ho164, ho165, ho166⟩ := hw152
              have hP := hP.trans hq154 (by intro g h; simp_all)
              have b167 := hq_rng z156
              have b168 := hq_rng z157
              refine lv_aload_n hx hb dX13_answer_118 rfl (lv_at hl 1 rfl) ?_
              refine lv_iload_n hx hb dX13_answer_119 rfl (lv_at hl 2 rfl) ?_
              refine hp_callv (hp_runV (As := [.int (k)]) (rest := []) hx hb hml hown hts (t_X13_blame l D cs B G  V150 n hP.1 q hR (mo) h_mo (k) ho158  (by omega) (by omega) (by omega) (by omega) (by omega) (by omega) (by omega) (by omega) (by omega) (by omega)) hZ ho158 cv_X13_474 rfl rfl ⟨Nat.le_of_ble_eq_true rfl, Nat.le_of_ble_eq_true rfl⟩ rfl hl.1 rfl (Nat.le_of_ble_eq_true rfl) dX13_answer_120 ⟨(Nat.le_of_ble_eq_true rfl), (Nat.le_of_ble_eq_true rfl)⟩) hZ (fun V169 n170 _ _ hw171 hZ => ?_)
              obtain ⟨rfl, hq173, ho175⟩ := hw171
              have hP := hP.trans hq173 (by intro g h; simp_all)
              refine lv_aload_n hx hb dX13_answer_123 rfl (lv_at hl 1 rfl) ?_
              refine hp_get (v := .int (z109)) hx hb hts hown hZ ho175 fl_X13_413 rfl dX13_answer_124 ?_
              exact hp_iret hx hb hr hlocks hZ ⟨rfl, hP, ⟨z7, z8, z55, z156, z157, z108, z109, z110, z111, z112, z113, z114, ho175, by omega, by omega, by omega, by omega, by omega, by omega, by omega⟩, trivial⟩ dX13_answer_127
            · have c149 : (z109).toInt = (1000 : Int) := hq_eqi.mp c149
              refine lv_bipush (v := -5) hx hb dX13_answer_107 (by decide) ?_
              exact hp_iret hx hb hr hlocks hZ ⟨rfl, hP, ⟨z7, z8, z55, m_cm, m_hc, z108, z109, z110, z111, z112, z113, z114, ho115, by omega, by omega, by omega, by omega, by omega, by omega, by omega⟩, trivial⟩ dX13_answer_109
          · have c101 : ¬ (r95).toInt = (-1 : Int) := fun h9 => c101 (hq_eqi.mpr h9)
            refine lv_bipush (v := -5) hx hb dX13_answer_86 (by decide) ?_
            exact hp_iret hx hb hr hlocks hZ ⟨rfl, hP, ⟨z7, z8, z55, m_cm, m_hc, z56, m_bc, m_bg, m_bs, m_be, m_b0, m_b1, ho98, by omega, by omega, by omega, by omega, by omega, by omega, by omega⟩, trivial⟩ dX13_answer_88
      · have c90 : ¬ (r85).toInt = (-1 : Int) := fun h9 => c90 (hq_eqi.mpr h9)
        refine lv_aload_n hx hb dX13_answer_57 rfl (lv_at hl 1 rfl) ?_
        refine lv_iload_n hx hb dX13_answer_58 rfl (lv_at hl 2 rfl) ?_
        refine lv_iload hx hb dX13_answer_59 (lv_at hl 0 rfl) ?_
        refine hp_callv (hp_runV (As := [.int (k), .int (r85)]) (rest := []) hx hb hml hown hts (t_X13_praise l D cs B G  V82 n hP.1 q hR (mo) h_mo (k) (r85) ho88  (by omega) (by omega) (by omega) (by omega) (by omega) (by omega) (by omega) (by omega) (by omega) (by omega) (by omega) (by omega)) hZ ho88 cv_X13_465 rfl rfl ⟨Nat.le_of_ble_eq_true rfl, Nat.le_of_ble_eq_true rfl⟩ rfl hl.1 rfl (Nat.le_of_ble_eq_true rfl) dX13_answer_61 ⟨(Nat.le_of_ble_eq_true rfl), (Nat.le_of_ble_eq_true rfl)⟩) hZ (fun V176 n177 _ _ hw178 hZ => ?_)
        obtain ⟨rfl, hq180, ho182⟩ := hw178
        have hP := hP.trans hq180 (by intro g h; simp_all)
        refine lv_iconst (v := 0) hx hb dX13_answer_64 (by decide) ?_
        exact hp_iret hx hb hr hlocks hZ ⟨rfl, hP, ⟨z7, z8, z55, m_cm, m_hc, z56, m_bc, m_bg, m_bs, m_be, m_b0, m_b1, ho182, by omega, by omega, by omega, by omega, by omega, by omega, by omega⟩, trivial⟩ dX13_answer_65
    · have c33 : (r27).toInt = (0 : Int) := hq_eqi.mp c33
      refine lv_bipush (v := -2) hx hb dX13_answer_22 (by decide) ?_
      exact hp_iret hx hb hr hlocks hZ ⟨rfl, hP, ⟨z7, z8, m_fo, m_cm, m_hc, m_le, m_bc, m_bg, m_bs, m_be, m_b0, m_b1, ho31, by omega, by omega, by omega, by omega, by omega, by omega, by omega⟩, trivial⟩ dX13_answer_24

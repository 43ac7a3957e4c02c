set_option maxHeartbeats 4000000 in
set_option maxRecDepth 100000 in
theorem t_X13_keep (l : Launch) (D : va_G) (cs : Nat → ClassId) (B : Nat) (G : hq_G) (V : hp_V) (n : Nat) (hI : hq_I cs G V) (q : Nat) (hR : hq_RT G q) (mo : Nat) (h_mo : G mo = some (24, 0, 0, 0)) (to : Nat) (h_to : G to = some (20, 122, 45, 0)) (szs : Nat) (h_szs : G szs = some (21, 2, 9, 45)) (rws : Nat) (h_rws : G rws = some (21, 280, 4, 45)) (rsz : Nat) (h_rsz : G rsz = some (21, 2, 10, 45)) {m_tp m_sz m_fr m_bh m_hd m_ft m_fa m_le m_fo m_as m_fd m_bc m_bg m_bs m_be m_b0 m_b1 m_cm m_hc : Int32} (ho_mo : V mo = some (.inr (13, hm_o q (m_tp) (m_sz) (m_fr) (m_bh) (m_hd) (m_ft) (m_fa) (m_le) (m_fo) (m_as) (m_fd) (m_bc) (m_bg) (m_bs) (m_be) (m_b0) (m_b1) (m_cm) (m_hc)))) (hi_mo0 : 0 ≤ m_tp.toInt ∧ m_tp.toInt ≤ 4000) (hi_mo1 : 0 ≤ m_sz.toInt ∧ m_sz.toInt ≤ 4000) (hi_mo2 : 0 ≤ m_le.toInt ∧ m_le.toInt ≤ 276) (hi_mo3 : 0 ≤ m_fo.toInt ∧ m_fo.toInt ≤ 4) (hi_mo4 : 0 ≤ m_as.toInt ∧ m_as.toInt ≤ 4000) (hi_mo5 : 0 ≤ m_fd.toInt ∧ m_fd.toInt ≤ 900) (hi_mo6 : 0 ≤ m_cm.toInt ∧ m_cm.toInt ≤ 2) (hi_mo7 : 0 ≤ m_hc.toInt ∧ m_hc.toInt ≤ 1) {ff : Nat → Int32} (ho_ff : V (q + 28) = some (.inl (cs 1, 4, .inl (ff)))) {fr : Nat → Int32} (ho_fr : V (q + 30) = some (.inl (cs 1, 4, .inl (fr)))) (hS : hm_S2 V q m_fo) : hp_M l yX13_keep cX13_keep 7 (some .int) ({ frames := 1, cells := 0, slots := 0, locals := 21 }) D cs B V n [.ref (mo), .ref (to), .ref (szs), .ref (rws), .ref (rsz)] (hp_QI D cs B (fun r V' n' => n = n' ∧ hq_P cs G (fun g => g.1 == 45) V V' ∧ (V' mo = some (.inr (13, hm_o q (m_tp) (m_sz) (m_fr) (m_bh) (m_hd) (m_ft) (m_fa) (m_le) (m_fo) (m_as) (m_fd) (m_bc) (m_bg) (m_bs) (m_be) (m_b0) (m_b1) (m_cm) (m_hc)))) ∧ (V' (q + 28) = some (.inl (cs 1, 4, .inl (ff)))) ∧ (V' (q + 30) = some (.inl (cs 1, 4, .inl (fr)))) ∧ (r.toInt = m_fo.toInt))) 0 0 := by
  refine hp_walk (R0 := RX13) (by decide) rfl ?_ (Nat.le_of_ble_eq_true rfl)
  intro p e s m below meth c ls hx hb hr hts hown hlocks hin hml hZ hl
  have hP : hq_P cs G (fun g => g.1 == 45) V V := hq_P.rf hI
  have hl : lv_has ls 7 [(0, .ref (mo)), (1, .ref (to)), (2, .ref (szs)), (3, .ref (rws)), (4, .ref (rsz))] := hl
  have hb_m_tp := hq_rng m_tp
  have hb_m_sz := hq_rng m_sz
  have hb_m_fr := hq_rng m_fr
  have hb_m_bh := hq_rng m_bh
  have hb_m_hd := hq_rng m_hd
  have hb_m_ft := hq_rng m_ft
  have hb_m_fa := hq_rng m_fa
  have hb_m_le := hq_rng m_le
  have hb_m_fo := hq_rng m_fo
  have hb_m_as := hq_rng m_as
  have hb_m_fd := hq_rng m_fd
  have hb_m_bc := hq_rng m_bc
  have hb_m_bg := hq_rng m_bg
  have hb_m_bs := hq_rng m_bs
  have hb_m_be := hq_rng m_be
  have hb_m_b0 := hq_rng m_b0
  have hb_m_b1 := hq_rng m_b1
  have hb_m_cm := hq_rng m_cm
  have hb_m_hc := hq_rng m_hc
  have hf_ff := hq_rg hI (hr_28 hR) ho_ff
  have hf_fr := hq_rg hI (hr_30 hR) ho_fr
  have hS2 := hS.two
  refine lv_iconst (v := 0) hx hb dX13_keep_0 (by decide) ?_
  refine lv_istore (lv' := [(5, .int (0)), (0, .ref (mo)), (1, .ref (to)), (2, .ref (szs)), (3, .ref (rws)), (4, .ref (rsz))]) hx hb dX13_keep_1 hl (by decide) rfl (fun ls hl => ?_)
  have hl1 : (0 : Int32).toInt = 0 := by decide
  suffices lp3 : ∀ (k9 : Nat) (V9 : hp_V) (H9 : Heap) (locs9 : List Loc) (ls : Array Slot) (k : Int32), (100 - k.toInt).toNat = k9 → hp_Z D cs B s V9 H9 n locs9 → hq_P cs G (fun g => g.1 == 45) V V9 → 0 ≤ k.toInt → k.toInt ≤ 2 → lv_has ls 7 [(5, .int (k)), (0, .ref (mo)), (1, .ref (to)), (2, .ref (szs)), (3, .ref (rws)), (4, .ref (rsz))] → W p l e ({ frames := 1, cells := 0, slots := 0, locals := 21 }) s m ([.ref (mo), .ref (to), .ref (szs), .ref (rws), .ref (rsz)] : List Value).toArray below meth c H9 locs9 0 0 (MQ below (hp_QI D cs B (fun r V' n' => n = n' ∧ hq_P cs G (fun g => g.1 == 45) V V' ∧ (V' mo = some (.inr (13, hm_o q (m_tp) (m_sz) (m_fr) (m_bh) (m_hd) (m_ft) (m_fa) (m_le) (m_fo) (m_as) (m_fd) (m_bc) (m_bg) (m_bs) (m_be) (m_b0) (m_b1) (m_cm) (m_hc)))) ∧ (V' (q + 28) = some (.inl (cs 1, 4, .inl (ff)))) ∧ (V' (q + 30) = some (.inl (cs 1, 4, .inl (fr)))) ∧ (r.toInt = m_fo.toInt))) ([.ref (mo), .ref (to), .ref (szs), .ref (rws), .ref (rsz)] : List Value).toArray s 0 0 (hp_F B)) (F0 m 3 ls []) from lp3 _ _ _ _ ls (0) rfl hZ hP (by omega) (by omega) (lv_sub hl [0, 1, 2, 3, 4, 5] rfl)
  intro k9
  induction k9 using Nat.strongRecOn with
  | _ k9 ih3 =>
    intro V9 H9 locs9 ls k  hk3 hZ hP  hv2 hv3 hl
    have hb_k := hq_rng k
    have hP_3 := hP
    refine lv_iload hx hb dX13_keep_3 (lv_at hl 0 rfl) ?_
    refine lv_aload_n hx hb dX13_keep_5 rfl (lv_at hl 1 rfl) ?_
    have fx4 : V9 (mo) = some (.inr (13, hm_o q (m_tp) (m_sz) (m_fr) (m_bh) (m_hd) (m_ft) (m_fa) (m_le) (m_fo) (m_as) (m_fd) (m_bc) (m_bg) (m_bs) (m_be) (m_b0) (m_b1) (m_cm) (m_hc))) := (hP_3.2 (mo) _ h_mo rfl).trans (ho_mo)
    refine hp_get (v := .int (m_fo)) hx hb hts hown hZ fx4 fl_X13_344 rfl dX13_keep_6 ?_
    refine lv_icmp_ge (tgt := 131) hx hb dX13_keep_9 (by decide) (fun c5 => ?_) (fun c5 => ?_)
    · have c5 : (m_fo).toInt ≤ (k).toInt := hq_lei.mp c5
      refine lv_aload_n hx hb dX13_keep_131 rfl (lv_at hl 1 rfl) ?_
      refine hp_get (v := .int (m_fo)) hx hb hts hown hZ fx4 fl_X13_344 rfl dX13_keep_132 ?_
      have fx6 : V9 (q + 28) = some (.inl (cs 1, 4, .inl (ff))) := (hP_3.2 (q + 28) _ (hr_28 hR) rfl).trans (ho_ff)
      have fx7 : V9 (q + 30) = some (.inl (cs 1, 4, .inl (fr))) := (hP_3.2 (q + 30) _ (hr_30 hR) rfl).trans (ho_fr)
      exact hp_iret hx hb hr hlocks hZ ⟨rfl, hP, fx4, fx6, fx7, rfl⟩ dX13_keep_135
    · have c5 : ¬ (m_fo).toInt ≤ (k).toInt := fun h9 => c5 (hq_lei.mpr h9)
      have hk9 := hm_S2.at hS ho_ff ho_fr k (by omega) (by omega)
      refine lv_aload_n hx hb dX13_keep_12 rfl (lv_at hl 3 rfl) ?_
      refine lv_iload hx hb dX13_keep_13 (lv_at hl 0 rfl) ?_
      refine lv_aload_n hx hb dX13_keep_15 rfl (lv_at hl 1 rfl) ?_
      refine hp_get (v := .ref (q + 28)) hx hb hts hown hZ fx4 fl_X13_235 rfl dX13_keep_16 ?_
      refine lv_iload hx hb dX13_keep_19 (lv_at hl 0 rfl) ?_
      have fx8 : V9 (q + 28) = some (.inl (cs 1, 4, .inl (ff))) := (hP_3.2 (q + 28) _ (hr_28 hR) rfl).trans (ho_ff)
      refine hp_iald hx hb hZ fx8 (hq_in (by omega) (by omega)) dX13_keep_21 ?_
      refine lv_topi (fun y9 ey10 => ?_)
      have b12 : (y9).toInt = ((ff) (k : Int32).toNatClampNeg).toInt := by rw [ey10]
      have b11 : hq_ir (hq_lo 6) (hq_hi 6) y9 := by rw [ey10]; exact hf_ff _ (hq_ix (by omega) (by omega))
      have b11 : 0 ≤ (y9).toInt ∧ (y9).toInt ≤ 61 := b11
      obtain ⟨hN15, g14, eV13, hf16⟩ := hq_o21 hP.1 h_szs
      refine hp_iast hx hb hZ eV13 (hq_in (by omega) (by omega)) dX13_keep_22 (fun V17 _ _ e18 o19 hZ => ?_)
      have e18 : V17 (szs) = some (.inl (cs 1, 2, .inl (upd (g14) ((k : Int32).toNatClampNeg) (y9)))) := e18
      have hP := hP.put h_szs e18 o19 (hq_c21 (by omega) (hq_upd hf16 (show 0 ≤ _ ∧ _ ≤ 30 by constructor <;> omega))) rfl
      refine lv_aload hx hb dX13_keep_23 (lv_at hl 5 rfl) ?_
      refine lv_iload hx hb dX13_keep_25 (lv_at hl 0 rfl) ?_
      refine lv_aload_n hx hb dX13_keep_27 rfl (lv_at hl 1 rfl) ?_
      have fx20 : V17 (mo) = some (.inr (13, hm_o q (m_tp) (m_sz) (m_fr) (m_bh) (m_hd) (m_ft) (m_fa) (m_le) (m_fo) (m_as) (m_fd) (m_bc) (m_bg) (m_bs) (m_be) (m_b0) (m_b1) (m_cm) (m_hc))) := (o19 (mo) (hq_tne h_mo h_szs (by simp))).trans (fx4)
      refine hp_get (v := .ref (q + 30)) hx hb hts hown hZ fx20 fl_X13_241 rfl dX13_keep_28 ?_
      refine lv_iload hx hb dX13_keep_31 (lv_at hl 0 rfl) ?_
      have fx21 : V17 (q + 30) = some (.inl (cs 1, 4, .inl (fr))) := (o19 (q + 30) (hq_tne (hr_30 hR) h_szs (by simp))).trans ((hP_3.2 (q + 30) _ (hr_30 hR) rfl).trans (ho_fr))
      refine hp_iald hx hb hZ fx21 (hq_in (by omega) (by omega)) dX13_keep_33 ?_
      refine lv_topi (fun y22 ey23 => ?_)
      have b25 : (y22).toInt = ((fr) (k : Int32).toNatClampNeg).toInt := by rw [ey23]
      have b24 : hq_ir (hq_lo 7) (hq_hi 7) y22 := by rw [ey23]; exact hf_fr _ (hq_ix (by omega) (by omega))
      have b24 : 0 ≤ (y22).toInt ∧ (y22).toInt ≤ 140 := b24
      obtain ⟨hN28, g27, eV26, hf29⟩ := hq_o21 hP.1 h_rsz
      refine hp_iast hx hb hZ eV26 (hq_in (by omega) (by omega)) dX13_keep_34 (fun V30 _ _ e31 o32 hZ => ?_)
      have e31 : V30 (rsz) = some (.inl (cs 1, 2, .inl (upd (g27) ((k : Int32).toNatClampNeg) (y22)))) := e31
      have hP := hP.put h_rsz e31 o32 (hq_c21 (by omega) (hq_upd hf29 (show 0 ≤ _ ∧ _ ≤ 62 by constructor <;> omega))) rfl
      refine lv_iconst (v := 0) hx hb dX13_keep_35 (by decide) ?_
      refine lv_istore (lv' := [(6, .int (0)), (5, .int (k)), (0, .ref (mo)), (1, .ref (to)), (2, .ref (szs)), (3, .ref (rws)), (4, .ref (rsz))]) hx hb dX13_keep_36 hl (by decide) rfl (fun ls hl => ?_)
      have hl33 : (0 : Int32).toInt = 0 := by decide
      suffices lp38 : ∀ (k9 : Nat) (V9 : hp_V) (H9 : Heap) (locs9 : List Loc) (ls : Array Slot) (i : Int32), (100 - i.toInt).toNat = k9 → hp_Z D cs B s V9 H9 n locs9 → hq_P cs G (fun g => g.1 == 45) V V9 → 0 ≤ i.toInt → i.toInt ≤ 30 → lv_has ls 7 [(6, .int (i)), (5, .int (k)), (0, .ref (mo)), (1, .ref (to)), (2, .ref (szs)), (3, .ref (rws)), (4, .ref (rsz))] → W p l e ({ frames := 1, cells := 0, slots := 0, locals := 21 }) s m ([.ref (mo), .ref (to), .ref (szs), .ref (rws), .ref (rsz)] : List Value).toArray below meth c H9 locs9 0 0 (MQ below (hp_QI D cs B (fun r V' n' => n = n' ∧ hq_P cs G (fun g => g.1 == 45) V V' ∧ (V' mo = some (.inr (13, hm_o q (m_tp) (m_sz) (m_fr) (m_bh) (m_hd) (m_ft) (m_fa) (m_le) (m_fo) (m_as) (m_fd) (m_bc) (m_bg) (m_bs) (m_be) (m_b0) (m_b1) (m_cm) (m_hc)))) ∧ (V' (q + 28) = some (.inl (cs 1, 4, .inl (ff)))) ∧ (V' (q + 30) = some (.inl (cs 1, 4, .inl (fr)))) ∧ (r.toInt = m_fo.toInt))) ([.ref (mo), .ref (to), .ref (szs), .ref (rws), .ref (rsz)] : List Value).toArray s 0 0 (hp_F B)) (F0 m 38 ls []) from lp38 _ _ _ _ ls (0) rfl hZ hP (by omega) (by omega) (lv_sub hl [0, 1, 2, 3, 4, 5, 6] rfl)
      intro k9
      induction k9 using Nat.strongRecOn with
      | _ k9 ih38 =>
        intro V9 H9 locs9 ls i  hk38 hZ hP  hv34 hv35 hl
        have hb_i := hq_rng i
        have hP_38 := hP
        refine lv_iload hx hb dX13_keep_38 (lv_at hl 0 rfl) ?_
        refine lv_aload_n hx hb dX13_keep_40 rfl (lv_at hl 2 rfl) ?_
        have fx36 : V9 (mo) = some (.inr (13, hm_o q (m_tp) (m_sz) (m_fr) (m_bh) (m_hd) (m_ft) (m_fa) (m_le) (m_fo) (m_as) (m_fd) (m_bc) (m_bg) (m_bs) (m_be) (m_b0) (m_b1) (m_cm) (m_hc))) := (hP_38.2 (mo) _ h_mo rfl).trans (ho_mo)
        refine hp_get (v := .ref (q + 28)) hx hb hts hown hZ fx36 fl_X13_235 rfl dX13_keep_41 ?_
        refine lv_iload hx hb dX13_keep_44 (lv_at hl 1 rfl) ?_
        have fx37 : V9 (q + 28) = some (.inl (cs 1, 4, .inl (ff))) := (hP_38.2 (q + 28) _ (hr_28 hR) rfl).trans (ho_ff)
        refine hp_iald hx hb hZ fx37 (hq_in (by omega) (by omega)) dX13_keep_46 ?_
        refine lv_topi (fun y38 ey39 => ?_)
        have b41 : (y38).toInt = ((ff) (k : Int32).toNatClampNeg).toInt := by rw [ey39]
        have b40 : hq_ir (hq_lo 6) (hq_hi 6) y38 := by rw [ey39]; exact hf_ff _ (hq_ix (by omega) (by omega))
        have b40 : 0 ≤ (y38).toInt ∧ (y38).toInt ≤ 61 := b40
        refine lv_icmp_ge (tgt := 79) hx hb dX13_keep_47 (by decide) (fun c42 => ?_) (fun c42 => ?_)
        · have c42 : (y38).toInt ≤ (i).toInt := hq_lei.mp c42
          refine lv_iconst (v := 0) hx hb dX13_keep_79 (by decide) ?_
          refine lv_istore (lv' := [(6, .int (0)), (5, .int (k)), (0, .ref (mo)), (1, .ref (to)), (2, .ref (szs)), (3, .ref (rws)), (4, .ref (rsz))]) hx hb dX13_keep_80 hl (by decide) rfl (fun ls hl => ?_)
          have hl43 : (0 : Int32).toInt = 0 := by decide
          suffices lp82 : ∀ (k9 : Nat) (V9 : hp_V) (H9 : Heap) (locs9 : List Loc) (ls : Array Slot) (i : Int32), (100 - i.toInt).toNat = k9 → hp_Z D cs B s V9 H9 n locs9 → hq_P cs G (fun g => g.1 == 45) V V9 → 0 ≤ i.toInt → i.toInt ≤ 62 → lv_has ls 7 [(6, .int (i)), (5, .int (k)), (0, .ref (mo)), (1, .ref (to)), (2, .ref (szs)), (3, .ref (rws)), (4, .ref (rsz))] → W p l e ({ frames := 1, cells := 0, slots := 0, locals := 21 }) s m ([.ref (mo), .ref (to), .ref (szs), .ref (rws), .ref (rsz)] : List Value).toArray below meth c H9 locs9 0 0 (MQ below (hp_QI D cs B (fun r V' n' => n = n' ∧ hq_P cs G (fun g => g.1 == 45) V V' ∧ (V' mo = some (.inr (13, hm_o q (m_tp) (m_sz) (m_fr) (m_bh) (m_hd) (m_ft) (m_fa) (m_le) (m_fo) (m_as) (m_fd) (m_bc) (m_bg) (m_bs) (m_be) (m_b0) (m_b1) (m_cm) (m_hc)))) ∧ (V' (q + 28) = some (.inl (cs 1, 4, .inl (ff)))) ∧ (V' (q + 30) = some (.inl (cs 1, 4, .inl (fr)))) ∧ (r.toInt = m_fo.toInt))) ([.ref (mo), .ref (to), .ref (szs), .ref (rws), .ref (rsz)] : List Value).toArray s 0 0 (hp_F B)) (F0 m 82 ls []) from lp82 _ _ _ _ ls (0) rfl hZ hP (by omega) (by omega) (lv_sub hl [0, 1, 2, 3, 4, 5, 6] rfl)
          intro k9
          induction k9 using Nat.strongRecOn with
          | _ k9 ih82 =>
            intro V9 H9 locs9 ls i  hk82 hZ hP  hv44 hv45 hl
            have hb_i := hq_rng i
            have hP_82 := hP
            refine lv_iload hx hb dX13_keep_82 (lv_at hl 0 rfl) ?_
            refine lv_aload_n hx hb dX13_keep_84 rfl (lv_at hl 2 rfl) ?_
            have fx46 : V9 (mo) = some (.inr (13, hm_o q (m_tp) (m_sz) (m_fr) (m_bh) (m_hd) (m_ft) (m_fa) (m_le) (m_fo) (m_as) (m_fd) (m_bc) (m_bg) (m_bs) (m_be) (m_b0) (m_b1) (m_cm) (m_hc))) := (hP_82.2 (mo) _ h_mo rfl).trans (ho_mo)
            refine hp_get (v := .ref (q + 30)) hx hb hts hown hZ fx46 fl_X13_241 rfl dX13_keep_85 ?_
            refine lv_iload hx hb dX13_keep_88 (lv_at hl 1 rfl) ?_
            have fx47 : V9 (q + 30) = some (.inl (cs 1, 4, .inl (fr))) := (hP_82.2 (q + 30) _ (hr_30 hR) rfl).trans (ho_fr)
            refine hp_iald hx hb hZ fx47 (hq_in (by omega) (by omega)) dX13_keep_90 ?_
            refine lv_topi (fun y48 ey49 => ?_)
            have b51 : (y48).toInt = ((fr) (k : Int32).toNatClampNeg).toInt := by rw [ey49]
            have b50 : hq_ir (hq_lo 7) (hq_hi 7) y48 := by rw [ey49]; exact hf_fr _ (hq_ix (by omega) (by omega))
            have b50 : 0 ≤ (y48).toInt ∧ (y48).toInt ≤ 140 := b50
            refine lv_icmp_ge (tgt := 125) hx hb dX13_keep_91 (by decide) (fun c52 => ?_) (fun c52 => ?_)
            · have c52 : (y48).toInt ≤ (i).toInt := hq_lei.mp c52
              obtain ⟨y53, ey54⟩ : ∃ y : Int32, y = k + (1) := ⟨_, rfl⟩
              obtain ⟨k55, hk56, b57, b58⟩ := hq_add (k) (1)
              rw [← ey54] at hk56 b57 b58
              have hk56 : (y53).toInt = (k).toInt + (1) + k55 * 4294967296 := hk56
              refine lv_iinc (v := y53) (lv' := [(5, .int (y53)), (6, .int (i)), (0, .ref (mo)), (1, .ref (to)), (2, .ref (szs)), (3, .ref (rws)), (4, .ref (rsz))]) hx hb dX13_keep_125 hl (k := 1) rfl (by rw [ey54]; rfl) (by decide) rfl (fun ls hl => ?_)
              refine lv_goto (tgt := 3) hx hb dX13_keep_128 (by decide) ?_
              exact ih3 _ (by omega) _ _ _ ls (y53) rfl hZ hP (by omega) (by omega) (lv_sub hl [0, 2, 3, 4, 5, 6] rfl)
            · have c52 : ¬ (y48).toInt ≤ (i).toInt := fun h9 => c52 (hq_lei.mpr h9)
              refine lv_aload_n hx hb dX13_keep_94 rfl (lv_at hl 5 rfl) ?_
              refine lv_sipush (v := 140) hx hb dX13_keep_95 (by decide) ?_
              refine lv_iload hx hb dX13_keep_98 (lv_at hl 1 rfl) ?_
              refine lv_imul hx hb dX13_keep_100 ?_
              refine lv_topi (fun y59 ey60 => ?_)
              obtain ⟨k61, hk62, b63, b64⟩ := hq_mul (140) (k)
              rw [← ey60] at hk62 b63 b64
              have hk62 : (y59).toInt = (140 : Int) * (k).toInt + k61 * 4294967296 := hk62
              obtain rfl : k61 = 0 := by omega
              refine lv_iload hx hb dX13_keep_101 (lv_at hl 0 rfl) ?_
              refine lv_iadd hx hb dX13_keep_103 ?_
              refine lv_topi (fun y65 ey66 => ?_)
              obtain ⟨k67, hk68, b69, b70⟩ := hq_add (y59) (i)
              rw [← ey66] at hk68 b69 b70
              have hk68 : (y65).toInt = (y59).toInt + (i).toInt + k67 * 4294967296 := hk68
              obtain rfl : k67 = 0 := by omega
              refine lv_aload_n hx hb dX13_keep_104 rfl (lv_at hl 2 rfl) ?_
              refine hp_get (v := .ref (q + 29)) hx hb hts hown hZ fx46 fl_X13_238 rfl dX13_keep_105 ?_
              refine lv_sipush (v := 140) hx hb dX13_keep_108 (by decide) ?_
              refine lv_iload hx hb dX13_keep_111 (lv_at hl 1 rfl) ?_
              refine lv_imul hx hb dX13_keep_113 ?_
              refine lv_topi (fun y71 ey72 => ?_)
              obtain ⟨k73, hk74, b75, b76⟩ := hq_mul (140) (k)
              rw [← ey72] at hk74 b75 b76
              have hk74 : (y71).toInt = (140 : Int) * (k).toInt + k73 * 4294967296 := hk74
              obtain rfl : k73 = 0 := by omega
              refine lv_iload hx hb dX13_keep_114 (lv_at hl 0 rfl) ?_
              refine lv_iadd hx hb dX13_keep_116 ?_
              refine lv_topi (fun y77 ey78 => ?_)
              obtain ⟨k79, hk80, b81, b82⟩ := hq_add (y71) (i)
              rw [← ey78] at hk80 b81 b82
              have hk80 : (y77).toInt = (y71).toInt + (i).toInt + k79 * 4294967296 := hk80
              obtain rfl : k79 = 0 := by omega
              obtain ⟨hN85, g84, eV83, hf86⟩ := hq_o21 hP.1 (hr_29 hR)
              refine hp_iald hx hb hZ eV83 (hq_in (by omega) (by omega)) dX13_keep_117 ?_
              refine lv_topi (fun y87 ey88 => ?_)
              have b90 : (y87).toInt = ((g84) (y77 : Int32).toNatClampNeg).toInt := by rw [ey88]
              have b89 : hq_ir (hq_lo 4) (hq_hi 4) y87 := by rw [ey88]; exact hf86 _ (hq_ix (by omega) (by omega))
              have b89 : 0 ≤ (y87).toInt ∧ (y87).toInt ≤ 59 := b89
              obtain ⟨hN93, g92, eV91, hf94⟩ := hq_o21 hP.1 h_rws
              refine hp_iast hx hb hZ eV91 (hq_in (by omega) (by omega)) dX13_keep_118 (fun V95 _ _ e96 o97 hZ => ?_)
              have e96 : V95 (rws) = some (.inl (cs 1, 280, .inl (upd (g92) ((y65 : Int32).toNatClampNeg) (y87)))) := e96
              have hP := hP.put h_rws e96 o97 (hq_c21 (by omega) (hq_upd hf94 (show 0 ≤ _ ∧ _ ≤ 59 by constructor <;> omega))) rfl
              obtain ⟨y98, ey99⟩ : ∃ y : Int32, y = i + (1) := ⟨_, rfl⟩
              obtain ⟨k100, hk101, b102, b103⟩ := hq_add (i) (1)
              rw [← ey99] at hk101 b102 b103
              have hk101 : (y98).toInt = (i).toInt + (1) + k100 * 4294967296 := hk101
              refine lv_iinc (v := y98) (lv' := [(6, .int (y98)), (5, .int (k)), (0, .ref (mo)), (1, .ref (to)), (2, .ref (szs)), (3, .ref (rws)), (4, .ref (rsz))]) hx hb dX13_keep_119 hl (k := 0) rfl (by rw [ey99]; rfl) (by decide) rfl (fun ls hl => ?_)
              refine lv_goto (tgt := 82) hx hb dX13_keep_122 (by decide) ?_
              exact ih82 _ (by omega) _ _ _ ls (y98) rfl hZ hP (by omega) (by omega) (lv_sub hl [0, 1, 2, 3, 4, 5, 6] rfl)
        · have c42 : ¬ (y38).toInt ≤ (i).toInt := fun h9 => c42 (hq_lei.mpr h9)
          refine lv_aload_n hx hb dX13_keep_50 rfl (lv_at hl 3 rfl) ?_
          refine lv_bipush (v := 61) hx hb dX13_keep_51 (by decide) ?_
          refine lv_iload hx hb dX13_keep_53 (lv_at hl 1 rfl) ?_
          refine lv_imul hx hb dX13_keep_55 ?_
          refine lv_topi (fun y104 ey105 => ?_)
          obtain ⟨k106, hk107, b108, b109⟩ := hq_mul (61) (k)
          rw [← ey105] at hk107 b108 b109
          have hk107 : (y104).toInt = (61 : Int) * (k).toInt + k106 * 4294967296 := hk107
          obtain rfl : k106 = 0 := by omega
          refine lv_iload hx hb dX13_keep_56 (lv_at hl 0 rfl) ?_
          refine lv_iadd hx hb dX13_keep_58 ?_
          refine lv_topi (fun y110 ey111 => ?_)
          obtain ⟨k112, hk113, b114, b115⟩ := hq_add (y104) (i)
          rw [← ey111] at hk113 b114 b115
          have hk113 : (y110).toInt = (y104).toInt + (i).toInt + k112 * 4294967296 := hk113
          obtain rfl : k112 = 0 := by omega
          refine lv_aload_n hx hb dX13_keep_59 rfl (lv_at hl 2 rfl) ?_
          refine hp_get (v := .ref (q + 25)) hx hb hts hown hZ fx36 fl_X13_226 rfl dX13_keep_60 ?_
          refine lv_bipush (v := 61) hx hb dX13_keep_63 (by decide) ?_
          refine lv_iload hx hb dX13_keep_65 (lv_at hl 1 rfl) ?_
          refine lv_imul hx hb dX13_keep_67 ?_
          refine lv_topi (fun y116 ey117 => ?_)
          obtain ⟨k118, hk119, b120, b121⟩ := hq_mul (61) (k)
          rw [← ey117] at hk119 b120 b121
          have hk119 : (y116).toInt = (61 : Int) * (k).toInt + k118 * 4294967296 := hk119
          obtain rfl : k118 = 0 := by omega
          refine lv_iload hx hb dX13_keep_68 (lv_at hl 0 rfl) ?_
          refine lv_iadd hx hb dX13_keep_70 ?_
          refine lv_topi (fun y122 ey123 => ?_)
          obtain ⟨k124, hk125, b126, b127⟩ := hq_add (y116) (i)
          rw [← ey123] at hk125 b126 b127
          have hk125 : (y122).toInt = (y116).toInt + (i).toInt + k124 * 4294967296 := hk125
          obtain rfl : k124 = 0 := by omega
          obtain ⟨hN130, g129, eV128⟩ := hq_o20 hP.1 (hr_25 hR)
          refine hp_bald hx hb hZ eV128 (hq_in (by omega) (by omega)) dX13_keep_71 ?_
          refine lv_topi (fun y132 ey133 => ?_)
          have b135 : (y132).toInt = ((g129) (y122 : Int32).toNatClampNeg).toInt := by rw [ey133]
          have b134 := hq_rng y132
          obtain ⟨hN138, g137, eV136⟩ := hq_o20 hP.1 h_to
          refine hp_bast hx hb hZ eV136 (hq_in (by omega) (by omega)) dX13_keep_72 (fun V140 _ _ e141 o142 hZ => ?_)
          have e141 : V140 (to) = some (.inl (cs 0, 122, .inl (upd (g137) ((y110 : Int32).toNatClampNeg) ((y132 : Int32).toInt8.toInt32)))) := e141
          have hP := hP.put h_to e141 o142 (hq_c20 (by omega)) rfl
          obtain ⟨y143, ey144⟩ : ∃ y : Int32, y = i + (1) := ⟨_, rfl⟩
          obtain ⟨k145, hk146, b147, b148⟩ := hq_add (i) (1)
          rw [← ey144] at hk146 b147 b148
          have hk146 : (y143).toInt = (i).toInt + (1) + k145 * 4294967296 := hk146
          refine lv_iinc (v := y143) (lv' := [(6, .int (y143)), (5, .int (k)), (0, .ref (mo)), (1, .ref (to)), (2, .ref (szs)), (3, .ref (rws)), (4, .ref (rsz))]) hx hb dX13_keep_73 hl (k := 0) rfl (by rw [ey144]; rfl) (by decide) rfl (fun ls hl => ?_)
          refine lv_goto (tgt := 38) hx hb dX13_keep_76 (by decide) ?_
          exact ih38 _ (by omega) _ _ _ ls (y143) rfl hZ hP (by omega) (by omega) (lv_sub hl [0, 1, 2, 3, 4, 5, 6] rfl)

set_option maxHeartbeats 4000000 in
set_option maxRecDepth 100000 in
theorem t_X13_all (l : Launch) (D : va_G) (cs : Nat → ClassId) (B : Nat) (G : hq_G) (V : hp_V) (n : Nat) (hI : hq_I cs G V) (q : Nat) (hR : hq_RT G q) (mo : Nat) (h_mo : G mo = some (24, 0, 0, 0)) (v : Int32) (te : Int32) (pe : Int32) {m_tp m_sz m_fr m_bh m_hd m_ft m_fa m_le m_fo m_as m_fd m_bc m_bg m_bs m_be m_b0 m_b1 m_cm m_hc : Int32} (ho_mo : V mo = some (.inr (13, hm_o q (m_tp) (m_sz) (m_fr) (m_bh) (m_hd) (m_ft) (m_fa) (m_le) (m_fo) (m_as) (m_fd) (m_bc) (m_bg) (m_bs) (m_be) (m_b0) (m_b1) (m_cm) (m_hc)))) (hi_mo0 : 0 ≤ m_tp.toInt ∧ m_tp.toInt ≤ 4000) (hi_mo1 : 0 ≤ m_sz.toInt ∧ m_sz.toInt ≤ 4000) (hi_mo2 : 0 ≤ m_le.toInt ∧ m_le.toInt ≤ 276) (hi_mo3 : 0 ≤ m_fo.toInt ∧ m_fo.toInt ≤ 4) (hi_mo4 : 0 ≤ m_as.toInt ∧ m_as.toInt ≤ 4000) (hi_mo5 : 0 ≤ m_fd.toInt ∧ m_fd.toInt ≤ 900) (hi_mo6 : 0 ≤ m_cm.toInt ∧ m_cm.toInt ≤ 2) (hi_mo7 : 0 ≤ m_hc.toInt ∧ m_hc.toInt ≤ 1) {fs : Nat → Int32} (ho_fs : V (q + 14) = some (.inl (cs 1, 120, .inl (fs)))) {ss : Nat → Int32} (ho_ss : V (q + 15) = some (.inl (cs 1, 120, .inl (ss)))) {fk : Nat → Int32} (ho_fk : V (q + 10) = some (.inl (cs 1, 120, .inl (fk)))) {fl : Nat → Int32} (ho_fl : V (q + 2) = some (.inl (cs 1, 2, .inl (fl)))) (hv0 : 0 ≤ v.toInt) (hv1 : v.toInt < 30) (hH : hm_VQ cs V q 0 0) : hp_M l yX13_all cX13_all 10 none ({ frames := 5, cells := 0, slots := 0, locals := 121 }) D cs B V n [.ref (mo), .int (v), .int (te), .int (pe)] (hp_QV D cs B (fun V' n' => n = n' ∧ hq_P cs G (fun g => g.1 == 1 || g.1 == 43 || g.1 == 44 || g.1 == 45) V V' ∧ (∃ (m_fo1 : Int32) (m_le1 : Int32), V' mo = some (.inr (13, hm_o q (m_tp) (m_sz) (m_fr) (m_bh) (m_hd) (m_ft) (m_fa) (m_le1) (m_fo1) (m_as) (m_fd) (m_bc) (m_bg) (m_bs) (m_be) (m_b0) (m_b1) (m_cm) (m_hc))) ∧ (0 ≤ m_le1.toInt ∧ m_le1.toInt ≤ 276) ∧ (0 ≤ m_fo1.toInt ∧ m_fo1.toInt ≤ 4)) ∧ (V' (q + 14) = some (.inl (cs 1, 120, .inl (fs)))) ∧ (V' (q + 15) = some (.inl (cs 1, 120, .inl (ss)))) ∧ (V' (q + 10) = some (.inl (cs 1, 120, .inl (fk)))) ∧ (V' (q + 2) = some (.inl (cs 1, 2, .inl (fl)))))) 0 0 := by
  refine hp_walk (R0 := RX13) (by decide) rfl ?_ (Nat.le_of_ble_eq_true rfl)
  intro p e s m below meth c ls hx hb hr hts hown hlocks hin hml hZ hl
  have hP : hq_P cs G (fun g => g.1 == 1 || g.1 == 43 || g.1 == 44 || g.1 == 45) V V := hq_P.rf hI
  have hl : lv_has ls 10 [(0, .ref (mo)), (1, .int (v)), (2, .int (te)), (3, .int (pe))] := hl
  have hb_v := hq_rng v
  have hb_te := hq_rng te
  have hb_pe := hq_rng pe
  have hb_m_tp := hq_rng m_tp
  have hb_m_sz := hq_rng m_sz
  have hb_m_fr := hq_rng m_fr
  have hb_m_bh := hq_rng m_bh
  have hb_m_hd := hq_rng m_hd
  have hb_m_ft := hq_rng m_ft
  have hb_m_fa := hq_rng m_fa
  have hb_m_le := hq_rng m_le
  have hb_m_fo := hq_rng m_fo
  have hb_m_as := hq_rng m_as
  have hb_m_fd := hq_rng m_fd
  have hb_m_bc := hq_rng m_bc
  have hb_m_bg := hq_rng m_bg
  have hb_m_bs := hq_rng m_bs
  have hb_m_be := hq_rng m_be
  have hb_m_b0 := hq_rng m_b0
  have hb_m_b1 := hq_rng m_b1
  have hb_m_cm := hq_rng m_cm
  have hb_m_hc := hq_rng m_hc
  have hf_fs := hq_rg hI (hr_14 hR) ho_fs
  have hf_ss := hq_rg hI (hr_15 hR) ho_ss
  have hf_fk := hq_rg hI (hr_10 hR) ho_fk
  have hf_fl := hq_rg hI (hr_2 hR) ho_fl
  obtain ⟨hN3, g2, eV1, hf4⟩ := hq_o21 hP.1 (hr_28 hR)
  obtain ⟨hN7, g6, eV5, hf8⟩ := hq_o21 hP.1 (hr_30 hR)
  refine lv_aload_n hx hb dX13_all_0 rfl (lv_at hl 0 rfl) ?_
  refine lv_iload_n hx hb dX13_all_1 rfl (lv_at hl 1 rfl) ?_
  refine lv_iload_n hx hb dX13_all_2 rfl (lv_at hl 2 rfl) ?_
  refine lv_iload_n hx hb dX13_all_3 rfl (lv_at hl 3 rfl) ?_
  refine hp_calli (hp_runV (As := [.int (v), .int (te), .int (pe)]) (rest := []) hx hb hml hown hts (t_X13_compoundOf l D cs B G  V n hP.1 q hR (mo) h_mo (v) (te) (pe) ho_mo  (by omega) (by omega) (by omega) (by omega) (by omega) (by omega) (by omega) (by omega) (by omega) (by omega)) hZ ho_mo cv_X13_364 rfl rfl ⟨Nat.le_of_ble_eq_true rfl, Nat.le_of_ble_eq_true rfl⟩ rfl hl.1 rfl (Nat.le_of_ble_eq_true rfl) dX13_all_4 ⟨(Nat.le_of_ble_eq_true rfl), (Nat.le_of_ble_eq_true rfl)⟩) hZ (fun r12 V9 n10 _ _ hw11 hZ => ?_)
  obtain ⟨rfl, hq13, ho15, hr14⟩ := hw11
  have hP := hP.trans hq13 (fun _ _ => rfl)
  have b16 := hq_rng r12
  refine lv_istore (lv' := [(4, .int (r12)), (0, .ref (mo)), (1, .int (v)), (2, .int (te)), (3, .int (pe))]) hx hb dX13_all_7 hl (by decide) rfl (fun ls hl => ?_)
  refine lv_iload hx hb dX13_all_9 (lv_at hl 0 rfl) ?_
  refine lv_iconst (v := -1) hx hb dX13_all_11 (by decide) ?_
  refine lv_icmp_ne (tgt := 23) hx hb dX13_all_12 (by decide) (fun c17 => ?_) (fun c17 => ?_)
  · have c17 : ¬ (r12).toInt = (-1 : Int) := fun h9 => c17 (hq_eqi.mpr h9)
    refine lv_aload_n hx hb dX13_all_23 rfl (lv_at hl 1 rfl) ?_
    refine lv_aload_n hx hb dX13_all_24 rfl (lv_at hl 1 rfl) ?_
    refine hp_get (v := .ref (q + 16)) hx hb hts hown hZ ho15 fl_X13_47 rfl dX13_all_25 ?_
    refine lv_iload hx hb dX13_all_28 (lv_at hl 0 rfl) ?_
    obtain ⟨hN20, g19, eV18, hf21⟩ := hq_o21 hP.1 (hr_16 hR)
    refine hp_iald hx hb hZ eV18 (hq_in (by omega) (by omega)) dX13_all_30 ?_
    refine lv_topi (fun y22 ey23 => ?_)
    have b25 : (y22).toInt = ((g19) (r12 : Int32).toNatClampNeg).toInt := by rw [ey23]
    have b24 : hq_ir (hq_lo 3) (hq_hi 3) y22 := by rw [ey23]; exact hf21 _ (hq_ix (by omega) (by omega))
    have b24 : 0 ≤ (y22).toInt ∧ (y22).toInt ≤ 29 := b24
    refine lv_aload_n hx hb dX13_all_31 rfl (lv_at hl 1 rfl) ?_
    refine hp_get (v := .ref (q + 17)) hx hb hts hown hZ ho15 fl_X13_50 rfl dX13_all_32 ?_
    refine lv_iload hx hb dX13_all_35 (lv_at hl 0 rfl) ?_
    obtain ⟨hN28, g27, eV26, hf29⟩ := hq_o21 hP.1 (hr_17 hR)
    refine hp_iald hx hb hZ eV26 (hq_in (by omega) (by omega)) dX13_all_37 ?_
    refine lv_topi (fun y30 ey31 => ?_)
    have b33 : (y30).toInt = ((g27) (r12 : Int32).toNatClampNeg).toInt := by rw [ey31]
    have b32 := hq_rng y30
    refine lv_iload_n hx hb dX13_all_38 rfl (lv_at hl 4 rfl) ?_
    have hH9 := hH.keep hR (fun x t hx hg => hP.2 x t hx (by simp [hg]))
    have fx46 : V9 (q + 14) = some (.inl (cs 1, 120, .inl (fs))) := (hq13.2 (q + 14) _ (hr_14 hR) rfl).trans (ho_fs)
    have fx48 : V9 (q + 15) = some (.inl (cs 1, 120, .inl (ss))) := (hq13.2 (q + 15) _ (hr_15 hR) rfl).trans (ho_ss)
    have fx50 : V9 (q + 10) = some (.inl (cs 1, 120, .inl (fk))) := (hq13.2 (q + 10) _ (hr_10 hR) rfl).trans (ho_fk)
    have fx52 : V9 (q + 2) = some (.inl (cs 1, 2, .inl (fl))) := (hq13.2 (q + 2) _ (hr_2 hR) rfl).trans (ho_fl)
    have fx54 : V9 (q + 28) = some (.inl (cs 1, 4, .inl (g2))) := (hq13.2 (q + 28) _ (hr_28 hR) rfl).trans (eV1)
    have fx57 : V9 (q + 30) = some (.inl (cs 1, 4, .inl (g6))) := (hq13.2 (q + 30) _ (hr_30 hR) rfl).trans (eV5)
    refine hp_callv (hp_runV (As := [.int (y22), .int (y30), .int (pe)]) (rest := []) hx hb hml hown hts (t_X13_simple l D cs B G  V9 n hP.1 q hR (mo) h_mo (y22) (y30) (pe) ho15  (by omega) (by omega) (by omega) (by omega) (by omega) (by omega) (by omega) (by omega) fx46 fx48 fx50 fx52 fx54 fx57 (by omega) (by omega) hH9) hZ ho15 cv_X13_368 rfl rfl ⟨Nat.le_of_ble_eq_true rfl, Nat.le_of_ble_eq_true rfl⟩ rfl hl.1 rfl (Nat.le_of_ble_eq_true rfl) dX13_all_39 ⟨(Nat.le_of_ble_eq_true rfl), (Nat.le_of_ble_eq_true rfl)⟩) hZ (fun V34 n35 _ _ hw36 hZ => ?_)
    obtain ⟨rfl, hq38, ⟨z40, z41, ho42, hi43, hi44, hi45⟩, ho47, ho49, ho51, ho53, ⟨g56, ho55⟩, ⟨g59, ho58⟩⟩ := hw36
    have hP := hP.trans hq38 (by intro g h; simp_all)
    have b60 := hq_rng z41
    have b61 := hq_rng z40
    have hf62 := hq_rg hP.1 (hr_28 hR) ho55
    have hf63 := hq_rg hP.1 (hr_30 hR) ho58
    have hs2 := hm_S2.two (by assumption : hm_S2 V34 q z40)
    refine lv_aload_n hx hb dX13_all_42 rfl (lv_at hl 1 rfl) ?_
    refine lv_aload_n hx hb dX13_all_43 rfl (lv_at hl 1 rfl) ?_
    refine hp_get (v := .ref (q + 26)) hx hb hts hown hZ ho42 fl_X13_229 rfl dX13_all_44 ?_
    refine lv_aload_n hx hb dX13_all_47 rfl (lv_at hl 1 rfl) ?_
    refine hp_get (v := .ref (q + 31)) hx hb hts hown hZ ho42 fl_X13_244 rfl dX13_all_48 ?_
    refine lv_aload_n hx hb dX13_all_51 rfl (lv_at hl 1 rfl) ?_
    refine hp_get (v := .ref (q + 33)) hx hb hts hown hZ ho42 fl_X13_250 rfl dX13_all_52 ?_
    refine lv_aload_n hx hb dX13_all_55 rfl (lv_at hl 1 rfl) ?_
    refine hp_get (v := .ref (q + 35)) hx hb hts hown hZ ho42 fl_X13_256 rfl dX13_all_56 ?_
    refine hp_calli (hp_runV (As := [.ref (q + 26), .ref (q + 31), .ref (q + 33), .ref (q + 35)]) (rest := []) hx hb hml hown hts (t_X13_keep l D cs B G  V34 n hP.1 q hR (mo) h_mo (q + 26) (hr_26 hR) (q + 31) (hr_31 hR) (q + 33) (hr_33 hR) (q + 35) (hr_35 hR) ho42  (by omega) (by omega) (by omega) (by omega) (by omega) (by omega) (by omega) (by omega) ho55 ho58 (by assumption)) hZ ho42 cv_X13_372 rfl rfl ⟨Nat.le_of_ble_eq_true rfl, Nat.le_of_ble_eq_true rfl⟩ rfl hl.1 rfl (Nat.le_of_ble_eq_true rfl) dX13_all_59 ⟨(Nat.le_of_ble_eq_true rfl), (Nat.le_of_ble_eq_true rfl)⟩) hZ (fun r67 V64 n65 _ _ hw66 hZ => ?_)
    obtain ⟨rfl, hq68, ho70, ho71, ho72, hr69⟩ := hw66
    have hP := hP.trans hq68 (by intro g h; simp_all)
    have b73 := hq_rng r67
    refine lv_istore (lv' := [(5, .int (r67)), (4, .int (r12)), (0, .ref (mo)), (1, .int (v)), (2, .int (te)), (3, .int (pe))]) hx hb dX13_all_62 hl (by decide) rfl (fun ls hl => ?_)
    refine lv_aload_n hx hb dX13_all_64 rfl (lv_at hl 2 rfl) ?_
    refine lv_iload_n hx hb dX13_all_65 rfl (lv_at hl 3 rfl) ?_
    refine lv_aload_n hx hb dX13_all_66 rfl (lv_at hl 2 rfl) ?_
    refine hp_get (v := .ref (q + 18)) hx hb hts hown hZ ho70 fl_X13_53 rfl dX13_all_67 ?_
    refine lv_iload hx hb dX13_all_70 (lv_at hl 1 rfl) ?_
    obtain ⟨hN76, g75, eV74, hf77⟩ := hq_o21 hP.1 (hr_18 hR)
    refine hp_iald hx hb hZ eV74 (hq_in (by omega) (by omega)) dX13_all_72 ?_
    refine lv_topi (fun y78 ey79 => ?_)
    have b81 : (y78).toInt = ((g75) (r12 : Int32).toNatClampNeg).toInt := by rw [ey79]
    have b80 := hq_rng y78
    refine lv_iconst (v := 0) hx hb dX13_all_73 (by decide) ?_
    have hH9 := hH.keep hR (fun x t hx hg => hP.2 x t hx (by simp [hg]))
    have fx94 : V64 (q + 14) = some (.inl (cs 1, 120, .inl (fs))) := (hq68.2 (q + 14) _ (hr_14 hR) rfl).trans (ho47)
    have fx96 : V64 (q + 15) = some (.inl (cs 1, 120, .inl (ss))) := (hq68.2 (q + 15) _ (hr_15 hR) rfl).trans (ho49)
    have fx98 : V64 (q + 10) = some (.inl (cs 1, 120, .inl (fk))) := (hq68.2 (q + 10) _ (hr_10 hR) rfl).trans (ho51)
    have fx100 : V64 (q + 2) = some (.inl (cs 1, 2, .inl (fl))) := (hq68.2 (q + 2) _ (hr_2 hR) rfl).trans (ho53)
    have hl106 : (0 : Int32).toInt = 0 := by decide
    refine hp_callv (hp_runV (As := [.int (v), .int (y78), .int (0)]) (rest := []) hx hb hml hown hts (t_X13_simple l D cs B G  V64 n hP.1 q hR (mo) h_mo (v) (y78) (0) ho70  (by omega) (by omega) (by omega) (by omega) (by omega) (by omega) (by omega) (by omega) fx94 fx96 fx98 fx100 ho71 ho72 (by omega) (by omega) hH9) hZ ho70 cv_X13_368 rfl rfl ⟨Nat.le_of_ble_eq_true rfl, Nat.le_of_ble_eq_true rfl⟩ rfl hl.1 rfl (Nat.le_of_ble_eq_true rfl) dX13_all_74 ⟨(Nat.le_of_ble_eq_true rfl), (Nat.le_of_ble_eq_true rfl)⟩) hZ (fun V82 n83 _ _ hw84 hZ => ?_)
    obtain ⟨rfl, hq86, ⟨z88, z89, ho90, hi91, hi92, hi93⟩, ho95, ho97, ho99, ho101, ⟨g103, ho102⟩, ⟨g105, ho104⟩⟩ := hw84
    have hP := hP.trans hq86 (by intro g h; simp_all)
    have b107 := hq_rng z89
    have b108 := hq_rng z88
    have hf109 := hq_rg hP.1 (hr_28 hR) ho102
    have hf110 := hq_rg hP.1 (hr_30 hR) ho104
    have hs2 := hm_S2.two (by assumption : hm_S2 V82 q z88)
    refine lv_aload_n hx hb dX13_all_77 rfl (lv_at hl 2 rfl) ?_
    refine lv_aload_n hx hb dX13_all_78 rfl (lv_at hl 2 rfl) ?_
    refine hp_get (v := .ref (q + 27)) hx hb hts hown hZ ho90 fl_X13_232 rfl dX13_all_79 ?_
    refine lv_aload_n hx hb dX13_all_82 rfl (lv_at hl 2 rfl) ?_
    refine hp_get (v := .ref (q + 32)) hx hb hts hown hZ ho90 fl_X13_247 rfl dX13_all_83 ?_
    refine lv_aload_n hx hb dX13_all_86 rfl (lv_at hl 2 rfl) ?_
    refine hp_get (v := .ref (q + 34)) hx hb hts hown hZ ho90 fl_X13_253 rfl dX13_all_87 ?_
    refine lv_aload_n hx hb dX13_all_90 rfl (lv_at hl 2 rfl) ?_
    refine hp_get (v := .ref (q + 36)) hx hb hts hown hZ ho90 fl_X13_259 rfl dX13_all_91 ?_
    refine hp_calli (hp_runV (As := [.ref (q + 27), .ref (q + 32), .ref (q + 34), .ref (q + 36)]) (rest := []) hx hb hml hown hts (t_X13_keep l D cs B G  V82 n hP.1 q hR (mo) h_mo (q + 27) (hr_27 hR) (q + 32) (hr_32 hR) (q + 34) (hr_34 hR) (q + 36) (hr_36 hR) ho90  (by omega) (by omega) (by omega) (by omega) (by omega) (by omega) (by omega) (by omega) ho102 ho104 (by assumption)) hZ ho90 cv_X13_372 rfl rfl ⟨Nat.le_of_ble_eq_true rfl, Nat.le_of_ble_eq_true rfl⟩ rfl hl.1 rfl (Nat.le_of_ble_eq_true rfl) dX13_all_94 ⟨(Nat.le_of_ble_eq_true rfl), (Nat.le_of_ble_eq_true rfl)⟩) hZ (fun r114 V111 n112 _ _ hw113 hZ => ?_)
    obtain ⟨rfl, hq115, ho117, ho118, ho119, hr116⟩ := hw113
    have hP := hP.trans hq115 (by intro g h; simp_all)
    have b120 := hq_rng r114
    refine lv_istore (lv' := [(6, .int (r114)), (5, .int (r67)), (4, .int (r12)), (0, .ref (mo)), (1, .int (v)), (2, .int (te)), (3, .int (pe))]) hx hb dX13_all_97 hl (by decide) rfl (fun ls hl => ?_)
    refine lv_aload_n hx hb dX13_all_99 rfl (lv_at hl 3 rfl) ?_
    refine lv_iconst (v := 0) hx hb dX13_all_100 (by decide) ?_
    refine hp_put hx hb hts hown hZ ho117 fp_X13_344 rfl rfl (Nat.le_of_ble_eq_true rfl) dX13_all_101 (fun V121 _ _ e122 o123 hZ => ?_)
    have e122 : V121 (mo) = some (.inr (13, hm_o q (m_tp) (m_sz) (m_fr) (m_bh) (m_hd) (m_ft) (m_fa) (z89) (0) (m_as) (m_fd) (m_bc) (m_bg) (m_bs) (m_be) (m_b0) (m_b1) (m_cm) (m_hc))) := e122
    have hP := hP.put h_mo e122 o123 (trivial) rfl
    refine lv_iconst (v := 0) hx hb dX13_all_104 (by decide) ?_
    refine lv_istore (lv' := [(7, .int (0)), (6, .int (r114)), (5, .int (r67)), (4, .int (r12)), (0, .ref (mo)), (1, .int (v)), (2, .int (te)), (3, .int (pe))]) hx hb dX13_all_105 hl (by decide) rfl (fun ls hl => ?_)
    have hl124 : (0 : Int32).toInt = 0 := by decide
    have hl125 : (0 : Int32).toInt = 0 := by decide
    have fx127 : V121 (q + 28) = some (.inl (cs 1, 4, .inl (g103))) := (o123 (q + 28) (hq_tne (hr_28 hR) h_mo (by simp))).trans (ho118)
    have fx129 : V121 (q + 30) = some (.inl (cs 1, 4, .inl (g105))) := (o123 (q + 30) (hq_tne (hr_30 hR) h_mo (by simp))).trans (ho119)
    suffices lp107 : ∀ (k9 : Nat) (V9 : hp_V) (H9 : Heap) (locs9 : List Loc) (ls : Array Slot) (h : Int32) (fo9 : Int32) (ffA : Nat → Int32) (frA : Nat → Int32), (100 - h.toInt).toNat = k9 → hp_Z D cs B s V9 H9 n locs9 → hq_P cs G (fun g => g.1 == 1 || g.1 == 43 || g.1 == 44 || g.1 == 45) V V9 → V9 (mo) = some (.inr (13, hm_o q (m_tp) (m_sz) (m_fr) (m_bh) (m_hd) (m_ft) (m_fa) (z89) (fo9) (m_as) (m_fd) (m_bc) (m_bg) (m_bs) (m_be) (m_b0) (m_b1) (m_cm) (m_hc))) → V9 (q + 28) = some (.inl (cs 1, 4, .inl (ffA))) → V9 (q + 30) = some (.inl (cs 1, 4, .inl (frA))) → 0 ≤ h.toInt → h.toInt ≤ 2 → 0 ≤ fo9.toInt ∧ fo9.toInt ≤ 2 * h.toInt → lv_has ls 10 [(7, .int (h)), (6, .int (r114)), (5, .int (r67)), (4, .int (r12)), (0, .ref (mo)), (1, .int (v)), (2, .int (te)), (3, .int (pe))] → W p l e ({ frames := 5, cells := 0, slots := 0, locals := 121 }) s m ([.ref (mo), .int (v), .int (te), .int (pe)] : List Value).toArray below meth c H9 locs9 0 0 (MQ below (hp_QV D cs B (fun V' n' => n = n' ∧ hq_P cs G (fun g => g.1 == 1 || g.1 == 43 || g.1 == 44 || g.1 == 45) V V' ∧ (∃ (m_fo1 : Int32) (m_le1 : Int32), V' mo = some (.inr (13, hm_o q (m_tp) (m_sz) (m_fr) (m_bh) (m_hd) (m_ft) (m_fa) (m_le1) (m_fo1) (m_as) (m_fd) (m_bc) (m_bg) (m_bs) (m_be) (m_b0) (m_b1) (m_cm) (m_hc))) ∧ (0 ≤ m_le1.toInt ∧ m_le1.toInt ≤ 276) ∧ (0 ≤ m_fo1.toInt ∧ m_fo1.toInt ≤ 4)) ∧ (V' (q + 14) = some (.inl (cs 1, 120, .inl (fs)))) ∧ (V' (q + 15) = some (.inl (cs 1, 120, .inl (ss)))) ∧ (V' (q + 10) = some (.inl (cs 1, 120, .inl (fk)))) ∧ (V' (q + 2) = some (.inl (cs 1, 2, .inl (fl)))))) ([.ref (mo), .int (v), .int (te), .int (pe)] : List Value).toArray s 0 0 (hp_F B)) (F0 m 107 ls []) from lp107 _ _ _ _ ls (0) (0) (g103) (g105) rfl hZ hP e122 fx127 fx129 (by omega) (by omega) (by omega) (lv_sub hl [0, 1, 2, 3, 4, 5, 6, 7] rfl)
    intro k9
    induction k9 using Nat.strongRecOn with
    | _ k9 ih107 =>
      intro V9 H9 locs9 ls h fo9 ffA frA hk107 hZ hP ho126 ho128 ho130 hv131 hv132 hv133 hl
      have hb_h := hq_rng h
      have hb_fo9 := hq_rng fo9
      have hP_107 := hP
      have hf134 := hq_rg hP.1 (hr_28 hR) ho128
      have hf135 := hq_rg hP.1 (hr_30 hR) ho130
      refine lv_iload hx hb dX13_all_107 (lv_at hl 0 rfl) ?_
      refine lv_iload hx hb dX13_all_109 (lv_at hl 2 rfl) ?_
      refine lv_icmp_ge (tgt := 316) hx hb dX13_all_111 (by decide) (fun c136 => ?_) (fun c136 => ?_)
      · have c136 : (r67).toInt ≤ (h).toInt := hq_lei.mp c136
        have fx137 : V9 (q + 14) = some (.inl (cs 1, 120, .inl (fs))) := (hP_107.2 (q + 14) _ (hr_14 hR) rfl).trans (ho_fs)
        have fx138 : V9 (q + 15) = some (.inl (cs 1, 120, .inl (ss))) := (hP_107.2 (q + 15) _ (hr_15 hR) rfl).trans (ho_ss)
        have fx139 : V9 (q + 10) = some (.inl (cs 1, 120, .inl (fk))) := (hP_107.2 (q + 10) _ (hr_10 hR) rfl).trans (ho_fk)
        have fx140 : V9 (q + 2) = some (.inl (cs 1, 2, .inl (fl))) := (hP_107.2 (q + 2) _ (hr_2 hR) rfl).trans (ho_fl)
        exact hp_vret hx hb hr hlocks hZ ⟨rfl, hP, ⟨fo9, z89, ho126, by omega, by omega⟩, fx137, fx138, fx139, fx140⟩ dX13_all_316
      · have c136 : ¬ (r67).toInt ≤ (h).toInt := fun h9 => c136 (hq_lei.mpr h9)
        refine lv_iconst (v := 0) hx hb dX13_all_114 (by decide) ?_
        refine lv_istore (lv' := [(8, .int (0)), (7, .int (h)), (6, .int (r114)), (5, .int (r67)), (4, .int (r12)), (0, .ref (mo)), (1, .int (v)), (2, .int (te)), (3, .int (pe))]) hx hb dX13_all_115 hl (by decide) rfl (fun ls hl => ?_)
        have hl141 : (0 : Int32).toInt = 0 := by decide
        suffices lp117 : ∀ (k9 : Nat) (V9 : hp_V) (H9 : Heap) (locs9 : List Loc) (ls : Array Slot) (k : Int32) (fo8 : Int32) (ffB : Nat → Int32) (frB : Nat → Int32), (100 - k.toInt).toNat = k9 → hp_Z D cs B s V9 H9 n locs9 → hq_P cs G (fun g => g.1 == 1 || g.1 == 43 || g.1 == 44 || g.1 == 45) V V9 → V9 (mo) = some (.inr (13, hm_o q (m_tp) (m_sz) (m_fr) (m_bh) (m_hd) (m_ft) (m_fa) (z89) (fo8) (m_as) (m_fd) (m_bc) (m_bg) (m_bs) (m_be) (m_b0) (m_b1) (m_cm) (m_hc))) → V9 (q + 28) = some (.inl (cs 1, 4, .inl (ffB))) → V9 (q + 30) = some (.inl (cs 1, 4, .inl (frB))) → 0 ≤ k.toInt → k.toInt ≤ 2 → 0 ≤ fo8.toInt ∧ fo8.toInt ≤ 2 * h.toInt + k.toInt → lv_has ls 10 [(8, .int (k)), (7, .int (h)), (6, .int (r114)), (5, .int (r67)), (4, .int (r12)), (0, .ref (mo)), (1, .int (v)), (2, .int (te)), (3, .int (pe))] → W p l e ({ frames := 5, cells := 0, slots := 0, locals := 121 }) s m ([.ref (mo), .int (v), .int (te), .int (pe)] : List Value).toArray below meth c H9 locs9 0 0 (MQ below (hp_QV D cs B (fun V' n' => n = n' ∧ hq_P cs G (fun g => g.1 == 1 || g.1 == 43 || g.1 == 44 || g.1 == 45) V V' ∧ (∃ (m_fo1 : Int32) (m_le1 : Int32), V' mo = some (.inr (13, hm_o q (m_tp) (m_sz) (m_fr) (m_bh) (m_hd) (m_ft) (m_fa) (m_le1) (m_fo1) (m_as) (m_fd) (m_bc) (m_bg) (m_bs) (m_be) (m_b0) (m_b1) (m_cm) (m_hc))) ∧ (0 ≤ m_le1.toInt ∧ m_le1.toInt ≤ 276) ∧ (0 ≤ m_fo1.toInt ∧ m_fo1.toInt ≤ 4)) ∧ (V' (q + 14) = some (.inl (cs 1, 120, .inl (fs)))) ∧ (V' (q + 15) = some (.inl (cs 1, 120, .inl (ss)))) ∧ (V' (q + 10) = some (.inl (cs 1, 120, .inl (fk)))) ∧ (V' (q + 2) = some (.inl (cs 1, 2, .inl (fl)))))) ([.ref (mo), .int (v), .int (te), .int (pe)] : List Value).toArray s 0 0 (hp_F B)) (F0 m 117 ls []) from lp117 _ _ _ _ ls (0) (fo9) (ffA) (frA) rfl hZ hP ho126 ho128 ho130 (by omega) (by omega) (by omega) (lv_sub hl [0, 1, 2, 3, 4, 5, 6, 7, 8] rfl)
        intro k9
        induction k9 using Nat.strongRecOn with
        | _ k9 ih117 =>
          intro V9 H9 locs9 ls k fo8 ffB frB hk117 hZ hP ho142 ho143 ho144 hv145 hv146 hv147 hl
          have hb_k := hq_rng k
          have hb_fo8 := hq_rng fo8
          have hP_117 := hP
          have hf148 := hq_rg hP.1 (hr_28 hR) ho143
          have hf149 := hq_rg hP.1 (hr_30 hR) ho144
          refine lv_iload hx hb dX13_all_117 (lv_at hl 0 rfl) ?_
          refine lv_iload hx hb dX13_all_119 (lv_at hl 2 rfl) ?_
          refine lv_icmp_ge (tgt := 310) hx hb dX13_all_121 (by decide) (fun c150 => ?_) (fun c150 => ?_)
          · have c150 : (r114).toInt ≤ (k).toInt := hq_lei.mp c150
            obtain ⟨y151, ey152⟩ : ∃ y : Int32, y = h + (1) := ⟨_, rfl⟩
            obtain ⟨k153, hk154, b155, b156⟩ := hq_add (h) (1)
            rw [← ey152] at hk154 b155 b156
            have hk154 : (y151).toInt = (h).toInt + (1) + k153 * 4294967296 := hk154
            refine lv_iinc (v := y151) (lv' := [(7, .int (y151)), (8, .int (k)), (6, .int (r114)), (5, .int (r67)), (4, .int (r12)), (0, .ref (mo)), (1, .int (v)), (2, .int (te)), (3, .int (pe))]) hx hb dX13_all_310 hl (k := 1) rfl (by rw [ey152]; rfl) (by decide) rfl (fun ls hl => ?_)
            refine lv_goto (tgt := 107) hx hb dX13_all_313 (by decide) ?_
            exact ih107 _ (by omega) _ _ _ ls (y151) (fo8) (ffB) (frB) rfl hZ hP ho142 ho143 ho144 (by omega) (by omega) (by omega) (lv_sub hl [0, 2, 3, 4, 5, 6, 7, 8] rfl)
          · have c150 : ¬ (r114).toInt ≤ (k).toInt := fun h9 => c150 (hq_lei.mpr h9)
            refine lv_aload_n hx hb dX13_all_124 rfl (lv_at hl 5 rfl) ?_
            refine hp_callv (hp_runV (As := []) (rest := []) hx hb hml hown hts (t_X13_beginForm l D cs B G  V9 n hP.1 q hR (mo) h_mo ho142  (by omega) (by omega) (by omega) (by omega) (by omega) (by omega) (by omega) (by omega) ho143 ho144 (by omega)) hZ ho142 cv_X13_351 rfl rfl ⟨Nat.le_of_ble_eq_true rfl, Nat.le_of_ble_eq_true rfl⟩ rfl hl.1 rfl (Nat.le_of_ble_eq_true rfl) dX13_all_125 ⟨(Nat.le_of_ble_eq_true rfl), (Nat.le_of_ble_eq_true rfl)⟩) hZ (fun V157 n158 _ _ hw159 hZ => ?_)
            obtain ⟨rfl, hq161, ho163, ⟨g165, ho164, hi166⟩, ⟨g168, ho167, hi169⟩⟩ := hw159
            have hP := hP.trans hq161 (by intro g h; simp_all)
            have hf170 := hq_rg hP.1 (hr_28 hR) ho164
            have hf171 := hq_rg hP.1 (hr_30 hR) ho167
            refine lv_iconst (v := 0) hx hb dX13_all_128 (by decide) ?_
            refine lv_istore (lv' := [(9, .int (0)), (8, .int (k)), (7, .int (h)), (6, .int (r114)), (5, .int (r67)), (4, .int (r12)), (0, .ref (mo)), (1, .int (v)), (2, .int (te)), (3, .int (pe))]) hx hb dX13_all_129 hl (by decide) rfl (fun ls hl => ?_)
            have hl172 : (0 : Int32).toInt = 0 := by decide
            suffices lp131 : ∀ (k9 : Nat) (V9 : hp_V) (H9 : Heap) (locs9 : List Loc) (ls : Array Slot) (i : Int32) (ff5 : Nat → Int32), (100 - i.toInt).toNat = k9 → hp_Z D cs B s V9 H9 n locs9 → hq_P cs G (fun g => g.1 == 1 || g.1 == 43 || g.1 == 44 || g.1 == 45) V V9 → V9 (mo) = some (.inr (13, hm_o q (m_tp) (m_sz) (m_fr) (m_bh) (m_hd) (m_ft) (m_fa) (z89) (fo8) (m_as) (m_fd) (m_bc) (m_bg) (m_bs) (m_be) (m_b0) (m_b1) (m_cm) (m_hc))) → V9 (q + 28) = some (.inl (cs 1, 4, .inl (ff5))) → V9 (q + 30) = some (.inl (cs 1, 4, .inl (g168))) → 0 ≤ i.toInt → i.toInt ≤ 30 → (ff5 fo8.toNatClampNeg).toInt = i.toInt → lv_has ls 10 [(9, .int (i)), (8, .int (k)), (7, .int (h)), (6, .int (r114)), (5, .int (r67)), (4, .int (r12)), (0, .ref (mo)), (1, .int (v)), (2, .int (te)), (3, .int (pe))] → W p l e ({ frames := 5, cells := 0, slots := 0, locals := 121 }) s m ([.ref (mo), .int (v), .int (te), .int (pe)] : List Value).toArray below meth c H9 locs9 0 0 (MQ below (hp_QV D cs B (fun V' n' => n = n' ∧ hq_P cs G (fun g => g.1 == 1 || g.1 == 43 || g.1 == 44 || g.1 == 45) V V' ∧ (∃ (m_fo1 : Int32) (m_le1 : Int32), V' mo = some (.inr (13, hm_o q (m_tp) (m_sz) (m_fr) (m_bh) (m_hd) (m_ft) (m_fa) (m_le1) (m_fo1) (m_as) (m_fd) (m_bc) (m_bg) (m_bs) (m_be) (m_b0) (m_b1) (m_cm) (m_hc))) ∧ (0 ≤ m_le1.toInt ∧ m_le1.toInt ≤ 276) ∧ (0 ≤ m_fo1.toInt ∧ m_fo1.toInt ≤ 4)) ∧ (V' (q + 14) = some (.inl (cs 1, 120, .inl (fs)))) ∧ (V' (q + 15) = some (.inl (cs 1, 120, .inl (ss)))) ∧ (V' (q + 10) = some (.inl (cs 1, 120, .inl (fk)))) ∧ (V' (q + 2) = some (.inl (cs 1, 2, .inl (fl)))))) ([.ref (mo), .int (v), .int (te), .int (pe)] : List Value).toArray s 0 0 (hp_F B)) (F0 m 131 ls []) from lp131 _ _ _ _ ls (0) (g165) rfl hZ hP ho163 ho164 ho167 (by omega) (by omega) (by omega) (lv_sub hl [0, 1, 2, 3, 4, 5, 6, 7, 8, 9] rfl)
            intro k9
            induction k9 using Nat.strongRecOn with
            | _ k9 ih131 =>
              intro V9 H9 locs9 ls i ff5 hk131 hZ hP ho173 ho174 ho175 hv176 hv177 hv178 hl
              have hb_i := hq_rng i
              have hP_131 := hP
              have hf179 := hq_rg hP.1 (hr_28 hR) ho174
              have hf180 := hq_rg hP.1 (hr_30 hR) ho175
              refine lv_iload hx hb dX13_all_131 (lv_at hl 0 rfl) ?_
              refine lv_aload_n hx hb dX13_all_133 rfl (lv_at hl 6 rfl) ?_
              refine hp_get (v := .ref (q + 31)) hx hb hts hown hZ ho173 fl_X13_244 rfl dX13_all_134 ?_
              refine lv_iload hx hb dX13_all_137 (lv_at hl 2 rfl) ?_
              obtain ⟨hN183, g182, eV181, hf184⟩ := hq_o21 hP.1 (hr_31 hR)
              refine hp_iald hx hb hZ eV181 (hq_in (by omega) (by omega)) dX13_all_139 ?_
              refine lv_topi (fun y185 ey186 => ?_)
              have b188 : (y185).toInt = ((g182) (h : Int32).toNatClampNeg).toInt := by rw [ey186]
              have b187 : hq_ir (hq_lo 9) (hq_hi 9) y185 := by rw [ey186]; exact hf184 _ (hq_ix (by omega) (by omega))
              have b187 : 0 ≤ (y185).toInt ∧ (y185).toInt ≤ 30 := b187
              refine lv_icmp_ge (tgt := 166) hx hb dX13_all_140 (by decide) (fun c189 => ?_) (fun c189 => ?_)
              · have c189 : (y185).toInt ≤ (i).toInt := hq_lei.mp c189
                refine lv_aload_n hx hb dX13_all_166 rfl (lv_at hl 6 rfl) ?_
                refine lv_bipush (v := 32) hx hb dX13_all_167 (by decide) ?_
                have hl201 : (32 : Int32).toInt = 32 := by decide
                refine hp_callv (hp_runV (As := [.int (32)]) (rest := []) hx hb hml hown hts (t_X13_say l D cs B G  V9 n hP.1 q hR (mo) h_mo (32) ho173  (by omega) (by omega) (by omega) (by omega) (by omega) (by omega) (by omega) (by omega) ho174 ho175 (by omega) (by omega)) hZ ho173 cv_X13_354 rfl rfl ⟨Nat.le_of_ble_eq_true rfl, Nat.le_of_ble_eq_true rfl⟩ rfl hl.1 rfl (Nat.le_of_ble_eq_true rfl) dX13_all_169 ⟨(Nat.le_of_ble_eq_true rfl), (Nat.le_of_ble_eq_true rfl)⟩) hZ (fun V190 n191 _ _ hw192 hZ => ?_)
                obtain ⟨rfl, hq194, ho196, ⟨g198, ho197, hi199⟩, ho200⟩ := hw192
                have hP := hP.trans hq194 (by intro g h; simp_all)
                have hf202 := hq_rg hP.1 (hr_28 hR) ho197
                refine lv_iconst (v := 0) hx hb dX13_all_172 (by decide) ?_
                refine lv_istore (lv' := [(9, .int (0)), (8, .int (k)), (7, .int (h)), (6, .int (r114)), (5, .int (r67)), (4, .int (r12)), (0, .ref (mo)), (1, .int (v)), (2, .int (te)), (3, .int (pe))]) hx hb dX13_all_173 hl (by decide) rfl (fun ls hl => ?_)
                have hl203 : (0 : Int32).toInt = 0 := by decide
                suffices lp175 : ∀ (k9 : Nat) (V9 : hp_V) (H9 : Heap) (locs9 : List Loc) (ls : Array Slot) (i4 : Int32) (ff4 : Nat → Int32), (100 - i4.toInt).toNat = k9 → hp_Z D cs B s V9 H9 n locs9 → hq_P cs G (fun g => g.1 == 1 || g.1 == 43 || g.1 == 44 || g.1 == 45) V V9 → V9 (mo) = some (.inr (13, hm_o q (m_tp) (m_sz) (m_fr) (m_bh) (m_hd) (m_ft) (m_fa) (z89) (fo8) (m_as) (m_fd) (m_bc) (m_bg) (m_bs) (m_be) (m_b0) (m_b1) (m_cm) (m_hc))) → V9 (q + 28) = some (.inl (cs 1, 4, .inl (ff4))) → V9 (q + 30) = some (.inl (cs 1, 4, .inl (g168))) → 0 ≤ i4.toInt → i4.toInt ≤ 30 → (ff4 fo8.toNatClampNeg).toInt ≤ 31 + i4.toInt → 0 ≤ (ff4 fo8.toNatClampNeg).toInt → lv_has ls 10 [(9, .int (i4)), (8, .int (k)), (7, .int (h)), (6, .int (r114)), (5, .int (r67)), (4, .int (r12)), (0, .ref (mo)), (1, .int (v)), (2, .int (te)), (3, .int (pe))] → W p l e ({ frames := 5, cells := 0, slots := 0, locals := 121 }) s m ([.ref (mo), .int (v), .int (te), .int (pe)] : List Value).toArray below meth c H9 locs9 0 0 (MQ below (hp_QV D cs B (fun V' n' => n = n' ∧ hq_P cs G (fun g => g.1 == 1 || g.1 == 43 || g.1 == 44 || g.1 == 45) V V' ∧ (∃ (m_fo1 : Int32) (m_le1 : Int32), V' mo = some (.inr (13, hm_o q (m_tp) (m_sz) (m_fr) (m_bh) (m_hd) (m_ft) (m_fa) (m_le1) (m_fo1) (m_as) (m_fd) (m_bc) (m_bg) (m_bs) (m_be) (m_b0) (m_b1) (m_cm) (m_hc))) ∧ (0 ≤ m_le1.toInt ∧ m_le1.toInt ≤ 276) ∧ (0 ≤ m_fo1.toInt ∧ m_fo1.toInt ≤ 4)) ∧ (V' (q + 14) = some (.inl (cs 1, 120, .inl (fs)))) ∧ (V' (q + 15) = some (.inl (cs 1, 120, .inl (ss)))) ∧ (V' (q + 10) = some (.inl (cs 1, 120, .inl (fk)))) ∧ (V' (q + 2) = some (.inl (cs 1, 2, .inl (fl)))))) ([.ref (mo), .int (v), .int (te), .int (pe)] : List Value).toArray s 0 0 (hp_F B)) (F0 m 175 ls []) from lp175 _ _ _ _ ls (0) (g198) rfl hZ hP ho196 ho197 ho200 (by omega) (by omega) (by omega) (by omega) (lv_sub hl [0, 1, 2, 3, 4, 5, 6, 7, 8, 9] rfl)
                intro k9
                induction k9 using Nat.strongRecOn with
                | _ k9 ih175 =>
                  intro V9 H9 locs9 ls i4 ff4 hk175 hZ hP ho204 ho205 ho206 hv207 hv208 hv209 hv210 hl
                  have hb_i4 := hq_rng i4
                  have hP_175 := hP
                  have hf211 := hq_rg hP.1 (hr_28 hR) ho205
                  have hf212 := hq_rg hP.1 (hr_30 hR) ho206
                  refine lv_iload hx hb dX13_all_175 (lv_at hl 0 rfl) ?_
                  refine lv_aload_n hx hb dX13_all_177 rfl (lv_at hl 6 rfl) ?_
                  refine hp_get (v := .ref (q + 32)) hx hb hts hown hZ ho204 fl_X13_247 rfl dX13_all_178 ?_
                  refine lv_iload hx hb dX13_all_181 (lv_at hl 1 rfl) ?_
                  obtain ⟨hN215, g214, eV213, hf216⟩ := hq_o21 hP.1 (hr_32 hR)
                  refine hp_iald hx hb hZ eV213 (hq_in (by omega) (by omega)) dX13_all_183 ?_
                  refine lv_topi (fun y217 ey218 => ?_)
                  have b220 : (y217).toInt = ((g214) (k : Int32).toNatClampNeg).toInt := by rw [ey218]
                  have b219 : hq_ir (hq_lo 9) (hq_hi 9) y217 := by rw [ey218]; exact hf216 _ (hq_ix (by omega) (by omega))
                  have b219 : 0 ≤ (y217).toInt ∧ (y217).toInt ≤ 30 := b219
                  refine lv_icmp_ge (tgt := 210) hx hb dX13_all_184 (by decide) (fun c221 => ?_) (fun c221 => ?_)
                  · have c221 : (y217).toInt ≤ (i4).toInt := hq_lei.mp c221
                    refine lv_aload_n hx hb dX13_all_210 rfl (lv_at hl 6 rfl) ?_
                    refine lv_iload hx hb dX13_all_211 (lv_at hl 5 rfl) ?_
                    refine hp_callv (hp_runV (As := [.int (r12)]) (rest := []) hx hb hml hown hts (t_X13_note l D cs B G  V9 n hP.1 q hR (mo) h_mo (r12) ho204  (by omega) (by omega) (by omega) (by omega) (by omega) (by omega) (by omega) (by omega) ho205 ho206 (by omega) (by omega) (by omega) (by omega)) hZ ho204 cv_X13_357 rfl rfl ⟨Nat.le_of_ble_eq_true rfl, Nat.le_of_ble_eq_true rfl⟩ rfl hl.1 rfl (Nat.le_of_ble_eq_true rfl) dX13_all_213 ⟨(Nat.le_of_ble_eq_true rfl), (Nat.le_of_ble_eq_true rfl)⟩) hZ (fun V222 n223 _ _ hw224 hZ => ?_)
                    obtain ⟨rfl, hq226, ho228, ho229, ⟨g231, ho230, hi232⟩⟩ := hw224
                    have hP := hP.trans hq226 (by intro g h; simp_all)
                    have hf233 := hq_rg hP.1 (hr_30 hR) ho230
                    refine lv_iconst (v := 0) hx hb dX13_all_216 (by decide) ?_
                    refine lv_istore (lv' := [(9, .int (0)), (8, .int (k)), (7, .int (h)), (6, .int (r114)), (5, .int (r67)), (4, .int (r12)), (0, .ref (mo)), (1, .int (v)), (2, .int (te)), (3, .int (pe))]) hx hb dX13_all_217 hl (by decide) rfl (fun ls hl => ?_)
                    have hl234 : (0 : Int32).toInt = 0 := by decide
                    suffices lp219 : ∀ (k9 : Nat) (V9 : hp_V) (H9 : Heap) (locs9 : List Loc) (ls : Array Slot) (i3 : Int32) (fr4 : Nat → Int32), (100 - i3.toInt).toNat = k9 → hp_Z D cs B s V9 H9 n locs9 → hq_P cs G (fun g => g.1 == 1 || g.1 == 43 || g.1 == 44 || g.1 == 45) V V9 → V9 (mo) = some (.inr (13, hm_o q (m_tp) (m_sz) (m_fr) (m_bh) (m_hd) (m_ft) (m_fa) (z89) (fo8) (m_as) (m_fd) (m_bc) (m_bg) (m_bs) (m_be) (m_b0) (m_b1) (m_cm) (m_hc))) → V9 (q + 28) = some (.inl (cs 1, 4, .inl (ff4))) → V9 (q + 30) = some (.inl (cs 1, 4, .inl (fr4))) → 0 ≤ i3.toInt → i3.toInt ≤ 62 → (fr4 fo8.toNatClampNeg).toInt = 1 + i3.toInt → lv_has ls 10 [(9, .int (i3)), (8, .int (k)), (7, .int (h)), (6, .int (r114)), (5, .int (r67)), (4, .int (r12)), (0, .ref (mo)), (1, .int (v)), (2, .int (te)), (3, .int (pe))] → W p l e ({ frames := 5, cells := 0, slots := 0, locals := 121 }) s m ([.ref (mo), .int (v), .int (te), .int (pe)] : List Value).toArray below meth c H9 locs9 0 0 (MQ below (hp_QV D cs B (fun V' n' => n = n' ∧ hq_P cs G (fun g => g.1 == 1 || g.1 == 43 || g.1 == 44 || g.1 == 45) V V' ∧ (∃ (m_fo1 : Int32) (m_le1 : Int32), V' mo = some (.inr (13, hm_o q (m_tp) (m_sz) (m_fr) (m_bh) (m_hd) (m_ft) (m_fa) (m_le1) (m_fo1) (m_as) (m_fd) (m_bc) (m_bg) (m_bs) (m_be) (m_b0) (m_b1) (m_cm) (m_hc))) ∧ (0 ≤ m_le1.toInt ∧ m_le1.toInt ≤ 276) ∧ (0 ≤ m_fo1.toInt ∧ m_fo1.toInt ≤ 4)) ∧ (V' (q + 14) = some (.inl (cs 1, 120, .inl (fs)))) ∧ (V' (q + 15) = some (.inl (cs 1, 120, .inl (ss)))) ∧ (V' (q + 10) = some (.inl (cs 1, 120, .inl (fk)))) ∧ (V' (q + 2) = some (.inl (cs 1, 2, .inl (fl)))))) ([.ref (mo), .int (v), .int (te), .int (pe)] : List Value).toArray s 0 0 (hp_F B)) (F0 m 219 ls []) from lp219 _ _ _ _ ls (0) (g231) rfl hZ hP ho228 ho229 ho230 (by omega) (by omega) (by omega) (lv_sub hl [0, 1, 2, 3, 4, 5, 6, 7, 8, 9] rfl)
                    intro k9
                    induction k9 using Nat.strongRecOn with
                    | _ k9 ih219 =>
                      intro V9 H9 locs9 ls i3 fr4 hk219 hZ hP ho235 ho236 ho237 hv238 hv239 hv240 hl
                      have hb_i3 := hq_rng i3
                      have hP_219 := hP
                      have hf241 := hq_rg hP.1 (hr_28 hR) ho236
                      have hf242 := hq_rg hP.1 (hr_30 hR) ho237
                      refine lv_iload hx hb dX13_all_219 (lv_at hl 0 rfl) ?_
                      refine lv_aload_n hx hb dX13_all_221 rfl (lv_at hl 6 rfl) ?_
                      refine hp_get (v := .ref (q + 35)) hx hb hts hown hZ ho235 fl_X13_256 rfl dX13_all_222 ?_
                      refine lv_iload hx hb dX13_all_225 (lv_at hl 2 rfl) ?_
                      obtain ⟨hN245, g244, eV243, hf246⟩ := hq_o21 hP.1 (hr_35 hR)
                      refine hp_iald hx hb hZ eV243 (hq_in (by omega) (by omega)) dX13_all_227 ?_
                      refine lv_topi (fun y247 ey248 => ?_)
                      have b250 : (y247).toInt = ((g244) (h : Int32).toNatClampNeg).toInt := by rw [ey248]
                      have b249 : hq_ir (hq_lo 10) (hq_hi 10) y247 := by rw [ey248]; exact hf246 _ (hq_ix (by omega) (by omega))
                      have b249 : 0 ≤ (y247).toInt ∧ (y247).toInt ≤ 62 := b249
                      refine lv_icmp_ge (tgt := 255) hx hb dX13_all_228 (by decide) (fun c251 => ?_) (fun c251 => ?_)
                      · have c251 : (y247).toInt ≤ (i3).toInt := hq_lei.mp c251
                        refine lv_iconst (v := 0) hx hb dX13_all_255 (by decide) ?_
                        refine lv_istore (lv' := [(9, .int (0)), (8, .int (k)), (7, .int (h)), (6, .int (r114)), (5, .int (r67)), (4, .int (r12)), (0, .ref (mo)), (1, .int (v)), (2, .int (te)), (3, .int (pe))]) hx hb dX13_all_256 hl (by decide) rfl (fun ls hl => ?_)
                        have hl252 : (0 : Int32).toInt = 0 := by decide
                        suffices lp258 : ∀ (k9 : Nat) (V9 : hp_V) (H9 : Heap) (locs9 : List Loc) (ls : Array Slot) (i2 : Int32) (fr3 : Nat → Int32), (100 - i2.toInt).toNat = k9 → hp_Z D cs B s V9 H9 n locs9 → hq_P cs G (fun g => g.1 == 1 || g.1 == 43 || g.1 == 44 || g.1 == 45) V V9 → V9 (mo) = some (.inr (13, hm_o q (m_tp) (m_sz) (m_fr) (m_bh) (m_hd) (m_ft) (m_fa) (z89) (fo8) (m_as) (m_fd) (m_bc) (m_bg) (m_bs) (m_be) (m_b0) (m_b1) (m_cm) (m_hc))) → V9 (q + 28) = some (.inl (cs 1, 4, .inl (ff4))) → V9 (q + 30) = some (.inl (cs 1, 4, .inl (fr3))) → 0 ≤ i2.toInt → i2.toInt ≤ 62 → (fr3 fo8.toNatClampNeg).toInt ≤ 63 + i2.toInt → lv_has ls 10 [(9, .int (i2)), (8, .int (k)), (7, .int (h)), (6, .int (r114)), (5, .int (r67)), (4, .int (r12)), (0, .ref (mo)), (1, .int (v)), (2, .int (te)), (3, .int (pe))] → W p l e ({ frames := 5, cells := 0, slots := 0, locals := 121 }) s m ([.ref (mo), .int (v), .int (te), .int (pe)] : List Value).toArray below meth c H9 locs9 0 0 (MQ below (hp_QV D cs B (fun V' n' => n = n' ∧ hq_P cs G (fun g => g.1 == 1 || g.1 == 43 || g.1 == 44 || g.1 == 45) V V' ∧ (∃ (m_fo1 : Int32) (m_le1 : Int32), V' mo = some (.inr (13, hm_o q (m_tp) (m_sz) (m_fr) (m_bh) (m_hd) (m_ft) (m_fa) (m_le1) (m_fo1) (m_as) (m_fd) (m_bc) (m_bg) (m_bs) (m_be) (m_b0) (m_b1) (m_cm) (m_hc))) ∧ (0 ≤ m_le1.toInt ∧ m_le1.toInt ≤ 276) ∧ (0 ≤ m_fo1.toInt ∧ m_fo1.toInt ≤ 4)) ∧ (V' (q + 14) = some (.inl (cs 1, 120, .inl (fs)))) ∧ (V' (q + 15) = some (.inl (cs 1, 120, .inl (ss)))) ∧ (V' (q + 10) = some (.inl (cs 1, 120, .inl (fk)))) ∧ (V' (q + 2) = some (.inl (cs 1, 2, .inl (fl)))))) ([.ref (mo), .int (v), .int (te), .int (pe)] : List Value).toArray s 0 0 (hp_F B)) (F0 m 258 ls []) from lp258 _ _ _ _ ls (0) (fr4) rfl hZ hP ho235 ho236 ho237 (by omega) (by omega) (by omega) (lv_sub hl [0, 1, 2, 3, 4, 5, 6, 7, 8, 9] rfl)
                        intro k9
                        induction k9 using Nat.strongRecOn with
                        | _ k9 ih258 =>
                          intro V9 H9 locs9 ls i2 fr3 hk258 hZ hP ho253 ho254 ho255 hv256 hv257 hv258 hl
                          have hb_i2 := hq_rng i2
                          have hP_258 := hP
                          have hf259 := hq_rg hP.1 (hr_28 hR) ho254
                          have hf260 := hq_rg hP.1 (hr_30 hR) ho255
                          refine lv_iload hx hb dX13_all_258 (lv_at hl 0 rfl) ?_
                          refine lv_aload_n hx hb dX13_all_260 rfl (lv_at hl 6 rfl) ?_
                          refine hp_get (v := .ref (q + 36)) hx hb hts hown hZ ho253 fl_X13_259 rfl dX13_all_261 ?_
                          refine lv_iload hx hb dX13_all_264 (lv_at hl 1 rfl) ?_
                          obtain ⟨hN263, g262, eV261, hf264⟩ := hq_o21 hP.1 (hr_36 hR)
                          refine hp_iald hx hb hZ eV261 (hq_in (by omega) (by omega)) dX13_all_266 ?_
                          refine lv_topi (fun y265 ey266 => ?_)
                          have b268 : (y265).toInt = ((g262) (k : Int32).toNatClampNeg).toInt := by rw [ey266]
                          have b267 : hq_ir (hq_lo 10) (hq_hi 10) y265 := by rw [ey266]; exact hf264 _ (hq_ix (by omega) (by omega))
                          have b267 : 0 ≤ (y265).toInt ∧ (y265).toInt ≤ 62 := b267
                          refine lv_icmp_ge (tgt := 294) hx hb dX13_all_267 (by decide) (fun c269 => ?_) (fun c269 => ?_)
                          · have c269 : (y265).toInt ≤ (i2).toInt := hq_lei.mp c269
                            refine lv_aload_n hx hb dX13_all_294 rfl (lv_at hl 6 rfl) ?_
                            refine lv_dup hx hb dX13_all_295 rfl ?_
                            refine hp_get (v := .int (fo8)) hx hb hts hown hZ ho253 fl_X13_344 rfl dX13_all_296 ?_
                            refine lv_iconst (v := 1) hx hb dX13_all_299 (by decide) ?_
                            refine lv_iadd hx hb dX13_all_300 ?_
                            refine lv_topi (fun y270 ey271 => ?_)
                            obtain ⟨k272, hk273, b274, b275⟩ := hq_add (fo8) (1)
                            rw [← ey271] at hk273 b274 b275
                            have hk273 : (y270).toInt = (fo8).toInt + (1 : Int) + k272 * 4294967296 := hk273
                            obtain rfl : k272 = 0 := by omega
                            refine hp_put hx hb hts hown hZ ho253 fp_X13_344 rfl rfl (Nat.le_of_ble_eq_true rfl) dX13_all_301 (fun V276 _ _ e277 o278 hZ => ?_)
                            have e277 : V276 (mo) = some (.inr (13, hm_o q (m_tp) (m_sz) (m_fr) (m_bh) (m_hd) (m_ft) (m_fa) (z89) (y270) (m_as) (m_fd) (m_bc) (m_bg) (m_bs) (m_be) (m_b0) (m_b1) (m_cm) (m_hc))) := e277
                            have hP := hP.put h_mo e277 o278 (trivial) rfl
                            obtain ⟨y279, ey280⟩ : ∃ y : Int32, y = k + (1) := ⟨_, rfl⟩
                            obtain ⟨k281, hk282, b283, b284⟩ := hq_add (k) (1)
                            rw [← ey280] at hk282 b283 b284
                            have hk282 : (y279).toInt = (k).toInt + (1) + k281 * 4294967296 := hk282
                            refine lv_iinc (v := y279) (lv' := [(8, .int (y279)), (9, .int (i2)), (7, .int (h)), (6, .int (r114)), (5, .int (r67)), (4, .int (r12)), (0, .ref (mo)), (1, .int (v)), (2, .int (te)), (3, .int (pe))]) hx hb dX13_all_304 hl (k := 1) rfl (by rw [ey280]; rfl) (by decide) rfl (fun ls hl => ?_)
                            refine lv_goto (tgt := 117) hx hb dX13_all_307 (by decide) ?_
                            have fx285 : V276 (q + 28) = some (.inl (cs 1, 4, .inl (ff4))) := (o278 (q + 28) (hq_tne (hr_28 hR) h_mo (by simp))).trans (ho254)
                            have fx286 : V276 (q + 30) = some (.inl (cs 1, 4, .inl (fr3))) := (o278 (q + 30) (hq_tne (hr_30 hR) h_mo (by simp))).trans (ho255)
                            exact ih117 _ (by omega) _ _ _ ls (y279) (y270) (ff4) (fr3) rfl hZ hP e277 fx285 fx286 (by omega) (by omega) (by omega) (lv_sub hl [0, 2, 3, 4, 5, 6, 7, 8, 9] rfl)
                          · have c269 : ¬ (y265).toInt ≤ (i2).toInt := fun h9 => c269 (hq_lei.mpr h9)
                            refine lv_aload_n hx hb dX13_all_270 rfl (lv_at hl 6 rfl) ?_
                            refine lv_aload_n hx hb dX13_all_271 rfl (lv_at hl 6 rfl) ?_
                            refine hp_get (v := .ref (q + 34)) hx hb hts hown hZ ho253 fl_X13_253 rfl dX13_all_272 ?_
                            refine lv_sipush (v := 140) hx hb dX13_all_275 (by decide) ?_
                            refine lv_iload hx hb dX13_all_278 (lv_at hl 1 rfl) ?_
                            refine lv_imul hx hb dX13_all_280 ?_
                            refine lv_topi (fun y287 ey288 => ?_)
                            obtain ⟨k289, hk290, b291, b292⟩ := hq_mul (140) (k)
                            rw [← ey288] at hk290 b291 b292
                            have hk290 : (y287).toInt = (140 : Int) * (k).toInt + k289 * 4294967296 := hk290
                            obtain rfl : k289 = 0 := by omega
                            refine lv_iload hx hb dX13_all_281 (lv_at hl 0 rfl) ?_
                            refine lv_iadd hx hb dX13_all_283 ?_
                            refine lv_topi (fun y293 ey294 => ?_)
                            obtain ⟨k295, hk296, b297, b298⟩ := hq_add (y287) (i2)
                            rw [← ey294] at hk296 b297 b298
                            have hk296 : (y293).toInt = (y287).toInt + (i2).toInt + k295 * 4294967296 := hk296
                            obtain rfl : k295 = 0 := by omega
                            obtain ⟨hN301, g300, eV299, hf302⟩ := hq_o21 hP.1 (hr_34 hR)
                            refine hp_iald hx hb hZ eV299 (hq_in (by omega) (by omega)) dX13_all_284 ?_
                            refine lv_topi (fun y303 ey304 => ?_)
                            have b306 : (y303).toInt = ((g300) (y293 : Int32).toNatClampNeg).toInt := by rw [ey304]
                            have b305 : hq_ir (hq_lo 4) (hq_hi 4) y303 := by rw [ey304]; exact hf302 _ (hq_ix (by omega) (by omega))
                            have b305 : 0 ≤ (y303).toInt ∧ (y303).toInt ≤ 59 := b305
                            refine hp_callv (hp_runV (As := [.int (y303)]) (rest := []) hx hb hml hown hts (t_X13_note l D cs B G  V9 n hP.1 q hR (mo) h_mo (y303) ho253  (by omega) (by omega) (by omega) (by omega) (by omega) (by omega) (by omega) (by omega) ho254 ho255 (by omega) (by omega) (by omega) (by omega)) hZ ho253 cv_X13_357 rfl rfl ⟨Nat.le_of_ble_eq_true rfl, Nat.le_of_ble_eq_true rfl⟩ rfl hl.1 rfl (Nat.le_of_ble_eq_true rfl) dX13_all_285 ⟨(Nat.le_of_ble_eq_true rfl), (Nat.le_of_ble_eq_true rfl)⟩) hZ (fun V307 n308 _ _ hw309 hZ => ?_)
                            obtain ⟨rfl, hq311, ho313, ho314, ⟨g316, ho315, hi317⟩⟩ := hw309
                            have hP := hP.trans hq311 (by intro g h; simp_all)
                            have hf318 := hq_rg hP.1 (hr_30 hR) ho315
                            obtain ⟨y319, ey320⟩ : ∃ y : Int32, y = i2 + (1) := ⟨_, rfl⟩
                            obtain ⟨k321, hk322, b323, b324⟩ := hq_add (i2) (1)
                            rw [← ey320] at hk322 b323 b324
                            have hk322 : (y319).toInt = (i2).toInt + (1) + k321 * 4294967296 := hk322
                            refine lv_iinc (v := y319) (lv' := [(9, .int (y319)), (8, .int (k)), (7, .int (h)), (6, .int (r114)), (5, .int (r67)), (4, .int (r12)), (0, .ref (mo)), (1, .int (v)), (2, .int (te)), (3, .int (pe))]) hx hb dX13_all_288 hl (k := 0) rfl (by rw [ey320]; rfl) (by decide) rfl (fun ls hl => ?_)
                            refine lv_goto (tgt := 258) hx hb dX13_all_291 (by decide) ?_
                            exact ih258 _ (by omega) _ _ _ ls (y319) (g316) rfl hZ hP ho313 ho314 ho315 (by omega) (by omega) (by omega) (lv_sub hl [0, 1, 2, 3, 4, 5, 6, 7, 8, 9] rfl)
                      · have c251 : ¬ (y247).toInt ≤ (i3).toInt := fun h9 => c251 (hq_lei.mpr h9)
                        refine lv_aload_n hx hb dX13_all_231 rfl (lv_at hl 6 rfl) ?_
                        refine lv_aload_n hx hb dX13_all_232 rfl (lv_at hl 6 rfl) ?_
                        refine hp_get (v := .ref (q + 33)) hx hb hts hown hZ ho235 fl_X13_250 rfl dX13_all_233 ?_
                        refine lv_sipush (v := 140) hx hb dX13_all_236 (by decide) ?_
                        refine lv_iload hx hb dX13_all_239 (lv_at hl 2 rfl) ?_
                        refine lv_imul hx hb dX13_all_241 ?_
                        refine lv_topi (fun y325 ey326 => ?_)
                        obtain ⟨k327, hk328, b329, b330⟩ := hq_mul (140) (h)
                        rw [← ey326] at hk328 b329 b330
                        have hk328 : (y325).toInt = (140 : Int) * (h).toInt + k327 * 4294967296 := hk328
                        obtain rfl : k327 = 0 := by omega
                        refine lv_iload hx hb dX13_all_242 (lv_at hl 0 rfl) ?_
                        refine lv_iadd hx hb dX13_all_244 ?_
                        refine lv_topi (fun y331 ey332 => ?_)
                        obtain ⟨k333, hk334, b335, b336⟩ := hq_add (y325) (i3)
                        rw [← ey332] at hk334 b335 b336
                        have hk334 : (y331).toInt = (y325).toInt + (i3).toInt + k333 * 4294967296 := hk334
                        obtain rfl : k333 = 0 := by omega
                        obtain ⟨hN339, g338, eV337, hf340⟩ := hq_o21 hP.1 (hr_33 hR)
                        refine hp_iald hx hb hZ eV337 (hq_in (by omega) (by omega)) dX13_all_245 ?_
                        refine lv_topi (fun y341 ey342 => ?_)
                        have b344 : (y341).toInt = ((g338) (y331 : Int32).toNatClampNeg).toInt := by rw [ey342]
                        have b343 : hq_ir (hq_lo 4) (hq_hi 4) y341 := by rw [ey342]; exact hf340 _ (hq_ix (by omega) (by omega))
                        have b343 : 0 ≤ (y341).toInt ∧ (y341).toInt ≤ 59 := b343
                        refine hp_callv (hp_runV (As := [.int (y341)]) (rest := []) hx hb hml hown hts (t_X13_note l D cs B G  V9 n hP.1 q hR (mo) h_mo (y341) ho235  (by omega) (by omega) (by omega) (by omega) (by omega) (by omega) (by omega) (by omega) ho236 ho237 (by omega) (by omega) (by omega) (by omega)) hZ ho235 cv_X13_357 rfl rfl ⟨Nat.le_of_ble_eq_true rfl, Nat.le_of_ble_eq_true rfl⟩ rfl hl.1 rfl (Nat.le_of_ble_eq_true rfl) dX13_all_246 ⟨(Nat.le_of_ble_eq_true rfl), (Nat.le_of_ble_eq_true rfl)⟩) hZ (fun V345 n346 _ _ hw347 hZ => ?_)
                        obtain ⟨rfl, hq349, ho351, ho352, ⟨g354, ho353, hi355⟩⟩ := hw347
                        have hP := hP.trans hq349 (by intro g h; simp_all)
                        have hf356 := hq_rg hP.1 (hr_30 hR) ho353
                        obtain ⟨y357, ey358⟩ : ∃ y : Int32, y = i3 + (1) := ⟨_, rfl⟩
                        obtain ⟨k359, hk360, b361, b362⟩ := hq_add (i3) (1)
                        rw [← ey358] at hk360 b361 b362
                        have hk360 : (y357).toInt = (i3).toInt + (1) + k359 * 4294967296 := hk360
                        refine lv_iinc (v := y357) (lv' := [(9, .int (y357)), (8, .int (k)), (7, .int (h)), (6, .int (r114)), (5, .int (r67)), (4, .int (r12)), (0, .ref (mo)), (1, .int (v)), (2, .int (te)), (3, .int (pe))]) hx hb dX13_all_249 hl (k := 0) rfl (by rw [ey358]; rfl) (by decide) rfl (fun ls hl => ?_)
                        refine lv_goto (tgt := 219) hx hb dX13_all_252 (by decide) ?_
                        exact ih219 _ (by omega) _ _ _ ls (y357) (g354) rfl hZ hP ho351 ho352 ho353 (by omega) (by omega) (by omega) (lv_sub hl [0, 1, 2, 3, 4, 5, 6, 7, 8, 9] rfl)
                  · have c221 : ¬ (y217).toInt ≤ (i4).toInt := fun h9 => c221 (hq_lei.mpr h9)
                    refine lv_aload_n hx hb dX13_all_187 rfl (lv_at hl 6 rfl) ?_
                    refine lv_aload_n hx hb dX13_all_188 rfl (lv_at hl 6 rfl) ?_
                    refine hp_get (v := .ref (q + 27)) hx hb hts hown hZ ho204 fl_X13_232 rfl dX13_all_189 ?_
                    refine lv_bipush (v := 61) hx hb dX13_all_192 (by decide) ?_
                    refine lv_iload hx hb dX13_all_194 (lv_at hl 1 rfl) ?_
                    refine lv_imul hx hb dX13_all_196 ?_
                    refine lv_topi (fun y363 ey364 => ?_)
                    obtain ⟨k365, hk366, b367, b368⟩ := hq_mul (61) (k)
                    rw [← ey364] at hk366 b367 b368
                    have hk366 : (y363).toInt = (61 : Int) * (k).toInt + k365 * 4294967296 := hk366
                    obtain rfl : k365 = 0 := by omega
                    refine lv_iload hx hb dX13_all_197 (lv_at hl 0 rfl) ?_
                    refine lv_iadd hx hb dX13_all_199 ?_
                    refine lv_topi (fun y369 ey370 => ?_)
                    obtain ⟨k371, hk372, b373, b374⟩ := hq_add (y363) (i4)
                    rw [← ey370] at hk372 b373 b374
                    have hk372 : (y369).toInt = (y363).toInt + (i4).toInt + k371 * 4294967296 := hk372
                    obtain rfl : k371 = 0 := by omega
                    obtain ⟨hN377, g376, eV375⟩ := hq_o20 hP.1 (hr_27 hR)
                    refine hp_bald hx hb hZ eV375 (hq_in (by omega) (by omega)) dX13_all_200 ?_
                    refine lv_topi (fun y379 ey380 => ?_)
                    have b382 : (y379).toInt = ((g376) (y369 : Int32).toNatClampNeg).toInt := by rw [ey380]
                    have b381 := hq_rng y379
                    refine hp_callv (hp_runV (As := [.int (y379)]) (rest := []) hx hb hml hown hts (t_X13_say l D cs B G  V9 n hP.1 q hR (mo) h_mo (y379) ho204  (by omega) (by omega) (by omega) (by omega) (by omega) (by omega) (by omega) (by omega) ho205 ho206 (by omega) (by omega)) hZ ho204 cv_X13_354 rfl rfl ⟨Nat.le_of_ble_eq_true rfl, Nat.le_of_ble_eq_true rfl⟩ rfl hl.1 rfl (Nat.le_of_ble_eq_true rfl) dX13_all_201 ⟨(Nat.le_of_ble_eq_true rfl), (Nat.le_of_ble_eq_true rfl)⟩) hZ (fun V383 n384 _ _ hw385 hZ => ?_)
                    obtain ⟨rfl, hq387, ho389, ⟨g391, ho390, hi392⟩, ho393⟩ := hw385
                    have hP := hP.trans hq387 (by intro g h; simp_all)
                    have hf394 := hq_rg hP.1 (hr_28 hR) ho390
                    obtain ⟨y395, ey396⟩ : ∃ y : Int32, y = i4 + (1) := ⟨_, rfl⟩
                    obtain ⟨k397, hk398, b399, b400⟩ := hq_add (i4) (1)
                    rw [← ey396] at hk398 b399 b400
                    have hk398 : (y395).toInt = (i4).toInt + (1) + k397 * 4294967296 := hk398
                    refine lv_iinc (v := y395) (lv' := [(9, .int (y395)), (8, .int (k)), (7, .int (h)), (6, .int (r114)), (5, .int (r67)), (4, .int (r12)), (0, .ref (mo)), (1, .int (v)), (2, .int (te)), (3, .int (pe))]) hx hb dX13_all_204 hl (k := 0) rfl (by rw [ey396]; rfl) (by decide) rfl (fun ls hl => ?_)
                    refine lv_goto (tgt := 175) hx hb dX13_all_207 (by decide) ?_
                    exact ih175 _ (by omega) _ _ _ ls (y395) (g391) rfl hZ hP ho389 ho390 ho393 (by omega) (by omega) (by omega) (by omega) (lv_sub hl [0, 1, 2, 3, 4, 5, 6, 7, 8, 9] rfl)
              · have c189 : ¬ (y185).toInt ≤ (i).toInt := fun h9 => c189 (hq_lei.mpr h9)
                refine lv_aload_n hx hb dX13_all_143 rfl (lv_at hl 6 rfl) ?_
                refine lv_aload_n hx hb dX13_all_144 rfl (lv_at hl 6 rfl) ?_
                refine hp_get (v := .ref (q + 26)) hx hb hts hown hZ ho173 fl_X13_229 rfl dX13_all_145 ?_
                refine lv_bipush (v := 61) hx hb dX13_all_148 (by decide) ?_
                refine lv_iload hx hb dX13_all_150 (lv_at hl 2 rfl) ?_
                refine lv_imul hx hb dX13_all_152 ?_
                refine lv_topi (fun y401 ey402 => ?_)
                obtain ⟨k403, hk404, b405, b406⟩ := hq_mul (61) (h)
                rw [← ey402] at hk404 b405 b406
                have hk404 : (y401).toInt = (61 : Int) * (h).toInt + k403 * 4294967296 := hk404
                obtain rfl : k403 = 0 := by omega
                refine lv_iload hx hb dX13_all_153 (lv_at hl 0 rfl) ?_
                refine lv_iadd hx hb dX13_all_155 ?_
                refine lv_topi (fun y407 ey408 => ?_)
                obtain ⟨k409, hk410, b411, b412⟩ := hq_add (y401) (i)
                rw [← ey408] at hk410 b411 b412
                have hk410 : (y407).toInt = (y401).toInt + (i).toInt + k409 * 4294967296 := hk410
                obtain rfl : k409 = 0 := by omega
                obtain ⟨hN415, g414, eV413⟩ := hq_o20 hP.1 (hr_26 hR)
                refine hp_bald hx hb hZ eV413 (hq_in (by omega) (by omega)) dX13_all_156 ?_
                refine lv_topi (fun y417 ey418 => ?_)
                have b420 : (y417).toInt = ((g414) (y407 : Int32).toNatClampNeg).toInt := by rw [ey418]
                have b419 := hq_rng y417
                refine hp_callv (hp_runV (As := [.int (y417)]) (rest := []) hx hb hml hown hts (t_X13_say l D cs B G  V9 n hP.1 q hR (mo) h_mo (y417) ho173  (by omega) (by omega) (by omega) (by omega) (by omega) (by omega) (by omega) (by omega) ho174 ho175 (by omega) (by omega)) hZ ho173 cv_X13_354 rfl rfl ⟨Nat.le_of_ble_eq_true rfl, Nat.le_of_ble_eq_true rfl⟩ rfl hl.1 rfl (Nat.le_of_ble_eq_true rfl) dX13_all_157 ⟨(Nat.le_of_ble_eq_true rfl), (Nat.le_of_ble_eq_true rfl)⟩) hZ (fun V421 n422 _ _ hw423 hZ => ?_)
                obtain ⟨rfl, hq425, ho427, ⟨g429, ho428, hi430⟩, ho431⟩ := hw423
                have hP := hP.trans hq425 (by intro g h; simp_all)
                have hf432 := hq_rg hP.1 (hr_28 hR) ho428
                obtain ⟨y433, ey434⟩ : ∃ y : Int32, y = i + (1) := ⟨_, rfl⟩
                obtain ⟨k435, hk436, b437, b438⟩ := hq_add (i) (1)
                rw [← ey434] at hk436 b437 b438
                have hk436 : (y433).toInt = (i).toInt + (1) + k435 * 4294967296 := hk436
                refine lv_iinc (v := y433) (lv' := [(9, .int (y433)), (8, .int (k)), (7, .int (h)), (6, .int (r114)), (5, .int (r67)), (4, .int (r12)), (0, .ref (mo)), (1, .int (v)), (2, .int (te)), (3, .int (pe))]) hx hb dX13_all_160 hl (k := 0) rfl (by rw [ey434]; rfl) (by decide) rfl (fun ls hl => ?_)
                refine lv_goto (tgt := 131) hx hb dX13_all_163 (by decide) ?_
                exact ih131 _ (by omega) _ _ _ ls (y433) (g429) rfl hZ hP ho427 ho428 ho431 (by omega) (by omega) (by omega) (lv_sub hl [0, 1, 2, 3, 4, 5, 6, 7, 8, 9] rfl)
  · have c17 : (r12).toInt = (-1 : Int) := hq_eqi.mp c17
    refine lv_aload_n hx hb dX13_all_15 rfl (lv_at hl 1 rfl) ?_
    refine lv_iload_n hx hb dX13_all_16 rfl (lv_at hl 2 rfl) ?_
    refine lv_iload_n hx hb dX13_all_17 rfl (lv_at hl 3 rfl) ?_
    refine lv_iload_n hx hb dX13_all_18 rfl (lv_at hl 4 rfl) ?_
    have hH9 := hH.keep hR (fun x t hx hg => hP.2 x t hx (by simp [hg]))
    have fx451 : V9 (q + 14) = some (.inl (cs 1, 120, .inl (fs))) := (hq13.2 (q + 14) _ (hr_14 hR) rfl).trans (ho_fs)
    have fx453 : V9 (q + 15) = some (.inl (cs 1, 120, .inl (ss))) := (hq13.2 (q + 15) _ (hr_15 hR) rfl).trans (ho_ss)
    have fx455 : V9 (q + 10) = some (.inl (cs 1, 120, .inl (fk))) := (hq13.2 (q + 10) _ (hr_10 hR) rfl).trans (ho_fk)
    have fx457 : V9 (q + 2) = some (.inl (cs 1, 2, .inl (fl))) := (hq13.2 (q + 2) _ (hr_2 hR) rfl).trans (ho_fl)
    have fx459 : V9 (q + 28) = some (.inl (cs 1, 4, .inl (g2))) := (hq13.2 (q + 28) _ (hr_28 hR) rfl).trans (eV1)
    have fx462 : V9 (q + 30) = some (.inl (cs 1, 4, .inl (g6))) := (hq13.2 (q + 30) _ (hr_30 hR) rfl).trans (eV5)
    refine hp_callv (hp_runV (As := [.int (v), .int (te), .int (pe)]) (rest := []) hx hb hml hown hts (t_X13_simple l D cs B G  V9 n hP.1 q hR (mo) h_mo (v) (te) (pe) ho15  (by omega) (by omega) (by omega) (by omega) (by omega) (by omega) (by omega) (by omega) fx451 fx453 fx455 fx457 fx459 fx462 (by omega) (by omega) hH9) hZ ho15 cv_X13_368 rfl rfl ⟨Nat.le_of_ble_eq_true rfl, Nat.le_of_ble_eq_true rfl⟩ rfl hl.1 rfl (Nat.le_of_ble_eq_true rfl) dX13_all_19 ⟨(Nat.le_of_ble_eq_true rfl), (Nat.le_of_ble_eq_true rfl)⟩) hZ (fun V439 n440 _ _ hw441 hZ => ?_)
    obtain ⟨rfl, hq443, ⟨z445, z446, ho447, hi448, hi449, hi450⟩, ho452, ho454, ho456, ho458, ⟨g461, ho460⟩, ⟨g464, ho463⟩⟩ := hw441
    have hP := hP.trans hq443 (by intro g h; simp_all)
    have b465 := hq_rng z446
    have b466 := hq_rng z445
    have hf467 := hq_rg hP.1 (hr_28 hR) ho460
    have hf468 := hq_rg hP.1 (hr_30 hR) ho463
    have hs2 := hm_S2.two (by assumption : hm_S2 V439 q z445)
    exact hp_vret hx hb hr hlocks hZ ⟨rfl, hP, ⟨z445, z446, ho447, by omega, by omega⟩, ho452, ho454, ho456, ho458⟩ dX13_all_22

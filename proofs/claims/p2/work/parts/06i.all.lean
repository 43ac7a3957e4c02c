set_option maxHeartbeats 4000000 in
set_option maxRecDepth 100000 in
theorem t_X13_keep (l : Launch) (D : va_G) (cs : Nat → ClassId) (B : Nat) (G : hq_G) (V : hp_V) (n : Nat) (hI : hq_I cs G V) (q : Nat) (hR : hq_RT G q) (mo : Nat) (h_mo : G mo = some (24, 0, 0, 0)) (to : Nat) (h_to : G to = some (20, 122, 45, 0)) (szs : Nat) (h_szs : G szs = some (21, 2, 9, 45)) (rws : Nat) (h_rws : G rws = some (21, 280, 4, 45)) (rsz : Nat) (h_rsz : G rsz = some (21, 2, 10, 45)) {m_tp m_sz m_fr m_bh m_hd m_ft m_fa m_le m_fo m_as m_fd m_bc m_bg m_bs m_be m_b0 m_b1 m_cm m_hc : Int32} (ho_mo : V mo = some (.inr (13, hm_o q (m_tp) (m_sz) (m_fr) (m_bh) (m_hd) (m_ft) (m_fa) (m_le) (m_fo) (m_as) (m_fd) (m_bc) (m_bg) (m_bs) (m_be) (m_b0) (m_b1) (m_cm) (m_hc)))) (hi_mo0 : 0 ≤ m_tp.toInt ∧ m_tp.toInt ≤ 4000) (hi_mo1 : 0 ≤ m_sz.toInt ∧ m_sz.toInt ≤ 4000) (hi_mo2 : 0 ≤ m_le.toInt ∧ m_le.toInt ≤ 276) (hi_mo3 : 0 ≤ m_fo.toInt ∧ m_fo.toInt ≤ 4) (hi_mo4 : 0 ≤ m_as.toInt ∧ m_as.toInt ≤ 4000) (hi_mo5 : 0 ≤ m_fd.toInt ∧ m_fd.toInt ≤ 900) (hi_mo6 : 0 ≤ m_cm.toInt ∧ m_cm.toInt ≤ 2) (hi_mo7 : 0 ≤ m_hc.toInt ∧ m_hc.toInt ≤ 1) {ff : Nat → Int32} (ho_ff : V (q + 28) = some (.inl (cs 1, 4, .inl (ff)))) {fr : Nat → Int32} (ho_fr : V (q + 30) = some (.inl (cs 1, 4, .inl (fr)))) (hS : hm_S2 V q m_fo) : hp_M l yX13_keep cX13_keep 7 (some .int) ({ frames := 1, cells := 0, slots := 0, locals := 21 }) D cs B V n [.ref (mo), .ref (to), .ref (szs), .ref (rws), .ref (rsz)] (hp_QI D cs B (fun r V' n' => n = n' ∧ hq_P cs G (fun g => g.1 == 45) V V' ∧ (V' mo = some (.inr (13, hm_o q (m_tp) (m_sz) (m_fr) (m_bh) (m_hd) (m_ft) (m_fa) (m_le) (m_fo) (m_as) (m_fd) (m_bc) (m_bg) (m_bs) (m_be) (m_b0) (m_b1) (m_cm) (m_hc)))) ∧ (V' (q + 28) = some (.inl (cs 1, 4, .inl (ff)))) ∧ (V' (q + 30) = some (.inl (cs 1, 4, .inl (fr)))) ∧ (r.toInt = m_fo.toInt))) 0 0 := by
  refine hp_walk (R0 := RX13) (by decide) rfl ?_ (Nat.le_of_ble_eq_true rfl)
  intro p e s m below meth c ls hx hb hr hts hown hlocks hin hml hZ hl
  have hP : hq_P cs G (fun g => g.1 == 45) V V := hq_P.rf hI
  have hl : lv_has ls 7 [(0, .ref (mo)), (1, .ref (to)), (2, .ref (szs)), (3, .ref (rws)), (4, .ref (rsz))] := hl
  have hb_m_tp := hq_rng m_tp
  have hb_m_sz := hq_rng m_sz
  have hb_m_fr := hq_rng m_fr
  have hb_m_bh := hq_rng m_bh
  have hb_m_hd := hq_rng m_hd
  have hb_m_ft := hq_rng m_ft
  have hb_m_fa := hq_rng m_fa
  have hb_m_le := hq_rng m_le
  have hb_m_fo := hq_rng m_fo
  have hb_m_as := hq_rng m_as
  have hb_m_fd := hq_rng m_fd
  have hb_m_bc := hq_rng m_bc
  have hb_m_bg := hq_rng m_bg
  have hb_m_bs := hq_rng m_bs
  have hb_m_be := hq_rng m_be
  have hb_m_b0 := hq_rng m_b0
  have hb_m_b1 := hq_rng m_b1
  have hb_m_cm := hq_rng m_cm
  have hb_m_hc := hq_rng m_hc
  have hf_ff := hq_rg hI (hr_28 hR) ho_ff
  have hf_fr := hq_rg hI (hr_30 hR) ho_fr
  have hS2 := hS.two
  refine lv_iconst (v := 0) hx hb dX13_keep_0 (by decide) ?_
  refine lv_istore (lv' := [(5, .int (0)), (0, .ref (mo)), (1, .ref (to)), (2, .ref (szs)), (3, .ref (rws)), (4, .ref (rsz))]) hx hb dX13_keep_1 hl (by decide) rfl (fun ls hl => ?_)
  have hl1 : (0 : Int32).toInt = 0 := by decide
  suffices lp3 : ∀ (k9 : Nat) (V9 : hp_V) (H9 : Heap) (locs9 : List Loc) (ls : Array Slot) (k : Int32), (100 - k.toInt).toNat = k9 → hp_Z D cs B s V9 H9 n locs9 → hq_P cs G (fun g => g.1 == 45) V V9 → 0 ≤ k.toInt → k.toInt ≤ 2 → lv_has ls 7 [(5, .int (k)), (0, .ref (mo)), (1, .ref (to)), (2, .ref (szs)), (3, .ref (rws)), (4, .ref (rsz))] → W p l e ({ frames := 1, cells := 0, slots := 0, locals := 21 }) s m ([.ref (mo), .ref (to), .ref (szs), .ref (rws), .ref (rsz)] : List Value).toArray below meth c H9 locs9 0 0 (MQ below (hp_QI D cs B (fun r V' n' => n = n' ∧ hq_P cs G (fun g => g.1 == 45) V V' ∧ (V' mo = some (.inr (13, hm_o q (m_tp) (m_sz) (m_fr) (m_bh) (m_hd) (m_ft) (m_fa) (m_le) (m_fo) (m_as) (m_fd) (m_bc) (m_bg) (m_bs) (m_be) (m_b0) (m_b1) (m_cm) (m_hc)))) ∧ (V' (q + 28) = some (.inl (cs 1, 4, .inl (ff)))) ∧ (V' (q + 30) = some (.inl (cs 1, 4, .inl (fr)))) ∧ (r.toInt = m_fo.toInt))) ([.ref (mo), .ref (to), .ref (szs), .ref (rws), .ref (rsz)] : List Value).toArray s 0 0 (hp_F B)) (F0 m 3 ls []) from lp3 _ _ _ _ ls (0) rfl hZ hP (by omega) (by omega) (lv_sub hl [0, 1, 2, 3, 4, 5] rfl)
  intro k9
  induction k9 using Nat.strongRecOn with
  | _ k9 ih3 =>
    intro V9 H9 locs9 ls k  hk3 hZ hP  hv2 hv3 hl
    have hb_k := hq_rng k
    have hP_3 := hP
    refine lv_iload hx hb dX13_keep_3 (lv_at hl 0 rfl) ?_
    refine lv_aload_n hx hb dX13_keep_5 rfl (lv_at hl 1 rfl) ?_
    have fx4 : V9 (mo) = some (.inr (13, hm_o q (m_tp) (m_sz) (m_fr) (m_bh) (m_hd) (m_ft) (m_fa) (m_le) (m_fo) (m_as) (m_fd) (m_bc) (m_bg) (m_bs) (m_be) (m_b0) (m_b1) (m_cm) (m_hc))) := (hP_3.2 (mo) _ h_mo rfl).trans (ho_mo)
    refine hp_get (v := .int (m_fo)) hx hb hts hown hZ fx4 fl_X13_344 rfl dX13_keep_6 ?_
    refine lv_icmp_ge (tgt := 131) hx hb dX13_keep_9 (by decide) (fun c5 => ?_) (fun c5 => ?_)
    · have c5 : (m_fo).toInt ≤ (k).toInt := hq_lei.mp c5
      refine lv_aload_n hx hb dX13_keep_131 rfl (lv_at hl 1 rfl) ?_
      refine hp_get (v := .int (m_fo)) hx hb hts hown hZ fx4 fl_X13_344 rfl dX13_keep_132 ?_
      have fx6 : V9 (q + 28) = some (.inl (cs 1, 4, .inl (ff))) := (hP_3.2 (q + 28) _ (hr_28 hR) rfl).trans (ho_ff)
      have fx7 : V9 (q + 30) = some (.inl (cs 1, 4, .inl (fr))) := (hP_3.2 (q + 30) _ (hr_30 hR) rfl).trans (ho_fr)
      exact hp_iret hx hb hr hlocks hZ ⟨rfl, hP, fx4, fx6, fx7, rfl⟩ dX13_keep_135
    · have c5 : ¬ (m_fo).toInt ≤ (k).toInt := fun h9 => c5 (hq_lei.mpr h9)
      have hk9 := hm_S2.at hS ho_ff ho_fr k (by omega) (by omega)
      refine lv_aload_n hx hb dX13_keep_12 rfl (lv_at hl 3 rfl) ?_
      refine lv_iload hx hb dX13_keep_13 (lv_at hl 0 rfl) ?_
      refine lv_aload_n hx hb dX13_keep_15 rfl (lv_at hl 1 rfl) ?_
      refine hp_get (v := .ref (q + 28)) hx hb hts hown hZ fx4 fl_X13_235 rfl dX13_keep_16 ?_
      refine lv_iload hx hb dX13_keep_19 (lv_at hl 0 rfl) ?_
      have fx8 : V9 (q + 28) = some (.inl (cs 1, 4, .inl (ff))) := (hP_3.2 (q + 28) _ (hr_28 hR) rfl).trans (ho_ff)
      refine hp_iald hx hb hZ fx8 (hq_in (by omega) (by omega)) dX13_keep_21 ?_
      refine lv_topi (fun y9 ey10 => ?_)
      have b12 : (y9).toInt = ((ff) (k : Int32).toNatClampNeg).toInt := by rw [ey10]
      have b11 : hq_ir (hq_lo 6) (hq_hi 6) y9 := by rw [ey10]; exact hf_ff _ (hq_ix (by omega) (by omega))
      have b11 : 0 ≤ (y9).toInt ∧ (y9).toInt ≤ 61 := b11
      obtain ⟨hN15, g14, eV13, hf16⟩ := hq_o21 hP.1 h_szs
      refine hp_iast hx hb hZ eV13 (hq_in (by omega) (by omega)) dX13_keep_22 (fun V17 _ _ e18 o19 hZ => ?_)
      have e18 : V17 (szs) = some (.inl (cs 1, 2, .inl (upd (g14) ((k : Int32).toNatClampNeg) (y9)))) := e18
      have hP := hP.put h_szs e18 o19 (hq_c21 (by omega) (hq_upd hf16 (show 0 ≤ _ ∧ _ ≤ 30 by constructor <;> omega))) rfl
      refine lv_aload hx hb dX13_keep_23 (lv_at hl 5 rfl) ?_
      refine lv_iload hx hb dX13_keep_25 (lv_at hl 0 rfl) ?_
      refine lv_aload_n hx hb dX13_keep_27 rfl (lv_at hl 1 rfl) ?_
      have fx20 : V17 (mo) = some (.inr (13, hm_o q (m_tp) (m_sz) (m_fr) (m_bh) (m_hd) (m_ft) (m_fa) (m_le) (m_fo) (m_as) (m_fd) (m_bc) (m_bg) (m_bs) (m_be) (m_b0) (m_b1) (m_cm) (m_hc))) := (o19 (mo) (hq_tne h_mo h_szs (by simp))).trans (fx4)
      refine hp_get (v := .ref (q + 30)) hx hb hts hown hZ fx20 fl_X13_241 rfl dX13_keep_28 ?_
      refine lv_iload hx hb dX13_keep_31 (lv_at hl 0 rfl) ?_
      have fx21 : V17 (q + 30) = some (.inl (cs 1, 4, .inl (fr))) := (o19 (q + 30) (hq_tne (hr_30 hR) h_szs (by simp))).trans ((hP_3.2 (q + 30) _ (hr_30 hR) rfl).trans (ho_fr))
      refine hp_iald hx hb hZ fx21 (hq_in (by omega) (by omega)) dX13_keep_33 ?_
      refine lv_topi (fun y22 ey23 => ?_)
      have b25 : (y22).toInt = ((fr) (k : Int32).toNatClampNeg).toInt := by rw [ey23]
      have b24 : hq_ir (hq_lo 7) (hq_hi 7) y22 := by rw [ey23]; exact hf_fr _ (hq_ix (by omega) (by omega))
      have b24 : 0 ≤ (y22).toInt ∧ (y22).toInt ≤ 140 := b24
      obtain ⟨hN28, g27, eV26, hf29⟩ := hq_o21 hP.1 h_rsz
      refine hp_iast hx hb hZ eV26 (hq_in (by omega) (by omega)) dX13_keep_34 (fun V30 _ _ e31 o32 hZ => ?_)
      have e31 : V30 (rsz) = some (.inl (cs 1, 2, .inl (upd (g27) ((k : Int32).toNatClampNeg) (y22)))) := e31
      have hP := hP.put h_rsz e31 o32 (hq_c21 (by omega) (hq_upd hf29 (show 0 ≤ _ ∧ _ ≤ 62 by constructor <;> omega))) rfl
      refine lv_iconst (v := 0) hx hb dX13_keep_35 (by decide) ?_
      refine lv_istore (lv' := [(6, .int (0)), (5, .int (k)), (0, .ref (mo)), (1, .ref (to)), (2, .ref (szs)), (3, .ref (rws)), (4, .ref (rsz))]) hx hb dX13_keep_36 hl (by decide) rfl (fun ls hl => ?_)
      have hl33 : (0 : Int32).toInt = 0 := by decide
      suffices lp38 : ∀ (k9 : Nat) (V9 : hp_V) (H9 : Heap) (locs9 : List Loc) (ls : Array Slot) (i : Int32), (100 - i.toInt).toNat = k9 → hp_Z D cs B s V9 H9 n locs9 → hq_P cs G (fun g => g.1 == 45) V V9 → 0 ≤ i.toInt → i.toInt ≤ 30 → lv_has ls 7 [(6, .int (i)), (5, .int (k)), (0, .ref (mo)), (1, .ref (to)), (2, .ref (szs)), (3, .ref (rws)), (4, .ref (rsz))] → W p l e ({ frames := 1, cells := 0, slots := 0, locals := 21 }) s m ([.ref (mo), .ref (to), .ref (szs), .ref (rws), .ref (rsz)] : List Value).toArray below meth c H9 locs9 0 0 (MQ below (hp_QI D cs B (fun r V' n' => n = n' ∧ hq_P cs G (fun g => g.1 == 45) V V' ∧ (V' mo = some (.inr (13, hm_o q (m_tp) (m_sz) (m_fr) (m_bh) (m_hd) (m_ft) (m_fa) (m_le) (m_fo) (m_as) (m_fd) (m_bc) (m_bg) (m_bs) (m_be) (m_b0) (m_b1) (m_cm) (m_hc)))) ∧ (V' (q + 28) = some (.inl (cs 1, 4, .inl (ff)))) ∧ (V' (q + 30) = some (.inl (cs 1, 4, .inl (fr)))) ∧ (r.toInt = m_fo.toInt))) ([.ref (mo), .ref (to), .ref (szs), .ref (rws), .ref (rsz)] : List Value).toArray s 0 0 (hp_F B)) (F0 m 38 ls []) from lp38 _ _ _ _ ls (0) rfl hZ hP (by omega) (by omega) (lv_sub hl [0, 1, 2, 3, 4, 5, 6] rfl)
      intro k9
      induction k9 using Nat.strongRecOn with
      | _ k9 ih38 =>
        intro V9 H9 locs9 ls i  hk38 hZ hP  hv34 hv35 hl
        have hb_i := hq_rng i
        have hP_38 := hP
        refine lv_iload hx hb dX13_keep_38 (lv_at hl 0 rfl) ?_
        refine lv_aload_n hx hb dX13_keep_40 rfl (lv_at hl 2 rfl) ?_
        have fx36 : V9 (mo) = some (.inr (13, hm_o q (m_tp) (m_sz) (m_fr) (m_bh) (m_hd) (m_ft) (m_fa) (m_le) (m_fo) (m_as) (m_fd) (m_bc) (m_bg) (m_bs) (m_be) (m_b0) (m_b1) (m_cm) (m_hc))) := (hP_38.2 (mo) _ h_mo rfl).trans (ho_mo)
        refine hp_get (v := .ref (q + 28)) hx hb hts hown hZ fx36 fl_X13_235 rfl dX13_keep_41 ?_
        refine lv_iload hx hb dX13_keep_44 (lv_at hl 1 rfl) ?_
        have fx37 : V9 (q + 28) = some (.inl (cs 1, 4, .inl (ff))) := (hP_38.2 (q + 28) _ (hr_28 hR) rfl).trans (ho_ff)
        refine hp_iald hx hb hZ fx37 (hq_in (by omega) (by omega)) dX13_keep_46 ?_
        refine lv_topi (fun y38 ey39 => ?_)
        have b41 : (y38).toInt = ((ff) (k : Int32).toNatClampNeg).toInt := by rw [ey39]
        have b40 : hq_ir (hq_lo 6) (hq_hi 6) y38 := by rw [ey39]; exact hf_ff _ (hq_ix (by omega) (by omega))
        have b40 : 0 ≤ (y38).toInt ∧ (y38).toInt ≤ 61 := b40
        refine lv_icmp_ge (tgt := 79) hx hb dX13_keep_47 (by decide) (fun c42 => ?_) (fun c42 => ?_)
        · have c42 : (y38).toInt ≤ (i).toInt := hq_lei.mp c42
          refine lv_iconst (v := 0) hx hb dX13_keep_79 (by decide) ?_
          refine lv_istore (lv' := [(6, .int (0)), (5, .int (k)), (0, .ref (mo)), (1, .ref (to)), (2, .ref (szs)), (3, .ref (rws)), (4, .ref (rsz))]) hx hb dX13_keep_80 hl (by decide) rfl (fun ls hl => ?_)
          have hl43 : (0 : Int32).toInt = 0 := by decide
          suffices lp82 : ∀ (k9 : Nat) (V9 : hp_V) (H9 : Heap) (locs9 : List Loc) (ls : Array Slot) (i : Int32), (100 - i.toInt).toNat = k9 → hp_Z D cs B s V9 H9 n locs9 → hq_P cs G (fun g => g.1 == 45) V V9 → 0 ≤ i.toInt → i.toInt ≤ 62 → lv_has ls 7 [(6, .int (i)), (5, .int (k)), (0, .ref (mo)), (1, .ref (to)), (2, .ref (szs)), (3, .ref (rws)), (4, .ref (rsz))] → W p l e ({ frames := 1, cells := 0, slots := 0, locals := 21 }) s m ([.ref (mo), .ref (to), .ref (szs), .ref (rws), .ref (rsz)] : List Value).toArray below meth c H9 locs9 0 0 (MQ below (hp_QI D cs B (fun r V' n' => n = n' ∧ hq_P cs G (fun g => g.1 == 45) V V' ∧ (V' mo = some (.inr (13, hm_o q (m_tp) (m_sz) (m_fr) (m_bh) (m_hd) (m_ft) (m_fa) (m_le) (m_fo) (m_as) (m_fd) (m_bc) (m_bg) (m_bs) (m_be) (m_b0) (m_b1) (m_cm) (m_hc)))) ∧ (V' (q + 28) = some (.inl (cs 1, 4, .inl (ff)))) ∧ (V' (q + 30) = some (.inl (cs 1, 4, .inl (fr)))) ∧ (r.toInt = m_fo.toInt))) ([.ref (mo), .ref (to), .ref (szs), .ref (rws), .ref (rsz)] : List Value).toArray s 0 0 (hp_F B)) (F0 m 82 ls []) from lp82 _ _ _ _ ls (0) rfl hZ hP (by omega) (by omega) (lv_sub hl [0, 1, 2, 3, 4, 5, 6] rfl)
          intro k9
          induction k9 using Nat.strongRecOn with
          | _ k9 ih82 =>
            intro V9 H9 locs9 ls i  hk82 hZ hP  hv44 hv45 hl
            have hb_i := hq_rng i
            have hP_82 := hP
            refine lv_iload hx hb dX13_keep_82 (lv_at hl 0 rfl) ?_
            refine lv_aload_n hx hb dX13_keep_84 rfl (lv_at hl 2 rfl) ?_
            have fx46 : V9 (mo) = some (.inr (13, hm_o q (m_tp) (m_sz) (m_fr) (m_bh) (m_hd) (m_ft) (m_fa) (m_le) (m_fo) (m_as) (m_fd) (m_bc) (m_bg) (m_bs) (m_be) (m_b0) (m_b1) (m_cm) (m_hc))) := (hP_82.2 (mo) _ h_mo rfl).trans (ho_mo)
            refine hp_get (v := .ref (q + 30)) hx hb hts hown hZ fx46 fl_X13_241 rfl dX13_keep_85 ?_
            refine lv_iload hx hb dX13_keep_88 (lv_at hl 1 rfl) ?_
            have fx47 : V9 (q + 30) = some (.inl (cs 1, 4, .inl (fr))) := (hP_82.2 (q + 30) _ (hr_30 hR) rfl).trans (ho_fr)
            refine hp_iald hx hb hZ fx47 (hq_in (by omega) (by omega)) dX13_keep_90 ?_
            refine lv_topi (fun y48 ey49 => ?_)
            have b51 : (y48).toInt = ((fr) (k : Int32).toNatClampNeg).toInt := by rw [ey49]
            have b50 : hq_ir (hq_lo 7) (hq_hi 7) y48 := by rw [ey49]; exact hf_fr _ (hq_ix (by omega) (by omega))
            have b50 : 0 ≤ (y48).toInt ∧ (y48).toInt ≤ 140 := b50
            refine lv_icmp_ge (tgt := 125) hx hb dX13_keep_91 (by decide) (fun c52 => ?_) (fun c52 => ?_)
            · have c52 : (y48).toInt ≤ (i).toInt := hq_lei.mp c52
              obtain ⟨y53, ey54⟩ : ∃ y : Int32, y = k + (1) := ⟨_, rfl⟩
              obtain ⟨k55, hk56, b57, b58⟩ := hq_add (k) (1)
              rw [← ey54] at hk56 b57 b58
              have hk56 : (y53).toInt = (k).toInt + (1) + k55 * 4294967296 := hk56
              refine lv_iinc (v := y53) (lv' := [(5, .int (y53)), (6, .int (i)), (0, .ref (mo)), (1, .ref (to)), (2, .ref (szs)), (3, .ref (rws)), (4, .ref (rsz))]) hx hb dX13_keep_125 hl (k := 1) rfl (by rw [ey54]; rfl) (by decide) rfl (fun ls hl => ?_)
              refine lv_goto (tgt := 3) hx hb dX13_keep_128 (by decide) ?_
              exact ih3 _ (by omega) _ _ _ ls (y53) rfl hZ hP (by omega) (by omega) (lv_sub hl [0, 2, 3, 4, 5, 6] rfl)
            · have c52 : ¬ (y48).toInt ≤ (i).toInt := fun h9 => c52 (hq_lei.mpr h9)
              refine lv_aload_n hx hb dX13_keep_94 rfl (lv_at hl 5 rfl) ?_
              refine lv_sipush (v := 140) hx hb dX13_keep_95 (by decide) ?_
              refine lv_iload hx hb dX13_keep_98 (lv_at hl 1 rfl) ?_
              refine lv_imul hx hb dX13_keep_100 ?_
              refine lv_topi (fun y59 ey60 => ?_)
              obtain ⟨k61, hk62, b63, b64⟩ := hq_mul (140) (k)
              rw [← ey60] at hk62 b63 b64
              have hk62 : (y59).toInt = (140 : Int) * (k).toInt + k61 * 4294967296 := hk62
              obtain rfl : k61 = 0 := by omega
              refine lv_iload hx hb dX13_keep_101 (lv_at hl 0 rfl) ?_
              refine lv_iadd hx hb dX13_keep_103 ?_
              refine lv_topi (fun y65 ey66 => ?_)
              obtain ⟨k67, hk68, b69, b70⟩ := hq_add (y59) (i)
              rw [← ey66] at hk68 b69 b70
              have hk68 : (y65).toInt = (y59).toInt + (i).toInt + k67 * 4294967296 := hk68
              obtain rfl : k67 = 0 := by omega
              refine lv_aload_n hx hb dX13_keep_104 rfl (lv_at hl 2 rfl) ?_
              refine hp_get (v := .ref (q + 29)) hx hb hts hown hZ fx46 fl_X13_238 rfl dX13_keep_105 ?_
              refine lv_sipush (v := 140) hx hb dX13_keep_108 (by decide) ?_
              refine lv_iload hx hb dX13_keep_111 (lv_at hl 1 rfl) ?_
              refine lv_imul hx hb dX13_keep_113 ?_
              refine lv_topi (fun y71 ey72 => ?_)
              obtain ⟨k73, hk74, b75, b76⟩ := hq_mul (140) (k)
              rw [← ey72] at hk74 b75 b76
              have hk74 : (y71).toInt = (140 : Int) * (k).toInt + k73 * 4294967296 := hk74
              obtain rfl : k73 = 0 := by omega
              refine lv_iload hx hb dX13_keep_114 (lv_at hl 0 rfl) ?_
              refine lv_iadd hx hb dX13_keep_116 ?_
              refine lv_topi (fun y77 ey78 => ?_)
              obtain ⟨k79, hk80, b81, b82⟩ := hq_add (y71) (i)
              rw [← ey78] at hk80 b81 b82
              have hk80 : (y77).toInt = (y71).toInt + (i).toInt + k79 * 4294967296 := hk80
              obtain rfl : k79 = 0 := by omega
              obtain ⟨hN85, g84, eV83, hf86⟩ := hq_o21 hP.1 (hr_29 hR)
              refine hp_iald hx hb hZ eV83 (hq_in (by omega) (by omega)) dX13_keep_117 ?_
              refine lv_topi (fun y87 ey88 => ?_)
              have b90 : (y87).toInt = ((g84) (y77 : Int32).toNatClampNeg).toInt := by rw [ey88]
              have b89 : hq_ir (hq_lo 4) (hq_hi 4) y87 := by rw [ey88]; exact hf86 _ (hq_ix (by omega) (by omega))
              have b89 : 0 ≤ (y87).toInt ∧ (y87).toInt ≤ 59 := b89
              obtain ⟨hN93, g92, eV91, hf94⟩ := hq_o21 hP.1 h_rws
              refine hp_iast hx hb hZ eV91 (hq_in (by omega) (by omega)) dX13_keep_118 (fun V95 _ _ e96 o97 hZ => ?_)
              have e96 : V95 (rws) = some (.inl (cs 1, 280, .inl (upd (g92) ((y65 : Int32).toNatClampNeg) (y87)))) := e96
              have hP := hP.put h_rws e96 o97 (hq_c21 (by omega) (hq_upd hf94 (show 0 ≤ _ ∧ _ ≤ 59 by constructor <;> omega))) rfl
              obtain ⟨y98, ey99⟩ : ∃ y : Int32, y = i + (1) := ⟨_, rfl⟩
              obtain ⟨k100, hk101, b102, b103⟩ := hq_add (i) (1)
              rw [← ey99] at hk101 b102 b103
              have hk101 : (y98).toInt = (i).toInt + (1) + k100 * 4294967296 := hk101
              refine lv_iinc (v := y98) (lv' := [(6, .int (y98)), (5, .int (k)), (0, .ref (mo)), (1, .ref (to)), (2, .ref (szs)), (3, .ref (rws)), (4, .ref (rsz))]) hx hb dX13_keep_119 hl (k := 0) rfl (by rw [ey99]; rfl) (by decide) rfl (fun ls hl => ?_)
              refine lv_goto (tgt := 82) hx hb dX13_keep_122 (by decide) ?_
              exact ih82 _ (by omega) _ _ _ ls (y98) rfl hZ hP (by omega) (by omega) (lv_sub hl [0, 1, 2, 3, 4, 5, 6] rfl)
        · have c42 : ¬ (y38).toInt ≤ (i).toInt := fun h9 => c42 (hq_lei.mpr h9)
          refine lv_aload_n hx hb dX13_keep_50 rfl (lv_at hl 3 rfl) ?_
          refine lv_bipush (v := 61) hx hb dX13_keep_51 (by decide) ?_
          refine lv_iload hx hb dX13_keep_53 (lv_at hl 1 rfl) ?_
          refine lv_imul hx hb dX13_keep_55 ?_
          refine lv_topi (fun y104 ey105 => ?_)
          obtain ⟨k106, hk107, b108, b109⟩ := hq_mul (61) (k)
          rw [← ey105] at hk107 b108 b109
          have hk107 : (y104).toInt = (61 : Int) * (k).toInt + k106 * 4294967296 := hk107
          obtain rfl : k106 = 0 := by omega
          refine lv_iload hx hb dX13_keep_56 (lv_at hl 0 rfl) ?_
          refine lv_iadd hx hb dX13_keep_58 ?_
          refine lv_topi (fun y110 ey111 => ?_)
          obtain ⟨k112, hk113, b114, b115⟩ := hq_add (y104) (i)
          rw [← ey111] at hk113 b114 b115
          have hk113 : (y110).toInt = (y104).toInt + (i).toInt + k112 * 4294967296 := hk113
          obtain rfl : k112 = 0 := by omega
          refine lv_aload_n hx hb dX13_keep_59 rfl (lv_at hl 2 rfl) ?_
          refine hp_get (v := .ref (q + 25)) hx hb hts hown hZ fx36 fl_X13_226 rfl dX13_keep_60 ?_
          refine lv_bipush (v := 61) hx hb dX13_keep_63 (by decide) ?_
          refine lv_iload hx hb dX13_keep_65 (lv_at hl 1 rfl) ?_
          refine lv_imul hx hb dX13_keep_67 ?_
          refine lv_topi (fun y116 ey117 => ?_)
          obtain ⟨k118, hk119, b120, b121⟩ := hq_mul (61) (k)
          rw [← ey117] at hk119 b120 b121
          have hk119 : (y116).toInt = (61 : Int) * (k).toInt + k118 * 4294967296 := hk119
          obtain rfl : k118 = 0 := by omega
          refine lv_iload hx hb dX13_keep_68 (lv_at hl 0 rfl) ?_
          refine lv_iadd hx hb dX13_keep_70 ?_
          refine lv_topi (fun y122 ey123 => ?_)
          obtain ⟨k124, hk125, b126, b127⟩ := hq_add (y116) (i)
          rw [← ey123] at hk125 b126 b127
          have hk125 : (y122).toInt = (y116).toInt + (i).toInt + k124 * 4294967296 := hk125
          obtain rfl : k124 = 0 := by omega
          obtain ⟨hN130, g129, eV128⟩ := hq_o20 hP.1 (hr_25 hR)
          refine hp_bald hx hb hZ eV128 (hq_in (by omega) (by omega)) dX13_keep_71 ?_
          refine lv_topi (fun y132 ey133 => ?_)
          have b135 : (y132).toInt = ((g129) (y122 : Int32).toNatClampNeg).toInt := by rw [ey133]
          have b134 := hq_rng y132
          obtain ⟨hN138, g137, eV136⟩ := hq_o20 hP.1 h_to
          refine hp_bast hx hb hZ eV136 (hq_in (by omega) (by omega)) dX13_keep_72 (fun V140 _ _ e141 o142 hZ => ?_)
          have e141 : V140 (to) = some (.inl (cs 0, 122, .inl (upd (g137) ((y110 : Int32).toNatClampNeg) ((y132 : Int32).toInt8.toInt32)))) := e141
          have hP := hP.put h_to e141 o142 (hq_c20 (by omega)) rfl
          obtain ⟨y143, ey144⟩ : ∃ y : Int32, y = i + (1) := ⟨_, rfl⟩
          obtain ⟨k145, hk146, b147, b148⟩ := hq_add (i) (1)
          rw [← ey144] at hk146 b147 b148
          have hk146 : (y143).toInt = (i).toInt + (1) + k145 * 4294967296 := hk146
          refine lv_iinc (v := y143) (lv' := [(6, .int (y143)), (5, .int (k)), (0, .ref (mo)), (1, .ref (to)), (2, .ref (szs)), (3, .ref (rws)), (4, .ref (rsz))]) hx hb dX13_keep_73 hl (k := 0) rfl (by rw [ey144]; rfl) (by decide) rfl (fun ls hl => ?_)
          refine lv_goto (tgt := 38) hx hb dX13_keep_76 (by decide) ?_
          exact ih38 _ (by omega) _ _ _ ls (y143) rfl hZ hP (by omega) (by omega) (lv_sub hl [0, 1, 2, 3, 4, 5, 6] rfl)

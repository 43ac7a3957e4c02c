def hm_fit (fk fw ft fp fc : Nat → Int32) (l v t p : Int32) : Prop := (¬ (fk l.toNatClampNeg).toInt = 2 ∧ (ft l.toNatClampNeg).toInt = t.toInt ∧ ((fp l.toNatClampNeg).toInt = -1 ∨ (fp l.toNatClampNeg).toInt = p.toInt)) ∧ ((fw l.toNatClampNeg).toInt = -1 ∨ ((((fk l.toNatClampNeg).toInt = 4 ∨ (fk l.toNatClampNeg).toInt = 5) ∧ (fw l.toNatClampNeg).toInt = v.toInt) ∨ (¬ ((fk l.toNatClampNeg).toInt = 4 ∨ (fk l.toNatClampNeg).toInt = 5) ∧ (fw l.toNatClampNeg).toInt = (fc v.toNatClampNeg).toInt)))
def hm_ft2 (fk fw ft fp fc : Nat → Int32) (l v t p r : Int32) : Prop := (r.toInt = 1 ∧ hm_fit fk fw ft fp fc l v t p) ∨ (r.toInt = 0 ∧ ¬ hm_fit fk fw ft fp fc l v t p)
theorem hm_ft2.bool {fk fw ft fp fc : Nat → Int32} {l v t p r : Int32} (h : hm_ft2 fk fw ft fp fc l v t p r) : 0 ≤ r.toInt ∧ r.toInt ≤ 1 := by rcases h with h | h <;> omega
def hm_P (fk fw ft fp fc : Nat → Int32) (k v t p l : Int32) : Prop := (fk l.toNatClampNeg).toInt = k.toInt ∧ hm_fit fk fw ft fp fc l v t p
/-- the first line below n that fits -/
def hm_F (fk fw ft fp fc : Nat → Int32) (n : Int) (k v t p r : Int32) : Prop := (r.toInt = -1 ∨ (0 ≤ r.toInt ∧ r.toInt < n ∧ hm_P fk fw ft fp fc k v t p r)) ∧ ∀ l : Int32, 0 ≤ l.toInt → l.toInt < n → (r.toInt = -1 ∨ l.toInt < r.toInt) → ¬ hm_P fk fw ft fp fc k v t p l
theorem hm_F.one {fk fw ft fp fc : Nat → Int32} {n : Int} {k v t p r r' : Int32} (h : hm_F fk fw ft fp fc n k v t p r) (h' : hm_F fk fw ft fp fc n k v t p r') : r.toInt = r'.toInt := by
  obtain ⟨h1, h2⟩ := h
  obtain ⟨g1, g2⟩ := h'
  rcases h1 with h1 | ⟨a1, a2, a3⟩
  · rcases g1 with g1 | ⟨b1, b2, b3⟩
    · omega
    · exact absurd b3 (h2 r' b1 b2 (Or.inl h1))
  · rcases g1 with g1 | ⟨b1, b2, b3⟩
    · exact absurd a3 (g2 r a1 a2 (Or.inl g1))
    · by_cases hlt : r.toInt < r'.toInt
      · exact absurd a3 (g2 r a1 a2 (Or.inr hlt))
      · by_cases hgt : r'.toInt < r.toInt
        · exact absurd b3 (h2 r' b1 b2 (Or.inr hgt))
        · omega
def hm_Fi (fk fw ft fp fc : Nat → Int32) (k v t p i : Int32) : Prop := ∀ l : Int32, 0 ≤ l.toInt → l.toInt < i.toInt → ¬ hm_P fk fw ft fp fc k v t p l
theorem hm_Fi.zero {fk fw ft fp fc : Nat → Int32} {k v t p i : Int32} (h : i.toInt ≤ 0) : hm_Fi fk fw ft fp fc k v t p i := fun l h0 h1 => absurd h1 (by omega)
theorem hm_Fi.step {fk fw ft fp fc : Nat → Int32} {k v t p i j : Int32} (h : hm_Fi fk fw ft fp fc k v t p i) (hn : ¬ hm_P fk fw ft fp fc k v t p i) (hj : j.toInt = i.toInt + 1) : hm_Fi fk fw ft fp fc k v t p j := by
  intro l h0 h1
  by_cases hl : l.toInt < i.toInt
  · exact h l h0 hl
  · obtain rfl : l = i := Int32.toInt_inj.mp (by omega)
    exact hn
def hm_1 (x : Int32) : Int := if x.toInt = -1 then 0 else 1
def hm_Ns (gs st : Int32) : Int := if st.toInt = gs.toInt then 0 else 1
def hm_Ne (ge ed : Int32) : Int := if ed.toInt = ge.toInt ∧ ¬ ge.toInt = -1 then 0 else 1
theorem hm_1.of (x : Int32) : (hm_1 x = 0 ∧ x.toInt = -1) ∨ (hm_1 x = 1 ∧ ¬ x.toInt = -1) := by unfold hm_1; split <;> omega
theorem hm_Ns.of (gs st : Int32) : (hm_Ns gs st = 0 ∧ st.toInt = gs.toInt) ∨ (hm_Ns gs st = 1 ∧ ¬ st.toInt = gs.toInt) := by unfold hm_Ns; split <;> omega
theorem hm_Ne.of (ge ed : Int32) : (hm_Ne ge ed = 0 ∧ ed.toInt = ge.toInt ∧ ¬ ge.toInt = -1) ∨ (hm_Ne ge ed = 1 ∧ ¬ (ed.toInt = ge.toInt ∧ ¬ ge.toInt = -1)) := by unfold hm_Ne; split <;> omega
def hm_N (gs ge st ed n0 n1 : Int32) : Int := hm_Ns gs st + hm_Ne ge ed + hm_1 n0 + hm_1 n1
/-- what the best attempt is, if there is one -/
def hm_BI (gs ge : Int32) (gx : Int) (bc bs be b0 b1 : Int32) : Prop := bc.toInt = 1000 ∨ (hm_N gs ge bs be b0 b1 + gx ≤ 2 ∧ (-1 ≤ bs.toInt ∧ bs.toInt < 60) ∧ (-1 ≤ be.toInt ∧ be.toInt < 60) ∧ (-1 ≤ b0.toInt ∧ b0.toInt < 60) ∧ -1 ≤ b1.toInt ∧ b1.toInt < 60)
def hm_XP (fk fw ft fp fc : Nat → Int32) (n : Int) (v t p bc bs be b0 b1 : Int32) : Prop := ∃ gs ge gx : Int32, hm_F fk fw ft fp fc n 0 v t p gs ∧ hm_F fk fw ft fp fc n 1 v t p ge ∧ hm_F fk fw ft fp fc n 4 v t p gx ∧ hm_BI gs ge (hm_1 gx) bc bs be b0 b1
theorem hm_XP.use {fk fw ft fp fc : Nat → Int32} {n : Int} {v t p bc bs be b0 b1 st en ex : Int32} (h : hm_XP fk fw ft fp fc n v t p bc bs be b0 b1) (hb : ¬ bc.toInt = 1000) (h1 : hm_F fk fw ft fp fc n 0 v t p st) (h2 : hm_F fk fw ft fp fc n 1 v t p en) (h3 : hm_F fk fw ft fp fc n 4 v t p ex) :
    hm_1 ex + hm_Ns st bs + hm_Ne en be + hm_1 b0 + hm_1 b1 ≤ 2 ∧ (-1 ≤ bs.toInt ∧ bs.toInt < 60) ∧ (-1 ≤ be.toInt ∧ be.toInt < 60) ∧ (-1 ≤ b0.toInt ∧ b0.toInt < 60) ∧ -1 ≤ b1.toInt ∧ b1.toInt < 60 := by
  obtain ⟨gs, ge, gx, g1, g2, g3, g4⟩ := h
  have e1 := Int32.toInt_inj.mp (h1.one g1)
  have e2 := Int32.toInt_inj.mp (h2.one g2)
  have e3 := Int32.toInt_inj.mp (h3.one g3)
  subst e1 e2 e3
  rcases g4 with g4 | ⟨g4, g5⟩
  · exact absurd g4 hb
  · refine ⟨?_, g5⟩
    unfold hm_N at g4
    omega
set_option maxHeartbeats 4000000 in
set_option maxRecDepth 100000 in
theorem t_X13_fitsX (l : Launch) (D : va_G) (cs : Nat → ClassId) (B : Nat) (G : hq_G) (V : hp_V) (n : Nat) (hI : hq_I cs G V) (q : Nat) (hR : hq_RT G q) (mo : Nat) (h_mo : G mo = some (24, 0, 0, 0)) (k : Int32) (v : Int32) (te : Int32) (pe : Int32) {m_tp m_sz m_fr m_bh m_hd m_ft m_fa m_le m_fo m_as m_fd m_bc m_bg m_bs m_be m_b0 m_b1 m_cm m_hc : Int32} (ho_mo : V mo = some (.inr (13, hm_o q (m_tp) (m_sz) (m_fr) (m_bh) (m_hd) (m_ft) (m_fa) (m_le) (m_fo) (m_as) (m_fd) (m_bc) (m_bg) (m_bs) (m_be) (m_b0) (m_b1) (m_cm) (m_hc)))) (hi_mo0 : 0 ≤ m_tp.toInt ∧ m_tp.toInt ≤ 4000) (hi_mo1 : 0 ≤ m_sz.toInt ∧ m_sz.toInt ≤ 4000) (hi_mo2 : 0 ≤ m_le.toInt ∧ m_le.toInt ≤ 276) (hi_mo3 : 0 ≤ m_fo.toInt ∧ m_fo.toInt ≤ 4) (hi_mo4 : 0 ≤ m_as.toInt ∧ m_as.toInt ≤ 4000) (hi_mo5 : 0 ≤ m_fd.toInt ∧ m_fd.toInt ≤ 900) (hi_mo6 : 0 ≤ m_cm.toInt ∧ m_cm.toInt ≤ 2) (hi_mo7 : 0 ≤ m_hc.toInt ∧ m_hc.toInt ≤ 1) {fk : Nat → Int32} (ho_fk : V (q + 10) = some (.inl (cs 1, 120, .inl (fk)))) {fw : Nat → Int32} (ho_fw : V (q + 11) = some (.inl (cs 1, 120, .inl (fw)))) {ft : Nat → Int32} (ho_ft : V (q + 12) = some (.inl (cs 1, 120, .inl (ft)))) {fp : Nat → Int32} (ho_fp : V (q + 13) = some (.inl (cs 1, 120, .inl (fp)))) {fc : Nat → Int32} (ho_fc : V (q + 9) = some (.inl (cs 1, 60, .inl (fc)))) (hl0 : 0 ≤ k.toInt) (hl1 : k.toInt < 120) (hv0 : 0 ≤ v.toInt) (hv1 : v.toInt < 60) : hp_M l yX13_fits cX13_fits 5 (some .boolean) ({ frames := 1, cells := 0, slots := 0, locals := 21 }) D cs B V n [.ref (mo), .int (k), .int (v), .int (te), .int (pe)] (hp_QI D cs B (fun r V' n' => n = n' ∧ hq_P cs G (fun _ => false) V V' ∧ (V' mo = some (.inr (13, hm_o q (m_tp) (m_sz) (m_fr) (m_bh) (m_hd) (m_ft) (m_fa) (m_le) (m_fo) (m_as) (m_fd) (m_bc) (m_bg) (m_bs) (m_be) (m_b0) (m_b1) (m_cm) (m_hc)))) ∧ (V' (q + 10) = some (.inl (cs 1, 120, .inl (fk)))) ∧ (V' (q + 11) = some (.inl (cs 1, 120, .inl (fw)))) ∧ (V' (q + 12) = some (.inl (cs 1, 120, .inl (ft)))) ∧ (V' (q + 13) = some (.inl (cs 1, 120, .inl (fp)))) ∧ (V' (q + 9) = some (.inl (cs 1, 60, .inl (fc)))) ∧ (hm_ft2 fk fw ft fp fc k v te pe r))) 0 0 := by
  refine hp_walk (R0 := RX13) (by decide) rfl ?_ (Nat.le_of_ble_eq_true rfl)
  intro p e s m below meth c ls hx hb hr hts hown hlocks hin hml hZ hl
  have hP : hq_P cs G (fun _ => false) V V := hq_P.rf hI
  have hl : lv_has ls 5 [(0, .ref (mo)), (1, .int (k)), (2, .int (v)), (3, .int (te)), (4, .int (pe))] := hl
  have hb_k := hq_rng k
  have hb_v := hq_rng v
  have hb_te := hq_rng te
  have hb_pe := hq_rng pe
  have hb_m_tp := hq_rng m_tp
  have hb_m_sz := hq_rng m_sz
  have hb_m_fr := hq_rng m_fr
  have hb_m_bh := hq_rng m_bh
  have hb_m_hd := hq_rng m_hd
  have hb_m_ft := hq_rng m_ft
  have hb_m_fa := hq_rng m_fa
  have hb_m_le := hq_rng m_le
  have hb_m_fo := hq_rng m_fo
  have hb_m_as := hq_rng m_as
  have hb_m_fd := hq_rng m_fd
  have hb_m_bc := hq_rng m_bc
  have hb_m_bg := hq_rng m_bg
  have hb_m_bs := hq_rng m_bs
  have hb_m_be := hq_rng m_be
  have hb_m_b0 := hq_rng m_b0
  have hb_m_b1 := hq_rng m_b1
  have hb_m_cm := hq_rng m_cm
  have hb_m_hc := hq_rng m_hc
  have hf_fk := hq_rg hI (hr_10 hR) ho_fk
  have hf_fw := hq_rg hI (hr_11 hR) ho_fw
  have hf_ft := hq_rg hI (hr_12 hR) ho_ft
  have hf_fp := hq_rg hI (hr_13 hR) ho_fp
  have hf_fc := hq_rg hI (hr_9 hR) ho_fc
  refine lv_aload_n hx hb dX13_fits_0 rfl (lv_at hl 0 rfl) ?_
  refine hp_get (v := .ref (q + 10)) hx hb hts hown hZ ho_mo fl_X13_29 rfl dX13_fits_1 ?_
  refine lv_iload_n hx hb dX13_fits_4 rfl (lv_at hl 1 rfl) ?_
  refine hp_iald hx hb hZ ho_fk (hq_in (by omega) (by omega)) dX13_fits_5 ?_
  refine lv_topi (fun y1 ey2 => ?_)
  have b4 : (y1).toInt = ((fk) (k : Int32).toNatClampNeg).toInt := by rw [ey2]
  have b3 := hq_rng y1
  refine lv_iconst (v := 2) hx hb dX13_fits_6 (by decide) ?_
  refine lv_icmp_eq (tgt := 41) hx hb dX13_fits_7 (by decide) (fun c5 => ?_) (fun c5 => ?_)
  · have c5 : (y1).toInt = (2 : Int) := hq_eqi.mp c5
    refine lv_iconst (v := 0) hx hb dX13_fits_41 (by decide) ?_
    exact hp_zret hx hb hr rfl hlocks hZ ⟨rfl, hP, ho_mo, ho_fk, ho_fw, ho_ft, ho_fp, ho_fc, (Or.inr ⟨by decide, by unfold hm_fit; omega⟩)⟩ dX13_fits_42
  · have c5 : ¬ (y1).toInt = (2 : Int) := fun h9 => c5 (hq_eqi.mpr h9)
    refine lv_aload_n hx hb dX13_fits_10 rfl (lv_at hl 0 rfl) ?_
    refine hp_get (v := .ref (q + 12)) hx hb hts hown hZ ho_mo fl_X13_35 rfl dX13_fits_11 ?_
    refine lv_iload_n hx hb dX13_fits_14 rfl (lv_at hl 1 rfl) ?_
    refine hp_iald hx hb hZ ho_ft (hq_in (by omega) (by omega)) dX13_fits_15 ?_
    refine lv_topi (fun y6 ey7 => ?_)
    have b9 : (y6).toInt = ((ft) (k : Int32).toNatClampNeg).toInt := by rw [ey7]
    have b8 := hq_rng y6
    refine lv_iload_n hx hb dX13_fits_16 rfl (lv_at hl 3 rfl) ?_
    refine lv_icmp_ne (tgt := 41) hx hb dX13_fits_17 (by decide) (fun c10 => ?_) (fun c10 => ?_)
    · have c10 : ¬ (y6).toInt = (te).toInt := fun h9 => c10 (hq_eqi.mpr h9)
      refine lv_iconst (v := 0) hx hb dX13_fits_41 (by decide) ?_
      exact hp_zret hx hb hr rfl hlocks hZ ⟨rfl, hP, ho_mo, ho_fk, ho_fw, ho_ft, ho_fp, ho_fc, (Or.inr ⟨by decide, by unfold hm_fit; omega⟩)⟩ dX13_fits_42
    · have c10 : (y6).toInt = (te).toInt := hq_eqi.mp c10
      refine lv_aload_n hx hb dX13_fits_20 rfl (lv_at hl 0 rfl) ?_
      refine hp_get (v := .ref (q + 13)) hx hb hts hown hZ ho_mo fl_X13_38 rfl dX13_fits_21 ?_
      refine lv_iload_n hx hb dX13_fits_24 rfl (lv_at hl 1 rfl) ?_
      refine hp_iald hx hb hZ ho_fp (hq_in (by omega) (by omega)) dX13_fits_25 ?_
      refine lv_topi (fun y11 ey12 => ?_)
      have b14 : (y11).toInt = ((fp) (k : Int32).toNatClampNeg).toInt := by rw [ey12]
      have b13 := hq_rng y11
      refine lv_iconst (v := -1) hx hb dX13_fits_26 (by decide) ?_
      refine lv_icmp_eq (tgt := 43) hx hb dX13_fits_27 (by decide) (fun c15 => ?_) (fun c15 => ?_)
      · have c15 : (y11).toInt = (-1 : Int) := hq_eqi.mp c15
        refine lv_aload_n hx hb dX13_fits_43 rfl (lv_at hl 0 rfl) ?_
        refine hp_get (v := .ref (q + 11)) hx hb hts hown hZ ho_mo fl_X13_32 rfl dX13_fits_44 ?_
        refine lv_iload_n hx hb dX13_fits_47 rfl (lv_at hl 1 rfl) ?_
        refine hp_iald hx hb hZ ho_fw (hq_in (by omega) (by omega)) dX13_fits_48 ?_
        refine lv_topi (fun y16 ey17 => ?_)
        have b19 : (y16).toInt = ((fw) (k : Int32).toNatClampNeg).toInt := by rw [ey17]
        have b18 := hq_rng y16
        refine lv_iconst (v := -1) hx hb dX13_fits_49 (by decide) ?_
        refine lv_icmp_eq (tgt := 92) hx hb dX13_fits_50 (by decide) (fun c20 => ?_) (fun c20 => ?_)
        · have c20 : (y16).toInt = (-1 : Int) := hq_eqi.mp c20
          refine lv_iconst (v := 1) hx hb dX13_fits_92 (by decide) ?_
          refine lv_goto (tgt := 97) hx hb dX13_fits_93 (by decide) ?_
          exact hp_zret hx hb hr rfl hlocks hZ ⟨rfl, hP, ho_mo, ho_fk, ho_fw, ho_ft, ho_fp, ho_fc, (Or.inl ⟨by decide, by unfold hm_fit; omega⟩)⟩ dX13_fits_97
        · have c20 : ¬ (y16).toInt = (-1 : Int) := fun h9 => c20 (hq_eqi.mpr h9)
          refine lv_aload_n hx hb dX13_fits_53 rfl (lv_at hl 0 rfl) ?_
          refine hp_get (v := .ref (q + 11)) hx hb hts hown hZ ho_mo fl_X13_32 rfl dX13_fits_54 ?_
          refine lv_iload_n hx hb dX13_fits_57 rfl (lv_at hl 1 rfl) ?_
          refine hp_iald hx hb hZ ho_fw (hq_in (by omega) (by omega)) dX13_fits_58 ?_
          refine lv_topi (fun y21 ey22 => ?_)
          have b24 : (y21).toInt = ((fw) (k : Int32).toNatClampNeg).toInt := by rw [ey22]
          have b23 := hq_rng y21
          refine lv_aload_n hx hb dX13_fits_59 rfl (lv_at hl 0 rfl) ?_
          refine hp_get (v := .ref (q + 10)) hx hb hts hown hZ ho_mo fl_X13_29 rfl dX13_fits_60 ?_
          refine lv_iload_n hx hb dX13_fits_63 rfl (lv_at hl 1 rfl) ?_
          refine hp_iald hx hb hZ ho_fk (hq_in (by omega) (by omega)) dX13_fits_64 ?_
          refine lv_topi (fun y25 ey26 => ?_)
          have b28 : (y25).toInt = ((fk) (k : Int32).toNatClampNeg).toInt := by rw [ey26]
          have b27 := hq_rng y25
          refine lv_iconst (v := 4) hx hb dX13_fits_65 (by decide) ?_
          refine lv_icmp_eq (tgt := 79) hx hb dX13_fits_66 (by decide) (fun c29 => ?_) (fun c29 => ?_)
          · have c29 : (y25).toInt = (4 : Int) := hq_eqi.mp c29
            refine lv_iload_n hx hb dX13_fits_79 rfl (lv_at hl 2 rfl) ?_
            refine lv_goto (tgt := 89) hx hb dX13_fits_80 (by decide) ?_
            refine lv_icmp_ne (tgt := 96) hx hb dX13_fits_89 (by decide) (fun c30 => ?_) (fun c30 => ?_)
            · have c30 : ¬ (y21).toInt = (v).toInt := fun h9 => c30 (hq_eqi.mpr h9)
              refine lv_iconst (v := 0) hx hb dX13_fits_96 (by decide) ?_
              exact hp_zret hx hb hr rfl hlocks hZ ⟨rfl, hP, ho_mo, ho_fk, ho_fw, ho_ft, ho_fp, ho_fc, (Or.inr ⟨by decide, by unfold hm_fit; omega⟩)⟩ dX13_fits_97
            · have c30 : (y21).toInt = (v).toInt := hq_eqi.mp c30
              refine lv_iconst (v := 1) hx hb dX13_fits_92 (by decide) ?_
              refine lv_goto (tgt := 97) hx hb dX13_fits_93 (by decide) ?_
              exact hp_zret hx hb hr rfl hlocks hZ ⟨rfl, hP, ho_mo, ho_fk, ho_fw, ho_ft, ho_fp, ho_fc, (Or.inl ⟨by decide, by unfold hm_fit; omega⟩)⟩ dX13_fits_97
          · have c29 : ¬ (y25).toInt = (4 : Int) := fun h9 => c29 (hq_eqi.mpr h9)
            refine lv_aload_n hx hb dX13_fits_69 rfl (lv_at hl 0 rfl) ?_
            refine hp_get (v := .ref (q + 10)) hx hb hts hown hZ ho_mo fl_X13_29 rfl dX13_fits_70 ?_
            refine lv_iload_n hx hb dX13_fits_73 rfl (lv_at hl 1 rfl) ?_
            refine hp_iald hx hb hZ ho_fk (hq_in (by omega) (by omega)) dX13_fits_74 ?_
            refine lv_topi (fun y31 ey32 => ?_)
            have b34 : (y31).toInt = ((fk) (k : Int32).toNatClampNeg).toInt := by rw [ey32]
            have b33 := hq_rng y31
            refine lv_iconst (v := 5) hx hb dX13_fits_75 (by decide) ?_
            refine lv_icmp_ne (tgt := 83) hx hb dX13_fits_76 (by decide) (fun c35 => ?_) (fun c35 => ?_)
            · have c35 : ¬ (y31).toInt = (5 : Int) := fun h9 => c35 (hq_eqi.mpr h9)
              refine lv_aload_n hx hb dX13_fits_83 rfl (lv_at hl 0 rfl) ?_
              refine hp_get (v := .ref (q + 9)) hx hb hts hown hZ ho_mo fl_X13_16 rfl dX13_fits_84 ?_
              refine lv_iload_n hx hb dX13_fits_87 rfl (lv_at hl 2 rfl) ?_
              refine hp_iald hx hb hZ ho_fc (hq_in (by omega) (by omega)) dX13_fits_88 ?_
              refine lv_topi (fun y36 ey37 => ?_)
              have b39 : (y36).toInt = ((fc) (v : Int32).toNatClampNeg).toInt := by rw [ey37]
              have b38 := hq_rng y36
              refine lv_icmp_ne (tgt := 96) hx hb dX13_fits_89 (by decide) (fun c40 => ?_) (fun c40 => ?_)
              · have c40 : ¬ (y21).toInt = (y36).toInt := fun h9 => c40 (hq_eqi.mpr h9)
                refine lv_iconst (v := 0) hx hb dX13_fits_96 (by decide) ?_
                exact hp_zret hx hb hr rfl hlocks hZ ⟨rfl, hP, ho_mo, ho_fk, ho_fw, ho_ft, ho_fp, ho_fc, (Or.inr ⟨by decide, by unfold hm_fit; omega⟩)⟩ dX13_fits_97
              · have c40 : (y21).toInt = (y36).toInt := hq_eqi.mp c40
                refine lv_iconst (v := 1) hx hb dX13_fits_92 (by decide) ?_
                refine lv_goto (tgt := 97) hx hb dX13_fits_93 (by decide) ?_
                exact hp_zret hx hb hr rfl hlocks hZ ⟨rfl, hP, ho_mo, ho_fk, ho_fw, ho_ft, ho_fp, ho_fc, (Or.inl ⟨by decide, by unfold hm_fit; omega⟩)⟩ dX13_fits_97
            · have c35 : (y31).toInt = (5 : Int) := hq_eqi.mp c35
              refine lv_iload_n hx hb dX13_fits_79 rfl (lv_at hl 2 rfl) ?_
              refine lv_goto (tgt := 89) hx hb dX13_fits_80 (by decide) ?_
              refine lv_icmp_ne (tgt := 96) hx hb dX13_fits_89 (by decide) (fun c41 => ?_) (fun c41 => ?_)
              · have c41 : ¬ (y21).toInt = (v).toInt := fun h9 => c41 (hq_eqi.mpr h9)
                refine lv_iconst (v := 0) hx hb dX13_fits_96 (by decide) ?_
                exact hp_zret hx hb hr rfl hlocks hZ ⟨rfl, hP, ho_mo, ho_fk, ho_fw, ho_ft, ho_fp, ho_fc, (Or.inr ⟨by decide, by unfold hm_fit; omega⟩)⟩ dX13_fits_97
              · have c41 : (y21).toInt = (v).toInt := hq_eqi.mp c41
                refine lv_iconst (v := 1) hx hb dX13_fits_92 (by decide) ?_
                refine lv_goto (tgt := 97) hx hb dX13_fits_93 (by decide) ?_
                exact hp_zret hx hb hr rfl hlocks hZ ⟨rfl, hP, ho_mo, ho_fk, ho_fw, ho_ft, ho_fp, ho_fc, (Or.inl ⟨by decide, by unfold hm_fit; omega⟩)⟩ dX13_fits_97
      · have c15 : ¬ (y11).toInt = (-1 : Int) := fun h9 => c15 (hq_eqi.mpr h9)
        refine lv_aload_n hx hb dX13_fits_30 rfl (lv_at hl 0 rfl) ?_
        refine hp_get (v := .ref (q + 13)) hx hb hts hown hZ ho_mo fl_X13_38 rfl dX13_fits_31 ?_
        refine lv_iload_n hx hb dX13_fits_34 rfl (lv_at hl 1 rfl) ?_
        refine hp_iald hx hb hZ ho_fp (hq_in (by omega) (by omega)) dX13_fits_35 ?_
        refine lv_topi (fun y42 ey43 => ?_)
        have b45 : (y42).toInt = ((fp) (k : Int32).toNatClampNeg).toInt := by rw [ey43]
        have b44 := hq_rng y42
        refine lv_iload hx hb dX13_fits_36 (lv_at hl 4 rfl) ?_
        refine lv_icmp_eq (tgt := 43) hx hb dX13_fits_38 (by decide) (fun c46 => ?_) (fun c46 => ?_)
        · have c46 : (y42).toInt = (pe).toInt := hq_eqi.mp c46
          refine lv_aload_n hx hb dX13_fits_43 rfl (lv_at hl 0 rfl) ?_
          refine hp_get (v := .ref (q + 11)) hx hb hts hown hZ ho_mo fl_X13_32 rfl dX13_fits_44 ?_
          refine lv_iload_n hx hb dX13_fits_47 rfl (lv_at hl 1 rfl) ?_
          refine hp_iald hx hb hZ ho_fw (hq_in (by omega) (by omega)) dX13_fits_48 ?_
          refine lv_topi (fun y47 ey48 => ?_)
          have b50 : (y47).toInt = ((fw) (k : Int32).toNatClampNeg).toInt := by rw [ey48]
          have b49 := hq_rng y47
          refine lv_iconst (v := -1) hx hb dX13_fits_49 (by decide) ?_
          refine lv_icmp_eq (tgt := 92) hx hb dX13_fits_50 (by decide) (fun c51 => ?_) (fun c51 => ?_)
          · have c51 : (y47).toInt = (-1 : Int) := hq_eqi.mp c51
            refine lv_iconst (v := 1) hx hb dX13_fits_92 (by decide) ?_
            refine lv_goto (tgt := 97) hx hb dX13_fits_93 (by decide) ?_
            exact hp_zret hx hb hr rfl hlocks hZ ⟨rfl, hP, ho_mo, ho_fk, ho_fw, ho_ft, ho_fp, ho_fc, (Or.inl ⟨by decide, by unfold hm_fit; omega⟩)⟩ dX13_fits_97
          · have c51 : ¬ (y47).toInt = (-1 : Int) := fun h9 => c51 (hq_eqi.mpr h9)
            refine lv_aload_n hx hb dX13_fits_53 rfl (lv_at hl 0 rfl) ?_
            refine hp_get (v := .ref (q + 11)) hx hb hts hown hZ ho_mo fl_X13_32 rfl dX13_fits_54 ?_
            refine lv_iload_n hx hb dX13_fits_57 rfl (lv_at hl 1 rfl) ?_
            refine hp_iald hx hb hZ ho_fw (hq_in (by omega) (by omega)) dX13_fits_58 ?_
            refine lv_topi (fun y52 ey53 => ?_)
            have b55 : (y52).toInt = ((fw) (k : Int32).toNatClampNeg).toInt := by rw [ey53]
            have b54 := hq_rng y52
            refine lv_aload_n hx hb dX13_fits_59 rfl (lv_at hl 0 rfl) ?_
            refine hp_get (v := .ref (q + 10)) hx hb hts hown hZ ho_mo fl_X13_29 rfl dX13_fits_60 ?_
            refine lv_iload_n hx hb dX13_fits_63 rfl (lv_at hl 1 rfl) ?_
            refine hp_iald hx hb hZ ho_fk (hq_in (by omega) (by omega)) dX13_fits_64 ?_
            refine lv_topi (fun y56 ey57 => ?_)
            have b59 : (y56).toInt = ((fk) (k : Int32).toNatClampNeg).toInt := by rw [ey57]
            have b58 := hq_rng y56
            refine lv_iconst (v := 4) hx hb dX13_fits_65 (by decide) ?_
            refine lv_icmp_eq (tgt := 79) hx hb dX13_fits_66 (by decide) (fun c60 => ?_) (fun c60 => ?_)
            · have c60 : (y56).toInt = (4 : Int) := hq_eqi.mp c60
              refine lv_iload_n hx hb dX13_fits_79 rfl (lv_at hl 2 rfl) ?_
              refine lv_goto (tgt := 89) hx hb dX13_fits_80 (by decide) ?_
              refine lv_icmp_ne (tgt := 96) hx hb dX13_fits_89 (by decide) (fun c61 => ?_) (fun c61 => ?_)
              · have c61 : ¬ (y52).toInt = (v).toInt := fun h9 => c61 (hq_eqi.mpr h9)
                refine lv_iconst (v := 0) hx hb dX13_fits_96 (by decide) ?_
                exact hp_zret hx hb hr rfl hlocks hZ ⟨rfl, hP, ho_mo, ho_fk, ho_fw, ho_ft, ho_fp, ho_fc, (Or.inr ⟨by decide, by unfold hm_fit; omega⟩)⟩ dX13_fits_97
              · have c61 : (y52).toInt = (v).toInt := hq_eqi.mp c61
                refine lv_iconst (v := 1) hx hb dX13_fits_92 (by decide) ?_
                refine lv_goto (tgt := 97) hx hb dX13_fits_93 (by decide) ?_
                exact hp_zret hx hb hr rfl hlocks hZ ⟨rfl, hP, ho_mo, ho_fk, ho_fw, ho_ft, ho_fp, ho_fc, (Or.inl ⟨by decide, by unfold hm_fit; omega⟩)⟩ dX13_fits_97
            · have c60 : ¬ (y56).toInt = (4 : Int) := fun h9 => c60 (hq_eqi.mpr h9)
              refine lv_aload_n hx hb dX13_fits_69 rfl (lv_at hl 0 rfl) ?_
              refine hp_get (v := .ref (q + 10)) hx hb hts hown hZ ho_mo fl_X13_29 rfl dX13_fits_70 ?_
              refine lv_iload_n hx hb dX13_fits_73 rfl (lv_at hl 1 rfl) ?_
              refine hp_iald hx hb hZ ho_fk (hq_in (by omega) (by omega)) dX13_fits_74 ?_
              refine lv_topi (fun y62 ey63 => ?_)
              have b65 : (y62).toInt = ((fk) (k : Int32).toNatClampNeg).toInt := by rw [ey63]
              have b64 := hq_rng y62
              refine lv_iconst (v := 5) hx hb dX13_fits_75 (by decide) ?_
              refine lv_icmp_ne (tgt := 83) hx hb dX13_fits_76 (by decide) (fun c66 => ?_) (fun c66 => ?_)
              · have c66 : ¬ (y62).toInt = (5 : Int) := fun h9 => c66 (hq_eqi.mpr h9)
                refine lv_aload_n hx hb dX13_fits_83 rfl (lv_at hl 0 rfl) ?_
                refine hp_get (v := .ref (q + 9)) hx hb hts hown hZ ho_mo fl_X13_16 rfl dX13_fits_84 ?_
                refine lv_iload_n hx hb dX13_fits_87 rfl (lv_at hl 2 rfl) ?_
                refine hp_iald hx hb hZ ho_fc (hq_in (by omega) (by omega)) dX13_fits_88 ?_
                refine lv_topi (fun y67 ey68 => ?_)
                have b70 : (y67).toInt = ((fc) (v : Int32).toNatClampNeg).toInt := by rw [ey68]
                have b69 := hq_rng y67
                refine lv_icmp_ne (tgt := 96) hx hb dX13_fits_89 (by decide) (fun c71 => ?_) (fun c71 => ?_)
                · have c71 : ¬ (y52).toInt = (y67).toInt := fun h9 => c71 (hq_eqi.mpr h9)
                  refine lv_iconst (v := 0) hx hb dX13_fits_96 (by decide) ?_
                  exact hp_zret hx hb hr rfl hlocks hZ ⟨rfl, hP, ho_mo, ho_fk, ho_fw, ho_ft, ho_fp, ho_fc, (Or.inr ⟨by decide, by unfold hm_fit; omega⟩)⟩ dX13_fits_97
                · have c71 : (y52).toInt = (y67).toInt := hq_eqi.mp c71
                  refine lv_iconst (v := 1) hx hb dX13_fits_92 (by decide) ?_
                  refine lv_goto (tgt := 97) hx hb dX13_fits_93 (by decide) ?_
                  exact hp_zret hx hb hr rfl hlocks hZ ⟨rfl, hP, ho_mo, ho_fk, ho_fw, ho_ft, ho_fp, ho_fc, (Or.inl ⟨by decide, by unfold hm_fit; omega⟩)⟩ dX13_fits_97
              · have c66 : (y62).toInt = (5 : Int) := hq_eqi.mp c66
                refine lv_iload_n hx hb dX13_fits_79 rfl (lv_at hl 2 rfl) ?_
                refine lv_goto (tgt := 89) hx hb dX13_fits_80 (by decide) ?_
                refine lv_icmp_ne (tgt := 96) hx hb dX13_fits_89 (by decide) (fun c72 => ?_) (fun c72 => ?_)
                · have c72 : ¬ (y52).toInt = (v).toInt := fun h9 => c72 (hq_eqi.mpr h9)
                  refine lv_iconst (v := 0) hx hb dX13_fits_96 (by decide) ?_
                  exact hp_zret hx hb hr rfl hlocks hZ ⟨rfl, hP, ho_mo, ho_fk, ho_fw, ho_ft, ho_fp, ho_fc, (Or.inr ⟨by decide, by unfold hm_fit; omega⟩)⟩ dX13_fits_97
                · have c72 : (y52).toInt = (v).toInt := hq_eqi.mp c72
                  refine lv_iconst (v := 1) hx hb dX13_fits_92 (by decide) ?_
                  refine lv_goto (tgt := 97) hx hb dX13_fits_93 (by decide) ?_
                  exact hp_zret hx hb hr rfl hlocks hZ ⟨rfl, hP, ho_mo, ho_fk, ho_fw, ho_ft, ho_fp, ho_fc, (Or.inl ⟨by decide, by unfold hm_fit; omega⟩)⟩ dX13_fits_97
        · have c46 : ¬ (y42).toInt = (pe).toInt := fun h9 => c46 (hq_eqi.mpr h9)
          refine lv_iconst (v := 0) hx hb dX13_fits_41 (by decide) ?_
          exact hp_zret hx hb hr rfl hlocks hZ ⟨rfl, hP, ho_mo, ho_fk, ho_fw, ho_ft, ho_fp, ho_fc, (Or.inr ⟨by decide, by unfold hm_fit; omega⟩)⟩ dX13_fits_42

set_option maxHeartbeats 4000000 in
set_option maxRecDepth 100000 in
theorem t_X13_firstOfX (l : Launch) (D : va_G) (cs : Nat → ClassId) (B : Nat) (G : hq_G) (V : hp_V) (n : Nat) (hI : hq_I cs G V) (q : Nat) (hR : hq_RT G q) (mo : Nat) (h_mo : G mo = some (24, 0, 0, 0)) (k : Int32) (v : Int32) (te : Int32) (pe : Int32) {m_tp m_sz m_fr m_bh m_hd m_ft m_fa m_le m_fo m_as m_fd m_bc m_bg m_bs m_be m_b0 m_b1 m_cm m_hc : Int32} (ho_mo : V mo = some (.inr (13, hm_o q (m_tp) (m_sz) (m_fr) (m_bh) (m_hd) (m_ft) (m_fa) (m_le) (m_fo) (m_as) (m_fd) (m_bc) (m_bg) (m_bs) (m_be) (m_b0) (m_b1) (m_cm) (m_hc)))) (hi_mo0 : 0 ≤ m_tp.toInt ∧ m_tp.toInt ≤ 4000) (hi_mo1 : 0 ≤ m_sz.toInt ∧ m_sz.toInt ≤ 4000) (hi_mo2 : 0 ≤ m_le.toInt ∧ m_le.toInt ≤ 276) (hi_mo3 : 0 ≤ m_fo.toInt ∧ m_fo.toInt ≤ 4) (hi_mo4 : 0 ≤ m_as.toInt ∧ m_as.toInt ≤ 4000) (hi_mo5 : 0 ≤ m_fd.toInt ∧ m_fd.toInt ≤ 900) (hi_mo6 : 0 ≤ m_cm.toInt ∧ m_cm.toInt ≤ 2) (hi_mo7 : 0 ≤ m_hc.toInt ∧ m_hc.toInt ≤ 1) {fk : Nat → Int32} (ho_fk : V (q + 10) = some (.inl (cs 1, 120, .inl (fk)))) {fw : Nat → Int32} (ho_fw : V (q + 11) = some (.inl (cs 1, 120, .inl (fw)))) {ft : Nat → Int32} (ho_ft : V (q + 12) = some (.inl (cs 1, 120, .inl (ft)))) {fp : Nat → Int32} (ho_fp : V (q + 13) = some (.inl (cs 1, 120, .inl (fp)))) {fc : Nat → Int32} (ho_fc : V (q + 9) = some (.inl (cs 1, 60, .inl (fc)))) {fl : Nat → Int32} (ho_fl : V (q + 2) = some (.inl (cs 1, 2, .inl (fl)))) (hv0 : 0 ≤ v.toInt) (hv1 : v.toInt < 30) : hp_M l yX13_firstOf cX13_firstOf 6 (some .int) ({ frames := 2, cells := 0, slots := 0, locals := 45 }) D cs B V n [.ref (mo), .int (k), .int (v), .int (te), .int (pe)] (hp_QI D cs B (fun r V' n' => n = n' ∧ hq_P cs G (fun _ => false) V V' ∧ (V' mo = some (.inr (13, hm_o q (m_tp) (m_sz) (m_fr) (m_bh) (m_hd) (m_ft) (m_fa) (m_le) (m_fo) (m_as) (m_fd) (m_bc) (m_bg) (m_bs) (m_be) (m_b0) (m_b1) (m_cm) (m_hc)))) ∧ (V' (q + 10) = some (.inl (cs 1, 120, .inl (fk)))) ∧ (V' (q + 11) = some (.inl (cs 1, 120, .inl (fw)))) ∧ (V' (q + 12) = some (.inl (cs 1, 120, .inl (ft)))) ∧ (V' (q + 13) = some (.inl (cs 1, 120, .inl (fp)))) ∧ (V' (q + 9) = some (.inl (cs 1, 60, .inl (fc)))) ∧ (V' (q + 2) = some (.inl (cs 1, 2, .inl (fl)))) ∧ ((-1 ≤ r.toInt ∧ r.toInt < 60) ∧ hm_F fk fw ft fp fc (fl (0 : Int32).toNatClampNeg).toInt k v te pe r))) 0 0 := by
  refine hp_walk (R0 := RX13) (by decide) rfl ?_ (Nat.le_of_ble_eq_true rfl)
  intro p e s m below meth c ls hx hb hr hts hown hlocks hin hml hZ hl
  have hP : hq_P cs G (fun _ => false) V V := hq_P.rf hI
  have hl : lv_has ls 6 [(0, .ref (mo)), (1, .int (k)), (2, .int (v)), (3, .int (te)), (4, .int (pe))] := hl
  have hb_k := hq_rng k
  have hb_v := hq_rng v
  have hb_te := hq_rng te
  have hb_pe := hq_rng pe
  have hb_m_tp := hq_rng m_tp
  have hb_m_sz := hq_rng m_sz
  have hb_m_fr := hq_rng m_fr
  have hb_m_bh := hq_rng m_bh
  have hb_m_hd := hq_rng m_hd
  have hb_m_ft := hq_rng m_ft
  have hb_m_fa := hq_rng m_fa
  have hb_m_le := hq_rng m_le
  have hb_m_fo := hq_rng m_fo
  have hb_m_as := hq_rng m_as
  have hb_m_fd := hq_rng m_fd
  have hb_m_bc := hq_rng m_bc
  have hb_m_bg := hq_rng m_bg
  have hb_m_bs := hq_rng m_bs
  have hb_m_be := hq_rng m_be
  have hb_m_b0 := hq_rng m_b0
  have hb_m_b1 := hq_rng m_b1
  have hb_m_cm := hq_rng m_cm
  have hb_m_hc := hq_rng m_hc
  have hf_fk := hq_rg hI (hr_10 hR) ho_fk
  have hf_fw := hq_rg hI (hr_11 hR) ho_fw
  have hf_ft := hq_rg hI (hr_12 hR) ho_ft
  have hf_fp := hq_rg hI (hr_13 hR) ho_fp
  have hf_fc := hq_rg hI (hr_9 hR) ho_fc
  have hf_fl := hq_rg hI (hr_2 hR) ho_fl
  refine lv_iconst (v := 0) hx hb dX13_firstOf_0 (by decide) ?_
  refine lv_istore (lv' := [(5, .int (0)), (0, .ref (mo)), (1, .int (k)), (2, .int (v)), (3, .int (te)), (4, .int (pe))]) hx hb dX13_firstOf_1 hl (by decide) rfl (fun ls hl => ?_)
  have hl1 : (0 : Int32).toInt = 0 := by decide
  suffices lp3 : ∀ (k9 : Nat) (V9 : hp_V) (H9 : Heap) (locs9 : List Loc) (ls : Array Slot) (i : Int32), (100 - i.toInt).toNat = k9 → hp_Z D cs B s V9 H9 n locs9 → hq_P cs G (fun _ => false) V V9 → 0 ≤ i.toInt → i.toInt ≤ 60 → (hm_Fi fk fw ft fp fc k v te pe i) → lv_has ls 6 [(5, .int (i)), (0, .ref (mo)), (1, .int (k)), (2, .int (v)), (3, .int (te)), (4, .int (pe))] → W p l e ({ frames := 2, cells := 0, slots := 0, locals := 45 }) s m ([.ref (mo), .int (k), .int (v), .int (te), .int (pe)] : List Value).toArray below meth c H9 locs9 0 0 (MQ below (hp_QI D cs B (fun r V' n' => n = n' ∧ hq_P cs G (fun _ => false) V V' ∧ (V' mo = some (.inr (13, hm_o q (m_tp) (m_sz) (m_fr) (m_bh) (m_hd) (m_ft) (m_fa) (m_le) (m_fo) (m_as) (m_fd) (m_bc) (m_bg) (m_bs) (m_be) (m_b0) (m_b1) (m_cm) (m_hc)))) ∧ (V' (q + 10) = some (.inl (cs 1, 120, .inl (fk)))) ∧ (V' (q + 11) = some (.inl (cs 1, 120, .inl (fw)))) ∧ (V' (q + 12) = some (.inl (cs 1, 120, .inl (ft)))) ∧ (V' (q + 13) = some (.inl (cs 1, 120, .inl (fp)))) ∧ (V' (q + 9) = some (.inl (cs 1, 60, .inl (fc)))) ∧ (V' (q + 2) = some (.inl (cs 1, 2, .inl (fl)))) ∧ ((-1 ≤ r.toInt ∧ r.toInt < 60) ∧ hm_F fk fw ft fp fc (fl (0 : Int32).toNatClampNeg).toInt k v te pe r))) ([.ref (mo), .int (k), .int (v), .int (te), .int (pe)] : List Value).toArray s 0 0 (hp_F B)) (F0 m 3 ls []) from lp3 _ _ _ _ ls (0) rfl hZ hP (by omega) (by omega) (hm_Fi.zero (by decide)) (lv_sub hl [0, 1, 2, 3, 4, 5] rfl)
  intro k9
  induction k9 using Nat.strongRecOn with
  | _ k9 ih3 =>
    intro V9 H9 locs9 ls i  hk3 hZ hP  hv2 hv3 hvf hl
    have hb_i := hq_rng i
    have hP_3 := hP
    refine lv_iload hx hb dX13_firstOf_3 (lv_at hl 0 rfl) ?_
    refine lv_aload_n hx hb dX13_firstOf_5 rfl (lv_at hl 1 rfl) ?_
    have fx4 : V9 (mo) = some (.inr (13, hm_o q (m_tp) (m_sz) (m_fr) (m_bh) (m_hd) (m_ft) (m_fa) (m_le) (m_fo) (m_as) (m_fd) (m_bc) (m_bg) (m_bs) (m_be) (m_b0) (m_b1) (m_cm) (m_hc))) := (hP_3.2 (mo) _ h_mo rfl).trans (ho_mo)
    refine hp_get (v := .ref (q + 2)) hx hb hts hown hZ fx4 fl_X13_10 rfl dX13_firstOf_6 ?_
    refine lv_iconst (v := 0) hx hb dX13_firstOf_9 (by decide) ?_
    have fx5 : V9 (q + 2) = some (.inl (cs 1, 2, .inl (fl))) := (hP_3.2 (q + 2) _ (hr_2 hR) rfl).trans (ho_fl)
    refine hp_iald hx hb hZ fx5 (by unfold vp_in; decide) dX13_firstOf_10 ?_
    refine lv_topi (fun y6 ey7 => ?_)
    have b9 : (y6).toInt = ((fl) (0 : Int32).toNatClampNeg).toInt := by rw [ey7]
    have b8 : hq_ir (hq_lo 8) (hq_hi 8) y6 := by rw [ey7]; exact hf_fl _ (by decide)
    have b8 : 0 ≤ (y6).toInt ∧ (y6).toInt ≤ 60 := b8
    refine lv_icmp_ge (tgt := 47) hx hb dX13_firstOf_11 (by decide) (fun c10 => ?_) (fun c10 => ?_)
    · have c10 : (y6).toInt ≤ (i).toInt := hq_lei.mp c10
      refine lv_iconst (v := -1) hx hb dX13_firstOf_47 (by decide) ?_
      have fx11 : V9 (q + 10) = some (.inl (cs 1, 120, .inl (fk))) := (hP_3.2 (q + 10) _ (hr_10 hR) rfl).trans (ho_fk)
      have fx12 : V9 (q + 11) = some (.inl (cs 1, 120, .inl (fw))) := (hP_3.2 (q + 11) _ (hr_11 hR) rfl).trans (ho_fw)
      have fx13 : V9 (q + 12) = some (.inl (cs 1, 120, .inl (ft))) := (hP_3.2 (q + 12) _ (hr_12 hR) rfl).trans (ho_ft)
      have fx14 : V9 (q + 13) = some (.inl (cs 1, 120, .inl (fp))) := (hP_3.2 (q + 13) _ (hr_13 hR) rfl).trans (ho_fp)
      have fx15 : V9 (q + 9) = some (.inl (cs 1, 60, .inl (fc))) := (hP_3.2 (q + 9) _ (hr_9 hR) rfl).trans (ho_fc)
      exact hp_iret hx hb hr hlocks hZ ⟨rfl, hP, fx4, fx11, fx12, fx13, fx14, fx15, fx5, ⟨by decide, ⟨Or.inl (by decide), fun l h0 h1 _ => hvf l h0 (by omega)⟩⟩⟩ dX13_firstOf_48
    · have c10 : ¬ (y6).toInt ≤ (i).toInt := fun h9 => c10 (hq_lei.mpr h9)
      refine lv_aload_n hx hb dX13_firstOf_14 rfl (lv_at hl 1 rfl) ?_
      refine hp_get (v := .ref (q + 10)) hx hb hts hown hZ fx4 fl_X13_29 rfl dX13_firstOf_15 ?_
      refine lv_iload hx hb dX13_firstOf_18 (lv_at hl 0 rfl) ?_
      have fx16 : V9 (q + 10) = some (.inl (cs 1, 120, .inl (fk))) := (hP_3.2 (q + 10) _ (hr_10 hR) rfl).trans (ho_fk)
      refine hp_iald hx hb hZ fx16 (hq_in (by omega) (by omega)) dX13_firstOf_20 ?_
      refine lv_topi (fun y17 ey18 => ?_)
      have b20 : (y17).toInt = ((fk) (i : Int32).toNatClampNeg).toInt := by rw [ey18]
      have b19 := hq_rng y17
      refine lv_iload_n hx hb dX13_firstOf_21 rfl (lv_at hl 2 rfl) ?_
      refine lv_icmp_ne (tgt := 41) hx hb dX13_firstOf_22 (by decide) (fun c21 => ?_) (fun c21 => ?_)
      · have c21 : ¬ (y17).toInt = (k).toInt := fun h9 => c21 (hq_eqi.mpr h9)
        obtain ⟨y22, ey23⟩ : ∃ y : Int32, y = i + (1) := ⟨_, rfl⟩
        obtain ⟨k24, hk25, b26, b27⟩ := hq_add (i) (1)
        rw [← ey23] at hk25 b26 b27
        have hk25 : (y22).toInt = (i).toInt + (1) + k24 * 4294967296 := hk25
        refine lv_iinc (v := y22) (lv' := [(5, .int (y22)), (0, .ref (mo)), (1, .int (k)), (2, .int (v)), (3, .int (te)), (4, .int (pe))]) hx hb dX13_firstOf_41 hl (k := 0) rfl (by rw [ey23]; rfl) (by decide) rfl (fun ls hl => ?_)
        refine lv_goto (tgt := 3) hx hb dX13_firstOf_44 (by decide) ?_
        exact ih3 _ (by omega) _ _ _ ls (y22) rfl hZ hP (by omega) (by omega) (hm_Fi.step hvf (fun h9 => by have h8 := h9.1; omega) (by omega)) (lv_sub hl [0, 1, 2, 3, 4, 5] rfl)
      · have c21 : (y17).toInt = (k).toInt := hq_eqi.mp c21
        refine lv_aload_n hx hb dX13_firstOf_25 rfl (lv_at hl 1 rfl) ?_
        refine lv_iload hx hb dX13_firstOf_26 (lv_at hl 0 rfl) ?_
        refine lv_iload_n hx hb dX13_firstOf_28 rfl (lv_at hl 3 rfl) ?_
        refine lv_iload_n hx hb dX13_firstOf_29 rfl (lv_at hl 4 rfl) ?_
        refine lv_iload hx hb dX13_firstOf_30 (lv_at hl 5 rfl) ?_
        have fx36 : V9 (q + 11) = some (.inl (cs 1, 120, .inl (fw))) := (hP_3.2 (q + 11) _ (hr_11 hR) rfl).trans (ho_fw)
        have fx38 : V9 (q + 12) = some (.inl (cs 1, 120, .inl (ft))) := (hP_3.2 (q + 12) _ (hr_12 hR) rfl).trans (ho_ft)
        have fx40 : V9 (q + 13) = some (.inl (cs 1, 120, .inl (fp))) := (hP_3.2 (q + 13) _ (hr_13 hR) rfl).trans (ho_fp)
        have fx42 : V9 (q + 9) = some (.inl (cs 1, 60, .inl (fc))) := (hP_3.2 (q + 9) _ (hr_9 hR) rfl).trans (ho_fc)
        refine hp_calli (hp_runV (As := [.int (i), .int (v), .int (te), .int (pe)]) (rest := []) hx hb hml hown hts (t_X13_fitsX l D cs B G  V9 n hP.1 q hR (mo) h_mo (i) (v) (te) (pe) fx4  (by omega) (by omega) (by omega) (by omega) (by omega) (by omega) (by omega) (by omega) fx16 fx36 fx38 fx40 fx42 (by omega) (by omega) (by omega) (by omega)) hZ fx4 cv_X13_327 rfl rfl ⟨Nat.le_of_ble_eq_true rfl, Nat.le_of_ble_eq_true rfl⟩ rfl hl.1 rfl (Nat.le_of_ble_eq_true rfl) dX13_firstOf_32 ⟨(Nat.le_of_ble_eq_true rfl), (Nat.le_of_ble_eq_true rfl)⟩) hZ (fun r31 V28 n29 _ _ hw30 hZ => ?_)
        obtain ⟨rfl, hq32, ho34, ho35, ho37, ho39, ho41, ho43, hr33⟩ := hw30
        have hP := hP.trans hq32 (fun _ _ => rfl)
        have b44 := hq_rng r31
        have b45 := hr33.bool
        refine lv_if_eq (tgt := 41) hx hb dX13_firstOf_35 (by decide) (fun c46 => ?_) (fun c46 => ?_)
        · have c46 : (r31).toInt = (0 : Int) := hq_eqi.mp c46
          obtain ⟨y47, ey48⟩ : ∃ y : Int32, y = i + (1) := ⟨_, rfl⟩
          obtain ⟨k49, hk50, b51, b52⟩ := hq_add (i) (1)
          rw [← ey48] at hk50 b51 b52
          have hk50 : (y47).toInt = (i).toInt + (1) + k49 * 4294967296 := hk50
          refine lv_iinc (v := y47) (lv' := [(5, .int (y47)), (0, .ref (mo)), (1, .int (k)), (2, .int (v)), (3, .int (te)), (4, .int (pe))]) hx hb dX13_firstOf_41 hl (k := 0) rfl (by rw [ey48]; rfl) (by decide) rfl (fun ls hl => ?_)
          refine lv_goto (tgt := 3) hx hb dX13_firstOf_44 (by decide) ?_
          exact ih3 _ (by omega) _ _ _ ls (y47) rfl hZ hP (by omega) (by omega) (hm_Fi.step hvf (fun h9 => by rcases hr33 with h8 | h8; (· omega); (· exact h8.2 h9.2)) (by omega)) (lv_sub hl [0, 1, 2, 3, 4, 5] rfl)
        · have c46 : ¬ (r31).toInt = (0 : Int) := fun h9 => c46 (hq_eqi.mpr h9)
          refine lv_iload hx hb dX13_firstOf_38 (lv_at hl 0 rfl) ?_
          have fx53 : V28 (q + 2) = some (.inl (cs 1, 2, .inl (fl))) := (hq32.2 (q + 2) _ (hr_2 hR) rfl).trans (fx5)
          exact hp_iret hx hb hr hlocks hZ ⟨rfl, hP, ho34, ho35, ho37, ho39, ho41, ho43, fx53, ⟨by omega, ⟨Or.inr ⟨by omega, by omega, by omega, by rcases hr33 with h8 | h8; (· exact h8.2); (· omega)⟩, fun l h0 h1 h2 => hvf l h0 (by omega)⟩⟩⟩ dX13_firstOf_40

set_option maxHeartbeats 4000000 in
set_option maxRecDepth 100000 in
theorem t_X13_isAsked (l : Launch) (D : va_G) (cs : Nat → ClassId) (B : Nat) (G : hq_G) (V : hp_V) (n : Nat) (hI : hq_I cs G V) (q : Nat) (hR : hq_RT G q) (mo : Nat) (h_mo : G mo = some (24, 0, 0, 0)) {m_tp m_sz m_fr m_bh m_hd m_ft m_fa m_le m_fo m_as m_fd m_bc m_bg m_bs m_be m_b0 m_b1 m_cm m_hc : Int32} (ho_mo : V mo = some (.inr (13, hm_o q (m_tp) (m_sz) (m_fr) (m_bh) (m_hd) (m_ft) (m_fa) (m_le) (m_fo) (m_as) (m_fd) (m_bc) (m_bg) (m_bs) (m_be) (m_b0) (m_b1) (m_cm) (m_hc)))) (hi_mo0 : 0 ≤ m_tp.toInt ∧ m_tp.toInt ≤ 4000) (hi_mo1 : 0 ≤ m_sz.toInt ∧ m_sz.toInt ≤ 4000) (hi_mo2 : 0 ≤ m_le.toInt ∧ m_le.toInt ≤ 276) (hi_mo3 : 0 ≤ m_fo.toInt ∧ m_fo.toInt ≤ 4) (hi_mo4 : 0 ≤ m_as.toInt ∧ m_as.toInt ≤ 4000) (hi_mo5 : 0 ≤ m_fd.toInt ∧ m_fd.toInt ≤ 900) (hi_mo6 : 0 ≤ m_cm.toInt ∧ m_cm.toInt ≤ 2) (hi_mo7 : 0 ≤ m_hc.toInt ∧ m_hc.toInt ≤ 1) : hp_M l yX13_isAsked cX13_isAsked 2 (some .boolean) ({ frames := 1, cells := 0, slots := 0, locals := 21 }) D cs B V n [.ref (mo)] (hp_QI D cs B (fun r V' n' => n = n' ∧ hq_P cs G (fun _ => false) V V' ∧ (V' mo = some (.inr (13, hm_o q (m_tp) (m_sz) (m_fr) (m_bh) (m_hd) (m_ft) (m_fa) (m_le) (m_fo) (m_as) (m_fd) (m_bc) (m_bg) (m_bs) (m_be) (m_b0) (m_b1) (m_cm) (m_hc)))) ∧ (0 ≤ r.toInt ∧ r.toInt ≤ 1))) 0 0 := by
  refine hp_walk (R0 := RX13) (by decide) rfl ?_ (Nat.le_of_ble_eq_true rfl)
  intro p e s m below meth c ls hx hb hr hts hown hlocks hin hml hZ hl
  have hP : hq_P cs G (fun _ => false) V V := hq_P.rf hI
  have hl : lv_has ls 2 [(0, .ref (mo))] := hl
  have hb_m_tp := hq_rng m_tp
  have hb_m_sz := hq_rng m_sz
  have hb_m_fr := hq_rng m_fr
  have hb_m_bh := hq_rng m_bh
  have hb_m_hd := hq_rng m_hd
  have hb_m_ft := hq_rng m_ft
  have hb_m_fa := hq_rng m_fa
  have hb_m_le := hq_rng m_le
  have hb_m_fo := hq_rng m_fo
  have hb_m_as := hq_rng m_as
  have hb_m_fd := hq_rng m_fd
  have hb_m_bc := hq_rng m_bc
  have hb_m_bg := hq_rng m_bg
  have hb_m_bs := hq_rng m_bs
  have hb_m_be := hq_rng m_be
  have hb_m_b0 := hq_rng m_b0
  have hb_m_b1 := hq_rng m_b1
  have hb_m_cm := hq_rng m_cm
  have hb_m_hc := hq_rng m_hc
  refine lv_aload_n hx hb dX13_isAsked_0 rfl (lv_at hl 0 rfl) ?_
  refine hp_get (v := .int (m_le)) hx hb hts hown hZ ho_mo fl_X13_331 rfl dX13_isAsked_1 ?_
  refine lv_aload_n hx hb dX13_isAsked_4 rfl (lv_at hl 0 rfl) ?_
  refine hp_get (v := .int (m_as)) hx hb hts hown hZ ho_mo fl_X13_389 rfl dX13_isAsked_5 ?_
  refine lv_icmp_eq (tgt := 13) hx hb dX13_isAsked_8 (by decide) (fun c1 => ?_) (fun c1 => ?_)
  · have c1 : (m_le).toInt = (m_as).toInt := hq_eqi.mp c1
    refine lv_iconst (v := 0) hx hb dX13_isAsked_13 (by decide) ?_
    refine lv_istore_n (lv' := [(1, .int (0)), (0, .ref (mo))]) hx hb dX13_isAsked_14 rfl hl (by decide) rfl (fun ls hl => ?_)
    have hl2 : (0 : Int32).toInt = 0 := by decide
    suffices lp15 : ∀ (k9 : Nat) (V9 : hp_V) (H9 : Heap) (locs9 : List Loc) (ls : Array Slot) (i : Int32), (300 - i.toInt).toNat = k9 → hp_Z D cs B s V9 H9 n locs9 → hq_P cs G (fun _ => false) V V9 → 0 ≤ i.toInt → i.toInt ≤ 276 → lv_has ls 2 [(1, .int (i)), (0, .ref (mo))] → W p l e ({ frames := 1, cells := 0, slots := 0, locals := 21 }) s m ([.ref (mo)] : List Value).toArray below meth c H9 locs9 0 0 (MQ below (hp_QI D cs B (fun r V' n' => n = n' ∧ hq_P cs G (fun _ => false) V V' ∧ (V' mo = some (.inr (13, hm_o q (m_tp) (m_sz) (m_fr) (m_bh) (m_hd) (m_ft) (m_fa) (m_le) (m_fo) (m_as) (m_fd) (m_bc) (m_bg) (m_bs) (m_be) (m_b0) (m_b1) (m_cm) (m_hc)))) ∧ (0 ≤ r.toInt ∧ r.toInt ≤ 1))) ([.ref (mo)] : List Value).toArray s 0 0 (hp_F B)) (F0 m 15 ls []) from lp15 _ _ _ _ ls (0) rfl hZ hP (by omega) (by omega) (lv_sub hl [0, 1] rfl)
    intro k9
    induction k9 using Nat.strongRecOn with
    | _ k9 ih15 =>
      intro V9 H9 locs9 ls i  hk15 hZ hP  hv3 hv4 hl
      have hb_i := hq_rng i
      have hP_15 := hP
      refine lv_iload_n hx hb dX13_isAsked_15 rfl (lv_at hl 0 rfl) ?_
      refine lv_aload_n hx hb dX13_isAsked_16 rfl (lv_at hl 1 rfl) ?_
      have fx5 : V9 (mo) = some (.inr (13, hm_o q (m_tp) (m_sz) (m_fr) (m_bh) (m_hd) (m_ft) (m_fa) (m_le) (m_fo) (m_as) (m_fd) (m_bc) (m_bg) (m_bs) (m_be) (m_b0) (m_b1) (m_cm) (m_hc))) := (hP_15.2 (mo) _ h_mo rfl).trans (ho_mo)
      refine hp_get (v := .int (m_le)) hx hb hts hown hZ fx5 fl_X13_331 rfl dX13_isAsked_17 ?_
      refine lv_icmp_ge (tgt := 46) hx hb dX13_isAsked_20 (by decide) (fun c6 => ?_) (fun c6 => ?_)
      · have c6 : (m_le).toInt ≤ (i).toInt := hq_lei.mp c6
        refine lv_iconst (v := 1) hx hb dX13_isAsked_46 (by decide) ?_
        exact hp_zret hx hb hr rfl hlocks hZ ⟨rfl, hP, fx5, (by decide)⟩ dX13_isAsked_47
      · have c6 : ¬ (m_le).toInt ≤ (i).toInt := fun h9 => c6 (hq_lei.mpr h9)
        refine lv_aload_n hx hb dX13_isAsked_23 rfl (lv_at hl 1 rfl) ?_
        refine hp_get (v := .ref (q + 21)) hx hb hts hown hZ fx5 fl_X13_213 rfl dX13_isAsked_24 ?_
        refine lv_iload_n hx hb dX13_isAsked_27 rfl (lv_at hl 0 rfl) ?_
        obtain ⟨hN9, g8, eV7⟩ := hq_o20 hP.1 (hr_21 hR)
        refine hp_bald hx hb hZ eV7 (hq_in (by omega) (by omega)) dX13_isAsked_28 ?_
        refine lv_topi (fun y11 ey12 => ?_)
        have b13 := hq_rng y11
        refine lv_aload_n hx hb dX13_isAsked_29 rfl (lv_at hl 1 rfl) ?_
        refine hp_get (v := .ref (q + 37)) hx hb hts hown hZ fx5 fl_X13_262 rfl dX13_isAsked_30 ?_
        refine lv_iload_n hx hb dX13_isAsked_33 rfl (lv_at hl 0 rfl) ?_
        obtain ⟨hN16, g15, eV14⟩ := hq_o20 hP.1 (hr_37 hR)
        refine hp_bald hx hb hZ eV14 (hq_in (by omega) (by omega)) dX13_isAsked_34 ?_
        refine lv_topi (fun y18 ey19 => ?_)
        have b20 := hq_rng y18
        refine lv_icmp_eq (tgt := 40) hx hb dX13_isAsked_35 (by decide) (fun c21 => ?_) (fun c21 => ?_)
        · have c21 : (y11).toInt = (y18).toInt := hq_eqi.mp c21
          obtain ⟨y22, ey23⟩ : ∃ y : Int32, y = i + (1) := ⟨_, rfl⟩
          obtain ⟨k24, hk25, b26, b27⟩ := hq_add (i) (1)
          rw [← ey23] at hk25 b26 b27
          have hk25 : (y22).toInt = (i).toInt + (1) + k24 * 4294967296 := hk25
          refine lv_iinc (v := y22) (lv' := [(1, .int (y22)), (0, .ref (mo))]) hx hb dX13_isAsked_40 hl (k := 0) rfl (by rw [ey23]; rfl) (by decide) rfl (fun ls hl => ?_)
          refine lv_goto (tgt := 15) hx hb dX13_isAsked_43 (by decide) ?_
          exact ih15 _ (by omega) _ _ _ ls (y22) rfl hZ hP (by omega) (by omega) (lv_sub hl [0, 1] rfl)
        · have c21 : ¬ (y11).toInt = (y18).toInt := fun h9 => c21 (hq_eqi.mpr h9)
          refine lv_iconst (v := 0) hx hb dX13_isAsked_38 (by decide) ?_
          exact hp_zret hx hb hr rfl hlocks hZ ⟨rfl, hP, fx5, (by decide)⟩ dX13_isAsked_39
  · have c1 : ¬ (m_le).toInt = (m_as).toInt := fun h9 => c1 (hq_eqi.mpr h9)
    refine lv_iconst (v := 0) hx hb dX13_isAsked_11 (by decide) ?_
    exact hp_zret hx hb hr rfl hlocks hZ ⟨rfl, hP, ho_mo, (by decide)⟩ dX13_isAsked_12

set_option maxHeartbeats 4000000 in
set_option maxRecDepth 100000 in
theorem t_X13_attempt (l : Launch) (D : va_G) (cs : Nat → ClassId) (B : Nat) (G : hq_G) (V : hp_V) (n : Nat) (hI : hq_I cs G V) (q : Nat) (hR : hq_RT G q) (gs ge : Int32) (gx : Int) (mo : Nat) (h_mo : G mo = some (24, 0, 0, 0)) (v : Int32) (stm : Int32) (edg : Int32) (no0 : Int32) (no1 : Int32) (cost : Int32) (chg : Int32) {m_tp m_sz m_fr m_bh m_hd m_ft m_fa m_le m_fo m_as m_fd m_bc m_bg m_bs m_be m_b0 m_b1 m_cm m_hc : Int32} (ho_mo : V mo = some (.inr (13, hm_o q (m_tp) (m_sz) (m_fr) (m_bh) (m_hd) (m_ft) (m_fa) (m_le) (m_fo) (m_as) (m_fd) (m_bc) (m_bg) (m_bs) (m_be) (m_b0) (m_b1) (m_cm) (m_hc)))) (hi_mo0 : 0 ≤ m_tp.toInt ∧ m_tp.toInt ≤ 4000) (hi_mo1 : 0 ≤ m_sz.toInt ∧ m_sz.toInt ≤ 4000) (hi_mo2 : 0 ≤ m_le.toInt ∧ m_le.toInt ≤ 276) (hi_mo3 : 0 ≤ m_fo.toInt ∧ m_fo.toInt ≤ 4) (hi_mo4 : 0 ≤ m_as.toInt ∧ m_as.toInt ≤ 4000) (hi_mo5 : 0 ≤ m_fd.toInt ∧ m_fd.toInt ≤ 900) (hi_mo6 : 0 ≤ m_cm.toInt ∧ m_cm.toInt ≤ 2) (hi_mo7 : 0 ≤ m_hc.toInt ∧ m_hc.toInt ≤ 1) (hi_mo8 : hm_BI gs ge gx m_bc m_bs m_be m_b0 m_b1) (hv0 : 0 ≤ v.toInt) (hv1 : v.toInt < 30) (hr_stm0 : -1 ≤ stm.toInt) (hr_stm1 : stm.toInt < 60) (hr_edg0 : -1 ≤ edg.toInt) (hr_edg1 : edg.toInt < 60) (hr_no00 : -1 ≤ no0.toInt) (hr_no01 : no0.toInt < 60) (hr_no10 : -1 ≤ no1.toInt) (hr_no11 : no1.toInt < 60) (hN : hm_N gs ge stm edg no0 no1 + gx ≤ chg.toInt) (hH : hm_VQ cs V q 0 0) : hp_M l yX13_attempt cX13_attempt 8 none ({ frames := 4, cells := 0, slots := 0, locals := 95 }) D cs B V n [.ref (mo), .int (v), .int (stm), .int (edg), .int (no0), .int (no1), .int (cost), .int (chg)] (hp_QV D cs B (fun V' n' => n = n' ∧ hq_P cs G (fun g => g.1 == 1 || g.1 == 43) V V' ∧ (∃ (m_le1 : Int32) (m_bc1 : Int32) (m_bg1 : Int32) (m_bs1 : Int32) (m_be1 : Int32) (m_b01 : Int32) (m_b11 : Int32), V' mo = some (.inr (13, hm_o q (m_tp) (m_sz) (m_fr) (m_bh) (m_hd) (m_ft) (m_fa) (m_le1) (m_fo) (m_as) (m_fd) (m_bc1) (m_bg1) (m_bs1) (m_be1) (m_b01) (m_b11) (m_cm) (m_hc))) ∧ (0 ≤ m_le1.toInt ∧ m_le1.toInt ≤ 276) ∧ (hm_BI gs ge gx m_bc1 m_bs1 m_be1 m_b01 m_b11)))) 0 0 := by
  refine hp_walk (R0 := RX13) (by decide) rfl ?_ (Nat.le_of_ble_eq_true rfl)
  intro p e s m below meth c ls hx hb hr hts hown hlocks hin hml hZ hl
  have hP : hq_P cs G (fun g => g.1 == 1 || g.1 == 43) V V := hq_P.rf hI
  have hl : lv_has ls 8 [(0, .ref (mo)), (1, .int (v)), (2, .int (stm)), (3, .int (edg)), (4, .int (no0)), (5, .int (no1)), (6, .int (cost)), (7, .int (chg))] := hl
  have hb_v := hq_rng v
  have hb_stm := hq_rng stm
  have hb_edg := hq_rng edg
  have hb_no0 := hq_rng no0
  have hb_no1 := hq_rng no1
  have hb_cost := hq_rng cost
  have hb_chg := hq_rng chg
  have hb_m_tp := hq_rng m_tp
  have hb_m_sz := hq_rng m_sz
  have hb_m_fr := hq_rng m_fr
  have hb_m_bh := hq_rng m_bh
  have hb_m_hd := hq_rng m_hd
  have hb_m_ft := hq_rng m_ft
  have hb_m_fa := hq_rng m_fa
  have hb_m_le := hq_rng m_le
  have hb_m_fo := hq_rng m_fo
  have hb_m_as := hq_rng m_as
  have hb_m_fd := hq_rng m_fd
  have hb_m_bc := hq_rng m_bc
  have hb_m_bg := hq_rng m_bg
  have hb_m_bs := hq_rng m_bs
  have hb_m_be := hq_rng m_be
  have hb_m_b0 := hq_rng m_b0
  have hb_m_b1 := hq_rng m_b1
  have hb_m_cm := hq_rng m_cm
  have hb_m_hc := hq_rng m_hc
  refine lv_iload hx hb dX13_attempt_0 (lv_at hl 7 rfl) ?_
  refine lv_iconst (v := 2) hx hb dX13_attempt_2 (by decide) ?_
  refine lv_icmp_gt (tgt := 33) hx hb dX13_attempt_3 (by decide) (fun c1 => ?_) (fun c1 => ?_)
  · have c1 : (2 : Int) < (chg).toInt := hq_lti.mp c1
    exact hp_vret hx hb hr hlocks hZ ⟨rfl, hP, ⟨m_le, m_bc, m_bg, m_bs, m_be, m_b0, m_b1, ho_mo, by omega, by first | assumption | exact Or.inr ⟨by omega, by omega, by omega, by omega, by omega⟩⟩⟩ dX13_attempt_33
  · have c1 : ¬ (2 : Int) < (chg).toInt := fun h9 => c1 (hq_lti.mpr h9)
    refine lv_iload hx hb dX13_attempt_6 (lv_at hl 6 rfl) ?_
    refine lv_aload_n hx hb dX13_attempt_8 rfl (lv_at hl 0 rfl) ?_
    refine hp_get (v := .int (m_bc)) hx hb hts hown hZ ho_mo fl_X13_413 rfl dX13_attempt_9 ?_
    refine lv_icmp_gt (tgt := 33) hx hb dX13_attempt_12 (by decide) (fun c2 => ?_) (fun c2 => ?_)
    · have c2 : (m_bc).toInt < (cost).toInt := hq_lti.mp c2
      exact hp_vret hx hb hr hlocks hZ ⟨rfl, hP, ⟨m_le, m_bc, m_bg, m_bs, m_be, m_b0, m_b1, ho_mo, by omega, by first | assumption | exact Or.inr ⟨by omega, by omega, by omega, by omega, by omega⟩⟩⟩ dX13_attempt_33
    · have c2 : ¬ (m_bc).toInt < (cost).toInt := fun h9 => c2 (hq_lti.mpr h9)
      refine lv_iload hx hb dX13_attempt_15 (lv_at hl 6 rfl) ?_
      refine lv_aload_n hx hb dX13_attempt_17 rfl (lv_at hl 0 rfl) ?_
      refine hp_get (v := .int (m_bc)) hx hb hts hown hZ ho_mo fl_X13_413 rfl dX13_attempt_18 ?_
      refine lv_icmp_ne (tgt := 34) hx hb dX13_attempt_21 (by decide) (fun c3 => ?_) (fun c3 => ?_)
      · have c3 : ¬ (cost).toInt = (m_bc).toInt := fun h9 => c3 (hq_eqi.mpr h9)
        refine lv_aload_n hx hb dX13_attempt_34 rfl (lv_at hl 0 rfl) ?_
        refine lv_iload_n hx hb dX13_attempt_35 rfl (lv_at hl 1 rfl) ?_
        refine lv_iload_n hx hb dX13_attempt_36 rfl (lv_at hl 2 rfl) ?_
        refine lv_iload_n hx hb dX13_attempt_37 rfl (lv_at hl 3 rfl) ?_
        refine lv_iload hx hb dX13_attempt_38 (lv_at hl 4 rfl) ?_
        refine lv_iload hx hb dX13_attempt_40 (lv_at hl 5 rfl) ?_
        obtain ⟨hN16, g15, eV14, hf17⟩ := hq_o21 hP.1 (hr_14 hR)
        obtain ⟨hN21, g20, eV19, hf22⟩ := hq_o21 hP.1 (hr_15 hR)
        obtain ⟨hN26, g25, eV24, hf27⟩ := hq_o21 hP.1 (hr_10 hR)
        obtain ⟨hN31, g30, eV29, hf32⟩ := hq_o21 hP.1 (hr_2 hR)
        refine hp_calli (hp_runV (As := [.int (v), .int (stm), .int (edg), .int (no0), .int (no1)]) (rest := []) hx hb hml hown hts (t_X13_make l D cs B G  V n hP.1 q hR (mo) h_mo (v) (stm) (edg) (no0) (no1) ho_mo  (by omega) (by omega) (by omega) (by omega) (by omega) (by omega) (by omega) (by omega) eV14 eV19 eV24 eV29 (by omega) (by omega) (by omega) (by omega) (by omega) (by omega) (hH.keep hR (fun x t hx hg => hP.2 x t hx (by simp [hg])))) hZ ho_mo cv_X13_360 rfl rfl ⟨Nat.le_of_ble_eq_true rfl, Nat.le_of_ble_eq_true rfl⟩ rfl hl.1 rfl (Nat.le_of_ble_eq_true rfl) dX13_attempt_42 ⟨(Nat.le_of_ble_eq_true rfl), (Nat.le_of_ble_eq_true rfl)⟩) hZ (fun r7 V4 n5 _ _ hw6 hZ => ?_)
        obtain ⟨rfl, hq8, ⟨z10, ho11, hi12, hi13⟩, ho18, ho23, ho28, ho33, hr9⟩ := hw6
        have hP := hP.trans hq8 (by intro g h; simp_all)
        have b34 := hq_rng z10
        have b35 := hq_rng r7
        refine lv_if_eq (tgt := 55) hx hb dX13_attempt_45 (by decide) (fun c36 => ?_) (fun c36 => ?_)
        · have c36 : (r7).toInt = (0 : Int) := hq_eqi.mp c36
          exact hp_vret hx hb hr hlocks hZ ⟨rfl, hP, ⟨z10, m_bc, m_bg, m_bs, m_be, m_b0, m_b1, ho11, by omega, by first | assumption | exact Or.inr ⟨by omega, by omega, by omega, by omega, by omega⟩⟩⟩ dX13_attempt_55
        · have c36 : ¬ (r7).toInt = (0 : Int) := fun h9 => c36 (hq_eqi.mpr h9)
          refine lv_aload_n hx hb dX13_attempt_48 rfl (lv_at hl 0 rfl) ?_
          refine hp_calli (hp_runV (As := []) (rest := []) hx hb hml hown hts (t_X13_isAsked l D cs B G  V4 n hP.1 q hR (mo) h_mo ho11  (by omega) (by omega) (by omega) (by omega) (by omega) (by omega) (by omega) (by omega) ) hZ ho11 cv_X13_419 rfl rfl ⟨Nat.le_of_ble_eq_true rfl, Nat.le_of_ble_eq_true rfl⟩ rfl hl.1 rfl (Nat.le_of_ble_eq_true rfl) dX13_attempt_49 ⟨(Nat.le_of_ble_eq_true rfl), (Nat.le_of_ble_eq_true rfl)⟩) hZ (fun r40 V37 n38 _ _ hw39 hZ => ?_)
          obtain ⟨rfl, hq41, ho43, hr42⟩ := hw39
          have hP := hP.trans hq41 (fun _ _ => rfl)
          have b44 := hq_rng r40
          refine lv_if_ne (tgt := 56) hx hb dX13_attempt_52 (by decide) (fun c45 => ?_) (fun c45 => ?_)
          · have c45 : ¬ (r40).toInt = (0 : Int) := fun h9 => c45 (hq_eqi.mpr h9)
            refine lv_aload_n hx hb dX13_attempt_56 rfl (lv_at hl 0 rfl) ?_
            refine lv_iload hx hb dX13_attempt_57 (lv_at hl 6 rfl) ?_
            refine hp_put hx hb hts hown hZ ho43 fp_X13_413 rfl rfl (Nat.le_of_ble_eq_true rfl) dX13_attempt_59 (fun V46 _ _ e47 o48 hZ => ?_)
            have e47 : V46 (mo) = some (.inr (13, hm_o q (m_tp) (m_sz) (m_fr) (m_bh) (m_hd) (m_ft) (m_fa) (z10) (m_fo) (m_as) (m_fd) (cost) (m_bg) (m_bs) (m_be) (m_b0) (m_b1) (m_cm) (m_hc))) := e47
            have hP := hP.put h_mo e47 o48 (trivial) rfl
            refine lv_aload_n hx hb dX13_attempt_62 rfl (lv_at hl 0 rfl) ?_
            refine lv_iload hx hb dX13_attempt_63 (lv_at hl 7 rfl) ?_
            refine hp_put hx hb hts hown hZ e47 fp_X13_416 rfl rfl (Nat.le_of_ble_eq_true rfl) dX13_attempt_65 (fun V49 _ _ e50 o51 hZ => ?_)
            have e50 : V49 (mo) = some (.inr (13, hm_o q (m_tp) (m_sz) (m_fr) (m_bh) (m_hd) (m_ft) (m_fa) (z10) (m_fo) (m_as) (m_fd) (cost) (chg) (m_bs) (m_be) (m_b0) (m_b1) (m_cm) (m_hc))) := e50
            have hP := hP.put h_mo e50 o51 (trivial) rfl
            refine lv_aload_n hx hb dX13_attempt_68 rfl (lv_at hl 0 rfl) ?_
            refine lv_iload_n hx hb dX13_attempt_69 rfl (lv_at hl 2 rfl) ?_
            refine hp_put hx hb hts hown hZ e50 fp_X13_422 rfl rfl (Nat.le_of_ble_eq_true rfl) dX13_attempt_70 (fun V52 _ _ e53 o54 hZ => ?_)
            have e53 : V52 (mo) = some (.inr (13, hm_o q (m_tp) (m_sz) (m_fr) (m_bh) (m_hd) (m_ft) (m_fa) (z10) (m_fo) (m_as) (m_fd) (cost) (chg) (stm) (m_be) (m_b0) (m_b1) (m_cm) (m_hc))) := e53
            have hP := hP.put h_mo e53 o54 (trivial) rfl
            refine lv_aload_n hx hb dX13_attempt_73 rfl (lv_at hl 0 rfl) ?_
            refine lv_iload_n hx hb dX13_attempt_74 rfl (lv_at hl 3 rfl) ?_
            refine hp_put hx hb hts hown hZ e53 fp_X13_425 rfl rfl (Nat.le_of_ble_eq_true rfl) dX13_attempt_75 (fun V55 _ _ e56 o57 hZ => ?_)
            have e56 : V55 (mo) = some (.inr (13, hm_o q (m_tp) (m_sz) (m_fr) (m_bh) (m_hd) (m_ft) (m_fa) (z10) (m_fo) (m_as) (m_fd) (cost) (chg) (stm) (edg) (m_b0) (m_b1) (m_cm) (m_hc))) := e56
            have hP := hP.put h_mo e56 o57 (trivial) rfl
            refine lv_aload_n hx hb dX13_attempt_78 rfl (lv_at hl 0 rfl) ?_
            refine lv_iload hx hb dX13_attempt_79 (lv_at hl 4 rfl) ?_
            refine hp_put hx hb hts hown hZ e56 fp_X13_428 rfl rfl (Nat.le_of_ble_eq_true rfl) dX13_attempt_81 (fun V58 _ _ e59 o60 hZ => ?_)
            have e59 : V58 (mo) = some (.inr (13, hm_o q (m_tp) (m_sz) (m_fr) (m_bh) (m_hd) (m_ft) (m_fa) (z10) (m_fo) (m_as) (m_fd) (cost) (chg) (stm) (edg) (no0) (m_b1) (m_cm) (m_hc))) := e59
            have hP := hP.put h_mo e59 o60 (trivial) rfl
            refine lv_aload_n hx hb dX13_attempt_84 rfl (lv_at hl 0 rfl) ?_
            refine lv_iload hx hb dX13_attempt_85 (lv_at hl 5 rfl) ?_
            refine hp_put hx hb hts hown hZ e59 fp_X13_431 rfl rfl (Nat.le_of_ble_eq_true rfl) dX13_attempt_87 (fun V61 _ _ e62 o63 hZ => ?_)
            have e62 : V61 (mo) = some (.inr (13, hm_o q (m_tp) (m_sz) (m_fr) (m_bh) (m_hd) (m_ft) (m_fa) (z10) (m_fo) (m_as) (m_fd) (cost) (chg) (stm) (edg) (no0) (no1) (m_cm) (m_hc))) := e62
            have hP := hP.put h_mo e62 o63 (trivial) rfl
            exact hp_vret hx hb hr hlocks hZ ⟨rfl, hP, ⟨z10, cost, chg, stm, edg, no0, no1, e62, by omega, by first | assumption | exact Or.inr ⟨by omega, by omega, by omega, by omega, by omega⟩⟩⟩ dX13_attempt_90
          · have c45 : (r40).toInt = (0 : Int) := hq_eqi.mp c45
            exact hp_vret hx hb hr hlocks hZ ⟨rfl, hP, ⟨z10, m_bc, m_bg, m_bs, m_be, m_b0, m_b1, ho43, by omega, by first | assumption | exact Or.inr ⟨by omega, by omega, by omega, by omega, by omega⟩⟩⟩ dX13_attempt_55
      · have c3 : (cost).toInt = (m_bc).toInt := hq_eqi.mp c3
        refine lv_iload hx hb dX13_attempt_24 (lv_at hl 7 rfl) ?_
        refine lv_aload_n hx hb dX13_attempt_26 rfl (lv_at hl 0 rfl) ?_
        refine hp_get (v := .int (m_bg)) hx hb hts hown hZ ho_mo fl_X13_416 rfl dX13_attempt_27 ?_
        refine lv_icmp_lt (tgt := 34) hx hb dX13_attempt_30 (by decide) (fun c64 => ?_) (fun c64 => ?_)
        · have c64 : (chg).toInt < (m_bg).toInt := hq_lti.mp c64
          refine lv_aload_n hx hb dX13_attempt_34 rfl (lv_at hl 0 rfl) ?_
          refine lv_iload_n hx hb dX13_attempt_35 rfl (lv_at hl 1 rfl) ?_
          refine lv_iload_n hx hb dX13_attempt_36 rfl (lv_at hl 2 rfl) ?_
          refine lv_iload_n hx hb dX13_attempt_37 rfl (lv_at hl 3 rfl) ?_
          refine lv_iload hx hb dX13_attempt_38 (lv_at hl 4 rfl) ?_
          refine lv_iload hx hb dX13_attempt_40 (lv_at hl 5 rfl) ?_
          obtain ⟨hN77, g76, eV75, hf78⟩ := hq_o21 hP.1 (hr_14 hR)
          obtain ⟨hN82, g81, eV80, hf83⟩ := hq_o21 hP.1 (hr_15 hR)
          obtain ⟨hN87, g86, eV85, hf88⟩ := hq_o21 hP.1 (hr_10 hR)
          obtain ⟨hN92, g91, eV90, hf93⟩ := hq_o21 hP.1 (hr_2 hR)
          refine hp_calli (hp_runV (As := [.int (v), .int (stm), .int (edg), .int (no0), .int (no1)]) (rest := []) hx hb hml hown hts (t_X13_make l D cs B G  V n hP.1 q hR (mo) h_mo (v) (stm) (edg) (no0) (no1) ho_mo  (by omega) (by omega) (by omega) (by omega) (by omega) (by omega) (by omega) (by omega) eV75 eV80 eV85 eV90 (by omega) (by omega) (by omega) (by omega) (by omega) (by omega) (hH.keep hR (fun x t hx hg => hP.2 x t hx (by simp [hg])))) hZ ho_mo cv_X13_360 rfl rfl ⟨Nat.le_of_ble_eq_true rfl, Nat.le_of_ble_eq_true rfl⟩ rfl hl.1 rfl (Nat.le_of_ble_eq_true rfl) dX13_attempt_42 ⟨(Nat.le_of_ble_eq_true rfl), (Nat.le_of_ble_eq_true rfl)⟩) hZ (fun r68 V65 n66 _ _ hw67 hZ => ?_)
          obtain ⟨rfl, hq69, ⟨z71, ho72, hi73, hi74⟩, ho79, ho84, ho89, ho94, hr70⟩ := hw67
          have hP := hP.trans hq69 (by intro g h; simp_all)
          have b95 := hq_rng z71
          have b96 := hq_rng r68
          refine lv_if_eq (tgt := 55) hx hb dX13_attempt_45 (by decide) (fun c97 => ?_) (fun c97 => ?_)
          · have c97 : (r68).toInt = (0 : Int) := hq_eqi.mp c97
            exact hp_vret hx hb hr hlocks hZ ⟨rfl, hP, ⟨z71, m_bc, m_bg, m_bs, m_be, m_b0, m_b1, ho72, by omega, by first | assumption | exact Or.inr ⟨by omega, by omega, by omega, by omega, by omega⟩⟩⟩ dX13_attempt_55
          · have c97 : ¬ (r68).toInt = (0 : Int) := fun h9 => c97 (hq_eqi.mpr h9)
            refine lv_aload_n hx hb dX13_attempt_48 rfl (lv_at hl 0 rfl) ?_
            refine hp_calli (hp_runV (As := []) (rest := []) hx hb hml hown hts (t_X13_isAsked l D cs B G  V65 n hP.1 q hR (mo) h_mo ho72  (by omega) (by omega) (by omega) (by omega) (by omega) (by omega) (by omega) (by omega) ) hZ ho72 cv_X13_419 rfl rfl ⟨Nat.le_of_ble_eq_true rfl, Nat.le_of_ble_eq_true rfl⟩ rfl hl.1 rfl (Nat.le_of_ble_eq_true rfl) dX13_attempt_49 ⟨(Nat.le_of_ble_eq_true rfl), (Nat.le_of_ble_eq_true rfl)⟩) hZ (fun r101 V98 n99 _ _ hw100 hZ => ?_)
            obtain ⟨rfl, hq102, ho104, hr103⟩ := hw100
            have hP := hP.trans hq102 (fun _ _ => rfl)
            have b105 := hq_rng r101
            refine lv_if_ne (tgt := 56) hx hb dX13_attempt_52 (by decide) (fun c106 => ?_) (fun c106 => ?_)
            · have c106 : ¬ (r101).toInt = (0 : Int) := fun h9 => c106 (hq_eqi.mpr h9)
              refine lv_aload_n hx hb dX13_attempt_56 rfl (lv_at hl 0 rfl) ?_
              refine lv_iload hx hb dX13_attempt_57 (lv_at hl 6 rfl) ?_
              refine hp_put hx hb hts hown hZ ho104 fp_X13_413 rfl rfl (Nat.le_of_ble_eq_true rfl) dX13_attempt_59 (fun V107 _ _ e108 o109 hZ => ?_)
              have e108 : V107 (mo) = some (.inr (13, hm_o q (m_tp) (m_sz) (m_fr) (m_bh) (m_hd) (m_ft) (m_fa) (z71) (m_fo) (m_as) (m_fd) (cost) (m_bg) (m_bs) (m_be) (m_b0) (m_b1) (m_cm) (m_hc))) := e108
              have hP := hP.put h_mo e108 o109 (trivial) rfl
              refine lv_aload_n hx hb dX13_attempt_62 rfl (lv_at hl 0 rfl) ?_
              refine lv_iload hx hb dX13_attempt_63 (lv_at hl 7 rfl) ?_
              refine hp_put hx hb hts hown hZ e108 fp_X13_416 rfl rfl (Nat.le_of_ble_eq_true rfl) dX13_attempt_65 (fun V110 _ _ e111 o112 hZ => ?_)
              have e111 : V110 (mo) = some (.inr (13, hm_o q (m_tp) (m_sz) (m_fr) (m_bh) (m_hd) (m_ft) (m_fa) (z71) (m_fo) (m_as) (m_fd) (cost) (chg) (m_bs) (m_be) (m_b0) (m_b1) (m_cm) (m_hc))) := e111
              have hP := hP.put h_mo e111 o112 (trivial) rfl
              refine lv_aload_n hx hb dX13_attempt_68 rfl (lv_at hl 0 rfl) ?_
              refine lv_iload_n hx hb dX13_attempt_69 rfl (lv_at hl 2 rfl) ?_
              refine hp_put hx hb hts hown hZ e111 fp_X13_422 rfl rfl (Nat.le_of_ble_eq_true rfl) dX13_attempt_70 (fun V113 _ _ e114 o115 hZ => ?_)
              have e114 : V113 (mo) = some (.inr (13, hm_o q (m_tp) (m_sz) (m_fr) (m_bh) (m_hd) (m_ft) (m_fa) (z71) (m_fo) (m_as) (m_fd) (cost) (chg) (stm) (m_be) (m_b0) (m_b1) (m_cm) (m_hc))) := e114
              have hP := hP.put h_mo e114 o115 (trivial) rfl
              refine lv_aload_n hx hb dX13_attempt_73 rfl (lv_at hl 0 rfl) ?_
              refine lv_iload_n hx hb dX13_attempt_74 rfl (lv_at hl 3 rfl) ?_
              refine hp_put hx hb hts hown hZ e114 fp_X13_425 rfl rfl (Nat.le_of_ble_eq_true rfl) dX13_attempt_75 (fun V116 _ _ e117 o118 hZ => ?_)
              have e117 : V116 (mo) = some (.inr (13, hm_o q (m_tp) (m_sz) (m_fr) (m_bh) (m_hd) (m_ft) (m_fa) (z71) (m_fo) (m_as) (m_fd) (cost) (chg) (stm) (edg) (m_b0) (m_b1) (m_cm) (m_hc))) := e117
              have hP := hP.put h_mo e117 o118 (trivial) rfl
              refine lv_aload_n hx hb dX13_attempt_78 rfl (lv_at hl 0 rfl) ?_
              refine lv_iload hx hb dX13_attempt_79 (lv_at hl 4 rfl) ?_
              refine hp_put hx hb hts hown hZ e117 fp_X13_428 rfl rfl (Nat.le_of_ble_eq_true rfl) dX13_attempt_81 (fun V119 _ _ e120 o121 hZ => ?_)
              have e120 : V119 (mo) = some (.inr (13, hm_o q (m_tp) (m_sz) (m_fr) (m_bh) (m_hd) (m_ft) (m_fa) (z71) (m_fo) (m_as) (m_fd) (cost) (chg) (stm) (edg) (no0) (m_b1) (m_cm) (m_hc))) := e120
              have hP := hP.put h_mo e120 o121 (trivial) rfl
              refine lv_aload_n hx hb dX13_attempt_84 rfl (lv_at hl 0 rfl) ?_
              refine lv_iload hx hb dX13_attempt_85 (lv_at hl 5 rfl) ?_
              refine hp_put hx hb hts hown hZ e120 fp_X13_431 rfl rfl (Nat.le_of_ble_eq_true rfl) dX13_attempt_87 (fun V122 _ _ e123 o124 hZ => ?_)
              have e123 : V122 (mo) = some (.inr (13, hm_o q (m_tp) (m_sz) (m_fr) (m_bh) (m_hd) (m_ft) (m_fa) (z71) (m_fo) (m_as) (m_fd) (cost) (chg) (stm) (edg) (no0) (no1) (m_cm) (m_hc))) := e123
              have hP := hP.put h_mo e123 o124 (trivial) rfl
              exact hp_vret hx hb hr hlocks hZ ⟨rfl, hP, ⟨z71, cost, chg, stm, edg, no0, no1, e123, by omega, by first | assumption | exact Or.inr ⟨by omega, by omega, by omega, by omega, by omega⟩⟩⟩ dX13_attempt_90
            · have c106 : (r101).toInt = (0 : Int) := hq_eqi.mp c106
              exact hp_vret hx hb hr hlocks hZ ⟨rfl, hP, ⟨z71, m_bc, m_bg, m_bs, m_be, m_b0, m_b1, ho104, by omega, by first | assumption | exact Or.inr ⟨by omega, by omega, by omega, by omega, by omega⟩⟩⟩ dX13_attempt_55
        · have c64 : ¬ (chg).toInt < (m_bg).toInt := fun h9 => c64 (hq_lti.mpr h9)
          exact hp_vret hx hb hr hlocks hZ ⟨rfl, hP, ⟨m_le, m_bc, m_bg, m_bs, m_be, m_b0, m_b1, ho_mo, by omega, by first | assumption | exact Or.inr ⟨by omega, by omega, by omega, by omega, by omega⟩⟩⟩ dX13_attempt_33

set_option maxHeartbeats 4000000 in
set_option maxRecDepth 100000 in
theorem t_X13_withSounds (l : Launch) (D : va_G) (cs : Nat → ClassId) (B : Nat) (G : hq_G) (V : hp_V) (n : Nat) (hI : hq_I cs G V) (q : Nat) (hR : hq_RT G q) (gs ge : Int32) (gx : Int) (mo : Nat) (h_mo : G mo = some (24, 0, 0, 0)) (v : Int32) (stm : Int32) (edg : Int32) (cost : Int32) (chg : Int32) {m_tp m_sz m_fr m_bh m_hd m_ft m_fa m_le m_fo m_as m_fd m_bc m_bg m_bs m_be m_b0 m_b1 m_cm m_hc : Int32} (ho_mo : V mo = some (.inr (13, hm_o q (m_tp) (m_sz) (m_fr) (m_bh) (m_hd) (m_ft) (m_fa) (m_le) (m_fo) (m_as) (m_fd) (m_bc) (m_bg) (m_bs) (m_be) (m_b0) (m_b1) (m_cm) (m_hc)))) (hi_mo0 : 0 ≤ m_tp.toInt ∧ m_tp.toInt ≤ 4000) (hi_mo1 : 0 ≤ m_sz.toInt ∧ m_sz.toInt ≤ 4000) (hi_mo2 : 0 ≤ m_le.toInt ∧ m_le.toInt ≤ 276) (hi_mo3 : 0 ≤ m_fo.toInt ∧ m_fo.toInt ≤ 4) (hi_mo4 : 0 ≤ m_as.toInt ∧ m_as.toInt ≤ 4000) (hi_mo5 : 0 ≤ m_fd.toInt ∧ m_fd.toInt ≤ 900) (hi_mo6 : 0 ≤ m_cm.toInt ∧ m_cm.toInt ≤ 2) (hi_mo7 : 0 ≤ m_hc.toInt ∧ m_hc.toInt ≤ 1) (hi_mo8 : hm_BI gs ge gx m_bc m_bs m_be m_b0 m_b1) (hv0 : 0 ≤ v.toInt) (hv1 : v.toInt < 30) (hr_stm0 : -1 ≤ stm.toInt) (hr_stm1 : stm.toInt < 60) (hr_edg0 : -1 ≤ edg.toInt) (hr_edg1 : edg.toInt < 60) (hx0 : 0 ≤ gx) (hN : hm_Ns gs stm + hm_Ne ge edg + gx ≤ chg.toInt) (hH : hm_VQ cs V q 0 0) : hp_M l yX13_withSounds cX13_withSounds 8 none ({ frames := 5, cells := 0, slots := 0, locals := 122 }) D cs B V n [.ref (mo), .int (v), .int (stm), .int (edg), .int (cost), .int (chg)] (hp_QV D cs B (fun V' n' => n = n' ∧ hq_P cs G (fun g => g.1 == 1 || g.1 == 43) V V' ∧ (∃ (m_le1 : Int32) (m_bc1 : Int32) (m_bg1 : Int32) (m_bs1 : Int32) (m_be1 : Int32) (m_b01 : Int32) (m_b11 : Int32), V' mo = some (.inr (13, hm_o q (m_tp) (m_sz) (m_fr) (m_bh) (m_hd) (m_ft) (m_fa) (m_le1) (m_fo) (m_as) (m_fd) (m_bc1) (m_bg1) (m_bs1) (m_be1) (m_b01) (m_b11) (m_cm) (m_hc))) ∧ (0 ≤ m_le1.toInt ∧ m_le1.toInt ≤ 276) ∧ (hm_BI gs ge gx m_bc1 m_bs1 m_be1 m_b01 m_b11)))) 0 0 := by
  refine hp_walk (R0 := RX13) (by decide) rfl ?_ (Nat.le_of_ble_eq_true rfl)
  intro p e s m below meth c ls hx hb hr hts hown hlocks hin hml hZ hl
  have hP : hq_P cs G (fun g => g.1 == 1 || g.1 == 43) V V := hq_P.rf hI
  have hl : lv_has ls 8 [(0, .ref (mo)), (1, .int (v)), (2, .int (stm)), (3, .int (edg)), (4, .int (cost)), (5, .int (chg))] := hl
  have hb_v := hq_rng v
  have hb_stm := hq_rng stm
  have hb_edg := hq_rng edg
  have hb_cost := hq_rng cost
  have hb_chg := hq_rng chg
  have hb_m_tp := hq_rng m_tp
  have hb_m_sz := hq_rng m_sz
  have hb_m_fr := hq_rng m_fr
  have hb_m_bh := hq_rng m_bh
  have hb_m_hd := hq_rng m_hd
  have hb_m_ft := hq_rng m_ft
  have hb_m_fa := hq_rng m_fa
  have hb_m_le := hq_rng m_le
  have hb_m_fo := hq_rng m_fo
  have hb_m_as := hq_rng m_as
  have hb_m_fd := hq_rng m_fd
  have hb_m_bc := hq_rng m_bc
  have hb_m_bg := hq_rng m_bg
  have hb_m_bs := hq_rng m_bs
  have hb_m_be := hq_rng m_be
  have hb_m_b0 := hq_rng m_b0
  have hb_m_b1 := hq_rng m_b1
  have hb_m_cm := hq_rng m_cm
  have hb_m_hc := hq_rng m_hc
  have hq1 := hm_Ns.of gs stm
  have hq2 := hm_Ne.of ge edg
  have hq3 : 0 ≤ chg.toInt := by omega
  clear hq1 hq2
  refine lv_aload_n hx hb dX13_withSounds_0 rfl (lv_at hl 0 rfl) ?_
  refine lv_iload_n hx hb dX13_withSounds_1 rfl (lv_at hl 1 rfl) ?_
  refine lv_iload_n hx hb dX13_withSounds_2 rfl (lv_at hl 2 rfl) ?_
  refine lv_iload_n hx hb dX13_withSounds_3 rfl (lv_at hl 3 rfl) ?_
  refine lv_iconst (v := -1) hx hb dX13_withSounds_4 (by decide) ?_
  refine lv_iconst (v := -1) hx hb dX13_withSounds_5 (by decide) ?_
  refine lv_iload hx hb dX13_withSounds_6 (lv_at hl 4 rfl) ?_
  refine lv_iload hx hb dX13_withSounds_8 (lv_at hl 5 rfl) ?_
  have hl1 : (-1 : Int32).toInt = -1 := by decide
  have hl2 : (-1 : Int32).toInt = -1 := by decide
  have q3 := hm_1.of (-1)
  have q4 := hm_1.of (-1)
  have hl21 : (-1 : Int32).toInt = -1 := by decide
  have hl22 : (-1 : Int32).toInt = -1 := by decide
  refine hp_callv (hp_runV (As := [.int (v), .int (stm), .int (edg), .int (-1), .int (-1), .int (cost), .int (chg)]) (rest := []) hx hb hml hown hts (t_X13_attempt l D cs B G  V n hP.1 q hR gs ge gx (mo) h_mo (v) (stm) (edg) (-1) (-1) (cost) (chg) ho_mo  (by omega) (by omega) (by omega) (by omega) (by omega) (by omega) (by omega) (by omega) (by assumption) (by omega) (by omega) (by omega) (by omega) (by omega) (by omega) (by omega) (by omega) (by omega) (by omega) (by unfold hm_N; omega) (hH.keep hR (fun x t hx hg => hP.2 x t hx (by simp [hg])))) hZ ho_mo cv_X13_434 rfl rfl ⟨Nat.le_of_ble_eq_true rfl, Nat.le_of_ble_eq_true rfl⟩ rfl hl.1 rfl (Nat.le_of_ble_eq_true rfl) dX13_withSounds_10 ⟨(Nat.le_of_ble_eq_true rfl), (Nat.le_of_ble_eq_true rfl)⟩) hZ (fun V5 n6 _ _ hw7 hZ => ?_)
  obtain ⟨rfl, hq9, ⟨z11, z12, z13, z14, z15, z16, z17, ho18, hi19, hi20⟩⟩ := hw7
  have hP := hP.trans hq9 (by intro g h; simp_all)
  have b23 := hq_rng z11
  have b24 := hq_rng z12
  have b25 := hq_rng z13
  have b26 := hq_rng z14
  have b27 := hq_rng z15
  have b28 := hq_rng z16
  have b29 := hq_rng z17
  refine lv_iconst (v := 0) hx hb dX13_withSounds_13 (by decide) ?_
  refine lv_istore (lv' := [(6, .int (0)), (0, .ref (mo)), (1, .int (v)), (2, .int (stm)), (3, .int (edg)), (4, .int (cost)), (5, .int (chg))]) hx hb dX13_withSounds_14 hl (by decide) rfl (fun ls hl => ?_)
  have hl30 : (0 : Int32).toInt = 0 := by decide
  suffices lp16 : ∀ (k9 : Nat) (V9 : hp_V) (H9 : Heap) (locs9 : List Loc) (ls : Array Slot) (a : Int32) (le9 : Int32) (bc9 : Int32) (bg9 : Int32) (bs9 : Int32) (be9 : Int32) (b09 : Int32) (b19 : Int32), (100 - a.toInt).toNat = k9 → hp_Z D cs B s V9 H9 n locs9 → hq_P cs G (fun g => g.1 == 1 || g.1 == 43) V V9 → V9 (mo) = some (.inr (13, hm_o q (m_tp) (m_sz) (m_fr) (m_bh) (m_hd) (m_ft) (m_fa) (le9) (m_fo) (m_as) (m_fd) (bc9) (bg9) (bs9) (be9) (b09) (b19) (m_cm) (m_hc))) → 0 ≤ a.toInt → a.toInt ≤ 60 → 0 ≤ le9.toInt ∧ le9.toInt ≤ 276 → (hm_BI gs ge gx bc9 bs9 be9 b09 b19) → lv_has ls 8 [(6, .int (a)), (0, .ref (mo)), (1, .int (v)), (2, .int (stm)), (3, .int (edg)), (4, .int (cost)), (5, .int (chg))] → W p l e ({ frames := 5, cells := 0, slots := 0, locals := 122 }) s m ([.ref (mo), .int (v), .int (stm), .int (edg), .int (cost), .int (chg)] : List Value).toArray below meth c H9 locs9 0 0 (MQ below (hp_QV D cs B (fun V' n' => n = n' ∧ hq_P cs G (fun g => g.1 == 1 || g.1 == 43) V V' ∧ (∃ (m_le1 : Int32) (m_bc1 : Int32) (m_bg1 : Int32) (m_bs1 : Int32) (m_be1 : Int32) (m_b01 : Int32) (m_b11 : Int32), V' mo = some (.inr (13, hm_o q (m_tp) (m_sz) (m_fr) (m_bh) (m_hd) (m_ft) (m_fa) (m_le1) (m_fo) (m_as) (m_fd) (m_bc1) (m_bg1) (m_bs1) (m_be1) (m_b01) (m_b11) (m_cm) (m_hc))) ∧ (0 ≤ m_le1.toInt ∧ m_le1.toInt ≤ 276) ∧ (hm_BI gs ge gx m_bc1 m_bs1 m_be1 m_b01 m_b11)))) ([.ref (mo), .int (v), .int (stm), .int (edg), .int (cost), .int (chg)] : List Value).toArray s 0 0 (hp_F B)) (F0 m 16 ls []) from lp16 _ _ _ _ ls (0) (z11) (z12) (z13) (z14) (z15) (z16) (z17) rfl hZ hP ho18 (by omega) (by omega) (by omega) (by assumption) (lv_sub hl [0, 1, 2, 3, 4, 5, 6] rfl)
  intro k9
  induction k9 using Nat.strongRecOn with
  | _ k9 ih16 =>
    intro V9 H9 locs9 ls a le9 bc9 bg9 bs9 be9 b09 b19 hk16 hZ hP ho31 hv32 hv33 hv34 hbi9 hl
    have hb_a := hq_rng a
    have hb_le9 := hq_rng le9
    have hb_bc9 := hq_rng bc9
    have hb_bg9 := hq_rng bg9
    have hb_bs9 := hq_rng bs9
    have hb_be9 := hq_rng be9
    have hb_b09 := hq_rng b09
    have hb_b19 := hq_rng b19
    have hP_16 := hP
    refine lv_iload hx hb dX13_withSounds_16 (lv_at hl 0 rfl) ?_
    refine lv_aload_n hx hb dX13_withSounds_18 rfl (lv_at hl 1 rfl) ?_
    refine hp_get (v := .ref (q + 2)) hx hb hts hown hZ ho31 fl_X13_10 rfl dX13_withSounds_19 ?_
    refine lv_iconst (v := 0) hx hb dX13_withSounds_22 (by decide) ?_
    obtain ⟨hN37, g36, eV35, hf38⟩ := hq_o21 hP.1 (hr_2 hR)
    refine hp_iald hx hb hZ eV35 (by unfold vp_in; decide) dX13_withSounds_23 ?_
    refine lv_topi (fun y39 ey40 => ?_)
    have b41 : hq_ir (hq_lo 8) (hq_hi 8) y39 := by rw [ey40]; exact hf38 _ (by decide)
    have b41 : 0 ≤ (y39).toInt ∧ (y39).toInt ≤ 60 := b41
    refine lv_icmp_ge (tgt := 124) hx hb dX13_withSounds_24 (by decide) (fun c42 => ?_) (fun c42 => ?_)
    · have c42 : (y39).toInt ≤ (a).toInt := hq_lei.mp c42
      exact hp_vret hx hb hr hlocks hZ ⟨rfl, hP, ⟨le9, bc9, bg9, bs9, be9, b09, b19, ho31, by omega, by assumption⟩⟩ dX13_withSounds_124
    · have c42 : ¬ (y39).toInt ≤ (a).toInt := fun h9 => c42 (hq_lei.mpr h9)
      refine lv_aload_n hx hb dX13_withSounds_27 rfl (lv_at hl 1 rfl) ?_
      refine hp_get (v := .ref (q + 10)) hx hb hts hown hZ ho31 fl_X13_29 rfl dX13_withSounds_28 ?_
      refine lv_iload hx hb dX13_withSounds_31 (lv_at hl 0 rfl) ?_
      obtain ⟨hN45, g44, eV43, hf46⟩ := hq_o21 hP.1 (hr_10 hR)
      refine hp_iald hx hb hZ eV43 (hq_in (by omega) (by omega)) dX13_withSounds_33 ?_
      refine lv_topi (fun y47 ey48 => ?_)
      have b49 := hq_rng y47
      refine lv_iconst (v := 2) hx hb dX13_withSounds_34 (by decide) ?_
      refine lv_icmp_ne (tgt := 118) hx hb dX13_withSounds_35 (by decide) (fun c50 => ?_) (fun c50 => ?_)
      · have c50 : ¬ (y47).toInt = (2 : Int) := fun h9 => c50 (hq_eqi.mpr h9)
        obtain ⟨y51, ey52⟩ : ∃ y : Int32, y = a + (1) := ⟨_, rfl⟩
        obtain ⟨k53, hk54, b55, b56⟩ := hq_add (a) (1)
        rw [← ey52] at hk54 b55 b56
        have hk54 : (y51).toInt = (a).toInt + (1) + k53 * 4294967296 := hk54
        refine lv_iinc (v := y51) (lv' := [(6, .int (y51)), (0, .ref (mo)), (1, .int (v)), (2, .int (stm)), (3, .int (edg)), (4, .int (cost)), (5, .int (chg))]) hx hb dX13_withSounds_118 hl (k := 0) rfl (by rw [ey52]; rfl) (by decide) rfl (fun ls hl => ?_)
        refine lv_goto (tgt := 16) hx hb dX13_withSounds_121 (by decide) ?_
        exact ih16 _ (by omega) _ _ _ ls (y51) (le9) (bc9) (bg9) (bs9) (be9) (b09) (b19) rfl hZ hP ho31 (by omega) (by omega) (by omega) (by assumption) (lv_sub hl [0, 1, 2, 3, 4, 5, 6] rfl)
      · have c50 : (y47).toInt = (2 : Int) := hq_eqi.mp c50
        refine lv_iload hx hb dX13_withSounds_38 (lv_at hl 6 rfl) ?_
        refine lv_iconst (v := 1) hx hb dX13_withSounds_40 (by decide) ?_
        refine lv_icmp_le (tgt := 47) hx hb dX13_withSounds_41 (by decide) (fun c57 => ?_) (fun c57 => ?_)
        · have c57 : (chg).toInt ≤ (1 : Int) := hq_lei.mp c57
          refine lv_aload_n hx hb dX13_withSounds_47 rfl (lv_at hl 1 rfl) ?_
          refine lv_iload_n hx hb dX13_withSounds_48 rfl (lv_at hl 2 rfl) ?_
          refine lv_iload_n hx hb dX13_withSounds_49 rfl (lv_at hl 3 rfl) ?_
          refine lv_iload_n hx hb dX13_withSounds_50 rfl (lv_at hl 4 rfl) ?_
          refine lv_iload hx hb dX13_withSounds_51 (lv_at hl 0 rfl) ?_
          refine lv_iconst (v := -1) hx hb dX13_withSounds_53 (by decide) ?_
          refine lv_iload hx hb dX13_withSounds_54 (lv_at hl 5 rfl) ?_
          refine lv_iconst (v := 2) hx hb dX13_withSounds_56 (by decide) ?_
          refine lv_iadd hx hb dX13_withSounds_57 ?_
          refine lv_topi (fun y58 ey59 => ?_)
          obtain ⟨k60, hk61, b62, b63⟩ := hq_add (cost) (2)
          rw [← ey59] at hk61 b62 b63
          have hk61 : (y58).toInt = (cost).toInt + (2 : Int) + k60 * 4294967296 := hk61
          refine lv_iload hx hb dX13_withSounds_58 (lv_at hl 6 rfl) ?_
          refine lv_iconst (v := 1) hx hb dX13_withSounds_60 (by decide) ?_
          refine lv_iadd hx hb dX13_withSounds_61 ?_
          refine lv_topi (fun y64 ey65 => ?_)
          obtain ⟨k66, hk67, b68, b69⟩ := hq_add (chg) (1)
          rw [← ey65] at hk67 b68 b69
          have hk67 : (y64).toInt = (chg).toInt + (1 : Int) + k66 * 4294967296 := hk67
          obtain rfl : k66 = 0 := by omega
          have hl70 : (-1 : Int32).toInt = -1 := by decide
          have q71 := hm_1.of (a)
          have q72 := hm_1.of (-1)
          have hl89 : (-1 : Int32).toInt = -1 := by decide
          refine hp_callv (hp_runV (As := [.int (v), .int (stm), .int (edg), .int (a), .int (-1), .int (y58), .int (y64)]) (rest := []) hx hb hml hown hts (t_X13_attempt l D cs B G  V9 n hP.1 q hR gs ge gx (mo) h_mo (v) (stm) (edg) (a) (-1) (y58) (y64) ho31  (by omega) (by omega) (by omega) (by omega) (by omega) (by omega) (by omega) (by omega) (by assumption) (by omega) (by omega) (by omega) (by omega) (by omega) (by omega) (by omega) (by omega) (by omega) (by omega) (by unfold hm_N; omega) (hH.keep hR (fun x t hx hg => hP.2 x t hx (by simp [hg])))) hZ ho31 cv_X13_434 rfl rfl ⟨Nat.le_of_ble_eq_true rfl, Nat.le_of_ble_eq_true rfl⟩ rfl hl.1 rfl (Nat.le_of_ble_eq_true rfl) dX13_withSounds_62 ⟨(Nat.le_of_ble_eq_true rfl), (Nat.le_of_ble_eq_true rfl)⟩) hZ (fun V73 n74 _ _ hw75 hZ => ?_)
          obtain ⟨rfl, hq77, ⟨z79, z80, z81, z82, z83, z84, z85, ho86, hi87, hi88⟩⟩ := hw75
          have hP := hP.trans hq77 (by intro g h; simp_all)
          have b90 := hq_rng z79
          have b91 := hq_rng z80
          have b92 := hq_rng z81
          have b93 := hq_rng z82
          have b94 := hq_rng z83
          have b95 := hq_rng z84
          have b96 := hq_rng z85
          refine lv_iload hx hb dX13_withSounds_65 (lv_at hl 0 rfl) ?_
          refine lv_iconst (v := 1) hx hb dX13_withSounds_67 (by decide) ?_
          refine lv_iadd hx hb dX13_withSounds_68 ?_
          refine lv_topi (fun y97 ey98 => ?_)
          obtain ⟨k99, hk100, b101, b102⟩ := hq_add (a) (1)
          rw [← ey98] at hk100 b101 b102
          have hk100 : (y97).toInt = (a).toInt + (1 : Int) + k99 * 4294967296 := hk100
          obtain rfl : k99 = 0 := by omega
          refine lv_istore (lv' := [(7, .int (y97)), (6, .int (a)), (0, .ref (mo)), (1, .int (v)), (2, .int (stm)), (3, .int (edg)), (4, .int (cost)), (5, .int (chg))]) hx hb dX13_withSounds_69 hl (by decide) rfl (fun ls hl => ?_)
          suffices lp71 : ∀ (k9 : Nat) (V9 : hp_V) (H9 : Heap) (locs9 : List Loc) (ls : Array Slot) (b : Int32) (le8 : Int32) (bc8 : Int32) (bg8 : Int32) (bs8 : Int32) (be8 : Int32) (b08 : Int32) (b18 : Int32), (100 - b.toInt).toNat = k9 → hp_Z D cs B s V9 H9 n locs9 → hq_P cs G (fun g => g.1 == 1 || g.1 == 43) V V9 → V9 (mo) = some (.inr (13, hm_o q (m_tp) (m_sz) (m_fr) (m_bh) (m_hd) (m_ft) (m_fa) (le8) (m_fo) (m_as) (m_fd) (bc8) (bg8) (bs8) (be8) (b08) (b18) (m_cm) (m_hc))) → 0 ≤ b.toInt → b.toInt ≤ 61 → 0 ≤ le8.toInt ∧ le8.toInt ≤ 276 → (hm_BI gs ge gx bc8 bs8 be8 b08 b18) → lv_has ls 8 [(7, .int (b)), (6, .int (a)), (0, .ref (mo)), (1, .int (v)), (2, .int (stm)), (3, .int (edg)), (4, .int (cost)), (5, .int (chg))] → W p l e ({ frames := 5, cells := 0, slots := 0, locals := 122 }) s m ([.ref (mo), .int (v), .int (stm), .int (edg), .int (cost), .int (chg)] : List Value).toArray below meth c H9 locs9 0 0 (MQ below (hp_QV D cs B (fun V' n' => n = n' ∧ hq_P cs G (fun g => g.1 == 1 || g.1 == 43) V V' ∧ (∃ (m_le1 : Int32) (m_bc1 : Int32) (m_bg1 : Int32) (m_bs1 : Int32) (m_be1 : Int32) (m_b01 : Int32) (m_b11 : Int32), V' mo = some (.inr (13, hm_o q (m_tp) (m_sz) (m_fr) (m_bh) (m_hd) (m_ft) (m_fa) (m_le1) (m_fo) (m_as) (m_fd) (m_bc1) (m_bg1) (m_bs1) (m_be1) (m_b01) (m_b11) (m_cm) (m_hc))) ∧ (0 ≤ m_le1.toInt ∧ m_le1.toInt ≤ 276) ∧ (hm_BI gs ge gx m_bc1 m_bs1 m_be1 m_b01 m_b11)))) ([.ref (mo), .int (v), .int (stm), .int (edg), .int (cost), .int (chg)] : List Value).toArray s 0 0 (hp_F B)) (F0 m 71 ls []) from lp71 _ _ _ _ ls (y97) (z79) (z80) (z81) (z82) (z83) (z84) (z85) rfl hZ hP ho86 (by omega) (by omega) (by omega) (by assumption) (lv_sub hl [0, 1, 2, 3, 4, 5, 6, 7] rfl)
          intro k9
          induction k9 using Nat.strongRecOn with
          | _ k9 ih71 =>
            intro V9 H9 locs9 ls b le8 bc8 bg8 bs8 be8 b08 b18 hk71 hZ hP ho103 hv104 hv105 hv106 hbi8 hl
            have hb_b := hq_rng b
            have hb_le8 := hq_rng le8
            have hb_bc8 := hq_rng bc8
            have hb_bg8 := hq_rng bg8
            have hb_bs8 := hq_rng bs8
            have hb_be8 := hq_rng be8
            have hb_b08 := hq_rng b08
            have hb_b18 := hq_rng b18
            have hP_71 := hP
            refine lv_iload hx hb dX13_withSounds_71 (lv_at hl 0 rfl) ?_
            refine lv_aload_n hx hb dX13_withSounds_73 rfl (lv_at hl 2 rfl) ?_
            refine hp_get (v := .ref (q + 2)) hx hb hts hown hZ ho103 fl_X13_10 rfl dX13_withSounds_74 ?_
            refine lv_iconst (v := 0) hx hb dX13_withSounds_77 (by decide) ?_
            obtain ⟨hN109, g108, eV107, hf110⟩ := hq_o21 hP.1 (hr_2 hR)
            refine hp_iald hx hb hZ eV107 (by unfold vp_in; decide) dX13_withSounds_78 ?_
            refine lv_topi (fun y111 ey112 => ?_)
            have b113 : hq_ir (hq_lo 8) (hq_hi 8) y111 := by rw [ey112]; exact hf110 _ (by decide)
            have b113 : 0 ≤ (y111).toInt ∧ (y111).toInt ≤ 60 := b113
            refine lv_icmp_ge (tgt := 118) hx hb dX13_withSounds_79 (by decide) (fun c114 => ?_) (fun c114 => ?_)
            · have c114 : (y111).toInt ≤ (b).toInt := hq_lei.mp c114
              obtain ⟨y115, ey116⟩ : ∃ y : Int32, y = a + (1) := ⟨_, rfl⟩
              obtain ⟨k117, hk118, b119, b120⟩ := hq_add (a) (1)
              rw [← ey116] at hk118 b119 b120
              have hk118 : (y115).toInt = (a).toInt + (1) + k117 * 4294967296 := hk118
              refine lv_iinc (v := y115) (lv' := [(6, .int (y115)), (7, .int (b)), (0, .ref (mo)), (1, .int (v)), (2, .int (stm)), (3, .int (edg)), (4, .int (cost)), (5, .int (chg))]) hx hb dX13_withSounds_118 hl (k := 1) rfl (by rw [ey116]; rfl) (by decide) rfl (fun ls hl => ?_)
              refine lv_goto (tgt := 16) hx hb dX13_withSounds_121 (by decide) ?_
              exact ih16 _ (by omega) _ _ _ ls (y115) (le8) (bc8) (bg8) (bs8) (be8) (b08) (b18) rfl hZ hP ho103 (by omega) (by omega) (by omega) (by assumption) (lv_sub hl [0, 2, 3, 4, 5, 6, 7] rfl)
            · have c114 : ¬ (y111).toInt ≤ (b).toInt := fun h9 => c114 (hq_lei.mpr h9)
              refine lv_aload_n hx hb dX13_withSounds_82 rfl (lv_at hl 2 rfl) ?_
              refine hp_get (v := .ref (q + 10)) hx hb hts hown hZ ho103 fl_X13_29 rfl dX13_withSounds_83 ?_
              refine lv_iload hx hb dX13_withSounds_86 (lv_at hl 0 rfl) ?_
              obtain ⟨hN123, g122, eV121, hf124⟩ := hq_o21 hP.1 (hr_10 hR)
              refine hp_iald hx hb hZ eV121 (hq_in (by omega) (by omega)) dX13_withSounds_88 ?_
              refine lv_topi (fun y125 ey126 => ?_)
              have b127 := hq_rng y125
              refine lv_iconst (v := 2) hx hb dX13_withSounds_89 (by decide) ?_
              refine lv_icmp_ne (tgt := 112) hx hb dX13_withSounds_90 (by decide) (fun c128 => ?_) (fun c128 => ?_)
              · have c128 : ¬ (y125).toInt = (2 : Int) := fun h9 => c128 (hq_eqi.mpr h9)
                obtain ⟨y129, ey130⟩ : ∃ y : Int32, y = b + (1) := ⟨_, rfl⟩
                obtain ⟨k131, hk132, b133, b134⟩ := hq_add (b) (1)
                rw [← ey130] at hk132 b133 b134
                have hk132 : (y129).toInt = (b).toInt + (1) + k131 * 4294967296 := hk132
                refine lv_iinc (v := y129) (lv' := [(7, .int (y129)), (6, .int (a)), (0, .ref (mo)), (1, .int (v)), (2, .int (stm)), (3, .int (edg)), (4, .int (cost)), (5, .int (chg))]) hx hb dX13_withSounds_112 hl (k := 0) rfl (by rw [ey130]; rfl) (by decide) rfl (fun ls hl => ?_)
                refine lv_goto (tgt := 71) hx hb dX13_withSounds_115 (by decide) ?_
                exact ih71 _ (by omega) _ _ _ ls (y129) (le8) (bc8) (bg8) (bs8) (be8) (b08) (b18) rfl hZ hP ho103 (by omega) (by omega) (by omega) (by assumption) (lv_sub hl [0, 1, 2, 3, 4, 5, 6, 7] rfl)
              · have c128 : (y125).toInt = (2 : Int) := hq_eqi.mp c128
                refine lv_aload_n hx hb dX13_withSounds_93 rfl (lv_at hl 2 rfl) ?_
                refine lv_iload_n hx hb dX13_withSounds_94 rfl (lv_at hl 3 rfl) ?_
                refine lv_iload_n hx hb dX13_withSounds_95 rfl (lv_at hl 4 rfl) ?_
                refine lv_iload_n hx hb dX13_withSounds_96 rfl (lv_at hl 5 rfl) ?_
                refine lv_iload hx hb dX13_withSounds_97 (lv_at hl 1 rfl) ?_
                refine lv_iload hx hb dX13_withSounds_99 (lv_at hl 0 rfl) ?_
                refine lv_iload hx hb dX13_withSounds_101 (lv_at hl 6 rfl) ?_
                refine lv_iconst (v := 4) hx hb dX13_withSounds_103 (by decide) ?_
                refine lv_iadd hx hb dX13_withSounds_104 ?_
                refine lv_topi (fun y135 ey136 => ?_)
                obtain ⟨k137, hk138, b139, b140⟩ := hq_add (cost) (4)
                rw [← ey136] at hk138 b139 b140
                have hk138 : (y135).toInt = (cost).toInt + (4 : Int) + k137 * 4294967296 := hk138
                refine lv_iload hx hb dX13_withSounds_105 (lv_at hl 7 rfl) ?_
                refine lv_iconst (v := 2) hx hb dX13_withSounds_107 (by decide) ?_
                refine lv_iadd hx hb dX13_withSounds_108 ?_
                refine lv_topi (fun y141 ey142 => ?_)
                obtain ⟨k143, hk144, b145, b146⟩ := hq_add (chg) (2)
                rw [← ey142] at hk144 b145 b146
                have hk144 : (y141).toInt = (chg).toInt + (2 : Int) + k143 * 4294967296 := hk144
                obtain rfl : k143 = 0 := by omega
                have q147 := hm_1.of (a)
                have q148 := hm_1.of (b)
                refine hp_callv (hp_runV (As := [.int (v), .int (stm), .int (edg), .int (a), .int (b), .int (y135), .int (y141)]) (rest := []) hx hb hml hown hts (t_X13_attempt l D cs B G  V9 n hP.1 q hR gs ge gx (mo) h_mo (v) (stm) (edg) (a) (b) (y135) (y141) ho103  (by omega) (by omega) (by omega) (by omega) (by omega) (by omega) (by omega) (by omega) (by assumption) (by omega) (by omega) (by omega) (by omega) (by omega) (by omega) (by omega) (by omega) (by omega) (by omega) (by unfold hm_N; omega) (hH.keep hR (fun x t hx hg => hP.2 x t hx (by simp [hg])))) hZ ho103 cv_X13_434 rfl rfl ⟨Nat.le_of_ble_eq_true rfl, Nat.le_of_ble_eq_true rfl⟩ rfl hl.1 rfl (Nat.le_of_ble_eq_true rfl) dX13_withSounds_109 ⟨(Nat.le_of_ble_eq_true rfl), (Nat.le_of_ble_eq_true rfl)⟩) hZ (fun V149 n150 _ _ hw151 hZ => ?_)
                obtain ⟨rfl, hq153, ⟨z155, z156, z157, z158, z159, z160, z161, ho162, hi163, hi164⟩⟩ := hw151
                have hP := hP.trans hq153 (by intro g h; simp_all)
                have b165 := hq_rng z155
                have b166 := hq_rng z156
                have b167 := hq_rng z157
                have b168 := hq_rng z158
                have b169 := hq_rng z159
                have b170 := hq_rng z160
                have b171 := hq_rng z161
                obtain ⟨y172, ey173⟩ : ∃ y : Int32, y = b + (1) := ⟨_, rfl⟩
                obtain ⟨k174, hk175, b176, b177⟩ := hq_add (b) (1)
                rw [← ey173] at hk175 b176 b177
                have hk175 : (y172).toInt = (b).toInt + (1) + k174 * 4294967296 := hk175
                refine lv_iinc (v := y172) (lv' := [(7, .int (y172)), (6, .int (a)), (0, .ref (mo)), (1, .int (v)), (2, .int (stm)), (3, .int (edg)), (4, .int (cost)), (5, .int (chg))]) hx hb dX13_withSounds_112 hl (k := 0) rfl (by rw [ey173]; rfl) (by decide) rfl (fun ls hl => ?_)
                refine lv_goto (tgt := 71) hx hb dX13_withSounds_115 (by decide) ?_
                exact ih71 _ (by omega) _ _ _ ls (y172) (z155) (z156) (z157) (z158) (z159) (z160) (z161) rfl hZ hP ho162 (by omega) (by omega) (by omega) (by assumption) (lv_sub hl [0, 1, 2, 3, 4, 5, 6, 7] rfl)
        · have c57 : ¬ (chg).toInt ≤ (1 : Int) := fun h9 => c57 (hq_lei.mpr h9)
          refine lv_goto (tgt := 118) hx hb dX13_withSounds_44 (by decide) ?_
          obtain ⟨y178, ey179⟩ : ∃ y : Int32, y = a + (1) := ⟨_, rfl⟩
          obtain ⟨k180, hk181, b182, b183⟩ := hq_add (a) (1)
          rw [← ey179] at hk181 b182 b183
          have hk181 : (y178).toInt = (a).toInt + (1) + k180 * 4294967296 := hk181
          refine lv_iinc (v := y178) (lv' := [(6, .int (y178)), (0, .ref (mo)), (1, .int (v)), (2, .int (stm)), (3, .int (edg)), (4, .int (cost)), (5, .int (chg))]) hx hb dX13_withSounds_118 hl (k := 0) rfl (by rw [ey179]; rfl) (by decide) rfl (fun ls hl => ?_)
          refine lv_goto (tgt := 16) hx hb dX13_withSounds_121 (by decide) ?_
          exact ih16 _ (by omega) _ _ _ ls (y178) (le9) (bc9) (bg9) (bs9) (be9) (b09) (b19) rfl hZ hP ho31 (by omega) (by omega) (by omega) (by assumption) (lv_sub hl [0, 1, 2, 3, 4, 5, 6] rfl)

set_option maxHeartbeats 4000000 in
set_option maxRecDepth 100000 in
theorem t_X13_withEndings (l : Launch) (D : va_G) (cs : Nat → ClassId) (B : Nat) (G : hq_G) (V : hp_V) (n : Nat) (hI : hq_I cs G V) (q : Nat) (hR : hq_RT G q) (gs ge : Int32) (gx : Int) (mo : Nat) (h_mo : G mo = some (24, 0, 0, 0)) (v : Int32) (stm : Int32) (fi : Int32) (cost : Int32) (chg : Int32) {m_tp m_sz m_fr m_bh m_hd m_ft m_fa m_le m_fo m_as m_fd m_bc m_bg m_bs m_be m_b0 m_b1 m_cm m_hc : Int32} (ho_mo : V mo = some (.inr (13, hm_o q (m_tp) (m_sz) (m_fr) (m_bh) (m_hd) (m_ft) (m_fa) (m_le) (m_fo) (m_as) (m_fd) (m_bc) (m_bg) (m_bs) (m_be) (m_b0) (m_b1) (m_cm) (m_hc)))) (hi_mo0 : 0 ≤ m_tp.toInt ∧ m_tp.toInt ≤ 4000) (hi_mo1 : 0 ≤ m_sz.toInt ∧ m_sz.toInt ≤ 4000) (hi_mo2 : 0 ≤ m_le.toInt ∧ m_le.toInt ≤ 276) (hi_mo3 : 0 ≤ m_fo.toInt ∧ m_fo.toInt ≤ 4) (hi_mo4 : 0 ≤ m_as.toInt ∧ m_as.toInt ≤ 4000) (hi_mo5 : 0 ≤ m_fd.toInt ∧ m_fd.toInt ≤ 900) (hi_mo6 : 0 ≤ m_cm.toInt ∧ m_cm.toInt ≤ 2) (hi_mo7 : 0 ≤ m_hc.toInt ∧ m_hc.toInt ≤ 1) (hi_mo8 : hm_BI gs ge gx m_bc m_bs m_be m_b0 m_b1) (hv0 : 0 ≤ v.toInt) (hv1 : v.toInt < 30) (hr_stm0 : -1 ≤ stm.toInt) (hr_stm1 : stm.toInt < 60) (hr_fi0 : -1 ≤ fi.toInt) (hr_fi1 : fi.toInt < 60) (hx0 : 0 ≤ gx) (hfi : fi.toInt = ge.toInt) (hN : hm_Ns gs stm + gx ≤ chg.toInt) (hH : hm_VQ cs V q 0 0) : hp_M l yX13_withEndings cX13_withEndings 7 none ({ frames := 6, cells := 0, slots := 0, locals := 149 }) D cs B V n [.ref (mo), .int (v), .int (stm), .int (fi), .int (cost), .int (chg)] (hp_QV D cs B (fun V' n' => n = n' ∧ hq_P cs G (fun g => g.1 == 1 || g.1 == 43) V V' ∧ (∃ (m_le1 : Int32) (m_bc1 : Int32) (m_bg1 : Int32) (m_bs1 : Int32) (m_be1 : Int32) (m_b01 : Int32) (m_b11 : Int32), V' mo = some (.inr (13, hm_o q (m_tp) (m_sz) (m_fr) (m_bh) (m_hd) (m_ft) (m_fa) (m_le1) (m_fo) (m_as) (m_fd) (m_bc1) (m_bg1) (m_bs1) (m_be1) (m_b01) (m_b11) (m_cm) (m_hc))) ∧ (0 ≤ m_le1.toInt ∧ m_le1.toInt ≤ 276) ∧ (hm_BI gs ge gx m_bc1 m_bs1 m_be1 m_b01 m_b11)))) 0 0 := by
  refine hp_walk (R0 := RX13) (by decide) rfl ?_ (Nat.le_of_ble_eq_true rfl)
  intro p e s m below meth c ls hx hb hr hts hown hlocks hin hml hZ hl
  have hP : hq_P cs G (fun g => g.1 == 1 || g.1 == 43) V V := hq_P.rf hI
  have hl : lv_has ls 7 [(0, .ref (mo)), (1, .int (v)), (2, .int (stm)), (3, .int (fi)), (4, .int (cost)), (5, .int (chg))] := hl
  have hb_v := hq_rng v
  have hb_stm := hq_rng stm
  have hb_fi := hq_rng fi
  have hb_cost := hq_rng cost
  have hb_chg := hq_rng chg
  have hb_m_tp := hq_rng m_tp
  have hb_m_sz := hq_rng m_sz
  have hb_m_fr := hq_rng m_fr
  have hb_m_bh := hq_rng m_bh
  have hb_m_hd := hq_rng m_hd
  have hb_m_ft := hq_rng m_ft
  have hb_m_fa := hq_rng m_fa
  have hb_m_le := hq_rng m_le
  have hb_m_fo := hq_rng m_fo
  have hb_m_as := hq_rng m_as
  have hb_m_fd := hq_rng m_fd
  have hb_m_bc := hq_rng m_bc
  have hb_m_bg := hq_rng m_bg
  have hb_m_bs := hq_rng m_bs
  have hb_m_be := hq_rng m_be
  have hb_m_b0 := hq_rng m_b0
  have hb_m_b1 := hq_rng m_b1
  have hb_m_cm := hq_rng m_cm
  have hb_m_hc := hq_rng m_hc
  have hq1 := hm_Ns.of gs stm
  have hq3 : 0 ≤ chg.toInt := by omega
  clear hq1
  have jn16 : ∀ (V9 : hp_V) (H9 : Heap) (locs9 : List Loc) (ls : Array Slot)  (le7 : Int32) (bc7 : Int32) (bg7 : Int32) (bs7 : Int32) (be7 : Int32) (b07 : Int32) (b17 : Int32), hp_Z D cs B s V9 H9 n locs9 → hq_P cs G (fun g => g.1 == 1 || g.1 == 43) V V9 → V9 (mo) = some (.inr (13, hm_o q (m_tp) (m_sz) (m_fr) (m_bh) (m_hd) (m_ft) (m_fa) (le7) (m_fo) (m_as) (m_fd) (bc7) (bg7) (bs7) (be7) (b07) (b17) (m_cm) (m_hc))) → 0 ≤ le7.toInt ∧ le7.toInt ≤ 276 → (hm_BI gs ge gx bc7 bs7 be7 b07 b17) → lv_has ls 7 [(0, .ref (mo)), (1, .int (v)), (2, .int (stm)), (3, .int (fi)), (4, .int (cost)), (5, .int (chg))] → W p l e ({ frames := 6, cells := 0, slots := 0, locals := 149 }) s m ([.ref (mo), .int (v), .int (stm), .int (fi), .int (cost), .int (chg)] : List Value).toArray below meth c H9 locs9 0 0 (MQ below (hp_QV D cs B (fun V' n' => n = n' ∧ hq_P cs G (fun g => g.1 == 1 || g.1 == 43) V V' ∧ (∃ (m_le1 : Int32) (m_bc1 : Int32) (m_bg1 : Int32) (m_bs1 : Int32) (m_be1 : Int32) (m_b01 : Int32) (m_b11 : Int32), V' mo = some (.inr (13, hm_o q (m_tp) (m_sz) (m_fr) (m_bh) (m_hd) (m_ft) (m_fa) (m_le1) (m_fo) (m_as) (m_fd) (m_bc1) (m_bg1) (m_bs1) (m_be1) (m_b01) (m_b11) (m_cm) (m_hc))) ∧ (0 ≤ m_le1.toInt ∧ m_le1.toInt ≤ 276) ∧ (hm_BI gs ge gx m_bc1 m_bs1 m_be1 m_b01 m_b11)))) ([.ref (mo), .int (v), .int (stm), .int (fi), .int (cost), .int (chg)] : List Value).toArray s 0 0 (hp_F B)) (F0 m 16 ls []) := by
    intro V9 H9 locs9 ls   le7 bc7 bg7 bs7 be7 b07 b17 hZ hP  ho1 hv2 hbi7 hl
    have hb_le7 := hq_rng le7
    have hb_bc7 := hq_rng bc7
    have hb_bg7 := hq_rng bg7
    have hb_bs7 := hq_rng bs7
    have hb_be7 := hq_rng be7
    have hb_b07 := hq_rng b07
    have hb_b17 := hq_rng b17
    have hPj16 := hP
    refine lv_iload hx hb dX13_withEndings_16 (lv_at hl 5 rfl) ?_
    refine lv_iconst (v := 1) hx hb dX13_withEndings_18 (by decide) ?_
    refine lv_icmp_le (tgt := 23) hx hb dX13_withEndings_19 (by decide) (fun c3 => ?_) (fun c3 => ?_)
    · have c3 : (chg).toInt ≤ (1 : Int) := hq_lei.mp c3
      refine lv_iconst (v := 0) hx hb dX13_withEndings_23 (by decide) ?_
      refine lv_istore (lv' := [(6, .int (0)), (0, .ref (mo)), (1, .int (v)), (2, .int (stm)), (3, .int (fi)), (4, .int (cost)), (5, .int (chg))]) hx hb dX13_withEndings_24 hl (by decide) rfl (fun ls hl => ?_)
      have hl4 : (0 : Int32).toInt = 0 := by decide
      suffices lp26 : ∀ (k9 : Nat) (V9 : hp_V) (H9 : Heap) (locs9 : List Loc) (ls : Array Slot) (a : Int32) (le9 : Int32) (bc9 : Int32) (bg9 : Int32) (bs9 : Int32) (be9 : Int32) (b09 : Int32) (b19 : Int32), (100 - a.toInt).toNat = k9 → hp_Z D cs B s V9 H9 n locs9 → hq_P cs G (fun g => g.1 == 1 || g.1 == 43) V V9 → V9 (mo) = some (.inr (13, hm_o q (m_tp) (m_sz) (m_fr) (m_bh) (m_hd) (m_ft) (m_fa) (le9) (m_fo) (m_as) (m_fd) (bc9) (bg9) (bs9) (be9) (b09) (b19) (m_cm) (m_hc))) → 0 ≤ a.toInt → a.toInt ≤ 60 → 0 ≤ le9.toInt ∧ le9.toInt ≤ 276 → (hm_BI gs ge gx bc9 bs9 be9 b09 b19) → lv_has ls 7 [(6, .int (a)), (0, .ref (mo)), (1, .int (v)), (2, .int (stm)), (3, .int (fi)), (4, .int (cost)), (5, .int (chg))] → W p l e ({ frames := 6, cells := 0, slots := 0, locals := 149 }) s m ([.ref (mo), .int (v), .int (stm), .int (fi), .int (cost), .int (chg)] : List Value).toArray below meth c H9 locs9 0 0 (MQ below (hp_QV D cs B (fun V' n' => n = n' ∧ hq_P cs G (fun g => g.1 == 1 || g.1 == 43) V V' ∧ (∃ (m_le1 : Int32) (m_bc1 : Int32) (m_bg1 : Int32) (m_bs1 : Int32) (m_be1 : Int32) (m_b01 : Int32) (m_b11 : Int32), V' mo = some (.inr (13, hm_o q (m_tp) (m_sz) (m_fr) (m_bh) (m_hd) (m_ft) (m_fa) (m_le1) (m_fo) (m_as) (m_fd) (m_bc1) (m_bg1) (m_bs1) (m_be1) (m_b01) (m_b11) (m_cm) (m_hc))) ∧ (0 ≤ m_le1.toInt ∧ m_le1.toInt ≤ 276) ∧ (hm_BI gs ge gx m_bc1 m_bs1 m_be1 m_b01 m_b11)))) ([.ref (mo), .int (v), .int (stm), .int (fi), .int (cost), .int (chg)] : List Value).toArray s 0 0 (hp_F B)) (F0 m 26 ls []) from lp26 _ _ _ _ ls (0) (le7) (bc7) (bg7) (bs7) (be7) (b07) (b17) rfl hZ hP ho1 (by omega) (by omega) (by omega) (by assumption) (lv_sub hl [0, 1, 2, 3, 4, 5, 6] rfl)
      intro k9
      induction k9 using Nat.strongRecOn with
      | _ k9 ih26 =>
        intro V9 H9 locs9 ls a le9 bc9 bg9 bs9 be9 b09 b19 hk26 hZ hP ho5 hv6 hv7 hv8 hbi9 hl
        have hb_a := hq_rng a
        have hb_le9 := hq_rng le9
        have hb_bc9 := hq_rng bc9
        have hb_bg9 := hq_rng bg9
        have hb_bs9 := hq_rng bs9
        have hb_be9 := hq_rng be9
        have hb_b09 := hq_rng b09
        have hb_b19 := hq_rng b19
        have hP_26 := hP
        refine lv_iload hx hb dX13_withEndings_26 (lv_at hl 0 rfl) ?_
        refine lv_aload_n hx hb dX13_withEndings_28 rfl (lv_at hl 1 rfl) ?_
        refine hp_get (v := .ref (q + 2)) hx hb hts hown hZ ho5 fl_X13_10 rfl dX13_withEndings_29 ?_
        refine lv_iconst (v := 0) hx hb dX13_withEndings_32 (by decide) ?_
        obtain ⟨hN11, g10, eV9, hf12⟩ := hq_o21 hP.1 (hr_2 hR)
        refine hp_iald hx hb hZ eV9 (by unfold vp_in; decide) dX13_withEndings_33 ?_
        refine lv_topi (fun y13 ey14 => ?_)
        have b15 : hq_ir (hq_lo 8) (hq_hi 8) y13 := by rw [ey14]; exact hf12 _ (by decide)
        have b15 : 0 ≤ (y13).toInt ∧ (y13).toInt ≤ 60 := b15
        refine lv_icmp_ge (tgt := 76) hx hb dX13_withEndings_34 (by decide) (fun c16 => ?_) (fun c16 => ?_)
        · have c16 : (y13).toInt ≤ (a).toInt := hq_lei.mp c16
          refine lv_aload_n hx hb dX13_withEndings_76 rfl (lv_at hl 1 rfl) ?_
          refine lv_iload_n hx hb dX13_withEndings_77 rfl (lv_at hl 2 rfl) ?_
          refine lv_iload_n hx hb dX13_withEndings_78 rfl (lv_at hl 3 rfl) ?_
          refine lv_iconst (v := -1) hx hb dX13_withEndings_79 (by decide) ?_
          refine lv_iload hx hb dX13_withEndings_80 (lv_at hl 5 rfl) ?_
          refine lv_iconst (v := 4) hx hb dX13_withEndings_82 (by decide) ?_
          refine lv_iadd hx hb dX13_withEndings_83 ?_
          refine lv_topi (fun y17 ey18 => ?_)
          obtain ⟨k19, hk20, b21, b22⟩ := hq_add (cost) (4)
          rw [← ey18] at hk20 b21 b22
          have hk20 : (y17).toInt = (cost).toInt + (4 : Int) + k19 * 4294967296 := hk20
          refine lv_iload hx hb dX13_withEndings_84 (lv_at hl 6 rfl) ?_
          refine lv_iconst (v := 1) hx hb dX13_withEndings_86 (by decide) ?_
          refine lv_iadd hx hb dX13_withEndings_87 ?_
          refine lv_topi (fun y23 ey24 => ?_)
          obtain ⟨k25, hk26, b27, b28⟩ := hq_add (chg) (1)
          rw [← ey24] at hk26 b27 b28
          have hk26 : (y23).toInt = (chg).toInt + (1 : Int) + k25 * 4294967296 := hk26
          obtain rfl : k25 = 0 := by omega
          have hl29 : (-1 : Int32).toInt = -1 := by decide
          have q30 := hm_Ne.of ge (-1)
          have hl47 : (-1 : Int32).toInt = -1 := by decide
          refine hp_callv (hp_runV (As := [.int (v), .int (stm), .int (-1), .int (y17), .int (y23)]) (rest := []) hx hb hml hown hts (t_X13_withSounds l D cs B G  V9 n hP.1 q hR gs ge gx (mo) h_mo (v) (stm) (-1) (y17) (y23) ho5  (by omega) (by omega) (by omega) (by omega) (by omega) (by omega) (by omega) (by omega) (by assumption) (by omega) (by omega) (by omega) (by omega) (by omega) (by omega) (by omega) (by omega) (hH.keep hR (fun x t hx hg => hP.2 x t hx (by simp [hg])))) hZ ho5 cv_X13_438 rfl rfl ⟨Nat.le_of_ble_eq_true rfl, Nat.le_of_ble_eq_true rfl⟩ rfl hl.1 rfl (Nat.le_of_ble_eq_true rfl) dX13_withEndings_88 ⟨(Nat.le_of_ble_eq_true rfl), (Nat.le_of_ble_eq_true rfl)⟩) hZ (fun V31 n32 _ _ hw33 hZ => ?_)
          obtain ⟨rfl, hq35, ⟨z37, z38, z39, z40, z41, z42, z43, ho44, hi45, hi46⟩⟩ := hw33
          have hP := hP.trans hq35 (by intro g h; simp_all)
          have b48 := hq_rng z37
          have b49 := hq_rng z38
          have b50 := hq_rng z39
          have b51 := hq_rng z40
          have b52 := hq_rng z41
          have b53 := hq_rng z42
          have b54 := hq_rng z43
          exact hp_vret hx hb hr hlocks hZ ⟨rfl, hP, ⟨z37, z38, z39, z40, z41, z42, z43, ho44, by omega, by assumption⟩⟩ dX13_withEndings_91
        · have c16 : ¬ (y13).toInt ≤ (a).toInt := fun h9 => c16 (hq_lei.mpr h9)
          refine lv_aload_n hx hb dX13_withEndings_37 rfl (lv_at hl 1 rfl) ?_
          refine hp_get (v := .ref (q + 10)) hx hb hts hown hZ ho5 fl_X13_29 rfl dX13_withEndings_38 ?_
          refine lv_iload hx hb dX13_withEndings_41 (lv_at hl 0 rfl) ?_
          obtain ⟨hN57, g56, eV55, hf58⟩ := hq_o21 hP.1 (hr_10 hR)
          refine hp_iald hx hb hZ eV55 (hq_in (by omega) (by omega)) dX13_withEndings_43 ?_
          refine lv_topi (fun y59 ey60 => ?_)
          have b61 := hq_rng y59
          refine lv_iconst (v := 1) hx hb dX13_withEndings_44 (by decide) ?_
          refine lv_icmp_ne (tgt := 70) hx hb dX13_withEndings_45 (by decide) (fun c62 => ?_) (fun c62 => ?_)
          · have c62 : ¬ (y59).toInt = (1 : Int) := fun h9 => c62 (hq_eqi.mpr h9)
            obtain ⟨y63, ey64⟩ : ∃ y : Int32, y = a + (1) := ⟨_, rfl⟩
            obtain ⟨k65, hk66, b67, b68⟩ := hq_add (a) (1)
            rw [← ey64] at hk66 b67 b68
            have hk66 : (y63).toInt = (a).toInt + (1) + k65 * 4294967296 := hk66
            refine lv_iinc (v := y63) (lv' := [(6, .int (y63)), (0, .ref (mo)), (1, .int (v)), (2, .int (stm)), (3, .int (fi)), (4, .int (cost)), (5, .int (chg))]) hx hb dX13_withEndings_70 hl (k := 0) rfl (by rw [ey64]; rfl) (by decide) rfl (fun ls hl => ?_)
            refine lv_goto (tgt := 26) hx hb dX13_withEndings_73 (by decide) ?_
            exact ih26 _ (by omega) _ _ _ ls (y63) (le9) (bc9) (bg9) (bs9) (be9) (b09) (b19) rfl hZ hP ho5 (by omega) (by omega) (by omega) (by assumption) (lv_sub hl [0, 1, 2, 3, 4, 5, 6] rfl)
          · have c62 : (y59).toInt = (1 : Int) := hq_eqi.mp c62
            refine lv_iload hx hb dX13_withEndings_48 (lv_at hl 0 rfl) ?_
            refine lv_iload_n hx hb dX13_withEndings_50 rfl (lv_at hl 4 rfl) ?_
            refine lv_icmp_eq (tgt := 70) hx hb dX13_withEndings_51 (by decide) (fun c69 => ?_) (fun c69 => ?_)
            · have c69 : (a).toInt = (fi).toInt := hq_eqi.mp c69
              obtain ⟨y70, ey71⟩ : ∃ y : Int32, y = a + (1) := ⟨_, rfl⟩
              obtain ⟨k72, hk73, b74, b75⟩ := hq_add (a) (1)
              rw [← ey71] at hk73 b74 b75
              have hk73 : (y70).toInt = (a).toInt + (1) + k72 * 4294967296 := hk73
              refine lv_iinc (v := y70) (lv' := [(6, .int (y70)), (0, .ref (mo)), (1, .int (v)), (2, .int (stm)), (3, .int (fi)), (4, .int (cost)), (5, .int (chg))]) hx hb dX13_withEndings_70 hl (k := 0) rfl (by rw [ey71]; rfl) (by decide) rfl (fun ls hl => ?_)
              refine lv_goto (tgt := 26) hx hb dX13_withEndings_73 (by decide) ?_
              exact ih26 _ (by omega) _ _ _ ls (y70) (le9) (bc9) (bg9) (bs9) (be9) (b09) (b19) rfl hZ hP ho5 (by omega) (by omega) (by omega) (by assumption) (lv_sub hl [0, 1, 2, 3, 4, 5, 6] rfl)
            · have c69 : ¬ (a).toInt = (fi).toInt := fun h9 => c69 (hq_eqi.mpr h9)
              refine lv_aload_n hx hb dX13_withEndings_54 rfl (lv_at hl 1 rfl) ?_
              refine lv_iload_n hx hb dX13_withEndings_55 rfl (lv_at hl 2 rfl) ?_
              refine lv_iload_n hx hb dX13_withEndings_56 rfl (lv_at hl 3 rfl) ?_
              refine lv_iload hx hb dX13_withEndings_57 (lv_at hl 0 rfl) ?_
              refine lv_iload hx hb dX13_withEndings_59 (lv_at hl 5 rfl) ?_
              refine lv_iconst (v := 3) hx hb dX13_withEndings_61 (by decide) ?_
              refine lv_iadd hx hb dX13_withEndings_62 ?_
              refine lv_topi (fun y76 ey77 => ?_)
              obtain ⟨k78, hk79, b80, b81⟩ := hq_add (cost) (3)
              rw [← ey77] at hk79 b80 b81
              have hk79 : (y76).toInt = (cost).toInt + (3 : Int) + k78 * 4294967296 := hk79
              refine lv_iload hx hb dX13_withEndings_63 (lv_at hl 6 rfl) ?_
              refine lv_iconst (v := 1) hx hb dX13_withEndings_65 (by decide) ?_
              refine lv_iadd hx hb dX13_withEndings_66 ?_
              refine lv_topi (fun y82 ey83 => ?_)
              obtain ⟨k84, hk85, b86, b87⟩ := hq_add (chg) (1)
              rw [← ey83] at hk85 b86 b87
              have hk85 : (y82).toInt = (chg).toInt + (1 : Int) + k84 * 4294967296 := hk85
              obtain rfl : k84 = 0 := by omega
              have q88 := hm_Ne.of ge (a)
              refine hp_callv (hp_runV (As := [.int (v), .int (stm), .int (a), .int (y76), .int (y82)]) (rest := []) hx hb hml hown hts (t_X13_withSounds l D cs B G  V9 n hP.1 q hR gs ge gx (mo) h_mo (v) (stm) (a) (y76) (y82) ho5  (by omega) (by omega) (by omega) (by omega) (by omega) (by omega) (by omega) (by omega) (by assumption) (by omega) (by omega) (by omega) (by omega) (by omega) (by omega) (by omega) (by omega) (hH.keep hR (fun x t hx hg => hP.2 x t hx (by simp [hg])))) hZ ho5 cv_X13_438 rfl rfl ⟨Nat.le_of_ble_eq_true rfl, Nat.le_of_ble_eq_true rfl⟩ rfl hl.1 rfl (Nat.le_of_ble_eq_true rfl) dX13_withEndings_67 ⟨(Nat.le_of_ble_eq_true rfl), (Nat.le_of_ble_eq_true rfl)⟩) hZ (fun V89 n90 _ _ hw91 hZ => ?_)
              obtain ⟨rfl, hq93, ⟨z95, z96, z97, z98, z99, z100, z101, ho102, hi103, hi104⟩⟩ := hw91
              have hP := hP.trans hq93 (by intro g h; simp_all)
              have b105 := hq_rng z95
              have b106 := hq_rng z96
              have b107 := hq_rng z97
              have b108 := hq_rng z98
              have b109 := hq_rng z99
              have b110 := hq_rng z100
              have b111 := hq_rng z101
              obtain ⟨y112, ey113⟩ : ∃ y : Int32, y = a + (1) := ⟨_, rfl⟩
              obtain ⟨k114, hk115, b116, b117⟩ := hq_add (a) (1)
              rw [← ey113] at hk115 b116 b117
              have hk115 : (y112).toInt = (a).toInt + (1) + k114 * 4294967296 := hk115
              refine lv_iinc (v := y112) (lv' := [(6, .int (y112)), (0, .ref (mo)), (1, .int (v)), (2, .int (stm)), (3, .int (fi)), (4, .int (cost)), (5, .int (chg))]) hx hb dX13_withEndings_70 hl (k := 0) rfl (by rw [ey113]; rfl) (by decide) rfl (fun ls hl => ?_)
              refine lv_goto (tgt := 26) hx hb dX13_withEndings_73 (by decide) ?_
              exact ih26 _ (by omega) _ _ _ ls (y112) (z95) (z96) (z97) (z98) (z99) (z100) (z101) rfl hZ hP ho102 (by omega) (by omega) (by omega) (by assumption) (lv_sub hl [0, 1, 2, 3, 4, 5, 6] rfl)
    · have c3 : ¬ (chg).toInt ≤ (1 : Int) := fun h9 => c3 (hq_lei.mpr h9)
      exact hp_vret hx hb hr hlocks hZ ⟨rfl, hP, ⟨le7, bc7, bg7, bs7, be7, b07, b17, ho1, by omega, by assumption⟩⟩ dX13_withEndings_22
  refine lv_iload_n hx hb dX13_withEndings_0 rfl (lv_at hl 3 rfl) ?_
  refine lv_iconst (v := -1) hx hb dX13_withEndings_1 (by decide) ?_
  refine lv_icmp_eq (tgt := 16) hx hb dX13_withEndings_2 (by decide) (fun c118 => ?_) (fun c118 => ?_)
  · have c118 : (fi).toInt = (-1 : Int) := hq_eqi.mp c118
    exact jn16 _ _ _ ls (m_le) (m_bc) (m_bg) (m_bs) (m_be) (m_b0) (m_b1) hZ hP ho_mo (by omega) (by assumption) (lv_sub hl [0, 1, 2, 3, 4, 5] rfl)
  · have c118 : ¬ (fi).toInt = (-1 : Int) := fun h9 => c118 (hq_eqi.mpr h9)
    refine lv_aload_n hx hb dX13_withEndings_5 rfl (lv_at hl 0 rfl) ?_
    refine lv_iload_n hx hb dX13_withEndings_6 rfl (lv_at hl 1 rfl) ?_
    refine lv_iload_n hx hb dX13_withEndings_7 rfl (lv_at hl 2 rfl) ?_
    refine lv_iload_n hx hb dX13_withEndings_8 rfl (lv_at hl 3 rfl) ?_
    refine lv_iload hx hb dX13_withEndings_9 (lv_at hl 4 rfl) ?_
    refine lv_iload hx hb dX13_withEndings_11 (lv_at hl 5 rfl) ?_
    have q119 := hm_Ne.of ge (fi)
    refine hp_callv (hp_runV (As := [.int (v), .int (stm), .int (fi), .int (cost), .int (chg)]) (rest := []) hx hb hml hown hts (t_X13_withSounds l D cs B G  V n hP.1 q hR gs ge gx (mo) h_mo (v) (stm) (fi) (cost) (chg) ho_mo  (by omega) (by omega) (by omega) (by omega) (by omega) (by omega) (by omega) (by omega) (by assumption) (by omega) (by omega) (by omega) (by omega) (by omega) (by omega) (by omega) (by omega) (hH.keep hR (fun x t hx hg => hP.2 x t hx (by simp [hg])))) hZ ho_mo cv_X13_438 rfl rfl ⟨Nat.le_of_ble_eq_true rfl, Nat.le_of_ble_eq_true rfl⟩ rfl hl.1 rfl (Nat.le_of_ble_eq_true rfl) dX13_withEndings_13 ⟨(Nat.le_of_ble_eq_true rfl), (Nat.le_of_ble_eq_true rfl)⟩) hZ (fun V120 n121 _ _ hw122 hZ => ?_)
    obtain ⟨rfl, hq124, ⟨z126, z127, z128, z129, z130, z131, z132, ho133, hi134, hi135⟩⟩ := hw122
    have hP := hP.trans hq124 (by intro g h; simp_all)
    have b136 := hq_rng z126
    have b137 := hq_rng z127
    have b138 := hq_rng z128
    have b139 := hq_rng z129
    have b140 := hq_rng z130
    have b141 := hq_rng z131
    have b142 := hq_rng z132
    exact jn16 _ _ _ ls (z126) (z127) (z128) (z129) (z130) (z131) (z132) hZ hP ho133 (by omega) (by assumption) (lv_sub hl [0, 1, 2, 3, 4, 5] rfl)

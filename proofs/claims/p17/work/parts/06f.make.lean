theorem hm_VQ.at {cs : Nat → ClassId} {V : hp_V} {q : Nat} {fk fs fl : Nat → Int32} {l : Int32} (h : hm_VQ cs V q 0 0) (ek : V (q + 10) = some (.inl (cs 1, 120, .inl fk))) (es : V (q + 14) = some (.inl (cs 1, 120, .inl fs))) (el : V (q + 2) = some (.inl (cs 1, 2, .inl fl))) (h0 : 0 ≤ l.toInt) (hl : l.toInt < (fl (0 : Int32).toNatClampNeg).toInt) (hk : (fk l.toNatClampNeg).toInt = 2) : 1 ≤ (fs l.toNatClampNeg).toInt := by
  have n1 : l.toNatClampNeg = l.toInt.toNat := rfl
  have h9 := h fk fs fl ek es el l.toNatClampNeg (by show _ < ((fl (0 : Int32).toNatClampNeg).toInt).toNat; omega)
  rw [Nat.zero_add] at h9
  exact h9 hk
set_option maxHeartbeats 4000000 in
set_option maxRecDepth 100000 in
theorem t_X13_fits (l : Launch) (D : va_G) (cs : Nat → ClassId) (B : Nat) (G : hq_G) (V : hp_V) (n : Nat) (hI : hq_I cs G V) (q : Nat) (hR : hq_RT G q) (mo : Nat) (h_mo : G mo = some (24, 0, 0, 0)) (k : Int32) (v : Int32) (te : Int32) (pe : Int32) {m_tp m_sz m_fr m_bh m_hd m_ft m_fa m_le m_fo m_as m_fd m_bc m_bg m_bs m_be m_b0 m_b1 m_cm m_hc : Int32} (ho_mo : V mo = some (.inr (13, hm_o q (m_tp) (m_sz) (m_fr) (m_bh) (m_hd) (m_ft) (m_fa) (m_le) (m_fo) (m_as) (m_fd) (m_bc) (m_bg) (m_bs) (m_be) (m_b0) (m_b1) (m_cm) (m_hc)))) (hi_mo0 : 0 ≤ m_tp.toInt ∧ m_tp.toInt ≤ 4000) (hi_mo1 : 0 ≤ m_sz.toInt ∧ m_sz.toInt ≤ 4000) (hi_mo2 : 0 ≤ m_le.toInt ∧ m_le.toInt ≤ 276) (hi_mo3 : 0 ≤ m_fo.toInt ∧ m_fo.toInt ≤ 4) (hi_mo4 : 0 ≤ m_as.toInt ∧ m_as.toInt ≤ 4000) (hi_mo5 : 0 ≤ m_fd.toInt ∧ m_fd.toInt ≤ 900) (hi_mo6 : 0 ≤ m_cm.toInt ∧ m_cm.toInt ≤ 2) (hi_mo7 : 0 ≤ m_hc.toInt ∧ m_hc.toInt ≤ 1) (hl0 : 0 ≤ k.toInt) (hl1 : k.toInt < 120) (hv0 : 0 ≤ v.toInt) (hv1 : v.toInt < 60) : hp_M l yX13_fits cX13_fits 5 (some .boolean) ({ frames := 1, cells := 0, slots := 0, locals := 21 }) D cs B V n [.ref (mo), .int (k), .int (v), .int (te), .int (pe)] (hp_QI D cs B (fun r V' n' => n = n' ∧ hq_P cs G (fun _ => false) V V' ∧ (V' mo = some (.inr (13, hm_o q (m_tp) (m_sz) (m_fr) (m_bh) (m_hd) (m_ft) (m_fa) (m_le) (m_fo) (m_as) (m_fd) (m_bc) (m_bg) (m_bs) (m_be) (m_b0) (m_b1) (m_cm) (m_hc)))) ∧ (0 ≤ r.toInt ∧ r.toInt ≤ 1))) 0 0 := by
  refine hp_walk (R0 := RX13) (by decide) rfl ?_ (Nat.le_of_ble_eq_true rfl)
  intro p e s m below meth c ls hx hb hr hts hown hlocks hin hml hZ hl
  have hP : hq_P cs G (fun _ => false) V V := hq_P.rf hI
  have hl : lv_has ls 5 [(0, .ref (mo)), (1, .int (k)), (2, .int (v)), (3, .int (te)), (4, .int (pe))] := hl
  have hb_k := hq_rng k
  have hb_v := hq_rng v
  have hb_te := hq_rng te
  have hb_pe := hq_rng pe
  have hb_m_tp := hq_rng m_tp
  have hb_m_sz := hq_rng m_sz
  have hb_m_fr := hq_rng m_fr
  have hb_m_bh := hq_rng m_bh
  have hb_m_hd := hq_rng m_hd
  have hb_m_ft := hq_rng m_ft
  have hb_m_fa := hq_rng m_fa
  have hb_m_le := hq_rng m_le
  have hb_m_fo := hq_rng m_fo
  have hb_m_as := hq_rng m_as
  have hb_m_fd := hq_rng m_fd
  have hb_m_bc := hq_rng m_bc
  have hb_m_bg := hq_rng m_bg
  have hb_m_bs := hq_rng m_bs
  have hb_m_be := hq_rng m_be
  have hb_m_b0 := hq_rng m_b0
  have hb_m_b1 := hq_rng m_b1
  have hb_m_cm := hq_rng m_cm
  have hb_m_hc := hq_rng m_hc
  refine lv_aload_n hx hb dX13_fits_0 rfl (lv_at hl 0 rfl) ?_
  refine hp_get (v := .ref (q + 10)) hx hb hts hown hZ ho_mo fl_X13_29 rfl dX13_fits_1 ?_
  refine lv_iload_n hx hb dX13_fits_4 rfl (lv_at hl 1 rfl) ?_
  obtain ⟨hN3, g2, eV1, hf4⟩ := hq_o21 hP.1 (hr_10 hR)
  refine hp_iald hx hb hZ eV1 (hq_in (by omega) (by omega)) dX13_fits_5 ?_
  refine lv_topi (fun y5 ey6 => ?_)
  have b7 := hq_rng y5
  refine lv_iconst (v := 2) hx hb dX13_fits_6 (by decide) ?_
  refine lv_icmp_eq (tgt := 41) hx hb dX13_fits_7 (by decide) (fun c8 => ?_) (fun c8 => ?_)
  · have c8 : (y5).toInt = (2 : Int) := hq_eqi.mp c8
    refine lv_iconst (v := 0) hx hb dX13_fits_41 (by decide) ?_
    exact hp_zret hx hb hr rfl hlocks hZ ⟨rfl, hP, ho_mo, (by decide)⟩ dX13_fits_42
  · have c8 : ¬ (y5).toInt = (2 : Int) := fun h9 => c8 (hq_eqi.mpr h9)
    refine lv_aload_n hx hb dX13_fits_10 rfl (lv_at hl 0 rfl) ?_
    refine hp_get (v := .ref (q + 12)) hx hb hts hown hZ ho_mo fl_X13_35 rfl dX13_fits_11 ?_
    refine lv_iload_n hx hb dX13_fits_14 rfl (lv_at hl 1 rfl) ?_
    obtain ⟨hN11, g10, eV9, hf12⟩ := hq_o21 hP.1 (hr_12 hR)
    refine hp_iald hx hb hZ eV9 (hq_in (by omega) (by omega)) dX13_fits_15 ?_
    refine lv_topi (fun y13 ey14 => ?_)
    have b15 := hq_rng y13
    refine lv_iload_n hx hb dX13_fits_16 rfl (lv_at hl 3 rfl) ?_
    refine lv_icmp_ne (tgt := 41) hx hb dX13_fits_17 (by decide) (fun c16 => ?_) (fun c16 => ?_)
    · have c16 : ¬ (y13).toInt = (te).toInt := fun h9 => c16 (hq_eqi.mpr h9)
      refine lv_iconst (v := 0) hx hb dX13_fits_41 (by decide) ?_
      exact hp_zret hx hb hr rfl hlocks hZ ⟨rfl, hP, ho_mo, (by decide)⟩ dX13_fits_42
    · have c16 : (y13).toInt = (te).toInt := hq_eqi.mp c16
      refine lv_aload_n hx hb dX13_fits_20 rfl (lv_at hl 0 rfl) ?_
      refine hp_get (v := .ref (q + 13)) hx hb hts hown hZ ho_mo fl_X13_38 rfl dX13_fits_21 ?_
      refine lv_iload_n hx hb dX13_fits_24 rfl (lv_at hl 1 rfl) ?_
      obtain ⟨hN19, g18, eV17, hf20⟩ := hq_o21 hP.1 (hr_13 hR)
      refine hp_iald hx hb hZ eV17 (hq_in (by omega) (by omega)) dX13_fits_25 ?_
      refine lv_topi (fun y21 ey22 => ?_)
      have b23 := hq_rng y21
      refine lv_iconst (v := -1) hx hb dX13_fits_26 (by decide) ?_
      refine lv_icmp_eq (tgt := 43) hx hb dX13_fits_27 (by decide) (fun c24 => ?_) (fun c24 => ?_)
      · have c24 : (y21).toInt = (-1 : Int) := hq_eqi.mp c24
        refine lv_aload_n hx hb dX13_fits_43 rfl (lv_at hl 0 rfl) ?_
        refine hp_get (v := .ref (q + 11)) hx hb hts hown hZ ho_mo fl_X13_32 rfl dX13_fits_44 ?_
        refine lv_iload_n hx hb dX13_fits_47 rfl (lv_at hl 1 rfl) ?_
        obtain ⟨hN27, g26, eV25, hf28⟩ := hq_o21 hP.1 (hr_11 hR)
        refine hp_iald hx hb hZ eV25 (hq_in (by omega) (by omega)) dX13_fits_48 ?_
        refine lv_topi (fun y29 ey30 => ?_)
        have b31 := hq_rng y29
        refine lv_iconst (v := -1) hx hb dX13_fits_49 (by decide) ?_
        refine lv_icmp_eq (tgt := 92) hx hb dX13_fits_50 (by decide) (fun c32 => ?_) (fun c32 => ?_)
        · have c32 : (y29).toInt = (-1 : Int) := hq_eqi.mp c32
          refine lv_iconst (v := 1) hx hb dX13_fits_92 (by decide) ?_
          refine lv_goto (tgt := 97) hx hb dX13_fits_93 (by decide) ?_
          exact hp_zret hx hb hr rfl hlocks hZ ⟨rfl, hP, ho_mo, (by decide)⟩ dX13_fits_97
        · have c32 : ¬ (y29).toInt = (-1 : Int) := fun h9 => c32 (hq_eqi.mpr h9)
          refine lv_aload_n hx hb dX13_fits_53 rfl (lv_at hl 0 rfl) ?_
          refine hp_get (v := .ref (q + 11)) hx hb hts hown hZ ho_mo fl_X13_32 rfl dX13_fits_54 ?_
          refine lv_iload_n hx hb dX13_fits_57 rfl (lv_at hl 1 rfl) ?_
          refine hp_iald hx hb hZ eV25 (hq_in (by omega) (by omega)) dX13_fits_58 ?_
          refine lv_topi (fun y33 ey34 => ?_)
          have b35 := hq_rng y33
          refine lv_aload_n hx hb dX13_fits_59 rfl (lv_at hl 0 rfl) ?_
          refine hp_get (v := .ref (q + 10)) hx hb hts hown hZ ho_mo fl_X13_29 rfl dX13_fits_60 ?_
          refine lv_iload_n hx hb dX13_fits_63 rfl (lv_at hl 1 rfl) ?_
          refine hp_iald hx hb hZ eV1 (hq_in (by omega) (by omega)) dX13_fits_64 ?_
          refine lv_topi (fun y36 ey37 => ?_)
          have b38 := hq_rng y36
          refine lv_iconst (v := 4) hx hb dX13_fits_65 (by decide) ?_
          refine lv_icmp_eq (tgt := 79) hx hb dX13_fits_66 (by decide) (fun c39 => ?_) (fun c39 => ?_)
          · have c39 : (y36).toInt = (4 : Int) := hq_eqi.mp c39
            refine lv_iload_n hx hb dX13_fits_79 rfl (lv_at hl 2 rfl) ?_
            refine lv_goto (tgt := 89) hx hb dX13_fits_80 (by decide) ?_
            refine lv_icmp_ne (tgt := 96) hx hb dX13_fits_89 (by decide) (fun c40 => ?_) (fun c40 => ?_)
            · have c40 : ¬ (y33).toInt = (v).toInt := fun h9 => c40 (hq_eqi.mpr h9)
              refine lv_iconst (v := 0) hx hb dX13_fits_96 (by decide) ?_
              exact hp_zret hx hb hr rfl hlocks hZ ⟨rfl, hP, ho_mo, (by decide)⟩ dX13_fits_97
            · have c40 : (y33).toInt = (v).toInt := hq_eqi.mp c40
              refine lv_iconst (v := 1) hx hb dX13_fits_92 (by decide) ?_
              refine lv_goto (tgt := 97) hx hb dX13_fits_93 (by decide) ?_
              exact hp_zret hx hb hr rfl hlocks hZ ⟨rfl, hP, ho_mo, (by decide)⟩ dX13_fits_97
          · have c39 : ¬ (y36).toInt = (4 : Int) := fun h9 => c39 (hq_eqi.mpr h9)
            refine lv_aload_n hx hb dX13_fits_69 rfl (lv_at hl 0 rfl) ?_
            refine hp_get (v := .ref (q + 10)) hx hb hts hown hZ ho_mo fl_X13_29 rfl dX13_fits_70 ?_
            refine lv_iload_n hx hb dX13_fits_73 rfl (lv_at hl 1 rfl) ?_
            refine hp_iald hx hb hZ eV1 (hq_in (by omega) (by omega)) dX13_fits_74 ?_
            refine lv_topi (fun y41 ey42 => ?_)
            have b43 := hq_rng y41
            refine lv_iconst (v := 5) hx hb dX13_fits_75 (by decide) ?_
            refine lv_icmp_ne (tgt := 83) hx hb dX13_fits_76 (by decide) (fun c44 => ?_) (fun c44 => ?_)
            · have c44 : ¬ (y41).toInt = (5 : Int) := fun h9 => c44 (hq_eqi.mpr h9)
              refine lv_aload_n hx hb dX13_fits_83 rfl (lv_at hl 0 rfl) ?_
              refine hp_get (v := .ref (q + 9)) hx hb hts hown hZ ho_mo fl_X13_16 rfl dX13_fits_84 ?_
              refine lv_iload_n hx hb dX13_fits_87 rfl (lv_at hl 2 rfl) ?_
              obtain ⟨hN47, g46, eV45, hf48⟩ := hq_o21 hP.1 (hr_9 hR)
              refine hp_iald hx hb hZ eV45 (hq_in (by omega) (by omega)) dX13_fits_88 ?_
              refine lv_topi (fun y49 ey50 => ?_)
              have b51 := hq_rng y49
              refine lv_icmp_ne (tgt := 96) hx hb dX13_fits_89 (by decide) (fun c52 => ?_) (fun c52 => ?_)
              · have c52 : ¬ (y33).toInt = (y49).toInt := fun h9 => c52 (hq_eqi.mpr h9)
                refine lv_iconst (v := 0) hx hb dX13_fits_96 (by decide) ?_
                exact hp_zret hx hb hr rfl hlocks hZ ⟨rfl, hP, ho_mo, (by decide)⟩ dX13_fits_97
              · have c52 : (y33).toInt = (y49).toInt := hq_eqi.mp c52
                refine lv_iconst (v := 1) hx hb dX13_fits_92 (by decide) ?_
                refine lv_goto (tgt := 97) hx hb dX13_fits_93 (by decide) ?_
                exact hp_zret hx hb hr rfl hlocks hZ ⟨rfl, hP, ho_mo, (by decide)⟩ dX13_fits_97
            · have c44 : (y41).toInt = (5 : Int) := hq_eqi.mp c44
              refine lv_iload_n hx hb dX13_fits_79 rfl (lv_at hl 2 rfl) ?_
              refine lv_goto (tgt := 89) hx hb dX13_fits_80 (by decide) ?_
              refine lv_icmp_ne (tgt := 96) hx hb dX13_fits_89 (by decide) (fun c53 => ?_) (fun c53 => ?_)
              · have c53 : ¬ (y33).toInt = (v).toInt := fun h9 => c53 (hq_eqi.mpr h9)
                refine lv_iconst (v := 0) hx hb dX13_fits_96 (by decide) ?_
                exact hp_zret hx hb hr rfl hlocks hZ ⟨rfl, hP, ho_mo, (by decide)⟩ dX13_fits_97
              · have c53 : (y33).toInt = (v).toInt := hq_eqi.mp c53
                refine lv_iconst (v := 1) hx hb dX13_fits_92 (by decide) ?_
                refine lv_goto (tgt := 97) hx hb dX13_fits_93 (by decide) ?_
                exact hp_zret hx hb hr rfl hlocks hZ ⟨rfl, hP, ho_mo, (by decide)⟩ dX13_fits_97
      · have c24 : ¬ (y21).toInt = (-1 : Int) := fun h9 => c24 (hq_eqi.mpr h9)
        refine lv_aload_n hx hb dX13_fits_30 rfl (lv_at hl 0 rfl) ?_
        refine hp_get (v := .ref (q + 13)) hx hb hts hown hZ ho_mo fl_X13_38 rfl dX13_fits_31 ?_
        refine lv_iload_n hx hb dX13_fits_34 rfl (lv_at hl 1 rfl) ?_
        refine hp_iald hx hb hZ eV17 (hq_in (by omega) (by omega)) dX13_fits_35 ?_
        refine lv_topi (fun y54 ey55 => ?_)
        have b56 := hq_rng y54
        refine lv_iload hx hb dX13_fits_36 (lv_at hl 4 rfl) ?_
        refine lv_icmp_eq (tgt := 43) hx hb dX13_fits_38 (by decide) (fun c57 => ?_) (fun c57 => ?_)
        · have c57 : (y54).toInt = (pe).toInt := hq_eqi.mp c57
          refine lv_aload_n hx hb dX13_fits_43 rfl (lv_at hl 0 rfl) ?_
          refine hp_get (v := .ref (q + 11)) hx hb hts hown hZ ho_mo fl_X13_32 rfl dX13_fits_44 ?_
          refine lv_iload_n hx hb dX13_fits_47 rfl (lv_at hl 1 rfl) ?_
          obtain ⟨hN60, g59, eV58, hf61⟩ := hq_o21 hP.1 (hr_11 hR)
          refine hp_iald hx hb hZ eV58 (hq_in (by omega) (by omega)) dX13_fits_48 ?_
          refine lv_topi (fun y62 ey63 => ?_)
          have b64 := hq_rng y62
          refine lv_iconst (v := -1) hx hb dX13_fits_49 (by decide) ?_
          refine lv_icmp_eq (tgt := 92) hx hb dX13_fits_50 (by decide) (fun c65 => ?_) (fun c65 => ?_)
          · have c65 : (y62).toInt = (-1 : Int) := hq_eqi.mp c65
            refine lv_iconst (v := 1) hx hb dX13_fits_92 (by decide) ?_
            refine lv_goto (tgt := 97) hx hb dX13_fits_93 (by decide) ?_
            exact hp_zret hx hb hr rfl hlocks hZ ⟨rfl, hP, ho_mo, (by decide)⟩ dX13_fits_97
          · have c65 : ¬ (y62).toInt = (-1 : Int) := fun h9 => c65 (hq_eqi.mpr h9)
            refine lv_aload_n hx hb dX13_fits_53 rfl (lv_at hl 0 rfl) ?_
            refine hp_get (v := .ref (q + 11)) hx hb hts hown hZ ho_mo fl_X13_32 rfl dX13_fits_54 ?_
            refine lv_iload_n hx hb dX13_fits_57 rfl (lv_at hl 1 rfl) ?_
            refine hp_iald hx hb hZ eV58 (hq_in (by omega) (by omega)) dX13_fits_58 ?_
            refine lv_topi (fun y66 ey67 => ?_)
            have b68 := hq_rng y66
            refine lv_aload_n hx hb dX13_fits_59 rfl (lv_at hl 0 rfl) ?_
            refine hp_get (v := .ref (q + 10)) hx hb hts hown hZ ho_mo fl_X13_29 rfl dX13_fits_60 ?_
            refine lv_iload_n hx hb dX13_fits_63 rfl (lv_at hl 1 rfl) ?_
            refine hp_iald hx hb hZ eV1 (hq_in (by omega) (by omega)) dX13_fits_64 ?_
            refine lv_topi (fun y69 ey70 => ?_)
            have b71 := hq_rng y69
            refine lv_iconst (v := 4) hx hb dX13_fits_65 (by decide) ?_
            refine lv_icmp_eq (tgt := 79) hx hb dX13_fits_66 (by decide) (fun c72 => ?_) (fun c72 => ?_)
            · have c72 : (y69).toInt = (4 : Int) := hq_eqi.mp c72
              refine lv_iload_n hx hb dX13_fits_79 rfl (lv_at hl 2 rfl) ?_
              refine lv_goto (tgt := 89) hx hb dX13_fits_80 (by decide) ?_
              refine lv_icmp_ne (tgt := 96) hx hb dX13_fits_89 (by decide) (fun c73 => ?_) (fun c73 => ?_)
              · have c73 : ¬ (y66).toInt = (v).toInt := fun h9 => c73 (hq_eqi.mpr h9)
                refine lv_iconst (v := 0) hx hb dX13_fits_96 (by decide) ?_
                exact hp_zret hx hb hr rfl hlocks hZ ⟨rfl, hP, ho_mo, (by decide)⟩ dX13_fits_97
              · have c73 : (y66).toInt = (v).toInt := hq_eqi.mp c73
                refine lv_iconst (v := 1) hx hb dX13_fits_92 (by decide) ?_
                refine lv_goto (tgt := 97) hx hb dX13_fits_93 (by decide) ?_
                exact hp_zret hx hb hr rfl hlocks hZ ⟨rfl, hP, ho_mo, (by decide)⟩ dX13_fits_97
            · have c72 : ¬ (y69).toInt = (4 : Int) := fun h9 => c72 (hq_eqi.mpr h9)
              refine lv_aload_n hx hb dX13_fits_69 rfl (lv_at hl 0 rfl) ?_
              refine hp_get (v := .ref (q + 10)) hx hb hts hown hZ ho_mo fl_X13_29 rfl dX13_fits_70 ?_
              refine lv_iload_n hx hb dX13_fits_73 rfl (lv_at hl 1 rfl) ?_
              refine hp_iald hx hb hZ eV1 (hq_in (by omega) (by omega)) dX13_fits_74 ?_
              refine lv_topi (fun y74 ey75 => ?_)
              have b76 := hq_rng y74
              refine lv_iconst (v := 5) hx hb dX13_fits_75 (by decide) ?_
              refine lv_icmp_ne (tgt := 83) hx hb dX13_fits_76 (by decide) (fun c77 => ?_) (fun c77 => ?_)
              · have c77 : ¬ (y74).toInt = (5 : Int) := fun h9 => c77 (hq_eqi.mpr h9)
                refine lv_aload_n hx hb dX13_fits_83 rfl (lv_at hl 0 rfl) ?_
                refine hp_get (v := .ref (q + 9)) hx hb hts hown hZ ho_mo fl_X13_16 rfl dX13_fits_84 ?_
                refine lv_iload_n hx hb dX13_fits_87 rfl (lv_at hl 2 rfl) ?_
                obtain ⟨hN80, g79, eV78, hf81⟩ := hq_o21 hP.1 (hr_9 hR)
                refine hp_iald hx hb hZ eV78 (hq_in (by omega) (by omega)) dX13_fits_88 ?_
                refine lv_topi (fun y82 ey83 => ?_)
                have b84 := hq_rng y82
                refine lv_icmp_ne (tgt := 96) hx hb dX13_fits_89 (by decide) (fun c85 => ?_) (fun c85 => ?_)
                · have c85 : ¬ (y66).toInt = (y82).toInt := fun h9 => c85 (hq_eqi.mpr h9)
                  refine lv_iconst (v := 0) hx hb dX13_fits_96 (by decide) ?_
                  exact hp_zret hx hb hr rfl hlocks hZ ⟨rfl, hP, ho_mo, (by decide)⟩ dX13_fits_97
                · have c85 : (y66).toInt = (y82).toInt := hq_eqi.mp c85
                  refine lv_iconst (v := 1) hx hb dX13_fits_92 (by decide) ?_
                  refine lv_goto (tgt := 97) hx hb dX13_fits_93 (by decide) ?_
                  exact hp_zret hx hb hr rfl hlocks hZ ⟨rfl, hP, ho_mo, (by decide)⟩ dX13_fits_97
              · have c77 : (y74).toInt = (5 : Int) := hq_eqi.mp c77
                refine lv_iload_n hx hb dX13_fits_79 rfl (lv_at hl 2 rfl) ?_
                refine lv_goto (tgt := 89) hx hb dX13_fits_80 (by decide) ?_
                refine lv_icmp_ne (tgt := 96) hx hb dX13_fits_89 (by decide) (fun c86 => ?_) (fun c86 => ?_)
                · have c86 : ¬ (y66).toInt = (v).toInt := fun h9 => c86 (hq_eqi.mpr h9)
                  refine lv_iconst (v := 0) hx hb dX13_fits_96 (by decide) ?_
                  exact hp_zret hx hb hr rfl hlocks hZ ⟨rfl, hP, ho_mo, (by decide)⟩ dX13_fits_97
                · have c86 : (y66).toInt = (v).toInt := hq_eqi.mp c86
                  refine lv_iconst (v := 1) hx hb dX13_fits_92 (by decide) ?_
                  refine lv_goto (tgt := 97) hx hb dX13_fits_93 (by decide) ?_
                  exact hp_zret hx hb hr rfl hlocks hZ ⟨rfl, hP, ho_mo, (by decide)⟩ dX13_fits_97
        · have c57 : ¬ (y54).toInt = (pe).toInt := fun h9 => c57 (hq_eqi.mpr h9)
          refine lv_iconst (v := 0) hx hb dX13_fits_41 (by decide) ?_
          exact hp_zret hx hb hr rfl hlocks hZ ⟨rfl, hP, ho_mo, (by decide)⟩ dX13_fits_42

set_option maxHeartbeats 4000000 in
set_option maxRecDepth 100000 in
theorem t_X13_firstOf (l : Launch) (D : va_G) (cs : Nat → ClassId) (B : Nat) (G : hq_G) (V : hp_V) (n : Nat) (hI : hq_I cs G V) (q : Nat) (hR : hq_RT G q) (mo : Nat) (h_mo : G mo = some (24, 0, 0, 0)) (k : Int32) (v : Int32) (te : Int32) (pe : Int32) {m_tp m_sz m_fr m_bh m_hd m_ft m_fa m_le m_fo m_as m_fd m_bc m_bg m_bs m_be m_b0 m_b1 m_cm m_hc : Int32} (ho_mo : V mo = some (.inr (13, hm_o q (m_tp) (m_sz) (m_fr) (m_bh) (m_hd) (m_ft) (m_fa) (m_le) (m_fo) (m_as) (m_fd) (m_bc) (m_bg) (m_bs) (m_be) (m_b0) (m_b1) (m_cm) (m_hc)))) (hi_mo0 : 0 ≤ m_tp.toInt ∧ m_tp.toInt ≤ 4000) (hi_mo1 : 0 ≤ m_sz.toInt ∧ m_sz.toInt ≤ 4000) (hi_mo2 : 0 ≤ m_le.toInt ∧ m_le.toInt ≤ 276) (hi_mo3 : 0 ≤ m_fo.toInt ∧ m_fo.toInt ≤ 4) (hi_mo4 : 0 ≤ m_as.toInt ∧ m_as.toInt ≤ 4000) (hi_mo5 : 0 ≤ m_fd.toInt ∧ m_fd.toInt ≤ 900) (hi_mo6 : 0 ≤ m_cm.toInt ∧ m_cm.toInt ≤ 2) (hi_mo7 : 0 ≤ m_hc.toInt ∧ m_hc.toInt ≤ 1) (hv0 : 0 ≤ v.toInt) (hv1 : v.toInt < 30) : hp_M l yX13_firstOf cX13_firstOf 6 (some .int) ({ frames := 2, cells := 0, slots := 0, locals := 45 }) D cs B V n [.ref (mo), .int (k), .int (v), .int (te), .int (pe)] (hp_QI D cs B (fun r V' n' => n = n' ∧ hq_P cs G (fun _ => false) V V' ∧ (V' mo = some (.inr (13, hm_o q (m_tp) (m_sz) (m_fr) (m_bh) (m_hd) (m_ft) (m_fa) (m_le) (m_fo) (m_as) (m_fd) (m_bc) (m_bg) (m_bs) (m_be) (m_b0) (m_b1) (m_cm) (m_hc)))) ∧ (-1 ≤ r.toInt ∧ r.toInt < 60))) 0 0 := by
  refine hp_walk (R0 := RX13) (by decide) rfl ?_ (Nat.le_of_ble_eq_true rfl)
  intro p e s m below meth c ls hx hb hr hts hown hlocks hin hml hZ hl
  have hP : hq_P cs G (fun _ => false) V V := hq_P.rf hI
  have hl : lv_has ls 6 [(0, .ref (mo)), (1, .int (k)), (2, .int (v)), (3, .int (te)), (4, .int (pe))] := hl
  have hb_k := hq_rng k
  have hb_v := hq_rng v
  have hb_te := hq_rng te
  have hb_pe := hq_rng pe
  have hb_m_tp := hq_rng m_tp
  have hb_m_sz := hq_rng m_sz
  have hb_m_fr := hq_rng m_fr
  have hb_m_bh := hq_rng m_bh
  have hb_m_hd := hq_rng m_hd
  have hb_m_ft := hq_rng m_ft
  have hb_m_fa := hq_rng m_fa
  have hb_m_le := hq_rng m_le
  have hb_m_fo := hq_rng m_fo
  have hb_m_as := hq_rng m_as
  have hb_m_fd := hq_rng m_fd
  have hb_m_bc := hq_rng m_bc
  have hb_m_bg := hq_rng m_bg
  have hb_m_bs := hq_rng m_bs
  have hb_m_be := hq_rng m_be
  have hb_m_b0 := hq_rng m_b0
  have hb_m_b1 := hq_rng m_b1
  have hb_m_cm := hq_rng m_cm
  have hb_m_hc := hq_rng m_hc
  refine lv_iconst (v := 0) hx hb dX13_firstOf_0 (by decide) ?_
  refine lv_istore (lv' := [(5, .int (0)), (0, .ref (mo)), (1, .int (k)), (2, .int (v)), (3, .int (te)), (4, .int (pe))]) hx hb dX13_firstOf_1 hl (by decide) rfl (fun ls hl => ?_)
  have hl1 : (0 : Int32).toInt = 0 := by decide
  suffices lp3 : ∀ (k9 : Nat) (V9 : hp_V) (H9 : Heap) (locs9 : List Loc) (ls : Array Slot) (i : Int32), (100 - i.toInt).toNat = k9 → hp_Z D cs B s V9 H9 n locs9 → hq_P cs G (fun _ => false) V V9 → 0 ≤ i.toInt → i.toInt ≤ 60 → lv_has ls 6 [(5, .int (i)), (0, .ref (mo)), (1, .int (k)), (2, .int (v)), (3, .int (te)), (4, .int (pe))] → W p l e ({ frames := 2, cells := 0, slots := 0, locals := 45 }) s m ([.ref (mo), .int (k), .int (v), .int (te), .int (pe)] : List Value).toArray below meth c H9 locs9 0 0 (MQ below (hp_QI D cs B (fun r V' n' => n = n' ∧ hq_P cs G (fun _ => false) V V' ∧ (V' mo = some (.inr (13, hm_o q (m_tp) (m_sz) (m_fr) (m_bh) (m_hd) (m_ft) (m_fa) (m_le) (m_fo) (m_as) (m_fd) (m_bc) (m_bg) (m_bs) (m_be) (m_b0) (m_b1) (m_cm) (m_hc)))) ∧ (-1 ≤ r.toInt ∧ r.toInt < 60))) ([.ref (mo), .int (k), .int (v), .int (te), .int (pe)] : List Value).toArray s 0 0 (hp_F B)) (F0 m 3 ls []) from lp3 _ _ _ _ ls (0) rfl hZ hP (by omega) (by omega) (lv_sub hl [0, 1, 2, 3, 4, 5] rfl)
  intro k9
  induction k9 using Nat.strongRecOn with
  | _ k9 ih3 =>
    intro V9 H9 locs9 ls i  hk3 hZ hP  hv2 hv3 hl
    have hb_i := hq_rng i
    have hP_3 := hP
    refine lv_iload hx hb dX13_firstOf_3 (lv_at hl 0 rfl) ?_
    refine lv_aload_n hx hb dX13_firstOf_5 rfl (lv_at hl 1 rfl) ?_
    have fx4 : V9 (mo) = some (.inr (13, hm_o q (m_tp) (m_sz) (m_fr) (m_bh) (m_hd) (m_ft) (m_fa) (m_le) (m_fo) (m_as) (m_fd) (m_bc) (m_bg) (m_bs) (m_be) (m_b0) (m_b1) (m_cm) (m_hc))) := (hP_3.2 (mo) _ h_mo rfl).trans (ho_mo)
    refine hp_get (v := .ref (q + 2)) hx hb hts hown hZ fx4 fl_X13_10 rfl dX13_firstOf_6 ?_
    refine lv_iconst (v := 0) hx hb dX13_firstOf_9 (by decide) ?_
    obtain ⟨hN7, g6, eV5, hf8⟩ := hq_o21 hP.1 (hr_2 hR)
    refine hp_iald hx hb hZ eV5 (by unfold vp_in; decide) dX13_firstOf_10 ?_
    refine lv_topi (fun y9 ey10 => ?_)
    have b11 : hq_ir (hq_lo 8) (hq_hi 8) y9 := by rw [ey10]; exact hf8 _ (by decide)
    have b11 : 0 ≤ (y9).toInt ∧ (y9).toInt ≤ 60 := b11
    refine lv_icmp_ge (tgt := 47) hx hb dX13_firstOf_11 (by decide) (fun c12 => ?_) (fun c12 => ?_)
    · have c12 : (y9).toInt ≤ (i).toInt := hq_lei.mp c12
      refine lv_iconst (v := -1) hx hb dX13_firstOf_47 (by decide) ?_
      exact hp_iret hx hb hr hlocks hZ ⟨rfl, hP, fx4, (by decide)⟩ dX13_firstOf_48
    · have c12 : ¬ (y9).toInt ≤ (i).toInt := fun h9 => c12 (hq_lei.mpr h9)
      refine lv_aload_n hx hb dX13_firstOf_14 rfl (lv_at hl 1 rfl) ?_
      refine hp_get (v := .ref (q + 10)) hx hb hts hown hZ fx4 fl_X13_29 rfl dX13_firstOf_15 ?_
      refine lv_iload hx hb dX13_firstOf_18 (lv_at hl 0 rfl) ?_
      obtain ⟨hN15, g14, eV13, hf16⟩ := hq_o21 hP.1 (hr_10 hR)
      refine hp_iald hx hb hZ eV13 (hq_in (by omega) (by omega)) dX13_firstOf_20 ?_
      refine lv_topi (fun y17 ey18 => ?_)
      have b19 := hq_rng y17
      refine lv_iload_n hx hb dX13_firstOf_21 rfl (lv_at hl 2 rfl) ?_
      refine lv_icmp_ne (tgt := 41) hx hb dX13_firstOf_22 (by decide) (fun c20 => ?_) (fun c20 => ?_)
      · have c20 : ¬ (y17).toInt = (k).toInt := fun h9 => c20 (hq_eqi.mpr h9)
        obtain ⟨y21, ey22⟩ : ∃ y : Int32, y = i + (1) := ⟨_, rfl⟩
        obtain ⟨k23, hk24, b25, b26⟩ := hq_add (i) (1)
        rw [← ey22] at hk24 b25 b26
        have hk24 : (y21).toInt = (i).toInt + (1) + k23 * 4294967296 := hk24
        refine lv_iinc (v := y21) (lv' := [(5, .int (y21)), (0, .ref (mo)), (1, .int (k)), (2, .int (v)), (3, .int (te)), (4, .int (pe))]) hx hb dX13_firstOf_41 hl (k := 0) rfl (by rw [ey22]; rfl) (by decide) rfl (fun ls hl => ?_)
        refine lv_goto (tgt := 3) hx hb dX13_firstOf_44 (by decide) ?_
        exact ih3 _ (by omega) _ _ _ ls (y21) rfl hZ hP (by omega) (by omega) (lv_sub hl [0, 1, 2, 3, 4, 5] rfl)
      · have c20 : (y17).toInt = (k).toInt := hq_eqi.mp c20
        refine lv_aload_n hx hb dX13_firstOf_25 rfl (lv_at hl 1 rfl) ?_
        refine lv_iload hx hb dX13_firstOf_26 (lv_at hl 0 rfl) ?_
        refine lv_iload_n hx hb dX13_firstOf_28 rfl (lv_at hl 3 rfl) ?_
        refine lv_iload_n hx hb dX13_firstOf_29 rfl (lv_at hl 4 rfl) ?_
        refine lv_iload hx hb dX13_firstOf_30 (lv_at hl 5 rfl) ?_
        refine hp_calli (hp_runV (As := [.int (i), .int (v), .int (te), .int (pe)]) (rest := []) hx hb hml hown hts (t_X13_fits l D cs B G  V9 n hP.1 q hR (mo) h_mo (i) (v) (te) (pe) fx4  (by omega) (by omega) (by omega) (by omega) (by omega) (by omega) (by omega) (by omega) (by omega) (by omega) (by omega) (by omega)) hZ fx4 cv_X13_327 rfl rfl ⟨Nat.le_of_ble_eq_true rfl, Nat.le_of_ble_eq_true rfl⟩ rfl hl.1 rfl (Nat.le_of_ble_eq_true rfl) dX13_firstOf_32 ⟨(Nat.le_of_ble_eq_true rfl), (Nat.le_of_ble_eq_true rfl)⟩) hZ (fun r30 V27 n28 _ _ hw29 hZ => ?_)
        obtain ⟨rfl, hq31, ho33, hr32⟩ := hw29
        have hP := hP.trans hq31 (fun _ _ => rfl)
        have b34 := hq_rng r30
        refine lv_if_eq (tgt := 41) hx hb dX13_firstOf_35 (by decide) (fun c35 => ?_) (fun c35 => ?_)
        · have c35 : (r30).toInt = (0 : Int) := hq_eqi.mp c35
          obtain ⟨y36, ey37⟩ : ∃ y : Int32, y = i + (1) := ⟨_, rfl⟩
          obtain ⟨k38, hk39, b40, b41⟩ := hq_add (i) (1)
          rw [← ey37] at hk39 b40 b41
          have hk39 : (y36).toInt = (i).toInt + (1) + k38 * 4294967296 := hk39
          refine lv_iinc (v := y36) (lv' := [(5, .int (y36)), (0, .ref (mo)), (1, .int (k)), (2, .int (v)), (3, .int (te)), (4, .int (pe))]) hx hb dX13_firstOf_41 hl (k := 0) rfl (by rw [ey37]; rfl) (by decide) rfl (fun ls hl => ?_)
          refine lv_goto (tgt := 3) hx hb dX13_firstOf_44 (by decide) ?_
          exact ih3 _ (by omega) _ _ _ ls (y36) rfl hZ hP (by omega) (by omega) (lv_sub hl [0, 1, 2, 3, 4, 5] rfl)
        · have c35 : ¬ (r30).toInt = (0 : Int) := fun h9 => c35 (hq_eqi.mpr h9)
          refine lv_iload hx hb dX13_firstOf_38 (lv_at hl 0 rfl) ?_
          exact hp_iret hx hb hr hlocks hZ ⟨rfl, hP, ho33, (by constructor <;> omega)⟩ dX13_firstOf_40

set_option maxHeartbeats 4000000 in
set_option maxRecDepth 100000 in
theorem t_X13_manyOf (l : Launch) (D : va_G) (cs : Nat → ClassId) (B : Nat) (G : hq_G) (V : hp_V) (n : Nat) (hI : hq_I cs G V) (q : Nat) (hR : hq_RT G q) (mo : Nat) (h_mo : G mo = some (24, 0, 0, 0)) (k : Int32) (v : Int32) (te : Int32) (pe : Int32) {m_tp m_sz m_fr m_bh m_hd m_ft m_fa m_le m_fo m_as m_fd m_bc m_bg m_bs m_be m_b0 m_b1 m_cm m_hc : Int32} (ho_mo : V mo = some (.inr (13, hm_o q (m_tp) (m_sz) (m_fr) (m_bh) (m_hd) (m_ft) (m_fa) (m_le) (m_fo) (m_as) (m_fd) (m_bc) (m_bg) (m_bs) (m_be) (m_b0) (m_b1) (m_cm) (m_hc)))) (hi_mo0 : 0 ≤ m_tp.toInt ∧ m_tp.toInt ≤ 4000) (hi_mo1 : 0 ≤ m_sz.toInt ∧ m_sz.toInt ≤ 4000) (hi_mo2 : 0 ≤ m_le.toInt ∧ m_le.toInt ≤ 276) (hi_mo3 : 0 ≤ m_fo.toInt ∧ m_fo.toInt ≤ 4) (hi_mo4 : 0 ≤ m_as.toInt ∧ m_as.toInt ≤ 4000) (hi_mo5 : 0 ≤ m_fd.toInt ∧ m_fd.toInt ≤ 900) (hi_mo6 : 0 ≤ m_cm.toInt ∧ m_cm.toInt ≤ 2) (hi_mo7 : 0 ≤ m_hc.toInt ∧ m_hc.toInt ≤ 1) (hv0 : 0 ≤ v.toInt) (hv1 : v.toInt < 30) : hp_M l yX13_manyOf cX13_manyOf 7 (some .int) ({ frames := 2, cells := 0, slots := 0, locals := 45 }) D cs B V n [.ref (mo), .int (k), .int (v), .int (te), .int (pe)] (hp_QI D cs B (fun r V' n' => n = n' ∧ hq_P cs G (fun _ => false) V V' ∧ (V' mo = some (.inr (13, hm_o q (m_tp) (m_sz) (m_fr) (m_bh) (m_hd) (m_ft) (m_fa) (m_le) (m_fo) (m_as) (m_fd) (m_bc) (m_bg) (m_bs) (m_be) (m_b0) (m_b1) (m_cm) (m_hc)))) ∧ True)) 0 0 := by
  refine hp_walk (R0 := RX13) (by decide) rfl ?_ (Nat.le_of_ble_eq_true rfl)
  intro p e s m below meth c ls hx hb hr hts hown hlocks hin hml hZ hl
  have hP : hq_P cs G (fun _ => false) V V := hq_P.rf hI
  have hl : lv_has ls 7 [(0, .ref (mo)), (1, .int (k)), (2, .int (v)), (3, .int (te)), (4, .int (pe))] := hl
  have hb_k := hq_rng k
  have hb_v := hq_rng v
  have hb_te := hq_rng te
  have hb_pe := hq_rng pe
  have hb_m_tp := hq_rng m_tp
  have hb_m_sz := hq_rng m_sz
  have hb_m_fr := hq_rng m_fr
  have hb_m_bh := hq_rng m_bh
  have hb_m_hd := hq_rng m_hd
  have hb_m_ft := hq_rng m_ft
  have hb_m_fa := hq_rng m_fa
  have hb_m_le := hq_rng m_le
  have hb_m_fo := hq_rng m_fo
  have hb_m_as := hq_rng m_as
  have hb_m_fd := hq_rng m_fd
  have hb_m_bc := hq_rng m_bc
  have hb_m_bg := hq_rng m_bg
  have hb_m_bs := hq_rng m_bs
  have hb_m_be := hq_rng m_be
  have hb_m_b0 := hq_rng m_b0
  have hb_m_b1 := hq_rng m_b1
  have hb_m_cm := hq_rng m_cm
  have hb_m_hc := hq_rng m_hc
  refine lv_iconst (v := 0) hx hb dX13_manyOf_0 (by decide) ?_
  refine lv_istore (lv' := [(5, .int (0)), (0, .ref (mo)), (1, .int (k)), (2, .int (v)), (3, .int (te)), (4, .int (pe))]) hx hb dX13_manyOf_1 hl (by decide) rfl (fun ls hl => ?_)
  refine lv_iconst (v := 0) hx hb dX13_manyOf_3 (by decide) ?_
  refine lv_istore (lv' := [(6, .int (0)), (5, .int (0)), (0, .ref (mo)), (1, .int (k)), (2, .int (v)), (3, .int (te)), (4, .int (pe))]) hx hb dX13_manyOf_4 hl (by decide) rfl (fun ls hl => ?_)
  have hl1 : (0 : Int32).toInt = 0 := by decide
  have hl2 : (0 : Int32).toInt = 0 := by decide
  suffices lp6 : ∀ (k9 : Nat) (V9 : hp_V) (H9 : Heap) (locs9 : List Loc) (ls : Array Slot) (no : Int32) (i : Int32), (100 - i.toInt).toNat = k9 → hp_Z D cs B s V9 H9 n locs9 → hq_P cs G (fun _ => false) V V9 → 0 ≤ i.toInt → i.toInt ≤ 60 → lv_has ls 7 [(6, .int (i)), (5, .int (no)), (0, .ref (mo)), (1, .int (k)), (2, .int (v)), (3, .int (te)), (4, .int (pe))] → W p l e ({ frames := 2, cells := 0, slots := 0, locals := 45 }) s m ([.ref (mo), .int (k), .int (v), .int (te), .int (pe)] : List Value).toArray below meth c H9 locs9 0 0 (MQ below (hp_QI D cs B (fun r V' n' => n = n' ∧ hq_P cs G (fun _ => false) V V' ∧ (V' mo = some (.inr (13, hm_o q (m_tp) (m_sz) (m_fr) (m_bh) (m_hd) (m_ft) (m_fa) (m_le) (m_fo) (m_as) (m_fd) (m_bc) (m_bg) (m_bs) (m_be) (m_b0) (m_b1) (m_cm) (m_hc)))) ∧ True)) ([.ref (mo), .int (k), .int (v), .int (te), .int (pe)] : List Value).toArray s 0 0 (hp_F B)) (F0 m 6 ls []) from lp6 _ _ _ _ ls (0) (0) rfl hZ hP (by omega) (by omega) (lv_sub hl [0, 1, 2, 3, 4, 5, 6] rfl)
  intro k9
  induction k9 using Nat.strongRecOn with
  | _ k9 ih6 =>
    intro V9 H9 locs9 ls no i  hk6 hZ hP  hv3 hv4 hl
    have hb_no := hq_rng no
    have hb_i := hq_rng i
    have hP_6 := hP
    refine lv_iload hx hb dX13_manyOf_6 (lv_at hl 0 rfl) ?_
    refine lv_aload_n hx hb dX13_manyOf_8 rfl (lv_at hl 2 rfl) ?_
    have fx5 : V9 (mo) = some (.inr (13, hm_o q (m_tp) (m_sz) (m_fr) (m_bh) (m_hd) (m_ft) (m_fa) (m_le) (m_fo) (m_as) (m_fd) (m_bc) (m_bg) (m_bs) (m_be) (m_b0) (m_b1) (m_cm) (m_hc))) := (hP_6.2 (mo) _ h_mo rfl).trans (ho_mo)
    refine hp_get (v := .ref (q + 2)) hx hb hts hown hZ fx5 fl_X13_10 rfl dX13_manyOf_9 ?_
    refine lv_iconst (v := 0) hx hb dX13_manyOf_12 (by decide) ?_
    obtain ⟨hN8, g7, eV6, hf9⟩ := hq_o21 hP.1 (hr_2 hR)
    refine hp_iald hx hb hZ eV6 (by unfold vp_in; decide) dX13_manyOf_13 ?_
    refine lv_topi (fun y10 ey11 => ?_)
    have b12 : hq_ir (hq_lo 8) (hq_hi 8) y10 := by rw [ey11]; exact hf9 _ (by decide)
    have b12 : 0 ≤ (y10).toInt ∧ (y10).toInt ≤ 60 := b12
    refine lv_icmp_ge (tgt := 57) hx hb dX13_manyOf_14 (by decide) (fun c13 => ?_) (fun c13 => ?_)
    · have c13 : (y10).toInt ≤ (i).toInt := hq_lei.mp c13
      refine lv_iload hx hb dX13_manyOf_57 (lv_at hl 1 rfl) ?_
      exact hp_iret hx hb hr hlocks hZ ⟨rfl, hP, fx5, trivial⟩ dX13_manyOf_59
    · have c13 : ¬ (y10).toInt ≤ (i).toInt := fun h9 => c13 (hq_lei.mpr h9)
      refine lv_iload hx hb dX13_manyOf_17 (lv_at hl 1 rfl) ?_
      refine lv_aload_n hx hb dX13_manyOf_19 rfl (lv_at hl 2 rfl) ?_
      refine hp_get (v := .ref (q + 10)) hx hb hts hown hZ fx5 fl_X13_29 rfl dX13_manyOf_20 ?_
      refine lv_iload hx hb dX13_manyOf_23 (lv_at hl 0 rfl) ?_
      obtain ⟨hN16, g15, eV14, hf17⟩ := hq_o21 hP.1 (hr_10 hR)
      refine hp_iald hx hb hZ eV14 (hq_in (by omega) (by omega)) dX13_manyOf_25 ?_
      refine lv_topi (fun y18 ey19 => ?_)
      have b20 := hq_rng y18
      refine lv_iload_n hx hb dX13_manyOf_26 rfl (lv_at hl 3 rfl) ?_
      refine lv_icmp_ne (tgt := 47) hx hb dX13_manyOf_27 (by decide) (fun c21 => ?_) (fun c21 => ?_)
      · have c21 : ¬ (y18).toInt = (k).toInt := fun h9 => c21 (hq_eqi.mpr h9)
        refine lv_iconst (v := 0) hx hb dX13_manyOf_47 (by decide) ?_
        refine lv_iadd hx hb dX13_manyOf_48 ?_
        refine lv_topi (fun y22 ey23 => ?_)
        obtain ⟨k24, hk25, b26, b27⟩ := hq_add (no) (0)
        rw [← ey23] at hk25 b26 b27
        have hk25 : (y22).toInt = (no).toInt + (0 : Int) + k24 * 4294967296 := hk25
        refine lv_istore (lv' := [(5, .int (y22)), (6, .int (i)), (0, .ref (mo)), (1, .int (k)), (2, .int (v)), (3, .int (te)), (4, .int (pe))]) hx hb dX13_manyOf_49 hl (by decide) rfl (fun ls hl => ?_)
        obtain ⟨y28, ey29⟩ : ∃ y : Int32, y = i + (1) := ⟨_, rfl⟩
        obtain ⟨k30, hk31, b32, b33⟩ := hq_add (i) (1)
        rw [← ey29] at hk31 b32 b33
        have hk31 : (y28).toInt = (i).toInt + (1) + k30 * 4294967296 := hk31
        refine lv_iinc (v := y28) (lv' := [(6, .int (y28)), (5, .int (y22)), (0, .ref (mo)), (1, .int (k)), (2, .int (v)), (3, .int (te)), (4, .int (pe))]) hx hb dX13_manyOf_51 hl (k := 1) rfl (by rw [ey29]; rfl) (by decide) rfl (fun ls hl => ?_)
        refine lv_goto (tgt := 6) hx hb dX13_manyOf_54 (by decide) ?_
        exact ih6 _ (by omega) _ _ _ ls (y22) (y28) rfl hZ hP (by omega) (by omega) (lv_sub hl [0, 1, 2, 3, 4, 5, 6] rfl)
      · have c21 : (y18).toInt = (k).toInt := hq_eqi.mp c21
        refine lv_aload_n hx hb dX13_manyOf_30 rfl (lv_at hl 2 rfl) ?_
        refine lv_iload hx hb dX13_manyOf_31 (lv_at hl 0 rfl) ?_
        refine lv_iload_n hx hb dX13_manyOf_33 rfl (lv_at hl 4 rfl) ?_
        refine lv_iload_n hx hb dX13_manyOf_34 rfl (lv_at hl 5 rfl) ?_
        refine lv_iload hx hb dX13_manyOf_35 (lv_at hl 6 rfl) ?_
        refine hp_calli (hp_runV (As := [.int (i), .int (v), .int (te), .int (pe)]) (rest := [.int (no)]) hx hb hml hown hts (t_X13_fits l D cs B G  V9 n hP.1 q hR (mo) h_mo (i) (v) (te) (pe) fx5  (by omega) (by omega) (by omega) (by omega) (by omega) (by omega) (by omega) (by omega) (by omega) (by omega) (by omega) (by omega)) hZ fx5 cv_X13_327 rfl rfl ⟨Nat.le_of_ble_eq_true rfl, Nat.le_of_ble_eq_true rfl⟩ rfl hl.1 rfl (Nat.le_of_ble_eq_true rfl) dX13_manyOf_37 ⟨(Nat.le_of_ble_eq_true rfl), (Nat.le_of_ble_eq_true rfl)⟩) hZ (fun r37 V34 n35 _ _ hw36 hZ => ?_)
        obtain ⟨rfl, hq38, ho40, hr39⟩ := hw36
        have hP := hP.trans hq38 (fun _ _ => rfl)
        have b41 := hq_rng r37
        refine lv_if_eq (tgt := 47) hx hb dX13_manyOf_40 (by decide) (fun c42 => ?_) (fun c42 => ?_)
        · have c42 : (r37).toInt = (0 : Int) := hq_eqi.mp c42
          refine lv_iconst (v := 0) hx hb dX13_manyOf_47 (by decide) ?_
          refine lv_iadd hx hb dX13_manyOf_48 ?_
          refine lv_topi (fun y43 ey44 => ?_)
          obtain ⟨k45, hk46, b47, b48⟩ := hq_add (no) (0)
          rw [← ey44] at hk46 b47 b48
          have hk46 : (y43).toInt = (no).toInt + (0 : Int) + k45 * 4294967296 := hk46
          refine lv_istore (lv' := [(5, .int (y43)), (6, .int (i)), (0, .ref (mo)), (1, .int (k)), (2, .int (v)), (3, .int (te)), (4, .int (pe))]) hx hb dX13_manyOf_49 hl (by decide) rfl (fun ls hl => ?_)
          obtain ⟨y49, ey50⟩ : ∃ y : Int32, y = i + (1) := ⟨_, rfl⟩
          obtain ⟨k51, hk52, b53, b54⟩ := hq_add (i) (1)
          rw [← ey50] at hk52 b53 b54
          have hk52 : (y49).toInt = (i).toInt + (1) + k51 * 4294967296 := hk52
          refine lv_iinc (v := y49) (lv' := [(6, .int (y49)), (5, .int (y43)), (0, .ref (mo)), (1, .int (k)), (2, .int (v)), (3, .int (te)), (4, .int (pe))]) hx hb dX13_manyOf_51 hl (k := 1) rfl (by rw [ey50]; rfl) (by decide) rfl (fun ls hl => ?_)
          refine lv_goto (tgt := 6) hx hb dX13_manyOf_54 (by decide) ?_
          exact ih6 _ (by omega) _ _ _ ls (y43) (y49) rfl hZ hP (by omega) (by omega) (lv_sub hl [0, 1, 2, 3, 4, 5, 6] rfl)
        · have c42 : ¬ (r37).toInt = (0 : Int) := fun h9 => c42 (hq_eqi.mpr h9)
          refine lv_iconst (v := 1) hx hb dX13_manyOf_43 (by decide) ?_
          refine lv_goto (tgt := 48) hx hb dX13_manyOf_44 (by decide) ?_
          refine lv_iadd hx hb dX13_manyOf_48 ?_
          refine lv_topi (fun y55 ey56 => ?_)
          obtain ⟨k57, hk58, b59, b60⟩ := hq_add (no) (1)
          rw [← ey56] at hk58 b59 b60
          have hk58 : (y55).toInt = (no).toInt + (1 : Int) + k57 * 4294967296 := hk58
          refine lv_istore (lv' := [(5, .int (y55)), (6, .int (i)), (0, .ref (mo)), (1, .int (k)), (2, .int (v)), (3, .int (te)), (4, .int (pe))]) hx hb dX13_manyOf_49 hl (by decide) rfl (fun ls hl => ?_)
          obtain ⟨y61, ey62⟩ : ∃ y : Int32, y = i + (1) := ⟨_, rfl⟩
          obtain ⟨k63, hk64, b65, b66⟩ := hq_add (i) (1)
          rw [← ey62] at hk64 b65 b66
          have hk64 : (y61).toInt = (i).toInt + (1) + k63 * 4294967296 := hk64
          refine lv_iinc (v := y61) (lv' := [(6, .int (y61)), (5, .int (y55)), (0, .ref (mo)), (1, .int (k)), (2, .int (v)), (3, .int (te)), (4, .int (pe))]) hx hb dX13_manyOf_51 hl (k := 1) rfl (by rw [ey62]; rfl) (by decide) rfl (fun ls hl => ?_)
          refine lv_goto (tgt := 6) hx hb dX13_manyOf_54 (by decide) ?_
          exact ih6 _ (by omega) _ _ _ ls (y55) (y61) rfl hZ hP (by omega) (by omega) (lv_sub hl [0, 1, 2, 3, 4, 5, 6] rfl)

set_option maxHeartbeats 4000000 in
set_option maxRecDepth 100000 in
theorem t_X13_compoundOf (l : Launch) (D : va_G) (cs : Nat → ClassId) (B : Nat) (G : hq_G) (V : hp_V) (n : Nat) (hI : hq_I cs G V) (q : Nat) (hR : hq_RT G q) (mo : Nat) (h_mo : G mo = some (24, 0, 0, 0)) (v : Int32) (te : Int32) (pe : Int32) {m_tp m_sz m_fr m_bh m_hd m_ft m_fa m_le m_fo m_as m_fd m_bc m_bg m_bs m_be m_b0 m_b1 m_cm m_hc : Int32} (ho_mo : V mo = some (.inr (13, hm_o q (m_tp) (m_sz) (m_fr) (m_bh) (m_hd) (m_ft) (m_fa) (m_le) (m_fo) (m_as) (m_fd) (m_bc) (m_bg) (m_bs) (m_be) (m_b0) (m_b1) (m_cm) (m_hc)))) (hi_mo0 : 0 ≤ m_tp.toInt ∧ m_tp.toInt ≤ 4000) (hi_mo1 : 0 ≤ m_sz.toInt ∧ m_sz.toInt ≤ 4000) (hi_mo2 : 0 ≤ m_le.toInt ∧ m_le.toInt ≤ 276) (hi_mo3 : 0 ≤ m_fo.toInt ∧ m_fo.toInt ≤ 4) (hi_mo4 : 0 ≤ m_as.toInt ∧ m_as.toInt ≤ 4000) (hi_mo5 : 0 ≤ m_fd.toInt ∧ m_fd.toInt ≤ 900) (hi_mo6 : 0 ≤ m_cm.toInt ∧ m_cm.toInt ≤ 2) (hi_mo7 : 0 ≤ m_hc.toInt ∧ m_hc.toInt ≤ 1) (hv0 : 0 ≤ v.toInt) (hv1 : v.toInt < 30) : hp_M l yX13_compoundOf cX13_compoundOf 4 (some .int) ({ frames := 3, cells := 0, slots := 0, locals := 70 }) D cs B V n [.ref (mo), .int (v), .int (te), .int (pe)] (hp_QI D cs B (fun r V' n' => n = n' ∧ hq_P cs G (fun _ => false) V V' ∧ (V' mo = some (.inr (13, hm_o q (m_tp) (m_sz) (m_fr) (m_bh) (m_hd) (m_ft) (m_fa) (m_le) (m_fo) (m_as) (m_fd) (m_bc) (m_bg) (m_bs) (m_be) (m_b0) (m_b1) (m_cm) (m_hc)))) ∧ (-1 ≤ r.toInt ∧ r.toInt < 60))) 0 0 := by
  refine hp_walk (R0 := RX13) (by decide) rfl ?_ (Nat.le_of_ble_eq_true rfl)
  intro p e s m below meth c ls hx hb hr hts hown hlocks hin hml hZ hl
  have hP : hq_P cs G (fun _ => false) V V := hq_P.rf hI
  have hl : lv_has ls 4 [(0, .ref (mo)), (1, .int (v)), (2, .int (te)), (3, .int (pe))] := hl
  have hb_v := hq_rng v
  have hb_te := hq_rng te
  have hb_pe := hq_rng pe
  have hb_m_tp := hq_rng m_tp
  have hb_m_sz := hq_rng m_sz
  have hb_m_fr := hq_rng m_fr
  have hb_m_bh := hq_rng m_bh
  have hb_m_hd := hq_rng m_hd
  have hb_m_ft := hq_rng m_ft
  have hb_m_fa := hq_rng m_fa
  have hb_m_le := hq_rng m_le
  have hb_m_fo := hq_rng m_fo
  have hb_m_as := hq_rng m_as
  have hb_m_fd := hq_rng m_fd
  have hb_m_bc := hq_rng m_bc
  have hb_m_bg := hq_rng m_bg
  have hb_m_bs := hq_rng m_bs
  have hb_m_be := hq_rng m_be
  have hb_m_b0 := hq_rng m_b0
  have hb_m_b1 := hq_rng m_b1
  have hb_m_cm := hq_rng m_cm
  have hb_m_hc := hq_rng m_hc
  refine lv_aload_n hx hb dX13_compoundOf_0 rfl (lv_at hl 0 rfl) ?_
  refine lv_iconst (v := 5) hx hb dX13_compoundOf_1 (by decide) ?_
  refine lv_iload_n hx hb dX13_compoundOf_2 rfl (lv_at hl 1 rfl) ?_
  refine lv_iload_n hx hb dX13_compoundOf_3 rfl (lv_at hl 2 rfl) ?_
  refine lv_iload_n hx hb dX13_compoundOf_4 rfl (lv_at hl 3 rfl) ?_
  have hl8 : (5 : Int32).toInt = 5 := by decide
  refine hp_calli (hp_runV (As := [.int (5), .int (v), .int (te), .int (pe)]) (rest := []) hx hb hml hown hts (t_X13_firstOf l D cs B G  V n hP.1 q hR (mo) h_mo (5) (v) (te) (pe) ho_mo  (by omega) (by omega) (by omega) (by omega) (by omega) (by omega) (by omega) (by omega) (by omega) (by omega)) hZ ho_mo cv_X13_347 rfl rfl ⟨Nat.le_of_ble_eq_true rfl, Nat.le_of_ble_eq_true rfl⟩ rfl hl.1 rfl (Nat.le_of_ble_eq_true rfl) dX13_compoundOf_5 ⟨(Nat.le_of_ble_eq_true rfl), (Nat.le_of_ble_eq_true rfl)⟩) hZ (fun r4 V1 n2 _ _ hw3 hZ => ?_)
  obtain ⟨rfl, hq5, ho7, hr6⟩ := hw3
  have hP := hP.trans hq5 (fun _ _ => rfl)
  have b9 := hq_rng r4
  refine lv_iconst (v := -1) hx hb dX13_compoundOf_8 (by decide) ?_
  refine lv_icmp_ne (tgt := 24) hx hb dX13_compoundOf_9 (by decide) (fun c10 => ?_) (fun c10 => ?_)
  · have c10 : ¬ (r4).toInt = (-1 : Int) := fun h9 => c10 (hq_eqi.mpr h9)
    refine lv_iconst (v := -1) hx hb dX13_compoundOf_24 (by decide) ?_
    refine lv_goto (tgt := 36) hx hb dX13_compoundOf_25 (by decide) ?_
    exact hp_iret hx hb hr hlocks hZ ⟨rfl, hP, ho7, (by decide)⟩ dX13_compoundOf_36
  · have c10 : (r4).toInt = (-1 : Int) := hq_eqi.mp c10
    refine lv_aload_n hx hb dX13_compoundOf_12 rfl (lv_at hl 0 rfl) ?_
    refine lv_iconst (v := 4) hx hb dX13_compoundOf_13 (by decide) ?_
    refine lv_iload_n hx hb dX13_compoundOf_14 rfl (lv_at hl 1 rfl) ?_
    refine lv_iload_n hx hb dX13_compoundOf_15 rfl (lv_at hl 2 rfl) ?_
    refine lv_iload_n hx hb dX13_compoundOf_16 rfl (lv_at hl 3 rfl) ?_
    have hl18 : (4 : Int32).toInt = 4 := by decide
    refine hp_calli (hp_runV (As := [.int (4), .int (v), .int (te), .int (pe)]) (rest := []) hx hb hml hown hts (t_X13_firstOf l D cs B G  V1 n hP.1 q hR (mo) h_mo (4) (v) (te) (pe) ho7  (by omega) (by omega) (by omega) (by omega) (by omega) (by omega) (by omega) (by omega) (by omega) (by omega)) hZ ho7 cv_X13_347 rfl rfl ⟨Nat.le_of_ble_eq_true rfl, Nat.le_of_ble_eq_true rfl⟩ rfl hl.1 rfl (Nat.le_of_ble_eq_true rfl) dX13_compoundOf_17 ⟨(Nat.le_of_ble_eq_true rfl), (Nat.le_of_ble_eq_true rfl)⟩) hZ (fun r14 V11 n12 _ _ hw13 hZ => ?_)
    obtain ⟨rfl, hq15, ho17, hr16⟩ := hw13
    have hP := hP.trans hq15 (fun _ _ => rfl)
    have b19 := hq_rng r14
    refine lv_iconst (v := -1) hx hb dX13_compoundOf_20 (by decide) ?_
    refine lv_icmp_eq (tgt := 28) hx hb dX13_compoundOf_21 (by decide) (fun c20 => ?_) (fun c20 => ?_)
    · have c20 : (r14).toInt = (-1 : Int) := hq_eqi.mp c20
      refine lv_aload_n hx hb dX13_compoundOf_28 rfl (lv_at hl 0 rfl) ?_
      refine lv_iconst (v := 3) hx hb dX13_compoundOf_29 (by decide) ?_
      refine lv_iload_n hx hb dX13_compoundOf_30 rfl (lv_at hl 1 rfl) ?_
      refine lv_iload_n hx hb dX13_compoundOf_31 rfl (lv_at hl 2 rfl) ?_
      refine lv_iload_n hx hb dX13_compoundOf_32 rfl (lv_at hl 3 rfl) ?_
      have hl28 : (3 : Int32).toInt = 3 := by decide
      refine hp_calli (hp_runV (As := [.int (3), .int (v), .int (te), .int (pe)]) (rest := []) hx hb hml hown hts (t_X13_firstOf l D cs B G  V11 n hP.1 q hR (mo) h_mo (3) (v) (te) (pe) ho17  (by omega) (by omega) (by omega) (by omega) (by omega) (by omega) (by omega) (by omega) (by omega) (by omega)) hZ ho17 cv_X13_347 rfl rfl ⟨Nat.le_of_ble_eq_true rfl, Nat.le_of_ble_eq_true rfl⟩ rfl hl.1 rfl (Nat.le_of_ble_eq_true rfl) dX13_compoundOf_33 ⟨(Nat.le_of_ble_eq_true rfl), (Nat.le_of_ble_eq_true rfl)⟩) hZ (fun r24 V21 n22 _ _ hw23 hZ => ?_)
      obtain ⟨rfl, hq25, ho27, hr26⟩ := hw23
      have hP := hP.trans hq25 (fun _ _ => rfl)
      have b29 := hq_rng r24
      exact hp_iret hx hb hr hlocks hZ ⟨rfl, hP, ho27, (by omega)⟩ dX13_compoundOf_36
    · have c20 : ¬ (r14).toInt = (-1 : Int) := fun h9 => c20 (hq_eqi.mpr h9)
      refine lv_iconst (v := -1) hx hb dX13_compoundOf_24 (by decide) ?_
      refine lv_goto (tgt := 36) hx hb dX13_compoundOf_25 (by decide) ?_
      exact hp_iret hx hb hr hlocks hZ ⟨rfl, hP, ho17, (by decide)⟩ dX13_compoundOf_36

set_option maxHeartbeats 4000000 in
set_option maxRecDepth 100000 in
theorem t_X13_standsAt (l : Launch) (D : va_G) (cs : Nat → ClassId) (B : Nat) (G : hq_G) (V : hp_V) (n : Nat) (hI : hq_I cs G V) (q : Nat) (hR : hq_RT G q) (mo : Nat) (h_mo : G mo = some (24, 0, 0, 0)) (k : Int32) (a9 : Int32) {m_tp m_sz m_fr m_bh m_hd m_ft m_fa m_le m_fo m_as m_fd m_bc m_bg m_bs m_be m_b0 m_b1 m_cm m_hc : Int32} (ho_mo : V mo = some (.inr (13, hm_o q (m_tp) (m_sz) (m_fr) (m_bh) (m_hd) (m_ft) (m_fa) (m_le) (m_fo) (m_as) (m_fd) (m_bc) (m_bg) (m_bs) (m_be) (m_b0) (m_b1) (m_cm) (m_hc)))) (hi_mo0 : 0 ≤ m_tp.toInt ∧ m_tp.toInt ≤ 4000) (hi_mo1 : 0 ≤ m_sz.toInt ∧ m_sz.toInt ≤ 4000) (hi_mo2 : 0 ≤ m_le.toInt ∧ m_le.toInt ≤ 276) (hi_mo3 : 0 ≤ m_fo.toInt ∧ m_fo.toInt ≤ 4) (hi_mo4 : 0 ≤ m_as.toInt ∧ m_as.toInt ≤ 4000) (hi_mo5 : 0 ≤ m_fd.toInt ∧ m_fd.toInt ≤ 900) (hi_mo6 : 0 ≤ m_cm.toInt ∧ m_cm.toInt ≤ 2) (hi_mo7 : 0 ≤ m_hc.toInt ∧ m_hc.toInt ≤ 1) {fs : Nat → Int32} (ho_fs : V (q + 14) = some (.inl (cs 1, 120, .inl (fs)))) (hl0 : 0 ≤ k.toInt) (hl1 : k.toInt < 60) (ha : a9.toInt ≤ 1000) : hp_M l yX13_standsAt cX13_standsAt 4 (some .boolean) ({ frames := 1, cells := 0, slots := 0, locals := 21 }) D cs B V n [.ref (mo), .int (k), .int (a9)] (hp_QI D cs B (fun r V' n' => n = n' ∧ hq_P cs G (fun _ => false) V V' ∧ (V' mo = some (.inr (13, hm_o q (m_tp) (m_sz) (m_fr) (m_bh) (m_hd) (m_ft) (m_fa) (m_le) (m_fo) (m_as) (m_fd) (m_bc) (m_bg) (m_bs) (m_be) (m_b0) (m_b1) (m_cm) (m_hc)))) ∧ (V' (q + 14) = some (.inl (cs 1, 120, .inl (fs)))) ∧ (r.toInt = 0 ∨ (r.toInt = 1 ∧ 0 ≤ a9.toInt ∧ a9.toInt + (fs k.toNatClampNeg).toInt ≤ m_le.toInt)))) 0 0 := by
  refine hp_walk (R0 := RX13) (by decide) rfl ?_ (Nat.le_of_ble_eq_true rfl)
  intro p e s m below meth c ls hx hb hr hts hown hlocks hin hml hZ hl
  have hP : hq_P cs G (fun _ => false) V V := hq_P.rf hI
  have hl : lv_has ls 4 [(0, .ref (mo)), (1, .int (k)), (2, .int (a9))] := hl
  have hb_k := hq_rng k
  have hb_a9 := hq_rng a9
  have hb_m_tp := hq_rng m_tp
  have hb_m_sz := hq_rng m_sz
  have hb_m_fr := hq_rng m_fr
  have hb_m_bh := hq_rng m_bh
  have hb_m_hd := hq_rng m_hd
  have hb_m_ft := hq_rng m_ft
  have hb_m_fa := hq_rng m_fa
  have hb_m_le := hq_rng m_le
  have hb_m_fo := hq_rng m_fo
  have hb_m_as := hq_rng m_as
  have hb_m_fd := hq_rng m_fd
  have hb_m_bc := hq_rng m_bc
  have hb_m_bg := hq_rng m_bg
  have hb_m_bs := hq_rng m_bs
  have hb_m_be := hq_rng m_be
  have hb_m_b0 := hq_rng m_b0
  have hb_m_b1 := hq_rng m_b1
  have hb_m_cm := hq_rng m_cm
  have hb_m_hc := hq_rng m_hc
  have hf_fs := hq_rg hI (hr_14 hR) ho_fs
  refine lv_iload_n hx hb dX13_standsAt_0 rfl (lv_at hl 2 rfl) ?_
  refine lv_if_lt (tgt := 19) hx hb dX13_standsAt_1 (by decide) (fun c1 => ?_) (fun c1 => ?_)
  · have c1 : (a9).toInt < (0 : Int) := hq_lti.mp c1
    refine lv_iconst (v := 0) hx hb dX13_standsAt_19 (by decide) ?_
    exact hp_zret hx hb hr rfl hlocks hZ ⟨rfl, hP, ho_mo, ho_fs, (Or.inl (by decide))⟩ dX13_standsAt_20
  · have c1 : ¬ (a9).toInt < (0 : Int) := fun h9 => c1 (hq_lti.mpr h9)
    refine lv_iload_n hx hb dX13_standsAt_4 rfl (lv_at hl 2 rfl) ?_
    refine lv_aload_n hx hb dX13_standsAt_5 rfl (lv_at hl 0 rfl) ?_
    refine hp_get (v := .ref (q + 14)) hx hb hts hown hZ ho_mo fl_X13_41 rfl dX13_standsAt_6 ?_
    refine lv_iload_n hx hb dX13_standsAt_9 rfl (lv_at hl 1 rfl) ?_
    refine hp_iald hx hb hZ ho_fs (hq_in (by omega) (by omega)) dX13_standsAt_10 ?_
    refine lv_topi (fun y2 ey3 => ?_)
    have b5 : (y2).toInt = ((fs) (k : Int32).toNatClampNeg).toInt := by rw [ey3]
    have b4 : hq_ir (hq_lo 1) (hq_hi 1) y2 := by rw [ey3]; exact hf_fs _ (hq_ix (by omega) (by omega))
    have b4 : 0 ≤ (y2).toInt ∧ (y2).toInt ≤ 8 := b4
    refine lv_iadd hx hb dX13_standsAt_11 ?_
    refine lv_topi (fun y6 ey7 => ?_)
    obtain ⟨k8, hk9, b10, b11⟩ := hq_add (a9) (y2)
    rw [← ey7] at hk9 b10 b11
    have hk9 : (y6).toInt = (a9).toInt + (y2).toInt + k8 * 4294967296 := hk9
    obtain rfl : k8 = 0 := by omega
    refine lv_aload_n hx hb dX13_standsAt_12 rfl (lv_at hl 0 rfl) ?_
    refine hp_get (v := .int (m_le)) hx hb hts hown hZ ho_mo fl_X13_331 rfl dX13_standsAt_13 ?_
    refine lv_icmp_le (tgt := 21) hx hb dX13_standsAt_16 (by decide) (fun c12 => ?_) (fun c12 => ?_)
    · have c12 : (y6).toInt ≤ (m_le).toInt := hq_lei.mp c12
      refine lv_iconst (v := 0) hx hb dX13_standsAt_21 (by decide) ?_
      refine lv_istore_n (lv' := [(3, .int (0)), (0, .ref (mo)), (1, .int (k)), (2, .int (a9))]) hx hb dX13_standsAt_22 rfl hl (by decide) rfl (fun ls hl => ?_)
      have hl13 : (0 : Int32).toInt = 0 := by decide
      suffices lp23 : ∀ (k9 : Nat) (V9 : hp_V) (H9 : Heap) (locs9 : List Loc) (ls : Array Slot) (i : Int32), (100 - i.toInt).toNat = k9 → hp_Z D cs B s V9 H9 n locs9 → hq_P cs G (fun _ => false) V V9 → 0 ≤ i.toInt → i.toInt ≤ 8 → lv_has ls 4 [(3, .int (i)), (0, .ref (mo)), (1, .int (k)), (2, .int (a9))] → W p l e ({ frames := 1, cells := 0, slots := 0, locals := 21 }) s m ([.ref (mo), .int (k), .int (a9)] : List Value).toArray below meth c H9 locs9 0 0 (MQ below (hp_QI D cs B (fun r V' n' => n = n' ∧ hq_P cs G (fun _ => false) V V' ∧ (V' mo = some (.inr (13, hm_o q (m_tp) (m_sz) (m_fr) (m_bh) (m_hd) (m_ft) (m_fa) (m_le) (m_fo) (m_as) (m_fd) (m_bc) (m_bg) (m_bs) (m_be) (m_b0) (m_b1) (m_cm) (m_hc)))) ∧ (V' (q + 14) = some (.inl (cs 1, 120, .inl (fs)))) ∧ (r.toInt = 0 ∨ (r.toInt = 1 ∧ 0 ≤ a9.toInt ∧ a9.toInt + (fs k.toNatClampNeg).toInt ≤ m_le.toInt)))) ([.ref (mo), .int (k), .int (a9)] : List Value).toArray s 0 0 (hp_F B)) (F0 m 23 ls []) from lp23 _ _ _ _ ls (0) rfl hZ hP (by omega) (by omega) (lv_sub hl [0, 1, 2, 3] rfl)
      intro k9
      induction k9 using Nat.strongRecOn with
      | _ k9 ih23 =>
        intro V9 H9 locs9 ls i  hk23 hZ hP  hv14 hv15 hl
        have hb_i := hq_rng i
        have hP_23 := hP
        refine lv_iload_n hx hb dX13_standsAt_23 rfl (lv_at hl 0 rfl) ?_
        refine lv_aload_n hx hb dX13_standsAt_24 rfl (lv_at hl 1 rfl) ?_
        have fx16 : V9 (mo) = some (.inr (13, hm_o q (m_tp) (m_sz) (m_fr) (m_bh) (m_hd) (m_ft) (m_fa) (m_le) (m_fo) (m_as) (m_fd) (m_bc) (m_bg) (m_bs) (m_be) (m_b0) (m_b1) (m_cm) (m_hc))) := (hP_23.2 (mo) _ h_mo rfl).trans (ho_mo)
        refine hp_get (v := .ref (q + 14)) hx hb hts hown hZ fx16 fl_X13_41 rfl dX13_standsAt_25 ?_
        refine lv_iload_n hx hb dX13_standsAt_28 rfl (lv_at hl 2 rfl) ?_
        have fx17 : V9 (q + 14) = some (.inl (cs 1, 120, .inl (fs))) := (hP_23.2 (q + 14) _ (hr_14 hR) rfl).trans (ho_fs)
        refine hp_iald hx hb hZ fx17 (hq_in (by omega) (by omega)) dX13_standsAt_29 ?_
        refine lv_topi (fun y18 ey19 => ?_)
        have b21 : (y18).toInt = ((fs) (k : Int32).toNatClampNeg).toInt := by rw [ey19]
        have b20 : hq_ir (hq_lo 1) (hq_hi 1) y18 := by rw [ey19]; exact hf_fs _ (hq_ix (by omega) (by omega))
        have b20 : 0 ≤ (y18).toInt ∧ (y18).toInt ≤ 8 := b20
        refine lv_icmp_ge (tgt := 63) hx hb dX13_standsAt_30 (by decide) (fun c22 => ?_) (fun c22 => ?_)
        · have c22 : (y18).toInt ≤ (i).toInt := hq_lei.mp c22
          refine lv_iconst (v := 1) hx hb dX13_standsAt_63 (by decide) ?_
          exact hp_zret hx hb hr rfl hlocks hZ ⟨rfl, hP, fx16, fx17, (Or.inr ⟨by decide, by omega, by omega⟩)⟩ dX13_standsAt_64
        · have c22 : ¬ (y18).toInt ≤ (i).toInt := fun h9 => c22 (hq_lei.mpr h9)
          refine lv_aload_n hx hb dX13_standsAt_33 rfl (lv_at hl 1 rfl) ?_
          refine hp_get (v := .ref (q + 21)) hx hb hts hown hZ fx16 fl_X13_213 rfl dX13_standsAt_34 ?_
          refine lv_iload_n hx hb dX13_standsAt_37 rfl (lv_at hl 3 rfl) ?_
          refine lv_iload_n hx hb dX13_standsAt_38 rfl (lv_at hl 0 rfl) ?_
          refine lv_iadd hx hb dX13_standsAt_39 ?_
          refine lv_topi (fun y23 ey24 => ?_)
          obtain ⟨k25, hk26, b27, b28⟩ := hq_add (a9) (i)
          rw [← ey24] at hk26 b27 b28
          have hk26 : (y23).toInt = (a9).toInt + (i).toInt + k25 * 4294967296 := hk26
          obtain rfl : k25 = 0 := by omega
          obtain ⟨hN31, g30, eV29⟩ := hq_o20 hP.1 (hr_21 hR)
          refine hp_bald hx hb hZ eV29 (hq_in (by omega) (by omega)) dX13_standsAt_40 ?_
          refine lv_topi (fun y33 ey34 => ?_)
          have b36 : (y33).toInt = ((g30) (y23 : Int32).toNatClampNeg).toInt := by rw [ey34]
          have b35 := hq_rng y33
          refine lv_aload_n hx hb dX13_standsAt_41 rfl (lv_at hl 1 rfl) ?_
          refine hp_get (v := .ref (q + 5)) hx hb hts hown hZ fx16 fl_X13_23 rfl dX13_standsAt_42 ?_
          refine lv_bipush (v := 8) hx hb dX13_standsAt_45 (by decide) ?_
          refine lv_iload_n hx hb dX13_standsAt_47 rfl (lv_at hl 2 rfl) ?_
          refine lv_imul hx hb dX13_standsAt_48 ?_
          refine lv_topi (fun y37 ey38 => ?_)
          obtain ⟨k39, hk40, b41, b42⟩ := hq_mul (8) (k)
          rw [← ey38] at hk40 b41 b42
          have hk40 : (y37).toInt = (8 : Int) * (k).toInt + k39 * 4294967296 := hk40
          obtain rfl : k39 = 0 := by omega
          refine lv_iload_n hx hb dX13_standsAt_49 rfl (lv_at hl 0 rfl) ?_
          refine lv_iadd hx hb dX13_standsAt_50 ?_
          refine lv_topi (fun y43 ey44 => ?_)
          obtain ⟨k45, hk46, b47, b48⟩ := hq_add (y37) (i)
          rw [← ey44] at hk46 b47 b48
          have hk46 : (y43).toInt = (y37).toInt + (i).toInt + k45 * 4294967296 := hk46
          obtain rfl : k45 = 0 := by omega
          obtain ⟨hN51, g50, eV49⟩ := hq_o20 hP.1 (hr_5 hR)
          refine hp_bald hx hb hZ eV49 (hq_in (by omega) (by omega)) dX13_standsAt_51 ?_
          refine lv_topi (fun y53 ey54 => ?_)
          have b56 : (y53).toInt = ((g50) (y43 : Int32).toNatClampNeg).toInt := by rw [ey54]
          have b55 := hq_rng y53
          refine lv_icmp_eq (tgt := 57) hx hb dX13_standsAt_52 (by decide) (fun c57 => ?_) (fun c57 => ?_)
          · have c57 : (y33).toInt = (y53).toInt := hq_eqi.mp c57
            obtain ⟨y58, ey59⟩ : ∃ y : Int32, y = i + (1) := ⟨_, rfl⟩
            obtain ⟨k60, hk61, b62, b63⟩ := hq_add (i) (1)
            rw [← ey59] at hk61 b62 b63
            have hk61 : (y58).toInt = (i).toInt + (1) + k60 * 4294967296 := hk61
            refine lv_iinc (v := y58) (lv' := [(3, .int (y58)), (0, .ref (mo)), (1, .int (k)), (2, .int (a9))]) hx hb dX13_standsAt_57 hl (k := 0) rfl (by rw [ey59]; rfl) (by decide) rfl (fun ls hl => ?_)
            refine lv_goto (tgt := 23) hx hb dX13_standsAt_60 (by decide) ?_
            exact ih23 _ (by omega) _ _ _ ls (y58) rfl hZ hP (by omega) (by omega) (lv_sub hl [0, 1, 2, 3] rfl)
          · have c57 : ¬ (y33).toInt = (y53).toInt := fun h9 => c57 (hq_eqi.mpr h9)
            refine lv_iconst (v := 0) hx hb dX13_standsAt_55 (by decide) ?_
            exact hp_zret hx hb hr rfl hlocks hZ ⟨rfl, hP, fx16, fx17, (Or.inl (by decide))⟩ dX13_standsAt_56
    · have c12 : ¬ (y6).toInt ≤ (m_le).toInt := fun h9 => c12 (hq_lei.mpr h9)
      refine lv_iconst (v := 0) hx hb dX13_standsAt_19 (by decide) ?_
      exact hp_zret hx hb hr rfl hlocks hZ ⟨rfl, hP, ho_mo, ho_fs, (Or.inl (by decide))⟩ dX13_standsAt_20

set_option maxHeartbeats 4000000 in
set_option maxRecDepth 100000 in
theorem t_X13_changeAt (l : Launch) (D : va_G) (cs : Nat → ClassId) (B : Nat) (G : hq_G) (V : hp_V) (n : Nat) (hI : hq_I cs G V) (q : Nat) (hR : hq_RT G q) (mo : Nat) (h_mo : G mo = some (24, 0, 0, 0)) (k : Int32) (a9 : Int32) {m_tp m_sz m_fr m_bh m_hd m_ft m_fa m_le m_fo m_as m_fd m_bc m_bg m_bs m_be m_b0 m_b1 m_cm m_hc : Int32} (ho_mo : V mo = some (.inr (13, hm_o q (m_tp) (m_sz) (m_fr) (m_bh) (m_hd) (m_ft) (m_fa) (m_le) (m_fo) (m_as) (m_fd) (m_bc) (m_bg) (m_bs) (m_be) (m_b0) (m_b1) (m_cm) (m_hc)))) (hi_mo0 : 0 ≤ m_tp.toInt ∧ m_tp.toInt ≤ 4000) (hi_mo1 : 0 ≤ m_sz.toInt ∧ m_sz.toInt ≤ 4000) (hi_mo2 : 0 ≤ m_le.toInt ∧ m_le.toInt ≤ 276) (hi_mo3 : 0 ≤ m_fo.toInt ∧ m_fo.toInt ≤ 4) (hi_mo4 : 0 ≤ m_as.toInt ∧ m_as.toInt ≤ 4000) (hi_mo5 : 0 ≤ m_fd.toInt ∧ m_fd.toInt ≤ 900) (hi_mo6 : 0 ≤ m_cm.toInt ∧ m_cm.toInt ≤ 2) (hi_mo7 : 0 ≤ m_hc.toInt ∧ m_hc.toInt ≤ 1) {fs : Nat → Int32} (ho_fs : V (q + 14) = some (.inl (cs 1, 120, .inl (fs)))) {ss : Nat → Int32} (ho_ss : V (q + 15) = some (.inl (cs 1, 120, .inl (ss)))) (hl0 : 0 ≤ k.toInt) (hl1 : k.toInt < 60) (ha : 0 ≤ a9.toInt) (hb : a9.toInt + (fs k.toNatClampNeg).toInt ≤ m_le.toInt) (hc : m_le.toInt - (fs k.toNatClampNeg).toInt + (ss k.toNatClampNeg).toInt ≤ 276) : hp_M l yX13_changeAt cX13_changeAt 5 none ({ frames := 1, cells := 0, slots := 0, locals := 21 }) D cs B V n [.ref (mo), .int (k), .int (a9)] (hp_QV D cs B (fun V' n' => n = n' ∧ hq_P cs G (fun g => g.1 == 1 || g.1 == 43) V V' ∧ (∃ (m_le1 : Int32), V' mo = some (.inr (13, hm_o q (m_tp) (m_sz) (m_fr) (m_bh) (m_hd) (m_ft) (m_fa) (m_le1) (m_fo) (m_as) (m_fd) (m_bc) (m_bg) (m_bs) (m_be) (m_b0) (m_b1) (m_cm) (m_hc))) ∧ (0 ≤ m_le1.toInt ∧ m_le1.toInt ≤ 276) ∧ (m_le1.toInt = m_le.toInt - (fs k.toNatClampNeg).toInt + (ss k.toNatClampNeg).toInt)) ∧ (V' (q + 14) = some (.inl (cs 1, 120, .inl (fs)))) ∧ (V' (q + 15) = some (.inl (cs 1, 120, .inl (ss)))))) 0 0 := by
  refine hp_walk (R0 := RX13) (by decide) rfl ?_ (Nat.le_of_ble_eq_true rfl)
  intro p e s m below meth c ls hx hb hr hts hown hlocks hin hml hZ hl
  have hP : hq_P cs G (fun g => g.1 == 1 || g.1 == 43) V V := hq_P.rf hI
  have hl : lv_has ls 5 [(0, .ref (mo)), (1, .int (k)), (2, .int (a9))] := hl
  have hb_k := hq_rng k
  have hb_a9 := hq_rng a9
  have hb_m_tp := hq_rng m_tp
  have hb_m_sz := hq_rng m_sz
  have hb_m_fr := hq_rng m_fr
  have hb_m_bh := hq_rng m_bh
  have hb_m_hd := hq_rng m_hd
  have hb_m_ft := hq_rng m_ft
  have hb_m_fa := hq_rng m_fa
  have hb_m_le := hq_rng m_le
  have hb_m_fo := hq_rng m_fo
  have hb_m_as := hq_rng m_as
  have hb_m_fd := hq_rng m_fd
  have hb_m_bc := hq_rng m_bc
  have hb_m_bg := hq_rng m_bg
  have hb_m_bs := hq_rng m_bs
  have hb_m_be := hq_rng m_be
  have hb_m_b0 := hq_rng m_b0
  have hb_m_b1 := hq_rng m_b1
  have hb_m_cm := hq_rng m_cm
  have hb_m_hc := hq_rng m_hc
  have hf_fs := hq_rg hI (hr_14 hR) ho_fs
  have hf_ss := hq_rg hI (hr_15 hR) ho_ss
  have hfsr : 0 ≤ (fs k.toNatClampNeg).toInt ∧ (fs k.toNatClampNeg).toInt ≤ 8 := hf_fs _ (hq_ix (by omega) (by omega))
  have hssr : 0 ≤ (ss k.toNatClampNeg).toInt ∧ (ss k.toNatClampNeg).toInt ≤ 8 := hf_ss _ (hq_ix (by omega) (by omega))
  refine lv_iconst (v := 0) hx hb dX13_changeAt_0 (by decide) ?_
  refine lv_istore_n (lv' := [(3, .int (0)), (0, .ref (mo)), (1, .int (k)), (2, .int (a9))]) hx hb dX13_changeAt_1 rfl hl (by decide) rfl (fun ls hl => ?_)
  refine lv_iconst (v := 0) hx hb dX13_changeAt_2 (by decide) ?_
  refine lv_istore (lv' := [(4, .int (0)), (3, .int (0)), (0, .ref (mo)), (1, .int (k)), (2, .int (a9))]) hx hb dX13_changeAt_3 hl (by decide) rfl (fun ls hl => ?_)
  have hl1 : (0 : Int32).toInt = 0 := by decide
  have hl2 : (0 : Int32).toInt = 0 := by decide
  suffices lp5 : ∀ (k9 : Nat) (V9 : hp_V) (H9 : Heap) (locs9 : List Loc) (ls : Array Slot) (no : Int32) (i : Int32), (1000 - i.toInt).toNat = k9 → hp_Z D cs B s V9 H9 n locs9 → hq_P cs G (fun g => g.1 == 1 || g.1 == 43) V V9 → V9 (mo) = some (.inr (13, hm_o q (m_tp) (m_sz) (m_fr) (m_bh) (m_hd) (m_ft) (m_fa) (m_le) (m_fo) (m_as) (m_fd) (m_bc) (m_bg) (m_bs) (m_be) (m_b0) (m_b1) (m_cm) (m_hc))) → 0 ≤ i.toInt → i.toInt ≤ a9.toInt → no.toInt = i.toInt → lv_has ls 5 [(4, .int (i)), (3, .int (no)), (0, .ref (mo)), (1, .int (k)), (2, .int (a9))] → W p l e ({ frames := 1, cells := 0, slots := 0, locals := 21 }) s m ([.ref (mo), .int (k), .int (a9)] : List Value).toArray below meth c H9 locs9 0 0 (MQ below (hp_QV D cs B (fun V' n' => n = n' ∧ hq_P cs G (fun g => g.1 == 1 || g.1 == 43) V V' ∧ (∃ (m_le1 : Int32), V' mo = some (.inr (13, hm_o q (m_tp) (m_sz) (m_fr) (m_bh) (m_hd) (m_ft) (m_fa) (m_le1) (m_fo) (m_as) (m_fd) (m_bc) (m_bg) (m_bs) (m_be) (m_b0) (m_b1) (m_cm) (m_hc))) ∧ (0 ≤ m_le1.toInt ∧ m_le1.toInt ≤ 276) ∧ (m_le1.toInt = m_le.toInt - (fs k.toNatClampNeg).toInt + (ss k.toNatClampNeg).toInt)) ∧ (V' (q + 14) = some (.inl (cs 1, 120, .inl (fs)))) ∧ (V' (q + 15) = some (.inl (cs 1, 120, .inl (ss)))))) ([.ref (mo), .int (k), .int (a9)] : List Value).toArray s 0 0 (hp_F B)) (F0 m 5 ls []) from lp5 _ _ _ _ ls (0) (0) rfl hZ hP ho_mo (by omega) (by omega) (by omega) (lv_sub hl [0, 1, 2, 3, 4] rfl)
  intro k9
  induction k9 using Nat.strongRecOn with
  | _ k9 ih5 =>
    intro V9 H9 locs9 ls no i  hk5 hZ hP ho3 hv4 hv5 hv6 hl
    have hb_no := hq_rng no
    have hb_i := hq_rng i
    have hP_5 := hP
    refine lv_iload hx hb dX13_changeAt_5 (lv_at hl 0 rfl) ?_
    refine lv_iload_n hx hb dX13_changeAt_7 rfl (lv_at hl 4 rfl) ?_
    refine lv_icmp_ge (tgt := 33) hx hb dX13_changeAt_8 (by decide) (fun c7 => ?_) (fun c7 => ?_)
    · have c7 : (a9).toInt ≤ (i).toInt := hq_lei.mp c7
      refine lv_iconst (v := 0) hx hb dX13_changeAt_33 (by decide) ?_
      refine lv_istore (lv' := [(4, .int (0)), (3, .int (no)), (0, .ref (mo)), (1, .int (k)), (2, .int (a9))]) hx hb dX13_changeAt_34 hl (by decide) rfl (fun ls hl => ?_)
      have hl8 : (0 : Int32).toInt = 0 := by decide
      suffices lp36 : ∀ (k9 : Nat) (V9 : hp_V) (H9 : Heap) (locs9 : List Loc) (ls : Array Slot) (no : Int32) (i : Int32), (1000 - i.toInt).toNat = k9 → hp_Z D cs B s V9 H9 n locs9 → hq_P cs G (fun g => g.1 == 1 || g.1 == 43) V V9 → V9 (mo) = some (.inr (13, hm_o q (m_tp) (m_sz) (m_fr) (m_bh) (m_hd) (m_ft) (m_fa) (m_le) (m_fo) (m_as) (m_fd) (m_bc) (m_bg) (m_bs) (m_be) (m_b0) (m_b1) (m_cm) (m_hc))) → 0 ≤ i.toInt → i.toInt ≤ (ss k.toNatClampNeg).toInt → no.toInt = a9.toInt + i.toInt → lv_has ls 5 [(4, .int (i)), (3, .int (no)), (0, .ref (mo)), (1, .int (k)), (2, .int (a9))] → W p l e ({ frames := 1, cells := 0, slots := 0, locals := 21 }) s m ([.ref (mo), .int (k), .int (a9)] : List Value).toArray below meth c H9 locs9 0 0 (MQ below (hp_QV D cs B (fun V' n' => n = n' ∧ hq_P cs G (fun g => g.1 == 1 || g.1 == 43) V V' ∧ (∃ (m_le1 : Int32), V' mo = some (.inr (13, hm_o q (m_tp) (m_sz) (m_fr) (m_bh) (m_hd) (m_ft) (m_fa) (m_le1) (m_fo) (m_as) (m_fd) (m_bc) (m_bg) (m_bs) (m_be) (m_b0) (m_b1) (m_cm) (m_hc))) ∧ (0 ≤ m_le1.toInt ∧ m_le1.toInt ≤ 276) ∧ (m_le1.toInt = m_le.toInt - (fs k.toNatClampNeg).toInt + (ss k.toNatClampNeg).toInt)) ∧ (V' (q + 14) = some (.inl (cs 1, 120, .inl (fs)))) ∧ (V' (q + 15) = some (.inl (cs 1, 120, .inl (ss)))))) ([.ref (mo), .int (k), .int (a9)] : List Value).toArray s 0 0 (hp_F B)) (F0 m 36 ls []) from lp36 _ _ _ _ ls (no) (0) rfl hZ hP ho3 (by omega) (by omega) (by omega) (lv_sub hl [0, 1, 2, 3, 4] rfl)
      intro k9
      induction k9 using Nat.strongRecOn with
      | _ k9 ih36 =>
        intro V9 H9 locs9 ls no i  hk36 hZ hP ho9 hv10 hv11 hv12 hl
        have hb_no := hq_rng no
        have hb_i := hq_rng i
        have hP_36 := hP
        refine lv_iload hx hb dX13_changeAt_36 (lv_at hl 0 rfl) ?_
        refine lv_aload_n hx hb dX13_changeAt_38 rfl (lv_at hl 2 rfl) ?_
        refine hp_get (v := .ref (q + 15)) hx hb hts hown hZ ho9 fl_X13_44 rfl dX13_changeAt_39 ?_
        refine lv_iload_n hx hb dX13_changeAt_42 rfl (lv_at hl 3 rfl) ?_
        have fx13 : V9 (q + 15) = some (.inl (cs 1, 120, .inl (ss))) := (hP_36.2 (q + 15) _ (hr_15 hR) rfl).trans (ho_ss)
        refine hp_iald hx hb hZ fx13 (hq_in (by omega) (by omega)) dX13_changeAt_43 ?_
        refine lv_topi (fun y14 ey15 => ?_)
        have b17 : (y14).toInt = ((ss) (k : Int32).toNatClampNeg).toInt := by rw [ey15]
        have b16 : hq_ir (hq_lo 1) (hq_hi 1) y14 := by rw [ey15]; exact hf_ss _ (hq_ix (by omega) (by omega))
        have b16 : 0 ≤ (y14).toInt ∧ (y14).toInt ≤ 8 := b16
        refine lv_icmp_ge (tgt := 74) hx hb dX13_changeAt_44 (by decide) (fun c18 => ?_) (fun c18 => ?_)
        · have c18 : (y14).toInt ≤ (i).toInt := hq_lei.mp c18
          refine lv_iload_n hx hb dX13_changeAt_74 rfl (lv_at hl 4 rfl) ?_
          refine lv_aload_n hx hb dX13_changeAt_75 rfl (lv_at hl 2 rfl) ?_
          refine hp_get (v := .ref (q + 14)) hx hb hts hown hZ ho9 fl_X13_41 rfl dX13_changeAt_76 ?_
          refine lv_iload_n hx hb dX13_changeAt_79 rfl (lv_at hl 3 rfl) ?_
          have fx19 : V9 (q + 14) = some (.inl (cs 1, 120, .inl (fs))) := (hP_36.2 (q + 14) _ (hr_14 hR) rfl).trans (ho_fs)
          refine hp_iald hx hb hZ fx19 (hq_in (by omega) (by omega)) dX13_changeAt_80 ?_
          refine lv_topi (fun y20 ey21 => ?_)
          have b23 : (y20).toInt = ((fs) (k : Int32).toNatClampNeg).toInt := by rw [ey21]
          have b22 : hq_ir (hq_lo 1) (hq_hi 1) y20 := by rw [ey21]; exact hf_fs _ (hq_ix (by omega) (by omega))
          have b22 : 0 ≤ (y20).toInt ∧ (y20).toInt ≤ 8 := b22
          refine lv_iadd hx hb dX13_changeAt_81 ?_
          refine lv_topi (fun y24 ey25 => ?_)
          obtain ⟨k26, hk27, b28, b29⟩ := hq_add (a9) (y20)
          rw [← ey25] at hk27 b28 b29
          have hk27 : (y24).toInt = (a9).toInt + (y20).toInt + k26 * 4294967296 := hk27
          obtain rfl : k26 = 0 := by omega
          refine lv_istore (lv' := [(4, .int (y24)), (3, .int (no)), (0, .ref (mo)), (1, .int (k)), (2, .int (a9))]) hx hb dX13_changeAt_82 hl (by decide) rfl (fun ls hl => ?_)
          suffices lp84 : ∀ (k9 : Nat) (V9 : hp_V) (H9 : Heap) (locs9 : List Loc) (ls : Array Slot) (no : Int32) (i : Int32), (1000 - i.toInt).toNat = k9 → hp_Z D cs B s V9 H9 n locs9 → hq_P cs G (fun g => g.1 == 1 || g.1 == 43) V V9 → V9 (mo) = some (.inr (13, hm_o q (m_tp) (m_sz) (m_fr) (m_bh) (m_hd) (m_ft) (m_fa) (m_le) (m_fo) (m_as) (m_fd) (m_bc) (m_bg) (m_bs) (m_be) (m_b0) (m_b1) (m_cm) (m_hc))) → a9.toInt + (fs k.toNatClampNeg).toInt ≤ i.toInt → i.toInt ≤ m_le.toInt → no.toInt = (ss k.toNatClampNeg).toInt + i.toInt - (fs k.toNatClampNeg).toInt → lv_has ls 5 [(4, .int (i)), (3, .int (no)), (0, .ref (mo)), (1, .int (k)), (2, .int (a9))] → W p l e ({ frames := 1, cells := 0, slots := 0, locals := 21 }) s m ([.ref (mo), .int (k), .int (a9)] : List Value).toArray below meth c H9 locs9 0 0 (MQ below (hp_QV D cs B (fun V' n' => n = n' ∧ hq_P cs G (fun g => g.1 == 1 || g.1 == 43) V V' ∧ (∃ (m_le1 : Int32), V' mo = some (.inr (13, hm_o q (m_tp) (m_sz) (m_fr) (m_bh) (m_hd) (m_ft) (m_fa) (m_le1) (m_fo) (m_as) (m_fd) (m_bc) (m_bg) (m_bs) (m_be) (m_b0) (m_b1) (m_cm) (m_hc))) ∧ (0 ≤ m_le1.toInt ∧ m_le1.toInt ≤ 276) ∧ (m_le1.toInt = m_le.toInt - (fs k.toNatClampNeg).toInt + (ss k.toNatClampNeg).toInt)) ∧ (V' (q + 14) = some (.inl (cs 1, 120, .inl (fs)))) ∧ (V' (q + 15) = some (.inl (cs 1, 120, .inl (ss)))))) ([.ref (mo), .int (k), .int (a9)] : List Value).toArray s 0 0 (hp_F B)) (F0 m 84 ls []) from lp84 _ _ _ _ ls (no) (y24) rfl hZ hP ho9 (by omega) (by omega) (by omega) (lv_sub hl [0, 1, 2, 3, 4] rfl)
          intro k9
          induction k9 using Nat.strongRecOn with
          | _ k9 ih84 =>
            intro V9 H9 locs9 ls no i  hk84 hZ hP ho30 hv31 hv32 hv33 hl
            have hb_no := hq_rng no
            have hb_i := hq_rng i
            have hP_84 := hP
            refine lv_iload hx hb dX13_changeAt_84 (lv_at hl 0 rfl) ?_
            refine lv_aload_n hx hb dX13_changeAt_86 rfl (lv_at hl 2 rfl) ?_
            refine hp_get (v := .int (m_le)) hx hb hts hown hZ ho30 fl_X13_331 rfl dX13_changeAt_87 ?_
            refine lv_icmp_ge (tgt := 115) hx hb dX13_changeAt_90 (by decide) (fun c34 => ?_) (fun c34 => ?_)
            · have c34 : (m_le).toInt ≤ (i).toInt := hq_lei.mp c34
              refine lv_iconst (v := 0) hx hb dX13_changeAt_115 (by decide) ?_
              refine lv_istore (lv' := [(4, .int (0)), (3, .int (no)), (0, .ref (mo)), (1, .int (k)), (2, .int (a9))]) hx hb dX13_changeAt_116 hl (by decide) rfl (fun ls hl => ?_)
              have hl35 : (0 : Int32).toInt = 0 := by decide
              suffices lp118 : ∀ (k9 : Nat) (V9 : hp_V) (H9 : Heap) (locs9 : List Loc) (ls : Array Slot) (i : Int32), (1000 - i.toInt).toNat = k9 → hp_Z D cs B s V9 H9 n locs9 → hq_P cs G (fun g => g.1 == 1 || g.1 == 43) V V9 → V9 (mo) = some (.inr (13, hm_o q (m_tp) (m_sz) (m_fr) (m_bh) (m_hd) (m_ft) (m_fa) (m_le) (m_fo) (m_as) (m_fd) (m_bc) (m_bg) (m_bs) (m_be) (m_b0) (m_b1) (m_cm) (m_hc))) → 0 ≤ i.toInt → i.toInt ≤ 276 → lv_has ls 5 [(4, .int (i)), (3, .int (no)), (0, .ref (mo)), (1, .int (k)), (2, .int (a9))] → W p l e ({ frames := 1, cells := 0, slots := 0, locals := 21 }) s m ([.ref (mo), .int (k), .int (a9)] : List Value).toArray below meth c H9 locs9 0 0 (MQ below (hp_QV D cs B (fun V' n' => n = n' ∧ hq_P cs G (fun g => g.1 == 1 || g.1 == 43) V V' ∧ (∃ (m_le1 : Int32), V' mo = some (.inr (13, hm_o q (m_tp) (m_sz) (m_fr) (m_bh) (m_hd) (m_ft) (m_fa) (m_le1) (m_fo) (m_as) (m_fd) (m_bc) (m_bg) (m_bs) (m_be) (m_b0) (m_b1) (m_cm) (m_hc))) ∧ (0 ≤ m_le1.toInt ∧ m_le1.toInt ≤ 276) ∧ (m_le1.toInt = m_le.toInt - (fs k.toNatClampNeg).toInt + (ss k.toNatClampNeg).toInt)) ∧ (V' (q + 14) = some (.inl (cs 1, 120, .inl (fs)))) ∧ (V' (q + 15) = some (.inl (cs 1, 120, .inl (ss)))))) ([.ref (mo), .int (k), .int (a9)] : List Value).toArray s 0 0 (hp_F B)) (F0 m 118 ls []) from lp118 _ _ _ _ ls (0) rfl hZ hP ho30 (by omega) (by omega) (lv_sub hl [0, 1, 2, 3, 4] rfl)
              intro k9
              induction k9 using Nat.strongRecOn with
              | _ k9 ih118 =>
                intro V9 H9 locs9 ls i  hk118 hZ hP ho36 hv37 hv38 hl
                have hb_i := hq_rng i
                have hP_118 := hP
                refine lv_iload hx hb dX13_changeAt_118 (lv_at hl 0 rfl) ?_
                refine lv_iload_n hx hb dX13_changeAt_120 rfl (lv_at hl 1 rfl) ?_
                refine lv_icmp_ge (tgt := 144) hx hb dX13_changeAt_121 (by decide) (fun c39 => ?_) (fun c39 => ?_)
                · have c39 : (no).toInt ≤ (i).toInt := hq_lei.mp c39
                  refine lv_aload_n hx hb dX13_changeAt_144 rfl (lv_at hl 2 rfl) ?_
                  refine lv_iload_n hx hb dX13_changeAt_145 rfl (lv_at hl 1 rfl) ?_
                  refine hp_put hx hb hts hown hZ ho36 fp_X13_331 rfl rfl (Nat.le_of_ble_eq_true rfl) dX13_changeAt_146 (fun V40 _ _ e41 o42 hZ => ?_)
                  have e41 : V40 (mo) = some (.inr (13, hm_o q (m_tp) (m_sz) (m_fr) (m_bh) (m_hd) (m_ft) (m_fa) (no) (m_fo) (m_as) (m_fd) (m_bc) (m_bg) (m_bs) (m_be) (m_b0) (m_b1) (m_cm) (m_hc))) := e41
                  have hP := hP.put h_mo e41 o42 (trivial) rfl
                  have fx43 : V40 (q + 14) = some (.inl (cs 1, 120, .inl (fs))) := (o42 (q + 14) (hq_tne (hr_14 hR) h_mo (by simp))).trans ((hP_118.2 (q + 14) _ (hr_14 hR) rfl).trans (ho_fs))
                  have fx44 : V40 (q + 15) = some (.inl (cs 1, 120, .inl (ss))) := (o42 (q + 15) (hq_tne (hr_15 hR) h_mo (by simp))).trans ((hP_118.2 (q + 15) _ (hr_15 hR) rfl).trans (ho_ss))
                  exact hp_vret hx hb hr hlocks hZ ⟨rfl, hP, ⟨no, e41, by omega, by omega⟩, fx43, fx44⟩ dX13_changeAt_149
                · have c39 : ¬ (no).toInt ≤ (i).toInt := fun h9 => c39 (hq_lei.mpr h9)
                  refine lv_aload_n hx hb dX13_changeAt_124 rfl (lv_at hl 2 rfl) ?_
                  refine hp_get (v := .ref (q + 21)) hx hb hts hown hZ ho36 fl_X13_213 rfl dX13_changeAt_125 ?_
                  refine lv_iload hx hb dX13_changeAt_128 (lv_at hl 0 rfl) ?_
                  refine lv_aload_n hx hb dX13_changeAt_130 rfl (lv_at hl 2 rfl) ?_
                  refine hp_get (v := .ref (q + 22)) hx hb hts hown hZ ho36 fl_X13_216 rfl dX13_changeAt_131 ?_
                  refine lv_iload hx hb dX13_changeAt_134 (lv_at hl 0 rfl) ?_
                  obtain ⟨hN47, g46, eV45⟩ := hq_o20 hP.1 (hr_22 hR)
                  refine hp_bald hx hb hZ eV45 (hq_in (by omega) (by omega)) dX13_changeAt_136 ?_
                  refine lv_topi (fun y49 ey50 => ?_)
                  have b52 : (y49).toInt = ((g46) (i : Int32).toNatClampNeg).toInt := by rw [ey50]
                  have b51 := hq_rng y49
                  obtain ⟨hN55, g54, eV53⟩ := hq_o20 hP.1 (hr_21 hR)
                  refine hp_bast hx hb hZ eV53 (hq_in (by omega) (by omega)) dX13_changeAt_137 (fun V57 _ _ e58 o59 hZ => ?_)
                  have e58 : V57 (q + 21) = some (.inl (cs 0, 276, .inl (upd (g54) ((i : Int32).toNatClampNeg) ((y49 : Int32).toInt8.toInt32)))) := e58
                  have hP := hP.put (hr_21 hR) e58 o59 (hq_c20 (by omega)) rfl
                  obtain ⟨y60, ey61⟩ : ∃ y : Int32, y = i + (1) := ⟨_, rfl⟩
                  obtain ⟨k62, hk63, b64, b65⟩ := hq_add (i) (1)
                  rw [← ey61] at hk63 b64 b65
                  have hk63 : (y60).toInt = (i).toInt + (1) + k62 * 4294967296 := hk63
                  refine lv_iinc (v := y60) (lv' := [(4, .int (y60)), (3, .int (no)), (0, .ref (mo)), (1, .int (k)), (2, .int (a9))]) hx hb dX13_changeAt_138 hl (k := 0) rfl (by rw [ey61]; rfl) (by decide) rfl (fun ls hl => ?_)
                  refine lv_goto (tgt := 118) hx hb dX13_changeAt_141 (by decide) ?_
                  have fx66 : V57 (mo) = some (.inr (13, hm_o q (m_tp) (m_sz) (m_fr) (m_bh) (m_hd) (m_ft) (m_fa) (m_le) (m_fo) (m_as) (m_fd) (m_bc) (m_bg) (m_bs) (m_be) (m_b0) (m_b1) (m_cm) (m_hc))) := (o59 (mo) (hq_tne h_mo (hr_21 hR) (by simp))).trans (ho36)
                  exact ih118 _ (by omega) _ _ _ ls (y60) rfl hZ hP fx66 (by omega) (by omega) (lv_sub hl [0, 1, 2, 3, 4] rfl)
            · have c34 : ¬ (m_le).toInt ≤ (i).toInt := fun h9 => c34 (hq_lei.mpr h9)
              refine lv_aload_n hx hb dX13_changeAt_93 rfl (lv_at hl 2 rfl) ?_
              refine hp_get (v := .ref (q + 22)) hx hb hts hown hZ ho30 fl_X13_216 rfl dX13_changeAt_94 ?_
              refine lv_iload_n hx hb dX13_changeAt_97 rfl (lv_at hl 1 rfl) ?_
              refine lv_aload_n hx hb dX13_changeAt_98 rfl (lv_at hl 2 rfl) ?_
              refine hp_get (v := .ref (q + 21)) hx hb hts hown hZ ho30 fl_X13_213 rfl dX13_changeAt_99 ?_
              refine lv_iload hx hb dX13_changeAt_102 (lv_at hl 0 rfl) ?_
              obtain ⟨hN69, g68, eV67⟩ := hq_o20 hP.1 (hr_21 hR)
              refine hp_bald hx hb hZ eV67 (hq_in (by omega) (by omega)) dX13_changeAt_104 ?_
              refine lv_topi (fun y71 ey72 => ?_)
              have b74 : (y71).toInt = ((g68) (i : Int32).toNatClampNeg).toInt := by rw [ey72]
              have b73 := hq_rng y71
              obtain ⟨hN77, g76, eV75⟩ := hq_o20 hP.1 (hr_22 hR)
              refine hp_bast hx hb hZ eV75 (hq_in (by omega) (by omega)) dX13_changeAt_105 (fun V79 _ _ e80 o81 hZ => ?_)
              have e80 : V79 (q + 22) = some (.inl (cs 0, 276, .inl (upd (g76) ((no : Int32).toNatClampNeg) ((y71 : Int32).toInt8.toInt32)))) := e80
              have hP := hP.put (hr_22 hR) e80 o81 (hq_c20 (by omega)) rfl
              obtain ⟨y82, ey83⟩ : ∃ y : Int32, y = no + (1) := ⟨_, rfl⟩
              obtain ⟨k84, hk85, b86, b87⟩ := hq_add (no) (1)
              rw [← ey83] at hk85 b86 b87
              have hk85 : (y82).toInt = (no).toInt + (1) + k84 * 4294967296 := hk85
              refine lv_iinc (v := y82) (lv' := [(3, .int (y82)), (4, .int (i)), (0, .ref (mo)), (1, .int (k)), (2, .int (a9))]) hx hb dX13_changeAt_106 hl (k := 1) rfl (by rw [ey83]; rfl) (by decide) rfl (fun ls hl => ?_)
              obtain ⟨y88, ey89⟩ : ∃ y : Int32, y = i + (1) := ⟨_, rfl⟩
              obtain ⟨k90, hk91, b92, b93⟩ := hq_add (i) (1)
              rw [← ey89] at hk91 b92 b93
              have hk91 : (y88).toInt = (i).toInt + (1) + k90 * 4294967296 := hk91
              refine lv_iinc (v := y88) (lv' := [(4, .int (y88)), (3, .int (y82)), (0, .ref (mo)), (1, .int (k)), (2, .int (a9))]) hx hb dX13_changeAt_109 hl (k := 1) rfl (by rw [ey89]; rfl) (by decide) rfl (fun ls hl => ?_)
              refine lv_goto (tgt := 84) hx hb dX13_changeAt_112 (by decide) ?_
              have fx94 : V79 (mo) = some (.inr (13, hm_o q (m_tp) (m_sz) (m_fr) (m_bh) (m_hd) (m_ft) (m_fa) (m_le) (m_fo) (m_as) (m_fd) (m_bc) (m_bg) (m_bs) (m_be) (m_b0) (m_b1) (m_cm) (m_hc))) := (o81 (mo) (hq_tne h_mo (hr_22 hR) (by simp))).trans (ho30)
              exact ih84 _ (by omega) _ _ _ ls (y82) (y88) rfl hZ hP fx94 (by omega) (by omega) (by omega) (lv_sub hl [0, 1, 2, 3, 4] rfl)
        · have c18 : ¬ (y14).toInt ≤ (i).toInt := fun h9 => c18 (hq_lei.mpr h9)
          refine lv_aload_n hx hb dX13_changeAt_47 rfl (lv_at hl 2 rfl) ?_
          refine hp_get (v := .ref (q + 22)) hx hb hts hown hZ ho9 fl_X13_216 rfl dX13_changeAt_48 ?_
          refine lv_iload_n hx hb dX13_changeAt_51 rfl (lv_at hl 1 rfl) ?_
          refine lv_aload_n hx hb dX13_changeAt_52 rfl (lv_at hl 2 rfl) ?_
          refine hp_get (v := .ref (q + 6)) hx hb hts hown hZ ho9 fl_X13_26 rfl dX13_changeAt_53 ?_
          refine lv_bipush (v := 8) hx hb dX13_changeAt_56 (by decide) ?_
          refine lv_iload_n hx hb dX13_changeAt_58 rfl (lv_at hl 3 rfl) ?_
          refine lv_imul hx hb dX13_changeAt_59 ?_
          refine lv_topi (fun y95 ey96 => ?_)
          obtain ⟨k97, hk98, b99, b100⟩ := hq_mul (8) (k)
          rw [← ey96] at hk98 b99 b100
          have hk98 : (y95).toInt = (8 : Int) * (k).toInt + k97 * 4294967296 := hk98
          obtain rfl : k97 = 0 := by omega
          refine lv_iload hx hb dX13_changeAt_60 (lv_at hl 0 rfl) ?_
          refine lv_iadd hx hb dX13_changeAt_62 ?_
          refine lv_topi (fun y101 ey102 => ?_)
          obtain ⟨k103, hk104, b105, b106⟩ := hq_add (y95) (i)
          rw [← ey102] at hk104 b105 b106
          have hk104 : (y101).toInt = (y95).toInt + (i).toInt + k103 * 4294967296 := hk104
          obtain rfl : k103 = 0 := by omega
          obtain ⟨hN109, g108, eV107⟩ := hq_o20 hP.1 (hr_6 hR)
          refine hp_bald hx hb hZ eV107 (hq_in (by omega) (by omega)) dX13_changeAt_63 ?_
          refine lv_topi (fun y111 ey112 => ?_)
          have b114 : (y111).toInt = ((g108) (y101 : Int32).toNatClampNeg).toInt := by rw [ey112]
          have b113 := hq_rng y111
          obtain ⟨hN117, g116, eV115⟩ := hq_o20 hP.1 (hr_22 hR)
          refine hp_bast hx hb hZ eV115 (hq_in (by omega) (by omega)) dX13_changeAt_64 (fun V119 _ _ e120 o121 hZ => ?_)
          have e120 : V119 (q + 22) = some (.inl (cs 0, 276, .inl (upd (g116) ((no : Int32).toNatClampNeg) ((y111 : Int32).toInt8.toInt32)))) := e120
          have hP := hP.put (hr_22 hR) e120 o121 (hq_c20 (by omega)) rfl
          obtain ⟨y122, ey123⟩ : ∃ y : Int32, y = no + (1) := ⟨_, rfl⟩
          obtain ⟨k124, hk125, b126, b127⟩ := hq_add (no) (1)
          rw [← ey123] at hk125 b126 b127
          have hk125 : (y122).toInt = (no).toInt + (1) + k124 * 4294967296 := hk125
          refine lv_iinc (v := y122) (lv' := [(3, .int (y122)), (4, .int (i)), (0, .ref (mo)), (1, .int (k)), (2, .int (a9))]) hx hb dX13_changeAt_65 hl (k := 1) rfl (by rw [ey123]; rfl) (by decide) rfl (fun ls hl => ?_)
          obtain ⟨y128, ey129⟩ : ∃ y : Int32, y = i + (1) := ⟨_, rfl⟩
          obtain ⟨k130, hk131, b132, b133⟩ := hq_add (i) (1)
          rw [← ey129] at hk131 b132 b133
          have hk131 : (y128).toInt = (i).toInt + (1) + k130 * 4294967296 := hk131
          refine lv_iinc (v := y128) (lv' := [(4, .int (y128)), (3, .int (y122)), (0, .ref (mo)), (1, .int (k)), (2, .int (a9))]) hx hb dX13_changeAt_68 hl (k := 1) rfl (by rw [ey129]; rfl) (by decide) rfl (fun ls hl => ?_)
          refine lv_goto (tgt := 36) hx hb dX13_changeAt_71 (by decide) ?_
          have fx134 : V119 (mo) = some (.inr (13, hm_o q (m_tp) (m_sz) (m_fr) (m_bh) (m_hd) (m_ft) (m_fa) (m_le) (m_fo) (m_as) (m_fd) (m_bc) (m_bg) (m_bs) (m_be) (m_b0) (m_b1) (m_cm) (m_hc))) := (o121 (mo) (hq_tne h_mo (hr_22 hR) (by simp))).trans (ho9)
          exact ih36 _ (by omega) _ _ _ ls (y122) (y128) rfl hZ hP fx134 (by omega) (by omega) (by omega) (lv_sub hl [0, 1, 2, 3, 4] rfl)
    · have c7 : ¬ (a9).toInt ≤ (i).toInt := fun h9 => c7 (hq_lei.mpr h9)
      refine lv_aload_n hx hb dX13_changeAt_11 rfl (lv_at hl 2 rfl) ?_
      refine hp_get (v := .ref (q + 22)) hx hb hts hown hZ ho3 fl_X13_216 rfl dX13_changeAt_12 ?_
      refine lv_iload_n hx hb dX13_changeAt_15 rfl (lv_at hl 1 rfl) ?_
      refine lv_aload_n hx hb dX13_changeAt_16 rfl (lv_at hl 2 rfl) ?_
      refine hp_get (v := .ref (q + 21)) hx hb hts hown hZ ho3 fl_X13_213 rfl dX13_changeAt_17 ?_
      refine lv_iload hx hb dX13_changeAt_20 (lv_at hl 0 rfl) ?_
      obtain ⟨hN137, g136, eV135⟩ := hq_o20 hP.1 (hr_21 hR)
      refine hp_bald hx hb hZ eV135 (hq_in (by omega) (by omega)) dX13_changeAt_22 ?_
      refine lv_topi (fun y139 ey140 => ?_)
      have b142 : (y139).toInt = ((g136) (i : Int32).toNatClampNeg).toInt := by rw [ey140]
      have b141 := hq_rng y139
      obtain ⟨hN145, g144, eV143⟩ := hq_o20 hP.1 (hr_22 hR)
      refine hp_bast hx hb hZ eV143 (hq_in (by omega) (by omega)) dX13_changeAt_23 (fun V147 _ _ e148 o149 hZ => ?_)
      have e148 : V147 (q + 22) = some (.inl (cs 0, 276, .inl (upd (g144) ((no : Int32).toNatClampNeg) ((y139 : Int32).toInt8.toInt32)))) := e148
      have hP := hP.put (hr_22 hR) e148 o149 (hq_c20 (by omega)) rfl
      obtain ⟨y150, ey151⟩ : ∃ y : Int32, y = no + (1) := ⟨_, rfl⟩
      obtain ⟨k152, hk153, b154, b155⟩ := hq_add (no) (1)
      rw [← ey151] at hk153 b154 b155
      have hk153 : (y150).toInt = (no).toInt + (1) + k152 * 4294967296 := hk153
      refine lv_iinc (v := y150) (lv' := [(3, .int (y150)), (4, .int (i)), (0, .ref (mo)), (1, .int (k)), (2, .int (a9))]) hx hb dX13_changeAt_24 hl (k := 1) rfl (by rw [ey151]; rfl) (by decide) rfl (fun ls hl => ?_)
      obtain ⟨y156, ey157⟩ : ∃ y : Int32, y = i + (1) := ⟨_, rfl⟩
      obtain ⟨k158, hk159, b160, b161⟩ := hq_add (i) (1)
      rw [← ey157] at hk159 b160 b161
      have hk159 : (y156).toInt = (i).toInt + (1) + k158 * 4294967296 := hk159
      refine lv_iinc (v := y156) (lv' := [(4, .int (y156)), (3, .int (y150)), (0, .ref (mo)), (1, .int (k)), (2, .int (a9))]) hx hb dX13_changeAt_27 hl (k := 1) rfl (by rw [ey157]; rfl) (by decide) rfl (fun ls hl => ?_)
      refine lv_goto (tgt := 5) hx hb dX13_changeAt_30 (by decide) ?_
      have fx162 : V147 (mo) = some (.inr (13, hm_o q (m_tp) (m_sz) (m_fr) (m_bh) (m_hd) (m_ft) (m_fa) (m_le) (m_fo) (m_as) (m_fd) (m_bc) (m_bg) (m_bs) (m_be) (m_b0) (m_b1) (m_cm) (m_hc))) := (o149 (mo) (hq_tne h_mo (hr_22 hR) (by simp))).trans (ho3)
      exact ih5 _ (by omega) _ _ _ ls (y150) (y156) rfl hZ hP fx162 (by omega) (by omega) (by omega) (lv_sub hl [0, 1, 2, 3, 4] rfl)

set_option maxHeartbeats 4000000 in
set_option maxRecDepth 100000 in
theorem t_X13_sound (l : Launch) (D : va_G) (cs : Nat → ClassId) (B : Nat) (G : hq_G) (V : hp_V) (n : Nat) (hI : hq_I cs G V) (q : Nat) (hR : hq_RT G q) (mo : Nat) (h_mo : G mo = some (24, 0, 0, 0)) (k : Int32) {m_tp m_sz m_fr m_bh m_hd m_ft m_fa m_le m_fo m_as m_fd m_bc m_bg m_bs m_be m_b0 m_b1 m_cm m_hc : Int32} (ho_mo : V mo = some (.inr (13, hm_o q (m_tp) (m_sz) (m_fr) (m_bh) (m_hd) (m_ft) (m_fa) (m_le) (m_fo) (m_as) (m_fd) (m_bc) (m_bg) (m_bs) (m_be) (m_b0) (m_b1) (m_cm) (m_hc)))) (hi_mo0 : 0 ≤ m_tp.toInt ∧ m_tp.toInt ≤ 4000) (hi_mo1 : 0 ≤ m_sz.toInt ∧ m_sz.toInt ≤ 4000) (hi_mo2 : 0 ≤ m_le.toInt ∧ m_le.toInt ≤ 276) (hi_mo3 : 0 ≤ m_fo.toInt ∧ m_fo.toInt ≤ 4) (hi_mo4 : 0 ≤ m_as.toInt ∧ m_as.toInt ≤ 4000) (hi_mo5 : 0 ≤ m_fd.toInt ∧ m_fd.toInt ≤ 900) (hi_mo6 : 0 ≤ m_cm.toInt ∧ m_cm.toInt ≤ 2) (hi_mo7 : 0 ≤ m_hc.toInt ∧ m_hc.toInt ≤ 1) {fs : Nat → Int32} (ho_fs : V (q + 14) = some (.inl (cs 1, 120, .inl (fs)))) {ss : Nat → Int32} (ho_ss : V (q + 15) = some (.inl (cs 1, 120, .inl (ss)))) (hl0 : 0 ≤ k.toInt) (hl1 : k.toInt < 60) (hm : m_le.toInt ≤ 30) (hs : 1 ≤ (fs k.toNatClampNeg).toInt) : hp_M l yX13_sound cX13_sound 5 none ({ frames := 2, cells := 0, slots := 0, locals := 45 }) D cs B V n [.ref (mo), .int (k)] (hp_QV D cs B (fun V' n' => n = n' ∧ hq_P cs G (fun g => g.1 == 1 || g.1 == 43) V V' ∧ (∃ (m_le1 : Int32), V' mo = some (.inr (13, hm_o q (m_tp) (m_sz) (m_fr) (m_bh) (m_hd) (m_ft) (m_fa) (m_le1) (m_fo) (m_as) (m_fd) (m_bc) (m_bg) (m_bs) (m_be) (m_b0) (m_b1) (m_cm) (m_hc))) ∧ (0 ≤ m_le1.toInt ∧ m_le1.toInt ≤ 276)) ∧ (V' (q + 14) = some (.inl (cs 1, 120, .inl (fs)))) ∧ (V' (q + 15) = some (.inl (cs 1, 120, .inl (ss)))))) 0 0 := by
  refine hp_walk (R0 := RX13) (by decide) rfl ?_ (Nat.le_of_ble_eq_true rfl)
  intro p e s m below meth c ls hx hb hr hts hown hlocks hin hml hZ hl
  have hP : hq_P cs G (fun g => g.1 == 1 || g.1 == 43) V V := hq_P.rf hI
  have hl : lv_has ls 5 [(0, .ref (mo)), (1, .int (k))] := hl
  have hb_k := hq_rng k
  have hb_m_tp := hq_rng m_tp
  have hb_m_sz := hq_rng m_sz
  have hb_m_fr := hq_rng m_fr
  have hb_m_bh := hq_rng m_bh
  have hb_m_hd := hq_rng m_hd
  have hb_m_ft := hq_rng m_ft
  have hb_m_fa := hq_rng m_fa
  have hb_m_le := hq_rng m_le
  have hb_m_fo := hq_rng m_fo
  have hb_m_as := hq_rng m_as
  have hb_m_fd := hq_rng m_fd
  have hb_m_bc := hq_rng m_bc
  have hb_m_bg := hq_rng m_bg
  have hb_m_bs := hq_rng m_bs
  have hb_m_be := hq_rng m_be
  have hb_m_b0 := hq_rng m_b0
  have hb_m_b1 := hq_rng m_b1
  have hb_m_cm := hq_rng m_cm
  have hb_m_hc := hq_rng m_hc
  have hf_fs := hq_rg hI (hr_14 hR) ho_fs
  have hf_ss := hq_rg hI (hr_15 hR) ho_ss
  have hfsr : 0 ≤ (fs k.toNatClampNeg).toInt ∧ (fs k.toNatClampNeg).toInt ≤ 8 := hf_fs _ (hq_ix (by omega) (by omega))
  have hssr : 0 ≤ (ss k.toNatClampNeg).toInt ∧ (ss k.toNatClampNeg).toInt ≤ 8 := hf_ss _ (hq_ix (by omega) (by omega))
  refine lv_aload_n hx hb dX13_sound_0 rfl (lv_at hl 0 rfl) ?_
  refine hp_get (v := .int (m_le)) hx hb hts hown hZ ho_mo fl_X13_331 rfl dX13_sound_1 ?_
  refine lv_istore_n (lv' := [(2, .int (m_le)), (0, .ref (mo)), (1, .int (k))]) hx hb dX13_sound_4 rfl hl (by decide) rfl (fun ls hl => ?_)
  refine lv_iconst (v := 0) hx hb dX13_sound_5 (by decide) ?_
  refine lv_istore_n (lv' := [(3, .int (0)), (2, .int (m_le)), (0, .ref (mo)), (1, .int (k))]) hx hb dX13_sound_6 rfl hl (by decide) rfl (fun ls hl => ?_)
  have hl1 : (0 : Int32).toInt = 0 := by decide
  suffices lp7 : ∀ (k9 : Nat) (V9 : hp_V) (H9 : Heap) (locs9 : List Loc) (ls : Array Slot) (i : Int32), (100 - i.toInt).toNat = k9 → hp_Z D cs B s V9 H9 n locs9 → hq_P cs G (fun g => g.1 == 1 || g.1 == 43) V V9 → V9 (mo) = some (.inr (13, hm_o q (m_tp) (m_sz) (m_fr) (m_bh) (m_hd) (m_ft) (m_fa) (m_le) (m_fo) (m_as) (m_fd) (m_bc) (m_bg) (m_bs) (m_be) (m_b0) (m_b1) (m_cm) (m_hc))) → 0 ≤ i.toInt → i.toInt ≤ 30 → lv_has ls 5 [(3, .int (i)), (2, .int (m_le)), (0, .ref (mo)), (1, .int (k))] → W p l e ({ frames := 2, cells := 0, slots := 0, locals := 45 }) s m ([.ref (mo), .int (k)] : List Value).toArray below meth c H9 locs9 0 0 (MQ below (hp_QV D cs B (fun V' n' => n = n' ∧ hq_P cs G (fun g => g.1 == 1 || g.1 == 43) V V' ∧ (∃ (m_le1 : Int32), V' mo = some (.inr (13, hm_o q (m_tp) (m_sz) (m_fr) (m_bh) (m_hd) (m_ft) (m_fa) (m_le1) (m_fo) (m_as) (m_fd) (m_bc) (m_bg) (m_bs) (m_be) (m_b0) (m_b1) (m_cm) (m_hc))) ∧ (0 ≤ m_le1.toInt ∧ m_le1.toInt ≤ 276)) ∧ (V' (q + 14) = some (.inl (cs 1, 120, .inl (fs)))) ∧ (V' (q + 15) = some (.inl (cs 1, 120, .inl (ss)))))) ([.ref (mo), .int (k)] : List Value).toArray s 0 0 (hp_F B)) (F0 m 7 ls []) from lp7 _ _ _ _ ls (0) rfl hZ hP ho_mo (by omega) (by omega) (lv_sub hl [0, 1, 2, 3] rfl)
  intro k9
  induction k9 using Nat.strongRecOn with
  | _ k9 ih7 =>
    intro V9 H9 locs9 ls i  hk7 hZ hP ho2 hv3 hv4 hl
    have hb_i := hq_rng i
    have hP_7 := hP
    refine lv_iload_n hx hb dX13_sound_7 rfl (lv_at hl 0 rfl) ?_
    refine lv_iload_n hx hb dX13_sound_8 rfl (lv_at hl 1 rfl) ?_
    refine lv_icmp_ge (tgt := 30) hx hb dX13_sound_9 (by decide) (fun c5 => ?_) (fun c5 => ?_)
    · have c5 : (m_le).toInt ≤ (i).toInt := hq_lei.mp c5
      have jn121 : ∀ (V9 : hp_V) (H9 : Heap) (locs9 : List Loc) (ls : Array Slot)  (le8 : Int32), hp_Z D cs B s V9 H9 n locs9 → hq_P cs G (fun g => g.1 == 1 || g.1 == 43) V V9 → V9 (mo) = some (.inr (13, hm_o q (m_tp) (m_sz) (m_fr) (m_bh) (m_hd) (m_ft) (m_fa) (le8) (m_fo) (m_as) (m_fd) (m_bc) (m_bg) (m_bs) (m_be) (m_b0) (m_b1) (m_cm) (m_hc))) → 0 ≤ le8.toInt ∧ le8.toInt ≤ 276 → lv_has ls 5 [(2, .int (m_le)), (0, .ref (mo)), (1, .int (k))] → W p l e ({ frames := 2, cells := 0, slots := 0, locals := 45 }) s m ([.ref (mo), .int (k)] : List Value).toArray below meth c H9 locs9 0 0 (MQ below (hp_QV D cs B (fun V' n' => n = n' ∧ hq_P cs G (fun g => g.1 == 1 || g.1 == 43) V V' ∧ (∃ (m_le1 : Int32), V' mo = some (.inr (13, hm_o q (m_tp) (m_sz) (m_fr) (m_bh) (m_hd) (m_ft) (m_fa) (m_le1) (m_fo) (m_as) (m_fd) (m_bc) (m_bg) (m_bs) (m_be) (m_b0) (m_b1) (m_cm) (m_hc))) ∧ (0 ≤ m_le1.toInt ∧ m_le1.toInt ≤ 276)) ∧ (V' (q + 14) = some (.inl (cs 1, 120, .inl (fs)))) ∧ (V' (q + 15) = some (.inl (cs 1, 120, .inl (ss)))))) ([.ref (mo), .int (k)] : List Value).toArray s 0 0 (hp_F B)) (F0 m 121 ls []) := by
        intro V9 H9 locs9 ls   le8 hZ hP  ho6 hv7 hl
        have hb_le8 := hq_rng le8
        have hPj121 := hP
        refine lv_iload_n hx hb dX13_sound_121 rfl (lv_at hl 0 rfl) ?_
        refine lv_aload_n hx hb dX13_sound_122 rfl (lv_at hl 1 rfl) ?_
        refine hp_get (v := .int (le8)) hx hb hts hown hZ ho6 fl_X13_331 rfl dX13_sound_123 ?_
        refine lv_icmp_ne (tgt := 133) hx hb dX13_sound_126 (by decide) (fun c8 => ?_) (fun c8 => ?_)
        · have c8 : ¬ (m_le).toInt = (le8).toInt := fun h9 => c8 (hq_eqi.mpr h9)
          refine lv_iconst (v := 0) hx hb dX13_sound_133 (by decide) ?_
          refine lv_istore_n (lv' := [(3, .int (0)), (2, .int (m_le)), (0, .ref (mo)), (1, .int (k))]) hx hb dX13_sound_134 rfl hl (by decide) rfl (fun ls hl => ?_)
          refine lv_iconst (v := 0) hx hb dX13_sound_135 (by decide) ?_
          refine lv_istore (lv' := [(4, .int (0)), (3, .int (0)), (2, .int (m_le)), (0, .ref (mo)), (1, .int (k))]) hx hb dX13_sound_136 hl (by decide) rfl (fun ls hl => ?_)
          have hl9 : (0 : Int32).toInt = 0 := by decide
          have hl10 : (0 : Int32).toInt = 0 := by decide
          suffices lp138 : ∀ (k9 : Nat) (V9 : hp_V) (H9 : Heap) (locs9 : List Loc) (ls : Array Slot) (sa : Int32) (i : Int32), (100 - i.toInt).toNat = k9 → hp_Z D cs B s V9 H9 n locs9 → hq_P cs G (fun g => g.1 == 1 || g.1 == 43) V V9 → V9 (mo) = some (.inr (13, hm_o q (m_tp) (m_sz) (m_fr) (m_bh) (m_hd) (m_ft) (m_fa) (le8) (m_fo) (m_as) (m_fd) (m_bc) (m_bg) (m_bs) (m_be) (m_b0) (m_b1) (m_cm) (m_hc))) → 0 ≤ i.toInt → i.toInt ≤ 30 → 0 ≤ sa.toInt ∧ sa.toInt ≤ 1 → lv_has ls 5 [(4, .int (i)), (3, .int (sa)), (2, .int (m_le)), (0, .ref (mo)), (1, .int (k))] → W p l e ({ frames := 2, cells := 0, slots := 0, locals := 45 }) s m ([.ref (mo), .int (k)] : List Value).toArray below meth c H9 locs9 0 0 (MQ below (hp_QV D cs B (fun V' n' => n = n' ∧ hq_P cs G (fun g => g.1 == 1 || g.1 == 43) V V' ∧ (∃ (m_le1 : Int32), V' mo = some (.inr (13, hm_o q (m_tp) (m_sz) (m_fr) (m_bh) (m_hd) (m_ft) (m_fa) (m_le1) (m_fo) (m_as) (m_fd) (m_bc) (m_bg) (m_bs) (m_be) (m_b0) (m_b1) (m_cm) (m_hc))) ∧ (0 ≤ m_le1.toInt ∧ m_le1.toInt ≤ 276)) ∧ (V' (q + 14) = some (.inl (cs 1, 120, .inl (fs)))) ∧ (V' (q + 15) = some (.inl (cs 1, 120, .inl (ss)))))) ([.ref (mo), .int (k)] : List Value).toArray s 0 0 (hp_F B)) (F0 m 138 ls []) from lp138 _ _ _ _ ls (0) (0) rfl hZ hP ho6 (by omega) (by omega) (by omega) (lv_sub hl [0, 1, 2, 3, 4] rfl)
          intro k9
          induction k9 using Nat.strongRecOn with
          | _ k9 ih138 =>
            intro V9 H9 locs9 ls sa i  hk138 hZ hP ho11 hv12 hv13 hv14 hl
            have hb_sa := hq_rng sa
            have hb_i := hq_rng i
            have hP_138 := hP
            refine lv_iload hx hb dX13_sound_138 (lv_at hl 0 rfl) ?_
            refine lv_iload_n hx hb dX13_sound_140 rfl (lv_at hl 2 rfl) ?_
            refine lv_icmp_ge (tgt := 177) hx hb dX13_sound_141 (by decide) (fun c15 => ?_) (fun c15 => ?_)
            · have c15 : (m_le).toInt ≤ (i).toInt := hq_lei.mp c15
              refine lv_aload_n hx hb dX13_sound_177 rfl (lv_at hl 3 rfl) ?_
              refine hp_get (v := .ref (q + 23)) hx hb hts hown hZ ho11 fl_X13_219 rfl dX13_sound_178 ?_
              refine lv_iload_n hx hb dX13_sound_181 rfl (lv_at hl 4 rfl) ?_
              refine lv_iload_n hx hb dX13_sound_182 rfl (lv_at hl 1 rfl) ?_
              refine lv_if_ne (tgt := 190) hx hb dX13_sound_183 (by decide) (fun c16 => ?_) (fun c16 => ?_)
              · have c16 : ¬ (sa).toInt = (0 : Int) := fun h9 => c16 (hq_eqi.mpr h9)
                refine lv_iconst (v := 0) hx hb dX13_sound_190 (by decide) ?_
                obtain ⟨hN19, g18, eV17⟩ := hq_o22 hP.1 (hr_23 hR)
                refine hp_zast hx hb hZ eV17 (hq_in (by omega) (by omega)) dX13_sound_191 (fun V21 _ _ e22 o23 hZ => ?_)
                have e22 : V21 (q + 23) = some (.inl (cs 3, 60, .inl (upd (g18) ((k : Int32).toNatClampNeg) ((vp_nar .boolean 0))))) := e22
                have hP := hP.put (hr_23 hR) e22 o23 (hq_c22 (by omega)) rfl
                have fx24 : V21 (mo) = some (.inr (13, hm_o q (m_tp) (m_sz) (m_fr) (m_bh) (m_hd) (m_ft) (m_fa) (le8) (m_fo) (m_as) (m_fd) (m_bc) (m_bg) (m_bs) (m_be) (m_b0) (m_b1) (m_cm) (m_hc))) := (o23 (mo) (hq_tne h_mo (hr_23 hR) (by simp))).trans (ho11)
                have fx25 : V21 (q + 14) = some (.inl (cs 1, 120, .inl (fs))) := (o23 (q + 14) (hq_ne q 14 23 (by decide))).trans ((hP_138.2 (q + 14) _ (hr_14 hR) rfl).trans (ho_fs))
                have fx26 : V21 (q + 15) = some (.inl (cs 1, 120, .inl (ss))) := (o23 (q + 15) (hq_ne q 15 23 (by decide))).trans ((hP_138.2 (q + 15) _ (hr_15 hR) rfl).trans (ho_ss))
                exact hp_vret hx hb hr hlocks hZ ⟨rfl, hP, ⟨le8, fx24, by omega⟩, fx25, fx26⟩ dX13_sound_192
              · have c16 : (sa).toInt = (0 : Int) := hq_eqi.mp c16
                refine lv_iconst (v := 1) hx hb dX13_sound_186 (by decide) ?_
                refine lv_goto (tgt := 191) hx hb dX13_sound_187 (by decide) ?_
                obtain ⟨hN29, g28, eV27⟩ := hq_o22 hP.1 (hr_23 hR)
                refine hp_zast hx hb hZ eV27 (hq_in (by omega) (by omega)) dX13_sound_191 (fun V31 _ _ e32 o33 hZ => ?_)
                have e32 : V31 (q + 23) = some (.inl (cs 3, 60, .inl (upd (g28) ((k : Int32).toNatClampNeg) ((vp_nar .boolean 1))))) := e32
                have hP := hP.put (hr_23 hR) e32 o33 (hq_c22 (by omega)) rfl
                have fx34 : V31 (mo) = some (.inr (13, hm_o q (m_tp) (m_sz) (m_fr) (m_bh) (m_hd) (m_ft) (m_fa) (le8) (m_fo) (m_as) (m_fd) (m_bc) (m_bg) (m_bs) (m_be) (m_b0) (m_b1) (m_cm) (m_hc))) := (o33 (mo) (hq_tne h_mo (hr_23 hR) (by simp))).trans (ho11)
                have fx35 : V31 (q + 14) = some (.inl (cs 1, 120, .inl (fs))) := (o33 (q + 14) (hq_ne q 14 23 (by decide))).trans ((hP_138.2 (q + 14) _ (hr_14 hR) rfl).trans (ho_fs))
                have fx36 : V31 (q + 15) = some (.inl (cs 1, 120, .inl (ss))) := (o33 (q + 15) (hq_ne q 15 23 (by decide))).trans ((hP_138.2 (q + 15) _ (hr_15 hR) rfl).trans (ho_ss))
                exact hp_vret hx hb hr hlocks hZ ⟨rfl, hP, ⟨le8, fx34, by omega⟩, fx35, fx36⟩ dX13_sound_192
            · have c15 : ¬ (m_le).toInt ≤ (i).toInt := fun h9 => c15 (hq_lei.mpr h9)
              refine lv_iload_n hx hb dX13_sound_144 rfl (lv_at hl 1 rfl) ?_
              refine lv_if_eq (tgt := 177) hx hb dX13_sound_145 (by decide) (fun c37 => ?_) (fun c37 => ?_)
              · have c37 : (sa).toInt = (0 : Int) := hq_eqi.mp c37
                refine lv_aload_n hx hb dX13_sound_177 rfl (lv_at hl 3 rfl) ?_
                refine hp_get (v := .ref (q + 23)) hx hb hts hown hZ ho11 fl_X13_219 rfl dX13_sound_178 ?_
                refine lv_iload_n hx hb dX13_sound_181 rfl (lv_at hl 4 rfl) ?_
                refine lv_iload_n hx hb dX13_sound_182 rfl (lv_at hl 1 rfl) ?_
                refine lv_if_ne (tgt := 190) hx hb dX13_sound_183 (by decide) (fun c38 => ?_) (fun c38 => ?_)
                · have c38 : ¬ (sa).toInt = (0 : Int) := fun h9 => c38 (hq_eqi.mpr h9)
                  refine lv_iconst (v := 0) hx hb dX13_sound_190 (by decide) ?_
                  obtain ⟨hN41, g40, eV39⟩ := hq_o22 hP.1 (hr_23 hR)
                  refine hp_zast hx hb hZ eV39 (hq_in (by omega) (by omega)) dX13_sound_191 (fun V43 _ _ e44 o45 hZ => ?_)
                  have e44 : V43 (q + 23) = some (.inl (cs 3, 60, .inl (upd (g40) ((k : Int32).toNatClampNeg) ((vp_nar .boolean 0))))) := e44
                  have hP := hP.put (hr_23 hR) e44 o45 (hq_c22 (by omega)) rfl
                  have fx46 : V43 (mo) = some (.inr (13, hm_o q (m_tp) (m_sz) (m_fr) (m_bh) (m_hd) (m_ft) (m_fa) (le8) (m_fo) (m_as) (m_fd) (m_bc) (m_bg) (m_bs) (m_be) (m_b0) (m_b1) (m_cm) (m_hc))) := (o45 (mo) (hq_tne h_mo (hr_23 hR) (by simp))).trans (ho11)
                  have fx47 : V43 (q + 14) = some (.inl (cs 1, 120, .inl (fs))) := (o45 (q + 14) (hq_ne q 14 23 (by decide))).trans ((hP_138.2 (q + 14) _ (hr_14 hR) rfl).trans (ho_fs))
                  have fx48 : V43 (q + 15) = some (.inl (cs 1, 120, .inl (ss))) := (o45 (q + 15) (hq_ne q 15 23 (by decide))).trans ((hP_138.2 (q + 15) _ (hr_15 hR) rfl).trans (ho_ss))
                  exact hp_vret hx hb hr hlocks hZ ⟨rfl, hP, ⟨le8, fx46, by omega⟩, fx47, fx48⟩ dX13_sound_192
                · have c38 : (sa).toInt = (0 : Int) := hq_eqi.mp c38
                  refine lv_iconst (v := 1) hx hb dX13_sound_186 (by decide) ?_
                  refine lv_goto (tgt := 191) hx hb dX13_sound_187 (by decide) ?_
                  obtain ⟨hN51, g50, eV49⟩ := hq_o22 hP.1 (hr_23 hR)
                  refine hp_zast hx hb hZ eV49 (hq_in (by omega) (by omega)) dX13_sound_191 (fun V53 _ _ e54 o55 hZ => ?_)
                  have e54 : V53 (q + 23) = some (.inl (cs 3, 60, .inl (upd (g50) ((k : Int32).toNatClampNeg) ((vp_nar .boolean 1))))) := e54
                  have hP := hP.put (hr_23 hR) e54 o55 (hq_c22 (by omega)) rfl
                  have fx56 : V53 (mo) = some (.inr (13, hm_o q (m_tp) (m_sz) (m_fr) (m_bh) (m_hd) (m_ft) (m_fa) (le8) (m_fo) (m_as) (m_fd) (m_bc) (m_bg) (m_bs) (m_be) (m_b0) (m_b1) (m_cm) (m_hc))) := (o55 (mo) (hq_tne h_mo (hr_23 hR) (by simp))).trans (ho11)
                  have fx57 : V53 (q + 14) = some (.inl (cs 1, 120, .inl (fs))) := (o55 (q + 14) (hq_ne q 14 23 (by decide))).trans ((hP_138.2 (q + 14) _ (hr_14 hR) rfl).trans (ho_fs))
                  have fx58 : V53 (q + 15) = some (.inl (cs 1, 120, .inl (ss))) := (o55 (q + 15) (hq_ne q 15 23 (by decide))).trans ((hP_138.2 (q + 15) _ (hr_15 hR) rfl).trans (ho_ss))
                  exact hp_vret hx hb hr hlocks hZ ⟨rfl, hP, ⟨le8, fx56, by omega⟩, fx57, fx58⟩ dX13_sound_192
              · have c37 : ¬ (sa).toInt = (0 : Int) := fun h9 => c37 (hq_eqi.mpr h9)
                refine lv_aload_n hx hb dX13_sound_148 rfl (lv_at hl 3 rfl) ?_
                refine hp_get (v := .ref (q + 24)) hx hb hts hown hZ ho11 fl_X13_223 rfl dX13_sound_149 ?_
                refine lv_iload hx hb dX13_sound_152 (lv_at hl 0 rfl) ?_
                obtain ⟨hN61, g60, eV59⟩ := hq_o20 hP.1 (hr_24 hR)
                refine hp_bald hx hb hZ eV59 (hq_in (by omega) (by omega)) dX13_sound_154 ?_
                refine lv_topi (fun y63 ey64 => ?_)
                have b66 : (y63).toInt = ((g60) (i : Int32).toNatClampNeg).toInt := by rw [ey64]
                have b65 := hq_rng y63
                refine lv_aload_n hx hb dX13_sound_155 rfl (lv_at hl 3 rfl) ?_
                refine hp_get (v := .ref (q + 21)) hx hb hts hown hZ ho11 fl_X13_213 rfl dX13_sound_156 ?_
                refine lv_iload hx hb dX13_sound_159 (lv_at hl 0 rfl) ?_
                obtain ⟨hN69, g68, eV67⟩ := hq_o20 hP.1 (hr_21 hR)
                refine hp_bald hx hb hZ eV67 (hq_in (by omega) (by omega)) dX13_sound_161 ?_
                refine lv_topi (fun y71 ey72 => ?_)
                have b74 : (y71).toInt = ((g68) (i : Int32).toNatClampNeg).toInt := by rw [ey72]
                have b73 := hq_rng y71
                refine lv_icmp_ne (tgt := 169) hx hb dX13_sound_162 (by decide) (fun c75 => ?_) (fun c75 => ?_)
                · have c75 : ¬ (y63).toInt = (y71).toInt := fun h9 => c75 (hq_eqi.mpr h9)
                  refine lv_iconst (v := 0) hx hb dX13_sound_169 (by decide) ?_
                  refine lv_istore_n (lv' := [(3, .int (0)), (4, .int (i)), (2, .int (m_le)), (0, .ref (mo)), (1, .int (k))]) hx hb dX13_sound_170 rfl hl (by decide) rfl (fun ls hl => ?_)
                  obtain ⟨y76, ey77⟩ : ∃ y : Int32, y = i + (1) := ⟨_, rfl⟩
                  obtain ⟨k78, hk79, b80, b81⟩ := hq_add (i) (1)
                  rw [← ey77] at hk79 b80 b81
                  have hk79 : (y76).toInt = (i).toInt + (1) + k78 * 4294967296 := hk79
                  obtain rfl : k78 = 0 := by omega
                  refine lv_iinc (v := y76) (lv' := [(4, .int (y76)), (3, .int (0)), (2, .int (m_le)), (0, .ref (mo)), (1, .int (k))]) hx hb dX13_sound_171 hl (k := 1) rfl (by rw [ey77]; rfl) (by decide) rfl (fun ls hl => ?_)
                  refine lv_goto (tgt := 138) hx hb dX13_sound_174 (by decide) ?_
                  exact ih138 _ (by omega) _ _ _ ls (0) (y76) rfl hZ hP ho11 (by omega) (by omega) (by omega) (lv_sub hl [0, 1, 2, 3, 4] rfl)
                · have c75 : (y63).toInt = (y71).toInt := hq_eqi.mp c75
                  refine lv_iconst (v := 1) hx hb dX13_sound_165 (by decide) ?_
                  refine lv_goto (tgt := 170) hx hb dX13_sound_166 (by decide) ?_
                  refine lv_istore_n (lv' := [(3, .int (1)), (4, .int (i)), (2, .int (m_le)), (0, .ref (mo)), (1, .int (k))]) hx hb dX13_sound_170 rfl hl (by decide) rfl (fun ls hl => ?_)
                  obtain ⟨y82, ey83⟩ : ∃ y : Int32, y = i + (1) := ⟨_, rfl⟩
                  obtain ⟨k84, hk85, b86, b87⟩ := hq_add (i) (1)
                  rw [← ey83] at hk85 b86 b87
                  have hk85 : (y82).toInt = (i).toInt + (1) + k84 * 4294967296 := hk85
                  obtain rfl : k84 = 0 := by omega
                  refine lv_iinc (v := y82) (lv' := [(4, .int (y82)), (3, .int (1)), (2, .int (m_le)), (0, .ref (mo)), (1, .int (k))]) hx hb dX13_sound_171 hl (k := 1) rfl (by rw [ey83]; rfl) (by decide) rfl (fun ls hl => ?_)
                  refine lv_goto (tgt := 138) hx hb dX13_sound_174 (by decide) ?_
                  exact ih138 _ (by omega) _ _ _ ls (1) (y82) rfl hZ hP ho11 (by omega) (by omega) (by omega) (lv_sub hl [0, 1, 2, 3, 4] rfl)
        · have c8 : (m_le).toInt = (le8).toInt := hq_eqi.mp c8
          refine lv_iconst (v := 1) hx hb dX13_sound_129 (by decide) ?_
          refine lv_goto (tgt := 134) hx hb dX13_sound_130 (by decide) ?_
          refine lv_istore_n (lv' := [(3, .int (1)), (2, .int (m_le)), (0, .ref (mo)), (1, .int (k))]) hx hb dX13_sound_134 rfl hl (by decide) rfl (fun ls hl => ?_)
          refine lv_iconst (v := 0) hx hb dX13_sound_135 (by decide) ?_
          refine lv_istore (lv' := [(4, .int (0)), (3, .int (1)), (2, .int (m_le)), (0, .ref (mo)), (1, .int (k))]) hx hb dX13_sound_136 hl (by decide) rfl (fun ls hl => ?_)
          have hl88 : (1 : Int32).toInt = 1 := by decide
          have hl89 : (0 : Int32).toInt = 0 := by decide
          suffices lp138 : ∀ (k9 : Nat) (V9 : hp_V) (H9 : Heap) (locs9 : List Loc) (ls : Array Slot) (sa : Int32) (i : Int32), (100 - i.toInt).toNat = k9 → hp_Z D cs B s V9 H9 n locs9 → hq_P cs G (fun g => g.1 == 1 || g.1 == 43) V V9 → V9 (mo) = some (.inr (13, hm_o q (m_tp) (m_sz) (m_fr) (m_bh) (m_hd) (m_ft) (m_fa) (le8) (m_fo) (m_as) (m_fd) (m_bc) (m_bg) (m_bs) (m_be) (m_b0) (m_b1) (m_cm) (m_hc))) → 0 ≤ i.toInt → i.toInt ≤ 30 → 0 ≤ sa.toInt ∧ sa.toInt ≤ 1 → lv_has ls 5 [(4, .int (i)), (3, .int (sa)), (2, .int (m_le)), (0, .ref (mo)), (1, .int (k))] → W p l e ({ frames := 2, cells := 0, slots := 0, locals := 45 }) s m ([.ref (mo), .int (k)] : List Value).toArray below meth c H9 locs9 0 0 (MQ below (hp_QV D cs B (fun V' n' => n = n' ∧ hq_P cs G (fun g => g.1 == 1 || g.1 == 43) V V' ∧ (∃ (m_le1 : Int32), V' mo = some (.inr (13, hm_o q (m_tp) (m_sz) (m_fr) (m_bh) (m_hd) (m_ft) (m_fa) (m_le1) (m_fo) (m_as) (m_fd) (m_bc) (m_bg) (m_bs) (m_be) (m_b0) (m_b1) (m_cm) (m_hc))) ∧ (0 ≤ m_le1.toInt ∧ m_le1.toInt ≤ 276)) ∧ (V' (q + 14) = some (.inl (cs 1, 120, .inl (fs)))) ∧ (V' (q + 15) = some (.inl (cs 1, 120, .inl (ss)))))) ([.ref (mo), .int (k)] : List Value).toArray s 0 0 (hp_F B)) (F0 m 138 ls []) from lp138 _ _ _ _ ls (1) (0) rfl hZ hP ho6 (by omega) (by omega) (by omega) (lv_sub hl [0, 1, 2, 3, 4] rfl)
          intro k9
          induction k9 using Nat.strongRecOn with
          | _ k9 ih138 =>
            intro V9 H9 locs9 ls sa i  hk138 hZ hP ho90 hv91 hv92 hv93 hl
            have hb_sa := hq_rng sa
            have hb_i := hq_rng i
            have hP_138 := hP
            refine lv_iload hx hb dX13_sound_138 (lv_at hl 0 rfl) ?_
            refine lv_iload_n hx hb dX13_sound_140 rfl (lv_at hl 2 rfl) ?_
            refine lv_icmp_ge (tgt := 177) hx hb dX13_sound_141 (by decide) (fun c94 => ?_) (fun c94 => ?_)
            · have c94 : (m_le).toInt ≤ (i).toInt := hq_lei.mp c94
              refine lv_aload_n hx hb dX13_sound_177 rfl (lv_at hl 3 rfl) ?_
              refine hp_get (v := .ref (q + 23)) hx hb hts hown hZ ho90 fl_X13_219 rfl dX13_sound_178 ?_
              refine lv_iload_n hx hb dX13_sound_181 rfl (lv_at hl 4 rfl) ?_
              refine lv_iload_n hx hb dX13_sound_182 rfl (lv_at hl 1 rfl) ?_
              refine lv_if_ne (tgt := 190) hx hb dX13_sound_183 (by decide) (fun c95 => ?_) (fun c95 => ?_)
              · have c95 : ¬ (sa).toInt = (0 : Int) := fun h9 => c95 (hq_eqi.mpr h9)
                refine lv_iconst (v := 0) hx hb dX13_sound_190 (by decide) ?_
                obtain ⟨hN98, g97, eV96⟩ := hq_o22 hP.1 (hr_23 hR)
                refine hp_zast hx hb hZ eV96 (hq_in (by omega) (by omega)) dX13_sound_191 (fun V100 _ _ e101 o102 hZ => ?_)
                have e101 : V100 (q + 23) = some (.inl (cs 3, 60, .inl (upd (g97) ((k : Int32).toNatClampNeg) ((vp_nar .boolean 0))))) := e101
                have hP := hP.put (hr_23 hR) e101 o102 (hq_c22 (by omega)) rfl
                have fx103 : V100 (mo) = some (.inr (13, hm_o q (m_tp) (m_sz) (m_fr) (m_bh) (m_hd) (m_ft) (m_fa) (le8) (m_fo) (m_as) (m_fd) (m_bc) (m_bg) (m_bs) (m_be) (m_b0) (m_b1) (m_cm) (m_hc))) := (o102 (mo) (hq_tne h_mo (hr_23 hR) (by simp))).trans (ho90)
                have fx104 : V100 (q + 14) = some (.inl (cs 1, 120, .inl (fs))) := (o102 (q + 14) (hq_ne q 14 23 (by decide))).trans ((hP_138.2 (q + 14) _ (hr_14 hR) rfl).trans (ho_fs))
                have fx105 : V100 (q + 15) = some (.inl (cs 1, 120, .inl (ss))) := (o102 (q + 15) (hq_ne q 15 23 (by decide))).trans ((hP_138.2 (q + 15) _ (hr_15 hR) rfl).trans (ho_ss))
                exact hp_vret hx hb hr hlocks hZ ⟨rfl, hP, ⟨le8, fx103, by omega⟩, fx104, fx105⟩ dX13_sound_192
              · have c95 : (sa).toInt = (0 : Int) := hq_eqi.mp c95
                refine lv_iconst (v := 1) hx hb dX13_sound_186 (by decide) ?_
                refine lv_goto (tgt := 191) hx hb dX13_sound_187 (by decide) ?_
                obtain ⟨hN108, g107, eV106⟩ := hq_o22 hP.1 (hr_23 hR)
                refine hp_zast hx hb hZ eV106 (hq_in (by omega) (by omega)) dX13_sound_191 (fun V110 _ _ e111 o112 hZ => ?_)
                have e111 : V110 (q + 23) = some (.inl (cs 3, 60, .inl (upd (g107) ((k : Int32).toNatClampNeg) ((vp_nar .boolean 1))))) := e111
                have hP := hP.put (hr_23 hR) e111 o112 (hq_c22 (by omega)) rfl
                have fx113 : V110 (mo) = some (.inr (13, hm_o q (m_tp) (m_sz) (m_fr) (m_bh) (m_hd) (m_ft) (m_fa) (le8) (m_fo) (m_as) (m_fd) (m_bc) (m_bg) (m_bs) (m_be) (m_b0) (m_b1) (m_cm) (m_hc))) := (o112 (mo) (hq_tne h_mo (hr_23 hR) (by simp))).trans (ho90)
                have fx114 : V110 (q + 14) = some (.inl (cs 1, 120, .inl (fs))) := (o112 (q + 14) (hq_ne q 14 23 (by decide))).trans ((hP_138.2 (q + 14) _ (hr_14 hR) rfl).trans (ho_fs))
                have fx115 : V110 (q + 15) = some (.inl (cs 1, 120, .inl (ss))) := (o112 (q + 15) (hq_ne q 15 23 (by decide))).trans ((hP_138.2 (q + 15) _ (hr_15 hR) rfl).trans (ho_ss))
                exact hp_vret hx hb hr hlocks hZ ⟨rfl, hP, ⟨le8, fx113, by omega⟩, fx114, fx115⟩ dX13_sound_192
            · have c94 : ¬ (m_le).toInt ≤ (i).toInt := fun h9 => c94 (hq_lei.mpr h9)
              refine lv_iload_n hx hb dX13_sound_144 rfl (lv_at hl 1 rfl) ?_
              refine lv_if_eq (tgt := 177) hx hb dX13_sound_145 (by decide) (fun c116 => ?_) (fun c116 => ?_)
              · have c116 : (sa).toInt = (0 : Int) := hq_eqi.mp c116
                refine lv_aload_n hx hb dX13_sound_177 rfl (lv_at hl 3 rfl) ?_
                refine hp_get (v := .ref (q + 23)) hx hb hts hown hZ ho90 fl_X13_219 rfl dX13_sound_178 ?_
                refine lv_iload_n hx hb dX13_sound_181 rfl (lv_at hl 4 rfl) ?_
                refine lv_iload_n hx hb dX13_sound_182 rfl (lv_at hl 1 rfl) ?_
                refine lv_if_ne (tgt := 190) hx hb dX13_sound_183 (by decide) (fun c117 => ?_) (fun c117 => ?_)
                · have c117 : ¬ (sa).toInt = (0 : Int) := fun h9 => c117 (hq_eqi.mpr h9)
                  refine lv_iconst (v := 0) hx hb dX13_sound_190 (by decide) ?_
                  obtain ⟨hN120, g119, eV118⟩ := hq_o22 hP.1 (hr_23 hR)
                  refine hp_zast hx hb hZ eV118 (hq_in (by omega) (by omega)) dX13_sound_191 (fun V122 _ _ e123 o124 hZ => ?_)
                  have e123 : V122 (q + 23) = some (.inl (cs 3, 60, .inl (upd (g119) ((k : Int32).toNatClampNeg) ((vp_nar .boolean 0))))) := e123
                  have hP := hP.put (hr_23 hR) e123 o124 (hq_c22 (by omega)) rfl
                  have fx125 : V122 (mo) = some (.inr (13, hm_o q (m_tp) (m_sz) (m_fr) (m_bh) (m_hd) (m_ft) (m_fa) (le8) (m_fo) (m_as) (m_fd) (m_bc) (m_bg) (m_bs) (m_be) (m_b0) (m_b1) (m_cm) (m_hc))) := (o124 (mo) (hq_tne h_mo (hr_23 hR) (by simp))).trans (ho90)
                  have fx126 : V122 (q + 14) = some (.inl (cs 1, 120, .inl (fs))) := (o124 (q + 14) (hq_ne q 14 23 (by decide))).trans ((hP_138.2 (q + 14) _ (hr_14 hR) rfl).trans (ho_fs))
                  have fx127 : V122 (q + 15) = some (.inl (cs 1, 120, .inl (ss))) := (o124 (q + 15) (hq_ne q 15 23 (by decide))).trans ((hP_138.2 (q + 15) _ (hr_15 hR) rfl).trans (ho_ss))
                  exact hp_vret hx hb hr hlocks hZ ⟨rfl, hP, ⟨le8, fx125, by omega⟩, fx126, fx127⟩ dX13_sound_192
                · have c117 : (sa).toInt = (0 : Int) := hq_eqi.mp c117
                  refine lv_iconst (v := 1) hx hb dX13_sound_186 (by decide) ?_
                  refine lv_goto (tgt := 191) hx hb dX13_sound_187 (by decide) ?_
                  obtain ⟨hN130, g129, eV128⟩ := hq_o22 hP.1 (hr_23 hR)
                  refine hp_zast hx hb hZ eV128 (hq_in (by omega) (by omega)) dX13_sound_191 (fun V132 _ _ e133 o134 hZ => ?_)
                  have e133 : V132 (q + 23) = some (.inl (cs 3, 60, .inl (upd (g129) ((k : Int32).toNatClampNeg) ((vp_nar .boolean 1))))) := e133
                  have hP := hP.put (hr_23 hR) e133 o134 (hq_c22 (by omega)) rfl
                  have fx135 : V132 (mo) = some (.inr (13, hm_o q (m_tp) (m_sz) (m_fr) (m_bh) (m_hd) (m_ft) (m_fa) (le8) (m_fo) (m_as) (m_fd) (m_bc) (m_bg) (m_bs) (m_be) (m_b0) (m_b1) (m_cm) (m_hc))) := (o134 (mo) (hq_tne h_mo (hr_23 hR) (by simp))).trans (ho90)
                  have fx136 : V132 (q + 14) = some (.inl (cs 1, 120, .inl (fs))) := (o134 (q + 14) (hq_ne q 14 23 (by decide))).trans ((hP_138.2 (q + 14) _ (hr_14 hR) rfl).trans (ho_fs))
                  have fx137 : V132 (q + 15) = some (.inl (cs 1, 120, .inl (ss))) := (o134 (q + 15) (hq_ne q 15 23 (by decide))).trans ((hP_138.2 (q + 15) _ (hr_15 hR) rfl).trans (ho_ss))
                  exact hp_vret hx hb hr hlocks hZ ⟨rfl, hP, ⟨le8, fx135, by omega⟩, fx136, fx137⟩ dX13_sound_192
              · have c116 : ¬ (sa).toInt = (0 : Int) := fun h9 => c116 (hq_eqi.mpr h9)
                refine lv_aload_n hx hb dX13_sound_148 rfl (lv_at hl 3 rfl) ?_
                refine hp_get (v := .ref (q + 24)) hx hb hts hown hZ ho90 fl_X13_223 rfl dX13_sound_149 ?_
                refine lv_iload hx hb dX13_sound_152 (lv_at hl 0 rfl) ?_
                obtain ⟨hN140, g139, eV138⟩ := hq_o20 hP.1 (hr_24 hR)
                refine hp_bald hx hb hZ eV138 (hq_in (by omega) (by omega)) dX13_sound_154 ?_
                refine lv_topi (fun y142 ey143 => ?_)
                have b145 : (y142).toInt = ((g139) (i : Int32).toNatClampNeg).toInt := by rw [ey143]
                have b144 := hq_rng y142
                refine lv_aload_n hx hb dX13_sound_155 rfl (lv_at hl 3 rfl) ?_
                refine hp_get (v := .ref (q + 21)) hx hb hts hown hZ ho90 fl_X13_213 rfl dX13_sound_156 ?_
                refine lv_iload hx hb dX13_sound_159 (lv_at hl 0 rfl) ?_
                obtain ⟨hN148, g147, eV146⟩ := hq_o20 hP.1 (hr_21 hR)
                refine hp_bald hx hb hZ eV146 (hq_in (by omega) (by omega)) dX13_sound_161 ?_
                refine lv_topi (fun y150 ey151 => ?_)
                have b153 : (y150).toInt = ((g147) (i : Int32).toNatClampNeg).toInt := by rw [ey151]
                have b152 := hq_rng y150
                refine lv_icmp_ne (tgt := 169) hx hb dX13_sound_162 (by decide) (fun c154 => ?_) (fun c154 => ?_)
                · have c154 : ¬ (y142).toInt = (y150).toInt := fun h9 => c154 (hq_eqi.mpr h9)
                  refine lv_iconst (v := 0) hx hb dX13_sound_169 (by decide) ?_
                  refine lv_istore_n (lv' := [(3, .int (0)), (4, .int (i)), (2, .int (m_le)), (0, .ref (mo)), (1, .int (k))]) hx hb dX13_sound_170 rfl hl (by decide) rfl (fun ls hl => ?_)
                  obtain ⟨y155, ey156⟩ : ∃ y : Int32, y = i + (1) := ⟨_, rfl⟩
                  obtain ⟨k157, hk158, b159, b160⟩ := hq_add (i) (1)
                  rw [← ey156] at hk158 b159 b160
                  have hk158 : (y155).toInt = (i).toInt + (1) + k157 * 4294967296 := hk158
                  obtain rfl : k157 = 0 := by omega
                  refine lv_iinc (v := y155) (lv' := [(4, .int (y155)), (3, .int (0)), (2, .int (m_le)), (0, .ref (mo)), (1, .int (k))]) hx hb dX13_sound_171 hl (k := 1) rfl (by rw [ey156]; rfl) (by decide) rfl (fun ls hl => ?_)
                  refine lv_goto (tgt := 138) hx hb dX13_sound_174 (by decide) ?_
                  exact ih138 _ (by omega) _ _ _ ls (0) (y155) rfl hZ hP ho90 (by omega) (by omega) (by omega) (lv_sub hl [0, 1, 2, 3, 4] rfl)
                · have c154 : (y142).toInt = (y150).toInt := hq_eqi.mp c154
                  refine lv_iconst (v := 1) hx hb dX13_sound_165 (by decide) ?_
                  refine lv_goto (tgt := 170) hx hb dX13_sound_166 (by decide) ?_
                  refine lv_istore_n (lv' := [(3, .int (1)), (4, .int (i)), (2, .int (m_le)), (0, .ref (mo)), (1, .int (k))]) hx hb dX13_sound_170 rfl hl (by decide) rfl (fun ls hl => ?_)
                  obtain ⟨y161, ey162⟩ : ∃ y : Int32, y = i + (1) := ⟨_, rfl⟩
                  obtain ⟨k163, hk164, b165, b166⟩ := hq_add (i) (1)
                  rw [← ey162] at hk164 b165 b166
                  have hk164 : (y161).toInt = (i).toInt + (1) + k163 * 4294967296 := hk164
                  obtain rfl : k163 = 0 := by omega
                  refine lv_iinc (v := y161) (lv' := [(4, .int (y161)), (3, .int (1)), (2, .int (m_le)), (0, .ref (mo)), (1, .int (k))]) hx hb dX13_sound_171 hl (k := 1) rfl (by rw [ey162]; rfl) (by decide) rfl (fun ls hl => ?_)
                  refine lv_goto (tgt := 138) hx hb dX13_sound_174 (by decide) ?_
                  exact ih138 _ (by omega) _ _ _ ls (1) (y161) rfl hZ hP ho90 (by omega) (by omega) (by omega) (lv_sub hl [0, 1, 2, 3, 4] rfl)
      refine lv_aload_n hx hb dX13_sound_30 rfl (lv_at hl 2 rfl) ?_
      refine hp_get (v := .ref (q + 16)) hx hb hts hown hZ ho2 fl_X13_47 rfl dX13_sound_31 ?_
      refine lv_iload_n hx hb dX13_sound_34 rfl (lv_at hl 3 rfl) ?_
      obtain ⟨hN169, g168, eV167, hf170⟩ := hq_o21 hP.1 (hr_16 hR)
      refine hp_iald hx hb hZ eV167 (hq_in (by omega) (by omega)) dX13_sound_35 ?_
      refine lv_topi (fun y171 ey172 => ?_)
      have b174 : (y171).toInt = ((g168) (k : Int32).toNatClampNeg).toInt := by rw [ey172]
      have b173 : hq_ir (hq_lo 3) (hq_hi 3) y171 := by rw [ey172]; exact hf170 _ (hq_ix (by omega) (by omega))
      have b173 : 0 ≤ (y171).toInt ∧ (y171).toInt ≤ 29 := b173
      refine lv_iconst (v := 1) hx hb dX13_sound_36 (by decide) ?_
      refine lv_icmp_ne (tgt := 78) hx hb dX13_sound_37 (by decide) (fun c175 => ?_) (fun c175 => ?_)
      · have c175 : ¬ (y171).toInt = (1 : Int) := fun h9 => c175 (hq_eqi.mpr h9)
        refine lv_iconst (v := 0) hx hb dX13_sound_78 (by decide) ?_
        refine lv_istore_n (lv' := [(3, .int (0)), (2, .int (m_le)), (0, .ref (mo)), (1, .int (k))]) hx hb dX13_sound_79 rfl hl (by decide) rfl (fun ls hl => ?_)
        have hl176 : (0 : Int32).toInt = 0 := by decide
        suffices lp80 : ∀ (k9 : Nat) (V9 : hp_V) (H9 : Heap) (locs9 : List Loc) (ls : Array Slot) (i : Int32) (le9 : Int32), (le9.toInt - i.toInt).toNat = k9 → hp_Z D cs B s V9 H9 n locs9 → hq_P cs G (fun g => g.1 == 1 || g.1 == 43) V V9 → V9 (mo) = some (.inr (13, hm_o q (m_tp) (m_sz) (m_fr) (m_bh) (m_hd) (m_ft) (m_fa) (le9) (m_fo) (m_as) (m_fd) (m_bc) (m_bg) (m_bs) (m_be) (m_b0) (m_b1) (m_cm) (m_hc))) → 0 ≤ i.toInt → i.toInt ≤ le9.toInt → 0 ≤ le9.toInt ∧ le9.toInt ≤ 276 → le9.toInt + 7 * (le9.toInt - i.toInt) ≤ 240 → lv_has ls 5 [(3, .int (i)), (2, .int (m_le)), (0, .ref (mo)), (1, .int (k))] → W p l e ({ frames := 2, cells := 0, slots := 0, locals := 45 }) s m ([.ref (mo), .int (k)] : List Value).toArray below meth c H9 locs9 0 0 (MQ below (hp_QV D cs B (fun V' n' => n = n' ∧ hq_P cs G (fun g => g.1 == 1 || g.1 == 43) V V' ∧ (∃ (m_le1 : Int32), V' mo = some (.inr (13, hm_o q (m_tp) (m_sz) (m_fr) (m_bh) (m_hd) (m_ft) (m_fa) (m_le1) (m_fo) (m_as) (m_fd) (m_bc) (m_bg) (m_bs) (m_be) (m_b0) (m_b1) (m_cm) (m_hc))) ∧ (0 ≤ m_le1.toInt ∧ m_le1.toInt ≤ 276)) ∧ (V' (q + 14) = some (.inl (cs 1, 120, .inl (fs)))) ∧ (V' (q + 15) = some (.inl (cs 1, 120, .inl (ss)))))) ([.ref (mo), .int (k)] : List Value).toArray s 0 0 (hp_F B)) (F0 m 80 ls []) from lp80 _ _ _ _ ls (0) (m_le) rfl hZ hP ho2 (by omega) (by omega) (by omega) (by omega) (lv_sub hl [0, 1, 2, 3] rfl)
        intro k9
        induction k9 using Nat.strongRecOn with
        | _ k9 ih80 =>
          intro V9 H9 locs9 ls i le9 hk80 hZ hP ho177 hv178 hv179 hv180 hv181 hl
          have hb_i := hq_rng i
          have hb_le9 := hq_rng le9
          have hP_80 := hP
          refine lv_iload_n hx hb dX13_sound_80 rfl (lv_at hl 0 rfl) ?_
          refine lv_aload_n hx hb dX13_sound_81 rfl (lv_at hl 2 rfl) ?_
          refine hp_get (v := .int (le9)) hx hb hts hown hZ ho177 fl_X13_331 rfl dX13_sound_82 ?_
          refine lv_icmp_ge (tgt := 121) hx hb dX13_sound_85 (by decide) (fun c182 => ?_) (fun c182 => ?_)
          · have c182 : (le9).toInt ≤ (i).toInt := hq_lei.mp c182
            exact jn121 _ _ _ ls (le9) hZ hP ho177 (by omega) (lv_sub hl [1, 2, 3] rfl)
          · have c182 : ¬ (le9).toInt ≤ (i).toInt := fun h9 => c182 (hq_lei.mpr h9)
            refine lv_aload_n hx hb dX13_sound_88 rfl (lv_at hl 2 rfl) ?_
            refine lv_iload_n hx hb dX13_sound_89 rfl (lv_at hl 3 rfl) ?_
            refine lv_iload_n hx hb dX13_sound_90 rfl (lv_at hl 0 rfl) ?_
            have fx190 : V9 (q + 14) = some (.inl (cs 1, 120, .inl (fs))) := (hP_80.2 (q + 14) _ (hr_14 hR) rfl).trans (ho_fs)
            refine hp_calli (hp_runV (As := [.int (k), .int (i)]) (rest := []) hx hb hml hown hts (t_X13_standsAt l D cs B G  V9 n hP.1 q hR (mo) h_mo (k) (i) ho177  (by omega) (by omega) (by omega) (by omega) (by omega) (by omega) (by omega) (by omega) fx190 (by omega) (by omega) (by omega)) hZ ho177 cv_X13_334 rfl rfl ⟨Nat.le_of_ble_eq_true rfl, Nat.le_of_ble_eq_true rfl⟩ rfl hl.1 rfl (Nat.le_of_ble_eq_true rfl) dX13_sound_91 ⟨(Nat.le_of_ble_eq_true rfl), (Nat.le_of_ble_eq_true rfl)⟩) hZ (fun r186 V183 n184 _ _ hw185 hZ => ?_)
            obtain ⟨rfl, hq187, ho189, ho191, hr188⟩ := hw185
            have hP := hP.trans hq187 (fun _ _ => rfl)
            have b192 := hq_rng r186
            refine lv_if_ne (tgt := 103) hx hb dX13_sound_94 (by decide) (fun c193 => ?_) (fun c193 => ?_)
            · have c193 : ¬ (r186).toInt = (0 : Int) := fun h9 => c193 (hq_eqi.mpr h9)
              refine lv_aload_n hx hb dX13_sound_103 rfl (lv_at hl 2 rfl) ?_
              refine lv_iload_n hx hb dX13_sound_104 rfl (lv_at hl 3 rfl) ?_
              refine lv_iload_n hx hb dX13_sound_105 rfl (lv_at hl 0 rfl) ?_
              have fx205 : V183 (q + 15) = some (.inl (cs 1, 120, .inl (ss))) := (hq187.2 (q + 15) _ (hr_15 hR) rfl).trans ((hP_80.2 (q + 15) _ (hr_15 hR) rfl).trans (ho_ss))
              refine hp_callv (hp_runV (As := [.int (k), .int (i)]) (rest := []) hx hb hml hown hts (t_X13_changeAt l D cs B G  V183 n hP.1 q hR (mo) h_mo (k) (i) ho189  (by omega) (by omega) (by omega) (by omega) (by omega) (by omega) (by omega) (by omega) ho191 fx205 (by omega) (by omega) (by omega) (by omega) (by omega)) hZ ho189 cv_X13_338 rfl rfl ⟨Nat.le_of_ble_eq_true rfl, Nat.le_of_ble_eq_true rfl⟩ rfl hl.1 rfl (Nat.le_of_ble_eq_true rfl) dX13_sound_106 ⟨(Nat.le_of_ble_eq_true rfl), (Nat.le_of_ble_eq_true rfl)⟩) hZ (fun V194 n195 _ _ hw196 hZ => ?_)
              obtain ⟨rfl, hq198, ⟨z200, ho201, hi202, hi203⟩, ho204, ho206⟩ := hw196
              have hP := hP.trans hq198 (by intro g h; simp_all)
              have b207 := hq_rng z200
              refine lv_iload_n hx hb dX13_sound_109 rfl (lv_at hl 0 rfl) ?_
              refine lv_aload_n hx hb dX13_sound_110 rfl (lv_at hl 2 rfl) ?_
              refine hp_get (v := .ref (q + 15)) hx hb hts hown hZ ho201 fl_X13_44 rfl dX13_sound_111 ?_
              refine lv_iload_n hx hb dX13_sound_114 rfl (lv_at hl 3 rfl) ?_
              refine hp_iald hx hb hZ ho206 (hq_in (by omega) (by omega)) dX13_sound_115 ?_
              refine lv_topi (fun y208 ey209 => ?_)
              have b211 : (y208).toInt = ((ss) (k : Int32).toNatClampNeg).toInt := by rw [ey209]
              have b210 : hq_ir (hq_lo 1) (hq_hi 1) y208 := by rw [ey209]; exact hf_ss _ (hq_ix (by omega) (by omega))
              have b210 : 0 ≤ (y208).toInt ∧ (y208).toInt ≤ 8 := b210
              refine lv_iadd hx hb dX13_sound_116 ?_
              refine lv_topi (fun y212 ey213 => ?_)
              obtain ⟨k214, hk215, b216, b217⟩ := hq_add (i) (y208)
              rw [← ey213] at hk215 b216 b217
              have hk215 : (y212).toInt = (i).toInt + (y208).toInt + k214 * 4294967296 := hk215
              obtain rfl : k214 = 0 := by omega
              refine lv_istore_n (lv' := [(3, .int (y212)), (2, .int (m_le)), (0, .ref (mo)), (1, .int (k))]) hx hb dX13_sound_117 rfl hl (by decide) rfl (fun ls hl => ?_)
              refine lv_goto (tgt := 80) hx hb dX13_sound_118 (by decide) ?_
              exact ih80 _ (by omega) _ _ _ ls (y212) (z200) rfl hZ hP ho201 (by omega) (by omega) (by omega) (by omega) (lv_sub hl [0, 1, 2, 3] rfl)
            · have c193 : (r186).toInt = (0 : Int) := hq_eqi.mp c193
              obtain ⟨y218, ey219⟩ : ∃ y : Int32, y = i + (1) := ⟨_, rfl⟩
              obtain ⟨k220, hk221, b222, b223⟩ := hq_add (i) (1)
              rw [← ey219] at hk221 b222 b223
              have hk221 : (y218).toInt = (i).toInt + (1) + k220 * 4294967296 := hk221
              obtain rfl : k220 = 0 := by omega
              refine lv_iinc (v := y218) (lv' := [(3, .int (y218)), (2, .int (m_le)), (0, .ref (mo)), (1, .int (k))]) hx hb dX13_sound_97 hl (k := 0) rfl (by rw [ey219]; rfl) (by decide) rfl (fun ls hl => ?_)
              refine lv_goto (tgt := 80) hx hb dX13_sound_100 (by decide) ?_
              exact ih80 _ (by omega) _ _ _ ls (y218) (le9) rfl hZ hP ho189 (by omega) (by omega) (by omega) (by omega) (lv_sub hl [0, 1, 2, 3] rfl)
      · have c175 : (y171).toInt = (1 : Int) := hq_eqi.mp c175
        refine lv_aload_n hx hb dX13_sound_40 rfl (lv_at hl 2 rfl) ?_
        refine lv_iload_n hx hb dX13_sound_41 rfl (lv_at hl 3 rfl) ?_
        refine lv_aload_n hx hb dX13_sound_42 rfl (lv_at hl 2 rfl) ?_
        refine hp_get (v := .int (m_le)) hx hb hts hown hZ ho2 fl_X13_331 rfl dX13_sound_43 ?_
        refine lv_aload_n hx hb dX13_sound_46 rfl (lv_at hl 2 rfl) ?_
        refine hp_get (v := .ref (q + 14)) hx hb hts hown hZ ho2 fl_X13_41 rfl dX13_sound_47 ?_
        refine lv_iload_n hx hb dX13_sound_50 rfl (lv_at hl 3 rfl) ?_
        have fx224 : V9 (q + 14) = some (.inl (cs 1, 120, .inl (fs))) := (hP_7.2 (q + 14) _ (hr_14 hR) rfl).trans (ho_fs)
        refine hp_iald hx hb hZ fx224 (hq_in (by omega) (by omega)) dX13_sound_51 ?_
        refine lv_topi (fun y225 ey226 => ?_)
        have b228 : (y225).toInt = ((fs) (k : Int32).toNatClampNeg).toInt := by rw [ey226]
        have b227 : hq_ir (hq_lo 1) (hq_hi 1) y225 := by rw [ey226]; exact hf_fs _ (hq_ix (by omega) (by omega))
        have b227 : 0 ≤ (y225).toInt ∧ (y225).toInt ≤ 8 := b227
        refine lv_isub hx hb dX13_sound_52 ?_
        refine lv_topi (fun y229 ey230 => ?_)
        obtain ⟨k231, hk232, b233, b234⟩ := hq_sub (m_le) (y225)
        rw [← ey230] at hk232 b233 b234
        have hk232 : (y229).toInt = (m_le).toInt - (y225).toInt + k231 * 4294967296 := hk232
        obtain rfl : k231 = 0 := by omega
        refine hp_calli (hp_runV (As := [.int (k), .int (y229)]) (rest := []) hx hb hml hown hts (t_X13_standsAt l D cs B G  V9 n hP.1 q hR (mo) h_mo (k) (y229) ho2  (by omega) (by omega) (by omega) (by omega) (by omega) (by omega) (by omega) (by omega) fx224 (by omega) (by omega) (by omega)) hZ ho2 cv_X13_334 rfl rfl ⟨Nat.le_of_ble_eq_true rfl, Nat.le_of_ble_eq_true rfl⟩ rfl hl.1 rfl (Nat.le_of_ble_eq_true rfl) dX13_sound_53 ⟨(Nat.le_of_ble_eq_true rfl), (Nat.le_of_ble_eq_true rfl)⟩) hZ (fun r238 V235 n236 _ _ hw237 hZ => ?_)
        obtain ⟨rfl, hq239, ho241, ho242, hr240⟩ := hw237
        have hP := hP.trans hq239 (fun _ _ => rfl)
        have b243 := hq_rng r238
        refine lv_if_eq (tgt := 121) hx hb dX13_sound_56 (by decide) (fun c244 => ?_) (fun c244 => ?_)
        · have c244 : (r238).toInt = (0 : Int) := hq_eqi.mp c244
          exact jn121 _ _ _ ls (m_le) hZ hP ho241 (by omega) (lv_sub hl [1, 2, 3] rfl)
        · have c244 : ¬ (r238).toInt = (0 : Int) := fun h9 => c244 (hq_eqi.mpr h9)
          refine lv_aload_n hx hb dX13_sound_59 rfl (lv_at hl 2 rfl) ?_
          refine lv_iload_n hx hb dX13_sound_60 rfl (lv_at hl 3 rfl) ?_
          refine lv_aload_n hx hb dX13_sound_61 rfl (lv_at hl 2 rfl) ?_
          refine hp_get (v := .int (m_le)) hx hb hts hown hZ ho241 fl_X13_331 rfl dX13_sound_62 ?_
          refine lv_aload_n hx hb dX13_sound_65 rfl (lv_at hl 2 rfl) ?_
          refine hp_get (v := .ref (q + 14)) hx hb hts hown hZ ho241 fl_X13_41 rfl dX13_sound_66 ?_
          refine lv_iload_n hx hb dX13_sound_69 rfl (lv_at hl 3 rfl) ?_
          refine hp_iald hx hb hZ ho242 (hq_in (by omega) (by omega)) dX13_sound_70 ?_
          refine lv_topi (fun y245 ey246 => ?_)
          have b248 : (y245).toInt = ((fs) (k : Int32).toNatClampNeg).toInt := by rw [ey246]
          have b247 : hq_ir (hq_lo 1) (hq_hi 1) y245 := by rw [ey246]; exact hf_fs _ (hq_ix (by omega) (by omega))
          have b247 : 0 ≤ (y245).toInt ∧ (y245).toInt ≤ 8 := b247
          refine lv_isub hx hb dX13_sound_71 ?_
          refine lv_topi (fun y249 ey250 => ?_)
          obtain ⟨k251, hk252, b253, b254⟩ := hq_sub (m_le) (y245)
          rw [← ey250] at hk252 b253 b254
          have hk252 : (y249).toInt = (m_le).toInt - (y245).toInt + k251 * 4294967296 := hk252
          obtain rfl : k251 = 0 := by omega
          have fx266 : V235 (q + 15) = some (.inl (cs 1, 120, .inl (ss))) := (hq239.2 (q + 15) _ (hr_15 hR) rfl).trans ((hP_7.2 (q + 15) _ (hr_15 hR) rfl).trans (ho_ss))
          refine hp_callv (hp_runV (As := [.int (k), .int (y249)]) (rest := []) hx hb hml hown hts (t_X13_changeAt l D cs B G  V235 n hP.1 q hR (mo) h_mo (k) (y249) ho241  (by omega) (by omega) (by omega) (by omega) (by omega) (by omega) (by omega) (by omega) ho242 fx266 (by omega) (by omega) (by omega) (by omega) (by omega)) hZ ho241 cv_X13_338 rfl rfl ⟨Nat.le_of_ble_eq_true rfl, Nat.le_of_ble_eq_true rfl⟩ rfl hl.1 rfl (Nat.le_of_ble_eq_true rfl) dX13_sound_72 ⟨(Nat.le_of_ble_eq_true rfl), (Nat.le_of_ble_eq_true rfl)⟩) hZ (fun V255 n256 _ _ hw257 hZ => ?_)
          obtain ⟨rfl, hq259, ⟨z261, ho262, hi263, hi264⟩, ho265, ho267⟩ := hw257
          have hP := hP.trans hq259 (by intro g h; simp_all)
          have b268 := hq_rng z261
          refine lv_goto (tgt := 121) hx hb dX13_sound_75 (by decide) ?_
          exact jn121 _ _ _ ls (z261) hZ hP ho262 (by omega) (lv_sub hl [1, 2, 3] rfl)
    · have c5 : ¬ (m_le).toInt ≤ (i).toInt := fun h9 => c5 (hq_lei.mpr h9)
      refine lv_aload_n hx hb dX13_sound_12 rfl (lv_at hl 2 rfl) ?_
      refine hp_get (v := .ref (q + 24)) hx hb hts hown hZ ho2 fl_X13_223 rfl dX13_sound_13 ?_
      refine lv_iload_n hx hb dX13_sound_16 rfl (lv_at hl 0 rfl) ?_
      refine lv_aload_n hx hb dX13_sound_17 rfl (lv_at hl 2 rfl) ?_
      refine hp_get (v := .ref (q + 21)) hx hb hts hown hZ ho2 fl_X13_213 rfl dX13_sound_18 ?_
      refine lv_iload_n hx hb dX13_sound_21 rfl (lv_at hl 0 rfl) ?_
      obtain ⟨hN271, g270, eV269⟩ := hq_o20 hP.1 (hr_21 hR)
      refine hp_bald hx hb hZ eV269 (hq_in (by omega) (by omega)) dX13_sound_22 ?_
      refine lv_topi (fun y273 ey274 => ?_)
      have b276 : (y273).toInt = ((g270) (i : Int32).toNatClampNeg).toInt := by rw [ey274]
      have b275 := hq_rng y273
      obtain ⟨hN279, g278, eV277⟩ := hq_o20 hP.1 (hr_24 hR)
      refine hp_bast hx hb hZ eV277 (hq_in (by omega) (by omega)) dX13_sound_23 (fun V281 _ _ e282 o283 hZ => ?_)
      have e282 : V281 (q + 24) = some (.inl (cs 0, 30, .inl (upd (g278) ((i : Int32).toNatClampNeg) ((y273 : Int32).toInt8.toInt32)))) := e282
      have hP := hP.put (hr_24 hR) e282 o283 (hq_c20 (by omega)) rfl
      obtain ⟨y284, ey285⟩ : ∃ y : Int32, y = i + (1) := ⟨_, rfl⟩
      obtain ⟨k286, hk287, b288, b289⟩ := hq_add (i) (1)
      rw [← ey285] at hk287 b288 b289
      have hk287 : (y284).toInt = (i).toInt + (1) + k286 * 4294967296 := hk287
      obtain rfl : k286 = 0 := by omega
      refine lv_iinc (v := y284) (lv' := [(3, .int (y284)), (2, .int (m_le)), (0, .ref (mo)), (1, .int (k))]) hx hb dX13_sound_24 hl (k := 0) rfl (by rw [ey285]; rfl) (by decide) rfl (fun ls hl => ?_)
      refine lv_goto (tgt := 7) hx hb dX13_sound_27 (by decide) ?_
      have fx290 : V281 (mo) = some (.inr (13, hm_o q (m_tp) (m_sz) (m_fr) (m_bh) (m_hd) (m_ft) (m_fa) (m_le) (m_fo) (m_as) (m_fd) (m_bc) (m_bg) (m_bs) (m_be) (m_b0) (m_b1) (m_cm) (m_hc))) := (o283 (mo) (hq_tne h_mo (hr_24 hR) (by simp))).trans (ho2)
      exact ih7 _ (by omega) _ _ _ ls (y284) rfl hZ hP fx290 (by omega) (by omega) (lv_sub hl [0, 1, 2, 3] rfl)

set_option maxHeartbeats 4000000 in
set_option maxRecDepth 100000 in
theorem t_X13_make (l : Launch) (D : va_G) (cs : Nat → ClassId) (B : Nat) (G : hq_G) (V : hp_V) (n : Nat) (hI : hq_I cs G V) (q : Nat) (hR : hq_RT G q) (mo : Nat) (h_mo : G mo = some (24, 0, 0, 0)) (v : Int32) (stm : Int32) (edg : Int32) (no0 : Int32) (no1 : Int32) {m_tp m_sz m_fr m_bh m_hd m_ft m_fa m_le m_fo m_as m_fd m_bc m_bg m_bs m_be m_b0 m_b1 m_cm m_hc : Int32} (ho_mo : V mo = some (.inr (13, hm_o q (m_tp) (m_sz) (m_fr) (m_bh) (m_hd) (m_ft) (m_fa) (m_le) (m_fo) (m_as) (m_fd) (m_bc) (m_bg) (m_bs) (m_be) (m_b0) (m_b1) (m_cm) (m_hc)))) (hi_mo0 : 0 ≤ m_tp.toInt ∧ m_tp.toInt ≤ 4000) (hi_mo1 : 0 ≤ m_sz.toInt ∧ m_sz.toInt ≤ 4000) (hi_mo2 : 0 ≤ m_le.toInt ∧ m_le.toInt ≤ 276) (hi_mo3 : 0 ≤ m_fo.toInt ∧ m_fo.toInt ≤ 4) (hi_mo4 : 0 ≤ m_as.toInt ∧ m_as.toInt ≤ 4000) (hi_mo5 : 0 ≤ m_fd.toInt ∧ m_fd.toInt ≤ 900) (hi_mo6 : 0 ≤ m_cm.toInt ∧ m_cm.toInt ≤ 2) (hi_mo7 : 0 ≤ m_hc.toInt ∧ m_hc.toInt ≤ 1) {fs : Nat → Int32} (ho_fs : V (q + 14) = some (.inl (cs 1, 120, .inl (fs)))) {ss : Nat → Int32} (ho_ss : V (q + 15) = some (.inl (cs 1, 120, .inl (ss)))) {fk : Nat → Int32} (ho_fk : V (q + 10) = some (.inl (cs 1, 120, .inl (fk)))) {fl : Nat → Int32} (ho_fl : V (q + 2) = some (.inl (cs 1, 2, .inl (fl)))) (hv0 : 0 ≤ v.toInt) (hv1 : v.toInt < 30) (hs0 : -1 ≤ stm.toInt) (hs1 : stm.toInt < 60) (he0 : -1 ≤ edg.toInt) (he1 : edg.toInt < 60) (hH : hm_VQ cs V q 0 0) : hp_M l yX13_make cX13_make 7 (some .boolean) ({ frames := 3, cells := 0, slots := 0, locals := 69 }) D cs B V n [.ref (mo), .int (v), .int (stm), .int (edg), .int (no0), .int (no1)] (hp_QI D cs B (fun r V' n' => n = n' ∧ hq_P cs G (fun g => g.1 == 1 || g.1 == 43) V V' ∧ (∃ (m_le1 : Int32), V' mo = some (.inr (13, hm_o q (m_tp) (m_sz) (m_fr) (m_bh) (m_hd) (m_ft) (m_fa) (m_le1) (m_fo) (m_as) (m_fd) (m_bc) (m_bg) (m_bs) (m_be) (m_b0) (m_b1) (m_cm) (m_hc))) ∧ (0 ≤ m_le1.toInt ∧ m_le1.toInt ≤ 276) ∧ (r.toInt = 0 ∨ (r.toInt = 1 ∧ m_le1.toInt ≤ 30))) ∧ (V' (q + 14) = some (.inl (cs 1, 120, .inl (fs)))) ∧ (V' (q + 15) = some (.inl (cs 1, 120, .inl (ss)))) ∧ (V' (q + 10) = some (.inl (cs 1, 120, .inl (fk)))) ∧ (V' (q + 2) = some (.inl (cs 1, 2, .inl (fl)))) ∧ (0 ≤ r.toInt ∧ r.toInt ≤ 1))) 0 0 := by
  refine hp_walk (R0 := RX13) (by decide) rfl ?_ (Nat.le_of_ble_eq_true rfl)
  intro p e s m below meth c ls hx hb hr hts hown hlocks hin hml hZ hl
  have hP : hq_P cs G (fun g => g.1 == 1 || g.1 == 43) V V := hq_P.rf hI
  have hl : lv_has ls 7 [(0, .ref (mo)), (1, .int (v)), (2, .int (stm)), (3, .int (edg)), (4, .int (no0)), (5, .int (no1))] := hl
  have hb_v := hq_rng v
  have hb_stm := hq_rng stm
  have hb_edg := hq_rng edg
  have hb_no0 := hq_rng no0
  have hb_no1 := hq_rng no1
  have hb_m_tp := hq_rng m_tp
  have hb_m_sz := hq_rng m_sz
  have hb_m_fr := hq_rng m_fr
  have hb_m_bh := hq_rng m_bh
  have hb_m_hd := hq_rng m_hd
  have hb_m_ft := hq_rng m_ft
  have hb_m_fa := hq_rng m_fa
  have hb_m_le := hq_rng m_le
  have hb_m_fo := hq_rng m_fo
  have hb_m_as := hq_rng m_as
  have hb_m_fd := hq_rng m_fd
  have hb_m_bc := hq_rng m_bc
  have hb_m_bg := hq_rng m_bg
  have hb_m_bs := hq_rng m_bs
  have hb_m_be := hq_rng m_be
  have hb_m_b0 := hq_rng m_b0
  have hb_m_b1 := hq_rng m_b1
  have hb_m_cm := hq_rng m_cm
  have hb_m_hc := hq_rng m_hc
  have hf_fs := hq_rg hI (hr_14 hR) ho_fs
  have hf_ss := hq_rg hI (hr_15 hR) ho_ss
  have hf_fk := hq_rg hI (hr_10 hR) ho_fk
  have hf_fl := hq_rg hI (hr_2 hR) ho_fl
  refine lv_aload_n hx hb dX13_make_0 rfl (lv_at hl 0 rfl) ?_
  refine lv_aload_n hx hb dX13_make_1 rfl (lv_at hl 0 rfl) ?_
  refine hp_get (v := .ref (q + 8)) hx hb hts hown hZ ho_mo fl_X13_13 rfl dX13_make_2 ?_
  refine lv_iload_n hx hb dX13_make_5 rfl (lv_at hl 1 rfl) ?_
  obtain ⟨hN3, g2, eV1, hf4⟩ := hq_o21 hP.1 (hr_8 hR)
  refine hp_iald hx hb hZ eV1 (hq_in (by omega) (by omega)) dX13_make_6 ?_
  refine lv_topi (fun y5 ey6 => ?_)
  have b8 : (y5).toInt = ((g2) (v : Int32).toNatClampNeg).toInt := by rw [ey6]
  have b7 : hq_ir (hq_lo 2) (hq_hi 2) y5 := by rw [ey6]; exact hf4 _ (hq_ix (by omega) (by omega))
  have b7 : 0 ≤ (y5).toInt ∧ (y5).toInt ≤ 12 := b7
  refine hp_put hx hb hts hown hZ ho_mo fp_X13_331 rfl rfl (Nat.le_of_ble_eq_true rfl) dX13_make_7 (fun V9 _ _ e10 o11 hZ => ?_)
  have e10 : V9 (mo) = some (.inr (13, hm_o q (m_tp) (m_sz) (m_fr) (m_bh) (m_hd) (m_ft) (m_fa) (y5) (m_fo) (m_as) (m_fd) (m_bc) (m_bg) (m_bs) (m_be) (m_b0) (m_b1) (m_cm) (m_hc))) := e10
  have hP := hP.put h_mo e10 o11 (trivial) rfl
  refine lv_iconst (v := 0) hx hb dX13_make_10 (by decide) ?_
  refine lv_istore (lv' := [(6, .int (0)), (0, .ref (mo)), (1, .int (v)), (2, .int (stm)), (3, .int (edg)), (4, .int (no0)), (5, .int (no1))]) hx hb dX13_make_11 hl (by decide) rfl (fun ls hl => ?_)
  have hl12 : (0 : Int32).toInt = 0 := by decide
  suffices lp13 : ∀ (k9 : Nat) (V9 : hp_V) (H9 : Heap) (locs9 : List Loc) (ls : Array Slot) (i : Int32) (le9 : Int32), (100 - i.toInt).toNat = k9 → hp_Z D cs B s V9 H9 n locs9 → hq_P cs G (fun g => g.1 == 1 || g.1 == 43) V V9 → V9 (mo) = some (.inr (13, hm_o q (m_tp) (m_sz) (m_fr) (m_bh) (m_hd) (m_ft) (m_fa) (le9) (m_fo) (m_as) (m_fd) (m_bc) (m_bg) (m_bs) (m_be) (m_b0) (m_b1) (m_cm) (m_hc))) → 0 ≤ i.toInt → i.toInt ≤ 12 → 0 ≤ le9.toInt ∧ le9.toInt ≤ 12 → lv_has ls 7 [(6, .int (i)), (0, .ref (mo)), (1, .int (v)), (2, .int (stm)), (3, .int (edg)), (4, .int (no0)), (5, .int (no1))] → W p l e ({ frames := 3, cells := 0, slots := 0, locals := 69 }) s m ([.ref (mo), .int (v), .int (stm), .int (edg), .int (no0), .int (no1)] : List Value).toArray below meth c H9 locs9 0 0 (MQ below (hp_QI D cs B (fun r V' n' => n = n' ∧ hq_P cs G (fun g => g.1 == 1 || g.1 == 43) V V' ∧ (∃ (m_le1 : Int32), V' mo = some (.inr (13, hm_o q (m_tp) (m_sz) (m_fr) (m_bh) (m_hd) (m_ft) (m_fa) (m_le1) (m_fo) (m_as) (m_fd) (m_bc) (m_bg) (m_bs) (m_be) (m_b0) (m_b1) (m_cm) (m_hc))) ∧ (0 ≤ m_le1.toInt ∧ m_le1.toInt ≤ 276) ∧ (r.toInt = 0 ∨ (r.toInt = 1 ∧ m_le1.toInt ≤ 30))) ∧ (V' (q + 14) = some (.inl (cs 1, 120, .inl (fs)))) ∧ (V' (q + 15) = some (.inl (cs 1, 120, .inl (ss)))) ∧ (V' (q + 10) = some (.inl (cs 1, 120, .inl (fk)))) ∧ (V' (q + 2) = some (.inl (cs 1, 2, .inl (fl)))) ∧ (0 ≤ r.toInt ∧ r.toInt ≤ 1))) ([.ref (mo), .int (v), .int (stm), .int (edg), .int (no0), .int (no1)] : List Value).toArray s 0 0 (hp_F B)) (F0 m 13 ls []) from lp13 _ _ _ _ ls (0) (y5) rfl hZ hP e10 (by omega) (by omega) (by omega) (lv_sub hl [0, 1, 2, 3, 4, 5, 6] rfl)
  intro k9
  induction k9 using Nat.strongRecOn with
  | _ k9 ih13 =>
    intro V9 H9 locs9 ls i le9 hk13 hZ hP ho13 hv14 hv15 hv16 hl
    have hb_i := hq_rng i
    have hb_le9 := hq_rng le9
    have hP_13 := hP
    refine lv_iload hx hb dX13_make_13 (lv_at hl 0 rfl) ?_
    refine lv_aload_n hx hb dX13_make_15 rfl (lv_at hl 1 rfl) ?_
    refine hp_get (v := .int (le9)) hx hb hts hown hZ ho13 fl_X13_331 rfl dX13_make_16 ?_
    refine lv_icmp_ge (tgt := 47) hx hb dX13_make_19 (by decide) (fun c17 => ?_) (fun c17 => ?_)
    · have c17 : (le9).toInt ≤ (i).toInt := hq_lei.mp c17
      refine lv_iconst (v := 0) hx hb dX13_make_47 (by decide) ?_
      refine lv_istore (lv' := [(6, .int (0)), (0, .ref (mo)), (1, .int (v)), (2, .int (stm)), (3, .int (edg)), (4, .int (no0)), (5, .int (no1))]) hx hb dX13_make_48 hl (by decide) rfl (fun ls hl => ?_)
      have hl18 : (0 : Int32).toInt = 0 := by decide
      suffices lp50 : ∀ (k9 : Nat) (V9 : hp_V) (H9 : Heap) (locs9 : List Loc) (ls : Array Slot) (i : Int32) (le7 : Int32), (100 - i.toInt).toNat = k9 → hp_Z D cs B s V9 H9 n locs9 → hq_P cs G (fun g => g.1 == 1 || g.1 == 43) V V9 → V9 (mo) = some (.inr (13, hm_o q (m_tp) (m_sz) (m_fr) (m_bh) (m_hd) (m_ft) (m_fa) (le7) (m_fo) (m_as) (m_fd) (m_bc) (m_bg) (m_bs) (m_be) (m_b0) (m_b1) (m_cm) (m_hc))) → 0 ≤ i.toInt → i.toInt ≤ 60 → 0 ≤ le7.toInt ∧ le7.toInt ≤ 12 → lv_has ls 7 [(6, .int (i)), (0, .ref (mo)), (1, .int (v)), (2, .int (stm)), (3, .int (edg)), (4, .int (no0)), (5, .int (no1))] → W p l e ({ frames := 3, cells := 0, slots := 0, locals := 69 }) s m ([.ref (mo), .int (v), .int (stm), .int (edg), .int (no0), .int (no1)] : List Value).toArray below meth c H9 locs9 0 0 (MQ below (hp_QI D cs B (fun r V' n' => n = n' ∧ hq_P cs G (fun g => g.1 == 1 || g.1 == 43) V V' ∧ (∃ (m_le1 : Int32), V' mo = some (.inr (13, hm_o q (m_tp) (m_sz) (m_fr) (m_bh) (m_hd) (m_ft) (m_fa) (m_le1) (m_fo) (m_as) (m_fd) (m_bc) (m_bg) (m_bs) (m_be) (m_b0) (m_b1) (m_cm) (m_hc))) ∧ (0 ≤ m_le1.toInt ∧ m_le1.toInt ≤ 276) ∧ (r.toInt = 0 ∨ (r.toInt = 1 ∧ m_le1.toInt ≤ 30))) ∧ (V' (q + 14) = some (.inl (cs 1, 120, .inl (fs)))) ∧ (V' (q + 15) = some (.inl (cs 1, 120, .inl (ss)))) ∧ (V' (q + 10) = some (.inl (cs 1, 120, .inl (fk)))) ∧ (V' (q + 2) = some (.inl (cs 1, 2, .inl (fl)))) ∧ (0 ≤ r.toInt ∧ r.toInt ≤ 1))) ([.ref (mo), .int (v), .int (stm), .int (edg), .int (no0), .int (no1)] : List Value).toArray s 0 0 (hp_F B)) (F0 m 50 ls []) from lp50 _ _ _ _ ls (0) (le9) rfl hZ hP ho13 (by omega) (by omega) (by omega) (lv_sub hl [0, 1, 2, 3, 4, 5, 6] rfl)
      intro k9
      induction k9 using Nat.strongRecOn with
      | _ k9 ih50 =>
        intro V9 H9 locs9 ls i le7 hk50 hZ hP ho19 hv20 hv21 hv22 hl
        have hb_i := hq_rng i
        have hb_le7 := hq_rng le7
        have hP_50 := hP
        refine lv_iload hx hb dX13_make_50 (lv_at hl 0 rfl) ?_
        refine lv_bipush (v := 60) hx hb dX13_make_52 (by decide) ?_
        refine lv_icmp_ge (tgt := 71) hx hb dX13_make_54 (by decide) (fun c23 => ?_) (fun c23 => ?_)
        · have c23 : (60 : Int) ≤ (i).toInt := hq_lei.mp c23
          have jn131 : ∀ (V9 : hp_V) (H9 : Heap) (locs9 : List Loc) (ls : Array Slot)  (le131 : Int32), hp_Z D cs B s V9 H9 n locs9 → hq_P cs G (fun g => g.1 == 1 || g.1 == 43) V V9 → V9 (mo) = some (.inr (13, hm_o q (m_tp) (m_sz) (m_fr) (m_bh) (m_hd) (m_ft) (m_fa) (le131) (m_fo) (m_as) (m_fd) (m_bc) (m_bg) (m_bs) (m_be) (m_b0) (m_b1) (m_cm) (m_hc))) → 0 ≤ le131.toInt ∧ le131.toInt ≤ 276 → lv_has ls 7 [(0, .ref (mo)), (1, .int (v)), (2, .int (stm)), (3, .int (edg)), (4, .int (no0)), (5, .int (no1))] → W p l e ({ frames := 3, cells := 0, slots := 0, locals := 69 }) s m ([.ref (mo), .int (v), .int (stm), .int (edg), .int (no0), .int (no1)] : List Value).toArray below meth c H9 locs9 0 0 (MQ below (hp_QI D cs B (fun r V' n' => n = n' ∧ hq_P cs G (fun g => g.1 == 1 || g.1 == 43) V V' ∧ (∃ (m_le1 : Int32), V' mo = some (.inr (13, hm_o q (m_tp) (m_sz) (m_fr) (m_bh) (m_hd) (m_ft) (m_fa) (m_le1) (m_fo) (m_as) (m_fd) (m_bc) (m_bg) (m_bs) (m_be) (m_b0) (m_b1) (m_cm) (m_hc))) ∧ (0 ≤ m_le1.toInt ∧ m_le1.toInt ≤ 276) ∧ (r.toInt = 0 ∨ (r.toInt = 1 ∧ m_le1.toInt ≤ 30))) ∧ (V' (q + 14) = some (.inl (cs 1, 120, .inl (fs)))) ∧ (V' (q + 15) = some (.inl (cs 1, 120, .inl (ss)))) ∧ (V' (q + 10) = some (.inl (cs 1, 120, .inl (fk)))) ∧ (V' (q + 2) = some (.inl (cs 1, 2, .inl (fl)))) ∧ (0 ≤ r.toInt ∧ r.toInt ≤ 1))) ([.ref (mo), .int (v), .int (stm), .int (edg), .int (no0), .int (no1)] : List Value).toArray s 0 0 (hp_F B)) (F0 m 131 ls []) := by
            intro V9 H9 locs9 ls   le131 hZ hP  ho24 hv25 hl
            have hb_le131 := hq_rng le131
            have hPj131 := hP
            refine lv_aload_n hx hb dX13_make_131 rfl (lv_at hl 0 rfl) ?_
            refine hp_get (v := .int (le131)) hx hb hts hown hZ ho24 fl_X13_331 rfl dX13_make_132 ?_
            refine lv_bipush (v := 30) hx hb dX13_make_135 (by decide) ?_
            refine lv_icmp_le (tgt := 142) hx hb dX13_make_137 (by decide) (fun c26 => ?_) (fun c26 => ?_)
            · have c26 : (le131).toInt ≤ (30 : Int) := hq_lei.mp c26
              have jn205 : ∀ (V9 : hp_V) (H9 : Heap) (locs9 : List Loc) (ls : Array Slot)  (le205 : Int32), hp_Z D cs B s V9 H9 n locs9 → hq_P cs G (fun g => g.1 == 1 || g.1 == 43) V V9 → V9 (mo) = some (.inr (13, hm_o q (m_tp) (m_sz) (m_fr) (m_bh) (m_hd) (m_ft) (m_fa) (le205) (m_fo) (m_as) (m_fd) (m_bc) (m_bg) (m_bs) (m_be) (m_b0) (m_b1) (m_cm) (m_hc))) → 0 ≤ le205.toInt ∧ le205.toInt ≤ 276 → lv_has ls 7 [(0, .ref (mo)), (1, .int (v)), (2, .int (stm)), (3, .int (edg)), (4, .int (no0)), (5, .int (no1))] → W p l e ({ frames := 3, cells := 0, slots := 0, locals := 69 }) s m ([.ref (mo), .int (v), .int (stm), .int (edg), .int (no0), .int (no1)] : List Value).toArray below meth c H9 locs9 0 0 (MQ below (hp_QI D cs B (fun r V' n' => n = n' ∧ hq_P cs G (fun g => g.1 == 1 || g.1 == 43) V V' ∧ (∃ (m_le1 : Int32), V' mo = some (.inr (13, hm_o q (m_tp) (m_sz) (m_fr) (m_bh) (m_hd) (m_ft) (m_fa) (m_le1) (m_fo) (m_as) (m_fd) (m_bc) (m_bg) (m_bs) (m_be) (m_b0) (m_b1) (m_cm) (m_hc))) ∧ (0 ≤ m_le1.toInt ∧ m_le1.toInt ≤ 276) ∧ (r.toInt = 0 ∨ (r.toInt = 1 ∧ m_le1.toInt ≤ 30))) ∧ (V' (q + 14) = some (.inl (cs 1, 120, .inl (fs)))) ∧ (V' (q + 15) = some (.inl (cs 1, 120, .inl (ss)))) ∧ (V' (q + 10) = some (.inl (cs 1, 120, .inl (fk)))) ∧ (V' (q + 2) = some (.inl (cs 1, 2, .inl (fl)))) ∧ (0 ≤ r.toInt ∧ r.toInt ≤ 1))) ([.ref (mo), .int (v), .int (stm), .int (edg), .int (no0), .int (no1)] : List Value).toArray s 0 0 (hp_F B)) (F0 m 205 ls []) := by
                intro V9 H9 locs9 ls   le205 hZ hP  ho27 hv28 hl
                have hb_le205 := hq_rng le205
                have hPj205 := hP
                refine lv_aload_n hx hb dX13_make_205 rfl (lv_at hl 0 rfl) ?_
                refine hp_get (v := .int (le205)) hx hb hts hown hZ ho27 fl_X13_331 rfl dX13_make_206 ?_
                refine lv_bipush (v := 30) hx hb dX13_make_209 (by decide) ?_
                refine lv_icmp_le (tgt := 216) hx hb dX13_make_211 (by decide) (fun c29 => ?_) (fun c29 => ?_)
                · have c29 : (le205).toInt ≤ (30 : Int) := hq_lei.mp c29
                  refine lv_iconst (v := 0) hx hb dX13_make_216 (by decide) ?_
                  refine lv_istore (lv' := [(6, .int (0)), (0, .ref (mo)), (1, .int (v)), (2, .int (stm)), (3, .int (edg)), (4, .int (no0)), (5, .int (no1))]) hx hb dX13_make_217 hl (by decide) rfl (fun ls hl => ?_)
                  have hl30 : (0 : Int32).toInt = 0 := by decide
                  suffices lp219 : ∀ (k9 : Nat) (V9 : hp_V) (H9 : Heap) (locs9 : List Loc) (ls : Array Slot) (i : Int32) (le4 : Int32), (100 - i.toInt).toNat = k9 → hp_Z D cs B s V9 H9 n locs9 → hq_P cs G (fun g => g.1 == 1 || g.1 == 43) V V9 → V9 (mo) = some (.inr (13, hm_o q (m_tp) (m_sz) (m_fr) (m_bh) (m_hd) (m_ft) (m_fa) (le4) (m_fo) (m_as) (m_fd) (m_bc) (m_bg) (m_bs) (m_be) (m_b0) (m_b1) (m_cm) (m_hc))) → 0 ≤ i.toInt → i.toInt ≤ 60 → 0 ≤ le4.toInt ∧ le4.toInt ≤ 30 → lv_has ls 7 [(6, .int (i)), (0, .ref (mo)), (1, .int (v)), (2, .int (stm)), (3, .int (edg)), (4, .int (no0)), (5, .int (no1))] → W p l e ({ frames := 3, cells := 0, slots := 0, locals := 69 }) s m ([.ref (mo), .int (v), .int (stm), .int (edg), .int (no0), .int (no1)] : List Value).toArray below meth c H9 locs9 0 0 (MQ below (hp_QI D cs B (fun r V' n' => n = n' ∧ hq_P cs G (fun g => g.1 == 1 || g.1 == 43) V V' ∧ (∃ (m_le1 : Int32), V' mo = some (.inr (13, hm_o q (m_tp) (m_sz) (m_fr) (m_bh) (m_hd) (m_ft) (m_fa) (m_le1) (m_fo) (m_as) (m_fd) (m_bc) (m_bg) (m_bs) (m_be) (m_b0) (m_b1) (m_cm) (m_hc))) ∧ (0 ≤ m_le1.toInt ∧ m_le1.toInt ≤ 276) ∧ (r.toInt = 0 ∨ (r.toInt = 1 ∧ m_le1.toInt ≤ 30))) ∧ (V' (q + 14) = some (.inl (cs 1, 120, .inl (fs)))) ∧ (V' (q + 15) = some (.inl (cs 1, 120, .inl (ss)))) ∧ (V' (q + 10) = some (.inl (cs 1, 120, .inl (fk)))) ∧ (V' (q + 2) = some (.inl (cs 1, 2, .inl (fl)))) ∧ (0 ≤ r.toInt ∧ r.toInt ≤ 1))) ([.ref (mo), .int (v), .int (stm), .int (edg), .int (no0), .int (no1)] : List Value).toArray s 0 0 (hp_F B)) (F0 m 219 ls []) from lp219 _ _ _ _ ls (0) (le205) rfl hZ hP ho27 (by omega) (by omega) (by omega) (lv_sub hl [0, 1, 2, 3, 4, 5, 6] rfl)
                  intro k9
                  induction k9 using Nat.strongRecOn with
                  | _ k9 ih219 =>
                    intro V9 H9 locs9 ls i le4 hk219 hZ hP ho31 hv32 hv33 hv34 hl
                    have hb_i := hq_rng i
                    have hb_le4 := hq_rng le4
                    have hP_219 := hP
                    refine lv_iload hx hb dX13_make_219 (lv_at hl 0 rfl) ?_
                    refine lv_aload_n hx hb dX13_make_221 rfl (lv_at hl 1 rfl) ?_
                    refine hp_get (v := .ref (q + 2)) hx hb hts hown hZ ho31 fl_X13_10 rfl dX13_make_222 ?_
                    refine lv_iconst (v := 0) hx hb dX13_make_225 (by decide) ?_
                    have fx35 : V9 (q + 2) = some (.inl (cs 1, 2, .inl (fl))) := (hP_219.2 (q + 2) _ (hr_2 hR) rfl).trans (ho_fl)
                    refine hp_iald hx hb hZ fx35 (by unfold vp_in; decide) dX13_make_226 ?_
                    refine lv_topi (fun y36 ey37 => ?_)
                    have b39 : (y36).toInt = ((fl) (0 : Int32).toNatClampNeg).toInt := by rw [ey37]
                    have b38 : hq_ir (hq_lo 8) (hq_hi 8) y36 := by rw [ey37]; exact hf_fl _ (by decide)
                    have b38 : 0 ≤ (y36).toInt ∧ (y36).toInt ≤ 60 := b38
                    refine lv_icmp_ge (tgt := 281) hx hb dX13_make_227 (by decide) (fun c40 => ?_) (fun c40 => ?_)
                    · have c40 : (y36).toInt ≤ (i).toInt := hq_lei.mp c40
                      refine lv_aload_n hx hb dX13_make_281 rfl (lv_at hl 1 rfl) ?_
                      refine hp_get (v := .int (le4)) hx hb hts hown hZ ho31 fl_X13_331 rfl dX13_make_282 ?_
                      refine lv_if_le (tgt := 292) hx hb dX13_make_285 (by decide) (fun c41 => ?_) (fun c41 => ?_)
                      · have c41 : (le4).toInt ≤ (0 : Int) := hq_lei.mp c41
                        refine lv_iconst (v := 0) hx hb dX13_make_292 (by decide) ?_
                        have fx42 : V9 (q + 14) = some (.inl (cs 1, 120, .inl (fs))) := (hP_219.2 (q + 14) _ (hr_14 hR) rfl).trans (ho_fs)
                        have fx43 : V9 (q + 15) = some (.inl (cs 1, 120, .inl (ss))) := (hP_219.2 (q + 15) _ (hr_15 hR) rfl).trans (ho_ss)
                        have fx44 : V9 (q + 10) = some (.inl (cs 1, 120, .inl (fk))) := (hP_219.2 (q + 10) _ (hr_10 hR) rfl).trans (ho_fk)
                        exact hp_zret hx hb hr rfl hlocks hZ ⟨rfl, hP, ⟨le4, ho31, by omega, by first | decide | (have h0 : (0 : Int32).toInt = 0 := rfl; have h1 : (1 : Int32).toInt = 1 := rfl; omega)⟩, fx42, fx43, fx44, fx35, (by decide)⟩ dX13_make_293
                      · have c41 : ¬ (le4).toInt ≤ (0 : Int) := fun h9 => c41 (hq_lei.mpr h9)
                        refine lv_iconst (v := 1) hx hb dX13_make_288 (by decide) ?_
                        refine lv_goto (tgt := 293) hx hb dX13_make_289 (by decide) ?_
                        have fx45 : V9 (q + 14) = some (.inl (cs 1, 120, .inl (fs))) := (hP_219.2 (q + 14) _ (hr_14 hR) rfl).trans (ho_fs)
                        have fx46 : V9 (q + 15) = some (.inl (cs 1, 120, .inl (ss))) := (hP_219.2 (q + 15) _ (hr_15 hR) rfl).trans (ho_ss)
                        have fx47 : V9 (q + 10) = some (.inl (cs 1, 120, .inl (fk))) := (hP_219.2 (q + 10) _ (hr_10 hR) rfl).trans (ho_fk)
                        exact hp_zret hx hb hr rfl hlocks hZ ⟨rfl, hP, ⟨le4, ho31, by omega, by first | decide | (have h0 : (0 : Int32).toInt = 0 := rfl; have h1 : (1 : Int32).toInt = 1 := rfl; omega)⟩, fx45, fx46, fx47, fx35, (by decide)⟩ dX13_make_293
                    · have c40 : ¬ (y36).toInt ≤ (i).toInt := fun h9 => c40 (hq_lei.mpr h9)
                      refine lv_aload_n hx hb dX13_make_230 rfl (lv_at hl 1 rfl) ?_
                      refine hp_get (v := .ref (q + 10)) hx hb hts hown hZ ho31 fl_X13_29 rfl dX13_make_231 ?_
                      refine lv_iload hx hb dX13_make_234 (lv_at hl 0 rfl) ?_
                      have fx48 : V9 (q + 10) = some (.inl (cs 1, 120, .inl (fk))) := (hP_219.2 (q + 10) _ (hr_10 hR) rfl).trans (ho_fk)
                      refine hp_iald hx hb hZ fx48 (hq_in (by omega) (by omega)) dX13_make_236 ?_
                      refine lv_topi (fun y49 ey50 => ?_)
                      have b52 : (y49).toInt = ((fk) (i : Int32).toNatClampNeg).toInt := by rw [ey50]
                      have b51 := hq_rng y49
                      refine lv_iconst (v := 2) hx hb dX13_make_237 (by decide) ?_
                      refine lv_icmp_ne (tgt := 275) hx hb dX13_make_238 (by decide) (fun c53 => ?_) (fun c53 => ?_)
                      · have c53 : ¬ (y49).toInt = (2 : Int) := fun h9 => c53 (hq_eqi.mpr h9)
                        obtain ⟨y54, ey55⟩ : ∃ y : Int32, y = i + (1) := ⟨_, rfl⟩
                        obtain ⟨k56, hk57, b58, b59⟩ := hq_add (i) (1)
                        rw [← ey55] at hk57 b58 b59
                        have hk57 : (y54).toInt = (i).toInt + (1) + k56 * 4294967296 := hk57
                        refine lv_iinc (v := y54) (lv' := [(6, .int (y54)), (0, .ref (mo)), (1, .int (v)), (2, .int (stm)), (3, .int (edg)), (4, .int (no0)), (5, .int (no1))]) hx hb dX13_make_275 hl (k := 0) rfl (by rw [ey55]; rfl) (by decide) rfl (fun ls hl => ?_)
                        refine lv_goto (tgt := 219) hx hb dX13_make_278 (by decide) ?_
                        exact ih219 _ (by omega) _ _ _ ls (y54) (le4) rfl hZ hP ho31 (by omega) (by omega) (by omega) (lv_sub hl [0, 1, 2, 3, 4, 5, 6] rfl)
                      · have c53 : (y49).toInt = (2 : Int) := hq_eqi.mp c53
                        refine lv_iload hx hb dX13_make_241 (lv_at hl 0 rfl) ?_
                        refine lv_iload hx hb dX13_make_243 (lv_at hl 5 rfl) ?_
                        refine lv_icmp_eq (tgt := 275) hx hb dX13_make_245 (by decide) (fun c60 => ?_) (fun c60 => ?_)
                        · have c60 : (i).toInt = (no0).toInt := hq_eqi.mp c60
                          obtain ⟨y61, ey62⟩ : ∃ y : Int32, y = i + (1) := ⟨_, rfl⟩
                          obtain ⟨k63, hk64, b65, b66⟩ := hq_add (i) (1)
                          rw [← ey62] at hk64 b65 b66
                          have hk64 : (y61).toInt = (i).toInt + (1) + k63 * 4294967296 := hk64
                          refine lv_iinc (v := y61) (lv' := [(6, .int (y61)), (0, .ref (mo)), (1, .int (v)), (2, .int (stm)), (3, .int (edg)), (4, .int (no0)), (5, .int (no1))]) hx hb dX13_make_275 hl (k := 0) rfl (by rw [ey62]; rfl) (by decide) rfl (fun ls hl => ?_)
                          refine lv_goto (tgt := 219) hx hb dX13_make_278 (by decide) ?_
                          exact ih219 _ (by omega) _ _ _ ls (y61) (le4) rfl hZ hP ho31 (by omega) (by omega) (by omega) (lv_sub hl [0, 1, 2, 3, 4, 5, 6] rfl)
                        · have c60 : ¬ (i).toInt = (no0).toInt := fun h9 => c60 (hq_eqi.mpr h9)
                          refine lv_iload hx hb dX13_make_248 (lv_at hl 0 rfl) ?_
                          refine lv_iload hx hb dX13_make_250 (lv_at hl 6 rfl) ?_
                          refine lv_icmp_ne (tgt := 258) hx hb dX13_make_252 (by decide) (fun c67 => ?_) (fun c67 => ?_)
                          · have c67 : ¬ (i).toInt = (no1).toInt := fun h9 => c67 (hq_eqi.mpr h9)
                            refine lv_aload_n hx hb dX13_make_258 rfl (lv_at hl 1 rfl) ?_
                            refine lv_iload hx hb dX13_make_259 (lv_at hl 0 rfl) ?_
                            have hs9 := hm_VQ.at hH ho_fk ho_fs ho_fl (l := i) (by omega) (by omega) (by omega)
                            have fx77 : V9 (q + 14) = some (.inl (cs 1, 120, .inl (fs))) := (hP_219.2 (q + 14) _ (hr_14 hR) rfl).trans (ho_fs)
                            have fx79 : V9 (q + 15) = some (.inl (cs 1, 120, .inl (ss))) := (hP_219.2 (q + 15) _ (hr_15 hR) rfl).trans (ho_ss)
                            refine hp_callv (hp_runV (As := [.int (i)]) (rest := []) hx hb hml hown hts (t_X13_sound l D cs B G  V9 n hP.1 q hR (mo) h_mo (i) ho31  (by omega) (by omega) (by omega) (by omega) (by omega) (by omega) (by omega) (by omega) fx77 fx79 (by omega) (by omega) (by omega) (by omega)) hZ ho31 cv_X13_342 rfl rfl ⟨Nat.le_of_ble_eq_true rfl, Nat.le_of_ble_eq_true rfl⟩ rfl hl.1 rfl (Nat.le_of_ble_eq_true rfl) dX13_make_261 ⟨(Nat.le_of_ble_eq_true rfl), (Nat.le_of_ble_eq_true rfl)⟩) hZ (fun V68 n69 _ _ hw70 hZ => ?_)
                            obtain ⟨rfl, hq72, ⟨z74, ho75, hi76⟩, ho78, ho80⟩ := hw70
                            have hP := hP.trans hq72 (by intro g h; simp_all)
                            have b81 := hq_rng z74
                            refine lv_aload_n hx hb dX13_make_264 rfl (lv_at hl 1 rfl) ?_
                            refine hp_get (v := .int (z74)) hx hb hts hown hZ ho75 fl_X13_331 rfl dX13_make_265 ?_
                            refine lv_bipush (v := 30) hx hb dX13_make_268 (by decide) ?_
                            refine lv_icmp_le (tgt := 275) hx hb dX13_make_270 (by decide) (fun c82 => ?_) (fun c82 => ?_)
                            · have c82 : (z74).toInt ≤ (30 : Int) := hq_lei.mp c82
                              obtain ⟨y83, ey84⟩ : ∃ y : Int32, y = i + (1) := ⟨_, rfl⟩
                              obtain ⟨k85, hk86, b87, b88⟩ := hq_add (i) (1)
                              rw [← ey84] at hk86 b87 b88
                              have hk86 : (y83).toInt = (i).toInt + (1) + k85 * 4294967296 := hk86
                              refine lv_iinc (v := y83) (lv' := [(6, .int (y83)), (0, .ref (mo)), (1, .int (v)), (2, .int (stm)), (3, .int (edg)), (4, .int (no0)), (5, .int (no1))]) hx hb dX13_make_275 hl (k := 0) rfl (by rw [ey84]; rfl) (by decide) rfl (fun ls hl => ?_)
                              refine lv_goto (tgt := 219) hx hb dX13_make_278 (by decide) ?_
                              exact ih219 _ (by omega) _ _ _ ls (y83) (z74) rfl hZ hP ho75 (by omega) (by omega) (by omega) (lv_sub hl [0, 1, 2, 3, 4, 5, 6] rfl)
                            · have c82 : ¬ (z74).toInt ≤ (30 : Int) := fun h9 => c82 (hq_lei.mpr h9)
                              refine lv_iconst (v := 0) hx hb dX13_make_273 (by decide) ?_
                              have fx89 : V68 (q + 10) = some (.inl (cs 1, 120, .inl (fk))) := (hq72.2 (q + 10) _ (hr_10 hR) rfl).trans (fx48)
                              have fx90 : V68 (q + 2) = some (.inl (cs 1, 2, .inl (fl))) := (hq72.2 (q + 2) _ (hr_2 hR) rfl).trans (fx35)
                              exact hp_zret hx hb hr rfl hlocks hZ ⟨rfl, hP, ⟨z74, ho75, by omega, by first | decide | (have h0 : (0 : Int32).toInt = 0 := rfl; have h1 : (1 : Int32).toInt = 1 := rfl; omega)⟩, ho78, ho80, fx89, fx90, (by decide)⟩ dX13_make_274
                          · have c67 : (i).toInt = (no1).toInt := hq_eqi.mp c67
                            refine lv_goto (tgt := 275) hx hb dX13_make_255 (by decide) ?_
                            obtain ⟨y91, ey92⟩ : ∃ y : Int32, y = i + (1) := ⟨_, rfl⟩
                            obtain ⟨k93, hk94, b95, b96⟩ := hq_add (i) (1)
                            rw [← ey92] at hk94 b95 b96
                            have hk94 : (y91).toInt = (i).toInt + (1) + k93 * 4294967296 := hk94
                            refine lv_iinc (v := y91) (lv' := [(6, .int (y91)), (0, .ref (mo)), (1, .int (v)), (2, .int (stm)), (3, .int (edg)), (4, .int (no0)), (5, .int (no1))]) hx hb dX13_make_275 hl (k := 0) rfl (by rw [ey92]; rfl) (by decide) rfl (fun ls hl => ?_)
                            refine lv_goto (tgt := 219) hx hb dX13_make_278 (by decide) ?_
                            exact ih219 _ (by omega) _ _ _ ls (y91) (le4) rfl hZ hP ho31 (by omega) (by omega) (by omega) (lv_sub hl [0, 1, 2, 3, 4, 5, 6] rfl)
                · have c29 : ¬ (le205).toInt ≤ (30 : Int) := fun h9 => c29 (hq_lei.mpr h9)
                  refine lv_iconst (v := 0) hx hb dX13_make_214 (by decide) ?_
                  have fx97 : V9 (q + 14) = some (.inl (cs 1, 120, .inl (fs))) := (hPj205.2 (q + 14) _ (hr_14 hR) rfl).trans (ho_fs)
                  have fx98 : V9 (q + 15) = some (.inl (cs 1, 120, .inl (ss))) := (hPj205.2 (q + 15) _ (hr_15 hR) rfl).trans (ho_ss)
                  have fx99 : V9 (q + 10) = some (.inl (cs 1, 120, .inl (fk))) := (hPj205.2 (q + 10) _ (hr_10 hR) rfl).trans (ho_fk)
                  have fx100 : V9 (q + 2) = some (.inl (cs 1, 2, .inl (fl))) := (hPj205.2 (q + 2) _ (hr_2 hR) rfl).trans (ho_fl)
                  exact hp_zret hx hb hr rfl hlocks hZ ⟨rfl, hP, ⟨le205, ho27, by omega, by first | decide | (have h0 : (0 : Int32).toInt = 0 := rfl; have h1 : (1 : Int32).toInt = 1 := rfl; omega)⟩, fx97, fx98, fx99, fx100, (by decide)⟩ dX13_make_215
              refine lv_iload_n hx hb dX13_make_142 rfl (lv_at hl 3 rfl) ?_
              refine lv_iconst (v := -1) hx hb dX13_make_143 (by decide) ?_
              refine lv_icmp_eq (tgt := 205) hx hb dX13_make_144 (by decide) (fun c101 => ?_) (fun c101 => ?_)
              · have c101 : (edg).toInt = (-1 : Int) := hq_eqi.mp c101
                exact jn205 _ _ _ ls (le131) hZ hP ho24 (by omega) (lv_sub hl [0, 1, 2, 3, 4, 5] rfl)
              · have c101 : ¬ (edg).toInt = (-1 : Int) := fun h9 => c101 (hq_eqi.mpr h9)
                refine lv_iconst (v := 0) hx hb dX13_make_147 (by decide) ?_
                refine lv_istore (lv' := [(6, .int (0)), (0, .ref (mo)), (1, .int (v)), (2, .int (stm)), (3, .int (edg)), (4, .int (no0)), (5, .int (no1))]) hx hb dX13_make_148 hl (by decide) rfl (fun ls hl => ?_)
                have hl102 : (0 : Int32).toInt = 0 := by decide
                suffices lp150 : ∀ (k9 : Nat) (V9 : hp_V) (H9 : Heap) (locs9 : List Loc) (ls : Array Slot) (i : Int32) (le5 : Int32), (100 - i.toInt).toNat = k9 → hp_Z D cs B s V9 H9 n locs9 → hq_P cs G (fun g => g.1 == 1 || g.1 == 43) V V9 → V9 (mo) = some (.inr (13, hm_o q (m_tp) (m_sz) (m_fr) (m_bh) (m_hd) (m_ft) (m_fa) (le5) (m_fo) (m_as) (m_fd) (m_bc) (m_bg) (m_bs) (m_be) (m_b0) (m_b1) (m_cm) (m_hc))) → 0 ≤ i.toInt → i.toInt ≤ 8 → 0 ≤ le5.toInt ∧ le5.toInt ≤ 30 + i.toInt → lv_has ls 7 [(6, .int (i)), (0, .ref (mo)), (1, .int (v)), (2, .int (stm)), (3, .int (edg)), (4, .int (no0)), (5, .int (no1))] → W p l e ({ frames := 3, cells := 0, slots := 0, locals := 69 }) s m ([.ref (mo), .int (v), .int (stm), .int (edg), .int (no0), .int (no1)] : List Value).toArray below meth c H9 locs9 0 0 (MQ below (hp_QI D cs B (fun r V' n' => n = n' ∧ hq_P cs G (fun g => g.1 == 1 || g.1 == 43) V V' ∧ (∃ (m_le1 : Int32), V' mo = some (.inr (13, hm_o q (m_tp) (m_sz) (m_fr) (m_bh) (m_hd) (m_ft) (m_fa) (m_le1) (m_fo) (m_as) (m_fd) (m_bc) (m_bg) (m_bs) (m_be) (m_b0) (m_b1) (m_cm) (m_hc))) ∧ (0 ≤ m_le1.toInt ∧ m_le1.toInt ≤ 276) ∧ (r.toInt = 0 ∨ (r.toInt = 1 ∧ m_le1.toInt ≤ 30))) ∧ (V' (q + 14) = some (.inl (cs 1, 120, .inl (fs)))) ∧ (V' (q + 15) = some (.inl (cs 1, 120, .inl (ss)))) ∧ (V' (q + 10) = some (.inl (cs 1, 120, .inl (fk)))) ∧ (V' (q + 2) = some (.inl (cs 1, 2, .inl (fl)))) ∧ (0 ≤ r.toInt ∧ r.toInt ≤ 1))) ([.ref (mo), .int (v), .int (stm), .int (edg), .int (no0), .int (no1)] : List Value).toArray s 0 0 (hp_F B)) (F0 m 150 ls []) from lp150 _ _ _ _ ls (0) (le131) rfl hZ hP ho24 (by omega) (by omega) (by omega) (lv_sub hl [0, 1, 2, 3, 4, 5, 6] rfl)
                intro k9
                induction k9 using Nat.strongRecOn with
                | _ k9 ih150 =>
                  intro V9 H9 locs9 ls i le5 hk150 hZ hP ho103 hv104 hv105 hv106 hl
                  have hb_i := hq_rng i
                  have hb_le5 := hq_rng le5
                  have hP_150 := hP
                  have hfsr : 0 ≤ (fs edg.toNatClampNeg).toInt ∧ (fs edg.toNatClampNeg).toInt ≤ 8 := hf_fs _ (hq_ix (by omega) (by omega))
                  have hssr : 0 ≤ (ss edg.toNatClampNeg).toInt ∧ (ss edg.toNatClampNeg).toInt ≤ 8 := hf_ss _ (hq_ix (by omega) (by omega))
                  refine lv_iload hx hb dX13_make_150 (lv_at hl 0 rfl) ?_
                  refine lv_aload_n hx hb dX13_make_152 rfl (lv_at hl 1 rfl) ?_
                  refine hp_get (v := .ref (q + 14)) hx hb hts hown hZ ho103 fl_X13_41 rfl dX13_make_153 ?_
                  refine lv_iload_n hx hb dX13_make_156 rfl (lv_at hl 4 rfl) ?_
                  have fx107 : V9 (q + 14) = some (.inl (cs 1, 120, .inl (fs))) := (hP_150.2 (q + 14) _ (hr_14 hR) rfl).trans (ho_fs)
                  refine hp_iald hx hb hZ fx107 (hq_in (by omega) (by omega)) dX13_make_157 ?_
                  refine lv_topi (fun y108 ey109 => ?_)
                  have b111 : (y108).toInt = ((fs) (edg : Int32).toNatClampNeg).toInt := by rw [ey109]
                  have b110 : hq_ir (hq_lo 1) (hq_hi 1) y108 := by rw [ey109]; exact hf_fs _ (hq_ix (by omega) (by omega))
                  have b110 : 0 ≤ (y108).toInt ∧ (y108).toInt ≤ 8 := b110
                  refine lv_icmp_ge (tgt := 198) hx hb dX13_make_158 (by decide) (fun c112 => ?_) (fun c112 => ?_)
                  · have c112 : (y108).toInt ≤ (i).toInt := hq_lei.mp c112
                    refine lv_aload_n hx hb dX13_make_198 rfl (lv_at hl 1 rfl) ?_
                    refine hp_get (v := .ref (q + 23)) hx hb hts hown hZ ho103 fl_X13_219 rfl dX13_make_199 ?_
                    refine lv_iload_n hx hb dX13_make_202 rfl (lv_at hl 4 rfl) ?_
                    refine lv_iconst (v := 1) hx hb dX13_make_203 (by decide) ?_
                    obtain ⟨hN115, g114, eV113⟩ := hq_o22 hP.1 (hr_23 hR)
                    refine hp_zast hx hb hZ eV113 (hq_in (by omega) (by omega)) dX13_make_204 (fun V117 _ _ e118 o119 hZ => ?_)
                    have e118 : V117 (q + 23) = some (.inl (cs 3, 60, .inl (upd (g114) ((edg : Int32).toNatClampNeg) ((vp_nar .boolean 1))))) := e118
                    have hP := hP.put (hr_23 hR) e118 o119 (hq_c22 (by omega)) rfl
                    have fx120 : V117 (mo) = some (.inr (13, hm_o q (m_tp) (m_sz) (m_fr) (m_bh) (m_hd) (m_ft) (m_fa) (le5) (m_fo) (m_as) (m_fd) (m_bc) (m_bg) (m_bs) (m_be) (m_b0) (m_b1) (m_cm) (m_hc))) := (o119 (mo) (hq_tne h_mo (hr_23 hR) (by simp))).trans (ho103)
                    exact jn205 _ _ _ ls (le5) hZ hP fx120 (by omega) (lv_sub hl [1, 2, 3, 4, 5, 6] rfl)
                  · have c112 : ¬ (y108).toInt ≤ (i).toInt := fun h9 => c112 (hq_lei.mpr h9)
                    refine lv_aload_n hx hb dX13_make_161 rfl (lv_at hl 1 rfl) ?_
                    refine hp_get (v := .ref (q + 21)) hx hb hts hown hZ ho103 fl_X13_213 rfl dX13_make_162 ?_
                    refine lv_aload_n hx hb dX13_make_165 rfl (lv_at hl 1 rfl) ?_
                    refine hp_get (v := .int (le5)) hx hb hts hown hZ ho103 fl_X13_331 rfl dX13_make_166 ?_
                    refine lv_aload_n hx hb dX13_make_169 rfl (lv_at hl 1 rfl) ?_
                    refine hp_get (v := .ref (q + 5)) hx hb hts hown hZ ho103 fl_X13_23 rfl dX13_make_170 ?_
                    refine lv_bipush (v := 8) hx hb dX13_make_173 (by decide) ?_
                    refine lv_iload_n hx hb dX13_make_175 rfl (lv_at hl 4 rfl) ?_
                    refine lv_imul hx hb dX13_make_176 ?_
                    refine lv_topi (fun y121 ey122 => ?_)
                    obtain ⟨k123, hk124, b125, b126⟩ := hq_mul (8) (edg)
                    rw [← ey122] at hk124 b125 b126
                    have hk124 : (y121).toInt = (8 : Int) * (edg).toInt + k123 * 4294967296 := hk124
                    obtain rfl : k123 = 0 := by omega
                    refine lv_iload hx hb dX13_make_177 (lv_at hl 0 rfl) ?_
                    refine lv_iadd hx hb dX13_make_179 ?_
                    refine lv_topi (fun y127 ey128 => ?_)
                    obtain ⟨k129, hk130, b131, b132⟩ := hq_add (y121) (i)
                    rw [← ey128] at hk130 b131 b132
                    have hk130 : (y127).toInt = (y121).toInt + (i).toInt + k129 * 4294967296 := hk130
                    obtain rfl : k129 = 0 := by omega
                    obtain ⟨hN135, g134, eV133⟩ := hq_o20 hP.1 (hr_5 hR)
                    refine hp_bald hx hb hZ eV133 (hq_in (by omega) (by omega)) dX13_make_180 ?_
                    refine lv_topi (fun y137 ey138 => ?_)
                    have b140 : (y137).toInt = ((g134) (y127 : Int32).toNatClampNeg).toInt := by rw [ey138]
                    have b139 := hq_rng y137
                    obtain ⟨hN143, g142, eV141⟩ := hq_o20 hP.1 (hr_21 hR)
                    refine hp_bast hx hb hZ eV141 (hq_in (by omega) (by omega)) dX13_make_181 (fun V145 _ _ e146 o147 hZ => ?_)
                    have e146 : V145 (q + 21) = some (.inl (cs 0, 276, .inl (upd (g142) ((le5 : Int32).toNatClampNeg) ((y137 : Int32).toInt8.toInt32)))) := e146
                    have hP := hP.put (hr_21 hR) e146 o147 (hq_c20 (by omega)) rfl
                    refine lv_aload_n hx hb dX13_make_182 rfl (lv_at hl 1 rfl) ?_
                    refine lv_dup hx hb dX13_make_183 rfl ?_
                    have fx148 : V145 (mo) = some (.inr (13, hm_o q (m_tp) (m_sz) (m_fr) (m_bh) (m_hd) (m_ft) (m_fa) (le5) (m_fo) (m_as) (m_fd) (m_bc) (m_bg) (m_bs) (m_be) (m_b0) (m_b1) (m_cm) (m_hc))) := (o147 (mo) (hq_tne h_mo (hr_21 hR) (by simp))).trans (ho103)
                    refine hp_get (v := .int (le5)) hx hb hts hown hZ fx148 fl_X13_331 rfl dX13_make_184 ?_
                    refine lv_iconst (v := 1) hx hb dX13_make_187 (by decide) ?_
                    refine lv_iadd hx hb dX13_make_188 ?_
                    refine lv_topi (fun y149 ey150 => ?_)
                    obtain ⟨k151, hk152, b153, b154⟩ := hq_add (le5) (1)
                    rw [← ey150] at hk152 b153 b154
                    have hk152 : (y149).toInt = (le5).toInt + (1 : Int) + k151 * 4294967296 := hk152
                    obtain rfl : k151 = 0 := by omega
                    refine hp_put hx hb hts hown hZ fx148 fp_X13_331 rfl rfl (Nat.le_of_ble_eq_true rfl) dX13_make_189 (fun V155 _ _ e156 o157 hZ => ?_)
                    have e156 : V155 (mo) = some (.inr (13, hm_o q (m_tp) (m_sz) (m_fr) (m_bh) (m_hd) (m_ft) (m_fa) (y149) (m_fo) (m_as) (m_fd) (m_bc) (m_bg) (m_bs) (m_be) (m_b0) (m_b1) (m_cm) (m_hc))) := e156
                    have hP := hP.put h_mo e156 o157 (trivial) rfl
                    obtain ⟨y158, ey159⟩ : ∃ y : Int32, y = i + (1) := ⟨_, rfl⟩
                    obtain ⟨k160, hk161, b162, b163⟩ := hq_add (i) (1)
                    rw [← ey159] at hk161 b162 b163
                    have hk161 : (y158).toInt = (i).toInt + (1) + k160 * 4294967296 := hk161
                    refine lv_iinc (v := y158) (lv' := [(6, .int (y158)), (0, .ref (mo)), (1, .int (v)), (2, .int (stm)), (3, .int (edg)), (4, .int (no0)), (5, .int (no1))]) hx hb dX13_make_192 hl (k := 0) rfl (by rw [ey159]; rfl) (by decide) rfl (fun ls hl => ?_)
                    refine lv_goto (tgt := 150) hx hb dX13_make_195 (by decide) ?_
                    exact ih150 _ (by omega) _ _ _ ls (y158) (y149) rfl hZ hP e156 (by omega) (by omega) (by omega) (lv_sub hl [0, 1, 2, 3, 4, 5, 6] rfl)
            · have c26 : ¬ (le131).toInt ≤ (30 : Int) := fun h9 => c26 (hq_lei.mpr h9)
              refine lv_iconst (v := 0) hx hb dX13_make_140 (by decide) ?_
              have fx164 : V9 (q + 14) = some (.inl (cs 1, 120, .inl (fs))) := (hPj131.2 (q + 14) _ (hr_14 hR) rfl).trans (ho_fs)
              have fx165 : V9 (q + 15) = some (.inl (cs 1, 120, .inl (ss))) := (hPj131.2 (q + 15) _ (hr_15 hR) rfl).trans (ho_ss)
              have fx166 : V9 (q + 10) = some (.inl (cs 1, 120, .inl (fk))) := (hPj131.2 (q + 10) _ (hr_10 hR) rfl).trans (ho_fk)
              have fx167 : V9 (q + 2) = some (.inl (cs 1, 2, .inl (fl))) := (hPj131.2 (q + 2) _ (hr_2 hR) rfl).trans (ho_fl)
              exact hp_zret hx hb hr rfl hlocks hZ ⟨rfl, hP, ⟨le131, ho24, by omega, by first | decide | (have h0 : (0 : Int32).toInt = 0 := rfl; have h1 : (1 : Int32).toInt = 1 := rfl; omega)⟩, fx164, fx165, fx166, fx167, (by decide)⟩ dX13_make_141
          refine lv_iload_n hx hb dX13_make_71 rfl (lv_at hl 3 rfl) ?_
          refine lv_iconst (v := -1) hx hb dX13_make_72 (by decide) ?_
          refine lv_icmp_eq (tgt := 131) hx hb dX13_make_73 (by decide) (fun c168 => ?_) (fun c168 => ?_)
          · have c168 : (stm).toInt = (-1 : Int) := hq_eqi.mp c168
            exact jn131 _ _ _ ls (le7) hZ hP ho19 (by omega) (lv_sub hl [1, 2, 3, 4, 5, 6] rfl)
          · have c168 : ¬ (stm).toInt = (-1 : Int) := fun h9 => c168 (hq_eqi.mpr h9)
            refine lv_aload_n hx hb dX13_make_76 rfl (lv_at hl 1 rfl) ?_
            refine hp_get (v := .int (le7)) hx hb hts hown hZ ho19 fl_X13_331 rfl dX13_make_77 ?_
            refine lv_istore (lv' := [(6, .int (le7)), (0, .ref (mo)), (1, .int (v)), (2, .int (stm)), (3, .int (edg)), (4, .int (no0)), (5, .int (no1))]) hx hb dX13_make_80 hl (by decide) rfl (fun ls hl => ?_)
            suffices lp82 : ∀ (k9 : Nat) (V9 : hp_V) (H9 : Heap) (locs9 : List Loc) (ls : Array Slot) (i : Int32) (le6 : Int32), (100 + i.toInt).toNat = k9 → hp_Z D cs B s V9 H9 n locs9 → hq_P cs G (fun g => g.1 == 1 || g.1 == 43) V V9 → V9 (mo) = some (.inr (13, hm_o q (m_tp) (m_sz) (m_fr) (m_bh) (m_hd) (m_ft) (m_fa) (le6) (m_fo) (m_as) (m_fd) (m_bc) (m_bg) (m_bs) (m_be) (m_b0) (m_b1) (m_cm) (m_hc))) → -1 ≤ i.toInt → i.toInt ≤ 12 → 0 ≤ le6.toInt ∧ le6.toInt ≤ 12 → lv_has ls 7 [(6, .int (i)), (0, .ref (mo)), (1, .int (v)), (2, .int (stm)), (3, .int (edg)), (4, .int (no0)), (5, .int (no1))] → W p l e ({ frames := 3, cells := 0, slots := 0, locals := 69 }) s m ([.ref (mo), .int (v), .int (stm), .int (edg), .int (no0), .int (no1)] : List Value).toArray below meth c H9 locs9 0 0 (MQ below (hp_QI D cs B (fun r V' n' => n = n' ∧ hq_P cs G (fun g => g.1 == 1 || g.1 == 43) V V' ∧ (∃ (m_le1 : Int32), V' mo = some (.inr (13, hm_o q (m_tp) (m_sz) (m_fr) (m_bh) (m_hd) (m_ft) (m_fa) (m_le1) (m_fo) (m_as) (m_fd) (m_bc) (m_bg) (m_bs) (m_be) (m_b0) (m_b1) (m_cm) (m_hc))) ∧ (0 ≤ m_le1.toInt ∧ m_le1.toInt ≤ 276) ∧ (r.toInt = 0 ∨ (r.toInt = 1 ∧ m_le1.toInt ≤ 30))) ∧ (V' (q + 14) = some (.inl (cs 1, 120, .inl (fs)))) ∧ (V' (q + 15) = some (.inl (cs 1, 120, .inl (ss)))) ∧ (V' (q + 10) = some (.inl (cs 1, 120, .inl (fk)))) ∧ (V' (q + 2) = some (.inl (cs 1, 2, .inl (fl)))) ∧ (0 ≤ r.toInt ∧ r.toInt ≤ 1))) ([.ref (mo), .int (v), .int (stm), .int (edg), .int (no0), .int (no1)] : List Value).toArray s 0 0 (hp_F B)) (F0 m 82 ls []) from lp82 _ _ _ _ ls (le7) (le7) rfl hZ hP ho19 (by omega) (by omega) (by omega) (lv_sub hl [0, 1, 2, 3, 4, 5, 6] rfl)
            intro k9
            induction k9 using Nat.strongRecOn with
            | _ k9 ih82 =>
              intro V9 H9 locs9 ls i le6 hk82 hZ hP ho169 hv170 hv171 hv172 hl
              have hb_i := hq_rng i
              have hb_le6 := hq_rng le6
              have hP_82 := hP
              have hfsr : 0 ≤ (fs stm.toNatClampNeg).toInt ∧ (fs stm.toNatClampNeg).toInt ≤ 8 := hf_fs _ (hq_ix (by omega) (by omega))
              have hssr : 0 ≤ (ss stm.toNatClampNeg).toInt ∧ (ss stm.toNatClampNeg).toInt ≤ 8 := hf_ss _ (hq_ix (by omega) (by omega))
              refine lv_iload hx hb dX13_make_82 (lv_at hl 0 rfl) ?_
              refine lv_if_lt (tgt := 103) hx hb dX13_make_84 (by decide) (fun c173 => ?_) (fun c173 => ?_)
              · have c173 : (i).toInt < (0 : Int) := hq_lti.mp c173
                refine lv_iload hx hb dX13_make_103 (lv_at hl 0 rfl) ?_
                refine lv_if_lt (tgt := 115) hx hb dX13_make_105 (by decide) (fun c174 => ?_) (fun c174 => ?_)
                · have c174 : (i).toInt < (0 : Int) := hq_lti.mp c174
                  refine lv_aload_n hx hb dX13_make_115 rfl (lv_at hl 1 rfl) ?_
                  refine hp_get (v := .ref (q + 23)) hx hb hts hown hZ ho169 fl_X13_219 rfl dX13_make_116 ?_
                  refine lv_iload_n hx hb dX13_make_119 rfl (lv_at hl 3 rfl) ?_
                  refine lv_iload hx hb dX13_make_120 (lv_at hl 0 rfl) ?_
                  refine lv_if_lt (tgt := 129) hx hb dX13_make_122 (by decide) (fun c175 => ?_) (fun c175 => ?_)
                  · have c175 : (i).toInt < (0 : Int) := hq_lti.mp c175
                    refine lv_iconst (v := 0) hx hb dX13_make_129 (by decide) ?_
                    obtain ⟨hN178, g177, eV176⟩ := hq_o22 hP.1 (hr_23 hR)
                    refine hp_zast hx hb hZ eV176 (hq_in (by omega) (by omega)) dX13_make_130 (fun V180 _ _ e181 o182 hZ => ?_)
                    have e181 : V180 (q + 23) = some (.inl (cs 3, 60, .inl (upd (g177) ((stm : Int32).toNatClampNeg) ((vp_nar .boolean 0))))) := e181
                    have hP := hP.put (hr_23 hR) e181 o182 (hq_c22 (by omega)) rfl
                    have fx183 : V180 (mo) = some (.inr (13, hm_o q (m_tp) (m_sz) (m_fr) (m_bh) (m_hd) (m_ft) (m_fa) (le6) (m_fo) (m_as) (m_fd) (m_bc) (m_bg) (m_bs) (m_be) (m_b0) (m_b1) (m_cm) (m_hc))) := (o182 (mo) (hq_tne h_mo (hr_23 hR) (by simp))).trans (ho169)
                    exact jn131 _ _ _ ls (le6) hZ hP fx183 (by omega) (lv_sub hl [1, 2, 3, 4, 5, 6] rfl)
                  · have c175 : ¬ (i).toInt < (0 : Int) := fun h9 => c175 (hq_lti.mpr h9)
                    refine lv_iconst (v := 1) hx hb dX13_make_125 (by decide) ?_
                    refine lv_goto (tgt := 130) hx hb dX13_make_126 (by decide) ?_
                    obtain ⟨hN186, g185, eV184⟩ := hq_o22 hP.1 (hr_23 hR)
                    refine hp_zast hx hb hZ eV184 (hq_in (by omega) (by omega)) dX13_make_130 (fun V188 _ _ e189 o190 hZ => ?_)
                    have e189 : V188 (q + 23) = some (.inl (cs 3, 60, .inl (upd (g185) ((stm : Int32).toNatClampNeg) ((vp_nar .boolean 1))))) := e189
                    have hP := hP.put (hr_23 hR) e189 o190 (hq_c22 (by omega)) rfl
                    have fx191 : V188 (mo) = some (.inr (13, hm_o q (m_tp) (m_sz) (m_fr) (m_bh) (m_hd) (m_ft) (m_fa) (le6) (m_fo) (m_as) (m_fd) (m_bc) (m_bg) (m_bs) (m_be) (m_b0) (m_b1) (m_cm) (m_hc))) := (o190 (mo) (hq_tne h_mo (hr_23 hR) (by simp))).trans (ho169)
                    exact jn131 _ _ _ ls (le6) hZ hP fx191 (by omega) (lv_sub hl [1, 2, 3, 4, 5, 6] rfl)
                · have c174 : ¬ (i).toInt < (0 : Int) := fun h9 => c174 (hq_lti.mpr h9)
                  refine lv_aload_n hx hb dX13_make_108 rfl (lv_at hl 1 rfl) ?_
                  refine lv_iload_n hx hb dX13_make_109 rfl (lv_at hl 3 rfl) ?_
                  refine lv_iload hx hb dX13_make_110 (lv_at hl 0 rfl) ?_
                  have fx202 : V9 (q + 14) = some (.inl (cs 1, 120, .inl (fs))) := (hP_82.2 (q + 14) _ (hr_14 hR) rfl).trans (ho_fs)
                  have fx204 : V9 (q + 15) = some (.inl (cs 1, 120, .inl (ss))) := (hP_82.2 (q + 15) _ (hr_15 hR) rfl).trans (ho_ss)
                  refine hp_callv (hp_runV (As := [.int (stm), .int (i)]) (rest := []) hx hb hml hown hts (t_X13_changeAt l D cs B G  V9 n hP.1 q hR (mo) h_mo (stm) (i) ho169  (by omega) (by omega) (by omega) (by omega) (by omega) (by omega) (by omega) (by omega) fx202 fx204 (by omega) (by omega) (by omega) (by omega) (by omega)) hZ ho169 cv_X13_338 rfl rfl ⟨Nat.le_of_ble_eq_true rfl, Nat.le_of_ble_eq_true rfl⟩ rfl hl.1 rfl (Nat.le_of_ble_eq_true rfl) dX13_make_112 ⟨(Nat.le_of_ble_eq_true rfl), (Nat.le_of_ble_eq_true rfl)⟩) hZ (fun V192 n193 _ _ hw194 hZ => ?_)
                  obtain ⟨rfl, hq196, ⟨z198, ho199, hi200, hi201⟩, ho203, ho205⟩ := hw194
                  have hP := hP.trans hq196 (by intro g h; simp_all)
                  have b206 := hq_rng z198
                  refine lv_aload_n hx hb dX13_make_115 rfl (lv_at hl 1 rfl) ?_
                  refine hp_get (v := .ref (q + 23)) hx hb hts hown hZ ho199 fl_X13_219 rfl dX13_make_116 ?_
                  refine lv_iload_n hx hb dX13_make_119 rfl (lv_at hl 3 rfl) ?_
                  refine lv_iload hx hb dX13_make_120 (lv_at hl 0 rfl) ?_
                  refine lv_if_lt (tgt := 129) hx hb dX13_make_122 (by decide) (fun c207 => ?_) (fun c207 => ?_)
                  · have c207 : (i).toInt < (0 : Int) := hq_lti.mp c207
                    refine lv_iconst (v := 0) hx hb dX13_make_129 (by decide) ?_
                    obtain ⟨hN210, g209, eV208⟩ := hq_o22 hP.1 (hr_23 hR)
                    refine hp_zast hx hb hZ eV208 (hq_in (by omega) (by omega)) dX13_make_130 (fun V212 _ _ e213 o214 hZ => ?_)
                    have e213 : V212 (q + 23) = some (.inl (cs 3, 60, .inl (upd (g209) ((stm : Int32).toNatClampNeg) ((vp_nar .boolean 0))))) := e213
                    have hP := hP.put (hr_23 hR) e213 o214 (hq_c22 (by omega)) rfl
                    have fx215 : V212 (mo) = some (.inr (13, hm_o q (m_tp) (m_sz) (m_fr) (m_bh) (m_hd) (m_ft) (m_fa) (z198) (m_fo) (m_as) (m_fd) (m_bc) (m_bg) (m_bs) (m_be) (m_b0) (m_b1) (m_cm) (m_hc))) := (o214 (mo) (hq_tne h_mo (hr_23 hR) (by simp))).trans (ho199)
                    exact jn131 _ _ _ ls (z198) hZ hP fx215 (by omega) (lv_sub hl [1, 2, 3, 4, 5, 6] rfl)
                  · have c207 : ¬ (i).toInt < (0 : Int) := fun h9 => c207 (hq_lti.mpr h9)
                    refine lv_iconst (v := 1) hx hb dX13_make_125 (by decide) ?_
                    refine lv_goto (tgt := 130) hx hb dX13_make_126 (by decide) ?_
                    obtain ⟨hN218, g217, eV216⟩ := hq_o22 hP.1 (hr_23 hR)
                    refine hp_zast hx hb hZ eV216 (hq_in (by omega) (by omega)) dX13_make_130 (fun V220 _ _ e221 o222 hZ => ?_)
                    have e221 : V220 (q + 23) = some (.inl (cs 3, 60, .inl (upd (g217) ((stm : Int32).toNatClampNeg) ((vp_nar .boolean 1))))) := e221
                    have hP := hP.put (hr_23 hR) e221 o222 (hq_c22 (by omega)) rfl
                    have fx223 : V220 (mo) = some (.inr (13, hm_o q (m_tp) (m_sz) (m_fr) (m_bh) (m_hd) (m_ft) (m_fa) (z198) (m_fo) (m_as) (m_fd) (m_bc) (m_bg) (m_bs) (m_be) (m_b0) (m_b1) (m_cm) (m_hc))) := (o222 (mo) (hq_tne h_mo (hr_23 hR) (by simp))).trans (ho199)
                    exact jn131 _ _ _ ls (z198) hZ hP fx223 (by omega) (lv_sub hl [1, 2, 3, 4, 5, 6] rfl)
              · have c173 : ¬ (i).toInt < (0 : Int) := fun h9 => c173 (hq_lti.mpr h9)
                refine lv_aload_n hx hb dX13_make_87 rfl (lv_at hl 1 rfl) ?_
                refine lv_iload_n hx hb dX13_make_88 rfl (lv_at hl 3 rfl) ?_
                refine lv_iload hx hb dX13_make_89 (lv_at hl 0 rfl) ?_
                have fx231 : V9 (q + 14) = some (.inl (cs 1, 120, .inl (fs))) := (hP_82.2 (q + 14) _ (hr_14 hR) rfl).trans (ho_fs)
                refine hp_calli (hp_runV (As := [.int (stm), .int (i)]) (rest := []) hx hb hml hown hts (t_X13_standsAt l D cs B G  V9 n hP.1 q hR (mo) h_mo (stm) (i) ho169  (by omega) (by omega) (by omega) (by omega) (by omega) (by omega) (by omega) (by omega) fx231 (by omega) (by omega) (by omega)) hZ ho169 cv_X13_334 rfl rfl ⟨Nat.le_of_ble_eq_true rfl, Nat.le_of_ble_eq_true rfl⟩ rfl hl.1 rfl (Nat.le_of_ble_eq_true rfl) dX13_make_91 ⟨(Nat.le_of_ble_eq_true rfl), (Nat.le_of_ble_eq_true rfl)⟩) hZ (fun r227 V224 n225 _ _ hw226 hZ => ?_)
                obtain ⟨rfl, hq228, ho230, ho232, hr229⟩ := hw226
                have hP := hP.trans hq228 (fun _ _ => rfl)
                have b233 := hq_rng r227
                refine lv_if_ne (tgt := 103) hx hb dX13_make_94 (by decide) (fun c234 => ?_) (fun c234 => ?_)
                · have c234 : ¬ (r227).toInt = (0 : Int) := fun h9 => c234 (hq_eqi.mpr h9)
                  refine lv_iload hx hb dX13_make_103 (lv_at hl 0 rfl) ?_
                  refine lv_if_lt (tgt := 115) hx hb dX13_make_105 (by decide) (fun c235 => ?_) (fun c235 => ?_)
                  · have c235 : (i).toInt < (0 : Int) := hq_lti.mp c235
                    refine lv_aload_n hx hb dX13_make_115 rfl (lv_at hl 1 rfl) ?_
                    refine hp_get (v := .ref (q + 23)) hx hb hts hown hZ ho230 fl_X13_219 rfl dX13_make_116 ?_
                    refine lv_iload_n hx hb dX13_make_119 rfl (lv_at hl 3 rfl) ?_
                    refine lv_iload hx hb dX13_make_120 (lv_at hl 0 rfl) ?_
                    refine lv_if_lt (tgt := 129) hx hb dX13_make_122 (by decide) (fun c236 => ?_) (fun c236 => ?_)
                    · have c236 : (i).toInt < (0 : Int) := hq_lti.mp c236
                      refine lv_iconst (v := 0) hx hb dX13_make_129 (by decide) ?_
                      obtain ⟨hN239, g238, eV237⟩ := hq_o22 hP.1 (hr_23 hR)
                      refine hp_zast hx hb hZ eV237 (hq_in (by omega) (by omega)) dX13_make_130 (fun V241 _ _ e242 o243 hZ => ?_)
                      have e242 : V241 (q + 23) = some (.inl (cs 3, 60, .inl (upd (g238) ((stm : Int32).toNatClampNeg) ((vp_nar .boolean 0))))) := e242
                      have hP := hP.put (hr_23 hR) e242 o243 (hq_c22 (by omega)) rfl
                      have fx244 : V241 (mo) = some (.inr (13, hm_o q (m_tp) (m_sz) (m_fr) (m_bh) (m_hd) (m_ft) (m_fa) (le6) (m_fo) (m_as) (m_fd) (m_bc) (m_bg) (m_bs) (m_be) (m_b0) (m_b1) (m_cm) (m_hc))) := (o243 (mo) (hq_tne h_mo (hr_23 hR) (by simp))).trans (ho230)
                      exact jn131 _ _ _ ls (le6) hZ hP fx244 (by omega) (lv_sub hl [1, 2, 3, 4, 5, 6] rfl)
                    · have c236 : ¬ (i).toInt < (0 : Int) := fun h9 => c236 (hq_lti.mpr h9)
                      refine lv_iconst (v := 1) hx hb dX13_make_125 (by decide) ?_
                      refine lv_goto (tgt := 130) hx hb dX13_make_126 (by decide) ?_
                      obtain ⟨hN247, g246, eV245⟩ := hq_o22 hP.1 (hr_23 hR)
                      refine hp_zast hx hb hZ eV245 (hq_in (by omega) (by omega)) dX13_make_130 (fun V249 _ _ e250 o251 hZ => ?_)
                      have e250 : V249 (q + 23) = some (.inl (cs 3, 60, .inl (upd (g246) ((stm : Int32).toNatClampNeg) ((vp_nar .boolean 1))))) := e250
                      have hP := hP.put (hr_23 hR) e250 o251 (hq_c22 (by omega)) rfl
                      have fx252 : V249 (mo) = some (.inr (13, hm_o q (m_tp) (m_sz) (m_fr) (m_bh) (m_hd) (m_ft) (m_fa) (le6) (m_fo) (m_as) (m_fd) (m_bc) (m_bg) (m_bs) (m_be) (m_b0) (m_b1) (m_cm) (m_hc))) := (o251 (mo) (hq_tne h_mo (hr_23 hR) (by simp))).trans (ho230)
                      exact jn131 _ _ _ ls (le6) hZ hP fx252 (by omega) (lv_sub hl [1, 2, 3, 4, 5, 6] rfl)
                  · have c235 : ¬ (i).toInt < (0 : Int) := fun h9 => c235 (hq_lti.mpr h9)
                    refine lv_aload_n hx hb dX13_make_108 rfl (lv_at hl 1 rfl) ?_
                    refine lv_iload_n hx hb dX13_make_109 rfl (lv_at hl 3 rfl) ?_
                    refine lv_iload hx hb dX13_make_110 (lv_at hl 0 rfl) ?_
                    have fx264 : V224 (q + 15) = some (.inl (cs 1, 120, .inl (ss))) := (hq228.2 (q + 15) _ (hr_15 hR) rfl).trans ((hP_82.2 (q + 15) _ (hr_15 hR) rfl).trans (ho_ss))
                    refine hp_callv (hp_runV (As := [.int (stm), .int (i)]) (rest := []) hx hb hml hown hts (t_X13_changeAt l D cs B G  V224 n hP.1 q hR (mo) h_mo (stm) (i) ho230  (by omega) (by omega) (by omega) (by omega) (by omega) (by omega) (by omega) (by omega) ho232 fx264 (by omega) (by omega) (by omega) (by omega) (by omega)) hZ ho230 cv_X13_338 rfl rfl ⟨Nat.le_of_ble_eq_true rfl, Nat.le_of_ble_eq_true rfl⟩ rfl hl.1 rfl (Nat.le_of_ble_eq_true rfl) dX13_make_112 ⟨(Nat.le_of_ble_eq_true rfl), (Nat.le_of_ble_eq_true rfl)⟩) hZ (fun V253 n254 _ _ hw255 hZ => ?_)
                    obtain ⟨rfl, hq257, ⟨z259, ho260, hi261, hi262⟩, ho263, ho265⟩ := hw255
                    have hP := hP.trans hq257 (by intro g h; simp_all)
                    have b266 := hq_rng z259
                    refine lv_aload_n hx hb dX13_make_115 rfl (lv_at hl 1 rfl) ?_
                    refine hp_get (v := .ref (q + 23)) hx hb hts hown hZ ho260 fl_X13_219 rfl dX13_make_116 ?_
                    refine lv_iload_n hx hb dX13_make_119 rfl (lv_at hl 3 rfl) ?_
                    refine lv_iload hx hb dX13_make_120 (lv_at hl 0 rfl) ?_
                    refine lv_if_lt (tgt := 129) hx hb dX13_make_122 (by decide) (fun c267 => ?_) (fun c267 => ?_)
                    · have c267 : (i).toInt < (0 : Int) := hq_lti.mp c267
                      refine lv_iconst (v := 0) hx hb dX13_make_129 (by decide) ?_
                      obtain ⟨hN270, g269, eV268⟩ := hq_o22 hP.1 (hr_23 hR)
                      refine hp_zast hx hb hZ eV268 (hq_in (by omega) (by omega)) dX13_make_130 (fun V272 _ _ e273 o274 hZ => ?_)
                      have e273 : V272 (q + 23) = some (.inl (cs 3, 60, .inl (upd (g269) ((stm : Int32).toNatClampNeg) ((vp_nar .boolean 0))))) := e273
                      have hP := hP.put (hr_23 hR) e273 o274 (hq_c22 (by omega)) rfl
                      have fx275 : V272 (mo) = some (.inr (13, hm_o q (m_tp) (m_sz) (m_fr) (m_bh) (m_hd) (m_ft) (m_fa) (z259) (m_fo) (m_as) (m_fd) (m_bc) (m_bg) (m_bs) (m_be) (m_b0) (m_b1) (m_cm) (m_hc))) := (o274 (mo) (hq_tne h_mo (hr_23 hR) (by simp))).trans (ho260)
                      exact jn131 _ _ _ ls (z259) hZ hP fx275 (by omega) (lv_sub hl [1, 2, 3, 4, 5, 6] rfl)
                    · have c267 : ¬ (i).toInt < (0 : Int) := fun h9 => c267 (hq_lti.mpr h9)
                      refine lv_iconst (v := 1) hx hb dX13_make_125 (by decide) ?_
                      refine lv_goto (tgt := 130) hx hb dX13_make_126 (by decide) ?_
                      obtain ⟨hN278, g277, eV276⟩ := hq_o22 hP.1 (hr_23 hR)
                      refine hp_zast hx hb hZ eV276 (hq_in (by omega) (by omega)) dX13_make_130 (fun V280 _ _ e281 o282 hZ => ?_)
                      have e281 : V280 (q + 23) = some (.inl (cs 3, 60, .inl (upd (g277) ((stm : Int32).toNatClampNeg) ((vp_nar .boolean 1))))) := e281
                      have hP := hP.put (hr_23 hR) e281 o282 (hq_c22 (by omega)) rfl
                      have fx283 : V280 (mo) = some (.inr (13, hm_o q (m_tp) (m_sz) (m_fr) (m_bh) (m_hd) (m_ft) (m_fa) (z259) (m_fo) (m_as) (m_fd) (m_bc) (m_bg) (m_bs) (m_be) (m_b0) (m_b1) (m_cm) (m_hc))) := (o282 (mo) (hq_tne h_mo (hr_23 hR) (by simp))).trans (ho260)
                      exact jn131 _ _ _ ls (z259) hZ hP fx283 (by omega) (lv_sub hl [1, 2, 3, 4, 5, 6] rfl)
                · have c234 : (r227).toInt = (0 : Int) := hq_eqi.mp c234
                  obtain ⟨y284, ey285⟩ : ∃ y : Int32, y = i + (-1) := ⟨_, rfl⟩
                  obtain ⟨k286, hk287, b288, b289⟩ := hq_add (i) (-1)
                  rw [← ey285] at hk287 b288 b289
                  have hk287 : (y284).toInt = (i).toInt + (-1) + k286 * 4294967296 := hk287
                  refine lv_iinc (v := y284) (lv' := [(6, .int (y284)), (0, .ref (mo)), (1, .int (v)), (2, .int (stm)), (3, .int (edg)), (4, .int (no0)), (5, .int (no1))]) hx hb dX13_make_97 hl (k := 0) rfl (by rw [ey285]; rfl) (by decide) rfl (fun ls hl => ?_)
                  refine lv_goto (tgt := 82) hx hb dX13_make_100 (by decide) ?_
                  exact ih82 _ (by omega) _ _ _ ls (y284) (le6) rfl hZ hP ho230 (by omega) (by omega) (by omega) (lv_sub hl [0, 1, 2, 3, 4, 5, 6] rfl)
        · have c23 : ¬ (60 : Int) ≤ (i).toInt := fun h9 => c23 (hq_lei.mpr h9)
          refine lv_aload_n hx hb dX13_make_57 rfl (lv_at hl 1 rfl) ?_
          refine hp_get (v := .ref (q + 23)) hx hb hts hown hZ ho19 fl_X13_219 rfl dX13_make_58 ?_
          refine lv_iload hx hb dX13_make_61 (lv_at hl 0 rfl) ?_
          refine lv_iconst (v := 0) hx hb dX13_make_63 (by decide) ?_
          obtain ⟨hN292, g291, eV290⟩ := hq_o22 hP.1 (hr_23 hR)
          refine hp_zast hx hb hZ eV290 (hq_in (by omega) (by omega)) dX13_make_64 (fun V294 _ _ e295 o296 hZ => ?_)
          have e295 : V294 (q + 23) = some (.inl (cs 3, 60, .inl (upd (g291) ((i : Int32).toNatClampNeg) ((vp_nar .boolean 0))))) := e295
          have hP := hP.put (hr_23 hR) e295 o296 (hq_c22 (by omega)) rfl
          obtain ⟨y297, ey298⟩ : ∃ y : Int32, y = i + (1) := ⟨_, rfl⟩
          obtain ⟨k299, hk300, b301, b302⟩ := hq_add (i) (1)
          rw [← ey298] at hk300 b301 b302
          have hk300 : (y297).toInt = (i).toInt + (1) + k299 * 4294967296 := hk300
          refine lv_iinc (v := y297) (lv' := [(6, .int (y297)), (0, .ref (mo)), (1, .int (v)), (2, .int (stm)), (3, .int (edg)), (4, .int (no0)), (5, .int (no1))]) hx hb dX13_make_65 hl (k := 0) rfl (by rw [ey298]; rfl) (by decide) rfl (fun ls hl => ?_)
          refine lv_goto (tgt := 50) hx hb dX13_make_68 (by decide) ?_
          have fx303 : V294 (mo) = some (.inr (13, hm_o q (m_tp) (m_sz) (m_fr) (m_bh) (m_hd) (m_ft) (m_fa) (le7) (m_fo) (m_as) (m_fd) (m_bc) (m_bg) (m_bs) (m_be) (m_b0) (m_b1) (m_cm) (m_hc))) := (o296 (mo) (hq_tne h_mo (hr_23 hR) (by simp))).trans (ho19)
          exact ih50 _ (by omega) _ _ _ ls (y297) (le7) rfl hZ hP fx303 (by omega) (by omega) (by omega) (lv_sub hl [0, 1, 2, 3, 4, 5, 6] rfl)
    · have c17 : ¬ (le9).toInt ≤ (i).toInt := fun h9 => c17 (hq_lei.mpr h9)
      refine lv_aload_n hx hb dX13_make_22 rfl (lv_at hl 1 rfl) ?_
      refine hp_get (v := .ref (q + 21)) hx hb hts hown hZ ho13 fl_X13_213 rfl dX13_make_23 ?_
      refine lv_iload hx hb dX13_make_26 (lv_at hl 0 rfl) ?_
      refine lv_aload_n hx hb dX13_make_28 rfl (lv_at hl 1 rfl) ?_
      refine hp_get (v := .ref (q + 4)) hx hb hts hown hZ ho13 fl_X13_19 rfl dX13_make_29 ?_
      refine lv_bipush (v := 12) hx hb dX13_make_32 (by decide) ?_
      refine lv_iload_n hx hb dX13_make_34 rfl (lv_at hl 2 rfl) ?_
      refine lv_imul hx hb dX13_make_35 ?_
      refine lv_topi (fun y304 ey305 => ?_)
      obtain ⟨k306, hk307, b308, b309⟩ := hq_mul (12) (v)
      rw [← ey305] at hk307 b308 b309
      have hk307 : (y304).toInt = (12 : Int) * (v).toInt + k306 * 4294967296 := hk307
      obtain rfl : k306 = 0 := by omega
      refine lv_iload hx hb dX13_make_36 (lv_at hl 0 rfl) ?_
      refine lv_iadd hx hb dX13_make_38 ?_
      refine lv_topi (fun y310 ey311 => ?_)
      obtain ⟨k312, hk313, b314, b315⟩ := hq_add (y304) (i)
      rw [← ey311] at hk313 b314 b315
      have hk313 : (y310).toInt = (y304).toInt + (i).toInt + k312 * 4294967296 := hk313
      obtain rfl : k312 = 0 := by omega
      obtain ⟨hN318, g317, eV316⟩ := hq_o20 hP.1 (hr_4 hR)
      refine hp_bald hx hb hZ eV316 (hq_in (by omega) (by omega)) dX13_make_39 ?_
      refine lv_topi (fun y320 ey321 => ?_)
      have b323 : (y320).toInt = ((g317) (y310 : Int32).toNatClampNeg).toInt := by rw [ey321]
      have b322 := hq_rng y320
      obtain ⟨hN326, g325, eV324⟩ := hq_o20 hP.1 (hr_21 hR)
      refine hp_bast hx hb hZ eV324 (hq_in (by omega) (by omega)) dX13_make_40 (fun V328 _ _ e329 o330 hZ => ?_)
      have e329 : V328 (q + 21) = some (.inl (cs 0, 276, .inl (upd (g325) ((i : Int32).toNatClampNeg) ((y320 : Int32).toInt8.toInt32)))) := e329
      have hP := hP.put (hr_21 hR) e329 o330 (hq_c20 (by omega)) rfl
      obtain ⟨y331, ey332⟩ : ∃ y : Int32, y = i + (1) := ⟨_, rfl⟩
      obtain ⟨k333, hk334, b335, b336⟩ := hq_add (i) (1)
      rw [← ey332] at hk334 b335 b336
      have hk334 : (y331).toInt = (i).toInt + (1) + k333 * 4294967296 := hk334
      refine lv_iinc (v := y331) (lv' := [(6, .int (y331)), (0, .ref (mo)), (1, .int (v)), (2, .int (stm)), (3, .int (edg)), (4, .int (no0)), (5, .int (no1))]) hx hb dX13_make_41 hl (k := 0) rfl (by rw [ey332]; rfl) (by decide) rfl (fun ls hl => ?_)
      refine lv_goto (tgt := 13) hx hb dX13_make_44 (by decide) ?_
      have fx337 : V328 (mo) = some (.inr (13, hm_o q (m_tp) (m_sz) (m_fr) (m_bh) (m_hd) (m_ft) (m_fa) (le9) (m_fo) (m_as) (m_fd) (m_bc) (m_bg) (m_bs) (m_be) (m_b0) (m_b1) (m_cm) (m_hc))) := (o330 (mo) (hq_tne h_mo (hr_21 hR) (by simp))).trans (ho13)
      exact ih13 _ (by omega) _ _ _ ls (y331) (le9) rfl hZ hP fx337 (by omega) (by omega) (by omega) (lv_sub hl [0, 1, 2, 3, 4, 5, 6] rfl)

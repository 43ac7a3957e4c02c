set_option maxHeartbeats 4000000 in
set_option maxRecDepth 100000 in
theorem y_nameIn (l : Launch) (D : va_G) (cs : Nat → ClassId) (B : Nat) (G : hq_G) (V : hp_V) (n : Nat) (hI : hq_I cs G V) (q : Nat) (mo : Nat) (w : sp_W) (j : Nat) (na : Nat) (sa : Nat) (Nn : Nat) (Ns : Nat) (base : Nat) (L : List Nat) (m_tp : Int32) (m_sz : Int32) (m_fr : Int32) (m_bh : Int32) (m_hd : Int32) (m_ft : Int32) (m_fa : Int32) (m_le : Int32) (m_fo : Int32) (m_as : Int32) (m_fd : Int32) (m_bc : Int32) (m_bg : Int32) (m_bs : Int32) (m_be : Int32) (m_b0 : Int32) (m_b1 : Int32) (m_cm : Int32) (m_hc : Int32) (bs : Int32) (mn : Int32) (nf : Nat → Int32) (sf : Nat → Int32) (hc0 : V (mo) = some (.inr (13, hm_o q (m_tp) (m_sz) (m_fr) (m_bh) (m_hd) (m_ft) (m_fa) (m_le) (m_fo) (m_as) (m_fd) (m_bc) (m_bg) (m_bs) (m_be) (m_b0) (m_b1) (m_cm) (m_hc)))) (hc1 : V (na) = some (.inl (cs 0, Nn, .inl (nf)))) (hc2 : V (sa) = some (.inl (cs 1, Ns, .inl (sf)))) (hp0 : hm_TP cs V q w) (hR : hq_RT G q) (hmo : G mo = some (24, 0, 0, 0)) (hmq : mo < q) (hsz : m_sz.toInt = w.2) (hA : hm_A w j m_fr m_bh m_hd) (hk17 : sp_k w j = 17) (hbs : bs.toInt = (base : Int)) (hmn : mn.toInt = (L.length : Int)) (hN : base + L.length ≤ Ns) (hNn : 12 * Ns ≤ Nn) (hNb : Ns ≤ 100) (hNL : ∀ i t : Nat, L[i]? = some t → ((sf (base + i)).toInt = sp_e w t - sp_s w t ∧ (0 ≤ sp_e w t - sp_s w t ∧ sp_e w t - sp_s w t ≤ 12) ∧ ∀ k : Nat, (k : Int) < sp_e w t - sp_s w t → (nf (12 * (base + i) + k)).toInt = w.1 (sp_s w t + k))) : hp_M l yX13_nameIn cX13_nameIn 8 (some .int) ({ frames := 1, cells := 0, slots := 0, locals := 21 }) D cs B V n [.ref (mo), .ref (na), .ref (sa), .int (bs), .int (mn)] (hp_QI D cs B (fun r V' n' => n = n' ∧ V = V' ∧ (r.toInt = sp_fi w j L 0))) 0 0 := by
  refine hp_walk (R0 := RX13) (by decide) rfl ?_ (Nat.le_of_ble_eq_true rfl)
  intro p e s m below meth c ls hx hb hr hts hown hlocks hin hml hZ hl
  have hP : hq_I cs G V := hI
  have hl : lv_has ls 8 [(0, .ref (mo)), (1, .ref (na)), (2, .ref (sa)), (3, .int (bs)), (4, .int (mn))] := hl
  have hb_m_tp := hq_rng m_tp
  have hb_m_sz := hq_rng m_sz
  have hb_m_fr := hq_rng m_fr
  have hb_m_bh := hq_rng m_bh
  have hb_m_hd := hq_rng m_hd
  have hb_m_ft := hq_rng m_ft
  have hb_m_fa := hq_rng m_fa
  have hb_m_le := hq_rng m_le
  have hb_m_fo := hq_rng m_fo
  have hb_m_as := hq_rng m_as
  have hb_m_fd := hq_rng m_fd
  have hb_m_bc := hq_rng m_bc
  have hb_m_bg := hq_rng m_bg
  have hb_m_bs := hq_rng m_bs
  have hb_m_be := hq_rng m_be
  have hb_m_b0 := hq_rng m_b0
  have hb_m_b1 := hq_rng m_b1
  have hb_m_cm := hq_rng m_cm
  have hb_m_hc := hq_rng m_hc
  have hb_bs := hq_rng bs
  have hb_mn := hq_rng mn
  obtain ⟨b1, b2, b3, -⟩ := id hA
  obtain ⟨tg, htg, hok, hz3⟩ := id hp0
  have hz2 := hok.1
  have h17 := sp_h_1 (sp_k w j)
  have hbe := hA.2.2.2 (by omega)
  have htk := sp_tok (w := w) (j := j) hA.1
  have hti := sp_tok_in (w := w) (j := j) hA.1 (by omega)
  have htw := sp_tok_word (w := w) (j := j) hA.1 (by omega)
  refine lv_iconst (v := 0) hx hb dX13_nameIn_0 (by decide) ?_
  refine lv_istore (lv' := [(5, .int (0)), (0, .ref (mo)), (1, .ref (na)), (2, .ref (sa)), (3, .int (bs)), (4, .int (mn))]) hx hb dX13_nameIn_1 hl (by decide) rfl (fun ls hl => ?_)
  have hl4 : (0 : Int32).toInt = 0 := by decide
  suffices lp3 : ∀ (k9 : Nat) (H9 : Heap) (locs9 : List Loc) (ls : Array Slot) (k : Int32), (200 - k.toInt).toNat = k9 → hp_Z D cs B s V H9 n locs9 → hq_I cs G V → 0 ≤ k.toInt → k.toInt ≤ L.length → (sp_fi w j (L.drop k.toNatClampNeg) k.toInt = sp_fi w j L 0) → lv_has ls 8 [(5, .int (k)), (0, .ref (mo)), (1, .ref (na)), (2, .ref (sa)), (3, .int (bs)), (4, .int (mn))] → W p l e ({ frames := 1, cells := 0, slots := 0, locals := 21 }) s m ([.ref (mo), .ref (na), .ref (sa), .int (bs), .int (mn)] : List Value).toArray below meth c H9 locs9 0 0 (MQ below (hp_QI D cs B (fun r V' n' => n = n' ∧ V = V' ∧ (r.toInt = sp_fi w j L 0))) ([.ref (mo), .ref (na), .ref (sa), .int (bs), .int (mn)] : List Value).toArray s 0 0 (hp_F B)) (F0 m 3 ls []) from lp3 _ _ _ ls (0) rfl hZ hP (by omega) (by omega) (rfl) (lv_sub hl [0, 1, 2, 3, 4, 5] rfl)
  intro k9
  induction k9 using Nat.strongRecOn with
  | _ k9 ih3 =>
    intro H9 locs9 ls k   hk3 hZ hP    hv5 hv6 hfi hl
    have hb_k := hq_rng k
    refine lv_iload hx hb dX13_nameIn_3 (lv_at hl 0 rfl) ?_
    refine lv_iload hx hb dX13_nameIn_5 (lv_at hl 5 rfl) ?_
    refine lv_icmp_ge (tgt := 108) hx hb dX13_nameIn_7 (by decide) (fun c7 => ?_) (fun c7 => ?_)
    · have c7 : (mn).toInt ≤ (k).toInt := hq_lei.mp c7
      refine lv_iconst (v := -1) hx hb dX13_nameIn_108 (by decide) ?_
      have hl8 : (-1 : Int32).toInt = -1 := by decide
      exact hp_iret hx hb hr hlocks hZ ⟨rfl, rfl, by rw [← hfi, sp_fi_out (by have h8 := (hq_nn (z := k) (by omega)).1; omega)]; omega⟩ dX13_nameIn_109
    · have c7 : ¬ (mn).toInt ≤ (k).toInt := fun h9 => c7 (hq_lei.mpr h9)
      have hkk : (k.toNatClampNeg : Int) = k.toInt := (hq_nn (by omega)).1.symm
      obtain ⟨t9, ht9⟩ : ∃ t, L[k.toNatClampNeg]? = some t := ⟨_, List.getElem?_eq_getElem (by omega)⟩
      obtain ⟨hn1, hn2, hn3⟩ := hNL _ _ ht9
      refine lv_aload_n hx hb dX13_nameIn_10 rfl (lv_at hl 3 rfl) ?_
      refine lv_iload_n hx hb dX13_nameIn_11 rfl (lv_at hl 4 rfl) ?_
      refine lv_iload hx hb dX13_nameIn_12 (lv_at hl 0 rfl) ?_
      refine lv_iadd hx hb dX13_nameIn_14 ?_
      refine lv_topi (fun y9 ey10 => ?_)
      obtain ⟨k11, hk12, b13, b14⟩ := hq_add (bs) (k)
      rw [← ey10] at hk12 b13 b14
      have hk12 : (y9).toInt = (bs).toInt + (k).toInt + k11 * 4294967296 := hk12
      obtain rfl : k11 = 0 := by omega
      refine hp_iald hx hb hZ hc2 (hq_in (by omega) (by omega)) dX13_nameIn_15 ?_
      refine lv_topi (fun y15 ey16 => ?_)
      have b17 := hq_rng y15
      have b18 : (y15).toInt = sp_e w t9 - sp_s w t9 := by rw [ey16, show (y9 : Int32).toNatClampNeg = base + k.toNatClampNeg from (by have h8 := (hq_nn (z := y9) (by omega)).1; omega)]; exact hn1
      refine lv_aload_n hx hb dX13_nameIn_16 rfl (lv_at hl 1 rfl) ?_
      refine hp_get (v := .int (m_bh)) hx hb hts hown hZ hc0 fl_X13_76 rfl dX13_nameIn_17 ?_
      refine lv_aload_n hx hb dX13_nameIn_20 rfl (lv_at hl 1 rfl) ?_
      refine hp_get (v := .int (m_fr)) hx hb hts hown hZ hc0 fl_X13_60 rfl dX13_nameIn_21 ?_
      refine lv_isub hx hb dX13_nameIn_24 ?_
      refine lv_topi (fun y19 ey20 => ?_)
      obtain ⟨k21, hk22, b23, b24⟩ := hq_sub (m_bh) (m_fr)
      rw [← ey20] at hk22 b23 b24
      have hk22 : (y19).toInt = (m_bh).toInt - (m_fr).toInt + k21 * 4294967296 := hk22
      obtain rfl : k21 = 0 := by omega
      refine lv_icmp_ne (tgt := 32) hx hb dX13_nameIn_25 (by decide) (fun c25 => ?_) (fun c25 => ?_)
      · have c25 : ¬ (y15).toInt = (y19).toInt := fun h9 => c25 (hq_eqi.mpr h9)
        refine lv_iconst (v := 0) hx hb dX13_nameIn_32 (by decide) ?_
        refine lv_istore (lv' := [(6, .int (0)), (5, .int (k)), (0, .ref (mo)), (1, .ref (na)), (2, .ref (sa)), (3, .int (bs)), (4, .int (mn))]) hx hb dX13_nameIn_33 hl (by decide) rfl (fun ls hl => ?_)
        refine lv_iconst (v := 0) hx hb dX13_nameIn_35 (by decide) ?_
        refine lv_istore (lv' := [(7, .int (0)), (6, .int (0)), (5, .int (k)), (0, .ref (mo)), (1, .ref (na)), (2, .ref (sa)), (3, .int (bs)), (4, .int (mn))]) hx hb dX13_nameIn_36 hl (by decide) rfl (fun ls hl => ?_)
        have hl26 : (0 : Int32).toInt = 0 := by decide
        have hl27 : (0 : Int32).toInt = 0 := by decide
        suffices lp38 : ∀ (k9 : Nat) (H9 : Heap) (locs9 : List Loc) (ls : Array Slot) (sm : Int32) (i : Int32), (200 - i.toInt).toNat = k9 → hp_Z D cs B s V H9 n locs9 → hq_I cs G V → 0 ≤ i.toInt → i.toInt ≤ sp_e w t9 - sp_s w t9 → 0 ≤ sm.toInt ∧ sm.toInt ≤ 1 → (hx_D (sm.toInt = 1) (sp_e w t9 - sp_s w t9 = sp_e w j - sp_s w j ∧ ∀ x : Nat, (x : Int) < i.toInt → w.1 (sp_s w t9 + x) = w.1 (sp_s w j + x)) (sm.toInt = 0 ∧ ¬ sp_nm w t9 = sp_nm w j)) → lv_has ls 8 [(7, .int (i)), (6, .int (sm)), (5, .int (k)), (0, .ref (mo)), (1, .ref (na)), (2, .ref (sa)), (3, .int (bs)), (4, .int (mn))] → W p l e ({ frames := 1, cells := 0, slots := 0, locals := 21 }) s m ([.ref (mo), .ref (na), .ref (sa), .int (bs), .int (mn)] : List Value).toArray below meth c H9 locs9 0 0 (MQ below (hp_QI D cs B (fun r V' n' => n = n' ∧ V = V' ∧ (r.toInt = sp_fi w j L 0))) ([.ref (mo), .ref (na), .ref (sa), .int (bs), .int (mn)] : List Value).toArray s 0 0 (hp_F B)) (F0 m 38 ls []) from lp38 _ _ _ ls (0) (0) rfl hZ hP (by omega) (by omega) (by omega) (hx_D.r (by decide) ⟨by decide, fun g9 => by have h9 := (sp_seg_eq.mp g9).1; omega⟩) (lv_sub hl [0, 1, 2, 3, 4, 5, 6, 7] rfl)
        intro k9
        induction k9 using Nat.strongRecOn with
        | _ k9 ih38 =>
          intro H9 locs9 ls sm i   hk38 hZ hP    hv28 hv29 hv30 his hl
          have hb_sm := hq_rng sm
          have hb_i := hq_rng i
          refine lv_iload hx hb dX13_nameIn_38 (lv_at hl 0 rfl) ?_
          refine lv_aload_n hx hb dX13_nameIn_40 rfl (lv_at hl 5 rfl) ?_
          refine lv_iload_n hx hb dX13_nameIn_41 rfl (lv_at hl 6 rfl) ?_
          refine lv_iload hx hb dX13_nameIn_42 (lv_at hl 2 rfl) ?_
          refine lv_iadd hx hb dX13_nameIn_44 ?_
          refine lv_topi (fun y31 ey32 => ?_)
          obtain ⟨k33, hk34, b35, b36⟩ := hq_add (bs) (k)
          rw [← ey32] at hk34 b35 b36
          have hk34 : (y31).toInt = (bs).toInt + (k).toInt + k33 * 4294967296 := hk34
          obtain rfl : k33 = 0 := by omega
          refine hp_iald hx hb hZ hc2 (hq_in (by omega) (by omega)) dX13_nameIn_45 ?_
          refine lv_topi (fun y37 ey38 => ?_)
          have b39 := hq_rng y37
          have b40 : (y37).toInt = sp_e w t9 - sp_s w t9 := by rw [ey38, show (y31 : Int32).toNatClampNeg = base + k.toNatClampNeg from (by have h8 := (hq_nn (z := y31) (by omega)).1; omega)]; exact hn1
          refine lv_icmp_ge (tgt := 94) hx hb dX13_nameIn_46 (by decide) (fun c41 => ?_) (fun c41 => ?_)
          · have c41 : (y37).toInt ≤ (i).toInt := hq_lei.mp c41
            refine lv_iload hx hb dX13_nameIn_94 (lv_at hl 1 rfl) ?_
            refine lv_if_eq (tgt := 102) hx hb dX13_nameIn_96 (by decide) (fun c42 => ?_) (fun c42 => ?_)
            · have c42 : (sm).toInt = (0 : Int) := hq_eqi.mp c42
              have hno := hx_D.neg his (by omega)
              obtain ⟨y43, ey44⟩ : ∃ y : Int32, y = k + (1) := ⟨_, rfl⟩
              obtain ⟨k45, hk46, b47, b48⟩ := hq_add (k) (1)
              rw [← ey44] at hk46 b47 b48
              have hk46 : (y43).toInt = (k).toInt + (1) + k45 * 4294967296 := hk46
              obtain rfl : k45 = 0 := by omega
              refine lv_iinc (v := y43) (lv' := [(5, .int (y43)), (7, .int (i)), (6, .int (sm)), (0, .ref (mo)), (1, .ref (na)), (2, .ref (sa)), (3, .int (bs)), (4, .int (mn))]) hx hb dX13_nameIn_102 hl (k := 2) rfl (by rw [ey44]; rfl) (by decide) rfl (fun ls hl => ?_)
              refine lv_goto (tgt := 3) hx hb dX13_nameIn_105 (by decide) ?_
              exact ih3 _ (by omega) _ _ ls (y43) rfl hZ hP (by omega) (by omega) (by rw [← hfi, sp_fi_go ht9, if_neg hno.2, show (y43).toNatClampNeg = k.toNatClampNeg + 1 from (by have h8 := (hq_nn (z := y43) (by omega)).1; omega), show (y43).toInt = k.toInt + 1 by omega]) (lv_sub hl [0, 3, 4, 5, 6, 7] rfl)
            · have c42 : ¬ (sm).toInt = (0 : Int) := fun h9 => c42 (hq_eqi.mpr h9)
              have hyes := hx_D.pos his (by rcases Classical.em (sm.toInt = 1) with h9 | h9; exact h9; exact absurd (hx_D.neg his h9).1 (by omega))
              refine lv_iload hx hb dX13_nameIn_99 (lv_at hl 2 rfl) ?_
              exact hp_iret hx hb hr hlocks hZ ⟨rfl, rfl, by rw [← hfi, sp_fi_go ht9, if_pos (show sp_nm w t9 = sp_nm w j from sp_seg_eq.mpr ⟨by omega, fun x hx9 => hyes.2 x (by omega)⟩)]⟩ dX13_nameIn_101
          · have c41 : ¬ (y37).toInt ≤ (i).toInt := fun h9 => c41 (hq_lei.mpr h9)
            refine lv_iload hx hb dX13_nameIn_49 (lv_at hl 1 rfl) ?_
            refine lv_if_eq (tgt := 94) hx hb dX13_nameIn_51 (by decide) (fun c49 => ?_) (fun c49 => ?_)
            · have c49 : (sm).toInt = (0 : Int) := hq_eqi.mp c49
              have hno := hx_D.neg his (by omega)
              refine lv_iload hx hb dX13_nameIn_94 (lv_at hl 1 rfl) ?_
              have hl50 : (0 : Int32).toInt = 0 := by decide
              refine lv_if_eq (tgt := 102) hx hb dX13_nameIn_96 (by decide) (fun c51 => ?_) (fun c51 => absurd ((Int32.toInt_inj.mp (by omega) : sm = 0)) c51)
              obtain ⟨y52, ey53⟩ : ∃ y : Int32, y = k + (1) := ⟨_, rfl⟩
              obtain ⟨k54, hk55, b56, b57⟩ := hq_add (k) (1)
              rw [← ey53] at hk55 b56 b57
              have hk55 : (y52).toInt = (k).toInt + (1) + k54 * 4294967296 := hk55
              obtain rfl : k54 = 0 := by omega
              refine lv_iinc (v := y52) (lv' := [(5, .int (y52)), (7, .int (i)), (6, .int (sm)), (0, .ref (mo)), (1, .ref (na)), (2, .ref (sa)), (3, .int (bs)), (4, .int (mn))]) hx hb dX13_nameIn_102 hl (k := 2) rfl (by rw [ey53]; rfl) (by decide) rfl (fun ls hl => ?_)
              refine lv_goto (tgt := 3) hx hb dX13_nameIn_105 (by decide) ?_
              exact ih3 _ (by omega) _ _ ls (y52) rfl hZ hP (by omega) (by omega) (by rw [← hfi, sp_fi_go ht9, if_neg hno.2, show (y52).toNatClampNeg = k.toNatClampNeg + 1 from (by have h8 := (hq_nn (z := y52) (by omega)).1; omega), show (y52).toInt = k.toInt + 1 by omega]) (lv_sub hl [0, 3, 4, 5, 6, 7] rfl)
            · have c49 : ¬ (sm).toInt = (0 : Int) := fun h9 => c49 (hq_eqi.mpr h9)
              have hyes := hx_D.pos his (by rcases Classical.em (sm.toInt = 1) with h9 | h9; exact h9; exact absurd (hx_D.neg his h9).1 (by omega))
              obtain ⟨hy1, -⟩ := id hyes
              refine lv_aload_n hx hb dX13_nameIn_54 rfl (lv_at hl 4 rfl) ?_
              refine lv_bipush (v := 12) hx hb dX13_nameIn_55 (by decide) ?_
              refine lv_iload_n hx hb dX13_nameIn_57 rfl (lv_at hl 6 rfl) ?_
              refine lv_iload hx hb dX13_nameIn_58 (lv_at hl 2 rfl) ?_
              refine lv_iadd hx hb dX13_nameIn_60 ?_
              refine lv_topi (fun y58 ey59 => ?_)
              obtain ⟨k60, hk61, b62, b63⟩ := hq_add (bs) (k)
              rw [← ey59] at hk61 b62 b63
              have hk61 : (y58).toInt = (bs).toInt + (k).toInt + k60 * 4294967296 := hk61
              obtain rfl : k60 = 0 := by omega
              refine lv_imul hx hb dX13_nameIn_61 ?_
              refine lv_topi (fun y64 ey65 => ?_)
              obtain ⟨k66, hk67, b68, b69⟩ := hq_mul (12) (y58)
              rw [← ey65] at hk67 b68 b69
              have hk67 : (y64).toInt = (12 : Int) * (y58).toInt + k66 * 4294967296 := hk67
              obtain rfl : k66 = 0 := by omega
              refine lv_iload hx hb dX13_nameIn_62 (lv_at hl 0 rfl) ?_
              refine lv_iadd hx hb dX13_nameIn_64 ?_
              refine lv_topi (fun y70 ey71 => ?_)
              obtain ⟨k72, hk73, b74, b75⟩ := hq_add (y64) (i)
              rw [← ey71] at hk73 b74 b75
              have hk73 : (y70).toInt = (y64).toInt + (i).toInt + k72 * 4294967296 := hk73
              obtain rfl : k72 = 0 := by omega
              refine hp_bald hx hb hZ hc1 (hq_in (by omega) (by omega)) dX13_nameIn_65 ?_
              refine lv_topi (fun y76 ey77 => ?_)
              have b78 := hq_rng y76
              refine lv_aload_n hx hb dX13_nameIn_66 rfl (lv_at hl 3 rfl) ?_
              refine hp_get (v := .ref (q + 20)) hx hb hts hown hZ hc0 fl_X13_73 rfl dX13_nameIn_67 ?_
              refine lv_aload_n hx hb dX13_nameIn_70 rfl (lv_at hl 3 rfl) ?_
              refine hp_get (v := .int (m_fr)) hx hb hts hown hZ hc0 fl_X13_60 rfl dX13_nameIn_71 ?_
              refine lv_iload hx hb dX13_nameIn_74 (lv_at hl 0 rfl) ?_
              refine lv_iadd hx hb dX13_nameIn_76 ?_
              refine lv_topi (fun y79 ey80 => ?_)
              obtain ⟨k81, hk82, b83, b84⟩ := hq_add (m_fr) (i)
              rw [← ey80] at hk82 b83 b84
              have hk82 : (y79).toInt = (m_fr).toInt + (i).toInt + k81 * 4294967296 := hk82
              obtain rfl : k81 = 0 := by omega
              refine hp_bald hx hb hZ htg (hq_in (by omega) (by omega)) dX13_nameIn_77 ?_
              refine lv_topi (fun y85 ey86 => ?_)
              have b87 := hq_rng y85
              have hgw9 := hx_gw hz3 (i := y79) (by omega) (by omega)
              rw [← ey86] at hgw9
              refine lv_icmp_ne (tgt := 85) hx hb dX13_nameIn_78 (by decide) (fun c88 => ?_) (fun c88 => ?_)
              · have c88 : ¬ (y76).toInt = (y85).toInt := fun h9 => c88 (hq_eqi.mpr h9)
                refine lv_iconst (v := 0) hx hb dX13_nameIn_85 (by decide) ?_
                refine lv_istore (lv' := [(6, .int (0)), (7, .int (i)), (5, .int (k)), (0, .ref (mo)), (1, .ref (na)), (2, .ref (sa)), (3, .int (bs)), (4, .int (mn))]) hx hb dX13_nameIn_86 hl (by decide) rfl (fun ls hl => ?_)
                obtain ⟨y89, ey90⟩ : ∃ y : Int32, y = i + (1) := ⟨_, rfl⟩
                obtain ⟨k91, hk92, b93, b94⟩ := hq_add (i) (1)
                rw [← ey90] at hk92 b93 b94
                have hk92 : (y89).toInt = (i).toInt + (1) + k91 * 4294967296 := hk92
                obtain rfl : k91 = 0 := by omega
                refine lv_iinc (v := y89) (lv' := [(7, .int (y89)), (6, .int (0)), (5, .int (k)), (0, .ref (mo)), (1, .ref (na)), (2, .ref (sa)), (3, .int (bs)), (4, .int (mn))]) hx hb dX13_nameIn_88 hl (k := 1) rfl (by rw [ey90]; rfl) (by decide) rfl (fun ls hl => ?_)
                refine lv_goto (tgt := 38) hx hb dX13_nameIn_91 (by decide) ?_
                have hl95 : (0 : Int32).toInt = 0 := by decide
                exact ih38 _ (by omega) _ _ ls (0) (y89) rfl hZ hP (by omega) (by omega) (by omega) (hx_D.r (by decide) ⟨by decide, fun g9 => by have h9 := (sp_seg_eq.mp g9).2 i.toInt.toNat (by omega); rw [(show w.1 (sp_s w t9 + (i.toInt.toNat : Int)) = (y76).toInt by rw [ey77, show (y70 : Int32).toNatClampNeg = 12 * (base + k.toNatClampNeg) + i.toInt.toNat from (by have h8 := (hq_nn (z := y70) (by omega)).1; omega), hn3 _ (by omega)]), (show w.1 (sp_s w j + (i.toInt.toNat : Int)) = (y85).toInt by rw [hgw9]; exact congrArg w.1 (by omega))] at h9; omega⟩) (lv_sub hl [0, 1, 2, 3, 4, 5, 6, 7] rfl)
              · have c88 : (y76).toInt = (y85).toInt := hq_eqi.mp c88
                refine lv_iconst (v := 1) hx hb dX13_nameIn_81 (by decide) ?_
                refine lv_goto (tgt := 86) hx hb dX13_nameIn_82 (by decide) ?_
                refine lv_istore (lv' := [(6, .int (1)), (7, .int (i)), (5, .int (k)), (0, .ref (mo)), (1, .ref (na)), (2, .ref (sa)), (3, .int (bs)), (4, .int (mn))]) hx hb dX13_nameIn_86 hl (by decide) rfl (fun ls hl => ?_)
                obtain ⟨y96, ey97⟩ : ∃ y : Int32, y = i + (1) := ⟨_, rfl⟩
                obtain ⟨k98, hk99, b100, b101⟩ := hq_add (i) (1)
                rw [← ey97] at hk99 b100 b101
                have hk99 : (y96).toInt = (i).toInt + (1) + k98 * 4294967296 := hk99
                obtain rfl : k98 = 0 := by omega
                refine lv_iinc (v := y96) (lv' := [(7, .int (y96)), (6, .int (1)), (5, .int (k)), (0, .ref (mo)), (1, .ref (na)), (2, .ref (sa)), (3, .int (bs)), (4, .int (mn))]) hx hb dX13_nameIn_88 hl (k := 1) rfl (by rw [ey97]; rfl) (by decide) rfl (fun ls hl => ?_)
                refine lv_goto (tgt := 38) hx hb dX13_nameIn_91 (by decide) ?_
                have hl102 : (1 : Int32).toInt = 1 := by decide
                exact ih38 _ (by omega) _ _ ls (1) (y96) rfl hZ hP (by omega) (by omega) (by omega) (hx_D.l (by decide) ⟨by omega, fun x hx9 => by by_cases h9 : (x : Int) < i.toInt; (· exact hyes.2 x h9); (· rw [show x = i.toInt.toNat by omega, (show w.1 (sp_s w t9 + (i.toInt.toNat : Int)) = (y76).toInt by rw [ey77, show (y70 : Int32).toNatClampNeg = 12 * (base + k.toNatClampNeg) + i.toInt.toNat from (by have h8 := (hq_nn (z := y70) (by omega)).1; omega), hn3 _ (by omega)]), (show w.1 (sp_s w j + (i.toInt.toNat : Int)) = (y85).toInt by rw [hgw9]; exact congrArg w.1 (by omega))]; omega)⟩) (lv_sub hl [0, 1, 2, 3, 4, 5, 6, 7] rfl)
      · have c25 : (y15).toInt = (y19).toInt := hq_eqi.mp c25
        refine lv_iconst (v := 1) hx hb dX13_nameIn_28 (by decide) ?_
        refine lv_goto (tgt := 33) hx hb dX13_nameIn_29 (by decide) ?_
        refine lv_istore (lv' := [(6, .int (1)), (5, .int (k)), (0, .ref (mo)), (1, .ref (na)), (2, .ref (sa)), (3, .int (bs)), (4, .int (mn))]) hx hb dX13_nameIn_33 hl (by decide) rfl (fun ls hl => ?_)
        refine lv_iconst (v := 0) hx hb dX13_nameIn_35 (by decide) ?_
        refine lv_istore (lv' := [(7, .int (0)), (6, .int (1)), (5, .int (k)), (0, .ref (mo)), (1, .ref (na)), (2, .ref (sa)), (3, .int (bs)), (4, .int (mn))]) hx hb dX13_nameIn_36 hl (by decide) rfl (fun ls hl => ?_)
        have hl103 : (1 : Int32).toInt = 1 := by decide
        have hl104 : (0 : Int32).toInt = 0 := by decide
        suffices lp38 : ∀ (k9 : Nat) (H9 : Heap) (locs9 : List Loc) (ls : Array Slot) (sm : Int32) (i : Int32), (200 - i.toInt).toNat = k9 → hp_Z D cs B s V H9 n locs9 → hq_I cs G V → 0 ≤ i.toInt → i.toInt ≤ sp_e w t9 - sp_s w t9 → 0 ≤ sm.toInt ∧ sm.toInt ≤ 1 → (hx_D (sm.toInt = 1) (sp_e w t9 - sp_s w t9 = sp_e w j - sp_s w j ∧ ∀ x : Nat, (x : Int) < i.toInt → w.1 (sp_s w t9 + x) = w.1 (sp_s w j + x)) (sm.toInt = 0 ∧ ¬ sp_nm w t9 = sp_nm w j)) → lv_has ls 8 [(7, .int (i)), (6, .int (sm)), (5, .int (k)), (0, .ref (mo)), (1, .ref (na)), (2, .ref (sa)), (3, .int (bs)), (4, .int (mn))] → W p l e ({ frames := 1, cells := 0, slots := 0, locals := 21 }) s m ([.ref (mo), .ref (na), .ref (sa), .int (bs), .int (mn)] : List Value).toArray below meth c H9 locs9 0 0 (MQ below (hp_QI D cs B (fun r V' n' => n = n' ∧ V = V' ∧ (r.toInt = sp_fi w j L 0))) ([.ref (mo), .ref (na), .ref (sa), .int (bs), .int (mn)] : List Value).toArray s 0 0 (hp_F B)) (F0 m 38 ls []) from lp38 _ _ _ ls (1) (0) rfl hZ hP (by omega) (by omega) (by omega) (hx_D.l (by decide) ⟨by omega, fun x hx9 => by omega⟩) (lv_sub hl [0, 1, 2, 3, 4, 5, 6, 7] rfl)
        intro k9
        induction k9 using Nat.strongRecOn with
        | _ k9 ih38 =>
          intro H9 locs9 ls sm i   hk38 hZ hP    hv105 hv106 hv107 his hl
          have hb_sm := hq_rng sm
          have hb_i := hq_rng i
          refine lv_iload hx hb dX13_nameIn_38 (lv_at hl 0 rfl) ?_
          refine lv_aload_n hx hb dX13_nameIn_40 rfl (lv_at hl 5 rfl) ?_
          refine lv_iload_n hx hb dX13_nameIn_41 rfl (lv_at hl 6 rfl) ?_
          refine lv_iload hx hb dX13_nameIn_42 (lv_at hl 2 rfl) ?_
          refine lv_iadd hx hb dX13_nameIn_44 ?_
          refine lv_topi (fun y108 ey109 => ?_)
          obtain ⟨k110, hk111, b112, b113⟩ := hq_add (bs) (k)
          rw [← ey109] at hk111 b112 b113
          have hk111 : (y108).toInt = (bs).toInt + (k).toInt + k110 * 4294967296 := hk111
          obtain rfl : k110 = 0 := by omega
          refine hp_iald hx hb hZ hc2 (hq_in (by omega) (by omega)) dX13_nameIn_45 ?_
          refine lv_topi (fun y114 ey115 => ?_)
          have b116 := hq_rng y114
          have b117 : (y114).toInt = sp_e w t9 - sp_s w t9 := by rw [ey115, show (y108 : Int32).toNatClampNeg = base + k.toNatClampNeg from (by have h8 := (hq_nn (z := y108) (by omega)).1; omega)]; exact hn1
          refine lv_icmp_ge (tgt := 94) hx hb dX13_nameIn_46 (by decide) (fun c118 => ?_) (fun c118 => ?_)
          · have c118 : (y114).toInt ≤ (i).toInt := hq_lei.mp c118
            refine lv_iload hx hb dX13_nameIn_94 (lv_at hl 1 rfl) ?_
            refine lv_if_eq (tgt := 102) hx hb dX13_nameIn_96 (by decide) (fun c119 => ?_) (fun c119 => ?_)
            · have c119 : (sm).toInt = (0 : Int) := hq_eqi.mp c119
              have hno := hx_D.neg his (by omega)
              obtain ⟨y120, ey121⟩ : ∃ y : Int32, y = k + (1) := ⟨_, rfl⟩
              obtain ⟨k122, hk123, b124, b125⟩ := hq_add (k) (1)
              rw [← ey121] at hk123 b124 b125
              have hk123 : (y120).toInt = (k).toInt + (1) + k122 * 4294967296 := hk123
              obtain rfl : k122 = 0 := by omega
              refine lv_iinc (v := y120) (lv' := [(5, .int (y120)), (7, .int (i)), (6, .int (sm)), (0, .ref (mo)), (1, .ref (na)), (2, .ref (sa)), (3, .int (bs)), (4, .int (mn))]) hx hb dX13_nameIn_102 hl (k := 2) rfl (by rw [ey121]; rfl) (by decide) rfl (fun ls hl => ?_)
              refine lv_goto (tgt := 3) hx hb dX13_nameIn_105 (by decide) ?_
              exact ih3 _ (by omega) _ _ ls (y120) rfl hZ hP (by omega) (by omega) (by rw [← hfi, sp_fi_go ht9, if_neg hno.2, show (y120).toNatClampNeg = k.toNatClampNeg + 1 from (by have h8 := (hq_nn (z := y120) (by omega)).1; omega), show (y120).toInt = k.toInt + 1 by omega]) (lv_sub hl [0, 3, 4, 5, 6, 7] rfl)
            · have c119 : ¬ (sm).toInt = (0 : Int) := fun h9 => c119 (hq_eqi.mpr h9)
              have hyes := hx_D.pos his (by rcases Classical.em (sm.toInt = 1) with h9 | h9; exact h9; exact absurd (hx_D.neg his h9).1 (by omega))
              refine lv_iload hx hb dX13_nameIn_99 (lv_at hl 2 rfl) ?_
              exact hp_iret hx hb hr hlocks hZ ⟨rfl, rfl, by rw [← hfi, sp_fi_go ht9, if_pos (show sp_nm w t9 = sp_nm w j from sp_seg_eq.mpr ⟨by omega, fun x hx9 => hyes.2 x (by omega)⟩)]⟩ dX13_nameIn_101
          · have c118 : ¬ (y114).toInt ≤ (i).toInt := fun h9 => c118 (hq_lei.mpr h9)
            refine lv_iload hx hb dX13_nameIn_49 (lv_at hl 1 rfl) ?_
            refine lv_if_eq (tgt := 94) hx hb dX13_nameIn_51 (by decide) (fun c126 => ?_) (fun c126 => ?_)
            · have c126 : (sm).toInt = (0 : Int) := hq_eqi.mp c126
              have hno := hx_D.neg his (by omega)
              refine lv_iload hx hb dX13_nameIn_94 (lv_at hl 1 rfl) ?_
              have hl127 : (0 : Int32).toInt = 0 := by decide
              refine lv_if_eq (tgt := 102) hx hb dX13_nameIn_96 (by decide) (fun c128 => ?_) (fun c128 => absurd ((Int32.toInt_inj.mp (by omega) : sm = 0)) c128)
              obtain ⟨y129, ey130⟩ : ∃ y : Int32, y = k + (1) := ⟨_, rfl⟩
              obtain ⟨k131, hk132, b133, b134⟩ := hq_add (k) (1)
              rw [← ey130] at hk132 b133 b134
              have hk132 : (y129).toInt = (k).toInt + (1) + k131 * 4294967296 := hk132
              obtain rfl : k131 = 0 := by omega
              refine lv_iinc (v := y129) (lv' := [(5, .int (y129)), (7, .int (i)), (6, .int (sm)), (0, .ref (mo)), (1, .ref (na)), (2, .ref (sa)), (3, .int (bs)), (4, .int (mn))]) hx hb dX13_nameIn_102 hl (k := 2) rfl (by rw [ey130]; rfl) (by decide) rfl (fun ls hl => ?_)
              refine lv_goto (tgt := 3) hx hb dX13_nameIn_105 (by decide) ?_
              exact ih3 _ (by omega) _ _ ls (y129) rfl hZ hP (by omega) (by omega) (by rw [← hfi, sp_fi_go ht9, if_neg hno.2, show (y129).toNatClampNeg = k.toNatClampNeg + 1 from (by have h8 := (hq_nn (z := y129) (by omega)).1; omega), show (y129).toInt = k.toInt + 1 by omega]) (lv_sub hl [0, 3, 4, 5, 6, 7] rfl)
            · have c126 : ¬ (sm).toInt = (0 : Int) := fun h9 => c126 (hq_eqi.mpr h9)
              have hyes := hx_D.pos his (by rcases Classical.em (sm.toInt = 1) with h9 | h9; exact h9; exact absurd (hx_D.neg his h9).1 (by omega))
              obtain ⟨hy1, -⟩ := id hyes
              refine lv_aload_n hx hb dX13_nameIn_54 rfl (lv_at hl 4 rfl) ?_
              refine lv_bipush (v := 12) hx hb dX13_nameIn_55 (by decide) ?_
              refine lv_iload_n hx hb dX13_nameIn_57 rfl (lv_at hl 6 rfl) ?_
              refine lv_iload hx hb dX13_nameIn_58 (lv_at hl 2 rfl) ?_
              refine lv_iadd hx hb dX13_nameIn_60 ?_
              refine lv_topi (fun y135 ey136 => ?_)
              obtain ⟨k137, hk138, b139, b140⟩ := hq_add (bs) (k)
              rw [← ey136] at hk138 b139 b140
              have hk138 : (y135).toInt = (bs).toInt + (k).toInt + k137 * 4294967296 := hk138
              obtain rfl : k137 = 0 := by omega
              refine lv_imul hx hb dX13_nameIn_61 ?_
              refine lv_topi (fun y141 ey142 => ?_)
              obtain ⟨k143, hk144, b145, b146⟩ := hq_mul (12) (y135)
              rw [← ey142] at hk144 b145 b146
              have hk144 : (y141).toInt = (12 : Int) * (y135).toInt + k143 * 4294967296 := hk144
              obtain rfl : k143 = 0 := by omega
              refine lv_iload hx hb dX13_nameIn_62 (lv_at hl 0 rfl) ?_
              refine lv_iadd hx hb dX13_nameIn_64 ?_
              refine lv_topi (fun y147 ey148 => ?_)
              obtain ⟨k149, hk150, b151, b152⟩ := hq_add (y141) (i)
              rw [← ey148] at hk150 b151 b152
              have hk150 : (y147).toInt = (y141).toInt + (i).toInt + k149 * 4294967296 := hk150
              obtain rfl : k149 = 0 := by omega
              refine hp_bald hx hb hZ hc1 (hq_in (by omega) (by omega)) dX13_nameIn_65 ?_
              refine lv_topi (fun y153 ey154 => ?_)
              have b155 := hq_rng y153
              refine lv_aload_n hx hb dX13_nameIn_66 rfl (lv_at hl 3 rfl) ?_
              refine hp_get (v := .ref (q + 20)) hx hb hts hown hZ hc0 fl_X13_73 rfl dX13_nameIn_67 ?_
              refine lv_aload_n hx hb dX13_nameIn_70 rfl (lv_at hl 3 rfl) ?_
              refine hp_get (v := .int (m_fr)) hx hb hts hown hZ hc0 fl_X13_60 rfl dX13_nameIn_71 ?_
              refine lv_iload hx hb dX13_nameIn_74 (lv_at hl 0 rfl) ?_
              refine lv_iadd hx hb dX13_nameIn_76 ?_
              refine lv_topi (fun y156 ey157 => ?_)
              obtain ⟨k158, hk159, b160, b161⟩ := hq_add (m_fr) (i)
              rw [← ey157] at hk159 b160 b161
              have hk159 : (y156).toInt = (m_fr).toInt + (i).toInt + k158 * 4294967296 := hk159
              obtain rfl : k158 = 0 := by omega
              refine hp_bald hx hb hZ htg (hq_in (by omega) (by omega)) dX13_nameIn_77 ?_
              refine lv_topi (fun y162 ey163 => ?_)
              have b164 := hq_rng y162
              have hgw9 := hx_gw hz3 (i := y156) (by omega) (by omega)
              rw [← ey163] at hgw9
              refine lv_icmp_ne (tgt := 85) hx hb dX13_nameIn_78 (by decide) (fun c165 => ?_) (fun c165 => ?_)
              · have c165 : ¬ (y153).toInt = (y162).toInt := fun h9 => c165 (hq_eqi.mpr h9)
                refine lv_iconst (v := 0) hx hb dX13_nameIn_85 (by decide) ?_
                refine lv_istore (lv' := [(6, .int (0)), (7, .int (i)), (5, .int (k)), (0, .ref (mo)), (1, .ref (na)), (2, .ref (sa)), (3, .int (bs)), (4, .int (mn))]) hx hb dX13_nameIn_86 hl (by decide) rfl (fun ls hl => ?_)
                obtain ⟨y166, ey167⟩ : ∃ y : Int32, y = i + (1) := ⟨_, rfl⟩
                obtain ⟨k168, hk169, b170, b171⟩ := hq_add (i) (1)
                rw [← ey167] at hk169 b170 b171
                have hk169 : (y166).toInt = (i).toInt + (1) + k168 * 4294967296 := hk169
                obtain rfl : k168 = 0 := by omega
                refine lv_iinc (v := y166) (lv' := [(7, .int (y166)), (6, .int (0)), (5, .int (k)), (0, .ref (mo)), (1, .ref (na)), (2, .ref (sa)), (3, .int (bs)), (4, .int (mn))]) hx hb dX13_nameIn_88 hl (k := 1) rfl (by rw [ey167]; rfl) (by decide) rfl (fun ls hl => ?_)
                refine lv_goto (tgt := 38) hx hb dX13_nameIn_91 (by decide) ?_
                have hl172 : (0 : Int32).toInt = 0 := by decide
                exact ih38 _ (by omega) _ _ ls (0) (y166) rfl hZ hP (by omega) (by omega) (by omega) (hx_D.r (by decide) ⟨by decide, fun g9 => by have h9 := (sp_seg_eq.mp g9).2 i.toInt.toNat (by omega); rw [(show w.1 (sp_s w t9 + (i.toInt.toNat : Int)) = (y153).toInt by rw [ey154, show (y147 : Int32).toNatClampNeg = 12 * (base + k.toNatClampNeg) + i.toInt.toNat from (by have h8 := (hq_nn (z := y147) (by omega)).1; omega), hn3 _ (by omega)]), (show w.1 (sp_s w j + (i.toInt.toNat : Int)) = (y162).toInt by rw [hgw9]; exact congrArg w.1 (by omega))] at h9; omega⟩) (lv_sub hl [0, 1, 2, 3, 4, 5, 6, 7] rfl)
              · have c165 : (y153).toInt = (y162).toInt := hq_eqi.mp c165
                refine lv_iconst (v := 1) hx hb dX13_nameIn_81 (by decide) ?_
                refine lv_goto (tgt := 86) hx hb dX13_nameIn_82 (by decide) ?_
                refine lv_istore (lv' := [(6, .int (1)), (7, .int (i)), (5, .int (k)), (0, .ref (mo)), (1, .ref (na)), (2, .ref (sa)), (3, .int (bs)), (4, .int (mn))]) hx hb dX13_nameIn_86 hl (by decide) rfl (fun ls hl => ?_)
                obtain ⟨y173, ey174⟩ : ∃ y : Int32, y = i + (1) := ⟨_, rfl⟩
                obtain ⟨k175, hk176, b177, b178⟩ := hq_add (i) (1)
                rw [← ey174] at hk176 b177 b178
                have hk176 : (y173).toInt = (i).toInt + (1) + k175 * 4294967296 := hk176
                obtain rfl : k175 = 0 := by omega
                refine lv_iinc (v := y173) (lv' := [(7, .int (y173)), (6, .int (1)), (5, .int (k)), (0, .ref (mo)), (1, .ref (na)), (2, .ref (sa)), (3, .int (bs)), (4, .int (mn))]) hx hb dX13_nameIn_88 hl (k := 1) rfl (by rw [ey174]; rfl) (by decide) rfl (fun ls hl => ?_)
                refine lv_goto (tgt := 38) hx hb dX13_nameIn_91 (by decide) ?_
                have hl179 : (1 : Int32).toInt = 1 := by decide
                exact ih38 _ (by omega) _ _ ls (1) (y173) rfl hZ hP (by omega) (by omega) (by omega) (hx_D.l (by decide) ⟨by omega, fun x hx9 => by by_cases h9 : (x : Int) < i.toInt; (· exact hyes.2 x h9); (· rw [show x = i.toInt.toNat by omega, (show w.1 (sp_s w t9 + (i.toInt.toNat : Int)) = (y153).toInt by rw [ey154, show (y147 : Int32).toNatClampNeg = 12 * (base + k.toNatClampNeg) + i.toInt.toNat from (by have h8 := (hq_nn (z := y147) (by omega)).1; omega), hn3 _ (by omega)]), (show w.1 (sp_s w j + (i.toInt.toNat : Int)) = (y162).toInt by rw [hgw9]; exact congrArg w.1 (by omega))]; omega)⟩) (lv_sub hl [0, 1, 2, 3, 4, 5, 6, 7] rfl)

set_option maxHeartbeats 4000000 in
set_option maxRecDepth 100000 in
theorem y_classAtHand (l : Launch) (D : va_G) (cs : Nat → ClassId) (B : Nat) (G : hq_G) (V : hp_V) (n : Nat) (hI : hq_I cs G V) (q : Nat) (mo : Nat) (w : sp_W) (rh : hm_Rh) (j : Nat) (cl : List Nat) (m_tp : Int32) (m_sz : Int32) (m_fr : Int32) (m_bh : Int32) (m_hd : Int32) (m_ft : Int32) (m_fa : Int32) (m_le : Int32) (m_fo : Int32) (m_as : Int32) (m_fd : Int32) (m_bc : Int32) (m_bg : Int32) (m_bs : Int32) (m_be : Int32) (m_b0 : Int32) (m_b1 : Int32) (m_cm : Int32) (m_hc : Int32) (hc0 : V (mo) = some (.inr (13, hm_o q (m_tp) (m_sz) (m_fr) (m_bh) (m_hd) (m_ft) (m_fa) (m_le) (m_fo) (m_as) (m_fd) (m_bc) (m_bg) (m_bs) (m_be) (m_b0) (m_b1) (m_cm) (m_hc)))) (hp0 : hm_TP cs V q w) (hp1 : hm_AR cs V q rh) (hR : hq_RT G q) (hmo : G mo = some (24, 0, 0, 0)) (hmq : mo < q) (hsz : m_sz.toInt = w.2) (hA : hm_A w j m_fr m_bh m_hd) (hk17 : sp_k w j = 17) (hCN : hm_NL rh 7 3 6 6 w cl) (hcnt : (rh 0 1).toInt = (cl.length : Int)) : hp_M l yX13_classAtHand cX13_classAtHand 1 (some .int) ({ frames := 2, cells := 0, slots := 0, locals := 48 }) D cs B V n [.ref (mo)] (hp_QI D cs B (fun r V' n' => n = n' ∧ V = V' ∧ (r.toInt = sp_fi w j cl 0))) 0 0 := by
  refine hp_walk (R0 := RX13) (by decide) rfl ?_ (Nat.le_of_ble_eq_true rfl)
  intro p e s m below meth c ls hx hb hr hts hown hlocks hin hml hZ hl
  have hP : hq_I cs G V := hI
  have hl : lv_has ls 1 [(0, .ref (mo))] := hl
  have hb_m_tp := hq_rng m_tp
  have hb_m_sz := hq_rng m_sz
  have hb_m_fr := hq_rng m_fr
  have hb_m_bh := hq_rng m_bh
  have hb_m_hd := hq_rng m_hd
  have hb_m_ft := hq_rng m_ft
  have hb_m_fa := hq_rng m_fa
  have hb_m_le := hq_rng m_le
  have hb_m_fo := hq_rng m_fo
  have hb_m_as := hq_rng m_as
  have hb_m_fd := hq_rng m_fd
  have hb_m_bc := hq_rng m_bc
  have hb_m_bg := hq_rng m_bg
  have hb_m_bs := hq_rng m_bs
  have hb_m_be := hq_rng m_be
  have hb_m_b0 := hq_rng m_b0
  have hb_m_b1 := hq_rng m_b1
  have hb_m_cm := hq_rng m_cm
  have hb_m_hc := hq_rng m_hc
  obtain ⟨b1, b2, b3, -⟩ := id hA
  have hlen := hCN.1
  refine lv_aload_n hx hb dX13_classAtHand_0 rfl (lv_at hl 0 rfl) ?_
  refine lv_aload_n hx hb dX13_classAtHand_1 rfl (lv_at hl 0 rfl) ?_
  refine hp_get (v := .ref (q + 3)) hx hb hts hown hZ hc0 fl_X13_150 rfl dX13_classAtHand_2 ?_
  refine lv_aload_n hx hb dX13_classAtHand_5 rfl (lv_at hl 0 rfl) ?_
  refine hp_get (v := .ref (q + 7)) hx hb hts hown hZ hc0 fl_X13_153 rfl dX13_classAtHand_6 ?_
  refine lv_bipush (v := 6) hx hb dX13_classAtHand_9 (by decide) ?_
  refine lv_aload_n hx hb dX13_classAtHand_11 rfl (lv_at hl 0 rfl) ?_
  refine hp_get (v := .ref (q)) hx hb hts hown hZ hc0 fl_X13_1 rfl dX13_classAtHand_12 ?_
  refine lv_iconst (v := 1) hx hb dX13_classAtHand_15 (by decide) ?_
  obtain ⟨rf4, hrf5⟩ : ∃ f : Nat → Int32, f = rh 0 := ⟨_, rfl⟩
  have ea6 : V (q) = some (.inl (cs 1, 2, .inl (rf4))) := by rw [hrf5]; exact hp1 0 (by decide)
  have hra7 := hq_rg hP (hr_0 hR) ea6
  refine hp_iald hx hb hZ ea6 (by unfold vp_in; decide) dX13_classAtHand_16 ?_
  refine lv_topi (fun y8 ey9 => ?_)
  have b10 : hq_ir (hq_lo 11) (hq_hi 11) y8 := by rw [ey9]; exact hra7 _ (by decide)
  have b10 : 0 ≤ (y8).toInt ∧ (y8).toInt ≤ 6 := b10
  have b11 : (y8).toInt = (rh 0 1).toInt := by rw [ey9, hrf5]; rfl
  obtain ⟨rf12, hrf13⟩ : ∃ f : Nat → Int32, f = rh 3 := ⟨_, rfl⟩
  have ea14 : V (q + 3) = some (.inl (cs 0, 144, .inl (rf12))) := by rw [hrf13]; exact hp1 3 (by decide)
  obtain ⟨rf16, hrf17⟩ : ∃ f : Nat → Int32, f = rh 7 := ⟨_, rfl⟩
  have ea18 : V (q + 7) = some (.inl (cs 1, 12, .inl (rf16))) := by rw [hrf17]; exact hp1 7 (by decide)
  have hra19 := hq_rg hP (hr_7 hR) ea18
  have hl20 : (6 : Int32).toInt = 6 := by decide
  refine hp_calli (hp_runV (As := [.ref (q + 3), .ref (q + 7), .int (6), .int (y8)]) (rest := []) hx hb hml hown hts (y_nameIn l D cs B G V n hP (q) (mo) (w) (j) (q + 3) (q + 7) (144) (12) (6) (cl) (m_tp) (m_sz) (m_fr) (m_bh) (m_hd) (m_ft) (m_fa) (m_le) (m_fo) (m_as) (m_fd) (m_bc) (m_bg) (m_bs) (m_be) (m_b0) (m_b1) (m_cm) (m_hc) (6) (y8) (rf12) (rf16)  hc0 ea14 ea18 hp0 hR hmo hmq (by omega) hA hk17 (by decide) (by omega) (by omega) (by decide) (by decide) (by rw [hrf13, hrf17]; exact hCN.2)) hZ hc0 cv_X13_156 rfl rfl ⟨Nat.le_of_ble_eq_true rfl, Nat.le_of_ble_eq_true rfl⟩ rfl hl.1 rfl (Nat.le_of_ble_eq_true rfl) dX13_classAtHand_17 ⟨(Nat.le_of_ble_eq_true rfl), (Nat.le_of_ble_eq_true rfl)⟩) hZ (fun r24 V21 n22 _ _ hw23 hZ => ?_)
  obtain ⟨rfl, rfl, hp27⟩ := hw23
  have b28 := hq_rng r24
  exact hp_iret hx hb hr hlocks hZ ⟨rfl, rfl, by assumption⟩ dX13_classAtHand_20

set_option maxHeartbeats 4000000 in
set_option maxRecDepth 100000 in
theorem y_verbAtHand (l : Launch) (D : va_G) (cs : Nat → ClassId) (B : Nat) (G : hq_G) (V : hp_V) (n : Nat) (hI : hq_I cs G V) (q : Nat) (mo : Nat) (w : sp_W) (rh : hm_Rh) (j : Nat) (vn : List Nat) (m_tp : Int32) (m_sz : Int32) (m_fr : Int32) (m_bh : Int32) (m_hd : Int32) (m_ft : Int32) (m_fa : Int32) (m_le : Int32) (m_fo : Int32) (m_as : Int32) (m_fd : Int32) (m_bc : Int32) (m_bg : Int32) (m_bs : Int32) (m_be : Int32) (m_b0 : Int32) (m_b1 : Int32) (m_cm : Int32) (m_hc : Int32) (hc0 : V (mo) = some (.inr (13, hm_o q (m_tp) (m_sz) (m_fr) (m_bh) (m_hd) (m_ft) (m_fa) (m_le) (m_fo) (m_as) (m_fd) (m_bc) (m_bg) (m_bs) (m_be) (m_b0) (m_b1) (m_cm) (m_hc)))) (hp0 : hm_TP cs V q w) (hp1 : hm_AR cs V q rh) (hR : hq_RT G q) (hmo : G mo = some (24, 0, 0, 0)) (hmq : mo < q) (hsz : m_sz.toInt = w.2) (hA : hm_A w j m_fr m_bh m_hd) (hk17 : sp_k w j = 17) (hVN : hm_NL rh 8 4 30 30 w vn) (hcnt : (rh 1 1).toInt = (vn.length : Int)) : hp_M l yX13_verbAtHand cX13_verbAtHand 1 (some .int) ({ frames := 2, cells := 0, slots := 0, locals := 48 }) D cs B V n [.ref (mo)] (hp_QI D cs B (fun r V' n' => n = n' ∧ V = V' ∧ (r.toInt = sp_fi w j vn 0))) 0 0 := by
  refine hp_walk (R0 := RX13) (by decide) rfl ?_ (Nat.le_of_ble_eq_true rfl)
  intro p e s m below meth c ls hx hb hr hts hown hlocks hin hml hZ hl
  have hP : hq_I cs G V := hI
  have hl : lv_has ls 1 [(0, .ref (mo))] := hl
  have hb_m_tp := hq_rng m_tp
  have hb_m_sz := hq_rng m_sz
  have hb_m_fr := hq_rng m_fr
  have hb_m_bh := hq_rng m_bh
  have hb_m_hd := hq_rng m_hd
  have hb_m_ft := hq_rng m_ft
  have hb_m_fa := hq_rng m_fa
  have hb_m_le := hq_rng m_le
  have hb_m_fo := hq_rng m_fo
  have hb_m_as := hq_rng m_as
  have hb_m_fd := hq_rng m_fd
  have hb_m_bc := hq_rng m_bc
  have hb_m_bg := hq_rng m_bg
  have hb_m_bs := hq_rng m_bs
  have hb_m_be := hq_rng m_be
  have hb_m_b0 := hq_rng m_b0
  have hb_m_b1 := hq_rng m_b1
  have hb_m_cm := hq_rng m_cm
  have hb_m_hc := hq_rng m_hc
  obtain ⟨b1, b2, b3, -⟩ := id hA
  have hlen := hVN.1
  refine lv_aload_n hx hb dX13_verbAtHand_0 rfl (lv_at hl 0 rfl) ?_
  refine lv_aload_n hx hb dX13_verbAtHand_1 rfl (lv_at hl 0 rfl) ?_
  refine hp_get (v := .ref (q + 4)) hx hb hts hown hZ hc0 fl_X13_19 rfl dX13_verbAtHand_2 ?_
  refine lv_aload_n hx hb dX13_verbAtHand_5 rfl (lv_at hl 0 rfl) ?_
  refine hp_get (v := .ref (q + 8)) hx hb hts hown hZ hc0 fl_X13_13 rfl dX13_verbAtHand_6 ?_
  refine lv_bipush (v := 30) hx hb dX13_verbAtHand_9 (by decide) ?_
  refine lv_aload_n hx hb dX13_verbAtHand_11 rfl (lv_at hl 0 rfl) ?_
  refine hp_get (v := .ref (q + 1)) hx hb hts hown hZ hc0 fl_X13_7 rfl dX13_verbAtHand_12 ?_
  refine lv_iconst (v := 1) hx hb dX13_verbAtHand_15 (by decide) ?_
  obtain ⟨rf4, hrf5⟩ : ∃ f : Nat → Int32, f = rh 1 := ⟨_, rfl⟩
  have ea6 : V (q + 1) = some (.inl (cs 1, 2, .inl (rf4))) := by rw [hrf5]; exact hp1 1 (by decide)
  have hra7 := hq_rg hP (hr_1 hR) ea6
  refine hp_iald hx hb hZ ea6 (by unfold vp_in; decide) dX13_verbAtHand_16 ?_
  refine lv_topi (fun y8 ey9 => ?_)
  have b10 : hq_ir (hq_lo 9) (hq_hi 9) y8 := by rw [ey9]; exact hra7 _ (by decide)
  have b10 : 0 ≤ (y8).toInt ∧ (y8).toInt ≤ 30 := b10
  have b11 : (y8).toInt = (rh 1 1).toInt := by rw [ey9, hrf5]; rfl
  obtain ⟨rf12, hrf13⟩ : ∃ f : Nat → Int32, f = rh 4 := ⟨_, rfl⟩
  have ea14 : V (q + 4) = some (.inl (cs 0, 720, .inl (rf12))) := by rw [hrf13]; exact hp1 4 (by decide)
  obtain ⟨rf16, hrf17⟩ : ∃ f : Nat → Int32, f = rh 8 := ⟨_, rfl⟩
  have ea18 : V (q + 8) = some (.inl (cs 1, 60, .inl (rf16))) := by rw [hrf17]; exact hp1 8 (by decide)
  have hra19 := hq_rg hP (hr_8 hR) ea18
  have hl20 : (30 : Int32).toInt = 30 := by decide
  refine hp_calli (hp_runV (As := [.ref (q + 4), .ref (q + 8), .int (30), .int (y8)]) (rest := []) hx hb hml hown hts (y_nameIn l D cs B G V n hP (q) (mo) (w) (j) (q + 4) (q + 8) (720) (60) (30) (vn) (m_tp) (m_sz) (m_fr) (m_bh) (m_hd) (m_ft) (m_fa) (m_le) (m_fo) (m_as) (m_fd) (m_bc) (m_bg) (m_bs) (m_be) (m_b0) (m_b1) (m_cm) (m_hc) (30) (y8) (rf12) (rf16)  hc0 ea14 ea18 hp0 hR hmo hmq (by omega) hA hk17 (by decide) (by omega) (by omega) (by decide) (by decide) (by rw [hrf13, hrf17]; exact hVN.2)) hZ hc0 cv_X13_156 rfl rfl ⟨Nat.le_of_ble_eq_true rfl, Nat.le_of_ble_eq_true rfl⟩ rfl hl.1 rfl (Nat.le_of_ble_eq_true rfl) dX13_verbAtHand_17 ⟨(Nat.le_of_ble_eq_true rfl), (Nat.le_of_ble_eq_true rfl)⟩) hZ (fun r24 V21 n22 _ _ hw23 hZ => ?_)
  obtain ⟨rfl, rfl, hp27⟩ := hw23
  have b28 := hq_rng r24
  exact hp_iret hx hb hr hlocks hZ ⟨rfl, rfl, by assumption⟩ dX13_verbAtHand_20

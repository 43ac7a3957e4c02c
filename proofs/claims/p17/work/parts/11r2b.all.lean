set_option maxHeartbeats 4000000 in
set_option maxRecDepth 100000 in
theorem y_formAsk (l : Launch) (D : va_G) (cs : Nat → ClassId) (B : Nat) (G : hq_G) (V : hp_V) (n : Nat) (hI : hq_I cs G V) (q : Nat) (mo : Nat) (m_tp : Int32) (m_sz : Int32) (m_fr : Int32) (m_bh : Int32) (m_hd : Int32) (m_ft : Int32) (m_fa : Int32) (m_le : Int32) (m_fo : Int32) (m_as : Int32) (m_fd : Int32) (m_bc : Int32) (m_bg : Int32) (m_bs : Int32) (m_be : Int32) (m_b0 : Int32) (m_b1 : Int32) (m_cm : Int32) (m_hc : Int32) (fs : Nat → Int32) (ft : Nat → Int32) (af : Nat → Int32) (L : List (List Int)) (ask : List Int) (hc0 : V (mo) = some (.inr (13, hm_o q (m_tp) (m_sz) (m_fr) (m_bh) (m_hd) (m_ft) (m_fa) (m_le) (m_fo) (m_as) (m_fd) (m_bc) (m_bg) (m_bs) (m_be) (m_b0) (m_b1) (m_cm) (m_hc)))) (hc1 : V (q + 28) = some (.inl (cs 1, 4, .inl (fs)))) (hc2 : V (q + 25) = some (.inl (cs 0, 244, .inl (ft)))) (hc3 : V (q + 37) = some (.inl (cs 0, 4000, .inl (af)))) (hR : hq_RT G q) (hmo : G mo = some (24, 0, 0, 0)) (hL : sp_fo m_fo fs ft L) (hl4 : L.length ≤ 4) (hask : sp_rp m_as af ask) (has : m_as.toInt ≤ 4000) : hp_M l yX13_formAsked cX13_formAsked 4 (some .int) ({ frames := 1, cells := 0, slots := 0, locals := 21 }) D cs B V n [.ref (mo)] (hp_QI D cs B (fun r V' n' => n = n' ∧ V = V' ∧ ((r.toInt = -1 ∧ ¬ ask ∈ L) ∨ (0 ≤ r.toInt ∧ r.toInt < m_fo.toInt ∧ ask ∈ L)))) 0 0 := by
  refine hp_walk (R0 := RX13) (by decide) rfl ?_ (Nat.le_of_ble_eq_true rfl)
  intro p e s m below meth c ls hx hb hr hts hown hlocks hin hml hZ hl
  have hP : hq_I cs G V := hI
  have hl : lv_has ls 4 [(0, .ref (mo))] := hl
  have hb_m_tp := hq_rng m_tp
  have hb_m_sz := hq_rng m_sz
  have hb_m_fr := hq_rng m_fr
  have hb_m_bh := hq_rng m_bh
  have hb_m_hd := hq_rng m_hd
  have hb_m_ft := hq_rng m_ft
  have hb_m_fa := hq_rng m_fa
  have hb_m_le := hq_rng m_le
  have hb_m_fo := hq_rng m_fo
  have hb_m_as := hq_rng m_as
  have hb_m_fd := hq_rng m_fd
  have hb_m_bc := hq_rng m_bc
  have hb_m_bg := hq_rng m_bg
  have hb_m_bs := hq_rng m_bs
  have hb_m_be := hq_rng m_be
  have hb_m_b0 := hq_rng m_b0
  have hb_m_b1 := hq_rng m_b1
  have hb_m_cm := hq_rng m_cm
  have hb_m_hc := hq_rng m_hc
  have hL1 := hL.1
  have ha1 := hask.1
  refine lv_iconst (v := 0) hx hb dX13_formAsked_0 (by decide) ?_
  refine lv_istore_n (lv' := [(1, .int (0)), (0, .ref (mo))]) hx hb dX13_formAsked_1 rfl hl (by decide) rfl (fun ls hl => ?_)
  have hl1 : (0 : Int32).toInt = 0 := by decide
  suffices lp2 : ∀ (k9 : Nat) (H9 : Heap) (locs9 : List Loc) (ls : Array Slot) (k1 : Int32), (100 - k1.toInt).toNat = k9 → hp_Z D cs B s V H9 n locs9 → hq_I cs G V → 0 ≤ k1.toInt → k1.toInt ≤ (L.length : Int) → (∀ (j : Nat) (u : List Int), (j : Int) < k1.toInt → L[j]? = some u → ¬ u = ask) → lv_has ls 4 [(1, .int (k1)), (0, .ref (mo))] → W p l e ({ frames := 1, cells := 0, slots := 0, locals := 21 }) s m ([.ref (mo)] : List Value).toArray below meth c H9 locs9 0 0 (MQ below (hp_QI D cs B (fun r V' n' => n = n' ∧ V = V' ∧ ((r.toInt = -1 ∧ ¬ ask ∈ L) ∨ (0 ≤ r.toInt ∧ r.toInt < m_fo.toInt ∧ ask ∈ L)))) ([.ref (mo)] : List Value).toArray s 0 0 (hp_F B)) (F0 m 2 ls []) from lp2 _ _ _ ls (0) rfl hZ hP (by omega) (by omega) (fun j u hj => by omega) (lv_sub hl [0, 1] rfl)
  intro k9
  induction k9 using Nat.strongRecOn with
  | _ k9 ih2 =>
    intro H9 locs9 ls k1   hk2 hZ hP    hv2 hv3 hno9 hl
    have hb_k1 := hq_rng k1
    refine lv_iload_n hx hb dX13_formAsked_2 rfl (lv_at hl 0 rfl) ?_
    refine lv_aload_n hx hb dX13_formAsked_3 rfl (lv_at hl 1 rfl) ?_
    refine hp_get (v := .int (m_fo)) hx hb hts hown hZ hc0 fl_X13_344 rfl dX13_formAsked_4 ?_
    refine lv_icmp_ge (tgt := 87) hx hb dX13_formAsked_7 (by decide) (fun c4 => ?_) (fun c4 => ?_)
    · have c4 : (m_fo).toInt ≤ (k1).toInt := hq_lei.mp c4
      refine lv_iconst (v := -1) hx hb dX13_formAsked_87 (by decide) ?_
      have hl5 : (-1 : Int32).toInt = -1 := by decide
      exact hp_iret hx hb hr hlocks hZ ⟨rfl, rfl, Or.inl ⟨by omega, fun g9 => by obtain ⟨j9, hj9⟩ := List.mem_iff_getElem?.mp g9; have h9 := (List.getElem?_eq_some_iff.mp hj9).1; exact hno9 j9 ask (by omega) hj9 rfl⟩⟩ dX13_formAsked_88
    · have c4 : ¬ (m_fo).toInt ≤ (k1).toInt := fun h9 => c4 (hq_lei.mpr h9)
      have hkn := (hq_nn (z := k1) (by omega)).1
      obtain ⟨u9, hu9⟩ : ∃ t, L[k1.toNatClampNeg]? = some t := ⟨_, List.getElem?_eq_getElem (by omega)⟩
      obtain ⟨hs1, hs2, hs3⟩ := hL.2 _ _ hu9
      refine lv_aload_n hx hb dX13_formAsked_10 rfl (lv_at hl 1 rfl) ?_
      refine hp_get (v := .ref (q + 28)) hx hb hts hown hZ hc0 fl_X13_235 rfl dX13_formAsked_11 ?_
      refine lv_iload_n hx hb dX13_formAsked_14 rfl (lv_at hl 0 rfl) ?_
      refine hp_iald hx hb hZ hc1 (hq_in (by omega) (by omega)) dX13_formAsked_15 ?_
      refine lv_topi (fun y6 ey7 => ?_)
      have b8 := hq_rng y6
      have b9 : (y6).toInt = (u9.length : Int) := by rw [ey7]; exact hs1
      refine lv_aload_n hx hb dX13_formAsked_16 rfl (lv_at hl 1 rfl) ?_
      refine hp_get (v := .int (m_as)) hx hb hts hown hZ hc0 fl_X13_389 rfl dX13_formAsked_17 ?_
      refine lv_icmp_ne (tgt := 27) hx hb dX13_formAsked_20 (by decide) (fun c10 => ?_) (fun c10 => ?_)
      · have c10 : ¬ (y6).toInt = (m_as).toInt := fun h9 => c10 (hq_eqi.mpr h9)
        refine lv_iconst (v := 0) hx hb dX13_formAsked_27 (by decide) ?_
        refine lv_istore_n (lv' := [(2, .int (0)), (1, .int (k1)), (0, .ref (mo))]) hx hb dX13_formAsked_28 rfl hl (by decide) rfl (fun ls hl => ?_)
        refine lv_iconst (v := 0) hx hb dX13_formAsked_29 (by decide) ?_
        refine lv_istore_n (lv' := [(3, .int (0)), (2, .int (0)), (1, .int (k1)), (0, .ref (mo))]) hx hb dX13_formAsked_30 rfl hl (by decide) rfl (fun ls hl => ?_)
        have hl11 : (0 : Int32).toInt = 0 := by decide
        have hl12 : (0 : Int32).toInt = 0 := by decide
        suffices lp31 : ∀ (k9 : Nat) (H9 : Heap) (locs9 : List Loc) (ls : Array Slot) (sa31 : Int32) (i31 : Int32), (5000 - i31.toInt).toNat = k9 → hp_Z D cs B s V H9 n locs9 → hq_I cs G V → 0 ≤ i31.toInt → i31.toInt ≤ m_as.toInt → ((sa31.toInt = 1 ∧ (u9.length : Int) = m_as.toInt ∧ ∀ (j : Nat) (x : Int), (j : Int) < i31.toInt → u9[j]? = some x → ask[j]? = some x) ∨ (sa31.toInt = 0 ∧ ¬ u9 = ask)) → lv_has ls 4 [(3, .int (i31)), (2, .int (sa31)), (1, .int (k1)), (0, .ref (mo))] → W p l e ({ frames := 1, cells := 0, slots := 0, locals := 21 }) s m ([.ref (mo)] : List Value).toArray below meth c H9 locs9 0 0 (MQ below (hp_QI D cs B (fun r V' n' => n = n' ∧ V = V' ∧ ((r.toInt = -1 ∧ ¬ ask ∈ L) ∨ (0 ≤ r.toInt ∧ r.toInt < m_fo.toInt ∧ ask ∈ L)))) ([.ref (mo)] : List Value).toArray s 0 0 (hp_F B)) (F0 m 31 ls []) from lp31 _ _ _ ls (0) (0) rfl hZ hP (by omega) (by omega) (Or.inr ⟨by decide, fun g9 => by have h9 := congrArg List.length g9; omega⟩) (lv_sub hl [0, 1, 2, 3] rfl)
        intro k9
        induction k9 using Nat.strongRecOn with
        | _ k9 ih31 =>
          intro H9 locs9 ls sa31 i31   hk31 hZ hP    hv13 hv14 hsm hl
          have hb_sa31 := hq_rng sa31
          have hb_i31 := hq_rng i31
          refine lv_iload_n hx hb dX13_formAsked_31 rfl (lv_at hl 0 rfl) ?_
          refine lv_aload_n hx hb dX13_formAsked_32 rfl (lv_at hl 3 rfl) ?_
          refine hp_get (v := .int (m_as)) hx hb hts hown hZ hc0 fl_X13_389 rfl dX13_formAsked_33 ?_
          refine lv_icmp_ge (tgt := 75) hx hb dX13_formAsked_36 (by decide) (fun c15 => ?_) (fun c15 => ?_)
          · have c15 : (m_as).toInt ≤ (i31).toInt := hq_lei.mp c15
            refine lv_iload_n hx hb dX13_formAsked_75 rfl (lv_at hl 1 rfl) ?_
            refine lv_if_eq (tgt := 81) hx hb dX13_formAsked_76 (by decide) (fun c16 => ?_) (fun c16 => ?_)
            · have c16 : (sa31).toInt = (0 : Int) := hq_eqi.mp c16
              have hna : ¬ u9 = ask := by rcases hsm with g9 | g9; (· omega); (· exact g9.2)
              obtain ⟨y17, ey18⟩ : ∃ y : Int32, y = k1 + (1) := ⟨_, rfl⟩
              obtain ⟨k19, hk20, b21, b22⟩ := hq_add (k1) (1)
              rw [← ey18] at hk20 b21 b22
              have hk20 : (y17).toInt = (k1).toInt + (1) + k19 * 4294967296 := hk20
              obtain rfl : k19 = 0 := by omega
              refine lv_iinc (v := y17) (lv' := [(1, .int (y17)), (3, .int (i31)), (2, .int (sa31)), (0, .ref (mo))]) hx hb dX13_formAsked_81 hl (k := 2) rfl (by rw [ey18]; rfl) (by decide) rfl (fun ls hl => ?_)
              refine lv_goto (tgt := 2) hx hb dX13_formAsked_84 (by decide) ?_
              exact ih2 _ (hq_dn hk2 (by omega) (by omega)) _ _ ls (y17) rfl hZ hP (by omega) (by omega) (fun j u hj hu => by rcases Classical.em ((j : Int) < k1.toInt) with c9 | c9; (· exact hno9 j u c9 hu); (· obtain rfl : j = k1.toNatClampNeg := (by omega); cases hu9.symm.trans hu; exact hna)) (lv_sub hl [0, 3] rfl)
            · have c16 : ¬ (sa31).toInt = (0 : Int) := fun h9 => c16 (hq_eqi.mpr h9)
              have hya : u9 = ask := by rcases hsm with ⟨g1, g2, g3⟩ | g9; (· exact sp_ext (by omega) (fun j x hx => g3 j x (by have h9 := (List.getElem?_eq_some_iff.mp hx).1; omega) hx)); (· omega)
              refine lv_iload_n hx hb dX13_formAsked_79 rfl (lv_at hl 2 rfl) ?_
              exact hp_iret hx hb hr hlocks hZ ⟨rfl, rfl, Or.inr ⟨by omega, by omega, by rw [← hya]; exact List.mem_iff_getElem?.mpr ⟨_, hu9⟩⟩⟩ dX13_formAsked_80
          · have c15 : ¬ (m_as).toInt ≤ (i31).toInt := fun h9 => c15 (hq_lei.mpr h9)
            refine lv_iload_n hx hb dX13_formAsked_39 rfl (lv_at hl 1 rfl) ?_
            refine lv_if_eq (tgt := 75) hx hb dX13_formAsked_40 (by decide) (fun c23 => ?_) (fun c23 => ?_)
            · have c23 : (sa31).toInt = (0 : Int) := hq_eqi.mp c23
              have hna : ¬ u9 = ask := by rcases hsm with g9 | g9; (· omega); (· exact g9.2)
              refine lv_iload_n hx hb dX13_formAsked_75 rfl (lv_at hl 1 rfl) ?_
              have hl24 : (0 : Int32).toInt = 0 := by decide
              refine lv_if_eq (tgt := 81) hx hb dX13_formAsked_76 (by decide) (fun c25 => ?_) (fun c25 => absurd ((Int32.toInt_inj.mp (by omega) : sa31 = 0)) c25)
              obtain ⟨y26, ey27⟩ : ∃ y : Int32, y = k1 + (1) := ⟨_, rfl⟩
              obtain ⟨k28, hk29, b30, b31⟩ := hq_add (k1) (1)
              rw [← ey27] at hk29 b30 b31
              have hk29 : (y26).toInt = (k1).toInt + (1) + k28 * 4294967296 := hk29
              obtain rfl : k28 = 0 := by omega
              refine lv_iinc (v := y26) (lv' := [(1, .int (y26)), (3, .int (i31)), (2, .int (sa31)), (0, .ref (mo))]) hx hb dX13_formAsked_81 hl (k := 2) rfl (by rw [ey27]; rfl) (by decide) rfl (fun ls hl => ?_)
              refine lv_goto (tgt := 2) hx hb dX13_formAsked_84 (by decide) ?_
              exact ih2 _ (hq_dn hk2 (by omega) (by omega)) _ _ ls (y26) rfl hZ hP (by omega) (by omega) (fun j u hj hu => by rcases Classical.em ((j : Int) < k1.toInt) with c9 | c9; (· exact hno9 j u c9 hu); (· obtain rfl : j = k1.toNatClampNeg := (by omega); cases hu9.symm.trans hu; exact hna)) (lv_sub hl [0, 3] rfl)
            · have c23 : ¬ (sa31).toInt = (0 : Int) := fun h9 => c23 (hq_eqi.mpr h9)
              refine lv_aload_n hx hb dX13_formAsked_43 rfl (lv_at hl 3 rfl) ?_
              refine hp_get (v := .ref (q + 25)) hx hb hts hown hZ hc0 fl_X13_226 rfl dX13_formAsked_44 ?_
              refine lv_bipush (v := 61) hx hb dX13_formAsked_47 (by decide) ?_
              refine lv_iload_n hx hb dX13_formAsked_49 rfl (lv_at hl 2 rfl) ?_
              refine lv_imul hx hb dX13_formAsked_50 ?_
              refine lv_topi (fun y32 ey33 => ?_)
              obtain ⟨k34, hk35, b36, b37⟩ := hq_mul (61) (k1)
              rw [← ey33] at hk35 b36 b37
              have hk35 : (y32).toInt = (61 : Int) * (k1).toInt + k34 * 4294967296 := hk35
              obtain rfl : k34 = 0 := by omega
              refine lv_iload_n hx hb dX13_formAsked_51 rfl (lv_at hl 0 rfl) ?_
              refine lv_iadd hx hb dX13_formAsked_52 ?_
              refine lv_topi (fun y38 ey39 => ?_)
              obtain ⟨k40, hk41, b42, b43⟩ := hq_add (y32) (i31)
              rw [← ey39] at hk41 b42 b43
              have hk41 : (y38).toInt = (y32).toInt + (i31).toInt + k40 * 4294967296 := hk41
              obtain rfl : k40 = 0 := by omega
              refine hp_bald hx hb hZ hc2 (hq_in (by omega) (by omega)) dX13_formAsked_53 ?_
              refine lv_topi (fun y44 ey45 => ?_)
              have b46 := hq_rng y44
              refine lv_aload_n hx hb dX13_formAsked_54 rfl (lv_at hl 3 rfl) ?_
              refine hp_get (v := .ref (q + 37)) hx hb hts hown hZ hc0 fl_X13_262 rfl dX13_formAsked_55 ?_
              refine lv_iload_n hx hb dX13_formAsked_58 rfl (lv_at hl 0 rfl) ?_
              refine hp_bald hx hb hZ hc3 (hq_in (by omega) (by omega)) dX13_formAsked_59 ?_
              refine lv_topi (fun y47 ey48 => ?_)
              have b49 := hq_rng y47
              have hi9 := (hq_nn (z := i31) (by omega)).1
              have hx9 := (hq_nn (z := y38) (by omega)).1
              obtain ⟨x1, hx1⟩ : ∃ x, u9[i31.toNatClampNeg]? = some x := ⟨_, List.getElem?_eq_getElem (by omega)⟩
              have hv1 : (y44).toInt = x1 := by rw [ey45, show (y38 : Int32).toNatClampNeg = 61 * k1.toNatClampNeg + i31.toNatClampNeg by omega]; exact hs3 _ _ hx1
              have hv2 : ask[i31.toNatClampNeg]? = some (y47).toInt := by rw [ey48]; exact hask.nth (by omega)
              refine lv_icmp_ne (tgt := 67) hx hb dX13_formAsked_60 (by decide) (fun c50 => ?_) (fun c50 => ?_)
              · have c50 : ¬ (y44).toInt = (y47).toInt := fun h9 => c50 (hq_eqi.mpr h9)
                refine lv_iconst (v := 0) hx hb dX13_formAsked_67 (by decide) ?_
                refine lv_istore_n (lv' := [(2, .int (0)), (3, .int (i31)), (1, .int (k1)), (0, .ref (mo))]) hx hb dX13_formAsked_68 rfl hl (by decide) rfl (fun ls hl => ?_)
                obtain ⟨y51, ey52⟩ : ∃ y : Int32, y = i31 + (1) := ⟨_, rfl⟩
                obtain ⟨k53, hk54, b55, b56⟩ := hq_add (i31) (1)
                rw [← ey52] at hk54 b55 b56
                have hk54 : (y51).toInt = (i31).toInt + (1) + k53 * 4294967296 := hk54
                obtain rfl : k53 = 0 := by omega
                refine lv_iinc (v := y51) (lv' := [(3, .int (y51)), (2, .int (0)), (1, .int (k1)), (0, .ref (mo))]) hx hb dX13_formAsked_69 hl (k := 1) rfl (by rw [ey52]; rfl) (by decide) rfl (fun ls hl => ?_)
                refine lv_goto (tgt := 31) hx hb dX13_formAsked_72 (by decide) ?_
                have hl57 : (0 : Int32).toInt = 0 := by decide
                exact ih31 _ (hq_dn hk31 (by omega) (by omega)) _ _ ls (0) (y51) rfl hZ hP (by omega) (by omega) (Or.inr ⟨by decide, fun g9 => by rw [g9] at hx1; have h9 := Option.some.inj (hx1.symm.trans hv2); omega⟩) (lv_sub hl [0, 1, 2, 3] rfl)
              · have c50 : (y44).toInt = (y47).toInt := hq_eqi.mp c50
                refine lv_iconst (v := 1) hx hb dX13_formAsked_63 (by decide) ?_
                refine lv_goto (tgt := 68) hx hb dX13_formAsked_64 (by decide) ?_
                refine lv_istore_n (lv' := [(2, .int (1)), (3, .int (i31)), (1, .int (k1)), (0, .ref (mo))]) hx hb dX13_formAsked_68 rfl hl (by decide) rfl (fun ls hl => ?_)
                obtain ⟨y58, ey59⟩ : ∃ y : Int32, y = i31 + (1) := ⟨_, rfl⟩
                obtain ⟨k60, hk61, b62, b63⟩ := hq_add (i31) (1)
                rw [← ey59] at hk61 b62 b63
                have hk61 : (y58).toInt = (i31).toInt + (1) + k60 * 4294967296 := hk61
                obtain rfl : k60 = 0 := by omega
                refine lv_iinc (v := y58) (lv' := [(3, .int (y58)), (2, .int (1)), (1, .int (k1)), (0, .ref (mo))]) hx hb dX13_formAsked_69 hl (k := 1) rfl (by rw [ey59]; rfl) (by decide) rfl (fun ls hl => ?_)
                refine lv_goto (tgt := 31) hx hb dX13_formAsked_72 (by decide) ?_
                have hl64 : (1 : Int32).toInt = 1 := by decide
                exact ih31 _ (hq_dn hk31 (by omega) (by omega)) _ _ ls (1) (y58) rfl hZ hP (by omega) (by omega) (by rcases hsm with ⟨g1, g2, g3⟩ | g1; (· refine Or.inl ⟨by decide, g2, fun j x hj hx => ?_⟩; rcases Classical.em ((j : Int) < i31.toInt) with c9 | c9; (· exact g3 j x c9 hx); (· obtain rfl : j = i31.toNatClampNeg := (by omega); cases hx1.symm.trans hx; rw [hv2]; exact congrArg some (by omega))); (· omega)) (lv_sub hl [0, 1, 2, 3] rfl)
      · have c10 : (y6).toInt = (m_as).toInt := hq_eqi.mp c10
        refine lv_iconst (v := 1) hx hb dX13_formAsked_23 (by decide) ?_
        refine lv_goto (tgt := 28) hx hb dX13_formAsked_24 (by decide) ?_
        refine lv_istore_n (lv' := [(2, .int (1)), (1, .int (k1)), (0, .ref (mo))]) hx hb dX13_formAsked_28 rfl hl (by decide) rfl (fun ls hl => ?_)
        refine lv_iconst (v := 0) hx hb dX13_formAsked_29 (by decide) ?_
        refine lv_istore_n (lv' := [(3, .int (0)), (2, .int (1)), (1, .int (k1)), (0, .ref (mo))]) hx hb dX13_formAsked_30 rfl hl (by decide) rfl (fun ls hl => ?_)
        have hl65 : (1 : Int32).toInt = 1 := by decide
        have hl66 : (0 : Int32).toInt = 0 := by decide
        suffices lp31 : ∀ (k9 : Nat) (H9 : Heap) (locs9 : List Loc) (ls : Array Slot) (sa31 : Int32) (i31 : Int32), (5000 - i31.toInt).toNat = k9 → hp_Z D cs B s V H9 n locs9 → hq_I cs G V → 0 ≤ i31.toInt → i31.toInt ≤ m_as.toInt → ((sa31.toInt = 1 ∧ (u9.length : Int) = m_as.toInt ∧ ∀ (j : Nat) (x : Int), (j : Int) < i31.toInt → u9[j]? = some x → ask[j]? = some x) ∨ (sa31.toInt = 0 ∧ ¬ u9 = ask)) → lv_has ls 4 [(3, .int (i31)), (2, .int (sa31)), (1, .int (k1)), (0, .ref (mo))] → W p l e ({ frames := 1, cells := 0, slots := 0, locals := 21 }) s m ([.ref (mo)] : List Value).toArray below meth c H9 locs9 0 0 (MQ below (hp_QI D cs B (fun r V' n' => n = n' ∧ V = V' ∧ ((r.toInt = -1 ∧ ¬ ask ∈ L) ∨ (0 ≤ r.toInt ∧ r.toInt < m_fo.toInt ∧ ask ∈ L)))) ([.ref (mo)] : List Value).toArray s 0 0 (hp_F B)) (F0 m 31 ls []) from lp31 _ _ _ ls (1) (0) rfl hZ hP (by omega) (by omega) (Or.inl ⟨by decide, by omega, fun j x hj => by omega⟩) (lv_sub hl [0, 1, 2, 3] rfl)
        intro k9
        induction k9 using Nat.strongRecOn with
        | _ k9 ih31 =>
          intro H9 locs9 ls sa31 i31   hk31 hZ hP    hv67 hv68 hsm hl
          have hb_sa31 := hq_rng sa31
          have hb_i31 := hq_rng i31
          refine lv_iload_n hx hb dX13_formAsked_31 rfl (lv_at hl 0 rfl) ?_
          refine lv_aload_n hx hb dX13_formAsked_32 rfl (lv_at hl 3 rfl) ?_
          refine hp_get (v := .int (m_as)) hx hb hts hown hZ hc0 fl_X13_389 rfl dX13_formAsked_33 ?_
          refine lv_icmp_ge (tgt := 75) hx hb dX13_formAsked_36 (by decide) (fun c69 => ?_) (fun c69 => ?_)
          · have c69 : (m_as).toInt ≤ (i31).toInt := hq_lei.mp c69
            refine lv_iload_n hx hb dX13_formAsked_75 rfl (lv_at hl 1 rfl) ?_
            refine lv_if_eq (tgt := 81) hx hb dX13_formAsked_76 (by decide) (fun c70 => ?_) (fun c70 => ?_)
            · have c70 : (sa31).toInt = (0 : Int) := hq_eqi.mp c70
              have hna : ¬ u9 = ask := by rcases hsm with g9 | g9; (· omega); (· exact g9.2)
              obtain ⟨y71, ey72⟩ : ∃ y : Int32, y = k1 + (1) := ⟨_, rfl⟩
              obtain ⟨k73, hk74, b75, b76⟩ := hq_add (k1) (1)
              rw [← ey72] at hk74 b75 b76
              have hk74 : (y71).toInt = (k1).toInt + (1) + k73 * 4294967296 := hk74
              obtain rfl : k73 = 0 := by omega
              refine lv_iinc (v := y71) (lv' := [(1, .int (y71)), (3, .int (i31)), (2, .int (sa31)), (0, .ref (mo))]) hx hb dX13_formAsked_81 hl (k := 2) rfl (by rw [ey72]; rfl) (by decide) rfl (fun ls hl => ?_)
              refine lv_goto (tgt := 2) hx hb dX13_formAsked_84 (by decide) ?_
              exact ih2 _ (hq_dn hk2 (by omega) (by omega)) _ _ ls (y71) rfl hZ hP (by omega) (by omega) (fun j u hj hu => by rcases Classical.em ((j : Int) < k1.toInt) with c9 | c9; (· exact hno9 j u c9 hu); (· obtain rfl : j = k1.toNatClampNeg := (by omega); cases hu9.symm.trans hu; exact hna)) (lv_sub hl [0, 3] rfl)
            · have c70 : ¬ (sa31).toInt = (0 : Int) := fun h9 => c70 (hq_eqi.mpr h9)
              have hya : u9 = ask := by rcases hsm with ⟨g1, g2, g3⟩ | g9; (· exact sp_ext (by omega) (fun j x hx => g3 j x (by have h9 := (List.getElem?_eq_some_iff.mp hx).1; omega) hx)); (· omega)
              refine lv_iload_n hx hb dX13_formAsked_79 rfl (lv_at hl 2 rfl) ?_
              exact hp_iret hx hb hr hlocks hZ ⟨rfl, rfl, Or.inr ⟨by omega, by omega, by rw [← hya]; exact List.mem_iff_getElem?.mpr ⟨_, hu9⟩⟩⟩ dX13_formAsked_80
          · have c69 : ¬ (m_as).toInt ≤ (i31).toInt := fun h9 => c69 (hq_lei.mpr h9)
            refine lv_iload_n hx hb dX13_formAsked_39 rfl (lv_at hl 1 rfl) ?_
            refine lv_if_eq (tgt := 75) hx hb dX13_formAsked_40 (by decide) (fun c77 => ?_) (fun c77 => ?_)
            · have c77 : (sa31).toInt = (0 : Int) := hq_eqi.mp c77
              have hna : ¬ u9 = ask := by rcases hsm with g9 | g9; (· omega); (· exact g9.2)
              refine lv_iload_n hx hb dX13_formAsked_75 rfl (lv_at hl 1 rfl) ?_
              have hl78 : (0 : Int32).toInt = 0 := by decide
              refine lv_if_eq (tgt := 81) hx hb dX13_formAsked_76 (by decide) (fun c79 => ?_) (fun c79 => absurd ((Int32.toInt_inj.mp (by omega) : sa31 = 0)) c79)
              obtain ⟨y80, ey81⟩ : ∃ y : Int32, y = k1 + (1) := ⟨_, rfl⟩
              obtain ⟨k82, hk83, b84, b85⟩ := hq_add (k1) (1)
              rw [← ey81] at hk83 b84 b85
              have hk83 : (y80).toInt = (k1).toInt + (1) + k82 * 4294967296 := hk83
              obtain rfl : k82 = 0 := by omega
              refine lv_iinc (v := y80) (lv' := [(1, .int (y80)), (3, .int (i31)), (2, .int (sa31)), (0, .ref (mo))]) hx hb dX13_formAsked_81 hl (k := 2) rfl (by rw [ey81]; rfl) (by decide) rfl (fun ls hl => ?_)
              refine lv_goto (tgt := 2) hx hb dX13_formAsked_84 (by decide) ?_
              exact ih2 _ (hq_dn hk2 (by omega) (by omega)) _ _ ls (y80) rfl hZ hP (by omega) (by omega) (fun j u hj hu => by rcases Classical.em ((j : Int) < k1.toInt) with c9 | c9; (· exact hno9 j u c9 hu); (· obtain rfl : j = k1.toNatClampNeg := (by omega); cases hu9.symm.trans hu; exact hna)) (lv_sub hl [0, 3] rfl)
            · have c77 : ¬ (sa31).toInt = (0 : Int) := fun h9 => c77 (hq_eqi.mpr h9)
              refine lv_aload_n hx hb dX13_formAsked_43 rfl (lv_at hl 3 rfl) ?_
              refine hp_get (v := .ref (q + 25)) hx hb hts hown hZ hc0 fl_X13_226 rfl dX13_formAsked_44 ?_
              refine lv_bipush (v := 61) hx hb dX13_formAsked_47 (by decide) ?_
              refine lv_iload_n hx hb dX13_formAsked_49 rfl (lv_at hl 2 rfl) ?_
              refine lv_imul hx hb dX13_formAsked_50 ?_
              refine lv_topi (fun y86 ey87 => ?_)
              obtain ⟨k88, hk89, b90, b91⟩ := hq_mul (61) (k1)
              rw [← ey87] at hk89 b90 b91
              have hk89 : (y86).toInt = (61 : Int) * (k1).toInt + k88 * 4294967296 := hk89
              obtain rfl : k88 = 0 := by omega
              refine lv_iload_n hx hb dX13_formAsked_51 rfl (lv_at hl 0 rfl) ?_
              refine lv_iadd hx hb dX13_formAsked_52 ?_
              refine lv_topi (fun y92 ey93 => ?_)
              obtain ⟨k94, hk95, b96, b97⟩ := hq_add (y86) (i31)
              rw [← ey93] at hk95 b96 b97
              have hk95 : (y92).toInt = (y86).toInt + (i31).toInt + k94 * 4294967296 := hk95
              obtain rfl : k94 = 0 := by omega
              refine hp_bald hx hb hZ hc2 (hq_in (by omega) (by omega)) dX13_formAsked_53 ?_
              refine lv_topi (fun y98 ey99 => ?_)
              have b100 := hq_rng y98
              refine lv_aload_n hx hb dX13_formAsked_54 rfl (lv_at hl 3 rfl) ?_
              refine hp_get (v := .ref (q + 37)) hx hb hts hown hZ hc0 fl_X13_262 rfl dX13_formAsked_55 ?_
              refine lv_iload_n hx hb dX13_formAsked_58 rfl (lv_at hl 0 rfl) ?_
              refine hp_bald hx hb hZ hc3 (hq_in (by omega) (by omega)) dX13_formAsked_59 ?_
              refine lv_topi (fun y101 ey102 => ?_)
              have b103 := hq_rng y101
              have hi9 := (hq_nn (z := i31) (by omega)).1
              have hx9 := (hq_nn (z := y92) (by omega)).1
              obtain ⟨x1, hx1⟩ : ∃ x, u9[i31.toNatClampNeg]? = some x := ⟨_, List.getElem?_eq_getElem (by omega)⟩
              have hv1 : (y98).toInt = x1 := by rw [ey99, show (y92 : Int32).toNatClampNeg = 61 * k1.toNatClampNeg + i31.toNatClampNeg by omega]; exact hs3 _ _ hx1
              have hv2 : ask[i31.toNatClampNeg]? = some (y101).toInt := by rw [ey102]; exact hask.nth (by omega)
              refine lv_icmp_ne (tgt := 67) hx hb dX13_formAsked_60 (by decide) (fun c104 => ?_) (fun c104 => ?_)
              · have c104 : ¬ (y98).toInt = (y101).toInt := fun h9 => c104 (hq_eqi.mpr h9)
                refine lv_iconst (v := 0) hx hb dX13_formAsked_67 (by decide) ?_
                refine lv_istore_n (lv' := [(2, .int (0)), (3, .int (i31)), (1, .int (k1)), (0, .ref (mo))]) hx hb dX13_formAsked_68 rfl hl (by decide) rfl (fun ls hl => ?_)
                obtain ⟨y105, ey106⟩ : ∃ y : Int32, y = i31 + (1) := ⟨_, rfl⟩
                obtain ⟨k107, hk108, b109, b110⟩ := hq_add (i31) (1)
                rw [← ey106] at hk108 b109 b110
                have hk108 : (y105).toInt = (i31).toInt + (1) + k107 * 4294967296 := hk108
                obtain rfl : k107 = 0 := by omega
                refine lv_iinc (v := y105) (lv' := [(3, .int (y105)), (2, .int (0)), (1, .int (k1)), (0, .ref (mo))]) hx hb dX13_formAsked_69 hl (k := 1) rfl (by rw [ey106]; rfl) (by decide) rfl (fun ls hl => ?_)
                refine lv_goto (tgt := 31) hx hb dX13_formAsked_72 (by decide) ?_
                have hl111 : (0 : Int32).toInt = 0 := by decide
                exact ih31 _ (hq_dn hk31 (by omega) (by omega)) _ _ ls (0) (y105) rfl hZ hP (by omega) (by omega) (Or.inr ⟨by decide, fun g9 => by rw [g9] at hx1; have h9 := Option.some.inj (hx1.symm.trans hv2); omega⟩) (lv_sub hl [0, 1, 2, 3] rfl)
              · have c104 : (y98).toInt = (y101).toInt := hq_eqi.mp c104
                refine lv_iconst (v := 1) hx hb dX13_formAsked_63 (by decide) ?_
                refine lv_goto (tgt := 68) hx hb dX13_formAsked_64 (by decide) ?_
                refine lv_istore_n (lv' := [(2, .int (1)), (3, .int (i31)), (1, .int (k1)), (0, .ref (mo))]) hx hb dX13_formAsked_68 rfl hl (by decide) rfl (fun ls hl => ?_)
                obtain ⟨y112, ey113⟩ : ∃ y : Int32, y = i31 + (1) := ⟨_, rfl⟩
                obtain ⟨k114, hk115, b116, b117⟩ := hq_add (i31) (1)
                rw [← ey113] at hk115 b116 b117
                have hk115 : (y112).toInt = (i31).toInt + (1) + k114 * 4294967296 := hk115
                obtain rfl : k114 = 0 := by omega
                refine lv_iinc (v := y112) (lv' := [(3, .int (y112)), (2, .int (1)), (1, .int (k1)), (0, .ref (mo))]) hx hb dX13_formAsked_69 hl (k := 1) rfl (by rw [ey113]; rfl) (by decide) rfl (fun ls hl => ?_)
                refine lv_goto (tgt := 31) hx hb dX13_formAsked_72 (by decide) ?_
                have hl118 : (1 : Int32).toInt = 1 := by decide
                exact ih31 _ (hq_dn hk31 (by omega) (by omega)) _ _ ls (1) (y112) rfl hZ hP (by omega) (by omega) (by rcases hsm with ⟨g1, g2, g3⟩ | g1; (· refine Or.inl ⟨by decide, g2, fun j x hj hx => ?_⟩; rcases Classical.em ((j : Int) < i31.toInt) with c9 | c9; (· exact g3 j x c9 hx); (· obtain rfl : j = i31.toNatClampNeg := (by omega); cases hx1.symm.trans hx; rw [hv2]; exact congrArg some (by omega))); (· omega)) (lv_sub hl [0, 1, 2, 3] rfl)

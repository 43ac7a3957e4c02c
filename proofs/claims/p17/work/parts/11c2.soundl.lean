set_option maxHeartbeats 4000000 in
set_option maxRecDepth 100000 in
theorem x_soundL (l : Launch) (D : va_G) (cs : Nat → ClassId) (B : Nat) (G : hq_G) (V : hp_V) (n : Nat) (hI : hq_I cs G V) (mk : Nat) (md : Nat) (mh : Nat) (pt : Nat) (ch : Nat) (la : Nat) (t : Nat) (wz : Int32) (ak : Int32) (ao : Int32) (at9 : Int32) (ap : Int32) (ah : Int32) (aht : Int32) (apa : Int32) (ala : Int32) (z : Int32) (f : Nat → Int32) (cz : Int32) (cf : Nat → Int32) (fz : Int32) (ff : Nat → Int32) (sz : Int32) (sf : Nat → Int32) (u : List Int) (F : List Int) (S : List Int) (hy0 : G (mk) = some (11, 0, 0, 0)) (hy1 : G (md) = some (8, 4, 0, 0)) (hy2 : G (mh) = some (8, 2, 0, 0)) (hy3 : G (pt) = some (8, 2, 0, 0)) (hy4 : G (ch) = some (0, 30, 0, 0)) (hy5 : G (ch + 1) = some (1, 30, 0, 0)) (hy6 : G (t) = some (0, 30, 0, 0)) (hy7 : G (t + 1) = some (1, 30, 0, 0)) (hy8 : G (la + 2) = some (1, 8, 0, 0)) (hy9 : G (la + 4) = some (1, 8, 0, 0)) (hc0 : V (mk) = some (.inr (6, [.ref (md), .int (wz), .ref (mh), .ref (pt), .ref (ch)]))) (hc1 : V (la) = some (.inr (5, [.int (ak), .int (ao), .int (at9), .int (ap), .int (ah), .int (aht), .int (apa), .int (ala), .ref (la + 1), .ref (la + 3)]))) (hc2 : V (t) = some (.inr (9, [.ref (t + 1), .int (z)]))) (hc3 : V (t + 1) = some (.inl (cs 0, 30, .inl (f)))) (hc4 : V (ch) = some (.inr (9, [.ref (ch + 1), .int (cz)]))) (hc5 : V (ch + 1) = some (.inl (cs 0, 30, .inl (cf)))) (hc6 : V (la + 1) = some (.inr (9, [.ref (la + 1 + 1), .int (fz)]))) (hc7 : V (la + 2) = some (.inl (cs 0, 8, .inl (ff)))) (hc8 : V (la + 3) = some (.inr (9, [.ref (la + 3 + 1), .int (sz)]))) (hc9 : V (la + 4) = some (.inl (cs 0, 8, .inl (sf)))) (hu : sp_rp z f u) (hF : sp_rp fz ff F) (hS : sp_rp sz sf S) (hlen : z.toInt ≤ 30 ∧ fz.toInt ≤ 8 ∧ sz.toInt ≤ 8 ∧ (0 ≤ cz.toInt ∧ cz.toInt ≤ 30)) (hn : 0 < F.length) (hw1 : wz.toInt = 1) (hne : (t ≠ ch ∧ t ≠ ch + 1 ∧ t + 1 ≠ ch ∧ t + 1 ≠ ch + 1) ∧ (la + 4 < ch ∨ ch + 1 < la) ∧ (la + 4 < t ∨ t + 1 < la) ∧ (la + 4 < mk ∨ mk < la) ∧ (mk ≠ t ∧ mk ≠ t + 1 ∧ mk ≠ ch ∧ mk ≠ ch + 1)) (hsh : md = mk + 1 ∧ mh = mk + 19 ∧ pt = mk + 29 ∧ ch = mk + 39) (hla : ¬ ala.toInt = 0) : hp_M l yX6_sound cX6_sound 7 (some .boolean) ({ frames := 3, cells := 0, slots := 0, locals := 67 }) D cs B V n [.ref (mk), .ref (la), .ref (t)] (hp_QI D cs B (fun r V' n' => n = n' ∧ hq_P cs G (fun _ => true) V V' ∧ (∀ x, x ≠ mk → x ≠ ch → x ≠ ch + 1 → x ≠ t → x ≠ t + 1 → V' x = V x) ∧ (∃ wz1 : Int32, ∃ z1 : Int32, ∃ f1 : Nat → Int32, ∃ cz1 : Int32, ∃ cf1 : Nat → Int32, V' (mk) = some (.inr (6, [.ref (md), .int (wz1), .ref (mh), .ref (pt), .ref (ch)])) ∧ V' (t) = some (.inr (9, [.ref (t + 1), .int (z1)])) ∧ V' (t + 1) = some (.inl (cs 0, 30, .inl (f1))) ∧ V' (ch) = some (.inr (9, [.ref (ch + 1), .int (cz1)])) ∧ V' (ch + 1) = some (.inl (cs 0, 30, .inl (cf1))) ∧ ((r.toInt = 0 ∧ wz1.toInt = 1 ∧ sp_rp z1 f1 u ∧ sp_sndl F S u = u) ∨ (r.toInt = 1 ∧ wz1.toInt = 1 ∧ (sp_sndl F S u).length ≤ 30 ∧ ¬ sp_sndl F S u = u ∧ sp_rp z1 f1 (sp_sndl F S u)) ∨ (r.toInt = 1 ∧ wz1.toInt = 0 ∧ 30 < (sp_sndl F S u).length)) ∧ ((0 ≤ z1.toInt ∧ z1.toInt ≤ 30) ∧ (0 ≤ cz1.toInt ∧ cz1.toInt ≤ 30))))) 0 0 := by
  refine hp_walk (R0 := RX6) (by decide) rfl ?_ (Nat.le_of_ble_eq_true rfl)
  intro p e s m below meth c ls hx hb hr hts hown hlocks hin hml hZ hl
  have hP : hq_P cs G (fun _ => true) V V := hq_P.rf hI
  have hl : lv_has ls 7 [(0, .ref (mk)), (1, .ref (la)), (2, .ref (t))] := hl
  have hb_wz := hq_rng wz
  have hb_ak := hq_rng ak
  have hb_ao := hq_rng ao
  have hb_at9 := hq_rng at9
  have hb_ap := hq_rng ap
  have hb_ah := hq_rng ah
  have hb_aht := hq_rng aht
  have hb_apa := hq_rng apa
  have hb_ala := hq_rng ala
  have hb_z := hq_rng z
  have hb_cz := hq_rng cz
  have hb_fz := hq_rng fz
  have hb_sz := hq_rng sz
  have hf_3 := hq_rgB hI hy7 hc3
  have hf_5 := hq_rgB hI hy5 hc5
  have hf_7 := hq_rgB hI hy8 hc7
  have hf_9 := hq_rgB hI hy9 hc9
  have hu1 := hu.1
  have hF1 := hF.1
  have hS1 := hS.1
  obtain ⟨hl1, hl2, hl3, hl4, hl5⟩ := hlen
  refine lv_iconst (v := 0) hx hb dX6_sound_0 (by decide) ?_
  refine lv_istore_n (lv' := [(3, .int (0)), (0, .ref (mk)), (1, .ref (la)), (2, .ref (t))]) hx hb dX6_sound_1 rfl hl (by decide) rfl (fun ls hl => ?_)
  refine lv_aload_n hx hb dX6_sound_2 rfl (lv_at hl 1 rfl) ?_
  refine hp_get (v := .ref (ch)) hx hb hts hown hZ hc0 fl_X6_29 rfl dX6_sound_3 ?_
  refine hp_callv (hp_runV (As := []) (rest := []) hx hb hml hown hts (x_clear l D cs B G V n hP.1 (ch) (30) (cz) hy4 hy5 hc4  (by decide)) hZ hc4 cv_X6_133 rfl rfl ⟨Nat.le_of_ble_eq_true rfl, Nat.le_of_ble_eq_true rfl⟩ rfl hl.1 rfl (Nat.le_of_ble_eq_true rfl) dX6_sound_6 ⟨(Nat.le_of_ble_eq_true rfl), (Nat.le_of_ble_eq_true rfl)⟩) hZ (fun V1 n2 _ _ hw3 hZ => ?_)
  obtain ⟨rfl, hq5, fr6, ho7⟩ := hw3
  have hP := hP.trans hq5 (fun _ h => Bool.noConfusion h)
  refine lv_iconst (v := 0) hx hb dX6_sound_9 (by decide) ?_
  refine lv_istore (lv' := [(4, .int (0)), (3, .int (0)), (0, .ref (mk)), (1, .ref (la)), (2, .ref (t))]) hx hb dX6_sound_10 hl (by decide) rfl (fun ls hl => ?_)
  refine lv_iload hx hb dX6_sound_12 (lv_at hl 0 rfl) ?_
  refine lv_bipush (v := 30) hx hb dX6_sound_14 (by decide) ?_
  refine lv_icmp_ge (tgt := 130) hx hb dX6_sound_16 (by decide) (fun c8 => absurd c8 (by decide)) (fun c8 => ?_)
  refine lv_aload_n hx hb dX6_sound_19 rfl (lv_at hl 2 rfl) ?_
  have fx9 : V1 (mk) = some (.inr (6, [.ref (md), .int (wz), .ref (mh), .ref (pt), .ref (ch)])) := (fr6 (mk) (hq_tne hy0 hy4 (by simp))).trans (hc0)
  refine hp_get (v := .int (wz)) hx hb hts hown hZ fx9 fl_X6_118 rfl dX6_sound_20 ?_
  have hl10 : (0 : Int32).toInt = 0 := by decide
  refine lv_if_eq (tgt := 130) hx hb dX6_sound_23 (by decide) (fun c11 => absurd c11 ((fun h9 => absurd (congrArg Int32.toInt h9) (by omega) : ¬ wz = 0))) (fun c11 => ?_)
  refine lv_aload_n hx hb dX6_sound_26 rfl (lv_at hl 3 rfl) ?_
  have fx12 : V1 (la) = some (.inr (5, [.int (ak), .int (ao), .int (at9), .int (ap), .int (ah), .int (aht), .int (apa), .int (ala), .ref (la + 1), .ref (la + 3)])) := (fr6 (la) (by omega)).trans (hc1)
  refine hp_get (v := .int (ala)) hx hb hts hown hZ fx12 fl_X6_134 rfl dX6_sound_27 ?_
  have hl13 : (0 : Int32).toInt = 0 := by decide
  refine lv_if_eq (tgt := 52) hx hb dX6_sound_30 (by decide) (fun c14 => absurd c14 ((fun h9 => absurd (congrArg Int32.toInt h9) (by omega) : ¬ ala = 0))) (fun c14 => ?_)
  refine lv_iload_n hx hb dX6_sound_33 rfl (lv_at hl 1 rfl) ?_
  refine lv_aload_n hx hb dX6_sound_34 rfl (lv_at hl 4 rfl) ?_
  have fx15 : V1 (t) = some (.inr (9, [.ref (t + 1), .int (z)])) := (fr6 (t) (by omega)).trans (hc2)
  refine hp_get (v := .int (z)) hx hb hts hown hZ fx15 fl_X6_132 rfl dX6_sound_35 ?_
  refine lv_aload_n hx hb dX6_sound_38 rfl (lv_at hl 3 rfl) ?_
  refine hp_get (v := .ref (la + 1)) hx hb hts hown hZ fx12 fl_X6_107 rfl dX6_sound_39 ?_
  have fx16 : V1 (la + 1) = some (.inr (9, [.ref (la + 1 + 1), .int (fz)])) := (fr6 (la + 1) (by omega)).trans (hc6)
  refine hp_get (v := .int (fz)) hx hb hts hown hZ fx16 fl_X6_132 rfl dX6_sound_42 ?_
  refine lv_isub hx hb dX6_sound_45 ?_
  refine lv_topi (fun y17 ey18 => ?_)
  obtain ⟨k19, hk20, b21, b22⟩ := hq_sub (z) (fz)
  rw [← ey18] at hk20 b21 b22
  have hk20 : (y17).toInt = (z).toInt - (fz).toInt + k19 * 4294967296 := hk20
  obtain rfl : k19 = 0 := by omega
  refine va_mmax hx hb (hml.trans hl.1.symm) hown (hts _ lk_X6_137) (hts _ ms_max) (hts _ mi_math) (hts _ mk_max) (Nat.le_of_ble_eq_true rfl) (Nat.le_of_ble_eq_true rfl) (Nat.zero_le _) (Nat.zero_le _) dX6_sound_46 ?_
  refine lv_topi (fun y23 ey24 => ?_)
  have b25 := hq_mx (0) (y17)
  rw [← ey24] at b25
  refine lv_goto (tgt := 53) hx hb dX6_sound_49 (by decide) ?_
  refine lv_istore (lv' := [(5, .int (y23)), (4, .int (0)), (3, .int (0)), (0, .ref (mk)), (1, .ref (la)), (2, .ref (t))]) hx hb dX6_sound_53 hl (by decide) rfl (fun ls hl => ?_)
  refine lv_aload_n hx hb dX6_sound_55 rfl (lv_at hl 5 rfl) ?_
  refine lv_aload_n hx hb dX6_sound_56 rfl (lv_at hl 4 rfl) ?_
  refine hp_get (v := .ref (la + 1)) hx hb hts hown hZ fx12 fl_X6_107 rfl dX6_sound_57 ?_
  refine lv_iload hx hb dX6_sound_60 (lv_at hl 0 rfl) ?_
  have fx26 : V1 (t + 1) = some (.inl (cs 0, 30, .inl (f))) := (fr6 (t + 1) (hq_tne hy7 hy4 (by simp))).trans (hc3)
  have fx27 : V1 (la + 2) = some (.inl (cs 0, 8, .inl (ff))) := (fr6 (la + 2) (hq_tne hy8 hy4 (by simp))).trans (hc7)
  refine hp_calli (hp_runV (As := [.ref (la + 1), .int (y23)]) (rest := []) hx hb hml hown hts (x_fp l D cs B G V1 n hP.1 (t) (30) (la + 1) (8) (y23) (z) (f) (u) (fz) (ff) (F)  fx15 fx26 fx16 fx27  hu hF (by omega) (by omega) (by decide) (by decide) (by omega) hn) hZ fx15 cv_X6_143 rfl rfl ⟨Nat.le_of_ble_eq_true rfl, Nat.le_of_ble_eq_true rfl⟩ rfl hl.1 rfl (Nat.le_of_ble_eq_true rfl) dX6_sound_62 ⟨(Nat.le_of_ble_eq_true rfl), (Nat.le_of_ble_eq_true rfl)⟩) hZ (fun r31 V28 n29 _ _ hw30 hZ => ?_)
  obtain ⟨rfl, rfl, hp34⟩ := hw30
  have b35 := hq_rng r31
  have hca := sp_last_fp (S := S) hn hp34 (by omega)
  refine lv_istore (lv' := [(6, .int (r31)), (5, .int (y23)), (4, .int (0)), (3, .int (0)), (0, .ref (mk)), (1, .ref (la)), (2, .ref (t))]) hx hb dX6_sound_65 hl (by decide) rfl (fun ls hl => ?_)
  refine lv_iload hx hb dX6_sound_67 (lv_at hl 0 rfl) ?_
  refine lv_iconst (v := -1) hx hb dX6_sound_69 (by decide) ?_
  refine lv_icmp_ne (tgt := 76) hx hb dX6_sound_70 (by decide) (fun c36 => ?_) (fun c36 => ?_)
  · have c36 : ¬ (r31).toInt = (-1 : Int) := fun h9 => c36 (hq_eqi.mpr h9)
    obtain ⟨hcq1, hcq2, hcq3, hcq4⟩ : F.length ≤ u.length ∧ (r31).toInt = (u.length : Int) - F.length ∧ sp_pf F (u.drop (u.length - F.length)) = true ∧ sp_sndl F S u = (u.take (u.length - F.length)) ++ S := by rcases hca with g9 | g9; (· omega); (· exact g9)
    have htk : (u.take (u.length - F.length)).length = u.length - F.length := by rw [List.length_take]; omega
    refine lv_aload_n hx hb dX6_sound_76 rfl (lv_at hl 4 rfl) ?_
    refine lv_aload_n hx hb dX6_sound_77 rfl (lv_at hl 4 rfl) ?_
    refine hp_get (v := .ref (ch)) hx hb hts hown hZ fx9 fl_X6_29 rfl dX6_sound_78 ?_
    refine lv_aload_n hx hb dX6_sound_81 rfl (lv_at hl 6 rfl) ?_
    refine lv_iload_n hx hb dX6_sound_82 rfl (lv_at hl 3 rfl) ?_
    refine lv_iload hx hb dX6_sound_83 (lv_at hl 0 rfl) ?_
    have fx37 : V1 (ch + 1) = some (.inl (cs 0, 30, .inl (cf))) := (fr6 (ch + 1) (hq_tne hy5 hy4 (by simp))).trans (hc5)
    have hl38 : (0 : Int32).toInt = 0 := by decide
    have hl39 : (0 : Int32).toInt = 0 := by decide
    refine hp_calli (hp_runV (As := [.ref (t), .int (0), .int (r31)]) (rest := [.ref (mk)]) hx hb hml hown hts (x_addP l D cs B G V1 n hP.1 (ch) (30) (t) (30) (0) (r31) (0) (cf) ([]) (z) (f) (u) hy4 hy5 hy7 ho7 fx37 fx15 fx26  sp_rp.nil hu (by omega) (by omega) (by decide) (by decide) (by omega) (by omega)) hZ ho7 cv_X6_147 rfl rfl ⟨Nat.le_of_ble_eq_true rfl, Nat.le_of_ble_eq_true rfl⟩ rfl hl.1 rfl (Nat.le_of_ble_eq_true rfl) dX6_sound_85 ⟨(Nat.le_of_ble_eq_true rfl), (Nat.le_of_ble_eq_true rfl)⟩) hZ (fun r43 V40 n41 _ _ hw42 hZ => ?_)
    obtain ⟨rfl, hq44, fr45, z46, u47, ho48, ho49, hp50, hp51⟩ := hw42
    have b52 := hq_rng z46
    have hP := hP.trans hq44 (fun _ h => Bool.noConfusion h)
    have hf53 := hq_rgB hP.1 hy5 ho49
    have b54 := hq_rng r43
    have b55 := hp51
    refine lv_if_eq (tgt := 109) hx hb dX6_sound_88 (by decide) (fun c56 => ?_) (fun c56 => ?_)
    · have c56 : (r43).toInt = (0 : Int) := hq_eqi.mp c56
      have hov : ¬ (0 : Int32).toInt + ((r31).toInt - (0 : Int32).toInt) ≤ 30 := by rcases hp50 with g9 | g9; (· omega); (· exact g9.1)
      exfalso
      have h0 : (0 : Int32).toInt = 0 := rfl
      omega
    · have c56 : ¬ (r43).toInt = (0 : Int) := fun h9 => c56 (hq_eqi.mpr h9)
      have hp1 : sp_rp z46 u47 ([] ++ (u.drop (0 : Int32).toInt.toNat).take ((r31).toInt - (0 : Int32).toInt).toNat) := by rcases hp50 with g9 | g9; (· exact g9.2.2); (· omega)
      rw [show (0 : Int32).toInt = 0 from rfl, Int.toNat_zero, List.drop_zero, List.nil_append, show ((r31).toInt - 0).toNat = u.length - F.length by omega] at hp1
      have hp11 := hp1.1
      refine lv_aload_n hx hb dX6_sound_91 rfl (lv_at hl 4 rfl) ?_
      have fx57 : V40 (mk) = some (.inr (6, [.ref (md), .int (wz), .ref (mh), .ref (pt), .ref (ch)])) := (fr45 (mk) (hq_tne hy0 hy4 (by simp)) (hq_tne hy0 hy5 (by simp))).trans (fx9)
      refine hp_get (v := .ref (ch)) hx hb hts hown hZ fx57 fl_X6_29 rfl dX6_sound_92 ?_
      refine lv_aload_n hx hb dX6_sound_95 rfl (lv_at hl 5 rfl) ?_
      have fx58 : V40 (la) = some (.inr (5, [.int (ak), .int (ao), .int (at9), .int (ap), .int (ah), .int (aht), .int (apa), .int (ala), .ref (la + 1), .ref (la + 3)])) := (fr45 (la) (by omega) (by omega)).trans (fx12)
      refine hp_get (v := .ref (la + 3)) hx hb hts hown hZ fx58 fl_X6_151 rfl dX6_sound_96 ?_
      have fx59 : V40 (la + 3) = some (.inr (9, [.ref (la + 3 + 1), .int (sz)])) := (fr45 (la + 3) (by omega) (by omega)).trans ((fr6 (la + 3) (by omega)).trans (hc8))
      have fx60 : V40 (la + 4) = some (.inl (cs 0, 8, .inl (sf))) := (fr45 (la + 4) (hq_tne hy9 hy4 (by simp)) (hq_tne hy9 hy5 (by simp))).trans ((fr6 (la + 4) (hq_tne hy9 hy4 (by simp))).trans (hc9))
      refine hp_calli (hp_runV (As := [.ref (la + 3)]) (rest := [.ref (mk)]) hx hb hml hown hts (x_addA l D cs B G V40 n hP.1 (ch) (30) (la + 3) (8) (z46) (u47) ((u.take (u.length - F.length))) (sz) (sf) (S) hy4 hy5 hy9 ho48 ho49 fx59 fx60  hp1 hS (by omega) (by omega) (by decide) (by decide) (by omega)) hZ ho48 cv_X6_89 rfl rfl ⟨Nat.le_of_ble_eq_true rfl, Nat.le_of_ble_eq_true rfl⟩ rfl hl.1 rfl (Nat.le_of_ble_eq_true rfl) dX6_sound_99 ⟨(Nat.le_of_ble_eq_true rfl), (Nat.le_of_ble_eq_true rfl)⟩) hZ (fun r64 V61 n62 _ _ hw63 hZ => ?_)
      obtain ⟨rfl, hq65, fr66, z67, u68, ho69, ho70, hp71, hp72⟩ := hw63
      have b73 := hq_rng z67
      have hP := hP.trans hq65 (fun _ h => Bool.noConfusion h)
      have hf74 := hq_rgB hP.1 hy5 ho70
      have b75 := hq_rng r64
      have b76 := hp72
      refine lv_if_eq (tgt := 109) hx hb dX6_sound_102 (by decide) (fun c77 => ?_) (fun c77 => ?_)
      · have c77 : (r64).toInt = (0 : Int) := hq_eqi.mp c77
        have hov2 : ¬ (z46).toInt + sz.toInt ≤ 30 := by rcases hp71 with g9 | g9; (· omega); (· exact g9.1)
        refine lv_iconst (v := 0) hx hb dX6_sound_109 (by decide) ?_
        have fx78 : V61 (mk) = some (.inr (6, [.ref (md), .int (wz), .ref (mh), .ref (pt), .ref (ch)])) := (fr66 (mk) (hq_tne hy0 hy4 (by simp)) (hq_tne hy0 hy5 (by simp))).trans (fx57)
        refine hp_put hx hb hts hown hZ fx78 fp_X6_118 rfl rfl (Nat.le_of_ble_eq_true rfl) dX6_sound_110 (fun V79 _ _ e80 o81 hZ => ?_)
        have e80 : V79 (mk) = some (.inr (6, [.ref (md), .int (0), .ref (mh), .ref (pt), .ref (ch)])) := e80
        have hP := hP.put hy0 e80 o81 (hq_c11 hy1 hy2 hy3 hy4 (show 0 ≤ (0 : Int) by omega) (show (0 : Int) ≤ 1 by omega) (by first | rfl | exact hsh.1 | omega) (by first | rfl | exact hsh.2.1 | omega) (by first | rfl | exact hsh.2.2.1 | omega) (by first | rfl | exact hsh.2.2.2 | omega)) rfl
        refine lv_iload hx hb dX6_sound_113 (lv_at hl 0 rfl) ?_
        refine lv_aload_n hx hb dX6_sound_115 rfl (lv_at hl 5 rfl) ?_
        have fx82 : V79 (la) = some (.inr (5, [.int (ak), .int (ao), .int (at9), .int (ap), .int (ah), .int (aht), .int (apa), .int (ala), .ref (la + 1), .ref (la + 3)])) := (o81 (la) (by omega)).trans ((fr66 (la) (by omega) (by omega)).trans (fx58))
        refine hp_get (v := .ref (la + 1)) hx hb hts hown hZ fx82 fl_X6_107 rfl dX6_sound_116 ?_
        have fx83 : V79 (la + 1) = some (.inr (9, [.ref (la + 1 + 1), .int (fz)])) := (o81 (la + 1) (by omega)).trans ((fr66 (la + 1) (by omega) (by omega)).trans ((fr45 (la + 1) (by omega) (by omega)).trans (fx16)))
        refine hp_get (v := .int (fz)) hx hb hts hown hZ fx83 fl_X6_132 rfl dX6_sound_119 ?_
        refine lv_iadd hx hb dX6_sound_122 ?_
        refine lv_topi (fun y84 ey85 => ?_)
        obtain ⟨k86, hk87, b88, b89⟩ := hq_add (r31) (fz)
        rw [← ey85] at hk87 b88 b89
        have hk87 : (y84).toInt = (r31).toInt + (fz).toInt + k86 * 4294967296 := hk87
        obtain rfl : k86 = 0 := by omega
        refine lv_istore_n (lv' := [(3, .int (y84)), (6, .int (r31)), (5, .int (y23)), (4, .int (0)), (0, .ref (mk)), (1, .ref (la)), (2, .ref (t))]) hx hb dX6_sound_123 rfl hl (by decide) rfl (fun ls hl => ?_)
        refine lv_iinc (v := 1) (lv' := [(4, .int (1)), (3, .int (y84)), (6, .int (r31)), (5, .int (y23)), (0, .ref (mk)), (1, .ref (la)), (2, .ref (t))]) hx hb dX6_sound_124 hl (k := 3) rfl (by decide) (by decide) rfl (fun ls hl => ?_)
        refine lv_goto (tgt := 12) hx hb dX6_sound_127 (by decide) ?_
        refine lv_iload hx hb dX6_sound_12 (lv_at hl 0 rfl) ?_
        refine lv_bipush (v := 30) hx hb dX6_sound_14 (by decide) ?_
        refine lv_icmp_ge (tgt := 130) hx hb dX6_sound_16 (by decide) (fun c90 => absurd c90 (by decide)) (fun c90 => ?_)
        refine lv_aload_n hx hb dX6_sound_19 rfl (lv_at hl 4 rfl) ?_
        refine hp_get (v := .int (0)) hx hb hts hown hZ e80 fl_X6_118 rfl dX6_sound_20 ?_
        refine lv_if_eq (tgt := 130) hx hb dX6_sound_23 (by decide) (fun c91 => ?_) (fun c91 => absurd (by decide) c91)
        refine lv_iload_n hx hb dX6_sound_130 rfl (lv_at hl 1 rfl) ?_
        refine lv_if_eq (tgt := 148) hx hb dX6_sound_131 (by decide) (fun c92 => ?_) (fun c92 => ?_)
        · have c92 : (y84).toInt = (0 : Int) := hq_eqi.mp c92
          exfalso
          omega
        · have c92 : ¬ (y84).toInt = (0 : Int) := fun h9 => c92 (hq_eqi.mpr h9)
          refine lv_aload_n hx hb dX6_sound_134 rfl (lv_at hl 5 rfl) ?_
          refine hp_get (v := .ref (la + 1)) hx hb hts hown hZ fx82 fl_X6_107 rfl dX6_sound_135 ?_
          refine lv_aload_n hx hb dX6_sound_138 rfl (lv_at hl 5 rfl) ?_
          refine hp_get (v := .ref (la + 3)) hx hb hts hown hZ fx82 fl_X6_151 rfl dX6_sound_139 ?_
          have fx93 : V79 (la + 2) = some (.inl (cs 0, 8, .inl (ff))) := (o81 (la + 2) (hq_tne hy8 hy0 (by simp))).trans ((fr66 (la + 2) (hq_tne hy8 hy4 (by simp)) (hq_tne hy8 hy5 (by simp))).trans ((fr45 (la + 2) (hq_tne hy8 hy4 (by simp)) (hq_tne hy8 hy5 (by simp))).trans (fx27)))
          have fx94 : V79 (la + 3) = some (.inr (9, [.ref (la + 3 + 1), .int (sz)])) := (o81 (la + 3) (by omega)).trans ((fr66 (la + 3) (by omega) (by omega)).trans (fx59))
          have fx95 : V79 (la + 4) = some (.inl (cs 0, 8, .inl (sf))) := (o81 (la + 4) (hq_tne hy9 hy0 (by simp))).trans ((fr66 (la + 4) (hq_tne hy9 hy4 (by simp)) (hq_tne hy9 hy5 (by simp))).trans (fx60))
          refine hp_calli (hp_runV (As := [.ref (la + 3)]) (rest := []) hx hb hml hown hts (x_same l D cs B G V79 n hP.1 (la + 1) (8) (la + 3) (8) (fz) (ff) (sz) (sf)  fx83 fx93 fx94 fx95  (by omega) (by omega) (by decide) (by decide)) hZ fx83 cv_X6_154 rfl rfl ⟨Nat.le_of_ble_eq_true rfl, Nat.le_of_ble_eq_true rfl⟩ rfl hl.1 rfl (Nat.le_of_ble_eq_true rfl) dX6_sound_142 ⟨(Nat.le_of_ble_eq_true rfl), (Nat.le_of_ble_eq_true rfl)⟩) hZ (fun r99 V96 n97 _ _ hw98 hZ => ?_)
          obtain ⟨rfl, rfl, hp102⟩ := hw98
          have b103 := hq_rng r99
          refine lv_if_eq (tgt := 150) hx hb dX6_sound_145 (by decide) (fun c104 => ?_) (fun c104 => ?_)
          · have c104 : (r99).toInt = (0 : Int) := hq_eqi.mp c104
            have hFS : ¬ F = S := fun g9 => (hx_D.neg hp102 (by omega)).2 ((hF.same hS).mpr g9)
            refine lv_aload_n hx hb dX6_sound_150 rfl (lv_at hl 4 rfl) ?_
            refine lv_aload_n hx hb dX6_sound_151 rfl (lv_at hl 4 rfl) ?_
            refine hp_get (v := .int (0)) hx hb hts hown hZ e80 fl_X6_118 rfl dX6_sound_152 ?_
            refine lv_if_eq (tgt := 178) hx hb dX6_sound_155 (by decide) (fun c105 => ?_) (fun c105 => absurd (by decide) c105)
            refine lv_iconst (v := 0) hx hb dX6_sound_178 (by decide) ?_
            refine hp_put hx hb hts hown hZ e80 fp_X6_118 rfl rfl (Nat.le_of_ble_eq_true rfl) dX6_sound_179 (fun V106 _ _ e107 o108 hZ => ?_)
            have e107 : V106 (mk) = some (.inr (6, [.ref (md), .int (0), .ref (mh), .ref (pt), .ref (ch)])) := e107
            have hP := hP.put hy0 e107 o108 (hq_c11 hy1 hy2 hy3 hy4 (show 0 ≤ (0 : Int) by omega) (show (0 : Int) ≤ 1 by omega) (by first | rfl | exact hsh.1 | omega) (by first | rfl | exact hsh.2.1 | omega) (by first | rfl | exact hsh.2.2.1 | omega) (by first | rfl | exact hsh.2.2.2 | omega)) rfl
            refine lv_aload_n hx hb dX6_sound_182 rfl (lv_at hl 6 rfl) ?_
            refine lv_aload_n hx hb dX6_sound_183 rfl (lv_at hl 4 rfl) ?_
            refine hp_get (v := .ref (ch)) hx hb hts hown hZ e107 fl_X6_29 rfl dX6_sound_184 ?_
            have fx109 : V106 (t) = some (.inr (9, [.ref (t + 1), .int (z)])) := (o108 (t) (hq_tne hy6 hy0 (by simp))).trans ((o81 (t) (hq_tne hy6 hy0 (by simp))).trans ((fr66 (t) (by omega) (hq_tne hy6 hy5 (by simp))).trans ((fr45 (t) (by omega) (hq_tne hy6 hy5 (by simp))).trans (fx15))))
            have fx110 : V106 (t + 1) = some (.inl (cs 0, 30, .inl (f))) := (o108 (t + 1) (hq_tne hy7 hy0 (by simp))).trans ((o81 (t + 1) (hq_tne hy7 hy0 (by simp))).trans ((fr66 (t + 1) (hq_tne hy7 hy4 (by simp)) (by omega)).trans ((fr45 (t + 1) (hq_tne hy7 hy4 (by simp)) (by omega)).trans (fx26))))
            have fx111 : V106 (ch) = some (.inr (9, [.ref (ch + 1), .int (z67)])) := (o108 (ch) (hq_tne hy4 hy0 (by simp))).trans ((o81 (ch) (hq_tne hy4 hy0 (by simp))).trans (ho69))
            have fx112 : V106 (ch + 1) = some (.inl (cs 0, 30, .inl (u68))) := (o108 (ch + 1) (hq_tne hy5 hy0 (by simp))).trans ((o81 (ch + 1) (hq_tne hy5 hy0 (by simp))).trans (ho70))
            refine hp_callv (hp_runV (As := [.ref (ch)]) (rest := []) hx hb hml hown hts (x_set l D cs B G V106 n hP.1 (t) (30) (ch) (30) (z) (f) (z67) (u68) hy6 hy7 hy5 fx109 fx110 fx111 fx112  (by omega) (by decide) (by decide) (by omega) (by omega)) hZ fx109 cv_X6_157 rfl rfl ⟨Nat.le_of_ble_eq_true rfl, Nat.le_of_ble_eq_true rfl⟩ rfl hl.1 rfl (Nat.le_of_ble_eq_true rfl) dX6_sound_187 ⟨(Nat.le_of_ble_eq_true rfl), (Nat.le_of_ble_eq_true rfl)⟩) hZ (fun V113 n114 _ _ hw115 hZ => ?_)
            obtain ⟨rfl, hq117, fr118, z119, u120, ho121, ho122, hp123, hp124⟩ := hw115
            have b125 := hq_rng z119
            have hP := hP.trans hq117 (fun _ h => Bool.noConfusion h)
            have hf126 := hq_rgB hP.1 hy7 ho122
            refine lv_iconst (v := 1) hx hb dX6_sound_190 (by decide) ?_
            have hl127 : (1 : Int32).toInt = 1 := by decide
            have fx128 : V113 (mk) = some (.inr (6, [.ref (md), .int (0), .ref (mh), .ref (pt), .ref (ch)])) := (fr118 (mk) (hq_tne hy0 hy6 (by simp)) (hq_tne hy0 hy7 (by simp))).trans (e107)
            have fx129 : V113 (ch) = some (.inr (9, [.ref (ch + 1), .int (z67)])) := (fr118 (ch) (by omega) (hq_tne hy4 hy7 (by simp))).trans (fx111)
            have fx130 : V113 (ch + 1) = some (.inl (cs 0, 30, .inl (u68))) := (fr118 (ch + 1) (hq_tne hy5 hy6 (by simp)) (by omega)).trans (fx112)
            have hl131 : (0 : Int32).toInt = 0 := by decide
            have hN : (sp_sndl F S u).length = u.length - F.length + S.length := by rw [hcq4, List.length_append, htk]
            exact hp_zret hx hb hr rfl hlocks hZ ⟨rfl, hP, (fun x8 hne0 hne1 hne2 hne3 hne4 => (fr118 x8 hne3 hne4).trans ((o108 x8 hne0).trans ((o81 x8 hne0).trans ((fr66 x8 hne1 hne2).trans ((fr45 x8 hne1 hne2).trans (fr6 x8 hne1)))))), 0, z119, u120, z67, u68, fx128, ho121, ho122, fx129, fx130, Or.inr (Or.inr ⟨by omega, by omega, by omega⟩), by omega⟩ dX6_sound_191
          · have c104 : ¬ (r99).toInt = (0 : Int) := fun h9 => c104 (hq_eqi.mpr h9)
            have hFS : F = S := (hF.same hS).mp (hx_D.pos hp102 (by rcases Classical.em ((r99).toInt = 1) with h9 | h9; exact h9; exact absurd (hx_D.neg hp102 h9).1 (by omega)))
            refine lv_iconst (v := 0) hx hb dX6_sound_148 (by decide) ?_
            have hl132 : (0 : Int32).toInt = 0 := by decide
            have fx133 : V79 (t) = some (.inr (9, [.ref (t + 1), .int (z)])) := (o81 (t) (hq_tne hy6 hy0 (by simp))).trans ((fr66 (t) (by omega) (hq_tne hy6 hy5 (by simp))).trans ((fr45 (t) (by omega) (hq_tne hy6 hy5 (by simp))).trans (fx15)))
            have fx134 : V79 (t + 1) = some (.inl (cs 0, 30, .inl (f))) := (o81 (t + 1) (hq_tne hy7 hy0 (by simp))).trans ((fr66 (t + 1) (hq_tne hy7 hy4 (by simp)) (by omega)).trans ((fr45 (t + 1) (hq_tne hy7 hy4 (by simp)) (by omega)).trans (fx26)))
            have fx135 : V79 (ch) = some (.inr (9, [.ref (ch + 1), .int (z67)])) := (o81 (ch) (hq_tne hy4 hy0 (by simp))).trans (ho69)
            have fx136 : V79 (ch + 1) = some (.inl (cs 0, 30, .inl (u68))) := (o81 (ch + 1) (hq_tne hy5 hy0 (by simp))).trans (ho70)
            have hl137 : (0 : Int32).toInt = 0 := by decide
            have hN : (sp_sndl F S u).length = u.length - F.length + S.length := by rw [hcq4, List.length_append, htk]
            have hFl : F.length = S.length := congrArg List.length hFS
            exfalso
            omega
      · have c77 : ¬ (r64).toInt = (0 : Int) := fun h9 => c77 (hq_eqi.mpr h9)
        have hp2 : sp_rp z67 u68 ((u.take (u.length - F.length)) ++ S) := by rcases hp71 with g9 | g9; (· exact g9.2.2); (· omega)
        have hp21 := hp2.1
        refine lv_iconst (v := 1) hx hb dX6_sound_105 (by decide) ?_
        refine lv_goto (tgt := 110) hx hb dX6_sound_106 (by decide) ?_
        have fx138 : V61 (mk) = some (.inr (6, [.ref (md), .int (wz), .ref (mh), .ref (pt), .ref (ch)])) := (fr66 (mk) (hq_tne hy0 hy4 (by simp)) (hq_tne hy0 hy5 (by simp))).trans (fx57)
        refine hp_put hx hb hts hown hZ fx138 fp_X6_118 rfl rfl (Nat.le_of_ble_eq_true rfl) dX6_sound_110 (fun V139 _ _ e140 o141 hZ => ?_)
        have e140 : V139 (mk) = some (.inr (6, [.ref (md), .int (1), .ref (mh), .ref (pt), .ref (ch)])) := e140
        have hP := hP.put hy0 e140 o141 (hq_c11 hy1 hy2 hy3 hy4 (show 0 ≤ (1 : Int) by omega) (show (1 : Int) ≤ 1 by omega) (by first | rfl | exact hsh.1 | omega) (by first | rfl | exact hsh.2.1 | omega) (by first | rfl | exact hsh.2.2.1 | omega) (by first | rfl | exact hsh.2.2.2 | omega)) rfl
        refine lv_iload hx hb dX6_sound_113 (lv_at hl 0 rfl) ?_
        refine lv_aload_n hx hb dX6_sound_115 rfl (lv_at hl 5 rfl) ?_
        have fx142 : V139 (la) = some (.inr (5, [.int (ak), .int (ao), .int (at9), .int (ap), .int (ah), .int (aht), .int (apa), .int (ala), .ref (la + 1), .ref (la + 3)])) := (o141 (la) (by omega)).trans ((fr66 (la) (by omega) (by omega)).trans (fx58))
        refine hp_get (v := .ref (la + 1)) hx hb hts hown hZ fx142 fl_X6_107 rfl dX6_sound_116 ?_
        have fx143 : V139 (la + 1) = some (.inr (9, [.ref (la + 1 + 1), .int (fz)])) := (o141 (la + 1) (by omega)).trans ((fr66 (la + 1) (by omega) (by omega)).trans ((fr45 (la + 1) (by omega) (by omega)).trans (fx16)))
        refine hp_get (v := .int (fz)) hx hb hts hown hZ fx143 fl_X6_132 rfl dX6_sound_119 ?_
        refine lv_iadd hx hb dX6_sound_122 ?_
        refine lv_topi (fun y144 ey145 => ?_)
        obtain ⟨k146, hk147, b148, b149⟩ := hq_add (r31) (fz)
        rw [← ey145] at hk147 b148 b149
        have hk147 : (y144).toInt = (r31).toInt + (fz).toInt + k146 * 4294967296 := hk147
        obtain rfl : k146 = 0 := by omega
        refine lv_istore_n (lv' := [(3, .int (y144)), (6, .int (r31)), (5, .int (y23)), (4, .int (0)), (0, .ref (mk)), (1, .ref (la)), (2, .ref (t))]) hx hb dX6_sound_123 rfl hl (by decide) rfl (fun ls hl => ?_)
        refine lv_iinc (v := 1) (lv' := [(4, .int (1)), (3, .int (y144)), (6, .int (r31)), (5, .int (y23)), (0, .ref (mk)), (1, .ref (la)), (2, .ref (t))]) hx hb dX6_sound_124 hl (k := 3) rfl (by decide) (by decide) rfl (fun ls hl => ?_)
        refine lv_goto (tgt := 12) hx hb dX6_sound_127 (by decide) ?_
        refine lv_iload hx hb dX6_sound_12 (lv_at hl 0 rfl) ?_
        refine lv_bipush (v := 30) hx hb dX6_sound_14 (by decide) ?_
        refine lv_icmp_ge (tgt := 130) hx hb dX6_sound_16 (by decide) (fun c150 => absurd c150 (by decide)) (fun c150 => ?_)
        refine lv_aload_n hx hb dX6_sound_19 rfl (lv_at hl 4 rfl) ?_
        refine hp_get (v := .int (1)) hx hb hts hown hZ e140 fl_X6_118 rfl dX6_sound_20 ?_
        refine lv_if_eq (tgt := 130) hx hb dX6_sound_23 (by decide) (fun c151 => absurd c151 (by decide)) (fun c151 => ?_)
        refine lv_aload_n hx hb dX6_sound_26 rfl (lv_at hl 5 rfl) ?_
        refine hp_get (v := .int (ala)) hx hb hts hown hZ fx142 fl_X6_134 rfl dX6_sound_27 ?_
        have hl152 : (0 : Int32).toInt = 0 := by decide
        refine lv_if_eq (tgt := 52) hx hb dX6_sound_30 (by decide) (fun c153 => absurd c153 ((fun h9 => absurd (congrArg Int32.toInt h9) (by omega) : ¬ ala = 0))) (fun c153 => ?_)
        refine lv_iload_n hx hb dX6_sound_33 rfl (lv_at hl 1 rfl) ?_
        refine lv_aload_n hx hb dX6_sound_34 rfl (lv_at hl 6 rfl) ?_
        have fx154 : V139 (t) = some (.inr (9, [.ref (t + 1), .int (z)])) := (o141 (t) (hq_tne hy6 hy0 (by simp))).trans ((fr66 (t) (by omega) (hq_tne hy6 hy5 (by simp))).trans ((fr45 (t) (by omega) (hq_tne hy6 hy5 (by simp))).trans (fx15)))
        refine hp_get (v := .int (z)) hx hb hts hown hZ fx154 fl_X6_132 rfl dX6_sound_35 ?_
        refine lv_aload_n hx hb dX6_sound_38 rfl (lv_at hl 5 rfl) ?_
        refine hp_get (v := .ref (la + 1)) hx hb hts hown hZ fx142 fl_X6_107 rfl dX6_sound_39 ?_
        refine hp_get (v := .int (fz)) hx hb hts hown hZ fx143 fl_X6_132 rfl dX6_sound_42 ?_
        refine lv_isub hx hb dX6_sound_45 ?_
        refine lv_topi (fun y155 ey156 => ?_)
        obtain ⟨k157, hk158, b159, b160⟩ := hq_sub (z) (fz)
        rw [← ey156] at hk158 b159 b160
        have hk158 : (y155).toInt = (z).toInt - (fz).toInt + k157 * 4294967296 := hk158
        obtain rfl : k157 = 0 := by omega
        refine va_mmax hx hb (hml.trans hl.1.symm) hown (hts _ lk_X6_137) (hts _ ms_max) (hts _ mi_math) (hts _ mk_max) (Nat.le_of_ble_eq_true rfl) (Nat.le_of_ble_eq_true rfl) (Nat.zero_le _) (Nat.zero_le _) dX6_sound_46 ?_
        refine lv_topi (fun y161 ey162 => ?_)
        have b163 := hq_mx (y144) (y155)
        rw [← ey162] at b163
        refine lv_goto (tgt := 53) hx hb dX6_sound_49 (by decide) ?_
        refine lv_istore (lv' := [(5, .int (y161)), (4, .int (1)), (3, .int (y144)), (6, .int (r31)), (0, .ref (mk)), (1, .ref (la)), (2, .ref (t))]) hx hb dX6_sound_53 hl (by decide) rfl (fun ls hl => ?_)
        refine lv_aload_n hx hb dX6_sound_55 rfl (lv_at hl 6 rfl) ?_
        refine lv_aload_n hx hb dX6_sound_56 rfl (lv_at hl 5 rfl) ?_
        refine hp_get (v := .ref (la + 1)) hx hb hts hown hZ fx142 fl_X6_107 rfl dX6_sound_57 ?_
        refine lv_iload hx hb dX6_sound_60 (lv_at hl 0 rfl) ?_
        have fx164 : V139 (t + 1) = some (.inl (cs 0, 30, .inl (f))) := (o141 (t + 1) (hq_tne hy7 hy0 (by simp))).trans ((fr66 (t + 1) (hq_tne hy7 hy4 (by simp)) (by omega)).trans ((fr45 (t + 1) (hq_tne hy7 hy4 (by simp)) (by omega)).trans (fx26)))
        have fx165 : V139 (la + 2) = some (.inl (cs 0, 8, .inl (ff))) := (o141 (la + 2) (hq_tne hy8 hy0 (by simp))).trans ((fr66 (la + 2) (hq_tne hy8 hy4 (by simp)) (hq_tne hy8 hy5 (by simp))).trans ((fr45 (la + 2) (hq_tne hy8 hy4 (by simp)) (hq_tne hy8 hy5 (by simp))).trans (fx27)))
        refine hp_calli (hp_runV (As := [.ref (la + 1), .int (y161)]) (rest := []) hx hb hml hown hts (x_fp l D cs B G V139 n hP.1 (t) (30) (la + 1) (8) (y161) (z) (f) (u) (fz) (ff) (F)  fx154 fx164 fx143 fx165  hu hF (by omega) (by omega) (by decide) (by decide) (by omega) hn) hZ fx154 cv_X6_143 rfl rfl ⟨Nat.le_of_ble_eq_true rfl, Nat.le_of_ble_eq_true rfl⟩ rfl hl.1 rfl (Nat.le_of_ble_eq_true rfl) dX6_sound_62 ⟨(Nat.le_of_ble_eq_true rfl), (Nat.le_of_ble_eq_true rfl)⟩) hZ (fun r169 V166 n167 _ _ hw168 hZ => ?_)
        obtain ⟨rfl, rfl, hp172⟩ := hw168
        have b173 := hq_rng r169
        have hno9 : (r169).toInt = -1 := by rw [hp172, sp_fp_o F _ _ (by rw [List.length_drop]; omega)]
        refine lv_istore (lv' := [(6, .int (r169)), (5, .int (y161)), (4, .int (1)), (3, .int (y144)), (0, .ref (mk)), (1, .ref (la)), (2, .ref (t))]) hx hb dX6_sound_65 hl (by decide) rfl (fun ls hl => ?_)
        refine lv_iload hx hb dX6_sound_67 (lv_at hl 0 rfl) ?_
        refine lv_iconst (v := -1) hx hb dX6_sound_69 (by decide) ?_
        have hl174 : (-1 : Int32).toInt = -1 := by decide
        refine lv_icmp_ne (tgt := 76) hx hb dX6_sound_70 (by decide) (fun c175 => absurd ((Int32.toInt_inj.mp (by omega) : r169 = -1)) c175) (fun c175 => ?_)
        refine lv_goto (tgt := 130) hx hb dX6_sound_73 (by decide) ?_
        refine lv_iload_n hx hb dX6_sound_130 rfl (lv_at hl 3 rfl) ?_
        refine lv_if_eq (tgt := 148) hx hb dX6_sound_131 (by decide) (fun c176 => ?_) (fun c176 => ?_)
        · have c176 : (y144).toInt = (0 : Int) := hq_eqi.mp c176
          exfalso
          omega
        · have c176 : ¬ (y144).toInt = (0 : Int) := fun h9 => c176 (hq_eqi.mpr h9)
          refine lv_aload_n hx hb dX6_sound_134 rfl (lv_at hl 5 rfl) ?_
          refine hp_get (v := .ref (la + 1)) hx hb hts hown hZ fx142 fl_X6_107 rfl dX6_sound_135 ?_
          refine lv_aload_n hx hb dX6_sound_138 rfl (lv_at hl 5 rfl) ?_
          refine hp_get (v := .ref (la + 3)) hx hb hts hown hZ fx142 fl_X6_151 rfl dX6_sound_139 ?_
          have fx177 : V139 (la + 3) = some (.inr (9, [.ref (la + 3 + 1), .int (sz)])) := (o141 (la + 3) (by omega)).trans ((fr66 (la + 3) (by omega) (by omega)).trans (fx59))
          have fx178 : V139 (la + 4) = some (.inl (cs 0, 8, .inl (sf))) := (o141 (la + 4) (hq_tne hy9 hy0 (by simp))).trans ((fr66 (la + 4) (hq_tne hy9 hy4 (by simp)) (hq_tne hy9 hy5 (by simp))).trans (fx60))
          refine hp_calli (hp_runV (As := [.ref (la + 3)]) (rest := []) hx hb hml hown hts (x_same l D cs B G V139 n hP.1 (la + 1) (8) (la + 3) (8) (fz) (ff) (sz) (sf)  fx143 fx165 fx177 fx178  (by omega) (by omega) (by decide) (by decide)) hZ fx143 cv_X6_154 rfl rfl ⟨Nat.le_of_ble_eq_true rfl, Nat.le_of_ble_eq_true rfl⟩ rfl hl.1 rfl (Nat.le_of_ble_eq_true rfl) dX6_sound_142 ⟨(Nat.le_of_ble_eq_true rfl), (Nat.le_of_ble_eq_true rfl)⟩) hZ (fun r182 V179 n180 _ _ hw181 hZ => ?_)
          obtain ⟨rfl, rfl, hp185⟩ := hw181
          have b186 := hq_rng r182
          refine lv_if_eq (tgt := 150) hx hb dX6_sound_145 (by decide) (fun c187 => ?_) (fun c187 => ?_)
          · have c187 : (r182).toInt = (0 : Int) := hq_eqi.mp c187
            have hFS : ¬ F = S := fun g9 => (hx_D.neg hp185 (by omega)).2 ((hF.same hS).mpr g9)
            refine lv_aload_n hx hb dX6_sound_150 rfl (lv_at hl 4 rfl) ?_
            refine lv_aload_n hx hb dX6_sound_151 rfl (lv_at hl 4 rfl) ?_
            refine hp_get (v := .int (1)) hx hb hts hown hZ e140 fl_X6_118 rfl dX6_sound_152 ?_
            refine lv_if_eq (tgt := 178) hx hb dX6_sound_155 (by decide) (fun c188 => absurd c188 (by decide)) (fun c188 => ?_)
            refine lv_aload_n hx hb dX6_sound_158 rfl (lv_at hl 4 rfl) ?_
            refine hp_get (v := .ref (ch)) hx hb hts hown hZ e140 fl_X6_29 rfl dX6_sound_159 ?_
            refine lv_aload_n hx hb dX6_sound_162 rfl (lv_at hl 6 rfl) ?_
            refine lv_iload_n hx hb dX6_sound_163 rfl (lv_at hl 3 rfl) ?_
            refine lv_aload_n hx hb dX6_sound_164 rfl (lv_at hl 6 rfl) ?_
            refine hp_get (v := .int (z)) hx hb hts hown hZ fx154 fl_X6_132 rfl dX6_sound_165 ?_
            have fx189 : V139 (ch) = some (.inr (9, [.ref (ch + 1), .int (z67)])) := (o141 (ch) (hq_tne hy4 hy0 (by simp))).trans (ho69)
            have fx190 : V139 (ch + 1) = some (.inl (cs 0, 30, .inl (u68))) := (o141 (ch + 1) (hq_tne hy5 hy0 (by simp))).trans (ho70)
            refine hp_calli (hp_runV (As := [.ref (t), .int (y144), .int (z)]) (rest := [.ref (mk)]) hx hb hml hown hts (x_addP l D cs B G V139 n hP.1 (ch) (30) (t) (30) (y144) (z) (z67) (u68) (((u.take (u.length - F.length)) ++ S)) (z) (f) (u) hy4 hy5 hy7 fx189 fx190 fx154 fx164  hp2 hu (by omega) (by omega) (by decide) (by decide) (by omega) (by omega)) hZ fx189 cv_X6_147 rfl rfl ⟨Nat.le_of_ble_eq_true rfl, Nat.le_of_ble_eq_true rfl⟩ rfl hl.1 rfl (Nat.le_of_ble_eq_true rfl) dX6_sound_168 ⟨(Nat.le_of_ble_eq_true rfl), (Nat.le_of_ble_eq_true rfl)⟩) hZ (fun r194 V191 n192 _ _ hw193 hZ => ?_)
            obtain ⟨rfl, hq195, fr196, z197, u198, ho199, ho200, hp201, hp202⟩ := hw193
            have b203 := hq_rng z197
            have hP := hP.trans hq195 (fun _ h => Bool.noConfusion h)
            have hf204 := hq_rgB hP.1 hy5 ho200
            have b205 := hq_rng r194
            have b206 := hp202
            refine lv_if_eq (tgt := 178) hx hb dX6_sound_171 (by decide) (fun c207 => ?_) (fun c207 => ?_)
            · have c207 : (r194).toInt = (0 : Int) := hq_eqi.mp c207
              rcases hp201 with g9 | g9
              · exfalso; omega
              · exfalso; have g8 := g9.1; rw [List.length_append, htk] at hp21; omega
            · have c207 : ¬ (r194).toInt = (0 : Int) := fun h9 => c207 (hq_eqi.mpr h9)
              have hp3 : sp_rp z197 u198 ((u.take (u.length - F.length)) ++ S ++ (u.drop (y144).toInt.toNat).take (z.toInt - (y144).toInt).toNat) := by rcases hp201 with g9 | g9; (· exact g9.2.2); (· omega)
              rw [List.drop_eq_nil_of_le (by omega), List.take_nil, List.append_nil] at hp3
              have hp31 := hp3.1
              refine lv_iconst (v := 1) hx hb dX6_sound_174 (by decide) ?_
              refine lv_goto (tgt := 179) hx hb dX6_sound_175 (by decide) ?_
              have fx208 : V191 (mk) = some (.inr (6, [.ref (md), .int (1), .ref (mh), .ref (pt), .ref (ch)])) := (fr196 (mk) (hq_tne hy0 hy4 (by simp)) (hq_tne hy0 hy5 (by simp))).trans (e140)
              refine hp_put hx hb hts hown hZ fx208 fp_X6_118 rfl rfl (Nat.le_of_ble_eq_true rfl) dX6_sound_179 (fun V209 _ _ e210 o211 hZ => ?_)
              have e210 : V209 (mk) = some (.inr (6, [.ref (md), .int (1), .ref (mh), .ref (pt), .ref (ch)])) := e210
              have hP := hP.put hy0 e210 o211 (hq_c11 hy1 hy2 hy3 hy4 (show 0 ≤ (1 : Int) by omega) (show (1 : Int) ≤ 1 by omega) (by first | rfl | exact hsh.1 | omega) (by first | rfl | exact hsh.2.1 | omega) (by first | rfl | exact hsh.2.2.1 | omega) (by first | rfl | exact hsh.2.2.2 | omega)) rfl
              refine lv_aload_n hx hb dX6_sound_182 rfl (lv_at hl 6 rfl) ?_
              refine lv_aload_n hx hb dX6_sound_183 rfl (lv_at hl 4 rfl) ?_
              refine hp_get (v := .ref (ch)) hx hb hts hown hZ e210 fl_X6_29 rfl dX6_sound_184 ?_
              have fx212 : V209 (t) = some (.inr (9, [.ref (t + 1), .int (z)])) := (o211 (t) (hq_tne hy6 hy0 (by simp))).trans ((fr196 (t) (by omega) (hq_tne hy6 hy5 (by simp))).trans (fx154))
              have fx213 : V209 (t + 1) = some (.inl (cs 0, 30, .inl (f))) := (o211 (t + 1) (hq_tne hy7 hy0 (by simp))).trans ((fr196 (t + 1) (hq_tne hy7 hy4 (by simp)) (by omega)).trans (fx164))
              have fx214 : V209 (ch) = some (.inr (9, [.ref (ch + 1), .int (z197)])) := (o211 (ch) (hq_tne hy4 hy0 (by simp))).trans (ho199)
              have fx215 : V209 (ch + 1) = some (.inl (cs 0, 30, .inl (u198))) := (o211 (ch + 1) (hq_tne hy5 hy0 (by simp))).trans (ho200)
              refine hp_callv (hp_runV (As := [.ref (ch)]) (rest := []) hx hb hml hown hts (x_set l D cs B G V209 n hP.1 (t) (30) (ch) (30) (z) (f) (z197) (u198) hy6 hy7 hy5 fx212 fx213 fx214 fx215  (by omega) (by decide) (by decide) (by omega) (by omega)) hZ fx212 cv_X6_157 rfl rfl ⟨Nat.le_of_ble_eq_true rfl, Nat.le_of_ble_eq_true rfl⟩ rfl hl.1 rfl (Nat.le_of_ble_eq_true rfl) dX6_sound_187 ⟨(Nat.le_of_ble_eq_true rfl), (Nat.le_of_ble_eq_true rfl)⟩) hZ (fun V216 n217 _ _ hw218 hZ => ?_)
              obtain ⟨rfl, hq220, fr221, z222, u223, ho224, ho225, hp226, hp227⟩ := hw218
              have b228 := hq_rng z222
              have hP := hP.trans hq220 (fun _ h => Bool.noConfusion h)
              have hf229 := hq_rgB hP.1 hy7 ho225
              refine lv_iconst (v := 1) hx hb dX6_sound_190 (by decide) ?_
              have hl230 : (1 : Int32).toInt = 1 := by decide
              have fx231 : V216 (mk) = some (.inr (6, [.ref (md), .int (1), .ref (mh), .ref (pt), .ref (ch)])) := (fr221 (mk) (hq_tne hy0 hy6 (by simp)) (hq_tne hy0 hy7 (by simp))).trans (e210)
              have fx232 : V216 (ch) = some (.inr (9, [.ref (ch + 1), .int (z197)])) := (fr221 (ch) (by omega) (hq_tne hy4 hy7 (by simp))).trans (fx214)
              have fx233 : V216 (ch + 1) = some (.inl (cs 0, 30, .inl (u198))) := (fr221 (ch + 1) (hq_tne hy5 hy6 (by simp)) (by omega)).trans (fx215)
              have hl234 : (1 : Int32).toInt = 1 := by decide
              have hN : (sp_sndl F S u).length = u.length - F.length + S.length := by rw [hcq4, List.length_append, htk]
              exact hp_zret hx hb hr rfl hlocks hZ ⟨rfl, hP, (fun x8 hne0 hne1 hne2 hne3 hne4 => (fr221 x8 hne3 hne4).trans ((o211 x8 hne0).trans ((fr196 x8 hne1 hne2).trans ((o141 x8 hne0).trans ((fr66 x8 hne1 hne2).trans ((fr45 x8 hne1 hne2).trans (fr6 x8 hne1))))))), 1, z222, u223, z197, u198, fx231, ho224, ho225, fx232, fx233, Or.inr (Or.inl ⟨by omega, by omega, (by rw [List.length_append, htk] at hp21; omega), sp_sndl_ne hFS hcq1 hcq3, ⟨by rw [hN]; rw [List.length_append, htk] at hp31; omega, fun k9 x9 hx9 => by rw [hcq4] at hx9; have h9 := (List.getElem?_eq_some_iff.mp hx9).1; rw [hp227 k9 (by omega)]; exact hp3.2 k9 x9 hx9⟩⟩), by omega⟩ dX6_sound_191
          · have c187 : ¬ (r182).toInt = (0 : Int) := fun h9 => c187 (hq_eqi.mpr h9)
            have hFS : F = S := (hF.same hS).mp (hx_D.pos hp185 (by rcases Classical.em ((r182).toInt = 1) with h9 | h9; exact h9; exact absurd (hx_D.neg hp185 h9).1 (by omega)))
            refine lv_iconst (v := 0) hx hb dX6_sound_148 (by decide) ?_
            have hl235 : (0 : Int32).toInt = 0 := by decide
            have fx236 : V139 (ch) = some (.inr (9, [.ref (ch + 1), .int (z67)])) := (o141 (ch) (hq_tne hy4 hy0 (by simp))).trans (ho69)
            have fx237 : V139 (ch + 1) = some (.inl (cs 0, 30, .inl (u68))) := (o141 (ch + 1) (hq_tne hy5 hy0 (by simp))).trans (ho70)
            have hl238 : (1 : Int32).toInt = 1 := by decide
            have hN : (sp_sndl F S u).length = u.length - F.length + S.length := by rw [hcq4, List.length_append, htk]
            have hFl : F.length = S.length := congrArg List.length hFS
            exact hp_zret hx hb hr rfl hlocks hZ ⟨rfl, hP, (fun x8 hne0 hne1 hne2 hne3 hne4 => (o141 x8 hne0).trans ((fr66 x8 hne1 hne2).trans ((fr45 x8 hne1 hne2).trans (fr6 x8 hne1)))), 1, z, f, z67, u68, e140, fx154, fx164, fx236, fx237, Or.inl ⟨by omega, by omega, hu, (by rw [hcq4, ← hFS]; exact sp_sndl_self hcq1 hcq3)⟩, by omega⟩ dX6_sound_149
  · have c36 : (r31).toInt = (-1 : Int) := hq_eqi.mp c36
    have hnu : sp_sndl F S u = u := by rcases hca with g9 | g9; (· exact g9.2); (· omega)
    refine lv_goto (tgt := 130) hx hb dX6_sound_73 (by decide) ?_
    refine lv_iload_n hx hb dX6_sound_130 rfl (lv_at hl 3 rfl) ?_
    refine lv_if_eq (tgt := 148) hx hb dX6_sound_131 (by decide) (fun c239 => ?_) (fun c239 => absurd (by decide) c239)
    refine lv_iconst (v := 0) hx hb dX6_sound_148 (by decide) ?_
    have hl240 : (0 : Int32).toInt = 0 := by decide
    have fx241 : V1 (ch + 1) = some (.inl (cs 0, 30, .inl (cf))) := (fr6 (ch + 1) (hq_tne hy5 hy4 (by simp))).trans (hc5)
    have hl242 : (0 : Int32).toInt = 0 := by decide
    exact hp_zret hx hb hr rfl hlocks hZ ⟨rfl, hP, (fun x8 hne0 hne1 hne2 hne3 hne4 => fr6 x8 hne1), wz, z, f, 0, cf, fx9, fx15, fx26, ho7, fx241, Or.inl ⟨by omega, by omega, hu, hnu⟩, by omega⟩ dX6_sound_149

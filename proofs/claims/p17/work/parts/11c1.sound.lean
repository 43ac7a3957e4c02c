set_option maxHeartbeats 4000000 in
set_option maxRecDepth 100000 in
theorem x_soundN (l : Launch) (D : va_G) (cs : Nat → ClassId) (B : Nat) (G : hq_G) (V : hp_V) (n : Nat) (hI : hq_I cs G V) (mk : Nat) (md : Nat) (mh : Nat) (pt : Nat) (ch : Nat) (la : Nat) (t : Nat) (wz : Int32) (ak : Int32) (ao : Int32) (at9 : Int32) (ap : Int32) (ah : Int32) (aht : Int32) (apa : Int32) (ala : Int32) (z : Int32) (f : Nat → Int32) (cz : Int32) (cf : Nat → Int32) (fz : Int32) (ff : Nat → Int32) (sz : Int32) (sf : Nat → Int32) (u : List Int) (F : List Int) (S : List Int) (hy0 : G (mk) = some (11, 0, 0, 0)) (hy1 : G (md) = some (8, 4, 0, 0)) (hy2 : G (mh) = some (8, 2, 0, 0)) (hy3 : G (pt) = some (8, 2, 0, 0)) (hy4 : G (ch) = some (0, 30, 0, 0)) (hy5 : G (ch + 1) = some (1, 30, 0, 0)) (hy6 : G (t) = some (0, 30, 0, 0)) (hy7 : G (t + 1) = some (1, 30, 0, 0)) (hy8 : G (la + 2) = some (1, 8, 0, 0)) (hy9 : G (la + 4) = some (1, 8, 0, 0)) (hc0 : V (mk) = some (.inr (6, [.ref (md), .int (wz), .ref (mh), .ref (pt), .ref (ch)]))) (hc1 : V (la) = some (.inr (5, [.int (ak), .int (ao), .int (at9), .int (ap), .int (ah), .int (aht), .int (apa), .int (ala), .ref (la + 1), .ref (la + 3)]))) (hc2 : V (t) = some (.inr (9, [.ref (t + 1), .int (z)]))) (hc3 : V (t + 1) = some (.inl (cs 0, 30, .inl (f)))) (hc4 : V (ch) = some (.inr (9, [.ref (ch + 1), .int (cz)]))) (hc5 : V (ch + 1) = some (.inl (cs 0, 30, .inl (cf)))) (hc6 : V (la + 1) = some (.inr (9, [.ref (la + 1 + 1), .int (fz)]))) (hc7 : V (la + 2) = some (.inl (cs 0, 8, .inl (ff)))) (hc8 : V (la + 3) = some (.inr (9, [.ref (la + 3 + 1), .int (sz)]))) (hc9 : V (la + 4) = some (.inl (cs 0, 8, .inl (sf)))) (hu : sp_rp z f u) (hF : sp_rp fz ff F) (hS : sp_rp sz sf S) (hlen : z.toInt ≤ 30 ∧ fz.toInt ≤ 8 ∧ sz.toInt ≤ 8 ∧ (0 ≤ cz.toInt ∧ cz.toInt ≤ 30)) (hn : 0 < F.length) (hw1 : wz.toInt = 1) (hne : (t ≠ ch ∧ t ≠ ch + 1 ∧ t + 1 ≠ ch ∧ t + 1 ≠ ch + 1) ∧ (la + 4 < ch ∨ ch + 1 < la) ∧ (la + 4 < t ∨ t + 1 < la) ∧ (la + 4 < mk ∨ mk < la) ∧ (mk ≠ t ∧ mk ≠ t + 1 ∧ mk ≠ ch ∧ mk ≠ ch + 1)) (hsh : md = mk + 1 ∧ mh = mk + 19 ∧ pt = mk + 29 ∧ ch = mk + 39) (hla : ala.toInt = 0) : hp_M l yX6_sound cX6_sound 7 (some .boolean) ({ frames := 3, cells := 0, slots := 0, locals := 67 }) D cs B V n [.ref (mk), .ref (la), .ref (t)] (hp_QI D cs B (fun r V' n' => n = n' ∧ hq_P cs G (fun _ => true) V V' ∧ (∀ x, x ≠ mk → x ≠ ch → x ≠ ch + 1 → x ≠ t → x ≠ t + 1 → V' x = V x) ∧ (∃ wz1 : Int32, ∃ z1 : Int32, ∃ f1 : Nat → Int32, ∃ cz1 : Int32, ∃ cf1 : Nat → Int32, V' (mk) = some (.inr (6, [.ref (md), .int (wz1), .ref (mh), .ref (pt), .ref (ch)])) ∧ V' (t) = some (.inr (9, [.ref (t + 1), .int (z1)])) ∧ V' (t + 1) = some (.inl (cs 0, 30, .inl (f1))) ∧ V' (ch) = some (.inr (9, [.ref (ch + 1), .int (cz1)])) ∧ V' (ch + 1) = some (.inl (cs 0, 30, .inl (cf1))) ∧ ((r.toInt = 0 ∧ wz1.toInt = 1 ∧ sp_rp z1 f1 u ∧ sp_snd F S u 0 = u) ∨ (r.toInt = 1 ∧ wz1.toInt = 1 ∧ (sp_snd F S u 0).length ≤ 30 ∧ ¬ sp_snd F S u 0 = u ∧ sp_rp z1 f1 (sp_snd F S u 0)) ∨ (r.toInt = 1 ∧ wz1.toInt = 0 ∧ 30 < (sp_snd F S u 0).length)) ∧ ((0 ≤ z1.toInt ∧ z1.toInt ≤ 30) ∧ (0 ≤ cz1.toInt ∧ cz1.toInt ≤ 30))))) 0 0 := by
  refine hp_walk (R0 := RX6) (by decide) rfl ?_ (Nat.le_of_ble_eq_true rfl)
  intro p e s m below meth c ls hx hb hr hts hown hlocks hin hml hZ hl
  have hP : hq_P cs G (fun _ => true) V V := hq_P.rf hI
  have hl : lv_has ls 7 [(0, .ref (mk)), (1, .ref (la)), (2, .ref (t))] := hl
  have hb_wz := hq_rng wz
  have hb_ak := hq_rng ak
  have hb_ao := hq_rng ao
  have hb_at9 := hq_rng at9
  have hb_ap := hq_rng ap
  have hb_ah := hq_rng ah
  have hb_aht := hq_rng aht
  have hb_apa := hq_rng apa
  have hb_ala := hq_rng ala
  have hb_z := hq_rng z
  have hb_cz := hq_rng cz
  have hb_fz := hq_rng fz
  have hb_sz := hq_rng sz
  have hf_3 := hq_rgB hI hy7 hc3
  have hf_5 := hq_rgB hI hy5 hc5
  have hf_7 := hq_rgB hI hy8 hc7
  have hf_9 := hq_rgB hI hy9 hc9
  have hu1 := hu.1
  have hF1 := hF.1
  have hS1 := hS.1
  obtain ⟨hl1, hl2, hl3, hl4, hl5⟩ := hlen
  refine lv_iconst (v := 0) hx hb dX6_sound_0 (by decide) ?_
  refine lv_istore_n (lv' := [(3, .int (0)), (0, .ref (mk)), (1, .ref (la)), (2, .ref (t))]) hx hb dX6_sound_1 rfl hl (by decide) rfl (fun ls hl => ?_)
  refine lv_aload_n hx hb dX6_sound_2 rfl (lv_at hl 1 rfl) ?_
  refine hp_get (v := .ref (ch)) hx hb hts hown hZ hc0 fl_X6_29 rfl dX6_sound_3 ?_
  refine hp_callv (hp_runV (As := []) (rest := []) hx hb hml hown hts (x_clear l D cs B G V n hP.1 (ch) (30) (cz) hy4 hy5 hc4  (by decide)) hZ hc4 cv_X6_133 rfl rfl ⟨Nat.le_of_ble_eq_true rfl, Nat.le_of_ble_eq_true rfl⟩ rfl hl.1 rfl (Nat.le_of_ble_eq_true rfl) dX6_sound_6 ⟨(Nat.le_of_ble_eq_true rfl), (Nat.le_of_ble_eq_true rfl)⟩) hZ (fun V1 n2 _ _ hw3 hZ => ?_)
  obtain ⟨rfl, hq5, fr6, ho7⟩ := hw3
  have hP := hP.trans hq5 (fun _ h => Bool.noConfusion h)
  refine lv_iconst (v := 0) hx hb dX6_sound_9 (by decide) ?_
  refine lv_istore (lv' := [(4, .int (0)), (3, .int (0)), (0, .ref (mk)), (1, .ref (la)), (2, .ref (t))]) hx hb dX6_sound_10 hl (by decide) rfl (fun ls hl => ?_)
  have fx8 : V1 (mk) = some (.inr (6, [.ref (md), .int (wz), .ref (mh), .ref (pt), .ref (ch)])) := (fr6 (mk) (hq_tne hy0 hy4 (by simp))).trans (hc0)
  have fx11 : V1 (ch + 1) = some (.inl (cs 0, 30, .inl (cf))) := (fr6 (ch + 1) (hq_tne hy5 hy4 (by simp))).trans (hc5)
  have fx13 : V1 (t) = some (.inr (9, [.ref (t + 1), .int (z)])) := (fr6 (t) (by omega)).trans (hc2)
  have fx15 : V1 (t + 1) = some (.inl (cs 0, 30, .inl (f))) := (fr6 (t + 1) (hq_tne hy7 hy4 (by simp))).trans (hc3)
  have hl17 : (0 : Int32).toInt = 0 := by decide
  have hl18 : (0 : Int32).toInt = 0 := by decide
  have hl19 : (0 : Int32).toInt = 0 := by decide
  suffices lp12 : ∀ (k9 : Nat) (V9 : hp_V) (H9 : Heap) (locs9 : List Loc) (ls : Array Slot) (fr9 : Int32) (tu9 : Int32) (dw : List Int) (wz9 : Int32) (cz9 : Int32) (cf9 : Nat → Int32), (100 - tu9.toInt).toNat = k9 → hp_Z D cs B s V9 H9 n locs9 → hq_P cs G (fun _ => true) V V9 → V9 (mk) = some (.inr (6, [.ref (md), .int (wz9), .ref (mh), .ref (pt), .ref (ch)])) → V9 (ch) = some (.inr (9, [.ref (ch + 1), .int (cz9)])) → V9 (ch + 1) = some (.inl (cs 0, 30, .inl (cf9))) → V9 (t) = some (.inr (9, [.ref (t + 1), .int (z)])) → V9 (t + 1) = some (.inl (cs 0, 30, .inl (f))) → (∀ x, x ≠ mk → x ≠ ch → x ≠ ch + 1 → x ≠ t → x ≠ t + 1 → V9 x = V x) → 0 ≤ tu9.toInt ∧ tu9.toInt ≤ fr9.toInt → fr9.toInt ≤ (u.length : Int) → 0 ≤ cz9.toInt ∧ cz9.toInt ≤ 30 → (sp_sv F S u dw fr9.toInt wz9 cz9 cf9) → (fr9.toInt = 0 ∨ ¬ sp_fp F (u.drop 0) 0 = -1) → lv_has ls 7 [(4, .int (tu9)), (3, .int (fr9)), (0, .ref (mk)), (1, .ref (la)), (2, .ref (t))] → W p l e ({ frames := 3, cells := 0, slots := 0, locals := 67 }) s m ([.ref (mk), .ref (la), .ref (t)] : List Value).toArray below meth c H9 locs9 0 0 (MQ below (hp_QI D cs B (fun r V' n' => n = n' ∧ hq_P cs G (fun _ => true) V V' ∧ (∀ x, x ≠ mk → x ≠ ch → x ≠ ch + 1 → x ≠ t → x ≠ t + 1 → V' x = V x) ∧ (∃ wz1 : Int32, ∃ z1 : Int32, ∃ f1 : Nat → Int32, ∃ cz1 : Int32, ∃ cf1 : Nat → Int32, V' (mk) = some (.inr (6, [.ref (md), .int (wz1), .ref (mh), .ref (pt), .ref (ch)])) ∧ V' (t) = some (.inr (9, [.ref (t + 1), .int (z1)])) ∧ V' (t + 1) = some (.inl (cs 0, 30, .inl (f1))) ∧ V' (ch) = some (.inr (9, [.ref (ch + 1), .int (cz1)])) ∧ V' (ch + 1) = some (.inl (cs 0, 30, .inl (cf1))) ∧ ((r.toInt = 0 ∧ wz1.toInt = 1 ∧ sp_rp z1 f1 u ∧ sp_snd F S u 0 = u) ∨ (r.toInt = 1 ∧ wz1.toInt = 1 ∧ (sp_snd F S u 0).length ≤ 30 ∧ ¬ sp_snd F S u 0 = u ∧ sp_rp z1 f1 (sp_snd F S u 0)) ∨ (r.toInt = 1 ∧ wz1.toInt = 0 ∧ 30 < (sp_snd F S u 0).length)) ∧ ((0 ≤ z1.toInt ∧ z1.toInt ≤ 30) ∧ (0 ≤ cz1.toInt ∧ cz1.toInt ≤ 30))))) ([.ref (mk), .ref (la), .ref (t)] : List Value).toArray s 0 0 (hp_F B)) (F0 m 12 ls []) from lp12 _ _ _ _ ls (0) (0) ([]) (wz) (0) (cf) rfl hZ hP fx8 ho7 fx11 fx13 fx15 (fun x8 hne0 hne1 hne2 hne3 hne4 => fr6 x8 hne1) (by omega) (by omega) (by omega) (Or.inl ⟨by omega, sp_rp.nil, by rw [List.nil_append]; rfl⟩) (Or.inl rfl) (lv_sub hl [0, 1, 2, 3, 4] rfl)
  intro k9
  induction k9 using Nat.strongRecOn with
  | _ k9 ih12 =>
    intro V9 H9 locs9 ls fr9 tu9 dw wz9 cz9 cf9 hk12 hZ hP ho9 ho10 ho12 ho14 ho16 fr12  hv20 hv21 hv22 hsv hfd hl
    have hb_fr9 := hq_rng fr9
    have hb_tu9 := hq_rng tu9
    have hb_wz9 := hq_rng wz9
    have hb_cz9 := hq_rng cz9
    have hf23 := hq_rgB hP.1 hy5 ho12
    have hf24 := hq_rgB hP.1 hy7 ho16
    refine lv_iload hx hb dX6_sound_12 (lv_at hl 0 rfl) ?_
    refine lv_bipush (v := 30) hx hb dX6_sound_14 (by decide) ?_
    refine lv_icmp_ge (tgt := 130) hx hb dX6_sound_16 (by decide) (fun c25 => ?_) (fun c25 => ?_)
    · have c25 : (30 : Int) ≤ (tu9).toInt := hq_lei.mp c25
      have hse := hsv.full (by omega)
      refine lv_iload_n hx hb dX6_sound_130 rfl (lv_at hl 1 rfl) ?_
      refine lv_if_eq (tgt := 148) hx hb dX6_sound_131 (by decide) (fun c26 => ?_) (fun c26 => ?_)
      · have c26 : (fr9).toInt = (0 : Int) := hq_eqi.mp c26
        refine lv_iconst (v := 0) hx hb dX6_sound_148 (by decide) ?_
        have hl27 : (0 : Int32).toInt = 0 := by decide
        exact hp_zret hx hb hr rfl hlocks hZ ⟨rfl, hP, (fun x8 hne0 hne1 hne2 hne3 hne4 => fr12 x8 hne0 hne1 hne2 hne3 hne4), wz9, z, f, cz9, cf9, ho9, ho14, ho16, ho10, ho12, by omega, by omega⟩ dX6_sound_149
      · have c26 : ¬ (fr9).toInt = (0 : Int) := fun h9 => c26 (hq_eqi.mpr h9)
        refine lv_aload_n hx hb dX6_sound_134 rfl (lv_at hl 3 rfl) ?_
        have fx28 : V9 (la) = some (.inr (5, [.int (ak), .int (ao), .int (at9), .int (ap), .int (ah), .int (aht), .int (apa), .int (ala), .ref (la + 1), .ref (la + 3)])) := (fr12 (la) (by omega) (by omega) (by omega) (by omega) (by omega)).trans (hc1)
        refine hp_get (v := .ref (la + 1)) hx hb hts hown hZ fx28 fl_X6_107 rfl dX6_sound_135 ?_
        refine lv_aload_n hx hb dX6_sound_138 rfl (lv_at hl 3 rfl) ?_
        refine hp_get (v := .ref (la + 3)) hx hb hts hown hZ fx28 fl_X6_151 rfl dX6_sound_139 ?_
        have fx29 : V9 (la + 1) = some (.inr (9, [.ref (la + 1 + 1), .int (fz)])) := (fr12 (la + 1) (by omega) (by omega) (by omega) (by omega) (by omega)).trans (hc6)
        have fx30 : V9 (la + 2) = some (.inl (cs 0, 8, .inl (ff))) := (fr12 (la + 2) (hq_tne hy8 hy0 (by simp)) (hq_tne hy8 hy4 (by simp)) (hq_tne hy8 hy5 (by simp)) (hq_tne hy8 hy6 (by simp)) (hq_tne hy8 hy7 (by simp))).trans (hc7)
        have fx31 : V9 (la + 3) = some (.inr (9, [.ref (la + 3 + 1), .int (sz)])) := (fr12 (la + 3) (by omega) (by omega) (by omega) (by omega) (by omega)).trans (hc8)
        have fx32 : V9 (la + 4) = some (.inl (cs 0, 8, .inl (sf))) := (fr12 (la + 4) (hq_tne hy9 hy0 (by simp)) (hq_tne hy9 hy4 (by simp)) (hq_tne hy9 hy5 (by simp)) (hq_tne hy9 hy6 (by simp)) (hq_tne hy9 hy7 (by simp))).trans (hc9)
        refine hp_calli (hp_runV (As := [.ref (la + 3)]) (rest := []) hx hb hml hown hts (x_same l D cs B G V9 n hP.1 (la + 1) (8) (la + 3) (8) (fz) (ff) (sz) (sf)  fx29 fx30 fx31 fx32  (by omega) (by omega) (by decide) (by decide)) hZ fx29 cv_X6_154 rfl rfl ⟨Nat.le_of_ble_eq_true rfl, Nat.le_of_ble_eq_true rfl⟩ rfl hl.1 rfl (Nat.le_of_ble_eq_true rfl) dX6_sound_142 ⟨(Nat.le_of_ble_eq_true rfl), (Nat.le_of_ble_eq_true rfl)⟩) hZ (fun r36 V33 n34 _ _ hw35 hZ => ?_)
        obtain ⟨rfl, rfl, hp39⟩ := hw35
        have b40 := hq_rng r36
        refine lv_if_eq (tgt := 150) hx hb dX6_sound_145 (by decide) (fun c41 => ?_) (fun c41 => ?_)
        · have c41 : (r36).toInt = (0 : Int) := hq_eqi.mp c41
          have hFS : ¬ F = S := fun g9 => (hx_D.neg hp39 (by omega)).2 ((hF.same hS).mpr g9)
          refine lv_aload_n hx hb dX6_sound_150 rfl (lv_at hl 2 rfl) ?_
          refine lv_aload_n hx hb dX6_sound_151 rfl (lv_at hl 2 rfl) ?_
          refine hp_get (v := .int (wz9)) hx hb hts hown hZ ho9 fl_X6_118 rfl dX6_sound_152 ?_
          refine lv_if_eq (tgt := 178) hx hb dX6_sound_155 (by decide) (fun c42 => ?_) (fun c42 => ?_)
          · have c42 : (wz9).toInt = (0 : Int) := hq_eqi.mp c42
            refine lv_iconst (v := 0) hx hb dX6_sound_178 (by decide) ?_
            refine hp_put hx hb hts hown hZ ho9 fp_X6_118 rfl rfl (Nat.le_of_ble_eq_true rfl) dX6_sound_179 (fun V43 _ _ e44 o45 hZ => ?_)
            have e44 : V43 (mk) = some (.inr (6, [.ref (md), .int (0), .ref (mh), .ref (pt), .ref (ch)])) := e44
            have hP := hP.put hy0 e44 o45 (hq_c11 hy1 hy2 hy3 hy4 (show 0 ≤ (0 : Int) by omega) (show (0 : Int) ≤ 1 by omega) (by first | rfl | exact hsh.1 | omega) (by first | rfl | exact hsh.2.1 | omega) (by first | rfl | exact hsh.2.2.1 | omega) (by first | rfl | exact hsh.2.2.2 | omega)) rfl
            refine lv_aload_n hx hb dX6_sound_182 rfl (lv_at hl 4 rfl) ?_
            refine lv_aload_n hx hb dX6_sound_183 rfl (lv_at hl 2 rfl) ?_
            refine hp_get (v := .ref (ch)) hx hb hts hown hZ e44 fl_X6_29 rfl dX6_sound_184 ?_
            have fx46 : V43 (t) = some (.inr (9, [.ref (t + 1), .int (z)])) := (o45 (t) (hq_tne hy6 hy0 (by simp))).trans (ho14)
            have fx47 : V43 (t + 1) = some (.inl (cs 0, 30, .inl (f))) := (o45 (t + 1) (hq_tne hy7 hy0 (by simp))).trans (ho16)
            have fx48 : V43 (ch) = some (.inr (9, [.ref (ch + 1), .int (cz9)])) := (o45 (ch) (hq_tne hy4 hy0 (by simp))).trans (ho10)
            have fx49 : V43 (ch + 1) = some (.inl (cs 0, 30, .inl (cf9))) := (o45 (ch + 1) (hq_tne hy5 hy0 (by simp))).trans (ho12)
            refine hp_callv (hp_runV (As := [.ref (ch)]) (rest := []) hx hb hml hown hts (x_set l D cs B G V43 n hP.1 (t) (30) (ch) (30) (z) (f) (cz9) (cf9) hy6 hy7 hy5 fx46 fx47 fx48 fx49  (by omega) (by decide) (by decide) (by omega) (by omega)) hZ fx46 cv_X6_157 rfl rfl ⟨Nat.le_of_ble_eq_true rfl, Nat.le_of_ble_eq_true rfl⟩ rfl hl.1 rfl (Nat.le_of_ble_eq_true rfl) dX6_sound_187 ⟨(Nat.le_of_ble_eq_true rfl), (Nat.le_of_ble_eq_true rfl)⟩) hZ (fun V50 n51 _ _ hw52 hZ => ?_)
            obtain ⟨rfl, hq54, fr55, z56, u57, ho58, ho59, hp60, hp61⟩ := hw52
            have b62 := hq_rng z56
            have hP := hP.trans hq54 (fun _ h => Bool.noConfusion h)
            have hf63 := hq_rgB hP.1 hy7 ho59
            refine lv_iconst (v := 1) hx hb dX6_sound_190 (by decide) ?_
            have hl64 : (1 : Int32).toInt = 1 := by decide
            have fx65 : V50 (mk) = some (.inr (6, [.ref (md), .int (0), .ref (mh), .ref (pt), .ref (ch)])) := (fr55 (mk) (hq_tne hy0 hy6 (by simp)) (hq_tne hy0 hy7 (by simp))).trans (e44)
            have fx66 : V50 (ch) = some (.inr (9, [.ref (ch + 1), .int (cz9)])) := (fr55 (ch) (by omega) (hq_tne hy4 hy7 (by simp))).trans (fx48)
            have fx67 : V50 (ch + 1) = some (.inl (cs 0, 30, .inl (cf9))) := (fr55 (ch + 1) (hq_tne hy5 hy6 (by simp)) (by omega)).trans (fx49)
            have hl68 : (0 : Int32).toInt = 0 := by decide
            exact hp_zret hx hb hr rfl hlocks hZ ⟨rfl, hP, (fun x8 hne0 hne1 hne2 hne3 hne4 => (fr55 x8 hne3 hne4).trans ((o45 x8 hne0).trans (fr12 x8 hne0 hne1 hne2 hne3 hne4))), 0, z56, u57, cz9, cf9, fx65, ho58, ho59, fx66, fx67, Or.inr (Or.inr ⟨by omega, by omega, (by rcases hse with ⟨g1, g2, g3⟩ | ⟨g1, g2, g3⟩; (· rw [g3, List.length_append, List.length_drop]; have g4 := g2.1; omega); (· exact g2))⟩), by omega⟩ dX6_sound_191
          · have c42 : ¬ (wz9).toInt = (0 : Int) := fun h9 => c42 (hq_eqi.mpr h9)
            refine lv_aload_n hx hb dX6_sound_158 rfl (lv_at hl 2 rfl) ?_
            refine hp_get (v := .ref (ch)) hx hb hts hown hZ ho9 fl_X6_29 rfl dX6_sound_159 ?_
            refine lv_aload_n hx hb dX6_sound_162 rfl (lv_at hl 4 rfl) ?_
            refine lv_iload_n hx hb dX6_sound_163 rfl (lv_at hl 1 rfl) ?_
            refine lv_aload_n hx hb dX6_sound_164 rfl (lv_at hl 4 rfl) ?_
            refine hp_get (v := .int (z)) hx hb hts hown hZ ho14 fl_X6_132 rfl dX6_sound_165 ?_
            obtain ⟨he1, he2, he3⟩ : wz9.toInt = 1 ∧ sp_rp cz9 cf9 dw ∧ sp_snd F S u 0 = dw ++ u.drop fr9.toInt.toNat := by rcases hse with g9 | g9; (· exact g9); (· omega)
            have hD1 := he2.1
            refine hp_calli (hp_runV (As := [.ref (t), .int (fr9), .int (z)]) (rest := [.ref (mk)]) hx hb hml hown hts (x_addP l D cs B G V9 n hP.1 (ch) (30) (t) (30) (fr9) (z) (cz9) (cf9) (dw) (z) (f) (u) hy4 hy5 hy7 ho10 ho12 ho14 ho16  he2 hu (by omega) (by omega) (by decide) (by decide) (by omega) (by omega)) hZ ho10 cv_X6_147 rfl rfl ⟨Nat.le_of_ble_eq_true rfl, Nat.le_of_ble_eq_true rfl⟩ rfl hl.1 rfl (Nat.le_of_ble_eq_true rfl) dX6_sound_168 ⟨(Nat.le_of_ble_eq_true rfl), (Nat.le_of_ble_eq_true rfl)⟩) hZ (fun r72 V69 n70 _ _ hw71 hZ => ?_)
            obtain ⟨rfl, hq73, fr74, z75, u76, ho77, ho78, hp79, hp80⟩ := hw71
            have b81 := hq_rng z75
            have hP := hP.trans hq73 (fun _ h => Bool.noConfusion h)
            have hf82 := hq_rgB hP.1 hy5 ho78
            have b83 := hq_rng r72
            have b84 := hp80
            refine lv_if_eq (tgt := 178) hx hb dX6_sound_171 (by decide) (fun c85 => ?_) (fun c85 => ?_)
            · have c85 : (r72).toInt = (0 : Int) := hq_eqi.mp c85
              have hov3 : ¬ cz9.toInt + (z.toInt - fr9.toInt) ≤ 30 := by rcases hp79 with g9 | g9; (· omega); (· exact g9.1)
              refine lv_iconst (v := 0) hx hb dX6_sound_178 (by decide) ?_
              have fx86 : V69 (mk) = some (.inr (6, [.ref (md), .int (wz9), .ref (mh), .ref (pt), .ref (ch)])) := (fr74 (mk) (hq_tne hy0 hy4 (by simp)) (hq_tne hy0 hy5 (by simp))).trans (ho9)
              refine hp_put hx hb hts hown hZ fx86 fp_X6_118 rfl rfl (Nat.le_of_ble_eq_true rfl) dX6_sound_179 (fun V87 _ _ e88 o89 hZ => ?_)
              have e88 : V87 (mk) = some (.inr (6, [.ref (md), .int (0), .ref (mh), .ref (pt), .ref (ch)])) := e88
              have hP := hP.put hy0 e88 o89 (hq_c11 hy1 hy2 hy3 hy4 (show 0 ≤ (0 : Int) by omega) (show (0 : Int) ≤ 1 by omega) (by first | rfl | exact hsh.1 | omega) (by first | rfl | exact hsh.2.1 | omega) (by first | rfl | exact hsh.2.2.1 | omega) (by first | rfl | exact hsh.2.2.2 | omega)) rfl
              refine lv_aload_n hx hb dX6_sound_182 rfl (lv_at hl 4 rfl) ?_
              refine lv_aload_n hx hb dX6_sound_183 rfl (lv_at hl 2 rfl) ?_
              refine hp_get (v := .ref (ch)) hx hb hts hown hZ e88 fl_X6_29 rfl dX6_sound_184 ?_
              have fx90 : V87 (t) = some (.inr (9, [.ref (t + 1), .int (z)])) := (o89 (t) (hq_tne hy6 hy0 (by simp))).trans ((fr74 (t) (by omega) (hq_tne hy6 hy5 (by simp))).trans (ho14))
              have fx91 : V87 (t + 1) = some (.inl (cs 0, 30, .inl (f))) := (o89 (t + 1) (hq_tne hy7 hy0 (by simp))).trans ((fr74 (t + 1) (hq_tne hy7 hy4 (by simp)) (by omega)).trans (ho16))
              have fx92 : V87 (ch) = some (.inr (9, [.ref (ch + 1), .int (z75)])) := (o89 (ch) (hq_tne hy4 hy0 (by simp))).trans (ho77)
              have fx93 : V87 (ch + 1) = some (.inl (cs 0, 30, .inl (u76))) := (o89 (ch + 1) (hq_tne hy5 hy0 (by simp))).trans (ho78)
              refine hp_callv (hp_runV (As := [.ref (ch)]) (rest := []) hx hb hml hown hts (x_set l D cs B G V87 n hP.1 (t) (30) (ch) (30) (z) (f) (z75) (u76) hy6 hy7 hy5 fx90 fx91 fx92 fx93  (by omega) (by decide) (by decide) (by omega) (by omega)) hZ fx90 cv_X6_157 rfl rfl ⟨Nat.le_of_ble_eq_true rfl, Nat.le_of_ble_eq_true rfl⟩ rfl hl.1 rfl (Nat.le_of_ble_eq_true rfl) dX6_sound_187 ⟨(Nat.le_of_ble_eq_true rfl), (Nat.le_of_ble_eq_true rfl)⟩) hZ (fun V94 n95 _ _ hw96 hZ => ?_)
              obtain ⟨rfl, hq98, fr99, z100, u101, ho102, ho103, hp104, hp105⟩ := hw96
              have b106 := hq_rng z100
              have hP := hP.trans hq98 (fun _ h => Bool.noConfusion h)
              have hf107 := hq_rgB hP.1 hy7 ho103
              refine lv_iconst (v := 1) hx hb dX6_sound_190 (by decide) ?_
              have hl108 : (1 : Int32).toInt = 1 := by decide
              have fx109 : V94 (mk) = some (.inr (6, [.ref (md), .int (0), .ref (mh), .ref (pt), .ref (ch)])) := (fr99 (mk) (hq_tne hy0 hy6 (by simp)) (hq_tne hy0 hy7 (by simp))).trans (e88)
              have fx110 : V94 (ch) = some (.inr (9, [.ref (ch + 1), .int (z75)])) := (fr99 (ch) (by omega) (hq_tne hy4 hy7 (by simp))).trans (fx92)
              have fx111 : V94 (ch + 1) = some (.inl (cs 0, 30, .inl (u76))) := (fr99 (ch + 1) (hq_tne hy5 hy6 (by simp)) (by omega)).trans (fx93)
              have hl112 : (0 : Int32).toInt = 0 := by decide
              exact hp_zret hx hb hr rfl hlocks hZ ⟨rfl, hP, (fun x8 hne0 hne1 hne2 hne3 hne4 => (fr99 x8 hne3 hne4).trans ((o89 x8 hne0).trans ((fr74 x8 hne1 hne2).trans (fr12 x8 hne0 hne1 hne2 hne3 hne4)))), 0, z100, u101, z75, u76, fx109, ho102, ho103, fx110, fx111, Or.inr (Or.inr ⟨by omega, by omega, (by rcases hse with ⟨g1, g2, g3⟩ | ⟨g1, g2, g3⟩; (· rw [g3, List.length_append, List.length_drop]; have g4 := g2.1; omega); (· exact g2))⟩), by omega⟩ dX6_sound_191
            · have c85 : ¬ (r72).toInt = (0 : Int) := fun h9 => c85 (hq_eqi.mpr h9)
              have hp3 : sp_rp z75 u76 (dw ++ (u.drop fr9.toInt.toNat).take (z.toInt - fr9.toInt).toNat) := by rcases hp79 with g9 | g9; (· exact g9.2.2); (· omega)
              rw [List.take_of_length_le (by rw [List.length_drop]; omega), ← he3] at hp3
              have hp31 := hp3.1
              refine lv_iconst (v := 1) hx hb dX6_sound_174 (by decide) ?_
              refine lv_goto (tgt := 179) hx hb dX6_sound_175 (by decide) ?_
              have fx113 : V69 (mk) = some (.inr (6, [.ref (md), .int (wz9), .ref (mh), .ref (pt), .ref (ch)])) := (fr74 (mk) (hq_tne hy0 hy4 (by simp)) (hq_tne hy0 hy5 (by simp))).trans (ho9)
              refine hp_put hx hb hts hown hZ fx113 fp_X6_118 rfl rfl (Nat.le_of_ble_eq_true rfl) dX6_sound_179 (fun V114 _ _ e115 o116 hZ => ?_)
              have e115 : V114 (mk) = some (.inr (6, [.ref (md), .int (1), .ref (mh), .ref (pt), .ref (ch)])) := e115
              have hP := hP.put hy0 e115 o116 (hq_c11 hy1 hy2 hy3 hy4 (show 0 ≤ (1 : Int) by omega) (show (1 : Int) ≤ 1 by omega) (by first | rfl | exact hsh.1 | omega) (by first | rfl | exact hsh.2.1 | omega) (by first | rfl | exact hsh.2.2.1 | omega) (by first | rfl | exact hsh.2.2.2 | omega)) rfl
              refine lv_aload_n hx hb dX6_sound_182 rfl (lv_at hl 4 rfl) ?_
              refine lv_aload_n hx hb dX6_sound_183 rfl (lv_at hl 2 rfl) ?_
              refine hp_get (v := .ref (ch)) hx hb hts hown hZ e115 fl_X6_29 rfl dX6_sound_184 ?_
              have fx117 : V114 (t) = some (.inr (9, [.ref (t + 1), .int (z)])) := (o116 (t) (hq_tne hy6 hy0 (by simp))).trans ((fr74 (t) (by omega) (hq_tne hy6 hy5 (by simp))).trans (ho14))
              have fx118 : V114 (t + 1) = some (.inl (cs 0, 30, .inl (f))) := (o116 (t + 1) (hq_tne hy7 hy0 (by simp))).trans ((fr74 (t + 1) (hq_tne hy7 hy4 (by simp)) (by omega)).trans (ho16))
              have fx119 : V114 (ch) = some (.inr (9, [.ref (ch + 1), .int (z75)])) := (o116 (ch) (hq_tne hy4 hy0 (by simp))).trans (ho77)
              have fx120 : V114 (ch + 1) = some (.inl (cs 0, 30, .inl (u76))) := (o116 (ch + 1) (hq_tne hy5 hy0 (by simp))).trans (ho78)
              refine hp_callv (hp_runV (As := [.ref (ch)]) (rest := []) hx hb hml hown hts (x_set l D cs B G V114 n hP.1 (t) (30) (ch) (30) (z) (f) (z75) (u76) hy6 hy7 hy5 fx117 fx118 fx119 fx120  (by omega) (by decide) (by decide) (by omega) (by omega)) hZ fx117 cv_X6_157 rfl rfl ⟨Nat.le_of_ble_eq_true rfl, Nat.le_of_ble_eq_true rfl⟩ rfl hl.1 rfl (Nat.le_of_ble_eq_true rfl) dX6_sound_187 ⟨(Nat.le_of_ble_eq_true rfl), (Nat.le_of_ble_eq_true rfl)⟩) hZ (fun V121 n122 _ _ hw123 hZ => ?_)
              obtain ⟨rfl, hq125, fr126, z127, u128, ho129, ho130, hp131, hp132⟩ := hw123
              have b133 := hq_rng z127
              have hP := hP.trans hq125 (fun _ h => Bool.noConfusion h)
              have hf134 := hq_rgB hP.1 hy7 ho130
              refine lv_iconst (v := 1) hx hb dX6_sound_190 (by decide) ?_
              have hl135 : (1 : Int32).toInt = 1 := by decide
              have fx136 : V121 (mk) = some (.inr (6, [.ref (md), .int (1), .ref (mh), .ref (pt), .ref (ch)])) := (fr126 (mk) (hq_tne hy0 hy6 (by simp)) (hq_tne hy0 hy7 (by simp))).trans (e115)
              have fx137 : V121 (ch) = some (.inr (9, [.ref (ch + 1), .int (z75)])) := (fr126 (ch) (by omega) (hq_tne hy4 hy7 (by simp))).trans (fx119)
              have fx138 : V121 (ch + 1) = some (.inl (cs 0, 30, .inl (u76))) := (fr126 (ch + 1) (hq_tne hy5 hy6 (by simp)) (by omega)).trans (fx120)
              have hl139 : (1 : Int32).toInt = 1 := by decide
              exact hp_zret hx hb hr rfl hlocks hZ ⟨rfl, hP, (fun x8 hne0 hne1 hne2 hne3 hne4 => (fr126 x8 hne3 hne4).trans ((o116 x8 hne0).trans ((fr74 x8 hne1 hne2).trans (fr12 x8 hne0 hne1 hne2 hne3 hne4)))), 1, z127, u128, z75, u76, fx136, ho129, ho130, fx137, fx138, Or.inr (Or.inl ⟨by omega, by omega, by omega, sp_snd_ne hn hFS (by rcases hfd with g9 | g9; (· omega); (· exact g9)), ⟨by omega, fun k9 x9 hx9 => by have h9 := (List.getElem?_eq_some_iff.mp hx9).1; rw [hp132 k9 (by omega)]; exact hp3.2 k9 x9 hx9⟩⟩), by omega⟩ dX6_sound_191
        · have c41 : ¬ (r36).toInt = (0 : Int) := fun h9 => c41 (hq_eqi.mpr h9)
          have hFS : F = S := (hF.same hS).mp (hx_D.pos hp39 (by rcases Classical.em ((r36).toInt = 1) with h9 | h9; exact h9; exact absurd (hx_D.neg hp39 h9).1 (by omega)))
          refine lv_iconst (v := 0) hx hb dX6_sound_148 (by decide) ?_
          have hl140 : (0 : Int32).toInt = 0 := by decide
          exact hp_zret hx hb hr rfl hlocks hZ ⟨rfl, hP, (fun x8 hne0 hne1 hne2 hne3 hne4 => fr12 x8 hne0 hne1 hne2 hne3 hne4), wz9, z, f, cz9, cf9, ho9, ho14, ho16, ho10, ho12, Or.inl ⟨by omega, (by have h9 : sp_snd F S u 0 = u := (by rw [← hFS]; exact sp_snd_self hn u 0); rcases hse with g9 | g9; (· exact g9.1); (· have h8 := g9.2.1; rw [h9] at h8; omega)), hu, (by rw [← hFS]; exact sp_snd_self hn u 0)⟩, by omega⟩ dX6_sound_149
    · have c25 : ¬ (30 : Int) ≤ (tu9).toInt := fun h9 => c25 (hq_lei.mpr h9)
      refine lv_aload_n hx hb dX6_sound_19 rfl (lv_at hl 2 rfl) ?_
      refine hp_get (v := .int (wz9)) hx hb hts hown hZ ho9 fl_X6_118 rfl dX6_sound_20 ?_
      refine lv_if_eq (tgt := 130) hx hb dX6_sound_23 (by decide) (fun c141 => ?_) (fun c141 => ?_)
      · have c141 : (wz9).toInt = (0 : Int) := hq_eqi.mp c141
        have hse := hsv.bad (by omega)
        refine lv_iload_n hx hb dX6_sound_130 rfl (lv_at hl 1 rfl) ?_
        refine lv_if_eq (tgt := 148) hx hb dX6_sound_131 (by decide) (fun c142 => ?_) (fun c142 => ?_)
        · have c142 : (fr9).toInt = (0 : Int) := hq_eqi.mp c142
          refine lv_iconst (v := 0) hx hb dX6_sound_148 (by decide) ?_
          have hl143 : (0 : Int32).toInt = 0 := by decide
          exact hp_zret hx hb hr rfl hlocks hZ ⟨rfl, hP, (fun x8 hne0 hne1 hne2 hne3 hne4 => fr12 x8 hne0 hne1 hne2 hne3 hne4), wz9, z, f, cz9, cf9, ho9, ho14, ho16, ho10, ho12, (by exfalso; rcases hse with g9 | g9; (· have g8 := g9.1; omega); (· have g8 := g9.2.2; omega)), by omega⟩ dX6_sound_149
        · have c142 : ¬ (fr9).toInt = (0 : Int) := fun h9 => c142 (hq_eqi.mpr h9)
          refine lv_aload_n hx hb dX6_sound_134 rfl (lv_at hl 3 rfl) ?_
          have fx144 : V9 (la) = some (.inr (5, [.int (ak), .int (ao), .int (at9), .int (ap), .int (ah), .int (aht), .int (apa), .int (ala), .ref (la + 1), .ref (la + 3)])) := (fr12 (la) (by omega) (by omega) (by omega) (by omega) (by omega)).trans (hc1)
          refine hp_get (v := .ref (la + 1)) hx hb hts hown hZ fx144 fl_X6_107 rfl dX6_sound_135 ?_
          refine lv_aload_n hx hb dX6_sound_138 rfl (lv_at hl 3 rfl) ?_
          refine hp_get (v := .ref (la + 3)) hx hb hts hown hZ fx144 fl_X6_151 rfl dX6_sound_139 ?_
          have fx145 : V9 (la + 1) = some (.inr (9, [.ref (la + 1 + 1), .int (fz)])) := (fr12 (la + 1) (by omega) (by omega) (by omega) (by omega) (by omega)).trans (hc6)
          have fx146 : V9 (la + 2) = some (.inl (cs 0, 8, .inl (ff))) := (fr12 (la + 2) (hq_tne hy8 hy0 (by simp)) (hq_tne hy8 hy4 (by simp)) (hq_tne hy8 hy5 (by simp)) (hq_tne hy8 hy6 (by simp)) (hq_tne hy8 hy7 (by simp))).trans (hc7)
          have fx147 : V9 (la + 3) = some (.inr (9, [.ref (la + 3 + 1), .int (sz)])) := (fr12 (la + 3) (by omega) (by omega) (by omega) (by omega) (by omega)).trans (hc8)
          have fx148 : V9 (la + 4) = some (.inl (cs 0, 8, .inl (sf))) := (fr12 (la + 4) (hq_tne hy9 hy0 (by simp)) (hq_tne hy9 hy4 (by simp)) (hq_tne hy9 hy5 (by simp)) (hq_tne hy9 hy6 (by simp)) (hq_tne hy9 hy7 (by simp))).trans (hc9)
          refine hp_calli (hp_runV (As := [.ref (la + 3)]) (rest := []) hx hb hml hown hts (x_same l D cs B G V9 n hP.1 (la + 1) (8) (la + 3) (8) (fz) (ff) (sz) (sf)  fx145 fx146 fx147 fx148  (by omega) (by omega) (by decide) (by decide)) hZ fx145 cv_X6_154 rfl rfl ⟨Nat.le_of_ble_eq_true rfl, Nat.le_of_ble_eq_true rfl⟩ rfl hl.1 rfl (Nat.le_of_ble_eq_true rfl) dX6_sound_142 ⟨(Nat.le_of_ble_eq_true rfl), (Nat.le_of_ble_eq_true rfl)⟩) hZ (fun r152 V149 n150 _ _ hw151 hZ => ?_)
          obtain ⟨rfl, rfl, hp155⟩ := hw151
          have b156 := hq_rng r152
          refine lv_if_eq (tgt := 150) hx hb dX6_sound_145 (by decide) (fun c157 => ?_) (fun c157 => ?_)
          · have c157 : (r152).toInt = (0 : Int) := hq_eqi.mp c157
            have hFS : ¬ F = S := fun g9 => (hx_D.neg hp155 (by omega)).2 ((hF.same hS).mpr g9)
            refine lv_aload_n hx hb dX6_sound_150 rfl (lv_at hl 2 rfl) ?_
            refine lv_aload_n hx hb dX6_sound_151 rfl (lv_at hl 2 rfl) ?_
            refine hp_get (v := .int (wz9)) hx hb hts hown hZ ho9 fl_X6_118 rfl dX6_sound_152 ?_
            have hl158 : (0 : Int32).toInt = 0 := by decide
            refine lv_if_eq (tgt := 178) hx hb dX6_sound_155 (by decide) (fun c159 => ?_) (fun c159 => absurd ((Int32.toInt_inj.mp (by omega) : wz9 = 0)) c159)
            refine lv_iconst (v := 0) hx hb dX6_sound_178 (by decide) ?_
            refine hp_put hx hb hts hown hZ ho9 fp_X6_118 rfl rfl (Nat.le_of_ble_eq_true rfl) dX6_sound_179 (fun V160 _ _ e161 o162 hZ => ?_)
            have e161 : V160 (mk) = some (.inr (6, [.ref (md), .int (0), .ref (mh), .ref (pt), .ref (ch)])) := e161
            have hP := hP.put hy0 e161 o162 (hq_c11 hy1 hy2 hy3 hy4 (show 0 ≤ (0 : Int) by omega) (show (0 : Int) ≤ 1 by omega) (by first | rfl | exact hsh.1 | omega) (by first | rfl | exact hsh.2.1 | omega) (by first | rfl | exact hsh.2.2.1 | omega) (by first | rfl | exact hsh.2.2.2 | omega)) rfl
            refine lv_aload_n hx hb dX6_sound_182 rfl (lv_at hl 4 rfl) ?_
            refine lv_aload_n hx hb dX6_sound_183 rfl (lv_at hl 2 rfl) ?_
            refine hp_get (v := .ref (ch)) hx hb hts hown hZ e161 fl_X6_29 rfl dX6_sound_184 ?_
            have fx163 : V160 (t) = some (.inr (9, [.ref (t + 1), .int (z)])) := (o162 (t) (hq_tne hy6 hy0 (by simp))).trans (ho14)
            have fx164 : V160 (t + 1) = some (.inl (cs 0, 30, .inl (f))) := (o162 (t + 1) (hq_tne hy7 hy0 (by simp))).trans (ho16)
            have fx165 : V160 (ch) = some (.inr (9, [.ref (ch + 1), .int (cz9)])) := (o162 (ch) (hq_tne hy4 hy0 (by simp))).trans (ho10)
            have fx166 : V160 (ch + 1) = some (.inl (cs 0, 30, .inl (cf9))) := (o162 (ch + 1) (hq_tne hy5 hy0 (by simp))).trans (ho12)
            refine hp_callv (hp_runV (As := [.ref (ch)]) (rest := []) hx hb hml hown hts (x_set l D cs B G V160 n hP.1 (t) (30) (ch) (30) (z) (f) (cz9) (cf9) hy6 hy7 hy5 fx163 fx164 fx165 fx166  (by omega) (by decide) (by decide) (by omega) (by omega)) hZ fx163 cv_X6_157 rfl rfl ⟨Nat.le_of_ble_eq_true rfl, Nat.le_of_ble_eq_true rfl⟩ rfl hl.1 rfl (Nat.le_of_ble_eq_true rfl) dX6_sound_187 ⟨(Nat.le_of_ble_eq_true rfl), (Nat.le_of_ble_eq_true rfl)⟩) hZ (fun V167 n168 _ _ hw169 hZ => ?_)
            obtain ⟨rfl, hq171, fr172, z173, u174, ho175, ho176, hp177, hp178⟩ := hw169
            have b179 := hq_rng z173
            have hP := hP.trans hq171 (fun _ h => Bool.noConfusion h)
            have hf180 := hq_rgB hP.1 hy7 ho176
            refine lv_iconst (v := 1) hx hb dX6_sound_190 (by decide) ?_
            have hl181 : (1 : Int32).toInt = 1 := by decide
            have fx182 : V167 (mk) = some (.inr (6, [.ref (md), .int (0), .ref (mh), .ref (pt), .ref (ch)])) := (fr172 (mk) (hq_tne hy0 hy6 (by simp)) (hq_tne hy0 hy7 (by simp))).trans (e161)
            have fx183 : V167 (ch) = some (.inr (9, [.ref (ch + 1), .int (cz9)])) := (fr172 (ch) (by omega) (hq_tne hy4 hy7 (by simp))).trans (fx165)
            have fx184 : V167 (ch + 1) = some (.inl (cs 0, 30, .inl (cf9))) := (fr172 (ch + 1) (hq_tne hy5 hy6 (by simp)) (by omega)).trans (fx166)
            have hl185 : (0 : Int32).toInt = 0 := by decide
            exact hp_zret hx hb hr rfl hlocks hZ ⟨rfl, hP, (fun x8 hne0 hne1 hne2 hne3 hne4 => (fr172 x8 hne3 hne4).trans ((o162 x8 hne0).trans (fr12 x8 hne0 hne1 hne2 hne3 hne4))), 0, z173, u174, cz9, cf9, fx182, ho175, ho176, fx183, fx184, Or.inr (Or.inr ⟨by omega, by omega, (by rcases hse with ⟨g1, g2, g3⟩ | ⟨g1, g2, g3⟩; (· rw [g3, List.length_append, List.length_drop]; have g4 := g2.1; omega); (· exact g2))⟩), by omega⟩ dX6_sound_191
          · have c157 : ¬ (r152).toInt = (0 : Int) := fun h9 => c157 (hq_eqi.mpr h9)
            have hFS : F = S := (hF.same hS).mp (hx_D.pos hp155 (by rcases Classical.em ((r152).toInt = 1) with h9 | h9; exact h9; exact absurd (hx_D.neg hp155 h9).1 (by omega)))
            refine lv_iconst (v := 0) hx hb dX6_sound_148 (by decide) ?_
            have hl186 : (0 : Int32).toInt = 0 := by decide
            exact hp_zret hx hb hr rfl hlocks hZ ⟨rfl, hP, (fun x8 hne0 hne1 hne2 hne3 hne4 => fr12 x8 hne0 hne1 hne2 hne3 hne4), wz9, z, f, cz9, cf9, ho9, ho14, ho16, ho10, ho12, Or.inl ⟨by omega, (by have h9 : sp_snd F S u 0 = u := (by rw [← hFS]; exact sp_snd_self hn u 0); rcases hse with g9 | g9; (· exact g9.1); (· have h8 := g9.2.1; rw [h9] at h8; omega)), hu, (by rw [← hFS]; exact sp_snd_self hn u 0)⟩, by omega⟩ dX6_sound_149
      · have c141 : ¬ (wz9).toInt = (0 : Int) := fun h9 => c141 (hq_eqi.mpr h9)
        obtain ⟨hv1, hv2, hv3⟩ : wz9.toInt = 1 ∧ sp_rp cz9 cf9 dw ∧ sp_snd F S u 0 = dw ++ sp_snd F S (u.drop fr9.toInt.toNat) 0 := by rcases hsv with g9 | g9; (· exact g9); (· omega)
        have hD1 := hv2.1
        refine lv_aload_n hx hb dX6_sound_26 rfl (lv_at hl 3 rfl) ?_
        have fx187 : V9 (la) = some (.inr (5, [.int (ak), .int (ao), .int (at9), .int (ap), .int (ah), .int (aht), .int (apa), .int (ala), .ref (la + 1), .ref (la + 3)])) := (fr12 (la) (by omega) (by omega) (by omega) (by omega) (by omega)).trans (hc1)
        refine hp_get (v := .int (ala)) hx hb hts hown hZ fx187 fl_X6_134 rfl dX6_sound_27 ?_
        have hl188 : (0 : Int32).toInt = 0 := by decide
        refine lv_if_eq (tgt := 52) hx hb dX6_sound_30 (by decide) (fun c189 => ?_) (fun c189 => absurd ((Int32.toInt_inj.mp (by omega) : ala = 0)) c189)
        refine lv_iload_n hx hb dX6_sound_52 rfl (lv_at hl 1 rfl) ?_
        refine lv_istore (lv' := [(5, .int (fr9)), (4, .int (tu9)), (3, .int (fr9)), (0, .ref (mk)), (1, .ref (la)), (2, .ref (t))]) hx hb dX6_sound_53 hl (by decide) rfl (fun ls hl => ?_)
        refine lv_aload_n hx hb dX6_sound_55 rfl (lv_at hl 5 rfl) ?_
        refine lv_aload_n hx hb dX6_sound_56 rfl (lv_at hl 4 rfl) ?_
        refine hp_get (v := .ref (la + 1)) hx hb hts hown hZ fx187 fl_X6_107 rfl dX6_sound_57 ?_
        refine lv_iload hx hb dX6_sound_60 (lv_at hl 0 rfl) ?_
        have fx190 : V9 (la + 1) = some (.inr (9, [.ref (la + 1 + 1), .int (fz)])) := (fr12 (la + 1) (by omega) (by omega) (by omega) (by omega) (by omega)).trans (hc6)
        have fx191 : V9 (la + 2) = some (.inl (cs 0, 8, .inl (ff))) := (fr12 (la + 2) (hq_tne hy8 hy0 (by simp)) (hq_tne hy8 hy4 (by simp)) (hq_tne hy8 hy5 (by simp)) (hq_tne hy8 hy6 (by simp)) (hq_tne hy8 hy7 (by simp))).trans (hc7)
        refine hp_calli (hp_runV (As := [.ref (la + 1), .int (fr9)]) (rest := []) hx hb hml hown hts (x_fp l D cs B G V9 n hP.1 (t) (30) (la + 1) (8) (fr9) (z) (f) (u) (fz) (ff) (F)  ho14 ho16 fx190 fx191  hu hF (by omega) (by omega) (by decide) (by decide) (by omega) hn) hZ ho14 cv_X6_143 rfl rfl ⟨Nat.le_of_ble_eq_true rfl, Nat.le_of_ble_eq_true rfl⟩ rfl hl.1 rfl (Nat.le_of_ble_eq_true rfl) dX6_sound_62 ⟨(Nat.le_of_ble_eq_true rfl), (Nat.le_of_ble_eq_true rfl)⟩) hZ (fun r195 V192 n193 _ _ hw194 hZ => ?_)
        obtain ⟨rfl, rfl, hp198⟩ := hw194
        have b199 := hq_rng r195
        refine lv_istore (lv' := [(6, .int (r195)), (5, .int (fr9)), (4, .int (tu9)), (3, .int (fr9)), (0, .ref (mk)), (1, .ref (la)), (2, .ref (t))]) hx hb dX6_sound_65 hl (by decide) rfl (fun ls hl => ?_)
        refine lv_iload hx hb dX6_sound_67 (lv_at hl 0 rfl) ?_
        refine lv_iconst (v := -1) hx hb dX6_sound_69 (by decide) ?_
        refine lv_icmp_ne (tgt := 76) hx hb dX6_sound_70 (by decide) (fun c200 => ?_) (fun c200 => ?_)
        · have c200 : ¬ (r195).toInt = (-1 : Int) := fun h9 => c200 (hq_eqi.mpr h9)
          refine lv_aload_n hx hb dX6_sound_76 rfl (lv_at hl 4 rfl) ?_
          refine lv_aload_n hx hb dX6_sound_77 rfl (lv_at hl 4 rfl) ?_
          refine hp_get (v := .ref (ch)) hx hb hts hown hZ ho9 fl_X6_29 rfl dX6_sound_78 ?_
          refine lv_aload_n hx hb dX6_sound_81 rfl (lv_at hl 6 rfl) ?_
          refine lv_iload_n hx hb dX6_sound_82 rfl (lv_at hl 3 rfl) ?_
          refine lv_iload hx hb dX6_sound_83 (lv_at hl 0 rfl) ?_
          have hat9 : fr9.toInt ≤ (r195).toInt ∧ (r195).toInt + (F.length : Int) ≤ (u.length : Int) := sp_fp_in hn (by omega) hp198.symm (by omega)
          refine hp_calli (hp_runV (As := [.ref (t), .int (fr9), .int (r195)]) (rest := [.ref (mk)]) hx hb hml hown hts (x_addP l D cs B G V9 n hP.1 (ch) (30) (t) (30) (fr9) (r195) (cz9) (cf9) (dw) (z) (f) (u) hy4 hy5 hy7 ho10 ho12 ho14 ho16  hv2 hu (by omega) (by omega) (by decide) (by decide) (by omega) (by omega)) hZ ho10 cv_X6_147 rfl rfl ⟨Nat.le_of_ble_eq_true rfl, Nat.le_of_ble_eq_true rfl⟩ rfl hl.1 rfl (Nat.le_of_ble_eq_true rfl) dX6_sound_85 ⟨(Nat.le_of_ble_eq_true rfl), (Nat.le_of_ble_eq_true rfl)⟩) hZ (fun r204 V201 n202 _ _ hw203 hZ => ?_)
          obtain ⟨rfl, hq205, fr206, z207, u208, ho209, ho210, hp211, hp212⟩ := hw203
          have b213 := hq_rng z207
          have hP := hP.trans hq205 (fun _ h => Bool.noConfusion h)
          have hf214 := hq_rgB hP.1 hy5 ho210
          have b215 := hq_rng r204
          have b216 := hp212
          refine lv_if_eq (tgt := 109) hx hb dX6_sound_88 (by decide) (fun c217 => ?_) (fun c217 => ?_)
          · have c217 : (r204).toInt = (0 : Int) := hq_eqi.mp c217
            have hov : ¬ cz9.toInt + ((r195).toInt - fr9.toInt) ≤ 30 := by rcases hp211 with g9 | g9; (· omega); (· exact g9.1)
            refine lv_iconst (v := 0) hx hb dX6_sound_109 (by decide) ?_
            have fx218 : V201 (mk) = some (.inr (6, [.ref (md), .int (wz9), .ref (mh), .ref (pt), .ref (ch)])) := (fr206 (mk) (hq_tne hy0 hy4 (by simp)) (hq_tne hy0 hy5 (by simp))).trans (ho9)
            refine hp_put hx hb hts hown hZ fx218 fp_X6_118 rfl rfl (Nat.le_of_ble_eq_true rfl) dX6_sound_110 (fun V219 _ _ e220 o221 hZ => ?_)
            have e220 : V219 (mk) = some (.inr (6, [.ref (md), .int (0), .ref (mh), .ref (pt), .ref (ch)])) := e220
            have hP := hP.put hy0 e220 o221 (hq_c11 hy1 hy2 hy3 hy4 (show 0 ≤ (0 : Int) by omega) (show (0 : Int) ≤ 1 by omega) (by first | rfl | exact hsh.1 | omega) (by first | rfl | exact hsh.2.1 | omega) (by first | rfl | exact hsh.2.2.1 | omega) (by first | rfl | exact hsh.2.2.2 | omega)) rfl
            refine lv_iload hx hb dX6_sound_113 (lv_at hl 0 rfl) ?_
            refine lv_aload_n hx hb dX6_sound_115 rfl (lv_at hl 5 rfl) ?_
            have fx222 : V219 (la) = some (.inr (5, [.int (ak), .int (ao), .int (at9), .int (ap), .int (ah), .int (aht), .int (apa), .int (ala), .ref (la + 1), .ref (la + 3)])) := (o221 (la) (by omega)).trans ((fr206 (la) (by omega) (by omega)).trans (fx187))
            refine hp_get (v := .ref (la + 1)) hx hb hts hown hZ fx222 fl_X6_107 rfl dX6_sound_116 ?_
            have fx223 : V219 (la + 1) = some (.inr (9, [.ref (la + 1 + 1), .int (fz)])) := (o221 (la + 1) (by omega)).trans ((fr206 (la + 1) (by omega) (by omega)).trans (fx190))
            refine hp_get (v := .int (fz)) hx hb hts hown hZ fx223 fl_X6_132 rfl dX6_sound_119 ?_
            refine lv_iadd hx hb dX6_sound_122 ?_
            refine lv_topi (fun y224 ey225 => ?_)
            obtain ⟨k226, hk227, b228, b229⟩ := hq_add (r195) (fz)
            rw [← ey225] at hk227 b228 b229
            have hk227 : (y224).toInt = (r195).toInt + (fz).toInt + k226 * 4294967296 := hk227
            obtain rfl : k226 = 0 := by omega
            refine lv_istore_n (lv' := [(3, .int (y224)), (6, .int (r195)), (5, .int (fr9)), (4, .int (tu9)), (0, .ref (mk)), (1, .ref (la)), (2, .ref (t))]) hx hb dX6_sound_123 rfl hl (by decide) rfl (fun ls hl => ?_)
            obtain ⟨y230, ey231⟩ : ∃ y : Int32, y = tu9 + (1) := ⟨_, rfl⟩
            obtain ⟨k232, hk233, b234, b235⟩ := hq_add (tu9) (1)
            rw [← ey231] at hk233 b234 b235
            have hk233 : (y230).toInt = (tu9).toInt + (1) + k232 * 4294967296 := hk233
            obtain rfl : k232 = 0 := by omega
            refine lv_iinc (v := y230) (lv' := [(4, .int (y230)), (3, .int (y224)), (6, .int (r195)), (5, .int (fr9)), (0, .ref (mk)), (1, .ref (la)), (2, .ref (t))]) hx hb dX6_sound_124 hl (k := 3) rfl (by rw [ey231]; rfl) (by decide) rfl (fun ls hl => ?_)
            refine lv_goto (tgt := 12) hx hb dX6_sound_127 (by decide) ?_
            have hl236 : (0 : Int32).toInt = 0 := by decide
            have fx237 : V219 (ch) = some (.inr (9, [.ref (ch + 1), .int (z207)])) := (o221 (ch) (hq_tne hy4 hy0 (by simp))).trans (ho209)
            have fx238 : V219 (ch + 1) = some (.inl (cs 0, 30, .inl (u208))) := (o221 (ch + 1) (hq_tne hy5 hy0 (by simp))).trans (ho210)
            have fx239 : V219 (t) = some (.inr (9, [.ref (t + 1), .int (z)])) := (o221 (t) (hq_tne hy6 hy0 (by simp))).trans ((fr206 (t) (by omega) (hq_tne hy6 hy5 (by simp))).trans (ho14))
            have fx240 : V219 (t + 1) = some (.inl (cs 0, 30, .inl (f))) := (o221 (t + 1) (hq_tne hy7 hy0 (by simp))).trans ((fr206 (t + 1) (hq_tne hy7 hy4 (by simp)) (by omega)).trans (ho16))
            exact ih12 _ (by omega) _ _ _ ls (y224) (y230) ([]) (0) (z207) (u208) rfl hZ hP e220 fx237 fx238 fx239 fx240 (fun x8 hne0 hne1 hne2 hne3 hne4 => (o221 x8 hne0).trans ((fr206 x8 hne1 hne2).trans (fr12 x8 hne0 hne1 hne2 hne3 hne4))) (by omega) (by omega) (by omega) (by have h9 := (hsv.over (at_ := (r195).toInt) (wz2 := 0) (cz2 := z207) (cf2 := u208) (D2 := []) hv1 hn (by omega) hp198.symm (by omega) (by decide) (by omega)).1; rwa [show (r195).toInt + (F.length : Int) = (y224).toInt by omega] at h9) (Or.inr (by rcases hfd with g9 | g9; (· intro g8; have h9 := hp198; rw [g9, Int.toNat_zero] at h9; omega); (· exact g9))) (lv_sub hl [0, 1, 4, 5, 6] rfl)
          · have c217 : ¬ (r204).toInt = (0 : Int) := fun h9 => c217 (hq_eqi.mpr h9)
            have hp1 : sp_rp z207 u208 (dw ++ (u.drop fr9.toInt.toNat).take ((r195).toInt - fr9.toInt).toNat) := by rcases hp211 with g9 | g9; (· exact g9.2.2); (· omega)
            have hp11 := hp1.1
            have hp12 : (dw ++ (u.drop fr9.toInt.toNat).take ((r195).toInt - fr9.toInt).toNat).length = dw.length + ((r195).toInt - fr9.toInt).toNat := by rw [List.length_append, List.length_take, List.length_drop]; omega
            refine lv_aload_n hx hb dX6_sound_91 rfl (lv_at hl 4 rfl) ?_
            have fx241 : V201 (mk) = some (.inr (6, [.ref (md), .int (wz9), .ref (mh), .ref (pt), .ref (ch)])) := (fr206 (mk) (hq_tne hy0 hy4 (by simp)) (hq_tne hy0 hy5 (by simp))).trans (ho9)
            refine hp_get (v := .ref (ch)) hx hb hts hown hZ fx241 fl_X6_29 rfl dX6_sound_92 ?_
            refine lv_aload_n hx hb dX6_sound_95 rfl (lv_at hl 5 rfl) ?_
            have fx242 : V201 (la) = some (.inr (5, [.int (ak), .int (ao), .int (at9), .int (ap), .int (ah), .int (aht), .int (apa), .int (ala), .ref (la + 1), .ref (la + 3)])) := (fr206 (la) (by omega) (by omega)).trans (fx187)
            refine hp_get (v := .ref (la + 3)) hx hb hts hown hZ fx242 fl_X6_151 rfl dX6_sound_96 ?_
            have fx243 : V201 (la + 3) = some (.inr (9, [.ref (la + 3 + 1), .int (sz)])) := (fr206 (la + 3) (by omega) (by omega)).trans ((fr12 (la + 3) (by omega) (by omega) (by omega) (by omega) (by omega)).trans (hc8))
            have fx244 : V201 (la + 4) = some (.inl (cs 0, 8, .inl (sf))) := (fr206 (la + 4) (hq_tne hy9 hy4 (by simp)) (hq_tne hy9 hy5 (by simp))).trans ((fr12 (la + 4) (hq_tne hy9 hy0 (by simp)) (hq_tne hy9 hy4 (by simp)) (hq_tne hy9 hy5 (by simp)) (hq_tne hy9 hy6 (by simp)) (hq_tne hy9 hy7 (by simp))).trans (hc9))
            refine hp_calli (hp_runV (As := [.ref (la + 3)]) (rest := [.ref (mk)]) hx hb hml hown hts (x_addA l D cs B G V201 n hP.1 (ch) (30) (la + 3) (8) (z207) (u208) ((dw ++ (u.drop fr9.toInt.toNat).take ((r195).toInt - fr9.toInt).toNat)) (sz) (sf) (S) hy4 hy5 hy9 ho209 ho210 fx243 fx244  hp1 hS (by omega) (by omega) (by decide) (by decide) (by omega)) hZ ho209 cv_X6_89 rfl rfl ⟨Nat.le_of_ble_eq_true rfl, Nat.le_of_ble_eq_true rfl⟩ rfl hl.1 rfl (Nat.le_of_ble_eq_true rfl) dX6_sound_99 ⟨(Nat.le_of_ble_eq_true rfl), (Nat.le_of_ble_eq_true rfl)⟩) hZ (fun r248 V245 n246 _ _ hw247 hZ => ?_)
            obtain ⟨rfl, hq249, fr250, z251, u252, ho253, ho254, hp255, hp256⟩ := hw247
            have b257 := hq_rng z251
            have hP := hP.trans hq249 (fun _ h => Bool.noConfusion h)
            have hf258 := hq_rgB hP.1 hy5 ho254
            have b259 := hq_rng r248
            have b260 := hp256
            refine lv_if_eq (tgt := 109) hx hb dX6_sound_102 (by decide) (fun c261 => ?_) (fun c261 => ?_)
            · have c261 : (r248).toInt = (0 : Int) := hq_eqi.mp c261
              have hov2 : ¬ (z207).toInt + sz.toInt ≤ 30 := by rcases hp255 with g9 | g9; (· omega); (· exact g9.1)
              refine lv_iconst (v := 0) hx hb dX6_sound_109 (by decide) ?_
              have fx262 : V245 (mk) = some (.inr (6, [.ref (md), .int (wz9), .ref (mh), .ref (pt), .ref (ch)])) := (fr250 (mk) (hq_tne hy0 hy4 (by simp)) (hq_tne hy0 hy5 (by simp))).trans (fx241)
              refine hp_put hx hb hts hown hZ fx262 fp_X6_118 rfl rfl (Nat.le_of_ble_eq_true rfl) dX6_sound_110 (fun V263 _ _ e264 o265 hZ => ?_)
              have e264 : V263 (mk) = some (.inr (6, [.ref (md), .int (0), .ref (mh), .ref (pt), .ref (ch)])) := e264
              have hP := hP.put hy0 e264 o265 (hq_c11 hy1 hy2 hy3 hy4 (show 0 ≤ (0 : Int) by omega) (show (0 : Int) ≤ 1 by omega) (by first | rfl | exact hsh.1 | omega) (by first | rfl | exact hsh.2.1 | omega) (by first | rfl | exact hsh.2.2.1 | omega) (by first | rfl | exact hsh.2.2.2 | omega)) rfl
              refine lv_iload hx hb dX6_sound_113 (lv_at hl 0 rfl) ?_
              refine lv_aload_n hx hb dX6_sound_115 rfl (lv_at hl 5 rfl) ?_
              have fx266 : V263 (la) = some (.inr (5, [.int (ak), .int (ao), .int (at9), .int (ap), .int (ah), .int (aht), .int (apa), .int (ala), .ref (la + 1), .ref (la + 3)])) := (o265 (la) (by omega)).trans ((fr250 (la) (by omega) (by omega)).trans (fx242))
              refine hp_get (v := .ref (la + 1)) hx hb hts hown hZ fx266 fl_X6_107 rfl dX6_sound_116 ?_
              have fx267 : V263 (la + 1) = some (.inr (9, [.ref (la + 1 + 1), .int (fz)])) := (o265 (la + 1) (by omega)).trans ((fr250 (la + 1) (by omega) (by omega)).trans ((fr206 (la + 1) (by omega) (by omega)).trans (fx190)))
              refine hp_get (v := .int (fz)) hx hb hts hown hZ fx267 fl_X6_132 rfl dX6_sound_119 ?_
              refine lv_iadd hx hb dX6_sound_122 ?_
              refine lv_topi (fun y268 ey269 => ?_)
              obtain ⟨k270, hk271, b272, b273⟩ := hq_add (r195) (fz)
              rw [← ey269] at hk271 b272 b273
              have hk271 : (y268).toInt = (r195).toInt + (fz).toInt + k270 * 4294967296 := hk271
              obtain rfl : k270 = 0 := by omega
              refine lv_istore_n (lv' := [(3, .int (y268)), (6, .int (r195)), (5, .int (fr9)), (4, .int (tu9)), (0, .ref (mk)), (1, .ref (la)), (2, .ref (t))]) hx hb dX6_sound_123 rfl hl (by decide) rfl (fun ls hl => ?_)
              obtain ⟨y274, ey275⟩ : ∃ y : Int32, y = tu9 + (1) := ⟨_, rfl⟩
              obtain ⟨k276, hk277, b278, b279⟩ := hq_add (tu9) (1)
              rw [← ey275] at hk277 b278 b279
              have hk277 : (y274).toInt = (tu9).toInt + (1) + k276 * 4294967296 := hk277
              obtain rfl : k276 = 0 := by omega
              refine lv_iinc (v := y274) (lv' := [(4, .int (y274)), (3, .int (y268)), (6, .int (r195)), (5, .int (fr9)), (0, .ref (mk)), (1, .ref (la)), (2, .ref (t))]) hx hb dX6_sound_124 hl (k := 3) rfl (by rw [ey275]; rfl) (by decide) rfl (fun ls hl => ?_)
              refine lv_goto (tgt := 12) hx hb dX6_sound_127 (by decide) ?_
              have hl280 : (0 : Int32).toInt = 0 := by decide
              have fx281 : V263 (ch) = some (.inr (9, [.ref (ch + 1), .int (z251)])) := (o265 (ch) (hq_tne hy4 hy0 (by simp))).trans (ho253)
              have fx282 : V263 (ch + 1) = some (.inl (cs 0, 30, .inl (u252))) := (o265 (ch + 1) (hq_tne hy5 hy0 (by simp))).trans (ho254)
              have fx283 : V263 (t) = some (.inr (9, [.ref (t + 1), .int (z)])) := (o265 (t) (hq_tne hy6 hy0 (by simp))).trans ((fr250 (t) (by omega) (hq_tne hy6 hy5 (by simp))).trans ((fr206 (t) (by omega) (hq_tne hy6 hy5 (by simp))).trans (ho14)))
              have fx284 : V263 (t + 1) = some (.inl (cs 0, 30, .inl (f))) := (o265 (t + 1) (hq_tne hy7 hy0 (by simp))).trans ((fr250 (t + 1) (hq_tne hy7 hy4 (by simp)) (by omega)).trans ((fr206 (t + 1) (hq_tne hy7 hy4 (by simp)) (by omega)).trans (ho16)))
              exact ih12 _ (by omega) _ _ _ ls (y268) (y274) ([]) (0) (z251) (u252) rfl hZ hP e264 fx281 fx282 fx283 fx284 (fun x8 hne0 hne1 hne2 hne3 hne4 => (o265 x8 hne0).trans ((fr250 x8 hne1 hne2).trans ((fr206 x8 hne1 hne2).trans (fr12 x8 hne0 hne1 hne2 hne3 hne4)))) (by omega) (by omega) (by omega) (by have h9 := (hsv.over (at_ := (r195).toInt) (wz2 := 0) (cz2 := z251) (cf2 := u252) (D2 := []) hv1 hn (by omega) hp198.symm (by omega) (by decide) (by omega)).1; rwa [show (r195).toInt + (F.length : Int) = (y268).toInt by omega] at h9) (Or.inr (by rcases hfd with g9 | g9; (· intro g8; have h9 := hp198; rw [g9, Int.toNat_zero] at h9; omega); (· exact g9))) (lv_sub hl [0, 1, 4, 5, 6] rfl)
            · have c261 : ¬ (r248).toInt = (0 : Int) := fun h9 => c261 (hq_eqi.mpr h9)
              have hp2 : sp_rp z251 u252 (dw ++ (u.drop fr9.toInt.toNat).take ((r195).toInt - fr9.toInt).toNat ++ S) := by rcases hp255 with g9 | g9; (· exact g9.2.2); (· omega)
              refine lv_iconst (v := 1) hx hb dX6_sound_105 (by decide) ?_
              refine lv_goto (tgt := 110) hx hb dX6_sound_106 (by decide) ?_
              have fx285 : V245 (mk) = some (.inr (6, [.ref (md), .int (wz9), .ref (mh), .ref (pt), .ref (ch)])) := (fr250 (mk) (hq_tne hy0 hy4 (by simp)) (hq_tne hy0 hy5 (by simp))).trans (fx241)
              refine hp_put hx hb hts hown hZ fx285 fp_X6_118 rfl rfl (Nat.le_of_ble_eq_true rfl) dX6_sound_110 (fun V286 _ _ e287 o288 hZ => ?_)
              have e287 : V286 (mk) = some (.inr (6, [.ref (md), .int (1), .ref (mh), .ref (pt), .ref (ch)])) := e287
              have hP := hP.put hy0 e287 o288 (hq_c11 hy1 hy2 hy3 hy4 (show 0 ≤ (1 : Int) by omega) (show (1 : Int) ≤ 1 by omega) (by first | rfl | exact hsh.1 | omega) (by first | rfl | exact hsh.2.1 | omega) (by first | rfl | exact hsh.2.2.1 | omega) (by first | rfl | exact hsh.2.2.2 | omega)) rfl
              refine lv_iload hx hb dX6_sound_113 (lv_at hl 0 rfl) ?_
              refine lv_aload_n hx hb dX6_sound_115 rfl (lv_at hl 5 rfl) ?_
              have fx289 : V286 (la) = some (.inr (5, [.int (ak), .int (ao), .int (at9), .int (ap), .int (ah), .int (aht), .int (apa), .int (ala), .ref (la + 1), .ref (la + 3)])) := (o288 (la) (by omega)).trans ((fr250 (la) (by omega) (by omega)).trans (fx242))
              refine hp_get (v := .ref (la + 1)) hx hb hts hown hZ fx289 fl_X6_107 rfl dX6_sound_116 ?_
              have fx290 : V286 (la + 1) = some (.inr (9, [.ref (la + 1 + 1), .int (fz)])) := (o288 (la + 1) (by omega)).trans ((fr250 (la + 1) (by omega) (by omega)).trans ((fr206 (la + 1) (by omega) (by omega)).trans (fx190)))
              refine hp_get (v := .int (fz)) hx hb hts hown hZ fx290 fl_X6_132 rfl dX6_sound_119 ?_
              refine lv_iadd hx hb dX6_sound_122 ?_
              refine lv_topi (fun y291 ey292 => ?_)
              obtain ⟨k293, hk294, b295, b296⟩ := hq_add (r195) (fz)
              rw [← ey292] at hk294 b295 b296
              have hk294 : (y291).toInt = (r195).toInt + (fz).toInt + k293 * 4294967296 := hk294
              obtain rfl : k293 = 0 := by omega
              refine lv_istore_n (lv' := [(3, .int (y291)), (6, .int (r195)), (5, .int (fr9)), (4, .int (tu9)), (0, .ref (mk)), (1, .ref (la)), (2, .ref (t))]) hx hb dX6_sound_123 rfl hl (by decide) rfl (fun ls hl => ?_)
              obtain ⟨y297, ey298⟩ : ∃ y : Int32, y = tu9 + (1) := ⟨_, rfl⟩
              obtain ⟨k299, hk300, b301, b302⟩ := hq_add (tu9) (1)
              rw [← ey298] at hk300 b301 b302
              have hk300 : (y297).toInt = (tu9).toInt + (1) + k299 * 4294967296 := hk300
              obtain rfl : k299 = 0 := by omega
              refine lv_iinc (v := y297) (lv' := [(4, .int (y297)), (3, .int (y291)), (6, .int (r195)), (5, .int (fr9)), (0, .ref (mk)), (1, .ref (la)), (2, .ref (t))]) hx hb dX6_sound_124 hl (k := 3) rfl (by rw [ey298]; rfl) (by decide) rfl (fun ls hl => ?_)
              refine lv_goto (tgt := 12) hx hb dX6_sound_127 (by decide) ?_
              have hl303 : (1 : Int32).toInt = 1 := by decide
              have fx304 : V286 (ch) = some (.inr (9, [.ref (ch + 1), .int (z251)])) := (o288 (ch) (hq_tne hy4 hy0 (by simp))).trans (ho253)
              have fx305 : V286 (ch + 1) = some (.inl (cs 0, 30, .inl (u252))) := (o288 (ch + 1) (hq_tne hy5 hy0 (by simp))).trans (ho254)
              have fx306 : V286 (t) = some (.inr (9, [.ref (t + 1), .int (z)])) := (o288 (t) (hq_tne hy6 hy0 (by simp))).trans ((fr250 (t) (by omega) (hq_tne hy6 hy5 (by simp))).trans ((fr206 (t) (by omega) (hq_tne hy6 hy5 (by simp))).trans (ho14)))
              have fx307 : V286 (t + 1) = some (.inl (cs 0, 30, .inl (f))) := (o288 (t + 1) (hq_tne hy7 hy0 (by simp))).trans ((fr250 (t + 1) (hq_tne hy7 hy4 (by simp)) (by omega)).trans ((fr206 (t + 1) (hq_tne hy7 hy4 (by simp)) (by omega)).trans (ho16)))
              exact ih12 _ (by omega) _ _ _ ls (y291) (y297) (dw ++ (u.drop fr9.toInt.toNat).take ((r195).toInt - fr9.toInt).toNat ++ S) (1) (z251) (u252) rfl hZ hP e287 fx304 fx305 fx306 fx307 (fun x8 hne0 hne1 hne2 hne3 hne4 => (o288 x8 hne0).trans ((fr250 x8 hne1 hne2).trans ((fr206 x8 hne1 hne2).trans (fr12 x8 hne0 hne1 hne2 hne3 hne4)))) (by omega) (by omega) (by omega) (by have h9 := (hsv.step (at_ := (r195).toInt) (wz2 := 1) hv1 hn (by omega) hp198.symm (by omega) (by decide) hp2 rfl).1; rwa [show (r195).toInt + (F.length : Int) = (y291).toInt by omega] at h9) (Or.inr (by rcases hfd with g9 | g9; (· intro g8; have h9 := hp198; rw [g9, Int.toNat_zero] at h9; omega); (· exact g9))) (lv_sub hl [0, 1, 4, 5, 6] rfl)
        · have c200 : (r195).toInt = (-1 : Int) := hq_eqi.mp c200
          have hse := hsv.fin hn (by omega) (by rw [← hp198]; omega)
          refine lv_goto (tgt := 130) hx hb dX6_sound_73 (by decide) ?_
          refine lv_iload_n hx hb dX6_sound_130 rfl (lv_at hl 3 rfl) ?_
          refine lv_if_eq (tgt := 148) hx hb dX6_sound_131 (by decide) (fun c308 => ?_) (fun c308 => ?_)
          · have c308 : (fr9).toInt = (0 : Int) := hq_eqi.mp c308
            refine lv_iconst (v := 0) hx hb dX6_sound_148 (by decide) ?_
            have hl309 : (0 : Int32).toInt = 0 := by decide
            exact hp_zret hx hb hr rfl hlocks hZ ⟨rfl, hP, (fun x8 hne0 hne1 hne2 hne3 hne4 => fr12 x8 hne0 hne1 hne2 hne3 hne4), wz9, z, f, cz9, cf9, ho9, ho14, ho16, ho10, ho12, Or.inl (by rcases hse with ⟨g1, g2, g3⟩ | ⟨g1, g2, g3⟩; (· refine ⟨by omega, g1, hu, ?_⟩; have h9 := hp198; exact sp_snd_none hn (by rw [show (0 : Int) = fr9.toInt by omega, show (0 : Nat) = fr9.toInt.toNat by omega]; omega)); (· omega)), by omega⟩ dX6_sound_149
          · have c308 : ¬ (fr9).toInt = (0 : Int) := fun h9 => c308 (hq_eqi.mpr h9)
            refine lv_aload_n hx hb dX6_sound_134 rfl (lv_at hl 5 rfl) ?_
            refine hp_get (v := .ref (la + 1)) hx hb hts hown hZ fx187 fl_X6_107 rfl dX6_sound_135 ?_
            refine lv_aload_n hx hb dX6_sound_138 rfl (lv_at hl 5 rfl) ?_
            refine hp_get (v := .ref (la + 3)) hx hb hts hown hZ fx187 fl_X6_151 rfl dX6_sound_139 ?_
            have fx310 : V9 (la + 3) = some (.inr (9, [.ref (la + 3 + 1), .int (sz)])) := (fr12 (la + 3) (by omega) (by omega) (by omega) (by omega) (by omega)).trans (hc8)
            have fx311 : V9 (la + 4) = some (.inl (cs 0, 8, .inl (sf))) := (fr12 (la + 4) (hq_tne hy9 hy0 (by simp)) (hq_tne hy9 hy4 (by simp)) (hq_tne hy9 hy5 (by simp)) (hq_tne hy9 hy6 (by simp)) (hq_tne hy9 hy7 (by simp))).trans (hc9)
            refine hp_calli (hp_runV (As := [.ref (la + 3)]) (rest := []) hx hb hml hown hts (x_same l D cs B G V9 n hP.1 (la + 1) (8) (la + 3) (8) (fz) (ff) (sz) (sf)  fx190 fx191 fx310 fx311  (by omega) (by omega) (by decide) (by decide)) hZ fx190 cv_X6_154 rfl rfl ⟨Nat.le_of_ble_eq_true rfl, Nat.le_of_ble_eq_true rfl⟩ rfl hl.1 rfl (Nat.le_of_ble_eq_true rfl) dX6_sound_142 ⟨(Nat.le_of_ble_eq_true rfl), (Nat.le_of_ble_eq_true rfl)⟩) hZ (fun r315 V312 n313 _ _ hw314 hZ => ?_)
            obtain ⟨rfl, rfl, hp318⟩ := hw314
            have b319 := hq_rng r315
            refine lv_if_eq (tgt := 150) hx hb dX6_sound_145 (by decide) (fun c320 => ?_) (fun c320 => ?_)
            · have c320 : (r315).toInt = (0 : Int) := hq_eqi.mp c320
              have hFS : ¬ F = S := fun g9 => (hx_D.neg hp318 (by omega)).2 ((hF.same hS).mpr g9)
              refine lv_aload_n hx hb dX6_sound_150 rfl (lv_at hl 4 rfl) ?_
              refine lv_aload_n hx hb dX6_sound_151 rfl (lv_at hl 4 rfl) ?_
              refine hp_get (v := .int (wz9)) hx hb hts hown hZ ho9 fl_X6_118 rfl dX6_sound_152 ?_
              have hl321 : (0 : Int32).toInt = 0 := by decide
              refine lv_if_eq (tgt := 178) hx hb dX6_sound_155 (by decide) (fun c322 => absurd c322 ((fun h9 => absurd (congrArg Int32.toInt h9) (by omega) : ¬ wz9 = 0))) (fun c322 => ?_)
              refine lv_aload_n hx hb dX6_sound_158 rfl (lv_at hl 4 rfl) ?_
              refine hp_get (v := .ref (ch)) hx hb hts hown hZ ho9 fl_X6_29 rfl dX6_sound_159 ?_
              refine lv_aload_n hx hb dX6_sound_162 rfl (lv_at hl 6 rfl) ?_
              refine lv_iload_n hx hb dX6_sound_163 rfl (lv_at hl 3 rfl) ?_
              refine lv_aload_n hx hb dX6_sound_164 rfl (lv_at hl 6 rfl) ?_
              refine hp_get (v := .int (z)) hx hb hts hown hZ ho14 fl_X6_132 rfl dX6_sound_165 ?_
              obtain ⟨he1, he2, he3⟩ : wz9.toInt = 1 ∧ sp_rp cz9 cf9 dw ∧ sp_snd F S u 0 = dw ++ u.drop fr9.toInt.toNat := by rcases hse with g9 | g9; (· exact g9); (· omega)
              have hD1 := he2.1
              refine hp_calli (hp_runV (As := [.ref (t), .int (fr9), .int (z)]) (rest := [.ref (mk)]) hx hb hml hown hts (x_addP l D cs B G V9 n hP.1 (ch) (30) (t) (30) (fr9) (z) (cz9) (cf9) (dw) (z) (f) (u) hy4 hy5 hy7 ho10 ho12 ho14 ho16  he2 hu (by omega) (by omega) (by decide) (by decide) (by omega) (by omega)) hZ ho10 cv_X6_147 rfl rfl ⟨Nat.le_of_ble_eq_true rfl, Nat.le_of_ble_eq_true rfl⟩ rfl hl.1 rfl (Nat.le_of_ble_eq_true rfl) dX6_sound_168 ⟨(Nat.le_of_ble_eq_true rfl), (Nat.le_of_ble_eq_true rfl)⟩) hZ (fun r326 V323 n324 _ _ hw325 hZ => ?_)
              obtain ⟨rfl, hq327, fr328, z329, u330, ho331, ho332, hp333, hp334⟩ := hw325
              have b335 := hq_rng z329
              have hP := hP.trans hq327 (fun _ h => Bool.noConfusion h)
              have hf336 := hq_rgB hP.1 hy5 ho332
              have b337 := hq_rng r326
              have b338 := hp334
              refine lv_if_eq (tgt := 178) hx hb dX6_sound_171 (by decide) (fun c339 => ?_) (fun c339 => ?_)
              · have c339 : (r326).toInt = (0 : Int) := hq_eqi.mp c339
                have hov3 : ¬ cz9.toInt + (z.toInt - fr9.toInt) ≤ 30 := by rcases hp333 with g9 | g9; (· omega); (· exact g9.1)
                refine lv_iconst (v := 0) hx hb dX6_sound_178 (by decide) ?_
                have fx340 : V323 (mk) = some (.inr (6, [.ref (md), .int (wz9), .ref (mh), .ref (pt), .ref (ch)])) := (fr328 (mk) (hq_tne hy0 hy4 (by simp)) (hq_tne hy0 hy5 (by simp))).trans (ho9)
                refine hp_put hx hb hts hown hZ fx340 fp_X6_118 rfl rfl (Nat.le_of_ble_eq_true rfl) dX6_sound_179 (fun V341 _ _ e342 o343 hZ => ?_)
                have e342 : V341 (mk) = some (.inr (6, [.ref (md), .int (0), .ref (mh), .ref (pt), .ref (ch)])) := e342
                have hP := hP.put hy0 e342 o343 (hq_c11 hy1 hy2 hy3 hy4 (show 0 ≤ (0 : Int) by omega) (show (0 : Int) ≤ 1 by omega) (by first | rfl | exact hsh.1 | omega) (by first | rfl | exact hsh.2.1 | omega) (by first | rfl | exact hsh.2.2.1 | omega) (by first | rfl | exact hsh.2.2.2 | omega)) rfl
                refine lv_aload_n hx hb dX6_sound_182 rfl (lv_at hl 6 rfl) ?_
                refine lv_aload_n hx hb dX6_sound_183 rfl (lv_at hl 4 rfl) ?_
                refine hp_get (v := .ref (ch)) hx hb hts hown hZ e342 fl_X6_29 rfl dX6_sound_184 ?_
                have fx344 : V341 (t) = some (.inr (9, [.ref (t + 1), .int (z)])) := (o343 (t) (hq_tne hy6 hy0 (by simp))).trans ((fr328 (t) (by omega) (hq_tne hy6 hy5 (by simp))).trans (ho14))
                have fx345 : V341 (t + 1) = some (.inl (cs 0, 30, .inl (f))) := (o343 (t + 1) (hq_tne hy7 hy0 (by simp))).trans ((fr328 (t + 1) (hq_tne hy7 hy4 (by simp)) (by omega)).trans (ho16))
                have fx346 : V341 (ch) = some (.inr (9, [.ref (ch + 1), .int (z329)])) := (o343 (ch) (hq_tne hy4 hy0 (by simp))).trans (ho331)
                have fx347 : V341 (ch + 1) = some (.inl (cs 0, 30, .inl (u330))) := (o343 (ch + 1) (hq_tne hy5 hy0 (by simp))).trans (ho332)
                refine hp_callv (hp_runV (As := [.ref (ch)]) (rest := []) hx hb hml hown hts (x_set l D cs B G V341 n hP.1 (t) (30) (ch) (30) (z) (f) (z329) (u330) hy6 hy7 hy5 fx344 fx345 fx346 fx347  (by omega) (by decide) (by decide) (by omega) (by omega)) hZ fx344 cv_X6_157 rfl rfl ⟨Nat.le_of_ble_eq_true rfl, Nat.le_of_ble_eq_true rfl⟩ rfl hl.1 rfl (Nat.le_of_ble_eq_true rfl) dX6_sound_187 ⟨(Nat.le_of_ble_eq_true rfl), (Nat.le_of_ble_eq_true rfl)⟩) hZ (fun V348 n349 _ _ hw350 hZ => ?_)
                obtain ⟨rfl, hq352, fr353, z354, u355, ho356, ho357, hp358, hp359⟩ := hw350
                have b360 := hq_rng z354
                have hP := hP.trans hq352 (fun _ h => Bool.noConfusion h)
                have hf361 := hq_rgB hP.1 hy7 ho357
                refine lv_iconst (v := 1) hx hb dX6_sound_190 (by decide) ?_
                have hl362 : (1 : Int32).toInt = 1 := by decide
                have fx363 : V348 (mk) = some (.inr (6, [.ref (md), .int (0), .ref (mh), .ref (pt), .ref (ch)])) := (fr353 (mk) (hq_tne hy0 hy6 (by simp)) (hq_tne hy0 hy7 (by simp))).trans (e342)
                have fx364 : V348 (ch) = some (.inr (9, [.ref (ch + 1), .int (z329)])) := (fr353 (ch) (by omega) (hq_tne hy4 hy7 (by simp))).trans (fx346)
                have fx365 : V348 (ch + 1) = some (.inl (cs 0, 30, .inl (u330))) := (fr353 (ch + 1) (hq_tne hy5 hy6 (by simp)) (by omega)).trans (fx347)
                have hl366 : (0 : Int32).toInt = 0 := by decide
                exact hp_zret hx hb hr rfl hlocks hZ ⟨rfl, hP, (fun x8 hne0 hne1 hne2 hne3 hne4 => (fr353 x8 hne3 hne4).trans ((o343 x8 hne0).trans ((fr328 x8 hne1 hne2).trans (fr12 x8 hne0 hne1 hne2 hne3 hne4)))), 0, z354, u355, z329, u330, fx363, ho356, ho357, fx364, fx365, Or.inr (Or.inr ⟨by omega, by omega, (by rcases hse with ⟨g1, g2, g3⟩ | ⟨g1, g2, g3⟩; (· rw [g3, List.length_append, List.length_drop]; have g4 := g2.1; omega); (· exact g2))⟩), by omega⟩ dX6_sound_191
              · have c339 : ¬ (r326).toInt = (0 : Int) := fun h9 => c339 (hq_eqi.mpr h9)
                have hp3 : sp_rp z329 u330 (dw ++ (u.drop fr9.toInt.toNat).take (z.toInt - fr9.toInt).toNat) := by rcases hp333 with g9 | g9; (· exact g9.2.2); (· omega)
                rw [List.take_of_length_le (by rw [List.length_drop]; omega), ← he3] at hp3
                have hp31 := hp3.1
                refine lv_iconst (v := 1) hx hb dX6_sound_174 (by decide) ?_
                refine lv_goto (tgt := 179) hx hb dX6_sound_175 (by decide) ?_
                have fx367 : V323 (mk) = some (.inr (6, [.ref (md), .int (wz9), .ref (mh), .ref (pt), .ref (ch)])) := (fr328 (mk) (hq_tne hy0 hy4 (by simp)) (hq_tne hy0 hy5 (by simp))).trans (ho9)
                refine hp_put hx hb hts hown hZ fx367 fp_X6_118 rfl rfl (Nat.le_of_ble_eq_true rfl) dX6_sound_179 (fun V368 _ _ e369 o370 hZ => ?_)
                have e369 : V368 (mk) = some (.inr (6, [.ref (md), .int (1), .ref (mh), .ref (pt), .ref (ch)])) := e369
                have hP := hP.put hy0 e369 o370 (hq_c11 hy1 hy2 hy3 hy4 (show 0 ≤ (1 : Int) by omega) (show (1 : Int) ≤ 1 by omega) (by first | rfl | exact hsh.1 | omega) (by first | rfl | exact hsh.2.1 | omega) (by first | rfl | exact hsh.2.2.1 | omega) (by first | rfl | exact hsh.2.2.2 | omega)) rfl
                refine lv_aload_n hx hb dX6_sound_182 rfl (lv_at hl 6 rfl) ?_
                refine lv_aload_n hx hb dX6_sound_183 rfl (lv_at hl 4 rfl) ?_
                refine hp_get (v := .ref (ch)) hx hb hts hown hZ e369 fl_X6_29 rfl dX6_sound_184 ?_
                have fx371 : V368 (t) = some (.inr (9, [.ref (t + 1), .int (z)])) := (o370 (t) (hq_tne hy6 hy0 (by simp))).trans ((fr328 (t) (by omega) (hq_tne hy6 hy5 (by simp))).trans (ho14))
                have fx372 : V368 (t + 1) = some (.inl (cs 0, 30, .inl (f))) := (o370 (t + 1) (hq_tne hy7 hy0 (by simp))).trans ((fr328 (t + 1) (hq_tne hy7 hy4 (by simp)) (by omega)).trans (ho16))
                have fx373 : V368 (ch) = some (.inr (9, [.ref (ch + 1), .int (z329)])) := (o370 (ch) (hq_tne hy4 hy0 (by simp))).trans (ho331)
                have fx374 : V368 (ch + 1) = some (.inl (cs 0, 30, .inl (u330))) := (o370 (ch + 1) (hq_tne hy5 hy0 (by simp))).trans (ho332)
                refine hp_callv (hp_runV (As := [.ref (ch)]) (rest := []) hx hb hml hown hts (x_set l D cs B G V368 n hP.1 (t) (30) (ch) (30) (z) (f) (z329) (u330) hy6 hy7 hy5 fx371 fx372 fx373 fx374  (by omega) (by decide) (by decide) (by omega) (by omega)) hZ fx371 cv_X6_157 rfl rfl ⟨Nat.le_of_ble_eq_true rfl, Nat.le_of_ble_eq_true rfl⟩ rfl hl.1 rfl (Nat.le_of_ble_eq_true rfl) dX6_sound_187 ⟨(Nat.le_of_ble_eq_true rfl), (Nat.le_of_ble_eq_true rfl)⟩) hZ (fun V375 n376 _ _ hw377 hZ => ?_)
                obtain ⟨rfl, hq379, fr380, z381, u382, ho383, ho384, hp385, hp386⟩ := hw377
                have b387 := hq_rng z381
                have hP := hP.trans hq379 (fun _ h => Bool.noConfusion h)
                have hf388 := hq_rgB hP.1 hy7 ho384
                refine lv_iconst (v := 1) hx hb dX6_sound_190 (by decide) ?_
                have hl389 : (1 : Int32).toInt = 1 := by decide
                have fx390 : V375 (mk) = some (.inr (6, [.ref (md), .int (1), .ref (mh), .ref (pt), .ref (ch)])) := (fr380 (mk) (hq_tne hy0 hy6 (by simp)) (hq_tne hy0 hy7 (by simp))).trans (e369)
                have fx391 : V375 (ch) = some (.inr (9, [.ref (ch + 1), .int (z329)])) := (fr380 (ch) (by omega) (hq_tne hy4 hy7 (by simp))).trans (fx373)
                have fx392 : V375 (ch + 1) = some (.inl (cs 0, 30, .inl (u330))) := (fr380 (ch + 1) (hq_tne hy5 hy6 (by simp)) (by omega)).trans (fx374)
                have hl393 : (1 : Int32).toInt = 1 := by decide
                exact hp_zret hx hb hr rfl hlocks hZ ⟨rfl, hP, (fun x8 hne0 hne1 hne2 hne3 hne4 => (fr380 x8 hne3 hne4).trans ((o370 x8 hne0).trans ((fr328 x8 hne1 hne2).trans (fr12 x8 hne0 hne1 hne2 hne3 hne4)))), 1, z381, u382, z329, u330, fx390, ho383, ho384, fx391, fx392, Or.inr (Or.inl ⟨by omega, by omega, by omega, sp_snd_ne hn hFS (by rcases hfd with g9 | g9; (· omega); (· exact g9)), ⟨by omega, fun k9 x9 hx9 => by have h9 := (List.getElem?_eq_some_iff.mp hx9).1; rw [hp386 k9 (by omega)]; exact hp3.2 k9 x9 hx9⟩⟩), by omega⟩ dX6_sound_191
            · have c320 : ¬ (r315).toInt = (0 : Int) := fun h9 => c320 (hq_eqi.mpr h9)
              have hFS : F = S := (hF.same hS).mp (hx_D.pos hp318 (by rcases Classical.em ((r315).toInt = 1) with h9 | h9; exact h9; exact absurd (hx_D.neg hp318 h9).1 (by omega)))
              refine lv_iconst (v := 0) hx hb dX6_sound_148 (by decide) ?_
              have hl394 : (0 : Int32).toInt = 0 := by decide
              exact hp_zret hx hb hr rfl hlocks hZ ⟨rfl, hP, (fun x8 hne0 hne1 hne2 hne3 hne4 => fr12 x8 hne0 hne1 hne2 hne3 hne4), wz9, z, f, cz9, cf9, ho9, ho14, ho16, ho10, ho12, Or.inl ⟨by omega, (by have h9 : sp_snd F S u 0 = u := (by rw [← hFS]; exact sp_snd_self hn u 0); rcases hse with g9 | g9; (· exact g9.1); (· have h8 := g9.2.1; rw [h9] at h8; omega)), hu, (by rw [← hFS]; exact sp_snd_self hn u 0)⟩, by omega⟩ dX6_sound_149

set_option maxHeartbeats 4000000 in
set_option maxRecDepth 100000 in
theorem t_X8_note (l : Launch) (D : va_G) (cs : Nat → ClassId) (B : Nat) (G : hq_G) (V : hp_V) (n : Nat) (hI : hq_I cs G V) (R : Nat) (t : Nat) (h_t : G t = some (12, 0, 0, 0)) (k : Int32) (f : Nat) (h_f : G f = some (8, R, 0, 0)) (hk0 : 0 ≤ k.toInt) (hk1 : k.toInt < 900) : hp_M l yX8_note cX8_note 7 none ({ frames := 2, cells := 0, slots := 0, locals := 44 }) D cs B V n [.ref (t), .int (k), .ref (f)] (hp_QV D cs B (fun V' n' => n = n' ∧ hq_P cs G (fun g => g.1 == 0) V V')) 0 0 := by
  refine hp_walk (R0 := RX8) (by decide) rfl ?_ (Nat.le_of_ble_eq_true rfl)
  intro p e s m below meth c ls hx hb hr hts hown hlocks hin hml hZ hl
  have hP : hq_P cs G (fun g => g.1 == 0) V V := hq_P.rf hI
  have hl : lv_has ls 7 [(0, .ref (t)), (1, .int (k)), (2, .ref (f))] := hl
  have hb_k := hq_rng k
  refine lv_aload_n hx hb dX8_note_0 rfl (lv_at hl 0 rfl) ?_
  obtain ⟨z2, u3, u4, u5, eV1, hu6, hu7, hu8⟩ := hq_o12 hP.1 h_t
  refine hp_get (v := .ref (u3)) hx hb hts hown hZ eV1 fl_X8_9 rfl dX8_note_1 ?_
  refine lv_iload_n hx hb dX8_note_4 rfl (lv_at hl 1 rfl) ?_
  refine lv_lconst (v := 0) hx hb dX8_note_5 (by decide) ?_
  obtain ⟨hN11, g10, eV9⟩ := hq_o3 hP.1 hu6
  refine hp_last hx hb hZ eV9 (hq_in (by omega) (by omega)) dX8_note_6 (fun V13 _ _ e14 o15 hZ => ?_)
  have e14 : V13 (u3) = some (.inl (cs 2, 900, .inr (.inl (vp_updL (g10) ((k : Int32).toNatClampNeg) (0))))) := e14
  have hP := hP.put hu6 e14 o15 (hq_c3 (by omega)) rfl
  refine lv_aload_n hx hb dX8_note_7 rfl (lv_at hl 0 rfl) ?_
  have fx16 : V13 (t) = some (.inr (8, [.int (z2), .ref (u3), .ref (u4), .ref (u5)])) := (o15 (t) (hq_tne h_t hu6 (by simp))).trans (eV1)
  refine hp_get (v := .ref (u4)) hx hb hts hown hZ fx16 fl_X8_15 rfl dX8_note_8 ?_
  refine lv_iload_n hx hb dX8_note_11 rfl (lv_at hl 1 rfl) ?_
  refine lv_lconst (v := 0) hx hb dX8_note_12 (by decide) ?_
  obtain ⟨hN19, g18, eV17⟩ := hq_o3 hP.1 hu7
  refine hp_last hx hb hZ eV17 (hq_in (by omega) (by omega)) dX8_note_13 (fun V21 _ _ e22 o23 hZ => ?_)
  have e22 : V21 (u4) = some (.inl (cs 2, 900, .inr (.inl (vp_updL (g18) ((k : Int32).toNatClampNeg) (0))))) := e22
  have hP := hP.put hu7 e22 o23 (hq_c3 (by omega)) rfl
  refine lv_aload_n hx hb dX8_note_14 rfl (lv_at hl 0 rfl) ?_
  have fx24 : V21 (t) = some (.inr (8, [.int (z2), .ref (u3), .ref (u4), .ref (u5)])) := (o23 (t) (hq_tne h_t hu7 (by simp))).trans (fx16)
  refine hp_get (v := .ref (u5)) hx hb hts hown hZ fx24 fl_X8_18 rfl dX8_note_15 ?_
  refine lv_iload_n hx hb dX8_note_18 rfl (lv_at hl 1 rfl) ?_
  refine lv_lconst (v := 0) hx hb dX8_note_19 (by decide) ?_
  obtain ⟨hN27, g26, eV25⟩ := hq_o3 hP.1 hu8
  refine hp_last hx hb hZ eV25 (hq_in (by omega) (by omega)) dX8_note_20 (fun V29 _ _ e30 o31 hZ => ?_)
  have e30 : V29 (u5) = some (.inl (cs 2, 900, .inr (.inl (vp_updL (g26) ((k : Int32).toNatClampNeg) (0))))) := e30
  have hP := hP.put hu8 e30 o31 (hq_c3 (by omega)) rfl
  refine lv_iconst (v := 0) hx hb dX8_note_21 (by decide) ?_
  refine lv_istore_n (lv' := [(3, .int (0)), (0, .ref (t)), (1, .int (k)), (2, .ref (f))]) hx hb dX8_note_22 rfl hl (by decide) rfl (fun ls hl => ?_)
  have hl32 : (0 : Int32).toInt = 0 := by decide
  suffices lp23 : ∀ (k9 : Nat) (V9 : hp_V) (H9 : Heap) (locs9 : List Loc) (ls : Array Slot) (i : Int32), (100 - i.toInt).toNat = k9 → hp_Z D cs B s V9 H9 n locs9 → hq_P cs G (fun g => g.1 == 0) V V9 → 0 ≤ i.toInt → i.toInt ≤ 4 → lv_has ls 7 [(3, .int (i)), (0, .ref (t)), (1, .int (k)), (2, .ref (f))] → W p l e ({ frames := 2, cells := 0, slots := 0, locals := 44 }) s m ([.ref (t), .int (k), .ref (f)] : List Value).toArray below meth c H9 locs9 0 0 (MQ below (hp_QV D cs B (fun V' n' => n = n' ∧ hq_P cs G (fun g => g.1 == 0) V V')) ([.ref (t), .int (k), .ref (f)] : List Value).toArray s 0 0 (hp_F B)) (F0 m 23 ls []) from lp23 _ _ _ _ ls (0) rfl hZ hP (by omega) (by omega) (lv_sub hl [0, 1, 2, 3] rfl)
  intro k9
  induction k9 using Nat.strongRecOn with
  | _ k9 ih23 =>
    intro V9 H9 locs9 ls i  hk23 hZ hP  hv33 hv34 hl
    have hb_i := hq_rng i
    have hP_23 := hP
    refine lv_iload_n hx hb dX8_note_23 rfl (lv_at hl 0 rfl) ?_
    refine lv_aload_n hx hb dX8_note_24 rfl (lv_at hl 3 rfl) ?_
    obtain ⟨u36, z37, eV35, hu38, h39, h40, h41⟩ := hq_o8 hP.1 h_f
    refine hp_get (v := .int (z37)) hx hb hts hown hZ eV35 fl_X8_55 rfl dX8_note_25 ?_
    refine lv_icmp_ge (tgt := 105) hx hb dX8_note_28 (by decide) (fun c42 => ?_) (fun c42 => ?_)
    · have c42 : (z37).toInt ≤ (i).toInt := hq_lei.mp c42
      exact hp_vret hx hb hr hlocks hZ ⟨rfl, hP⟩ dX8_note_105
    · have c42 : ¬ (z37).toInt ≤ (i).toInt := fun h9 => c42 (hq_lei.mpr h9)
      refine lv_aload_n hx hb dX8_note_31 rfl (lv_at hl 3 rfl) ?_
      refine lv_iload_n hx hb dX8_note_32 rfl (lv_at hl 0 rfl) ?_
      refine hp_callq (hp_runV (As := [.int (i)]) (rest := []) hx hb hml hown hts (t_X3_get l D cs B G  V9 n hP.1 R (f) h_f (i) ) hZ eV35 cv_X8_61 rfl rfl ⟨Nat.le_of_ble_eq_true rfl, Nat.le_of_ble_eq_true rfl⟩ rfl hl.1 rfl (Nat.le_of_ble_eq_true rfl) dX8_note_33 ⟨(Nat.le_of_ble_eq_true rfl), (Nat.le_of_ble_eq_true rfl)⟩) hZ (fun r46 V43 n44 _ _ hw45 hZ => ?_)
      obtain ⟨rfl, hq47, hr48⟩ := hw45
      have hP := hP.trans hq47 (fun _ _ => rfl)
      rcases r46 with _ | u49
      · refine W.eq (g2 := F0 m 36 ls [.null]) rfl ?_
        refine lv_astoreN (lv' := [(4, .null), (3, .int (i)), (0, .ref (t)), (1, .int (k)), (2, .ref (f))]) hx hb dX8_note_36 hl (by decide) rfl (fun ls hl => ?_)
        refine lv_aloadN hx hb dX8_note_38 (lv_at hl 0 rfl) ?_
        refine lv_ifnullN (tgt := 99) hx hb dX8_note_40 (by decide) ?_
        obtain ⟨y51, ey52⟩ : ∃ y : Int32, y = i + (1) := ⟨_, rfl⟩
        obtain ⟨k53, hk54, b55, b56⟩ := hq_add (i) (1)
        rw [← ey52] at hk54 b55 b56
        have hk54 : (y51).toInt = (i).toInt + (1) + k53 * 4294967296 := hk54
        refine lv_iinc (v := y51) (lv' := [(3, .int (y51)), (4, .null), (0, .ref (t)), (1, .int (k)), (2, .ref (f))]) hx hb dX8_note_99 hl (k := 1) rfl (by rw [ey52]; rfl) (by decide) rfl (fun ls hl => ?_)
        refine lv_goto (tgt := 23) hx hb dX8_note_102 (by decide) ?_
        exact ih23 _ (by omega) _ _ _ ls (y51) rfl hZ hP (by omega) (by omega) (lv_sub hl [0, 2, 3, 4] rfl)
      · refine W.eq (g2 := F0 m 36 ls [.ref (u49)]) rfl ?_
        have hu50 := hr48 u49 rfl
        refine lv_astore (lv' := [(4, .ref (u49)), (3, .int (i)), (0, .ref (t)), (1, .int (k)), (2, .ref (f))]) hx hb dX8_note_36 hl (by decide) rfl (fun ls hl => ?_)
        refine lv_aload hx hb dX8_note_38 (lv_at hl 0 rfl) ?_
        refine lv_ifnull hx hb dX8_note_40 ?_
        refine lv_aload hx hb dX8_note_43 (lv_at hl 0 rfl) ?_
        obtain ⟨u64, u65, z66, eV63, hu67, hu68, h69, h70⟩ := hq_o7 hP.1 hu50
        refine hp_calll (hp_runV (As := []) (rest := []) hx hb hml hown hts (t_X2_lineBits l D cs B G  V43 n hP.1  (u49) hu50 ) hZ eV63 cv_X8_65 rfl rfl ⟨Nat.le_of_ble_eq_true rfl, Nat.le_of_ble_eq_true rfl⟩ rfl hl.1 rfl (Nat.le_of_ble_eq_true rfl) dX8_note_45 ⟨(Nat.le_of_ble_eq_true rfl), (Nat.le_of_ble_eq_true rfl)⟩) hZ (fun r60 V57 n58 _ _ hw59 hZ => ?_)
        obtain ⟨rfl, hq61, hr62⟩ := hw59
        have hP := hP.trans hq61 (fun _ _ => rfl)
        refine lv_lstore (lv' := [(5, .long (r60)), (4, .ref (u49)), (3, .int (i)), (0, .ref (t)), (1, .int (k)), (2, .ref (f))]) hx hb dX8_note_48 hl (by decide) rfl (fun ls hl => ?_)
        refine lv_aload_n hx hb dX8_note_50 rfl (lv_at hl 3 rfl) ?_
        obtain ⟨z72, u73, u74, u75, eV71, hu76, hu77, hu78⟩ := hq_o12 hP.1 h_t
        refine hp_get (v := .ref (u73)) hx hb hts hown hZ eV71 fl_X8_9 rfl dX8_note_51 ?_
        refine lv_iload_n hx hb dX8_note_54 rfl (lv_at hl 4 rfl) ?_
        refine lv_iload_n hx hb dX8_note_55 rfl (lv_at hl 2 rfl) ?_
        refine lv_if_ne (tgt := 64) hx hb dX8_note_56 (by decide) (fun c79 => ?_) (fun c79 => ?_)
        · have c79 : ¬ (i).toInt = (0 : Int) := fun h9 => c79 (hq_eqi.mpr h9)
          refine lv_aload_n hx hb dX8_note_64 rfl (lv_at hl 3 rfl) ?_
          refine hp_get (v := .ref (u73)) hx hb hts hown hZ eV71 fl_X8_9 rfl dX8_note_65 ?_
          refine lv_iload_n hx hb dX8_note_68 rfl (lv_at hl 4 rfl) ?_
          obtain ⟨hN82, g81, eV80⟩ := hq_o3 hP.1 hu76
          refine hp_lald hx hb hZ eV80 (hq_in (by omega) (by omega)) dX8_note_69 ?_
          refine lv_topl (fun y84 ey85 => ?_)
          refine hp_last hx hb hZ eV80 (hq_in (by omega) (by omega)) dX8_note_70 (fun V86 _ _ e87 o88 hZ => ?_)
          have e87 : V86 (u73) = some (.inl (cs 2, 900, .inr (.inl (vp_updL (g81) ((k : Int32).toNatClampNeg) (y84))))) := e87
          have hP := hP.put hu76 e87 o88 (hq_c3 (by omega)) rfl
          refine lv_aload_n hx hb dX8_note_71 rfl (lv_at hl 3 rfl) ?_
          have fx89 : V86 (t) = some (.inr (8, [.int (z72), .ref (u73), .ref (u74), .ref (u75)])) := (o88 (t) (hq_tne h_t hu76 (by simp))).trans (eV71)
          refine hp_get (v := .ref (u74)) hx hb hts hown hZ fx89 fl_X8_15 rfl dX8_note_72 ?_
          refine lv_iload_n hx hb dX8_note_75 rfl (lv_at hl 4 rfl) ?_
          refine lv_dup2_11 hx hb dX8_note_76 rfl rfl ?_
          obtain ⟨hN92, g91, eV90⟩ := hq_o3 hP.1 hu77
          refine hp_lald hx hb hZ eV90 (hq_in (by omega) (by omega)) dX8_note_77 ?_
          refine lv_topl (fun y94 ey95 => ?_)
          refine lv_lload hx hb dX8_note_78 (lv_at hl 0 rfl) ?_
          refine lv_lor hx hb dX8_note_80 ?_
          refine lv_topl (fun y96 ey97 => ?_)
          refine hp_last hx hb hZ eV90 (hq_in (by omega) (by omega)) dX8_note_81 (fun V98 _ _ e99 o100 hZ => ?_)
          have e99 : V98 (u74) = some (.inl (cs 2, 900, .inr (.inl (vp_updL (g91) ((k : Int32).toNatClampNeg) (y96))))) := e99
          have hP := hP.put hu77 e99 o100 (hq_c3 (by omega)) rfl
          refine lv_aload_n hx hb dX8_note_82 rfl (lv_at hl 3 rfl) ?_
          have fx101 : V98 (t) = some (.inr (8, [.int (z72), .ref (u73), .ref (u74), .ref (u75)])) := (o100 (t) (hq_tne h_t hu77 (by simp))).trans (fx89)
          refine hp_get (v := .ref (u75)) hx hb hts hown hZ fx101 fl_X8_18 rfl dX8_note_83 ?_
          refine lv_iload_n hx hb dX8_note_86 rfl (lv_at hl 4 rfl) ?_
          refine lv_dup2_11 hx hb dX8_note_87 rfl rfl ?_
          obtain ⟨hN104, g103, eV102⟩ := hq_o3 hP.1 hu78
          refine hp_lald hx hb hZ eV102 (hq_in (by omega) (by omega)) dX8_note_88 ?_
          refine lv_topl (fun y106 ey107 => ?_)
          refine lv_aload hx hb dX8_note_89 (lv_at hl 1 rfl) ?_
          have fx108 : V98 (u49) = some (.inr (2, [.ref (u64), .ref (u65), .int (z66)])) := (o100 (u49) (hq_tne hu50 hu77 (by simp))).trans ((o88 (u49) (hq_tne hu50 hu76 (by simp))).trans ((hq61.2 (u49) _ hu50 rfl).trans (eV63)))
          refine hp_get (v := .ref (u64)) hx hb hts hown hZ fx108 fl_X8_71 rfl dX8_note_91 ?_
          obtain ⟨u116, z117, eV115, hu118, h119, h120, h121⟩ := hq_o0 hP.1 hu67
          refine hp_calll (hp_runV (As := []) (rest := [.long (y106), .int (k), .ref (u75)]) hx hb hml hown hts (t_X9_mark l D cs B G  V98 n hP.1 30 (u64) hu67 ) hZ eV115 cv_X8_75 rfl rfl ⟨Nat.le_of_ble_eq_true rfl, Nat.le_of_ble_eq_true rfl⟩ rfl hl.1 rfl (Nat.le_of_ble_eq_true rfl) dX8_note_94 ⟨(Nat.le_of_ble_eq_true rfl), (Nat.le_of_ble_eq_true rfl)⟩) hZ (fun r112 V109 n110 _ _ hw111 hZ => ?_)
          obtain ⟨rfl, hq113, hr114⟩ := hw111
          have hP := hP.trans hq113 (fun _ _ => rfl)
          refine lv_lor hx hb dX8_note_97 ?_
          refine lv_topl (fun y122 ey123 => ?_)
          have fx124 : V109 (u75) = some (.inl (cs 2, 900, .inr (.inl (g103)))) := (hq113.2 (u75) _ hu78 rfl).trans (eV102)
          refine hp_last hx hb hZ fx124 (hq_in (by omega) (by omega)) dX8_note_98 (fun V125 _ _ e126 o127 hZ => ?_)
          have e126 : V125 (u75) = some (.inl (cs 2, 900, .inr (.inl (vp_updL (g103) ((k : Int32).toNatClampNeg) (y122))))) := e126
          have hP := hP.put hu78 e126 o127 (hq_c3 (by omega)) rfl
          obtain ⟨y128, ey129⟩ : ∃ y : Int32, y = i + (1) := ⟨_, rfl⟩
          obtain ⟨k130, hk131, b132, b133⟩ := hq_add (i) (1)
          rw [← ey129] at hk131 b132 b133
          have hk131 : (y128).toInt = (i).toInt + (1) + k130 * 4294967296 := hk131
          refine lv_iinc (v := y128) (lv' := [(3, .int (y128)), (5, .long (r60)), (4, .ref (u49)), (0, .ref (t)), (1, .int (k)), (2, .ref (f))]) hx hb dX8_note_99 hl (k := 2) rfl (by rw [ey129]; rfl) (by decide) rfl (fun ls hl => ?_)
          refine lv_goto (tgt := 23) hx hb dX8_note_102 (by decide) ?_
          exact ih23 _ (by omega) _ _ _ ls (y128) rfl hZ hP (by omega) (by omega) (lv_sub hl [0, 3, 4, 5] rfl)
        · have c79 : (i).toInt = (0 : Int) := hq_eqi.mp c79
          refine lv_lload hx hb dX8_note_59 (lv_at hl 0 rfl) ?_
          refine lv_goto (tgt := 70) hx hb dX8_note_61 (by decide) ?_
          obtain ⟨hN136, g135, eV134⟩ := hq_o3 hP.1 hu76
          refine hp_last hx hb hZ eV134 (hq_in (by omega) (by omega)) dX8_note_70 (fun V138 _ _ e139 o140 hZ => ?_)
          have e139 : V138 (u73) = some (.inl (cs 2, 900, .inr (.inl (vp_updL (g135) ((k : Int32).toNatClampNeg) (r60))))) := e139
          have hP := hP.put hu76 e139 o140 (hq_c3 (by omega)) rfl
          refine lv_aload_n hx hb dX8_note_71 rfl (lv_at hl 3 rfl) ?_
          have fx141 : V138 (t) = some (.inr (8, [.int (z72), .ref (u73), .ref (u74), .ref (u75)])) := (o140 (t) (hq_tne h_t hu76 (by simp))).trans (eV71)
          refine hp_get (v := .ref (u74)) hx hb hts hown hZ fx141 fl_X8_15 rfl dX8_note_72 ?_
          refine lv_iload_n hx hb dX8_note_75 rfl (lv_at hl 4 rfl) ?_
          refine lv_dup2_11 hx hb dX8_note_76 rfl rfl ?_
          obtain ⟨hN144, g143, eV142⟩ := hq_o3 hP.1 hu77
          refine hp_lald hx hb hZ eV142 (hq_in (by omega) (by omega)) dX8_note_77 ?_
          refine lv_topl (fun y146 ey147 => ?_)
          refine lv_lload hx hb dX8_note_78 (lv_at hl 0 rfl) ?_
          refine lv_lor hx hb dX8_note_80 ?_
          refine lv_topl (fun y148 ey149 => ?_)
          refine hp_last hx hb hZ eV142 (hq_in (by omega) (by omega)) dX8_note_81 (fun V150 _ _ e151 o152 hZ => ?_)
          have e151 : V150 (u74) = some (.inl (cs 2, 900, .inr (.inl (vp_updL (g143) ((k : Int32).toNatClampNeg) (y148))))) := e151
          have hP := hP.put hu77 e151 o152 (hq_c3 (by omega)) rfl
          refine lv_aload_n hx hb dX8_note_82 rfl (lv_at hl 3 rfl) ?_
          have fx153 : V150 (t) = some (.inr (8, [.int (z72), .ref (u73), .ref (u74), .ref (u75)])) := (o152 (t) (hq_tne h_t hu77 (by simp))).trans (fx141)
          refine hp_get (v := .ref (u75)) hx hb hts hown hZ fx153 fl_X8_18 rfl dX8_note_83 ?_
          refine lv_iload_n hx hb dX8_note_86 rfl (lv_at hl 4 rfl) ?_
          refine lv_dup2_11 hx hb dX8_note_87 rfl rfl ?_
          obtain ⟨hN156, g155, eV154⟩ := hq_o3 hP.1 hu78
          refine hp_lald hx hb hZ eV154 (hq_in (by omega) (by omega)) dX8_note_88 ?_
          refine lv_topl (fun y158 ey159 => ?_)
          refine lv_aload hx hb dX8_note_89 (lv_at hl 1 rfl) ?_
          have fx160 : V150 (u49) = some (.inr (2, [.ref (u64), .ref (u65), .int (z66)])) := (o152 (u49) (hq_tne hu50 hu77 (by simp))).trans ((o140 (u49) (hq_tne hu50 hu76 (by simp))).trans ((hq61.2 (u49) _ hu50 rfl).trans (eV63)))
          refine hp_get (v := .ref (u64)) hx hb hts hown hZ fx160 fl_X8_71 rfl dX8_note_91 ?_
          obtain ⟨u168, z169, eV167, hu170, h171, h172, h173⟩ := hq_o0 hP.1 hu67
          refine hp_calll (hp_runV (As := []) (rest := [.long (y158), .int (k), .ref (u75)]) hx hb hml hown hts (t_X9_mark l D cs B G  V150 n hP.1 30 (u64) hu67 ) hZ eV167 cv_X8_75 rfl rfl ⟨Nat.le_of_ble_eq_true rfl, Nat.le_of_ble_eq_true rfl⟩ rfl hl.1 rfl (Nat.le_of_ble_eq_true rfl) dX8_note_94 ⟨(Nat.le_of_ble_eq_true rfl), (Nat.le_of_ble_eq_true rfl)⟩) hZ (fun r164 V161 n162 _ _ hw163 hZ => ?_)
          obtain ⟨rfl, hq165, hr166⟩ := hw163
          have hP := hP.trans hq165 (fun _ _ => rfl)
          refine lv_lor hx hb dX8_note_97 ?_
          refine lv_topl (fun y174 ey175 => ?_)
          have fx176 : V161 (u75) = some (.inl (cs 2, 900, .inr (.inl (g155)))) := (hq165.2 (u75) _ hu78 rfl).trans (eV154)
          refine hp_last hx hb hZ fx176 (hq_in (by omega) (by omega)) dX8_note_98 (fun V177 _ _ e178 o179 hZ => ?_)
          have e178 : V177 (u75) = some (.inl (cs 2, 900, .inr (.inl (vp_updL (g155) ((k : Int32).toNatClampNeg) (y174))))) := e178
          have hP := hP.put hu78 e178 o179 (hq_c3 (by omega)) rfl
          obtain ⟨y180, ey181⟩ : ∃ y : Int32, y = i + (1) := ⟨_, rfl⟩
          obtain ⟨k182, hk183, b184, b185⟩ := hq_add (i) (1)
          rw [← ey181] at hk183 b184 b185
          have hk183 : (y180).toInt = (i).toInt + (1) + k182 * 4294967296 := hk183
          refine lv_iinc (v := y180) (lv' := [(3, .int (y180)), (5, .long (r60)), (4, .ref (u49)), (0, .ref (t)), (1, .int (k)), (2, .ref (f))]) hx hb dX8_note_99 hl (k := 2) rfl (by rw [ey181]; rfl) (by decide) rfl (fun ls hl => ?_)
          refine lv_goto (tgt := 23) hx hb dX8_note_102 (by decide) ?_
          exact ih23 _ (by omega) _ _ _ ls (y180) rfl hZ hP (by omega) (by omega) (lv_sub hl [0, 3, 4, 5] rfl)

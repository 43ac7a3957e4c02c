set_option maxHeartbeats 4000000 in
set_option maxRecDepth 100000 in
theorem t_X6_sound (l : Launch) (D : va_G) (cs : Nat → ClassId) (B : Nat) (G : hq_G) (V : hp_V) (n : Nat) (hI : hq_I cs G V) (b : Nat) (t : Nat) (h_t : G t = some (11, 0, 0, 0)) (u : Nat) (h_u : G u = some (5, b, 0, 0)) (w : Nat) (h_w : G w = some (0, 30, 0, 0)) : hp_M l yX6_sound cX6_sound 7 (some .boolean) ({ frames := 3, cells := 0, slots := 0, locals := 67 }) D cs B V n [.ref (t), .ref (u), .ref (w)] (hp_QI D cs B (fun r V' n' => n = n' ∧ hq_P cs G (fun g => g.1 == 5 || g.1 == 7) V V' ∧ (0 ≤ r.toInt ∧ r.toInt ≤ 1))) 0 0 := by
  refine hp_walk (R0 := RX6) (by decide) rfl ?_ (Nat.le_of_ble_eq_true rfl)
  intro p e s m below meth c ls hx hb hr hts hown hlocks hin hml hZ hl
  have hP : hq_P cs G (fun g => g.1 == 5 || g.1 == 7) V V := hq_P.rf hI
  have hl : lv_has ls 7 [(0, .ref (t)), (1, .ref (u)), (2, .ref (w))] := hl
  refine lv_iconst (v := 0) hx hb dX6_sound_0 (by decide) ?_
  refine lv_istore_n (lv' := [(3, .int (0)), (0, .ref (t)), (1, .ref (u)), (2, .ref (w))]) hx hb dX6_sound_1 rfl hl (by decide) rfl (fun ls hl => ?_)
  refine lv_aload_n hx hb dX6_sound_2 rfl (lv_at hl 1 rfl) ?_
  obtain ⟨u2, u3, u4, u5, z6, eV1, hu7, hu8, hu9, hu10, h11, h12⟩ := hq_o11 hP.1 h_t
  refine hp_get (v := .ref (u5)) hx hb hts hown hZ eV1 fl_X6_29 rfl dX6_sound_3 ?_
  obtain ⟨u20, z21, eV19, hu22, h23, h24, h25⟩ := hq_o0 hP.1 hu10
  refine hp_callv (hp_runV (As := []) (rest := []) hx hb hml hown hts (t_X9_clear l D cs B G (fun g => g.1 == 5) V n hP.1 30 (u5) hu10 rfl) hZ eV19 cv_X6_133 rfl rfl ⟨Nat.le_of_ble_eq_true rfl, Nat.le_of_ble_eq_true rfl⟩ rfl hl.1 rfl (Nat.le_of_ble_eq_true rfl) dX6_sound_6 ⟨(Nat.le_of_ble_eq_true rfl), (Nat.le_of_ble_eq_true rfl)⟩) hZ (fun V13 n14 _ _ hw15 hZ => ?_)
  obtain ⟨rfl, hq17⟩ := hw15
  have hP := hP.trans hq17 (by intro g h; simp_all)
  refine lv_iconst (v := 0) hx hb dX6_sound_9 (by decide) ?_
  refine lv_istore (lv' := [(4, .int (0)), (3, .int (0)), (0, .ref (t)), (1, .ref (u)), (2, .ref (w))]) hx hb dX6_sound_10 hl (by decide) rfl (fun ls hl => ?_)
  have hl26 : (0 : Int32).toInt = 0 := by decide
  have hl27 : (0 : Int32).toInt = 0 := by decide
  suffices lp12 : ∀ (k9 : Nat) (V9 : hp_V) (H9 : Heap) (locs9 : List Loc) (ls : Array Slot) (fr : Int32) (i : Int32), (100 - i.toInt).toNat = k9 → hp_Z D cs B s V9 H9 n locs9 → hq_P cs G (fun g => g.1 == 5 || g.1 == 7) V V9 → 0 ≤ fr.toInt → fr.toInt ≤ 200000 → 0 ≤ i.toInt → i.toInt ≤ 30 → lv_has ls 7 [(4, .int (i)), (3, .int (fr)), (0, .ref (t)), (1, .ref (u)), (2, .ref (w))] → W p l e ({ frames := 3, cells := 0, slots := 0, locals := 67 }) s m ([.ref (t), .ref (u), .ref (w)] : List Value).toArray below meth c H9 locs9 0 0 (MQ below (hp_QI D cs B (fun r V' n' => n = n' ∧ hq_P cs G (fun g => g.1 == 5 || g.1 == 7) V V' ∧ (0 ≤ r.toInt ∧ r.toInt ≤ 1))) ([.ref (t), .ref (u), .ref (w)] : List Value).toArray s 0 0 (hp_F B)) (F0 m 12 ls []) from lp12 _ _ _ _ ls (0) (0) rfl hZ hP (by omega) (by omega) (by omega) (by omega) (lv_sub hl [0, 1, 2, 3, 4] rfl)
  intro k9
  induction k9 using Nat.strongRecOn with
  | _ k9 ih12 =>
    intro V9 H9 locs9 ls fr i  hk12 hZ hP  hv28 hv29 hv30 hv31 hl
    have hb_fr := hq_rng fr
    have hb_i := hq_rng i
    have hP_12 := hP
    refine lv_iload hx hb dX6_sound_12 (lv_at hl 0 rfl) ?_
    refine lv_bipush (v := 30) hx hb dX6_sound_14 (by decide) ?_
    refine lv_icmp_ge (tgt := 130) hx hb dX6_sound_16 (by decide) (fun c32 => ?_) (fun c32 => ?_)
    · have c32 : (30 : Int) ≤ (i).toInt := hq_lei.mp c32
      refine lv_iload_n hx hb dX6_sound_130 rfl (lv_at hl 1 rfl) ?_
      refine lv_if_eq (tgt := 148) hx hb dX6_sound_131 (by decide) (fun c33 => ?_) (fun c33 => ?_)
      · have c33 : (fr).toInt = (0 : Int) := hq_eqi.mp c33
        refine lv_iconst (v := 0) hx hb dX6_sound_148 (by decide) ?_
        exact hp_zret hx hb hr rfl hlocks hZ ⟨rfl, hP, (by decide)⟩ dX6_sound_149
      · have c33 : ¬ (fr).toInt = (0 : Int) := fun h9 => c33 (hq_eqi.mpr h9)
        refine lv_aload_n hx hb dX6_sound_134 rfl (lv_at hl 3 rfl) ?_
        obtain ⟨z35, z36, z37, z38, z39, z40, z41, z42, u43, u44, eV34, hu45, hu46, h47, h48⟩ := hq_o5 hP.1 h_u
        refine hp_get (v := .ref (u43)) hx hb hts hown hZ eV34 fl_X6_107 rfl dX6_sound_135 ?_
        refine lv_aload_n hx hb dX6_sound_138 rfl (lv_at hl 3 rfl) ?_
        refine hp_get (v := .ref (u44)) hx hb hts hown hZ eV34 fl_X6_151 rfl dX6_sound_139 ?_
        obtain ⟨u56, z57, eV55, hu58, h59, h60, h61⟩ := hq_o0 hP.1 hu45
        refine hp_calli (hp_runV (As := [.ref (u44)]) (rest := []) hx hb hml hown hts (t_X9_same l D cs B G  V9 n hP.1 8 8 (u43) hu45 (u44) hu46 ) hZ eV55 cv_X6_154 rfl rfl ⟨Nat.le_of_ble_eq_true rfl, Nat.le_of_ble_eq_true rfl⟩ rfl hl.1 rfl (Nat.le_of_ble_eq_true rfl) dX6_sound_142 ⟨(Nat.le_of_ble_eq_true rfl), (Nat.le_of_ble_eq_true rfl)⟩) hZ (fun r52 V49 n50 _ _ hw51 hZ => ?_)
        obtain ⟨rfl, hq53, hr54⟩ := hw51
        have hP := hP.trans hq53 (fun _ _ => rfl)
        have b62 := hq_rng r52
        refine lv_if_eq (tgt := 150) hx hb dX6_sound_145 (by decide) (fun c63 => ?_) (fun c63 => ?_)
        · have c63 : (r52).toInt = (0 : Int) := hq_eqi.mp c63
          refine lv_aload_n hx hb dX6_sound_150 rfl (lv_at hl 2 rfl) ?_
          refine lv_aload_n hx hb dX6_sound_151 rfl (lv_at hl 2 rfl) ?_
          obtain ⟨u65, u66, u67, u68, z69, eV64, hu70, hu71, hu72, hu73, h74, h75⟩ := hq_o11 hP.1 h_t
          refine hp_get (v := .int (z69)) hx hb hts hown hZ eV64 fl_X6_118 rfl dX6_sound_152 ?_
          refine lv_if_eq (tgt := 178) hx hb dX6_sound_155 (by decide) (fun c76 => ?_) (fun c76 => ?_)
          · have c76 : (z69).toInt = (0 : Int) := hq_eqi.mp c76
            refine lv_iconst (v := 0) hx hb dX6_sound_178 (by decide) ?_
            refine hp_put hx hb hts hown hZ eV64 fp_X6_118 rfl rfl (Nat.le_of_ble_eq_true rfl) dX6_sound_179 (fun V77 _ _ e78 o79 hZ => ?_)
            have e78 : V77 (t) = some (.inr (6, [.ref (u65), .int (0), .ref (u66), .ref (u67), .ref (u68)])) := e78
            have hP := hP.put h_t e78 o79 (hq_c11 hu70 hu71 hu72 hu73 (show 0 ≤ (0 : Int) by omega) (show (0 : Int) ≤ 1 by omega) (by first | rfl | exact hsh.1 | omega) (by first | rfl | exact hsh.2.1 | omega) (by first | rfl | exact hsh.2.2.1 | omega) (by first | rfl | exact hsh.2.2.2 | omega)) rfl
            refine lv_aload_n hx hb dX6_sound_182 rfl (lv_at hl 4 rfl) ?_
            refine lv_aload_n hx hb dX6_sound_183 rfl (lv_at hl 2 rfl) ?_
            refine hp_get (v := .ref (u68)) hx hb hts hown hZ e78 fl_X6_29 rfl dX6_sound_184 ?_
            obtain ⟨u87, z88, eV86, hu89, h90, h91, h92⟩ := hq_o0 hP.1 h_w
            refine hp_callv (hp_runV (As := [.ref (u68)]) (rest := []) hx hb hml hown hts (t_X9_set l D cs B G (fun g => g.1 == 5) V77 n hP.1 30 30 (w) h_w (u68) hu73 rfl rfl) hZ eV86 cv_X6_157 rfl rfl ⟨Nat.le_of_ble_eq_true rfl, Nat.le_of_ble_eq_true rfl⟩ rfl hl.1 rfl (Nat.le_of_ble_eq_true rfl) dX6_sound_187 ⟨(Nat.le_of_ble_eq_true rfl), (Nat.le_of_ble_eq_true rfl)⟩) hZ (fun V80 n81 _ _ hw82 hZ => ?_)
            obtain ⟨rfl, hq84⟩ := hw82
            have hP := hP.trans hq84 (by intro g h; simp_all)
            refine lv_iconst (v := 1) hx hb dX6_sound_190 (by decide) ?_
            exact hp_zret hx hb hr rfl hlocks hZ ⟨rfl, hP, (by decide)⟩ dX6_sound_191
          · have c76 : ¬ (z69).toInt = (0 : Int) := fun h9 => c76 (hq_eqi.mpr h9)
            refine lv_aload_n hx hb dX6_sound_158 rfl (lv_at hl 2 rfl) ?_
            refine hp_get (v := .ref (u68)) hx hb hts hown hZ eV64 fl_X6_29 rfl dX6_sound_159 ?_
            refine lv_aload_n hx hb dX6_sound_162 rfl (lv_at hl 4 rfl) ?_
            refine lv_iload_n hx hb dX6_sound_163 rfl (lv_at hl 1 rfl) ?_
            refine lv_aload_n hx hb dX6_sound_164 rfl (lv_at hl 4 rfl) ?_
            obtain ⟨u94, z95, eV93, hu96, h97, h98, h99⟩ := hq_o0 hP.1 h_w
            refine hp_get (v := .int (z95)) hx hb hts hown hZ eV93 fl_X6_132 rfl dX6_sound_165 ?_
            obtain ⟨u107, z108, eV106, hu109, h110, h111, h112⟩ := hq_o0 hP.1 hu73
            refine hp_calli (hp_runV (As := [.ref (w), .int (fr), .int (z95)]) (rest := [.ref (t)]) hx hb hml hown hts (t_X9_addPart l D cs B G (fun g => g.1 == 5) V49 n hP.1 30 30 (u68) hu73 (w) h_w (fr) (z95) rfl rfl (by first | omega | decide)) hZ eV106 cv_X6_147 rfl rfl ⟨Nat.le_of_ble_eq_true rfl, Nat.le_of_ble_eq_true rfl⟩ rfl hl.1 rfl (Nat.le_of_ble_eq_true rfl) dX6_sound_168 ⟨(Nat.le_of_ble_eq_true rfl), (Nat.le_of_ble_eq_true rfl)⟩) hZ (fun r103 V100 n101 _ _ hw102 hZ => ?_)
            obtain ⟨rfl, hq104, hr105⟩ := hw102
            have hP := hP.trans hq104 (by intro g h; simp_all)
            have b113 := hq_rng r103
            refine lv_if_eq (tgt := 178) hx hb dX6_sound_171 (by decide) (fun c114 => ?_) (fun c114 => ?_)
            · have c114 : (r103).toInt = (0 : Int) := hq_eqi.mp c114
              refine lv_iconst (v := 0) hx hb dX6_sound_178 (by decide) ?_
              have fx115 : V100 (t) = some (.inr (6, [.ref (u65), .int (z69), .ref (u66), .ref (u67), .ref (u68)])) := (hq104.2 (t) _ h_t rfl).trans (eV64)
              refine hp_put hx hb hts hown hZ fx115 fp_X6_118 rfl rfl (Nat.le_of_ble_eq_true rfl) dX6_sound_179 (fun V116 _ _ e117 o118 hZ => ?_)
              have e117 : V116 (t) = some (.inr (6, [.ref (u65), .int (0), .ref (u66), .ref (u67), .ref (u68)])) := e117
              have hP := hP.put h_t e117 o118 (hq_c11 hu70 hu71 hu72 hu73 (show 0 ≤ (0 : Int) by omega) (show (0 : Int) ≤ 1 by omega) (by first | rfl | exact hsh.1 | omega) (by first | rfl | exact hsh.2.1 | omega) (by first | rfl | exact hsh.2.2.1 | omega) (by first | rfl | exact hsh.2.2.2 | omega)) rfl
              refine lv_aload_n hx hb dX6_sound_182 rfl (lv_at hl 4 rfl) ?_
              refine lv_aload_n hx hb dX6_sound_183 rfl (lv_at hl 2 rfl) ?_
              refine hp_get (v := .ref (u68)) hx hb hts hown hZ e117 fl_X6_29 rfl dX6_sound_184 ?_
              obtain ⟨u126, z127, eV125, hu128, h129, h130, h131⟩ := hq_o0 hP.1 h_w
              refine hp_callv (hp_runV (As := [.ref (u68)]) (rest := []) hx hb hml hown hts (t_X9_set l D cs B G (fun g => g.1 == 5) V116 n hP.1 30 30 (w) h_w (u68) hu73 rfl rfl) hZ eV125 cv_X6_157 rfl rfl ⟨Nat.le_of_ble_eq_true rfl, Nat.le_of_ble_eq_true rfl⟩ rfl hl.1 rfl (Nat.le_of_ble_eq_true rfl) dX6_sound_187 ⟨(Nat.le_of_ble_eq_true rfl), (Nat.le_of_ble_eq_true rfl)⟩) hZ (fun V119 n120 _ _ hw121 hZ => ?_)
              obtain ⟨rfl, hq123⟩ := hw121
              have hP := hP.trans hq123 (by intro g h; simp_all)
              refine lv_iconst (v := 1) hx hb dX6_sound_190 (by decide) ?_
              exact hp_zret hx hb hr rfl hlocks hZ ⟨rfl, hP, (by decide)⟩ dX6_sound_191
            · have c114 : ¬ (r103).toInt = (0 : Int) := fun h9 => c114 (hq_eqi.mpr h9)
              refine lv_iconst (v := 1) hx hb dX6_sound_174 (by decide) ?_
              refine lv_goto (tgt := 179) hx hb dX6_sound_175 (by decide) ?_
              have fx132 : V100 (t) = some (.inr (6, [.ref (u65), .int (z69), .ref (u66), .ref (u67), .ref (u68)])) := (hq104.2 (t) _ h_t rfl).trans (eV64)
              refine hp_put hx hb hts hown hZ fx132 fp_X6_118 rfl rfl (Nat.le_of_ble_eq_true rfl) dX6_sound_179 (fun V133 _ _ e134 o135 hZ => ?_)
              have e134 : V133 (t) = some (.inr (6, [.ref (u65), .int (1), .ref (u66), .ref (u67), .ref (u68)])) := e134
              have hP := hP.put h_t e134 o135 (hq_c11 hu70 hu71 hu72 hu73 (show 0 ≤ (1 : Int) by omega) (show (1 : Int) ≤ 1 by omega) (by first | rfl | exact hsh.1 | omega) (by first | rfl | exact hsh.2.1 | omega) (by first | rfl | exact hsh.2.2.1 | omega) (by first | rfl | exact hsh.2.2.2 | omega)) rfl
              refine lv_aload_n hx hb dX6_sound_182 rfl (lv_at hl 4 rfl) ?_
              refine lv_aload_n hx hb dX6_sound_183 rfl (lv_at hl 2 rfl) ?_
              refine hp_get (v := .ref (u68)) hx hb hts hown hZ e134 fl_X6_29 rfl dX6_sound_184 ?_
              obtain ⟨u143, z144, eV142, hu145, h146, h147, h148⟩ := hq_o0 hP.1 h_w
              refine hp_callv (hp_runV (As := [.ref (u68)]) (rest := []) hx hb hml hown hts (t_X9_set l D cs B G (fun g => g.1 == 5) V133 n hP.1 30 30 (w) h_w (u68) hu73 rfl rfl) hZ eV142 cv_X6_157 rfl rfl ⟨Nat.le_of_ble_eq_true rfl, Nat.le_of_ble_eq_true rfl⟩ rfl hl.1 rfl (Nat.le_of_ble_eq_true rfl) dX6_sound_187 ⟨(Nat.le_of_ble_eq_true rfl), (Nat.le_of_ble_eq_true rfl)⟩) hZ (fun V136 n137 _ _ hw138 hZ => ?_)
              obtain ⟨rfl, hq140⟩ := hw138
              have hP := hP.trans hq140 (by intro g h; simp_all)
              refine lv_iconst (v := 1) hx hb dX6_sound_190 (by decide) ?_
              exact hp_zret hx hb hr rfl hlocks hZ ⟨rfl, hP, (by decide)⟩ dX6_sound_191
        · have c63 : ¬ (r52).toInt = (0 : Int) := fun h9 => c63 (hq_eqi.mpr h9)
          refine lv_iconst (v := 0) hx hb dX6_sound_148 (by decide) ?_
          exact hp_zret hx hb hr rfl hlocks hZ ⟨rfl, hP, (by decide)⟩ dX6_sound_149
    · have c32 : ¬ (30 : Int) ≤ (i).toInt := fun h9 => c32 (hq_lei.mpr h9)
      refine lv_aload_n hx hb dX6_sound_19 rfl (lv_at hl 2 rfl) ?_
      obtain ⟨u150, u151, u152, u153, z154, eV149, hu155, hu156, hu157, hu158, h159, h160⟩ := hq_o11 hP.1 h_t
      refine hp_get (v := .int (z154)) hx hb hts hown hZ eV149 fl_X6_118 rfl dX6_sound_20 ?_
      refine lv_if_eq (tgt := 130) hx hb dX6_sound_23 (by decide) (fun c161 => ?_) (fun c161 => ?_)
      · have c161 : (z154).toInt = (0 : Int) := hq_eqi.mp c161
        refine lv_iload_n hx hb dX6_sound_130 rfl (lv_at hl 1 rfl) ?_
        refine lv_if_eq (tgt := 148) hx hb dX6_sound_131 (by decide) (fun c162 => ?_) (fun c162 => ?_)
        · have c162 : (fr).toInt = (0 : Int) := hq_eqi.mp c162
          refine lv_iconst (v := 0) hx hb dX6_sound_148 (by decide) ?_
          exact hp_zret hx hb hr rfl hlocks hZ ⟨rfl, hP, (by decide)⟩ dX6_sound_149
        · have c162 : ¬ (fr).toInt = (0 : Int) := fun h9 => c162 (hq_eqi.mpr h9)
          refine lv_aload_n hx hb dX6_sound_134 rfl (lv_at hl 3 rfl) ?_
          obtain ⟨z164, z165, z166, z167, z168, z169, z170, z171, u172, u173, eV163, hu174, hu175, h176, h177⟩ := hq_o5 hP.1 h_u
          refine hp_get (v := .ref (u172)) hx hb hts hown hZ eV163 fl_X6_107 rfl dX6_sound_135 ?_
          refine lv_aload_n hx hb dX6_sound_138 rfl (lv_at hl 3 rfl) ?_
          refine hp_get (v := .ref (u173)) hx hb hts hown hZ eV163 fl_X6_151 rfl dX6_sound_139 ?_
          obtain ⟨u185, z186, eV184, hu187, h188, h189, h190⟩ := hq_o0 hP.1 hu174
          refine hp_calli (hp_runV (As := [.ref (u173)]) (rest := []) hx hb hml hown hts (t_X9_same l D cs B G  V9 n hP.1 8 8 (u172) hu174 (u173) hu175 ) hZ eV184 cv_X6_154 rfl rfl ⟨Nat.le_of_ble_eq_true rfl, Nat.le_of_ble_eq_true rfl⟩ rfl hl.1 rfl (Nat.le_of_ble_eq_true rfl) dX6_sound_142 ⟨(Nat.le_of_ble_eq_true rfl), (Nat.le_of_ble_eq_true rfl)⟩) hZ (fun r181 V178 n179 _ _ hw180 hZ => ?_)
          obtain ⟨rfl, hq182, hr183⟩ := hw180
          have hP := hP.trans hq182 (fun _ _ => rfl)
          have b191 := hq_rng r181
          refine lv_if_eq (tgt := 150) hx hb dX6_sound_145 (by decide) (fun c192 => ?_) (fun c192 => ?_)
          · have c192 : (r181).toInt = (0 : Int) := hq_eqi.mp c192
            refine lv_aload_n hx hb dX6_sound_150 rfl (lv_at hl 2 rfl) ?_
            refine lv_aload_n hx hb dX6_sound_151 rfl (lv_at hl 2 rfl) ?_
            have fx193 : V178 (t) = some (.inr (6, [.ref (u150), .int (z154), .ref (u151), .ref (u152), .ref (u153)])) := (hq182.2 (t) _ h_t rfl).trans (eV149)
            refine hp_get (v := .int (z154)) hx hb hts hown hZ fx193 fl_X6_118 rfl dX6_sound_152 ?_
            refine lv_if_eq (tgt := 178) hx hb dX6_sound_155 (by decide) (fun c194 => ?_) (fun c194 => ?_)
            · have c194 : (z154).toInt = (0 : Int) := hq_eqi.mp c194
              refine lv_iconst (v := 0) hx hb dX6_sound_178 (by decide) ?_
              refine hp_put hx hb hts hown hZ fx193 fp_X6_118 rfl rfl (Nat.le_of_ble_eq_true rfl) dX6_sound_179 (fun V195 _ _ e196 o197 hZ => ?_)
              have e196 : V195 (t) = some (.inr (6, [.ref (u150), .int (0), .ref (u151), .ref (u152), .ref (u153)])) := e196
              have hP := hP.put h_t e196 o197 (hq_c11 hu155 hu156 hu157 hu158 (show 0 ≤ (0 : Int) by omega) (show (0 : Int) ≤ 1 by omega) (by first | rfl | exact hsh.1 | omega) (by first | rfl | exact hsh.2.1 | omega) (by first | rfl | exact hsh.2.2.1 | omega) (by first | rfl | exact hsh.2.2.2 | omega)) rfl
              refine lv_aload_n hx hb dX6_sound_182 rfl (lv_at hl 4 rfl) ?_
              refine lv_aload_n hx hb dX6_sound_183 rfl (lv_at hl 2 rfl) ?_
              refine hp_get (v := .ref (u153)) hx hb hts hown hZ e196 fl_X6_29 rfl dX6_sound_184 ?_
              obtain ⟨u205, z206, eV204, hu207, h208, h209, h210⟩ := hq_o0 hP.1 h_w
              refine hp_callv (hp_runV (As := [.ref (u153)]) (rest := []) hx hb hml hown hts (t_X9_set l D cs B G (fun g => g.1 == 5) V195 n hP.1 30 30 (w) h_w (u153) hu158 rfl rfl) hZ eV204 cv_X6_157 rfl rfl ⟨Nat.le_of_ble_eq_true rfl, Nat.le_of_ble_eq_true rfl⟩ rfl hl.1 rfl (Nat.le_of_ble_eq_true rfl) dX6_sound_187 ⟨(Nat.le_of_ble_eq_true rfl), (Nat.le_of_ble_eq_true rfl)⟩) hZ (fun V198 n199 _ _ hw200 hZ => ?_)
              obtain ⟨rfl, hq202⟩ := hw200
              have hP := hP.trans hq202 (by intro g h; simp_all)
              refine lv_iconst (v := 1) hx hb dX6_sound_190 (by decide) ?_
              exact hp_zret hx hb hr rfl hlocks hZ ⟨rfl, hP, (by decide)⟩ dX6_sound_191
            · have c194 : ¬ (z154).toInt = (0 : Int) := fun h9 => c194 (hq_eqi.mpr h9)
              refine lv_aload_n hx hb dX6_sound_158 rfl (lv_at hl 2 rfl) ?_
              refine hp_get (v := .ref (u153)) hx hb hts hown hZ fx193 fl_X6_29 rfl dX6_sound_159 ?_
              refine lv_aload_n hx hb dX6_sound_162 rfl (lv_at hl 4 rfl) ?_
              refine lv_iload_n hx hb dX6_sound_163 rfl (lv_at hl 1 rfl) ?_
              refine lv_aload_n hx hb dX6_sound_164 rfl (lv_at hl 4 rfl) ?_
              obtain ⟨u212, z213, eV211, hu214, h215, h216, h217⟩ := hq_o0 hP.1 h_w
              refine hp_get (v := .int (z213)) hx hb hts hown hZ eV211 fl_X6_132 rfl dX6_sound_165 ?_
              obtain ⟨u225, z226, eV224, hu227, h228, h229, h230⟩ := hq_o0 hP.1 hu158
              refine hp_calli (hp_runV (As := [.ref (w), .int (fr), .int (z213)]) (rest := [.ref (t)]) hx hb hml hown hts (t_X9_addPart l D cs B G (fun g => g.1 == 5) V178 n hP.1 30 30 (u153) hu158 (w) h_w (fr) (z213) rfl rfl (by first | omega | decide)) hZ eV224 cv_X6_147 rfl rfl ⟨Nat.le_of_ble_eq_true rfl, Nat.le_of_ble_eq_true rfl⟩ rfl hl.1 rfl (Nat.le_of_ble_eq_true rfl) dX6_sound_168 ⟨(Nat.le_of_ble_eq_true rfl), (Nat.le_of_ble_eq_true rfl)⟩) hZ (fun r221 V218 n219 _ _ hw220 hZ => ?_)
              obtain ⟨rfl, hq222, hr223⟩ := hw220
              have hP := hP.trans hq222 (by intro g h; simp_all)
              have b231 := hq_rng r221
              refine lv_if_eq (tgt := 178) hx hb dX6_sound_171 (by decide) (fun c232 => ?_) (fun c232 => ?_)
              · have c232 : (r221).toInt = (0 : Int) := hq_eqi.mp c232
                refine lv_iconst (v := 0) hx hb dX6_sound_178 (by decide) ?_
                have fx233 : V218 (t) = some (.inr (6, [.ref (u150), .int (z154), .ref (u151), .ref (u152), .ref (u153)])) := (hq222.2 (t) _ h_t rfl).trans (fx193)
                refine hp_put hx hb hts hown hZ fx233 fp_X6_118 rfl rfl (Nat.le_of_ble_eq_true rfl) dX6_sound_179 (fun V234 _ _ e235 o236 hZ => ?_)
                have e235 : V234 (t) = some (.inr (6, [.ref (u150), .int (0), .ref (u151), .ref (u152), .ref (u153)])) := e235
                have hP := hP.put h_t e235 o236 (hq_c11 hu155 hu156 hu157 hu158 (show 0 ≤ (0 : Int) by omega) (show (0 : Int) ≤ 1 by omega) (by first | rfl | exact hsh.1 | omega) (by first | rfl | exact hsh.2.1 | omega) (by first | rfl | exact hsh.2.2.1 | omega) (by first | rfl | exact hsh.2.2.2 | omega)) rfl
                refine lv_aload_n hx hb dX6_sound_182 rfl (lv_at hl 4 rfl) ?_
                refine lv_aload_n hx hb dX6_sound_183 rfl (lv_at hl 2 rfl) ?_
                refine hp_get (v := .ref (u153)) hx hb hts hown hZ e235 fl_X6_29 rfl dX6_sound_184 ?_
                obtain ⟨u244, z245, eV243, hu246, h247, h248, h249⟩ := hq_o0 hP.1 h_w
                refine hp_callv (hp_runV (As := [.ref (u153)]) (rest := []) hx hb hml hown hts (t_X9_set l D cs B G (fun g => g.1 == 5) V234 n hP.1 30 30 (w) h_w (u153) hu158 rfl rfl) hZ eV243 cv_X6_157 rfl rfl ⟨Nat.le_of_ble_eq_true rfl, Nat.le_of_ble_eq_true rfl⟩ rfl hl.1 rfl (Nat.le_of_ble_eq_true rfl) dX6_sound_187 ⟨(Nat.le_of_ble_eq_true rfl), (Nat.le_of_ble_eq_true rfl)⟩) hZ (fun V237 n238 _ _ hw239 hZ => ?_)
                obtain ⟨rfl, hq241⟩ := hw239
                have hP := hP.trans hq241 (by intro g h; simp_all)
                refine lv_iconst (v := 1) hx hb dX6_sound_190 (by decide) ?_
                exact hp_zret hx hb hr rfl hlocks hZ ⟨rfl, hP, (by decide)⟩ dX6_sound_191
              · have c232 : ¬ (r221).toInt = (0 : Int) := fun h9 => c232 (hq_eqi.mpr h9)
                refine lv_iconst (v := 1) hx hb dX6_sound_174 (by decide) ?_
                refine lv_goto (tgt := 179) hx hb dX6_sound_175 (by decide) ?_
                have fx250 : V218 (t) = some (.inr (6, [.ref (u150), .int (z154), .ref (u151), .ref (u152), .ref (u153)])) := (hq222.2 (t) _ h_t rfl).trans (fx193)
                refine hp_put hx hb hts hown hZ fx250 fp_X6_118 rfl rfl (Nat.le_of_ble_eq_true rfl) dX6_sound_179 (fun V251 _ _ e252 o253 hZ => ?_)
                have e252 : V251 (t) = some (.inr (6, [.ref (u150), .int (1), .ref (u151), .ref (u152), .ref (u153)])) := e252
                have hP := hP.put h_t e252 o253 (hq_c11 hu155 hu156 hu157 hu158 (show 0 ≤ (1 : Int) by omega) (show (1 : Int) ≤ 1 by omega) (by first | rfl | exact hsh.1 | omega) (by first | rfl | exact hsh.2.1 | omega) (by first | rfl | exact hsh.2.2.1 | omega) (by first | rfl | exact hsh.2.2.2 | omega)) rfl
                refine lv_aload_n hx hb dX6_sound_182 rfl (lv_at hl 4 rfl) ?_
                refine lv_aload_n hx hb dX6_sound_183 rfl (lv_at hl 2 rfl) ?_
                refine hp_get (v := .ref (u153)) hx hb hts hown hZ e252 fl_X6_29 rfl dX6_sound_184 ?_
                obtain ⟨u261, z262, eV260, hu263, h264, h265, h266⟩ := hq_o0 hP.1 h_w
                refine hp_callv (hp_runV (As := [.ref (u153)]) (rest := []) hx hb hml hown hts (t_X9_set l D cs B G (fun g => g.1 == 5) V251 n hP.1 30 30 (w) h_w (u153) hu158 rfl rfl) hZ eV260 cv_X6_157 rfl rfl ⟨Nat.le_of_ble_eq_true rfl, Nat.le_of_ble_eq_true rfl⟩ rfl hl.1 rfl (Nat.le_of_ble_eq_true rfl) dX6_sound_187 ⟨(Nat.le_of_ble_eq_true rfl), (Nat.le_of_ble_eq_true rfl)⟩) hZ (fun V254 n255 _ _ hw256 hZ => ?_)
                obtain ⟨rfl, hq258⟩ := hw256
                have hP := hP.trans hq258 (by intro g h; simp_all)
                refine lv_iconst (v := 1) hx hb dX6_sound_190 (by decide) ?_
                exact hp_zret hx hb hr rfl hlocks hZ ⟨rfl, hP, (by decide)⟩ dX6_sound_191
          · have c192 : ¬ (r181).toInt = (0 : Int) := fun h9 => c192 (hq_eqi.mpr h9)
            refine lv_iconst (v := 0) hx hb dX6_sound_148 (by decide) ?_
            exact hp_zret hx hb hr rfl hlocks hZ ⟨rfl, hP, (by decide)⟩ dX6_sound_149
      · have c161 : ¬ (z154).toInt = (0 : Int) := fun h9 => c161 (hq_eqi.mpr h9)
        refine lv_aload_n hx hb dX6_sound_26 rfl (lv_at hl 3 rfl) ?_
        obtain ⟨z268, z269, z270, z271, z272, z273, z274, z275, u276, u277, eV267, hu278, hu279, h280, h281⟩ := hq_o5 hP.1 h_u
        refine hp_get (v := .int (z275)) hx hb hts hown hZ eV267 fl_X6_134 rfl dX6_sound_27 ?_
        refine lv_if_eq (tgt := 52) hx hb dX6_sound_30 (by decide) (fun c282 => ?_) (fun c282 => ?_)
        · have c282 : (z275).toInt = (0 : Int) := hq_eqi.mp c282
          refine lv_iload_n hx hb dX6_sound_52 rfl (lv_at hl 1 rfl) ?_
          refine lv_istore (lv' := [(5, .int (fr)), (4, .int (i)), (3, .int (fr)), (0, .ref (t)), (1, .ref (u)), (2, .ref (w))]) hx hb dX6_sound_53 hl (by decide) rfl (fun ls hl => ?_)
          refine lv_aload_n hx hb dX6_sound_55 rfl (lv_at hl 5 rfl) ?_
          refine lv_aload_n hx hb dX6_sound_56 rfl (lv_at hl 4 rfl) ?_
          refine hp_get (v := .ref (u276)) hx hb hts hown hZ eV267 fl_X6_107 rfl dX6_sound_57 ?_
          refine lv_iload hx hb dX6_sound_60 (lv_at hl 0 rfl) ?_
          obtain ⟨u290, z291, eV289, hu292, h293, h294, h295⟩ := hq_o0 hP.1 h_w
          refine hp_calli (hp_runV (As := [.ref (u276), .int (fr)]) (rest := []) hx hb hml hown hts (t_X9_firstPlaceOf l D cs B G  V9 n hP.1 30 8 (w) h_w (u276) hu278 (fr) (by omega)) hZ eV289 cv_X6_143 rfl rfl ⟨Nat.le_of_ble_eq_true rfl, Nat.le_of_ble_eq_true rfl⟩ rfl hl.1 rfl (Nat.le_of_ble_eq_true rfl) dX6_sound_62 ⟨(Nat.le_of_ble_eq_true rfl), (Nat.le_of_ble_eq_true rfl)⟩) hZ (fun r286 V283 n284 _ _ hw285 hZ => ?_)
          obtain ⟨rfl, hq287, hr288⟩ := hw285
          have hP := hP.trans hq287 (fun _ _ => rfl)
          have b296 := hq_rng r286
          refine lv_istore (lv' := [(6, .int (r286)), (5, .int (fr)), (4, .int (i)), (3, .int (fr)), (0, .ref (t)), (1, .ref (u)), (2, .ref (w))]) hx hb dX6_sound_65 hl (by decide) rfl (fun ls hl => ?_)
          refine lv_iload hx hb dX6_sound_67 (lv_at hl 0 rfl) ?_
          refine lv_iconst (v := -1) hx hb dX6_sound_69 (by decide) ?_
          refine lv_icmp_ne (tgt := 76) hx hb dX6_sound_70 (by decide) (fun c297 => ?_) (fun c297 => ?_)
          · have c297 : ¬ (r286).toInt = (-1 : Int) := fun h9 => c297 (hq_eqi.mpr h9)
            refine lv_aload_n hx hb dX6_sound_76 rfl (lv_at hl 4 rfl) ?_
            refine lv_aload_n hx hb dX6_sound_77 rfl (lv_at hl 4 rfl) ?_
            have fx298 : V283 (t) = some (.inr (6, [.ref (u150), .int (z154), .ref (u151), .ref (u152), .ref (u153)])) := (hq287.2 (t) _ h_t rfl).trans (eV149)
            refine hp_get (v := .ref (u153)) hx hb hts hown hZ fx298 fl_X6_29 rfl dX6_sound_78 ?_
            refine lv_aload_n hx hb dX6_sound_81 rfl (lv_at hl 6 rfl) ?_
            refine lv_iload_n hx hb dX6_sound_82 rfl (lv_at hl 3 rfl) ?_
            refine lv_iload hx hb dX6_sound_83 (lv_at hl 0 rfl) ?_
            obtain ⟨u306, z307, eV305, hu308, h309, h310, h311⟩ := hq_o0 hP.1 hu158
            refine hp_calli (hp_runV (As := [.ref (w), .int (fr), .int (r286)]) (rest := [.ref (t)]) hx hb hml hown hts (t_X9_addPart l D cs B G (fun g => g.1 == 5) V283 n hP.1 30 30 (u153) hu158 (w) h_w (fr) (r286) rfl rfl (by first | omega | decide)) hZ eV305 cv_X6_147 rfl rfl ⟨Nat.le_of_ble_eq_true rfl, Nat.le_of_ble_eq_true rfl⟩ rfl hl.1 rfl (Nat.le_of_ble_eq_true rfl) dX6_sound_85 ⟨(Nat.le_of_ble_eq_true rfl), (Nat.le_of_ble_eq_true rfl)⟩) hZ (fun r302 V299 n300 _ _ hw301 hZ => ?_)
            obtain ⟨rfl, hq303, hr304⟩ := hw301
            have hP := hP.trans hq303 (by intro g h; simp_all)
            have b312 := hq_rng r302
            refine lv_if_eq (tgt := 109) hx hb dX6_sound_88 (by decide) (fun c313 => ?_) (fun c313 => ?_)
            · have c313 : (r302).toInt = (0 : Int) := hq_eqi.mp c313
              refine lv_iconst (v := 0) hx hb dX6_sound_109 (by decide) ?_
              have fx314 : V299 (t) = some (.inr (6, [.ref (u150), .int (z154), .ref (u151), .ref (u152), .ref (u153)])) := (hq303.2 (t) _ h_t rfl).trans (fx298)
              refine hp_put hx hb hts hown hZ fx314 fp_X6_118 rfl rfl (Nat.le_of_ble_eq_true rfl) dX6_sound_110 (fun V315 _ _ e316 o317 hZ => ?_)
              have e316 : V315 (t) = some (.inr (6, [.ref (u150), .int (0), .ref (u151), .ref (u152), .ref (u153)])) := e316
              have hP := hP.put h_t e316 o317 (hq_c11 hu155 hu156 hu157 hu158 (show 0 ≤ (0 : Int) by omega) (show (0 : Int) ≤ 1 by omega) (by first | rfl | exact hsh.1 | omega) (by first | rfl | exact hsh.2.1 | omega) (by first | rfl | exact hsh.2.2.1 | omega) (by first | rfl | exact hsh.2.2.2 | omega)) rfl
              refine lv_iload hx hb dX6_sound_113 (lv_at hl 0 rfl) ?_
              refine lv_aload_n hx hb dX6_sound_115 rfl (lv_at hl 5 rfl) ?_
              have fx318 : V315 (u) = some (.inr (5, [.int (z268), .int (z269), .int (z270), .int (z271), .int (z272), .int (z273), .int (z274), .int (z275), .ref (u276), .ref (u277)])) := (o317 (u) (hq_tne h_u h_t (by simp))).trans ((hq303.2 (u) _ h_u rfl).trans ((hq287.2 (u) _ h_u rfl).trans (eV267)))
              refine hp_get (v := .ref (u276)) hx hb hts hown hZ fx318 fl_X6_107 rfl dX6_sound_116 ?_
              obtain ⟨u320, z321, eV319, hu322, h323, h324, h325⟩ := hq_o0 hP.1 hu278
              refine hp_get (v := .int (z321)) hx hb hts hown hZ eV319 fl_X6_132 rfl dX6_sound_119 ?_
              refine lv_iadd hx hb dX6_sound_122 ?_
              refine lv_topi (fun y326 ey327 => ?_)
              obtain ⟨k328, hk329, b330, b331⟩ := hq_add (r286) (z321)
              rw [← ey327] at hk329 b330 b331
              have hk329 : (y326).toInt = (r286).toInt + (z321).toInt + k328 * 4294967296 := hk329
              refine lv_istore_n (lv' := [(3, .int (y326)), (6, .int (r286)), (5, .int (fr)), (4, .int (i)), (0, .ref (t)), (1, .ref (u)), (2, .ref (w))]) hx hb dX6_sound_123 rfl hl (by decide) rfl (fun ls hl => ?_)
              obtain ⟨y332, ey333⟩ : ∃ y : Int32, y = i + (1) := ⟨_, rfl⟩
              obtain ⟨k334, hk335, b336, b337⟩ := hq_add (i) (1)
              rw [← ey333] at hk335 b336 b337
              have hk335 : (y332).toInt = (i).toInt + (1) + k334 * 4294967296 := hk335
              refine lv_iinc (v := y332) (lv' := [(4, .int (y332)), (3, .int (y326)), (6, .int (r286)), (5, .int (fr)), (0, .ref (t)), (1, .ref (u)), (2, .ref (w))]) hx hb dX6_sound_124 hl (k := 3) rfl (by rw [ey333]; rfl) (by decide) rfl (fun ls hl => ?_)
              refine lv_goto (tgt := 12) hx hb dX6_sound_127 (by decide) ?_
              exact ih12 _ (by omega) _ _ _ ls (y326) (y332) rfl hZ hP (by omega) (by omega) (by omega) (by omega) (lv_sub hl [0, 1, 4, 5, 6] rfl)
            · have c313 : ¬ (r302).toInt = (0 : Int) := fun h9 => c313 (hq_eqi.mpr h9)
              refine lv_aload_n hx hb dX6_sound_91 rfl (lv_at hl 4 rfl) ?_
              have fx338 : V299 (t) = some (.inr (6, [.ref (u150), .int (z154), .ref (u151), .ref (u152), .ref (u153)])) := (hq303.2 (t) _ h_t rfl).trans (fx298)
              refine hp_get (v := .ref (u153)) hx hb hts hown hZ fx338 fl_X6_29 rfl dX6_sound_92 ?_
              refine lv_aload_n hx hb dX6_sound_95 rfl (lv_at hl 5 rfl) ?_
              have fx339 : V299 (u) = some (.inr (5, [.int (z268), .int (z269), .int (z270), .int (z271), .int (z272), .int (z273), .int (z274), .int (z275), .ref (u276), .ref (u277)])) := (hq303.2 (u) _ h_u rfl).trans ((hq287.2 (u) _ h_u rfl).trans (eV267))
              refine hp_get (v := .ref (u277)) hx hb hts hown hZ fx339 fl_X6_151 rfl dX6_sound_96 ?_
              obtain ⟨u347, z348, eV346, hu349, h350, h351, h352⟩ := hq_o0 hP.1 hu158
              refine hp_calli (hp_runV (As := [.ref (u277)]) (rest := [.ref (t)]) hx hb hml hown hts (t_X9_addAll l D cs B G (fun g => g.1 == 5) V299 n hP.1 30 8 (u153) hu158 (u277) hu279 rfl rfl) hZ eV346 cv_X6_89 rfl rfl ⟨Nat.le_of_ble_eq_true rfl, Nat.le_of_ble_eq_true rfl⟩ rfl hl.1 rfl (Nat.le_of_ble_eq_true rfl) dX6_sound_99 ⟨(Nat.le_of_ble_eq_true rfl), (Nat.le_of_ble_eq_true rfl)⟩) hZ (fun r343 V340 n341 _ _ hw342 hZ => ?_)
              obtain ⟨rfl, hq344, hr345⟩ := hw342
              have hP := hP.trans hq344 (by intro g h; simp_all)
              have b353 := hq_rng r343
              refine lv_if_eq (tgt := 109) hx hb dX6_sound_102 (by decide) (fun c354 => ?_) (fun c354 => ?_)
              · have c354 : (r343).toInt = (0 : Int) := hq_eqi.mp c354
                refine lv_iconst (v := 0) hx hb dX6_sound_109 (by decide) ?_
                have fx355 : V340 (t) = some (.inr (6, [.ref (u150), .int (z154), .ref (u151), .ref (u152), .ref (u153)])) := (hq344.2 (t) _ h_t rfl).trans (fx338)
                refine hp_put hx hb hts hown hZ fx355 fp_X6_118 rfl rfl (Nat.le_of_ble_eq_true rfl) dX6_sound_110 (fun V356 _ _ e357 o358 hZ => ?_)
                have e357 : V356 (t) = some (.inr (6, [.ref (u150), .int (0), .ref (u151), .ref (u152), .ref (u153)])) := e357
                have hP := hP.put h_t e357 o358 (hq_c11 hu155 hu156 hu157 hu158 (show 0 ≤ (0 : Int) by omega) (show (0 : Int) ≤ 1 by omega) (by first | rfl | exact hsh.1 | omega) (by first | rfl | exact hsh.2.1 | omega) (by first | rfl | exact hsh.2.2.1 | omega) (by first | rfl | exact hsh.2.2.2 | omega)) rfl
                refine lv_iload hx hb dX6_sound_113 (lv_at hl 0 rfl) ?_
                refine lv_aload_n hx hb dX6_sound_115 rfl (lv_at hl 5 rfl) ?_
                have fx359 : V356 (u) = some (.inr (5, [.int (z268), .int (z269), .int (z270), .int (z271), .int (z272), .int (z273), .int (z274), .int (z275), .ref (u276), .ref (u277)])) := (o358 (u) (hq_tne h_u h_t (by simp))).trans ((hq344.2 (u) _ h_u rfl).trans (fx339))
                refine hp_get (v := .ref (u276)) hx hb hts hown hZ fx359 fl_X6_107 rfl dX6_sound_116 ?_
                obtain ⟨u361, z362, eV360, hu363, h364, h365, h366⟩ := hq_o0 hP.1 hu278
                refine hp_get (v := .int (z362)) hx hb hts hown hZ eV360 fl_X6_132 rfl dX6_sound_119 ?_
                refine lv_iadd hx hb dX6_sound_122 ?_
                refine lv_topi (fun y367 ey368 => ?_)
                obtain ⟨k369, hk370, b371, b372⟩ := hq_add (r286) (z362)
                rw [← ey368] at hk370 b371 b372
                have hk370 : (y367).toInt = (r286).toInt + (z362).toInt + k369 * 4294967296 := hk370
                refine lv_istore_n (lv' := [(3, .int (y367)), (6, .int (r286)), (5, .int (fr)), (4, .int (i)), (0, .ref (t)), (1, .ref (u)), (2, .ref (w))]) hx hb dX6_sound_123 rfl hl (by decide) rfl (fun ls hl => ?_)
                obtain ⟨y373, ey374⟩ : ∃ y : Int32, y = i + (1) := ⟨_, rfl⟩
                obtain ⟨k375, hk376, b377, b378⟩ := hq_add (i) (1)
                rw [← ey374] at hk376 b377 b378
                have hk376 : (y373).toInt = (i).toInt + (1) + k375 * 4294967296 := hk376
                refine lv_iinc (v := y373) (lv' := [(4, .int (y373)), (3, .int (y367)), (6, .int (r286)), (5, .int (fr)), (0, .ref (t)), (1, .ref (u)), (2, .ref (w))]) hx hb dX6_sound_124 hl (k := 3) rfl (by rw [ey374]; rfl) (by decide) rfl (fun ls hl => ?_)
                refine lv_goto (tgt := 12) hx hb dX6_sound_127 (by decide) ?_
                exact ih12 _ (by omega) _ _ _ ls (y367) (y373) rfl hZ hP (by omega) (by omega) (by omega) (by omega) (lv_sub hl [0, 1, 4, 5, 6] rfl)
              · have c354 : ¬ (r343).toInt = (0 : Int) := fun h9 => c354 (hq_eqi.mpr h9)
                refine lv_iconst (v := 1) hx hb dX6_sound_105 (by decide) ?_
                refine lv_goto (tgt := 110) hx hb dX6_sound_106 (by decide) ?_
                have fx379 : V340 (t) = some (.inr (6, [.ref (u150), .int (z154), .ref (u151), .ref (u152), .ref (u153)])) := (hq344.2 (t) _ h_t rfl).trans (fx338)
                refine hp_put hx hb hts hown hZ fx379 fp_X6_118 rfl rfl (Nat.le_of_ble_eq_true rfl) dX6_sound_110 (fun V380 _ _ e381 o382 hZ => ?_)
                have e381 : V380 (t) = some (.inr (6, [.ref (u150), .int (1), .ref (u151), .ref (u152), .ref (u153)])) := e381
                have hP := hP.put h_t e381 o382 (hq_c11 hu155 hu156 hu157 hu158 (show 0 ≤ (1 : Int) by omega) (show (1 : Int) ≤ 1 by omega) (by first | rfl | exact hsh.1 | omega) (by first | rfl | exact hsh.2.1 | omega) (by first | rfl | exact hsh.2.2.1 | omega) (by first | rfl | exact hsh.2.2.2 | omega)) rfl
                refine lv_iload hx hb dX6_sound_113 (lv_at hl 0 rfl) ?_
                refine lv_aload_n hx hb dX6_sound_115 rfl (lv_at hl 5 rfl) ?_
                have fx383 : V380 (u) = some (.inr (5, [.int (z268), .int (z269), .int (z270), .int (z271), .int (z272), .int (z273), .int (z274), .int (z275), .ref (u276), .ref (u277)])) := (o382 (u) (hq_tne h_u h_t (by simp))).trans ((hq344.2 (u) _ h_u rfl).trans (fx339))
                refine hp_get (v := .ref (u276)) hx hb hts hown hZ fx383 fl_X6_107 rfl dX6_sound_116 ?_
                obtain ⟨u385, z386, eV384, hu387, h388, h389, h390⟩ := hq_o0 hP.1 hu278
                refine hp_get (v := .int (z386)) hx hb hts hown hZ eV384 fl_X6_132 rfl dX6_sound_119 ?_
                refine lv_iadd hx hb dX6_sound_122 ?_
                refine lv_topi (fun y391 ey392 => ?_)
                obtain ⟨k393, hk394, b395, b396⟩ := hq_add (r286) (z386)
                rw [← ey392] at hk394 b395 b396
                have hk394 : (y391).toInt = (r286).toInt + (z386).toInt + k393 * 4294967296 := hk394
                refine lv_istore_n (lv' := [(3, .int (y391)), (6, .int (r286)), (5, .int (fr)), (4, .int (i)), (0, .ref (t)), (1, .ref (u)), (2, .ref (w))]) hx hb dX6_sound_123 rfl hl (by decide) rfl (fun ls hl => ?_)
                obtain ⟨y397, ey398⟩ : ∃ y : Int32, y = i + (1) := ⟨_, rfl⟩
                obtain ⟨k399, hk400, b401, b402⟩ := hq_add (i) (1)
                rw [← ey398] at hk400 b401 b402
                have hk400 : (y397).toInt = (i).toInt + (1) + k399 * 4294967296 := hk400
                refine lv_iinc (v := y397) (lv' := [(4, .int (y397)), (3, .int (y391)), (6, .int (r286)), (5, .int (fr)), (0, .ref (t)), (1, .ref (u)), (2, .ref (w))]) hx hb dX6_sound_124 hl (k := 3) rfl (by rw [ey398]; rfl) (by decide) rfl (fun ls hl => ?_)
                refine lv_goto (tgt := 12) hx hb dX6_sound_127 (by decide) ?_
                exact ih12 _ (by omega) _ _ _ ls (y391) (y397) rfl hZ hP (by omega) (by omega) (by omega) (by omega) (lv_sub hl [0, 1, 4, 5, 6] rfl)
          · have c297 : (r286).toInt = (-1 : Int) := hq_eqi.mp c297
            refine lv_goto (tgt := 130) hx hb dX6_sound_73 (by decide) ?_
            refine lv_iload_n hx hb dX6_sound_130 rfl (lv_at hl 3 rfl) ?_
            refine lv_if_eq (tgt := 148) hx hb dX6_sound_131 (by decide) (fun c403 => ?_) (fun c403 => ?_)
            · have c403 : (fr).toInt = (0 : Int) := hq_eqi.mp c403
              refine lv_iconst (v := 0) hx hb dX6_sound_148 (by decide) ?_
              exact hp_zret hx hb hr rfl hlocks hZ ⟨rfl, hP, (by decide)⟩ dX6_sound_149
            · have c403 : ¬ (fr).toInt = (0 : Int) := fun h9 => c403 (hq_eqi.mpr h9)
              refine lv_aload_n hx hb dX6_sound_134 rfl (lv_at hl 5 rfl) ?_
              have fx404 : V283 (u) = some (.inr (5, [.int (z268), .int (z269), .int (z270), .int (z271), .int (z272), .int (z273), .int (z274), .int (z275), .ref (u276), .ref (u277)])) := (hq287.2 (u) _ h_u rfl).trans (eV267)
              refine hp_get (v := .ref (u276)) hx hb hts hown hZ fx404 fl_X6_107 rfl dX6_sound_135 ?_
              refine lv_aload_n hx hb dX6_sound_138 rfl (lv_at hl 5 rfl) ?_
              refine hp_get (v := .ref (u277)) hx hb hts hown hZ fx404 fl_X6_151 rfl dX6_sound_139 ?_
              obtain ⟨u412, z413, eV411, hu414, h415, h416, h417⟩ := hq_o0 hP.1 hu278
              refine hp_calli (hp_runV (As := [.ref (u277)]) (rest := []) hx hb hml hown hts (t_X9_same l D cs B G  V283 n hP.1 8 8 (u276) hu278 (u277) hu279 ) hZ eV411 cv_X6_154 rfl rfl ⟨Nat.le_of_ble_eq_true rfl, Nat.le_of_ble_eq_true rfl⟩ rfl hl.1 rfl (Nat.le_of_ble_eq_true rfl) dX6_sound_142 ⟨(Nat.le_of_ble_eq_true rfl), (Nat.le_of_ble_eq_true rfl)⟩) hZ (fun r408 V405 n406 _ _ hw407 hZ => ?_)
              obtain ⟨rfl, hq409, hr410⟩ := hw407
              have hP := hP.trans hq409 (fun _ _ => rfl)
              have b418 := hq_rng r408
              refine lv_if_eq (tgt := 150) hx hb dX6_sound_145 (by decide) (fun c419 => ?_) (fun c419 => ?_)
              · have c419 : (r408).toInt = (0 : Int) := hq_eqi.mp c419
                refine lv_aload_n hx hb dX6_sound_150 rfl (lv_at hl 4 rfl) ?_
                refine lv_aload_n hx hb dX6_sound_151 rfl (lv_at hl 4 rfl) ?_
                have fx420 : V405 (t) = some (.inr (6, [.ref (u150), .int (z154), .ref (u151), .ref (u152), .ref (u153)])) := (hq409.2 (t) _ h_t rfl).trans ((hq287.2 (t) _ h_t rfl).trans (eV149))
                refine hp_get (v := .int (z154)) hx hb hts hown hZ fx420 fl_X6_118 rfl dX6_sound_152 ?_
                refine lv_if_eq (tgt := 178) hx hb dX6_sound_155 (by decide) (fun c421 => ?_) (fun c421 => ?_)
                · have c421 : (z154).toInt = (0 : Int) := hq_eqi.mp c421
                  refine lv_iconst (v := 0) hx hb dX6_sound_178 (by decide) ?_
                  refine hp_put hx hb hts hown hZ fx420 fp_X6_118 rfl rfl (Nat.le_of_ble_eq_true rfl) dX6_sound_179 (fun V422 _ _ e423 o424 hZ => ?_)
                  have e423 : V422 (t) = some (.inr (6, [.ref (u150), .int (0), .ref (u151), .ref (u152), .ref (u153)])) := e423
                  have hP := hP.put h_t e423 o424 (hq_c11 hu155 hu156 hu157 hu158 (show 0 ≤ (0 : Int) by omega) (show (0 : Int) ≤ 1 by omega) (by first | rfl | exact hsh.1 | omega) (by first | rfl | exact hsh.2.1 | omega) (by first | rfl | exact hsh.2.2.1 | omega) (by first | rfl | exact hsh.2.2.2 | omega)) rfl
                  refine lv_aload_n hx hb dX6_sound_182 rfl (lv_at hl 6 rfl) ?_
                  refine lv_aload_n hx hb dX6_sound_183 rfl (lv_at hl 4 rfl) ?_
                  refine hp_get (v := .ref (u153)) hx hb hts hown hZ e423 fl_X6_29 rfl dX6_sound_184 ?_
                  have fx431 : V422 (w) = some (.inr (9, [.ref (u290), .int (z291)])) := (o424 (w) (hq_tne h_w h_t (by simp))).trans ((hq409.2 (w) _ h_w rfl).trans ((hq287.2 (w) _ h_w rfl).trans (eV289)))
                  refine hp_callv (hp_runV (As := [.ref (u153)]) (rest := []) hx hb hml hown hts (t_X9_set l D cs B G (fun g => g.1 == 5) V422 n hP.1 30 30 (w) h_w (u153) hu158 rfl rfl) hZ fx431 cv_X6_157 rfl rfl ⟨Nat.le_of_ble_eq_true rfl, Nat.le_of_ble_eq_true rfl⟩ rfl hl.1 rfl (Nat.le_of_ble_eq_true rfl) dX6_sound_187 ⟨(Nat.le_of_ble_eq_true rfl), (Nat.le_of_ble_eq_true rfl)⟩) hZ (fun V425 n426 _ _ hw427 hZ => ?_)
                  obtain ⟨rfl, hq429⟩ := hw427
                  have hP := hP.trans hq429 (by intro g h; simp_all)
                  refine lv_iconst (v := 1) hx hb dX6_sound_190 (by decide) ?_
                  exact hp_zret hx hb hr rfl hlocks hZ ⟨rfl, hP, (by decide)⟩ dX6_sound_191
                · have c421 : ¬ (z154).toInt = (0 : Int) := fun h9 => c421 (hq_eqi.mpr h9)
                  refine lv_aload_n hx hb dX6_sound_158 rfl (lv_at hl 4 rfl) ?_
                  refine hp_get (v := .ref (u153)) hx hb hts hown hZ fx420 fl_X6_29 rfl dX6_sound_159 ?_
                  refine lv_aload_n hx hb dX6_sound_162 rfl (lv_at hl 6 rfl) ?_
                  refine lv_iload_n hx hb dX6_sound_163 rfl (lv_at hl 3 rfl) ?_
                  refine lv_aload_n hx hb dX6_sound_164 rfl (lv_at hl 6 rfl) ?_
                  have fx432 : V405 (w) = some (.inr (9, [.ref (u290), .int (z291)])) := (hq409.2 (w) _ h_w rfl).trans ((hq287.2 (w) _ h_w rfl).trans (eV289))
                  refine hp_get (v := .int (z291)) hx hb hts hown hZ fx432 fl_X6_132 rfl dX6_sound_165 ?_
                  obtain ⟨u440, z441, eV439, hu442, h443, h444, h445⟩ := hq_o0 hP.1 hu158
                  refine hp_calli (hp_runV (As := [.ref (w), .int (fr), .int (z291)]) (rest := [.ref (t)]) hx hb hml hown hts (t_X9_addPart l D cs B G (fun g => g.1 == 5) V405 n hP.1 30 30 (u153) hu158 (w) h_w (fr) (z291) rfl rfl (by first | omega | decide)) hZ eV439 cv_X6_147 rfl rfl ⟨Nat.le_of_ble_eq_true rfl, Nat.le_of_ble_eq_true rfl⟩ rfl hl.1 rfl (Nat.le_of_ble_eq_true rfl) dX6_sound_168 ⟨(Nat.le_of_ble_eq_true rfl), (Nat.le_of_ble_eq_true rfl)⟩) hZ (fun r436 V433 n434 _ _ hw435 hZ => ?_)
                  obtain ⟨rfl, hq437, hr438⟩ := hw435
                  have hP := hP.trans hq437 (by intro g h; simp_all)
                  have b446 := hq_rng r436
                  refine lv_if_eq (tgt := 178) hx hb dX6_sound_171 (by decide) (fun c447 => ?_) (fun c447 => ?_)
                  · have c447 : (r436).toInt = (0 : Int) := hq_eqi.mp c447
                    refine lv_iconst (v := 0) hx hb dX6_sound_178 (by decide) ?_
                    have fx448 : V433 (t) = some (.inr (6, [.ref (u150), .int (z154), .ref (u151), .ref (u152), .ref (u153)])) := (hq437.2 (t) _ h_t rfl).trans (fx420)
                    refine hp_put hx hb hts hown hZ fx448 fp_X6_118 rfl rfl (Nat.le_of_ble_eq_true rfl) dX6_sound_179 (fun V449 _ _ e450 o451 hZ => ?_)
                    have e450 : V449 (t) = some (.inr (6, [.ref (u150), .int (0), .ref (u151), .ref (u152), .ref (u153)])) := e450
                    have hP := hP.put h_t e450 o451 (hq_c11 hu155 hu156 hu157 hu158 (show 0 ≤ (0 : Int) by omega) (show (0 : Int) ≤ 1 by omega) (by first | rfl | exact hsh.1 | omega) (by first | rfl | exact hsh.2.1 | omega) (by first | rfl | exact hsh.2.2.1 | omega) (by first | rfl | exact hsh.2.2.2 | omega)) rfl
                    refine lv_aload_n hx hb dX6_sound_182 rfl (lv_at hl 6 rfl) ?_
                    refine lv_aload_n hx hb dX6_sound_183 rfl (lv_at hl 4 rfl) ?_
                    refine hp_get (v := .ref (u153)) hx hb hts hown hZ e450 fl_X6_29 rfl dX6_sound_184 ?_
                    obtain ⟨u459, z460, eV458, hu461, h462, h463, h464⟩ := hq_o0 hP.1 h_w
                    refine hp_callv (hp_runV (As := [.ref (u153)]) (rest := []) hx hb hml hown hts (t_X9_set l D cs B G (fun g => g.1 == 5) V449 n hP.1 30 30 (w) h_w (u153) hu158 rfl rfl) hZ eV458 cv_X6_157 rfl rfl ⟨Nat.le_of_ble_eq_true rfl, Nat.le_of_ble_eq_true rfl⟩ rfl hl.1 rfl (Nat.le_of_ble_eq_true rfl) dX6_sound_187 ⟨(Nat.le_of_ble_eq_true rfl), (Nat.le_of_ble_eq_true rfl)⟩) hZ (fun V452 n453 _ _ hw454 hZ => ?_)
                    obtain ⟨rfl, hq456⟩ := hw454
                    have hP := hP.trans hq456 (by intro g h; simp_all)
                    refine lv_iconst (v := 1) hx hb dX6_sound_190 (by decide) ?_
                    exact hp_zret hx hb hr rfl hlocks hZ ⟨rfl, hP, (by decide)⟩ dX6_sound_191
                  · have c447 : ¬ (r436).toInt = (0 : Int) := fun h9 => c447 (hq_eqi.mpr h9)
                    refine lv_iconst (v := 1) hx hb dX6_sound_174 (by decide) ?_
                    refine lv_goto (tgt := 179) hx hb dX6_sound_175 (by decide) ?_
                    have fx465 : V433 (t) = some (.inr (6, [.ref (u150), .int (z154), .ref (u151), .ref (u152), .ref (u153)])) := (hq437.2 (t) _ h_t rfl).trans (fx420)
                    refine hp_put hx hb hts hown hZ fx465 fp_X6_118 rfl rfl (Nat.le_of_ble_eq_true rfl) dX6_sound_179 (fun V466 _ _ e467 o468 hZ => ?_)
                    have e467 : V466 (t) = some (.inr (6, [.ref (u150), .int (1), .ref (u151), .ref (u152), .ref (u153)])) := e467
                    have hP := hP.put h_t e467 o468 (hq_c11 hu155 hu156 hu157 hu158 (show 0 ≤ (1 : Int) by omega) (show (1 : Int) ≤ 1 by omega) (by first | rfl | exact hsh.1 | omega) (by first | rfl | exact hsh.2.1 | omega) (by first | rfl | exact hsh.2.2.1 | omega) (by first | rfl | exact hsh.2.2.2 | omega)) rfl
                    refine lv_aload_n hx hb dX6_sound_182 rfl (lv_at hl 6 rfl) ?_
                    refine lv_aload_n hx hb dX6_sound_183 rfl (lv_at hl 4 rfl) ?_
                    refine hp_get (v := .ref (u153)) hx hb hts hown hZ e467 fl_X6_29 rfl dX6_sound_184 ?_
                    obtain ⟨u476, z477, eV475, hu478, h479, h480, h481⟩ := hq_o0 hP.1 h_w
                    refine hp_callv (hp_runV (As := [.ref (u153)]) (rest := []) hx hb hml hown hts (t_X9_set l D cs B G (fun g => g.1 == 5) V466 n hP.1 30 30 (w) h_w (u153) hu158 rfl rfl) hZ eV475 cv_X6_157 rfl rfl ⟨Nat.le_of_ble_eq_true rfl, Nat.le_of_ble_eq_true rfl⟩ rfl hl.1 rfl (Nat.le_of_ble_eq_true rfl) dX6_sound_187 ⟨(Nat.le_of_ble_eq_true rfl), (Nat.le_of_ble_eq_true rfl)⟩) hZ (fun V469 n470 _ _ hw471 hZ => ?_)
                    obtain ⟨rfl, hq473⟩ := hw471
                    have hP := hP.trans hq473 (by intro g h; simp_all)
                    refine lv_iconst (v := 1) hx hb dX6_sound_190 (by decide) ?_
                    exact hp_zret hx hb hr rfl hlocks hZ ⟨rfl, hP, (by decide)⟩ dX6_sound_191
              · have c419 : ¬ (r408).toInt = (0 : Int) := fun h9 => c419 (hq_eqi.mpr h9)
                refine lv_iconst (v := 0) hx hb dX6_sound_148 (by decide) ?_
                exact hp_zret hx hb hr rfl hlocks hZ ⟨rfl, hP, (by decide)⟩ dX6_sound_149
        · have c282 : ¬ (z275).toInt = (0 : Int) := fun h9 => c282 (hq_eqi.mpr h9)
          refine lv_iload_n hx hb dX6_sound_33 rfl (lv_at hl 1 rfl) ?_
          refine lv_aload_n hx hb dX6_sound_34 rfl (lv_at hl 4 rfl) ?_
          obtain ⟨u483, z484, eV482, hu485, h486, h487, h488⟩ := hq_o0 hP.1 h_w
          refine hp_get (v := .int (z484)) hx hb hts hown hZ eV482 fl_X6_132 rfl dX6_sound_35 ?_
          refine lv_aload_n hx hb dX6_sound_38 rfl (lv_at hl 3 rfl) ?_
          refine hp_get (v := .ref (u276)) hx hb hts hown hZ eV267 fl_X6_107 rfl dX6_sound_39 ?_
          obtain ⟨u490, z491, eV489, hu492, h493, h494, h495⟩ := hq_o0 hP.1 hu278
          refine hp_get (v := .int (z491)) hx hb hts hown hZ eV489 fl_X6_132 rfl dX6_sound_42 ?_
          refine lv_isub hx hb dX6_sound_45 ?_
          refine lv_topi (fun y496 ey497 => ?_)
          obtain ⟨k498, hk499, b500, b501⟩ := hq_sub (z484) (z491)
          rw [← ey497] at hk499 b500 b501
          have hk499 : (y496).toInt = (z484).toInt - (z491).toInt + k498 * 4294967296 := hk499
          refine va_mmax hx hb (hml.trans hl.1.symm) hown (hts _ lk_X6_137) (hts _ ms_max) (hts _ mi_math) (hts _ mk_max) (Nat.le_of_ble_eq_true rfl) (Nat.le_of_ble_eq_true rfl) (Nat.zero_le _) (Nat.zero_le _) dX6_sound_46 ?_
          refine lv_topi (fun y502 ey503 => ?_)
          have b504 := hq_mx (fr) (y496)
          rw [← ey503] at b504
          refine lv_goto (tgt := 53) hx hb dX6_sound_49 (by decide) ?_
          refine lv_istore (lv' := [(5, .int (y502)), (4, .int (i)), (3, .int (fr)), (0, .ref (t)), (1, .ref (u)), (2, .ref (w))]) hx hb dX6_sound_53 hl (by decide) rfl (fun ls hl => ?_)
          refine lv_aload_n hx hb dX6_sound_55 rfl (lv_at hl 5 rfl) ?_
          refine lv_aload_n hx hb dX6_sound_56 rfl (lv_at hl 4 rfl) ?_
          refine hp_get (v := .ref (u276)) hx hb hts hown hZ eV267 fl_X6_107 rfl dX6_sound_57 ?_
          refine lv_iload hx hb dX6_sound_60 (lv_at hl 0 rfl) ?_
          refine hp_calli (hp_runV (As := [.ref (u276), .int (y502)]) (rest := []) hx hb hml hown hts (t_X9_firstPlaceOf l D cs B G  V9 n hP.1 30 8 (w) h_w (u276) hu278 (y502) (by omega)) hZ eV482 cv_X6_143 rfl rfl ⟨Nat.le_of_ble_eq_true rfl, Nat.le_of_ble_eq_true rfl⟩ rfl hl.1 rfl (Nat.le_of_ble_eq_true rfl) dX6_sound_62 ⟨(Nat.le_of_ble_eq_true rfl), (Nat.le_of_ble_eq_true rfl)⟩) hZ (fun r508 V505 n506 _ _ hw507 hZ => ?_)
          obtain ⟨rfl, hq509, hr510⟩ := hw507
          have hP := hP.trans hq509 (fun _ _ => rfl)
          have b511 := hq_rng r508
          refine lv_istore (lv' := [(6, .int (r508)), (5, .int (y502)), (4, .int (i)), (3, .int (fr)), (0, .ref (t)), (1, .ref (u)), (2, .ref (w))]) hx hb dX6_sound_65 hl (by decide) rfl (fun ls hl => ?_)
          refine lv_iload hx hb dX6_sound_67 (lv_at hl 0 rfl) ?_
          refine lv_iconst (v := -1) hx hb dX6_sound_69 (by decide) ?_
          refine lv_icmp_ne (tgt := 76) hx hb dX6_sound_70 (by decide) (fun c512 => ?_) (fun c512 => ?_)
          · have c512 : ¬ (r508).toInt = (-1 : Int) := fun h9 => c512 (hq_eqi.mpr h9)
            refine lv_aload_n hx hb dX6_sound_76 rfl (lv_at hl 4 rfl) ?_
            refine lv_aload_n hx hb dX6_sound_77 rfl (lv_at hl 4 rfl) ?_
            have fx513 : V505 (t) = some (.inr (6, [.ref (u150), .int (z154), .ref (u151), .ref (u152), .ref (u153)])) := (hq509.2 (t) _ h_t rfl).trans (eV149)
            refine hp_get (v := .ref (u153)) hx hb hts hown hZ fx513 fl_X6_29 rfl dX6_sound_78 ?_
            refine lv_aload_n hx hb dX6_sound_81 rfl (lv_at hl 6 rfl) ?_
            refine lv_iload_n hx hb dX6_sound_82 rfl (lv_at hl 3 rfl) ?_
            refine lv_iload hx hb dX6_sound_83 (lv_at hl 0 rfl) ?_
            obtain ⟨u521, z522, eV520, hu523, h524, h525, h526⟩ := hq_o0 hP.1 hu158
            refine hp_calli (hp_runV (As := [.ref (w), .int (fr), .int (r508)]) (rest := [.ref (t)]) hx hb hml hown hts (t_X9_addPart l D cs B G (fun g => g.1 == 5) V505 n hP.1 30 30 (u153) hu158 (w) h_w (fr) (r508) rfl rfl (by first | omega | decide)) hZ eV520 cv_X6_147 rfl rfl ⟨Nat.le_of_ble_eq_true rfl, Nat.le_of_ble_eq_true rfl⟩ rfl hl.1 rfl (Nat.le_of_ble_eq_true rfl) dX6_sound_85 ⟨(Nat.le_of_ble_eq_true rfl), (Nat.le_of_ble_eq_true rfl)⟩) hZ (fun r517 V514 n515 _ _ hw516 hZ => ?_)
            obtain ⟨rfl, hq518, hr519⟩ := hw516
            have hP := hP.trans hq518 (by intro g h; simp_all)
            have b527 := hq_rng r517
            refine lv_if_eq (tgt := 109) hx hb dX6_sound_88 (by decide) (fun c528 => ?_) (fun c528 => ?_)
            · have c528 : (r517).toInt = (0 : Int) := hq_eqi.mp c528
              refine lv_iconst (v := 0) hx hb dX6_sound_109 (by decide) ?_
              have fx529 : V514 (t) = some (.inr (6, [.ref (u150), .int (z154), .ref (u151), .ref (u152), .ref (u153)])) := (hq518.2 (t) _ h_t rfl).trans (fx513)
              refine hp_put hx hb hts hown hZ fx529 fp_X6_118 rfl rfl (Nat.le_of_ble_eq_true rfl) dX6_sound_110 (fun V530 _ _ e531 o532 hZ => ?_)
              have e531 : V530 (t) = some (.inr (6, [.ref (u150), .int (0), .ref (u151), .ref (u152), .ref (u153)])) := e531
              have hP := hP.put h_t e531 o532 (hq_c11 hu155 hu156 hu157 hu158 (show 0 ≤ (0 : Int) by omega) (show (0 : Int) ≤ 1 by omega) (by first | rfl | exact hsh.1 | omega) (by first | rfl | exact hsh.2.1 | omega) (by first | rfl | exact hsh.2.2.1 | omega) (by first | rfl | exact hsh.2.2.2 | omega)) rfl
              refine lv_iload hx hb dX6_sound_113 (lv_at hl 0 rfl) ?_
              refine lv_aload_n hx hb dX6_sound_115 rfl (lv_at hl 5 rfl) ?_
              have fx533 : V530 (u) = some (.inr (5, [.int (z268), .int (z269), .int (z270), .int (z271), .int (z272), .int (z273), .int (z274), .int (z275), .ref (u276), .ref (u277)])) := (o532 (u) (hq_tne h_u h_t (by simp))).trans ((hq518.2 (u) _ h_u rfl).trans ((hq509.2 (u) _ h_u rfl).trans (eV267)))
              refine hp_get (v := .ref (u276)) hx hb hts hown hZ fx533 fl_X6_107 rfl dX6_sound_116 ?_
              have fx534 : V530 (u276) = some (.inr (9, [.ref (u490), .int (z491)])) := (o532 (u276) (hq_tne hu278 h_t (by simp))).trans ((hq518.2 (u276) _ hu278 rfl).trans ((hq509.2 (u276) _ hu278 rfl).trans (eV489)))
              refine hp_get (v := .int (z491)) hx hb hts hown hZ fx534 fl_X6_132 rfl dX6_sound_119 ?_
              refine lv_iadd hx hb dX6_sound_122 ?_
              refine lv_topi (fun y535 ey536 => ?_)
              obtain ⟨k537, hk538, b539, b540⟩ := hq_add (r508) (z491)
              rw [← ey536] at hk538 b539 b540
              have hk538 : (y535).toInt = (r508).toInt + (z491).toInt + k537 * 4294967296 := hk538
              refine lv_istore_n (lv' := [(3, .int (y535)), (6, .int (r508)), (5, .int (y502)), (4, .int (i)), (0, .ref (t)), (1, .ref (u)), (2, .ref (w))]) hx hb dX6_sound_123 rfl hl (by decide) rfl (fun ls hl => ?_)
              obtain ⟨y541, ey542⟩ : ∃ y : Int32, y = i + (1) := ⟨_, rfl⟩
              obtain ⟨k543, hk544, b545, b546⟩ := hq_add (i) (1)
              rw [← ey542] at hk544 b545 b546
              have hk544 : (y541).toInt = (i).toInt + (1) + k543 * 4294967296 := hk544
              refine lv_iinc (v := y541) (lv' := [(4, .int (y541)), (3, .int (y535)), (6, .int (r508)), (5, .int (y502)), (0, .ref (t)), (1, .ref (u)), (2, .ref (w))]) hx hb dX6_sound_124 hl (k := 3) rfl (by rw [ey542]; rfl) (by decide) rfl (fun ls hl => ?_)
              refine lv_goto (tgt := 12) hx hb dX6_sound_127 (by decide) ?_
              exact ih12 _ (by omega) _ _ _ ls (y535) (y541) rfl hZ hP (by omega) (by omega) (by omega) (by omega) (lv_sub hl [0, 1, 4, 5, 6] rfl)
            · have c528 : ¬ (r517).toInt = (0 : Int) := fun h9 => c528 (hq_eqi.mpr h9)
              refine lv_aload_n hx hb dX6_sound_91 rfl (lv_at hl 4 rfl) ?_
              have fx547 : V514 (t) = some (.inr (6, [.ref (u150), .int (z154), .ref (u151), .ref (u152), .ref (u153)])) := (hq518.2 (t) _ h_t rfl).trans (fx513)
              refine hp_get (v := .ref (u153)) hx hb hts hown hZ fx547 fl_X6_29 rfl dX6_sound_92 ?_
              refine lv_aload_n hx hb dX6_sound_95 rfl (lv_at hl 5 rfl) ?_
              have fx548 : V514 (u) = some (.inr (5, [.int (z268), .int (z269), .int (z270), .int (z271), .int (z272), .int (z273), .int (z274), .int (z275), .ref (u276), .ref (u277)])) := (hq518.2 (u) _ h_u rfl).trans ((hq509.2 (u) _ h_u rfl).trans (eV267))
              refine hp_get (v := .ref (u277)) hx hb hts hown hZ fx548 fl_X6_151 rfl dX6_sound_96 ?_
              obtain ⟨u556, z557, eV555, hu558, h559, h560, h561⟩ := hq_o0 hP.1 hu158
              refine hp_calli (hp_runV (As := [.ref (u277)]) (rest := [.ref (t)]) hx hb hml hown hts (t_X9_addAll l D cs B G (fun g => g.1 == 5) V514 n hP.1 30 8 (u153) hu158 (u277) hu279 rfl rfl) hZ eV555 cv_X6_89 rfl rfl ⟨Nat.le_of_ble_eq_true rfl, Nat.le_of_ble_eq_true rfl⟩ rfl hl.1 rfl (Nat.le_of_ble_eq_true rfl) dX6_sound_99 ⟨(Nat.le_of_ble_eq_true rfl), (Nat.le_of_ble_eq_true rfl)⟩) hZ (fun r552 V549 n550 _ _ hw551 hZ => ?_)
              obtain ⟨rfl, hq553, hr554⟩ := hw551
              have hP := hP.trans hq553 (by intro g h; simp_all)
              have b562 := hq_rng r552
              refine lv_if_eq (tgt := 109) hx hb dX6_sound_102 (by decide) (fun c563 => ?_) (fun c563 => ?_)
              · have c563 : (r552).toInt = (0 : Int) := hq_eqi.mp c563
                refine lv_iconst (v := 0) hx hb dX6_sound_109 (by decide) ?_
                have fx564 : V549 (t) = some (.inr (6, [.ref (u150), .int (z154), .ref (u151), .ref (u152), .ref (u153)])) := (hq553.2 (t) _ h_t rfl).trans (fx547)
                refine hp_put hx hb hts hown hZ fx564 fp_X6_118 rfl rfl (Nat.le_of_ble_eq_true rfl) dX6_sound_110 (fun V565 _ _ e566 o567 hZ => ?_)
                have e566 : V565 (t) = some (.inr (6, [.ref (u150), .int (0), .ref (u151), .ref (u152), .ref (u153)])) := e566
                have hP := hP.put h_t e566 o567 (hq_c11 hu155 hu156 hu157 hu158 (show 0 ≤ (0 : Int) by omega) (show (0 : Int) ≤ 1 by omega) (by first | rfl | exact hsh.1 | omega) (by first | rfl | exact hsh.2.1 | omega) (by first | rfl | exact hsh.2.2.1 | omega) (by first | rfl | exact hsh.2.2.2 | omega)) rfl
                refine lv_iload hx hb dX6_sound_113 (lv_at hl 0 rfl) ?_
                refine lv_aload_n hx hb dX6_sound_115 rfl (lv_at hl 5 rfl) ?_
                have fx568 : V565 (u) = some (.inr (5, [.int (z268), .int (z269), .int (z270), .int (z271), .int (z272), .int (z273), .int (z274), .int (z275), .ref (u276), .ref (u277)])) := (o567 (u) (hq_tne h_u h_t (by simp))).trans ((hq553.2 (u) _ h_u rfl).trans (fx548))
                refine hp_get (v := .ref (u276)) hx hb hts hown hZ fx568 fl_X6_107 rfl dX6_sound_116 ?_
                have fx569 : V565 (u276) = some (.inr (9, [.ref (u490), .int (z491)])) := (o567 (u276) (hq_tne hu278 h_t (by simp))).trans ((hq553.2 (u276) _ hu278 rfl).trans ((hq518.2 (u276) _ hu278 rfl).trans ((hq509.2 (u276) _ hu278 rfl).trans (eV489))))
                refine hp_get (v := .int (z491)) hx hb hts hown hZ fx569 fl_X6_132 rfl dX6_sound_119 ?_
                refine lv_iadd hx hb dX6_sound_122 ?_
                refine lv_topi (fun y570 ey571 => ?_)
                obtain ⟨k572, hk573, b574, b575⟩ := hq_add (r508) (z491)
                rw [← ey571] at hk573 b574 b575
                have hk573 : (y570).toInt = (r508).toInt + (z491).toInt + k572 * 4294967296 := hk573
                refine lv_istore_n (lv' := [(3, .int (y570)), (6, .int (r508)), (5, .int (y502)), (4, .int (i)), (0, .ref (t)), (1, .ref (u)), (2, .ref (w))]) hx hb dX6_sound_123 rfl hl (by decide) rfl (fun ls hl => ?_)
                obtain ⟨y576, ey577⟩ : ∃ y : Int32, y = i + (1) := ⟨_, rfl⟩
                obtain ⟨k578, hk579, b580, b581⟩ := hq_add (i) (1)
                rw [← ey577] at hk579 b580 b581
                have hk579 : (y576).toInt = (i).toInt + (1) + k578 * 4294967296 := hk579
                refine lv_iinc (v := y576) (lv' := [(4, .int (y576)), (3, .int (y570)), (6, .int (r508)), (5, .int (y502)), (0, .ref (t)), (1, .ref (u)), (2, .ref (w))]) hx hb dX6_sound_124 hl (k := 3) rfl (by rw [ey577]; rfl) (by decide) rfl (fun ls hl => ?_)
                refine lv_goto (tgt := 12) hx hb dX6_sound_127 (by decide) ?_
                exact ih12 _ (by omega) _ _ _ ls (y570) (y576) rfl hZ hP (by omega) (by omega) (by omega) (by omega) (lv_sub hl [0, 1, 4, 5, 6] rfl)
              · have c563 : ¬ (r552).toInt = (0 : Int) := fun h9 => c563 (hq_eqi.mpr h9)
                refine lv_iconst (v := 1) hx hb dX6_sound_105 (by decide) ?_
                refine lv_goto (tgt := 110) hx hb dX6_sound_106 (by decide) ?_
                have fx582 : V549 (t) = some (.inr (6, [.ref (u150), .int (z154), .ref (u151), .ref (u152), .ref (u153)])) := (hq553.2 (t) _ h_t rfl).trans (fx547)
                refine hp_put hx hb hts hown hZ fx582 fp_X6_118 rfl rfl (Nat.le_of_ble_eq_true rfl) dX6_sound_110 (fun V583 _ _ e584 o585 hZ => ?_)
                have e584 : V583 (t) = some (.inr (6, [.ref (u150), .int (1), .ref (u151), .ref (u152), .ref (u153)])) := e584
                have hP := hP.put h_t e584 o585 (hq_c11 hu155 hu156 hu157 hu158 (show 0 ≤ (1 : Int) by omega) (show (1 : Int) ≤ 1 by omega) (by first | rfl | exact hsh.1 | omega) (by first | rfl | exact hsh.2.1 | omega) (by first | rfl | exact hsh.2.2.1 | omega) (by first | rfl | exact hsh.2.2.2 | omega)) rfl
                refine lv_iload hx hb dX6_sound_113 (lv_at hl 0 rfl) ?_
                refine lv_aload_n hx hb dX6_sound_115 rfl (lv_at hl 5 rfl) ?_
                have fx586 : V583 (u) = some (.inr (5, [.int (z268), .int (z269), .int (z270), .int (z271), .int (z272), .int (z273), .int (z274), .int (z275), .ref (u276), .ref (u277)])) := (o585 (u) (hq_tne h_u h_t (by simp))).trans ((hq553.2 (u) _ h_u rfl).trans (fx548))
                refine hp_get (v := .ref (u276)) hx hb hts hown hZ fx586 fl_X6_107 rfl dX6_sound_116 ?_
                have fx587 : V583 (u276) = some (.inr (9, [.ref (u490), .int (z491)])) := (o585 (u276) (hq_tne hu278 h_t (by simp))).trans ((hq553.2 (u276) _ hu278 rfl).trans ((hq518.2 (u276) _ hu278 rfl).trans ((hq509.2 (u276) _ hu278 rfl).trans (eV489))))
                refine hp_get (v := .int (z491)) hx hb hts hown hZ fx587 fl_X6_132 rfl dX6_sound_119 ?_
                refine lv_iadd hx hb dX6_sound_122 ?_
                refine lv_topi (fun y588 ey589 => ?_)
                obtain ⟨k590, hk591, b592, b593⟩ := hq_add (r508) (z491)
                rw [← ey589] at hk591 b592 b593
                have hk591 : (y588).toInt = (r508).toInt + (z491).toInt + k590 * 4294967296 := hk591
                refine lv_istore_n (lv' := [(3, .int (y588)), (6, .int (r508)), (5, .int (y502)), (4, .int (i)), (0, .ref (t)), (1, .ref (u)), (2, .ref (w))]) hx hb dX6_sound_123 rfl hl (by decide) rfl (fun ls hl => ?_)
                obtain ⟨y594, ey595⟩ : ∃ y : Int32, y = i + (1) := ⟨_, rfl⟩
                obtain ⟨k596, hk597, b598, b599⟩ := hq_add (i) (1)
                rw [← ey595] at hk597 b598 b599
                have hk597 : (y594).toInt = (i).toInt + (1) + k596 * 4294967296 := hk597
                refine lv_iinc (v := y594) (lv' := [(4, .int (y594)), (3, .int (y588)), (6, .int (r508)), (5, .int (y502)), (0, .ref (t)), (1, .ref (u)), (2, .ref (w))]) hx hb dX6_sound_124 hl (k := 3) rfl (by rw [ey595]; rfl) (by decide) rfl (fun ls hl => ?_)
                refine lv_goto (tgt := 12) hx hb dX6_sound_127 (by decide) ?_
                exact ih12 _ (by omega) _ _ _ ls (y588) (y594) rfl hZ hP (by omega) (by omega) (by omega) (by omega) (lv_sub hl [0, 1, 4, 5, 6] rfl)
          · have c512 : (r508).toInt = (-1 : Int) := hq_eqi.mp c512
            refine lv_goto (tgt := 130) hx hb dX6_sound_73 (by decide) ?_
            refine lv_iload_n hx hb dX6_sound_130 rfl (lv_at hl 3 rfl) ?_
            refine lv_if_eq (tgt := 148) hx hb dX6_sound_131 (by decide) (fun c600 => ?_) (fun c600 => ?_)
            · have c600 : (fr).toInt = (0 : Int) := hq_eqi.mp c600
              refine lv_iconst (v := 0) hx hb dX6_sound_148 (by decide) ?_
              exact hp_zret hx hb hr rfl hlocks hZ ⟨rfl, hP, (by decide)⟩ dX6_sound_149
            · have c600 : ¬ (fr).toInt = (0 : Int) := fun h9 => c600 (hq_eqi.mpr h9)
              refine lv_aload_n hx hb dX6_sound_134 rfl (lv_at hl 5 rfl) ?_
              have fx601 : V505 (u) = some (.inr (5, [.int (z268), .int (z269), .int (z270), .int (z271), .int (z272), .int (z273), .int (z274), .int (z275), .ref (u276), .ref (u277)])) := (hq509.2 (u) _ h_u rfl).trans (eV267)
              refine hp_get (v := .ref (u276)) hx hb hts hown hZ fx601 fl_X6_107 rfl dX6_sound_135 ?_
              refine lv_aload_n hx hb dX6_sound_138 rfl (lv_at hl 5 rfl) ?_
              refine hp_get (v := .ref (u277)) hx hb hts hown hZ fx601 fl_X6_151 rfl dX6_sound_139 ?_
              have fx608 : V505 (u276) = some (.inr (9, [.ref (u490), .int (z491)])) := (hq509.2 (u276) _ hu278 rfl).trans (eV489)
              refine hp_calli (hp_runV (As := [.ref (u277)]) (rest := []) hx hb hml hown hts (t_X9_same l D cs B G  V505 n hP.1 8 8 (u276) hu278 (u277) hu279 ) hZ fx608 cv_X6_154 rfl rfl ⟨Nat.le_of_ble_eq_true rfl, Nat.le_of_ble_eq_true rfl⟩ rfl hl.1 rfl (Nat.le_of_ble_eq_true rfl) dX6_sound_142 ⟨(Nat.le_of_ble_eq_true rfl), (Nat.le_of_ble_eq_true rfl)⟩) hZ (fun r605 V602 n603 _ _ hw604 hZ => ?_)
              obtain ⟨rfl, hq606, hr607⟩ := hw604
              have hP := hP.trans hq606 (fun _ _ => rfl)
              have b609 := hq_rng r605
              refine lv_if_eq (tgt := 150) hx hb dX6_sound_145 (by decide) (fun c610 => ?_) (fun c610 => ?_)
              · have c610 : (r605).toInt = (0 : Int) := hq_eqi.mp c610
                refine lv_aload_n hx hb dX6_sound_150 rfl (lv_at hl 4 rfl) ?_
                refine lv_aload_n hx hb dX6_sound_151 rfl (lv_at hl 4 rfl) ?_
                have fx611 : V602 (t) = some (.inr (6, [.ref (u150), .int (z154), .ref (u151), .ref (u152), .ref (u153)])) := (hq606.2 (t) _ h_t rfl).trans ((hq509.2 (t) _ h_t rfl).trans (eV149))
                refine hp_get (v := .int (z154)) hx hb hts hown hZ fx611 fl_X6_118 rfl dX6_sound_152 ?_
                refine lv_if_eq (tgt := 178) hx hb dX6_sound_155 (by decide) (fun c612 => ?_) (fun c612 => ?_)
                · have c612 : (z154).toInt = (0 : Int) := hq_eqi.mp c612
                  refine lv_iconst (v := 0) hx hb dX6_sound_178 (by decide) ?_
                  refine hp_put hx hb hts hown hZ fx611 fp_X6_118 rfl rfl (Nat.le_of_ble_eq_true rfl) dX6_sound_179 (fun V613 _ _ e614 o615 hZ => ?_)
                  have e614 : V613 (t) = some (.inr (6, [.ref (u150), .int (0), .ref (u151), .ref (u152), .ref (u153)])) := e614
                  have hP := hP.put h_t e614 o615 (hq_c11 hu155 hu156 hu157 hu158 (show 0 ≤ (0 : Int) by omega) (show (0 : Int) ≤ 1 by omega) (by first | rfl | exact hsh.1 | omega) (by first | rfl | exact hsh.2.1 | omega) (by first | rfl | exact hsh.2.2.1 | omega) (by first | rfl | exact hsh.2.2.2 | omega)) rfl
                  refine lv_aload_n hx hb dX6_sound_182 rfl (lv_at hl 6 rfl) ?_
                  refine lv_aload_n hx hb dX6_sound_183 rfl (lv_at hl 4 rfl) ?_
                  refine hp_get (v := .ref (u153)) hx hb hts hown hZ e614 fl_X6_29 rfl dX6_sound_184 ?_
                  have fx622 : V613 (w) = some (.inr (9, [.ref (u483), .int (z484)])) := (o615 (w) (hq_tne h_w h_t (by simp))).trans ((hq606.2 (w) _ h_w rfl).trans ((hq509.2 (w) _ h_w rfl).trans (eV482)))
                  refine hp_callv (hp_runV (As := [.ref (u153)]) (rest := []) hx hb hml hown hts (t_X9_set l D cs B G (fun g => g.1 == 5) V613 n hP.1 30 30 (w) h_w (u153) hu158 rfl rfl) hZ fx622 cv_X6_157 rfl rfl ⟨Nat.le_of_ble_eq_true rfl, Nat.le_of_ble_eq_true rfl⟩ rfl hl.1 rfl (Nat.le_of_ble_eq_true rfl) dX6_sound_187 ⟨(Nat.le_of_ble_eq_true rfl), (Nat.le_of_ble_eq_true rfl)⟩) hZ (fun V616 n617 _ _ hw618 hZ => ?_)
                  obtain ⟨rfl, hq620⟩ := hw618
                  have hP := hP.trans hq620 (by intro g h; simp_all)
                  refine lv_iconst (v := 1) hx hb dX6_sound_190 (by decide) ?_
                  exact hp_zret hx hb hr rfl hlocks hZ ⟨rfl, hP, (by decide)⟩ dX6_sound_191
                · have c612 : ¬ (z154).toInt = (0 : Int) := fun h9 => c612 (hq_eqi.mpr h9)
                  refine lv_aload_n hx hb dX6_sound_158 rfl (lv_at hl 4 rfl) ?_
                  refine hp_get (v := .ref (u153)) hx hb hts hown hZ fx611 fl_X6_29 rfl dX6_sound_159 ?_
                  refine lv_aload_n hx hb dX6_sound_162 rfl (lv_at hl 6 rfl) ?_
                  refine lv_iload_n hx hb dX6_sound_163 rfl (lv_at hl 3 rfl) ?_
                  refine lv_aload_n hx hb dX6_sound_164 rfl (lv_at hl 6 rfl) ?_
                  have fx623 : V602 (w) = some (.inr (9, [.ref (u483), .int (z484)])) := (hq606.2 (w) _ h_w rfl).trans ((hq509.2 (w) _ h_w rfl).trans (eV482))
                  refine hp_get (v := .int (z484)) hx hb hts hown hZ fx623 fl_X6_132 rfl dX6_sound_165 ?_
                  obtain ⟨u631, z632, eV630, hu633, h634, h635, h636⟩ := hq_o0 hP.1 hu158
                  refine hp_calli (hp_runV (As := [.ref (w), .int (fr), .int (z484)]) (rest := [.ref (t)]) hx hb hml hown hts (t_X9_addPart l D cs B G (fun g => g.1 == 5) V602 n hP.1 30 30 (u153) hu158 (w) h_w (fr) (z484) rfl rfl (by first | omega | decide)) hZ eV630 cv_X6_147 rfl rfl ⟨Nat.le_of_ble_eq_true rfl, Nat.le_of_ble_eq_true rfl⟩ rfl hl.1 rfl (Nat.le_of_ble_eq_true rfl) dX6_sound_168 ⟨(Nat.le_of_ble_eq_true rfl), (Nat.le_of_ble_eq_true rfl)⟩) hZ (fun r627 V624 n625 _ _ hw626 hZ => ?_)
                  obtain ⟨rfl, hq628, hr629⟩ := hw626
                  have hP := hP.trans hq628 (by intro g h; simp_all)
                  have b637 := hq_rng r627
                  refine lv_if_eq (tgt := 178) hx hb dX6_sound_171 (by decide) (fun c638 => ?_) (fun c638 => ?_)
                  · have c638 : (r627).toInt = (0 : Int) := hq_eqi.mp c638
                    refine lv_iconst (v := 0) hx hb dX6_sound_178 (by decide) ?_
                    have fx639 : V624 (t) = some (.inr (6, [.ref (u150), .int (z154), .ref (u151), .ref (u152), .ref (u153)])) := (hq628.2 (t) _ h_t rfl).trans (fx611)
                    refine hp_put hx hb hts hown hZ fx639 fp_X6_118 rfl rfl (Nat.le_of_ble_eq_true rfl) dX6_sound_179 (fun V640 _ _ e641 o642 hZ => ?_)
                    have e641 : V640 (t) = some (.inr (6, [.ref (u150), .int (0), .ref (u151), .ref (u152), .ref (u153)])) := e641
                    have hP := hP.put h_t e641 o642 (hq_c11 hu155 hu156 hu157 hu158 (show 0 ≤ (0 : Int) by omega) (show (0 : Int) ≤ 1 by omega) (by first | rfl | exact hsh.1 | omega) (by first | rfl | exact hsh.2.1 | omega) (by first | rfl | exact hsh.2.2.1 | omega) (by first | rfl | exact hsh.2.2.2 | omega)) rfl
                    refine lv_aload_n hx hb dX6_sound_182 rfl (lv_at hl 6 rfl) ?_
                    refine lv_aload_n hx hb dX6_sound_183 rfl (lv_at hl 4 rfl) ?_
                    refine hp_get (v := .ref (u153)) hx hb hts hown hZ e641 fl_X6_29 rfl dX6_sound_184 ?_
                    obtain ⟨u650, z651, eV649, hu652, h653, h654, h655⟩ := hq_o0 hP.1 h_w
                    refine hp_callv (hp_runV (As := [.ref (u153)]) (rest := []) hx hb hml hown hts (t_X9_set l D cs B G (fun g => g.1 == 5) V640 n hP.1 30 30 (w) h_w (u153) hu158 rfl rfl) hZ eV649 cv_X6_157 rfl rfl ⟨Nat.le_of_ble_eq_true rfl, Nat.le_of_ble_eq_true rfl⟩ rfl hl.1 rfl (Nat.le_of_ble_eq_true rfl) dX6_sound_187 ⟨(Nat.le_of_ble_eq_true rfl), (Nat.le_of_ble_eq_true rfl)⟩) hZ (fun V643 n644 _ _ hw645 hZ => ?_)
                    obtain ⟨rfl, hq647⟩ := hw645
                    have hP := hP.trans hq647 (by intro g h; simp_all)
                    refine lv_iconst (v := 1) hx hb dX6_sound_190 (by decide) ?_
                    exact hp_zret hx hb hr rfl hlocks hZ ⟨rfl, hP, (by decide)⟩ dX6_sound_191
                  · have c638 : ¬ (r627).toInt = (0 : Int) := fun h9 => c638 (hq_eqi.mpr h9)
                    refine lv_iconst (v := 1) hx hb dX6_sound_174 (by decide) ?_
                    refine lv_goto (tgt := 179) hx hb dX6_sound_175 (by decide) ?_
                    have fx656 : V624 (t) = some (.inr (6, [.ref (u150), .int (z154), .ref (u151), .ref (u152), .ref (u153)])) := (hq628.2 (t) _ h_t rfl).trans (fx611)
                    refine hp_put hx hb hts hown hZ fx656 fp_X6_118 rfl rfl (Nat.le_of_ble_eq_true rfl) dX6_sound_179 (fun V657 _ _ e658 o659 hZ => ?_)
                    have e658 : V657 (t) = some (.inr (6, [.ref (u150), .int (1), .ref (u151), .ref (u152), .ref (u153)])) := e658
                    have hP := hP.put h_t e658 o659 (hq_c11 hu155 hu156 hu157 hu158 (show 0 ≤ (1 : Int) by omega) (show (1 : Int) ≤ 1 by omega) (by first | rfl | exact hsh.1 | omega) (by first | rfl | exact hsh.2.1 | omega) (by first | rfl | exact hsh.2.2.1 | omega) (by first | rfl | exact hsh.2.2.2 | omega)) rfl
                    refine lv_aload_n hx hb dX6_sound_182 rfl (lv_at hl 6 rfl) ?_
                    refine lv_aload_n hx hb dX6_sound_183 rfl (lv_at hl 4 rfl) ?_
                    refine hp_get (v := .ref (u153)) hx hb hts hown hZ e658 fl_X6_29 rfl dX6_sound_184 ?_
                    obtain ⟨u667, z668, eV666, hu669, h670, h671, h672⟩ := hq_o0 hP.1 h_w
                    refine hp_callv (hp_runV (As := [.ref (u153)]) (rest := []) hx hb hml hown hts (t_X9_set l D cs B G (fun g => g.1 == 5) V657 n hP.1 30 30 (w) h_w (u153) hu158 rfl rfl) hZ eV666 cv_X6_157 rfl rfl ⟨Nat.le_of_ble_eq_true rfl, Nat.le_of_ble_eq_true rfl⟩ rfl hl.1 rfl (Nat.le_of_ble_eq_true rfl) dX6_sound_187 ⟨(Nat.le_of_ble_eq_true rfl), (Nat.le_of_ble_eq_true rfl)⟩) hZ (fun V660 n661 _ _ hw662 hZ => ?_)
                    obtain ⟨rfl, hq664⟩ := hw662
                    have hP := hP.trans hq664 (by intro g h; simp_all)
                    refine lv_iconst (v := 1) hx hb dX6_sound_190 (by decide) ?_
                    exact hp_zret hx hb hr rfl hlocks hZ ⟨rfl, hP, (by decide)⟩ dX6_sound_191
              · have c610 : ¬ (r605).toInt = (0 : Int) := fun h9 => c610 (hq_eqi.mpr h9)
                refine lv_iconst (v := 0) hx hb dX6_sound_148 (by decide) ?_
                exact hp_zret hx hb hr rfl hlocks hZ ⟨rfl, hP, (by decide)⟩ dX6_sound_149

set_option maxHeartbeats 4000000 in
set_option maxRecDepth 100000 in
theorem t_X6_soundAll (l : Launch) (D : va_G) (cs : Nat → ClassId) (B : Nat) (G : hq_G) (V : hp_V) (n : Nat) (hI : hq_I cs G V) (b : Nat) (t : Nat) (h_t : G t = some (11, 0, 0, 0)) (u : Nat) (h_u : G u = some (6, b, 0, 0)) (w : Nat) (h_w : G w = some (0, 30, 0, 0)) (no : Int32) (no2 : Int32) : hp_M l yX6_soundAll cX6_soundAll 9 (some .long) ({ frames := 4, cells := 0, slots := 0, locals := 93 }) D cs B V n [.ref (t), .ref (u), .ref (w), .int (no), .int (no2)] (hp_QL D cs B (fun r V' n' => n = n' ∧ hq_P cs G (fun g => g.1 == 5 || g.1 == 7) V V' ∧ True)) 0 0 := by
  refine hp_walk (R0 := RX6) (by decide) rfl ?_ (Nat.le_of_ble_eq_true rfl)
  intro p e s m below meth c ls hx hb hr hts hown hlocks hin hml hZ hl
  have hP : hq_P cs G (fun g => g.1 == 5 || g.1 == 7) V V := hq_P.rf hI
  have hl : lv_has ls 9 [(0, .ref (t)), (1, .ref (u)), (2, .ref (w)), (3, .int (no)), (4, .int (no2))] := hl
  have hb_no := hq_rng no
  have hb_no2 := hq_rng no2
  refine lv_lconst (v := 0) hx hb dX6_soundAll_0 (by decide) ?_
  refine lv_lstore (lv' := [(5, .long (0)), (0, .ref (t)), (1, .ref (u)), (2, .ref (w)), (3, .int (no)), (4, .int (no2))]) hx hb dX6_soundAll_1 hl (by decide) rfl (fun ls hl => ?_)
  refine lv_aload_n hx hb dX6_soundAll_3 rfl (lv_at hl 1 rfl) ?_
  refine lv_iconst (v := 1) hx hb dX6_soundAll_4 (by decide) ?_
  obtain ⟨u2, u3, u4, u5, z6, eV1, hu7, hu8, hu9, hu10, h11, h12⟩ := hq_o11 hP.1 h_t
  refine hp_put hx hb hts hown hZ eV1 fp_X6_118 rfl rfl (Nat.le_of_ble_eq_true rfl) dX6_soundAll_5 (fun V13 _ _ e14 o15 hZ => ?_)
  have e14 : V13 (t) = some (.inr (6, [.ref (u2), .int (1), .ref (u3), .ref (u4), .ref (u5)])) := e14
  have hP := hP.put h_t e14 o15 (hq_c11 hu7 hu8 hu9 hu10 (show 0 ≤ (1 : Int) by omega) (show (1 : Int) ≤ 1 by omega) (by first | rfl | exact hsh.1 | omega) (by first | rfl | exact hsh.2.1 | omega) (by first | rfl | exact hsh.2.2.1 | omega) (by first | rfl | exact hsh.2.2.2 | omega)) rfl
  refine lv_iconst (v := 0) hx hb dX6_soundAll_8 (by decide) ?_
  refine lv_istore (lv' := [(7, .int (0)), (5, .long (0)), (0, .ref (t)), (1, .ref (u)), (2, .ref (w)), (3, .int (no)), (4, .int (no2))]) hx hb dX6_soundAll_9 hl (by decide) rfl (fun ls hl => ?_)
  have hl16 : (0 : Int32).toInt = 0 := by decide
  suffices lp11 : ∀ (k9 : Nat) (V9 : hp_V) (H9 : Heap) (locs9 : List Loc) (ls : Array Slot) (bits : Int64) (i : Int32), (100 - i.toInt).toNat = k9 → hp_Z D cs B s V9 H9 n locs9 → hq_P cs G (fun g => g.1 == 5 || g.1 == 7) V V9 → 0 ≤ i.toInt → i.toInt ≤ 60 → lv_has ls 9 [(7, .int (i)), (5, .long (bits)), (0, .ref (t)), (1, .ref (u)), (2, .ref (w)), (3, .int (no)), (4, .int (no2))] → W p l e ({ frames := 4, cells := 0, slots := 0, locals := 93 }) s m ([.ref (t), .ref (u), .ref (w), .int (no), .int (no2)] : List Value).toArray below meth c H9 locs9 0 0 (MQ below (hp_QL D cs B (fun r V' n' => n = n' ∧ hq_P cs G (fun g => g.1 == 5 || g.1 == 7) V V' ∧ True)) ([.ref (t), .ref (u), .ref (w), .int (no), .int (no2)] : List Value).toArray s 0 0 (hp_F B)) (F0 m 11 ls []) from lp11 _ _ _ _ ls (0) (0) rfl hZ hP (by omega) (by omega) (lv_sub hl [0, 1, 2, 3, 4, 5, 6] rfl)
  intro k9
  induction k9 using Nat.strongRecOn with
  | _ k9 ih11 =>
    intro V9 H9 locs9 ls bits i  hk11 hZ hP  hv17 hv18 hl
    have hb_i := hq_rng i
    have hP_11 := hP
    refine lv_iload hx hb dX6_soundAll_11 (lv_at hl 0 rfl) ?_
    refine lv_aload_n hx hb dX6_soundAll_13 rfl (lv_at hl 3 rfl) ?_
    obtain ⟨u20, u21, u22, u23, z24, z25, z26, eV19, hu27, hu28, hu29, hu30, ⟨h31, h32⟩, ⟨h33, h34⟩, h35, h36⟩ := hq_o6 hP.1 h_u
    refine hp_get (v := .int (z26)) hx hb hts hown hZ eV19 fl_X6_122 rfl dX6_soundAll_14 ?_
    refine lv_icmp_ge (tgt := 96) hx hb dX6_soundAll_17 (by decide) (fun c37 => ?_) (fun c37 => ?_)
    · have c37 : (z26).toInt ≤ (i).toInt := hq_lei.mp c37
      refine lv_aload_n hx hb dX6_soundAll_96 rfl (lv_at hl 2 rfl) ?_
      refine lv_aload_n hx hb dX6_soundAll_97 rfl (lv_at hl 2 rfl) ?_
      obtain ⟨u39, u40, u41, u42, z43, eV38, hu44, hu45, hu46, hu47, h48, h49⟩ := hq_o11 hP.1 h_t
      refine hp_get (v := .int (z43)) hx hb hts hown hZ eV38 fl_X6_118 rfl dX6_soundAll_98 ?_
      refine lv_if_eq (tgt := 115) hx hb dX6_soundAll_101 (by decide) (fun c50 => ?_) (fun c50 => ?_)
      · have c50 : (z43).toInt = (0 : Int) := hq_eqi.mp c50
        refine lv_iconst (v := 0) hx hb dX6_soundAll_115 (by decide) ?_
        refine hp_put hx hb hts hown hZ eV38 fp_X6_118 rfl rfl (Nat.le_of_ble_eq_true rfl) dX6_soundAll_116 (fun V51 _ _ e52 o53 hZ => ?_)
        have e52 : V51 (t) = some (.inr (6, [.ref (u39), .int (0), .ref (u40), .ref (u41), .ref (u42)])) := e52
        have hP := hP.put h_t e52 o53 (hq_c11 hu44 hu45 hu46 hu47 (show 0 ≤ (0 : Int) by omega) (show (0 : Int) ≤ 1 by omega) (by first | rfl | exact hsh.1 | omega) (by first | rfl | exact hsh.2.1 | omega) (by first | rfl | exact hsh.2.2.1 | omega) (by first | rfl | exact hsh.2.2.2 | omega)) rfl
        refine lv_lload hx hb dX6_soundAll_119 (lv_at hl 1 rfl) ?_
        exact hp_lret hx hb hr hlocks hZ ⟨rfl, hP, trivial⟩ dX6_soundAll_121
      · have c50 : ¬ (z43).toInt = (0 : Int) := fun h9 => c50 (hq_eqi.mpr h9)
        refine lv_aload_n hx hb dX6_soundAll_104 rfl (lv_at hl 4 rfl) ?_
        obtain ⟨u55, z56, eV54, hu57, h58, h59, h60⟩ := hq_o0 hP.1 h_w
        refine hp_get (v := .int (z56)) hx hb hts hown hZ eV54 fl_X6_132 rfl dX6_soundAll_105 ?_
        refine lv_if_le (tgt := 115) hx hb dX6_soundAll_108 (by decide) (fun c61 => ?_) (fun c61 => ?_)
        · have c61 : (z56).toInt ≤ (0 : Int) := hq_lei.mp c61
          refine lv_iconst (v := 0) hx hb dX6_soundAll_115 (by decide) ?_
          refine hp_put hx hb hts hown hZ eV38 fp_X6_118 rfl rfl (Nat.le_of_ble_eq_true rfl) dX6_soundAll_116 (fun V62 _ _ e63 o64 hZ => ?_)
          have e63 : V62 (t) = some (.inr (6, [.ref (u39), .int (0), .ref (u40), .ref (u41), .ref (u42)])) := e63
          have hP := hP.put h_t e63 o64 (hq_c11 hu44 hu45 hu46 hu47 (show 0 ≤ (0 : Int) by omega) (show (0 : Int) ≤ 1 by omega) (by first | rfl | exact hsh.1 | omega) (by first | rfl | exact hsh.2.1 | omega) (by first | rfl | exact hsh.2.2.1 | omega) (by first | rfl | exact hsh.2.2.2 | omega)) rfl
          refine lv_lload hx hb dX6_soundAll_119 (lv_at hl 1 rfl) ?_
          exact hp_lret hx hb hr hlocks hZ ⟨rfl, hP, trivial⟩ dX6_soundAll_121
        · have c61 : ¬ (z56).toInt ≤ (0 : Int) := fun h9 => c61 (hq_lei.mpr h9)
          refine lv_iconst (v := 1) hx hb dX6_soundAll_111 (by decide) ?_
          refine lv_goto (tgt := 116) hx hb dX6_soundAll_112 (by decide) ?_
          refine hp_put hx hb hts hown hZ eV38 fp_X6_118 rfl rfl (Nat.le_of_ble_eq_true rfl) dX6_soundAll_116 (fun V65 _ _ e66 o67 hZ => ?_)
          have e66 : V65 (t) = some (.inr (6, [.ref (u39), .int (1), .ref (u40), .ref (u41), .ref (u42)])) := e66
          have hP := hP.put h_t e66 o67 (hq_c11 hu44 hu45 hu46 hu47 (show 0 ≤ (1 : Int) by omega) (show (1 : Int) ≤ 1 by omega) (by first | rfl | exact hsh.1 | omega) (by first | rfl | exact hsh.2.1 | omega) (by first | rfl | exact hsh.2.2.1 | omega) (by first | rfl | exact hsh.2.2.2 | omega)) rfl
          refine lv_lload hx hb dX6_soundAll_119 (lv_at hl 1 rfl) ?_
          exact hp_lret hx hb hr hlocks hZ ⟨rfl, hP, trivial⟩ dX6_soundAll_121
    · have c37 : ¬ (z26).toInt ≤ (i).toInt := fun h9 => c37 (hq_lei.mpr h9)
      refine lv_aload_n hx hb dX6_soundAll_20 rfl (lv_at hl 2 rfl) ?_
      obtain ⟨u69, u70, u71, u72, z73, eV68, hu74, hu75, hu76, hu77, h78, h79⟩ := hq_o11 hP.1 h_t
      refine hp_get (v := .int (z73)) hx hb hts hown hZ eV68 fl_X6_118 rfl dX6_soundAll_21 ?_
      refine lv_if_eq (tgt := 96) hx hb dX6_soundAll_24 (by decide) (fun c80 => ?_) (fun c80 => ?_)
      · have c80 : (z73).toInt = (0 : Int) := hq_eqi.mp c80
        refine lv_aload_n hx hb dX6_soundAll_96 rfl (lv_at hl 2 rfl) ?_
        refine lv_aload_n hx hb dX6_soundAll_97 rfl (lv_at hl 2 rfl) ?_
        refine hp_get (v := .int (z73)) hx hb hts hown hZ eV68 fl_X6_118 rfl dX6_soundAll_98 ?_
        refine lv_if_eq (tgt := 115) hx hb dX6_soundAll_101 (by decide) (fun c81 => ?_) (fun c81 => ?_)
        · have c81 : (z73).toInt = (0 : Int) := hq_eqi.mp c81
          refine lv_iconst (v := 0) hx hb dX6_soundAll_115 (by decide) ?_
          refine hp_put hx hb hts hown hZ eV68 fp_X6_118 rfl rfl (Nat.le_of_ble_eq_true rfl) dX6_soundAll_116 (fun V82 _ _ e83 o84 hZ => ?_)
          have e83 : V82 (t) = some (.inr (6, [.ref (u69), .int (0), .ref (u70), .ref (u71), .ref (u72)])) := e83
          have hP := hP.put h_t e83 o84 (hq_c11 hu74 hu75 hu76 hu77 (show 0 ≤ (0 : Int) by omega) (show (0 : Int) ≤ 1 by omega) (by first | rfl | exact hsh.1 | omega) (by first | rfl | exact hsh.2.1 | omega) (by first | rfl | exact hsh.2.2.1 | omega) (by first | rfl | exact hsh.2.2.2 | omega)) rfl
          refine lv_lload hx hb dX6_soundAll_119 (lv_at hl 1 rfl) ?_
          exact hp_lret hx hb hr hlocks hZ ⟨rfl, hP, trivial⟩ dX6_soundAll_121
        · have c81 : ¬ (z73).toInt = (0 : Int) := fun h9 => c81 (hq_eqi.mpr h9)
          refine lv_aload_n hx hb dX6_soundAll_104 rfl (lv_at hl 4 rfl) ?_
          obtain ⟨u86, z87, eV85, hu88, h89, h90, h91⟩ := hq_o0 hP.1 h_w
          refine hp_get (v := .int (z87)) hx hb hts hown hZ eV85 fl_X6_132 rfl dX6_soundAll_105 ?_
          refine lv_if_le (tgt := 115) hx hb dX6_soundAll_108 (by decide) (fun c92 => ?_) (fun c92 => ?_)
          · have c92 : (z87).toInt ≤ (0 : Int) := hq_lei.mp c92
            refine lv_iconst (v := 0) hx hb dX6_soundAll_115 (by decide) ?_
            refine hp_put hx hb hts hown hZ eV68 fp_X6_118 rfl rfl (Nat.le_of_ble_eq_true rfl) dX6_soundAll_116 (fun V93 _ _ e94 o95 hZ => ?_)
            have e94 : V93 (t) = some (.inr (6, [.ref (u69), .int (0), .ref (u70), .ref (u71), .ref (u72)])) := e94
            have hP := hP.put h_t e94 o95 (hq_c11 hu74 hu75 hu76 hu77 (show 0 ≤ (0 : Int) by omega) (show (0 : Int) ≤ 1 by omega) (by first | rfl | exact hsh.1 | omega) (by first | rfl | exact hsh.2.1 | omega) (by first | rfl | exact hsh.2.2.1 | omega) (by first | rfl | exact hsh.2.2.2 | omega)) rfl
            refine lv_lload hx hb dX6_soundAll_119 (lv_at hl 1 rfl) ?_
            exact hp_lret hx hb hr hlocks hZ ⟨rfl, hP, trivial⟩ dX6_soundAll_121
          · have c92 : ¬ (z87).toInt ≤ (0 : Int) := fun h9 => c92 (hq_lei.mpr h9)
            refine lv_iconst (v := 1) hx hb dX6_soundAll_111 (by decide) ?_
            refine lv_goto (tgt := 116) hx hb dX6_soundAll_112 (by decide) ?_
            refine hp_put hx hb hts hown hZ eV68 fp_X6_118 rfl rfl (Nat.le_of_ble_eq_true rfl) dX6_soundAll_116 (fun V96 _ _ e97 o98 hZ => ?_)
            have e97 : V96 (t) = some (.inr (6, [.ref (u69), .int (1), .ref (u70), .ref (u71), .ref (u72)])) := e97
            have hP := hP.put h_t e97 o98 (hq_c11 hu74 hu75 hu76 hu77 (show 0 ≤ (1 : Int) by omega) (show (1 : Int) ≤ 1 by omega) (by first | rfl | exact hsh.1 | omega) (by first | rfl | exact hsh.2.1 | omega) (by first | rfl | exact hsh.2.2.1 | omega) (by first | rfl | exact hsh.2.2.2 | omega)) rfl
            refine lv_lload hx hb dX6_soundAll_119 (lv_at hl 1 rfl) ?_
            exact hp_lret hx hb hr hlocks hZ ⟨rfl, hP, trivial⟩ dX6_soundAll_121
      · have c80 : ¬ (z73).toInt = (0 : Int) := fun h9 => c80 (hq_eqi.mpr h9)
        refine lv_aload_n hx hb dX6_soundAll_27 rfl (lv_at hl 3 rfl) ?_
        refine hp_get (v := .ref (u23)) hx hb hts hown hZ eV19 fl_X6_43 rfl dX6_soundAll_28 ?_
        refine lv_iload hx hb dX6_soundAll_31 (lv_at hl 0 rfl) ?_
        obtain ⟨hN101, g100, eV99, hf102, _⟩ := hq_o4 hP.1 hu30
        obtain ⟨u103, hx104, hu105⟩ := hf102 (i : Int32).toNatClampNeg (hq_ix (by omega) (by omega))
        have hu105 : G u103 = some (5, b, 0, 0) := hu105
        refine hp_aald (v := .ref (u103)) hx hb hZ 6 eV99 rfl (hq_in (by omega) (by omega)) (by rw [hx104]; rfl) dX6_soundAll_33 ?_
        obtain ⟨z107, z108, z109, z110, z111, z112, z113, z114, u115, u116, eV106, hu117, hu118, h119, h120⟩ := hq_o5 hP.1 hu105
        refine hp_get (v := .int (z107)) hx hb hts hown hZ eV106 fl_X6_125 rfl dX6_soundAll_34 ?_
        refine lv_iconst (v := 2) hx hb dX6_soundAll_37 (by decide) ?_
        refine lv_icmp_ne (tgt := 58) hx hb dX6_soundAll_38 (by decide) (fun c121 => ?_) (fun c121 => ?_)
        · have c121 : ¬ (z107).toInt = (2 : Int) := fun h9 => c121 (hq_eqi.mpr h9)
          refine lv_iconst (v := 0) hx hb dX6_soundAll_58 (by decide) ?_
          refine lv_istore (lv' := [(8, .int (0)), (7, .int (i)), (5, .long (bits)), (0, .ref (t)), (1, .ref (u)), (2, .ref (w)), (3, .int (no)), (4, .int (no2))]) hx hb dX6_soundAll_59 hl (by decide) rfl (fun ls hl => ?_)
          refine lv_iload hx hb dX6_soundAll_61 (lv_at hl 0 rfl) ?_
          refine lv_if_eq (tgt := 90) hx hb dX6_soundAll_63 (by decide) (fun c122 => ?_) (fun c122 => absurd (by decide) c122)
          obtain ⟨y123, ey124⟩ : ∃ y : Int32, y = i + (1) := ⟨_, rfl⟩
          obtain ⟨k125, hk126, b127, b128⟩ := hq_add (i) (1)
          rw [← ey124] at hk126 b127 b128
          have hk126 : (y123).toInt = (i).toInt + (1) + k125 * 4294967296 := hk126
          refine lv_iinc (v := y123) (lv' := [(7, .int (y123)), (8, .int (0)), (5, .long (bits)), (0, .ref (t)), (1, .ref (u)), (2, .ref (w)), (3, .int (no)), (4, .int (no2))]) hx hb dX6_soundAll_90 hl (k := 1) rfl (by rw [ey124]; rfl) (by decide) rfl (fun ls hl => ?_)
          refine lv_goto (tgt := 11) hx hb dX6_soundAll_93 (by decide) ?_
          exact ih11 _ (by omega) _ _ _ ls (bits) (y123) rfl hZ hP (by omega) (by omega) (lv_sub hl [0, 2, 3, 4, 5, 6, 7] rfl)
        · have c121 : (z107).toInt = (2 : Int) := hq_eqi.mp c121
          refine lv_iload hx hb dX6_soundAll_41 (lv_at hl 0 rfl) ?_
          refine lv_iload_n hx hb dX6_soundAll_43 rfl (lv_at hl 5 rfl) ?_
          refine lv_icmp_eq (tgt := 58) hx hb dX6_soundAll_44 (by decide) (fun c129 => ?_) (fun c129 => ?_)
          · have c129 : (i).toInt = (no).toInt := hq_eqi.mp c129
            refine lv_iconst (v := 0) hx hb dX6_soundAll_58 (by decide) ?_
            refine lv_istore (lv' := [(8, .int (0)), (7, .int (i)), (5, .long (bits)), (0, .ref (t)), (1, .ref (u)), (2, .ref (w)), (3, .int (no)), (4, .int (no2))]) hx hb dX6_soundAll_59 hl (by decide) rfl (fun ls hl => ?_)
            refine lv_iload hx hb dX6_soundAll_61 (lv_at hl 0 rfl) ?_
            refine lv_if_eq (tgt := 90) hx hb dX6_soundAll_63 (by decide) (fun c130 => ?_) (fun c130 => absurd (by decide) c130)
            obtain ⟨y131, ey132⟩ : ∃ y : Int32, y = i + (1) := ⟨_, rfl⟩
            obtain ⟨k133, hk134, b135, b136⟩ := hq_add (i) (1)
            rw [← ey132] at hk134 b135 b136
            have hk134 : (y131).toInt = (i).toInt + (1) + k133 * 4294967296 := hk134
            refine lv_iinc (v := y131) (lv' := [(7, .int (y131)), (8, .int (0)), (5, .long (bits)), (0, .ref (t)), (1, .ref (u)), (2, .ref (w)), (3, .int (no)), (4, .int (no2))]) hx hb dX6_soundAll_90 hl (k := 1) rfl (by rw [ey132]; rfl) (by decide) rfl (fun ls hl => ?_)
            refine lv_goto (tgt := 11) hx hb dX6_soundAll_93 (by decide) ?_
            exact ih11 _ (by omega) _ _ _ ls (bits) (y131) rfl hZ hP (by omega) (by omega) (lv_sub hl [0, 2, 3, 4, 5, 6, 7] rfl)
          · have c129 : ¬ (i).toInt = (no).toInt := fun h9 => c129 (hq_eqi.mpr h9)
            refine lv_iload hx hb dX6_soundAll_47 (lv_at hl 0 rfl) ?_
            refine lv_iload hx hb dX6_soundAll_49 (lv_at hl 6 rfl) ?_
            refine lv_icmp_eq (tgt := 58) hx hb dX6_soundAll_51 (by decide) (fun c137 => ?_) (fun c137 => ?_)
            · have c137 : (i).toInt = (no2).toInt := hq_eqi.mp c137
              refine lv_iconst (v := 0) hx hb dX6_soundAll_58 (by decide) ?_
              refine lv_istore (lv' := [(8, .int (0)), (7, .int (i)), (5, .long (bits)), (0, .ref (t)), (1, .ref (u)), (2, .ref (w)), (3, .int (no)), (4, .int (no2))]) hx hb dX6_soundAll_59 hl (by decide) rfl (fun ls hl => ?_)
              refine lv_iload hx hb dX6_soundAll_61 (lv_at hl 0 rfl) ?_
              refine lv_if_eq (tgt := 90) hx hb dX6_soundAll_63 (by decide) (fun c138 => ?_) (fun c138 => absurd (by decide) c138)
              obtain ⟨y139, ey140⟩ : ∃ y : Int32, y = i + (1) := ⟨_, rfl⟩
              obtain ⟨k141, hk142, b143, b144⟩ := hq_add (i) (1)
              rw [← ey140] at hk142 b143 b144
              have hk142 : (y139).toInt = (i).toInt + (1) + k141 * 4294967296 := hk142
              refine lv_iinc (v := y139) (lv' := [(7, .int (y139)), (8, .int (0)), (5, .long (bits)), (0, .ref (t)), (1, .ref (u)), (2, .ref (w)), (3, .int (no)), (4, .int (no2))]) hx hb dX6_soundAll_90 hl (k := 1) rfl (by rw [ey140]; rfl) (by decide) rfl (fun ls hl => ?_)
              refine lv_goto (tgt := 11) hx hb dX6_soundAll_93 (by decide) ?_
              exact ih11 _ (by omega) _ _ _ ls (bits) (y139) rfl hZ hP (by omega) (by omega) (lv_sub hl [0, 2, 3, 4, 5, 6, 7] rfl)
            · have c137 : ¬ (i).toInt = (no2).toInt := fun h9 => c137 (hq_eqi.mpr h9)
              refine lv_iconst (v := 1) hx hb dX6_soundAll_54 (by decide) ?_
              refine lv_goto (tgt := 59) hx hb dX6_soundAll_55 (by decide) ?_
              refine lv_istore (lv' := [(8, .int (1)), (7, .int (i)), (5, .long (bits)), (0, .ref (t)), (1, .ref (u)), (2, .ref (w)), (3, .int (no)), (4, .int (no2))]) hx hb dX6_soundAll_59 hl (by decide) rfl (fun ls hl => ?_)
              refine lv_iload hx hb dX6_soundAll_61 (lv_at hl 0 rfl) ?_
              refine lv_if_eq (tgt := 90) hx hb dX6_soundAll_63 (by decide) (fun c145 => absurd c145 (by decide)) (fun c145 => ?_)
              refine lv_aload_n hx hb dX6_soundAll_66 rfl (lv_at hl 3 rfl) ?_
              refine lv_aload_n hx hb dX6_soundAll_67 rfl (lv_at hl 4 rfl) ?_
              refine hp_get (v := .ref (u23)) hx hb hts hown hZ eV19 fl_X6_43 rfl dX6_soundAll_68 ?_
              refine lv_iload hx hb dX6_soundAll_71 (lv_at hl 1 rfl) ?_
              obtain ⟨u146, hx147, hu148⟩ := hf102 (i : Int32).toNatClampNeg (hq_ix (by omega) (by omega))
              have hu148 : G u146 = some (5, b, 0, 0) := hu148
              refine hp_aald (v := .ref (u146)) hx hb hZ 6 eV99 rfl (hq_in (by omega) (by omega)) (by rw [hx147]; rfl) dX6_soundAll_73 ?_
              refine lv_aload_n hx hb dX6_soundAll_74 rfl (lv_at hl 5 rfl) ?_
              refine hp_calli (hp_runV (As := [.ref (u146), .ref (w)]) (rest := []) hx hb hml hown hts (t_X6_sound l D cs B G  V9 n hP.1 b (t) h_t (u146) hu148 (w) h_w ) hZ eV68 cv_X6_128 rfl rfl ⟨Nat.le_of_ble_eq_true rfl, Nat.le_of_ble_eq_true rfl⟩ rfl hl.1 rfl (Nat.le_of_ble_eq_true rfl) dX6_soundAll_75 ⟨(Nat.le_of_ble_eq_true rfl), (Nat.le_of_ble_eq_true rfl)⟩) hZ (fun r152 V149 n150 _ _ hw151 hZ => ?_)
              obtain ⟨rfl, hq153, hr154⟩ := hw151
              have hP := hP.trans hq153 (by intro g h; simp_all)
              have b155 := hq_rng r152
              refine lv_if_eq (tgt := 90) hx hb dX6_soundAll_78 (by decide) (fun c156 => ?_) (fun c156 => ?_)
              · have c156 : (r152).toInt = (0 : Int) := hq_eqi.mp c156
                obtain ⟨y157, ey158⟩ : ∃ y : Int32, y = i + (1) := ⟨_, rfl⟩
                obtain ⟨k159, hk160, b161, b162⟩ := hq_add (i) (1)
                rw [← ey158] at hk160 b161 b162
                have hk160 : (y157).toInt = (i).toInt + (1) + k159 * 4294967296 := hk160
                refine lv_iinc (v := y157) (lv' := [(7, .int (y157)), (8, .int (1)), (5, .long (bits)), (0, .ref (t)), (1, .ref (u)), (2, .ref (w)), (3, .int (no)), (4, .int (no2))]) hx hb dX6_soundAll_90 hl (k := 1) rfl (by rw [ey158]; rfl) (by decide) rfl (fun ls hl => ?_)
                refine lv_goto (tgt := 11) hx hb dX6_soundAll_93 (by decide) ?_
                exact ih11 _ (by omega) _ _ _ ls (bits) (y157) rfl hZ hP (by omega) (by omega) (lv_sub hl [0, 2, 3, 4, 5, 6, 7] rfl)
              · have c156 : ¬ (r152).toInt = (0 : Int) := fun h9 => c156 (hq_eqi.mpr h9)
                refine lv_lload hx hb dX6_soundAll_81 (lv_at hl 2 rfl) ?_
                refine lv_lconst (v := 1) hx hb dX6_soundAll_83 (by decide) ?_
                refine lv_iload hx hb dX6_soundAll_84 (lv_at hl 1 rfl) ?_
                refine lv_lshl (v := (1 : Int64) <<< ((i : Int32).toInt64 &&& 63)) hx hb dX6_soundAll_86 rfl ?_
                refine lv_topl (fun y163 ey164 => ?_)
                refine lv_lor hx hb dX6_soundAll_87 ?_
                refine lv_topl (fun y165 ey166 => ?_)
                refine lv_lstore (lv' := [(5, .long (y165)), (8, .int (1)), (7, .int (i)), (0, .ref (t)), (1, .ref (u)), (2, .ref (w)), (3, .int (no)), (4, .int (no2))]) hx hb dX6_soundAll_88 hl (by decide) rfl (fun ls hl => ?_)
                obtain ⟨y167, ey168⟩ : ∃ y : Int32, y = i + (1) := ⟨_, rfl⟩
                obtain ⟨k169, hk170, b171, b172⟩ := hq_add (i) (1)
                rw [← ey168] at hk170 b171 b172
                have hk170 : (y167).toInt = (i).toInt + (1) + k169 * 4294967296 := hk170
                refine lv_iinc (v := y167) (lv' := [(7, .int (y167)), (5, .long (y165)), (8, .int (1)), (0, .ref (t)), (1, .ref (u)), (2, .ref (w)), (3, .int (no)), (4, .int (no2))]) hx hb dX6_soundAll_90 hl (k := 2) rfl (by rw [ey168]; rfl) (by decide) rfl (fun ls hl => ?_)
                refine lv_goto (tgt := 11) hx hb dX6_soundAll_93 (by decide) ?_
                exact ih11 _ (by omega) _ _ _ ls (y165) (y167) rfl hZ hP (by omega) (by omega) (lv_sub hl [0, 1, 3, 4, 5, 6, 7] rfl)

set_option maxHeartbeats 4000000 in
set_option maxRecDepth 100000 in
theorem t_X6_addExcepts (l : Launch) (D : va_G) (cs : Nat → ClassId) (B : Nat) (G : hq_G) (V : hp_V) (n : Nat) (hI : hq_I cs G V) (b R : Nat) (t : Nat) (h_t : G t = some (11, 0, 0, 0)) (u : Nat) (h_u : G u = some (6, b, 0, 0)) (f : Nat) (h_f : G f = some (8, R, 0, 0)) (v : Int32) (te : Int32) (pe : Int32) (hv0 : 0 ≤ v.toInt) (hv1 : v.toInt < 30) : hp_M l yX6_addExcepts cX6_addExcepts 9 none ({ frames := 4, cells := 0, slots := 0, locals := 92 }) D cs B V n [.ref (t), .ref (u), .ref (f), .int (v), .int (te), .int (pe)] (hp_QV D cs B (fun V' n' => n = n' ∧ hq_P cs G (fun g => g.1 == 5 || g.1 == 6 || g.1 == 7) V V')) 0 0 := by
  refine hp_walk (R0 := RX6) (by decide) rfl ?_ (Nat.le_of_ble_eq_true rfl)
  intro p e s m below meth c ls hx hb hr hts hown hlocks hin hml hZ hl
  have hP : hq_P cs G (fun g => g.1 == 5 || g.1 == 6 || g.1 == 7) V V := hq_P.rf hI
  have hl : lv_has ls 9 [(0, .ref (t)), (1, .ref (u)), (2, .ref (f)), (3, .int (v)), (4, .int (te)), (5, .int (pe))] := hl
  have hb_v := hq_rng v
  have hb_te := hq_rng te
  have hb_pe := hq_rng pe
  refine lv_aload_n hx hb dX6_addExcepts_0 rfl (lv_at hl 1 rfl) ?_
  refine lv_iconst (v := 4) hx hb dX6_addExcepts_1 (by decide) ?_
  refine lv_iconst (v := 0) hx hb dX6_addExcepts_2 (by decide) ?_
  refine lv_iload_n hx hb dX6_addExcepts_3 rfl (lv_at hl 3 rfl) ?_
  refine lv_iload hx hb dX6_addExcepts_4 (lv_at hl 4 rfl) ?_
  refine lv_iload hx hb dX6_addExcepts_6 (lv_at hl 5 rfl) ?_
  have hl7 : (4 : Int32).toInt = 4 := by decide
  have hl8 : (0 : Int32).toInt = 0 := by decide
  obtain ⟨u10, u11, u12, u13, z14, z15, z16, eV9, hu17, hu18, hu19, hu20, ⟨h21, h22⟩, ⟨h23, h24⟩, h25, h26⟩ := hq_o6 hP.1 h_u
  refine hp_calli (hp_runV (As := [.int (4), .int (0), .int (v), .int (te), .int (pe)]) (rest := []) hx hb hml hown hts (t_X0_nextFitting l D cs B G  V n hP.1 b (u) h_u (4) (0) (v) (te) (pe) (by first | omega | decide) (by omega) (by omega)) hZ eV9 cv_X6_33 rfl rfl ⟨Nat.le_of_ble_eq_true rfl, Nat.le_of_ble_eq_true rfl⟩ rfl hl.1 rfl (Nat.le_of_ble_eq_true rfl) dX6_addExcepts_8 ⟨(Nat.le_of_ble_eq_true rfl), (Nat.le_of_ble_eq_true rfl)⟩) hZ (fun r4 V1 n2 _ _ hw3 hZ => ?_)
  obtain ⟨rfl, hq5, hr6⟩ := hw3
  have hP := hP.trans hq5 (fun _ _ => rfl)
  have b27 := hq_rng r4
  refine lv_istore (lv' := [(6, .int (r4)), (0, .ref (t)), (1, .ref (u)), (2, .ref (f)), (3, .int (v)), (4, .int (te)), (5, .int (pe))]) hx hb dX6_addExcepts_11 hl (by decide) rfl (fun ls hl => ?_)
  refine lv_iconst (v := 0) hx hb dX6_addExcepts_13 (by decide) ?_
  refine lv_istore (lv' := [(7, .int (0)), (6, .int (r4)), (0, .ref (t)), (1, .ref (u)), (2, .ref (f)), (3, .int (v)), (4, .int (te)), (5, .int (pe))]) hx hb dX6_addExcepts_14 hl (by decide) rfl (fun ls hl => ?_)
  have hl28 : (0 : Int32).toInt = 0 := by decide
  suffices lp16 : ∀ (k9 : Nat) (V9 : hp_V) (H9 : Heap) (locs9 : List Loc) (ls : Array Slot) (ex : Int32) (i : Int32), (100 - i.toInt).toNat = k9 → hp_Z D cs B s V9 H9 n locs9 → hq_P cs G (fun g => g.1 == 5 || g.1 == 6 || g.1 == 7) V V9 → -1 ≤ ex.toInt → ex.toInt < 60 → 0 ≤ i.toInt → i.toInt ≤ 2 → lv_has ls 9 [(7, .int (i)), (6, .int (ex)), (0, .ref (t)), (1, .ref (u)), (2, .ref (f)), (3, .int (v)), (4, .int (te)), (5, .int (pe))] → W p l e ({ frames := 4, cells := 0, slots := 0, locals := 92 }) s m ([.ref (t), .ref (u), .ref (f), .int (v), .int (te), .int (pe)] : List Value).toArray below meth c H9 locs9 0 0 (MQ below (hp_QV D cs B (fun V' n' => n = n' ∧ hq_P cs G (fun g => g.1 == 5 || g.1 == 6 || g.1 == 7) V V')) ([.ref (t), .ref (u), .ref (f), .int (v), .int (te), .int (pe)] : List Value).toArray s 0 0 (hp_F B)) (F0 m 16 ls []) from lp16 _ _ _ _ ls (r4) (0) rfl hZ hP (by omega) (by omega) (by omega) (by omega) (lv_sub hl [0, 1, 2, 3, 4, 5, 6, 7] rfl)
  intro k9
  induction k9 using Nat.strongRecOn with
  | _ k9 ih16 =>
    intro V9 H9 locs9 ls ex i  hk16 hZ hP  hv29 hv30 hv31 hv32 hl
    have hb_ex := hq_rng ex
    have hb_i := hq_rng i
    have hP_16 := hP
    refine lv_iload hx hb dX6_addExcepts_16 (lv_at hl 0 rfl) ?_
    refine lv_iconst (v := 2) hx hb dX6_addExcepts_18 (by decide) ?_
    refine lv_icmp_ge (tgt := 91) hx hb dX6_addExcepts_19 (by decide) (fun c33 => ?_) (fun c33 => ?_)
    · have c33 : (2 : Int) ≤ (i).toInt := hq_lei.mp c33
      exact hp_vret hx hb hr hlocks hZ ⟨rfl, hP⟩ dX6_addExcepts_91
    · have c33 : ¬ (2 : Int) ≤ (i).toInt := fun h9 => c33 (hq_lei.mpr h9)
      refine lv_iload hx hb dX6_addExcepts_22 (lv_at hl 1 rfl) ?_
      refine lv_iconst (v := -1) hx hb dX6_addExcepts_24 (by decide) ?_
      refine lv_icmp_eq (tgt := 91) hx hb dX6_addExcepts_25 (by decide) (fun c34 => ?_) (fun c34 => ?_)
      · have c34 : (ex).toInt = (-1 : Int) := hq_eqi.mp c34
        exact hp_vret hx hb hr hlocks hZ ⟨rfl, hP⟩ dX6_addExcepts_91
      · have c34 : ¬ (ex).toInt = (-1 : Int) := fun h9 => c34 (hq_eqi.mpr h9)
        refine lv_aload_n hx hb dX6_addExcepts_28 rfl (lv_at hl 4 rfl) ?_
        obtain ⟨u42, z43, eV41, hu44, h45, h46, h47⟩ := hq_o8 hP.1 h_f
        refine hp_callq (hp_runV (As := []) (rest := []) hx hb hml hown hts (t_X3_open l D cs B G  V9 n hP.1 R (f) h_f ) hZ eV41 cv_X6_73 rfl rfl ⟨Nat.le_of_ble_eq_true rfl, Nat.le_of_ble_eq_true rfl⟩ rfl hl.1 rfl (Nat.le_of_ble_eq_true rfl) dX6_addExcepts_29 ⟨(Nat.le_of_ble_eq_true rfl), (Nat.le_of_ble_eq_true rfl)⟩) hZ (fun r38 V35 n36 _ _ hw37 hZ => ?_)
        obtain ⟨rfl, hq39, hr40⟩ := hw37
        have hP := hP.trans hq39 (by intro g h; simp_all)
        rcases r38 with _ | u48
        · refine W.eq (g2 := F0 m 32 ls [.null]) rfl ?_
          refine lv_astoreN (lv' := [(8, .null), (7, .int (i)), (6, .int (ex)), (0, .ref (t)), (1, .ref (u)), (2, .ref (f)), (3, .int (v)), (4, .int (te)), (5, .int (pe))]) hx hb dX6_addExcepts_32 hl (by decide) rfl (fun ls hl => ?_)
          refine lv_aloadN hx hb dX6_addExcepts_34 (lv_at hl 0 rfl) ?_
          refine lv_ifnullN (tgt := 69) hx hb dX6_addExcepts_36 (by decide) ?_
          refine lv_aload_n hx hb dX6_addExcepts_69 rfl (lv_at hl 4 rfl) ?_
          refine lv_iconst (v := 4) hx hb dX6_addExcepts_70 (by decide) ?_
          refine lv_iload hx hb dX6_addExcepts_71 (lv_at hl 2 rfl) ?_
          refine lv_iconst (v := 1) hx hb dX6_addExcepts_73 (by decide) ?_
          refine lv_iadd hx hb dX6_addExcepts_74 ?_
          refine lv_topi (fun y50 ey51 => ?_)
          obtain ⟨k52, hk53, b54, b55⟩ := hq_add (ex) (1)
          rw [← ey51] at hk53 b54 b55
          have hk53 : (y50).toInt = (ex).toInt + (1 : Int) + k52 * 4294967296 := hk53
          refine lv_iload_n hx hb dX6_addExcepts_75 rfl (lv_at hl 6 rfl) ?_
          refine lv_iload hx hb dX6_addExcepts_76 (lv_at hl 7 rfl) ?_
          refine lv_iload hx hb dX6_addExcepts_78 (lv_at hl 8 rfl) ?_
          have hl62 : (4 : Int32).toInt = 4 := by decide
          have fx63 : V35 (u) = some (.inr (0, [.ref (u10), .int (z14), .ref (u11), .ref (u12), .int (z15), .ref (u13), .int (z16)])) := (hq39.2 (u) _ h_u rfl).trans ((hP_16.2 (u) _ h_u rfl).trans (eV9))
          refine hp_calli (hp_runV (As := [.int (4), .int (y50), .int (v), .int (te), .int (pe)]) (rest := []) hx hb hml hown hts (t_X0_nextFitting l D cs B G  V35 n hP.1 b (u) h_u (4) (y50) (v) (te) (pe) (by first | omega | decide) (by omega) (by omega)) hZ fx63 cv_X6_33 rfl rfl ⟨Nat.le_of_ble_eq_true rfl, Nat.le_of_ble_eq_true rfl⟩ rfl hl.1 rfl (Nat.le_of_ble_eq_true rfl) dX6_addExcepts_80 ⟨(Nat.le_of_ble_eq_true rfl), (Nat.le_of_ble_eq_true rfl)⟩) hZ (fun r59 V56 n57 _ _ hw58 hZ => ?_)
          obtain ⟨rfl, hq60, hr61⟩ := hw58
          have hP := hP.trans hq60 (fun _ _ => rfl)
          have b64 := hq_rng r59
          refine lv_istore (lv' := [(6, .int (r59)), (8, .null), (7, .int (i)), (0, .ref (t)), (1, .ref (u)), (2, .ref (f)), (3, .int (v)), (4, .int (te)), (5, .int (pe))]) hx hb dX6_addExcepts_83 hl (by decide) rfl (fun ls hl => ?_)
          obtain ⟨y65, ey66⟩ : ∃ y : Int32, y = i + (1) := ⟨_, rfl⟩
          obtain ⟨k67, hk68, b69, b70⟩ := hq_add (i) (1)
          rw [← ey66] at hk68 b69 b70
          have hk68 : (y65).toInt = (i).toInt + (1) + k67 * 4294967296 := hk68
          refine lv_iinc (v := y65) (lv' := [(7, .int (y65)), (6, .int (r59)), (8, .null), (0, .ref (t)), (1, .ref (u)), (2, .ref (f)), (3, .int (v)), (4, .int (te)), (5, .int (pe))]) hx hb dX6_addExcepts_85 hl (k := 2) rfl (by rw [ey66]; rfl) (by decide) rfl (fun ls hl => ?_)
          refine lv_goto (tgt := 16) hx hb dX6_addExcepts_88 (by decide) ?_
          exact ih16 _ (by omega) _ _ _ ls (r59) (y65) rfl hZ hP (by omega) (by omega) (by omega) (by omega) (lv_sub hl [0, 1, 3, 4, 5, 6, 7, 8] rfl)
        · refine W.eq (g2 := F0 m 32 ls [.ref (u48)]) rfl ?_
          have hu49 := hr40 u48 rfl
          refine lv_astore (lv' := [(8, .ref (u48)), (7, .int (i)), (6, .int (ex)), (0, .ref (t)), (1, .ref (u)), (2, .ref (f)), (3, .int (v)), (4, .int (te)), (5, .int (pe))]) hx hb dX6_addExcepts_32 hl (by decide) rfl (fun ls hl => ?_)
          refine lv_aload hx hb dX6_addExcepts_34 (lv_at hl 0 rfl) ?_
          refine lv_ifnull hx hb dX6_addExcepts_36 ?_
          refine lv_aload hx hb dX6_addExcepts_39 (lv_at hl 0 rfl) ?_
          obtain ⟨u72, u73, z74, eV71, hu75, hu76, h77, h78⟩ := hq_o7 hP.1 hu49
          refine hp_get (v := .ref (u72)) hx hb hts hown hZ eV71 fl_X6_86 rfl dX6_addExcepts_41 ?_
          refine lv_aload_n hx hb dX6_addExcepts_44 rfl (lv_at hl 4 rfl) ?_
          have fx79 : V35 (u) = some (.inr (0, [.ref (u10), .int (z14), .ref (u11), .ref (u12), .int (z15), .ref (u13), .int (z16)])) := (hq39.2 (u) _ h_u rfl).trans ((hP_16.2 (u) _ h_u rfl).trans (eV9))
          refine hp_get (v := .ref (u13)) hx hb hts hown hZ fx79 fl_X6_43 rfl dX6_addExcepts_45 ?_
          refine lv_iload hx hb dX6_addExcepts_48 (lv_at hl 2 rfl) ?_
          obtain ⟨hN82, g81, eV80, hf83, _⟩ := hq_o4 hP.1 hu20
          obtain ⟨u84, hx85, hu86⟩ := hf83 (ex : Int32).toNatClampNeg (hq_ix (by omega) (by omega))
          have hu86 : G u84 = some (5, b, 0, 0) := hu86
          refine hp_aald (v := .ref (u84)) hx hb hZ 6 eV80 rfl (hq_in (by omega) (by omega)) (by rw [hx85]; rfl) dX6_addExcepts_50 ?_
          obtain ⟨z88, z89, z90, z91, z92, z93, z94, z95, u96, u97, eV87, hu98, hu99, h100, h101⟩ := hq_o5 hP.1 hu86
          refine hp_get (v := .ref (u96)) hx hb hts hown hZ eV87 fl_X6_107 rfl dX6_addExcepts_51 ?_
          obtain ⟨u109, z110, eV108, hu111, h112, h113, h114⟩ := hq_o0 hP.1 hu75
          refine hp_calli (hp_runV (As := [.ref (u96)]) (rest := []) hx hb hml hown hts (t_X9_addAll l D cs B G (fun g => g.1 == 5) V35 n hP.1 30 8 (u72) hu75 (u96) hu98 rfl rfl) hZ eV108 cv_X6_89 rfl rfl ⟨Nat.le_of_ble_eq_true rfl, Nat.le_of_ble_eq_true rfl⟩ rfl hl.1 rfl (Nat.le_of_ble_eq_true rfl) dX6_addExcepts_54 ⟨(Nat.le_of_ble_eq_true rfl), (Nat.le_of_ble_eq_true rfl)⟩) hZ (fun r105 V102 n103 _ _ hw104 hZ => ?_)
          obtain ⟨rfl, hq106, hr107⟩ := hw104
          have hP := hP.trans hq106 (by intro g h; simp_all)
          have b115 := hq_rng r105
          refine lv_pop hx hb dX6_addExcepts_57 rfl ?_
          refine lv_aload hx hb dX6_addExcepts_58 (lv_at hl 0 rfl) ?_
          refine lv_iload hx hb dX6_addExcepts_60 (lv_at hl 2 rfl) ?_
          obtain ⟨u123, u124, z125, eV122, hu126, hu127, h128, h129⟩ := hq_o7 hP.1 hu49
          refine hp_callv (hp_runV (As := [.int (ex)]) (rest := []) hx hb hml hown hts (t_X2_addLine l D cs B G  V102 n hP.1  (u48) hu49 (ex) ) hZ eV122 cv_X6_77 rfl rfl ⟨Nat.le_of_ble_eq_true rfl, Nat.le_of_ble_eq_true rfl⟩ rfl hl.1 rfl (Nat.le_of_ble_eq_true rfl) dX6_addExcepts_62 ⟨(Nat.le_of_ble_eq_true rfl), (Nat.le_of_ble_eq_true rfl)⟩) hZ (fun V116 n117 _ _ hw118 hZ => ?_)
          obtain ⟨rfl, hq120⟩ := hw118
          have hP := hP.trans hq120 (by intro g h; simp_all)
          refine lv_aload_n hx hb dX6_addExcepts_65 rfl (lv_at hl 5 rfl) ?_
          have fx136 : V116 (f) = some (.inr (3, [.ref (u42), .int (z43)])) := (hq120.2 (f) _ h_f rfl).trans ((hq106.2 (f) _ h_f rfl).trans ((hq39.2 (f) _ h_f rfl).trans (eV41)))
          refine hp_callv (hp_runV (As := []) (rest := []) hx hb hml hown hts (t_X3_keep l D cs B G  V116 n hP.1 R (f) h_f ) hZ fx136 cv_X6_97 rfl rfl ⟨Nat.le_of_ble_eq_true rfl, Nat.le_of_ble_eq_true rfl⟩ rfl hl.1 rfl (Nat.le_of_ble_eq_true rfl) dX6_addExcepts_66 ⟨(Nat.le_of_ble_eq_true rfl), (Nat.le_of_ble_eq_true rfl)⟩) hZ (fun V130 n131 _ _ hw132 hZ => ?_)
          obtain ⟨rfl, hq134⟩ := hw132
          have hP := hP.trans hq134 (by intro g h; simp_all)
          refine lv_aload_n hx hb dX6_addExcepts_69 rfl (lv_at hl 4 rfl) ?_
          refine lv_iconst (v := 4) hx hb dX6_addExcepts_70 (by decide) ?_
          refine lv_iload hx hb dX6_addExcepts_71 (lv_at hl 2 rfl) ?_
          refine lv_iconst (v := 1) hx hb dX6_addExcepts_73 (by decide) ?_
          refine lv_iadd hx hb dX6_addExcepts_74 ?_
          refine lv_topi (fun y137 ey138 => ?_)
          obtain ⟨k139, hk140, b141, b142⟩ := hq_add (ex) (1)
          rw [← ey138] at hk140 b141 b142
          have hk140 : (y137).toInt = (ex).toInt + (1 : Int) + k139 * 4294967296 := hk140
          refine lv_iload_n hx hb dX6_addExcepts_75 rfl (lv_at hl 6 rfl) ?_
          refine lv_iload hx hb dX6_addExcepts_76 (lv_at hl 7 rfl) ?_
          refine lv_iload hx hb dX6_addExcepts_78 (lv_at hl 8 rfl) ?_
          have hl149 : (4 : Int32).toInt = 4 := by decide
          have fx150 : V130 (u) = some (.inr (0, [.ref (u10), .int (z14), .ref (u11), .ref (u12), .int (z15), .ref (u13), .int (z16)])) := (hq134.2 (u) _ h_u rfl).trans ((hq120.2 (u) _ h_u rfl).trans ((hq106.2 (u) _ h_u rfl).trans (fx79)))
          refine hp_calli (hp_runV (As := [.int (4), .int (y137), .int (v), .int (te), .int (pe)]) (rest := []) hx hb hml hown hts (t_X0_nextFitting l D cs B G  V130 n hP.1 b (u) h_u (4) (y137) (v) (te) (pe) (by first | omega | decide) (by omega) (by omega)) hZ fx150 cv_X6_33 rfl rfl ⟨Nat.le_of_ble_eq_true rfl, Nat.le_of_ble_eq_true rfl⟩ rfl hl.1 rfl (Nat.le_of_ble_eq_true rfl) dX6_addExcepts_80 ⟨(Nat.le_of_ble_eq_true rfl), (Nat.le_of_ble_eq_true rfl)⟩) hZ (fun r146 V143 n144 _ _ hw145 hZ => ?_)
          obtain ⟨rfl, hq147, hr148⟩ := hw145
          have hP := hP.trans hq147 (fun _ _ => rfl)
          have b151 := hq_rng r146
          refine lv_istore (lv' := [(6, .int (r146)), (8, .ref (u48)), (7, .int (i)), (0, .ref (t)), (1, .ref (u)), (2, .ref (f)), (3, .int (v)), (4, .int (te)), (5, .int (pe))]) hx hb dX6_addExcepts_83 hl (by decide) rfl (fun ls hl => ?_)
          obtain ⟨y152, ey153⟩ : ∃ y : Int32, y = i + (1) := ⟨_, rfl⟩
          obtain ⟨k154, hk155, b156, b157⟩ := hq_add (i) (1)
          rw [← ey153] at hk155 b156 b157
          have hk155 : (y152).toInt = (i).toInt + (1) + k154 * 4294967296 := hk155
          refine lv_iinc (v := y152) (lv' := [(7, .int (y152)), (6, .int (r146)), (8, .ref (u48)), (0, .ref (t)), (1, .ref (u)), (2, .ref (f)), (3, .int (v)), (4, .int (te)), (5, .int (pe))]) hx hb dX6_addExcepts_85 hl (k := 2) rfl (by rw [ey153]; rfl) (by decide) rfl (fun ls hl => ?_)
          refine lv_goto (tgt := 16) hx hb dX6_addExcepts_88 (by decide) ?_
          exact ih16 _ (by omega) _ _ _ ls (r146) (y152) rfl hZ hP (by omega) (by omega) (by omega) (by omega) (lv_sub hl [0, 1, 3, 4, 5, 6, 7, 8] rfl)

set_option maxHeartbeats 4000000 in
set_option maxRecDepth 100000 in
theorem t_X6_makePlain (l : Launch) (D : va_G) (cs : Nat → ClassId) (B : Nat) (G : hq_G) (V : hp_V) (n : Nat) (hI : hq_I cs G V) (b R : Nat) (t : Nat) (h_t : G t = some (11, 0, 0, 0)) (u : Nat) (h_u : G u = some (6, b, 0, 0)) (f : Nat) (h_f : G f = some (8, R, 0, 0)) (v : Int32) (te : Int32) (pe : Int32) (hv0 : 0 ≤ v.toInt) (hv1 : v.toInt < 30) : hp_M l yX6_makePlain cX6_makePlain 9 none ({ frames := 5, cells := 0, slots := 0, locals := 121 }) D cs B V n [.ref (t), .ref (u), .ref (f), .int (v), .int (te), .int (pe)] (hp_QV D cs B (fun V' n' => n = n' ∧ hq_P cs G (fun g => g.1 == 5 || g.1 == 6 || g.1 == 7) V V')) 0 0 := by
  refine hp_walk (R0 := RX6) (by decide) rfl ?_ (Nat.le_of_ble_eq_true rfl)
  intro p e s m below meth c ls hx hb hr hts hown hlocks hin hml hZ hl
  have hP : hq_P cs G (fun g => g.1 == 5 || g.1 == 6 || g.1 == 7) V V := hq_P.rf hI
  have hl : lv_has ls 9 [(0, .ref (t)), (1, .ref (u)), (2, .ref (f)), (3, .int (v)), (4, .int (te)), (5, .int (pe))] := hl
  have hb_v := hq_rng v
  have hb_te := hq_rng te
  have hb_pe := hq_rng pe
  refine lv_aload_n hx hb dX6_makePlain_0 rfl (lv_at hl 2 rfl) ?_
  obtain ⟨u8, z9, eV7, hu10, h11, h12, h13⟩ := hq_o8 hP.1 h_f
  refine hp_callv (hp_runV (As := []) (rest := []) hx hb hml hown hts (t_X3_clear l D cs B G  V n hP.1 R (f) h_f ) hZ eV7 cv_X6_59 rfl rfl ⟨Nat.le_of_ble_eq_true rfl, Nat.le_of_ble_eq_true rfl⟩ rfl hl.1 rfl (Nat.le_of_ble_eq_true rfl) dX6_makePlain_1 ⟨(Nat.le_of_ble_eq_true rfl), (Nat.le_of_ble_eq_true rfl)⟩) hZ (fun V1 n2 _ _ hw3 hZ => ?_)
  obtain ⟨rfl, hq5⟩ := hw3
  have hP := hP.trans hq5 (by intro g h; simp_all)
  refine lv_aload_n hx hb dX6_makePlain_4 rfl (lv_at hl 1 rfl) ?_
  refine lv_iconst (v := 5) hx hb dX6_makePlain_5 (by decide) ?_
  refine lv_iconst (v := 0) hx hb dX6_makePlain_6 (by decide) ?_
  refine lv_iload_n hx hb dX6_makePlain_7 rfl (lv_at hl 3 rfl) ?_
  refine lv_iload hx hb dX6_makePlain_8 (lv_at hl 4 rfl) ?_
  refine lv_iload hx hb dX6_makePlain_10 (lv_at hl 5 rfl) ?_
  have hl20 : (5 : Int32).toInt = 5 := by decide
  have hl21 : (0 : Int32).toInt = 0 := by decide
  obtain ⟨u23, u24, u25, u26, z27, z28, z29, eV22, hu30, hu31, hu32, hu33, ⟨h34, h35⟩, ⟨h36, h37⟩, h38, h39⟩ := hq_o6 hP.1 h_u
  refine hp_calli (hp_runV (As := [.int (5), .int (0), .int (v), .int (te), .int (pe)]) (rest := []) hx hb hml hown hts (t_X0_nextFitting l D cs B G  V1 n hP.1 b (u) h_u (5) (0) (v) (te) (pe) (by first | omega | decide) (by omega) (by omega)) hZ eV22 cv_X6_33 rfl rfl ⟨Nat.le_of_ble_eq_true rfl, Nat.le_of_ble_eq_true rfl⟩ rfl hl.1 rfl (Nat.le_of_ble_eq_true rfl) dX6_makePlain_12 ⟨(Nat.le_of_ble_eq_true rfl), (Nat.le_of_ble_eq_true rfl)⟩) hZ (fun r17 V14 n15 _ _ hw16 hZ => ?_)
  obtain ⟨rfl, hq18, hr19⟩ := hw16
  have hP := hP.trans hq18 (fun _ _ => rfl)
  have b40 := hq_rng r17
  refine lv_iconst (v := -1) hx hb dX6_makePlain_15 (by decide) ?_
  refine lv_icmp_eq (tgt := 20) hx hb dX6_makePlain_16 (by decide) (fun c41 => ?_) (fun c41 => ?_)
  · have c41 : (r17).toInt = (-1 : Int) := hq_eqi.mp c41
    refine lv_aload_n hx hb dX6_makePlain_20 rfl (lv_at hl 0 rfl) ?_
    refine lv_aload_n hx hb dX6_makePlain_21 rfl (lv_at hl 1 rfl) ?_
    refine lv_aload_n hx hb dX6_makePlain_22 rfl (lv_at hl 2 rfl) ?_
    refine lv_iload_n hx hb dX6_makePlain_23 rfl (lv_at hl 3 rfl) ?_
    refine lv_iload hx hb dX6_makePlain_24 (lv_at hl 4 rfl) ?_
    refine lv_iload hx hb dX6_makePlain_26 (lv_at hl 5 rfl) ?_
    obtain ⟨u49, u50, u51, u52, z53, eV48, hu54, hu55, hu56, hu57, h58, h59⟩ := hq_o11 hP.1 h_t
    refine hp_callv (hp_runV (As := [.ref (u), .ref (f), .int (v), .int (te), .int (pe)]) (rest := []) hx hb hml hown hts (t_X6_addExcepts l D cs B G  V14 n hP.1 b R (t) h_t (u) h_u (f) h_f (v) (te) (pe) (by omega) (by omega)) hZ eV48 cv_X6_100 rfl rfl ⟨Nat.le_of_ble_eq_true rfl, Nat.le_of_ble_eq_true rfl⟩ rfl hl.1 rfl (Nat.le_of_ble_eq_true rfl) dX6_makePlain_28 ⟨(Nat.le_of_ble_eq_true rfl), (Nat.le_of_ble_eq_true rfl)⟩) hZ (fun V42 n43 _ _ hw44 hZ => ?_)
    obtain ⟨rfl, hq46⟩ := hw44
    have hP := hP.trans hq46 (by intro g h; simp_all)
    refine lv_aload_n hx hb dX6_makePlain_31 rfl (lv_at hl 1 rfl) ?_
    refine lv_iconst (v := 1) hx hb dX6_makePlain_32 (by decide) ?_
    refine lv_iconst (v := 0) hx hb dX6_makePlain_33 (by decide) ?_
    refine lv_iload_n hx hb dX6_makePlain_34 rfl (lv_at hl 3 rfl) ?_
    refine lv_iload hx hb dX6_makePlain_35 (lv_at hl 4 rfl) ?_
    refine lv_iload hx hb dX6_makePlain_37 (lv_at hl 5 rfl) ?_
    have hl66 : (1 : Int32).toInt = 1 := by decide
    have hl67 : (0 : Int32).toInt = 0 := by decide
    have fx68 : V42 (u) = some (.inr (0, [.ref (u23), .int (z27), .ref (u24), .ref (u25), .int (z28), .ref (u26), .int (z29)])) := (hq46.2 (u) _ h_u rfl).trans ((hq18.2 (u) _ h_u rfl).trans (eV22))
    refine hp_calli (hp_runV (As := [.int (1), .int (0), .int (v), .int (te), .int (pe)]) (rest := []) hx hb hml hown hts (t_X0_nextFitting l D cs B G  V42 n hP.1 b (u) h_u (1) (0) (v) (te) (pe) (by first | omega | decide) (by omega) (by omega)) hZ fx68 cv_X6_33 rfl rfl ⟨Nat.le_of_ble_eq_true rfl, Nat.le_of_ble_eq_true rfl⟩ rfl hl.1 rfl (Nat.le_of_ble_eq_true rfl) dX6_makePlain_39 ⟨(Nat.le_of_ble_eq_true rfl), (Nat.le_of_ble_eq_true rfl)⟩) hZ (fun r63 V60 n61 _ _ hw62 hZ => ?_)
    obtain ⟨rfl, hq64, hr65⟩ := hw62
    have hP := hP.trans hq64 (fun _ _ => rfl)
    have b69 := hq_rng r63
    refine lv_istore (lv' := [(6, .int (r63)), (0, .ref (t)), (1, .ref (u)), (2, .ref (f)), (3, .int (v)), (4, .int (te)), (5, .int (pe))]) hx hb dX6_makePlain_42 hl (by decide) rfl (fun ls hl => ?_)
    refine lv_aload_n hx hb dX6_makePlain_44 rfl (lv_at hl 3 rfl) ?_
    obtain ⟨u77, z78, eV76, hu79, h80, h81, h82⟩ := hq_o8 hP.1 h_f
    refine hp_callq (hp_runV (As := []) (rest := []) hx hb hml hown hts (t_X3_open l D cs B G  V60 n hP.1 R (f) h_f ) hZ eV76 cv_X6_73 rfl rfl ⟨Nat.le_of_ble_eq_true rfl, Nat.le_of_ble_eq_true rfl⟩ rfl hl.1 rfl (Nat.le_of_ble_eq_true rfl) dX6_makePlain_45 ⟨(Nat.le_of_ble_eq_true rfl), (Nat.le_of_ble_eq_true rfl)⟩) hZ (fun r73 V70 n71 _ _ hw72 hZ => ?_)
    obtain ⟨rfl, hq74, hr75⟩ := hw72
    have hP := hP.trans hq74 (by intro g h; simp_all)
    rcases r73 with _ | u83
    · refine W.eq (g2 := F0 m 48 ls [.null]) rfl ?_
      refine lv_astoreN (lv' := [(7, .null), (6, .int (r63)), (0, .ref (t)), (1, .ref (u)), (2, .ref (f)), (3, .int (v)), (4, .int (te)), (5, .int (pe))]) hx hb dX6_makePlain_48 hl (by decide) rfl (fun ls hl => ?_)
      refine lv_aload_n hx hb dX6_makePlain_50 rfl (lv_at hl 4 rfl) ?_
      have fx85 : V70 (f) = some (.inr (3, [.ref (u77), .int (z78)])) := (hq74.2 (f) _ h_f rfl).trans (eV76)
      refine hp_get (v := .int (z78)) hx hb hts hown hZ fx85 fl_X6_62 rfl dX6_makePlain_51 ?_
      refine lv_if_gt (tgt := 68) hx hb dX6_makePlain_54 (by decide) (fun c86 => ?_) (fun c86 => ?_)
      · have c86 : (0 : Int) < (z78).toInt := hq_lti.mp c86
        exact hp_vret hx hb hr hlocks hZ ⟨rfl, hP⟩ dX6_makePlain_68
      · have c86 : ¬ (0 : Int) < (z78).toInt := fun h9 => c86 (hq_lti.mpr h9)
        refine lv_iload hx hb dX6_makePlain_57 (lv_at hl 1 rfl) ?_
        refine lv_iconst (v := -1) hx hb dX6_makePlain_59 (by decide) ?_
        refine lv_icmp_eq (tgt := 68) hx hb dX6_makePlain_60 (by decide) (fun c87 => ?_) (fun c87 => ?_)
        · have c87 : (r63).toInt = (-1 : Int) := hq_eqi.mp c87
          exact hp_vret hx hb hr hlocks hZ ⟨rfl, hP⟩ dX6_makePlain_68
        · have c87 : ¬ (r63).toInt = (-1 : Int) := fun h9 => c87 (hq_eqi.mpr h9)
          refine lv_aloadN hx hb dX6_makePlain_63 (lv_at hl 0 rfl) ?_
          refine lv_ifnonnullN hx hb dX6_makePlain_65 ?_
          exact hp_vret hx hb hr hlocks hZ ⟨rfl, hP⟩ dX6_makePlain_68
    · refine W.eq (g2 := F0 m 48 ls [.ref (u83)]) rfl ?_
      have hu84 := hr75 u83 rfl
      refine lv_astore (lv' := [(7, .ref (u83)), (6, .int (r63)), (0, .ref (t)), (1, .ref (u)), (2, .ref (f)), (3, .int (v)), (4, .int (te)), (5, .int (pe))]) hx hb dX6_makePlain_48 hl (by decide) rfl (fun ls hl => ?_)
      refine lv_aload_n hx hb dX6_makePlain_50 rfl (lv_at hl 4 rfl) ?_
      have fx88 : V70 (f) = some (.inr (3, [.ref (u77), .int (z78)])) := (hq74.2 (f) _ h_f rfl).trans (eV76)
      refine hp_get (v := .int (z78)) hx hb hts hown hZ fx88 fl_X6_62 rfl dX6_makePlain_51 ?_
      refine lv_if_gt (tgt := 68) hx hb dX6_makePlain_54 (by decide) (fun c89 => ?_) (fun c89 => ?_)
      · have c89 : (0 : Int) < (z78).toInt := hq_lti.mp c89
        exact hp_vret hx hb hr hlocks hZ ⟨rfl, hP⟩ dX6_makePlain_68
      · have c89 : ¬ (0 : Int) < (z78).toInt := fun h9 => c89 (hq_lti.mpr h9)
        refine lv_iload hx hb dX6_makePlain_57 (lv_at hl 1 rfl) ?_
        refine lv_iconst (v := -1) hx hb dX6_makePlain_59 (by decide) ?_
        refine lv_icmp_eq (tgt := 68) hx hb dX6_makePlain_60 (by decide) (fun c90 => ?_) (fun c90 => ?_)
        · have c90 : (r63).toInt = (-1 : Int) := hq_eqi.mp c90
          exact hp_vret hx hb hr hlocks hZ ⟨rfl, hP⟩ dX6_makePlain_68
        · have c90 : ¬ (r63).toInt = (-1 : Int) := fun h9 => c90 (hq_eqi.mpr h9)
          refine lv_aload hx hb dX6_makePlain_63 (lv_at hl 0 rfl) ?_
          refine lv_ifnonnull (tgt := 69) hx hb dX6_makePlain_65 (by decide) ?_
          refine lv_aload_n hx hb dX6_makePlain_69 rfl (lv_at hl 3 rfl) ?_
          refine lv_iconst (v := 0) hx hb dX6_makePlain_70 (by decide) ?_
          refine lv_iconst (v := 0) hx hb dX6_makePlain_71 (by decide) ?_
          refine lv_iload_n hx hb dX6_makePlain_72 rfl (lv_at hl 5 rfl) ?_
          refine lv_iload hx hb dX6_makePlain_73 (lv_at hl 6 rfl) ?_
          refine lv_iload hx hb dX6_makePlain_75 (lv_at hl 7 rfl) ?_
          have hl97 : (0 : Int32).toInt = 0 := by decide
          have hl98 : (0 : Int32).toInt = 0 := by decide
          have fx99 : V70 (u) = some (.inr (0, [.ref (u23), .int (z27), .ref (u24), .ref (u25), .int (z28), .ref (u26), .int (z29)])) := (hq74.2 (u) _ h_u rfl).trans ((hq64.2 (u) _ h_u rfl).trans (fx68))
          refine hp_calli (hp_runV (As := [.int (0), .int (0), .int (v), .int (te), .int (pe)]) (rest := []) hx hb hml hown hts (t_X0_nextFitting l D cs B G  V70 n hP.1 b (u) h_u (0) (0) (v) (te) (pe) (by first | omega | decide) (by omega) (by omega)) hZ fx99 cv_X6_33 rfl rfl ⟨Nat.le_of_ble_eq_true rfl, Nat.le_of_ble_eq_true rfl⟩ rfl hl.1 rfl (Nat.le_of_ble_eq_true rfl) dX6_makePlain_77 ⟨(Nat.le_of_ble_eq_true rfl), (Nat.le_of_ble_eq_true rfl)⟩) hZ (fun r94 V91 n92 _ _ hw93 hZ => ?_)
          obtain ⟨rfl, hq95, hr96⟩ := hw93
          have hP := hP.trans hq95 (fun _ _ => rfl)
          have b100 := hq_rng r94
          refine lv_istore (lv' := [(8, .int (r94)), (7, .ref (u83)), (6, .int (r63)), (0, .ref (t)), (1, .ref (u)), (2, .ref (f)), (3, .int (v)), (4, .int (te)), (5, .int (pe))]) hx hb dX6_makePlain_80 hl (by decide) rfl (fun ls hl => ?_)
          refine lv_aload_n hx hb dX6_makePlain_82 rfl (lv_at hl 4 rfl) ?_
          refine lv_iload_n hx hb dX6_makePlain_83 rfl (lv_at hl 6 rfl) ?_
          refine lv_iload hx hb dX6_makePlain_84 (lv_at hl 0 rfl) ?_
          refine lv_aload hx hb dX6_makePlain_86 (lv_at hl 1 rfl) ?_
          obtain ⟨u102, u103, z104, eV101, hu105, hu106, h107, h108⟩ := hq_o7 hP.1 hu84
          refine hp_get (v := .ref (u102)) hx hb hts hown hZ eV101 fl_X6_86 rfl dX6_makePlain_88 ?_
          have fx115 : V91 (u) = some (.inr (0, [.ref (u23), .int (z27), .ref (u24), .ref (u25), .int (z28), .ref (u26), .int (z29)])) := (hq95.2 (u) _ h_u rfl).trans (fx99)
          refine hp_calli (hp_runV (As := [.int (v), .int (r94), .ref (u102)]) (rest := []) hx hb hml hown hts (t_X0_putStem l D cs B G  V91 n hP.1 b (u) h_u (v) (r94) (u102) hu105 (by omega) (by omega) (by omega) (by omega)) hZ fx115 cv_X6_103 rfl rfl ⟨Nat.le_of_ble_eq_true rfl, Nat.le_of_ble_eq_true rfl⟩ rfl hl.1 rfl (Nat.le_of_ble_eq_true rfl) dX6_makePlain_91 ⟨(Nat.le_of_ble_eq_true rfl), (Nat.le_of_ble_eq_true rfl)⟩) hZ (fun r112 V109 n110 _ _ hw111 hZ => ?_)
          obtain ⟨rfl, hq113, hr114⟩ := hw111
          have hP := hP.trans hq113 (by intro g h; simp_all)
          have b116 := hq_rng r112
          refine lv_if_eq (tgt := 104) hx hb dX6_makePlain_94 (by decide) (fun c117 => ?_) (fun c117 => ?_)
          · have c117 : (r112).toInt = (0 : Int) := hq_eqi.mp c117
            refine lv_aload hx hb dX6_makePlain_104 (lv_at hl 1 rfl) ?_
            obtain ⟨u119, u120, z121, eV118, hu122, hu123, h124, h125⟩ := hq_o7 hP.1 hu84
            refine hp_get (v := .ref (u119)) hx hb hts hown hZ eV118 fl_X6_86 rfl dX6_makePlain_106 ?_
            refine lv_aload_n hx hb dX6_makePlain_109 rfl (lv_at hl 4 rfl) ?_
            have fx126 : V109 (u) = some (.inr (0, [.ref (u23), .int (z27), .ref (u24), .ref (u25), .int (z28), .ref (u26), .int (z29)])) := (hq113.2 (u) _ h_u rfl).trans (fx115)
            refine hp_get (v := .ref (u26)) hx hb hts hown hZ fx126 fl_X6_43 rfl dX6_makePlain_110 ?_
            refine lv_iload hx hb dX6_makePlain_113 (lv_at hl 2 rfl) ?_
            obtain ⟨hN129, g128, eV127, hf130, _⟩ := hq_o4 hP.1 hu33
            obtain ⟨u131, hx132, hu133⟩ := hf130 (r63 : Int32).toNatClampNeg (hq_ix (by omega) (by omega))
            have hu133 : G u131 = some (5, b, 0, 0) := hu133
            refine hp_aald (v := .ref (u131)) hx hb hZ 6 eV127 rfl (hq_in (by omega) (by omega)) (by rw [hx132]; rfl) dX6_makePlain_115 ?_
            obtain ⟨z135, z136, z137, z138, z139, z140, z141, z142, u143, u144, eV134, hu145, hu146, h147, h148⟩ := hq_o5 hP.1 hu133
            refine hp_get (v := .ref (u143)) hx hb hts hown hZ eV134 fl_X6_107 rfl dX6_makePlain_116 ?_
            obtain ⟨u156, z157, eV155, hu158, h159, h160, h161⟩ := hq_o0 hP.1 hu122
            refine hp_calli (hp_runV (As := [.ref (u143)]) (rest := []) hx hb hml hown hts (t_X9_addAll l D cs B G (fun g => g.1 == 5) V109 n hP.1 30 8 (u119) hu122 (u143) hu145 rfl rfl) hZ eV155 cv_X6_89 rfl rfl ⟨Nat.le_of_ble_eq_true rfl, Nat.le_of_ble_eq_true rfl⟩ rfl hl.1 rfl (Nat.le_of_ble_eq_true rfl) dX6_makePlain_119 ⟨(Nat.le_of_ble_eq_true rfl), (Nat.le_of_ble_eq_true rfl)⟩) hZ (fun r152 V149 n150 _ _ hw151 hZ => ?_)
            obtain ⟨rfl, hq153, hr154⟩ := hw151
            have hP := hP.trans hq153 (by intro g h; simp_all)
            have b162 := hq_rng r152
            refine lv_pop hx hb dX6_makePlain_122 rfl ?_
            refine lv_aload hx hb dX6_makePlain_123 (lv_at hl 1 rfl) ?_
            refine lv_iload hx hb dX6_makePlain_125 (lv_at hl 2 rfl) ?_
            obtain ⟨u170, u171, z172, eV169, hu173, hu174, h175, h176⟩ := hq_o7 hP.1 hu84
            refine hp_callv (hp_runV (As := [.int (r63)]) (rest := []) hx hb hml hown hts (t_X2_addLine l D cs B G  V149 n hP.1  (u83) hu84 (r63) ) hZ eV169 cv_X6_77 rfl rfl ⟨Nat.le_of_ble_eq_true rfl, Nat.le_of_ble_eq_true rfl⟩ rfl hl.1 rfl (Nat.le_of_ble_eq_true rfl) dX6_makePlain_127 ⟨(Nat.le_of_ble_eq_true rfl), (Nat.le_of_ble_eq_true rfl)⟩) hZ (fun V163 n164 _ _ hw165 hZ => ?_)
            obtain ⟨rfl, hq167⟩ := hw165
            have hP := hP.trans hq167 (by intro g h; simp_all)
            refine lv_aload hx hb dX6_makePlain_130 (lv_at hl 1 rfl) ?_
            refine lv_aload_n hx hb dX6_makePlain_132 rfl (lv_at hl 3 rfl) ?_
            refine lv_aload_n hx hb dX6_makePlain_133 rfl (lv_at hl 4 rfl) ?_
            refine lv_aload hx hb dX6_makePlain_134 (lv_at hl 1 rfl) ?_
            obtain ⟨u178, u179, z180, eV177, hu181, hu182, h183, h184⟩ := hq_o7 hP.1 hu84
            refine hp_get (v := .ref (u178)) hx hb hts hown hZ eV177 fl_X6_86 rfl dX6_makePlain_136 ?_
            refine lv_iconst (v := -1) hx hb dX6_makePlain_139 (by decide) ?_
            refine lv_iconst (v := -1) hx hb dX6_makePlain_140 (by decide) ?_
            obtain ⟨u192, u193, u194, u195, z196, eV191, hu197, hu198, hu199, hu200, h201, h202⟩ := hq_o11 hP.1 h_t
            refine hp_calll (hp_runV (As := [.ref (u), .ref (u178), .int (-1), .int (-1)]) (rest := [.ref (u83)]) hx hb hml hown hts (t_X6_soundAll l D cs B G  V163 n hP.1 b (t) h_t (u) h_u (u178) hu181 (-1) (-1) ) hZ eV191 cv_X6_110 rfl rfl ⟨Nat.le_of_ble_eq_true rfl, Nat.le_of_ble_eq_true rfl⟩ rfl hl.1 rfl (Nat.le_of_ble_eq_true rfl) dX6_makePlain_141 ⟨(Nat.le_of_ble_eq_true rfl), (Nat.le_of_ble_eq_true rfl)⟩) hZ (fun r188 V185 n186 _ _ hw187 hZ => ?_)
            obtain ⟨rfl, hq189, hr190⟩ := hw187
            have hP := hP.trans hq189 (by intro g h; simp_all)
            obtain ⟨u210, u211, z212, eV209, hu213, hu214, h215, h216⟩ := hq_o7 hP.1 hu84
            refine hp_callv (hp_runV (As := [.long (r188)]) (rest := []) hx hb hml hown hts (t_X2_addBits l D cs B G  V185 n hP.1  (u83) hu84 (r188) ) hZ eV209 cv_X6_114 rfl rfl ⟨Nat.le_of_ble_eq_true rfl, Nat.le_of_ble_eq_true rfl⟩ rfl hl.1 rfl (Nat.le_of_ble_eq_true rfl) dX6_makePlain_144 ⟨(Nat.le_of_ble_eq_true rfl), (Nat.le_of_ble_eq_true rfl)⟩) hZ (fun V203 n204 _ _ hw205 hZ => ?_)
            obtain ⟨rfl, hq207⟩ := hw205
            have hP := hP.trans hq207 (by intro g h; simp_all)
            refine lv_aload_n hx hb dX6_makePlain_147 rfl (lv_at hl 3 rfl) ?_
            obtain ⟨u218, u219, u220, u221, z222, eV217, hu223, hu224, hu225, hu226, h227, h228⟩ := hq_o11 hP.1 h_t
            refine hp_get (v := .int (z222)) hx hb hts hown hZ eV217 fl_X6_118 rfl dX6_makePlain_148 ?_
            refine lv_if_eq (tgt := 158) hx hb dX6_makePlain_151 (by decide) (fun c229 => ?_) (fun c229 => ?_)
            · have c229 : (z222).toInt = (0 : Int) := hq_eqi.mp c229
              exact hp_vret hx hb hr hlocks hZ ⟨rfl, hP⟩ dX6_makePlain_158
            · have c229 : ¬ (z222).toInt = (0 : Int) := fun h9 => c229 (hq_eqi.mpr h9)
              refine lv_aload_n hx hb dX6_makePlain_154 rfl (lv_at hl 5 rfl) ?_
              have fx236 : V203 (f) = some (.inr (3, [.ref (u77), .int (z78)])) := (hq207.2 (f) _ h_f rfl).trans ((hq189.2 (f) _ h_f rfl).trans ((hq167.2 (f) _ h_f rfl).trans ((hq153.2 (f) _ h_f rfl).trans ((hq113.2 (f) _ h_f rfl).trans ((hq95.2 (f) _ h_f rfl).trans (fx88))))))
              refine hp_callv (hp_runV (As := []) (rest := []) hx hb hml hown hts (t_X3_keep l D cs B G  V203 n hP.1 R (f) h_f ) hZ fx236 cv_X6_97 rfl rfl ⟨Nat.le_of_ble_eq_true rfl, Nat.le_of_ble_eq_true rfl⟩ rfl hl.1 rfl (Nat.le_of_ble_eq_true rfl) dX6_makePlain_155 ⟨(Nat.le_of_ble_eq_true rfl), (Nat.le_of_ble_eq_true rfl)⟩) hZ (fun V230 n231 _ _ hw232 hZ => ?_)
              obtain ⟨rfl, hq234⟩ := hw232
              have hP := hP.trans hq234 (by intro g h; simp_all)
              exact hp_vret hx hb hr hlocks hZ ⟨rfl, hP⟩ dX6_makePlain_158
          · have c117 : ¬ (r112).toInt = (0 : Int) := fun h9 => c117 (hq_eqi.mpr h9)
            refine lv_aload hx hb dX6_makePlain_97 (lv_at hl 1 rfl) ?_
            refine lv_iload hx hb dX6_makePlain_99 (lv_at hl 0 rfl) ?_
            obtain ⟨u244, u245, z246, eV243, hu247, hu248, h249, h250⟩ := hq_o7 hP.1 hu84
            refine hp_callv (hp_runV (As := [.int (r94)]) (rest := []) hx hb hml hown hts (t_X2_addLine l D cs B G  V109 n hP.1  (u83) hu84 (r94) ) hZ eV243 cv_X6_77 rfl rfl ⟨Nat.le_of_ble_eq_true rfl, Nat.le_of_ble_eq_true rfl⟩ rfl hl.1 rfl (Nat.le_of_ble_eq_true rfl) dX6_makePlain_101 ⟨(Nat.le_of_ble_eq_true rfl), (Nat.le_of_ble_eq_true rfl)⟩) hZ (fun V237 n238 _ _ hw239 hZ => ?_)
            obtain ⟨rfl, hq241⟩ := hw239
            have hP := hP.trans hq241 (by intro g h; simp_all)
            refine lv_aload hx hb dX6_makePlain_104 (lv_at hl 1 rfl) ?_
            obtain ⟨u252, u253, z254, eV251, hu255, hu256, h257, h258⟩ := hq_o7 hP.1 hu84
            refine hp_get (v := .ref (u252)) hx hb hts hown hZ eV251 fl_X6_86 rfl dX6_makePlain_106 ?_
            refine lv_aload_n hx hb dX6_makePlain_109 rfl (lv_at hl 4 rfl) ?_
            have fx259 : V237 (u) = some (.inr (0, [.ref (u23), .int (z27), .ref (u24), .ref (u25), .int (z28), .ref (u26), .int (z29)])) := (hq241.2 (u) _ h_u rfl).trans ((hq113.2 (u) _ h_u rfl).trans (fx115))
            refine hp_get (v := .ref (u26)) hx hb hts hown hZ fx259 fl_X6_43 rfl dX6_makePlain_110 ?_
            refine lv_iload hx hb dX6_makePlain_113 (lv_at hl 2 rfl) ?_
            obtain ⟨hN262, g261, eV260, hf263, _⟩ := hq_o4 hP.1 hu33
            obtain ⟨u264, hx265, hu266⟩ := hf263 (r63 : Int32).toNatClampNeg (hq_ix (by omega) (by omega))
            have hu266 : G u264 = some (5, b, 0, 0) := hu266
            refine hp_aald (v := .ref (u264)) hx hb hZ 6 eV260 rfl (hq_in (by omega) (by omega)) (by rw [hx265]; rfl) dX6_makePlain_115 ?_
            obtain ⟨z268, z269, z270, z271, z272, z273, z274, z275, u276, u277, eV267, hu278, hu279, h280, h281⟩ := hq_o5 hP.1 hu266
            refine hp_get (v := .ref (u276)) hx hb hts hown hZ eV267 fl_X6_107 rfl dX6_makePlain_116 ?_
            obtain ⟨u289, z290, eV288, hu291, h292, h293, h294⟩ := hq_o0 hP.1 hu255
            refine hp_calli (hp_runV (As := [.ref (u276)]) (rest := []) hx hb hml hown hts (t_X9_addAll l D cs B G (fun g => g.1 == 5) V237 n hP.1 30 8 (u252) hu255 (u276) hu278 rfl rfl) hZ eV288 cv_X6_89 rfl rfl ⟨Nat.le_of_ble_eq_true rfl, Nat.le_of_ble_eq_true rfl⟩ rfl hl.1 rfl (Nat.le_of_ble_eq_true rfl) dX6_makePlain_119 ⟨(Nat.le_of_ble_eq_true rfl), (Nat.le_of_ble_eq_true rfl)⟩) hZ (fun r285 V282 n283 _ _ hw284 hZ => ?_)
            obtain ⟨rfl, hq286, hr287⟩ := hw284
            have hP := hP.trans hq286 (by intro g h; simp_all)
            have b295 := hq_rng r285
            refine lv_pop hx hb dX6_makePlain_122 rfl ?_
            refine lv_aload hx hb dX6_makePlain_123 (lv_at hl 1 rfl) ?_
            refine lv_iload hx hb dX6_makePlain_125 (lv_at hl 2 rfl) ?_
            obtain ⟨u303, u304, z305, eV302, hu306, hu307, h308, h309⟩ := hq_o7 hP.1 hu84
            refine hp_callv (hp_runV (As := [.int (r63)]) (rest := []) hx hb hml hown hts (t_X2_addLine l D cs B G  V282 n hP.1  (u83) hu84 (r63) ) hZ eV302 cv_X6_77 rfl rfl ⟨Nat.le_of_ble_eq_true rfl, Nat.le_of_ble_eq_true rfl⟩ rfl hl.1 rfl (Nat.le_of_ble_eq_true rfl) dX6_makePlain_127 ⟨(Nat.le_of_ble_eq_true rfl), (Nat.le_of_ble_eq_true rfl)⟩) hZ (fun V296 n297 _ _ hw298 hZ => ?_)
            obtain ⟨rfl, hq300⟩ := hw298
            have hP := hP.trans hq300 (by intro g h; simp_all)
            refine lv_aload hx hb dX6_makePlain_130 (lv_at hl 1 rfl) ?_
            refine lv_aload_n hx hb dX6_makePlain_132 rfl (lv_at hl 3 rfl) ?_
            refine lv_aload_n hx hb dX6_makePlain_133 rfl (lv_at hl 4 rfl) ?_
            refine lv_aload hx hb dX6_makePlain_134 (lv_at hl 1 rfl) ?_
            obtain ⟨u311, u312, z313, eV310, hu314, hu315, h316, h317⟩ := hq_o7 hP.1 hu84
            refine hp_get (v := .ref (u311)) hx hb hts hown hZ eV310 fl_X6_86 rfl dX6_makePlain_136 ?_
            refine lv_iconst (v := -1) hx hb dX6_makePlain_139 (by decide) ?_
            refine lv_iconst (v := -1) hx hb dX6_makePlain_140 (by decide) ?_
            obtain ⟨u325, u326, u327, u328, z329, eV324, hu330, hu331, hu332, hu333, h334, h335⟩ := hq_o11 hP.1 h_t
            refine hp_calll (hp_runV (As := [.ref (u), .ref (u311), .int (-1), .int (-1)]) (rest := [.ref (u83)]) hx hb hml hown hts (t_X6_soundAll l D cs B G  V296 n hP.1 b (t) h_t (u) h_u (u311) hu314 (-1) (-1) ) hZ eV324 cv_X6_110 rfl rfl ⟨Nat.le_of_ble_eq_true rfl, Nat.le_of_ble_eq_true rfl⟩ rfl hl.1 rfl (Nat.le_of_ble_eq_true rfl) dX6_makePlain_141 ⟨(Nat.le_of_ble_eq_true rfl), (Nat.le_of_ble_eq_true rfl)⟩) hZ (fun r321 V318 n319 _ _ hw320 hZ => ?_)
            obtain ⟨rfl, hq322, hr323⟩ := hw320
            have hP := hP.trans hq322 (by intro g h; simp_all)
            obtain ⟨u343, u344, z345, eV342, hu346, hu347, h348, h349⟩ := hq_o7 hP.1 hu84
            refine hp_callv (hp_runV (As := [.long (r321)]) (rest := []) hx hb hml hown hts (t_X2_addBits l D cs B G  V318 n hP.1  (u83) hu84 (r321) ) hZ eV342 cv_X6_114 rfl rfl ⟨Nat.le_of_ble_eq_true rfl, Nat.le_of_ble_eq_true rfl⟩ rfl hl.1 rfl (Nat.le_of_ble_eq_true rfl) dX6_makePlain_144 ⟨(Nat.le_of_ble_eq_true rfl), (Nat.le_of_ble_eq_true rfl)⟩) hZ (fun V336 n337 _ _ hw338 hZ => ?_)
            obtain ⟨rfl, hq340⟩ := hw338
            have hP := hP.trans hq340 (by intro g h; simp_all)
            refine lv_aload_n hx hb dX6_makePlain_147 rfl (lv_at hl 3 rfl) ?_
            obtain ⟨u351, u352, u353, u354, z355, eV350, hu356, hu357, hu358, hu359, h360, h361⟩ := hq_o11 hP.1 h_t
            refine hp_get (v := .int (z355)) hx hb hts hown hZ eV350 fl_X6_118 rfl dX6_makePlain_148 ?_
            refine lv_if_eq (tgt := 158) hx hb dX6_makePlain_151 (by decide) (fun c362 => ?_) (fun c362 => ?_)
            · have c362 : (z355).toInt = (0 : Int) := hq_eqi.mp c362
              exact hp_vret hx hb hr hlocks hZ ⟨rfl, hP⟩ dX6_makePlain_158
            · have c362 : ¬ (z355).toInt = (0 : Int) := fun h9 => c362 (hq_eqi.mpr h9)
              refine lv_aload_n hx hb dX6_makePlain_154 rfl (lv_at hl 5 rfl) ?_
              have fx369 : V336 (f) = some (.inr (3, [.ref (u77), .int (z78)])) := (hq340.2 (f) _ h_f rfl).trans ((hq322.2 (f) _ h_f rfl).trans ((hq300.2 (f) _ h_f rfl).trans ((hq286.2 (f) _ h_f rfl).trans ((hq241.2 (f) _ h_f rfl).trans ((hq113.2 (f) _ h_f rfl).trans ((hq95.2 (f) _ h_f rfl).trans (fx88)))))))
              refine hp_callv (hp_runV (As := []) (rest := []) hx hb hml hown hts (t_X3_keep l D cs B G  V336 n hP.1 R (f) h_f ) hZ fx369 cv_X6_97 rfl rfl ⟨Nat.le_of_ble_eq_true rfl, Nat.le_of_ble_eq_true rfl⟩ rfl hl.1 rfl (Nat.le_of_ble_eq_true rfl) dX6_makePlain_155 ⟨(Nat.le_of_ble_eq_true rfl), (Nat.le_of_ble_eq_true rfl)⟩) hZ (fun V363 n364 _ _ hw365 hZ => ?_)
              obtain ⟨rfl, hq367⟩ := hw365
              have hP := hP.trans hq367 (by intro g h; simp_all)
              exact hp_vret hx hb hr hlocks hZ ⟨rfl, hP⟩ dX6_makePlain_158
  · have c41 : ¬ (r17).toInt = (-1 : Int) := fun h9 => c41 (hq_eqi.mpr h9)
    exact hp_vret hx hb hr hlocks hZ ⟨rfl, hP⟩ dX6_makePlain_19

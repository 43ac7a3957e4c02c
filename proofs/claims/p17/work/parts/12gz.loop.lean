set_option maxHeartbeats 8000000 in
set_option maxRecDepth 100000 in
theorem hx_loop {p : Program} {e : Env} {s : State} {m : MethodId} {below : List Frame} {meth : Method} {c : Code} (l : Launch) (D : va_G) (cs : Nat → ClassId) (B : Nat) (G : hq_G) {b L : Nat} {xs : Nat → Int32} (hx : p.tables.exec = Jvm.exec) (hb : c.code = code) (hml : c.maxLocals = 4) (hown : s.vm.findClass RL = some m.cls) (hts : ∀ w ∈ TBG, w.before #[Value.ref b] s = true) (hX : va_X b L xs s s.heap) (hbl : b < s.heap.size) (hbA : ¬ hp_F B b) (hL : L ≤ 3072) (a nb mo q n : Nat) (hT : hk_Ty G a nb mo q) (hT2 : hk_T2 G nb q) (hT3 : hk_T3 G nb) (hT4 : hk_T4 G nb q) (hak : a + 1 = nb) (hmo9 : mo = nb + 842) (hq9 : q = nb + 843) (hr : meth.sig.returnType = ret) (hlocks : meth.locks = false) (hB : B = s.heap.size) :
    ∀ (k9 : Nat) (V9 : hp_V) (H9 : Heap) (locs9 : List Loc) (ls : Array Slot) (i : Int32), (10000 - i.toInt).toNat = k9 → hp_Z D cs B s V9 H9 n locs9 → hk_InvX cs G a nb mo q V9 → 0 ≤ i.toInt → i.toInt ≤ 3078 → lv_has ls 4 [(3, .int i), (2, .ref mo), (1, .ref a), (0, .ref b)] → W p l e room_1 s m #[Value.ref b] below meth c H9 locs9 891 28710 (lw_Z below #[Value.ref b] s) (F0 m 18 ls []) := by
  intro k9
  induction k9 using Nat.strongRecOn with
  | _ k9 ih =>
    intro V9 H9 locs9 ls i hk9 hZ hinv hi0 hi1 hl
    have hb_i := hq_rng i
    have kk : i.toInt + 6 ≤ L → ∀ (V9 : hp_V) (H9 : Heap) (locs9 : List Loc) (ls : Array Slot), hp_Z D cs B s V9 H9 n locs9 → hk_InvX cs G a nb mo q V9 → lv_has ls 4 [(3, .int i), (2, .ref mo), (1, .ref a), (0, .ref b)] → W p l e room_1 s m #[Value.ref b] below meth c H9 locs9 891 28710 (lw_Z below #[Value.ref b] s) (F0 m 761 ls []) := by
      intro hi6 V9 H9 locs9 ls hZ hinv hl
      obtain ⟨y1, ey2⟩ : ∃ y : Int32, y = i + (6) := ⟨_, rfl⟩
      obtain ⟨k3, hk4, b5, b6⟩ := hq_add (i) (6)
      rw [← ey2] at hk4 b5 b6
      have hk4 : (y1).toInt = (i).toInt + (6) + k3 * 4294967296 := hk4
      obtain rfl : k3 = 0 := by omega
      refine lv_iinc (v := y1) (lv' := [(3, .int (y1)), (2, .ref (mo)), (1, .ref (a)), (0, .ref (b))]) hx hb dL_law_761 hl (k := 0) rfl (by rw [ey2]; rfl) (by decide) rfl (fun ls hl => ?_)
      refine lv_goto (tgt := 18) hx hb dL_law_764 (by decide) ?_
      exact ih _ (by omega) _ _ _ ls (y1) rfl hZ hinv (by omega) (by omega) (lv_sub hl [0, 1, 2, 3] rfl)
    refine lv_iload_n hx hb dL_law_18 rfl (lv_at hl 0 rfl) ?_
    refine lv_aload_n hx hb dL_law_19 rfl (lv_at hl 3 rfl) ?_
    refine va_slen hx hb hX hbl hbA hZ.2.1 dL_law_20 ?_
    refine lv_topi (fun y1 ey2 => ?_)
    have b3 : (y1).toInt = (L : Nat) := by rw [ey2]; exact hq_nI (by omega)
    refine lv_bipush (v := 6) hx hb dL_law_21 (by decide) ?_
    refine lv_isub hx hb dL_law_23 ?_
    refine lv_topi (fun y4 ey5 => ?_)
    obtain ⟨k6, hk7, b8, b9⟩ := hq_sub (y1) (6)
    rw [← ey5] at hk7 b8 b9
    have hk7 : (y4).toInt = (y1).toInt - (6 : Int) + k6 * 4294967296 := hk7
    obtain rfl : k6 = 0 := by omega
    refine lv_icmp_gt (tgt := 767) hx hb dL_law_24 (by decide) (fun c10 => ?_) (fun c10 => ?_)
    · have c10 : (y4).toInt < (i).toInt := hq_lti.mp c10
      refine lv_iconst (v := 1) hx hb dL_law_767 (by decide) ?_
      refine va_forget (fun q hq => by rw [← hB]; exact hZ.2.1.2.2 q hq) ?_
      refine W.widen (k := 601024) (n := 7293034) (Nat.le_of_ble_eq_true rfl) (Nat.le_of_ble_eq_true rfl) ?_
      exact lw_ret hx hb hr hlocks dL_law_768
    · have c10 : ¬ (y4).toInt < (i).toInt := fun h9 => c10 (hq_lti.mpr h9)
      refine lv_aload_n hx hb dL_law_27 rfl (lv_at hl 3 rfl) ?_
      refine lv_iload_n hx hb dL_law_28 rfl (lv_at hl 0 rfl) ?_
      refine va_sld hx hb hX hbl hbA hZ.2.1 (hq_in (by omega) (by omega)) dL_law_29 ?_
      refine lv_topi (fun y11 ey12 => ?_)
      have b13 := hq_rng y11
      refine lv_bipush (v := 31) hx hb dL_law_30 (by decide) ?_
      refine lv_iand hx hb dL_law_32 ?_
      refine lv_topi (fun y14 ey15 => ?_)
      have b16 := hq_rng y14
      rcases Classical.em (y14 = 0) with h17 | h17
      · refine lv_tableIn (off := 91) (tgt := 124) hx hb dL_law_33 (by rw [h17]; decide) (by rw [h17]; decide) (by rw [h17]; decide) (by decide) ?_
        have b18 : (y14).toInt = 0 := by rw [h17]; decide
        exact hx_c_feed l D cs B G hx hb hml hown hts hX hbl hbA hL a nb mo q n hT hT2 hT3 hT4 hak hmo9 hq9 i (by omega) (by omega) (kk (by omega)) V9 H9 locs9 ls hZ hinv hl
      ·
        rcases Classical.em (y14 = 1) with h19 | h19
        · refine lv_tableIn (off := 154) (tgt := 187) hx hb dL_law_33 (by rw [h19]; decide) (by rw [h19]; decide) (by rw [h19]; decide) (by decide) ?_
          have b20 : (y14).toInt = 1 := by rw [h19]; decide
          exact hx_c_end l D cs B G hx hb hml hown hts hX hbl hbA hL a nb mo q n hT hT2 hT3 hT4 hak hmo9 hq9 i (by omega) (by omega) (kk (by omega)) V9 H9 locs9 ls hZ hinv hl
        ·
          rcases Classical.em (y14 = 2) with h21 | h21
          · refine lv_tableIn (off := 177) (tgt := 210) hx hb dL_law_33 (by rw [h21]; decide) (by rw [h21]; decide) (by rw [h21]; decide) (by decide) ?_
            have b22 : (y14).toInt = 2 := by rw [h21]; decide
            exact hx_c_book l D cs B G hx hb hml hown hts hX hbl hbA hL a nb mo q n hT hT2 hT3 hT4 hak hmo9 hq9 i (by omega) (by omega) (kk (by omega)) V9 H9 locs9 ls hZ hinv hl
          ·
            rcases Classical.em (y14 = 3) with h23 | h23
            · refine lv_tableIn (off := 190) (tgt := 223) hx hb dL_law_33 (by rw [h23]; decide) (by rw [h23]; decide) (by rw [h23]; decide) (by decide) ?_
              have b24 : (y14).toInt = 3 := by rw [h23]; decide
              exact hx_c_fault l D cs B G hx hb hml hown hts hX hbl hbA hL a nb mo q n hT hT2 hT3 hT4 hak hmo9 hq9 i (by omega) (by omega) (kk (by omega)) V9 H9 locs9 ls hZ hinv hl
            ·
              rcases Classical.em (y14 = 4) with h25 | h25
              · refine lv_tableIn (off := 213) (tgt := 246) hx hb dL_law_33 (by rw [h25]; decide) (by rw [h25]; decide) (by rw [h25]; decide) (by decide) ?_
                have b26 : (y14).toInt = 4 := by rw [h25]; decide
                exact hx_c_verb l D cs B G hx hb hml hown hts hX hbl hbA hL a nb mo q n hT hT2 hT3 hT4 hak hmo9 hq9 i (by omega) (by omega) (kk (by omega)) V9 H9 locs9 ls hZ hinv hl
              ·
                rcases Classical.em (y14 = 5) with h27 | h27
                · refine lv_tableIn (off := 246) (tgt := 279) hx hb dL_law_33 (by rw [h27]; decide) (by rw [h27]; decide) (by rw [h27]; decide) (by decide) ?_
                  have b28 : (y14).toInt = 5 := by rw [h27]; decide
                  exact hx_c_line l D cs B G hx hb hml hown hts hX hbl hbA hL a nb mo q n hT hT2 hT3 hT4 hak hmo9 hq9 i (by omega) (by omega) (kk (by omega)) V9 H9 locs9 ls hZ hinv hl
                ·
                  rcases Classical.em (y14 = 6) with h29 | h29
                  · refine lv_tableIn (off := 279) (tgt := 312) hx hb dL_law_33 (by rw [h29]; decide) (by rw [h29]; decide) (by rw [h29]; decide) (by decide) ?_
                    have b30 : (y14).toInt = 6 := by rw [h29]; decide
                    exact hx_c_forms l D cs B G hx hb hml hown hts hX hbl hbA hL a nb mo q n hT hT2 hT3 hT4 hak hmo9 hq9 i (by omega) (by omega) (kk (by omega)) V9 H9 locs9 ls hZ hinv hl
                  ·
                    rcases Classical.em (y14 = 7) with h31 | h31
                    · refine lv_tableIn (off := 322) (tgt := 355) hx hb dL_law_33 (by rw [h31]; decide) (by rw [h31]; decide) (by rw [h31]; decide) (by decide) ?_
                      have b32 : (y14).toInt = 7 := by rw [h31]; decide
                      exact hx_c_form l D cs B G hx hb hml hown hts hX hbl hbA hL a nb mo q n hT hT2 hT3 hT4 hak hmo9 hq9 i (by omega) (by omega) (kk (by omega)) V9 H9 locs9 ls hZ hinv hl
                    ·
                      rcases Classical.em (y14 = 8) with h33 | h33
                      · refine lv_tableIn (off := 385) (tgt := 418) hx hb dL_law_33 (by rw [h33]; decide) (by rw [h33]; decide) (by rw [h33]; decide) (by decide) ?_
                        have b34 : (y14).toInt = 8 := by rw [h33]; decide
                        exact hx_c_row l D cs B G hx hb hml hown hts hX hbl hbA hL a nb mo q n hT hT2 hT3 hT4 hak hmo9 hq9 i (by omega) (by omega) (kk (by omega)) V9 H9 locs9 ls hZ hinv hl
                      ·
                        rcases Classical.em (y14 = 9) with h35 | h35
                        · refine lv_tableIn (off := 448) (tgt := 481) hx hb dL_law_33 (by rw [h35]; decide) (by rw [h35]; decide) (by rw [h35]; decide) (by decide) ?_
                          have b36 : (y14).toInt = 9 := by rw [h35]; decide
                          exact hx_c_rivals l D cs B G hx hb hml hown hts hX hbl hbA hL a nb mo q n hT hT2 hT3 hT4 hak hmo9 hq9 i (by omega) (by omega) (kk (by omega)) V9 H9 locs9 ls hZ hinv hl
                        ·
                          rcases Classical.em (y14 = 10) with h37 | h37
                          · refine lv_tableIn (off := 491) (tgt := 524) hx hb dL_law_33 (by rw [h37]; decide) (by rw [h37]; decide) (by rw [h37]; decide) (by decide) ?_
                            have b38 : (y14).toInt = 10 := by rw [h37]; decide
                            exact hx_c_read l D cs B G hx hb hml hown hts hX hbl hbA hL a nb mo q n hT hT2 hT3 hT4 hak hmo9 hq9 i (by omega) (by omega) (kk (by omega)) V9 H9 locs9 ls hZ hinv hl
                          ·
                            rcases Classical.em (y14 = 11) with h39 | h39
                            · refine lv_tableIn (off := 504) (tgt := 537) hx hb dL_law_33 (by rw [h39]; decide) (by rw [h39]; decide) (by rw [h39]; decide) (by decide) ?_
                              have b40 : (y14).toInt = 11 := by rw [h39]; decide
                              exact hx_c_place l D cs B G hx hb hml hown hts hX hbl hbA hL a nb mo q n hT hT2 hT3 hT4 hak hmo9 hq9 i (by omega) (by omega) (kk (by omega)) V9 H9 locs9 ls hZ hinv hl
                            ·
                              rcases Classical.em (y14 = 12) with h41 | h41
                              · refine lv_tableIn (off := 537) (tgt := 570) hx hb dL_law_33 (by rw [h41]; decide) (by rw [h41]; decide) (by rw [h41]; decide) (by decide) ?_
                                have b42 : (y14).toInt = 12 := by rw [h41]; decide
                                exact hx_c_unused l D cs B G hx hb hml hown hts hX hbl hbA hL a nb mo q n hT hT2 hT3 hT4 hak hmo9 hq9 i (by omega) (by omega) (kk (by omega)) V9 H9 locs9 ls hZ hinv hl
                              ·
                                rcases Classical.em (y14 = 13) with h43 | h43
                                · refine lv_tableIn (off := 550) (tgt := 583) hx hb dL_law_33 (by rw [h43]; decide) (by rw [h43]; decide) (by rw [h43]; decide) (by decide) ?_
                                  have b44 : (y14).toInt = 13 := by rw [h43]; decide
                                  exact hx_c_users l D cs B G hx hb hml hown hts hX hbl hbA hL a nb mo q n hT hT2 hT3 hT4 hak hmo9 hq9 i (by omega) (by omega) (kk (by omega)) V9 H9 locs9 ls hZ hinv hl
                                ·
                                  rcases Classical.em (y14 = 14) with h45 | h45
                                  · refine lv_tableIn (off := 573) (tgt := 606) hx hb dL_law_33 (by rw [h45]; decide) (by rw [h45]; decide) (by rw [h45]; decide) (by decide) ?_
                                    have b46 : (y14).toInt = 14 := by rw [h45]; decide
                                    exact hx_c_answer l D cs B G hx hb hml hown hts hX hbl hbA hL a nb mo q n hT hT2 hT3 hT4 hak hmo9 hq9 i (by omega) (by omega) (kk (by omega)) V9 H9 locs9 ls hZ hinv hl
                                  ·
                                    rcases Classical.em (y14 = 15) with h47 | h47
                                    · refine lv_tableIn (off := 626) (tgt := 659) hx hb dL_law_33 (by rw [h47]; decide) (by rw [h47]; decide) (by rw [h47]; decide) (by decide) ?_
                                      have b48 : (y14).toInt = 15 := by rw [h47]; decide
                                      exact hx_c_change l D cs B G hx hb hml hown hts hX hbl hbA hL a nb mo q n hT hT2 hT3 hT4 hak hmo9 hq9 i (by omega) (by omega) (kk (by omega)) V9 H9 locs9 ls hZ hinv hl
                                    ·
                                      rcases Classical.em (y14 = 16) with h49 | h49
                                      · refine lv_tableIn (off := 649) (tgt := 682) hx hb dL_law_33 (by rw [h49]; decide) (by rw [h49]; decide) (by rw [h49]; decide) (by decide) ?_
                                        have b50 : (y14).toInt = 16 := by rw [h49]; decide
                                        exact hx_c_misses l D cs B G hx hb hml hown hts hX hbl hbA hL a nb mo q n hT hT2 hT3 hT4 hak hmo9 hq9 i (by omega) (by omega) (kk (by omega)) V9 H9 locs9 ls hZ hinv hl
                                      ·
                                        rcases Classical.em (y14 = 17) with h51 | h51
                                        · refine lv_tableIn (off := 682) (tgt := 715) hx hb dL_law_33 (by rw [h51]; decide) (by rw [h51]; decide) (by rw [h51]; decide) (by decide) ?_
                                          have b52 : (y14).toInt = 17 := by rw [h51]; decide
                                          exact hx_c_drill l D cs B G hx hb hml hown hts hX hbl hbA hL a nb mo q n hT hT2 hT3 hT4 hak hmo9 hq9 i (by omega) (by omega) (kk (by omega)) V9 H9 locs9 ls hZ hinv hl
                                        ·
                                          rcases Classical.em (y14 = 18) with h53 | h53
                                          · refine lv_tableIn (off := 705) (tgt := 738) hx hb dL_law_33 (by rw [h53]; decide) (by rw [h53]; decide) (by rw [h53]; decide) (by decide) ?_
                                            have b54 : (y14).toInt = 18 := by rw [h53]; decide
                                            exact hx_c_count l D cs B G hx hb hml hown hts hX hbl hbA hL a nb mo q n hT hT2 hT3 hT4 hak hmo9 hq9 i (by omega) (by omega) (kk (by omega)) V9 H9 locs9 ls hZ hinv hl
                                          ·
                                            have z55 : ¬ (y14).toInt = 0 := lv_neT h17 (by decide)
                                            have z56 : ¬ (y14).toInt = 1 := lv_neT h19 (by decide)
                                            have z57 : ¬ (y14).toInt = 2 := lv_neT h21 (by decide)
                                            have z58 : ¬ (y14).toInt = 3 := lv_neT h23 (by decide)
                                            have z59 : ¬ (y14).toInt = 4 := lv_neT h25 (by decide)
                                            have z60 : ¬ (y14).toInt = 5 := lv_neT h27 (by decide)
                                            have z61 : ¬ (y14).toInt = 6 := lv_neT h29 (by decide)
                                            have z62 : ¬ (y14).toInt = 7 := lv_neT h31 (by decide)
                                            have z63 : ¬ (y14).toInt = 8 := lv_neT h33 (by decide)
                                            have z64 : ¬ (y14).toInt = 9 := lv_neT h35 (by decide)
                                            have z65 : ¬ (y14).toInt = 10 := lv_neT h37 (by decide)
                                            have z66 : ¬ (y14).toInt = 11 := lv_neT h39 (by decide)
                                            have z67 : ¬ (y14).toInt = 12 := lv_neT h41 (by decide)
                                            have z68 : ¬ (y14).toInt = 13 := lv_neT h43 (by decide)
                                            have z69 : ¬ (y14).toInt = 14 := lv_neT h45 (by decide)
                                            have z70 : ¬ (y14).toInt = 15 := lv_neT h47 (by decide)
                                            have z71 : ¬ (y14).toInt = 16 := lv_neT h49 (by decide)
                                            have z72 : ¬ (y14).toInt = 17 := lv_neT h51 (by decide)
                                            have z73 : ¬ (y14).toInt = 18 := lv_neT h53 (by decide)
                                            refine lv_tableOut (tgt := 761) hx hb dL_law_33 (by omega) (by decide) ?_
                                            exact kk (by omega) V9 H9 locs9 ls hZ hinv hl

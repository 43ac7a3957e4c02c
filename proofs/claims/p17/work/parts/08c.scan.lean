set_option maxHeartbeats 4000000 in
set_option maxRecDepth 100000 in
theorem x_runEnd (l : Launch) (D : va_G) (cs : Nat → ClassId) (B : Nat) (G : hq_G) (V : hp_V) (n : Nat) (hI : hq_I cs G V) (kb : Nat) (qb : Nat) (w : sp_W) (k : Int32) (lo : Int32) (hi : Int32) (fk : Int32) (fp : Int32) (nx : Int32) (tk : Int32) (st : Int32) (hy0 : G (kb) = some (0, 4000, 0, 0)) (hy1 : G (kb + 1) = some (1, 4000, 0, 0)) (hc0 : V (kb + 2) = some (.inr (7, [.int (fk), .int (fp), .ref (kb), .ref (qb), .int (nx), .int (tk), .int (st), .ref (kb + 3)]))) (hp0 : hx_TP cs V kb w) (hk : 0 ≤ k.toInt ∧ k.toInt ≤ 4001) (hlo : 0 ≤ lo.toInt ∧ lo.toInt ≤ 127) (hhi : 0 ≤ hi.toInt ∧ hi.toInt ≤ 127) : hp_M l yX7_runEnd cX7_runEnd 5 (some .int) ({ frames := 2, cells := 0, slots := 0, locals := 42 }) D cs B V n [.ref (kb + 2), .int (k), .int (lo), .int (hi)] (hp_QI D cs B (fun r V' n' => n = n' ∧ V = V' ∧ (∀ a1 a2 a3 : Int, lo.toInt = a1 → hi.toInt = a2 → k.toInt = a3 → r.toInt = sp_run (sp_rg w.1 a1 a2) w.2 a3) ∧ (k.toInt ≤ r.toInt ∧ (r.toInt ≤ k.toInt ∨ r.toInt ≤ w.2)))) 0 0 := by
  refine hp_walk (R0 := RX7) (by decide) rfl ?_ (Nat.le_of_ble_eq_true rfl)
  intro p e s m below meth c ls hx hb hr hts hown hlocks hin hml hZ hl
  have hP : hq_I cs G V := hI
  have hl : lv_has ls 5 [(0, .ref (kb + 2)), (1, .int (k)), (2, .int (lo)), (3, .int (hi))] := hl
  have hb_k := hq_rng k
  have hb_lo := hq_rng lo
  have hb_hi := hq_rng hi
  have hb_fk := hq_rng fk
  have hb_fp := hq_rng fp
  have hb_nx := hq_rng nx
  have hb_tk := hq_rng tk
  have hb_st := hq_rng st
  obtain ⟨tz, tg, htz, htg, hz1, hz2, hz3⟩ := id hp0
  have hb_tz := hq_rng tz
  have hfit := hq_rgB hP hy1 htg
  refine lv_iload_n hx hb dX7_runEnd_0 rfl (lv_at hl 1 rfl) ?_
  refine lv_istore (lv' := [(4, .int (k)), (0, .ref (kb + 2)), (1, .int (k)), (2, .int (lo)), (3, .int (hi))]) hx hb dX7_runEnd_1 hl (by decide) rfl (fun ls hl => ?_)
  suffices lp3 : ∀ (k9 : Nat) (H9 : Heap) (locs9 : List Loc) (ls : Array Slot) (i : Int32), (5000 - i.toInt).toNat = k9 → hp_Z D cs B s V H9 n locs9 → hq_I cs G V → k.toInt ≤ i.toInt → i.toInt ≤ k.toInt ∨ i.toInt ≤ w.2 → (sp_run (sp_rg w.1 lo.toInt hi.toInt) w.2 i.toInt = sp_run (sp_rg w.1 lo.toInt hi.toInt) w.2 k.toInt) → lv_has ls 5 [(4, .int (i)), (0, .ref (kb + 2)), (1, .int (k)), (2, .int (lo)), (3, .int (hi))] → W p l e ({ frames := 2, cells := 0, slots := 0, locals := 42 }) s m ([.ref (kb + 2), .int (k), .int (lo), .int (hi)] : List Value).toArray below meth c H9 locs9 0 0 (MQ below (hp_QI D cs B (fun r V' n' => n = n' ∧ V = V' ∧ (∀ a1 a2 a3 : Int, lo.toInt = a1 → hi.toInt = a2 → k.toInt = a3 → r.toInt = sp_run (sp_rg w.1 a1 a2) w.2 a3) ∧ (k.toInt ≤ r.toInt ∧ (r.toInt ≤ k.toInt ∨ r.toInt ≤ w.2)))) ([.ref (kb + 2), .int (k), .int (lo), .int (hi)] : List Value).toArray s 0 0 (hp_F B)) (F0 m 3 ls []) from lp3 _ _ _ ls (k) rfl hZ hP (by omega) (by omega) (rfl) (lv_sub hl [0, 1, 2, 3, 4] rfl)
  intro k9
  induction k9 using Nat.strongRecOn with
  | _ k9 ih3 =>
    intro H9 locs9 ls i   hk3 hZ hP    hv1 hv2 hrun hl
    have hb_i := hq_rng i
    refine lv_iload hx hb dX7_runEnd_3 (lv_at hl 0 rfl) ?_
    refine lv_aload_n hx hb dX7_runEnd_5 rfl (lv_at hl 1 rfl) ?_
    refine hp_get (v := .ref (kb)) hx hb hts hown hZ hc0 fl_X7_27 rfl dX7_runEnd_6 ?_
    refine hp_get (v := .int (tz)) hx hb hts hown hZ htz fl_X7_192 rfl dX7_runEnd_9 ?_
    refine lv_icmp_ge (tgt := 47) hx hb dX7_runEnd_12 (by decide) (fun c3 => ?_) (fun c3 => ?_)
    · have c3 : (tz).toInt ≤ (i).toInt := hq_lei.mp c3
      refine lv_iload hx hb dX7_runEnd_47 (lv_at hl 0 rfl) ?_
      exact hp_iret hx hb hr hlocks hZ ⟨rfl, rfl, by intro a1 a2 a3 e1 e2 e3; rw [← e1, ← e2, ← e3]; exact (hrun.symm.trans (sp_run_stop (sp_rg_f (by omega)))).symm, by omega⟩ dX7_runEnd_49
    · have c3 : ¬ (tz).toInt ≤ (i).toInt := fun h9 => c3 (hq_lei.mpr h9)
      refine lv_aload_n hx hb dX7_runEnd_15 rfl (lv_at hl 1 rfl) ?_
      refine hp_get (v := .ref (kb)) hx hb hts hown hZ hc0 fl_X7_27 rfl dX7_runEnd_16 ?_
      refine lv_iload hx hb dX7_runEnd_19 (lv_at hl 0 rfl) ?_
      refine hp_calli (hp_runV (As := [.int (i)]) (rest := []) hx hb hml hown hts (x_at l D cs B G V n hP (kb) (4000) (i) (tz) (tg)  htz htg  (by omega) hfit) hZ htz cv_X7_182 rfl rfl ⟨Nat.le_of_ble_eq_true rfl, Nat.le_of_ble_eq_true rfl⟩ rfl hl.1 rfl (Nat.le_of_ble_eq_true rfl) dX7_runEnd_21 ⟨(Nat.le_of_ble_eq_true rfl), (Nat.le_of_ble_eq_true rfl)⟩) hZ (fun r7 V4 n5 _ _ hw6 hZ => ?_)
      obtain ⟨rfl, rfl, hp10⟩ := hw6
      have b11 := hq_rng r7
      have b12 := hx_atw hz3 hz1 hp10
      refine lv_iload_n hx hb dX7_runEnd_24 rfl (lv_at hl 3 rfl) ?_
      refine lv_icmp_lt (tgt := 47) hx hb dX7_runEnd_25 (by decide) (fun c13 => ?_) (fun c13 => ?_)
      · have c13 : (r7).toInt < (lo).toInt := hq_lti.mp c13
        refine lv_iload hx hb dX7_runEnd_47 (lv_at hl 0 rfl) ?_
        exact hp_iret hx hb hr hlocks hZ ⟨rfl, rfl, by intro a1 a2 a3 e1 e2 e3; rw [← e1, ← e2, ← e3]; exact (hrun.symm.trans (sp_run_stop (sp_rg_f (by omega)))).symm, by omega⟩ dX7_runEnd_49
      · have c13 : ¬ (r7).toInt < (lo).toInt := fun h9 => c13 (hq_lti.mpr h9)
        refine lv_aload_n hx hb dX7_runEnd_28 rfl (lv_at hl 1 rfl) ?_
        refine hp_get (v := .ref (kb)) hx hb hts hown hZ hc0 fl_X7_27 rfl dX7_runEnd_29 ?_
        refine lv_iload hx hb dX7_runEnd_32 (lv_at hl 0 rfl) ?_
        refine hp_calli (hp_runV (As := [.int (i)]) (rest := []) hx hb hml hown hts (x_at l D cs B G V n hP (kb) (4000) (i) (tz) (tg)  htz htg  (by omega) hfit) hZ htz cv_X7_182 rfl rfl ⟨Nat.le_of_ble_eq_true rfl, Nat.le_of_ble_eq_true rfl⟩ rfl hl.1 rfl (Nat.le_of_ble_eq_true rfl) dX7_runEnd_34 ⟨(Nat.le_of_ble_eq_true rfl), (Nat.le_of_ble_eq_true rfl)⟩) hZ (fun r17 V14 n15 _ _ hw16 hZ => ?_)
        obtain ⟨rfl, rfl, hp20⟩ := hw16
        have b21 := hq_rng r17
        have b22 := hx_atw hz3 hz1 hp20
        refine lv_iload_n hx hb dX7_runEnd_37 rfl (lv_at hl 4 rfl) ?_
        refine lv_icmp_gt (tgt := 47) hx hb dX7_runEnd_38 (by decide) (fun c23 => ?_) (fun c23 => ?_)
        · have c23 : (hi).toInt < (r17).toInt := hq_lti.mp c23
          refine lv_iload hx hb dX7_runEnd_47 (lv_at hl 0 rfl) ?_
          exact hp_iret hx hb hr hlocks hZ ⟨rfl, rfl, by intro a1 a2 a3 e1 e2 e3; rw [← e1, ← e2, ← e3]; exact (hrun.symm.trans (sp_run_stop (sp_rg_f (by omega)))).symm, by omega⟩ dX7_runEnd_49
        · have c23 : ¬ (hi).toInt < (r17).toInt := fun h9 => c23 (hq_lti.mpr h9)
          obtain ⟨y24, ey25⟩ : ∃ y : Int32, y = i + (1) := ⟨_, rfl⟩
          obtain ⟨k26, hk27, b28, b29⟩ := hq_add (i) (1)
          rw [← ey25] at hk27 b28 b29
          have hk27 : (y24).toInt = (i).toInt + (1) + k26 * 4294967296 := hk27
          obtain rfl : k26 = 0 := by omega
          refine lv_iinc (v := y24) (lv' := [(4, .int (y24)), (0, .ref (kb + 2)), (1, .int (k)), (2, .int (lo)), (3, .int (hi))]) hx hb dX7_runEnd_41 hl (k := 0) rfl (by rw [ey25]; rfl) (by decide) rfl (fun ls hl => ?_)
          refine lv_goto (tgt := 3) hx hb dX7_runEnd_44 (by decide) ?_
          exact ih3 _ (by omega) _ _ ls (y24) rfl hZ hP (by omega) (by omega) (by rw [← hrun, sp_run_step (i := i.toInt) (by omega) (sp_rg_t (by omega)), show (y24).toInt = i.toInt + 1 by omega]) (lv_sub hl [0, 1, 2, 3, 4] rfl)

set_option maxHeartbeats 4000000 in
set_option maxRecDepth 100000 in
theorem x_wordNumber (l : Launch) (D : va_G) (cs : Nat → ClassId) (B : Nat) (G : hq_G) (V : hp_V) (n : Nat) (hI : hq_I cs G V) (kb : Nat) (qb : Nat) (w : sp_W) (fk : Int32) (fp : Int32) (nx : Int32) (tk : Int32) (st : Int32) (hy0 : G (kb) = some (0, 4000, 0, 0)) (hy1 : G (kb + 1) = some (1, 4000, 0, 0)) (hc0 : V (kb + 2) = some (.inr (7, [.int (fk), .int (fp), .ref (kb), .ref (qb), .int (nx), .int (tk), .int (st), .ref (kb + 3)]))) (hp0 : hx_TP cs V kb w) (hw : 0 ≤ st.toInt ∧ st.toInt ≤ nx.toInt ∧ nx.toInt ≤ w.2) : hp_M l yX7_wordNumber cX7_wordNumber 5 (some .int) ({ frames := 5, cells := 0, slots := 0, locals := 106 }) D cs B V n [.ref (kb + 2)] (hp_QI D cs B (fun r V' n' => n = n' ∧ V = V' ∧ (∀ a1 a2 : Int, st.toInt = a1 → nx.toInt = a2 → r.toInt = sp_wn w.1 a1 a2))) 0 0 := by
  refine hp_walk (R0 := RX7) (by decide) rfl ?_ (Nat.le_of_ble_eq_true rfl)
  intro p e s m below meth c ls hx hb hr hts hown hlocks hin hml hZ hl
  have hP : hq_I cs G V := hI
  have hl : lv_has ls 5 [(0, .ref (kb + 2))] := hl
  have hb_fk := hq_rng fk
  have hb_fp := hq_rng fp
  have hb_nx := hq_rng nx
  have hb_tk := hq_rng tk
  have hb_st := hq_rng st
  obtain ⟨tz, tg, htz, htg, hz1, hz2, hz3⟩ := id hp0
  have hb_tz := hq_rng tz
  have hfit := hq_rgB hP hy1 htg
  refine lv_iconst (v := 0) hx hb dX7_wordNumber_0 (by decide) ?_
  refine lv_istore_n (lv' := [(1, .int (0)), (0, .ref (kb + 2))]) hx hb dX7_wordNumber_1 rfl hl (by decide) rfl (fun ls hl => ?_)
  refine lv_aload_n hx hb dX7_wordNumber_2 rfl (lv_at hl 1 rfl) ?_
  refine hp_get (v := .int (st)) hx hb hts hown hZ hc0 fl_X7_174 rfl dX7_wordNumber_3 ?_
  refine lv_istore_n (lv' := [(2, .int (st)), (1, .int (0)), (0, .ref (kb + 2))]) hx hb dX7_wordNumber_6 rfl hl (by decide) rfl (fun ls hl => ?_)
  refine lv_iconst (v := 1) hx hb dX7_wordNumber_7 (by decide) ?_
  refine lv_istore_n (lv' := [(3, .int (1)), (2, .int (st)), (1, .int (0)), (0, .ref (kb + 2))]) hx hb dX7_wordNumber_8 rfl hl (by decide) rfl (fun ls hl => ?_)
  refine lv_iconst (v := 0) hx hb dX7_wordNumber_9 (by decide) ?_
  refine lv_istore (lv' := [(4, .int (0)), (3, .int (1)), (2, .int (st)), (1, .int (0)), (0, .ref (kb + 2))]) hx hb dX7_wordNumber_10 hl (by decide) rfl (fun ls hl => ?_)
  have hl1 : (0 : Int32).toInt = 0 := by decide
  have hl2 : (1 : Int32).toInt = 1 := by decide
  have hl3 : (0 : Int32).toInt = 0 := by decide
  suffices lp12 : ∀ (k9 : Nat) (H9 : Heap) (locs9 : List Loc) (ls : Array Slot) (no : Int32) (i : Int32) (sa : Int32) (k : Int32), (100 - k.toInt).toNat = k9 → hp_Z D cs B s V H9 n locs9 → hq_I cs G V → 0 ≤ k.toInt → k.toInt ≤ 89 → st.toInt ≤ i.toInt ∧ i.toInt ≤ st.toInt + k.toInt → 0 ≤ no.toInt ∧ no.toInt ≤ k.toInt → (sp_wl w.1 nx.toInt st.toInt (sp_W89.drop k.toInt.toNat) no.toInt i.toInt sa.toInt = sp_wl w.1 nx.toInt st.toInt sp_W89 0 st.toInt 1) → lv_has ls 5 [(4, .int (k)), (3, .int (sa)), (2, .int (i)), (1, .int (no)), (0, .ref (kb + 2))] → W p l e ({ frames := 5, cells := 0, slots := 0, locals := 106 }) s m ([.ref (kb + 2)] : List Value).toArray below meth c H9 locs9 0 0 (MQ below (hp_QI D cs B (fun r V' n' => n = n' ∧ V = V' ∧ (∀ a1 a2 : Int, st.toInt = a1 → nx.toInt = a2 → r.toInt = sp_wn w.1 a1 a2))) ([.ref (kb + 2)] : List Value).toArray s 0 0 (hp_F B)) (F0 m 12 ls []) from lp12 _ _ _ ls (0) (st) (1) (0) rfl hZ hP (by omega) (by omega) (by omega) (by omega) (rfl) (lv_sub hl [0, 1, 2, 3, 4] rfl)
  intro k9
  induction k9 using Nat.strongRecOn with
  | _ k9 ih12 =>
    intro H9 locs9 ls no i sa k   hk12 hZ hP    hv4 hv5 hv6 hv7 hwl hl
    have hb_no := hq_rng no
    have hb_i := hq_rng i
    have hb_sa := hq_rng sa
    have hb_k := hq_rng k
    refine lv_iload hx hb dX7_wordNumber_12 (lv_at hl 0 rfl) ?_
    refine va_ldcS (tx := (hp_so.getD 0 ("", 0, "")).2.2) (q := cs (100 + 0)) hx hb hown (hZ.2.2.2.2.2.2.2.2.2.2 0 (by decide)) dX7_wordNumber_14 ?_
    refine hp_calli (hp_runVS (As := []) (rest := [.int (k)]) hx hb hml hown hts (s_length l D cs B V n 0 (by decide)) hZ (by decide) rfl cv_X7_205 rfl rfl ⟨Nat.le_of_ble_eq_true rfl, Nat.le_of_ble_eq_true rfl⟩ rfl hl.1 rfl (Nat.le_of_ble_eq_true rfl) dX7_wordNumber_16 ⟨Nat.le_of_ble_eq_true rfl, Nat.le_of_ble_eq_true rfl⟩) hZ (fun r11 V8 n9 _ _ hw10 hZ => ?_)
    obtain ⟨rfl, rfl, hr12⟩ := hw10
    have b13 := hq_rng r11
    have b14 : r11.toInt = (hp_sl.getD 0 0 : Nat) := by rw [hr12]; exact hs_ofn (by have h9 := (hs_all 0 (by decide)).1; omega)
    have b15 : r11.toInt = 89 := by rw [hr12]; decide
    refine lv_icmp_ge (tgt := 106) hx hb dX7_wordNumber_19 (by decide) (fun c16 => ?_) (fun c16 => ?_)
    · have c16 : (r11).toInt ≤ (k).toInt := hq_lei.mp c16
      refine lv_bipush (v := 17) hx hb dX7_wordNumber_106 (by decide) ?_
      have hl17 : (17 : Int32).toInt = 17 := by decide
      exact hp_iret hx hb hr hlocks hZ ⟨rfl, rfl, by intro a1 a2 e1 e2; rw [← e1, ← e2, ← sp_wl_all w.1 (by omega)]; exact (hwl.symm.trans (by rw [show k.toInt.toNat = 89 by omega]; rfl)).symm⟩ dX7_wordNumber_108
    · have c16 : ¬ (r11).toInt ≤ (k).toInt := fun h9 => c16 (hq_lei.mpr h9)
      refine va_ldcS (tx := (hp_so.getD 0 ("", 0, "")).2.2) (q := cs (100 + 0)) hx hb hown (hZ.2.2.2.2.2.2.2.2.2.2 0 (by decide)) dX7_wordNumber_22 ?_
      refine lv_iload hx hb dX7_wordNumber_24 (lv_at hl 0 rfl) ?_
      have hsl : (hp_sl.getD 0 0 : Nat) = 89 := by decide
      refine hp_calli (hp_runVS (As := [.int (k)]) (rest := []) hx hb hml hown hts (s_charAt l D cs B V n 0 (by decide) (k) (by omega) (by omega)) hZ (by decide) rfl cv_X7_210 rfl rfl ⟨Nat.le_of_ble_eq_true rfl, Nat.le_of_ble_eq_true rfl⟩ rfl hl.1 rfl (Nat.le_of_ble_eq_true rfl) dX7_wordNumber_26 ⟨Nat.le_of_ble_eq_true rfl, Nat.le_of_ble_eq_true rfl⟩) hZ (fun r21 V18 n19 _ _ hw20 hZ => ?_)
      obtain ⟨rfl, rfl, hr22⟩ := hw20
      have b23 := hq_rng r21
      have b24 := hx_chr (hr22) (by omega) (by omega)
      refine lv_bipush (v := 32) hx hb dX7_wordNumber_29 (by decide) ?_
      refine lv_icmp_eq (tgt := 76) hx hb dX7_wordNumber_31 (by decide) (fun c25 => ?_) (fun c25 => ?_)
      · have c25 : (r21).toInt = (32 : Int) := hq_eqi.mp c25
        refine lv_iload_n hx hb dX7_wordNumber_76 rfl (lv_at hl 1 rfl) ?_
        refine lv_if_eq (tgt := 90) hx hb dX7_wordNumber_77 (by decide) (fun c26 => ?_) (fun c26 => ?_)
        · have c26 : (sa).toInt = (0 : Int) := hq_eqi.mp c26
          obtain ⟨y27, ey28⟩ : ∃ y : Int32, y = no + (1) := ⟨_, rfl⟩
          obtain ⟨k29, hk30, b31, b32⟩ := hq_add (no) (1)
          rw [← ey28] at hk30 b31 b32
          have hk30 : (y27).toInt = (no).toInt + (1) + k29 * 4294967296 := hk30
          obtain rfl : k29 = 0 := by omega
          refine lv_iinc (v := y27) (lv' := [(1, .int (y27)), (4, .int (k)), (3, .int (sa)), (2, .int (i)), (0, .ref (kb + 2))]) hx hb dX7_wordNumber_90 hl (k := 3) rfl (by rw [ey28]; rfl) (by decide) rfl (fun ls hl => ?_)
          refine lv_aload_n hx hb dX7_wordNumber_93 rfl (lv_at hl 4 rfl) ?_
          refine hp_get (v := .int (st)) hx hb hts hown hZ hc0 fl_X7_174 rfl dX7_wordNumber_94 ?_
          refine lv_istore_n (lv' := [(2, .int (st)), (1, .int (y27)), (4, .int (k)), (3, .int (sa)), (0, .ref (kb + 2))]) hx hb dX7_wordNumber_97 rfl hl (by decide) rfl (fun ls hl => ?_)
          refine lv_iconst (v := 1) hx hb dX7_wordNumber_98 (by decide) ?_
          refine lv_istore_n (lv' := [(3, .int (1)), (2, .int (st)), (1, .int (y27)), (4, .int (k)), (0, .ref (kb + 2))]) hx hb dX7_wordNumber_99 rfl hl (by decide) rfl (fun ls hl => ?_)
          obtain ⟨y33, ey34⟩ : ∃ y : Int32, y = k + (1) := ⟨_, rfl⟩
          obtain ⟨k35, hk36, b37, b38⟩ := hq_add (k) (1)
          rw [← ey34] at hk36 b37 b38
          have hk36 : (y33).toInt = (k).toInt + (1) + k35 * 4294967296 := hk36
          obtain rfl : k35 = 0 := by omega
          refine lv_iinc (v := y33) (lv' := [(4, .int (y33)), (3, .int (1)), (2, .int (st)), (1, .int (y27)), (0, .ref (kb + 2))]) hx hb dX7_wordNumber_100 hl (k := 3) rfl (by rw [ey34]; rfl) (by decide) rfl (fun ls hl => ?_)
          refine lv_goto (tgt := 12) hx hb dX7_wordNumber_103 (by decide) ?_
          have hl39 : (1 : Int32).toInt = 1 := by decide
          exact ih12 _ (by omega) _ _ ls (y27) (st) (1) (y33) rfl hZ hP (by omega) (by omega) (by omega) (by omega) (by rw [← hwl, hx_chk hr22 (by omega) (by omega), show (y33).toInt.toNat = k.toInt.toNat + 1 by omega]; simp only [sp_wl]; rw [if_pos (by omega), if_neg (by omega), show (y27).toInt = no.toInt + 1 by omega]; rfl) (lv_sub hl [0, 1, 2, 3, 4] rfl)
        · have c26 : ¬ (sa).toInt = (0 : Int) := fun h9 => c26 (hq_eqi.mpr h9)
          refine lv_iload_n hx hb dX7_wordNumber_80 rfl (lv_at hl 2 rfl) ?_
          refine lv_aload_n hx hb dX7_wordNumber_81 rfl (lv_at hl 4 rfl) ?_
          refine hp_get (v := .int (nx)) hx hb hts hown hZ hc0 fl_X7_39 rfl dX7_wordNumber_82 ?_
          refine lv_icmp_ne (tgt := 90) hx hb dX7_wordNumber_85 (by decide) (fun c40 => ?_) (fun c40 => ?_)
          · have c40 : ¬ (i).toInt = (nx).toInt := fun h9 => c40 (hq_eqi.mpr h9)
            obtain ⟨y41, ey42⟩ : ∃ y : Int32, y = no + (1) := ⟨_, rfl⟩
            obtain ⟨k43, hk44, b45, b46⟩ := hq_add (no) (1)
            rw [← ey42] at hk44 b45 b46
            have hk44 : (y41).toInt = (no).toInt + (1) + k43 * 4294967296 := hk44
            obtain rfl : k43 = 0 := by omega
            refine lv_iinc (v := y41) (lv' := [(1, .int (y41)), (4, .int (k)), (3, .int (sa)), (2, .int (i)), (0, .ref (kb + 2))]) hx hb dX7_wordNumber_90 hl (k := 3) rfl (by rw [ey42]; rfl) (by decide) rfl (fun ls hl => ?_)
            refine lv_aload_n hx hb dX7_wordNumber_93 rfl (lv_at hl 4 rfl) ?_
            refine hp_get (v := .int (st)) hx hb hts hown hZ hc0 fl_X7_174 rfl dX7_wordNumber_94 ?_
            refine lv_istore_n (lv' := [(2, .int (st)), (1, .int (y41)), (4, .int (k)), (3, .int (sa)), (0, .ref (kb + 2))]) hx hb dX7_wordNumber_97 rfl hl (by decide) rfl (fun ls hl => ?_)
            refine lv_iconst (v := 1) hx hb dX7_wordNumber_98 (by decide) ?_
            refine lv_istore_n (lv' := [(3, .int (1)), (2, .int (st)), (1, .int (y41)), (4, .int (k)), (0, .ref (kb + 2))]) hx hb dX7_wordNumber_99 rfl hl (by decide) rfl (fun ls hl => ?_)
            obtain ⟨y47, ey48⟩ : ∃ y : Int32, y = k + (1) := ⟨_, rfl⟩
            obtain ⟨k49, hk50, b51, b52⟩ := hq_add (k) (1)
            rw [← ey48] at hk50 b51 b52
            have hk50 : (y47).toInt = (k).toInt + (1) + k49 * 4294967296 := hk50
            obtain rfl : k49 = 0 := by omega
            refine lv_iinc (v := y47) (lv' := [(4, .int (y47)), (3, .int (1)), (2, .int (st)), (1, .int (y41)), (0, .ref (kb + 2))]) hx hb dX7_wordNumber_100 hl (k := 3) rfl (by rw [ey48]; rfl) (by decide) rfl (fun ls hl => ?_)
            refine lv_goto (tgt := 12) hx hb dX7_wordNumber_103 (by decide) ?_
            have hl53 : (1 : Int32).toInt = 1 := by decide
            exact ih12 _ (by omega) _ _ ls (y41) (st) (1) (y47) rfl hZ hP (by omega) (by omega) (by omega) (by omega) (by rw [← hwl, hx_chk hr22 (by omega) (by omega), show (y47).toInt.toNat = k.toInt.toNat + 1 by omega]; simp only [sp_wl]; rw [if_pos (by omega), if_neg (by omega), show (y41).toInt = no.toInt + 1 by omega]; rfl) (lv_sub hl [0, 1, 2, 3, 4] rfl)
          · have c40 : (i).toInt = (nx).toInt := hq_eqi.mp c40
            refine lv_iload_n hx hb dX7_wordNumber_88 rfl (lv_at hl 3 rfl) ?_
            exact hp_iret hx hb hr hlocks hZ ⟨rfl, rfl, by intro a1 a2 e1 e2; rw [← e1, ← e2, ← sp_wl_all w.1 (by omega)]; exact (hwl.symm.trans (by rw [hx_chk hr22 (by omega) (by omega)]; simp only [sp_wl]; rw [if_pos (by omega), if_pos (by omega)])).symm⟩ dX7_wordNumber_89
      · have c25 : ¬ (r21).toInt = (32 : Int) := fun h9 => c25 (hq_eqi.mpr h9)
        refine lv_iload_n hx hb dX7_wordNumber_34 rfl (lv_at hl 1 rfl) ?_
        refine lv_if_eq (tgt := 68) hx hb dX7_wordNumber_35 (by decide) (fun c54 => ?_) (fun c54 => ?_)
        · have c54 : (sa).toInt = (0 : Int) := hq_eqi.mp c54
          refine lv_iconst (v := 0) hx hb dX7_wordNumber_68 (by decide) ?_
          refine lv_istore_n (lv' := [(3, .int (0)), (4, .int (k)), (2, .int (i)), (1, .int (no)), (0, .ref (kb + 2))]) hx hb dX7_wordNumber_69 rfl hl (by decide) rfl (fun ls hl => ?_)
          obtain ⟨y55, ey56⟩ : ∃ y : Int32, y = i + (1) := ⟨_, rfl⟩
          obtain ⟨k57, hk58, b59, b60⟩ := hq_add (i) (1)
          rw [← ey56] at hk58 b59 b60
          have hk58 : (y55).toInt = (i).toInt + (1) + k57 * 4294967296 := hk58
          obtain rfl : k57 = 0 := by omega
          refine lv_iinc (v := y55) (lv' := [(2, .int (y55)), (3, .int (0)), (4, .int (k)), (1, .int (no)), (0, .ref (kb + 2))]) hx hb dX7_wordNumber_70 hl (k := 2) rfl (by rw [ey56]; rfl) (by decide) rfl (fun ls hl => ?_)
          refine lv_goto (tgt := 100) hx hb dX7_wordNumber_73 (by decide) ?_
          obtain ⟨y61, ey62⟩ : ∃ y : Int32, y = k + (1) := ⟨_, rfl⟩
          obtain ⟨k63, hk64, b65, b66⟩ := hq_add (k) (1)
          rw [← ey62] at hk64 b65 b66
          have hk64 : (y61).toInt = (k).toInt + (1) + k63 * 4294967296 := hk64
          obtain rfl : k63 = 0 := by omega
          refine lv_iinc (v := y61) (lv' := [(4, .int (y61)), (2, .int (y55)), (3, .int (0)), (1, .int (no)), (0, .ref (kb + 2))]) hx hb dX7_wordNumber_100 hl (k := 2) rfl (by rw [ey62]; rfl) (by decide) rfl (fun ls hl => ?_)
          refine lv_goto (tgt := 12) hx hb dX7_wordNumber_103 (by decide) ?_
          have hl67 : (0 : Int32).toInt = 0 := by decide
          exact ih12 _ (by omega) _ _ ls (no) (y55) (0) (y61) rfl hZ hP (by omega) (by omega) (by omega) (by omega) (by rw [← hwl, hx_chk hr22 (by omega) (by omega), show (y61).toInt.toNat = k.toInt.toNat + 1 by omega]; simp only [sp_wl]; rw [if_neg (by omega), show (y55).toInt = i.toInt + 1 by omega]; rw [if_neg (by omega)]; rfl) (lv_sub hl [0, 2, 1, 3, 4] rfl)
        · have c54 : ¬ (sa).toInt = (0 : Int) := fun h9 => c54 (hq_eqi.mpr h9)
          refine lv_iload_n hx hb dX7_wordNumber_38 rfl (lv_at hl 2 rfl) ?_
          refine lv_aload_n hx hb dX7_wordNumber_39 rfl (lv_at hl 4 rfl) ?_
          refine hp_get (v := .int (nx)) hx hb hts hown hZ hc0 fl_X7_39 rfl dX7_wordNumber_40 ?_
          refine lv_icmp_ge (tgt := 68) hx hb dX7_wordNumber_43 (by decide) (fun c68 => ?_) (fun c68 => ?_)
          · have c68 : (nx).toInt ≤ (i).toInt := hq_lei.mp c68
            refine lv_iconst (v := 0) hx hb dX7_wordNumber_68 (by decide) ?_
            refine lv_istore_n (lv' := [(3, .int (0)), (4, .int (k)), (2, .int (i)), (1, .int (no)), (0, .ref (kb + 2))]) hx hb dX7_wordNumber_69 rfl hl (by decide) rfl (fun ls hl => ?_)
            obtain ⟨y69, ey70⟩ : ∃ y : Int32, y = i + (1) := ⟨_, rfl⟩
            obtain ⟨k71, hk72, b73, b74⟩ := hq_add (i) (1)
            rw [← ey70] at hk72 b73 b74
            have hk72 : (y69).toInt = (i).toInt + (1) + k71 * 4294967296 := hk72
            obtain rfl : k71 = 0 := by omega
            refine lv_iinc (v := y69) (lv' := [(2, .int (y69)), (3, .int (0)), (4, .int (k)), (1, .int (no)), (0, .ref (kb + 2))]) hx hb dX7_wordNumber_70 hl (k := 2) rfl (by rw [ey70]; rfl) (by decide) rfl (fun ls hl => ?_)
            refine lv_goto (tgt := 100) hx hb dX7_wordNumber_73 (by decide) ?_
            obtain ⟨y75, ey76⟩ : ∃ y : Int32, y = k + (1) := ⟨_, rfl⟩
            obtain ⟨k77, hk78, b79, b80⟩ := hq_add (k) (1)
            rw [← ey76] at hk78 b79 b80
            have hk78 : (y75).toInt = (k).toInt + (1) + k77 * 4294967296 := hk78
            obtain rfl : k77 = 0 := by omega
            refine lv_iinc (v := y75) (lv' := [(4, .int (y75)), (2, .int (y69)), (3, .int (0)), (1, .int (no)), (0, .ref (kb + 2))]) hx hb dX7_wordNumber_100 hl (k := 2) rfl (by rw [ey76]; rfl) (by decide) rfl (fun ls hl => ?_)
            refine lv_goto (tgt := 12) hx hb dX7_wordNumber_103 (by decide) ?_
            have hl81 : (0 : Int32).toInt = 0 := by decide
            exact ih12 _ (by omega) _ _ ls (no) (y69) (0) (y75) rfl hZ hP (by omega) (by omega) (by omega) (by omega) (by rw [← hwl, hx_chk hr22 (by omega) (by omega), show (y75).toInt.toNat = k.toInt.toNat + 1 by omega]; simp only [sp_wl]; rw [if_neg (by omega), show (y69).toInt = i.toInt + 1 by omega]; rw [if_neg (by omega)]; rfl) (lv_sub hl [0, 2, 1, 3, 4] rfl)
          · have c68 : ¬ (nx).toInt ≤ (i).toInt := fun h9 => c68 (hq_lei.mpr h9)
            refine lv_aload_n hx hb dX7_wordNumber_46 rfl (lv_at hl 4 rfl) ?_
            refine hp_get (v := .ref (kb)) hx hb hts hown hZ hc0 fl_X7_27 rfl dX7_wordNumber_47 ?_
            refine lv_iload_n hx hb dX7_wordNumber_50 rfl (lv_at hl 2 rfl) ?_
            refine hp_calli (hp_runV (As := [.int (i)]) (rest := []) hx hb hml hown hts (x_at l D cs B G V n hP (kb) (4000) (i) (tz) (tg)  htz htg  (by omega) hfit) hZ htz cv_X7_182 rfl rfl ⟨Nat.le_of_ble_eq_true rfl, Nat.le_of_ble_eq_true rfl⟩ rfl hl.1 rfl (Nat.le_of_ble_eq_true rfl) dX7_wordNumber_51 ⟨(Nat.le_of_ble_eq_true rfl), (Nat.le_of_ble_eq_true rfl)⟩) hZ (fun r85 V82 n83 _ _ hw84 hZ => ?_)
            obtain ⟨rfl, rfl, hp88⟩ := hw84
            have b89 := hq_rng r85
            have b90 := hx_atw hz3 hz1 hp88
            refine va_ldcS (tx := (hp_so.getD 0 ("", 0, "")).2.2) (q := cs (100 + 0)) hx hb hown (hZ.2.2.2.2.2.2.2.2.2.2 0 (by decide)) dX7_wordNumber_54 ?_
            refine lv_iload hx hb dX7_wordNumber_56 (lv_at hl 0 rfl) ?_
            have hsl : (hp_sl.getD 0 0 : Nat) = 89 := by decide
            refine hp_calli (hp_runVS (As := [.int (k)]) (rest := [.int (r85)]) hx hb hml hown hts (s_charAt l D cs B V n 0 (by decide) (k) (by omega) (by omega)) hZ (by decide) rfl cv_X7_210 rfl rfl ⟨Nat.le_of_ble_eq_true rfl, Nat.le_of_ble_eq_true rfl⟩ rfl hl.1 rfl (Nat.le_of_ble_eq_true rfl) dX7_wordNumber_58 ⟨Nat.le_of_ble_eq_true rfl, Nat.le_of_ble_eq_true rfl⟩) hZ (fun r94 V91 n92 _ _ hw93 hZ => ?_)
            obtain ⟨rfl, rfl, hr95⟩ := hw93
            have b96 := hq_rng r94
            have b97 := hx_chr (hr95) (by omega) (by omega)
            have b98 : r94.toInt = r21.toInt := by rw [hr95, hr22]
            refine lv_icmp_ne (tgt := 68) hx hb dX7_wordNumber_61 (by decide) (fun c99 => ?_) (fun c99 => ?_)
            · have c99 : ¬ (r85).toInt = (r94).toInt := fun h9 => c99 (hq_eqi.mpr h9)
              refine lv_iconst (v := 0) hx hb dX7_wordNumber_68 (by decide) ?_
              refine lv_istore_n (lv' := [(3, .int (0)), (4, .int (k)), (2, .int (i)), (1, .int (no)), (0, .ref (kb + 2))]) hx hb dX7_wordNumber_69 rfl hl (by decide) rfl (fun ls hl => ?_)
              obtain ⟨y100, ey101⟩ : ∃ y : Int32, y = i + (1) := ⟨_, rfl⟩
              obtain ⟨k102, hk103, b104, b105⟩ := hq_add (i) (1)
              rw [← ey101] at hk103 b104 b105
              have hk103 : (y100).toInt = (i).toInt + (1) + k102 * 4294967296 := hk103
              obtain rfl : k102 = 0 := by omega
              refine lv_iinc (v := y100) (lv' := [(2, .int (y100)), (3, .int (0)), (4, .int (k)), (1, .int (no)), (0, .ref (kb + 2))]) hx hb dX7_wordNumber_70 hl (k := 2) rfl (by rw [ey101]; rfl) (by decide) rfl (fun ls hl => ?_)
              refine lv_goto (tgt := 100) hx hb dX7_wordNumber_73 (by decide) ?_
              obtain ⟨y106, ey107⟩ : ∃ y : Int32, y = k + (1) := ⟨_, rfl⟩
              obtain ⟨k108, hk109, b110, b111⟩ := hq_add (k) (1)
              rw [← ey107] at hk109 b110 b111
              have hk109 : (y106).toInt = (k).toInt + (1) + k108 * 4294967296 := hk109
              obtain rfl : k108 = 0 := by omega
              refine lv_iinc (v := y106) (lv' := [(4, .int (y106)), (2, .int (y100)), (3, .int (0)), (1, .int (no)), (0, .ref (kb + 2))]) hx hb dX7_wordNumber_100 hl (k := 2) rfl (by rw [ey107]; rfl) (by decide) rfl (fun ls hl => ?_)
              refine lv_goto (tgt := 12) hx hb dX7_wordNumber_103 (by decide) ?_
              have hl112 : (0 : Int32).toInt = 0 := by decide
              exact ih12 _ (by omega) _ _ ls (no) (y100) (0) (y106) rfl hZ hP (by omega) (by omega) (by omega) (by omega) (by rw [← hwl, hx_chk hr22 (by omega) (by omega), show (y106).toInt.toNat = k.toInt.toNat + 1 by omega]; simp only [sp_wl]; rw [if_neg (by omega), show (y100).toInt = i.toInt + 1 by omega]; rw [if_neg (by omega)]; rfl) (lv_sub hl [0, 2, 1, 3, 4] rfl)
            · have c99 : (r85).toInt = (r94).toInt := hq_eqi.mp c99
              refine lv_iconst (v := 1) hx hb dX7_wordNumber_64 (by decide) ?_
              refine lv_goto (tgt := 69) hx hb dX7_wordNumber_65 (by decide) ?_
              refine lv_istore_n (lv' := [(3, .int (1)), (4, .int (k)), (2, .int (i)), (1, .int (no)), (0, .ref (kb + 2))]) hx hb dX7_wordNumber_69 rfl hl (by decide) rfl (fun ls hl => ?_)
              obtain ⟨y113, ey114⟩ : ∃ y : Int32, y = i + (1) := ⟨_, rfl⟩
              obtain ⟨k115, hk116, b117, b118⟩ := hq_add (i) (1)
              rw [← ey114] at hk116 b117 b118
              have hk116 : (y113).toInt = (i).toInt + (1) + k115 * 4294967296 := hk116
              obtain rfl : k115 = 0 := by omega
              refine lv_iinc (v := y113) (lv' := [(2, .int (y113)), (3, .int (1)), (4, .int (k)), (1, .int (no)), (0, .ref (kb + 2))]) hx hb dX7_wordNumber_70 hl (k := 2) rfl (by rw [ey114]; rfl) (by decide) rfl (fun ls hl => ?_)
              refine lv_goto (tgt := 100) hx hb dX7_wordNumber_73 (by decide) ?_
              obtain ⟨y119, ey120⟩ : ∃ y : Int32, y = k + (1) := ⟨_, rfl⟩
              obtain ⟨k121, hk122, b123, b124⟩ := hq_add (k) (1)
              rw [← ey120] at hk122 b123 b124
              have hk122 : (y119).toInt = (k).toInt + (1) + k121 * 4294967296 := hk122
              obtain rfl : k121 = 0 := by omega
              refine lv_iinc (v := y119) (lv' := [(4, .int (y119)), (2, .int (y113)), (3, .int (1)), (1, .int (no)), (0, .ref (kb + 2))]) hx hb dX7_wordNumber_100 hl (k := 2) rfl (by rw [ey120]; rfl) (by decide) rfl (fun ls hl => ?_)
              refine lv_goto (tgt := 12) hx hb dX7_wordNumber_103 (by decide) ?_
              have hl125 : (1 : Int32).toInt = 1 := by decide
              exact ih12 _ (by omega) _ _ ls (no) (y113) (1) (y119) rfl hZ hP (by omega) (by omega) (by omega) (by omega) (by rw [← hwl, hx_chk hr22 (by omega) (by omega), show (y119).toInt.toNat = k.toInt.toNat + 1 by omega]; simp only [sp_wl]; rw [if_neg (by omega), show (y113).toInt = i.toInt + 1 by omega]; rw [if_pos (by omega)]; rfl) (lv_sub hl [0, 2, 1, 3, 4] rfl)

set_option maxHeartbeats 4000000 in
set_option maxRecDepth 100000 in
theorem x_step (l : Launch) (D : va_G) (cs : Nat → ClassId) (B : Nat) (G : hq_G) (V : hp_V) (n : Nat) (hI : hq_I cs G V) (kb : Nat) (qb : Nat) (w : sp_W) (j : Nat) (fk : Int32) (fp : Int32) (nx : Int32) (tk : Int32) (st : Int32) (hy0 : G (kb) = some (0, 4000, 0, 0)) (hy1 : G (kb + 1) = some (1, 4000, 0, 0)) (hy2 : G (kb + 2) = some (10, 0, 0, 0)) (hc0 : V (kb + 2) = some (.inr (7, [.int (fk), .int (fp), .ref (kb), .ref (qb), .int (nx), .int (tk), .int (st), .ref (kb + 3)]))) (hp0 : hx_TP cs V kb w) (hnx : nx.toInt = sp_pos w j) (hpos : 0 ≤ sp_pos w j ∧ sp_pos w j ≤ w.2) : hp_M l yX7_step cX7_step 3 none ({ frames := 6, cells := 0, slots := 0, locals := 130 }) D cs B V n [.ref (kb + 2)] (hp_QV D cs B (fun V' n' => n = n' ∧ hq_P cs G (fun _ => true) V V' ∧ (∀ x, x ≠ kb + 2 → V' x = V x) ∧ (∃ nx1 : Int32, ∃ tk1 : Int32, ∃ st1 : Int32, V' (kb + 2) = some (.inr (7, [.int (fk), .int (fp), .ref (kb), .ref (qb), .int (nx1), .int (tk1), .int (st1), .ref (kb + 3)])) ∧ (hx_A w j st1 nx1 tk1)))) 0 0 := by
  refine hp_walk (R0 := RX7) (by decide) rfl ?_ (Nat.le_of_ble_eq_true rfl)
  intro p e s m below meth c ls hx hb hr hts hown hlocks hin hml hZ hl
  have hP : hq_P cs G (fun _ => true) V V := hq_P.rf hI
  have hl : lv_has ls 3 [(0, .ref (kb + 2))] := hl
  have hb_fk := hq_rng fk
  have hb_fp := hq_rng fp
  have hb_nx := hq_rng nx
  have hb_tk := hq_rng tk
  have hb_st := hq_rng st
  obtain ⟨tz, tg, htz, htg, hz1, hz2, hz3⟩ := id hp0
  have hb_tz := hq_rng tz
  have hfit := hq_rgB hP.1 hy1 htg
  refine lv_aload_n hx hb dX7_step_0 rfl (lv_at hl 0 rfl) ?_
  refine lv_aload_n hx hb dX7_step_1 rfl (lv_at hl 0 rfl) ?_
  refine hp_get (v := .int (nx)) hx hb hts hown hZ hc0 fl_X7_39 rfl dX7_step_2 ?_
  refine hp_put hx hb hts hown hZ hc0 fp_X7_174 rfl rfl (Nat.le_of_ble_eq_true rfl) dX7_step_5 (fun V1 _ _ e2 o3 hZ => ?_)
  have e2 : V1 (kb + 2) = some (.inr (7, [.int (fk), .int (fp), .ref (kb), .ref (qb), .int (nx), .int (tk), .int (nx), .ref (kb + 3)])) := e2
  have hP := hP.put hy2 e2 o3 (trivial) rfl
  suffices lp8 : ∀ (k9 : Nat) (V9 : hp_V) (H9 : Heap) (locs9 : List Loc) (ls : Array Slot)  (st9 : Int32), (5000 - st9.toInt).toNat = k9 → hp_Z D cs B s V9 H9 n locs9 → hq_P cs G (fun _ => true) V V9 → V9 (kb + 2) = some (.inr (7, [.int (fk), .int (fp), .ref (kb), .ref (qb), .int (nx), .int (tk), .int (st9), .ref (kb + 3)])) → (∀ x, x ≠ kb + 2 → V9 x = V x) → sp_pos w j ≤ st9.toInt → st9.toInt ≤ w.2 → (sp_run (sp_ws w.1) w.2 st9.toInt = sp_run (sp_ws w.1) w.2 (sp_pos w j)) → lv_has ls 3 [(0, .ref (kb + 2))] → W p l e ({ frames := 6, cells := 0, slots := 0, locals := 130 }) s m ([.ref (kb + 2)] : List Value).toArray below meth c H9 locs9 0 0 (MQ below (hp_QV D cs B (fun V' n' => n = n' ∧ hq_P cs G (fun _ => true) V V' ∧ (∀ x, x ≠ kb + 2 → V' x = V x) ∧ (∃ nx1 : Int32, ∃ tk1 : Int32, ∃ st1 : Int32, V' (kb + 2) = some (.inr (7, [.int (fk), .int (fp), .ref (kb), .ref (qb), .int (nx1), .int (tk1), .int (st1), .ref (kb + 3)])) ∧ (hx_A w j st1 nx1 tk1)))) ([.ref (kb + 2)] : List Value).toArray s 0 0 (hp_F B)) (F0 m 8 ls []) from lp8 _ _ _ _ ls  (nx) rfl hZ hP e2 (fun x8 hne0 => o3 x8 hne0) (by omega) (by omega) (by rw [hnx]) (lv_sub hl [0] rfl)
  intro k9
  induction k9 using Nat.strongRecOn with
  | _ k9 ih8 =>
    intro V9 H9 locs9 ls   st9 hk8 hZ hP ho4 fr8  hv5 hv6 hrun hl
    have hb_st9 := hq_rng st9
    refine lv_aload_n hx hb dX7_step_8 rfl (lv_at hl 0 rfl) ?_
    refine hp_get (v := .int (st9)) hx hb hts hown hZ ho4 fl_X7_174 rfl dX7_step_9 ?_
    refine lv_aload_n hx hb dX7_step_12 rfl (lv_at hl 0 rfl) ?_
    refine hp_get (v := .ref (kb)) hx hb hts hown hZ ho4 fl_X7_27 rfl dX7_step_13 ?_
    have fx7 : V9 (kb) = some (.inr (9, [.ref (kb + 1), .int (tz)])) := (fr8 (kb) (hq_tne hy0 hy2 (by simp))).trans (htz)
    refine hp_get (v := .int (tz)) hx hb hts hown hZ fx7 fl_X7_192 rfl dX7_step_16 ?_
    refine lv_icmp_ge (tgt := 67) hx hb dX7_step_19 (by decide) (fun c8 => ?_) (fun c8 => ?_)
    · have c8 : (tz).toInt ≤ (st9).toInt := hq_lei.mp c8
      have hS : sp_S w (sp_pos w j) = st9.toInt := hrun.symm.trans (sp_run_stop (sp_ws_f (by omega)))
      have hbS : w.1 (sp_S w (sp_pos w j)) = w.1 st9.toInt := by rw [hS]
      have hS2 := sp_S_ge w (sp_pos w j)
      refine lv_aload_n hx hb dX7_step_67 rfl (lv_at hl 0 rfl) ?_
      refine lv_aload_n hx hb dX7_step_68 rfl (lv_at hl 0 rfl) ?_
      refine hp_get (v := .int (st9)) hx hb hts hown hZ ho4 fl_X7_174 rfl dX7_step_69 ?_
      refine lv_iconst (v := 1) hx hb dX7_step_72 (by decide) ?_
      refine lv_iadd hx hb dX7_step_73 ?_
      refine lv_topi (fun y9 ey10 => ?_)
      obtain ⟨k11, hk12, b13, b14⟩ := hq_add (st9) (1)
      rw [← ey10] at hk12 b13 b14
      have hk12 : (y9).toInt = (st9).toInt + (1 : Int) + k11 * 4294967296 := hk12
      obtain rfl : k11 = 0 := by omega
      refine hp_put hx hb hts hown hZ ho4 fp_X7_39 rfl rfl (Nat.le_of_ble_eq_true rfl) dX7_step_74 (fun V15 _ _ e16 o17 hZ => ?_)
      have e16 : V15 (kb + 2) = some (.inr (7, [.int (fk), .int (fp), .ref (kb), .ref (qb), .int (y9), .int (tk), .int (st9), .ref (kb + 3)])) := e16
      have hP := hP.put hy2 e16 o17 (trivial) rfl
      refine lv_aload_n hx hb dX7_step_77 rfl (lv_at hl 0 rfl) ?_
      refine hp_get (v := .ref (kb)) hx hb hts hown hZ e16 fl_X7_27 rfl dX7_step_78 ?_
      refine lv_aload_n hx hb dX7_step_81 rfl (lv_at hl 0 rfl) ?_
      refine hp_get (v := .int (st9)) hx hb hts hown hZ e16 fl_X7_174 rfl dX7_step_82 ?_
      have fx18 : V15 (kb) = some (.inr (9, [.ref (kb + 1), .int (tz)])) := (o17 (kb) (hq_tne hy0 hy2 (by simp))).trans (fx7)
      have fx19 : V15 (kb + 1) = some (.inl (cs 0, 4000, .inl (tg))) := (o17 (kb + 1) (hq_tne hy1 hy2 (by simp))).trans ((fr8 (kb + 1) (hq_tne hy1 hy2 (by simp))).trans (htg))
      refine hp_calli (hp_runV (As := [.int (st9)]) (rest := []) hx hb hml hown hts (x_at l D cs B G V15 n hP.1 (kb) (4000) (st9) (tz) (tg)  fx18 fx19  (by omega) hfit) hZ fx18 cv_X7_182 rfl rfl ⟨Nat.le_of_ble_eq_true rfl, Nat.le_of_ble_eq_true rfl⟩ rfl hl.1 rfl (Nat.le_of_ble_eq_true rfl) dX7_step_85 ⟨(Nat.le_of_ble_eq_true rfl), (Nat.le_of_ble_eq_true rfl)⟩) hZ (fun r23 V20 n21 _ _ hw22 hZ => ?_)
      obtain ⟨rfl, rfl, hp26⟩ := hw22
      have b27 := hq_rng r23
      have b28 := hx_atw hz3 hz1 hp26
      refine lv_istore_n (lv' := [(1, .int (r23)), (0, .ref (kb + 2))]) hx hb dX7_step_88 rfl hl (by decide) rfl (fun ls hl => ?_)
      refine lv_iload_n hx hb dX7_step_89 rfl (lv_at hl 0 rfl) ?_
      refine lv_iconst (v := -1) hx hb dX7_step_90 (by decide) ?_
      refine lv_icmp_ne (tgt := 103) hx hb dX7_step_91 (by decide) (fun c29 => ?_) (fun c29 => ?_)
      · have c29 : ¬ (r23).toInt = (-1 : Int) := fun h9 => c29 (hq_eqi.mpr h9)
        refine lv_iload_n hx hb dX7_step_103 rfl (lv_at hl 0 rfl) ?_
        refine lv_bipush (v := 59) hx hb dX7_step_104 (by decide) ?_
        refine lv_icmp_ne (tgt := 118) hx hb dX7_step_106 (by decide) (fun c30 => ?_) (fun c30 => ?_)
        · have c30 : ¬ (r23).toInt = (59 : Int) := fun h9 => c30 (hq_eqi.mpr h9)
          refine lv_iload_n hx hb dX7_step_118 rfl (lv_at hl 0 rfl) ?_
          refine lv_bipush (v := 39) hx hb dX7_step_119 (by decide) ?_
          refine lv_icmp_ne (tgt := 202) hx hb dX7_step_121 (by decide) (fun c31 => ?_) (fun c31 => ?_)
          · have c31 : ¬ (r23).toInt = (39 : Int) := fun h9 => c31 (hq_eqi.mpr h9)
            refine lv_iload_n hx hb dX7_step_202 rfl (lv_at hl 0 rfl) ?_
            refine lv_bipush (v := 97) hx hb dX7_step_203 (by decide) ?_
            refine lv_icmp_lt (tgt := 260) hx hb dX7_step_205 (by decide) (fun c32 => ?_) (fun c32 => ?_)
            · have c32 : (r23).toInt < (97 : Int) := hq_lti.mp c32
              refine lv_iload_n hx hb dX7_step_260 rfl (lv_at hl 0 rfl) ?_
              refine lv_bipush (v := 48) hx hb dX7_step_261 (by decide) ?_
              refine lv_icmp_lt (tgt := 315) hx hb dX7_step_263 (by decide) (fun c33 => ?_) (fun c33 => ?_)
              · have c33 : (r23).toInt < (48 : Int) := hq_lti.mp c33
                refine lv_aload_n hx hb dX7_step_315 rfl (lv_at hl 1 rfl) ?_
                refine lv_bipush (v := 22) hx hb dX7_step_316 (by decide) ?_
                refine hp_put hx hb hts hown hZ e16 fp_X7_45 rfl rfl (Nat.le_of_ble_eq_true rfl) dX7_step_318 (fun V34 _ _ e35 o36 hZ => ?_)
                have e35 : V34 (kb + 2) = some (.inr (7, [.int (fk), .int (fp), .ref (kb), .ref (qb), .int (y9), .int (22), .int (st9), .ref (kb + 3)])) := e35
                have hP := hP.put hy2 e35 o36 (trivial) rfl
                have hl37 : (22 : Int32).toInt = 22 := by decide
                obtain ⟨h8, h9⟩ := sp_c_bad (w := w) (p := sp_pos w j) (by omega) (by omega) (by omega) (by omega) (by omega)
                exact hp_vret hx hb hr hlocks hZ ⟨rfl, hP, (fun x8 hne0 => (o36 x8 hne0).trans ((o17 x8 hne0).trans (fr8 x8 hne0))), y9, 22, st9, e35, ⟨by omega, by show _ = sp_S w (sp_pos w j); omega, by show _ = sp_E w (sp_pos w j); omega, by show _ = sp_K w (sp_pos w j); omega⟩⟩ dX7_step_321
              · have c33 : ¬ (r23).toInt < (48 : Int) := fun h9 => c33 (hq_lti.mpr h9)
                refine lv_iload_n hx hb dX7_step_266 rfl (lv_at hl 0 rfl) ?_
                refine lv_bipush (v := 57) hx hb dX7_step_267 (by decide) ?_
                refine lv_icmp_gt (tgt := 315) hx hb dX7_step_269 (by decide) (fun c38 => ?_) (fun c38 => ?_)
                · have c38 : (57 : Int) < (r23).toInt := hq_lti.mp c38
                  refine lv_aload_n hx hb dX7_step_315 rfl (lv_at hl 1 rfl) ?_
                  refine lv_bipush (v := 22) hx hb dX7_step_316 (by decide) ?_
                  refine hp_put hx hb hts hown hZ e16 fp_X7_45 rfl rfl (Nat.le_of_ble_eq_true rfl) dX7_step_318 (fun V39 _ _ e40 o41 hZ => ?_)
                  have e40 : V39 (kb + 2) = some (.inr (7, [.int (fk), .int (fp), .ref (kb), .ref (qb), .int (y9), .int (22), .int (st9), .ref (kb + 3)])) := e40
                  have hP := hP.put hy2 e40 o41 (trivial) rfl
                  have hl42 : (22 : Int32).toInt = 22 := by decide
                  obtain ⟨h8, h9⟩ := sp_c_bad (w := w) (p := sp_pos w j) (by omega) (by omega) (by omega) (by omega) (by omega)
                  exact hp_vret hx hb hr hlocks hZ ⟨rfl, hP, (fun x8 hne0 => (o41 x8 hne0).trans ((o17 x8 hne0).trans (fr8 x8 hne0))), y9, 22, st9, e40, ⟨by omega, by show _ = sp_S w (sp_pos w j); omega, by show _ = sp_E w (sp_pos w j); omega, by show _ = sp_K w (sp_pos w j); omega⟩⟩ dX7_step_321
                · have c38 : ¬ (57 : Int) < (r23).toInt := fun h9 => c38 (hq_lti.mpr h9)
                  refine lv_aload_n hx hb dX7_step_272 rfl (lv_at hl 1 rfl) ?_
                  refine lv_aload_n hx hb dX7_step_273 rfl (lv_at hl 1 rfl) ?_
                  refine lv_aload_n hx hb dX7_step_274 rfl (lv_at hl 1 rfl) ?_
                  refine hp_get (v := .int (st9)) hx hb hts hown hZ e16 fl_X7_174 rfl dX7_step_275 ?_
                  refine lv_bipush (v := 48) hx hb dX7_step_278 (by decide) ?_
                  refine lv_bipush (v := 57) hx hb dX7_step_280 (by decide) ?_
                  have hl43 : (48 : Int32).toInt = 48 := by decide
                  have hl44 : (57 : Int32).toInt = 57 := by decide
                  have pk45 := hp0.keep ((o17 (kb) (hq_tne hy0 hy2 (by simp))).trans (fr8 (kb) (hq_tne hy0 hy2 (by simp)))) ((o17 (kb + 1) (hq_tne hy1 hy2 (by simp))).trans (fr8 (kb + 1) (hq_tne hy1 hy2 (by simp))))
                  refine hp_calli (hp_runV (As := [.int (st9), .int (48), .int (57)]) (rest := [.ref (kb + 2)]) hx hb hml hown hts (x_runEnd l D cs B G V15 n hP.1 (kb) (qb) (w) (st9) (48) (57) (fk) (fp) (y9) (tk) (st9) hy0 hy1 e16 pk45 (by omega) ⟨by decide, by decide⟩ ⟨by decide, by decide⟩) hZ e16 cv_X7_195 rfl rfl ⟨Nat.le_of_ble_eq_true rfl, Nat.le_of_ble_eq_true rfl⟩ rfl hl.1 rfl (Nat.le_of_ble_eq_true rfl) dX7_step_282 ⟨(Nat.le_of_ble_eq_true rfl), (Nat.le_of_ble_eq_true rfl)⟩) hZ (fun r49 V46 n47 _ _ hw48 hZ => ?_)
                  obtain ⟨rfl, rfl, hp52, hp53⟩ := hw48
                  have b54 := hq_rng r49
                  have b55 := hp52 48 57 ((sp_S w (sp_pos w j))) (by decide) (by decide) (by omega)
                  refine hp_put hx hb hts hown hZ e16 fp_X7_39 rfl rfl (Nat.le_of_ble_eq_true rfl) dX7_step_285 (fun V56 _ _ e57 o58 hZ => ?_)
                  have e57 : V56 (kb + 2) = some (.inr (7, [.int (fk), .int (fp), .ref (kb), .ref (qb), .int (r49), .int (tk), .int (st9), .ref (kb + 3)])) := e57
                  have hP := hP.put hy2 e57 o58 (trivial) rfl
                  refine lv_aload_n hx hb dX7_step_288 rfl (lv_at hl 1 rfl) ?_
                  refine lv_aload_n hx hb dX7_step_289 rfl (lv_at hl 1 rfl) ?_
                  refine hp_get (v := .int (r49)) hx hb hts hown hZ e57 fl_X7_39 rfl dX7_step_290 ?_
                  refine lv_aload_n hx hb dX7_step_293 rfl (lv_at hl 1 rfl) ?_
                  refine hp_get (v := .int (st9)) hx hb hts hown hZ e57 fl_X7_174 rfl dX7_step_294 ?_
                  refine lv_isub hx hb dX7_step_297 ?_
                  refine lv_topi (fun y59 ey60 => ?_)
                  obtain ⟨k61, hk62, b63, b64⟩ := hq_sub (r49) (st9)
                  rw [← ey60] at hk62 b63 b64
                  have hk62 : (y59).toInt = (r49).toInt - (st9).toInt + k61 * 4294967296 := hk62
                  obtain rfl : k61 = 0 := by omega
                  refine lv_iconst (v := 1) hx hb dX7_step_298 (by decide) ?_
                  refine lv_icmp_ne (tgt := 307) hx hb dX7_step_299 (by decide) (fun c65 => ?_) (fun c65 => ?_)
                  · have c65 : ¬ (y59).toInt = (1 : Int) := fun h9 => c65 (hq_eqi.mpr h9)
                    refine lv_bipush (v := 22) hx hb dX7_step_307 (by decide) ?_
                    refine hp_put hx hb hts hown hZ e57 fp_X7_45 rfl rfl (Nat.le_of_ble_eq_true rfl) dX7_step_309 (fun V66 _ _ e67 o68 hZ => ?_)
                    have e67 : V66 (kb + 2) = some (.inr (7, [.int (fk), .int (fp), .ref (kb), .ref (qb), .int (r49), .int (22), .int (st9), .ref (kb + 3)])) := e67
                    have hP := hP.put hy2 e67 o68 (trivial) rfl
                    refine lv_goto (tgt := 321) hx hb dX7_step_312 (by decide) ?_
                    have hl69 : (22 : Int32).toInt = 22 := by decide
                    obtain ⟨h8, h9⟩ := sp_c_dig (w := w) (p := sp_pos w j) (by omega) (by omega)
                    rw [if_neg (by omega)] at h9
                    exact hp_vret hx hb hr hlocks hZ ⟨rfl, hP, (fun x8 hne0 => (o68 x8 hne0).trans ((o58 x8 hne0).trans ((o17 x8 hne0).trans (fr8 x8 hne0)))), r49, 22, st9, e67, ⟨by omega, by show _ = sp_S w (sp_pos w j); omega, by show _ = sp_E w (sp_pos w j); omega, by show _ = sp_K w (sp_pos w j); omega⟩⟩ dX7_step_321
                  · have c65 : (y59).toInt = (1 : Int) := hq_eqi.mp c65
                    refine lv_bipush (v := 18) hx hb dX7_step_302 (by decide) ?_
                    refine lv_goto (tgt := 309) hx hb dX7_step_304 (by decide) ?_
                    refine hp_put hx hb hts hown hZ e57 fp_X7_45 rfl rfl (Nat.le_of_ble_eq_true rfl) dX7_step_309 (fun V70 _ _ e71 o72 hZ => ?_)
                    have e71 : V70 (kb + 2) = some (.inr (7, [.int (fk), .int (fp), .ref (kb), .ref (qb), .int (r49), .int (18), .int (st9), .ref (kb + 3)])) := e71
                    have hP := hP.put hy2 e71 o72 (trivial) rfl
                    refine lv_goto (tgt := 321) hx hb dX7_step_312 (by decide) ?_
                    have hl73 : (18 : Int32).toInt = 18 := by decide
                    obtain ⟨h8, h9⟩ := sp_c_dig (w := w) (p := sp_pos w j) (by omega) (by omega)
                    rw [if_pos (by omega)] at h9
                    exact hp_vret hx hb hr hlocks hZ ⟨rfl, hP, (fun x8 hne0 => (o72 x8 hne0).trans ((o58 x8 hne0).trans ((o17 x8 hne0).trans (fr8 x8 hne0)))), r49, 18, st9, e71, ⟨by omega, by show _ = sp_S w (sp_pos w j); omega, by show _ = sp_E w (sp_pos w j); omega, by show _ = sp_K w (sp_pos w j); omega⟩⟩ dX7_step_321
            · have c32 : ¬ (r23).toInt < (97 : Int) := fun h9 => c32 (hq_lti.mpr h9)
              refine lv_iload_n hx hb dX7_step_208 rfl (lv_at hl 0 rfl) ?_
              refine lv_bipush (v := 122) hx hb dX7_step_209 (by decide) ?_
              refine lv_icmp_gt (tgt := 260) hx hb dX7_step_211 (by decide) (fun c74 => ?_) (fun c74 => ?_)
              · have c74 : (122 : Int) < (r23).toInt := hq_lti.mp c74
                refine lv_iload_n hx hb dX7_step_260 rfl (lv_at hl 0 rfl) ?_
                refine lv_bipush (v := 48) hx hb dX7_step_261 (by decide) ?_
                refine lv_icmp_lt (tgt := 315) hx hb dX7_step_263 (by decide) (fun c75 => ?_) (fun c75 => ?_)
                · have c75 : (r23).toInt < (48 : Int) := hq_lti.mp c75
                  refine lv_aload_n hx hb dX7_step_315 rfl (lv_at hl 1 rfl) ?_
                  refine lv_bipush (v := 22) hx hb dX7_step_316 (by decide) ?_
                  refine hp_put hx hb hts hown hZ e16 fp_X7_45 rfl rfl (Nat.le_of_ble_eq_true rfl) dX7_step_318 (fun V76 _ _ e77 o78 hZ => ?_)
                  have e77 : V76 (kb + 2) = some (.inr (7, [.int (fk), .int (fp), .ref (kb), .ref (qb), .int (y9), .int (22), .int (st9), .ref (kb + 3)])) := e77
                  have hP := hP.put hy2 e77 o78 (trivial) rfl
                  have hl79 : (22 : Int32).toInt = 22 := by decide
                  obtain ⟨h8, h9⟩ := sp_c_bad (w := w) (p := sp_pos w j) (by omega) (by omega) (by omega) (by omega) (by omega)
                  exact hp_vret hx hb hr hlocks hZ ⟨rfl, hP, (fun x8 hne0 => (o78 x8 hne0).trans ((o17 x8 hne0).trans (fr8 x8 hne0))), y9, 22, st9, e77, ⟨by omega, by show _ = sp_S w (sp_pos w j); omega, by show _ = sp_E w (sp_pos w j); omega, by show _ = sp_K w (sp_pos w j); omega⟩⟩ dX7_step_321
                · have c75 : ¬ (r23).toInt < (48 : Int) := fun h9 => c75 (hq_lti.mpr h9)
                  refine lv_iload_n hx hb dX7_step_266 rfl (lv_at hl 0 rfl) ?_
                  refine lv_bipush (v := 57) hx hb dX7_step_267 (by decide) ?_
                  refine lv_icmp_gt (tgt := 315) hx hb dX7_step_269 (by decide) (fun c80 => ?_) (fun c80 => ?_)
                  · have c80 : (57 : Int) < (r23).toInt := hq_lti.mp c80
                    refine lv_aload_n hx hb dX7_step_315 rfl (lv_at hl 1 rfl) ?_
                    refine lv_bipush (v := 22) hx hb dX7_step_316 (by decide) ?_
                    refine hp_put hx hb hts hown hZ e16 fp_X7_45 rfl rfl (Nat.le_of_ble_eq_true rfl) dX7_step_318 (fun V81 _ _ e82 o83 hZ => ?_)
                    have e82 : V81 (kb + 2) = some (.inr (7, [.int (fk), .int (fp), .ref (kb), .ref (qb), .int (y9), .int (22), .int (st9), .ref (kb + 3)])) := e82
                    have hP := hP.put hy2 e82 o83 (trivial) rfl
                    have hl84 : (22 : Int32).toInt = 22 := by decide
                    obtain ⟨h8, h9⟩ := sp_c_bad (w := w) (p := sp_pos w j) (by omega) (by omega) (by omega) (by omega) (by omega)
                    exact hp_vret hx hb hr hlocks hZ ⟨rfl, hP, (fun x8 hne0 => (o83 x8 hne0).trans ((o17 x8 hne0).trans (fr8 x8 hne0))), y9, 22, st9, e82, ⟨by omega, by show _ = sp_S w (sp_pos w j); omega, by show _ = sp_E w (sp_pos w j); omega, by show _ = sp_K w (sp_pos w j); omega⟩⟩ dX7_step_321
                  · have c80 : ¬ (57 : Int) < (r23).toInt := fun h9 => c80 (hq_lti.mpr h9)
                    refine lv_aload_n hx hb dX7_step_272 rfl (lv_at hl 1 rfl) ?_
                    refine lv_aload_n hx hb dX7_step_273 rfl (lv_at hl 1 rfl) ?_
                    refine lv_aload_n hx hb dX7_step_274 rfl (lv_at hl 1 rfl) ?_
                    refine hp_get (v := .int (st9)) hx hb hts hown hZ e16 fl_X7_174 rfl dX7_step_275 ?_
                    refine lv_bipush (v := 48) hx hb dX7_step_278 (by decide) ?_
                    refine lv_bipush (v := 57) hx hb dX7_step_280 (by decide) ?_
                    have hl85 : (48 : Int32).toInt = 48 := by decide
                    have hl86 : (57 : Int32).toInt = 57 := by decide
                    have pk87 := hp0.keep ((o17 (kb) (hq_tne hy0 hy2 (by simp))).trans (fr8 (kb) (hq_tne hy0 hy2 (by simp)))) ((o17 (kb + 1) (hq_tne hy1 hy2 (by simp))).trans (fr8 (kb + 1) (hq_tne hy1 hy2 (by simp))))
                    refine hp_calli (hp_runV (As := [.int (st9), .int (48), .int (57)]) (rest := [.ref (kb + 2)]) hx hb hml hown hts (x_runEnd l D cs B G V15 n hP.1 (kb) (qb) (w) (st9) (48) (57) (fk) (fp) (y9) (tk) (st9) hy0 hy1 e16 pk87 (by omega) ⟨by decide, by decide⟩ ⟨by decide, by decide⟩) hZ e16 cv_X7_195 rfl rfl ⟨Nat.le_of_ble_eq_true rfl, Nat.le_of_ble_eq_true rfl⟩ rfl hl.1 rfl (Nat.le_of_ble_eq_true rfl) dX7_step_282 ⟨(Nat.le_of_ble_eq_true rfl), (Nat.le_of_ble_eq_true rfl)⟩) hZ (fun r91 V88 n89 _ _ hw90 hZ => ?_)
                    obtain ⟨rfl, rfl, hp94, hp95⟩ := hw90
                    have b96 := hq_rng r91
                    have b97 := hp94 48 57 ((sp_S w (sp_pos w j))) (by decide) (by decide) (by omega)
                    refine hp_put hx hb hts hown hZ e16 fp_X7_39 rfl rfl (Nat.le_of_ble_eq_true rfl) dX7_step_285 (fun V98 _ _ e99 o100 hZ => ?_)
                    have e99 : V98 (kb + 2) = some (.inr (7, [.int (fk), .int (fp), .ref (kb), .ref (qb), .int (r91), .int (tk), .int (st9), .ref (kb + 3)])) := e99
                    have hP := hP.put hy2 e99 o100 (trivial) rfl
                    refine lv_aload_n hx hb dX7_step_288 rfl (lv_at hl 1 rfl) ?_
                    refine lv_aload_n hx hb dX7_step_289 rfl (lv_at hl 1 rfl) ?_
                    refine hp_get (v := .int (r91)) hx hb hts hown hZ e99 fl_X7_39 rfl dX7_step_290 ?_
                    refine lv_aload_n hx hb dX7_step_293 rfl (lv_at hl 1 rfl) ?_
                    refine hp_get (v := .int (st9)) hx hb hts hown hZ e99 fl_X7_174 rfl dX7_step_294 ?_
                    refine lv_isub hx hb dX7_step_297 ?_
                    refine lv_topi (fun y101 ey102 => ?_)
                    obtain ⟨k103, hk104, b105, b106⟩ := hq_sub (r91) (st9)
                    rw [← ey102] at hk104 b105 b106
                    have hk104 : (y101).toInt = (r91).toInt - (st9).toInt + k103 * 4294967296 := hk104
                    obtain rfl : k103 = 0 := by omega
                    refine lv_iconst (v := 1) hx hb dX7_step_298 (by decide) ?_
                    refine lv_icmp_ne (tgt := 307) hx hb dX7_step_299 (by decide) (fun c107 => ?_) (fun c107 => ?_)
                    · have c107 : ¬ (y101).toInt = (1 : Int) := fun h9 => c107 (hq_eqi.mpr h9)
                      refine lv_bipush (v := 22) hx hb dX7_step_307 (by decide) ?_
                      refine hp_put hx hb hts hown hZ e99 fp_X7_45 rfl rfl (Nat.le_of_ble_eq_true rfl) dX7_step_309 (fun V108 _ _ e109 o110 hZ => ?_)
                      have e109 : V108 (kb + 2) = some (.inr (7, [.int (fk), .int (fp), .ref (kb), .ref (qb), .int (r91), .int (22), .int (st9), .ref (kb + 3)])) := e109
                      have hP := hP.put hy2 e109 o110 (trivial) rfl
                      refine lv_goto (tgt := 321) hx hb dX7_step_312 (by decide) ?_
                      have hl111 : (22 : Int32).toInt = 22 := by decide
                      obtain ⟨h8, h9⟩ := sp_c_dig (w := w) (p := sp_pos w j) (by omega) (by omega)
                      rw [if_neg (by omega)] at h9
                      exact hp_vret hx hb hr hlocks hZ ⟨rfl, hP, (fun x8 hne0 => (o110 x8 hne0).trans ((o100 x8 hne0).trans ((o17 x8 hne0).trans (fr8 x8 hne0)))), r91, 22, st9, e109, ⟨by omega, by show _ = sp_S w (sp_pos w j); omega, by show _ = sp_E w (sp_pos w j); omega, by show _ = sp_K w (sp_pos w j); omega⟩⟩ dX7_step_321
                    · have c107 : (y101).toInt = (1 : Int) := hq_eqi.mp c107
                      refine lv_bipush (v := 18) hx hb dX7_step_302 (by decide) ?_
                      refine lv_goto (tgt := 309) hx hb dX7_step_304 (by decide) ?_
                      refine hp_put hx hb hts hown hZ e99 fp_X7_45 rfl rfl (Nat.le_of_ble_eq_true rfl) dX7_step_309 (fun V112 _ _ e113 o114 hZ => ?_)
                      have e113 : V112 (kb + 2) = some (.inr (7, [.int (fk), .int (fp), .ref (kb), .ref (qb), .int (r91), .int (18), .int (st9), .ref (kb + 3)])) := e113
                      have hP := hP.put hy2 e113 o114 (trivial) rfl
                      refine lv_goto (tgt := 321) hx hb dX7_step_312 (by decide) ?_
                      have hl115 : (18 : Int32).toInt = 18 := by decide
                      obtain ⟨h8, h9⟩ := sp_c_dig (w := w) (p := sp_pos w j) (by omega) (by omega)
                      rw [if_pos (by omega)] at h9
                      exact hp_vret hx hb hr hlocks hZ ⟨rfl, hP, (fun x8 hne0 => (o114 x8 hne0).trans ((o100 x8 hne0).trans ((o17 x8 hne0).trans (fr8 x8 hne0)))), r91, 18, st9, e113, ⟨by omega, by show _ = sp_S w (sp_pos w j); omega, by show _ = sp_E w (sp_pos w j); omega, by show _ = sp_K w (sp_pos w j); omega⟩⟩ dX7_step_321
              · have c74 : ¬ (122 : Int) < (r23).toInt := fun h9 => c74 (hq_lti.mpr h9)
                refine lv_aload_n hx hb dX7_step_214 rfl (lv_at hl 1 rfl) ?_
                refine lv_aload_n hx hb dX7_step_215 rfl (lv_at hl 1 rfl) ?_
                refine lv_aload_n hx hb dX7_step_216 rfl (lv_at hl 1 rfl) ?_
                refine hp_get (v := .int (st9)) hx hb hts hown hZ e16 fl_X7_174 rfl dX7_step_217 ?_
                refine lv_bipush (v := 97) hx hb dX7_step_220 (by decide) ?_
                refine lv_bipush (v := 122) hx hb dX7_step_222 (by decide) ?_
                have hl116 : (97 : Int32).toInt = 97 := by decide
                have hl117 : (122 : Int32).toInt = 122 := by decide
                have pk118 := hp0.keep ((o17 (kb) (hq_tne hy0 hy2 (by simp))).trans (fr8 (kb) (hq_tne hy0 hy2 (by simp)))) ((o17 (kb + 1) (hq_tne hy1 hy2 (by simp))).trans (fr8 (kb + 1) (hq_tne hy1 hy2 (by simp))))
                refine hp_calli (hp_runV (As := [.int (st9), .int (97), .int (122)]) (rest := [.ref (kb + 2)]) hx hb hml hown hts (x_runEnd l D cs B G V15 n hP.1 (kb) (qb) (w) (st9) (97) (122) (fk) (fp) (y9) (tk) (st9) hy0 hy1 e16 pk118 (by omega) ⟨by decide, by decide⟩ ⟨by decide, by decide⟩) hZ e16 cv_X7_195 rfl rfl ⟨Nat.le_of_ble_eq_true rfl, Nat.le_of_ble_eq_true rfl⟩ rfl hl.1 rfl (Nat.le_of_ble_eq_true rfl) dX7_step_224 ⟨(Nat.le_of_ble_eq_true rfl), (Nat.le_of_ble_eq_true rfl)⟩) hZ (fun r122 V119 n120 _ _ hw121 hZ => ?_)
                obtain ⟨rfl, rfl, hp125, hp126⟩ := hw121
                have b127 := hq_rng r122
                have b128 := hp125 97 122 ((sp_S w (sp_pos w j))) (by decide) (by decide) (by omega)
                refine hp_put hx hb hts hown hZ e16 fp_X7_39 rfl rfl (Nat.le_of_ble_eq_true rfl) dX7_step_227 (fun V129 _ _ e130 o131 hZ => ?_)
                have e130 : V129 (kb + 2) = some (.inr (7, [.int (fk), .int (fp), .ref (kb), .ref (qb), .int (r122), .int (tk), .int (st9), .ref (kb + 3)])) := e130
                have hP := hP.put hy2 e130 o131 (trivial) rfl
                refine lv_aload_n hx hb dX7_step_230 rfl (lv_at hl 1 rfl) ?_
                refine lv_aload_n hx hb dX7_step_231 rfl (lv_at hl 1 rfl) ?_
                refine hp_get (v := .int (r122)) hx hb hts hown hZ e130 fl_X7_39 rfl dX7_step_232 ?_
                refine lv_aload_n hx hb dX7_step_235 rfl (lv_at hl 1 rfl) ?_
                refine hp_get (v := .int (st9)) hx hb hts hown hZ e130 fl_X7_174 rfl dX7_step_236 ?_
                refine lv_isub hx hb dX7_step_239 ?_
                refine lv_topi (fun y132 ey133 => ?_)
                obtain ⟨k134, hk135, b136, b137⟩ := hq_sub (r122) (st9)
                rw [← ey133] at hk135 b136 b137
                have hk135 : (y132).toInt = (r122).toInt - (st9).toInt + k134 * 4294967296 := hk135
                obtain rfl : k134 = 0 := by omega
                refine lv_bipush (v := 12) hx hb dX7_step_240 (by decide) ?_
                refine lv_icmp_gt (tgt := 252) hx hb dX7_step_242 (by decide) (fun c138 => ?_) (fun c138 => ?_)
                · have c138 : (12 : Int) < (y132).toInt := hq_lti.mp c138
                  refine lv_bipush (v := 22) hx hb dX7_step_252 (by decide) ?_
                  refine hp_put hx hb hts hown hZ e130 fp_X7_45 rfl rfl (Nat.le_of_ble_eq_true rfl) dX7_step_254 (fun V139 _ _ e140 o141 hZ => ?_)
                  have e140 : V139 (kb + 2) = some (.inr (7, [.int (fk), .int (fp), .ref (kb), .ref (qb), .int (r122), .int (22), .int (st9), .ref (kb + 3)])) := e140
                  have hP := hP.put hy2 e140 o141 (trivial) rfl
                  refine lv_goto (tgt := 321) hx hb dX7_step_257 (by decide) ?_
                  have hl142 : (22 : Int32).toInt = 22 := by decide
                  obtain ⟨h8, h9⟩ := sp_c_word (w := w) (p := sp_pos w j) (by omega) (by omega)
                  rw [if_neg (by omega)] at h9
                  exact hp_vret hx hb hr hlocks hZ ⟨rfl, hP, (fun x8 hne0 => (o141 x8 hne0).trans ((o131 x8 hne0).trans ((o17 x8 hne0).trans (fr8 x8 hne0)))), r122, 22, st9, e140, ⟨by omega, by show _ = sp_S w (sp_pos w j); omega, by show _ = sp_E w (sp_pos w j); omega, by show _ = sp_K w (sp_pos w j); omega⟩⟩ dX7_step_321
                · have c138 : ¬ (12 : Int) < (y132).toInt := fun h9 => c138 (hq_lti.mpr h9)
                  refine lv_aload_n hx hb dX7_step_245 rfl (lv_at hl 1 rfl) ?_
                  have pk143 := pk118.keep (o131 (kb) (hq_tne hy0 hy2 (by simp))) (o131 (kb + 1) (hq_tne hy1 hy2 (by simp)))
                  refine hp_calli (hp_runV (As := []) (rest := [.ref (kb + 2)]) hx hb hml hown hts (x_wordNumber l D cs B G V129 n hP.1 (kb) (qb) (w) (fk) (fp) (r122) (tk) (st9) hy0 hy1 e130 pk143 (by omega)) hZ e130 cv_X7_199 rfl rfl ⟨Nat.le_of_ble_eq_true rfl, Nat.le_of_ble_eq_true rfl⟩ rfl hl.1 rfl (Nat.le_of_ble_eq_true rfl) dX7_step_246 ⟨(Nat.le_of_ble_eq_true rfl), (Nat.le_of_ble_eq_true rfl)⟩) hZ (fun r147 V144 n145 _ _ hw146 hZ => ?_)
                  obtain ⟨rfl, rfl, hp150⟩ := hw146
                  have b151 := hq_rng r147
                  have b152 := hp150 (sp_S w (sp_pos w j)) (sp_run (sp_rg w.1 97 122) w.2 ((sp_S w (sp_pos w j)))) (by omega) (by omega)
                  refine lv_goto (tgt := 254) hx hb dX7_step_249 (by decide) ?_
                  refine hp_put hx hb hts hown hZ e130 fp_X7_45 rfl rfl (Nat.le_of_ble_eq_true rfl) dX7_step_254 (fun V153 _ _ e154 o155 hZ => ?_)
                  have e154 : V153 (kb + 2) = some (.inr (7, [.int (fk), .int (fp), .ref (kb), .ref (qb), .int (r122), .int (r147), .int (st9), .ref (kb + 3)])) := e154
                  have hP := hP.put hy2 e154 o155 (trivial) rfl
                  refine lv_goto (tgt := 321) hx hb dX7_step_257 (by decide) ?_
                  obtain ⟨h8, h9⟩ := sp_c_word (w := w) (p := sp_pos w j) (by omega) (by omega)
                  rw [if_pos (by omega)] at h9
                  exact hp_vret hx hb hr hlocks hZ ⟨rfl, hP, (fun x8 hne0 => (o155 x8 hne0).trans ((o131 x8 hne0).trans ((o17 x8 hne0).trans (fr8 x8 hne0)))), r122, r147, st9, e154, ⟨by omega, by show _ = sp_S w (sp_pos w j); omega, by show _ = sp_E w (sp_pos w j); omega, by show _ = sp_K w (sp_pos w j); omega⟩⟩ dX7_step_321
          · have c31 : (r23).toInt = (39 : Int) := hq_eqi.mp c31
            refine lv_aload_n hx hb dX7_step_124 rfl (lv_at hl 1 rfl) ?_
            refine lv_aload_n hx hb dX7_step_125 rfl (lv_at hl 1 rfl) ?_
            refine lv_aload_n hx hb dX7_step_126 rfl (lv_at hl 1 rfl) ?_
            refine hp_get (v := .int (st9)) hx hb hts hown hZ e16 fl_X7_174 rfl dX7_step_127 ?_
            refine lv_iconst (v := 1) hx hb dX7_step_130 (by decide) ?_
            refine lv_iadd hx hb dX7_step_131 ?_
            refine lv_topi (fun y156 ey157 => ?_)
            obtain ⟨k158, hk159, b160, b161⟩ := hq_add (st9) (1)
            rw [← ey157] at hk159 b160 b161
            have hk159 : (y156).toInt = (st9).toInt + (1 : Int) + k158 * 4294967296 := hk159
            obtain rfl : k158 = 0 := by omega
            refine lv_bipush (v := 97) hx hb dX7_step_132 (by decide) ?_
            refine lv_bipush (v := 122) hx hb dX7_step_134 (by decide) ?_
            have hl162 : (97 : Int32).toInt = 97 := by decide
            have hl163 : (122 : Int32).toInt = 122 := by decide
            have pk164 := hp0.keep ((o17 (kb) (hq_tne hy0 hy2 (by simp))).trans (fr8 (kb) (hq_tne hy0 hy2 (by simp)))) ((o17 (kb + 1) (hq_tne hy1 hy2 (by simp))).trans (fr8 (kb + 1) (hq_tne hy1 hy2 (by simp))))
            refine hp_calli (hp_runV (As := [.int (y156), .int (97), .int (122)]) (rest := [.ref (kb + 2)]) hx hb hml hown hts (x_runEnd l D cs B G V15 n hP.1 (kb) (qb) (w) (y156) (97) (122) (fk) (fp) (y9) (tk) (st9) hy0 hy1 e16 pk164 (by omega) ⟨by decide, by decide⟩ ⟨by decide, by decide⟩) hZ e16 cv_X7_195 rfl rfl ⟨Nat.le_of_ble_eq_true rfl, Nat.le_of_ble_eq_true rfl⟩ rfl hl.1 rfl (Nat.le_of_ble_eq_true rfl) dX7_step_136 ⟨(Nat.le_of_ble_eq_true rfl), (Nat.le_of_ble_eq_true rfl)⟩) hZ (fun r168 V165 n166 _ _ hw167 hZ => ?_)
            obtain ⟨rfl, rfl, hp171, hp172⟩ := hw167
            have b173 := hq_rng r168
            have b174 := hp171 97 122 ((sp_S w (sp_pos w j)) + 1) (by decide) (by decide) (by omega)
            refine lv_iconst (v := 1) hx hb dX7_step_139 (by decide) ?_
            refine lv_iadd hx hb dX7_step_140 ?_
            refine lv_topi (fun y175 ey176 => ?_)
            obtain ⟨k177, hk178, b179, b180⟩ := hq_add (r168) (1)
            rw [← ey176] at hk178 b179 b180
            have hk178 : (y175).toInt = (r168).toInt + (1 : Int) + k177 * 4294967296 := hk178
            obtain rfl : k177 = 0 := by omega
            refine hp_put hx hb hts hown hZ e16 fp_X7_39 rfl rfl (Nat.le_of_ble_eq_true rfl) dX7_step_141 (fun V181 _ _ e182 o183 hZ => ?_)
            have e182 : V181 (kb + 2) = some (.inr (7, [.int (fk), .int (fp), .ref (kb), .ref (qb), .int (y175), .int (tk), .int (st9), .ref (kb + 3)])) := e182
            have hP := hP.put hy2 e182 o183 (trivial) rfl
            refine lv_aload_n hx hb dX7_step_144 rfl (lv_at hl 1 rfl) ?_
            refine hp_get (v := .ref (kb)) hx hb hts hown hZ e182 fl_X7_27 rfl dX7_step_145 ?_
            refine lv_aload_n hx hb dX7_step_148 rfl (lv_at hl 1 rfl) ?_
            refine hp_get (v := .int (y175)) hx hb hts hown hZ e182 fl_X7_39 rfl dX7_step_149 ?_
            refine lv_iconst (v := 1) hx hb dX7_step_152 (by decide) ?_
            refine lv_isub hx hb dX7_step_153 ?_
            refine lv_topi (fun y184 ey185 => ?_)
            obtain ⟨k186, hk187, b188, b189⟩ := hq_sub (y175) (1)
            rw [← ey185] at hk187 b188 b189
            have hk187 : (y184).toInt = (y175).toInt - (1 : Int) + k186 * 4294967296 := hk187
            obtain rfl : k186 = 0 := by omega
            have fx190 : V181 (kb) = some (.inr (9, [.ref (kb + 1), .int (tz)])) := (o183 (kb) (hq_tne hy0 hy2 (by simp))).trans (fx18)
            have fx191 : V181 (kb + 1) = some (.inl (cs 0, 4000, .inl (tg))) := (o183 (kb + 1) (hq_tne hy1 hy2 (by simp))).trans (fx19)
            refine hp_calli (hp_runV (As := [.int (y184)]) (rest := []) hx hb hml hown hts (x_at l D cs B G V181 n hP.1 (kb) (4000) (y184) (tz) (tg)  fx190 fx191  (by omega) hfit) hZ fx190 cv_X7_182 rfl rfl ⟨Nat.le_of_ble_eq_true rfl, Nat.le_of_ble_eq_true rfl⟩ rfl hl.1 rfl (Nat.le_of_ble_eq_true rfl) dX7_step_154 ⟨(Nat.le_of_ble_eq_true rfl), (Nat.le_of_ble_eq_true rfl)⟩) hZ (fun r195 V192 n193 _ _ hw194 hZ => ?_)
            obtain ⟨rfl, rfl, hp198⟩ := hw194
            have b199 := hq_rng r195
            have b200 := hx_atw hz3 hz1 hp198
            have b201 : w.1 (sp_run (sp_rg w.1 97 122) w.2 ((sp_S w (sp_pos w j)) + 1)) = w.1 (y184).toInt := by rw [show sp_run (sp_rg w.1 97 122) w.2 ((sp_S w (sp_pos w j)) + 1) = (y184).toInt by omega]
            refine lv_bipush (v := 39) hx hb dX7_step_157 (by decide) ?_
            refine lv_icmp_ne (tgt := 166) hx hb dX7_step_159 (by decide) (fun c202 => ?_) (fun c202 => ?_)
            · have c202 : ¬ (r195).toInt = (39 : Int) := fun h9 => c202 (hq_eqi.mpr h9)
              refine lv_iconst (v := 0) hx hb dX7_step_166 (by decide) ?_
              refine lv_istore_n (lv' := [(2, .int (0)), (1, .int (r23)), (0, .ref (kb + 2))]) hx hb dX7_step_167 rfl hl (by decide) rfl (fun ls hl => ?_)
              refine lv_aload_n hx hb dX7_step_168 rfl (lv_at hl 2 rfl) ?_
              refine lv_iload_n hx hb dX7_step_169 rfl (lv_at hl 0 rfl) ?_
              refine lv_if_eq (tgt := 194) hx hb dX7_step_170 (by decide) (fun c203 => ?_) (fun c203 => absurd (by decide) c203)
              refine lv_bipush (v := 22) hx hb dX7_step_194 (by decide) ?_
              refine hp_put hx hb hts hown hZ e182 fp_X7_45 rfl rfl (Nat.le_of_ble_eq_true rfl) dX7_step_196 (fun V204 _ _ e205 o206 hZ => ?_)
              have e205 : V204 (kb + 2) = some (.inr (7, [.int (fk), .int (fp), .ref (kb), .ref (qb), .int (y175), .int (22), .int (st9), .ref (kb + 3)])) := e205
              have hP := hP.put hy2 e205 o206 (trivial) rfl
              refine lv_goto (tgt := 321) hx hb dX7_step_199 (by decide) ?_
              have hl207 : (22 : Int32).toInt = 22 := by decide
              obtain ⟨h8, h9⟩ := sp_c_quote (w := w) (p := sp_pos w j) (by omega) (by omega)
              rw [if_neg (by omega)] at h9
              exact hp_vret hx hb hr hlocks hZ ⟨rfl, hP, (fun x8 hne0 => (o206 x8 hne0).trans ((o183 x8 hne0).trans ((o17 x8 hne0).trans (fr8 x8 hne0)))), y175, 22, st9, e205, ⟨by omega, by show _ = sp_S w (sp_pos w j); omega, by show _ = sp_E w (sp_pos w j); omega, by show _ = sp_K w (sp_pos w j); omega⟩⟩ dX7_step_321
            · have c202 : (r195).toInt = (39 : Int) := hq_eqi.mp c202
              refine lv_iconst (v := 1) hx hb dX7_step_162 (by decide) ?_
              refine lv_goto (tgt := 167) hx hb dX7_step_163 (by decide) ?_
              refine lv_istore_n (lv' := [(2, .int (1)), (1, .int (r23)), (0, .ref (kb + 2))]) hx hb dX7_step_167 rfl hl (by decide) rfl (fun ls hl => ?_)
              refine lv_aload_n hx hb dX7_step_168 rfl (lv_at hl 2 rfl) ?_
              refine lv_iload_n hx hb dX7_step_169 rfl (lv_at hl 0 rfl) ?_
              refine lv_if_eq (tgt := 194) hx hb dX7_step_170 (by decide) (fun c208 => absurd c208 (by decide)) (fun c208 => ?_)
              refine lv_aload_n hx hb dX7_step_173 rfl (lv_at hl 2 rfl) ?_
              refine hp_get (v := .int (y175)) hx hb hts hown hZ e182 fl_X7_39 rfl dX7_step_174 ?_
              refine lv_aload_n hx hb dX7_step_177 rfl (lv_at hl 2 rfl) ?_
              refine hp_get (v := .int (st9)) hx hb hts hown hZ e182 fl_X7_174 rfl dX7_step_178 ?_
              refine lv_isub hx hb dX7_step_181 ?_
              refine lv_topi (fun y209 ey210 => ?_)
              obtain ⟨k211, hk212, b213, b214⟩ := hq_sub (y175) (st9)
              rw [← ey210] at hk212 b213 b214
              have hk212 : (y209).toInt = (y175).toInt - (st9).toInt + k211 * 4294967296 := hk212
              obtain rfl : k211 = 0 := by omega
              refine lv_iconst (v := 2) hx hb dX7_step_182 (by decide) ?_
              refine lv_isub hx hb dX7_step_183 ?_
              refine lv_topi (fun y215 ey216 => ?_)
              obtain ⟨k217, hk218, b219, b220⟩ := hq_sub (y209) (2)
              rw [← ey216] at hk218 b219 b220
              have hk218 : (y215).toInt = (y209).toInt - (2 : Int) + k217 * 4294967296 := hk218
              obtain rfl : k217 = 0 := by omega
              refine lv_bipush (v := 8) hx hb dX7_step_184 (by decide) ?_
              refine lv_icmp_gt (tgt := 194) hx hb dX7_step_186 (by decide) (fun c221 => ?_) (fun c221 => ?_)
              · have c221 : (8 : Int) < (y215).toInt := hq_lti.mp c221
                refine lv_bipush (v := 22) hx hb dX7_step_194 (by decide) ?_
                refine hp_put hx hb hts hown hZ e182 fp_X7_45 rfl rfl (Nat.le_of_ble_eq_true rfl) dX7_step_196 (fun V222 _ _ e223 o224 hZ => ?_)
                have e223 : V222 (kb + 2) = some (.inr (7, [.int (fk), .int (fp), .ref (kb), .ref (qb), .int (y175), .int (22), .int (st9), .ref (kb + 3)])) := e223
                have hP := hP.put hy2 e223 o224 (trivial) rfl
                refine lv_goto (tgt := 321) hx hb dX7_step_199 (by decide) ?_
                have hl225 : (22 : Int32).toInt = 22 := by decide
                obtain ⟨h8, h9⟩ := sp_c_quote (w := w) (p := sp_pos w j) (by omega) (by omega)
                rw [if_neg (by omega)] at h9
                exact hp_vret hx hb hr hlocks hZ ⟨rfl, hP, (fun x8 hne0 => (o224 x8 hne0).trans ((o183 x8 hne0).trans ((o17 x8 hne0).trans (fr8 x8 hne0)))), y175, 22, st9, e223, ⟨by omega, by show _ = sp_S w (sp_pos w j); omega, by show _ = sp_E w (sp_pos w j); omega, by show _ = sp_K w (sp_pos w j); omega⟩⟩ dX7_step_321
              · have c221 : ¬ (8 : Int) < (y215).toInt := fun h9 => c221 (hq_lti.mpr h9)
                refine lv_bipush (v := 19) hx hb dX7_step_189 (by decide) ?_
                refine lv_goto (tgt := 196) hx hb dX7_step_191 (by decide) ?_
                refine hp_put hx hb hts hown hZ e182 fp_X7_45 rfl rfl (Nat.le_of_ble_eq_true rfl) dX7_step_196 (fun V226 _ _ e227 o228 hZ => ?_)
                have e227 : V226 (kb + 2) = some (.inr (7, [.int (fk), .int (fp), .ref (kb), .ref (qb), .int (y175), .int (19), .int (st9), .ref (kb + 3)])) := e227
                have hP := hP.put hy2 e227 o228 (trivial) rfl
                refine lv_goto (tgt := 321) hx hb dX7_step_199 (by decide) ?_
                have hl229 : (19 : Int32).toInt = 19 := by decide
                obtain ⟨h8, h9⟩ := sp_c_quote (w := w) (p := sp_pos w j) (by omega) (by omega)
                rw [if_pos (by omega)] at h9
                exact hp_vret hx hb hr hlocks hZ ⟨rfl, hP, (fun x8 hne0 => (o228 x8 hne0).trans ((o183 x8 hne0).trans ((o17 x8 hne0).trans (fr8 x8 hne0)))), y175, 19, st9, e227, ⟨by omega, by show _ = sp_S w (sp_pos w j); omega, by show _ = sp_E w (sp_pos w j); omega, by show _ = sp_K w (sp_pos w j); omega⟩⟩ dX7_step_321
        · have c30 : (r23).toInt = (59 : Int) := hq_eqi.mp c30
          refine lv_aload_n hx hb dX7_step_109 rfl (lv_at hl 1 rfl) ?_
          refine lv_bipush (v := 20) hx hb dX7_step_110 (by decide) ?_
          refine hp_put hx hb hts hown hZ e16 fp_X7_45 rfl rfl (Nat.le_of_ble_eq_true rfl) dX7_step_112 (fun V230 _ _ e231 o232 hZ => ?_)
          have e231 : V230 (kb + 2) = some (.inr (7, [.int (fk), .int (fp), .ref (kb), .ref (qb), .int (y9), .int (20), .int (st9), .ref (kb + 3)])) := e231
          have hP := hP.put hy2 e231 o232 (trivial) rfl
          refine lv_goto (tgt := 321) hx hb dX7_step_115 (by decide) ?_
          have hl233 : (20 : Int32).toInt = 20 := by decide
          obtain ⟨h8, h9⟩ := sp_c_semi (w := w) (p := sp_pos w j) (by omega) (by omega)
          exact hp_vret hx hb hr hlocks hZ ⟨rfl, hP, (fun x8 hne0 => (o232 x8 hne0).trans ((o17 x8 hne0).trans (fr8 x8 hne0))), y9, 20, st9, e231, ⟨by omega, by show _ = sp_S w (sp_pos w j); omega, by show _ = sp_E w (sp_pos w j); omega, by show _ = sp_K w (sp_pos w j); omega⟩⟩ dX7_step_321
      · have c29 : (r23).toInt = (-1 : Int) := hq_eqi.mp c29
        refine lv_aload_n hx hb dX7_step_94 rfl (lv_at hl 1 rfl) ?_
        refine lv_bipush (v := 21) hx hb dX7_step_95 (by decide) ?_
        refine hp_put hx hb hts hown hZ e16 fp_X7_45 rfl rfl (Nat.le_of_ble_eq_true rfl) dX7_step_97 (fun V234 _ _ e235 o236 hZ => ?_)
        have e235 : V234 (kb + 2) = some (.inr (7, [.int (fk), .int (fp), .ref (kb), .ref (qb), .int (y9), .int (21), .int (st9), .ref (kb + 3)])) := e235
        have hP := hP.put hy2 e235 o236 (trivial) rfl
        refine lv_goto (tgt := 321) hx hb dX7_step_100 (by decide) ?_
        have hl237 : (21 : Int32).toInt = 21 := by decide
        obtain ⟨h8, h9⟩ := sp_c_end (w := w) (p := sp_pos w j) (by omega)
        exact hp_vret hx hb hr hlocks hZ ⟨rfl, hP, (fun x8 hne0 => (o236 x8 hne0).trans ((o17 x8 hne0).trans (fr8 x8 hne0))), y9, 21, st9, e235, ⟨by omega, by show _ = sp_S w (sp_pos w j); omega, by show _ = sp_E w (sp_pos w j); omega, by show _ = sp_K w (sp_pos w j); omega⟩⟩ dX7_step_321
    · have c8 : ¬ (tz).toInt ≤ (st9).toInt := fun h9 => c8 (hq_lei.mpr h9)
      refine lv_aload_n hx hb dX7_step_22 rfl (lv_at hl 0 rfl) ?_
      refine hp_get (v := .ref (kb)) hx hb hts hown hZ ho4 fl_X7_27 rfl dX7_step_23 ?_
      refine lv_aload_n hx hb dX7_step_26 rfl (lv_at hl 0 rfl) ?_
      refine hp_get (v := .int (st9)) hx hb hts hown hZ ho4 fl_X7_174 rfl dX7_step_27 ?_
      have fx238 : V9 (kb + 1) = some (.inl (cs 0, 4000, .inl (tg))) := (fr8 (kb + 1) (hq_tne hy1 hy2 (by simp))).trans (htg)
      refine hp_calli (hp_runV (As := [.int (st9)]) (rest := []) hx hb hml hown hts (x_at l D cs B G V9 n hP.1 (kb) (4000) (st9) (tz) (tg)  fx7 fx238  (by omega) hfit) hZ fx7 cv_X7_182 rfl rfl ⟨Nat.le_of_ble_eq_true rfl, Nat.le_of_ble_eq_true rfl⟩ rfl hl.1 rfl (Nat.le_of_ble_eq_true rfl) dX7_step_30 ⟨(Nat.le_of_ble_eq_true rfl), (Nat.le_of_ble_eq_true rfl)⟩) hZ (fun r242 V239 n240 _ _ hw241 hZ => ?_)
      obtain ⟨rfl, rfl, hp245⟩ := hw241
      have b246 := hq_rng r242
      have b247 := hx_atw hz3 hz1 hp245
      refine lv_bipush (v := 32) hx hb dX7_step_33 (by decide) ?_
      refine lv_icmp_eq (tgt := 54) hx hb dX7_step_35 (by decide) (fun c248 => ?_) (fun c248 => ?_)
      · have c248 : (r242).toInt = (32 : Int) := hq_eqi.mp c248
        refine lv_aload_n hx hb dX7_step_54 rfl (lv_at hl 0 rfl) ?_
        refine lv_dup hx hb dX7_step_55 rfl ?_
        refine hp_get (v := .int (st9)) hx hb hts hown hZ ho4 fl_X7_174 rfl dX7_step_56 ?_
        refine lv_iconst (v := 1) hx hb dX7_step_59 (by decide) ?_
        refine lv_iadd hx hb dX7_step_60 ?_
        refine lv_topi (fun y249 ey250 => ?_)
        obtain ⟨k251, hk252, b253, b254⟩ := hq_add (st9) (1)
        rw [← ey250] at hk252 b253 b254
        have hk252 : (y249).toInt = (st9).toInt + (1 : Int) + k251 * 4294967296 := hk252
        obtain rfl : k251 = 0 := by omega
        refine hp_put hx hb hts hown hZ ho4 fp_X7_174 rfl rfl (Nat.le_of_ble_eq_true rfl) dX7_step_61 (fun V255 _ _ e256 o257 hZ => ?_)
        have e256 : V255 (kb + 2) = some (.inr (7, [.int (fk), .int (fp), .ref (kb), .ref (qb), .int (nx), .int (tk), .int (y249), .ref (kb + 3)])) := e256
        have hP := hP.put hy2 e256 o257 (trivial) rfl
        refine lv_goto (tgt := 8) hx hb dX7_step_64 (by decide) ?_
        exact ih8 _ (by omega) _ _ _ ls  (y249) rfl hZ hP e256 (fun x8 hne0 => (o257 x8 hne0).trans (fr8 x8 hne0)) (by omega) (by omega) (by rw [← hrun, sp_run_step (i := st9.toInt) (by omega) (sp_ws_t (by omega)), show (y249).toInt = st9.toInt + 1 by omega]) (lv_sub hl [0] rfl)
      · have c248 : ¬ (r242).toInt = (32 : Int) := fun h9 => c248 (hq_eqi.mpr h9)
        refine lv_aload_n hx hb dX7_step_38 rfl (lv_at hl 0 rfl) ?_
        refine hp_get (v := .ref (kb)) hx hb hts hown hZ ho4 fl_X7_27 rfl dX7_step_39 ?_
        refine lv_aload_n hx hb dX7_step_42 rfl (lv_at hl 0 rfl) ?_
        refine hp_get (v := .int (st9)) hx hb hts hown hZ ho4 fl_X7_174 rfl dX7_step_43 ?_
        refine hp_calli (hp_runV (As := [.int (st9)]) (rest := []) hx hb hml hown hts (x_at l D cs B G V9 n hP.1 (kb) (4000) (st9) (tz) (tg)  fx7 fx238  (by omega) hfit) hZ fx7 cv_X7_182 rfl rfl ⟨Nat.le_of_ble_eq_true rfl, Nat.le_of_ble_eq_true rfl⟩ rfl hl.1 rfl (Nat.le_of_ble_eq_true rfl) dX7_step_46 ⟨(Nat.le_of_ble_eq_true rfl), (Nat.le_of_ble_eq_true rfl)⟩) hZ (fun r261 V258 n259 _ _ hw260 hZ => ?_)
        obtain ⟨rfl, rfl, hp264⟩ := hw260
        have b265 := hq_rng r261
        have b266 := hx_atw hz3 hz1 hp264
        refine lv_bipush (v := 10) hx hb dX7_step_49 (by decide) ?_
        refine lv_icmp_ne (tgt := 67) hx hb dX7_step_51 (by decide) (fun c267 => ?_) (fun c267 => ?_)
        · have c267 : ¬ (r261).toInt = (10 : Int) := fun h9 => c267 (hq_eqi.mpr h9)
          have hS : sp_S w (sp_pos w j) = st9.toInt := hrun.symm.trans (sp_run_stop (sp_ws_f (by omega)))
          have hbS : w.1 (sp_S w (sp_pos w j)) = w.1 st9.toInt := by rw [hS]
          have hS2 := sp_S_ge w (sp_pos w j)
          refine lv_aload_n hx hb dX7_step_67 rfl (lv_at hl 0 rfl) ?_
          refine lv_aload_n hx hb dX7_step_68 rfl (lv_at hl 0 rfl) ?_
          refine hp_get (v := .int (st9)) hx hb hts hown hZ ho4 fl_X7_174 rfl dX7_step_69 ?_
          refine lv_iconst (v := 1) hx hb dX7_step_72 (by decide) ?_
          refine lv_iadd hx hb dX7_step_73 ?_
          refine lv_topi (fun y268 ey269 => ?_)
          obtain ⟨k270, hk271, b272, b273⟩ := hq_add (st9) (1)
          rw [← ey269] at hk271 b272 b273
          have hk271 : (y268).toInt = (st9).toInt + (1 : Int) + k270 * 4294967296 := hk271
          obtain rfl : k270 = 0 := by omega
          refine hp_put hx hb hts hown hZ ho4 fp_X7_39 rfl rfl (Nat.le_of_ble_eq_true rfl) dX7_step_74 (fun V274 _ _ e275 o276 hZ => ?_)
          have e275 : V274 (kb + 2) = some (.inr (7, [.int (fk), .int (fp), .ref (kb), .ref (qb), .int (y268), .int (tk), .int (st9), .ref (kb + 3)])) := e275
          have hP := hP.put hy2 e275 o276 (trivial) rfl
          refine lv_aload_n hx hb dX7_step_77 rfl (lv_at hl 0 rfl) ?_
          refine hp_get (v := .ref (kb)) hx hb hts hown hZ e275 fl_X7_27 rfl dX7_step_78 ?_
          refine lv_aload_n hx hb dX7_step_81 rfl (lv_at hl 0 rfl) ?_
          refine hp_get (v := .int (st9)) hx hb hts hown hZ e275 fl_X7_174 rfl dX7_step_82 ?_
          have fx277 : V274 (kb) = some (.inr (9, [.ref (kb + 1), .int (tz)])) := (o276 (kb) (hq_tne hy0 hy2 (by simp))).trans (fx7)
          have fx278 : V274 (kb + 1) = some (.inl (cs 0, 4000, .inl (tg))) := (o276 (kb + 1) (hq_tne hy1 hy2 (by simp))).trans (fx238)
          refine hp_calli (hp_runV (As := [.int (st9)]) (rest := []) hx hb hml hown hts (x_at l D cs B G V274 n hP.1 (kb) (4000) (st9) (tz) (tg)  fx277 fx278  (by omega) hfit) hZ fx277 cv_X7_182 rfl rfl ⟨Nat.le_of_ble_eq_true rfl, Nat.le_of_ble_eq_true rfl⟩ rfl hl.1 rfl (Nat.le_of_ble_eq_true rfl) dX7_step_85 ⟨(Nat.le_of_ble_eq_true rfl), (Nat.le_of_ble_eq_true rfl)⟩) hZ (fun r282 V279 n280 _ _ hw281 hZ => ?_)
          obtain ⟨rfl, rfl, hp285⟩ := hw281
          have b286 := hq_rng r282
          have b287 := hx_atw hz3 hz1 hp285
          refine lv_istore_n (lv' := [(1, .int (r282)), (0, .ref (kb + 2))]) hx hb dX7_step_88 rfl hl (by decide) rfl (fun ls hl => ?_)
          refine lv_iload_n hx hb dX7_step_89 rfl (lv_at hl 0 rfl) ?_
          refine lv_iconst (v := -1) hx hb dX7_step_90 (by decide) ?_
          refine lv_icmp_ne (tgt := 103) hx hb dX7_step_91 (by decide) (fun c288 => ?_) (fun c288 => ?_)
          · have c288 : ¬ (r282).toInt = (-1 : Int) := fun h9 => c288 (hq_eqi.mpr h9)
            refine lv_iload_n hx hb dX7_step_103 rfl (lv_at hl 0 rfl) ?_
            refine lv_bipush (v := 59) hx hb dX7_step_104 (by decide) ?_
            refine lv_icmp_ne (tgt := 118) hx hb dX7_step_106 (by decide) (fun c289 => ?_) (fun c289 => ?_)
            · have c289 : ¬ (r282).toInt = (59 : Int) := fun h9 => c289 (hq_eqi.mpr h9)
              refine lv_iload_n hx hb dX7_step_118 rfl (lv_at hl 0 rfl) ?_
              refine lv_bipush (v := 39) hx hb dX7_step_119 (by decide) ?_
              refine lv_icmp_ne (tgt := 202) hx hb dX7_step_121 (by decide) (fun c290 => ?_) (fun c290 => ?_)
              · have c290 : ¬ (r282).toInt = (39 : Int) := fun h9 => c290 (hq_eqi.mpr h9)
                refine lv_iload_n hx hb dX7_step_202 rfl (lv_at hl 0 rfl) ?_
                refine lv_bipush (v := 97) hx hb dX7_step_203 (by decide) ?_
                refine lv_icmp_lt (tgt := 260) hx hb dX7_step_205 (by decide) (fun c291 => ?_) (fun c291 => ?_)
                · have c291 : (r282).toInt < (97 : Int) := hq_lti.mp c291
                  refine lv_iload_n hx hb dX7_step_260 rfl (lv_at hl 0 rfl) ?_
                  refine lv_bipush (v := 48) hx hb dX7_step_261 (by decide) ?_
                  refine lv_icmp_lt (tgt := 315) hx hb dX7_step_263 (by decide) (fun c292 => ?_) (fun c292 => ?_)
                  · have c292 : (r282).toInt < (48 : Int) := hq_lti.mp c292
                    refine lv_aload_n hx hb dX7_step_315 rfl (lv_at hl 1 rfl) ?_
                    refine lv_bipush (v := 22) hx hb dX7_step_316 (by decide) ?_
                    refine hp_put hx hb hts hown hZ e275 fp_X7_45 rfl rfl (Nat.le_of_ble_eq_true rfl) dX7_step_318 (fun V293 _ _ e294 o295 hZ => ?_)
                    have e294 : V293 (kb + 2) = some (.inr (7, [.int (fk), .int (fp), .ref (kb), .ref (qb), .int (y268), .int (22), .int (st9), .ref (kb + 3)])) := e294
                    have hP := hP.put hy2 e294 o295 (trivial) rfl
                    have hl296 : (22 : Int32).toInt = 22 := by decide
                    obtain ⟨h8, h9⟩ := sp_c_bad (w := w) (p := sp_pos w j) (by omega) (by omega) (by omega) (by omega) (by omega)
                    exact hp_vret hx hb hr hlocks hZ ⟨rfl, hP, (fun x8 hne0 => (o295 x8 hne0).trans ((o276 x8 hne0).trans (fr8 x8 hne0))), y268, 22, st9, e294, ⟨by omega, by show _ = sp_S w (sp_pos w j); omega, by show _ = sp_E w (sp_pos w j); omega, by show _ = sp_K w (sp_pos w j); omega⟩⟩ dX7_step_321
                  · have c292 : ¬ (r282).toInt < (48 : Int) := fun h9 => c292 (hq_lti.mpr h9)
                    refine lv_iload_n hx hb dX7_step_266 rfl (lv_at hl 0 rfl) ?_
                    refine lv_bipush (v := 57) hx hb dX7_step_267 (by decide) ?_
                    refine lv_icmp_gt (tgt := 315) hx hb dX7_step_269 (by decide) (fun c297 => ?_) (fun c297 => ?_)
                    · have c297 : (57 : Int) < (r282).toInt := hq_lti.mp c297
                      refine lv_aload_n hx hb dX7_step_315 rfl (lv_at hl 1 rfl) ?_
                      refine lv_bipush (v := 22) hx hb dX7_step_316 (by decide) ?_
                      refine hp_put hx hb hts hown hZ e275 fp_X7_45 rfl rfl (Nat.le_of_ble_eq_true rfl) dX7_step_318 (fun V298 _ _ e299 o300 hZ => ?_)
                      have e299 : V298 (kb + 2) = some (.inr (7, [.int (fk), .int (fp), .ref (kb), .ref (qb), .int (y268), .int (22), .int (st9), .ref (kb + 3)])) := e299
                      have hP := hP.put hy2 e299 o300 (trivial) rfl
                      have hl301 : (22 : Int32).toInt = 22 := by decide
                      obtain ⟨h8, h9⟩ := sp_c_bad (w := w) (p := sp_pos w j) (by omega) (by omega) (by omega) (by omega) (by omega)
                      exact hp_vret hx hb hr hlocks hZ ⟨rfl, hP, (fun x8 hne0 => (o300 x8 hne0).trans ((o276 x8 hne0).trans (fr8 x8 hne0))), y268, 22, st9, e299, ⟨by omega, by show _ = sp_S w (sp_pos w j); omega, by show _ = sp_E w (sp_pos w j); omega, by show _ = sp_K w (sp_pos w j); omega⟩⟩ dX7_step_321
                    · have c297 : ¬ (57 : Int) < (r282).toInt := fun h9 => c297 (hq_lti.mpr h9)
                      refine lv_aload_n hx hb dX7_step_272 rfl (lv_at hl 1 rfl) ?_
                      refine lv_aload_n hx hb dX7_step_273 rfl (lv_at hl 1 rfl) ?_
                      refine lv_aload_n hx hb dX7_step_274 rfl (lv_at hl 1 rfl) ?_
                      refine hp_get (v := .int (st9)) hx hb hts hown hZ e275 fl_X7_174 rfl dX7_step_275 ?_
                      refine lv_bipush (v := 48) hx hb dX7_step_278 (by decide) ?_
                      refine lv_bipush (v := 57) hx hb dX7_step_280 (by decide) ?_
                      have hl302 : (48 : Int32).toInt = 48 := by decide
                      have hl303 : (57 : Int32).toInt = 57 := by decide
                      have pk304 := hp0.keep ((o276 (kb) (hq_tne hy0 hy2 (by simp))).trans (fr8 (kb) (hq_tne hy0 hy2 (by simp)))) ((o276 (kb + 1) (hq_tne hy1 hy2 (by simp))).trans (fr8 (kb + 1) (hq_tne hy1 hy2 (by simp))))
                      refine hp_calli (hp_runV (As := [.int (st9), .int (48), .int (57)]) (rest := [.ref (kb + 2)]) hx hb hml hown hts (x_runEnd l D cs B G V274 n hP.1 (kb) (qb) (w) (st9) (48) (57) (fk) (fp) (y268) (tk) (st9) hy0 hy1 e275 pk304 (by omega) ⟨by decide, by decide⟩ ⟨by decide, by decide⟩) hZ e275 cv_X7_195 rfl rfl ⟨Nat.le_of_ble_eq_true rfl, Nat.le_of_ble_eq_true rfl⟩ rfl hl.1 rfl (Nat.le_of_ble_eq_true rfl) dX7_step_282 ⟨(Nat.le_of_ble_eq_true rfl), (Nat.le_of_ble_eq_true rfl)⟩) hZ (fun r308 V305 n306 _ _ hw307 hZ => ?_)
                      obtain ⟨rfl, rfl, hp311, hp312⟩ := hw307
                      have b313 := hq_rng r308
                      have b314 := hp311 48 57 ((sp_S w (sp_pos w j))) (by decide) (by decide) (by omega)
                      refine hp_put hx hb hts hown hZ e275 fp_X7_39 rfl rfl (Nat.le_of_ble_eq_true rfl) dX7_step_285 (fun V315 _ _ e316 o317 hZ => ?_)
                      have e316 : V315 (kb + 2) = some (.inr (7, [.int (fk), .int (fp), .ref (kb), .ref (qb), .int (r308), .int (tk), .int (st9), .ref (kb + 3)])) := e316
                      have hP := hP.put hy2 e316 o317 (trivial) rfl
                      refine lv_aload_n hx hb dX7_step_288 rfl (lv_at hl 1 rfl) ?_
                      refine lv_aload_n hx hb dX7_step_289 rfl (lv_at hl 1 rfl) ?_
                      refine hp_get (v := .int (r308)) hx hb hts hown hZ e316 fl_X7_39 rfl dX7_step_290 ?_
                      refine lv_aload_n hx hb dX7_step_293 rfl (lv_at hl 1 rfl) ?_
                      refine hp_get (v := .int (st9)) hx hb hts hown hZ e316 fl_X7_174 rfl dX7_step_294 ?_
                      refine lv_isub hx hb dX7_step_297 ?_
                      refine lv_topi (fun y318 ey319 => ?_)
                      obtain ⟨k320, hk321, b322, b323⟩ := hq_sub (r308) (st9)
                      rw [← ey319] at hk321 b322 b323
                      have hk321 : (y318).toInt = (r308).toInt - (st9).toInt + k320 * 4294967296 := hk321
                      obtain rfl : k320 = 0 := by omega
                      refine lv_iconst (v := 1) hx hb dX7_step_298 (by decide) ?_
                      refine lv_icmp_ne (tgt := 307) hx hb dX7_step_299 (by decide) (fun c324 => ?_) (fun c324 => ?_)
                      · have c324 : ¬ (y318).toInt = (1 : Int) := fun h9 => c324 (hq_eqi.mpr h9)
                        refine lv_bipush (v := 22) hx hb dX7_step_307 (by decide) ?_
                        refine hp_put hx hb hts hown hZ e316 fp_X7_45 rfl rfl (Nat.le_of_ble_eq_true rfl) dX7_step_309 (fun V325 _ _ e326 o327 hZ => ?_)
                        have e326 : V325 (kb + 2) = some (.inr (7, [.int (fk), .int (fp), .ref (kb), .ref (qb), .int (r308), .int (22), .int (st9), .ref (kb + 3)])) := e326
                        have hP := hP.put hy2 e326 o327 (trivial) rfl
                        refine lv_goto (tgt := 321) hx hb dX7_step_312 (by decide) ?_
                        have hl328 : (22 : Int32).toInt = 22 := by decide
                        obtain ⟨h8, h9⟩ := sp_c_dig (w := w) (p := sp_pos w j) (by omega) (by omega)
                        rw [if_neg (by omega)] at h9
                        exact hp_vret hx hb hr hlocks hZ ⟨rfl, hP, (fun x8 hne0 => (o327 x8 hne0).trans ((o317 x8 hne0).trans ((o276 x8 hne0).trans (fr8 x8 hne0)))), r308, 22, st9, e326, ⟨by omega, by show _ = sp_S w (sp_pos w j); omega, by show _ = sp_E w (sp_pos w j); omega, by show _ = sp_K w (sp_pos w j); omega⟩⟩ dX7_step_321
                      · have c324 : (y318).toInt = (1 : Int) := hq_eqi.mp c324
                        refine lv_bipush (v := 18) hx hb dX7_step_302 (by decide) ?_
                        refine lv_goto (tgt := 309) hx hb dX7_step_304 (by decide) ?_
                        refine hp_put hx hb hts hown hZ e316 fp_X7_45 rfl rfl (Nat.le_of_ble_eq_true rfl) dX7_step_309 (fun V329 _ _ e330 o331 hZ => ?_)
                        have e330 : V329 (kb + 2) = some (.inr (7, [.int (fk), .int (fp), .ref (kb), .ref (qb), .int (r308), .int (18), .int (st9), .ref (kb + 3)])) := e330
                        have hP := hP.put hy2 e330 o331 (trivial) rfl
                        refine lv_goto (tgt := 321) hx hb dX7_step_312 (by decide) ?_
                        have hl332 : (18 : Int32).toInt = 18 := by decide
                        obtain ⟨h8, h9⟩ := sp_c_dig (w := w) (p := sp_pos w j) (by omega) (by omega)
                        rw [if_pos (by omega)] at h9
                        exact hp_vret hx hb hr hlocks hZ ⟨rfl, hP, (fun x8 hne0 => (o331 x8 hne0).trans ((o317 x8 hne0).trans ((o276 x8 hne0).trans (fr8 x8 hne0)))), r308, 18, st9, e330, ⟨by omega, by show _ = sp_S w (sp_pos w j); omega, by show _ = sp_E w (sp_pos w j); omega, by show _ = sp_K w (sp_pos w j); omega⟩⟩ dX7_step_321
                · have c291 : ¬ (r282).toInt < (97 : Int) := fun h9 => c291 (hq_lti.mpr h9)
                  refine lv_iload_n hx hb dX7_step_208 rfl (lv_at hl 0 rfl) ?_
                  refine lv_bipush (v := 122) hx hb dX7_step_209 (by decide) ?_
                  refine lv_icmp_gt (tgt := 260) hx hb dX7_step_211 (by decide) (fun c333 => ?_) (fun c333 => ?_)
                  · have c333 : (122 : Int) < (r282).toInt := hq_lti.mp c333
                    refine lv_iload_n hx hb dX7_step_260 rfl (lv_at hl 0 rfl) ?_
                    refine lv_bipush (v := 48) hx hb dX7_step_261 (by decide) ?_
                    refine lv_icmp_lt (tgt := 315) hx hb dX7_step_263 (by decide) (fun c334 => ?_) (fun c334 => ?_)
                    · have c334 : (r282).toInt < (48 : Int) := hq_lti.mp c334
                      refine lv_aload_n hx hb dX7_step_315 rfl (lv_at hl 1 rfl) ?_
                      refine lv_bipush (v := 22) hx hb dX7_step_316 (by decide) ?_
                      refine hp_put hx hb hts hown hZ e275 fp_X7_45 rfl rfl (Nat.le_of_ble_eq_true rfl) dX7_step_318 (fun V335 _ _ e336 o337 hZ => ?_)
                      have e336 : V335 (kb + 2) = some (.inr (7, [.int (fk), .int (fp), .ref (kb), .ref (qb), .int (y268), .int (22), .int (st9), .ref (kb + 3)])) := e336
                      have hP := hP.put hy2 e336 o337 (trivial) rfl
                      have hl338 : (22 : Int32).toInt = 22 := by decide
                      obtain ⟨h8, h9⟩ := sp_c_bad (w := w) (p := sp_pos w j) (by omega) (by omega) (by omega) (by omega) (by omega)
                      exact hp_vret hx hb hr hlocks hZ ⟨rfl, hP, (fun x8 hne0 => (o337 x8 hne0).trans ((o276 x8 hne0).trans (fr8 x8 hne0))), y268, 22, st9, e336, ⟨by omega, by show _ = sp_S w (sp_pos w j); omega, by show _ = sp_E w (sp_pos w j); omega, by show _ = sp_K w (sp_pos w j); omega⟩⟩ dX7_step_321
                    · have c334 : ¬ (r282).toInt < (48 : Int) := fun h9 => c334 (hq_lti.mpr h9)
                      refine lv_iload_n hx hb dX7_step_266 rfl (lv_at hl 0 rfl) ?_
                      refine lv_bipush (v := 57) hx hb dX7_step_267 (by decide) ?_
                      refine lv_icmp_gt (tgt := 315) hx hb dX7_step_269 (by decide) (fun c339 => ?_) (fun c339 => ?_)
                      · have c339 : (57 : Int) < (r282).toInt := hq_lti.mp c339
                        refine lv_aload_n hx hb dX7_step_315 rfl (lv_at hl 1 rfl) ?_
                        refine lv_bipush (v := 22) hx hb dX7_step_316 (by decide) ?_
                        refine hp_put hx hb hts hown hZ e275 fp_X7_45 rfl rfl (Nat.le_of_ble_eq_true rfl) dX7_step_318 (fun V340 _ _ e341 o342 hZ => ?_)
                        have e341 : V340 (kb + 2) = some (.inr (7, [.int (fk), .int (fp), .ref (kb), .ref (qb), .int (y268), .int (22), .int (st9), .ref (kb + 3)])) := e341
                        have hP := hP.put hy2 e341 o342 (trivial) rfl
                        have hl343 : (22 : Int32).toInt = 22 := by decide
                        obtain ⟨h8, h9⟩ := sp_c_bad (w := w) (p := sp_pos w j) (by omega) (by omega) (by omega) (by omega) (by omega)
                        exact hp_vret hx hb hr hlocks hZ ⟨rfl, hP, (fun x8 hne0 => (o342 x8 hne0).trans ((o276 x8 hne0).trans (fr8 x8 hne0))), y268, 22, st9, e341, ⟨by omega, by show _ = sp_S w (sp_pos w j); omega, by show _ = sp_E w (sp_pos w j); omega, by show _ = sp_K w (sp_pos w j); omega⟩⟩ dX7_step_321
                      · have c339 : ¬ (57 : Int) < (r282).toInt := fun h9 => c339 (hq_lti.mpr h9)
                        refine lv_aload_n hx hb dX7_step_272 rfl (lv_at hl 1 rfl) ?_
                        refine lv_aload_n hx hb dX7_step_273 rfl (lv_at hl 1 rfl) ?_
                        refine lv_aload_n hx hb dX7_step_274 rfl (lv_at hl 1 rfl) ?_
                        refine hp_get (v := .int (st9)) hx hb hts hown hZ e275 fl_X7_174 rfl dX7_step_275 ?_
                        refine lv_bipush (v := 48) hx hb dX7_step_278 (by decide) ?_
                        refine lv_bipush (v := 57) hx hb dX7_step_280 (by decide) ?_
                        have hl344 : (48 : Int32).toInt = 48 := by decide
                        have hl345 : (57 : Int32).toInt = 57 := by decide
                        have pk346 := hp0.keep ((o276 (kb) (hq_tne hy0 hy2 (by simp))).trans (fr8 (kb) (hq_tne hy0 hy2 (by simp)))) ((o276 (kb + 1) (hq_tne hy1 hy2 (by simp))).trans (fr8 (kb + 1) (hq_tne hy1 hy2 (by simp))))
                        refine hp_calli (hp_runV (As := [.int (st9), .int (48), .int (57)]) (rest := [.ref (kb + 2)]) hx hb hml hown hts (x_runEnd l D cs B G V274 n hP.1 (kb) (qb) (w) (st9) (48) (57) (fk) (fp) (y268) (tk) (st9) hy0 hy1 e275 pk346 (by omega) ⟨by decide, by decide⟩ ⟨by decide, by decide⟩) hZ e275 cv_X7_195 rfl rfl ⟨Nat.le_of_ble_eq_true rfl, Nat.le_of_ble_eq_true rfl⟩ rfl hl.1 rfl (Nat.le_of_ble_eq_true rfl) dX7_step_282 ⟨(Nat.le_of_ble_eq_true rfl), (Nat.le_of_ble_eq_true rfl)⟩) hZ (fun r350 V347 n348 _ _ hw349 hZ => ?_)
                        obtain ⟨rfl, rfl, hp353, hp354⟩ := hw349
                        have b355 := hq_rng r350
                        have b356 := hp353 48 57 ((sp_S w (sp_pos w j))) (by decide) (by decide) (by omega)
                        refine hp_put hx hb hts hown hZ e275 fp_X7_39 rfl rfl (Nat.le_of_ble_eq_true rfl) dX7_step_285 (fun V357 _ _ e358 o359 hZ => ?_)
                        have e358 : V357 (kb + 2) = some (.inr (7, [.int (fk), .int (fp), .ref (kb), .ref (qb), .int (r350), .int (tk), .int (st9), .ref (kb + 3)])) := e358
                        have hP := hP.put hy2 e358 o359 (trivial) rfl
                        refine lv_aload_n hx hb dX7_step_288 rfl (lv_at hl 1 rfl) ?_
                        refine lv_aload_n hx hb dX7_step_289 rfl (lv_at hl 1 rfl) ?_
                        refine hp_get (v := .int (r350)) hx hb hts hown hZ e358 fl_X7_39 rfl dX7_step_290 ?_
                        refine lv_aload_n hx hb dX7_step_293 rfl (lv_at hl 1 rfl) ?_
                        refine hp_get (v := .int (st9)) hx hb hts hown hZ e358 fl_X7_174 rfl dX7_step_294 ?_
                        refine lv_isub hx hb dX7_step_297 ?_
                        refine lv_topi (fun y360 ey361 => ?_)
                        obtain ⟨k362, hk363, b364, b365⟩ := hq_sub (r350) (st9)
                        rw [← ey361] at hk363 b364 b365
                        have hk363 : (y360).toInt = (r350).toInt - (st9).toInt + k362 * 4294967296 := hk363
                        obtain rfl : k362 = 0 := by omega
                        refine lv_iconst (v := 1) hx hb dX7_step_298 (by decide) ?_
                        refine lv_icmp_ne (tgt := 307) hx hb dX7_step_299 (by decide) (fun c366 => ?_) (fun c366 => ?_)
                        · have c366 : ¬ (y360).toInt = (1 : Int) := fun h9 => c366 (hq_eqi.mpr h9)
                          refine lv_bipush (v := 22) hx hb dX7_step_307 (by decide) ?_
                          refine hp_put hx hb hts hown hZ e358 fp_X7_45 rfl rfl (Nat.le_of_ble_eq_true rfl) dX7_step_309 (fun V367 _ _ e368 o369 hZ => ?_)
                          have e368 : V367 (kb + 2) = some (.inr (7, [.int (fk), .int (fp), .ref (kb), .ref (qb), .int (r350), .int (22), .int (st9), .ref (kb + 3)])) := e368
                          have hP := hP.put hy2 e368 o369 (trivial) rfl
                          refine lv_goto (tgt := 321) hx hb dX7_step_312 (by decide) ?_
                          have hl370 : (22 : Int32).toInt = 22 := by decide
                          obtain ⟨h8, h9⟩ := sp_c_dig (w := w) (p := sp_pos w j) (by omega) (by omega)
                          rw [if_neg (by omega)] at h9
                          exact hp_vret hx hb hr hlocks hZ ⟨rfl, hP, (fun x8 hne0 => (o369 x8 hne0).trans ((o359 x8 hne0).trans ((o276 x8 hne0).trans (fr8 x8 hne0)))), r350, 22, st9, e368, ⟨by omega, by show _ = sp_S w (sp_pos w j); omega, by show _ = sp_E w (sp_pos w j); omega, by show _ = sp_K w (sp_pos w j); omega⟩⟩ dX7_step_321
                        · have c366 : (y360).toInt = (1 : Int) := hq_eqi.mp c366
                          refine lv_bipush (v := 18) hx hb dX7_step_302 (by decide) ?_
                          refine lv_goto (tgt := 309) hx hb dX7_step_304 (by decide) ?_
                          refine hp_put hx hb hts hown hZ e358 fp_X7_45 rfl rfl (Nat.le_of_ble_eq_true rfl) dX7_step_309 (fun V371 _ _ e372 o373 hZ => ?_)
                          have e372 : V371 (kb + 2) = some (.inr (7, [.int (fk), .int (fp), .ref (kb), .ref (qb), .int (r350), .int (18), .int (st9), .ref (kb + 3)])) := e372
                          have hP := hP.put hy2 e372 o373 (trivial) rfl
                          refine lv_goto (tgt := 321) hx hb dX7_step_312 (by decide) ?_
                          have hl374 : (18 : Int32).toInt = 18 := by decide
                          obtain ⟨h8, h9⟩ := sp_c_dig (w := w) (p := sp_pos w j) (by omega) (by omega)
                          rw [if_pos (by omega)] at h9
                          exact hp_vret hx hb hr hlocks hZ ⟨rfl, hP, (fun x8 hne0 => (o373 x8 hne0).trans ((o359 x8 hne0).trans ((o276 x8 hne0).trans (fr8 x8 hne0)))), r350, 18, st9, e372, ⟨by omega, by show _ = sp_S w (sp_pos w j); omega, by show _ = sp_E w (sp_pos w j); omega, by show _ = sp_K w (sp_pos w j); omega⟩⟩ dX7_step_321
                  · have c333 : ¬ (122 : Int) < (r282).toInt := fun h9 => c333 (hq_lti.mpr h9)
                    refine lv_aload_n hx hb dX7_step_214 rfl (lv_at hl 1 rfl) ?_
                    refine lv_aload_n hx hb dX7_step_215 rfl (lv_at hl 1 rfl) ?_
                    refine lv_aload_n hx hb dX7_step_216 rfl (lv_at hl 1 rfl) ?_
                    refine hp_get (v := .int (st9)) hx hb hts hown hZ e275 fl_X7_174 rfl dX7_step_217 ?_
                    refine lv_bipush (v := 97) hx hb dX7_step_220 (by decide) ?_
                    refine lv_bipush (v := 122) hx hb dX7_step_222 (by decide) ?_
                    have hl375 : (97 : Int32).toInt = 97 := by decide
                    have hl376 : (122 : Int32).toInt = 122 := by decide
                    have pk377 := hp0.keep ((o276 (kb) (hq_tne hy0 hy2 (by simp))).trans (fr8 (kb) (hq_tne hy0 hy2 (by simp)))) ((o276 (kb + 1) (hq_tne hy1 hy2 (by simp))).trans (fr8 (kb + 1) (hq_tne hy1 hy2 (by simp))))
                    refine hp_calli (hp_runV (As := [.int (st9), .int (97), .int (122)]) (rest := [.ref (kb + 2)]) hx hb hml hown hts (x_runEnd l D cs B G V274 n hP.1 (kb) (qb) (w) (st9) (97) (122) (fk) (fp) (y268) (tk) (st9) hy0 hy1 e275 pk377 (by omega) ⟨by decide, by decide⟩ ⟨by decide, by decide⟩) hZ e275 cv_X7_195 rfl rfl ⟨Nat.le_of_ble_eq_true rfl, Nat.le_of_ble_eq_true rfl⟩ rfl hl.1 rfl (Nat.le_of_ble_eq_true rfl) dX7_step_224 ⟨(Nat.le_of_ble_eq_true rfl), (Nat.le_of_ble_eq_true rfl)⟩) hZ (fun r381 V378 n379 _ _ hw380 hZ => ?_)
                    obtain ⟨rfl, rfl, hp384, hp385⟩ := hw380
                    have b386 := hq_rng r381
                    have b387 := hp384 97 122 ((sp_S w (sp_pos w j))) (by decide) (by decide) (by omega)
                    refine hp_put hx hb hts hown hZ e275 fp_X7_39 rfl rfl (Nat.le_of_ble_eq_true rfl) dX7_step_227 (fun V388 _ _ e389 o390 hZ => ?_)
                    have e389 : V388 (kb + 2) = some (.inr (7, [.int (fk), .int (fp), .ref (kb), .ref (qb), .int (r381), .int (tk), .int (st9), .ref (kb + 3)])) := e389
                    have hP := hP.put hy2 e389 o390 (trivial) rfl
                    refine lv_aload_n hx hb dX7_step_230 rfl (lv_at hl 1 rfl) ?_
                    refine lv_aload_n hx hb dX7_step_231 rfl (lv_at hl 1 rfl) ?_
                    refine hp_get (v := .int (r381)) hx hb hts hown hZ e389 fl_X7_39 rfl dX7_step_232 ?_
                    refine lv_aload_n hx hb dX7_step_235 rfl (lv_at hl 1 rfl) ?_
                    refine hp_get (v := .int (st9)) hx hb hts hown hZ e389 fl_X7_174 rfl dX7_step_236 ?_
                    refine lv_isub hx hb dX7_step_239 ?_
                    refine lv_topi (fun y391 ey392 => ?_)
                    obtain ⟨k393, hk394, b395, b396⟩ := hq_sub (r381) (st9)
                    rw [← ey392] at hk394 b395 b396
                    have hk394 : (y391).toInt = (r381).toInt - (st9).toInt + k393 * 4294967296 := hk394
                    obtain rfl : k393 = 0 := by omega
                    refine lv_bipush (v := 12) hx hb dX7_step_240 (by decide) ?_
                    refine lv_icmp_gt (tgt := 252) hx hb dX7_step_242 (by decide) (fun c397 => ?_) (fun c397 => ?_)
                    · have c397 : (12 : Int) < (y391).toInt := hq_lti.mp c397
                      refine lv_bipush (v := 22) hx hb dX7_step_252 (by decide) ?_
                      refine hp_put hx hb hts hown hZ e389 fp_X7_45 rfl rfl (Nat.le_of_ble_eq_true rfl) dX7_step_254 (fun V398 _ _ e399 o400 hZ => ?_)
                      have e399 : V398 (kb + 2) = some (.inr (7, [.int (fk), .int (fp), .ref (kb), .ref (qb), .int (r381), .int (22), .int (st9), .ref (kb + 3)])) := e399
                      have hP := hP.put hy2 e399 o400 (trivial) rfl
                      refine lv_goto (tgt := 321) hx hb dX7_step_257 (by decide) ?_
                      have hl401 : (22 : Int32).toInt = 22 := by decide
                      obtain ⟨h8, h9⟩ := sp_c_word (w := w) (p := sp_pos w j) (by omega) (by omega)
                      rw [if_neg (by omega)] at h9
                      exact hp_vret hx hb hr hlocks hZ ⟨rfl, hP, (fun x8 hne0 => (o400 x8 hne0).trans ((o390 x8 hne0).trans ((o276 x8 hne0).trans (fr8 x8 hne0)))), r381, 22, st9, e399, ⟨by omega, by show _ = sp_S w (sp_pos w j); omega, by show _ = sp_E w (sp_pos w j); omega, by show _ = sp_K w (sp_pos w j); omega⟩⟩ dX7_step_321
                    · have c397 : ¬ (12 : Int) < (y391).toInt := fun h9 => c397 (hq_lti.mpr h9)
                      refine lv_aload_n hx hb dX7_step_245 rfl (lv_at hl 1 rfl) ?_
                      have pk402 := pk377.keep (o390 (kb) (hq_tne hy0 hy2 (by simp))) (o390 (kb + 1) (hq_tne hy1 hy2 (by simp)))
                      refine hp_calli (hp_runV (As := []) (rest := [.ref (kb + 2)]) hx hb hml hown hts (x_wordNumber l D cs B G V388 n hP.1 (kb) (qb) (w) (fk) (fp) (r381) (tk) (st9) hy0 hy1 e389 pk402 (by omega)) hZ e389 cv_X7_199 rfl rfl ⟨Nat.le_of_ble_eq_true rfl, Nat.le_of_ble_eq_true rfl⟩ rfl hl.1 rfl (Nat.le_of_ble_eq_true rfl) dX7_step_246 ⟨(Nat.le_of_ble_eq_true rfl), (Nat.le_of_ble_eq_true rfl)⟩) hZ (fun r406 V403 n404 _ _ hw405 hZ => ?_)
                      obtain ⟨rfl, rfl, hp409⟩ := hw405
                      have b410 := hq_rng r406
                      have b411 := hp409 (sp_S w (sp_pos w j)) (sp_run (sp_rg w.1 97 122) w.2 ((sp_S w (sp_pos w j)))) (by omega) (by omega)
                      refine lv_goto (tgt := 254) hx hb dX7_step_249 (by decide) ?_
                      refine hp_put hx hb hts hown hZ e389 fp_X7_45 rfl rfl (Nat.le_of_ble_eq_true rfl) dX7_step_254 (fun V412 _ _ e413 o414 hZ => ?_)
                      have e413 : V412 (kb + 2) = some (.inr (7, [.int (fk), .int (fp), .ref (kb), .ref (qb), .int (r381), .int (r406), .int (st9), .ref (kb + 3)])) := e413
                      have hP := hP.put hy2 e413 o414 (trivial) rfl
                      refine lv_goto (tgt := 321) hx hb dX7_step_257 (by decide) ?_
                      obtain ⟨h8, h9⟩ := sp_c_word (w := w) (p := sp_pos w j) (by omega) (by omega)
                      rw [if_pos (by omega)] at h9
                      exact hp_vret hx hb hr hlocks hZ ⟨rfl, hP, (fun x8 hne0 => (o414 x8 hne0).trans ((o390 x8 hne0).trans ((o276 x8 hne0).trans (fr8 x8 hne0)))), r381, r406, st9, e413, ⟨by omega, by show _ = sp_S w (sp_pos w j); omega, by show _ = sp_E w (sp_pos w j); omega, by show _ = sp_K w (sp_pos w j); omega⟩⟩ dX7_step_321
              · have c290 : (r282).toInt = (39 : Int) := hq_eqi.mp c290
                refine lv_aload_n hx hb dX7_step_124 rfl (lv_at hl 1 rfl) ?_
                refine lv_aload_n hx hb dX7_step_125 rfl (lv_at hl 1 rfl) ?_
                refine lv_aload_n hx hb dX7_step_126 rfl (lv_at hl 1 rfl) ?_
                refine hp_get (v := .int (st9)) hx hb hts hown hZ e275 fl_X7_174 rfl dX7_step_127 ?_
                refine lv_iconst (v := 1) hx hb dX7_step_130 (by decide) ?_
                refine lv_iadd hx hb dX7_step_131 ?_
                refine lv_topi (fun y415 ey416 => ?_)
                obtain ⟨k417, hk418, b419, b420⟩ := hq_add (st9) (1)
                rw [← ey416] at hk418 b419 b420
                have hk418 : (y415).toInt = (st9).toInt + (1 : Int) + k417 * 4294967296 := hk418
                obtain rfl : k417 = 0 := by omega
                refine lv_bipush (v := 97) hx hb dX7_step_132 (by decide) ?_
                refine lv_bipush (v := 122) hx hb dX7_step_134 (by decide) ?_
                have hl421 : (97 : Int32).toInt = 97 := by decide
                have hl422 : (122 : Int32).toInt = 122 := by decide
                have pk423 := hp0.keep ((o276 (kb) (hq_tne hy0 hy2 (by simp))).trans (fr8 (kb) (hq_tne hy0 hy2 (by simp)))) ((o276 (kb + 1) (hq_tne hy1 hy2 (by simp))).trans (fr8 (kb + 1) (hq_tne hy1 hy2 (by simp))))
                refine hp_calli (hp_runV (As := [.int (y415), .int (97), .int (122)]) (rest := [.ref (kb + 2)]) hx hb hml hown hts (x_runEnd l D cs B G V274 n hP.1 (kb) (qb) (w) (y415) (97) (122) (fk) (fp) (y268) (tk) (st9) hy0 hy1 e275 pk423 (by omega) ⟨by decide, by decide⟩ ⟨by decide, by decide⟩) hZ e275 cv_X7_195 rfl rfl ⟨Nat.le_of_ble_eq_true rfl, Nat.le_of_ble_eq_true rfl⟩ rfl hl.1 rfl (Nat.le_of_ble_eq_true rfl) dX7_step_136 ⟨(Nat.le_of_ble_eq_true rfl), (Nat.le_of_ble_eq_true rfl)⟩) hZ (fun r427 V424 n425 _ _ hw426 hZ => ?_)
                obtain ⟨rfl, rfl, hp430, hp431⟩ := hw426
                have b432 := hq_rng r427
                have b433 := hp430 97 122 ((sp_S w (sp_pos w j)) + 1) (by decide) (by decide) (by omega)
                refine lv_iconst (v := 1) hx hb dX7_step_139 (by decide) ?_
                refine lv_iadd hx hb dX7_step_140 ?_
                refine lv_topi (fun y434 ey435 => ?_)
                obtain ⟨k436, hk437, b438, b439⟩ := hq_add (r427) (1)
                rw [← ey435] at hk437 b438 b439
                have hk437 : (y434).toInt = (r427).toInt + (1 : Int) + k436 * 4294967296 := hk437
                obtain rfl : k436 = 0 := by omega
                refine hp_put hx hb hts hown hZ e275 fp_X7_39 rfl rfl (Nat.le_of_ble_eq_true rfl) dX7_step_141 (fun V440 _ _ e441 o442 hZ => ?_)
                have e441 : V440 (kb + 2) = some (.inr (7, [.int (fk), .int (fp), .ref (kb), .ref (qb), .int (y434), .int (tk), .int (st9), .ref (kb + 3)])) := e441
                have hP := hP.put hy2 e441 o442 (trivial) rfl
                refine lv_aload_n hx hb dX7_step_144 rfl (lv_at hl 1 rfl) ?_
                refine hp_get (v := .ref (kb)) hx hb hts hown hZ e441 fl_X7_27 rfl dX7_step_145 ?_
                refine lv_aload_n hx hb dX7_step_148 rfl (lv_at hl 1 rfl) ?_
                refine hp_get (v := .int (y434)) hx hb hts hown hZ e441 fl_X7_39 rfl dX7_step_149 ?_
                refine lv_iconst (v := 1) hx hb dX7_step_152 (by decide) ?_
                refine lv_isub hx hb dX7_step_153 ?_
                refine lv_topi (fun y443 ey444 => ?_)
                obtain ⟨k445, hk446, b447, b448⟩ := hq_sub (y434) (1)
                rw [← ey444] at hk446 b447 b448
                have hk446 : (y443).toInt = (y434).toInt - (1 : Int) + k445 * 4294967296 := hk446
                obtain rfl : k445 = 0 := by omega
                have fx449 : V440 (kb) = some (.inr (9, [.ref (kb + 1), .int (tz)])) := (o442 (kb) (hq_tne hy0 hy2 (by simp))).trans (fx277)
                have fx450 : V440 (kb + 1) = some (.inl (cs 0, 4000, .inl (tg))) := (o442 (kb + 1) (hq_tne hy1 hy2 (by simp))).trans (fx278)
                refine hp_calli (hp_runV (As := [.int (y443)]) (rest := []) hx hb hml hown hts (x_at l D cs B G V440 n hP.1 (kb) (4000) (y443) (tz) (tg)  fx449 fx450  (by omega) hfit) hZ fx449 cv_X7_182 rfl rfl ⟨Nat.le_of_ble_eq_true rfl, Nat.le_of_ble_eq_true rfl⟩ rfl hl.1 rfl (Nat.le_of_ble_eq_true rfl) dX7_step_154 ⟨(Nat.le_of_ble_eq_true rfl), (Nat.le_of_ble_eq_true rfl)⟩) hZ (fun r454 V451 n452 _ _ hw453 hZ => ?_)
                obtain ⟨rfl, rfl, hp457⟩ := hw453
                have b458 := hq_rng r454
                have b459 := hx_atw hz3 hz1 hp457
                have b460 : w.1 (sp_run (sp_rg w.1 97 122) w.2 ((sp_S w (sp_pos w j)) + 1)) = w.1 (y443).toInt := by rw [show sp_run (sp_rg w.1 97 122) w.2 ((sp_S w (sp_pos w j)) + 1) = (y443).toInt by omega]
                refine lv_bipush (v := 39) hx hb dX7_step_157 (by decide) ?_
                refine lv_icmp_ne (tgt := 166) hx hb dX7_step_159 (by decide) (fun c461 => ?_) (fun c461 => ?_)
                · have c461 : ¬ (r454).toInt = (39 : Int) := fun h9 => c461 (hq_eqi.mpr h9)
                  refine lv_iconst (v := 0) hx hb dX7_step_166 (by decide) ?_
                  refine lv_istore_n (lv' := [(2, .int (0)), (1, .int (r282)), (0, .ref (kb + 2))]) hx hb dX7_step_167 rfl hl (by decide) rfl (fun ls hl => ?_)
                  refine lv_aload_n hx hb dX7_step_168 rfl (lv_at hl 2 rfl) ?_
                  refine lv_iload_n hx hb dX7_step_169 rfl (lv_at hl 0 rfl) ?_
                  refine lv_if_eq (tgt := 194) hx hb dX7_step_170 (by decide) (fun c462 => ?_) (fun c462 => absurd (by decide) c462)
                  refine lv_bipush (v := 22) hx hb dX7_step_194 (by decide) ?_
                  refine hp_put hx hb hts hown hZ e441 fp_X7_45 rfl rfl (Nat.le_of_ble_eq_true rfl) dX7_step_196 (fun V463 _ _ e464 o465 hZ => ?_)
                  have e464 : V463 (kb + 2) = some (.inr (7, [.int (fk), .int (fp), .ref (kb), .ref (qb), .int (y434), .int (22), .int (st9), .ref (kb + 3)])) := e464
                  have hP := hP.put hy2 e464 o465 (trivial) rfl
                  refine lv_goto (tgt := 321) hx hb dX7_step_199 (by decide) ?_
                  have hl466 : (22 : Int32).toInt = 22 := by decide
                  obtain ⟨h8, h9⟩ := sp_c_quote (w := w) (p := sp_pos w j) (by omega) (by omega)
                  rw [if_neg (by omega)] at h9
                  exact hp_vret hx hb hr hlocks hZ ⟨rfl, hP, (fun x8 hne0 => (o465 x8 hne0).trans ((o442 x8 hne0).trans ((o276 x8 hne0).trans (fr8 x8 hne0)))), y434, 22, st9, e464, ⟨by omega, by show _ = sp_S w (sp_pos w j); omega, by show _ = sp_E w (sp_pos w j); omega, by show _ = sp_K w (sp_pos w j); omega⟩⟩ dX7_step_321
                · have c461 : (r454).toInt = (39 : Int) := hq_eqi.mp c461
                  refine lv_iconst (v := 1) hx hb dX7_step_162 (by decide) ?_
                  refine lv_goto (tgt := 167) hx hb dX7_step_163 (by decide) ?_
                  refine lv_istore_n (lv' := [(2, .int (1)), (1, .int (r282)), (0, .ref (kb + 2))]) hx hb dX7_step_167 rfl hl (by decide) rfl (fun ls hl => ?_)
                  refine lv_aload_n hx hb dX7_step_168 rfl (lv_at hl 2 rfl) ?_
                  refine lv_iload_n hx hb dX7_step_169 rfl (lv_at hl 0 rfl) ?_
                  refine lv_if_eq (tgt := 194) hx hb dX7_step_170 (by decide) (fun c467 => absurd c467 (by decide)) (fun c467 => ?_)
                  refine lv_aload_n hx hb dX7_step_173 rfl (lv_at hl 2 rfl) ?_
                  refine hp_get (v := .int (y434)) hx hb hts hown hZ e441 fl_X7_39 rfl dX7_step_174 ?_
                  refine lv_aload_n hx hb dX7_step_177 rfl (lv_at hl 2 rfl) ?_
                  refine hp_get (v := .int (st9)) hx hb hts hown hZ e441 fl_X7_174 rfl dX7_step_178 ?_
                  refine lv_isub hx hb dX7_step_181 ?_
                  refine lv_topi (fun y468 ey469 => ?_)
                  obtain ⟨k470, hk471, b472, b473⟩ := hq_sub (y434) (st9)
                  rw [← ey469] at hk471 b472 b473
                  have hk471 : (y468).toInt = (y434).toInt - (st9).toInt + k470 * 4294967296 := hk471
                  obtain rfl : k470 = 0 := by omega
                  refine lv_iconst (v := 2) hx hb dX7_step_182 (by decide) ?_
                  refine lv_isub hx hb dX7_step_183 ?_
                  refine lv_topi (fun y474 ey475 => ?_)
                  obtain ⟨k476, hk477, b478, b479⟩ := hq_sub (y468) (2)
                  rw [← ey475] at hk477 b478 b479
                  have hk477 : (y474).toInt = (y468).toInt - (2 : Int) + k476 * 4294967296 := hk477
                  obtain rfl : k476 = 0 := by omega
                  refine lv_bipush (v := 8) hx hb dX7_step_184 (by decide) ?_
                  refine lv_icmp_gt (tgt := 194) hx hb dX7_step_186 (by decide) (fun c480 => ?_) (fun c480 => ?_)
                  · have c480 : (8 : Int) < (y474).toInt := hq_lti.mp c480
                    refine lv_bipush (v := 22) hx hb dX7_step_194 (by decide) ?_
                    refine hp_put hx hb hts hown hZ e441 fp_X7_45 rfl rfl (Nat.le_of_ble_eq_true rfl) dX7_step_196 (fun V481 _ _ e482 o483 hZ => ?_)
                    have e482 : V481 (kb + 2) = some (.inr (7, [.int (fk), .int (fp), .ref (kb), .ref (qb), .int (y434), .int (22), .int (st9), .ref (kb + 3)])) := e482
                    have hP := hP.put hy2 e482 o483 (trivial) rfl
                    refine lv_goto (tgt := 321) hx hb dX7_step_199 (by decide) ?_
                    have hl484 : (22 : Int32).toInt = 22 := by decide
                    obtain ⟨h8, h9⟩ := sp_c_quote (w := w) (p := sp_pos w j) (by omega) (by omega)
                    rw [if_neg (by omega)] at h9
                    exact hp_vret hx hb hr hlocks hZ ⟨rfl, hP, (fun x8 hne0 => (o483 x8 hne0).trans ((o442 x8 hne0).trans ((o276 x8 hne0).trans (fr8 x8 hne0)))), y434, 22, st9, e482, ⟨by omega, by show _ = sp_S w (sp_pos w j); omega, by show _ = sp_E w (sp_pos w j); omega, by show _ = sp_K w (sp_pos w j); omega⟩⟩ dX7_step_321
                  · have c480 : ¬ (8 : Int) < (y474).toInt := fun h9 => c480 (hq_lti.mpr h9)
                    refine lv_bipush (v := 19) hx hb dX7_step_189 (by decide) ?_
                    refine lv_goto (tgt := 196) hx hb dX7_step_191 (by decide) ?_
                    refine hp_put hx hb hts hown hZ e441 fp_X7_45 rfl rfl (Nat.le_of_ble_eq_true rfl) dX7_step_196 (fun V485 _ _ e486 o487 hZ => ?_)
                    have e486 : V485 (kb + 2) = some (.inr (7, [.int (fk), .int (fp), .ref (kb), .ref (qb), .int (y434), .int (19), .int (st9), .ref (kb + 3)])) := e486
                    have hP := hP.put hy2 e486 o487 (trivial) rfl
                    refine lv_goto (tgt := 321) hx hb dX7_step_199 (by decide) ?_
                    have hl488 : (19 : Int32).toInt = 19 := by decide
                    obtain ⟨h8, h9⟩ := sp_c_quote (w := w) (p := sp_pos w j) (by omega) (by omega)
                    rw [if_pos (by omega)] at h9
                    exact hp_vret hx hb hr hlocks hZ ⟨rfl, hP, (fun x8 hne0 => (o487 x8 hne0).trans ((o442 x8 hne0).trans ((o276 x8 hne0).trans (fr8 x8 hne0)))), y434, 19, st9, e486, ⟨by omega, by show _ = sp_S w (sp_pos w j); omega, by show _ = sp_E w (sp_pos w j); omega, by show _ = sp_K w (sp_pos w j); omega⟩⟩ dX7_step_321
            · have c289 : (r282).toInt = (59 : Int) := hq_eqi.mp c289
              refine lv_aload_n hx hb dX7_step_109 rfl (lv_at hl 1 rfl) ?_
              refine lv_bipush (v := 20) hx hb dX7_step_110 (by decide) ?_
              refine hp_put hx hb hts hown hZ e275 fp_X7_45 rfl rfl (Nat.le_of_ble_eq_true rfl) dX7_step_112 (fun V489 _ _ e490 o491 hZ => ?_)
              have e490 : V489 (kb + 2) = some (.inr (7, [.int (fk), .int (fp), .ref (kb), .ref (qb), .int (y268), .int (20), .int (st9), .ref (kb + 3)])) := e490
              have hP := hP.put hy2 e490 o491 (trivial) rfl
              refine lv_goto (tgt := 321) hx hb dX7_step_115 (by decide) ?_
              have hl492 : (20 : Int32).toInt = 20 := by decide
              obtain ⟨h8, h9⟩ := sp_c_semi (w := w) (p := sp_pos w j) (by omega) (by omega)
              exact hp_vret hx hb hr hlocks hZ ⟨rfl, hP, (fun x8 hne0 => (o491 x8 hne0).trans ((o276 x8 hne0).trans (fr8 x8 hne0))), y268, 20, st9, e490, ⟨by omega, by show _ = sp_S w (sp_pos w j); omega, by show _ = sp_E w (sp_pos w j); omega, by show _ = sp_K w (sp_pos w j); omega⟩⟩ dX7_step_321
          · have c288 : (r282).toInt = (-1 : Int) := hq_eqi.mp c288
            refine lv_aload_n hx hb dX7_step_94 rfl (lv_at hl 1 rfl) ?_
            refine lv_bipush (v := 21) hx hb dX7_step_95 (by decide) ?_
            refine hp_put hx hb hts hown hZ e275 fp_X7_45 rfl rfl (Nat.le_of_ble_eq_true rfl) dX7_step_97 (fun V493 _ _ e494 o495 hZ => ?_)
            have e494 : V493 (kb + 2) = some (.inr (7, [.int (fk), .int (fp), .ref (kb), .ref (qb), .int (y268), .int (21), .int (st9), .ref (kb + 3)])) := e494
            have hP := hP.put hy2 e494 o495 (trivial) rfl
            refine lv_goto (tgt := 321) hx hb dX7_step_100 (by decide) ?_
            have hl496 : (21 : Int32).toInt = 21 := by decide
            obtain ⟨h8, h9⟩ := sp_c_end (w := w) (p := sp_pos w j) (by omega)
            exact hp_vret hx hb hr hlocks hZ ⟨rfl, hP, (fun x8 hne0 => (o495 x8 hne0).trans ((o276 x8 hne0).trans (fr8 x8 hne0))), y268, 21, st9, e494, ⟨by omega, by show _ = sp_S w (sp_pos w j); omega, by show _ = sp_E w (sp_pos w j); omega, by show _ = sp_K w (sp_pos w j); omega⟩⟩ dX7_step_321
        · have c267 : (r261).toInt = (10 : Int) := hq_eqi.mp c267
          refine lv_aload_n hx hb dX7_step_54 rfl (lv_at hl 0 rfl) ?_
          refine lv_dup hx hb dX7_step_55 rfl ?_
          refine hp_get (v := .int (st9)) hx hb hts hown hZ ho4 fl_X7_174 rfl dX7_step_56 ?_
          refine lv_iconst (v := 1) hx hb dX7_step_59 (by decide) ?_
          refine lv_iadd hx hb dX7_step_60 ?_
          refine lv_topi (fun y497 ey498 => ?_)
          obtain ⟨k499, hk500, b501, b502⟩ := hq_add (st9) (1)
          rw [← ey498] at hk500 b501 b502
          have hk500 : (y497).toInt = (st9).toInt + (1 : Int) + k499 * 4294967296 := hk500
          obtain rfl : k499 = 0 := by omega
          refine hp_put hx hb hts hown hZ ho4 fp_X7_174 rfl rfl (Nat.le_of_ble_eq_true rfl) dX7_step_61 (fun V503 _ _ e504 o505 hZ => ?_)
          have e504 : V503 (kb + 2) = some (.inr (7, [.int (fk), .int (fp), .ref (kb), .ref (qb), .int (nx), .int (tk), .int (y497), .ref (kb + 3)])) := e504
          have hP := hP.put hy2 e504 o505 (trivial) rfl
          refine lv_goto (tgt := 8) hx hb dX7_step_64 (by decide) ?_
          exact ih8 _ (by omega) _ _ _ ls  (y497) rfl hZ hP e504 (fun x8 hne0 => (o505 x8 hne0).trans (fr8 x8 hne0)) (by omega) (by omega) (by rw [← hrun, sp_run_step (i := st9.toInt) (by omega) (sp_ws_t (by omega)), show (y497).toInt = st9.toInt + 1 by omega]) (lv_sub hl [0] rfl)

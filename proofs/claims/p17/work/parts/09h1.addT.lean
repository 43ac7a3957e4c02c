set_option maxHeartbeats 4000000 in
set_option maxRecDepth 100000 in
theorem x_addT (l : Launch) (D : va_G) (cs : Nat → ClassId) (B : Nat) (G : hq_G) (V : hp_V) (n : Nat) (hI : hq_I cs G V) (kb : Nat) (w : sp_W) (k : Int32) (z : Int32) (f : Nat → Int32) (hy0 : G (kb) = some (0, 4000, 0, 0)) (hy1 : G (kb + 1) = some (1, 4000, 0, 0)) (hc0 : V (kb) = some (.inr (9, [.ref (kb + 1), .int (z)]))) (hc1 : V (kb + 1) = some (.inl (cs 0, 4000, .inl (f)))) (hok : sp_okb w) (hw : (z.toInt = w.2 ∧ ∀ k : Nat, (k : Int) < w.2 → (f k).toInt = w.1 k)) (hn : w.2 + 1 ≤ 4000) : hp_M l yX9_add cX9_add 2 (some .boolean) ({ frames := 1, cells := 0, slots := 0, locals := 21 }) D cs B V n [.ref (kb), .int (k)] (hp_QI D cs B (fun r V' n' => n = n' ∧ hq_P cs G (fun _ => true) V V' ∧ (∀ x, x ≠ kb → x ≠ kb + 1 → V' x = V x) ∧ (∃ z1 : Int32, ∃ f1 : Nat → Int32, V' (kb) = some (.inr (9, [.ref (kb + 1), .int (z1)])) ∧ V' (kb + 1) = some (.inl (cs 0, 4000, .inl (f1))) ∧ (z1.toInt = (sp_add w (k.toInt8.toInt32).toInt).2) ∧ (∀ x : Nat, (x : Int) < (sp_add w (k.toInt8.toInt32).toInt).2 → (f1 x).toInt = (sp_add w (k.toInt8.toInt32).toInt).1 x) ∧ (r.toInt = 1)))) 0 0 := by
  refine hp_walk (R0 := RX9) (by decide) rfl ?_ (Nat.le_of_ble_eq_true rfl)
  intro p e s m below meth c ls hx hb hr hts hown hlocks hin hml hZ hl
  have hP : hq_P cs G (fun _ => true) V V := hq_P.rf hI
  have hl : lv_has ls 2 [(0, .ref (kb)), (1, .int (k))] := hl
  have hb_k := hq_rng k
  have hb_z := hq_rng z
  have hf_1 := hq_rgB hI hy1 hc1
  have hw1 := hw.1
  have hk1 := hok.1
  refine lv_aload_n hx hb dX9_add_0 rfl (lv_at hl 0 rfl) ?_
  refine hp_get (v := .int (z)) hx hb hts hown hZ hc0 fl_X9_21 rfl dX9_add_1 ?_
  refine lv_aload_n hx hb dX9_add_4 rfl (lv_at hl 0 rfl) ?_
  refine hp_get (v := .ref (kb + 1)) hx hb hts hown hZ hc0 fl_X9_15 rfl dX9_add_5 ?_
  refine hp_alen (v := 4000) hx hb hZ 0 hc1 rfl rfl dX9_add_8 ?_
  refine lv_icmp_lt (tgt := 14) hx hb dX9_add_9 (by decide) (fun c1 => ?_) (fun c1 => absurd (hq_lti.mpr (by have h9 : (4000 : Int32).toInt = 4000 := (by decide); omega)) c1)
  refine lv_aload_n hx hb dX9_add_14 rfl (lv_at hl 0 rfl) ?_
  refine hp_get (v := .ref (kb + 1)) hx hb hts hown hZ hc0 fl_X9_15 rfl dX9_add_15 ?_
  refine lv_aload_n hx hb dX9_add_18 rfl (lv_at hl 0 rfl) ?_
  refine hp_get (v := .int (z)) hx hb hts hown hZ hc0 fl_X9_21 rfl dX9_add_19 ?_
  refine lv_iload_n hx hb dX9_add_22 rfl (lv_at hl 1 rfl) ?_
  refine lv_i2b (v := (k).toInt8.toInt32) hx hb dX9_add_23 rfl ?_
  refine hp_bast hx hb hZ hc1 (hq_in (by omega) (by omega)) dX9_add_24 (fun V2 _ _ e3 o4 hZ => ?_)
  have e3 : V2 (kb + 1) = some (.inl (cs 0, 4000, .inl (upd (f) ((z : Int32).toNatClampNeg) (((k).toInt8.toInt32 : Int32).toInt8.toInt32)))) := e3
  have hP := hP.put hy1 e3 o4 (hq_c1 (by omega) (hq_updB hf_1)) rfl
  obtain ⟨g5, ge6⟩ : ∃ g9 : Nat → Int32, g9 = upd (f) ((z : Int32).toNatClampNeg) (((k).toInt8.toInt32 : Int32).toInt8.toInt32) := ⟨_, rfl⟩
  have fx7 : V2 (kb + 1) = some (.inl (cs 0, 4000, .inl (g5))) := by rw [ge6]; exact e3
  have hf8 := hq_rgB hP.1 hy1 fx7
  refine lv_aload_n hx hb dX9_add_25 rfl (lv_at hl 0 rfl) ?_
  refine lv_dup hx hb dX9_add_26 rfl ?_
  have fx9 : V2 (kb) = some (.inr (9, [.ref (kb + 1), .int (z)])) := (o4 (kb) (hq_tne hy0 hy1 (by simp))).trans (hc0)
  refine hp_get (v := .int (z)) hx hb hts hown hZ fx9 fl_X9_21 rfl dX9_add_27 ?_
  refine lv_iconst (v := 1) hx hb dX9_add_30 (by decide) ?_
  refine lv_iadd hx hb dX9_add_31 ?_
  refine lv_topi (fun y10 ey11 => ?_)
  obtain ⟨k12, hk13, b14, b15⟩ := hq_add (z) (1)
  rw [← ey11] at hk13 b14 b15
  have hk13 : (y10).toInt = (z).toInt + (1 : Int) + k12 * 4294967296 := hk13
  obtain rfl : k12 = 0 := by omega
  refine hp_put hx hb hts hown hZ fx9 fp_X9_21 rfl rfl (Nat.le_of_ble_eq_true rfl) dX9_add_32 (fun V16 _ _ e17 o18 hZ => ?_)
  have e17 : V16 (kb) = some (.inr (9, [.ref (kb + 1), .int (y10)])) := e17
  have hP := hP.put hy0 e17 o18 (hq_c0 hy1 (show 0 ≤ (y10).toInt by omega) (show (y10).toInt ≤ (4000 : Nat) by omega) (by omega) (by first | rfl | omega)) rfl
  refine lv_iconst (v := 1) hx hb dX9_add_35 (by decide) ?_
  have hl19 : (1 : Int32).toInt = 1 := by decide
  have fx20 : V16 (kb + 1) = some (.inl (cs 0, 4000, .inl (g5))) := (o18 (kb + 1) (hq_tne hy1 hy0 (by simp))).trans (fx7)
  exact hp_zret hx hb hr rfl hlocks hZ ⟨rfl, hP, (fun x8 hne0 hne1 => (o18 x8 hne0).trans (o4 x8 hne1)), y10, g5, e17, fx20, by have h8 := hw.1; show _ = w.2 + 1; omega, sp_add_g (by have h8 := hok.1.1; omega) hw.2 (hw.1) (ge6.trans (by rw [hx_n88])), by omega⟩ dX9_add_36

set_option maxHeartbeats 4000000 in
set_option maxRecDepth 100000 in
theorem x_addIntT (l : Launch) (D : va_G) (cs : Nat → ClassId) (B : Nat) (G : hq_G) (V : hp_V) (n : Nat) (hI : hq_I cs G V) (kb : Nat) (w : sp_W) (v : Int32) (z : Int32) (f : Nat → Int32) (hy0 : G (kb) = some (0, 4000, 0, 0)) (hy1 : G (kb + 1) = some (1, 4000, 0, 0)) (hc0 : V (kb) = some (.inr (9, [.ref (kb + 1), .int (z)]))) (hc1 : V (kb + 1) = some (.inl (cs 0, 4000, .inl (f)))) (hok : sp_okb w) (hw : (z.toInt = w.2 ∧ ∀ k : Nat, (k : Int) < w.2 → (f k).toInt = w.1 k)) (hn : w.2 + 4 ≤ 4000) : hp_M l yX9_addInt cX9_addInt 3 none ({ frames := 2, cells := 0, slots := 0, locals := 42 }) D cs B V n [.ref (kb), .int (v)] (hp_QV D cs B (fun V' n' => n = n' ∧ hq_P cs G (fun _ => true) V V' ∧ (∀ x, x ≠ kb → x ≠ kb + 1 → V' x = V x) ∧ (∃ z1 : Int32, ∃ f1 : Nat → Int32, V' (kb) = some (.inr (9, [.ref (kb + 1), .int (z1)])) ∧ V' (kb + 1) = some (.inl (cs 0, 4000, .inl (f1))) ∧ (z1.toInt = (sp_addI w v).2) ∧ (∀ x : Nat, (x : Int) < (sp_addI w v).2 → (f1 x).toInt = (sp_addI w v).1 x)))) 0 0 := by
  refine hp_walk (R0 := RX9) (by decide) rfl ?_ (Nat.le_of_ble_eq_true rfl)
  intro p e s m below meth c ls hx hb hr hts hown hlocks hin hml hZ hl
  have hP : hq_P cs G (fun _ => true) V V := hq_P.rf hI
  have hl : lv_has ls 3 [(0, .ref (kb)), (1, .int (v))] := hl
  have hb_v := hq_rng v
  have hb_z := hq_rng z
  have hf_1 := hq_rgB hI hy1 hc1
  have hw1 := hw.1
  have hk1 := hok.1
  refine lv_bipush (v := 24) hx hb dX9_addInt_0 (by decide) ?_
  refine lv_istore_n (lv' := [(2, .int (24)), (0, .ref (kb)), (1, .int (v))]) hx hb dX9_addInt_2 rfl hl (by decide) rfl (fun ls hl => ?_)
  refine lv_iload_n hx hb dX9_addInt_3 rfl (lv_at hl 0 rfl) ?_
  refine lv_if_lt (tgt := 21) hx hb dX9_addInt_4 (by decide) (fun c1 => absurd c1 (by decide)) (fun c1 => ?_)
  refine lv_aload_n hx hb dX9_addInt_7 rfl (lv_at hl 1 rfl) ?_
  refine lv_iload_n hx hb dX9_addInt_8 rfl (lv_at hl 2 rfl) ?_
  refine lv_iload_n hx hb dX9_addInt_9 rfl (lv_at hl 0 rfl) ?_
  refine lv_ishr hx hb dX9_addInt_10 ?_
  refine lv_topi (fun y2 ey3 => ?_)
  have b4 := hq_rng y2
  refine hp_calli (hp_runV (As := [.int (y2)]) (rest := []) hx hb hml hown hts (x_addT l D cs B G V n hP.1 (kb) (w) (y2) (z) (f) hy0 hy1 hc0 hc1  hok hw (by omega)) hZ hc0 cv_X9_25 rfl rfl ⟨Nat.le_of_ble_eq_true rfl, Nat.le_of_ble_eq_true rfl⟩ rfl hl.1 rfl (Nat.le_of_ble_eq_true rfl) dX9_addInt_11 ⟨(Nat.le_of_ble_eq_true rfl), (Nat.le_of_ble_eq_true rfl)⟩) hZ (fun r8 V5 n6 _ _ hw7 hZ => ?_)
  obtain ⟨rfl, hq9, fr10, z11, u12, ho13, ho14, hp15, hp16, hp17⟩ := hw7
  have b18 := hq_rng z11
  have hP := hP.trans hq9 (fun _ h => Bool.noConfusion h)
  have hf19 := hq_rgB hP.1 hy1 ho14
  have b20 := hq_rng r8
  rw [show ((y2).toInt8.toInt32).toInt = sp_fb v 24 from by rw [ey3]; rfl] at hp15 hp16
  have hn23 : (sp_add w (sp_fb v 24)).2 = (w).2 + 1 := rfl
  have hw21 := And.intro hp15 hp16
  have hok22 := sp_okb_add hok (by omega) (sp_fb_rg v 24)
  refine lv_pop hx hb dX9_addInt_14 rfl ?_
  refine lv_iinc (v := 16) (lv' := [(2, .int (16)), (0, .ref (kb)), (1, .int (v))]) hx hb dX9_addInt_15 hl (k := 0) rfl (by decide) (by decide) rfl (fun ls hl => ?_)
  refine lv_goto (tgt := 3) hx hb dX9_addInt_18 (by decide) ?_
  refine lv_iload_n hx hb dX9_addInt_3 rfl (lv_at hl 0 rfl) ?_
  refine lv_if_lt (tgt := 21) hx hb dX9_addInt_4 (by decide) (fun c24 => absurd c24 (by decide)) (fun c24 => ?_)
  refine lv_aload_n hx hb dX9_addInt_7 rfl (lv_at hl 1 rfl) ?_
  refine lv_iload_n hx hb dX9_addInt_8 rfl (lv_at hl 2 rfl) ?_
  refine lv_iload_n hx hb dX9_addInt_9 rfl (lv_at hl 0 rfl) ?_
  refine lv_ishr hx hb dX9_addInt_10 ?_
  refine lv_topi (fun y25 ey26 => ?_)
  have b27 := hq_rng y25
  refine hp_calli (hp_runV (As := [.int (y25)]) (rest := []) hx hb hml hown hts (x_addT l D cs B G V5 n hP.1 (kb) ((sp_add w (sp_fb v 24))) (y25) (z11) (u12) hy0 hy1 ho13 ho14  hok22 hw21 (by omega)) hZ ho13 cv_X9_25 rfl rfl ⟨Nat.le_of_ble_eq_true rfl, Nat.le_of_ble_eq_true rfl⟩ rfl hl.1 rfl (Nat.le_of_ble_eq_true rfl) dX9_addInt_11 ⟨(Nat.le_of_ble_eq_true rfl), (Nat.le_of_ble_eq_true rfl)⟩) hZ (fun r31 V28 n29 _ _ hw30 hZ => ?_)
  obtain ⟨rfl, hq32, fr33, z34, u35, ho36, ho37, hp38, hp39, hp40⟩ := hw30
  have b41 := hq_rng z34
  have hP := hP.trans hq32 (fun _ h => Bool.noConfusion h)
  have hf42 := hq_rgB hP.1 hy1 ho37
  have b43 := hq_rng r31
  rw [show ((y25).toInt8.toInt32).toInt = sp_fb v 16 from by rw [ey26]; rfl] at hp38 hp39
  have hn46 : (sp_add (sp_add w (sp_fb v 24)) (sp_fb v 16)).2 = ((sp_add w (sp_fb v 24))).2 + 1 := rfl
  have hw44 := And.intro hp38 hp39
  have hok45 := sp_okb_add hok22 (by omega) (sp_fb_rg v 16)
  refine lv_pop hx hb dX9_addInt_14 rfl ?_
  refine lv_iinc (v := 8) (lv' := [(2, .int (8)), (0, .ref (kb)), (1, .int (v))]) hx hb dX9_addInt_15 hl (k := 0) rfl (by decide) (by decide) rfl (fun ls hl => ?_)
  refine lv_goto (tgt := 3) hx hb dX9_addInt_18 (by decide) ?_
  refine lv_iload_n hx hb dX9_addInt_3 rfl (lv_at hl 0 rfl) ?_
  refine lv_if_lt (tgt := 21) hx hb dX9_addInt_4 (by decide) (fun c47 => absurd c47 (by decide)) (fun c47 => ?_)
  refine lv_aload_n hx hb dX9_addInt_7 rfl (lv_at hl 1 rfl) ?_
  refine lv_iload_n hx hb dX9_addInt_8 rfl (lv_at hl 2 rfl) ?_
  refine lv_iload_n hx hb dX9_addInt_9 rfl (lv_at hl 0 rfl) ?_
  refine lv_ishr hx hb dX9_addInt_10 ?_
  refine lv_topi (fun y48 ey49 => ?_)
  have b50 := hq_rng y48
  refine hp_calli (hp_runV (As := [.int (y48)]) (rest := []) hx hb hml hown hts (x_addT l D cs B G V28 n hP.1 (kb) ((sp_add (sp_add w (sp_fb v 24)) (sp_fb v 16))) (y48) (z34) (u35) hy0 hy1 ho36 ho37  hok45 hw44 (by omega)) hZ ho36 cv_X9_25 rfl rfl ⟨Nat.le_of_ble_eq_true rfl, Nat.le_of_ble_eq_true rfl⟩ rfl hl.1 rfl (Nat.le_of_ble_eq_true rfl) dX9_addInt_11 ⟨(Nat.le_of_ble_eq_true rfl), (Nat.le_of_ble_eq_true rfl)⟩) hZ (fun r54 V51 n52 _ _ hw53 hZ => ?_)
  obtain ⟨rfl, hq55, fr56, z57, u58, ho59, ho60, hp61, hp62, hp63⟩ := hw53
  have b64 := hq_rng z57
  have hP := hP.trans hq55 (fun _ h => Bool.noConfusion h)
  have hf65 := hq_rgB hP.1 hy1 ho60
  have b66 := hq_rng r54
  rw [show ((y48).toInt8.toInt32).toInt = sp_fb v 8 from by rw [ey49]; rfl] at hp61 hp62
  have hn69 : (sp_add (sp_add (sp_add w (sp_fb v 24)) (sp_fb v 16)) (sp_fb v 8)).2 = ((sp_add (sp_add w (sp_fb v 24)) (sp_fb v 16))).2 + 1 := rfl
  have hw67 := And.intro hp61 hp62
  have hok68 := sp_okb_add hok45 (by omega) (sp_fb_rg v 8)
  refine lv_pop hx hb dX9_addInt_14 rfl ?_
  refine lv_iinc (v := 0) (lv' := [(2, .int (0)), (0, .ref (kb)), (1, .int (v))]) hx hb dX9_addInt_15 hl (k := 0) rfl (by decide) (by decide) rfl (fun ls hl => ?_)
  refine lv_goto (tgt := 3) hx hb dX9_addInt_18 (by decide) ?_
  refine lv_iload_n hx hb dX9_addInt_3 rfl (lv_at hl 0 rfl) ?_
  refine lv_if_lt (tgt := 21) hx hb dX9_addInt_4 (by decide) (fun c70 => absurd c70 (by decide)) (fun c70 => ?_)
  refine lv_aload_n hx hb dX9_addInt_7 rfl (lv_at hl 1 rfl) ?_
  refine lv_iload_n hx hb dX9_addInt_8 rfl (lv_at hl 2 rfl) ?_
  refine lv_iload_n hx hb dX9_addInt_9 rfl (lv_at hl 0 rfl) ?_
  refine lv_ishr hx hb dX9_addInt_10 ?_
  refine lv_topi (fun y71 ey72 => ?_)
  have b73 := hq_rng y71
  refine hp_calli (hp_runV (As := [.int (y71)]) (rest := []) hx hb hml hown hts (x_addT l D cs B G V51 n hP.1 (kb) ((sp_add (sp_add (sp_add w (sp_fb v 24)) (sp_fb v 16)) (sp_fb v 8))) (y71) (z57) (u58) hy0 hy1 ho59 ho60  hok68 hw67 (by omega)) hZ ho59 cv_X9_25 rfl rfl ⟨Nat.le_of_ble_eq_true rfl, Nat.le_of_ble_eq_true rfl⟩ rfl hl.1 rfl (Nat.le_of_ble_eq_true rfl) dX9_addInt_11 ⟨(Nat.le_of_ble_eq_true rfl), (Nat.le_of_ble_eq_true rfl)⟩) hZ (fun r77 V74 n75 _ _ hw76 hZ => ?_)
  obtain ⟨rfl, hq78, fr79, z80, u81, ho82, ho83, hp84, hp85, hp86⟩ := hw76
  have b87 := hq_rng z80
  have hP := hP.trans hq78 (fun _ h => Bool.noConfusion h)
  have hf88 := hq_rgB hP.1 hy1 ho83
  have b89 := hq_rng r77
  rw [show ((y71).toInt8.toInt32).toInt = sp_fb v 0 from by rw [ey72]; rfl] at hp84 hp85
  have hn92 : (sp_add (sp_add (sp_add (sp_add w (sp_fb v 24)) (sp_fb v 16)) (sp_fb v 8)) (sp_fb v 0)).2 = ((sp_add (sp_add (sp_add w (sp_fb v 24)) (sp_fb v 16)) (sp_fb v 8))).2 + 1 := rfl
  have hw90 := And.intro hp84 hp85
  have hok91 := sp_okb_add hok68 (by omega) (sp_fb_rg v 0)
  refine lv_pop hx hb dX9_addInt_14 rfl ?_
  refine lv_iinc (v := -8) (lv' := [(2, .int (-8)), (0, .ref (kb)), (1, .int (v))]) hx hb dX9_addInt_15 hl (k := 0) rfl (by decide) (by decide) rfl (fun ls hl => ?_)
  refine lv_goto (tgt := 3) hx hb dX9_addInt_18 (by decide) ?_
  refine lv_iload_n hx hb dX9_addInt_3 rfl (lv_at hl 0 rfl) ?_
  refine lv_if_lt (tgt := 21) hx hb dX9_addInt_4 (by decide) (fun c93 => ?_) (fun c93 => absurd (by decide) c93)
  exact hp_vret hx hb hr hlocks hZ ⟨rfl, hP, (fun x8 hne0 hne1 => (fr79 x8 hne0 hne1).trans ((fr56 x8 hne0 hne1).trans ((fr33 x8 hne0 hne1).trans (fr10 x8 hne0 hne1)))), z80, u81, ho82, ho83, hw90.1, hw90.2⟩ dX9_addInt_21

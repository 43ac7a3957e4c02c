set_option maxHeartbeats 4000000 in
set_option maxRecDepth 100000 in
theorem x_sall (l : Launch) (D : va_G) (cs : Nat → ClassId) (B : Nat) (G : hq_G) (V : hp_V) (n : Nat) (hI : hq_I cs G V) (mk : Nat) (md : Nat) (mh : Nat) (pt : Nat) (ch : Nat) (qt : Nat) (t : Nat) (bb : Nat) (w : sp_W) (bk : sp_B) (wz : Int32) (k : Int32) (k2 : Int32) (bc : Int32) (bv : Int32) (bl : Int32) (z : Int32) (f : Nat → Int32) (cz : Int32) (cf : Nat → Int32) (u : List Int) (hy0 : G (mk) = some (11, 0, 0, 0)) (hy1 : G (md) = some (8, 4, 0, 0)) (hy2 : G (mh) = some (8, 2, 0, 0)) (hy3 : G (pt) = some (8, 2, 0, 0)) (hy4 : G (ch) = some (0, 30, 0, 0)) (hy5 : G (ch + 1) = some (1, 30, 0, 0)) (hy6 : G (t) = some (0, 30, 0, 0)) (hy7 : G (t + 1) = some (1, 30, 0, 0)) (hc0 : V (mk) = some (.inr (6, [.ref (md), .int (wz), .ref (mh), .ref (pt), .ref (ch)]))) (hc1 : V (qt) = some (.inr (0, [.ref (qt + 1), .int (bc), .ref (qt + 14), .ref (qt + 75), .int (bv), .ref (qt + 76), .int (bl)]))) (hc2 : V (t) = some (.inr (9, [.ref (t + 1), .int (z)]))) (hc3 : V (t + 1) = some (.inl (cs 0, 30, .inl (f)))) (hc4 : V (ch) = some (.inr (9, [.ref (ch + 1), .int (cz)]))) (hc5 : V (ch + 1) = some (.inl (cs 0, 30, .inl (cf)))) (hp0 : hx_LL cs V (qt + 77) w bk.2.2.2) (hp1 : hx_BS cs V qt) (hbl : bl.toInt = (bk.2.2.2.length : Int)) (hgd : sp_good w bk) (hgd2 : sp_good2 bk) (hBT : hx_BT G qt bb) (hu : sp_rp z f u) (hlen : z.toInt ≤ 30 ∧ (0 ≤ cz.toInt ∧ cz.toInt ≤ 30)) (hne : (t ≠ ch ∧ t ≠ ch + 1 ∧ t + 1 ≠ ch ∧ t + 1 ≠ ch + 1) ∧ mk < qt ∧ ch + 1 < qt ∧ t + 1 < qt ∧ (mk ≠ t ∧ mk ≠ t + 1 ∧ mk ≠ ch ∧ mk ≠ ch + 1)) (hsh : md = mk + 1 ∧ mh = mk + 19 ∧ pt = mk + 29 ∧ ch = mk + 39) : hp_M l yX6_soundAll cX6_soundAll 9 (some .long) ({ frames := 4, cells := 0, slots := 0, locals := 93 }) D cs B V n [.ref (mk), .ref (qt), .ref (t), .int (k), .int (k2)] (hp_QL D cs B (fun r V' n' => n = n' ∧ hq_P cs G (fun _ => true) V V' ∧ (∀ x, x ≠ mk → x ≠ ch → x ≠ ch + 1 → x ≠ t → x ≠ t + 1 → V' x = V x) ∧ (∃ wz1 : Int32, ∃ z1 : Int32, ∃ f1 : Nat → Int32, ∃ cz1 : Int32, ∃ cf1 : Nat → Int32, V' (mk) = some (.inr (6, [.ref (md), .int (wz1), .ref (mh), .ref (pt), .ref (ch)])) ∧ V' (t) = some (.inr (9, [.ref (t + 1), .int (z1)])) ∧ V' (t + 1) = some (.inl (cs 0, 30, .inl (f1))) ∧ V' (ch) = some (.inr (9, [.ref (ch + 1), .int (cz1)])) ∧ V' (ch + 1) = some (.inl (cs 0, 30, .inl (cf1))) ∧ ((wz1.toInt = 1 ∧ ∃ u1, sp_sa w k.toInt k2.toInt bk.2.2.2 0 u = some u1 ∧ 0 < u1.length ∧ sp_rp z1 f1 u1) ∨ (wz1.toInt = 0 ∧ ∀ u1, sp_sa w k.toInt k2.toInt bk.2.2.2 0 u = some u1 → u1.length = 0)) ∧ (∀ cc : Nat, (sp_bt r cc ↔ sp_hd w k.toInt k2.toInt bk.2.2.2 u cc)) ∧ ((0 ≤ z1.toInt ∧ z1.toInt ≤ 30) ∧ (0 ≤ cz1.toInt ∧ cz1.toInt ≤ 30))))) 0 0 := by
  refine hp_walk (R0 := RX6) (by decide) rfl ?_ (Nat.le_of_ble_eq_true rfl)
  intro p e s m below meth c ls hx hb hr hts hown hlocks hin hml hZ hl
  have hP : hq_P cs G (fun _ => true) V V := hq_P.rf hI
  have hl : lv_has ls 9 [(0, .ref (mk)), (1, .ref (qt)), (2, .ref (t)), (3, .int (k)), (4, .int (k2))] := hl
  have hb_wz := hq_rng wz
  have hb_k := hq_rng k
  have hb_k2 := hq_rng k2
  have hb_bc := hq_rng bc
  have hb_bv := hq_rng bv
  have hb_bl := hq_rng bl
  have hb_z := hq_rng z
  have hb_cz := hq_rng cz
  have hf_3 := hq_rgB hI hy7 hc3
  have hf_5 := hq_rgB hI hy5 hc5
  obtain ⟨⟨g1, hg1, hr1⟩, ⟨g2, hg2, hr2⟩, ⟨g3, hg3, hr3⟩⟩ := id hp1
  have hll9 := hp0.1
  have hu1 := hu.1
  obtain ⟨hle1, hle2, hle3⟩ := hlen
  refine lv_lconst (v := 0) hx hb dX6_soundAll_0 (by decide) ?_
  refine lv_lstore (lv' := [(5, .long (0)), (0, .ref (mk)), (1, .ref (qt)), (2, .ref (t)), (3, .int (k)), (4, .int (k2))]) hx hb dX6_soundAll_1 hl (by decide) rfl (fun ls hl => ?_)
  refine lv_aload_n hx hb dX6_soundAll_3 rfl (lv_at hl 1 rfl) ?_
  refine lv_iconst (v := 1) hx hb dX6_soundAll_4 (by decide) ?_
  refine hp_put hx hb hts hown hZ hc0 fp_X6_118 rfl rfl (Nat.le_of_ble_eq_true rfl) dX6_soundAll_5 (fun V1 _ _ e2 o3 hZ => ?_)
  have e2 : V1 (mk) = some (.inr (6, [.ref (md), .int (1), .ref (mh), .ref (pt), .ref (ch)])) := e2
  have hP := hP.put hy0 e2 o3 (hq_c11 hy1 hy2 hy3 hy4 (show 0 ≤ (1 : Int) by omega) (show (1 : Int) ≤ 1 by omega) (by first | rfl | exact hsh.1 | omega) (by first | rfl | exact hsh.2.1 | omega) (by first | rfl | exact hsh.2.2.1 | omega) (by first | rfl | exact hsh.2.2.2 | omega)) rfl
  refine lv_iconst (v := 0) hx hb dX6_soundAll_8 (by decide) ?_
  refine lv_istore (lv' := [(7, .int (0)), (5, .long (0)), (0, .ref (mk)), (1, .ref (qt)), (2, .ref (t)), (3, .int (k)), (4, .int (k2))]) hx hb dX6_soundAll_9 hl (by decide) rfl (fun ls hl => ?_)
  have fx5 : V1 (t) = some (.inr (9, [.ref (t + 1), .int (z)])) := (o3 (t) (hq_tne hy6 hy0 (by simp))).trans (hc2)
  have fx7 : V1 (t + 1) = some (.inl (cs 0, 30, .inl (f))) := (o3 (t + 1) (hq_tne hy7 hy0 (by simp))).trans (hc3)
  have fx9 : V1 (ch) = some (.inr (9, [.ref (ch + 1), .int (cz)])) := (o3 (ch) (hq_tne hy4 hy0 (by simp))).trans (hc4)
  have fx11 : V1 (ch + 1) = some (.inl (cs 0, 30, .inl (cf))) := (o3 (ch + 1) (hq_tne hy5 hy0 (by simp))).trans (hc5)
  have pk13 := hp0.keep (fun x7 (hx7 : qt + 77 ≤ x7 ∧ x7 < qt + 77 + 5 * bk.2.2.2.length) => o3 x7 (by omega))
  have hl15 : (1 : Int32).toInt = 1 := by decide
  have hl16 : (0 : Int32).toInt = 0 := by decide
  suffices lp11 : ∀ (k9 : Nat) (V9 : hp_V) (H9 : Heap) (locs9 : List Loc) (ls : Array Slot) (bits : Int64) (i : Int32) (u9 : List Int) (wz9 : Int32) (z9 : Int32) (f9 : Nat → Int32) (cz9 : Int32) (cf9 : Nat → Int32), (200 - i.toInt).toNat = k9 → hp_Z D cs B s V9 H9 n locs9 → hq_P cs G (fun _ => true) V V9 → V9 (mk) = some (.inr (6, [.ref (md), .int (wz9), .ref (mh), .ref (pt), .ref (ch)])) → V9 (t) = some (.inr (9, [.ref (t + 1), .int (z9)])) → V9 (t + 1) = some (.inl (cs 0, 30, .inl (f9))) → V9 (ch) = some (.inr (9, [.ref (ch + 1), .int (cz9)])) → V9 (ch + 1) = some (.inl (cs 0, 30, .inl (cf9))) → (∀ x, x ≠ mk → x ≠ ch → x ≠ ch + 1 → x ≠ t → x ≠ t + 1 → V9 x = V x) → hx_LL cs V9 (qt + 77) w bk.2.2.2 → 0 ≤ i.toInt → i.toInt ≤ (bk.2.2.2.length : Int) → (0 ≤ z9.toInt ∧ z9.toInt ≤ 30) ∧ (0 ≤ cz9.toInt ∧ cz9.toInt ≤ 30) → ((wz9.toInt = 1 ∧ sp_rp z9 f9 u9 ∧ sp_pre w k.toInt k2.toInt bk.2.2.2 u i.toInt.toNat = some u9) ∨ (wz9.toInt = 0 ∧ sp_pre w k.toInt k2.toInt bk.2.2.2 u i.toInt.toNat = none)) → (∀ cc : Nat, (sp_bt bits cc ↔ ((cc : Int) < i.toInt ∧ sp_hd w k.toInt k2.toInt bk.2.2.2 u cc))) → lv_has ls 9 [(7, .int (i)), (5, .long (bits)), (0, .ref (mk)), (1, .ref (qt)), (2, .ref (t)), (3, .int (k)), (4, .int (k2))] → W p l e ({ frames := 4, cells := 0, slots := 0, locals := 93 }) s m ([.ref (mk), .ref (qt), .ref (t), .int (k), .int (k2)] : List Value).toArray below meth c H9 locs9 0 0 (MQ below (hp_QL D cs B (fun r V' n' => n = n' ∧ hq_P cs G (fun _ => true) V V' ∧ (∀ x, x ≠ mk → x ≠ ch → x ≠ ch + 1 → x ≠ t → x ≠ t + 1 → V' x = V x) ∧ (∃ wz1 : Int32, ∃ z1 : Int32, ∃ f1 : Nat → Int32, ∃ cz1 : Int32, ∃ cf1 : Nat → Int32, V' (mk) = some (.inr (6, [.ref (md), .int (wz1), .ref (mh), .ref (pt), .ref (ch)])) ∧ V' (t) = some (.inr (9, [.ref (t + 1), .int (z1)])) ∧ V' (t + 1) = some (.inl (cs 0, 30, .inl (f1))) ∧ V' (ch) = some (.inr (9, [.ref (ch + 1), .int (cz1)])) ∧ V' (ch + 1) = some (.inl (cs 0, 30, .inl (cf1))) ∧ ((wz1.toInt = 1 ∧ ∃ u1, sp_sa w k.toInt k2.toInt bk.2.2.2 0 u = some u1 ∧ 0 < u1.length ∧ sp_rp z1 f1 u1) ∨ (wz1.toInt = 0 ∧ ∀ u1, sp_sa w k.toInt k2.toInt bk.2.2.2 0 u = some u1 → u1.length = 0)) ∧ (∀ cc : Nat, (sp_bt r cc ↔ sp_hd w k.toInt k2.toInt bk.2.2.2 u cc)) ∧ ((0 ≤ z1.toInt ∧ z1.toInt ≤ 30) ∧ (0 ≤ cz1.toInt ∧ cz1.toInt ≤ 30))))) ([.ref (mk), .ref (qt), .ref (t), .int (k), .int (k2)] : List Value).toArray s 0 0 (hp_F B)) (F0 m 11 ls []) from lp11 _ _ _ _ ls (0) (0) (u) (1) (z) (f) (cz) (cf) rfl hZ hP e2 fx5 fx7 fx9 fx11 (fun x8 hne0 hne1 hne2 hne3 hne4 => o3 x8 hne0) pk13 (by omega) (by omega) (by omega) (Or.inl ⟨by decide, hu, rfl⟩) (fun cc => ⟨fun g9 => absurd g9 (sp_bt_0 cc), fun g9 => by omega⟩) (lv_sub hl [0, 1, 2, 3, 4, 5, 6] rfl)
  intro k9
  induction k9 using Nat.strongRecOn with
  | _ k9 ih11 =>
    intro V9 H9 locs9 ls bits i u9 wz9 z9 f9 cz9 cf9 hk11 hZ hP ho4 ho6 ho8 ho10 ho12 fr11 pk14 hv17 hv18 hv19 hrun hbits hl
    have hb_i := hq_rng i
    have hb_wz9 := hq_rng wz9
    have hb_z9 := hq_rng z9
    have hb_cz9 := hq_rng cz9
    have hf20 := hq_rgB hP.1 hy7 ho8
    have hf21 := hq_rgB hP.1 hy5 ho12
    refine lv_iload hx hb dX6_soundAll_11 (lv_at hl 0 rfl) ?_
    refine lv_aload_n hx hb dX6_soundAll_13 rfl (lv_at hl 3 rfl) ?_
    have fx22 : V9 (qt) = some (.inr (0, [.ref (qt + 1), .int (bc), .ref (qt + 14), .ref (qt + 75), .int (bv), .ref (qt + 76), .int (bl)])) := (fr11 (qt) (by omega) (by omega) (by omega) (by omega) (by omega)).trans (hc1)
    refine hp_get (v := .int (bl)) hx hb hts hown hZ fx22 fl_X6_122 rfl dX6_soundAll_14 ?_
    refine lv_icmp_ge (tgt := 96) hx hb dX6_soundAll_17 (by decide) (fun c23 => ?_) (fun c23 => ?_)
    · have c23 : (bl).toInt ≤ (i).toInt := hq_lei.mp c23
      refine lv_aload_n hx hb dX6_soundAll_96 rfl (lv_at hl 2 rfl) ?_
      refine lv_aload_n hx hb dX6_soundAll_97 rfl (lv_at hl 2 rfl) ?_
      refine hp_get (v := .int (wz9)) hx hb hts hown hZ ho4 fl_X6_118 rfl dX6_soundAll_98 ?_
      refine lv_if_eq (tgt := 115) hx hb dX6_soundAll_101 (by decide) (fun c24 => ?_) (fun c24 => ?_)
      · have c24 : (wz9).toInt = (0 : Int) := hq_eqi.mp c24
        have hrn : sp_pre w k.toInt k2.toInt bk.2.2.2 u i.toInt.toNat = none := by rcases hrun with g9 | g9; (· omega); (· exact g9.2)
        refine lv_iconst (v := 0) hx hb dX6_soundAll_115 (by decide) ?_
        refine hp_put hx hb hts hown hZ ho4 fp_X6_118 rfl rfl (Nat.le_of_ble_eq_true rfl) dX6_soundAll_116 (fun V25 _ _ e26 o27 hZ => ?_)
        have e26 : V25 (mk) = some (.inr (6, [.ref (md), .int (0), .ref (mh), .ref (pt), .ref (ch)])) := e26
        have hP := hP.put hy0 e26 o27 (hq_c11 hy1 hy2 hy3 hy4 (show 0 ≤ (0 : Int) by omega) (show (0 : Int) ≤ 1 by omega) (by first | rfl | exact hsh.1 | omega) (by first | rfl | exact hsh.2.1 | omega) (by first | rfl | exact hsh.2.2.1 | omega) (by first | rfl | exact hsh.2.2.2 | omega)) rfl
        refine lv_lload hx hb dX6_soundAll_119 (lv_at hl 1 rfl) ?_
        have fx28 : V25 (t) = some (.inr (9, [.ref (t + 1), .int (z9)])) := (o27 (t) (hq_tne hy6 hy0 (by simp))).trans (ho6)
        have fx29 : V25 (t + 1) = some (.inl (cs 0, 30, .inl (f9))) := (o27 (t + 1) (hq_tne hy7 hy0 (by simp))).trans (ho8)
        have fx30 : V25 (ch) = some (.inr (9, [.ref (ch + 1), .int (cz9)])) := (o27 (ch) (hq_tne hy4 hy0 (by simp))).trans (ho10)
        have fx31 : V25 (ch + 1) = some (.inl (cs 0, 30, .inl (cf9))) := (o27 (ch + 1) (hq_tne hy5 hy0 (by simp))).trans (ho12)
        have hl32 : (0 : Int32).toInt = 0 := by decide
        have hfin : sp_sa w k.toInt k2.toInt bk.2.2.2 0 u = none := by rw [sp_sa_fin, show bk.2.2.2.length = i.toInt.toNat + (bk.2.2.2.length - i.toInt.toNat) by omega]; exact sp_pre_mono hrn _
        exact hp_lret hx hb hr hlocks hZ ⟨rfl, hP, (fun x8 hne0 hne1 hne2 hne3 hne4 => (o27 x8 hne0).trans (fr11 x8 hne0 hne1 hne2 hne3 hne4)), 0, z9, f9, cz9, cf9, e26, fx28, fx29, fx30, fx31, Or.inr ⟨by omega, fun u1 h9 => by rw [hfin] at h9; cases h9⟩, fun cc => by rw [hbits cc]; constructor; (· exact fun g9 => g9.2); (· intro g2; refine ⟨?_, g2⟩; rcases Classical.em ((cc : Int) < i.toInt) with c9 | c9; (· exact c9); (· exfalso; obtain ⟨-, -, v, x, hv, -⟩ := g2; rw [show cc = i.toInt.toNat + (cc - i.toInt.toNat) by omega, sp_pre_mono hrn] at hv; cases hv)), by omega⟩ dX6_soundAll_121
      · have c24 : ¬ (wz9).toInt = (0 : Int) := fun h9 => c24 (hq_eqi.mpr h9)
        obtain ⟨hr1, hru, hrp⟩ : wz9.toInt = 1 ∧ sp_rp z9 f9 u9 ∧ sp_pre w k.toInt k2.toInt bk.2.2.2 u i.toInt.toNat = some u9 := by rcases hrun with g9 | g9; (· exact g9); (· omega)
        have hru1 := hru.1
        refine lv_aload_n hx hb dX6_soundAll_104 rfl (lv_at hl 4 rfl) ?_
        refine hp_get (v := .int (z9)) hx hb hts hown hZ ho6 fl_X6_132 rfl dX6_soundAll_105 ?_
        refine lv_if_le (tgt := 115) hx hb dX6_soundAll_108 (by decide) (fun c33 => ?_) (fun c33 => ?_)
        · have c33 : (z9).toInt ≤ (0 : Int) := hq_lei.mp c33
          refine lv_iconst (v := 0) hx hb dX6_soundAll_115 (by decide) ?_
          refine hp_put hx hb hts hown hZ ho4 fp_X6_118 rfl rfl (Nat.le_of_ble_eq_true rfl) dX6_soundAll_116 (fun V34 _ _ e35 o36 hZ => ?_)
          have e35 : V34 (mk) = some (.inr (6, [.ref (md), .int (0), .ref (mh), .ref (pt), .ref (ch)])) := e35
          have hP := hP.put hy0 e35 o36 (hq_c11 hy1 hy2 hy3 hy4 (show 0 ≤ (0 : Int) by omega) (show (0 : Int) ≤ 1 by omega) (by first | rfl | exact hsh.1 | omega) (by first | rfl | exact hsh.2.1 | omega) (by first | rfl | exact hsh.2.2.1 | omega) (by first | rfl | exact hsh.2.2.2 | omega)) rfl
          refine lv_lload hx hb dX6_soundAll_119 (lv_at hl 1 rfl) ?_
          have fx37 : V34 (t) = some (.inr (9, [.ref (t + 1), .int (z9)])) := (o36 (t) (hq_tne hy6 hy0 (by simp))).trans (ho6)
          have fx38 : V34 (t + 1) = some (.inl (cs 0, 30, .inl (f9))) := (o36 (t + 1) (hq_tne hy7 hy0 (by simp))).trans (ho8)
          have fx39 : V34 (ch) = some (.inr (9, [.ref (ch + 1), .int (cz9)])) := (o36 (ch) (hq_tne hy4 hy0 (by simp))).trans (ho10)
          have fx40 : V34 (ch + 1) = some (.inl (cs 0, 30, .inl (cf9))) := (o36 (ch + 1) (hq_tne hy5 hy0 (by simp))).trans (ho12)
          have hl41 : (0 : Int32).toInt = 0 := by decide
          have hfin : sp_sa w k.toInt k2.toInt bk.2.2.2 0 u = some u9 := by rw [sp_sa_fin, show bk.2.2.2.length = i.toInt.toNat by omega]; exact hrp
          exact hp_lret hx hb hr hlocks hZ ⟨rfl, hP, (fun x8 hne0 hne1 hne2 hne3 hne4 => (o36 x8 hne0).trans (fr11 x8 hne0 hne1 hne2 hne3 hne4)), 0, z9, f9, cz9, cf9, e35, fx37, fx38, fx39, fx40, Or.inr ⟨by omega, fun u1 h9 => by rw [hfin] at h9; cases h9; omega⟩, fun cc => by rw [hbits cc]; exact ⟨fun g9 => g9.2, fun g9 => ⟨by have h9 := g9.kd.2; omega, g9⟩⟩, by omega⟩ dX6_soundAll_121
        · have c33 : ¬ (z9).toInt ≤ (0 : Int) := fun h9 => c33 (hq_lei.mpr h9)
          refine lv_iconst (v := 1) hx hb dX6_soundAll_111 (by decide) ?_
          refine lv_goto (tgt := 116) hx hb dX6_soundAll_112 (by decide) ?_
          refine hp_put hx hb hts hown hZ ho4 fp_X6_118 rfl rfl (Nat.le_of_ble_eq_true rfl) dX6_soundAll_116 (fun V42 _ _ e43 o44 hZ => ?_)
          have e43 : V42 (mk) = some (.inr (6, [.ref (md), .int (1), .ref (mh), .ref (pt), .ref (ch)])) := e43
          have hP := hP.put hy0 e43 o44 (hq_c11 hy1 hy2 hy3 hy4 (show 0 ≤ (1 : Int) by omega) (show (1 : Int) ≤ 1 by omega) (by first | rfl | exact hsh.1 | omega) (by first | rfl | exact hsh.2.1 | omega) (by first | rfl | exact hsh.2.2.1 | omega) (by first | rfl | exact hsh.2.2.2 | omega)) rfl
          refine lv_lload hx hb dX6_soundAll_119 (lv_at hl 1 rfl) ?_
          have fx45 : V42 (t) = some (.inr (9, [.ref (t + 1), .int (z9)])) := (o44 (t) (hq_tne hy6 hy0 (by simp))).trans (ho6)
          have fx46 : V42 (t + 1) = some (.inl (cs 0, 30, .inl (f9))) := (o44 (t + 1) (hq_tne hy7 hy0 (by simp))).trans (ho8)
          have fx47 : V42 (ch) = some (.inr (9, [.ref (ch + 1), .int (cz9)])) := (o44 (ch) (hq_tne hy4 hy0 (by simp))).trans (ho10)
          have fx48 : V42 (ch + 1) = some (.inl (cs 0, 30, .inl (cf9))) := (o44 (ch + 1) (hq_tne hy5 hy0 (by simp))).trans (ho12)
          have hl49 : (1 : Int32).toInt = 1 := by decide
          have hfin : sp_sa w k.toInt k2.toInt bk.2.2.2 0 u = some u9 := by rw [sp_sa_fin, show bk.2.2.2.length = i.toInt.toNat by omega]; exact hrp
          exact hp_lret hx hb hr hlocks hZ ⟨rfl, hP, (fun x8 hne0 hne1 hne2 hne3 hne4 => (o44 x8 hne0).trans (fr11 x8 hne0 hne1 hne2 hne3 hne4)), 1, z9, f9, cz9, cf9, e43, fx45, fx46, fx47, fx48, Or.inl ⟨by omega, u9, hfin, by omega, hru⟩, fun cc => by rw [hbits cc]; exact ⟨fun g9 => g9.2, fun g9 => ⟨by have h9 := g9.kd.2; omega, g9⟩⟩, by omega⟩ dX6_soundAll_121
    · have c23 : ¬ (bl).toInt ≤ (i).toInt := fun h9 => c23 (hq_lei.mpr h9)
      refine lv_aload_n hx hb dX6_soundAll_20 rfl (lv_at hl 2 rfl) ?_
      refine hp_get (v := .int (wz9)) hx hb hts hown hZ ho4 fl_X6_118 rfl dX6_soundAll_21 ?_
      refine lv_if_eq (tgt := 96) hx hb dX6_soundAll_24 (by decide) (fun c50 => ?_) (fun c50 => ?_)
      · have c50 : (wz9).toInt = (0 : Int) := hq_eqi.mp c50
        have hrn : sp_pre w k.toInt k2.toInt bk.2.2.2 u i.toInt.toNat = none := by rcases hrun with g9 | g9; (· omega); (· exact g9.2)
        refine lv_aload_n hx hb dX6_soundAll_96 rfl (lv_at hl 2 rfl) ?_
        refine lv_aload_n hx hb dX6_soundAll_97 rfl (lv_at hl 2 rfl) ?_
        refine hp_get (v := .int (wz9)) hx hb hts hown hZ ho4 fl_X6_118 rfl dX6_soundAll_98 ?_
        have hl51 : (0 : Int32).toInt = 0 := by decide
        refine lv_if_eq (tgt := 115) hx hb dX6_soundAll_101 (by decide) (fun c52 => ?_) (fun c52 => absurd ((Int32.toInt_inj.mp (by omega) : wz9 = 0)) c52)
        refine lv_iconst (v := 0) hx hb dX6_soundAll_115 (by decide) ?_
        refine hp_put hx hb hts hown hZ ho4 fp_X6_118 rfl rfl (Nat.le_of_ble_eq_true rfl) dX6_soundAll_116 (fun V53 _ _ e54 o55 hZ => ?_)
        have e54 : V53 (mk) = some (.inr (6, [.ref (md), .int (0), .ref (mh), .ref (pt), .ref (ch)])) := e54
        have hP := hP.put hy0 e54 o55 (hq_c11 hy1 hy2 hy3 hy4 (show 0 ≤ (0 : Int) by omega) (show (0 : Int) ≤ 1 by omega) (by first | rfl | exact hsh.1 | omega) (by first | rfl | exact hsh.2.1 | omega) (by first | rfl | exact hsh.2.2.1 | omega) (by first | rfl | exact hsh.2.2.2 | omega)) rfl
        refine lv_lload hx hb dX6_soundAll_119 (lv_at hl 1 rfl) ?_
        have fx56 : V53 (t) = some (.inr (9, [.ref (t + 1), .int (z9)])) := (o55 (t) (hq_tne hy6 hy0 (by simp))).trans (ho6)
        have fx57 : V53 (t + 1) = some (.inl (cs 0, 30, .inl (f9))) := (o55 (t + 1) (hq_tne hy7 hy0 (by simp))).trans (ho8)
        have fx58 : V53 (ch) = some (.inr (9, [.ref (ch + 1), .int (cz9)])) := (o55 (ch) (hq_tne hy4 hy0 (by simp))).trans (ho10)
        have fx59 : V53 (ch + 1) = some (.inl (cs 0, 30, .inl (cf9))) := (o55 (ch + 1) (hq_tne hy5 hy0 (by simp))).trans (ho12)
        have hl60 : (0 : Int32).toInt = 0 := by decide
        have hfin : sp_sa w k.toInt k2.toInt bk.2.2.2 0 u = none := by rw [sp_sa_fin, show bk.2.2.2.length = i.toInt.toNat + (bk.2.2.2.length - i.toInt.toNat) by omega]; exact sp_pre_mono hrn _
        exact hp_lret hx hb hr hlocks hZ ⟨rfl, hP, (fun x8 hne0 hne1 hne2 hne3 hne4 => (o55 x8 hne0).trans (fr11 x8 hne0 hne1 hne2 hne3 hne4)), 0, z9, f9, cz9, cf9, e54, fx56, fx57, fx58, fx59, Or.inr ⟨by omega, fun u1 h9 => by rw [hfin] at h9; cases h9⟩, fun cc => by rw [hbits cc]; constructor; (· exact fun g9 => g9.2); (· intro g2; refine ⟨?_, g2⟩; rcases Classical.em ((cc : Int) < i.toInt) with c9 | c9; (· exact c9); (· exfalso; obtain ⟨-, -, v, x, hv, -⟩ := g2; rw [show cc = i.toInt.toNat + (cc - i.toInt.toNat) by omega, sp_pre_mono hrn] at hv; cases hv)), by omega⟩ dX6_soundAll_121
      · have c50 : ¬ (wz9).toInt = (0 : Int) := fun h9 => c50 (hq_eqi.mpr h9)
        obtain ⟨hr1, hru, hrp⟩ : wz9.toInt = 1 ∧ sp_rp z9 f9 u9 ∧ sp_pre w k.toInt k2.toInt bk.2.2.2 u i.toInt.toNat = some u9 := by rcases hrun with g9 | g9; (· exact g9); (· omega)
        have hru1 := hru.1
        refine lv_aload_n hx hb dX6_soundAll_27 rfl (lv_at hl 3 rfl) ?_
        refine hp_get (v := .ref (qt + 76)) hx hb hts hown hZ fx22 fl_X6_43 rfl dX6_soundAll_28 ?_
        refine lv_iload hx hb dX6_soundAll_31 (lv_at hl 0 rfl) ?_
        have fx61 : V9 (qt + 76) = some (.inl (cs 6, 60, .inr (.inr (.inr (.inr (g3)))))) := (fr11 (qt + 76) (by omega) (by omega) (by omega) (by omega) (by omega)).trans (hg3)
        obtain ⟨la9, hla9⟩ : ∃ ta, ta = qt + 77 + 5 * (i).toNatClampNeg := ⟨_, rfl⟩
        have hiila9 : ((i).toNatClampNeg : Int) = (i).toInt := (hq_nn (by omega)).1.symm
        have hla91 : g3 (i).toNatClampNeg = some la9 := by rw [hla9]; exact hr3 _ (by omega)
        obtain ⟨xla9, hxla9⟩ : ∃ t, bk.2.2.2[(i).toNatClampNeg]? = some t := ⟨_, List.getElem?_eq_getElem (by omega)⟩
        obtain ⟨ak, ao, at9, ap, ah, aht, apa, ala, ha1, ha2, ha3, ha4, ha5, ha6, ha7, hlt1, hlt2⟩ := (show hx_LN cs V9 la9 w xla9 by rw [hla9]; exact pk14.2 _ _ hxla9)
        obtain ⟨fz, ff, hfz1, hfz2, hfz3, hfz4, hfz5⟩ := hlt1.rp
        obtain ⟨sz, sf, hsz1, hsz2, hsz3, hsz4, hsz5⟩ := hlt2.rp
        have hfzl := hfz5.1
        have hszl := hsz5.1
        obtain ⟨hgl1, hgl2, hgl3⟩ := hgd.1 _ _ hxla9
        obtain ⟨hgm1, hgm2, hgm3, hgm4⟩ := hgd2 _ _ hxla9
        have hyl := hBT.2.2 (i).toNatClampNeg (by omega)
        rw [← hla9] at hyl
        have hfrf := hq_rgB hP.1 hyl.2.2.1 hfz2
        have hfrs := hq_rgB hP.1 hyl.2.2.2.2 hsz2
        refine hp_aald (v := .ref (la9)) hx hb hZ 6 fx61 rfl (hq_in (by omega) (by omega)) (by rw [hla91]; rfl) dX6_soundAll_33 ?_
        refine hp_get (v := .int (ak)) hx hb hts hown hZ ha1 fl_X6_125 rfl dX6_soundAll_34 ?_
        refine lv_iconst (v := 2) hx hb dX6_soundAll_37 (by decide) ?_
        refine lv_icmp_ne (tgt := 58) hx hb dX6_soundAll_38 (by decide) (fun c62 => ?_) (fun c62 => ?_)
        · have c62 : ¬ (ak).toInt = (2 : Int) := fun h9 => c62 (hq_eqi.mpr h9)
          refine lv_iconst (v := 0) hx hb dX6_soundAll_58 (by decide) ?_
          refine lv_istore (lv' := [(8, .int (0)), (7, .int (i)), (5, .long (bits)), (0, .ref (mk)), (1, .ref (qt)), (2, .ref (t)), (3, .int (k)), (4, .int (k2))]) hx hb dX6_soundAll_59 hl (by decide) rfl (fun ls hl => ?_)
          refine lv_iload hx hb dX6_soundAll_61 (lv_at hl 0 rfl) ?_
          refine lv_if_eq (tgt := 90) hx hb dX6_soundAll_63 (by decide) (fun c63 => ?_) (fun c63 => absurd (by decide) c63)
          obtain ⟨y64, ey65⟩ : ∃ y : Int32, y = i + (1) := ⟨_, rfl⟩
          obtain ⟨k66, hk67, b68, b69⟩ := hq_add (i) (1)
          rw [← ey65] at hk67 b68 b69
          have hk67 : (y64).toInt = (i).toInt + (1) + k66 * 4294967296 := hk67
          obtain rfl : k66 = 0 := by omega
          refine lv_iinc (v := y64) (lv' := [(7, .int (y64)), (8, .int (0)), (5, .long (bits)), (0, .ref (mk)), (1, .ref (qt)), (2, .ref (t)), (3, .int (k)), (4, .int (k2))]) hx hb dX6_soundAll_90 hl (k := 1) rfl (by rw [ey65]; rfl) (by decide) rfl (fun ls hl => ?_)
          refine lv_goto (tgt := 11) hx hb dX6_soundAll_93 (by decide) ?_
          have hk9 : ¬ sp_hd w k.toInt k2.toInt bk.2.2.2 u i.toInt.toNat := by rintro ⟨q1, q2, v, x, hv, hx, hk, hq⟩; cases hxla9.symm.trans hx; omega
          exact ih11 _ (by omega) _ _ _ ls (bits) (y64) (u9) (wz9) (z9) (f9) (cz9) (cf9) rfl hZ hP ho4 ho6 ho8 ho10 ho12 (fun x8 hne0 hne1 hne2 hne3 hne4 => fr11 x8 hne0 hne1 hne2 hne3 hne4) pk14 (by omega) (by omega) (by omega) (Or.inl ⟨hr1, hru, by rw [show (y64).toInt.toNat = i.toInt.toNat + 1 by omega]; exact sp_pre_s hrp (show bk.2.2.2[i.toInt.toNat]? = some xla9 from hxla9) (by omega)⟩) (fun cc => by rw [hbits cc]; constructor; (· rintro ⟨g1, g2⟩; exact ⟨by omega, g2⟩); (· rintro ⟨g1, g2⟩; refine ⟨?_, g2⟩; rcases Classical.em ((cc : Int) < i.toInt) with c9 | c9; (· exact c9); (· exfalso; obtain rfl : cc = i.toInt.toNat := (by omega); exact hk9 g2))) (lv_sub hl [0, 2, 3, 4, 5, 6, 7] rfl)
        · have c62 : (ak).toInt = (2 : Int) := hq_eqi.mp c62
          refine lv_iload hx hb dX6_soundAll_41 (lv_at hl 0 rfl) ?_
          refine lv_iload_n hx hb dX6_soundAll_43 rfl (lv_at hl 5 rfl) ?_
          refine lv_icmp_eq (tgt := 58) hx hb dX6_soundAll_44 (by decide) (fun c70 => ?_) (fun c70 => ?_)
          · have c70 : (i).toInt = (k).toInt := hq_eqi.mp c70
            refine lv_iconst (v := 0) hx hb dX6_soundAll_58 (by decide) ?_
            refine lv_istore (lv' := [(8, .int (0)), (7, .int (i)), (5, .long (bits)), (0, .ref (mk)), (1, .ref (qt)), (2, .ref (t)), (3, .int (k)), (4, .int (k2))]) hx hb dX6_soundAll_59 hl (by decide) rfl (fun ls hl => ?_)
            refine lv_iload hx hb dX6_soundAll_61 (lv_at hl 0 rfl) ?_
            refine lv_if_eq (tgt := 90) hx hb dX6_soundAll_63 (by decide) (fun c71 => ?_) (fun c71 => absurd (by decide) c71)
            obtain ⟨y72, ey73⟩ : ∃ y : Int32, y = i + (1) := ⟨_, rfl⟩
            obtain ⟨k74, hk75, b76, b77⟩ := hq_add (i) (1)
            rw [← ey73] at hk75 b76 b77
            have hk75 : (y72).toInt = (i).toInt + (1) + k74 * 4294967296 := hk75
            obtain rfl : k74 = 0 := by omega
            refine lv_iinc (v := y72) (lv' := [(7, .int (y72)), (8, .int (0)), (5, .long (bits)), (0, .ref (mk)), (1, .ref (qt)), (2, .ref (t)), (3, .int (k)), (4, .int (k2))]) hx hb dX6_soundAll_90 hl (k := 1) rfl (by rw [ey73]; rfl) (by decide) rfl (fun ls hl => ?_)
            refine lv_goto (tgt := 11) hx hb dX6_soundAll_93 (by decide) ?_
            have hk9 : ¬ sp_hd w k.toInt k2.toInt bk.2.2.2 u i.toInt.toNat := by rintro ⟨q1, q2, v, x, hv, hx, hk, hq⟩; cases hxla9.symm.trans hx; omega
            exact ih11 _ (by omega) _ _ _ ls (bits) (y72) (u9) (wz9) (z9) (f9) (cz9) (cf9) rfl hZ hP ho4 ho6 ho8 ho10 ho12 (fun x8 hne0 hne1 hne2 hne3 hne4 => fr11 x8 hne0 hne1 hne2 hne3 hne4) pk14 (by omega) (by omega) (by omega) (Or.inl ⟨hr1, hru, by rw [show (y72).toInt.toNat = i.toInt.toNat + 1 by omega]; exact sp_pre_s hrp (show bk.2.2.2[i.toInt.toNat]? = some xla9 from hxla9) (by omega)⟩) (fun cc => by rw [hbits cc]; constructor; (· rintro ⟨g1, g2⟩; exact ⟨by omega, g2⟩); (· rintro ⟨g1, g2⟩; refine ⟨?_, g2⟩; rcases Classical.em ((cc : Int) < i.toInt) with c9 | c9; (· exact c9); (· exfalso; obtain rfl : cc = i.toInt.toNat := (by omega); exact hk9 g2))) (lv_sub hl [0, 2, 3, 4, 5, 6, 7] rfl)
          · have c70 : ¬ (i).toInt = (k).toInt := fun h9 => c70 (hq_eqi.mpr h9)
            refine lv_iload hx hb dX6_soundAll_47 (lv_at hl 0 rfl) ?_
            refine lv_iload hx hb dX6_soundAll_49 (lv_at hl 6 rfl) ?_
            refine lv_icmp_eq (tgt := 58) hx hb dX6_soundAll_51 (by decide) (fun c78 => ?_) (fun c78 => ?_)
            · have c78 : (i).toInt = (k2).toInt := hq_eqi.mp c78
              refine lv_iconst (v := 0) hx hb dX6_soundAll_58 (by decide) ?_
              refine lv_istore (lv' := [(8, .int (0)), (7, .int (i)), (5, .long (bits)), (0, .ref (mk)), (1, .ref (qt)), (2, .ref (t)), (3, .int (k)), (4, .int (k2))]) hx hb dX6_soundAll_59 hl (by decide) rfl (fun ls hl => ?_)
              refine lv_iload hx hb dX6_soundAll_61 (lv_at hl 0 rfl) ?_
              refine lv_if_eq (tgt := 90) hx hb dX6_soundAll_63 (by decide) (fun c79 => ?_) (fun c79 => absurd (by decide) c79)
              obtain ⟨y80, ey81⟩ : ∃ y : Int32, y = i + (1) := ⟨_, rfl⟩
              obtain ⟨k82, hk83, b84, b85⟩ := hq_add (i) (1)
              rw [← ey81] at hk83 b84 b85
              have hk83 : (y80).toInt = (i).toInt + (1) + k82 * 4294967296 := hk83
              obtain rfl : k82 = 0 := by omega
              refine lv_iinc (v := y80) (lv' := [(7, .int (y80)), (8, .int (0)), (5, .long (bits)), (0, .ref (mk)), (1, .ref (qt)), (2, .ref (t)), (3, .int (k)), (4, .int (k2))]) hx hb dX6_soundAll_90 hl (k := 1) rfl (by rw [ey81]; rfl) (by decide) rfl (fun ls hl => ?_)
              refine lv_goto (tgt := 11) hx hb dX6_soundAll_93 (by decide) ?_
              have hk9 : ¬ sp_hd w k.toInt k2.toInt bk.2.2.2 u i.toInt.toNat := by rintro ⟨q1, q2, v, x, hv, hx, hk, hq⟩; cases hxla9.symm.trans hx; omega
              exact ih11 _ (by omega) _ _ _ ls (bits) (y80) (u9) (wz9) (z9) (f9) (cz9) (cf9) rfl hZ hP ho4 ho6 ho8 ho10 ho12 (fun x8 hne0 hne1 hne2 hne3 hne4 => fr11 x8 hne0 hne1 hne2 hne3 hne4) pk14 (by omega) (by omega) (by omega) (Or.inl ⟨hr1, hru, by rw [show (y80).toInt.toNat = i.toInt.toNat + 1 by omega]; exact sp_pre_s hrp (show bk.2.2.2[i.toInt.toNat]? = some xla9 from hxla9) (by omega)⟩) (fun cc => by rw [hbits cc]; constructor; (· rintro ⟨g1, g2⟩; exact ⟨by omega, g2⟩); (· rintro ⟨g1, g2⟩; refine ⟨?_, g2⟩; rcases Classical.em ((cc : Int) < i.toInt) with c9 | c9; (· exact c9); (· exfalso; obtain rfl : cc = i.toInt.toNat := (by omega); exact hk9 g2))) (lv_sub hl [0, 2, 3, 4, 5, 6, 7] rfl)
            · have c78 : ¬ (i).toInt = (k2).toInt := fun h9 => c78 (hq_eqi.mpr h9)
              refine lv_iconst (v := 1) hx hb dX6_soundAll_54 (by decide) ?_
              refine lv_goto (tgt := 59) hx hb dX6_soundAll_55 (by decide) ?_
              refine lv_istore (lv' := [(8, .int (1)), (7, .int (i)), (5, .long (bits)), (0, .ref (mk)), (1, .ref (qt)), (2, .ref (t)), (3, .int (k)), (4, .int (k2))]) hx hb dX6_soundAll_59 hl (by decide) rfl (fun ls hl => ?_)
              refine lv_iload hx hb dX6_soundAll_61 (lv_at hl 0 rfl) ?_
              refine lv_if_eq (tgt := 90) hx hb dX6_soundAll_63 (by decide) (fun c86 => absurd c86 (by decide)) (fun c86 => ?_)
              refine lv_aload_n hx hb dX6_soundAll_66 rfl (lv_at hl 3 rfl) ?_
              refine lv_aload_n hx hb dX6_soundAll_67 rfl (lv_at hl 4 rfl) ?_
              refine hp_get (v := .ref (qt + 76)) hx hb hts hown hZ fx22 fl_X6_43 rfl dX6_soundAll_68 ?_
              refine lv_iload hx hb dX6_soundAll_71 (lv_at hl 1 rfl) ?_
              refine hp_aald (v := .ref (la9)) hx hb hZ 6 fx61 rfl (hq_in (by omega) (by omega)) (by rw [hla91]; rfl) dX6_soundAll_73 ?_
              refine lv_aload_n hx hb dX6_soundAll_74 rfl (lv_at hl 5 rfl) ?_
              refine hp_calli (hp_runV (As := [.ref (la9), .ref (t)]) (rest := []) hx hb hml hown hts (x_soundA l D cs B G V9 n hP.1 (mk) (md) (mh) (pt) (ch) (la9) (t) (wz9) (ak) (ao) (at9) (ap) (ah) (aht) (apa) (ala) (z9) (f9) (cz9) (cf9) (fz) (ff) (sz) (sf) (u9) ((sp_F w xla9)) ((sp_S2 w xla9)) hy0 hy1 hy2 hy3 hy4 hy5 hy6 hy7 hyl.2.2.1 hyl.2.2.2.2 ho4 ha1 ho6 ho8 ho10 ho12 hfz1 hfz2 hsz1 hsz2  hru hfz5 hsz5 (by omega) (by have h9 := hgl2 (by omega); have h8 := hfz5.1; unfold sp_F; omega) (by omega) ⟨hne.1, Or.inr (by omega), Or.inr (by omega), Or.inr (by omega), hne.2.2.2.2⟩ hsh) hZ ho4 cv_X6_128 rfl rfl ⟨Nat.le_of_ble_eq_true rfl, Nat.le_of_ble_eq_true rfl⟩ rfl hl.1 rfl (Nat.le_of_ble_eq_true rfl) dX6_soundAll_75 ⟨(Nat.le_of_ble_eq_true rfl), (Nat.le_of_ble_eq_true rfl)⟩) hZ (fun r90 V87 n88 _ _ hw89 hZ => ?_)
              obtain ⟨rfl, hq91, fr92, z93, z94, u95, z96, u97, ho98, ho99, ho100, ho101, ho102, hp103, hp104⟩ := hw89
              have b105 := hq_rng z93
              have b106 := hq_rng z94
              have b107 := hq_rng z96
              have hP := hP.trans hq91 (fun _ h => Bool.noConfusion h)
              have hf108 := hq_rgB hP.1 hy7 ho100
              have hf109 := hq_rgB hP.1 hy5 ho102
              have b110 := hq_rng r90
              have hsx : sp_sx w xla9 u9 = (if ala.toInt = 0 then sp_snd (sp_F w xla9) (sp_S2 w xla9) u9 0 else sp_sndl (sp_F w xla9) (sp_S2 w xla9) u9) := by have h9 := ha7 (by omega); have h8 := hgl3 (by omega); unfold sp_sx; by_cases c9 : ala.toInt = 0; (· rw [if_pos c9, if_neg (by omega)]); (· rw [if_neg c9, if_pos (by omega)])
              have hsd := hp103
              rw [← hsx] at hsd
              have b111 := hp104
              refine lv_if_eq (tgt := 90) hx hb dX6_soundAll_78 (by decide) (fun c112 => ?_) (fun c112 => ?_)
              · have c112 : (r90).toInt = (0 : Int) := hq_eqi.mp c112
                obtain ⟨y113, ey114⟩ : ∃ y : Int32, y = i + (1) := ⟨_, rfl⟩
                obtain ⟨k115, hk116, b117, b118⟩ := hq_add (i) (1)
                rw [← ey114] at hk116 b117 b118
                have hk116 : (y113).toInt = (i).toInt + (1) + k115 * 4294967296 := hk116
                obtain rfl : k115 = 0 := by omega
                refine lv_iinc (v := y113) (lv' := [(7, .int (y113)), (8, .int (1)), (5, .long (bits)), (0, .ref (mk)), (1, .ref (qt)), (2, .ref (t)), (3, .int (k)), (4, .int (k2))]) hx hb dX6_soundAll_90 hl (k := 1) rfl (by rw [ey114]; rfl) (by decide) rfl (fun ls hl => ?_)
                refine lv_goto (tgt := 11) hx hb dX6_soundAll_93 (by decide) ?_
                have pk119 := pk14.keep (fun x7 (hx7 : qt + 77 ≤ x7 ∧ x7 < qt + 77 + 5 * bk.2.2.2.length) => fr92 x7 (by omega) (by omega) (by omega) (by omega) (by omega))
                have hk9 : ¬ sp_hd w k.toInt k2.toInt bk.2.2.2 u i.toInt.toNat := by rintro ⟨q1, q2, v, x, hv, hx, hk, hq⟩; cases hrp.symm.trans hv; cases hxla9.symm.trans hx; rcases hsd with g9 | g9 | g9; (· exact hq g9.2.2.2); (· omega); (· omega)
                exact ih11 _ (by omega) _ _ _ ls (bits) (y113) ((sp_sx w xla9 u9)) (z93) (z94) (u95) (z96) (u97) rfl hZ hP ho98 ho99 ho100 ho101 ho102 (fun x8 hne0 hne1 hne2 hne3 hne4 => (fr92 x8 hne0 hne1 hne2 hne3 hne4).trans (fr11 x8 hne0 hne1 hne2 hne3 hne4)) pk119 (by omega) (by omega) (by omega) (by rcases hsd with ⟨g1, g2, g3, g4⟩ | ⟨g1, g2, g3, g5, g4⟩ | ⟨g1, g2, g3⟩; (· exact Or.inl ⟨g2, by rw [g4]; exact g3, by rw [show (y113).toInt.toNat = i.toInt.toNat + 1 by omega]; exact sp_pre_g hrp (show bk.2.2.2[i.toInt.toNat]? = some xla9 from hxla9) (by omega) (by rw [g4]; omega)⟩); (· exact Or.inl ⟨g2, g4, by rw [show (y113).toInt.toNat = i.toInt.toNat + 1 by omega]; exact sp_pre_g hrp (show bk.2.2.2[i.toInt.toNat]? = some xla9 from hxla9) (by omega) g3⟩); (· exact Or.inr ⟨g2, by rw [show (y113).toInt.toNat = i.toInt.toNat + 1 by omega]; exact sp_pre_b hrp (show bk.2.2.2[i.toInt.toNat]? = some xla9 from hxla9) (by omega) (by omega)⟩)) (fun cc => by rw [hbits cc]; constructor; (· rintro ⟨g1, g2⟩; exact ⟨by omega, g2⟩); (· rintro ⟨g1, g2⟩; refine ⟨?_, g2⟩; rcases Classical.em ((cc : Int) < i.toInt) with c9 | c9; (· exact c9); (· exfalso; obtain rfl : cc = i.toInt.toNat := (by omega); exact hk9 g2))) (lv_sub hl [0, 2, 3, 4, 5, 6, 7] rfl)
              · have c112 : ¬ (r90).toInt = (0 : Int) := fun h9 => c112 (hq_eqi.mpr h9)
                refine lv_lload hx hb dX6_soundAll_81 (lv_at hl 2 rfl) ?_
                refine lv_lconst (v := 1) hx hb dX6_soundAll_83 (by decide) ?_
                refine lv_iload hx hb dX6_soundAll_84 (lv_at hl 1 rfl) ?_
                refine lv_lshl (v := (1 : Int64) <<< ((i : Int32).toInt64 &&& 63)) hx hb dX6_soundAll_86 rfl ?_
                refine lv_topl (fun y120 ey121 => ?_)
                refine lv_lor hx hb dX6_soundAll_87 ?_
                refine lv_topl (fun y122 ey123 => ?_)
                refine lv_lstore (lv' := [(5, .long (y122)), (8, .int (1)), (7, .int (i)), (0, .ref (mk)), (1, .ref (qt)), (2, .ref (t)), (3, .int (k)), (4, .int (k2))]) hx hb dX6_soundAll_88 hl (by decide) rfl (fun ls hl => ?_)
                obtain ⟨y124, ey125⟩ : ∃ y : Int32, y = i + (1) := ⟨_, rfl⟩
                obtain ⟨k126, hk127, b128, b129⟩ := hq_add (i) (1)
                rw [← ey125] at hk127 b128 b129
                have hk127 : (y124).toInt = (i).toInt + (1) + k126 * 4294967296 := hk127
                obtain rfl : k126 = 0 := by omega
                refine lv_iinc (v := y124) (lv' := [(7, .int (y124)), (5, .long (y122)), (8, .int (1)), (0, .ref (mk)), (1, .ref (qt)), (2, .ref (t)), (3, .int (k)), (4, .int (k2))]) hx hb dX6_soundAll_90 hl (k := 2) rfl (by rw [ey125]; rfl) (by decide) rfl (fun ls hl => ?_)
                refine lv_goto (tgt := 11) hx hb dX6_soundAll_93 (by decide) ?_
                have pk130 := pk14.keep (fun x7 (hx7 : qt + 77 ≤ x7 ∧ x7 < qt + 77 + 5 * bk.2.2.2.length) => fr92 x7 (by omega) (by omega) (by omega) (by omega) (by omega))
                have hk9 : sp_hd w k.toInt k2.toInt bk.2.2.2 u i.toInt.toNat := ⟨by omega, by omega, u9, xla9, hrp, hxla9, by omega, by intro g9; rcases hsd with g8 | g8 | g8; (· omega); (· exact g8.2.2.2.1 g9); (· have g7 := g8.2.2; rw [g9] at g7; omega)⟩
                exact ih11 _ (by omega) _ _ _ ls (y122) (y124) ((sp_sx w xla9 u9)) (z93) (z94) (u95) (z96) (u97) rfl hZ hP ho98 ho99 ho100 ho101 ho102 (fun x8 hne0 hne1 hne2 hne3 hne4 => (fr92 x8 hne0 hne1 hne2 hne3 hne4).trans (fr11 x8 hne0 hne1 hne2 hne3 hne4)) pk130 (by omega) (by omega) (by omega) (by rcases hsd with ⟨g1, g2, g3, g4⟩ | ⟨g1, g2, g3, g5, g4⟩ | ⟨g1, g2, g3⟩; (· exact Or.inl ⟨g2, by rw [g4]; exact g3, by rw [show (y124).toInt.toNat = i.toInt.toNat + 1 by omega]; exact sp_pre_g hrp (show bk.2.2.2[i.toInt.toNat]? = some xla9 from hxla9) (by omega) (by rw [g4]; omega)⟩); (· exact Or.inl ⟨g2, g4, by rw [show (y124).toInt.toNat = i.toInt.toNat + 1 by omega]; exact sp_pre_g hrp (show bk.2.2.2[i.toInt.toNat]? = some xla9 from hxla9) (by omega) g3⟩); (· exact Or.inr ⟨g2, by rw [show (y124).toInt.toNat = i.toInt.toNat + 1 by omega]; exact sp_pre_b hrp (show bk.2.2.2[i.toInt.toNat]? = some xla9 from hxla9) (by omega) (by omega)⟩)) (fun cc => by rw [ey123, ey121, sp_bt_or (by omega) (by omega), hbits cc]; constructor; (· rintro (⟨g1, g2⟩ | g1); (· exact ⟨by omega, g2⟩); (· subst g1; exact ⟨by omega, hk9⟩)); (· rintro ⟨g1, g2⟩; rcases Classical.em ((cc : Int) < i.toInt) with c9 | c9; (· exact Or.inl ⟨c9, g2⟩); (· exact Or.inr (by omega)))) (lv_sub hl [0, 1, 3, 4, 5, 6, 7] rfl)

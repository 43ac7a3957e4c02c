set_option maxHeartbeats 4000000 in
set_option maxRecDepth 100000 in
theorem x_tell (l : Launch) (D : va_G) (cs : Nat → ClassId) (B : Nat) (G : hq_G) (V : hp_V) (n : Nat) (hI : hq_I cs G V) (kb : Nat) (qt : Nat) (e_fd : Int32) (e_sz : Int32) (bz0 : Int32) (bz1 : Int32) (bz2 : Int32) (bz3 : Int32) (bz4 : Int32) (bz5 : Int32) (bz6 : Int32) (kk : Nat → Int32) (mm : Nat → Int32) (tt_ : Nat → Int32) (hy0 : G (kb + 50) = some (14, 0, 0, 0)) (hy1 : G (kb + 59) = some (2, 8, 2, 0)) (hy2 : G (kb + 60) = some (2, 8, 2, 0)) (hy3 : G (kb + 61) = some (2, 8, 2, 0)) (hc0 : V (kb + 50) = some (.inr (1, [.ref (kb + 51), .ref (kb + 52), .int (e_fd), .ref (kb + 53), .ref (kb + 55), .ref (kb + 57), .ref (qt), .ref (kb), .ref (kb + 5), .int (e_sz), .ref (kb + 59), .ref (kb + 60), .ref (kb + 61)]))) (hc1 : V (kb + 51) = some (.inr (10, [.int (bz0), .int (bz1), .int (bz2), .int (bz3), .int (bz4), .int (bz5), .int (bz6)]))) (hc2 : V (kb + 59) = some (.inl (cs 1, 2, .inl (kk)))) (hc3 : V (kb + 60) = some (.inl (cs 1, 2, .inl (mm)))) (hc4 : V (kb + 61) = some (.inl (cs 1, 2, .inl (tt_)))) (htl : (sp_tec bz0.toInt bz1.toInt bz2.toInt bz3.toInt bz4.toInt bz5.toInt bz6.toInt).length ≤ 2) (hz0 : -1 ≤ bz0.toInt ∧ bz0.toInt < 60) (hz1 : -1 ≤ bz1.toInt ∧ bz1.toInt < 60) (hz2 : -1 ≤ bz2.toInt ∧ bz2.toInt < 60) (hz5 : -1 ≤ bz5.toInt ∧ bz5.toInt < 60) (hz6 : -1 ≤ bz6.toInt ∧ bz6.toInt < 60) (hz3 : -2 ≤ bz3.toInt ∧ bz3.toInt < 60) (hz4 : -2 ≤ bz4.toInt ∧ bz4.toInt ≤ 60) : hp_M l yX1_tell cX1_tell 1 none ({ frames := 2, cells := 0, slots := 0, locals := 44 }) D cs B V n [.ref (kb + 50)] (hp_QV D cs B (fun V' n' => n = n' ∧ hq_P cs G (fun _ => true) V V' ∧ (∀ x, x ≠ kb + 50 → x ≠ kb + 59 → x ≠ kb + 60 → x ≠ kb + 61 → V' x = V x) ∧ (∃ e_sz1 : Int32, ∃ kk1 : Nat → Int32, ∃ mm1 : Nat → Int32, ∃ tt1 : Nat → Int32, V' (kb + 50) = some (.inr (1, [.ref (kb + 51), .ref (kb + 52), .int (e_fd), .ref (kb + 53), .ref (kb + 55), .ref (kb + 57), .ref (qt), .ref (kb), .ref (kb + 5), .int (e_sz1), .ref (kb + 59), .ref (kb + 60), .ref (kb + 61)])) ∧ V' (kb + 59) = some (.inl (cs 1, 2, .inl (kk1))) ∧ V' (kb + 60) = some (.inl (cs 1, 2, .inl (mm1))) ∧ V' (kb + 61) = some (.inl (cs 1, 2, .inl (tt1))) ∧ (sp_hl e_sz1 kk1 mm1 tt1 (sp_tec bz0.toInt bz1.toInt bz2.toInt bz3.toInt bz4.toInt bz5.toInt bz6.toInt))))) 0 0 := by
  refine hp_walk (R0 := RX1) (by decide) rfl ?_ (Nat.le_of_ble_eq_true rfl)
  intro p e s m below meth c ls hx hb hr hts hown hlocks hin hml hZ hl
  have hP : hq_P cs G (fun _ => true) V V := hq_P.rf hI
  have hl : lv_has ls 1 [(0, .ref (kb + 50))] := hl
  have hb_e_fd := hq_rng e_fd
  have hb_e_sz := hq_rng e_sz
  have hb_bz0 := hq_rng bz0
  have hb_bz1 := hq_rng bz1
  have hb_bz2 := hq_rng bz2
  have hb_bz3 := hq_rng bz3
  have hb_bz4 := hq_rng bz4
  have hb_bz5 := hq_rng bz5
  have hb_bz6 := hq_rng bz6
  have hf_2 := hq_rg2 hI hy1 hc2
  have hf_3 := hq_rg2 hI hy2 hc3
  have hf_4 := hq_rg2 hI hy3 hc4
  refine lv_aload_n hx hb dX1_tell_0 rfl (lv_at hl 0 rfl) ?_
  refine lv_iconst (v := 0) hx hb dX1_tell_1 (by decide) ?_
  refine hp_put hx hb hts hown hZ hc0 fp_X1_46 rfl rfl (Nat.le_of_ble_eq_true rfl) dX1_tell_2 (fun V1 _ _ e2 o3 hZ => ?_)
  have e2 : V1 (kb + 50) = some (.inr (1, [.ref (kb + 51), .ref (kb + 52), .int (e_fd), .ref (kb + 53), .ref (kb + 55), .ref (kb + 57), .ref (qt), .ref (kb), .ref (kb + 5), .int (0), .ref (kb + 59), .ref (kb + 60), .ref (kb + 61)])) := e2
  have hP := hP.put hy0 e2 o3 (trivial) rfl
  have hpc0 : ([] : List sp_C3) ++ (sp_te1 0 bz0.toInt ++ (sp_tk2 bz1.toInt bz3.toInt ++ (sp_tk3 bz2.toInt bz4.toInt ++ (sp_te1 5 bz5.toInt ++ (sp_te1 5 bz6.toInt ++ []))))) = (sp_tec bz0.toInt bz1.toInt bz2.toInt bz3.toInt bz4.toInt bz5.toInt bz6.toInt) := by rw [List.nil_append, List.append_nil, sp_tec_eq]
  have hnil : sp_hl 0 kk mm tt_ [] := sp_hl.nil
  have fx5 : V1 (kb + 59) = some (.inl (cs 1, 2, .inl (kk))) := (o3 (kb + 59) (hq_tne hy1 hy0 (by simp))).trans (hc2)
  have fx7 : V1 (kb + 60) = some (.inl (cs 1, 2, .inl (mm))) := (o3 (kb + 60) (hq_tne hy2 hy0 (by simp))).trans (hc3)
  have fx9 : V1 (kb + 61) = some (.inl (cs 1, 2, .inl (tt_))) := (o3 (kb + 61) (hq_tne hy3 hy0 (by simp))).trans (hc4)
  have jn29 : ∀ (V9 : hp_V) (H9 : Heap) (locs9 : List Loc) (ls : Array Slot)  (ll0 : List sp_C3) (cm0 : Int32) (wh0 : Nat → Int32) (mi0 : Nat → Int32) (ta0 : Nat → Int32), hp_Z D cs B s V9 H9 n locs9 → hq_P cs G (fun _ => true) V V9 → V9 (kb + 50) = some (.inr (1, [.ref (kb + 51), .ref (kb + 52), .int (e_fd), .ref (kb + 53), .ref (kb + 55), .ref (kb + 57), .ref (qt), .ref (kb), .ref (kb + 5), .int (cm0), .ref (kb + 59), .ref (kb + 60), .ref (kb + 61)])) → V9 (kb + 59) = some (.inl (cs 1, 2, .inl (wh0))) → V9 (kb + 60) = some (.inl (cs 1, 2, .inl (mi0))) → V9 (kb + 61) = some (.inl (cs 1, 2, .inl (ta0))) → (∀ x, x ≠ kb + 50 → x ≠ kb + 59 → x ≠ kb + 60 → x ≠ kb + 61 → V9 x = V x) → (sp_hl cm0 wh0 mi0 ta0 ll0) → (ll0 ++ (sp_tk2 bz1.toInt bz3.toInt ++ (sp_tk3 bz2.toInt bz4.toInt ++ (sp_te1 5 bz5.toInt ++ (sp_te1 5 bz6.toInt ++ [])))) = (sp_tec bz0.toInt bz1.toInt bz2.toInt bz3.toInt bz4.toInt bz5.toInt bz6.toInt)) → lv_has ls 1 [(0, .ref (kb + 50))] → W p l e ({ frames := 2, cells := 0, slots := 0, locals := 44 }) s m ([.ref (kb + 50)] : List Value).toArray below meth c H9 locs9 0 0 (MQ below (hp_QV D cs B (fun V' n' => n = n' ∧ hq_P cs G (fun _ => true) V V' ∧ (∀ x, x ≠ kb + 50 → x ≠ kb + 59 → x ≠ kb + 60 → x ≠ kb + 61 → V' x = V x) ∧ (∃ e_sz1 : Int32, ∃ kk1 : Nat → Int32, ∃ mm1 : Nat → Int32, ∃ tt1 : Nat → Int32, V' (kb + 50) = some (.inr (1, [.ref (kb + 51), .ref (kb + 52), .int (e_fd), .ref (kb + 53), .ref (kb + 55), .ref (kb + 57), .ref (qt), .ref (kb), .ref (kb + 5), .int (e_sz1), .ref (kb + 59), .ref (kb + 60), .ref (kb + 61)])) ∧ V' (kb + 59) = some (.inl (cs 1, 2, .inl (kk1))) ∧ V' (kb + 60) = some (.inl (cs 1, 2, .inl (mm1))) ∧ V' (kb + 61) = some (.inl (cs 1, 2, .inl (tt1))) ∧ (sp_hl e_sz1 kk1 mm1 tt1 (sp_tec bz0.toInt bz1.toInt bz2.toInt bz3.toInt bz4.toInt bz5.toInt bz6.toInt))))) ([.ref (kb + 50)] : List Value).toArray s 0 0 (hp_F B)) (F0 m 29 ls []) := by
    intro V9 H9 locs9 ls  ll0 cm0 wh0 mi0 ta0 hZ hP ho4 ho6 ho8 ho10 fr29  hc29 hp29x hl
    have hb_cm0 := hq_rng cm0
    have hf11 := hq_rg2 hP.1 hy1 ho6
    have hf12 := hq_rg2 hP.1 hy2 ho8
    have hf13 := hq_rg2 hP.1 hy3 ho10
    have jn108 : ∀ (V9 : hp_V) (H9 : Heap) (locs9 : List Loc) (ls : Array Slot)  (ll1 : List sp_C3) (cm1 : Int32) (wh1 : Nat → Int32) (mi1 : Nat → Int32) (ta1 : Nat → Int32), hp_Z D cs B s V9 H9 n locs9 → hq_P cs G (fun _ => true) V V9 → V9 (kb + 50) = some (.inr (1, [.ref (kb + 51), .ref (kb + 52), .int (e_fd), .ref (kb + 53), .ref (kb + 55), .ref (kb + 57), .ref (qt), .ref (kb), .ref (kb + 5), .int (cm1), .ref (kb + 59), .ref (kb + 60), .ref (kb + 61)])) → V9 (kb + 59) = some (.inl (cs 1, 2, .inl (wh1))) → V9 (kb + 60) = some (.inl (cs 1, 2, .inl (mi1))) → V9 (kb + 61) = some (.inl (cs 1, 2, .inl (ta1))) → (∀ x, x ≠ kb + 50 → x ≠ kb + 59 → x ≠ kb + 60 → x ≠ kb + 61 → V9 x = V x) → (sp_hl cm1 wh1 mi1 ta1 ll1) → (ll1 ++ (sp_tk3 bz2.toInt bz4.toInt ++ (sp_te1 5 bz5.toInt ++ (sp_te1 5 bz6.toInt ++ []))) = (sp_tec bz0.toInt bz1.toInt bz2.toInt bz3.toInt bz4.toInt bz5.toInt bz6.toInt)) → lv_has ls 1 [(0, .ref (kb + 50))] → W p l e ({ frames := 2, cells := 0, slots := 0, locals := 44 }) s m ([.ref (kb + 50)] : List Value).toArray below meth c H9 locs9 0 0 (MQ below (hp_QV D cs B (fun V' n' => n = n' ∧ hq_P cs G (fun _ => true) V V' ∧ (∀ x, x ≠ kb + 50 → x ≠ kb + 59 → x ≠ kb + 60 → x ≠ kb + 61 → V' x = V x) ∧ (∃ e_sz1 : Int32, ∃ kk1 : Nat → Int32, ∃ mm1 : Nat → Int32, ∃ tt1 : Nat → Int32, V' (kb + 50) = some (.inr (1, [.ref (kb + 51), .ref (kb + 52), .int (e_fd), .ref (kb + 53), .ref (kb + 55), .ref (kb + 57), .ref (qt), .ref (kb), .ref (kb + 5), .int (e_sz1), .ref (kb + 59), .ref (kb + 60), .ref (kb + 61)])) ∧ V' (kb + 59) = some (.inl (cs 1, 2, .inl (kk1))) ∧ V' (kb + 60) = some (.inl (cs 1, 2, .inl (mm1))) ∧ V' (kb + 61) = some (.inl (cs 1, 2, .inl (tt1))) ∧ (sp_hl e_sz1 kk1 mm1 tt1 (sp_tec bz0.toInt bz1.toInt bz2.toInt bz3.toInt bz4.toInt bz5.toInt bz6.toInt))))) ([.ref (kb + 50)] : List Value).toArray s 0 0 (hp_F B)) (F0 m 108 ls []) := by
      intro V9 H9 locs9 ls  ll1 cm1 wh1 mi1 ta1 hZ hP ho14 ho15 ho16 ho17 fr108  hc108 hp108x hl
      have hb_cm1 := hq_rng cm1
      have hf18 := hq_rg2 hP.1 hy1 ho15
      have hf19 := hq_rg2 hP.1 hy2 ho16
      have hf20 := hq_rg2 hP.1 hy3 ho17
      have jn188 : ∀ (V9 : hp_V) (H9 : Heap) (locs9 : List Loc) (ls : Array Slot)  (ll2 : List sp_C3) (cm2 : Int32) (wh2 : Nat → Int32) (mi2 : Nat → Int32) (ta2 : Nat → Int32), hp_Z D cs B s V9 H9 n locs9 → hq_P cs G (fun _ => true) V V9 → V9 (kb + 50) = some (.inr (1, [.ref (kb + 51), .ref (kb + 52), .int (e_fd), .ref (kb + 53), .ref (kb + 55), .ref (kb + 57), .ref (qt), .ref (kb), .ref (kb + 5), .int (cm2), .ref (kb + 59), .ref (kb + 60), .ref (kb + 61)])) → V9 (kb + 59) = some (.inl (cs 1, 2, .inl (wh2))) → V9 (kb + 60) = some (.inl (cs 1, 2, .inl (mi2))) → V9 (kb + 61) = some (.inl (cs 1, 2, .inl (ta2))) → (∀ x, x ≠ kb + 50 → x ≠ kb + 59 → x ≠ kb + 60 → x ≠ kb + 61 → V9 x = V x) → (sp_hl cm2 wh2 mi2 ta2 ll2) → (ll2 ++ (sp_te1 5 bz5.toInt ++ (sp_te1 5 bz6.toInt ++ [])) = (sp_tec bz0.toInt bz1.toInt bz2.toInt bz3.toInt bz4.toInt bz5.toInt bz6.toInt)) → lv_has ls 1 [(0, .ref (kb + 50))] → W p l e ({ frames := 2, cells := 0, slots := 0, locals := 44 }) s m ([.ref (kb + 50)] : List Value).toArray below meth c H9 locs9 0 0 (MQ below (hp_QV D cs B (fun V' n' => n = n' ∧ hq_P cs G (fun _ => true) V V' ∧ (∀ x, x ≠ kb + 50 → x ≠ kb + 59 → x ≠ kb + 60 → x ≠ kb + 61 → V' x = V x) ∧ (∃ e_sz1 : Int32, ∃ kk1 : Nat → Int32, ∃ mm1 : Nat → Int32, ∃ tt1 : Nat → Int32, V' (kb + 50) = some (.inr (1, [.ref (kb + 51), .ref (kb + 52), .int (e_fd), .ref (kb + 53), .ref (kb + 55), .ref (kb + 57), .ref (qt), .ref (kb), .ref (kb + 5), .int (e_sz1), .ref (kb + 59), .ref (kb + 60), .ref (kb + 61)])) ∧ V' (kb + 59) = some (.inl (cs 1, 2, .inl (kk1))) ∧ V' (kb + 60) = some (.inl (cs 1, 2, .inl (mm1))) ∧ V' (kb + 61) = some (.inl (cs 1, 2, .inl (tt1))) ∧ (sp_hl e_sz1 kk1 mm1 tt1 (sp_tec bz0.toInt bz1.toInt bz2.toInt bz3.toInt bz4.toInt bz5.toInt bz6.toInt))))) ([.ref (kb + 50)] : List Value).toArray s 0 0 (hp_F B)) (F0 m 188 ls []) := by
        intro V9 H9 locs9 ls  ll2 cm2 wh2 mi2 ta2 hZ hP ho21 ho22 ho23 ho24 fr188  hc188 hp188x hl
        have hb_cm2 := hq_rng cm2
        have hf25 := hq_rg2 hP.1 hy1 ho22
        have hf26 := hq_rg2 hP.1 hy2 ho23
        have hf27 := hq_rg2 hP.1 hy3 ho24
        have jn212 : ∀ (V9 : hp_V) (H9 : Heap) (locs9 : List Loc) (ls : Array Slot)  (ll3 : List sp_C3) (cm3 : Int32) (wh3 : Nat → Int32) (mi3 : Nat → Int32) (ta3 : Nat → Int32), hp_Z D cs B s V9 H9 n locs9 → hq_P cs G (fun _ => true) V V9 → V9 (kb + 50) = some (.inr (1, [.ref (kb + 51), .ref (kb + 52), .int (e_fd), .ref (kb + 53), .ref (kb + 55), .ref (kb + 57), .ref (qt), .ref (kb), .ref (kb + 5), .int (cm3), .ref (kb + 59), .ref (kb + 60), .ref (kb + 61)])) → V9 (kb + 59) = some (.inl (cs 1, 2, .inl (wh3))) → V9 (kb + 60) = some (.inl (cs 1, 2, .inl (mi3))) → V9 (kb + 61) = some (.inl (cs 1, 2, .inl (ta3))) → (∀ x, x ≠ kb + 50 → x ≠ kb + 59 → x ≠ kb + 60 → x ≠ kb + 61 → V9 x = V x) → (sp_hl cm3 wh3 mi3 ta3 ll3) → (ll3 ++ (sp_te1 5 bz6.toInt ++ []) = (sp_tec bz0.toInt bz1.toInt bz2.toInt bz3.toInt bz4.toInt bz5.toInt bz6.toInt)) → lv_has ls 1 [(0, .ref (kb + 50))] → W p l e ({ frames := 2, cells := 0, slots := 0, locals := 44 }) s m ([.ref (kb + 50)] : List Value).toArray below meth c H9 locs9 0 0 (MQ below (hp_QV D cs B (fun V' n' => n = n' ∧ hq_P cs G (fun _ => true) V V' ∧ (∀ x, x ≠ kb + 50 → x ≠ kb + 59 → x ≠ kb + 60 → x ≠ kb + 61 → V' x = V x) ∧ (∃ e_sz1 : Int32, ∃ kk1 : Nat → Int32, ∃ mm1 : Nat → Int32, ∃ tt1 : Nat → Int32, V' (kb + 50) = some (.inr (1, [.ref (kb + 51), .ref (kb + 52), .int (e_fd), .ref (kb + 53), .ref (kb + 55), .ref (kb + 57), .ref (qt), .ref (kb), .ref (kb + 5), .int (e_sz1), .ref (kb + 59), .ref (kb + 60), .ref (kb + 61)])) ∧ V' (kb + 59) = some (.inl (cs 1, 2, .inl (kk1))) ∧ V' (kb + 60) = some (.inl (cs 1, 2, .inl (mm1))) ∧ V' (kb + 61) = some (.inl (cs 1, 2, .inl (tt1))) ∧ (sp_hl e_sz1 kk1 mm1 tt1 (sp_tec bz0.toInt bz1.toInt bz2.toInt bz3.toInt bz4.toInt bz5.toInt bz6.toInt))))) ([.ref (kb + 50)] : List Value).toArray s 0 0 (hp_F B)) (F0 m 212 ls []) := by
          intro V9 H9 locs9 ls  ll3 cm3 wh3 mi3 ta3 hZ hP ho28 ho29 ho30 ho31 fr212  hc212 hp212x hl
          have hb_cm3 := hq_rng cm3
          have hf32 := hq_rg2 hP.1 hy1 ho29
          have hf33 := hq_rg2 hP.1 hy2 ho30
          have hf34 := hq_rg2 hP.1 hy3 ho31
          have jn236 : ∀ (V9 : hp_V) (H9 : Heap) (locs9 : List Loc) (ls : Array Slot)  (ll4 : List sp_C3) (cm4 : Int32) (wh4 : Nat → Int32) (mi4 : Nat → Int32) (ta4 : Nat → Int32), hp_Z D cs B s V9 H9 n locs9 → hq_P cs G (fun _ => true) V V9 → V9 (kb + 50) = some (.inr (1, [.ref (kb + 51), .ref (kb + 52), .int (e_fd), .ref (kb + 53), .ref (kb + 55), .ref (kb + 57), .ref (qt), .ref (kb), .ref (kb + 5), .int (cm4), .ref (kb + 59), .ref (kb + 60), .ref (kb + 61)])) → V9 (kb + 59) = some (.inl (cs 1, 2, .inl (wh4))) → V9 (kb + 60) = some (.inl (cs 1, 2, .inl (mi4))) → V9 (kb + 61) = some (.inl (cs 1, 2, .inl (ta4))) → (∀ x, x ≠ kb + 50 → x ≠ kb + 59 → x ≠ kb + 60 → x ≠ kb + 61 → V9 x = V x) → (sp_hl cm4 wh4 mi4 ta4 ll4) → (ll4 ++ [] = (sp_tec bz0.toInt bz1.toInt bz2.toInt bz3.toInt bz4.toInt bz5.toInt bz6.toInt)) → lv_has ls 1 [(0, .ref (kb + 50))] → W p l e ({ frames := 2, cells := 0, slots := 0, locals := 44 }) s m ([.ref (kb + 50)] : List Value).toArray below meth c H9 locs9 0 0 (MQ below (hp_QV D cs B (fun V' n' => n = n' ∧ hq_P cs G (fun _ => true) V V' ∧ (∀ x, x ≠ kb + 50 → x ≠ kb + 59 → x ≠ kb + 60 → x ≠ kb + 61 → V' x = V x) ∧ (∃ e_sz1 : Int32, ∃ kk1 : Nat → Int32, ∃ mm1 : Nat → Int32, ∃ tt1 : Nat → Int32, V' (kb + 50) = some (.inr (1, [.ref (kb + 51), .ref (kb + 52), .int (e_fd), .ref (kb + 53), .ref (kb + 55), .ref (kb + 57), .ref (qt), .ref (kb), .ref (kb + 5), .int (e_sz1), .ref (kb + 59), .ref (kb + 60), .ref (kb + 61)])) ∧ V' (kb + 59) = some (.inl (cs 1, 2, .inl (kk1))) ∧ V' (kb + 60) = some (.inl (cs 1, 2, .inl (mm1))) ∧ V' (kb + 61) = some (.inl (cs 1, 2, .inl (tt1))) ∧ (sp_hl e_sz1 kk1 mm1 tt1 (sp_tec bz0.toInt bz1.toInt bz2.toInt bz3.toInt bz4.toInt bz5.toInt bz6.toInt))))) ([.ref (kb + 50)] : List Value).toArray s 0 0 (hp_F B)) (F0 m 236 ls []) := by
            intro V9 H9 locs9 ls  ll4 cm4 wh4 mi4 ta4 hZ hP ho35 ho36 ho37 ho38 fr236  hc236 hp236x hl
            have hb_cm4 := hq_rng cm4
            have hf39 := hq_rg2 hP.1 hy1 ho36
            have hf40 := hq_rg2 hP.1 hy2 ho37
            have hf41 := hq_rg2 hP.1 hy3 ho38
            exact hp_vret hx hb hr hlocks hZ ⟨rfl, hP, (fun x8 hne0 hne1 hne2 hne3 => fr236 x8 hne0 hne1 hne2 hne3), cm4, wh4, mi4, ta4, ho35, ho36, ho37, ho38, (by have h9 := hp236x; rw [List.append_nil] at h9; rw [← h9]; exact hc236)⟩ dX1_tell_236
          refine lv_aload_n hx hb dX1_tell_212 rfl (lv_at hl 0 rfl) ?_
          refine hp_get (v := .ref (kb + 51)) hx hb hts hown hZ ho28 fl_X1_12 rfl dX1_tell_213 ?_
          have fx42 : V9 (kb + 51) = some (.inr (10, [.int (bz0), .int (bz1), .int (bz2), .int (bz3), .int (bz4), .int (bz5), .int (bz6)])) := (fr212 (kb + 51) (hq_ne kb 51 50 (by decide)) (hq_ne kb 51 59 (by decide)) (hq_ne kb 51 60 (by decide)) (hq_ne kb 51 61 (by decide))).trans (hc1)
          refine hp_get (v := .int (bz6)) hx hb hts hown hZ fx42 fl_X1_117 rfl dX1_tell_216 ?_
          refine lv_iconst (v := -1) hx hb dX1_tell_219 (by decide) ?_
          refine lv_icmp_eq (tgt := 236) hx hb dX1_tell_220 (by decide) (fun c43 => ?_) (fun c43 => ?_)
          · have c43 : (bz6).toInt = (-1 : Int) := hq_eqi.mp c43
            exact jn236 _ _ _ ls  (ll3) (cm3) (wh3) (mi3) (ta3) hZ hP ho28 ho29 ho30 ho31 (fun x8 hne0 hne1 hne2 hne3 => fr212 x8 hne0 hne1 hne2 hne3) (hc212) (sp_pc_n hp212x (sp_te1_n (by omega))) (lv_sub hl [0] rfl)
          · have c43 : ¬ (bz6).toInt = (-1 : Int) := fun h9 => c43 (hq_eqi.mpr h9)
            refine lv_aload_n hx hb dX1_tell_223 rfl (lv_at hl 0 rfl) ?_
            refine lv_iconst (v := 5) hx hb dX1_tell_224 (by decide) ?_
            refine lv_aload_n hx hb dX1_tell_225 rfl (lv_at hl 0 rfl) ?_
            refine hp_get (v := .ref (kb + 51)) hx hb hts hown hZ ho28 fl_X1_12 rfl dX1_tell_226 ?_
            refine hp_get (v := .int (bz6)) hx hb hts hown hZ fx42 fl_X1_117 rfl dX1_tell_229 ?_
            refine lv_iconst (v := -1) hx hb dX1_tell_232 (by decide) ?_
            have hl44 : (5 : Int32).toInt = 5 := by decide
            have hl45 : (-1 : Int32).toInt = -1 := by decide
            have hpe46 : sp_te1 5 bz6.toInt = [((5 : Int32).toInt, (bz6 : Int32).toInt, (-1 : Int32).toInt)] := by rw [sp_te1_y (by omega), show (5 : Int32).toInt = 5 by decide, show (-1 : Int32).toInt = -1 by decide]
            have b47 := sp_pc_l hp212x hpe46
            have hl48 : (5 : Int32).toInt = 5 := by decide
            have hl49 : (-1 : Int32).toInt = -1 := by decide
            refine hp_callv (hp_runV (As := [.int (5), .int (bz6), .int (-1)]) (rest := []) hx hb hml hown hts (x_addC l D cs B G V9 n hP.1 (kb) (qt) (e_fd) (cm3) (5) (bz6) (-1) (wh3) (mi3) (ta3) (ll3) hy0 hy1 hy2 hy3 ho28 ho29 ho30 ho31  hc212 (by omega) (by omega)) hZ ho28 cv_X1_166 rfl rfl ⟨Nat.le_of_ble_eq_true rfl, Nat.le_of_ble_eq_true rfl⟩ rfl hl.1 rfl (Nat.le_of_ble_eq_true rfl) dX1_tell_233 ⟨(Nat.le_of_ble_eq_true rfl), (Nat.le_of_ble_eq_true rfl)⟩) hZ (fun V50 n51 _ _ hw52 hZ => ?_)
            obtain ⟨rfl, hq54, fr55, z56, u57, u58, u59, ho60, ho61, ho62, ho63, hp64⟩ := hw52
            have b65 := hq_rng z56
            have hP := hP.trans hq54 (fun _ h => Bool.noConfusion h)
            have hf66 := hq_rg2 hP.1 hy1 ho61
            have hf67 := hq_rg2 hP.1 hy2 ho62
            have hf68 := hq_rg2 hP.1 hy3 ho63
            exact jn236 _ _ _ ls  ((ll3 ++ [((5 : Int32).toInt, (bz6 : Int32).toInt, (-1 : Int32).toInt)])) (z56) (u57) (u58) (u59) hZ hP ho60 ho61 ho62 ho63 (fun x8 hne0 hne1 hne2 hne3 => (fr55 x8 hne0 hne1 hne2 hne3).trans (fr212 x8 hne0 hne1 hne2 hne3)) (hp64) ((sp_pc_y hp212x hpe46)) (lv_sub hl [0] rfl)
        refine lv_aload_n hx hb dX1_tell_188 rfl (lv_at hl 0 rfl) ?_
        refine hp_get (v := .ref (kb + 51)) hx hb hts hown hZ ho21 fl_X1_12 rfl dX1_tell_189 ?_
        have fx69 : V9 (kb + 51) = some (.inr (10, [.int (bz0), .int (bz1), .int (bz2), .int (bz3), .int (bz4), .int (bz5), .int (bz6)])) := (fr188 (kb + 51) (hq_ne kb 51 50 (by decide)) (hq_ne kb 51 59 (by decide)) (hq_ne kb 51 60 (by decide)) (hq_ne kb 51 61 (by decide))).trans (hc1)
        refine hp_get (v := .int (bz5)) hx hb hts hown hZ fx69 fl_X1_114 rfl dX1_tell_192 ?_
        refine lv_iconst (v := -1) hx hb dX1_tell_195 (by decide) ?_
        refine lv_icmp_eq (tgt := 212) hx hb dX1_tell_196 (by decide) (fun c70 => ?_) (fun c70 => ?_)
        · have c70 : (bz5).toInt = (-1 : Int) := hq_eqi.mp c70
          exact jn212 _ _ _ ls  (ll2) (cm2) (wh2) (mi2) (ta2) hZ hP ho21 ho22 ho23 ho24 (fun x8 hne0 hne1 hne2 hne3 => fr188 x8 hne0 hne1 hne2 hne3) (hc188) (sp_pc_n hp188x (sp_te1_n (by omega))) (lv_sub hl [0] rfl)
        · have c70 : ¬ (bz5).toInt = (-1 : Int) := fun h9 => c70 (hq_eqi.mpr h9)
          refine lv_aload_n hx hb dX1_tell_199 rfl (lv_at hl 0 rfl) ?_
          refine lv_iconst (v := 5) hx hb dX1_tell_200 (by decide) ?_
          refine lv_aload_n hx hb dX1_tell_201 rfl (lv_at hl 0 rfl) ?_
          refine hp_get (v := .ref (kb + 51)) hx hb hts hown hZ ho21 fl_X1_12 rfl dX1_tell_202 ?_
          refine hp_get (v := .int (bz5)) hx hb hts hown hZ fx69 fl_X1_114 rfl dX1_tell_205 ?_
          refine lv_iconst (v := -1) hx hb dX1_tell_208 (by decide) ?_
          have hl71 : (5 : Int32).toInt = 5 := by decide
          have hl72 : (-1 : Int32).toInt = -1 := by decide
          have hpe73 : sp_te1 5 bz5.toInt = [((5 : Int32).toInt, (bz5 : Int32).toInt, (-1 : Int32).toInt)] := by rw [sp_te1_y (by omega), show (5 : Int32).toInt = 5 by decide, show (-1 : Int32).toInt = -1 by decide]
          have b74 := sp_pc_l hp188x hpe73
          have hl75 : (5 : Int32).toInt = 5 := by decide
          have hl76 : (-1 : Int32).toInt = -1 := by decide
          refine hp_callv (hp_runV (As := [.int (5), .int (bz5), .int (-1)]) (rest := []) hx hb hml hown hts (x_addC l D cs B G V9 n hP.1 (kb) (qt) (e_fd) (cm2) (5) (bz5) (-1) (wh2) (mi2) (ta2) (ll2) hy0 hy1 hy2 hy3 ho21 ho22 ho23 ho24  hc188 (by omega) (by omega)) hZ ho21 cv_X1_166 rfl rfl ⟨Nat.le_of_ble_eq_true rfl, Nat.le_of_ble_eq_true rfl⟩ rfl hl.1 rfl (Nat.le_of_ble_eq_true rfl) dX1_tell_209 ⟨(Nat.le_of_ble_eq_true rfl), (Nat.le_of_ble_eq_true rfl)⟩) hZ (fun V77 n78 _ _ hw79 hZ => ?_)
          obtain ⟨rfl, hq81, fr82, z83, u84, u85, u86, ho87, ho88, ho89, ho90, hp91⟩ := hw79
          have b92 := hq_rng z83
          have hP := hP.trans hq81 (fun _ h => Bool.noConfusion h)
          have hf93 := hq_rg2 hP.1 hy1 ho88
          have hf94 := hq_rg2 hP.1 hy2 ho89
          have hf95 := hq_rg2 hP.1 hy3 ho90
          exact jn212 _ _ _ ls  ((ll2 ++ [((5 : Int32).toInt, (bz5 : Int32).toInt, (-1 : Int32).toInt)])) (z83) (u84) (u85) (u86) hZ hP ho87 ho88 ho89 ho90 (fun x8 hne0 hne1 hne2 hne3 => (fr82 x8 hne0 hne1 hne2 hne3).trans (fr188 x8 hne0 hne1 hne2 hne3)) (hp91) ((sp_pc_y hp188x hpe73)) (lv_sub hl [0] rfl)
      refine lv_aload_n hx hb dX1_tell_108 rfl (lv_at hl 0 rfl) ?_
      refine hp_get (v := .ref (kb + 51)) hx hb hts hown hZ ho14 fl_X1_12 rfl dX1_tell_109 ?_
      have fx96 : V9 (kb + 51) = some (.inr (10, [.int (bz0), .int (bz1), .int (bz2), .int (bz3), .int (bz4), .int (bz5), .int (bz6)])) := (fr108 (kb + 51) (hq_ne kb 51 50 (by decide)) (hq_ne kb 51 59 (by decide)) (hq_ne kb 51 60 (by decide)) (hq_ne kb 51 61 (by decide))).trans (hc1)
      refine hp_get (v := .int (bz4)) hx hb hts hown hZ fx96 fl_X1_111 rfl dX1_tell_112 ?_
      refine lv_bipush (v := 60) hx hb dX1_tell_115 (by decide) ?_
      refine lv_icmp_ne (tgt := 136) hx hb dX1_tell_117 (by decide) (fun c97 => ?_) (fun c97 => ?_)
      · have c97 : ¬ (bz4).toInt = (60 : Int) := fun h9 => c97 (hq_eqi.mpr h9)
        refine lv_aload_n hx hb dX1_tell_136 rfl (lv_at hl 0 rfl) ?_
        refine hp_get (v := .ref (kb + 51)) hx hb hts hown hZ ho14 fl_X1_12 rfl dX1_tell_137 ?_
        refine hp_get (v := .int (bz4)) hx hb hts hown hZ fx96 fl_X1_111 rfl dX1_tell_140 ?_
        refine lv_bipush (v := -2) hx hb dX1_tell_143 (by decide) ?_
        refine lv_icmp_eq (tgt := 188) hx hb dX1_tell_145 (by decide) (fun c98 => ?_) (fun c98 => ?_)
        · have c98 : (bz4).toInt = (-2 : Int) := hq_eqi.mp c98
          exact jn188 _ _ _ ls  (ll1) (cm1) (wh1) (mi1) (ta1) hZ hP ho14 ho15 ho16 ho17 (fun x8 hne0 hne1 hne2 hne3 => fr108 x8 hne0 hne1 hne2 hne3) (hc108) (sp_pc_n hp108x (sp_tk3_o (by omega))) (lv_sub hl [0] rfl)
        · have c98 : ¬ (bz4).toInt = (-2 : Int) := fun h9 => c98 (hq_eqi.mpr h9)
          refine lv_aload_n hx hb dX1_tell_148 rfl (lv_at hl 0 rfl) ?_
          refine lv_iconst (v := 3) hx hb dX1_tell_149 (by decide) ?_
          refine lv_aload_n hx hb dX1_tell_150 rfl (lv_at hl 0 rfl) ?_
          refine hp_get (v := .ref (kb + 51)) hx hb hts hown hZ ho14 fl_X1_12 rfl dX1_tell_151 ?_
          refine hp_get (v := .int (bz2)) hx hb hts hown hZ fx96 fl_X1_73 rfl dX1_tell_154 ?_
          refine lv_iconst (v := -1) hx hb dX1_tell_157 (by decide) ?_
          refine lv_icmp_ne (tgt := 171) hx hb dX1_tell_158 (by decide) (fun c99 => ?_) (fun c99 => ?_)
          · have c99 : ¬ (bz2).toInt = (-1 : Int) := fun h9 => c99 (hq_eqi.mpr h9)
            refine lv_aload_n hx hb dX1_tell_171 rfl (lv_at hl 0 rfl) ?_
            refine hp_get (v := .ref (kb + 51)) hx hb hts hown hZ ho14 fl_X1_12 rfl dX1_tell_172 ?_
            refine hp_get (v := .int (bz2)) hx hb hts hown hZ fx96 fl_X1_73 rfl dX1_tell_175 ?_
            refine lv_aload_n hx hb dX1_tell_178 rfl (lv_at hl 0 rfl) ?_
            refine hp_get (v := .ref (kb + 51)) hx hb hts hown hZ ho14 fl_X1_12 rfl dX1_tell_179 ?_
            refine hp_get (v := .int (bz4)) hx hb hts hown hZ fx96 fl_X1_111 rfl dX1_tell_182 ?_
            have hl100 : (3 : Int32).toInt = 3 := by decide
            have hpe101 : sp_tk3 bz2.toInt bz4.toInt = [((3 : Int32).toInt, (bz2 : Int32).toInt, (bz4 : Int32).toInt)] := sp_tk3_y (by omega) (by omega) (by omega) (by omega)
            have b102 := sp_pc_l hp108x hpe101
            have hl103 : (3 : Int32).toInt = 3 := by decide
            refine hp_callv (hp_runV (As := [.int (3), .int (bz2), .int (bz4)]) (rest := []) hx hb hml hown hts (x_addC l D cs B G V9 n hP.1 (kb) (qt) (e_fd) (cm1) (3) (bz2) (bz4) (wh1) (mi1) (ta1) (ll1) hy0 hy1 hy2 hy3 ho14 ho15 ho16 ho17  hc108 (by omega) (by omega)) hZ ho14 cv_X1_166 rfl rfl ⟨Nat.le_of_ble_eq_true rfl, Nat.le_of_ble_eq_true rfl⟩ rfl hl.1 rfl (Nat.le_of_ble_eq_true rfl) dX1_tell_185 ⟨(Nat.le_of_ble_eq_true rfl), (Nat.le_of_ble_eq_true rfl)⟩) hZ (fun V104 n105 _ _ hw106 hZ => ?_)
            obtain ⟨rfl, hq108, fr109, z110, u111, u112, u113, ho114, ho115, ho116, ho117, hp118⟩ := hw106
            have b119 := hq_rng z110
            have hP := hP.trans hq108 (fun _ h => Bool.noConfusion h)
            have hf120 := hq_rg2 hP.1 hy1 ho115
            have hf121 := hq_rg2 hP.1 hy2 ho116
            have hf122 := hq_rg2 hP.1 hy3 ho117
            exact jn188 _ _ _ ls  ((ll1 ++ [((3 : Int32).toInt, (bz2 : Int32).toInt, (bz4 : Int32).toInt)])) (z110) (u111) (u112) (u113) hZ hP ho114 ho115 ho116 ho117 (fun x8 hne0 hne1 hne2 hne3 => (fr109 x8 hne0 hne1 hne2 hne3).trans (fr108 x8 hne0 hne1 hne2 hne3)) (hp118) ((sp_pc_y hp108x hpe101)) (lv_sub hl [0] rfl)
          · have c99 : (bz2).toInt = (-1 : Int) := hq_eqi.mp c99
            refine lv_aload_n hx hb dX1_tell_161 rfl (lv_at hl 0 rfl) ?_
            refine hp_get (v := .ref (kb + 51)) hx hb hts hown hZ ho14 fl_X1_12 rfl dX1_tell_162 ?_
            refine hp_get (v := .int (bz4)) hx hb hts hown hZ fx96 fl_X1_111 rfl dX1_tell_165 ?_
            refine lv_goto (tgt := 178) hx hb dX1_tell_168 (by decide) ?_
            refine lv_aload_n hx hb dX1_tell_178 rfl (lv_at hl 0 rfl) ?_
            refine hp_get (v := .ref (kb + 51)) hx hb hts hown hZ ho14 fl_X1_12 rfl dX1_tell_179 ?_
            refine hp_get (v := .int (bz4)) hx hb hts hown hZ fx96 fl_X1_111 rfl dX1_tell_182 ?_
            have hl123 : (3 : Int32).toInt = 3 := by decide
            have hpe124 : sp_tk3 bz2.toInt bz4.toInt = [((3 : Int32).toInt, (bz4 : Int32).toInt, (bz4 : Int32).toInt)] := sp_tk3_y (by omega) (by omega) (by omega) (by omega)
            have b125 := sp_pc_l hp108x hpe124
            have hl126 : (3 : Int32).toInt = 3 := by decide
            refine hp_callv (hp_runV (As := [.int (3), .int (bz4), .int (bz4)]) (rest := []) hx hb hml hown hts (x_addC l D cs B G V9 n hP.1 (kb) (qt) (e_fd) (cm1) (3) (bz4) (bz4) (wh1) (mi1) (ta1) (ll1) hy0 hy1 hy2 hy3 ho14 ho15 ho16 ho17  hc108 (by omega) (by omega)) hZ ho14 cv_X1_166 rfl rfl ⟨Nat.le_of_ble_eq_true rfl, Nat.le_of_ble_eq_true rfl⟩ rfl hl.1 rfl (Nat.le_of_ble_eq_true rfl) dX1_tell_185 ⟨(Nat.le_of_ble_eq_true rfl), (Nat.le_of_ble_eq_true rfl)⟩) hZ (fun V127 n128 _ _ hw129 hZ => ?_)
            obtain ⟨rfl, hq131, fr132, z133, u134, u135, u136, ho137, ho138, ho139, ho140, hp141⟩ := hw129
            have b142 := hq_rng z133
            have hP := hP.trans hq131 (fun _ h => Bool.noConfusion h)
            have hf143 := hq_rg2 hP.1 hy1 ho138
            have hf144 := hq_rg2 hP.1 hy2 ho139
            have hf145 := hq_rg2 hP.1 hy3 ho140
            exact jn188 _ _ _ ls  ((ll1 ++ [((3 : Int32).toInt, (bz4 : Int32).toInt, (bz4 : Int32).toInt)])) (z133) (u134) (u135) (u136) hZ hP ho137 ho138 ho139 ho140 (fun x8 hne0 hne1 hne2 hne3 => (fr132 x8 hne0 hne1 hne2 hne3).trans (fr108 x8 hne0 hne1 hne2 hne3)) (hp141) ((sp_pc_y hp108x hpe124)) (lv_sub hl [0] rfl)
      · have c97 : (bz4).toInt = (60 : Int) := hq_eqi.mp c97
        refine lv_aload_n hx hb dX1_tell_120 rfl (lv_at hl 0 rfl) ?_
        refine lv_iconst (v := 4) hx hb dX1_tell_121 (by decide) ?_
        refine lv_aload_n hx hb dX1_tell_122 rfl (lv_at hl 0 rfl) ?_
        refine hp_get (v := .ref (kb + 51)) hx hb hts hown hZ ho14 fl_X1_12 rfl dX1_tell_123 ?_
        refine hp_get (v := .int (bz2)) hx hb hts hown hZ fx96 fl_X1_73 rfl dX1_tell_126 ?_
        refine lv_iconst (v := -1) hx hb dX1_tell_129 (by decide) ?_
        have hl146 : (4 : Int32).toInt = 4 := by decide
        have hl147 : (-1 : Int32).toInt = -1 := by decide
        have hpe148 : sp_tk3 bz2.toInt bz4.toInt = [((4 : Int32).toInt, (bz2 : Int32).toInt, (-1 : Int32).toInt)] := sp_tk3_n (by omega) (by omega) (by omega)
        have b149 := sp_pc_l hp108x hpe148
        have hl150 : (4 : Int32).toInt = 4 := by decide
        have hl151 : (-1 : Int32).toInt = -1 := by decide
        refine hp_callv (hp_runV (As := [.int (4), .int (bz2), .int (-1)]) (rest := []) hx hb hml hown hts (x_addC l D cs B G V9 n hP.1 (kb) (qt) (e_fd) (cm1) (4) (bz2) (-1) (wh1) (mi1) (ta1) (ll1) hy0 hy1 hy2 hy3 ho14 ho15 ho16 ho17  hc108 (by omega) (by omega)) hZ ho14 cv_X1_166 rfl rfl ⟨Nat.le_of_ble_eq_true rfl, Nat.le_of_ble_eq_true rfl⟩ rfl hl.1 rfl (Nat.le_of_ble_eq_true rfl) dX1_tell_130 ⟨(Nat.le_of_ble_eq_true rfl), (Nat.le_of_ble_eq_true rfl)⟩) hZ (fun V152 n153 _ _ hw154 hZ => ?_)
        obtain ⟨rfl, hq156, fr157, z158, u159, u160, u161, ho162, ho163, ho164, ho165, hp166⟩ := hw154
        have b167 := hq_rng z158
        have hP := hP.trans hq156 (fun _ h => Bool.noConfusion h)
        have hf168 := hq_rg2 hP.1 hy1 ho163
        have hf169 := hq_rg2 hP.1 hy2 ho164
        have hf170 := hq_rg2 hP.1 hy3 ho165
        refine lv_goto (tgt := 188) hx hb dX1_tell_133 (by decide) ?_
        exact jn188 _ _ _ ls  ((ll1 ++ [((4 : Int32).toInt, (bz2 : Int32).toInt, (-1 : Int32).toInt)])) (z158) (u159) (u160) (u161) hZ hP ho162 ho163 ho164 ho165 (fun x8 hne0 hne1 hne2 hne3 => (fr157 x8 hne0 hne1 hne2 hne3).trans (fr108 x8 hne0 hne1 hne2 hne3)) (hp166) ((sp_pc_y hp108x hpe148)) (lv_sub hl [0] rfl)
    refine lv_aload_n hx hb dX1_tell_29 rfl (lv_at hl 0 rfl) ?_
    refine hp_get (v := .ref (kb + 51)) hx hb hts hown hZ ho4 fl_X1_12 rfl dX1_tell_30 ?_
    have fx171 : V9 (kb + 51) = some (.inr (10, [.int (bz0), .int (bz1), .int (bz2), .int (bz3), .int (bz4), .int (bz5), .int (bz6)])) := (fr29 (kb + 51) (hq_ne kb 51 50 (by decide)) (hq_ne kb 51 59 (by decide)) (hq_ne kb 51 60 (by decide)) (hq_ne kb 51 61 (by decide))).trans (hc1)
    refine hp_get (v := .int (bz3)) hx hb hts hown hZ fx171 fl_X1_101 rfl dX1_tell_33 ?_
    refine lv_iconst (v := -1) hx hb dX1_tell_36 (by decide) ?_
    refine lv_icmp_ne (tgt := 56) hx hb dX1_tell_37 (by decide) (fun c172 => ?_) (fun c172 => ?_)
    · have c172 : ¬ (bz3).toInt = (-1 : Int) := fun h9 => c172 (hq_eqi.mpr h9)
      refine lv_aload_n hx hb dX1_tell_56 rfl (lv_at hl 0 rfl) ?_
      refine hp_get (v := .ref (kb + 51)) hx hb hts hown hZ ho4 fl_X1_12 rfl dX1_tell_57 ?_
      refine hp_get (v := .int (bz3)) hx hb hts hown hZ fx171 fl_X1_101 rfl dX1_tell_60 ?_
      refine lv_bipush (v := -2) hx hb dX1_tell_63 (by decide) ?_
      refine lv_icmp_eq (tgt := 108) hx hb dX1_tell_65 (by decide) (fun c173 => ?_) (fun c173 => ?_)
      · have c173 : (bz3).toInt = (-2 : Int) := hq_eqi.mp c173
        exact jn108 _ _ _ ls  (ll0) (cm0) (wh0) (mi0) (ta0) hZ hP ho4 ho6 ho8 ho10 (fun x8 hne0 hne1 hne2 hne3 => fr29 x8 hne0 hne1 hne2 hne3) (hc29) (sp_pc_n hp29x (sp_tk2_o (by omega))) (lv_sub hl [0] rfl)
      · have c173 : ¬ (bz3).toInt = (-2 : Int) := fun h9 => c173 (hq_eqi.mpr h9)
        refine lv_aload_n hx hb dX1_tell_68 rfl (lv_at hl 0 rfl) ?_
        refine lv_iconst (v := 2) hx hb dX1_tell_69 (by decide) ?_
        refine lv_aload_n hx hb dX1_tell_70 rfl (lv_at hl 0 rfl) ?_
        refine hp_get (v := .ref (kb + 51)) hx hb hts hown hZ ho4 fl_X1_12 rfl dX1_tell_71 ?_
        refine hp_get (v := .int (bz1)) hx hb hts hown hZ fx171 fl_X1_70 rfl dX1_tell_74 ?_
        refine lv_iconst (v := -1) hx hb dX1_tell_77 (by decide) ?_
        refine lv_icmp_ne (tgt := 91) hx hb dX1_tell_78 (by decide) (fun c174 => ?_) (fun c174 => ?_)
        · have c174 : ¬ (bz1).toInt = (-1 : Int) := fun h9 => c174 (hq_eqi.mpr h9)
          refine lv_aload_n hx hb dX1_tell_91 rfl (lv_at hl 0 rfl) ?_
          refine hp_get (v := .ref (kb + 51)) hx hb hts hown hZ ho4 fl_X1_12 rfl dX1_tell_92 ?_
          refine hp_get (v := .int (bz1)) hx hb hts hown hZ fx171 fl_X1_70 rfl dX1_tell_95 ?_
          refine lv_aload_n hx hb dX1_tell_98 rfl (lv_at hl 0 rfl) ?_
          refine hp_get (v := .ref (kb + 51)) hx hb hts hown hZ ho4 fl_X1_12 rfl dX1_tell_99 ?_
          refine hp_get (v := .int (bz3)) hx hb hts hown hZ fx171 fl_X1_101 rfl dX1_tell_102 ?_
          have hl175 : (2 : Int32).toInt = 2 := by decide
          have hpe176 : sp_tk2 bz1.toInt bz3.toInt = [((2 : Int32).toInt, (bz1 : Int32).toInt, (bz3 : Int32).toInt)] := sp_tk2_y (by omega) (by omega) (by omega) (by omega)
          have b177 := sp_pc_l hp29x hpe176
          have hl178 : (2 : Int32).toInt = 2 := by decide
          refine hp_callv (hp_runV (As := [.int (2), .int (bz1), .int (bz3)]) (rest := []) hx hb hml hown hts (x_addC l D cs B G V9 n hP.1 (kb) (qt) (e_fd) (cm0) (2) (bz1) (bz3) (wh0) (mi0) (ta0) (ll0) hy0 hy1 hy2 hy3 ho4 ho6 ho8 ho10  hc29 (by omega) (by omega)) hZ ho4 cv_X1_166 rfl rfl ⟨Nat.le_of_ble_eq_true rfl, Nat.le_of_ble_eq_true rfl⟩ rfl hl.1 rfl (Nat.le_of_ble_eq_true rfl) dX1_tell_105 ⟨(Nat.le_of_ble_eq_true rfl), (Nat.le_of_ble_eq_true rfl)⟩) hZ (fun V179 n180 _ _ hw181 hZ => ?_)
          obtain ⟨rfl, hq183, fr184, z185, u186, u187, u188, ho189, ho190, ho191, ho192, hp193⟩ := hw181
          have b194 := hq_rng z185
          have hP := hP.trans hq183 (fun _ h => Bool.noConfusion h)
          have hf195 := hq_rg2 hP.1 hy1 ho190
          have hf196 := hq_rg2 hP.1 hy2 ho191
          have hf197 := hq_rg2 hP.1 hy3 ho192
          exact jn108 _ _ _ ls  ((ll0 ++ [((2 : Int32).toInt, (bz1 : Int32).toInt, (bz3 : Int32).toInt)])) (z185) (u186) (u187) (u188) hZ hP ho189 ho190 ho191 ho192 (fun x8 hne0 hne1 hne2 hne3 => (fr184 x8 hne0 hne1 hne2 hne3).trans (fr29 x8 hne0 hne1 hne2 hne3)) (hp193) ((sp_pc_y hp29x hpe176)) (lv_sub hl [0] rfl)
        · have c174 : (bz1).toInt = (-1 : Int) := hq_eqi.mp c174
          refine lv_aload_n hx hb dX1_tell_81 rfl (lv_at hl 0 rfl) ?_
          refine hp_get (v := .ref (kb + 51)) hx hb hts hown hZ ho4 fl_X1_12 rfl dX1_tell_82 ?_
          refine hp_get (v := .int (bz3)) hx hb hts hown hZ fx171 fl_X1_101 rfl dX1_tell_85 ?_
          refine lv_goto (tgt := 98) hx hb dX1_tell_88 (by decide) ?_
          refine lv_aload_n hx hb dX1_tell_98 rfl (lv_at hl 0 rfl) ?_
          refine hp_get (v := .ref (kb + 51)) hx hb hts hown hZ ho4 fl_X1_12 rfl dX1_tell_99 ?_
          refine hp_get (v := .int (bz3)) hx hb hts hown hZ fx171 fl_X1_101 rfl dX1_tell_102 ?_
          have hl198 : (2 : Int32).toInt = 2 := by decide
          have hpe199 : sp_tk2 bz1.toInt bz3.toInt = [((2 : Int32).toInt, (bz3 : Int32).toInt, (bz3 : Int32).toInt)] := sp_tk2_y (by omega) (by omega) (by omega) (by omega)
          have b200 := sp_pc_l hp29x hpe199
          have hl201 : (2 : Int32).toInt = 2 := by decide
          refine hp_callv (hp_runV (As := [.int (2), .int (bz3), .int (bz3)]) (rest := []) hx hb hml hown hts (x_addC l D cs B G V9 n hP.1 (kb) (qt) (e_fd) (cm0) (2) (bz3) (bz3) (wh0) (mi0) (ta0) (ll0) hy0 hy1 hy2 hy3 ho4 ho6 ho8 ho10  hc29 (by omega) (by omega)) hZ ho4 cv_X1_166 rfl rfl ⟨Nat.le_of_ble_eq_true rfl, Nat.le_of_ble_eq_true rfl⟩ rfl hl.1 rfl (Nat.le_of_ble_eq_true rfl) dX1_tell_105 ⟨(Nat.le_of_ble_eq_true rfl), (Nat.le_of_ble_eq_true rfl)⟩) hZ (fun V202 n203 _ _ hw204 hZ => ?_)
          obtain ⟨rfl, hq206, fr207, z208, u209, u210, u211, ho212, ho213, ho214, ho215, hp216⟩ := hw204
          have b217 := hq_rng z208
          have hP := hP.trans hq206 (fun _ h => Bool.noConfusion h)
          have hf218 := hq_rg2 hP.1 hy1 ho213
          have hf219 := hq_rg2 hP.1 hy2 ho214
          have hf220 := hq_rg2 hP.1 hy3 ho215
          exact jn108 _ _ _ ls  ((ll0 ++ [((2 : Int32).toInt, (bz3 : Int32).toInt, (bz3 : Int32).toInt)])) (z208) (u209) (u210) (u211) hZ hP ho212 ho213 ho214 ho215 (fun x8 hne0 hne1 hne2 hne3 => (fr207 x8 hne0 hne1 hne2 hne3).trans (fr29 x8 hne0 hne1 hne2 hne3)) (hp216) ((sp_pc_y hp29x hpe199)) (lv_sub hl [0] rfl)
    · have c172 : (bz3).toInt = (-1 : Int) := hq_eqi.mp c172
      refine lv_aload_n hx hb dX1_tell_40 rfl (lv_at hl 0 rfl) ?_
      refine lv_iconst (v := 1) hx hb dX1_tell_41 (by decide) ?_
      refine lv_aload_n hx hb dX1_tell_42 rfl (lv_at hl 0 rfl) ?_
      refine hp_get (v := .ref (kb + 51)) hx hb hts hown hZ ho4 fl_X1_12 rfl dX1_tell_43 ?_
      refine hp_get (v := .int (bz1)) hx hb hts hown hZ fx171 fl_X1_70 rfl dX1_tell_46 ?_
      refine lv_iconst (v := -1) hx hb dX1_tell_49 (by decide) ?_
      have hl221 : (1 : Int32).toInt = 1 := by decide
      have hl222 : (-1 : Int32).toInt = -1 := by decide
      have hpe223 : sp_tk2 bz1.toInt bz3.toInt = [((1 : Int32).toInt, (bz1 : Int32).toInt, (-1 : Int32).toInt)] := sp_tk2_n (by omega) (by omega) (by omega)
      have b224 := sp_pc_l hp29x hpe223
      have hl225 : (1 : Int32).toInt = 1 := by decide
      have hl226 : (-1 : Int32).toInt = -1 := by decide
      refine hp_callv (hp_runV (As := [.int (1), .int (bz1), .int (-1)]) (rest := []) hx hb hml hown hts (x_addC l D cs B G V9 n hP.1 (kb) (qt) (e_fd) (cm0) (1) (bz1) (-1) (wh0) (mi0) (ta0) (ll0) hy0 hy1 hy2 hy3 ho4 ho6 ho8 ho10  hc29 (by omega) (by omega)) hZ ho4 cv_X1_166 rfl rfl ⟨Nat.le_of_ble_eq_true rfl, Nat.le_of_ble_eq_true rfl⟩ rfl hl.1 rfl (Nat.le_of_ble_eq_true rfl) dX1_tell_50 ⟨(Nat.le_of_ble_eq_true rfl), (Nat.le_of_ble_eq_true rfl)⟩) hZ (fun V227 n228 _ _ hw229 hZ => ?_)
      obtain ⟨rfl, hq231, fr232, z233, u234, u235, u236, ho237, ho238, ho239, ho240, hp241⟩ := hw229
      have b242 := hq_rng z233
      have hP := hP.trans hq231 (fun _ h => Bool.noConfusion h)
      have hf243 := hq_rg2 hP.1 hy1 ho238
      have hf244 := hq_rg2 hP.1 hy2 ho239
      have hf245 := hq_rg2 hP.1 hy3 ho240
      refine lv_goto (tgt := 108) hx hb dX1_tell_53 (by decide) ?_
      exact jn108 _ _ _ ls  ((ll0 ++ [((1 : Int32).toInt, (bz1 : Int32).toInt, (-1 : Int32).toInt)])) (z233) (u234) (u235) (u236) hZ hP ho237 ho238 ho239 ho240 (fun x8 hne0 hne1 hne2 hne3 => (fr232 x8 hne0 hne1 hne2 hne3).trans (fr29 x8 hne0 hne1 hne2 hne3)) (hp241) ((sp_pc_y hp29x hpe223)) (lv_sub hl [0] rfl)
  refine lv_aload_n hx hb dX1_tell_5 rfl (lv_at hl 0 rfl) ?_
  refine hp_get (v := .ref (kb + 51)) hx hb hts hown hZ e2 fl_X1_12 rfl dX1_tell_6 ?_
  have fx246 : V1 (kb + 51) = some (.inr (10, [.int (bz0), .int (bz1), .int (bz2), .int (bz3), .int (bz4), .int (bz5), .int (bz6)])) := (o3 (kb + 51) (hq_ne kb 51 50 (by decide))).trans (hc1)
  refine hp_get (v := .int (bz0)) hx hb hts hown hZ fx246 fl_X1_67 rfl dX1_tell_9 ?_
  refine lv_iconst (v := -1) hx hb dX1_tell_12 (by decide) ?_
  refine lv_icmp_eq (tgt := 29) hx hb dX1_tell_13 (by decide) (fun c247 => ?_) (fun c247 => ?_)
  · have c247 : (bz0).toInt = (-1 : Int) := hq_eqi.mp c247
    have hl248 : (0 : Int32).toInt = 0 := by decide
    exact jn29 _ _ _ ls  ([]) (0) (kk) (mm) (tt_) hZ hP e2 fx5 fx7 fx9 (fun x8 hne0 hne1 hne2 hne3 => o3 x8 hne0) (hnil) (sp_pc_n hpc0 (sp_te1_n (by omega))) (lv_sub hl [0] rfl)
  · have c247 : ¬ (bz0).toInt = (-1 : Int) := fun h9 => c247 (hq_eqi.mpr h9)
    refine lv_aload_n hx hb dX1_tell_16 rfl (lv_at hl 0 rfl) ?_
    refine lv_iconst (v := 0) hx hb dX1_tell_17 (by decide) ?_
    refine lv_aload_n hx hb dX1_tell_18 rfl (lv_at hl 0 rfl) ?_
    refine hp_get (v := .ref (kb + 51)) hx hb hts hown hZ e2 fl_X1_12 rfl dX1_tell_19 ?_
    refine hp_get (v := .int (bz0)) hx hb hts hown hZ fx246 fl_X1_67 rfl dX1_tell_22 ?_
    refine lv_iconst (v := -1) hx hb dX1_tell_25 (by decide) ?_
    have hl249 : (0 : Int32).toInt = 0 := by decide
    have hl250 : (-1 : Int32).toInt = -1 := by decide
    have hpe251 : sp_te1 0 bz0.toInt = [((0 : Int32).toInt, (bz0 : Int32).toInt, (-1 : Int32).toInt)] := by rw [sp_te1_y (by omega), show (0 : Int32).toInt = 0 by decide, show (-1 : Int32).toInt = -1 by decide]
    have b252 := sp_pc_l hpc0 hpe251
    have hl253 : (0 : Int32).toInt = 0 := by decide
    have hl254 : (0 : Int32).toInt = 0 := by decide
    have hl255 : (-1 : Int32).toInt = -1 := by decide
    refine hp_callv (hp_runV (As := [.int (0), .int (bz0), .int (-1)]) (rest := []) hx hb hml hown hts (x_addC l D cs B G V1 n hP.1 (kb) (qt) (e_fd) (0) (0) (bz0) (-1) (kk) (mm) (tt_) ([]) hy0 hy1 hy2 hy3 e2 fx5 fx7 fx9  hnil (by omega) (by omega)) hZ e2 cv_X1_166 rfl rfl ⟨Nat.le_of_ble_eq_true rfl, Nat.le_of_ble_eq_true rfl⟩ rfl hl.1 rfl (Nat.le_of_ble_eq_true rfl) dX1_tell_26 ⟨(Nat.le_of_ble_eq_true rfl), (Nat.le_of_ble_eq_true rfl)⟩) hZ (fun V256 n257 _ _ hw258 hZ => ?_)
    obtain ⟨rfl, hq260, fr261, z262, u263, u264, u265, ho266, ho267, ho268, ho269, hp270⟩ := hw258
    have b271 := hq_rng z262
    have hP := hP.trans hq260 (fun _ h => Bool.noConfusion h)
    have hf272 := hq_rg2 hP.1 hy1 ho267
    have hf273 := hq_rg2 hP.1 hy2 ho268
    have hf274 := hq_rg2 hP.1 hy3 ho269
    exact jn29 _ _ _ ls  (([] ++ [((0 : Int32).toInt, (bz0 : Int32).toInt, (-1 : Int32).toInt)])) (z262) (u263) (u264) (u265) hZ hP ho266 ho267 ho268 ho269 (fun x8 hne0 hne1 hne2 hne3 => (fr261 x8 hne0 hne1 hne2 hne3).trans (o3 x8 hne0)) (hp270) ((sp_pc_y hpc0 hpe251)) (lv_sub hl [0] rfl)

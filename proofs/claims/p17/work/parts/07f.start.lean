theorem ins_X0 : Cond.instantiable RX0 7 ∈ TBG := TBG_mem (List.mem_of_getElem? (i := 278) (by decide +kernel)) (by decide +kernel)
theorem ins_X1 : Cond.instantiable RX1 13 ∈ TBG := TBG_mem (List.mem_of_getElem? (i := 179) (by decide +kernel)) (by decide +kernel)
theorem ins_X2 : Cond.instantiable RX2 3 ∈ TBG := TBG_mem (List.mem_of_getElem? (i := 103) (by decide +kernel)) (by decide +kernel)
theorem ins_X3 : Cond.instantiable RX3 2 ∈ TBG := TBG_mem (List.mem_of_getElem? (i := 95) (by decide +kernel)) (by decide +kernel)
theorem ins_X4 : Cond.instantiable RX4 2 ∈ TBG := TBG_mem (List.mem_of_getElem? (i := 264) (by decide +kernel)) (by decide +kernel)
theorem ins_X5 : Cond.instantiable RX5 10 ∈ TBG := TBG_mem (List.mem_of_getElem? (i := 288) (by decide +kernel)) (by decide +kernel)
theorem ins_X6 : Cond.instantiable RX6 5 ∈ TBG := TBG_mem (List.mem_of_getElem? (i := 89) (by decide +kernel)) (by decide +kernel)
theorem ins_X7 : Cond.instantiable RX7 8 ∈ TBG := TBG_mem (List.mem_of_getElem? (i := 54) (by decide +kernel)) (by decide +kernel)
theorem ins_X8 : Cond.instantiable RX8 4 ∈ TBG := TBG_mem (List.mem_of_getElem? (i := 157) (by decide +kernel)) (by decide +kernel)
theorem ins_X9 : Cond.instantiable RX9 2 ∈ TBG := TBG_mem (List.mem_of_getElem? (i := 33) (by decide +kernel)) (by decide +kernel)
theorem ins_X10 : Cond.instantiable RX10 7 ∈ TBG := TBG_mem (List.mem_of_getElem? (i := 185) (by decide +kernel)) (by decide +kernel)
theorem ins_X11 : Cond.instantiable RX11 10 ∈ TBG := TBG_mem (List.mem_of_getElem? (i := 25) (by decide +kernel)) (by decide +kernel)
theorem ins_X12 : Cond.instantiable RX12 6 ∈ TBG := TBG_mem (List.mem_of_getElem? (i := 991) (by decide +kernel)) (by decide +kernel)
theorem ins_X13 : Cond.instantiable RX13 66 ∈ TBG := TBG_mem (List.mem_of_getElem? (i := 985) (by decide +kernel)) (by decide +kernel)
theorem ao_X2 : Cond.arrayOver (.object RX2) ∈ lw_tbl := List.mem_append_right _ (List.mem_of_getElem? (i := 102) (by decide +kernel))
theorem ao_X4 : Cond.arrayOver (.object RX4) ∈ lw_tbl := List.mem_append_right _ (List.mem_of_getElem? (i := 263) (by decide +kernel))
theorem ao_X5 : Cond.arrayOver (.object RX5) ∈ lw_tbl := List.mem_append_right _ (List.mem_of_getElem? (i := 287) (by decide +kernel))
theorem ao_X9 : Cond.arrayOver (.object RX9) ∈ lw_tbl := List.mem_append_right _ (List.mem_of_getElem? (i := 284) (by decide +kernel))
theorem nl_X1_11 : Cond.methodLinkNest RX1 11 yX10_init RX11 ∈ lw_tbl := List.mem_append_right _ (List.mem_of_getElem? (i := 186) (by decide +kernel))
theorem nl_X8_31 : Cond.methodLinkNest RX8 31 yX11_verbOf RX11 ∈ lw_tbl := List.mem_append_right _ (List.mem_of_getElem? (i := 794) (by decide +kernel))
theorem nl_X8_35 : Cond.methodLinkNest RX8 35 yX11_tenseOf RX11 ∈ lw_tbl := List.mem_append_right _ (List.mem_of_getElem? (i := 797) (by decide +kernel))
theorem nl_X8_38 : Cond.methodLinkNest RX8 38 yX11_personOf RX11 ∈ lw_tbl := List.mem_append_right _ (List.mem_of_getElem? (i := 800) (by decide +kernel))
theorem sl_UNASSIGNED_STACK : Cond.laysStatic "java/lang/Throwable" "UNASSIGNED_STACK" "[Ljava/lang/StackTraceElement;" ∈ lw_tbl := List.mem_append_right _ (List.mem_of_getElem? (i := 1015) (by decide +kernel))
theorem sl_SUPPRESSED_SENTINEL : Cond.laysStatic "java/lang/Throwable" "SUPPRESSED_SENTINEL" "Ljava/util/List;" ∈ lw_tbl := List.mem_append_right _ (List.mem_of_getElem? (i := 1017) (by decide +kernel))
theorem in_T : Cond.initialized "java/lang/Throwable" ∈ lw_tbl := List.mem_append_right _ (List.mem_of_getElem? (i := 15) (by decide +kernel))
theorem kd_X13_book : Cond.codeWith yX13_book cX13_book 2 (some .int) [(23, 27, 30, 210)] ∈ TBG := TBG_mem (List.mem_of_getElem? (i := 1271) (by decide +kernel)) (by decide +kernel)
theorem hq_sig {α : Type} {o : Option α} {f : α → Nat} {k : Nat} (h : o.map f = some k) : ∃ sg, o = some sg ∧ f sg = k := by
  cases o with
  | none => cases h
  | some x => exact ⟨x, rfl, Option.some.inj h⟩
theorem cv_L_27 : hp_CVW RL 27 13 yX13_book cX13_book 2 (some .int) [(23, 27, 30, 210)] 0 := ⟨⟨TX13, 66, rfl⟩, TBG_mem (List.mem_of_getElem? (i := 1268) (by decide +kernel)) (by decide +kernel), TBG_mem (List.mem_of_getElem? (i := 1269) (by decide +kernel)) (by decide +kernel), TBG_mem (List.mem_of_getElem? (i := 1270) (by decide +kernel)) (by decide +kernel), TBG_mem (List.mem_of_getElem? (i := 14) (by decide +kernel)) (by decide +kernel), kd_X13_book, by decide, by decide, hq_sig (by decide +kernel)⟩
set_option maxHeartbeats 4000000 in
set_option maxRecDepth 100000 in
theorem law_K {s : State} {args : Array Value} (hts : ∀ w ∈ lw_tbl, w.before args s = true) : ∃ (D : va_G) (cs : Nat → ClassId), hp_K D cs s := by
  have ht : ∀ w ∈ TBG, w.before args s = true := fun w h => hts w (List.mem_filter.mp h).1
  obtain ⟨c0, j0, h0⟩ := u_known (C := RX0) (T := TX0) (N := 7) (n := 7) ht cin_X0 (ht _ ins_X0)
  obtain ⟨c1, j1, h1⟩ := u_known (C := RX1) (T := TX1) (N := 13) (n := 13) ht cin_X1 (ht _ ins_X1)
  obtain ⟨c2, j2, h2⟩ := u_known (C := RX2) (T := TX2) (N := 3) (n := 3) ht cin_X2 (ht _ ins_X2)
  obtain ⟨c3, j3, h3⟩ := u_known (C := RX3) (T := TX3) (N := 2) (n := 2) ht cin_X3 (ht _ ins_X3)
  obtain ⟨c4, j4, h4⟩ := u_known (C := RX4) (T := TX4) (N := 2) (n := 2) ht cin_X4 (ht _ ins_X4)
  obtain ⟨c5, j5, h5⟩ := u_known (C := RX5) (T := TX5) (N := 10) (n := 10) ht cin_X5 (ht _ ins_X5)
  obtain ⟨c6, j6, h6⟩ := u_known (C := RX6) (T := TX6) (N := 5) (n := 5) ht cin_X6 (ht _ ins_X6)
  obtain ⟨c7, j7, h7⟩ := u_known (C := RX7) (T := TX7) (N := 8) (n := 8) ht cin_X7 (ht _ ins_X7)
  obtain ⟨c8, j8, h8⟩ := u_known (C := RX8) (T := TX8) (N := 4) (n := 4) ht cin_X8 (ht _ ins_X8)
  obtain ⟨c9, j9, h9⟩ := u_known (C := RX9) (T := TX9) (N := 2) (n := 2) ht cin_X9 (ht _ ins_X9)
  obtain ⟨c10, j10, h10⟩ := u_known (C := RX10) (T := TX10) (N := 7) (n := 7) ht cin_X10 (ht _ ins_X10)
  obtain ⟨c11, j11, h11⟩ := u_known (C := RX11) (T := TX11) (N := 10) (n := 10) ht cin_X11 (ht _ ins_X11)
  obtain ⟨c12, j12, h12⟩ := u_known (C := RX12) (T := TX12) (N := 6) (n := 6) ht cin_X12 (ht _ ins_X12)
  obtain ⟨c13, j13, h13⟩ := u_known (C := RX13) (T := TX13) (N := 66) (n := 66) ht cin_X13 (ht _ ins_X13)
  obtain ⟨a0, k0, p0, e0, f0, g0⟩ := Cond.arrayClass_spec (ht _ ac_byte)
  obtain ⟨a1, k1, p1, e1, f1, g1⟩ := Cond.arrayClass_spec (ht _ ac_int)
  obtain ⟨a2, k2, p2, e2, f2, g2⟩ := Cond.arrayClass_spec (ht _ ac_long)
  obtain ⟨a3, k3, p3, e3, f3, g3⟩ := Cond.arrayClass_spec (ht _ ac_boolean)
  obtain ⟨p4, a4, k4, d4, -, f4, g4, e4⟩ := Cond.arrayOver_spec (hts _ ao_X2)
  obtain ⟨p5, a5, k5, d5, -, f5, g5, e5⟩ := Cond.arrayOver_spec (hts _ ao_X4)
  obtain ⟨p6, a6, k6, d6, -, f6, g6, e6⟩ := Cond.arrayOver_spec (hts _ ao_X5)
  obtain ⟨p7, a7, k7, d7, -, f7, g7, e7⟩ := Cond.arrayOver_spec (hts _ ao_X9)
  refine ⟨((fun k => if k = 0 then c0 else if k = 1 then c1 else if k = 2 then c2 else if k = 3 then c3 else if k = 4 then c4 else if k = 5 then c5 else if k = 6 then c6 else if k = 7 then c7 else if k = 8 then c8 else if k = 9 then c9 else if k = 10 then c10 else if k = 11 then c11 else if k = 12 then c12 else c13), (fun k => if k = 0 then j0 else if k = 1 then j1 else if k = 2 then j2 else if k = 3 then j3 else if k = 4 then j4 else if k = 5 then j5 else if k = 6 then j6 else if k = 7 then j7 else if k = 8 then j8 else if k = 9 then j9 else if k = 10 then j10 else if k = 11 then j11 else if k = 12 then j12 else j13)), (fun k => if k = 0 then a0 else if k = 1 then a1 else if k = 2 then a2 else if k = 3 then a3 else if k = 4 then a4 else if k = 5 then a5 else if k = 6 then a6 else a7), ⟨?_, ?_⟩, va_AO.of (hts _ ao_X2), va_AO.of (hts _ ao_X4), va_AO.of (hts _ ao_X5), va_AO.of (hts _ ao_X9), va_Nw.of rfl (hts _ nl_X1_11), va_Nw.of rfl (hts _ nl_X8_31), va_Nw.of rfl (hts _ nl_X8_35), va_Nw.of rfl (hts _ nl_X8_38)⟩
  · intro k q hq
    match k, hq with
    | 0, hq => cases hq; exact h0
    | 1, hq => cases hq; exact h1
    | 2, hq => cases hq; exact h2
    | 3, hq => cases hq; exact h3
    | 4, hq => cases hq; exact h4
    | 5, hq => cases hq; exact h5
    | 6, hq => cases hq; exact h6
    | 7, hq => cases hq; exact h7
    | 8, hq => cases hq; exact h8
    | 9, hq => cases hq; exact h9
    | 10, hq => cases hq; exact h10
    | 11, hq => cases hq; exact h11
    | 12, hq => cases hq; exact h12
    | 13, hq => cases hq; exact h13
    | k + 14, hq => simp [vwCl] at hq
  · intro k q hq
    match k, hq with
    | 0, hq => cases hq; exact ⟨fun n z => ⟨(fun k h => by cases h), k0, f0, p0, g0⟩, e0⟩
    | 1, hq => cases hq; exact ⟨fun n z => ⟨(fun k h => by cases h), k1, f1, p1, g1⟩, e1⟩
    | 2, hq => cases hq; exact ⟨fun n z => ⟨(fun k h => by cases h), k2, f2, p2, g2⟩, e2⟩
    | 3, hq => cases hq; exact ⟨fun n z => ⟨(fun k h => by cases h), k3, f3, p3, g3⟩, e3⟩
    | 4, hq => cases hq; exact ⟨fun n z => ⟨(fun k h => by cases h), k4, f4, p4, g4⟩, k4, p4, f4, g4, d4, e4⟩
    | 5, hq => cases hq; exact ⟨fun n z => ⟨(fun k h => by cases h), k5, f5, p5, g5⟩, k5, p5, f5, g5, d5, e5⟩
    | 6, hq => cases hq; exact ⟨fun n z => ⟨(fun k h => by cases h), k6, f6, p6, g6⟩, k6, p6, f6, g6, d6, e6⟩
    | 7, hq => cases hq; exact ⟨fun n z => ⟨(fun k h => by cases h), k7, f7, p7, g7⟩, k7, p7, f7, g7, d7, e7⟩
    | k + 8, hq => simp [hp_ty] at hq

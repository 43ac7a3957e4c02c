theorem hq_w0 {k : Int32} : (0 : Int64) ≤ k.toInt64 ↔ 0 ≤ k := by
  rw [Int64.le_iff_toInt_le, Int32.le_iff_toInt_le, Int32.toInt_toInt64]; rfl
theorem hq_w7 {k : Int32} : k.toInt64 ≤ (7 : Int64) ↔ k < 8 := by
  rw [Int64.le_iff_toInt_le, Int32.lt_iff_toInt_lt, Int32.toInt_toInt64]
  show k.toInt ≤ 7 ↔ k.toInt < 8
  omega
theorem hq_w00 {k : Int32} (h1 : (0 : Int64) ≤ k.toInt64) (h2 : k.toInt64 ≤ (0 : Int32).toInt64) : k = 0 := by
  rw [Int64.le_iff_toInt_le, Int32.toInt_toInt64] at h1
  rw [Int64.le_iff_toInt_le, Int32.toInt_toInt64, Int32.toInt_toInt64] at h2
  have g1 : (0 : Int) ≤ k.toInt := h1
  have g2 : k.toInt ≤ 0 := h2
  exact Int32.toInt_inj.mp (by show k.toInt = 0; omega)
/-- a method with an exception table, on roads where none of it is taken -/
abbrev hp_kww (y : MethodName) (b : ByteArray) (mL : Nat) (rt : Option FieldType) (hh : List (Nat × Nat × Nat × Nat)) : List Cond := Cond.codeWith y b mL rt hh :: TBG
abbrev hp_MW (l : Launch) (y : MethodName) (b : ByteArray) (mL : Nat) (rt : Option FieldType) (hh : List (Nat × Nat × Nat × Nat)) (rm : Room) (D : va_G) (cs : Nat → ClassId) (B : Nat) (V : hp_V) (n : Nat) (As : List Value) (Qc : Array Value → State → Outcome → State → Prop) (mc ms : Nat) : Prop := Met l y (hp_kww y b mL rt hh) rm (va_Pc As (hp_Pre D cs B V n)) Qc mc ms (hp_F B)
section HPW
variable {l : Launch} {y : MethodName} {b : ByteArray} {mL mc ms : Nat} {rt : Option FieldType} {rm : Room} {D : va_G} {cs : Nat → ClassId} {B n : Nat} {V : hp_V} {As : List Value} {hh : List (Nat × Nat × Nat × Nat)}
theorem hp_walkW {Qc : Array Value → State → Outcome → State → Prop} {R0 : String} (hy : plainName y.cls = true) (hcls : y.cls = R0)
    (body : ∀ (p : Program) (e : Env) (s : State) (m : MethodId) (below : List Frame) (meth : Method) (c : Code) (ls : Array Slot), p.tables.exec = Jvm.exec → c.code = b → meth.sig.returnType = rt → (∀ w ∈ TBG, w.before As.toArray s = true) → s.vm.findClass R0 = some m.cls → meth.locks = false → meth.name = y.name → c.maxLocals = mL → hp_Z D cs B s V s.heap n [] → lv_has ls mL (lv_args 0 As) →
      W p l e rm s m As.toArray below meth c s.heap [] 0 0 (MQ below Qc As.toArray s mc ms (hp_F B)) (F0 m 0 ls [])) (hlen : (lg_sl As).length ≤ mL) : hp_MW l y b mL rt hh rm D cs B V n As Qc mc ms := by
  refine va_MetW (cc := b) (maxL := mL) (ret := rt) (hh := hh) hy rfl ?_
  intro p e s m args below meth c s₁ Bd hml hv
  obtain ⟨rfl, hpre⟩ := hv
  have hts := atoms_spec (ws := hp_kww y b mL rt hh) Bd.pre
  have hl := lv_entry As (n := mL) hlen
  rw [lg_entry_eq]
  have hnm : meth.name = y.name := (name_of_methodNamed Bd.named Bd.method).1
  subst hcls
  exact body p e s m below meth c _ Bd.exec Bd.bytes Bd.returns (fun w h => hts w (List.mem_cons_of_mem _ h)) (findClass_of_methodNamed Bd.named) Bd.notSynchronized hnm hml (hp_Z.start hpre) hl
end HPW
section HPX
variable {p : Program} {l : Launch} {e : Env} {R : Room} {s : State} {m : MethodId} {args : Array Value} {below : List Frame} {meth : Method} {c : Code} {H : Heap} {locs : List Loc} {cells slots : Nat} {Q : State → Prop}
variable {cc : ByteArray} {pc : Nat} {ls : Array Slot} {rest : List Value} {D : va_G} {cs : Nat → ClassId} {B n : Nat} {V : hp_V} {own : String}
variable {y : MethodName} {b : ByteArray} {mL nL mc ms index np : Nat} {rt : Option FieldType} {rm : Room} {As st0 : List Value} {hh : List (Nat × Nat × Nat × Nat)}
theorem hp_goodW (h : Cond.codeWith y b mL rt hh ∈ TBG) : GoodIn TBG (hp_kww y b mL rt hh) := by
  intro w hw
  have hw' : w ∈ TBG := by
    rcases List.mem_cons.mp hw with e | e
    · rw [e]; exact h
    · exact e
  exact ⟨hw', good_of_word (List.mem_filter.mp hw').2⟩
def hp_CVW (own : String) (index ci : Nat) (y : MethodName) (b : ByteArray) (mL : Nat) (rt : Option FieldType) (hh : List (Nat × Nat × Nat × Nat)) (np : Nat) : Prop := (∃ T N, vwCl[ci]? = some (y.cls, T, N)) ∧ Cond.methodLink own index y ∈ TBG ∧ Cond.instanceMethod y ∈ TBG ∧ Cond.selects y.cls y y ∈ TBG ∧ Cond.initialized y.cls ∈ TBG ∧ Cond.codeWith y b mL rt hh ∈ TBG ∧ y.cls ≠ "java/lang/invoke/MethodHandle" ∧ y.cls ≠ "java/lang/invoke/VarHandle" ∧ ∃ sg, parseMethodDescriptor y.desc = some sg ∧ sg.parameters.length = np
theorem hp_runVW {Qc : Array Value → State → Outcome → State → Prop} {ci : Nat} {fs : List Value} {o : Nat} (hx : p.tables.exec = Jvm.exec) (hb : c.code = cc) (hml : c.maxLocals = nL) (hown : s.vm.findClass own = some m.cls) (hts : ∀ w ∈ TBG, w.before args s = true) (hM : hp_MW l y b mL rt hh rm D cs B V n (.ref o :: As) Qc mc ms) (hZ : hp_Z D cs B s V H n locs) (ho : V o = some (.inr (ci, fs))) (hc : hp_CVW own index ci y b mL rt hh np) (hmc : rm.cells = mc) (hms : rm.slots = ms) (hR : rm.frames + 1 ≤ R.frames ∧ 8 + (mL + 11) + rm.locals ≤ R.locals) (hn : As.length = np) (hl : ls.size = nL) (hst : st0 = As.reverse ++ .ref o :: rest) (hW : (rest.map fun v => v.category).sum ≤ 8) (hdg : decode cc pc = .ok (.invokevirtual index, 3)) (hf : cells + mc ≤ R.cells ∧ slots + ms ≤ R.slots) :
    va_Run p l e R s m args below meth c H locs cells slots mc ms (F0 m pc ls st0) rest (Qc (Value.ref o :: As).toArray) (hp_F B) := by
  obtain ⟨⟨T, N, c1⟩, c2, c3, c4, c5, c6, c7, c8, sg, c9, c10⟩ := hc
  have hK : Back l R p e below s args y 3 8 (PreOf R mc ms (va_Pc (.ref o :: As) (hp_Pre D cs B V n))) (PostOf Qc mc ms (hp_F B)) := va_backW (hh := hh) (bytes := b) (maxL := mL) (ret := rt) hM hp_blind hmc hms hR.1 hR.2 (pay_in hts (hp_goodW c6)) List.mem_cons_self (fun a' U hW => word_at hW (Or.inl (by first | rfl | simp [Cond.onTables, Cond.keeps, Cond.steady])) (hts _ c5))
  obtain ⟨cellB, hcB, hoB, hclB⟩ := va_recv hZ.2.2.1.1 (hZ.1.one ho) (q0 := 0) c1 rfl
  obtain ⟨mk, methM, hnamed, hmethM, hstM, habM⟩ := Cond.instanceMethod_spec (hts _ c3)
  obtain ⟨c2', r2, m2, q1, q2, q3, q4, kP, hkP, hkPi⟩ := Cond.selects_spec (hts _ c4)
  cases hclB.symm.trans q1
  cases (State.methodFound?_of_named hnamed ⟨c7, c8⟩).symm.trans q2
  cases hnamed.symm.trans q3
  obtain ⟨m9, meth9, c9', hn9, h91, -, -, -, -, -, -, hsig⟩ := Cond.codeWith_spec (hts _ c6)
  cases hnamed.symm.trans hn9
  cases hmethM.symm.trans h91
  intro T0 hT X
  have hselP : selectMethod e.platform s.vm cellB.cls mk = .method mk := by rw [Launch.admits_selectMethod X.admits]; exact q4
  have hlen : As.length = methM.sig.parameters.length := by
    have := Option.some.inj (c9.symm.trans hsig)
    rw [hn, ← c10, this]
  obtain ⟨vm₁, X₁, hstep₁⟩ := X.invokevirtual hx hown (hts _ c2) hnamed hmethM hstM hkP hkPi ⟨c7, c8⟩ (a := o) (cell := cellB) (by rw [hT]; exact hcB)
    (fun z h => by rw [h] at hoB; cases hoB) hselP hmethM habM hkP hkPi (g := F0 m pc ls st0) rfl (argsL := As) (rest := rest) hlen hst (by rw [hb]; exact hdg)
  obtain ⟨v, ⟨U', l2, c2'', s2⟩, X', ⟨g', mk', t, L, e1, e2, hq, h1, hL, h2, h3⟩, hsteps⟩ := hK m meth c ⟨T0.setVm vm₁, locs, cells, slots⟩ { F0 m pc ls st0 with stack := rest } (.invokevirtual index) mk (Value.ref o :: As).toArray X₁ rfl (hl.trans hml.symm) (by rw [hb]; exact hdg) (lv_room hW) (X₁.named hnamed) ⟨hf.1, hf.2, ⟨rfl, hZ.pre hT X₁.warmed⟩⟩
  dsimp only [Pt.U, Pt.locs, Pt.cells, Pt.slots] at X' e1 e2 h1 h2 h3 hsteps
  subst h1; subst h2; subst h3
  exact ⟨v, (T0.setVm vm₁).calling g' mk' (Value.ref o :: As).toArray, t, U', L, hT, X', hL, e1, e2, hq, fun target h => hstep₁ _ fun acts => by rw [doInvoke_state]; exact hsteps.trans h⟩
end HPX
set_option maxHeartbeats 4000000 in
set_option maxRecDepth 100000 in
theorem c_X13_in (l : Launch) (D : va_G) (cs : Nat → ClassId) (B : Nat) (V : hp_V) (n : Nat) (x y z : Int64) : hp_M l yX13_in cX13_in 6 (some .boolean) ({ frames := 1, cells := 0, slots := 0, locals := 21 }) D cs B V n [.long (x), .long (y), .long (z)] (hp_QI D cs B (fun r V' n' => V = V' ∧ n = n' ∧ ((y ≤ x ∧ x ≤ z ∧ r = 1) ∨ (¬ (y ≤ x ∧ x ≤ z) ∧ r = 0)))) 0 (0) := by
  refine hp_walk (R0 := RX13) (by decide) rfl ?_ (Nat.le_of_ble_eq_true rfl)
  intro p e s m below meth c ls hx hb hr hts hown hlocks hin hml hZ hl
  have hl : lv_has ls 6 [(0, .long (x)), (2, .long (y)), (4, .long (z))] := hl
  refine lv_lload_n hx hb dX13_in_0 rfl (lv_at hl 0 rfl) ?_
  refine lv_lload_n hx hb dX13_in_1 rfl (lv_at hl 1 rfl) ?_
  refine W.lcmp hx hb dX13_in_2 ?_
  refine lv_if_lt (tgt := 17) hx hb dX13_in_3 (by decide) (fun c1 => ?_) (fun c1 => ?_)
  · refine lv_iconst (v := 0) hx hb dX13_in_17 (by decide) ?_
    exact hp_zret hx hb hr rfl hlocks hZ ⟨rfl, rfl, Or.inr ⟨fun h9 => absurd ((lg_cmp_lt x y).mp c1) (Int64.not_lt.mpr h9.1), rfl⟩⟩ dX13_in_18
  · refine lv_lload_n hx hb dX13_in_6 rfl (lv_at hl 0 rfl) ?_
    refine lv_lload hx hb dX13_in_7 (lv_at hl 2 rfl) ?_
    refine W.lcmp hx hb dX13_in_9 ?_
    refine lv_if_gt (tgt := 17) hx hb dX13_in_10 (by decide) (fun c2 => ?_) (fun c2 => ?_)
    · refine lv_iconst (v := 0) hx hb dX13_in_17 (by decide) ?_
      exact hp_zret hx hb hr rfl hlocks hZ ⟨rfl, rfl, Or.inr ⟨fun h9 => absurd ((lg_cmp_gt x z).mp c2) (Int64.not_lt.mpr h9.2), rfl⟩⟩ dX13_in_18
    · refine lv_iconst (v := 1) hx hb dX13_in_13 (by decide) ?_
      refine lv_goto (tgt := 18) hx hb dX13_in_14 (by decide) ?_
      exact hp_zret hx hb hr rfl hlocks hZ ⟨rfl, rfl, Or.inl ⟨Int64.not_lt.mp (fun h9 => c1 ((lg_cmp_lt x y).mpr h9)), Int64.not_lt.mp (fun h9 => c2 ((lg_cmp_gt x z).mpr h9)), rfl⟩⟩ dX13_in_18

set_option maxHeartbeats 4000000 in
set_option maxRecDepth 100000 in
theorem c_X13_isVerb0 (l : Launch) (D : va_G) (cs : Nat → ClassId) (B : Nat) (V : hp_V) (n : Nat) (a q : Nat) (i21 i22 i23 i24 i25 i26 i27 i30 i45 i47 i48 i53 i54 i55 i56 i57 i58 i61 i62 : Int32) (k : Int32) (f0 : V a = some (.inr (13, mo q (i21) (i22) (i23) (i24) (i25) (i26) (i27) (i30) (i45) (i47) (i48) (i53) (i54) (i55) (i56) (i57) (i58) (i61) (i62)))) (f1 : V (q + 1) = some (.inl (cs 1, 2, .inl (fun _ => 0)))) : hp_M l yX13_isVerb cX13_isVerb 2 (some .boolean) ({ frames := 2, cells := 0, slots := 0, locals := 46 }) D cs B V n [.ref (a), .int (k)] (hp_QI D cs B (fun r V' n' => V = V' ∧ n = n' ∧ 0 = r)) 0 (0) := by
  refine hp_walk (R0 := RX13) (by decide) rfl ?_ (Nat.le_of_ble_eq_true rfl)
  intro p e s m below meth c ls hx hb hr hts hown hlocks hin hml hZ hl
  have hl : lv_has ls 2 [(0, .ref (a)), (1, .int (k))] := hl
  refine lv_iload_n hx hb dX13_isVerb_0 rfl (lv_at hl 1 rfl) ?_
  refine lv_i2l (v := (k).toInt64) hx hb dX13_isVerb_1 rfl ?_
  refine lv_lconst (v := 0) hx hb dX13_isVerb_2 (by decide) ?_
  refine lv_aload_n hx hb dX13_isVerb_3 rfl (lv_at hl 0 rfl) ?_
  refine hp_get (v := .ref (q + 1)) hx hb hts hown hZ f0 fl_X13_7 rfl dX13_isVerb_4 ?_
  refine lv_iconst (v := 0) hx hb dX13_isVerb_7 (by decide) ?_
  refine hp_iald hx hb hZ f1 (by unfold vp_in; decide) dX13_isVerb_8 ?_
  refine W.eq (g2 := F0 m 9 ls [.int (0), .long (0), .long ((k).toInt64)]) rfl ?_
  refine lv_i2l (v := (0 : Int32).toInt64) hx hb dX13_isVerb_9 rfl ?_
  refine lv_lconst (v := 1) hx hb dX13_isVerb_10 (by decide) ?_
  refine lv_lsub hx hb dX13_isVerb_11 ?_
  refine hp_calli (hp_runS (As := [.long ((k).toInt64), .long (0), .long (((0 : Int32).toInt64 - 1))]) (rest := []) hx hb hml hown hts (c_X13_in l D cs B V (n) (k).toInt64 0 ((0 : Int32).toInt64 - 1)) hZ cv_X13_301 rfl rfl ⟨Nat.le_of_ble_eq_true rfl, Nat.le_of_ble_eq_true rfl⟩ rfl hl.1 rfl (Nat.le_of_ble_eq_true rfl) dX13_isVerb_12 ⟨(Nat.le_of_ble_eq_true rfl), (Nat.le_of_ble_eq_true rfl)⟩) hZ (fun r4 V1 n2 _ _ hw3 hZ => ?_)
  obtain ⟨rfl, rfl, h5⟩ := hw3
  rcases h5 with ⟨y6, y7, rfl⟩ | ⟨y8, rfl⟩
  · exact absurd (Int64.le_trans y6 y7) (by decide)
  · exact hp_zret hx hb hr rfl hlocks hZ ⟨rfl, rfl, rfl⟩ dX13_isVerb_15

set_option maxHeartbeats 4000000 in
set_option maxRecDepth 100000 in
theorem c_X13_isLine0 (l : Launch) (D : va_G) (cs : Nat → ClassId) (B : Nat) (V : hp_V) (n : Nat) (a q : Nat) (i21 i22 i23 i24 i25 i26 i27 i30 i45 i47 i48 i53 i54 i55 i56 i57 i58 i61 i62 : Int32) (k : Int32) (f0 : V a = some (.inr (13, mo q (i21) (i22) (i23) (i24) (i25) (i26) (i27) (i30) (i45) (i47) (i48) (i53) (i54) (i55) (i56) (i57) (i58) (i61) (i62)))) (f1 : V (q + 2) = some (.inl (cs 1, 2, .inl (fun _ => 0)))) : hp_M l yX13_isLine cX13_isLine 2 (some .boolean) ({ frames := 2, cells := 0, slots := 0, locals := 46 }) D cs B V n [.ref (a), .int (k)] (hp_QI D cs B (fun r V' n' => V = V' ∧ n = n' ∧ 0 = r)) 0 (0) := by
  refine hp_walk (R0 := RX13) (by decide) rfl ?_ (Nat.le_of_ble_eq_true rfl)
  intro p e s m below meth c ls hx hb hr hts hown hlocks hin hml hZ hl
  have hl : lv_has ls 2 [(0, .ref (a)), (1, .int (k))] := hl
  refine lv_iload_n hx hb dX13_isLine_0 rfl (lv_at hl 1 rfl) ?_
  refine lv_i2l (v := (k).toInt64) hx hb dX13_isLine_1 rfl ?_
  refine lv_lconst (v := 0) hx hb dX13_isLine_2 (by decide) ?_
  refine lv_aload_n hx hb dX13_isLine_3 rfl (lv_at hl 0 rfl) ?_
  refine hp_get (v := .ref (q + 2)) hx hb hts hown hZ f0 fl_X13_10 rfl dX13_isLine_4 ?_
  refine lv_iconst (v := 0) hx hb dX13_isLine_7 (by decide) ?_
  refine hp_iald hx hb hZ f1 (by unfold vp_in; decide) dX13_isLine_8 ?_
  refine W.eq (g2 := F0 m 9 ls [.int (0), .long (0), .long ((k).toInt64)]) rfl ?_
  refine lv_i2l (v := (0 : Int32).toInt64) hx hb dX13_isLine_9 rfl ?_
  refine lv_lconst (v := 1) hx hb dX13_isLine_10 (by decide) ?_
  refine lv_lsub hx hb dX13_isLine_11 ?_
  refine hp_calli (hp_runS (As := [.long ((k).toInt64), .long (0), .long (((0 : Int32).toInt64 - 1))]) (rest := []) hx hb hml hown hts (c_X13_in l D cs B V (n) (k).toInt64 0 ((0 : Int32).toInt64 - 1)) hZ cv_X13_301 rfl rfl ⟨Nat.le_of_ble_eq_true rfl, Nat.le_of_ble_eq_true rfl⟩ rfl hl.1 rfl (Nat.le_of_ble_eq_true rfl) dX13_isLine_12 ⟨(Nat.le_of_ble_eq_true rfl), (Nat.le_of_ble_eq_true rfl)⟩) hZ (fun r4 V1 n2 _ _ hw3 hZ => ?_)
  obtain ⟨rfl, rfl, h5⟩ := hw3
  rcases h5 with ⟨y6, y7, rfl⟩ | ⟨y8, rfl⟩
  · exact absurd (Int64.le_trans y6 y7) (by decide)
  · exact hp_zret hx hb hr rfl hlocks hZ ⟨rfl, rfl, rfl⟩ dX13_isLine_15

set_option maxHeartbeats 4000000 in
set_option maxRecDepth 100000 in
theorem c_X13_isPlace0 (l : Launch) (D : va_G) (cs : Nat → ClassId) (B : Nat) (V : hp_V) (n : Nat) (a q : Nat) (i21 i22 i23 i24 i25 i26 i27 i30 i45 i47 i48 i53 i54 i55 i56 i57 i58 i61 i62 : Int32) (v t u : Int32) (f0 : V a = some (.inr (13, mo q (i21) (i22) (i23) (i24) (i25) (i26) (i27) (i30) (i45) (i47) (i48) (i53) (i54) (i55) (i56) (i57) (i58) (i61) (i62)))) (f1 : V (q + 1) = some (.inl (cs 1, 2, .inl (fun _ => 0)))) : hp_M l yX13_isPlace cX13_isPlace 4 (some .boolean) ({ frames := 3, cells := 0, slots := 0, locals := 67 }) D cs B V n [.ref (a), .int (v), .int (t), .int (u)] (hp_QI D cs B (fun r V' n' => V = V' ∧ n = n' ∧ 0 = r)) 0 (0) := by
  refine hp_walk (R0 := RX13) (by decide) rfl ?_ (Nat.le_of_ble_eq_true rfl)
  intro p e s m below meth c ls hx hb hr hts hown hlocks hin hml hZ hl
  have hl : lv_has ls 4 [(0, .ref (a)), (1, .int (v)), (2, .int (t)), (3, .int (u))] := hl
  refine lv_aload_n hx hb dX13_isPlace_0 rfl (lv_at hl 0 rfl) ?_
  refine lv_iload_n hx hb dX13_isPlace_1 rfl (lv_at hl 1 rfl) ?_
  refine hp_calli (hp_runV (As := [.int (v)]) (rest := []) hx hb hml hown hts (c_X13_isVerb0 l D cs B V (n) (a) q _ _ _ _ _ _ _ _ _ _ _ _ _ _ _ _ _ _ _ v f0 f1) hZ f0 cv_X13_317 rfl rfl ⟨Nat.le_of_ble_eq_true rfl, Nat.le_of_ble_eq_true rfl⟩ rfl hl.1 rfl (Nat.le_of_ble_eq_true rfl) dX13_isPlace_2 ⟨(Nat.le_of_ble_eq_true rfl), (Nat.le_of_ble_eq_true rfl)⟩) hZ (fun r4 V1 n2 _ _ hw3 hZ => ?_)
  obtain ⟨rfl, rfl, rfl⟩ := hw3
  refine lv_if_eq (tgt := 36) hx hb dX13_isPlace_5 (by decide) (fun c5 => ?_) (fun c5 => absurd (by decide) c5)
  refine lv_iconst (v := 0) hx hb dX13_isPlace_36 (by decide) ?_
  exact hp_zret hx hb hr rfl hlocks hZ ⟨rfl, rfl, rfl⟩ dX13_isPlace_37

set_option maxHeartbeats 4000000 in
set_option maxRecDepth 100000 in
theorem c_X13_isLearner (l : Launch) (D : va_G) (cs : Nat → ClassId) (B : Nat) (V : hp_V) (n : Nat) (k : Int32) : hp_M l yX13_isLearner cX13_isLearner 1 (some .boolean) ({ frames := 2, cells := 0, slots := 0, locals := 46 }) D cs B V n [.int (k)] (hp_QI D cs B (fun r V' n' => V = V' ∧ n = n' ∧ ((0 ≤ k ∧ k < 8 ∧ r = 1) ∨ (¬ (0 ≤ k ∧ k < 8) ∧ r = 0)))) 0 (0) := by
  refine hp_walk (R0 := RX13) (by decide) rfl ?_ (Nat.le_of_ble_eq_true rfl)
  intro p e s m below meth c ls hx hb hr hts hown hlocks hin hml hZ hl
  have hl : lv_has ls 1 [(0, .int (k))] := hl
  refine lv_iload_n hx hb dX13_isLearner_0 rfl (lv_at hl 0 rfl) ?_
  refine lv_i2l (v := (k).toInt64) hx hb dX13_isLearner_1 rfl ?_
  refine lv_lconst (v := 0) hx hb dX13_isLearner_2 (by decide) ?_
  refine lv_ldc2 (v := 7) hx hb hown (hts _ k64_X13_451) dX13_isLearner_3 ?_
  refine hp_calli (hp_runS (As := [.long ((k).toInt64), .long (0), .long (7)]) (rest := []) hx hb hml hown hts (c_X13_in l D cs B V (n) (k).toInt64 0 7) hZ cv_X13_301 rfl rfl ⟨Nat.le_of_ble_eq_true rfl, Nat.le_of_ble_eq_true rfl⟩ rfl hl.1 rfl (Nat.le_of_ble_eq_true rfl) dX13_isLearner_6 ⟨(Nat.le_of_ble_eq_true rfl), (Nat.le_of_ble_eq_true rfl)⟩) hZ (fun r4 V1 n2 _ _ hw3 hZ => ?_)
  obtain ⟨rfl, rfl, h5⟩ := hw3
  rcases h5 with ⟨y6, y7, rfl⟩ | ⟨y8, rfl⟩
  · exact hp_zret hx hb hr rfl hlocks hZ ⟨rfl, rfl, Or.inl ⟨hq_w0.mp y6, hq_w7.mp y7, rfl⟩⟩ dX13_isLearner_9
  · exact hp_zret hx hb hr rfl hlocks hZ ⟨rfl, rfl, Or.inr ⟨fun h9 => y8 ⟨hq_w0.mpr h9.1, hq_w7.mpr h9.2⟩, rfl⟩⟩ dX13_isLearner_9

set_option maxHeartbeats 4000000 in
set_option maxRecDepth 100000 in
theorem c_X13_lay0 (l : Launch) (D : va_G) (cs : Nat → ClassId) (B : Nat) (V : hp_V) (n : Nat) (a q z : Nat) (haq : a < q) (i22 i23 i24 i25 i26 i27 i30 i45 i47 i48 i53 i54 i55 i56 i57 i58 i61 i62 : Int32) (k : Int32) (g : Nat → Int32) (hz : z + 4 ≤ 4000) (f0 : V a = some (.inr (13, mo q (nI z) (i22) (i23) (i24) (i25) (i26) (i27) (i30) (i45) (i47) (i48) (i53) (i54) (i55) (i56) (i57) (i58) (i61) (i62)))) (f1 : V (q + 20) = some (.inl (cs 0, 4000, .inl (g)))) : hp_M l yX13_lay cX13_lay 3 none ({ frames := 1, cells := 0, slots := 0, locals := 21 }) D cs B V n [.ref (a), .int (k)] (hp_QV D cs B (fun V' n' => n' = n ∧ V' a = some (.inr (13, mo q (nI (z + 4)) (i22) (i23) (i24) (i25) (i26) (i27) (i30) (i45) (i47) (i48) (i53) (i54) (i55) (i56) (i57) (i58) (i61) (i62))) ∧ (∃ g : Nat → Int32, V' (q + 20) = some (.inl (cs 0, 4000, .inl (g)))) ∧ ∀ x, x ≠ a → x ≠ q + 20 → V' x = V x)) 0 (0) := by
  refine hp_walk (R0 := RX13) (by decide) rfl ?_ (Nat.le_of_ble_eq_true rfl)
  intro p e s m below meth c ls hx hb hr hts hown hlocks hin hml hZ hl
  have hl : lv_has ls 3 [(0, .ref (a)), (1, .int (k))] := hl
  refine lv_bipush (v := 24) hx hb dX13_lay_0 (by decide) ?_
  refine lv_istore_n (lv' := [(2, .int (24)), (0, .ref (a)), (1, .int (k))]) hx hb dX13_lay_2 rfl hl (by decide) rfl (fun ls hl => ?_)
  refine lv_iload_n hx hb dX13_lay_3 rfl (lv_at hl 0 rfl) ?_
  refine lv_if_lt (tgt := 36) hx hb dX13_lay_4 (by decide) (fun c1 => absurd c1 (by decide)) (fun c1 => ?_)
  refine lv_aload_n hx hb dX13_lay_7 rfl (lv_at hl 1 rfl) ?_
  refine hp_get (v := .ref (q + 20)) hx hb hts hown hZ f0 fl_X13_73 rfl dX13_lay_8 ?_
  refine lv_aload_n hx hb dX13_lay_11 rfl (lv_at hl 1 rfl) ?_
  refine hp_get (v := .int (nI z)) hx hb hts hown hZ f0 fl_X13_295 rfl dX13_lay_12 ?_
  refine lv_iload_n hx hb dX13_lay_15 rfl (lv_at hl 2 rfl) ?_
  refine lv_iload_n hx hb dX13_lay_16 rfl (lv_at hl 0 rfl) ?_
  refine lv_ishr hx hb dX13_lay_17 ?_
  refine lv_i2b (v := ((k >>> (24 &&& 31))).toInt8.toInt32) hx hb dX13_lay_18 rfl ?_
  refine hp_bast hx hb hZ f1 (vp_in_nI (by omega) (by omega)) dX13_lay_19 (fun V2 _ _ e3 o4 hZ => ?_)
  have e3 : V2 (q + 20) = some (.inl (cs 0, 4000, .inl (upd (g) ((nI z : Int32).toNatClampNeg) ((((k >>> (24 &&& 31))).toInt8.toInt32 : Int32).toInt8.toInt32)))) := e3
  refine lv_aload_n hx hb dX13_lay_20 rfl (lv_at hl 1 rfl) ?_
  refine lv_dup hx hb dX13_lay_21 rfl ?_
  have fx5 := (o4 (a) (hq_lt haq 20)).trans (f0)
  have fx5 : V2 (a) = some (.inr (13, mo q (nI z) (i22) (i23) (i24) (i25) (i26) (i27) (i30) (i45) (i47) (i48) (i53) (i54) (i55) (i56) (i57) (i58) (i61) (i62))) := fx5
  refine hp_get (v := .int (nI z)) hx hb hts hown hZ fx5 fl_X13_295 rfl dX13_lay_22 ?_
  refine lv_iconst (v := 1) hx hb dX13_lay_25 (by decide) ?_
  refine lv_iadd hx hb dX13_lay_26 ?_
  refine lv_topi (fun y6 ey7 => ?_)
  obtain rfl : y6 = nI (z + 1) := ey7.trans (nI_1 (z))
  refine hp_put hx hb hts hown hZ fx5 fp_X13_295 rfl rfl (Nat.le_of_ble_eq_true rfl) dX13_lay_27 (fun V8 _ _ e9 o10 hZ => ?_)
  have e9 : V8 (a) = some (.inr (13, mo q (nI (z + 1)) (i22) (i23) (i24) (i25) (i26) (i27) (i30) (i45) (i47) (i48) (i53) (i54) (i55) (i56) (i57) (i58) (i61) (i62))) := e9
  refine lv_iinc (v := 16) (lv' := [(2, .int (16)), (0, .ref (a)), (1, .int (k))]) hx hb dX13_lay_30 hl (k := 0) rfl (by decide) (by decide) rfl (fun ls hl => ?_)
  refine lv_goto (tgt := 3) hx hb dX13_lay_33 (by decide) ?_
  refine lv_iload_n hx hb dX13_lay_3 rfl (lv_at hl 0 rfl) ?_
  refine lv_if_lt (tgt := 36) hx hb dX13_lay_4 (by decide) (fun c11 => absurd c11 (by decide)) (fun c11 => ?_)
  refine lv_aload_n hx hb dX13_lay_7 rfl (lv_at hl 1 rfl) ?_
  refine hp_get (v := .ref (q + 20)) hx hb hts hown hZ e9 fl_X13_73 rfl dX13_lay_8 ?_
  refine lv_aload_n hx hb dX13_lay_11 rfl (lv_at hl 1 rfl) ?_
  refine hp_get (v := .int (nI (z + 1))) hx hb hts hown hZ e9 fl_X13_295 rfl dX13_lay_12 ?_
  refine lv_iload_n hx hb dX13_lay_15 rfl (lv_at hl 2 rfl) ?_
  refine lv_iload_n hx hb dX13_lay_16 rfl (lv_at hl 0 rfl) ?_
  refine lv_ishr hx hb dX13_lay_17 ?_
  refine lv_i2b (v := ((k >>> (16 &&& 31))).toInt8.toInt32) hx hb dX13_lay_18 rfl ?_
  have fx12 := (o10 (q + 20) (hq_lt haq 20).symm).trans (e3)
  have fx12 : V8 (q + 20) = some (.inl (cs 0, 4000, .inl (upd (g) ((nI z : Int32).toNatClampNeg) ((((k >>> (24 &&& 31))).toInt8.toInt32 : Int32).toInt8.toInt32)))) := fx12
  refine hp_bast hx hb hZ fx12 (vp_in_nI (by omega) (by omega)) dX13_lay_19 (fun V13 _ _ e14 o15 hZ => ?_)
  have e14 : V13 (q + 20) = some (.inl (cs 0, 4000, .inl (upd (upd (g) ((nI z : Int32).toNatClampNeg) ((((k >>> (24 &&& 31))).toInt8.toInt32 : Int32).toInt8.toInt32)) ((nI (z + 1) : Int32).toNatClampNeg) ((((k >>> (16 &&& 31))).toInt8.toInt32 : Int32).toInt8.toInt32)))) := e14
  refine lv_aload_n hx hb dX13_lay_20 rfl (lv_at hl 1 rfl) ?_
  refine lv_dup hx hb dX13_lay_21 rfl ?_
  have fx16 := (o15 (a) (hq_lt haq 20)).trans (e9)
  have fx16 : V13 (a) = some (.inr (13, mo q (nI (z + 1)) (i22) (i23) (i24) (i25) (i26) (i27) (i30) (i45) (i47) (i48) (i53) (i54) (i55) (i56) (i57) (i58) (i61) (i62))) := fx16
  refine hp_get (v := .int (nI (z + 1))) hx hb hts hown hZ fx16 fl_X13_295 rfl dX13_lay_22 ?_
  refine lv_iconst (v := 1) hx hb dX13_lay_25 (by decide) ?_
  refine lv_iadd hx hb dX13_lay_26 ?_
  refine lv_topi (fun y17 ey18 => ?_)
  obtain rfl : y17 = nI (z + 2) := ey18.trans (nI_1 (z + 1))
  refine hp_put hx hb hts hown hZ fx16 fp_X13_295 rfl rfl (Nat.le_of_ble_eq_true rfl) dX13_lay_27 (fun V19 _ _ e20 o21 hZ => ?_)
  have e20 : V19 (a) = some (.inr (13, mo q (nI (z + 2)) (i22) (i23) (i24) (i25) (i26) (i27) (i30) (i45) (i47) (i48) (i53) (i54) (i55) (i56) (i57) (i58) (i61) (i62))) := e20
  refine lv_iinc (v := 8) (lv' := [(2, .int (8)), (0, .ref (a)), (1, .int (k))]) hx hb dX13_lay_30 hl (k := 0) rfl (by decide) (by decide) rfl (fun ls hl => ?_)
  refine lv_goto (tgt := 3) hx hb dX13_lay_33 (by decide) ?_
  refine lv_iload_n hx hb dX13_lay_3 rfl (lv_at hl 0 rfl) ?_
  refine lv_if_lt (tgt := 36) hx hb dX13_lay_4 (by decide) (fun c22 => absurd c22 (by decide)) (fun c22 => ?_)
  refine lv_aload_n hx hb dX13_lay_7 rfl (lv_at hl 1 rfl) ?_
  refine hp_get (v := .ref (q + 20)) hx hb hts hown hZ e20 fl_X13_73 rfl dX13_lay_8 ?_
  refine lv_aload_n hx hb dX13_lay_11 rfl (lv_at hl 1 rfl) ?_
  refine hp_get (v := .int (nI (z + 2))) hx hb hts hown hZ e20 fl_X13_295 rfl dX13_lay_12 ?_
  refine lv_iload_n hx hb dX13_lay_15 rfl (lv_at hl 2 rfl) ?_
  refine lv_iload_n hx hb dX13_lay_16 rfl (lv_at hl 0 rfl) ?_
  refine lv_ishr hx hb dX13_lay_17 ?_
  refine lv_i2b (v := ((k >>> (8 &&& 31))).toInt8.toInt32) hx hb dX13_lay_18 rfl ?_
  have fx23 := (o21 (q + 20) (hq_lt haq 20).symm).trans (e14)
  have fx23 : V19 (q + 20) = some (.inl (cs 0, 4000, .inl (upd (upd (g) ((nI z : Int32).toNatClampNeg) ((((k >>> (24 &&& 31))).toInt8.toInt32 : Int32).toInt8.toInt32)) ((nI (z + 1) : Int32).toNatClampNeg) ((((k >>> (16 &&& 31))).toInt8.toInt32 : Int32).toInt8.toInt32)))) := fx23
  refine hp_bast hx hb hZ fx23 (vp_in_nI (by omega) (by omega)) dX13_lay_19 (fun V24 _ _ e25 o26 hZ => ?_)
  have e25 : V24 (q + 20) = some (.inl (cs 0, 4000, .inl (upd (upd (upd (g) ((nI z : Int32).toNatClampNeg) ((((k >>> (24 &&& 31))).toInt8.toInt32 : Int32).toInt8.toInt32)) ((nI (z + 1) : Int32).toNatClampNeg) ((((k >>> (16 &&& 31))).toInt8.toInt32 : Int32).toInt8.toInt32)) ((nI (z + 2) : Int32).toNatClampNeg) ((((k >>> (8 &&& 31))).toInt8.toInt32 : Int32).toInt8.toInt32)))) := e25
  refine lv_aload_n hx hb dX13_lay_20 rfl (lv_at hl 1 rfl) ?_
  refine lv_dup hx hb dX13_lay_21 rfl ?_
  have fx27 := (o26 (a) (hq_lt haq 20)).trans (e20)
  have fx27 : V24 (a) = some (.inr (13, mo q (nI (z + 2)) (i22) (i23) (i24) (i25) (i26) (i27) (i30) (i45) (i47) (i48) (i53) (i54) (i55) (i56) (i57) (i58) (i61) (i62))) := fx27
  refine hp_get (v := .int (nI (z + 2))) hx hb hts hown hZ fx27 fl_X13_295 rfl dX13_lay_22 ?_
  refine lv_iconst (v := 1) hx hb dX13_lay_25 (by decide) ?_
  refine lv_iadd hx hb dX13_lay_26 ?_
  refine lv_topi (fun y28 ey29 => ?_)
  obtain rfl : y28 = nI (z + 3) := ey29.trans (nI_1 (z + 2))
  refine hp_put hx hb hts hown hZ fx27 fp_X13_295 rfl rfl (Nat.le_of_ble_eq_true rfl) dX13_lay_27 (fun V30 _ _ e31 o32 hZ => ?_)
  have e31 : V30 (a) = some (.inr (13, mo q (nI (z + 3)) (i22) (i23) (i24) (i25) (i26) (i27) (i30) (i45) (i47) (i48) (i53) (i54) (i55) (i56) (i57) (i58) (i61) (i62))) := e31
  refine lv_iinc (v := 0) (lv' := [(2, .int (0)), (0, .ref (a)), (1, .int (k))]) hx hb dX13_lay_30 hl (k := 0) rfl (by decide) (by decide) rfl (fun ls hl => ?_)
  refine lv_goto (tgt := 3) hx hb dX13_lay_33 (by decide) ?_
  refine lv_iload_n hx hb dX13_lay_3 rfl (lv_at hl 0 rfl) ?_
  refine lv_if_lt (tgt := 36) hx hb dX13_lay_4 (by decide) (fun c33 => absurd c33 (by decide)) (fun c33 => ?_)
  refine lv_aload_n hx hb dX13_lay_7 rfl (lv_at hl 1 rfl) ?_
  refine hp_get (v := .ref (q + 20)) hx hb hts hown hZ e31 fl_X13_73 rfl dX13_lay_8 ?_
  refine lv_aload_n hx hb dX13_lay_11 rfl (lv_at hl 1 rfl) ?_
  refine hp_get (v := .int (nI (z + 3))) hx hb hts hown hZ e31 fl_X13_295 rfl dX13_lay_12 ?_
  refine lv_iload_n hx hb dX13_lay_15 rfl (lv_at hl 2 rfl) ?_
  refine lv_iload_n hx hb dX13_lay_16 rfl (lv_at hl 0 rfl) ?_
  refine lv_ishr hx hb dX13_lay_17 ?_
  refine lv_i2b (v := ((k >>> (0 &&& 31))).toInt8.toInt32) hx hb dX13_lay_18 rfl ?_
  have fx34 := (o32 (q + 20) (hq_lt haq 20).symm).trans (e25)
  have fx34 : V30 (q + 20) = some (.inl (cs 0, 4000, .inl (upd (upd (upd (g) ((nI z : Int32).toNatClampNeg) ((((k >>> (24 &&& 31))).toInt8.toInt32 : Int32).toInt8.toInt32)) ((nI (z + 1) : Int32).toNatClampNeg) ((((k >>> (16 &&& 31))).toInt8.toInt32 : Int32).toInt8.toInt32)) ((nI (z + 2) : Int32).toNatClampNeg) ((((k >>> (8 &&& 31))).toInt8.toInt32 : Int32).toInt8.toInt32)))) := fx34
  refine hp_bast hx hb hZ fx34 (vp_in_nI (by omega) (by omega)) dX13_lay_19 (fun V35 _ _ e36 o37 hZ => ?_)
  have e36 : V35 (q + 20) = some (.inl (cs 0, 4000, .inl (upd (upd (upd (upd (g) ((nI z : Int32).toNatClampNeg) ((((k >>> (24 &&& 31))).toInt8.toInt32 : Int32).toInt8.toInt32)) ((nI (z + 1) : Int32).toNatClampNeg) ((((k >>> (16 &&& 31))).toInt8.toInt32 : Int32).toInt8.toInt32)) ((nI (z + 2) : Int32).toNatClampNeg) ((((k >>> (8 &&& 31))).toInt8.toInt32 : Int32).toInt8.toInt32)) ((nI (z + 3) : Int32).toNatClampNeg) ((((k >>> (0 &&& 31))).toInt8.toInt32 : Int32).toInt8.toInt32)))) := e36
  refine lv_aload_n hx hb dX13_lay_20 rfl (lv_at hl 1 rfl) ?_
  refine lv_dup hx hb dX13_lay_21 rfl ?_
  have fx38 := (o37 (a) (hq_lt haq 20)).trans (e31)
  have fx38 : V35 (a) = some (.inr (13, mo q (nI (z + 3)) (i22) (i23) (i24) (i25) (i26) (i27) (i30) (i45) (i47) (i48) (i53) (i54) (i55) (i56) (i57) (i58) (i61) (i62))) := fx38
  refine hp_get (v := .int (nI (z + 3))) hx hb hts hown hZ fx38 fl_X13_295 rfl dX13_lay_22 ?_
  refine lv_iconst (v := 1) hx hb dX13_lay_25 (by decide) ?_
  refine lv_iadd hx hb dX13_lay_26 ?_
  refine lv_topi (fun y39 ey40 => ?_)
  obtain rfl : y39 = nI (z + 4) := ey40.trans (nI_1 (z + 3))
  refine hp_put hx hb hts hown hZ fx38 fp_X13_295 rfl rfl (Nat.le_of_ble_eq_true rfl) dX13_lay_27 (fun V41 _ _ e42 o43 hZ => ?_)
  have e42 : V41 (a) = some (.inr (13, mo q (nI (z + 4)) (i22) (i23) (i24) (i25) (i26) (i27) (i30) (i45) (i47) (i48) (i53) (i54) (i55) (i56) (i57) (i58) (i61) (i62))) := e42
  refine lv_iinc (v := -8) (lv' := [(2, .int (-8)), (0, .ref (a)), (1, .int (k))]) hx hb dX13_lay_30 hl (k := 0) rfl (by decide) (by decide) rfl (fun ls hl => ?_)
  refine lv_goto (tgt := 3) hx hb dX13_lay_33 (by decide) ?_
  refine lv_iload_n hx hb dX13_lay_3 rfl (lv_at hl 0 rfl) ?_
  refine lv_if_lt (tgt := 36) hx hb dX13_lay_4 (by decide) (fun c44 => ?_) (fun c44 => absurd (by decide) c44)
  have fx45 := (o43 (q + 20) (hq_lt haq 20).symm).trans (e36)
  have fx45 : V41 (q + 20) = some (.inl (cs 0, 4000, .inl (upd (upd (upd (upd (g) ((nI z : Int32).toNatClampNeg) ((((k >>> (24 &&& 31))).toInt8.toInt32 : Int32).toInt8.toInt32)) ((nI (z + 1) : Int32).toNatClampNeg) ((((k >>> (16 &&& 31))).toInt8.toInt32 : Int32).toInt8.toInt32)) ((nI (z + 2) : Int32).toNatClampNeg) ((((k >>> (8 &&& 31))).toInt8.toInt32 : Int32).toInt8.toInt32)) ((nI (z + 3) : Int32).toNatClampNeg) ((((k >>> (0 &&& 31))).toInt8.toInt32 : Int32).toInt8.toInt32)))) := fx45
  exact hp_vret hx hb hr hlocks hZ ⟨rfl, e42, ⟨_, fx45⟩, fun x hx8 hx9 => (o43 (x) hx8).trans ((o37 (x) hx9).trans ((o32 (x) hx8).trans ((o26 (x) hx9).trans ((o21 (x) hx8).trans ((o15 (x) hx9).trans ((o10 (x) hx8).trans (o4 (x) hx9)))))))⟩ dX13_lay_36

set_option maxHeartbeats 4000000 in
set_option maxRecDepth 100000 in
theorem c_X13_byteAt0 (l : Launch) (D : va_G) (cs : Nat → ClassId) (B : Nat) (V : hp_V) (n : Nat) (a q : Nat) (i21 i23 i24 i25 i26 i27 i30 i45 i47 i48 i53 i54 i55 i56 i57 i58 i61 i62 : Int32) (f0 : V a = some (.inr (13, mo q (i21) (0) (i23) (i24) (i25) (i26) (i27) (i30) (i45) (i47) (i48) (i53) (i54) (i55) (i56) (i57) (i58) (i61) (i62)))) : hp_M l yX13_byteAt cX13_byteAt 2 (some .int) ({ frames := 1, cells := 0, slots := 0, locals := 21 }) D cs B V n [.ref (a), .int (0)] (hp_QI D cs B (fun r V' n' => V = V' ∧ n = n' ∧ 0 = r)) 0 (0) := by
  refine hp_walk (R0 := RX13) (by decide) rfl ?_ (Nat.le_of_ble_eq_true rfl)
  intro p e s m below meth c ls hx hb hr hts hown hlocks hin hml hZ hl
  have hl : lv_has ls 2 [(0, .ref (a)), (1, .int (0))] := hl
  refine lv_iload_n hx hb dX13_byteAt_0 rfl (lv_at hl 1 rfl) ?_
  refine lv_aload_n hx hb dX13_byteAt_1 rfl (lv_at hl 0 rfl) ?_
  refine hp_get (v := .int (0)) hx hb hts hown hZ f0 fl_X13_70 rfl dX13_byteAt_2 ?_
  refine lv_icmp_ge (tgt := 21) hx hb dX13_byteAt_5 (by decide) (fun c1 => ?_) (fun c1 => absurd (by decide) c1)
  refine lv_iconst (v := 0) hx hb dX13_byteAt_21 (by decide) ?_
  exact hp_iret hx hb hr hlocks hZ ⟨rfl, rfl, rfl⟩ dX13_byteAt_22

set_option maxHeartbeats 4000000 in
set_option maxRecDepth 100000 in
theorem c_X13_scan0 (l : Launch) (D : va_G) (cs : Nat → ClassId) (B : Nat) (V : hp_V) (n : Nat) (a q : Nat) (i21 i23 i25 i26 i27 i30 i45 i47 i48 i53 i54 i55 i56 i57 i58 i61 i62 : Int32) (f0 : V a = some (.inr (13, mo q (i21) (0) (i23) (0) (i25) (i26) (i27) (i30) (i45) (i47) (i48) (i53) (i54) (i55) (i56) (i57) (i58) (i61) (i62)))) : hp_M l yX13_scan cX13_scan 3 none ({ frames := 2, cells := 0, slots := 0, locals := 42 }) D cs B V n [.ref (a)] (hp_QV D cs B (fun V' n' => n' = n ∧ V' a = some (.inr (13, mo q (i21) (0) (0) (0) (0) (i26) (i27) (i30) (i45) (i47) (i48) (i53) (i54) (i55) (i56) (i57) (i58) (i61) (i62))) ∧ ∀ x, x ≠ a → V' x = V x)) 0 (0) := by
  refine hp_walk (R0 := RX13) (by decide) rfl ?_ (Nat.le_of_ble_eq_true rfl)
  intro p e s m below meth c ls hx hb hr hts hown hlocks hin hml hZ hl
  have hl : lv_has ls 3 [(0, .ref (a))] := hl
  refine lv_aload_n hx hb dX13_scan_0 rfl (lv_at hl 0 rfl) ?_
  refine hp_get (v := .int (0)) hx hb hts hown hZ f0 fl_X13_76 rfl dX13_scan_1 ?_
  refine lv_aload_n hx hb dX13_scan_4 rfl (lv_at hl 0 rfl) ?_
  refine hp_get (v := .int (0)) hx hb hts hown hZ f0 fl_X13_70 rfl dX13_scan_5 ?_
  refine lv_icmp_ge (tgt := 52) hx hb dX13_scan_8 (by decide) (fun c1 => ?_) (fun c1 => absurd (by decide) c1)
  refine lv_aload_n hx hb dX13_scan_52 rfl (lv_at hl 0 rfl) ?_
  refine lv_aload_n hx hb dX13_scan_53 rfl (lv_at hl 0 rfl) ?_
  refine hp_get (v := .int (0)) hx hb hts hown hZ f0 fl_X13_76 rfl dX13_scan_54 ?_
  refine hp_put hx hb hts hown hZ f0 fp_X13_60 rfl rfl (Nat.le_of_ble_eq_true rfl) dX13_scan_57 (fun V2 _ _ e3 o4 hZ => ?_)
  have e3 : V2 (a) = some (.inr (13, mo q (i21) (0) (0) (0) (i25) (i26) (i27) (i30) (i45) (i47) (i48) (i53) (i54) (i55) (i56) (i57) (i58) (i61) (i62))) := e3
  refine lv_aload_n hx hb dX13_scan_60 rfl (lv_at hl 0 rfl) ?_
  refine lv_aload_n hx hb dX13_scan_61 rfl (lv_at hl 0 rfl) ?_
  refine hp_get (v := .int (0)) hx hb hts hown hZ e3 fl_X13_60 rfl dX13_scan_62 ?_
  refine hp_calli (hp_runV (As := [.int (0)]) (rest := []) hx hb hml hown hts (c_X13_byteAt0 l D cs B V2 (n) (a) q _ _ _ _ _ _ _ _ _ _ _ _ _ _ _ _ _ _ e3) hZ e3 cv_X13_79 rfl rfl ⟨Nat.le_of_ble_eq_true rfl, Nat.le_of_ble_eq_true rfl⟩ rfl hl.1 rfl (Nat.le_of_ble_eq_true rfl) dX13_scan_65 ⟨(Nat.le_of_ble_eq_true rfl), (Nat.le_of_ble_eq_true rfl)⟩) hZ (fun r8 V5 n6 _ _ hw7 hZ => ?_)
  obtain ⟨rfl, rfl, rfl⟩ := hw7
  refine lv_istore_n (lv' := [(1, .int (0)), (0, .ref (a))]) hx hb dX13_scan_68 rfl hl (by decide) rfl (fun ls hl => ?_)
  refine lv_aload_n hx hb dX13_scan_69 rfl (lv_at hl 1 rfl) ?_
  refine hp_get (v := .int (0)) hx hb hts hown hZ e3 fl_X13_60 rfl dX13_scan_70 ?_
  refine lv_aload_n hx hb dX13_scan_73 rfl (lv_at hl 1 rfl) ?_
  refine hp_get (v := .int (0)) hx hb hts hown hZ e3 fl_X13_70 rfl dX13_scan_74 ?_
  refine lv_icmp_ne (tgt := 86) hx hb dX13_scan_77 (by decide) (fun c9 => absurd (by decide) c9) (fun c9 => ?_)
  refine lv_aload_n hx hb dX13_scan_80 rfl (lv_at hl 1 rfl) ?_
  refine lv_iconst (v := 0) hx hb dX13_scan_81 (by decide) ?_
  refine hp_put hx hb hts hown hZ e3 fp_X13_83 rfl rfl (Nat.le_of_ble_eq_true rfl) dX13_scan_82 (fun V10 _ _ e11 o12 hZ => ?_)
  have e11 : V10 (a) = some (.inr (13, mo q (i21) (0) (0) (0) (0) (i26) (i27) (i30) (i45) (i47) (i48) (i53) (i54) (i55) (i56) (i57) (i58) (i61) (i62))) := e11
  exact hp_vret hx hb hr hlocks hZ ⟨rfl, e11, fun x hx9 => (o12 x hx9).trans (o4 x hx9)⟩ dX13_scan_85

set_option maxHeartbeats 4000000 in
set_option maxRecDepth 100000 in
theorem c_X13_readBook0 (l : Launch) (D : va_G) (cs : Nat → ClassId) (B : Nat) (V : hp_V) (n : Nat) (a q : Nat) (haq : a < q) (i21 i23 i24 i25 i26 i27 i30 i45 i47 i48 i53 i54 i55 i56 i57 i58 i61 i62 : Int32) (f0 : V a = some (.inr (13, mo q (i21) (0) (i23) (i24) (i25) (i26) (i27) (i30) (i45) (i47) (i48) (i53) (i54) (i55) (i56) (i57) (i58) (i61) (i62)))) (f1 : V (q) = some (.inl (cs 1, 2, .inl (fun _ => 0)))) (f2 : V (q + 1) = some (.inl (cs 1, 2, .inl (fun _ => 0)))) (f3 : V (q + 2) = some (.inl (cs 1, 2, .inl (fun _ => 0)))) : hp_M l yX13_readBook cX13_readBook 1 none ({ frames := 3, cells := 0, slots := 0, locals := 64 }) D cs B V n [.ref (a)] (hp_QV D cs B (fun V' n' => n' = n ∧ V' a = some (.inr (13, mo q (i21) (0) (0) (0) (0) (i26) (i27) (i30) (i45) (i47) (i48) (i53) (i54) (i55) (i56) (i57) (i58) (i61) (i62))) ∧ (∃ g : Nat → Int32, V' (q) = some (.inl (cs 1, 2, .inl (g)))) ∧ (∃ g : Nat → Int32, V' (q + 1) = some (.inl (cs 1, 2, .inl (g)))) ∧ (∃ g : Nat → Int32, V' (q + 2) = some (.inl (cs 1, 2, .inl (g))) ∧ g 1 = 0) ∧ ∀ x, q + 3 ≤ x → V' x = V x)) 0 (0) := by
  refine hp_walk (R0 := RX13) (by decide) rfl ?_ (Nat.le_of_ble_eq_true rfl)
  intro p e s m below meth c ls hx hb hr hts hown hlocks hin hml hZ hl
  have hl : lv_has ls 1 [(0, .ref (a))] := hl
  refine lv_aload_n hx hb dX13_readBook_0 rfl (lv_at hl 0 rfl) ?_
  refine hp_get (v := .ref (q)) hx hb hts hown hZ f0 fl_X13_1 rfl dX13_readBook_1 ?_
  refine lv_iconst (v := 1) hx hb dX13_readBook_4 (by decide) ?_
  refine lv_iconst (v := 0) hx hb dX13_readBook_5 (by decide) ?_
  refine hp_iast hx hb hZ f1 (by unfold vp_in; decide) dX13_readBook_6 (fun V1 _ _ e2 o3 hZ => ?_)
  have e2 : V1 (q) = some (.inl (cs 1, 2, .inl (upd (fun _ => 0) ((1 : Int32).toNatClampNeg) (0)))) := e2
  refine lv_aload_n hx hb dX13_readBook_7 rfl (lv_at hl 0 rfl) ?_
  have fx4 := (o3 (a) (hq_lt haq 0)).trans (f0)
  have fx4 : V1 (a) = some (.inr (13, mo q (i21) (0) (i23) (i24) (i25) (i26) (i27) (i30) (i45) (i47) (i48) (i53) (i54) (i55) (i56) (i57) (i58) (i61) (i62))) := fx4
  refine hp_get (v := .ref (q + 1)) hx hb hts hown hZ fx4 fl_X13_7 rfl dX13_readBook_8 ?_
  refine lv_iconst (v := 1) hx hb dX13_readBook_11 (by decide) ?_
  refine lv_iconst (v := 0) hx hb dX13_readBook_12 (by decide) ?_
  have fx5 := (o3 (q + 1) (hq_ne q 1 0 (by decide))).trans (f2)
  have fx5 : V1 (q + 1) = some (.inl (cs 1, 2, .inl (fun _ => 0))) := fx5
  refine hp_iast hx hb hZ fx5 (by unfold vp_in; decide) dX13_readBook_13 (fun V6 _ _ e7 o8 hZ => ?_)
  have e7 : V6 (q + 1) = some (.inl (cs 1, 2, .inl (upd (fun _ => 0) ((1 : Int32).toNatClampNeg) (0)))) := e7
  refine lv_aload_n hx hb dX13_readBook_14 rfl (lv_at hl 0 rfl) ?_
  have fx9 := (o8 (a) (hq_lt haq 1)).trans (fx4)
  have fx9 : V6 (a) = some (.inr (13, mo q (i21) (0) (i23) (i24) (i25) (i26) (i27) (i30) (i45) (i47) (i48) (i53) (i54) (i55) (i56) (i57) (i58) (i61) (i62))) := fx9
  refine hp_get (v := .ref (q + 2)) hx hb hts hown hZ fx9 fl_X13_10 rfl dX13_readBook_15 ?_
  refine lv_iconst (v := 1) hx hb dX13_readBook_18 (by decide) ?_
  refine lv_iconst (v := 0) hx hb dX13_readBook_19 (by decide) ?_
  have fx10 := (o8 (q + 2) (hq_ne q 2 1 (by decide))).trans ((o3 (q + 2) (hq_ne q 2 0 (by decide))).trans (f3))
  have fx10 : V6 (q + 2) = some (.inl (cs 1, 2, .inl (fun _ => 0))) := fx10
  refine hp_iast hx hb hZ fx10 (by unfold vp_in; decide) dX13_readBook_20 (fun V11 _ _ e12 o13 hZ => ?_)
  have e12 : V11 (q + 2) = some (.inl (cs 1, 2, .inl (upd (fun _ => 0) ((1 : Int32).toNatClampNeg) (0)))) := e12
  refine lv_aload_n hx hb dX13_readBook_21 rfl (lv_at hl 0 rfl) ?_
  refine lv_iconst (v := 0) hx hb dX13_readBook_22 (by decide) ?_
  have fx14 := (o13 (a) (hq_lt haq 2)).trans (fx9)
  have fx14 : V11 (a) = some (.inr (13, mo q (i21) (0) (i23) (i24) (i25) (i26) (i27) (i30) (i45) (i47) (i48) (i53) (i54) (i55) (i56) (i57) (i58) (i61) (i62))) := fx14
  refine hp_put hx hb hts hown hZ fx14 fp_X13_76 rfl rfl (Nat.le_of_ble_eq_true rfl) dX13_readBook_23 (fun V15 _ _ e16 o17 hZ => ?_)
  have e16 : V15 (a) = some (.inr (13, mo q (i21) (0) (i23) (0) (i25) (i26) (i27) (i30) (i45) (i47) (i48) (i53) (i54) (i55) (i56) (i57) (i58) (i61) (i62))) := e16
  refine lv_aload_n hx hb dX13_readBook_26 rfl (lv_at hl 0 rfl) ?_
  refine hp_callv (hp_runV (As := []) (rest := []) hx hb hml hown hts (c_X13_scan0 l D cs B V15 (n) (a) q _ _ _ _ _ _ _ _ _ _ _ _ _ _ _ _ _ e16) hZ e16 cv_X13_111 rfl rfl ⟨Nat.le_of_ble_eq_true rfl, Nat.le_of_ble_eq_true rfl⟩ rfl hl.1 rfl (Nat.le_of_ble_eq_true rfl) dX13_readBook_27 ⟨(Nat.le_of_ble_eq_true rfl), (Nat.le_of_ble_eq_true rfl)⟩) hZ (fun V18 n19 _ _ hw20 hZ => ?_)
  obtain ⟨hn22, fx24, fr23⟩ := hw20
  have hn22 : n = n19 := hn22.symm
  subst hn22
  refine lv_aload_n hx hb dX13_readBook_30 rfl (lv_at hl 0 rfl) ?_
  refine hp_get (v := .int (0)) hx hb hts hown hZ fx24 fl_X13_83 rfl dX13_readBook_31 ?_
  refine lv_if_eq (tgt := 62) hx hb dX13_readBook_34 (by decide) (fun c25 => ?_) (fun c25 => absurd (by decide) c25)
  have fx26 := (fr23 (q) (hq_lt haq 0).symm).trans ((o17 (q) (hq_lt haq 0).symm).trans ((o13 (q) (hq_ne q 0 2 (by decide))).trans ((o8 (q) (hq_ne q 0 1 (by decide))).trans (e2))))
  have fx26 : V18 (q) = some (.inl (cs 1, 2, .inl (upd (fun _ => 0) ((1 : Int32).toNatClampNeg) (0)))) := fx26
  have fx27 := (fr23 (q + 1) (hq_lt haq 1).symm).trans ((o17 (q + 1) (hq_lt haq 1).symm).trans ((o13 (q + 1) (hq_ne q 1 2 (by decide))).trans (e7)))
  have fx27 : V18 (q + 1) = some (.inl (cs 1, 2, .inl (upd (fun _ => 0) ((1 : Int32).toNatClampNeg) (0)))) := fx27
  have fx28 := (fr23 (q + 2) (hq_lt haq 2).symm).trans ((o17 (q + 2) (hq_lt haq 2).symm).trans (e12))
  have fx28 : V18 (q + 2) = some (.inl (cs 1, 2, .inl (upd (fun _ => 0) ((1 : Int32).toNatClampNeg) (0)))) := fx28
  exact hp_vret hx hb hr hlocks hZ ⟨rfl, fx24, ⟨_, fx26⟩, ⟨_, fx27⟩, ⟨_, fx28, rfl⟩, fun x hx9 => (fr23 (x) (hq_gea hx9 haq)).trans ((o17 (x) (hq_gea hx9 haq)).trans ((o13 (x) (hq_ge hx9 2 (by decide))).trans ((o8 (x) (hq_ge hx9 1 (by decide))).trans (o3 (x) (hq_ge hx9 0 (by decide))))))⟩ dX13_readBook_62

set_option maxHeartbeats 4000000 in
set_option maxRecDepth 100000 in
theorem lp_X13_b38 (l : Launch) (D : va_G) (cs : Nat → ClassId) (B : Nat) {p : Program} {e : Env} {s : State} {m : MethodId} {args : Array Value} {below : List Frame} {meth : Method} {c : Code} {Q : State → Prop} (hx : p.tables.exec = Jvm.exec) (hb : c.code = cX13_become) (hts : ∀ w ∈ TBG, w.before args s = true) (hown : s.vm.findClass RX13 = some m.cls) (hml : c.maxLocals = 2) (a q n : Nat) (haq : a < q) (i21 i22 i23 i24 i25 i26 i27 i30 i45 i47 i48 i53 i54 i55 i56 i57 i58 i61 i62 : Int32) (VE : hp_V)
    (kk : ∀ (V : hp_V) (H : Heap) (locs : List Loc) (ls : Array Slot) (g_verbSize : Nat → Int32) (g_classOf : Nat → Int32), hp_Z D cs B s V H (n) locs → V (a) = some (.inr (13, mo q (i21) (i22) (i23) (i24) (i25) (i26) (i27) (i30) (i45) (i47) (i48) (i53) (i54) (i55) (i56) (i57) (i58) (i61) (i62))) → V (q + 8) = some (.inl (cs 1, 60, .inl (g_verbSize))) → V (q + 9) = some (.inl (cs 1, 60, .inl (g_classOf))) → (∀ x, x ≠ q + 8 → x ≠ q + 9 → V x = VE x) → lv_has ls 2 [(1, .int (nI 30)), (0, .ref (a))] → W p l e ({ frames := 1, cells := 0, slots := 0, locals := 21 }) s m args below meth c H locs (0) (0) Q (F0 m 80 ls [])) :
    ∀ (k i : Nat), i + k = 30 → ∀ (V : hp_V) (H : Heap) (locs : List Loc) (ls : Array Slot) (g_verbSize : Nat → Int32) (g_classOf : Nat → Int32), hp_Z D cs B s V H (n) locs → V (a) = some (.inr (13, mo q (i21) (i22) (i23) (i24) (i25) (i26) (i27) (i30) (i45) (i47) (i48) (i53) (i54) (i55) (i56) (i57) (i58) (i61) (i62))) → V (q + 8) = some (.inl (cs 1, 60, .inl (g_verbSize))) → V (q + 9) = some (.inl (cs 1, 60, .inl (g_classOf))) → (∀ x, x ≠ q + 8 → x ≠ q + 9 → V x = VE x) → lv_has ls 2 [(1, .int (nI i)), (0, .ref (a))] → W p l e ({ frames := 1, cells := 0, slots := 0, locals := 21 }) s m args below meth c H locs (0) (0) Q (F0 m 38 ls []) := by
  intro k
  induction k with
  | zero =>
    intro i hi V H locs ls g_verbSize g_classOf hZ f0 f1 f2 fr hl
    obtain rfl : i = 30 := by omega
    refine lv_iload_n hx hb dX13_become_38 rfl (lv_at hl 0 rfl) ?_
    refine lv_bipush (v := 30) hx hb dX13_become_39 (by decide) ?_
    refine lv_icmp_ge (tgt := 80) hx hb dX13_become_41 (by decide) (fun c1 => ?_) (fun c1 => absurd ((by decide)) c1)
    exact kk V H locs ls _ _ hZ f0 f1 f2 fr hl
  | succ k ih =>
    intro i hi V H locs ls g_verbSize g_classOf hZ f0 f1 f2 fr hl
    have lt_f0 := hZ.lt f0
    have lt_f1 := hZ.lt f1
    have lt_f2 := hZ.lt f2
    refine lv_iload_n hx hb dX13_become_38 rfl (lv_at hl 0 rfl) ?_
    refine lv_bipush (v := 30) hx hb dX13_become_39 (by decide) ?_
    refine lv_icmp_ge (tgt := 80) hx hb dX13_become_41 (by decide) (fun c1 => absurd c1 (show ¬ nI 30 ≤ nI i from nI_ge (by omega) (by decide))) (fun c1 => ?_)
    refine lv_aload_n hx hb dX13_become_44 rfl (lv_at hl 1 rfl) ?_
    refine hp_get (v := .ref (q + 8)) hx hb hts hown hZ f0 fl_X13_13 rfl dX13_become_45 ?_
    refine lv_iload_n hx hb dX13_become_48 rfl (lv_at hl 0 rfl) ?_
    refine lv_aload_n hx hb dX13_become_49 rfl (lv_at hl 1 rfl) ?_
    refine hp_get (v := .ref (q + 8)) hx hb hts hown hZ f0 fl_X13_13 rfl dX13_become_50 ?_
    refine lv_bipush (v := 30) hx hb dX13_become_53 (by decide) ?_
    refine lv_iload_n hx hb dX13_become_55 rfl (lv_at hl 0 rfl) ?_
    refine lv_iadd hx hb dX13_become_56 ?_
    refine lv_topi (fun y2 ey3 => ?_)
    obtain rfl : y2 = nI (30 + i) := ey3.trans (nI_add 30 i)
    refine hp_iald hx hb hZ f1 (vp_in_nI (by omega) (by omega)) dX13_become_57 ?_
    refine hp_iast hx hb hZ f1 (vp_in_nI (by omega) (by omega)) dX13_become_58 (fun V4 _ _ e5 o6 hZ => ?_)
    have e5 : V4 (q + 8) = some (.inl (cs 1, 60, .inl (upd (g_verbSize) ((nI i : Int32).toNatClampNeg) (((g_verbSize) (nI (30 + i) : Int32).toNatClampNeg))))) := e5
    refine lv_aload_n hx hb dX13_become_59 rfl (lv_at hl 1 rfl) ?_
    have fx7 := (o6 (a) (by omega)).trans (f0)
    have fx7 : V4 (a) = some (.inr (13, mo q (i21) (i22) (i23) (i24) (i25) (i26) (i27) (i30) (i45) (i47) (i48) (i53) (i54) (i55) (i56) (i57) (i58) (i61) (i62))) := fx7
    refine hp_get (v := .ref (q + 9)) hx hb hts hown hZ fx7 fl_X13_16 rfl dX13_become_60 ?_
    refine lv_iload_n hx hb dX13_become_63 rfl (lv_at hl 0 rfl) ?_
    refine lv_aload_n hx hb dX13_become_64 rfl (lv_at hl 1 rfl) ?_
    refine hp_get (v := .ref (q + 9)) hx hb hts hown hZ fx7 fl_X13_16 rfl dX13_become_65 ?_
    refine lv_bipush (v := 30) hx hb dX13_become_68 (by decide) ?_
    refine lv_iload_n hx hb dX13_become_70 rfl (lv_at hl 0 rfl) ?_
    refine lv_iadd hx hb dX13_become_71 ?_
    refine lv_topi (fun y8 ey9 => ?_)
    obtain rfl : y8 = nI (30 + i) := ey9.trans (nI_add 30 i)
    have fx10 := (o6 (q + 9) (hq_ne q 9 8 (by decide))).trans (f2)
    have fx10 : V4 (q + 9) = some (.inl (cs 1, 60, .inl (g_classOf))) := fx10
    refine hp_iald hx hb hZ fx10 (vp_in_nI (by omega) (by omega)) dX13_become_72 ?_
    refine hp_iast hx hb hZ fx10 (vp_in_nI (by omega) (by omega)) dX13_become_73 (fun V11 _ _ e12 o13 hZ => ?_)
    have e12 : V11 (q + 9) = some (.inl (cs 1, 60, .inl (upd (g_classOf) ((nI i : Int32).toNatClampNeg) (((g_classOf) (nI (30 + i) : Int32).toNatClampNeg))))) := e12
    refine lv_iinc (v := nI (i + 1)) (lv' := [(1, .int (nI (i + 1))), (0, .ref (a))]) hx hb dX13_become_74 hl (k := 0) rfl (by exact nI_1 i) (by decide) rfl (fun ls hl => ?_)
    refine lv_goto (tgt := 38) hx hb dX13_become_77 (by decide) ?_
    have fx14 := (o13 (a) (by omega)).trans (fx7)
    have fx14 : V11 (a) = some (.inr (13, mo q (i21) (i22) (i23) (i24) (i25) (i26) (i27) (i30) (i45) (i47) (i48) (i53) (i54) (i55) (i56) (i57) (i58) (i61) (i62))) := fx14
    have fx15 := (o13 (q + 8) (hq_ne q 8 9 (by decide))).trans (e5)
    have fx15 : V11 (q + 8) = some (.inl (cs 1, 60, .inl (upd (g_verbSize) ((nI i : Int32).toNatClampNeg) (((g_verbSize) (nI (30 + i) : Int32).toNatClampNeg))))) := fx15
    exact ih (i + 1) (by omega) _ _ _ ls _ _ hZ fx14 fx15 e12 (fun x h80 h81 => ((o13 (x) h81).trans (o6 (x) h80)).trans (fr x h80 h81)) (lv_sub hl [0, 1] rfl)

set_option maxHeartbeats 4000000 in
set_option maxRecDepth 100000 in
theorem lp_X13_b82 (l : Launch) (D : va_G) (cs : Nat → ClassId) (B : Nat) {p : Program} {e : Env} {s : State} {m : MethodId} {args : Array Value} {below : List Frame} {meth : Method} {c : Code} {Q : State → Prop} (hx : p.tables.exec = Jvm.exec) (hb : c.code = cX13_become) (hts : ∀ w ∈ TBG, w.before args s = true) (hown : s.vm.findClass RX13 = some m.cls) (hml : c.maxLocals = 2) (a q n : Nat) (haq : a < q) (i21 i22 i23 i24 i25 i26 i27 i30 i45 i47 i48 i53 i54 i55 i56 i57 i58 i61 i62 : Int32) (VE : hp_V)
    (kk : ∀ (V : hp_V) (H : Heap) (locs : List Loc) (ls : Array Slot) (g_verbName : Nat → Int32), hp_Z D cs B s V H (n) locs → V (a) = some (.inr (13, mo q (i21) (i22) (i23) (i24) (i25) (i26) (i27) (i30) (i45) (i47) (i48) (i53) (i54) (i55) (i56) (i57) (i58) (i61) (i62))) → V (q + 4) = some (.inl (cs 0, 720, .inl (g_verbName))) → (∀ x, x ≠ q + 4 → V x = VE x) → lv_has ls 2 [(1, .int (nI 360)), (0, .ref (a))] → W p l e ({ frames := 1, cells := 0, slots := 0, locals := 21 }) s m args below meth c H locs (0) (0) Q (F0 m 111 ls [])) :
    ∀ (k i : Nat), i + k = 360 → ∀ (V : hp_V) (H : Heap) (locs : List Loc) (ls : Array Slot) (g_verbName : Nat → Int32), hp_Z D cs B s V H (n) locs → V (a) = some (.inr (13, mo q (i21) (i22) (i23) (i24) (i25) (i26) (i27) (i30) (i45) (i47) (i48) (i53) (i54) (i55) (i56) (i57) (i58) (i61) (i62))) → V (q + 4) = some (.inl (cs 0, 720, .inl (g_verbName))) → (∀ x, x ≠ q + 4 → V x = VE x) → lv_has ls 2 [(1, .int (nI i)), (0, .ref (a))] → W p l e ({ frames := 1, cells := 0, slots := 0, locals := 21 }) s m args below meth c H locs (0) (0) Q (F0 m 82 ls []) := by
  intro k
  induction k with
  | zero =>
    intro i hi V H locs ls g_verbName hZ f0 f1 fr hl
    obtain rfl : i = 360 := by omega
    refine lv_iload_n hx hb dX13_become_82 rfl (lv_at hl 0 rfl) ?_
    refine lv_sipush (v := 360) hx hb dX13_become_83 (by decide) ?_
    refine lv_icmp_ge (tgt := 111) hx hb dX13_become_86 (by decide) (fun c1 => ?_) (fun c1 => absurd ((by decide)) c1)
    exact kk V H locs ls _ hZ f0 f1 fr hl
  | succ k ih =>
    intro i hi V H locs ls g_verbName hZ f0 f1 fr hl
    have lt_f0 := hZ.lt f0
    have lt_f1 := hZ.lt f1
    refine lv_iload_n hx hb dX13_become_82 rfl (lv_at hl 0 rfl) ?_
    refine lv_sipush (v := 360) hx hb dX13_become_83 (by decide) ?_
    refine lv_icmp_ge (tgt := 111) hx hb dX13_become_86 (by decide) (fun c1 => absurd c1 (show ¬ nI 360 ≤ nI i from nI_ge (by omega) (by decide))) (fun c1 => ?_)
    refine lv_aload_n hx hb dX13_become_89 rfl (lv_at hl 1 rfl) ?_
    refine hp_get (v := .ref (q + 4)) hx hb hts hown hZ f0 fl_X13_19 rfl dX13_become_90 ?_
    refine lv_iload_n hx hb dX13_become_93 rfl (lv_at hl 0 rfl) ?_
    refine lv_aload_n hx hb dX13_become_94 rfl (lv_at hl 1 rfl) ?_
    refine hp_get (v := .ref (q + 4)) hx hb hts hown hZ f0 fl_X13_19 rfl dX13_become_95 ?_
    refine lv_sipush (v := 360) hx hb dX13_become_98 (by decide) ?_
    refine lv_iload_n hx hb dX13_become_101 rfl (lv_at hl 0 rfl) ?_
    refine lv_iadd hx hb dX13_become_102 ?_
    refine lv_topi (fun y2 ey3 => ?_)
    obtain rfl : y2 = nI (360 + i) := ey3.trans (nI_add 360 i)
    refine hp_bald hx hb hZ f1 (vp_in_nI (by omega) (by omega)) dX13_become_103 ?_
    refine hp_bast hx hb hZ f1 (vp_in_nI (by omega) (by omega)) dX13_become_104 (fun V4 _ _ e5 o6 hZ => ?_)
    have e5 : V4 (q + 4) = some (.inl (cs 0, 720, .inl (upd (g_verbName) ((nI i : Int32).toNatClampNeg) ((((g_verbName) (nI (360 + i) : Int32).toNatClampNeg) : Int32).toInt8.toInt32)))) := e5
    refine lv_iinc (v := nI (i + 1)) (lv' := [(1, .int (nI (i + 1))), (0, .ref (a))]) hx hb dX13_become_105 hl (k := 0) rfl (by exact nI_1 i) (by decide) rfl (fun ls hl => ?_)
    refine lv_goto (tgt := 82) hx hb dX13_become_108 (by decide) ?_
    have fx7 := (o6 (a) (by omega)).trans (f0)
    have fx7 : V4 (a) = some (.inr (13, mo q (i21) (i22) (i23) (i24) (i25) (i26) (i27) (i30) (i45) (i47) (i48) (i53) (i54) (i55) (i56) (i57) (i58) (i61) (i62))) := fx7
    exact ih (i + 1) (by omega) _ _ _ ls _ hZ fx7 e5 (fun x h80 => (o6 (x) h80).trans (fr x h80)) (lv_sub hl [0, 1] rfl)

set_option maxHeartbeats 4000000 in
set_option maxRecDepth 100000 in
theorem lp_X13_b113 (l : Launch) (D : va_G) (cs : Nat → ClassId) (B : Nat) {p : Program} {e : Env} {s : State} {m : MethodId} {args : Array Value} {below : List Frame} {meth : Method} {c : Code} {Q : State → Prop} (hx : p.tables.exec = Jvm.exec) (hb : c.code = cX13_become) (hts : ∀ w ∈ TBG, w.before args s = true) (hown : s.vm.findClass RX13 = some m.cls) (hml : c.maxLocals = 2) (a q n : Nat) (haq : a < q) (i21 i22 i23 i24 i25 i26 i27 i30 i45 i47 i48 i53 i54 i55 i56 i57 i58 i61 i62 : Int32) (VE : hp_V)
    (kk : ∀ (V : hp_V) (H : Heap) (locs : List Loc) (ls : Array Slot) (g_first : Nat → Int32) (g_second : Nat → Int32), hp_Z D cs B s V H (n) locs → V (a) = some (.inr (13, mo q (i21) (i22) (i23) (i24) (i25) (i26) (i27) (i30) (i45) (i47) (i48) (i53) (i54) (i55) (i56) (i57) (i58) (i61) (i62))) → V (q + 5) = some (.inl (cs 0, 960, .inl (g_first))) → V (q + 6) = some (.inl (cs 0, 960, .inl (g_second))) → (∀ x, x ≠ q + 5 → x ≠ q + 6 → V x = VE x) → lv_has ls 2 [(1, .int (nI 480)), (0, .ref (a))] → W p l e ({ frames := 1, cells := 0, slots := 0, locals := 21 }) s m args below meth c H locs (0) (0) Q (F0 m 158 ls [])) :
    ∀ (k i : Nat), i + k = 480 → ∀ (V : hp_V) (H : Heap) (locs : List Loc) (ls : Array Slot) (g_first : Nat → Int32) (g_second : Nat → Int32), hp_Z D cs B s V H (n) locs → V (a) = some (.inr (13, mo q (i21) (i22) (i23) (i24) (i25) (i26) (i27) (i30) (i45) (i47) (i48) (i53) (i54) (i55) (i56) (i57) (i58) (i61) (i62))) → V (q + 5) = some (.inl (cs 0, 960, .inl (g_first))) → V (q + 6) = some (.inl (cs 0, 960, .inl (g_second))) → (∀ x, x ≠ q + 5 → x ≠ q + 6 → V x = VE x) → lv_has ls 2 [(1, .int (nI i)), (0, .ref (a))] → W p l e ({ frames := 1, cells := 0, slots := 0, locals := 21 }) s m args below meth c H locs (0) (0) Q (F0 m 113 ls []) := by
  intro k
  induction k with
  | zero =>
    intro i hi V H locs ls g_first g_second hZ f0 f1 f2 fr hl
    obtain rfl : i = 480 := by omega
    refine lv_iload_n hx hb dX13_become_113 rfl (lv_at hl 0 rfl) ?_
    refine lv_sipush (v := 480) hx hb dX13_become_114 (by decide) ?_
    refine lv_icmp_ge (tgt := 158) hx hb dX13_become_117 (by decide) (fun c1 => ?_) (fun c1 => absurd ((by decide)) c1)
    exact kk V H locs ls _ _ hZ f0 f1 f2 fr hl
  | succ k ih =>
    intro i hi V H locs ls g_first g_second hZ f0 f1 f2 fr hl
    have lt_f0 := hZ.lt f0
    have lt_f1 := hZ.lt f1
    have lt_f2 := hZ.lt f2
    refine lv_iload_n hx hb dX13_become_113 rfl (lv_at hl 0 rfl) ?_
    refine lv_sipush (v := 480) hx hb dX13_become_114 (by decide) ?_
    refine lv_icmp_ge (tgt := 158) hx hb dX13_become_117 (by decide) (fun c1 => absurd c1 (show ¬ nI 480 ≤ nI i from nI_ge (by omega) (by decide))) (fun c1 => ?_)
    refine lv_aload_n hx hb dX13_become_120 rfl (lv_at hl 1 rfl) ?_
    refine hp_get (v := .ref (q + 5)) hx hb hts hown hZ f0 fl_X13_23 rfl dX13_become_121 ?_
    refine lv_iload_n hx hb dX13_become_124 rfl (lv_at hl 0 rfl) ?_
    refine lv_aload_n hx hb dX13_become_125 rfl (lv_at hl 1 rfl) ?_
    refine hp_get (v := .ref (q + 5)) hx hb hts hown hZ f0 fl_X13_23 rfl dX13_become_126 ?_
    refine lv_sipush (v := 480) hx hb dX13_become_129 (by decide) ?_
    refine lv_iload_n hx hb dX13_become_132 rfl (lv_at hl 0 rfl) ?_
    refine lv_iadd hx hb dX13_become_133 ?_
    refine lv_topi (fun y2 ey3 => ?_)
    obtain rfl : y2 = nI (480 + i) := ey3.trans (nI_add 480 i)
    refine hp_bald hx hb hZ f1 (vp_in_nI (by omega) (by omega)) dX13_become_134 ?_
    refine hp_bast hx hb hZ f1 (vp_in_nI (by omega) (by omega)) dX13_become_135 (fun V4 _ _ e5 o6 hZ => ?_)
    have e5 : V4 (q + 5) = some (.inl (cs 0, 960, .inl (upd (g_first) ((nI i : Int32).toNatClampNeg) ((((g_first) (nI (480 + i) : Int32).toNatClampNeg) : Int32).toInt8.toInt32)))) := e5
    refine lv_aload_n hx hb dX13_become_136 rfl (lv_at hl 1 rfl) ?_
    have fx7 := (o6 (a) (by omega)).trans (f0)
    have fx7 : V4 (a) = some (.inr (13, mo q (i21) (i22) (i23) (i24) (i25) (i26) (i27) (i30) (i45) (i47) (i48) (i53) (i54) (i55) (i56) (i57) (i58) (i61) (i62))) := fx7
    refine hp_get (v := .ref (q + 6)) hx hb hts hown hZ fx7 fl_X13_26 rfl dX13_become_137 ?_
    refine lv_iload_n hx hb dX13_become_140 rfl (lv_at hl 0 rfl) ?_
    refine lv_aload_n hx hb dX13_become_141 rfl (lv_at hl 1 rfl) ?_
    refine hp_get (v := .ref (q + 6)) hx hb hts hown hZ fx7 fl_X13_26 rfl dX13_become_142 ?_
    refine lv_sipush (v := 480) hx hb dX13_become_145 (by decide) ?_
    refine lv_iload_n hx hb dX13_become_148 rfl (lv_at hl 0 rfl) ?_
    refine lv_iadd hx hb dX13_become_149 ?_
    refine lv_topi (fun y8 ey9 => ?_)
    obtain rfl : y8 = nI (480 + i) := ey9.trans (nI_add 480 i)
    have fx10 := (o6 (q + 6) (hq_ne q 6 5 (by decide))).trans (f2)
    have fx10 : V4 (q + 6) = some (.inl (cs 0, 960, .inl (g_second))) := fx10
    refine hp_bald hx hb hZ fx10 (vp_in_nI (by omega) (by omega)) dX13_become_150 ?_
    refine hp_bast hx hb hZ fx10 (vp_in_nI (by omega) (by omega)) dX13_become_151 (fun V11 _ _ e12 o13 hZ => ?_)
    have e12 : V11 (q + 6) = some (.inl (cs 0, 960, .inl (upd (g_second) ((nI i : Int32).toNatClampNeg) ((((g_second) (nI (480 + i) : Int32).toNatClampNeg) : Int32).toInt8.toInt32)))) := e12
    refine lv_iinc (v := nI (i + 1)) (lv' := [(1, .int (nI (i + 1))), (0, .ref (a))]) hx hb dX13_become_152 hl (k := 0) rfl (by exact nI_1 i) (by decide) rfl (fun ls hl => ?_)
    refine lv_goto (tgt := 113) hx hb dX13_become_155 (by decide) ?_
    have fx14 := (o13 (a) (by omega)).trans (fx7)
    have fx14 : V11 (a) = some (.inr (13, mo q (i21) (i22) (i23) (i24) (i25) (i26) (i27) (i30) (i45) (i47) (i48) (i53) (i54) (i55) (i56) (i57) (i58) (i61) (i62))) := fx14
    have fx15 := (o13 (q + 5) (hq_ne q 5 6 (by decide))).trans (e5)
    have fx15 : V11 (q + 5) = some (.inl (cs 0, 960, .inl (upd (g_first) ((nI i : Int32).toNatClampNeg) ((((g_first) (nI (480 + i) : Int32).toNatClampNeg) : Int32).toInt8.toInt32)))) := fx15
    exact ih (i + 1) (by omega) _ _ _ ls _ _ hZ fx14 fx15 e12 (fun x h80 h81 => ((o13 (x) h81).trans (o6 (x) h80)).trans (fr x h80 h81)) (lv_sub hl [0, 1] rfl)

set_option maxHeartbeats 4000000 in
set_option maxRecDepth 100000 in
theorem lp_X13_b160 (l : Launch) (D : va_G) (cs : Nat → ClassId) (B : Nat) {p : Program} {e : Env} {s : State} {m : MethodId} {args : Array Value} {below : List Frame} {meth : Method} {c : Code} {Q : State → Prop} (hx : p.tables.exec = Jvm.exec) (hb : c.code = cX13_become) (hts : ∀ w ∈ TBG, w.before args s = true) (hown : s.vm.findClass RX13 = some m.cls) (hml : c.maxLocals = 2) (a q n : Nat) (haq : a < q) (i21 i22 i23 i24 i25 i26 i27 i30 i45 i47 i48 i53 i54 i55 i56 i57 i58 i61 i62 : Int32) (VE : hp_V)
    (kk : ∀ (V : hp_V) (H : Heap) (locs : List Loc) (ls : Array Slot) (g_kind : Nat → Int32) (g_whose : Nat → Int32) (g_tense : Nat → Int32) (g_person : Nat → Int32) (g_firstSize : Nat → Int32) (g_secondSize : Nat → Int32) (g_helper : Nat → Int32) (g_helperTense : Nat → Int32) (g_part : Nat → Int32), hp_Z D cs B s V H (n) locs → V (a) = some (.inr (13, mo q (i21) (i22) (i23) (i24) (i25) (i26) (i27) (i30) (i45) (i47) (i48) (i53) (i54) (i55) (i56) (i57) (i58) (i61) (i62))) → V (q + 10) = some (.inl (cs 1, 120, .inl (g_kind))) → V (q + 11) = some (.inl (cs 1, 120, .inl (g_whose))) → V (q + 12) = some (.inl (cs 1, 120, .inl (g_tense))) → V (q + 13) = some (.inl (cs 1, 120, .inl (g_person))) → V (q + 14) = some (.inl (cs 1, 120, .inl (g_firstSize))) → V (q + 15) = some (.inl (cs 1, 120, .inl (g_secondSize))) → V (q + 16) = some (.inl (cs 1, 120, .inl (g_helper))) → V (q + 17) = some (.inl (cs 1, 120, .inl (g_helperTense))) → V (q + 18) = some (.inl (cs 1, 120, .inl (g_part))) → (∀ x, x ≠ q + 10 → x ≠ q + 11 → x ≠ q + 12 → x ≠ q + 13 → x ≠ q + 14 → x ≠ q + 15 → x ≠ q + 16 → x ≠ q + 17 → x ≠ q + 18 → V x = VE x) → lv_has ls 2 [(1, .int (nI 60)), (0, .ref (a))] → W p l e ({ frames := 1, cells := 0, slots := 0, locals := 21 }) s m args below meth c H locs (0) (0) Q (F0 m 307 ls [])) :
    ∀ (k i : Nat), i + k = 60 → ∀ (V : hp_V) (H : Heap) (locs : List Loc) (ls : Array Slot) (g_kind : Nat → Int32) (g_whose : Nat → Int32) (g_tense : Nat → Int32) (g_person : Nat → Int32) (g_firstSize : Nat → Int32) (g_secondSize : Nat → Int32) (g_helper : Nat → Int32) (g_helperTense : Nat → Int32) (g_part : Nat → Int32), hp_Z D cs B s V H (n) locs → V (a) = some (.inr (13, mo q (i21) (i22) (i23) (i24) (i25) (i26) (i27) (i30) (i45) (i47) (i48) (i53) (i54) (i55) (i56) (i57) (i58) (i61) (i62))) → V (q + 10) = some (.inl (cs 1, 120, .inl (g_kind))) → V (q + 11) = some (.inl (cs 1, 120, .inl (g_whose))) → V (q + 12) = some (.inl (cs 1, 120, .inl (g_tense))) → V (q + 13) = some (.inl (cs 1, 120, .inl (g_person))) → V (q + 14) = some (.inl (cs 1, 120, .inl (g_firstSize))) → V (q + 15) = some (.inl (cs 1, 120, .inl (g_secondSize))) → V (q + 16) = some (.inl (cs 1, 120, .inl (g_helper))) → V (q + 17) = some (.inl (cs 1, 120, .inl (g_helperTense))) → V (q + 18) = some (.inl (cs 1, 120, .inl (g_part))) → (∀ x, x ≠ q + 10 → x ≠ q + 11 → x ≠ q + 12 → x ≠ q + 13 → x ≠ q + 14 → x ≠ q + 15 → x ≠ q + 16 → x ≠ q + 17 → x ≠ q + 18 → V x = VE x) → lv_has ls 2 [(1, .int (nI i)), (0, .ref (a))] → W p l e ({ frames := 1, cells := 0, slots := 0, locals := 21 }) s m args below meth c H locs (0) (0) Q (F0 m 160 ls []) := by
  intro k
  induction k with
  | zero =>
    intro i hi V H locs ls g_kind g_whose g_tense g_person g_firstSize g_secondSize g_helper g_helperTense g_part hZ f0 f1 f2 f3 f4 f5 f6 f7 f8 f9 fr hl
    obtain rfl : i = 60 := by omega
    refine lv_iload_n hx hb dX13_become_160 rfl (lv_at hl 0 rfl) ?_
    refine lv_bipush (v := 60) hx hb dX13_become_161 (by decide) ?_
    refine lv_icmp_ge (tgt := 307) hx hb dX13_become_163 (by decide) (fun c1 => ?_) (fun c1 => absurd ((by decide)) c1)
    exact kk V H locs ls _ _ _ _ _ _ _ _ _ hZ f0 f1 f2 f3 f4 f5 f6 f7 f8 f9 fr hl
  | succ k ih =>
    intro i hi V H locs ls g_kind g_whose g_tense g_person g_firstSize g_secondSize g_helper g_helperTense g_part hZ f0 f1 f2 f3 f4 f5 f6 f7 f8 f9 fr hl
    have lt_f0 := hZ.lt f0
    have lt_f1 := hZ.lt f1
    have lt_f2 := hZ.lt f2
    have lt_f3 := hZ.lt f3
    have lt_f4 := hZ.lt f4
    have lt_f5 := hZ.lt f5
    have lt_f6 := hZ.lt f6
    have lt_f7 := hZ.lt f7
    have lt_f8 := hZ.lt f8
    have lt_f9 := hZ.lt f9
    refine lv_iload_n hx hb dX13_become_160 rfl (lv_at hl 0 rfl) ?_
    refine lv_bipush (v := 60) hx hb dX13_become_161 (by decide) ?_
    refine lv_icmp_ge (tgt := 307) hx hb dX13_become_163 (by decide) (fun c1 => absurd c1 (show ¬ nI 60 ≤ nI i from nI_ge (by omega) (by decide))) (fun c1 => ?_)
    refine lv_aload_n hx hb dX13_become_166 rfl (lv_at hl 1 rfl) ?_
    refine hp_get (v := .ref (q + 10)) hx hb hts hown hZ f0 fl_X13_29 rfl dX13_become_167 ?_
    refine lv_iload_n hx hb dX13_become_170 rfl (lv_at hl 0 rfl) ?_
    refine lv_aload_n hx hb dX13_become_171 rfl (lv_at hl 1 rfl) ?_
    refine hp_get (v := .ref (q + 10)) hx hb hts hown hZ f0 fl_X13_29 rfl dX13_become_172 ?_
    refine lv_bipush (v := 60) hx hb dX13_become_175 (by decide) ?_
    refine lv_iload_n hx hb dX13_become_177 rfl (lv_at hl 0 rfl) ?_
    refine lv_iadd hx hb dX13_become_178 ?_
    refine lv_topi (fun y2 ey3 => ?_)
    obtain rfl : y2 = nI (60 + i) := ey3.trans (nI_add 60 i)
    refine hp_iald hx hb hZ f1 (vp_in_nI (by omega) (by omega)) dX13_become_179 ?_
    refine hp_iast hx hb hZ f1 (vp_in_nI (by omega) (by omega)) dX13_become_180 (fun V4 _ _ e5 o6 hZ => ?_)
    have e5 : V4 (q + 10) = some (.inl (cs 1, 120, .inl (upd (g_kind) ((nI i : Int32).toNatClampNeg) (((g_kind) (nI (60 + i) : Int32).toNatClampNeg))))) := e5
    refine lv_aload_n hx hb dX13_become_181 rfl (lv_at hl 1 rfl) ?_
    have fx7 := (o6 (a) (by omega)).trans (f0)
    have fx7 : V4 (a) = some (.inr (13, mo q (i21) (i22) (i23) (i24) (i25) (i26) (i27) (i30) (i45) (i47) (i48) (i53) (i54) (i55) (i56) (i57) (i58) (i61) (i62))) := fx7
    refine hp_get (v := .ref (q + 11)) hx hb hts hown hZ fx7 fl_X13_32 rfl dX13_become_182 ?_
    refine lv_iload_n hx hb dX13_become_185 rfl (lv_at hl 0 rfl) ?_
    refine lv_aload_n hx hb dX13_become_186 rfl (lv_at hl 1 rfl) ?_
    refine hp_get (v := .ref (q + 11)) hx hb hts hown hZ fx7 fl_X13_32 rfl dX13_become_187 ?_
    refine lv_bipush (v := 60) hx hb dX13_become_190 (by decide) ?_
    refine lv_iload_n hx hb dX13_become_192 rfl (lv_at hl 0 rfl) ?_
    refine lv_iadd hx hb dX13_become_193 ?_
    refine lv_topi (fun y8 ey9 => ?_)
    obtain rfl : y8 = nI (60 + i) := ey9.trans (nI_add 60 i)
    have fx10 := (o6 (q + 11) (hq_ne q 11 10 (by decide))).trans (f2)
    have fx10 : V4 (q + 11) = some (.inl (cs 1, 120, .inl (g_whose))) := fx10
    refine hp_iald hx hb hZ fx10 (vp_in_nI (by omega) (by omega)) dX13_become_194 ?_
    refine hp_iast hx hb hZ fx10 (vp_in_nI (by omega) (by omega)) dX13_become_195 (fun V11 _ _ e12 o13 hZ => ?_)
    have e12 : V11 (q + 11) = some (.inl (cs 1, 120, .inl (upd (g_whose) ((nI i : Int32).toNatClampNeg) (((g_whose) (nI (60 + i) : Int32).toNatClampNeg))))) := e12
    refine lv_aload_n hx hb dX13_become_196 rfl (lv_at hl 1 rfl) ?_
    have fx14 := (o13 (a) (by omega)).trans (fx7)
    have fx14 : V11 (a) = some (.inr (13, mo q (i21) (i22) (i23) (i24) (i25) (i26) (i27) (i30) (i45) (i47) (i48) (i53) (i54) (i55) (i56) (i57) (i58) (i61) (i62))) := fx14
    refine hp_get (v := .ref (q + 12)) hx hb hts hown hZ fx14 fl_X13_35 rfl dX13_become_197 ?_
    refine lv_iload_n hx hb dX13_become_200 rfl (lv_at hl 0 rfl) ?_
    refine lv_aload_n hx hb dX13_become_201 rfl (lv_at hl 1 rfl) ?_
    refine hp_get (v := .ref (q + 12)) hx hb hts hown hZ fx14 fl_X13_35 rfl dX13_become_202 ?_
    refine lv_bipush (v := 60) hx hb dX13_become_205 (by decide) ?_
    refine lv_iload_n hx hb dX13_become_207 rfl (lv_at hl 0 rfl) ?_
    refine lv_iadd hx hb dX13_become_208 ?_
    refine lv_topi (fun y15 ey16 => ?_)
    obtain rfl : y15 = nI (60 + i) := ey16.trans (nI_add 60 i)
    have fx17 := (o13 (q + 12) (hq_ne q 12 11 (by decide))).trans ((o6 (q + 12) (hq_ne q 12 10 (by decide))).trans (f3))
    have fx17 : V11 (q + 12) = some (.inl (cs 1, 120, .inl (g_tense))) := fx17
    refine hp_iald hx hb hZ fx17 (vp_in_nI (by omega) (by omega)) dX13_become_209 ?_
    refine hp_iast hx hb hZ fx17 (vp_in_nI (by omega) (by omega)) dX13_become_210 (fun V18 _ _ e19 o20 hZ => ?_)
    have e19 : V18 (q + 12) = some (.inl (cs 1, 120, .inl (upd (g_tense) ((nI i : Int32).toNatClampNeg) (((g_tense) (nI (60 + i) : Int32).toNatClampNeg))))) := e19
    refine lv_aload_n hx hb dX13_become_211 rfl (lv_at hl 1 rfl) ?_
    have fx21 := (o20 (a) (by omega)).trans (fx14)
    have fx21 : V18 (a) = some (.inr (13, mo q (i21) (i22) (i23) (i24) (i25) (i26) (i27) (i30) (i45) (i47) (i48) (i53) (i54) (i55) (i56) (i57) (i58) (i61) (i62))) := fx21
    refine hp_get (v := .ref (q + 13)) hx hb hts hown hZ fx21 fl_X13_38 rfl dX13_become_212 ?_
    refine lv_iload_n hx hb dX13_become_215 rfl (lv_at hl 0 rfl) ?_
    refine lv_aload_n hx hb dX13_become_216 rfl (lv_at hl 1 rfl) ?_
    refine hp_get (v := .ref (q + 13)) hx hb hts hown hZ fx21 fl_X13_38 rfl dX13_become_217 ?_
    refine lv_bipush (v := 60) hx hb dX13_become_220 (by decide) ?_
    refine lv_iload_n hx hb dX13_become_222 rfl (lv_at hl 0 rfl) ?_
    refine lv_iadd hx hb dX13_become_223 ?_
    refine lv_topi (fun y22 ey23 => ?_)
    obtain rfl : y22 = nI (60 + i) := ey23.trans (nI_add 60 i)
    have fx24 := (o20 (q + 13) (hq_ne q 13 12 (by decide))).trans ((o13 (q + 13) (hq_ne q 13 11 (by decide))).trans ((o6 (q + 13) (hq_ne q 13 10 (by decide))).trans (f4)))
    have fx24 : V18 (q + 13) = some (.inl (cs 1, 120, .inl (g_person))) := fx24
    refine hp_iald hx hb hZ fx24 (vp_in_nI (by omega) (by omega)) dX13_become_224 ?_
    refine hp_iast hx hb hZ fx24 (vp_in_nI (by omega) (by omega)) dX13_become_225 (fun V25 _ _ e26 o27 hZ => ?_)
    have e26 : V25 (q + 13) = some (.inl (cs 1, 120, .inl (upd (g_person) ((nI i : Int32).toNatClampNeg) (((g_person) (nI (60 + i) : Int32).toNatClampNeg))))) := e26
    refine lv_aload_n hx hb dX13_become_226 rfl (lv_at hl 1 rfl) ?_
    have fx28 := (o27 (a) (by omega)).trans (fx21)
    have fx28 : V25 (a) = some (.inr (13, mo q (i21) (i22) (i23) (i24) (i25) (i26) (i27) (i30) (i45) (i47) (i48) (i53) (i54) (i55) (i56) (i57) (i58) (i61) (i62))) := fx28
    refine hp_get (v := .ref (q + 14)) hx hb hts hown hZ fx28 fl_X13_41 rfl dX13_become_227 ?_
    refine lv_iload_n hx hb dX13_become_230 rfl (lv_at hl 0 rfl) ?_
    refine lv_aload_n hx hb dX13_become_231 rfl (lv_at hl 1 rfl) ?_
    refine hp_get (v := .ref (q + 14)) hx hb hts hown hZ fx28 fl_X13_41 rfl dX13_become_232 ?_
    refine lv_bipush (v := 60) hx hb dX13_become_235 (by decide) ?_
    refine lv_iload_n hx hb dX13_become_237 rfl (lv_at hl 0 rfl) ?_
    refine lv_iadd hx hb dX13_become_238 ?_
    refine lv_topi (fun y29 ey30 => ?_)
    obtain rfl : y29 = nI (60 + i) := ey30.trans (nI_add 60 i)
    have fx31 := (o27 (q + 14) (hq_ne q 14 13 (by decide))).trans ((o20 (q + 14) (hq_ne q 14 12 (by decide))).trans ((o13 (q + 14) (hq_ne q 14 11 (by decide))).trans ((o6 (q + 14) (hq_ne q 14 10 (by decide))).trans (f5))))
    have fx31 : V25 (q + 14) = some (.inl (cs 1, 120, .inl (g_firstSize))) := fx31
    refine hp_iald hx hb hZ fx31 (vp_in_nI (by omega) (by omega)) dX13_become_239 ?_
    refine hp_iast hx hb hZ fx31 (vp_in_nI (by omega) (by omega)) dX13_become_240 (fun V32 _ _ e33 o34 hZ => ?_)
    have e33 : V32 (q + 14) = some (.inl (cs 1, 120, .inl (upd (g_firstSize) ((nI i : Int32).toNatClampNeg) (((g_firstSize) (nI (60 + i) : Int32).toNatClampNeg))))) := e33
    refine lv_aload_n hx hb dX13_become_241 rfl (lv_at hl 1 rfl) ?_
    have fx35 := (o34 (a) (by omega)).trans (fx28)
    have fx35 : V32 (a) = some (.inr (13, mo q (i21) (i22) (i23) (i24) (i25) (i26) (i27) (i30) (i45) (i47) (i48) (i53) (i54) (i55) (i56) (i57) (i58) (i61) (i62))) := fx35
    refine hp_get (v := .ref (q + 15)) hx hb hts hown hZ fx35 fl_X13_44 rfl dX13_become_242 ?_
    refine lv_iload_n hx hb dX13_become_245 rfl (lv_at hl 0 rfl) ?_
    refine lv_aload_n hx hb dX13_become_246 rfl (lv_at hl 1 rfl) ?_
    refine hp_get (v := .ref (q + 15)) hx hb hts hown hZ fx35 fl_X13_44 rfl dX13_become_247 ?_
    refine lv_bipush (v := 60) hx hb dX13_become_250 (by decide) ?_
    refine lv_iload_n hx hb dX13_become_252 rfl (lv_at hl 0 rfl) ?_
    refine lv_iadd hx hb dX13_become_253 ?_
    refine lv_topi (fun y36 ey37 => ?_)
    obtain rfl : y36 = nI (60 + i) := ey37.trans (nI_add 60 i)
    have fx38 := (o34 (q + 15) (hq_ne q 15 14 (by decide))).trans ((o27 (q + 15) (hq_ne q 15 13 (by decide))).trans ((o20 (q + 15) (hq_ne q 15 12 (by decide))).trans ((o13 (q + 15) (hq_ne q 15 11 (by decide))).trans ((o6 (q + 15) (hq_ne q 15 10 (by decide))).trans (f6)))))
    have fx38 : V32 (q + 15) = some (.inl (cs 1, 120, .inl (g_secondSize))) := fx38
    refine hp_iald hx hb hZ fx38 (vp_in_nI (by omega) (by omega)) dX13_become_254 ?_
    refine hp_iast hx hb hZ fx38 (vp_in_nI (by omega) (by omega)) dX13_become_255 (fun V39 _ _ e40 o41 hZ => ?_)
    have e40 : V39 (q + 15) = some (.inl (cs 1, 120, .inl (upd (g_secondSize) ((nI i : Int32).toNatClampNeg) (((g_secondSize) (nI (60 + i) : Int32).toNatClampNeg))))) := e40
    refine lv_aload_n hx hb dX13_become_256 rfl (lv_at hl 1 rfl) ?_
    have fx42 := (o41 (a) (by omega)).trans (fx35)
    have fx42 : V39 (a) = some (.inr (13, mo q (i21) (i22) (i23) (i24) (i25) (i26) (i27) (i30) (i45) (i47) (i48) (i53) (i54) (i55) (i56) (i57) (i58) (i61) (i62))) := fx42
    refine hp_get (v := .ref (q + 16)) hx hb hts hown hZ fx42 fl_X13_47 rfl dX13_become_257 ?_
    refine lv_iload_n hx hb dX13_become_260 rfl (lv_at hl 0 rfl) ?_
    refine lv_aload_n hx hb dX13_become_261 rfl (lv_at hl 1 rfl) ?_
    refine hp_get (v := .ref (q + 16)) hx hb hts hown hZ fx42 fl_X13_47 rfl dX13_become_262 ?_
    refine lv_bipush (v := 60) hx hb dX13_become_265 (by decide) ?_
    refine lv_iload_n hx hb dX13_become_267 rfl (lv_at hl 0 rfl) ?_
    refine lv_iadd hx hb dX13_become_268 ?_
    refine lv_topi (fun y43 ey44 => ?_)
    obtain rfl : y43 = nI (60 + i) := ey44.trans (nI_add 60 i)
    have fx45 := (o41 (q + 16) (hq_ne q 16 15 (by decide))).trans ((o34 (q + 16) (hq_ne q 16 14 (by decide))).trans ((o27 (q + 16) (hq_ne q 16 13 (by decide))).trans ((o20 (q + 16) (hq_ne q 16 12 (by decide))).trans ((o13 (q + 16) (hq_ne q 16 11 (by decide))).trans ((o6 (q + 16) (hq_ne q 16 10 (by decide))).trans (f7))))))
    have fx45 : V39 (q + 16) = some (.inl (cs 1, 120, .inl (g_helper))) := fx45
    refine hp_iald hx hb hZ fx45 (vp_in_nI (by omega) (by omega)) dX13_become_269 ?_
    refine hp_iast hx hb hZ fx45 (vp_in_nI (by omega) (by omega)) dX13_become_270 (fun V46 _ _ e47 o48 hZ => ?_)
    have e47 : V46 (q + 16) = some (.inl (cs 1, 120, .inl (upd (g_helper) ((nI i : Int32).toNatClampNeg) (((g_helper) (nI (60 + i) : Int32).toNatClampNeg))))) := e47
    refine lv_aload_n hx hb dX13_become_271 rfl (lv_at hl 1 rfl) ?_
    have fx49 := (o48 (a) (by omega)).trans (fx42)
    have fx49 : V46 (a) = some (.inr (13, mo q (i21) (i22) (i23) (i24) (i25) (i26) (i27) (i30) (i45) (i47) (i48) (i53) (i54) (i55) (i56) (i57) (i58) (i61) (i62))) := fx49
    refine hp_get (v := .ref (q + 17)) hx hb hts hown hZ fx49 fl_X13_50 rfl dX13_become_272 ?_
    refine lv_iload_n hx hb dX13_become_275 rfl (lv_at hl 0 rfl) ?_
    refine lv_aload_n hx hb dX13_become_276 rfl (lv_at hl 1 rfl) ?_
    refine hp_get (v := .ref (q + 17)) hx hb hts hown hZ fx49 fl_X13_50 rfl dX13_become_277 ?_
    refine lv_bipush (v := 60) hx hb dX13_become_280 (by decide) ?_
    refine lv_iload_n hx hb dX13_become_282 rfl (lv_at hl 0 rfl) ?_
    refine lv_iadd hx hb dX13_become_283 ?_
    refine lv_topi (fun y50 ey51 => ?_)
    obtain rfl : y50 = nI (60 + i) := ey51.trans (nI_add 60 i)
    have fx52 := (o48 (q + 17) (hq_ne q 17 16 (by decide))).trans ((o41 (q + 17) (hq_ne q 17 15 (by decide))).trans ((o34 (q + 17) (hq_ne q 17 14 (by decide))).trans ((o27 (q + 17) (hq_ne q 17 13 (by decide))).trans ((o20 (q + 17) (hq_ne q 17 12 (by decide))).trans ((o13 (q + 17) (hq_ne q 17 11 (by decide))).trans ((o6 (q + 17) (hq_ne q 17 10 (by decide))).trans (f8)))))))
    have fx52 : V46 (q + 17) = some (.inl (cs 1, 120, .inl (g_helperTense))) := fx52
    refine hp_iald hx hb hZ fx52 (vp_in_nI (by omega) (by omega)) dX13_become_284 ?_
    refine hp_iast hx hb hZ fx52 (vp_in_nI (by omega) (by omega)) dX13_become_285 (fun V53 _ _ e54 o55 hZ => ?_)
    have e54 : V53 (q + 17) = some (.inl (cs 1, 120, .inl (upd (g_helperTense) ((nI i : Int32).toNatClampNeg) (((g_helperTense) (nI (60 + i) : Int32).toNatClampNeg))))) := e54
    refine lv_aload_n hx hb dX13_become_286 rfl (lv_at hl 1 rfl) ?_
    have fx56 := (o55 (a) (by omega)).trans (fx49)
    have fx56 : V53 (a) = some (.inr (13, mo q (i21) (i22) (i23) (i24) (i25) (i26) (i27) (i30) (i45) (i47) (i48) (i53) (i54) (i55) (i56) (i57) (i58) (i61) (i62))) := fx56
    refine hp_get (v := .ref (q + 18)) hx hb hts hown hZ fx56 fl_X13_53 rfl dX13_become_287 ?_
    refine lv_iload_n hx hb dX13_become_290 rfl (lv_at hl 0 rfl) ?_
    refine lv_aload_n hx hb dX13_become_291 rfl (lv_at hl 1 rfl) ?_
    refine hp_get (v := .ref (q + 18)) hx hb hts hown hZ fx56 fl_X13_53 rfl dX13_become_292 ?_
    refine lv_bipush (v := 60) hx hb dX13_become_295 (by decide) ?_
    refine lv_iload_n hx hb dX13_become_297 rfl (lv_at hl 0 rfl) ?_
    refine lv_iadd hx hb dX13_become_298 ?_
    refine lv_topi (fun y57 ey58 => ?_)
    obtain rfl : y57 = nI (60 + i) := ey58.trans (nI_add 60 i)
    have fx59 := (o55 (q + 18) (hq_ne q 18 17 (by decide))).trans ((o48 (q + 18) (hq_ne q 18 16 (by decide))).trans ((o41 (q + 18) (hq_ne q 18 15 (by decide))).trans ((o34 (q + 18) (hq_ne q 18 14 (by decide))).trans ((o27 (q + 18) (hq_ne q 18 13 (by decide))).trans ((o20 (q + 18) (hq_ne q 18 12 (by decide))).trans ((o13 (q + 18) (hq_ne q 18 11 (by decide))).trans ((o6 (q + 18) (hq_ne q 18 10 (by decide))).trans (f9))))))))
    have fx59 : V53 (q + 18) = some (.inl (cs 1, 120, .inl (g_part))) := fx59
    refine hp_iald hx hb hZ fx59 (vp_in_nI (by omega) (by omega)) dX13_become_299 ?_
    refine hp_iast hx hb hZ fx59 (vp_in_nI (by omega) (by omega)) dX13_become_300 (fun V60 _ _ e61 o62 hZ => ?_)
    have e61 : V60 (q + 18) = some (.inl (cs 1, 120, .inl (upd (g_part) ((nI i : Int32).toNatClampNeg) (((g_part) (nI (60 + i) : Int32).toNatClampNeg))))) := e61
    refine lv_iinc (v := nI (i + 1)) (lv' := [(1, .int (nI (i + 1))), (0, .ref (a))]) hx hb dX13_become_301 hl (k := 0) rfl (by exact nI_1 i) (by decide) rfl (fun ls hl => ?_)
    refine lv_goto (tgt := 160) hx hb dX13_become_304 (by decide) ?_
    have fx63 := (o62 (a) (by omega)).trans (fx56)
    have fx63 : V60 (a) = some (.inr (13, mo q (i21) (i22) (i23) (i24) (i25) (i26) (i27) (i30) (i45) (i47) (i48) (i53) (i54) (i55) (i56) (i57) (i58) (i61) (i62))) := fx63
    have fx64 := (o62 (q + 10) (hq_ne q 10 18 (by decide))).trans ((o55 (q + 10) (hq_ne q 10 17 (by decide))).trans ((o48 (q + 10) (hq_ne q 10 16 (by decide))).trans ((o41 (q + 10) (hq_ne q 10 15 (by decide))).trans ((o34 (q + 10) (hq_ne q 10 14 (by decide))).trans ((o27 (q + 10) (hq_ne q 10 13 (by decide))).trans ((o20 (q + 10) (hq_ne q 10 12 (by decide))).trans ((o13 (q + 10) (hq_ne q 10 11 (by decide))).trans (e5))))))))
    have fx64 : V60 (q + 10) = some (.inl (cs 1, 120, .inl (upd (g_kind) ((nI i : Int32).toNatClampNeg) (((g_kind) (nI (60 + i) : Int32).toNatClampNeg))))) := fx64
    have fx65 := (o62 (q + 11) (hq_ne q 11 18 (by decide))).trans ((o55 (q + 11) (hq_ne q 11 17 (by decide))).trans ((o48 (q + 11) (hq_ne q 11 16 (by decide))).trans ((o41 (q + 11) (hq_ne q 11 15 (by decide))).trans ((o34 (q + 11) (hq_ne q 11 14 (by decide))).trans ((o27 (q + 11) (hq_ne q 11 13 (by decide))).trans ((o20 (q + 11) (hq_ne q 11 12 (by decide))).trans (e12)))))))
    have fx65 : V60 (q + 11) = some (.inl (cs 1, 120, .inl (upd (g_whose) ((nI i : Int32).toNatClampNeg) (((g_whose) (nI (60 + i) : Int32).toNatClampNeg))))) := fx65
    have fx66 := (o62 (q + 12) (hq_ne q 12 18 (by decide))).trans ((o55 (q + 12) (hq_ne q 12 17 (by decide))).trans ((o48 (q + 12) (hq_ne q 12 16 (by decide))).trans ((o41 (q + 12) (hq_ne q 12 15 (by decide))).trans ((o34 (q + 12) (hq_ne q 12 14 (by decide))).trans ((o27 (q + 12) (hq_ne q 12 13 (by decide))).trans (e19))))))
    have fx66 : V60 (q + 12) = some (.inl (cs 1, 120, .inl (upd (g_tense) ((nI i : Int32).toNatClampNeg) (((g_tense) (nI (60 + i) : Int32).toNatClampNeg))))) := fx66
    have fx67 := (o62 (q + 13) (hq_ne q 13 18 (by decide))).trans ((o55 (q + 13) (hq_ne q 13 17 (by decide))).trans ((o48 (q + 13) (hq_ne q 13 16 (by decide))).trans ((o41 (q + 13) (hq_ne q 13 15 (by decide))).trans ((o34 (q + 13) (hq_ne q 13 14 (by decide))).trans (e26)))))
    have fx67 : V60 (q + 13) = some (.inl (cs 1, 120, .inl (upd (g_person) ((nI i : Int32).toNatClampNeg) (((g_person) (nI (60 + i) : Int32).toNatClampNeg))))) := fx67
    have fx68 := (o62 (q + 14) (hq_ne q 14 18 (by decide))).trans ((o55 (q + 14) (hq_ne q 14 17 (by decide))).trans ((o48 (q + 14) (hq_ne q 14 16 (by decide))).trans ((o41 (q + 14) (hq_ne q 14 15 (by decide))).trans (e33))))
    have fx68 : V60 (q + 14) = some (.inl (cs 1, 120, .inl (upd (g_firstSize) ((nI i : Int32).toNatClampNeg) (((g_firstSize) (nI (60 + i) : Int32).toNatClampNeg))))) := fx68
    have fx69 := (o62 (q + 15) (hq_ne q 15 18 (by decide))).trans ((o55 (q + 15) (hq_ne q 15 17 (by decide))).trans ((o48 (q + 15) (hq_ne q 15 16 (by decide))).trans (e40)))
    have fx69 : V60 (q + 15) = some (.inl (cs 1, 120, .inl (upd (g_secondSize) ((nI i : Int32).toNatClampNeg) (((g_secondSize) (nI (60 + i) : Int32).toNatClampNeg))))) := fx69
    have fx70 := (o62 (q + 16) (hq_ne q 16 18 (by decide))).trans ((o55 (q + 16) (hq_ne q 16 17 (by decide))).trans (e47))
    have fx70 : V60 (q + 16) = some (.inl (cs 1, 120, .inl (upd (g_helper) ((nI i : Int32).toNatClampNeg) (((g_helper) (nI (60 + i) : Int32).toNatClampNeg))))) := fx70
    have fx71 := (o62 (q + 17) (hq_ne q 17 18 (by decide))).trans (e54)
    have fx71 : V60 (q + 17) = some (.inl (cs 1, 120, .inl (upd (g_helperTense) ((nI i : Int32).toNatClampNeg) (((g_helperTense) (nI (60 + i) : Int32).toNatClampNeg))))) := fx71
    exact ih (i + 1) (by omega) _ _ _ ls _ _ _ _ _ _ _ _ _ hZ fx63 fx64 fx65 fx66 fx67 fx68 fx69 fx70 fx71 e61 (fun x h80 h81 h82 h83 h84 h85 h86 h87 h88 => ((o62 (x) h88).trans ((o55 (x) h87).trans ((o48 (x) h86).trans ((o41 (x) h85).trans ((o34 (x) h84).trans ((o27 (x) h83).trans ((o20 (x) h82).trans ((o13 (x) h81).trans (o6 (x) h80))))))))).trans (fr x h80 h81 h82 h83 h84 h85 h86 h87 h88)) (lv_sub hl [0, 1] rfl)

set_option maxHeartbeats 4000000 in
set_option maxRecDepth 100000 in
theorem c_X13_become0 (l : Launch) (D : va_G) (cs : Nat → ClassId) (B : Nat) (V : hp_V) (n : Nat) (a q : Nat) (haq : a < q) (i21 i22 i23 i24 i25 i26 i27 i30 i45 i47 i48 i53 i54 i55 i56 i57 i58 i61 i62 : Int32) (g_classes g_verbs g_lines g_verbSize g_classOf g_verbName g_first g_second g_kind g_whose g_tense g_person g_firstSize g_secondSize g_helper g_helperTense g_part : Nat → Int32) (f_a : V a = some (.inr (13, mo q (i21) (i22) (i23) (i24) (i25) (i26) (i27) (i30) (i45) (i47) (i48) (i53) (i54) (i55) (i56) (i57) (i58) (i61) (i62)))) (f_classes : V (q) = some (.inl (cs 1, 2, .inl (g_classes)))) (f_verbs : V (q + 1) = some (.inl (cs 1, 2, .inl (g_verbs)))) (f_lines : V (q + 2) = some (.inl (cs 1, 2, .inl (g_lines)))) (f_verbSize : V (q + 8) = some (.inl (cs 1, 60, .inl (g_verbSize)))) (f_classOf : V (q + 9) = some (.inl (cs 1, 60, .inl (g_classOf)))) (f_verbName : V (q + 4) = some (.inl (cs 0, 720, .inl (g_verbName)))) (f_first : V (q + 5) = some (.inl (cs 0, 960, .inl (g_first)))) (f_second : V (q + 6) = some (.inl (cs 0, 960, .inl (g_second)))) (f_kind : V (q + 10) = some (.inl (cs 1, 120, .inl (g_kind)))) (f_whose : V (q + 11) = some (.inl (cs 1, 120, .inl (g_whose)))) (f_tense : V (q + 12) = some (.inl (cs 1, 120, .inl (g_tense)))) (f_person : V (q + 13) = some (.inl (cs 1, 120, .inl (g_person)))) (f_firstSize : V (q + 14) = some (.inl (cs 1, 120, .inl (g_firstSize)))) (f_secondSize : V (q + 15) = some (.inl (cs 1, 120, .inl (g_secondSize)))) (f_helper : V (q + 16) = some (.inl (cs 1, 120, .inl (g_helper)))) (f_helperTense : V (q + 17) = some (.inl (cs 1, 120, .inl (g_helperTense)))) (f_part : V (q + 18) = some (.inl (cs 1, 120, .inl (g_part)))) : hp_M l yX13_become cX13_become 2 none ({ frames := 1, cells := 0, slots := 0, locals := 21 }) D cs B V n [.ref (a)] (hp_QV D cs B (fun V' n' => n' = n ∧ V' a = some (.inr (13, mo q (i21) (i22) (i23) (i24) (i25) (i26) (i27) (i30) (i45) (i47) (i48) (i53) (i54) (i55) (i56) (i57) (i58) (i61) (i62))) ∧ (∃ g : Nat → Int32, V' (q + 2) = some (.inl (cs 1, 2, .inl (g))) ∧ g 0 = g_lines 1) ∧ ∀ x, q + 19 ≤ x → V' x = V x)) 0 (0) := by
  refine hp_walk (R0 := RX13) (by decide) rfl ?_ (Nat.le_of_ble_eq_true rfl)
  intro p e s m below meth c ls hx hb hr hts hown hlocks hin hml hZ hl
  have hl : lv_has ls 2 [(0, .ref (a))] := hl
  refine lv_aload_n hx hb dX13_become_0 rfl (lv_at hl 0 rfl) ?_
  refine hp_get (v := .ref (q)) hx hb hts hown hZ f_a fl_X13_1 rfl dX13_become_1 ?_
  refine lv_iconst (v := 0) hx hb dX13_become_4 (by decide) ?_
  refine lv_aload_n hx hb dX13_become_5 rfl (lv_at hl 0 rfl) ?_
  refine hp_get (v := .ref (q)) hx hb hts hown hZ f_a fl_X13_1 rfl dX13_become_6 ?_
  refine lv_iconst (v := 1) hx hb dX13_become_9 (by decide) ?_
  refine hp_iald hx hb hZ f_classes (by unfold vp_in; decide) dX13_become_10 ?_
  refine hp_iast hx hb hZ f_classes (by unfold vp_in; decide) dX13_become_11 (fun V1 _ _ e2 o3 hZ => ?_)
  have e2 : V1 (q) = some (.inl (cs 1, 2, .inl (upd (g_classes) ((0 : Int32).toNatClampNeg) (((g_classes) (1 : Int32).toNatClampNeg))))) := e2
  refine lv_aload_n hx hb dX13_become_12 rfl (lv_at hl 0 rfl) ?_
  have fx4 := (o3 (a) (hq_lt haq 0)).trans (f_a)
  have fx4 : V1 (a) = some (.inr (13, mo q (i21) (i22) (i23) (i24) (i25) (i26) (i27) (i30) (i45) (i47) (i48) (i53) (i54) (i55) (i56) (i57) (i58) (i61) (i62))) := fx4
  refine hp_get (v := .ref (q + 1)) hx hb hts hown hZ fx4 fl_X13_7 rfl dX13_become_13 ?_
  refine lv_iconst (v := 0) hx hb dX13_become_16 (by decide) ?_
  refine lv_aload_n hx hb dX13_become_17 rfl (lv_at hl 0 rfl) ?_
  refine hp_get (v := .ref (q + 1)) hx hb hts hown hZ fx4 fl_X13_7 rfl dX13_become_18 ?_
  refine lv_iconst (v := 1) hx hb dX13_become_21 (by decide) ?_
  have fx5 := (o3 (q + 1) (hq_ne q 1 0 (by decide))).trans (f_verbs)
  have fx5 : V1 (q + 1) = some (.inl (cs 1, 2, .inl (g_verbs))) := fx5
  refine hp_iald hx hb hZ fx5 (by unfold vp_in; decide) dX13_become_22 ?_
  refine hp_iast hx hb hZ fx5 (by unfold vp_in; decide) dX13_become_23 (fun V6 _ _ e7 o8 hZ => ?_)
  have e7 : V6 (q + 1) = some (.inl (cs 1, 2, .inl (upd (g_verbs) ((0 : Int32).toNatClampNeg) (((g_verbs) (1 : Int32).toNatClampNeg))))) := e7
  refine lv_aload_n hx hb dX13_become_24 rfl (lv_at hl 0 rfl) ?_
  have fx9 := (o8 (a) (hq_lt haq 1)).trans (fx4)
  have fx9 : V6 (a) = some (.inr (13, mo q (i21) (i22) (i23) (i24) (i25) (i26) (i27) (i30) (i45) (i47) (i48) (i53) (i54) (i55) (i56) (i57) (i58) (i61) (i62))) := fx9
  refine hp_get (v := .ref (q + 2)) hx hb hts hown hZ fx9 fl_X13_10 rfl dX13_become_25 ?_
  refine lv_iconst (v := 0) hx hb dX13_become_28 (by decide) ?_
  refine lv_aload_n hx hb dX13_become_29 rfl (lv_at hl 0 rfl) ?_
  refine hp_get (v := .ref (q + 2)) hx hb hts hown hZ fx9 fl_X13_10 rfl dX13_become_30 ?_
  refine lv_iconst (v := 1) hx hb dX13_become_33 (by decide) ?_
  have fx10 := (o8 (q + 2) (hq_ne q 2 1 (by decide))).trans ((o3 (q + 2) (hq_ne q 2 0 (by decide))).trans (f_lines))
  have fx10 : V6 (q + 2) = some (.inl (cs 1, 2, .inl (g_lines))) := fx10
  refine hp_iald hx hb hZ fx10 (by unfold vp_in; decide) dX13_become_34 ?_
  refine hp_iast hx hb hZ fx10 (by unfold vp_in; decide) dX13_become_35 (fun V11 _ _ e12 o13 hZ => ?_)
  have e12 : V11 (q + 2) = some (.inl (cs 1, 2, .inl (upd (g_lines) ((0 : Int32).toNatClampNeg) (((g_lines) (1 : Int32).toNatClampNeg))))) := e12
  refine lv_iconst (v := 0) hx hb dX13_become_36 (by decide) ?_
  refine lv_istore_n (lv' := [(1, .int (0)), (0, .ref (a))]) hx hb dX13_become_37 rfl hl (by decide) rfl (fun ls hl => ?_)
  have fx14 := (o13 (a) (hq_lt haq 2)).trans (fx9)
  have fx14 : V11 (a) = some (.inr (13, mo q (i21) (i22) (i23) (i24) (i25) (i26) (i27) (i30) (i45) (i47) (i48) (i53) (i54) (i55) (i56) (i57) (i58) (i61) (i62))) := fx14
  have fx15 := (o13 (q + 8) (hq_ne q 8 2 (by decide))).trans ((o8 (q + 8) (hq_ne q 8 1 (by decide))).trans ((o3 (q + 8) (hq_ne q 8 0 (by decide))).trans (f_verbSize)))
  have fx15 : V11 (q + 8) = some (.inl (cs 1, 60, .inl (g_verbSize))) := fx15
  have fx16 := (o13 (q + 9) (hq_ne q 9 2 (by decide))).trans ((o8 (q + 9) (hq_ne q 9 1 (by decide))).trans ((o3 (q + 9) (hq_ne q 9 0 (by decide))).trans (f_classOf)))
  have fx16 : V11 (q + 9) = some (.inl (cs 1, 60, .inl (g_classOf))) := fx16
  refine lp_X13_b38 l D cs B hx hb hts hown hml a q n haq _ _ _ _ _ _ _ _ _ _ _ _ _ _ _ _ _ _ _ V11 ?_ 30 0 (by decide) _ _ _ ls _ _ hZ fx14 fx15 fx16 (fun _ _ _ => rfl) (by rw [nI_0]; exact lv_sub hl [0, 1] rfl)
  intro V17 _ _ ls g18 g19 hZ fx20 fx21 fx22 fr23 hl
  refine lv_iconst (v := 0) hx hb dX13_become_80 (by decide) ?_
  refine lv_istore_n (lv' := [(1, .int (0)), (0, .ref (a))]) hx hb dX13_become_81 rfl hl (by decide) rfl (fun ls hl => ?_)
  have fx24 := (fr23 (q + 4) (hq_ne q 4 8 (by decide)) (hq_ne q 4 9 (by decide))).trans ((o13 (q + 4) (hq_ne q 4 2 (by decide))).trans ((o8 (q + 4) (hq_ne q 4 1 (by decide))).trans ((o3 (q + 4) (hq_ne q 4 0 (by decide))).trans (f_verbName))))
  have fx24 : V17 (q + 4) = some (.inl (cs 0, 720, .inl (g_verbName))) := fx24
  refine lp_X13_b82 l D cs B hx hb hts hown hml a q n haq _ _ _ _ _ _ _ _ _ _ _ _ _ _ _ _ _ _ _ V17 ?_ 360 0 (by decide) _ _ _ ls _ hZ fx20 fx24 (fun _ _ => rfl) (by rw [nI_0]; exact lv_sub hl [0, 1] rfl)
  intro V25 _ _ ls g26 hZ fx27 fx28 fr29 hl
  refine lv_iconst (v := 0) hx hb dX13_become_111 (by decide) ?_
  refine lv_istore_n (lv' := [(1, .int (0)), (0, .ref (a))]) hx hb dX13_become_112 rfl hl (by decide) rfl (fun ls hl => ?_)
  have fx30 := (fr29 (q + 5) (hq_ne q 5 4 (by decide))).trans ((fr23 (q + 5) (hq_ne q 5 8 (by decide)) (hq_ne q 5 9 (by decide))).trans ((o13 (q + 5) (hq_ne q 5 2 (by decide))).trans ((o8 (q + 5) (hq_ne q 5 1 (by decide))).trans ((o3 (q + 5) (hq_ne q 5 0 (by decide))).trans (f_first)))))
  have fx30 : V25 (q + 5) = some (.inl (cs 0, 960, .inl (g_first))) := fx30
  have fx31 := (fr29 (q + 6) (hq_ne q 6 4 (by decide))).trans ((fr23 (q + 6) (hq_ne q 6 8 (by decide)) (hq_ne q 6 9 (by decide))).trans ((o13 (q + 6) (hq_ne q 6 2 (by decide))).trans ((o8 (q + 6) (hq_ne q 6 1 (by decide))).trans ((o3 (q + 6) (hq_ne q 6 0 (by decide))).trans (f_second)))))
  have fx31 : V25 (q + 6) = some (.inl (cs 0, 960, .inl (g_second))) := fx31
  refine lp_X13_b113 l D cs B hx hb hts hown hml a q n haq _ _ _ _ _ _ _ _ _ _ _ _ _ _ _ _ _ _ _ V25 ?_ 480 0 (by decide) _ _ _ ls _ _ hZ fx27 fx30 fx31 (fun _ _ _ => rfl) (by rw [nI_0]; exact lv_sub hl [0, 1] rfl)
  intro V32 _ _ ls g33 g34 hZ fx35 fx36 fx37 fr38 hl
  refine lv_iconst (v := 0) hx hb dX13_become_158 (by decide) ?_
  refine lv_istore_n (lv' := [(1, .int (0)), (0, .ref (a))]) hx hb dX13_become_159 rfl hl (by decide) rfl (fun ls hl => ?_)
  have fx39 := (fr38 (q + 10) (hq_ne q 10 5 (by decide)) (hq_ne q 10 6 (by decide))).trans ((fr29 (q + 10) (hq_ne q 10 4 (by decide))).trans ((fr23 (q + 10) (hq_ne q 10 8 (by decide)) (hq_ne q 10 9 (by decide))).trans ((o13 (q + 10) (hq_ne q 10 2 (by decide))).trans ((o8 (q + 10) (hq_ne q 10 1 (by decide))).trans ((o3 (q + 10) (hq_ne q 10 0 (by decide))).trans (f_kind))))))
  have fx39 : V32 (q + 10) = some (.inl (cs 1, 120, .inl (g_kind))) := fx39
  have fx40 := (fr38 (q + 11) (hq_ne q 11 5 (by decide)) (hq_ne q 11 6 (by decide))).trans ((fr29 (q + 11) (hq_ne q 11 4 (by decide))).trans ((fr23 (q + 11) (hq_ne q 11 8 (by decide)) (hq_ne q 11 9 (by decide))).trans ((o13 (q + 11) (hq_ne q 11 2 (by decide))).trans ((o8 (q + 11) (hq_ne q 11 1 (by decide))).trans ((o3 (q + 11) (hq_ne q 11 0 (by decide))).trans (f_whose))))))
  have fx40 : V32 (q + 11) = some (.inl (cs 1, 120, .inl (g_whose))) := fx40
  have fx41 := (fr38 (q + 12) (hq_ne q 12 5 (by decide)) (hq_ne q 12 6 (by decide))).trans ((fr29 (q + 12) (hq_ne q 12 4 (by decide))).trans ((fr23 (q + 12) (hq_ne q 12 8 (by decide)) (hq_ne q 12 9 (by decide))).trans ((o13 (q + 12) (hq_ne q 12 2 (by decide))).trans ((o8 (q + 12) (hq_ne q 12 1 (by decide))).trans ((o3 (q + 12) (hq_ne q 12 0 (by decide))).trans (f_tense))))))
  have fx41 : V32 (q + 12) = some (.inl (cs 1, 120, .inl (g_tense))) := fx41
  have fx42 := (fr38 (q + 13) (hq_ne q 13 5 (by decide)) (hq_ne q 13 6 (by decide))).trans ((fr29 (q + 13) (hq_ne q 13 4 (by decide))).trans ((fr23 (q + 13) (hq_ne q 13 8 (by decide)) (hq_ne q 13 9 (by decide))).trans ((o13 (q + 13) (hq_ne q 13 2 (by decide))).trans ((o8 (q + 13) (hq_ne q 13 1 (by decide))).trans ((o3 (q + 13) (hq_ne q 13 0 (by decide))).trans (f_person))))))
  have fx42 : V32 (q + 13) = some (.inl (cs 1, 120, .inl (g_person))) := fx42
  have fx43 := (fr38 (q + 14) (hq_ne q 14 5 (by decide)) (hq_ne q 14 6 (by decide))).trans ((fr29 (q + 14) (hq_ne q 14 4 (by decide))).trans ((fr23 (q + 14) (hq_ne q 14 8 (by decide)) (hq_ne q 14 9 (by decide))).trans ((o13 (q + 14) (hq_ne q 14 2 (by decide))).trans ((o8 (q + 14) (hq_ne q 14 1 (by decide))).trans ((o3 (q + 14) (hq_ne q 14 0 (by decide))).trans (f_firstSize))))))
  have fx43 : V32 (q + 14) = some (.inl (cs 1, 120, .inl (g_firstSize))) := fx43
  have fx44 := (fr38 (q + 15) (hq_ne q 15 5 (by decide)) (hq_ne q 15 6 (by decide))).trans ((fr29 (q + 15) (hq_ne q 15 4 (by decide))).trans ((fr23 (q + 15) (hq_ne q 15 8 (by decide)) (hq_ne q 15 9 (by decide))).trans ((o13 (q + 15) (hq_ne q 15 2 (by decide))).trans ((o8 (q + 15) (hq_ne q 15 1 (by decide))).trans ((o3 (q + 15) (hq_ne q 15 0 (by decide))).trans (f_secondSize))))))
  have fx44 : V32 (q + 15) = some (.inl (cs 1, 120, .inl (g_secondSize))) := fx44
  have fx45 := (fr38 (q + 16) (hq_ne q 16 5 (by decide)) (hq_ne q 16 6 (by decide))).trans ((fr29 (q + 16) (hq_ne q 16 4 (by decide))).trans ((fr23 (q + 16) (hq_ne q 16 8 (by decide)) (hq_ne q 16 9 (by decide))).trans ((o13 (q + 16) (hq_ne q 16 2 (by decide))).trans ((o8 (q + 16) (hq_ne q 16 1 (by decide))).trans ((o3 (q + 16) (hq_ne q 16 0 (by decide))).trans (f_helper))))))
  have fx45 : V32 (q + 16) = some (.inl (cs 1, 120, .inl (g_helper))) := fx45
  have fx46 := (fr38 (q + 17) (hq_ne q 17 5 (by decide)) (hq_ne q 17 6 (by decide))).trans ((fr29 (q + 17) (hq_ne q 17 4 (by decide))).trans ((fr23 (q + 17) (hq_ne q 17 8 (by decide)) (hq_ne q 17 9 (by decide))).trans ((o13 (q + 17) (hq_ne q 17 2 (by decide))).trans ((o8 (q + 17) (hq_ne q 17 1 (by decide))).trans ((o3 (q + 17) (hq_ne q 17 0 (by decide))).trans (f_helperTense))))))
  have fx46 : V32 (q + 17) = some (.inl (cs 1, 120, .inl (g_helperTense))) := fx46
  have fx47 := (fr38 (q + 18) (hq_ne q 18 5 (by decide)) (hq_ne q 18 6 (by decide))).trans ((fr29 (q + 18) (hq_ne q 18 4 (by decide))).trans ((fr23 (q + 18) (hq_ne q 18 8 (by decide)) (hq_ne q 18 9 (by decide))).trans ((o13 (q + 18) (hq_ne q 18 2 (by decide))).trans ((o8 (q + 18) (hq_ne q 18 1 (by decide))).trans ((o3 (q + 18) (hq_ne q 18 0 (by decide))).trans (f_part))))))
  have fx47 : V32 (q + 18) = some (.inl (cs 1, 120, .inl (g_part))) := fx47
  refine lp_X13_b160 l D cs B hx hb hts hown hml a q n haq _ _ _ _ _ _ _ _ _ _ _ _ _ _ _ _ _ _ _ V32 ?_ 60 0 (by decide) _ _ _ ls _ _ _ _ _ _ _ _ _ hZ fx35 fx39 fx40 fx41 fx42 fx43 fx44 fx45 fx46 fx47 (fun _ _ _ _ _ _ _ _ _ _ => rfl) (by rw [nI_0]; exact lv_sub hl [0, 1] rfl)
  intro V48 _ _ ls g49 g50 g51 g52 g53 g54 g55 g56 g57 hZ fx58 fx59 fx60 fx61 fx62 fx63 fx64 fx65 fx66 fx67 fr68 hl
  have fx69 := (fr68 (q + 2) (hq_ne q 2 10 (by decide)) (hq_ne q 2 11 (by decide)) (hq_ne q 2 12 (by decide)) (hq_ne q 2 13 (by decide)) (hq_ne q 2 14 (by decide)) (hq_ne q 2 15 (by decide)) (hq_ne q 2 16 (by decide)) (hq_ne q 2 17 (by decide)) (hq_ne q 2 18 (by decide))).trans ((fr38 (q + 2) (hq_ne q 2 5 (by decide)) (hq_ne q 2 6 (by decide))).trans ((fr29 (q + 2) (hq_ne q 2 4 (by decide))).trans ((fr23 (q + 2) (hq_ne q 2 8 (by decide)) (hq_ne q 2 9 (by decide))).trans (e12))))
  have fx69 : V48 (q + 2) = some (.inl (cs 1, 2, .inl (upd (g_lines) ((0 : Int32).toNatClampNeg) (((g_lines) (1 : Int32).toNatClampNeg))))) := fx69
  exact hp_vret hx hb hr hlocks hZ ⟨rfl, fx58, ⟨_, fx69, rfl⟩, fun x hx9 => (fr68 (x) (hq_ge hx9 10 (by decide)) (hq_ge hx9 11 (by decide)) (hq_ge hx9 12 (by decide)) (hq_ge hx9 13 (by decide)) (hq_ge hx9 14 (by decide)) (hq_ge hx9 15 (by decide)) (hq_ge hx9 16 (by decide)) (hq_ge hx9 17 (by decide)) (hq_ge hx9 18 (by decide))).trans ((fr38 (x) (hq_ge hx9 5 (by decide)) (hq_ge hx9 6 (by decide))).trans ((fr29 (x) (hq_ge hx9 4 (by decide))).trans ((fr23 (x) (hq_ge hx9 8 (by decide)) (hq_ge hx9 9 (by decide))).trans ((o13 (x) (hq_ge hx9 2 (by decide))).trans ((o8 (x) (hq_ge hx9 1 (by decide))).trans (o3 (x) (hq_ge hx9 0 (by decide))))))))⟩ dX13_become_307

set_option maxHeartbeats 4000000 in
set_option maxRecDepth 100000 in
theorem lp_X13_u2 (l : Launch) (D : va_G) (cs : Nat → ClassId) (B : Nat) {p : Program} {e : Env} {s : State} {m : MethodId} {args : Array Value} {below : List Frame} {meth : Method} {c : Code} {Q : State → Prop} (hx : p.tables.exec = Jvm.exec) (hb : c.code = cX13_countUses) (hts : ∀ w ∈ TBG, w.before args s = true) (hown : s.vm.findClass RX13 = some m.cls) (hml : c.maxLocals = 5) (a q n : Nat) (haq : a < q) (i21 i22 i23 i24 i25 i26 i27 i30 i45 i47 i48 i53 i54 i55 i56 i57 i58 i61 i62 : Int32) (VE : hp_V)
    (kk : ∀ (V : hp_V) (H : Heap) (locs : List Loc) (ls : Array Slot) (g : Nat → Int32), hp_Z D cs B s V H (n) locs → V (a) = some (.inr (13, mo q (i21) (i22) (i23) (i24) (i25) (i26) (i27) (i30) (i45) (i47) (i48) (i53) (i54) (i55) (i56) (i57) (i58) (i61) (i62))) → V (q + 41) = some (.inl (cs 1, 60, .inl (g))) → (∀ x, x ≠ q + 41 → V x = VE x) → lv_has ls 5 [(1, .int (nI 60)), (0, .ref (a))] → W p l e ({ frames := 1, cells := 0, slots := 0, locals := 21 }) s m args below meth c H locs (0) (0) Q (F0 m 21 ls [])) :
    ∀ (k i : Nat), i + k = 60 → ∀ (V : hp_V) (H : Heap) (locs : List Loc) (ls : Array Slot) (g : Nat → Int32), hp_Z D cs B s V H (n) locs → V (a) = some (.inr (13, mo q (i21) (i22) (i23) (i24) (i25) (i26) (i27) (i30) (i45) (i47) (i48) (i53) (i54) (i55) (i56) (i57) (i58) (i61) (i62))) → V (q + 41) = some (.inl (cs 1, 60, .inl (g))) → (∀ x, x ≠ q + 41 → V x = VE x) → lv_has ls 5 [(1, .int (nI i)), (0, .ref (a))] → W p l e ({ frames := 1, cells := 0, slots := 0, locals := 21 }) s m args below meth c H locs (0) (0) Q (F0 m 2 ls []) := by
  intro k
  induction k with
  | zero =>
    intro i hi V H locs ls g hZ f0 f1 fr hl
    obtain rfl : i = 60 := by omega
    refine lv_iload_n hx hb dX13_countUses_2 rfl (lv_at hl 0 rfl) ?_
    refine lv_bipush (v := 60) hx hb dX13_countUses_3 (by decide) ?_
    refine lv_icmp_ge (tgt := 21) hx hb dX13_countUses_5 (by decide) (fun c1 => ?_) (fun c1 => absurd ((by decide)) c1)
    exact kk V H locs ls _ hZ f0 f1 fr hl
  | succ k ih =>
    intro i hi V H locs ls g hZ f0 f1 fr hl
    have lt_f0 := hZ.lt f0
    have lt_f1 := hZ.lt f1
    refine lv_iload_n hx hb dX13_countUses_2 rfl (lv_at hl 0 rfl) ?_
    refine lv_bipush (v := 60) hx hb dX13_countUses_3 (by decide) ?_
    refine lv_icmp_ge (tgt := 21) hx hb dX13_countUses_5 (by decide) (fun c1 => absurd c1 (show ¬ nI 60 ≤ nI i from nI_ge (by omega) (by decide))) (fun c1 => ?_)
    refine lv_aload_n hx hb dX13_countUses_8 rfl (lv_at hl 1 rfl) ?_
    refine hp_get (v := .ref (q + 41)) hx hb hts hown hZ f0 fl_X13_274 rfl dX13_countUses_9 ?_
    refine lv_iload_n hx hb dX13_countUses_12 rfl (lv_at hl 0 rfl) ?_
    refine lv_iconst (v := 0) hx hb dX13_countUses_13 (by decide) ?_
    refine hp_iast hx hb hZ f1 (vp_in_nI (by omega) (by omega)) dX13_countUses_14 (fun V2 _ _ e3 o4 hZ => ?_)
    have e3 : V2 (q + 41) = some (.inl (cs 1, 60, .inl (upd (g) ((nI i : Int32).toNatClampNeg) (0)))) := e3
    refine lv_iinc (v := nI (i + 1)) (lv' := [(1, .int (nI (i + 1))), (0, .ref (a))]) hx hb dX13_countUses_15 hl (k := 0) rfl (by exact nI_1 i) (by decide) rfl (fun ls hl => ?_)
    refine lv_goto (tgt := 2) hx hb dX13_countUses_18 (by decide) ?_
    have fx5 := (o4 (a) (by omega)).trans (f0)
    have fx5 : V2 (a) = some (.inr (13, mo q (i21) (i22) (i23) (i24) (i25) (i26) (i27) (i30) (i45) (i47) (i48) (i53) (i54) (i55) (i56) (i57) (i58) (i61) (i62))) := fx5
    exact ih (i + 1) (by omega) _ _ _ ls _ hZ fx5 e3 (fun x h80 => (o4 (x) h80).trans (fr x h80)) (lv_sub hl [0, 1] rfl)

set_option maxHeartbeats 4000000 in
set_option maxRecDepth 100000 in
theorem c_X13_countUses0 (l : Launch) (D : va_G) (cs : Nat → ClassId) (B : Nat) (V : hp_V) (n : Nat) (a q : Nat) (haq : a < q) (i21 i22 i23 i24 i25 i26 i27 i30 i45 i47 i48 i53 i54 i55 i56 i57 i58 i61 i62 : Int32) (f0 : V a = some (.inr (13, mo q (i21) (i22) (i23) (i24) (i25) (i26) (i27) (i30) (i45) (i47) (i48) (i53) (i54) (i55) (i56) (i57) (i58) (i61) (i62)))) (f1 : V (q + 41) = some (.inl (cs 1, 60, .inl (fun _ => 0)))) (f2 : V (q + 1) = some (.inl (cs 1, 2, .inl (fun _ => 0)))) (f3 : V (q + 2) = some (.inl (cs 1, 2, .inl (fun _ => 0)))) : hp_M l yX13_countUses cX13_countUses 5 none ({ frames := 1, cells := 0, slots := 0, locals := 21 }) D cs B V n [.ref (a)] (hp_QV D cs B (fun V' n' => n' = n ∧ V' a = some (.inr (13, mo q (i21) (i22) (i23) (i24) (i25) (i26) (i27) (i30) (i45) (i47) (i48) (i53) (i54) (i55) (i56) (i57) (i58) (i61) (i62))) ∧ V' (q + 2) = some (.inl (cs 1, 2, .inl (fun _ => 0))))) 0 (0) := by
  refine hp_walk (R0 := RX13) (by decide) rfl ?_ (Nat.le_of_ble_eq_true rfl)
  intro p e s m below meth c ls hx hb hr hts hown hlocks hin hml hZ hl
  have hl : lv_has ls 5 [(0, .ref (a))] := hl
  refine lv_iconst (v := 0) hx hb dX13_countUses_0 (by decide) ?_
  refine lv_istore_n (lv' := [(1, .int (0)), (0, .ref (a))]) hx hb dX13_countUses_1 rfl hl (by decide) rfl (fun ls hl => ?_)
  refine lp_X13_u2 l D cs B hx hb hts hown hml a q n haq _ _ _ _ _ _ _ _ _ _ _ _ _ _ _ _ _ _ _ V ?_ 60 0 (by decide) _ _ _ ls _ hZ f0 f1 (fun _ _ => rfl) (by rw [nI_0]; exact lv_sub hl [0, 1] rfl)
  intro V1 _ _ ls g2 hZ fx3 fx4 fr5 hl
  refine lv_iconst (v := 0) hx hb dX13_countUses_21 (by decide) ?_
  refine lv_istore_n (lv' := [(1, .int (0)), (0, .ref (a))]) hx hb dX13_countUses_22 rfl hl (by decide) rfl (fun ls hl => ?_)
  refine lv_iload_n hx hb dX13_countUses_23 rfl (lv_at hl 0 rfl) ?_
  refine lv_aload_n hx hb dX13_countUses_24 rfl (lv_at hl 1 rfl) ?_
  refine hp_get (v := .ref (q + 1)) hx hb hts hown hZ fx3 fl_X13_7 rfl dX13_countUses_25 ?_
  refine lv_iconst (v := 0) hx hb dX13_countUses_28 (by decide) ?_
  have fx6 := (fr5 (q + 1) (hq_ne q 1 41 (by decide))).trans (f2)
  have fx6 : V1 (q + 1) = some (.inl (cs 1, 2, .inl (fun _ => 0))) := fx6
  refine hp_iald hx hb hZ fx6 (by unfold vp_in; decide) dX13_countUses_29 ?_
  refine W.eq (g2 := F0 m 30 ls [.int (0), .int (0)]) rfl ?_
  refine lv_icmp_ge (tgt := 117) hx hb dX13_countUses_30 (by decide) (fun c7 => ?_) (fun c7 => absurd (by decide) c7)
  have fx8 := (fr5 (q + 2) (hq_ne q 2 41 (by decide))).trans (f3)
  have fx8 : V1 (q + 2) = some (.inl (cs 1, 2, .inl (fun _ => 0))) := fx8
  exact hp_vret hx hb hr hlocks hZ ⟨rfl, fx3, fx8⟩ dX13_countUses_117

set_option maxHeartbeats 4000000 in
set_option maxRecDepth 100000 in
theorem c_X13_ask0 (l : Launch) (D : va_G) (cs : Nat → ClassId) (B : Nat) (V : hp_V) (n : Nat) (a q : Nat) (i22 i23 i24 i25 i26 i27 i30 i45 i47 i48 i53 i54 i55 i56 i57 i58 i61 i62 : Int32) (f0 : V a = some (.inr (13, mo q (0) (i22) (i23) (i24) (i25) (i26) (i27) (i30) (i45) (i47) (i48) (i53) (i54) (i55) (i56) (i57) (i58) (i61) (i62)))) : hp_M l yX13_ask cX13_ask 2 none ({ frames := 1, cells := 0, slots := 0, locals := 21 }) D cs B V n [.ref (a)] (hp_QV D cs B (fun V' n' => n' = n ∧ V' a = some (.inr (13, mo q (0) (i22) (i23) (i24) (i25) (i26) (i27) (i30) (i45) (0) (i48) (i53) (i54) (i55) (i56) (i57) (i58) (i61) (i62))) ∧ ∀ x, x ≠ a → V' x = V x)) 0 (0) := by
  refine hp_walk (R0 := RX13) (by decide) rfl ?_ (Nat.le_of_ble_eq_true rfl)
  intro p e s m below meth c ls hx hb hr hts hown hlocks hin hml hZ hl
  have hl : lv_has ls 2 [(0, .ref (a))] := hl
  refine lv_aload_n hx hb dX13_ask_0 rfl (lv_at hl 0 rfl) ?_
  refine lv_aload_n hx hb dX13_ask_1 rfl (lv_at hl 0 rfl) ?_
  refine hp_get (v := .int (0)) hx hb hts hown hZ f0 fl_X13_295 rfl dX13_ask_2 ?_
  refine hp_put hx hb hts hown hZ f0 fp_X13_389 rfl rfl (Nat.le_of_ble_eq_true rfl) dX13_ask_5 (fun V1 _ _ e2 o3 hZ => ?_)
  have e2 : V1 (a) = some (.inr (13, mo q (0) (i22) (i23) (i24) (i25) (i26) (i27) (i30) (i45) (0) (i48) (i53) (i54) (i55) (i56) (i57) (i58) (i61) (i62))) := e2
  refine lv_aload_n hx hb dX13_ask_8 rfl (lv_at hl 0 rfl) ?_
  refine lv_iconst (v := 0) hx hb dX13_ask_9 (by decide) ?_
  refine hp_put hx hb hts hown hZ e2 fp_X13_295 rfl rfl (Nat.le_of_ble_eq_true rfl) dX13_ask_10 (fun V4 _ _ e5 o6 hZ => ?_)
  have e5 : V4 (a) = some (.inr (13, mo q (0) (i22) (i23) (i24) (i25) (i26) (i27) (i30) (i45) (0) (i48) (i53) (i54) (i55) (i56) (i57) (i58) (i61) (i62))) := e5
  refine lv_iconst (v := 0) hx hb dX13_ask_13 (by decide) ?_
  refine lv_istore_n (lv' := [(1, .int (0)), (0, .ref (a))]) hx hb dX13_ask_14 rfl hl (by decide) rfl (fun ls hl => ?_)
  refine lv_iload_n hx hb dX13_ask_15 rfl (lv_at hl 0 rfl) ?_
  refine lv_aload_n hx hb dX13_ask_16 rfl (lv_at hl 1 rfl) ?_
  refine hp_get (v := .int (0)) hx hb hts hown hZ e5 fl_X13_389 rfl dX13_ask_17 ?_
  refine lv_icmp_ge (tgt := 41) hx hb dX13_ask_20 (by decide) (fun c7 => ?_) (fun c7 => absurd (by decide) c7)
  exact hp_vret hx hb hr hlocks hZ ⟨rfl, e5, fun x hx9 => (o6 x hx9).trans (o3 x hx9)⟩ dX13_ask_41

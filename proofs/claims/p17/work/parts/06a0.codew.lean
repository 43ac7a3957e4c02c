theorem hq_w0 {k : Int32} : (0 : Int64) ≤ k.toInt64 ↔ 0 ≤ k := by
  rw [Int64.le_iff_toInt_le, Int32.le_iff_toInt_le, Int32.toInt_toInt64]; rfl
theorem hq_w7 {k : Int32} : k.toInt64 ≤ (7 : Int64) ↔ k < 8 := by
  rw [Int64.le_iff_toInt_le, Int32.lt_iff_toInt_lt, Int32.toInt_toInt64]
  show k.toInt ≤ 7 ↔ k.toInt < 8
  omega
theorem hq_w00 {k : Int32} (h1 : (0 : Int64) ≤ k.toInt64) (h2 : k.toInt64 ≤ (0 : Int32).toInt64) : k = 0 := by
  rw [Int64.le_iff_toInt_le, Int32.toInt_toInt64] at h1
  rw [Int64.le_iff_toInt_le, Int32.toInt_toInt64, Int32.toInt_toInt64] at h2
  have g1 : (0 : Int) ≤ k.toInt := h1
  have g2 : k.toInt ≤ 0 := h2
  exact Int32.toInt_inj.mp (by show k.toInt = 0; omega)
/-- a method with an exception table, on roads where none of it is taken -/
abbrev hp_kww (y : MethodName) (b : ByteArray) (mL : Nat) (rt : Option FieldType) (hh : List (Nat × Nat × Nat × Nat)) : List Cond := Cond.codeWith y b mL rt hh :: TBG
abbrev hp_MW (l : Launch) (y : MethodName) (b : ByteArray) (mL : Nat) (rt : Option FieldType) (hh : List (Nat × Nat × Nat × Nat)) (rm : Room) (D : va_G) (cs : Nat → ClassId) (B : Nat) (V : hp_V) (n : Nat) (As : List Value) (Qc : Array Value → State → Outcome → State → Prop) (mc ms : Nat) : Prop := Met l y (hp_kww y b mL rt hh) rm (va_Pc As (hp_Pre D cs B V n)) Qc mc ms (hp_F B)
section HPW
variable {l : Launch} {y : MethodName} {b : ByteArray} {mL mc ms : Nat} {rt : Option FieldType} {rm : Room} {D : va_G} {cs : Nat → ClassId} {B n : Nat} {V : hp_V} {As : List Value} {hh : List (Nat × Nat × Nat × Nat)}
theorem hp_walkW {Qc : Array Value → State → Outcome → State → Prop} {R0 : String} (hy : plainName y.cls = true) (hcls : y.cls = R0)
    (body : ∀ (p : Program) (e : Env) (s : State) (m : MethodId) (below : List Frame) (meth : Method) (c : Code) (ls : Array Slot), p.tables.exec = Jvm.exec → c.code = b → meth.sig.returnType = rt → (∀ w ∈ TBG, w.before As.toArray s = true) → s.vm.findClass R0 = some m.cls → meth.locks = false → meth.name = y.name → c.maxLocals = mL → c.exceptionTable.toList.map (fun h => (h.startPc, h.endPc, h.handlerPc, h.catchType)) = hh → hp_Z D cs B s V s.heap n [] → lv_has ls mL (lv_args 0 As) →
      W p l e rm s m As.toArray below meth c s.heap [] 0 0 (MQ below Qc As.toArray s mc ms (hp_F B)) (F0 m 0 ls [])) (hlen : (lg_sl As).length ≤ mL) : hp_MW l y b mL rt hh rm D cs B V n As Qc mc ms := by
  refine va_MetW (cc := b) (maxL := mL) (ret := rt) (hh := hh) hy rfl ?_
  intro p e s m args below meth c s₁ Bd hml hv
  obtain ⟨rfl, hpre⟩ := hv
  have hts := atoms_spec (ws := hp_kww y b mL rt hh) Bd.pre
  have hl := lv_entry As (n := mL) hlen
  rw [lg_entry_eq]
  have hnm : meth.name = y.name := (name_of_methodNamed Bd.named Bd.method).1
  have htab : c.exceptionTable.toList.map (fun h => (h.startPc, h.endPc, h.handlerPc, h.catchType)) = hh := by
    obtain ⟨m', meth', c', g0, g1, g2, -, -, g7, -⟩ := Cond.codeWith_spec (hts _ List.mem_cons_self)
    cases g0.symm.trans Bd.named
    cases g1.symm.trans Bd.method
    cases g2.symm.trans (Stand.of_body Bd).code
    exact g7
  subst hcls
  exact body p e s m below meth c _ Bd.exec Bd.bytes Bd.returns (fun w h => hts w (List.mem_cons_of_mem _ h)) (findClass_of_methodNamed Bd.named) Bd.notSynchronized hnm hml htab (hp_Z.start hpre) hl
end HPW
section HPX
variable {p : Program} {l : Launch} {e : Env} {R : Room} {s : State} {m : MethodId} {args : Array Value} {below : List Frame} {meth : Method} {c : Code} {H : Heap} {locs : List Loc} {cells slots : Nat} {Q : State → Prop}
variable {cc : ByteArray} {pc : Nat} {ls : Array Slot} {rest : List Value} {D : va_G} {cs : Nat → ClassId} {B n : Nat} {V : hp_V} {own : String}
variable {y : MethodName} {b : ByteArray} {mL nL mc ms index np : Nat} {rt : Option FieldType} {rm : Room} {As st0 : List Value} {hh : List (Nat × Nat × Nat × Nat)}
theorem hp_goodW (h : Cond.codeWith y b mL rt hh ∈ TBG) : GoodIn TBG (hp_kww y b mL rt hh) := by
  intro w hw
  have hw' : w ∈ TBG := by
    rcases List.mem_cons.mp hw with e | e
    · rw [e]; exact h
    · exact e
  exact ⟨hw', good_of_word (List.mem_filter.mp hw').2⟩
def hp_CVW (own : String) (index ci : Nat) (y : MethodName) (b : ByteArray) (mL : Nat) (rt : Option FieldType) (hh : List (Nat × Nat × Nat × Nat)) (np : Nat) : Prop := (∃ T N, vwCl[ci]? = some (y.cls, T, N)) ∧ Cond.methodLink own index y ∈ TBG ∧ Cond.instanceMethod y ∈ TBG ∧ Cond.selects y.cls y y ∈ TBG ∧ Cond.initialized y.cls ∈ TBG ∧ Cond.codeWith y b mL rt hh ∈ TBG ∧ y.cls ≠ "java/lang/invoke/MethodHandle" ∧ y.cls ≠ "java/lang/invoke/VarHandle" ∧ ∃ sg, parseMethodDescriptor y.desc = some sg ∧ sg.parameters.length = np
theorem hp_runVW {Qc : Array Value → State → Outcome → State → Prop} {ci : Nat} {fs : List Value} {o : Nat} (hx : p.tables.exec = Jvm.exec) (hb : c.code = cc) (hml : c.maxLocals = nL) (hown : s.vm.findClass own = some m.cls) (hts : ∀ w ∈ TBG, w.before args s = true) (hM : hp_MW l y b mL rt hh rm D cs B V n (.ref o :: As) Qc mc ms) (hZ : hp_Z D cs B s V H n locs) (ho : V o = some (.inr (ci, fs))) (hc : hp_CVW own index ci y b mL rt hh np) (hmc : rm.cells = mc) (hms : rm.slots = ms) (hR : rm.frames + 1 ≤ R.frames ∧ 8 + (mL + 11) + rm.locals ≤ R.locals) (hn : As.length = np) (hl : ls.size = nL) (hst : st0 = As.reverse ++ .ref o :: rest) (hW : (rest.map fun v => v.category).sum ≤ 8) (hdg : decode cc pc = .ok (.invokevirtual index, 3)) (hf : cells + mc ≤ R.cells ∧ slots + ms ≤ R.slots) :
    va_Run p l e R s m args below meth c H locs cells slots mc ms (F0 m pc ls st0) rest (Qc (Value.ref o :: As).toArray) (hp_F B) := by
  obtain ⟨⟨T, N, c1⟩, c2, c3, c4, c5, c6, c7, c8, sg, c9, c10⟩ := hc
  have hK : Back l R p e below s args y 3 8 (PreOf R mc ms (va_Pc (.ref o :: As) (hp_Pre D cs B V n))) (PostOf Qc mc ms (hp_F B)) := va_backW (hh := hh) (bytes := b) (maxL := mL) (ret := rt) hM hp_blind hmc hms hR.1 hR.2 (pay_in hts (hp_goodW c6)) List.mem_cons_self (fun a' U hW => word_at hW (Or.inl (by first | rfl | simp [Cond.onTables, Cond.keeps, Cond.steady])) (hts _ c5))
  obtain ⟨cellB, hcB, hoB, hclB⟩ := va_recv hZ.2.2.1.1 (hZ.1.one ho) (q0 := 0) c1 rfl
  obtain ⟨mk, methM, hnamed, hmethM, hstM, habM⟩ := Cond.instanceMethod_spec (hts _ c3)
  obtain ⟨c2', r2, m2, q1, q2, q3, q4, kP, hkP, hkPi⟩ := Cond.selects_spec (hts _ c4)
  cases hclB.symm.trans q1
  cases (State.methodFound?_of_named hnamed ⟨c7, c8⟩).symm.trans q2
  cases hnamed.symm.trans q3
  obtain ⟨m9, meth9, c9', hn9, h91, -, -, -, -, -, -, hsig⟩ := Cond.codeWith_spec (hts _ c6)
  cases hnamed.symm.trans hn9
  cases hmethM.symm.trans h91
  intro T0 hT X
  have hselP : selectMethod e.platform s.vm cellB.cls mk = .method mk := by rw [Launch.admits_selectMethod X.admits]; exact q4
  have hlen : As.length = methM.sig.parameters.length := by
    have := Option.some.inj (c9.symm.trans hsig)
    rw [hn, ← c10, this]
  obtain ⟨vm₁, X₁, hstep₁⟩ := X.invokevirtual hx hown (hts _ c2) hnamed hmethM hstM hkP hkPi ⟨c7, c8⟩ (a := o) (cell := cellB) (by rw [hT]; exact hcB)
    (fun z h => by rw [h] at hoB; cases hoB) hselP hmethM habM hkP hkPi (g := F0 m pc ls st0) rfl (argsL := As) (rest := rest) hlen hst (by rw [hb]; exact hdg)
  obtain ⟨v, ⟨U', l2, c2'', s2⟩, X', ⟨g', mk', t, L, e1, e2, hq, h1, hL, h2, h3⟩, hsteps⟩ := hK m meth c ⟨T0.setVm vm₁, locs, cells, slots⟩ { F0 m pc ls st0 with stack := rest } (.invokevirtual index) mk (Value.ref o :: As).toArray X₁ rfl (hl.trans hml.symm) (by rw [hb]; exact hdg) (lv_room hW) (X₁.named hnamed) ⟨hf.1, hf.2, ⟨rfl, hZ.pre hT X₁.warmed⟩⟩
  dsimp only [Pt.U, Pt.locs, Pt.cells, Pt.slots] at X' e1 e2 h1 h2 h3 hsteps
  subst h1; subst h2; subst h3
  exact ⟨v, (T0.setVm vm₁).calling g' mk' (Value.ref o :: As).toArray, t, U', L, hT, X', hL, e1, e2, hq, fun target h => hstep₁ _ fun acts => by rw [doInvoke_state]; exact hsteps.trans h⟩
end HPX

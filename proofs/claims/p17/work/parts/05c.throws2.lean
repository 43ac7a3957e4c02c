/-! ===== two ways out: a picture for each ===== -/
def hq_QX (D : va_G) (cs : Nat → ClassId) (B : Nat) (pr : Option Value → hp_V → Nat → Prop) (pt : Nat → hp_V → Nat → Prop) : Array Value → State → Outcome → State → Prop := fun _ s o t =>
  ((∃ v V n, o = .returned v ∧ pr v V n ∧ hp_Pre D cs B V n t) ∨ (∃ x V n, o = .threw x ∧ pt x V n ∧ hp_Pre D cs B V n t)) ∧ va_F (hp_F B) s t
abbrev hq_M (l : Launch) (y : MethodName) (b : ByteArray) (mL : Nat) (rt : Option FieldType) (rm : Room) (D : va_G) (cs : Nat → ClassId) (B : Nat) (V : hp_V) (n : Nat) (As : List Value) (Qc : Array Value → State → Outcome → State → Prop) (mc ms : Nat) : Prop := hq_Met l y (hp_kw y b mL rt) rm (va_Pc As (hp_Pre D cs B V n)) Qc mc ms (hp_F B)
def hq_Run (p : Program) (l : Launch) (e : Env) (R : Room) (s : State) (m : MethodId) (args : Array Value) (below : List Frame) (meth : Method) (c : Code) (H : Heap) (locs : List Loc) (cells slots mc ms : Nat) (g : JFrame) (rest : List Value) (Qa : State → Outcome → State → Prop) (free : Addr → Prop) : Prop :=
  ∀ T : State, T.heap = H → Stand p l e R s m args below meth c T locs cells slots → ∃ (st₀ t T' : State) (L : List Loc), st₀.heap = H ∧ Stand p l e R s m args below meth c T' (locs ++ L) (cells + mc) (slots + ms) ∧ (∀ q ∈ L, free q.base) ∧ T'.heap = t.heap ∧ T'.vm = t.vm ∧
    ((∃ v, Qa st₀ (.returned v) t ∧ ∀ tg, Steps p.tables e below (T'.setTop { g with pc := g.pc + 3, stack := v.toList ++ rest }) tg → Steps p.tables e below (T.setTop g) tg) ∨
     (∃ x, Qa st₀ (.threw x) t ∧ ∀ tg, Steps p.tables e below ((T'.setTop { g with stack := rest }).pushFrame (.throwing x)) tg → Steps p.tables e below (T.setTop g) tg))
section HQC
variable {p : Program} {l : Launch} {e : Env} {R : Room} {s : State} {m : MethodId} {args : Array Value} {below : List Frame} {meth : Method} {c : Code} {H : Heap} {locs : List Loc} {cells slots : Nat} {Q : State → Prop}
variable {cc : ByteArray} {pc : Nat} {ls : Array Slot} {rest : List Value} {D : va_G} {cs : Nat → ClassId} {B n : Nat} {V : hp_V} {own : String}
variable {y : MethodName} {b : ByteArray} {mL nL mc ms index np : Nat} {rt : Option FieldType} {rm : Room} {As st0 : List Value} {aa : Array Value}
variable {pr pr' : Option Value → hp_V → Nat → Prop} {pt pt' : Nat → hp_V → Nat → Prop}
theorem hq_mono {Q1 Q2 : State → Prop} {g : JFrame} (h : W p l e R s m args below meth c H locs cells slots Q1 g) (hq : ∀ t, Q1 t → Q2 t) : W p l e R s m args below meth c H locs cells slots Q2 g := by
  intro T hT X
  obtain ⟨t, a1, b1⟩ := h T hT X
  exact ⟨t, a1, hq t b1⟩
theorem hq_vret (hx : p.tables.exec = Jvm.exec) (hb : c.code = cc) (hr : meth.sig.returnType = none) (hlocks : meth.locks = false) (hZ : hp_Z D cs B s V H n locs) (hp : pr none V n) (hdg : decode cc pc = .ok (.return_, 1)) : W p l e R s m args below meth c H locs cells slots (hq_MQ below (hq_QX D cs B pr pt) args s cells slots (hp_F B)) (F0 m pc ls []) :=
  hq_mono (W.vret (Qc := hq_QX D cs B pr pt) hx hb hr (fun t ht hW => ⟨Or.inl ⟨none, V, n, rfl, hp, hZ.pre ht hW⟩, hZ.2.1.F ht⟩) hZ.2.1.2.2 hdg hlocks) fun _ h => hq_MQ.of h
theorem hq_iret {v : Int32} (hx : p.tables.exec = Jvm.exec) (hb : c.code = cc) (hr : meth.sig.returnType = some .int) (hlocks : meth.locks = false) (hZ : hp_Z D cs B s V H n locs) (hp : pr (some (.int v)) V n) (hdg : decode cc pc = .ok (.ireturn, 1)) : W p l e R s m args below meth c H locs cells slots (hq_MQ below (hq_QX D cs B pr pt) args s cells slots (hp_F B)) (F0 m pc ls [.int v]) :=
  hq_mono (W.iret (Qc := hq_QX D cs B pr pt) (v := v) hx hb hr (fun t ht hW => ⟨Or.inl ⟨_, V, n, rfl, hp, hZ.pre ht hW⟩, hZ.2.1.F ht⟩) hZ.2.1.2.2 hdg hlocks) fun _ h => hq_MQ.of h
theorem hq_athrow {x : Nat} (hx : p.tables.exec = Jvm.exec) (hb : c.code = cc) (hnx : c.exceptionTable.isEmpty = true) (hlocks : meth.locks = false) (hZ : hp_Z D cs B s V H n locs) (hp : pt x V n) (hdg : decode cc pc = .ok (.athrow, 1)) : W p l e R s m args below meth c H locs cells slots (hq_MQ below (hq_QX D cs B pr pt) args s cells slots (hp_F B)) (F0 m pc ls (.ref x :: rest)) := by
  intro T hT X
  obtain ⟨h1, h2, h3, h4, h5⟩ := X.athrowLeaves hx (g := F0 m pc ls (.ref x :: rest)) rfl rfl rfl (covers_of_empty hnx _) (a := x) (rest := rest) rfl (by rw [hb]; exact hdg) hlocks
  have hh : (T.setFrames (.throwing x :: below)).heap = H := hT
  exact ⟨_, h1, .threw x, h2, h3, ⟨Or.inr ⟨x, V, n, rfl, hp, hZ.pre hh h4⟩, hZ.2.1.F hh⟩, locs, ⟨Or.inr ⟨x, rfl⟩, h4, h5⟩, hZ.2.1.2.2⟩
theorem hq_runV {Qc : Array Value → State → Outcome → State → Prop} {ci : Nat} {fs : List Value} {o : Nat} (hx : p.tables.exec = Jvm.exec) (hb : c.code = cc) (hml : c.maxLocals = nL) (hown : s.vm.findClass own = some m.cls) (hts : ∀ w ∈ TBG, w.before args s = true) (hM : hq_M l y b mL rt rm D cs B V n (.ref o :: As) Qc mc ms) (hZ : hp_Z D cs B s V H n locs) (ho : V o = some (.inr (ci, fs))) (hc : hp_CV own index ci y b mL rt np) (hmc : rm.cells = mc) (hms : rm.slots = ms) (hR : rm.frames + 1 ≤ R.frames ∧ 8 + (mL + 11) + rm.locals ≤ R.locals) (hn : As.length = np) (hl : ls.size = nL) (hst : st0 = As.reverse ++ .ref o :: rest) (hW : (rest.map fun v => v.category).sum ≤ 8) (hdg : decode cc pc = .ok (.invokevirtual index, 3)) (hf : cells + mc ≤ R.cells ∧ slots + ms ≤ R.slots) :
    hq_Run p l e R s m args below meth c H locs cells slots mc ms (F0 m pc ls st0) rest (Qc (Value.ref o :: As).toArray) (hp_F B) := by
  obtain ⟨⟨T, N, c1⟩, c2, c3, c4, c5, c6, c7, c8, c9⟩ := hc
  obtain ⟨cellB, hcB, hoB, hclB⟩ := va_recv hZ.2.2.1.1 (hZ.1.one ho) (q0 := 0) c1 rfl
  obtain ⟨mk, methM, hnamed, hmethM, hstM, habM⟩ := Cond.instanceMethod_spec (hts _ c3)
  obtain ⟨c2', r2, m2, q1, q2, q3, q4, kP, hkP, hkPi⟩ := Cond.selects_spec (hts _ c4)
  cases hclB.symm.trans q1
  cases (State.methodFound?_of_named hnamed ⟨c7, c8⟩).symm.trans q2
  cases hnamed.symm.trans q3
  obtain ⟨meth9, c9', h91, -, -, -, -, -, -, hsig⟩ := Cond.code_spec hnamed (hts _ c6)
  cases hmethM.symm.trans h91
  intro T0 hT X
  have hselP : selectMethod e.platform s.vm cellB.cls mk = .method mk := by rw [Launch.admits_selectMethod X.admits]; exact q4
  have hlen : As.length = methM.sig.parameters.length := by
    rw [hsig] at c9
    rw [hn]
    exact (Option.some.inj c9).symm
  obtain ⟨vm₁, X₁, hstep₁⟩ := X.invokevirtual hx hown (hts _ c2) hnamed hmethM hstM hkP hkPi ⟨c7, c8⟩ (a := o) (cell := cellB) (by rw [hT]; exact hcB)
    (fun z h => by rw [h] at hoB; cases hoB) hselP hmethM habM hkP hkPi (g := F0 m pc ls st0) rfl (argsL := As) (rest := rest) hlen hst (by rw [hb]; exact hdg)
  obtain ⟨t, T', L, X', e1, e2, hL, hout⟩ := hq_back (W := 8) (len := 3) hM hp_blind hmc hms hR.1 hR.2 (pay_in hts (hp_good0 c6)) List.mem_cons_self (fun a' U hW => word_at hW (Or.inl (by first | rfl | simp [Cond.onTables, Cond.keeps, Cond.steady])) (hts _ c5)) (g := { F0 m pc ls st0 with stack := rest }) (ig := .invokevirtual index) (mk := mk) (a := (Value.ref o :: As).toArray) X₁ rfl (hl.trans hml.symm) (by rw [hb]; exact hdg) (lv_room hW) (X₁.named hnamed) hf.1 hf.2 ⟨rfl, hZ.pre hT X₁.warmed⟩
  refine ⟨(T0.setVm vm₁).calling { F0 m pc ls st0 with stack := rest } mk (Value.ref o :: As).toArray, t, T', L, hT, X', hL, e1, e2, ?_⟩
  rcases hout with ⟨v, hq, hs⟩ | ⟨x, hq, hs⟩
  · exact Or.inl ⟨v, hq, fun tg h => hstep₁ _ fun acts => by rw [doInvoke_state]; exact hs.trans h⟩
  · exact Or.inr ⟨x, hq, fun tg h => hstep₁ _ fun acts => by rw [doInvoke_state]; exact hs.trans h⟩
/-- the call of a method that may throw, where nothing here catches it -/
theorem hq_callx (hr : hq_Run p l e R s m args below meth c H locs cells slots mc ms (F0 m pc ls st0) rest (hq_QX D cs B pr pt aa) (hp_F B)) (hZ : hp_Z D cs B s V H n locs) (hnx : c.exceptionTable.isEmpty = true) (hlocks : meth.locks = false) (kt : ∀ x V1 n1, pt x V1 n1 → pt' x V1 n1)
    (kk : ∀ (v : Option Value) (V1 : hp_V) (n1 : Nat) (H1 : Heap) (locs1 : List Loc), pr v V1 n1 → hp_Z D cs B s V1 H1 n1 locs1 → W p l e R s m args below meth c H1 locs1 (cells + mc) (slots + ms) (hq_MQ below (hq_QX D cs B pr' pt') args s (cells + mc) (slots + ms) (hp_F B)) (F0 m (pc + 3) ls (v.toList ++ rest))) : W p l e R s m args below meth c H locs cells slots (hq_MQ below (hq_QX D cs B pr' pt') args s (cells + mc) (slots + ms) (hp_F B)) (F0 m pc ls st0) := by
  intro T hT X
  obtain ⟨st₀, t, T', L, h0, X', hL, e1, e2, hout⟩ := hr T hT X
  have hS : ∀ {t : State}, T'.heap = t.heap → va_F (hp_F B) st₀ t → va_S (hp_F B) s.heap T'.heap (locs ++ L) := by
    intro t e1 hF
    obtain ⟨hz, hk⟩ := hF
    rw [h0] at hz hk
    exact ⟨Nat.le_trans hZ.2.1.1 (by rw [e1]; exact hz), fun q h1 h2 => by rw [e1, hk q (Nat.lt_of_lt_of_le h1 hZ.2.1.1) h2]; exact hZ.2.1.2.1 q h1 h2, fun q hq => by
      rcases List.mem_append.mp hq with h | h
      · exact hZ.2.1.2.2 q h
      · exact hL q h⟩
  rcases hout with ⟨v, ⟨hq, hF⟩, hs⟩ | ⟨x, ⟨hq, hF⟩, hs⟩
  · rcases hq with ⟨v', V1, n1, ev, hp, hpre⟩ | ⟨x', V1, n1, ev, hp, hpre⟩
    · cases ev
      obtain ⟨t2, a1, b1⟩ := kk v V1 n1 T'.heap (locs ++ L) hp (hZ.back e1.symm hpre (hS e1 hF)) T' rfl X'
      exact ⟨t2, hs t2 a1, b1⟩
    · cases ev
  · rcases hq with ⟨v', V1, n1, ev, hp, hpre⟩ | ⟨x', V1, n1, ev, hp, hpre⟩
    · cases ev
    · cases ev
      have hZ1 := hZ.back e1.symm hpre (hS e1 hF)
      obtain ⟨l1, l2, l3, l4, l5⟩ := X'.leaveThrown x (g := { F0 m pc ls st0 with stack := rest }) rfl rfl rfl (covers_of_empty hnx _) hlocks
      have hh : (T'.setFrames (.throwing x :: below)).heap = T'.heap := rfl
      exact ⟨_, hs _ l1, .threw x, l2, l3, ⟨Or.inr ⟨x, V1, n1, rfl, kt _ _ _ hp, hZ1.pre hh l4⟩, hZ1.2.1.F hh⟩, locs ++ L, ⟨Or.inr ⟨x, rfl⟩, l4, l5⟩, hZ1.2.1.2.2⟩
/-- a contract of a method that may throw, out of a walk of its body -/
theorem hq_walk {Qc : Array Value → State → Outcome → State → Prop} {R0 : String} (hy : plainName y.cls = true) (hcls : y.cls = R0)
    (body : ∀ (p : Program) (e : Env) (s : State) (m : MethodId) (below : List Frame) (meth : Method) (c : Code) (ls : Array Slot), p.tables.exec = Jvm.exec → c.code = b → meth.sig.returnType = rt → (∀ w ∈ TBG, w.before As.toArray s = true) → s.vm.findClass R0 = some m.cls → meth.locks = false → meth.name = y.name → c.maxLocals = mL → c.exceptionTable.isEmpty = true → hp_Z D cs B s V s.heap n [] → lv_has ls mL (lv_args 0 As) →
      W p l e rm s m As.toArray below meth c s.heap [] 0 0 (hq_MQ below Qc As.toArray s mc ms (hp_F B)) (F0 m 0 ls [])) (hlen : (lg_sl As).length ≤ mL) : hq_M l y b mL rt rm D cs B V n As Qc mc ms := by
  refine MetFree.of_bodyS (code := b) (maxLocals := mL) (ret := rt) hy ?_ ?_
  · intro args s m h hn
    obtain ⟨meth, c, h1, h2, h3, h4, h5, h6, -, -⟩ := Cond.code_spec hn (atoms_spec (ws := hp_kw y b mL rt) h _ List.mem_cons_self)
    exact ⟨meth, c, h1, h2, h3, h4, h5, h6⟩
  · intro p e s m args below meth c s₁ Bd hml hv _
    obtain ⟨rfl, hpre⟩ := hv
    have hts := atoms_spec (ws := hp_kw y b mL rt) Bd.pre
    have hl := lv_entry As (n := mL) hlen
    have hnm : meth.name = y.name := (name_of_methodNamed Bd.named Bd.method).1
    have hnx : c.exceptionTable.isEmpty = true := by
      obtain ⟨meth', c', g1, g2, -, -, -, -, g7, -⟩ := Cond.code_spec Bd.named (hts _ List.mem_cons_self)
      cases g1.symm.trans Bd.method
      cases g2.symm.trans (Stand.of_body Bd).code
      exact g7
    have hh0 : s₁.heap = s.heap := by rw [Bd.state]; rfl
    subst hcls
    obtain ⟨t, a1, o, b1, b2, b3⟩ := body p e s m below meth c _ Bd.exec Bd.bytes Bd.returns (fun w h => hts w (List.mem_cons_of_mem _ h)) (findClass_of_methodNamed Bd.named) Bd.notSynchronized hnm hml hnx (hp_Z.start hpre) hl s₁ hh0 (Stand.of_body Bd)
    rw [← lg_entry_eq] at a1
    exact ⟨t, o, a1, b1, b2, ⟨b3.1, b3.2⟩⟩
end HQC

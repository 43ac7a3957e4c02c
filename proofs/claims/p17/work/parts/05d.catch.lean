/-! ===== a handler of the method's own: the only entry of its table, which names the very class of the object ===== -/
section HQH
variable {p : Program} {l : Launch} {e : Env} {R : Room} {s : State} {m : MethodId} {args : Array Value} {below : List Frame} {meth : Method} {c : Code} {H : Heap} {locs : List Loc} {cells slots : Nat} {Q : State → Prop}
variable {pc : Nat} {ls : Array Slot} {rest st0 : List Value} {D : va_G} {cs : Nat → ClassId} {B n mc ms : Nat} {V : hp_V} {own : String} {aa : Array Value}
variable {pr : Option Value → hp_V → Nat → Prop} {pt : Nat → hp_V → Nat → Prop}
/-- the search ends at that entry, and notes the class it resolved -/
theorem hq_seek {U : State} {g : JFrame} {a : Nat} {k : ClassId} {cell : Cell} {x : ExceptionTableEntry} {kk : Class} {rr : List Frame} (hm : U.vm.method? g.method = some meth) (hc : meth.code = some c) (htab : c.exceptionTable.toList = [x]) (hcov : covers x g.pc = true) (h0 : x.catchType ≠ 0)
    (hl : U.vm.ClassLinks e.platform g.method.cls x.catchType k) (hcell : U.heap[a]? = some cell) (hno : cell.vm = .none) (hk : U.vm.classes[k]? = some kk) (hck : cell.cls = k) (hself : U.vm.assignable k k = true) :
    (stepThrowing e U a (.java g :: rr)).1 = (U.setVm (U.vm.noted g.method.cls x.catchType (.cls k))).setFrames (.java { g with pc := x.handlerPc, stack := [.ref a] } :: rr) := by
  have halike : U.vm.Alike (U.vm.noted g.method.cls x.catchType (.cls k)) := (Vm.Alike.refl U.vm).noted _ _ _
  obtain ⟨kn, hkn, -⟩ := halike.2.2 _ _ hk
  have hself1 : (U.vm.noted g.method.cls x.catchType (.cls k)).assignable k k = true := by rw [halike.assignable]; exact hself
  obtain ⟨r1, r2⟩ := (resolveClass_links e.toSetting hl).op (op := VmOp.resolveClass g.method.cls x.catchType) rfl
  have hs : ∀ z, cell.vm ≠ .statics z := fun z hz => by rw [hno] at hz; cases hz
  simp only [covers] at hcov
  subst hck
  have hfound : ∀ (P : Handler → Pre) (E : CtlPost) (d : Bool) (acts : List Action), wp (findHandler g a) P E e d acts U ↔ P (.found x.handlerPc) d acts (U.setVm (U.vm.noted g.method.cls x.catchType (.cls cell.cls))) := by
    intro P E d acts
    rw [W.findHandler_eq hm hc, htab]
    simp [findHandler.go, hcov, h0, r1, r2, hcell, hs, hkn, hself1, VmOp.dirties, VmOp.acts]
  simp only [stepThrowing, searchFrame, vmDo]
  generalize hgo : Sem.go _ e false [] U = out
  obtain ⟨acts, rfl, -⟩ := Sem.eq_ok_of hgo (a := Handler.found x.handlerPc) (s' := U.setVm (U.vm.noted g.method.cls x.catchType (.cls cell.cls))) (acts' := []) (by simp [hfound])
  rfl
theorem hq_caught {T : State} (X : Stand p l e R s m args below meth c T locs cells slots) {g : JFrame} (hg : g.method = m) (hown : s.vm.findClass own = some m.cls) {C : String} {x : ExceptionTableEntry} {a : Nat} {k : ClassId} {cell : Cell} (htab : c.exceptionTable.toList = [x]) (hcov : covers x g.pc = true) (h0 : x.catchType ≠ 0)
    (hlk : (Cond.classLink own x.catchType C).before args s = true) (hC : s.vm.findClass C = some k) (hcell : T.heap[a]? = some cell) (hno : cell.vm = .none) (hck : cell.cls = k) (hself : s.vm.assignable k k = true) :
    ∃ vm1, s.WarmedH vm1 ∧ Stand p l e R s m args below meth c (T.setVm vm1) locs cells slots ∧ ∀ tg, Steps p.tables e below ((T.setVm vm1).setTop { g with pc := x.handlerPc, stack := [.ref a] }) tg → Steps p.tables e below ((T.setTop g).pushFrame (.throwing a)) tg := by
  obtain ⟨k1, hk1, hcl⟩ := Cond.classLink_spec hown hlk e.platform (by rw [X.admits.platform])
  cases hC.symm.trans hk1
  subst hg
  have hclT := X.warmed.classLinks hcl
  obtain ⟨dk, _, _, kt, hd, _, _, _, _, hkt, _, hopen⟩ := hcl.here
  have hWm : s.WarmedH (T.vm.noted g.method.cls x.catchType (.cls k)) := X.warmed.noted hd hopen (State.rightAt_cls hcl)
  obtain ⟨kt1, hkt1, -⟩ := X.warmed.alike.2.2 _ _ hkt
  have hself1 : T.vm.assignable k k = true := by rw [X.warmed.alike.assignable]; exact hself
  refine ⟨_, hWm, X.noted hWm, fun tg hgo => ?_⟩
  obtain ⟨hg1, hg2⟩ := X.here.throwing a
  obtain ⟨g0, hg0⟩ := Option.isSome_iff_exists.mp X.here.top
  obtain ⟨rr, hrr⟩ := State.topJava?_eq_some.mp hg0
  have hrr1 : (T.setVm (T.vm.noted g.method.cls x.catchType (.cls k))).frames = .java g0 :: rr := hrr
  refine Steps.head hg1 hg2 ?_
  rw [stepThread_throwing (frames_entered X.here.top _), hq_seek (U := (T.setTop g).pushFrame (.throwing a)) (meth := meth) (c := c) (cell := cell) X.method' X.code htab hcov h0 hclT hcell hno hkt1 hck hself1]
  rw [State.setTop_of_frames _ hrr1] at hgo
  have e1 : ∀ (u : State) (v : Vm) (F G : List Frame), ((u.setFrames F).setVm v).setFrames G = (u.setVm v).setFrames G := fun u v F G => (State.setFrames_setFrames (u.setVm v) F G)
  rw [State.pushFrame, e1, State.setTop_of_frames _ hrr, e1, hrr]
  exact hgo
/-- a call that may throw, under that handler -/
theorem hq_callc (hr : hq_Run p l e R s m args below meth c H locs cells slots mc ms (F0 m pc ls st0) rest (hq_QX D cs B pr pt aa) (hp_F B)) (hZ : hp_Z D cs B s V H n locs) (hown : s.vm.findClass own = some m.cls) (hts : ∀ w ∈ TBG, w.before args s = true) {a0 a1 ah ct ci : Nat} {r : vw_C}
    (htab : c.exceptionTable.toList.map (fun h => (h.startPc, h.endPc, h.handlerPc, h.catchType)) = [(a0, a1, ah, ct)]) (hin : a0 ≤ pc ∧ pc < a1) (h0 : ct ≠ 0) (hlk : Cond.classLink own ct r.1 ∈ TBG) (hci : vwCl[ci]? = some r) (hob : ∀ x V1 n1, pt x V1 n1 → ∃ fs, V1 x = some (.inr (ci, fs)))
    (kk : ∀ (v : Option Value) (V1 : hp_V) (n1 : Nat) (H1 : Heap) (locs1 : List Loc), pr v V1 n1 → hp_Z D cs B s V1 H1 n1 locs1 → W p l e R s m args below meth c H1 locs1 (cells + mc) (slots + ms) Q (F0 m (pc + 3) ls (v.toList ++ rest)))
    (kc : ∀ (x : Nat) (V1 : hp_V) (n1 : Nat) (H1 : Heap) (locs1 : List Loc), pt x V1 n1 → hp_Z D cs B s V1 H1 n1 locs1 → W p l e R s m args below meth c H1 locs1 (cells + mc) (slots + ms) Q (F0 m ah ls [.ref x])) : W p l e R s m args below meth c H locs cells slots Q (F0 m pc ls st0) := by
  intro T hT X
  obtain ⟨st₀, t, T', L, h0', X', hL, e1, e2, hout⟩ := hr T hT X
  have hS : va_F (hp_F B) st₀ t → va_S (hp_F B) s.heap T'.heap (locs ++ L) := by
    rintro ⟨hz, hk⟩
    rw [h0'] at hz hk
    exact ⟨Nat.le_trans hZ.2.1.1 (by rw [e1]; exact hz), fun q h1 h2 => by rw [e1, hk q (Nat.lt_of_lt_of_le h1 hZ.2.1.1) h2]; exact hZ.2.1.2.1 q h1 h2, fun q hq => by
      rcases List.mem_append.mp hq with h | h
      · exact hZ.2.1.2.2 q h
      · exact hL q h⟩
  rcases hout with ⟨v, ⟨hq, hF⟩, hs⟩ | ⟨x, ⟨hq, hF⟩, hs⟩
  · rcases hq with ⟨v', V1, n1, ev, hp, hpre⟩ | ⟨x', V1, n1, ev, hp, hpre⟩
    · cases ev
      obtain ⟨t2, a1, b1⟩ := kk v V1 n1 T'.heap (locs ++ L) hp (hZ.back e1.symm hpre (hS hF)) T' rfl X'
      exact ⟨t2, hs t2 a1, b1⟩
    · cases ev
  · rcases hq with ⟨v', V1, n1, ev, hp, hpre⟩ | ⟨x', V1, n1, ev, hp, hpre⟩
    · cases ev
    · cases ev
      have hZ1 := hZ.back e1.symm hpre (hS hF)
      obtain ⟨fs, hfs⟩ := hob _ _ _ hp
      obtain ⟨r', hr', cell, g1, g2, g3, -⟩ := (hZ1.1 x _ hfs).2
      cases hci.symm.trans hr'
      have hcls := (hZ1.2.2.1.1.1 ci _ hci).2
      obtain ⟨x0, hx0, hx1⟩ : ∃ x0, c.exceptionTable.toList = [x0] ∧ (x0.startPc, x0.endPc, x0.handlerPc, x0.catchType) = (a0, a1, ah, ct) := by
        cases hl : c.exceptionTable.toList with
        | nil => rw [hl] at htab; cases htab
        | cons z zs =>
          rw [hl] at htab
          cases zs with
          | nil => exact ⟨z, rfl, (List.cons.inj htab).1⟩
          | cons z1 zs1 => cases (List.cons.inj htab).2
      simp only [Prod.mk.injEq] at hx1
      obtain ⟨i1, i2, i3, i4⟩ := hx1
      obtain ⟨vm1, hW1, X2, hgo⟩ := hq_caught X' (g := { F0 m pc ls st0 with stack := rest }) rfl hown (C := r.1) (a := x) (k := D.1 ci) (cell := cell) hx0 (by simp only [covers, i1, i2, Bool.and_eq_true, decide_eq_true_eq]; exact hin) (by rw [i4]; exact h0) (by rw [i4]; exact hts _ hlk) hcls.1 g1 g3 g2 (va_assign hcls)
      rw [i3] at hgo
      obtain ⟨t2, a2, b2⟩ := kc x V1 n1 T'.heap (locs ++ L) hp hZ1 (T'.setVm vm1) rfl X2
      exact ⟨t2, hs t2 (hgo t2 a2), b2⟩
end HQH

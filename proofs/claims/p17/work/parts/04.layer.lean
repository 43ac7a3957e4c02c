/-! ===== MY LAYER: the heap as a partial map from addresses to cells; everything of ours lies at B and above ===== -/
abbrev hp_V : Type := Nat → Option va_E
def hp_up (V : hp_V) (a : Nat) (e : va_E) : hp_V := fun x => if x = a then some e else V x
theorem hp_up_eq (V : hp_V) (a : Nat) (e : va_E) : hp_up V a e a = some e := by simp [hp_up]
theorem hp_up_ne (V : hp_V) (a : Nat) (e : va_E) : ∀ x, x ≠ a → hp_up V a e x = V x := fun x h => by simp [hp_up, h]
def hp_W (D : va_G) (B : Nat) (V : hp_V) (H : Heap) : Prop := ∀ a e, V a = some e → B ≤ a ∧ va_at D vwCl (a, e) H
theorem hp_W.one {D : va_G} {B : Nat} {V : hp_V} {H : Heap} (h : hp_W D B V H) {a : Nat} {e : va_E} (ha : V a = some e) : va_P D vwCl [(a, e)] H := by
  intro k q hk
  have hz : k < 1 := (List.getElem?_eq_some_iff.mp hk).1
  rw [show k = 0 by omega] at hk
  cases hk
  exact (h a e ha).2
theorem hp_W.set {D : va_G} {B : Nat} {V : hp_V} {H H1 : Heap} (h : hp_W D B V H) {a : Nat} {e0 e1 : va_E} (ha : V a = some e0) (he : va_at D vwCl (a, e1) H1) (oq : ∀ q : Nat, q ≠ a → H1[q]? = H[q]?) : hp_W D B (hp_up V a e1) H1 := by
  intro x e hx
  by_cases hxa : x = a
  · subst hxa
    rw [hp_up_eq] at hx
    cases hx
    exact ⟨(h _ _ ha).1, he⟩
  · rw [hp_up_ne V a e1 x hxa] at hx
    exact ⟨(h x e hx).1, (h x e hx).2.kept (oq x hxa)⟩
theorem hp_W.push {D : va_G} {B : Nat} {V : hp_V} {H H1 : Heap} (h : hp_W D B V H) {n : Nat} {e1 : va_E} (hn : H.size = n) (hB : B ≤ n) (he : va_at D vwCl (n, e1) H1) (oq : ∀ q : Nat, q < n → H1[q]? = H[q]?) : hp_W D B (hp_up V n e1) H1 := by
  intro x e hx
  by_cases hxa : x = n
  · subst hxa
    rw [hp_up_eq] at hx
    cases hx
    exact ⟨hB, he⟩
  · rw [hp_up_ne V n e1 x hxa] at hx
    exact ⟨(h x e hx).1, (h x e hx).2.kept (oq x (by have := (h x e hx).2.lt; rw [hn] at this; exact this))⟩
def hp_ty (cs : Nat → ClassId) : List (ClassId × FieldType) := [(cs 0, .byte), (cs 1, .int), (cs 2, .long), (cs 3, .boolean), (cs 4, .object RX2), (cs 5, .object RX4), (cs 6, .object RX5), (cs 7, .object RX9)]
/-- the links to private members of a nest mate -/
def hp_nest : List Cond := [.methodLinkNest RX1 11 yX10_init RX11, .methodLinkNest RX8 31 yX11_verbOf RX11, .methodLinkNest RX8 35 yX11_tenseOf RX11, .methodLinkNest RX8 38 yX11_personOf RX11]
def hp_N (U : State) : Prop := va_Nw (.methodLinkNest RX1 11 yX10_init RX11) U ∧ va_Nw (.methodLinkNest RX8 31 yX11_verbOf RX11) U ∧ va_Nw (.methodLinkNest RX8 35 yX11_tenseOf RX11) U ∧ va_Nw (.methodLinkNest RX8 38 yX11_personOf RX11) U
theorem hp_N.warm {s U : State} (hW : s.WarmedH U.vm) (h : hp_N s) : hp_N U := ⟨va_Nw.warmM hW h.1, va_Nw.warmM hW h.2.1, va_Nw.warmM hW h.2.2.1, va_Nw.warmM hW h.2.2.2⟩
theorem hp_N.same {u U : State} (hv : u.vm = U.vm) (h : hp_N u) : hp_N U := ⟨va_Nw.same rfl hv h.1, va_Nw.same rfl hv h.2.1, va_Nw.same rfl hv h.2.2.1, va_Nw.same rfl hv h.2.2.2⟩
def hp_K (D : va_G) (cs : Nat → ClassId) (U : State) : Prop := va_K D vwCl (hp_ty cs) U ∧ va_AO RX2 U ∧ va_AO RX4 U ∧ va_AO RX5 U ∧ va_AO RX9 U ∧ hp_N U
theorem hp_K.warm {D : va_G} {cs : Nat → ClassId} {u U : State} (hW : u.WarmedH U.vm) (h : hp_K D cs u) : hp_K D cs U := ⟨va_K.moved hW.alike h.1, va_AO.moved hW.alike h.2.1, va_AO.moved hW.alike h.2.2.1, va_AO.moved hW.alike h.2.2.2.1, va_AO.moved hW.alike h.2.2.2.2.1, h.2.2.2.2.2.warm hW⟩
theorem hp_K.same {D : va_G} {cs : Nat → ClassId} {u U : State} (hv : u.vm = U.vm) (ha : u.vm.Alike U.vm) (h : hp_K D cs u) : hp_K D cs U := ⟨va_K.moved ha h.1, va_AO.moved ha h.2.1, va_AO.moved ha h.2.2.1, va_AO.moved ha h.2.2.2.1, va_AO.moved ha h.2.2.2.2.1, h.2.2.2.2.2.same hv⟩
def hp_F (B : Nat) : Nat → Prop := fun q => B ≤ q
/-- what lies below B: statics and String constants that nobody writes (the constants' places: cs 100 and on, their arrays' cs 200 and on) -/
def hp_so : List (String × Nat × String) := [("VerbSchool$Parser", 203, "stem ending sound compound except lack class verb of to last tense by part all in person "), ("VerbSchoolModel", 115, "class"), ("VerbSchoolModel", 117, "verb"), ("VerbSchoolModel", 119, "of"), ("VerbSchoolModel", 121, "stem"), ("VerbSchoolModel", 123, "to"), ("VerbSchoolModel", 125, "ending"), ("VerbSchoolModel", 127, "sound"), ("VerbSchoolModel", 129, "last"), ("VerbSchoolModel", 131, "compound"), ("VerbSchoolModel", 133, "tense"), ("VerbSchoolModel", 134, "by"), ("VerbSchoolModel", 136, "part"), ("VerbSchoolModel", 137, "except"), ("VerbSchoolModel", 139, "lack"), ("VerbSchoolModel", 141, "all"), ("VerbSchoolModel", 143, "in"), ("VerbSchoolModel", 145, "person")]
def hp_sl : List Nat := [89, 5, 4, 2, 4, 2, 6, 5, 4, 8, 5, 2, 4, 6, 4, 3, 2, 6]
def hp_sb : List (List Int32) := [[115, 116, 101, 109, 32, 101, 110, 100, 105, 110, 103, 32, 115, 111, 117, 110, 100, 32, 99, 111, 109, 112, 111, 117, 110, 100, 32, 101, 120, 99, 101, 112, 116, 32, 108, 97, 99, 107, 32, 99, 108, 97, 115, 115, 32, 118, 101, 114, 98, 32, 111, 102, 32, 116, 111, 32, 108, 97, 115, 116, 32, 116, 101, 110, 115, 101, 32, 98, 121, 32, 112, 97, 114, 116, 32, 97, 108, 108, 32, 105, 110, 32, 112, 101, 114, 115, 111, 110, 32], [99, 108, 97, 115, 115], [118, 101, 114, 98], [111, 102], [115, 116, 101, 109], [116, 111], [101, 110, 100, 105, 110, 103], [115, 111, 117, 110, 100], [108, 97, 115, 116], [99, 111, 109, 112, 111, 117, 110, 100], [116, 101, 110, 115, 101], [98, 121], [112, 97, 114, 116], [101, 120, 99, 101, 112, 116], [108, 97, 99, 107], [97, 108, 108], [105, 110], [112, 101, 114, 115, 111, 110]]
def hp_S (cs : Nat → ClassId) (B : Nat) (U : State) (H : Heap) : Prop := va_Z "java/lang/String" "COMPACT_STRINGS" "Z" (.int 1) (hp_F B) U H ∧ va_Zq "jdk/internal/util/Preconditions" "SIOOBE_FORMATTER" "Ljava/util/function/BiFunction;" (hp_F B) U H ∧ vk_S 18 hp_sl hp_sb (fun i => cs (100 + i)) (fun i => cs (200 + i)) (hp_F B) U H ∧ ∀ i, i < 18 → vk_R (hp_so.getD i ("", 0, "")).1 (hp_so.getD i ("", 0, "")).2.1 (hp_so.getD i ("", 0, "")).2.2 (cs (100 + i)) U
theorem hp_S.go {cs : Nat → ClassId} {B : Nat} {s U : State} {H : Heap} {locs : List Loc} (h : hp_S cs B s s.heap) (hS : va_S (hp_F B) s.heap H locs) (hW : s.WarmedH U.vm) : hp_S cs B U H := ⟨va_Z.moved hW.alike (h.1.kept hS.2.1), va_Zq.moved hW.alike (h.2.1.kept hS.2.1), vk_S.moved hW.alike (h.2.2.1.kept hS.2.1), fun i hi => (h.2.2.2 i hi).warm hW⟩
theorem hp_S.same {cs : Nat → ClassId} {B : Nat} {u U : State} {H : Heap} (hv : U.vm = u.vm) (ha : u.vm.Alike U.vm) (h : hp_S cs B u H) : hp_S cs B U H := ⟨va_Z.moved ha h.1, va_Zq.moved ha h.2.1, vk_S.moved ha h.2.2.1, fun i hi => (h.2.2.2 i hi).same hv⟩
def hp_G (cs : Nat → ClassId) (B : Nat) (U : State) (H : Heap) : Prop := va_Zq "java/lang/Throwable" "UNASSIGNED_STACK" "[Ljava/lang/StackTraceElement;" (hp_F B) U H ∧ va_Zq "java/lang/Throwable" "SUPPRESSED_SENTINEL" "Ljava/util/List;" (hp_F B) U H ∧ hp_S cs B U H
theorem hp_G.go {cs : Nat → ClassId} {B : Nat} {s U : State} {H : Heap} {locs : List Loc} (h : hp_G cs B s s.heap) (hS : va_S (hp_F B) s.heap H locs) (hW : s.WarmedH U.vm) : hp_G cs B U H := ⟨va_Zq.moved hW.alike (h.1.kept hS.2.1), va_Zq.moved hW.alike (h.2.1.kept hS.2.1), h.2.2.go hS hW⟩
theorem hp_G.same {cs : Nat → ClassId} {B : Nat} {u U : State} {H : Heap} (hv : U.vm = u.vm) (ha : u.vm.Alike U.vm) (h : hp_G cs B u H) : hp_G cs B U H := ⟨va_Zq.moved ha h.1, va_Zq.moved ha h.2.1, h.2.2.same hv ha⟩
def hp_Z (D : va_G) (cs : Nat → ClassId) (B : Nat) (s : State) (V : hp_V) (H : Heap) (n : Nat) (locs : List Loc) : Prop := hp_W D B V H ∧ va_S (hp_F B) s.heap H locs ∧ hp_K D cs s ∧ B ≤ s.heap.size ∧ H.size = n ∧ hp_G cs B s s.heap
def hp_Pre (D : va_G) (cs : Nat → ClassId) (B : Nat) (V : hp_V) (n : Nat) (U : State) : Prop := hp_W D B V U.heap ∧ hp_K D cs U ∧ B ≤ U.heap.size ∧ U.heap.size = n ∧ hp_G cs B U U.heap
theorem hp_Z.start {D : va_G} {cs : Nat → ClassId} {B : Nat} {s : State} {V : hp_V} {n : Nat} (h : hp_Pre D cs B V n s) : hp_Z D cs B s V s.heap n [] := ⟨h.1, va_S.rf, h.2.1, h.2.2.1, h.2.2.2.1, h.2.2.2.2⟩
theorem hp_Z.lt {D : va_G} {cs : Nat → ClassId} {B : Nat} {s : State} {V : hp_V} {H : Heap} {n : Nat} {locs : List Loc} (h : hp_Z D cs B s V H n locs) {a : Nat} {e : va_E} (ha : V a = some e) : a < n := by
  have := (h.1 a e ha).2.lt
  rw [h.2.2.2.2.1] at this
  exact this
theorem hp_Z.ge {D : va_G} {cs : Nat → ClassId} {B : Nat} {s : State} {V : hp_V} {H : Heap} {n : Nat} {locs : List Loc} (h : hp_Z D cs B s V H n locs) {a : Nat} {e : va_E} (ha : V a = some e) : B ≤ a := (h.1 a e ha).1
theorem hp_Z.put {D : va_G} {cs : Nat → ClassId} {B : Nat} {s : State} {V : hp_V} {H H1 : Heap} {n : Nat} {locs : List Loc} (h : hp_Z D cs B s V H n locs) {a k : Nat} {e0 e1 : va_E} (ha : V a = some e0) (he : va_at D vwCl (a, e1) H1) (z : H1.size = H.size) (oq : ∀ q : Nat, q ≠ a → H1[q]? = H[q]?) : hp_Z D cs B s (hp_up V a e1) H1 n (locs ++ [⟨a, k⟩]) :=
  ⟨h.1.set ha he oq, h.2.1.put z oq (h.1 a e0 ha).1, h.2.2.1, h.2.2.2.1, by rw [z]; exact h.2.2.2.2.1, h.2.2.2.2.2⟩
theorem hp_Z.new {D : va_G} {cs : Nat → ClassId} {B : Nat} {s : State} {V : hp_V} {H H1 : Heap} {n : Nat} {locs : List Loc} (h : hp_Z D cs B s V H n locs) {e1 : va_E} (he : va_at D vwCl (n, e1) H1) (z : H1.size = n + 1) (oq : ∀ q : Nat, q < n → H1[q]? = H[q]?) : hp_Z D cs B s (hp_up V n e1) H1 (n + 1) locs := by
  obtain ⟨h1, h2, h3, h4, h5, h6⟩ := h
  have hBn : B ≤ n := by have := h2.1; omega
  refine ⟨h1.push h5 hBn he oq, ⟨by have := h2.1; omega, fun q g1 g2 => ?_, h2.2.2⟩, h3, h4, z, h6⟩
  rw [oq q (by have := h2.1; omega)]
  exact h2.2.1 q g1 g2
/-! ===== the tables' words, the same list for every method ===== -/
def TBG : List Cond := lw_tbl.filter goodWord
theorem TBG_mem {w : Cond} (h : w ∈ tables_1) (g : goodWord w = true) : w ∈ TBG := List.mem_filter.mpr ⟨List.mem_append_right _ h, g⟩
theorem TBG_sel {w : Cond} (h : w ∈ k2_sels lw_privs) (g : goodWord w = true) : w ∈ TBG := List.mem_filter.mpr ⟨List.mem_append_left _ h, g⟩
abbrev hp_kw (y : MethodName) (b : ByteArray) (mL : Nat) (rt : Option FieldType) : List Cond := Cond.code y b mL rt :: TBG
theorem hp_good {x : Cond} {y : MethodName} {b : ByteArray} {mL : Nat} {rt : Option FieldType} (h : Cond.code y b mL rt ∈ TBG) : GoodIn (x :: TBG) (hp_kw y b mL rt) := by
  intro w hw
  have hw' : w ∈ TBG := by
    rcases List.mem_cons.mp hw with e | e
    · rw [e]; exact h
    · exact e
  exact ⟨List.mem_cons_of_mem _ hw', good_of_word (List.mem_filter.mp hw').2⟩
theorem hp_good0 {y : MethodName} {b : ByteArray} {mL : Nat} {rt : Option FieldType} (h : Cond.code y b mL rt ∈ TBG) : GoodIn TBG (hp_kw y b mL rt) := by
  intro w hw
  have hw' : w ∈ TBG := by
    rcases List.mem_cons.mp hw with e | e
    · rw [e]; exact h
    · exact e
  exact ⟨hw', good_of_word (List.mem_filter.mp hw').2⟩
/-- the static facts of a field link: own's entry index names field k of class ci -/
def hp_FL (own : String) (index ci k : Nat) : Prop := ∃ (C : String) (T : u_T) (N : Nat), vwCl[ci]? = some (C, T, N) ∧ k < N ∧ (∀ w ∈ u_ws C T N, w ∈ TBG) ∧ Cond.fieldLink own index (T k).1 (T k).2.1 (T k).2.2.1 ∈ TBG
def hp_CI (ci : Nat) : Prop := ∃ (C : String) (T : u_T) (N : Nat) (ty : Nat → FieldType), vwCl[ci]? = some (C, T, N) ∧ (∀ w ∈ u_ws C T N, w ∈ TBG) ∧ (∀ k, k < N → parseFieldDescriptor (T k).2.2.1 = some (ty k)) ∧ (∀ a, a < N → ∀ b, b < N → a ≠ b → (T a).2.1 ≠ (T b).2.1)
/-- .. and of a field that is written: its type, whether it is final -/
def hp_FP (own : String) (index ci k : Nat) (t : FieldType) (fin : Bool) : Prop := hp_CI ci ∧ ∃ (C : String) (T : u_T) (N : Nat), vwCl[ci]? = some (C, T, N) ∧ k < N ∧ (∀ w ∈ u_ws C T N, w ∈ TBG) ∧ Cond.fieldLink own index (T k).1 (T k).2.1 (T k).2.2.1 ∈ TBG ∧ parseFieldDescriptor (T k).2.2.1 = some t ∧ (T k).2.2.2 = fin ∧ (fin = true → (T k).1 = own)
section HPR
variable {p : Program} {l : Launch} {e : Env} {R : Room} {s : State} {m : MethodId} {args : Array Value} {below : List Frame} {meth : Method} {c : Code} {H : Heap} {locs : List Loc} {cells slots : Nat} {Q : State → Prop}
variable {cc : ByteArray} {pc : Nat} {ls : Array Slot} {rest : List Value} {D : va_G} {cs : Nat → ClassId} {B n a : Nat} {V : hp_V} {w0 : Cond} {own : String}
theorem hp_get (hx : p.tables.exec = Jvm.exec) (hb : c.code = cc) (hts : ∀ w ∈ TBG, w.before args s = true) (hown : s.vm.findClass own = some m.cls) (hZ : hp_Z D cs B s V H n locs) {ci k index : Nat} {fs : List Value} (ha : V a = some (.inr (ci, fs))) (hf : hp_FL own index ci k) {v : Value} (hv : fs[k]? = some v) (hdg : decode cc pc = .ok (.getfield index, 3))
    (kk : W p l e R s m args below meth c H locs cells slots Q (F0 m (pc + 3) ls (v :: rest))) : W p l e R s m args below meth c H locs cells slots Q (F0 m pc ls (.ref a :: rest)) := by
  obtain ⟨C, T, N, h1, h2, h3, h4⟩ := hf
  exact va_get hx hb hts h3 hown hZ.2.2.1.1 (hZ.1.one ha) 0 rfl h1 k h2 (hts _ h4) (fun _ h9 => h9) hv hdg kk
theorem hp_put (hx : p.tables.exec = Jvm.exec) (hb : c.code = cc) (hts : ∀ w ∈ TBG, w.before args s = true) (hown : s.vm.findClass own = some m.cls) (hZ : hp_Z D cs B s V H n locs) {ci k index : Nat} {fs : List Value} (ha : V a = some (.inr (ci, fs))) {ty : FieldType} (hf : hp_FP own index ci k ty false) {v : Value} (hn : narrow ty v = v) (hfit : fits ty v = true) (hl : k < fs.length) (hdg : decode cc pc = .ok (.putfield index, 3))
    (kk : ∀ (V1 : hp_V) (H1 : Heap) (locs1 : List Loc), V1 a = some (.inr (ci, fs.set k v)) → (∀ x, x ≠ a → V1 x = V x) → hp_Z D cs B s V1 H1 n locs1 → W p l e R s m args below meth c H1 locs1 cells slots Q (F0 m (pc + 3) ls rest)) : W p l e R s m args below meth c H locs cells slots Q (F0 m pc ls (v :: .ref a :: rest)) := by
  obtain ⟨⟨C', T', N', ty0, g1, g2, g3, g4⟩, C, T, N, h1, h2, h3, h4, h5, h6, -⟩ := hf
  have hc' : (C, T, N) = (C', T', N') := Option.some.inj (h1.symm.trans g1)
  cases hc'
  have hap := va_apart (own := own) hts h3 ty0 g3 g4 hZ.2.2.1.1 h1
  obtain ⟨r, e1, cell, q1, q2, q3, q4⟩ := (hZ.1 a _ ha).2
  have hr : r = _ := Option.some.inj (e1.symm.trans h1)
  subst hr
  obtain ⟨hS, hfc, kC, hkC, hkind⟩ := hZ.2.2.1.1.1 ci _ h1
  obtain ⟨cf, kf, fi, f, hi, hsl⟩ := hS k h2
  have hlay := hts _ (h3 _ (u_in_lay h2))
  unfold u_lay at hlay
  rw [if_neg (by rw [h6]; decide)] at hlay
  have hst := (u_facts hfc hkC (u_lays hts h3 h2) hi).1
  have hsd := u_store hfc hkC hkind hlay hi h5 hn hfit
  refine W.putK hx hb (f := f) ⟨hown, hts _ h4, ⟨_, _, _, hi⟩, hst⟩ (by rw [q2]; exact hsd) q1 q3 (by rw [hsl]; exact k2_hasslot (q4 k h2)) rfl rfl hdg fun H' f1 f2 f3 => ?_
  rw [hsl] at f1 ⊢
  exact kk _ H' _ (hp_up_eq V a _) (hp_up_ne V a _) (hZ.put ha ⟨_, h1, t_OB.to (V := updV (vp_V fs) k v) ⟨_, f1, q2, q3, t_set q4 hap h2 v⟩ (fun j _ => vp_updV_set hl v j)⟩ f2 f3)
theorem hp_putF (hx : p.tables.exec = Jvm.exec) (hb : c.code = cc) (hts : ∀ w ∈ TBG, w.before args s = true) (hown : s.vm.findClass own = some m.cls) (hin : meth.name = "<init>") (hZ : hp_Z D cs B s V H n locs) {ci k index : Nat} {fs : List Value} (ha : V a = some (.inr (ci, fs))) {ty : FieldType} (hf : hp_FP own index ci k ty true) {v : Value} (hn : narrow ty v = v) (hfit : fits ty v = true) (hl : k < fs.length) (hdg : decode cc pc = .ok (.putfield index, 3))
    (kk : ∀ (V1 : hp_V) (H1 : Heap) (locs1 : List Loc), V1 a = some (.inr (ci, fs.set k v)) → (∀ x, x ≠ a → V1 x = V x) → hp_Z D cs B s V1 H1 n locs1 → W p l e R s m args below meth c H1 locs1 cells slots Q (F0 m (pc + 3) ls rest)) : W p l e R s m args below meth c H locs cells slots Q (F0 m pc ls (v :: .ref a :: rest)) := by
  obtain ⟨⟨C', T', N', ty0, g1, g2, g3, g4⟩, C, T, N, h1, h2, h3, h4, h5, h6, h7⟩ := hf
  have hc' : (C, T, N) = (C', T', N') := Option.some.inj (h1.symm.trans g1)
  cases hc'
  have hap := va_apart (own := own) hts h3 ty0 g3 g4 hZ.2.2.1.1 h1
  obtain ⟨r, e1, cell, q1, q2, q3, q4⟩ := (hZ.1 a _ ha).2
  have hr : r = _ := Option.some.inj (e1.symm.trans h1)
  subst hr
  obtain ⟨hS, hfc, kC, hkC, hkind⟩ := hZ.2.2.1.1.1 ci _ h1
  obtain ⟨cf, kf, fi, f, hi, hsl⟩ := hS k h2
  have hlay := hts _ (h3 _ (u_in_lay h2))
  unfold u_lay at hlay
  rw [if_pos h6] at hlay
  have hst := (u_facts hfc hkC (u_lays hts h3 h2) hi).1
  have hcf : m.cls = cf := by
    obtain ⟨_, _, c', _, _, _, -, -, hf', -, -, -, hown2, -⟩ := Cond.laysFinal_spec hlay
    have e1 : c' = cf := by have := hi.symm.trans hf'; simp at this; exact this.1.symm
    rw [h7 rfl] at hown2
    rw [← e1]; exact Option.some.inj (hown.symm.trans hown2)
  have hsd := u_fits hfc hkC hkind (Or.inr hlay) hi h5 hn hfit
  refine W.putFinK hx hb hown (hts _ h4) hi hst hcf hin (by rw [q2]; exact hsd) q1 q3 (by rw [hsl]; exact k2_hasslot (q4 k h2)) rfl rfl hdg fun H' f1 f2 f3 => ?_
  rw [hsl] at f1 ⊢
  exact kk _ H' _ (hp_up_eq V a _) (hp_up_ne V a _) (hZ.put ha ⟨_, h1, t_OB.to (V := updV (vp_V fs) k v) ⟨_, f1, q2, q3, t_set q4 hap h2 v⟩ (fun j _ => vp_updV_set hl v j)⟩ f2 f3)
/-- new: the cell comes at the heap's end, all fields at their defaults -/
def hp_NW (own : String) (index ci N : Nat) (fs : List Value) : Prop := ∃ (C : String) (T : u_T) (ty : Nat → FieldType), vwCl[ci]? = some (C, T, N) ∧ (∀ w ∈ u_ws C T N, w ∈ TBG) ∧ (∀ k, k < N → parseFieldDescriptor (T k).2.2.1 = some (ty k)) ∧ Cond.classLink own index C ∈ TBG ∧ Cond.instantiable C N ∈ TBG ∧ Cond.initialized C ∈ TBG ∧ (∀ j, j < N → defaultValue (ty j) = vp_V fs j)
theorem hp_new (hx : p.tables.exec = Jvm.exec) (hb : c.code = cc) (hts : ∀ w ∈ TBG, w.before args s = true) (hown : s.vm.findClass own = some m.cls) (hZ : hp_Z D cs B s V H n locs) {ci N index : Nat} {fs : List Value} (hf : hp_NW own index ci N fs) (hcells : cells + 1 ≤ R.cells) (hslots : slots + N ≤ R.slots) (hdg : decode cc pc = .ok (.new index, 3))
    (kk : ∀ (V1 : hp_V) (H1 : Heap), V1 n = some (.inr (ci, fs)) → (∀ x, x ≠ n → V1 x = V x) → hp_Z D cs B s V1 H1 (n + 1) locs → W p l e R s m args below meth c H1 locs (cells + 1) (slots + N) Q (F0 m (pc + 3) ls (.ref n :: rest))) : W p l e R s m args below meth c H locs cells slots Q (F0 m pc ls rest) := by
  obtain ⟨C, T, ty, h1, h2, h3, h4, h5, h6, h7⟩ := hf
  have hKn := hZ.2.2.1.1.1 ci _ h1
  refine W.newcK hx hb hown (hts _ h4) (hts _ h5) (hts _ h6) rfl hdg hcells hslots hKn.2.1 hZ.2.2.2.2.1 fun H1 kC hkC e1 z1 o1 => ?_
  exact kk _ H1 (hp_up_eq V n _) (hp_up_ne V n _) (hZ.new ⟨_, h1, (u_born ty hts h2 hKn hkC e1 h3).to h7⟩ z1 o1)
theorem hp_newa (hx : p.tables.exec = Jvm.exec) (hb : c.code = cc) (hts : ∀ w ∈ TBG, w.before args s = true) (hZ : hp_Z D cs B s V H n locs) {atype : ArrayType} {ty : FieldType} (hty : newarray.typeOf atype = ty) (harr : Cond.arrayClass ty ∈ TBG) {t0 : Nat} {cA : ClassId} (ht : (hp_ty cs)[t0]? = some (cA, ty)) (hnm : va_RA s cA ty = (s.vm.findClass ("[" ++ ty.toString) = some cA))
    {k : Int32} {N : Nat} {a0 : vp_A} (ha : ∀ cA : ClassId, vp_cell cA a0 = arrV cA N (fun _ => defaultValue ty)) (hn : ¬ k < 0) (hN : k.toNatClampNeg = N) (hbytes : N * componentBytes ty ≤ 536870912) (hcells : cells + 1 ≤ R.cells) (hslots : slots + N ≤ R.slots) (hdg : decode cc pc = .ok (.newarray atype, 2))
    (kk : ∀ (V1 : hp_V) (H1 : Heap), V1 n = some (.inl (cA, a0)) → (∀ x, x ≠ n → V1 x = V x) → hp_Z D cs B s V1 H1 (n + 1) locs → W p l e R s m args below meth c H1 locs (cells + 1) (slots + N) Q (F0 m (pc + 2) ls (.ref n :: rest))) : W p l e R s m args below meth c H locs cells slots Q (F0 m pc ls (.int k :: rest)) := by
  subst hty
  refine va_newaK hx hb (hts _ harr) rfl hdg rfl hn hN hbytes hcells hslots hZ.2.2.2.2.1 fun H1 cA' e1 z1 o1 hAr hNm => ?_
  have hRA := (hZ.2.2.1.1.2 t0 _ ht).2
  dsimp only at hRA
  rw [hnm] at hRA
  have hcA : cA' = cA := Option.some.inj (hNm.symm.trans hRA)
  subst hcA
  refine kk _ H1 (hp_up_eq V n _) (hp_up_ne V n _) (hZ.new ?_ z1 o1)
  show H1[n]? = some (vp_cell _ _)
  rw [ha]
  exact e1
theorem hp_newq (hx : p.tables.exec = Jvm.exec) (hb : c.code = cc) (hts : ∀ w ∈ TBG, w.before args s = true) (hown : s.vm.findClass own = some m.cls) (hZ : hp_Z D cs B s V H n locs) {index : Nat} {C : String} (hcl : Cond.classLink own index C ∈ TBG) (hao : hp_K D cs s → va_AO C s) {t0 : Nat} {cA : ClassId} (ht : (hp_ty cs)[t0]? = some (cA, .object C))
    {k : Int32} {N : Nat} (hn : ¬ k < 0) (hN : k.toNatClampNeg = N) (hbytes : N * 4 ≤ 536870912) (hcells : cells + 1 ≤ R.cells) (hslots : slots + N ≤ R.slots) (hdg : decode cc pc = .ok (.anewarray index, 3))
    (kk : ∀ (V1 : hp_V) (H1 : Heap), V1 n = some (.inl (cA, N, .inr (.inr (.inr (.inr (fun _ => none)))))) → (∀ x, x ≠ n → V1 x = V x) → hp_Z D cs B s V1 H1 (n + 1) locs → W p l e R s m args below meth c H1 locs (cells + 1) (slots + N) Q (F0 m (pc + 3) ls (.ref n :: rest))) : W p l e R s m args below meth c H locs cells slots Q (F0 m pc ls (.int k :: rest)) := by
  subst hN
  refine W.anew hx hb hown (hts _ hcl) (va_AO.use (hao hZ.2.2.1)) rfl hdg rfl hn hbytes hcells hslots fun cA' kA comp f1 f2 f3 f4 => ?_
  have hsz := hZ.2.2.2.2.1
  generalize hH1 : H.push ({ cls := cA', slots := Array.replicate k.toNatClampNeg .null, vm := .none } : Cell) = H1
  have z1 : H1.size = n + 1 := by rw [← hH1, Array.size_push, hsz]
  have e1 : H1[n]? = some (arrV cA' k.toNatClampNeg (fun _ => .null)) := by rw [← hH1, ← hsz, Array.getElem?_push_size, ← arrV_new]
  have o1 : ∀ q : Nat, q < n → H1[q]? = H[q]? := fun q hq => by rw [← hH1, Array.getElem?_push, if_neg (by omega)]
  obtain ⟨kA2, comp2, g1, g2, g3, g4⟩ := (hZ.2.2.1.1.2 t0 _ ht).2
  have hcA : cA' = cA := Option.some.inj (f1.symm.trans g4)
  subst hcA
  rw [hsz]
  refine kk _ H1 (hp_up_eq V n _) (hp_up_ne V n _) (hZ.new ?_ z1 o1)
  show H1[n]? = some (vp_cell _ _)
  rw [vp_cell_q]
  exact e1
theorem hp_alen (hx : p.tables.exec = Jvm.exec) (hb : c.code = cc) (hZ : hp_Z D cs B s V H n locs) (t0 : Nat) {cA : ClassId} {x : vp_A} (ha : V a = some (.inl (cA, x))) {ty : FieldType} (ht : (hp_ty cs)[t0]? = some (cA, ty)) {v : Int32} (hv : Int32.ofNat x.1 = v) (hdg : decode cc pc = .ok (.arraylength, 1))
    (kk : W p l e R s m args below meth c H locs cells slots Q (F0 m (pc + 1) ls (.int v :: rest))) : W p l e R s m args below meth c H locs cells slots Q (F0 m pc ls (.ref a :: rest)) :=
  va_alen hx hb hZ.2.2.1.1 (hZ.1.one ha) 0 t0 rfl ht hv hdg kk
theorem hp_iald (hx : p.tables.exec = Jvm.exec) (hb : c.code = cc) (hZ : hp_Z D cs B s V H n locs) {N : Nat} {f : Nat → Int32} (ha : V a = some (.inl (cs 1, N, .inl f))) {i : Int32} (hin : vp_in i N) (hdg : decode cc pc = .ok (.iaload, 1))
    (kk : W p l e R s m args below meth c H locs cells slots Q (F0 m (pc + 1) ls (.int (f i.toNatClampNeg) :: rest))) : W p l e R s m args below meth c H locs cells slots Q (F0 m pc ls (.int i :: .ref a :: rest)) :=
  va_iald hx hb hZ.2.2.1.1 (hZ.1.one ha) 0 1 rfl rfl hin hdg kk
theorem hp_bald (hx : p.tables.exec = Jvm.exec) (hb : c.code = cc) (hZ : hp_Z D cs B s V H n locs) {N : Nat} {f : Nat → Int32} (ha : V a = some (.inl (cs 0, N, .inl f))) {i : Int32} (hin : vp_in i N) (hdg : decode cc pc = .ok (.baload, 1))
    (kk : W p l e R s m args below meth c H locs cells slots Q (F0 m (pc + 1) ls (.int (f i.toNatClampNeg) :: rest))) : W p l e R s m args below meth c H locs cells slots Q (F0 m pc ls (.int i :: .ref a :: rest)) :=
  va_bald hx hb hZ.2.2.1.1 (hZ.1.one ha) 0 0 rfl rfl hin hdg kk
theorem hp_zald (hx : p.tables.exec = Jvm.exec) (hb : c.code = cc) (hZ : hp_Z D cs B s V H n locs) {N : Nat} {f : Nat → Int32} (ha : V a = some (.inl (cs 3, N, .inl f))) {i : Int32} (hin : vp_in i N) (hdg : decode cc pc = .ok (.baload, 1))
    (kk : W p l e R s m args below meth c H locs cells slots Q (F0 m (pc + 1) ls (.int (f i.toNatClampNeg) :: rest))) : W p l e R s m args below meth c H locs cells slots Q (F0 m pc ls (.int i :: .ref a :: rest)) :=
  va_zald hx hb hZ.2.2.1.1 (hZ.1.one ha) 0 3 rfl rfl hin hdg kk
theorem hp_lald (hx : p.tables.exec = Jvm.exec) (hb : c.code = cc) (hZ : hp_Z D cs B s V H n locs) {N : Nat} {f : Nat → Int64} (ha : V a = some (.inl (cs 2, N, .inr (.inl f)))) {i : Int32} (hin : vp_in i N) (hdg : decode cc pc = .ok (.laload, 1))
    (kk : W p l e R s m args below meth c H locs cells slots Q (F0 m (pc + 1) ls (.long (f i.toNatClampNeg) :: rest))) : W p l e R s m args below meth c H locs cells slots Q (F0 m pc ls (.int i :: .ref a :: rest)) :=
  va_lald hx hb hZ.2.2.1.1 (hZ.1.one ha) 0 2 rfl rfl hin hdg kk
theorem hp_aald (hx : p.tables.exec = Jvm.exec) (hb : c.code = cc) (hZ : hp_Z D cs B s V H n locs) (t0 : Nat) {cA : ClassId} {C : String} {N : Nat} {f : Nat → Option Nat} (ha : V a = some (.inl (cA, N, .inr (.inr (.inr (.inr f)))))) (ht : (hp_ty cs)[t0]? = some (cA, .object C)) {i : Int32} (hin : vp_in i N) {v : Value} (hv : va_rf (f i.toNatClampNeg) = v) (hdg : decode cc pc = .ok (.aaload, 1))
    (kk : W p l e R s m args below meth c H locs cells slots Q (F0 m (pc + 1) ls (v :: rest))) : W p l e R s m args below meth c H locs cells slots Q (F0 m pc ls (.int i :: .ref a :: rest)) := by
  subst hv
  exact va_aldq hx hb hZ.2.2.1.1 (hZ.1.one ha) 0 t0 rfl ht hin hdg kk
theorem hp_iast (hx : p.tables.exec = Jvm.exec) (hb : c.code = cc) (hZ : hp_Z D cs B s V H n locs) {N : Nat} {f : Nat → Int32} (ha : V a = some (.inl (cs 1, N, .inl f))) {i x : Int32} (hin : vp_in i N) (hdg : decode cc pc = .ok (.iastore, 1))
    (kk : ∀ (V1 : hp_V) (H1 : Heap) (locs1 : List Loc), V1 a = some (.inl (cs 1, N, .inl (upd f i.toNatClampNeg x))) → (∀ x, x ≠ a → V1 x = V x) → hp_Z D cs B s V1 H1 n locs1 → W p l e R s m args below meth c H1 locs1 cells slots Q (F0 m (pc + 1) ls rest)) : W p l e R s m args below meth c H locs cells slots Q (F0 m pc ls (.int x :: .int i :: .ref a :: rest)) := by
  refine W.iast hx hb (hZ.1 a _ ha).2 ((hZ.2.2.1.1.2 1 _ rfl).1 N (fun j => .int (f j))) (fun q => by cases q) (by show ¬ (i < 0 ∨ (arrV _ _ _).slots.size ≤ _); rw [arrV_size]; exact hin) rfl rfl hdg fun H1 e z oq => ?_
  refine kk _ H1 _ (hp_up_eq V a _) (hp_up_ne V a _) (hZ.put ha ?_ z oq)
  show H1[a]? = some (vp_cell _ _)
  rw [e, vp_cell_i, vp_cell_i, arrV_store]
  congr 2
  funext q
  by_cases hq : q = i.toNatClampNeg
  · subst hq; simp [updV, upd]
  · simp [updV, upd, hq]
theorem hp_bast (hx : p.tables.exec = Jvm.exec) (hb : c.code = cc) (hZ : hp_Z D cs B s V H n locs) {N : Nat} {f : Nat → Int32} (ha : V a = some (.inl (cs 0, N, .inl f))) {i x : Int32} (hin : vp_in i N) (hdg : decode cc pc = .ok (.bastore, 1))
    (kk : ∀ (V1 : hp_V) (H1 : Heap) (locs1 : List Loc), V1 a = some (.inl (cs 0, N, .inl (upd f i.toNatClampNeg x.toInt8.toInt32))) → (∀ x, x ≠ a → V1 x = V x) → hp_Z D cs B s V1 H1 n locs1 → W p l e R s m args below meth c H1 locs1 cells slots Q (F0 m (pc + 1) ls rest)) : W p l e R s m args below meth c H locs cells slots Q (F0 m pc ls (.int x :: .int i :: .ref a :: rest)) := by
  refine W.bast hx hb (hZ.1 a _ ha).2 ((hZ.2.2.1.1.2 0 _ rfl).1 N (fun j => .int (f j))) (fun q => by cases q) (by show ¬ (i < 0 ∨ (arrV _ _ _).slots.size ≤ _); rw [arrV_size]; exact hin) rfl rfl hdg fun H1 e z oq => ?_
  refine kk _ H1 _ (hp_up_eq V a _) (hp_up_ne V a _) (hZ.put ha ?_ z oq)
  show H1[a]? = some (vp_cell _ _)
  rw [e, vp_cell_i, vp_cell_i, arrV_store]
  congr 2
  funext q
  by_cases hq : q = i.toNatClampNeg
  · subst hq; simp [updV, upd, narrow]
  · simp [updV, upd, hq]
theorem hp_zast (hx : p.tables.exec = Jvm.exec) (hb : c.code = cc) (hZ : hp_Z D cs B s V H n locs) {N : Nat} {f : Nat → Int32} (ha : V a = some (.inl (cs 3, N, .inl f))) {i x : Int32} (hin : vp_in i N) (hdg : decode cc pc = .ok (.bastore, 1))
    (kk : ∀ (V1 : hp_V) (H1 : Heap) (locs1 : List Loc), V1 a = some (.inl (cs 3, N, .inl (upd f i.toNatClampNeg (vp_nar .boolean x)))) → (∀ x, x ≠ a → V1 x = V x) → hp_Z D cs B s V1 H1 n locs1 → W p l e R s m args below meth c H1 locs1 cells slots Q (F0 m (pc + 1) ls rest)) : W p l e R s m args below meth c H locs cells slots Q (F0 m pc ls (.int x :: .int i :: .ref a :: rest)) := by
  refine W.zast hx hb (hZ.1 a _ ha).2 ((hZ.2.2.1.1.2 3 _ rfl).1 N (fun j => .int (f j))) (fun q => by cases q) (by show ¬ (i < 0 ∨ (arrV _ _ _).slots.size ≤ _); rw [arrV_size]; exact hin) rfl rfl hdg fun H1 e z oq => ?_
  refine kk _ H1 _ (hp_up_eq V a _) (hp_up_ne V a _) (hZ.put ha ?_ z oq)
  show H1[a]? = some (vp_cell _ _)
  rw [e, vp_cell_i, vp_cell_i, arrV_store]
  congr 2
  funext q
  by_cases hq : q = i.toNatClampNeg
  · subst hq; simp [updV, upd, narrow, vp_nar]
  · simp [updV, upd, hq]
theorem hp_last (hx : p.tables.exec = Jvm.exec) (hb : c.code = cc) (hZ : hp_Z D cs B s V H n locs) {N : Nat} {f : Nat → Int64} (ha : V a = some (.inl (cs 2, N, .inr (.inl f)))) {i : Int32} {x : Int64} (hin : vp_in i N) (hdg : decode cc pc = .ok (.lastore, 1))
    (kk : ∀ (V1 : hp_V) (H1 : Heap) (locs1 : List Loc), V1 a = some (.inl (cs 2, N, .inr (.inl (vp_updL f i.toNatClampNeg x)))) → (∀ x, x ≠ a → V1 x = V x) → hp_Z D cs B s V1 H1 n locs1 → W p l e R s m args below meth c H1 locs1 cells slots Q (F0 m (pc + 1) ls rest)) : W p l e R s m args below meth c H locs cells slots Q (F0 m pc ls (.long x :: .int i :: .ref a :: rest)) := by
  refine W.last hx hb (hZ.1 a _ ha).2 ((hZ.2.2.1.1.2 2 _ rfl).1 N (fun j => .long (f j))) (fun q => by cases q) (by show ¬ (i < 0 ∨ (arrV _ _ _).slots.size ≤ _); rw [arrV_size]; exact hin) rfl rfl hdg fun H1 e z oq => ?_
  refine kk _ H1 _ (hp_up_eq V a _) (hp_up_ne V a _) (hZ.put ha ?_ z oq)
  show H1[a]? = some (vp_cell _ _)
  rw [e, vp_cell_l, vp_cell_l, arrV_store]
  congr 2
  funext q
  by_cases hq : q = i.toNatClampNeg
  · subst hq; simp [updV, vp_updL]
  · simp [updV, vp_updL, hq]
theorem hp_aast (hx : p.tables.exec = Jvm.exec) (hb : c.code = cc) (hZ : hp_Z D cs B s V H n locs) (t0 ci : Nat) {cA : ClassId} {r : vw_C} {N v : Nat} {vs : List Value} {f : Nat → Option Nat} (ha : V a = some (.inl (cA, N, .inr (.inr (.inr (.inr f)))))) (ht : (hp_ty cs)[t0]? = some (cA, .object r.1)) (hv : V v = some (.inr (ci, vs))) (hc : vwCl[ci]? = some r) {i : Int32} (hin : vp_in i N) (hdg : decode cc pc = .ok (.aastore, 1))
    (kk : ∀ (V1 : hp_V) (H1 : Heap) (locs1 : List Loc), V1 a = some (.inl (cA, N, .inr (.inr (.inr (.inr (va_up f i.toNatClampNeg (some v))))))) → (∀ x, x ≠ a → V1 x = V x) → hp_Z D cs B s V1 H1 n locs1 → W p l e R s m args below meth c H1 locs1 cells slots Q (F0 m (pc + 1) ls rest)) : W p l e R s m args below meth c H locs cells slots Q (F0 m pc ls (.ref v :: .int i :: .ref a :: rest)) := by
  have hlt : i.toNatClampNeg < N := Nat.not_le.mp fun q => hin (Or.inr q)
  have h0 : ¬ i < 0 := fun q => hin (Or.inl q)
  obtain ⟨r', hr', cellV, g1, g2, g3, -⟩ := (hZ.1 v _ hv).2
  have hcls := (hZ.2.2.1.1.1 ci r hc).2
  obtain ⟨kA, comp, k1, k2, k3, -⟩ := (hZ.2.2.1.1.2 t0 _ ht).2
  have hcomp : comp = D.1 ci := Option.some.inj (k3.symm.trans hcls.1)
  subst hcomp
  obtain ⟨kC, hkC, -⟩ := hcls.2
  refine W.aast hx hb (hZ.1 a _ ha).2 (fun q h => by cases h) (fun h => by cases h) k1 k2 rfl hkC ⟨h0, by show _ < (arrV _ _ _).slots.size; rw [arrV_size]; exact hlt⟩ g1 (fun q h => by rw [g3] at h; cases h) (by rw [g2]; exact hkC) (by rw [g2]; exact va_assign hcls) rfl rfl hdg fun H1 e z oq => ?_
  refine kk _ H1 _ (hp_up_eq V a _) (hp_up_ne V a _) (hZ.put ha ?_ z oq)
  show H1[a]? = some (vp_cell _ _)
  rw [e, vp_cell_q, vp_cell_q, arrV_store]
  congr 2
  funext q
  by_cases hq : q = i.toNatClampNeg
  · subst hq; simp [updV, va_up, va_rf]
  · simp [updV, va_up, hq]
theorem hp_gets (hx : p.tables.exec = Jvm.exec) (hb : c.code = cc) (hts : ∀ w ∈ TBG, w.before args s = true) (hown : s.vm.findClass own = some m.cls) (hZ : hp_Z D cs B s V H n locs) {C nm ds : String} {index : Nat} (hq : va_Zq C nm ds (hp_F B) s s.heap) (hl : Cond.fieldLink own index C nm ds ∈ TBG) (hdg : decode cc pc = .ok (.getstatic index, 3))
    (kk : ∀ v : Value, (v = .null ∨ ∃ t, v = .ref t) → W p l e R s m args below meth c H locs cells slots Q (F0 m (pc + 3) ls (v :: rest))) : W p l e R s m args below meth c H locs cells slots Q (F0 m pc ls rest) := by
  rcases hq with h | ⟨t, h⟩
  · exact va_gets hx hb h hZ.2.1 hown (hts _ hl) (fun _ h9 => h9) hdg (kk _ (Or.inl rfl))
  · exact va_gets hx hb h hZ.2.1 hown (hts _ hl) (fun _ h9 => h9) hdg (kk _ (Or.inr ⟨t, rfl⟩))
end HPR
/-! ===== contracts ===== -/
abbrev hp_QI (D : va_G) (cs : Nat → ClassId) (B : Nat) (post : Int32 → hp_V → Nat → Prop) : Array Value → State → Outcome → State → Prop := va_Qi (S := hp_V × Nat) (fun r u => post r u.1 u.2) (fun u t => hp_Pre D cs B u.1 u.2 t) (hp_F B)
abbrev hp_QL (D : va_G) (cs : Nat → ClassId) (B : Nat) (post : Int64 → hp_V → Nat → Prop) : Array Value → State → Outcome → State → Prop := va_Ql (S := hp_V × Nat) (fun r u => post r u.1 u.2) (fun u t => hp_Pre D cs B u.1 u.2 t) (hp_F B)
abbrev hp_QV (D : va_G) (cs : Nat → ClassId) (B : Nat) (post : hp_V → Nat → Prop) : Array Value → State → Outcome → State → Prop := va_Qv (S := hp_V × Nat) (fun u => post u.1 u.2) (fun u t => hp_Pre D cs B u.1 u.2 t) (hp_F B)
abbrev hp_QR (D : va_G) (cs : Nat → ClassId) (B : Nat) (post : Option Nat → hp_V → Nat → Prop) : Array Value → State → Outcome → State → Prop := va_Qq (S := hp_V × Nat) (fun r u => post r u.1 u.2) (fun u t => hp_Pre D cs B u.1 u.2 t) (hp_F B)
/-- a contract: from the picture V on a heap of n cells, with the arguments As -/
abbrev hp_M (l : Launch) (y : MethodName) (b : ByteArray) (mL : Nat) (rt : Option FieldType) (rm : Room) (D : va_G) (cs : Nat → ClassId) (B : Nat) (V : hp_V) (n : Nat) (As : List Value) (Qc : Array Value → State → Outcome → State → Prop) (mc ms : Nat) : Prop := Met l y (hp_kw y b mL rt) rm (va_Pc As (hp_Pre D cs B V n)) Qc mc ms (hp_F B)
theorem hp_blind {D : va_G} {cs : Nat → ClassId} {B : Nat} {V : hp_V} {n : Nat} {As : List Value} : FrameBlind (va_Pc As (hp_Pre D cs B V n)) := by
  intro a U g mk h
  obtain ⟨q0, q1, q2, q3, q4, q5⟩ := h
  exact ⟨q0, q1, hp_K.same (u := U) (U := U.calling g mk a) rfl (Vm.Alike.refl U.vm) q2, q3, q4, hp_G.same (u := U) (U := U.calling g mk a) rfl (Vm.Alike.refl U.vm) q5⟩
theorem hp_Z.pre {D : va_G} {cs : Nat → ClassId} {B : Nat} {s : State} {V : hp_V} {H : Heap} {n : Nat} {locs : List Loc} (h : hp_Z D cs B s V H n locs) {U : State} (hU : U.heap = H) (hW : s.WarmedH U.vm) : hp_Pre D cs B V n U := by
  obtain ⟨h1, h2, h3, h4, h5, h6⟩ := h
  exact ⟨by rw [hU]; exact h1, hp_K.warm hW h3, by rw [hU]; exact Nat.le_trans h4 h2.1, by rw [hU]; exact h5, by rw [hU]; exact h6.go h2 hW⟩
theorem hp_Z.back {D : va_G} {cs : Nat → ClassId} {B : Nat} {s t : State} {V V1 : hp_V} {H H1 : Heap} {n n1 : Nat} {locs locs1 : List Loc} (h : hp_Z D cs B s V H n locs) (ht : t.heap = H1) (hb : hp_Pre D cs B V1 n1 t) (hS : va_S (hp_F B) s.heap H1 locs1) : hp_Z D cs B s V1 H1 n1 locs1 :=
  ⟨by rw [← ht]; exact hb.1, hS, h.2.2.1, h.2.2.2.1, by rw [← ht]; exact hb.2.2.2.1, h.2.2.2.2.2⟩
section HPC
variable {p : Program} {l : Launch} {e : Env} {R : Room} {s : State} {m : MethodId} {args : Array Value} {below : List Frame} {meth : Method} {c : Code} {H : Heap} {locs : List Loc} {cells slots : Nat} {Q : State → Prop}
variable {cc : ByteArray} {pc : Nat} {ls : Array Slot} {rest : List Value} {D : va_G} {cs : Nat → ClassId} {B n a : Nat} {V : hp_V} {w0 : Cond} {own : String}
variable {y : MethodName} {b : ByteArray} {mL nL mc ms index np : Nat} {rt : Option FieldType} {rm : Room} {As st0 : List Value}
/-- the static facts of a call: virtual, static, <init> -/
def hp_CV (own : String) (index ci : Nat) (y : MethodName) (b : ByteArray) (mL : Nat) (rt : Option FieldType) (np : Nat) : Prop := (∃ T N, vwCl[ci]? = some (y.cls, T, N)) ∧ Cond.methodLink own index y ∈ TBG ∧ Cond.instanceMethod y ∈ TBG ∧ Cond.selects y.cls y y ∈ TBG ∧ Cond.initialized y.cls ∈ TBG ∧ Cond.code y b mL rt ∈ TBG ∧ y.cls ≠ "java/lang/invoke/MethodHandle" ∧ y.cls ≠ "java/lang/invoke/VarHandle" ∧ (parseMethodDescriptor y.desc).map (fun d => d.parameters.length) = some np
def hp_CS (own : String) (index : Nat) (y : MethodName) (b : ByteArray) (mL : Nat) (rt : Option FieldType) (np : Nat) : Prop := Cond.methodLink own index y ∈ TBG ∧ Cond.static y ∈ TBG ∧ Cond.initialized y.cls ∈ TBG ∧ Cond.code y b mL rt ∈ TBG ∧ y.cls ≠ "java/lang/invoke/MethodHandle" ∧ y.cls ≠ "java/lang/invoke/VarHandle" ∧ (parseMethodDescriptor y.desc).map (fun d => d.parameters.length) = some np
def hp_CN (own : String) (index : Nat) (y : MethodName) (b : ByteArray) (mL : Nat) (np : Nat) : Prop := Cond.methodLink own index y ∈ TBG ∧ Cond.instanceMethod y ∈ TBG ∧ Cond.initialized y.cls ∈ TBG ∧ Cond.code y b mL none ∈ TBG ∧ y.name = "<init>" ∧ y.cls ≠ "java/lang/invoke/MethodHandle" ∧ y.cls ≠ "java/lang/invoke/VarHandle" ∧ (parseMethodDescriptor y.desc).map (fun d => d.parameters.length) = some np
theorem hp_runV {Qc : Array Value → State → Outcome → State → Prop} {ci : Nat} {fs : List Value} {o : Nat} (hx : p.tables.exec = Jvm.exec) (hb : c.code = cc) (hml : c.maxLocals = nL) (hown : s.vm.findClass own = some m.cls) (hts : ∀ w ∈ TBG, w.before args s = true) (hM : hp_M l y b mL rt rm D cs B V n (.ref o :: As) Qc mc ms) (hZ : hp_Z D cs B s V H n locs) (ho : V o = some (.inr (ci, fs))) (hc : hp_CV own index ci y b mL rt np) (hmc : rm.cells = mc) (hms : rm.slots = ms) (hR : rm.frames + 1 ≤ R.frames ∧ 8 + (mL + 11) + rm.locals ≤ R.locals) (hn : As.length = np) (hl : ls.size = nL) (hst : st0 = As.reverse ++ .ref o :: rest) (hW : (rest.map fun v => v.category).sum ≤ 8) (hdg : decode cc pc = .ok (.invokevirtual index, 3)) (hf : cells + mc ≤ R.cells ∧ slots + ms ≤ R.slots) :
    va_Run p l e R s m args below meth c H locs cells slots mc ms (F0 m pc ls st0) rest (Qc (Value.ref o :: As).toArray) (hp_F B) := by
  obtain ⟨⟨T, N, c1⟩, c2, c3, c4, c5, c6, c7, c8, c9⟩ := hc
  exact va_runV (Ts := TBG) (C := y.cls) ⟨hx, hb, hml, hown, hts⟩ hM ⟨callB_of np hts (hp_good0 c6) rfl hmc hms (hts _ c5) (hts _ c2) ⟨c7, c8, c9⟩ hR, hts _ c3, hts _ c4⟩ ⟨hp_blind, va_recv hZ.2.2.1.1 (hZ.1.one ho) (q0 := 0) c1 rfl, fun U hU hWm => ⟨rfl, hZ.pre hU hWm⟩⟩ rfl hn hl hst (lv_room hW) hdg hf
theorem hp_runS {Qc : Array Value → State → Outcome → State → Prop} (hx : p.tables.exec = Jvm.exec) (hb : c.code = cc) (hml : c.maxLocals = nL) (hown : s.vm.findClass own = some m.cls) (hts : ∀ w ∈ TBG, w.before args s = true) (hM : hp_M l y b mL rt rm D cs B V n As Qc mc ms) (hZ : hp_Z D cs B s V H n locs) (hc : hp_CS own index y b mL rt np) (hmc : rm.cells = mc) (hms : rm.slots = ms) (hR : rm.frames + 1 ≤ R.frames ∧ 8 + (mL + 11) + rm.locals ≤ R.locals) (hn : As.length = np) (hl : ls.size = nL) (hst : st0 = As.reverse ++ rest) (hW : (rest.map fun v => v.category).sum ≤ 8) (hdg : decode cc pc = .ok (.invokestatic index, 3)) (hf : cells + mc ≤ R.cells ∧ slots + ms ≤ R.slots) :
    va_Run p l e R s m args below meth c H locs cells slots mc ms (F0 m pc ls st0) rest (Qc As.toArray) (hp_F B) := by
  obtain ⟨c2, c3, c5, c6, c7, c8, c9⟩ := hc
  exact va_runS (Ts := TBG) ⟨hx, hb, hml, hown, hts⟩ hM ⟨callB_of np hts (hp_good0 c6) rfl hmc hms (hts _ c5) (hts _ c2) ⟨c7, c8, c9⟩ hR, hts _ c3⟩ ⟨hp_blind, fun U hU hWm => ⟨rfl, hZ.pre hU hWm⟩⟩ rfl hn hl hst (lv_room hW) hdg hf
theorem hp_runN {Qc : Array Value → State → Outcome → State → Prop} {o : Nat} (hx : p.tables.exec = Jvm.exec) (hb : c.code = cc) (hml : c.maxLocals = nL) (hown : s.vm.findClass own = some m.cls) (hts : ∀ w ∈ TBG, w.before args s = true) (hM : hp_M l y b mL none rm D cs B V n (.ref o :: As) Qc mc ms) (hZ : hp_Z D cs B s V H n locs) (hc : hp_CN own index y b mL np) (hmc : rm.cells = mc) (hms : rm.slots = ms) (hR : rm.frames + 1 ≤ R.frames ∧ 8 + (mL + 11) + rm.locals ≤ R.locals) (hn : As.length = np) (hl : ls.size = nL) (hst : st0 = As.reverse ++ .ref o :: rest) (hW : (rest.map fun v => v.category).sum ≤ 8) (hdg : decode cc pc = .ok (.invokespecial index, 3)) (hf : cells + mc ≤ R.cells ∧ slots + ms ≤ R.slots) :
    va_Run p l e R s m args below meth c H locs cells slots mc ms (F0 m pc ls st0) rest (Qc (Value.ref o :: As).toArray) (hp_F B) := by
  obtain ⟨c2, c3, c5, c6, c1, c7, c8, c9⟩ := hc
  exact va_runI (Ts := TBG) ⟨hx, hb, hml, hown, hts⟩ hM ⟨callB_of np hts (hp_good0 c6) rfl hmc hms (hts _ c5) (hts _ c2) ⟨c7, c8, c9⟩ hR, c1, hts _ c3⟩ ⟨hp_blind, fun U hU hWm => ⟨rfl, hZ.pre hU hWm⟩⟩ rfl hn hl hst (lv_room hW) hdg hf
def hp_CNN (own : String) (index : Nat) (y : MethodName) (b : ByteArray) (mL : Nat) (np : Nat) : Prop := (∀ s, hp_N s → va_Nw (.methodLinkNest own index y RX11) s) ∧ Cond.instanceMethod y ∈ TBG ∧ Cond.initialized y.cls ∈ TBG ∧ Cond.code y b mL none ∈ TBG ∧ y.name = "<init>" ∧ y.cls ≠ "java/lang/invoke/MethodHandle" ∧ y.cls ≠ "java/lang/invoke/VarHandle" ∧ (parseMethodDescriptor y.desc).map (fun d => d.parameters.length) = some np
def hp_CSN (own : String) (index : Nat) (y : MethodName) (b : ByteArray) (mL : Nat) (rt : Option FieldType) (np : Nat) : Prop := (∀ s, hp_N s → va_Nw (.methodLinkNest own index y RX11) s) ∧ Cond.static y ∈ TBG ∧ Cond.initialized y.cls ∈ TBG ∧ Cond.code y b mL rt ∈ TBG ∧ y.cls ≠ "java/lang/invoke/MethodHandle" ∧ y.cls ≠ "java/lang/invoke/VarHandle" ∧ (parseMethodDescriptor y.desc).map (fun d => d.parameters.length) = some np
theorem hp_runNN {Qc : Array Value → State → Outcome → State → Prop} {o : Nat} (hx : p.tables.exec = Jvm.exec) (hb : c.code = cc) (hml : c.maxLocals = nL) (hown : s.vm.findClass own = some m.cls) (hts : ∀ w ∈ TBG, w.before args s = true) (hM : hp_M l y b mL none rm D cs B V n (.ref o :: As) Qc mc ms) (hZ : hp_Z D cs B s V H n locs) (hc : hp_CNN own index y b mL np) (hmc : rm.cells = mc) (hms : rm.slots = ms) (hR : rm.frames + 1 ≤ R.frames ∧ 8 + (mL + 11) + rm.locals ≤ R.locals) (hn : As.length = np) (hl : ls.size = nL) (hst : st0 = As.reverse ++ .ref o :: rest) (hW : (rest.map fun v => v.category).sum ≤ 8) (hdg : decode cc pc = .ok (.invokespecial index, 3)) (hf : cells + mc ≤ R.cells ∧ slots + ms ≤ R.slots) :
    va_Run p l e R s m args below meth c H locs cells slots mc ms (F0 m pc ls st0) rest (Qc (Value.ref o :: As).toArray) (hp_F B) := by
  obtain ⟨c2, c3, c5, c6, c1, c7, c8, c9⟩ := hc
  exact va_runIN (Ts := TBG) (host := RX11) ⟨hx, hb, hml, hown, hts⟩ hM ⟨va_cnB np hts (hp_good0 c6) rfl hmc hms (c2 s hZ.2.2.1.2.2.2.2.2) (hts _ c5) ⟨c7, c8, c9⟩ hR, c1, hts _ c3⟩ ⟨hp_blind, fun U hU hWm => ⟨rfl, hZ.pre hU hWm⟩⟩ rfl hn hl hst (lv_room hW) hdg hf
theorem hp_runSN {Qc : Array Value → State → Outcome → State → Prop} (hx : p.tables.exec = Jvm.exec) (hb : c.code = cc) (hml : c.maxLocals = nL) (hown : s.vm.findClass own = some m.cls) (hts : ∀ w ∈ TBG, w.before args s = true) (hM : hp_M l y b mL rt rm D cs B V n As Qc mc ms) (hZ : hp_Z D cs B s V H n locs) (hc : hp_CSN own index y b mL rt np) (hmc : rm.cells = mc) (hms : rm.slots = ms) (hR : rm.frames + 1 ≤ R.frames ∧ 8 + (mL + 11) + rm.locals ≤ R.locals) (hn : As.length = np) (hl : ls.size = nL) (hst : st0 = As.reverse ++ rest) (hW : (rest.map fun v => v.category).sum ≤ 8) (hdg : decode cc pc = .ok (.invokestatic index, 3)) (hf : cells + mc ≤ R.cells ∧ slots + ms ≤ R.slots) :
    va_Run p l e R s m args below meth c H locs cells slots mc ms (F0 m pc ls st0) rest (Qc As.toArray) (hp_F B) := by
  obtain ⟨c2, c3, c5, c6, c7, c8, c9⟩ := hc
  exact va_runSN (Ts := TBG) (host := RX11) ⟨hx, hb, hml, hown, hts⟩ hM ⟨va_cnB np hts (hp_good0 c6) rfl hmc hms (c2 s hZ.2.2.1.2.2.2.2.2) (hts _ c5) ⟨c7, c8, c9⟩ hR, hts _ c3, trivial⟩ ⟨hp_blind, fun U hU hWm => ⟨rfl, hZ.pre hU hWm⟩⟩ rfl hn hl hst (lv_room hW) hdg hf
def hp_CVS (own : String) (index : Nat) (y : MethodName) (b : ByteArray) (mL : Nat) (rt : Option FieldType) (np : Nat) : Prop := y.cls = "java/lang/String" ∧ Cond.methodLink own index y ∈ TBG ∧ Cond.instanceMethod y ∈ TBG ∧ Cond.selects y.cls y y ∈ TBG ∧ Cond.initialized y.cls ∈ TBG ∧ Cond.code y b mL rt ∈ TBG ∧ y.cls ≠ "java/lang/invoke/MethodHandle" ∧ y.cls ≠ "java/lang/invoke/VarHandle" ∧ (parseMethodDescriptor y.desc).map (fun d => d.parameters.length) = some np
theorem hp_runVS {Qc : Array Value → State → Outcome → State → Prop} {i o : Nat} (hx : p.tables.exec = Jvm.exec) (hb : c.code = cc) (hml : c.maxLocals = nL) (hown : s.vm.findClass own = some m.cls) (hts : ∀ w ∈ TBG, w.before args s = true) (hM : hp_M l y b mL rt rm D cs B V n (.ref o :: As) Qc mc ms) (hZ : hp_Z D cs B s V H n locs) (hi : i < 18) (ho : o = cs (100 + i)) (hc : hp_CVS own index y b mL rt np) (hmc : rm.cells = mc) (hms : rm.slots = ms) (hR : rm.frames + 1 ≤ R.frames ∧ 8 + (mL + 11) + rm.locals ≤ R.locals) (hn : As.length = np) (hl : ls.size = nL) (hst : st0 = As.reverse ++ .ref o :: rest) (hW : (rest.map fun v => v.category).sum ≤ 8) (hdg : decode cc pc = .ok (.invokevirtual index, 3)) (hf : cells + mc ≤ R.cells ∧ slots + ms ≤ R.slots) :
    va_Run p l e R s m args below meth c H locs cells slots mc ms (F0 m pc ls st0) rest (Qc (Value.ref o :: As).toArray) (hp_F B) := by
  obtain ⟨c1, c2, c3, c4, c5, c6, c7, c8, c9⟩ := hc
  subst ho
  have hrv := vk_recv hZ.2.2.2.2.2.2.2.2.2.1 hi hZ.2.1
  rw [← c1] at hrv
  exact va_runV (Ts := TBG) (C := y.cls) ⟨hx, hb, hml, hown, hts⟩ hM ⟨callB_of np hts (hp_good0 c6) rfl hmc hms (hts _ c5) (hts _ c2) ⟨c7, c8, c9⟩ hR, hts _ c3, hts _ c4⟩ ⟨hp_blind, hrv, fun U hU hWm => ⟨rfl, hZ.pre hU hWm⟩⟩ rfl hn hl hst (lv_room hW) hdg hf
variable {aa : Array Value}
theorem hp_calli {post : Int32 → hp_V → Nat → Prop} (hr : va_Run p l e R s m args below meth c H locs cells slots mc ms (F0 m pc ls st0) rest (hp_QI D cs B post aa) (hp_F B)) (hZ : hp_Z D cs B s V H n locs)
    (kk : ∀ (r : Int32) (V1 : hp_V) (n1 : Nat) (H1 : Heap) (locs1 : List Loc), post r V1 n1 → hp_Z D cs B s V1 H1 n1 locs1 → W p l e R s m args below meth c H1 locs1 (cells + mc) (slots + ms) Q (F0 m (pc + 3) ls (.int r :: rest))) : W p l e R s m args below meth c H locs cells slots Q (F0 m pc ls st0) :=
  va_calli hr hZ.2.1 (fun _ _ h => h) (fun _ h => h) (fun r u t H1 locs1 ht _ hp hB _ _ hS => kk r u.1 u.2 H1 locs1 hp (hZ.back ht hB hS))
theorem hp_calll {post : Int64 → hp_V → Nat → Prop} (hr : va_Run p l e R s m args below meth c H locs cells slots mc ms (F0 m pc ls st0) rest (hp_QL D cs B post aa) (hp_F B)) (hZ : hp_Z D cs B s V H n locs)
    (kk : ∀ (r : Int64) (V1 : hp_V) (n1 : Nat) (H1 : Heap) (locs1 : List Loc), post r V1 n1 → hp_Z D cs B s V1 H1 n1 locs1 → W p l e R s m args below meth c H1 locs1 (cells + mc) (slots + ms) Q (F0 m (pc + 3) ls (.long r :: rest))) : W p l e R s m args below meth c H locs cells slots Q (F0 m pc ls st0) :=
  va_calll hr hZ.2.1 (fun _ _ h => h) (fun _ h => h) (fun r u t H1 locs1 ht _ hp hB _ _ hS => kk r u.1 u.2 H1 locs1 hp (hZ.back ht hB hS))
theorem hp_callv {post : hp_V → Nat → Prop} (hr : va_Run p l e R s m args below meth c H locs cells slots mc ms (F0 m pc ls st0) rest (hp_QV D cs B post aa) (hp_F B)) (hZ : hp_Z D cs B s V H n locs)
    (kk : ∀ (V1 : hp_V) (n1 : Nat) (H1 : Heap) (locs1 : List Loc), post V1 n1 → hp_Z D cs B s V1 H1 n1 locs1 → W p l e R s m args below meth c H1 locs1 (cells + mc) (slots + ms) Q (F0 m (pc + 3) ls rest)) : W p l e R s m args below meth c H locs cells slots Q (F0 m pc ls st0) :=
  va_callv hr hZ.2.1 (fun _ _ h => h) (fun _ h => h) (fun u t H1 locs1 ht _ hp hB _ _ hS => kk u.1 u.2 H1 locs1 hp (hZ.back ht hB hS))
theorem hp_iret {post : Int32 → hp_V → Nat → Prop} {v : Int32} (hx : p.tables.exec = Jvm.exec) (hb : c.code = cc) (hr : meth.sig.returnType = some .int) (hlocks : meth.locks = false) (hZ : hp_Z D cs B s V H n locs) (hp : post v V n) (hdg : decode cc pc = .ok (.ireturn, 1)) : W p l e R s m args below meth c H locs cells slots (MQ below (hp_QI D cs B post) args s cells slots (hp_F B)) (F0 m pc ls [.int v]) :=
  W.iret (v := v) hx hb hr (fun t ht hW => ⟨⟨v, (V, n), rfl, hp, hZ.pre ht hW⟩, hZ.2.1.F ht⟩) hZ.2.1.2.2 hdg hlocks
theorem hp_zret {post : Int32 → hp_V → Nat → Prop} {v : Int32} {ty : FieldType} (hx : p.tables.exec = Jvm.exec) (hb : c.code = cc) (hr : meth.sig.returnType = some ty) (hnr : narrow ty (.int v) = .int v) (hlocks : meth.locks = false) (hZ : hp_Z D cs B s V H n locs) (hp : post v V n) (hdg : decode cc pc = .ok (.ireturn, 1)) : W p l e R s m args below meth c H locs cells slots (MQ below (hp_QI D cs B post) args s cells slots (hp_F B)) (F0 m pc ls [.int v]) :=
  W.zret (v := v) hx hb hr hnr (fun t ht hW => ⟨⟨v, (V, n), rfl, hp, hZ.pre ht hW⟩, hZ.2.1.F ht⟩) hZ.2.1.2.2 hdg hlocks
theorem hp_lret {post : Int64 → hp_V → Nat → Prop} {v : Int64} (hx : p.tables.exec = Jvm.exec) (hb : c.code = cc) (hr : meth.sig.returnType = some .long) (hlocks : meth.locks = false) (hZ : hp_Z D cs B s V H n locs) (hp : post v V n) (hdg : decode cc pc = .ok (.lreturn, 1)) : W p l e R s m args below meth c H locs cells slots (MQ below (hp_QL D cs B post) args s cells slots (hp_F B)) (F0 m pc ls [.long v]) :=
  W.lret (v := v) hx hb hr (fun t ht hW => ⟨⟨v, (V, n), rfl, hp, hZ.pre ht hW⟩, hZ.2.1.F ht⟩) hZ.2.1.2.2 hdg (hlocks := hlocks)
theorem hp_vret {post : hp_V → Nat → Prop} (hx : p.tables.exec = Jvm.exec) (hb : c.code = cc) (hr : meth.sig.returnType = none) (hlocks : meth.locks = false) (hZ : hp_Z D cs B s V H n locs) (hp : post V n) (hdg : decode cc pc = .ok (.return_, 1)) : W p l e R s m args below meth c H locs cells slots (MQ below (hp_QV D cs B post) args s cells slots (hp_F B)) (F0 m pc ls []) :=
  W.vret hx hb hr (fun t ht hW => ⟨⟨(V, n), rfl, hp, hZ.pre ht hW⟩, hZ.2.1.F ht⟩) hZ.2.1.2.2 hdg hlocks
theorem hp_aret {post : Option Nat → hp_V → Nat → Prop} {r : Option Nat} {rty : FieldType} (hx : p.tables.exec = Jvm.exec) (hb : c.code = cc) (hr : meth.sig.returnType = some rty) (hrt : (∃ n, rty = .object n) ∨ ∃ t, rty = .array t) (hlocks : meth.locks = false) (hZ : hp_Z D cs B s V H n locs) (hp : post r V n) (hdg : decode cc pc = .ok (.areturn, 1)) : W p l e R s m args below meth c H locs cells slots (MQ below (hp_QR D cs B post) args s cells slots (hp_F B)) (F0 m pc ls [va_rf r]) :=
  W.aret (v := va_rf r) hx hb hr hrt (by cases r with | none => exact Or.inl rfl | some x => exact Or.inr ⟨x, rfl⟩) (fun t ht hW => ⟨⟨r, (V, n), rfl, hp, hZ.pre ht hW⟩, hZ.2.1.F ht⟩) hZ.2.1.2.2 hdg hlocks
/-- a contract out of a walk of its body -/
theorem hp_walk {Qc : Array Value → State → Outcome → State → Prop} {R0 : String} (hy : plainName y.cls = true) (hcls : y.cls = R0)
    (body : ∀ (p : Program) (e : Env) (s : State) (m : MethodId) (below : List Frame) (meth : Method) (c : Code) (ls : Array Slot), p.tables.exec = Jvm.exec → c.code = b → meth.sig.returnType = rt → (∀ w ∈ TBG, w.before As.toArray s = true) → s.vm.findClass R0 = some m.cls → meth.locks = false → meth.name = y.name → c.maxLocals = mL → hp_Z D cs B s V s.heap n [] → lv_has ls mL (lv_args 0 As) →
      W p l e rm s m As.toArray below meth c s.heap [] 0 0 (MQ below Qc As.toArray s mc ms (hp_F B)) (F0 m 0 ls [])) (hlen : (lg_sl As).length ≤ mL) : hp_M l y b mL rt rm D cs B V n As Qc mc ms := by
  refine Met.ofW (cc := b) (maxL := mL) (ret := rt) hy rfl ?_
  intro p e s m args below meth c s₁ Bd hml hv
  obtain ⟨rfl, hpre⟩ := hv
  have hts := atoms_spec (ws := hp_kw y b mL rt) Bd.pre
  have hl := lv_entry As (n := mL) hlen
  rw [lg_entry_eq]
  have hnm : meth.name = y.name := (name_of_methodNamed Bd.named Bd.method).1
  subst hcls
  exact body p e s m below meth c _ Bd.exec Bd.bytes Bd.returns (fun w h => hts w (List.mem_cons_of_mem _ h)) (findClass_of_methodNamed Bd.named) Bd.notSynchronized hnm hml (hp_Z.start hpre) hl
end HPC

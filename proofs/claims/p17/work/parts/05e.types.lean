/-! ===== MY LAYER, 3: the heap typed. A map G from addresses to types; every cell keeps its type's invariant, whatever is written ===== -/
/-- a type: a tag and three numbers. 0 Text of room R; 1 its bytes; 2 int array (part, N, range); 3 long array N; 4 array of references (class index k of cs, N, element); 5 Line of book b; 6 Book b; 7 Form; 8 FormList; 9 Learner; 10 Parser; 11 Maker; 12 Survey; 13 Way; 14 Explainer; 15 the class; the reference: 20 byte array N; 21 int array (N, range); 22 boolean array N; 23 Stop; 24 the reference -/
abbrev hq_T : Type := Nat × Nat × Nat × Nat
/-- the ranges of int arrays: 0 any; 1: 0 .. 8; 2: 0 .. 12; 3: 0 .. 29; 4: 0 .. 59; 5: -1 .. 59; 6: 0 .. 61; 7: 0 .. 140; 8: 0 .. 60; 9: 0 .. 30; 10: 0 .. 62; 11: 0 .. 6; 12: 0 .. 2 -/
def hq_lo (k : Nat) : Int := if k = 0 then -2147483648 else if k = 5 then -1 else 0
def hq_hi (k : Nat) : Int := if k = 0 then 2147483647 else if k = 1 then 8 else if k = 2 then 12 else if k = 3 then 29 else if k = 4 then 59 else if k = 5 then 59 else if k = 6 then 61 else if k = 7 then 140 else if k = 8 then 60 else if k = 9 then 30 else if k = 10 then 62 else if k = 11 then 6 else 2
/-- the elements of an array of references, by its class index of cs: 7 Text 12; 6 Line of book b; 4 Form; 5 Learner -/
def hq_el (k b : Nat) : hq_T := if k = 7 then (0, 12, 0, 0) else if k = 6 then (5, b, 0, 0) else if k = 4 then (7, 0, 0, 0) else (9, 0, 0, 0)
/-- which part of the program a cell belongs to (a number, and the book's for books and lines): 0 the rest of the class, 2 the tape, 3 the texts of names and lines and the verbs' classes, 4 the parser, 5 the forms and the words, 6 the lists of forms, 7 the maker, 8 the explainer, 11 arrays of references (never written), 12 the class's own object, 13 the ways, 20 lines, 21 books; the reference: 1 its object, 40 its Stop, its arrays as their types say -/
def hq_grp (t : hq_T) : Nat × Nat :=
  if t.1 ≤ 1 then ((if t.2.1 = 4000 then 2 else if t.2.1 = 30 then 5 else if t.2.1 = 12 then 3 else if t.2.1 = 8 then 3 else 0), 0)
  else if t.1 = 2 then (t.2.1, 0) else if t.1 = 3 then (0, 0) else if t.1 = 4 then (11, 0) else if t.1 = 5 then (20, t.2.1) else if t.1 = 6 then (21, t.2.1) else if t.1 = 7 then (5, 0) else if t.1 = 8 then (6, 0) else if t.1 = 11 then (7, 0) else if t.1 = 13 then (13, 0) else if t.1 = 14 then (8, 0) else if t.1 = 10 then (4, 0) else if t.1 = 15 then (12, 0)
  else if t.1 = 20 then (t.2.2.1, 0) else if t.1 = 21 then (t.2.2.2, 0) else if t.1 = 22 then (t.2.2.1, 0) else if t.1 = 23 then (40, 0) else if t.1 = 24 then (1, 0) else (0, 0)
abbrev hq_G : Type := Nat → Option hq_T
def hq_ir (lo hi : Int) (x : Int32) : Prop := lo ≤ x.toInt ∧ x.toInt ≤ hi
def hq_okText (G : hq_G) (a R : Nat) (e : va_E) : Prop := ∃ (u : Nat) (z : Int32), e = .inr (9, [.ref u, .int z]) ∧ G u = some (1, R, 0, 0) ∧ 0 ≤ z.toInt ∧ z.toInt ≤ R ∧ R ≤ 100000 ∧ u = a + 1
def hq_okBytes (cs : Nat → ClassId) (R : Nat) (e : va_E) : Prop := R ≤ 100000 ∧ ∃ f : Nat → Int32, e = .inl (cs 0, R, .inl f)
def hq_okInts (cs : Nat → ClassId) (N k : Nat) (e : va_E) : Prop := N ≤ 100000 ∧ ∃ f : Nat → Int32, e = .inl (cs 1, N, .inl f) ∧ ∀ j, j < N → hq_ir (hq_lo k) (hq_hi k) (f j)
def hq_okB (cs : Nat → ClassId) (R : Nat) (e : va_E) : Prop := R ≤ 100000 ∧ ∃ f : Nat → Int32, e = .inl (cs 0, R, .inl f) ∧ ∀ j, j < R → fits .byte (.int (f j)) = true
def hq_okBools (cs : Nat → ClassId) (N : Nat) (e : va_E) : Prop := N ≤ 100000 ∧ ∃ f : Nat → Int32, e = .inl (cs 3, N, .inl f)
def hq_okLongs (cs : Nat → ClassId) (N : Nat) (e : va_E) : Prop := N ≤ 100000 ∧ ∃ f : Nat → Int64, e = .inl (cs 2, N, .inr (.inl f))
def hq_okRefs (cs : Nat → ClassId) (G : hq_G) (k N el : Nat) (e : va_E) : Prop := N ≤ 100000 ∧ ∃ f : Nat → Option Nat, e = .inl (cs k, N, .inr (.inr (.inr (.inr f)))) ∧ (∀ j, j < N → ∃ x, f j = some x ∧ G x = some (hq_el k el)) ∧ ∀ i j, i < N → j < N → f i = f j → i = j
def hq_okLine (G : hq_G) (e : va_E) : Prop := ∃ (k o t p h ht pa la : Int32) (a b : Nat), e = .inr (5, [.int k, .int o, .int t, .int p, .int h, .int ht, .int pa, .int la, .ref a, .ref b]) ∧ G a = some (0, 8, 0, 0) ∧ G b = some (0, 8, 0, 0) ∧ hq_ir (-1) 29 h
def hq_okBook (G : hq_G) (b : Nat) (e : va_E) : Prop := ∃ (cn vn vc ln : Nat) (c v l : Int32), e = .inr (0, [.ref cn, .int c, .ref vn, .ref vc, .int v, .ref ln, .int l]) ∧ G cn = some (4, 7, 6, 0) ∧ G vn = some (4, 7, 30, 0) ∧ G vc = some (2, 3, 30, 0) ∧ G ln = some (4, 6, 60, b) ∧ hq_ir 0 6 c ∧ hq_ir 0 30 v ∧ hq_ir 0 60 l
def hq_okForms (G : hq_G) (a R : Nat) (e : va_E) : Prop := ∃ (f : Nat) (z : Int32), e = .inr (3, [.ref f, .int z]) ∧ G f = some (4, 4, R, 0) ∧ 0 ≤ z.toInt ∧ z.toInt ≤ R ∧ R ≤ 4 ∧ f = a + 1
def hq_okMaker (G : hq_G) (a : Nat) (e : va_E) : Prop := ∃ (m h p c : Nat) (w : Int32), e = .inr (6, [.ref m, .int w, .ref h, .ref p, .ref c]) ∧ G m = some (8, 4, 0, 0) ∧ G h = some (8, 2, 0, 0) ∧ G p = some (8, 2, 0, 0) ∧ G c = some (0, 30, 0, 0) ∧ 0 ≤ w.toInt ∧ w.toInt ≤ 1 ∧ m = a + 1 ∧ h = a + 19 ∧ p = a + 29 ∧ c = a + 39
def hq_okLearner (G : hq_G) (e : va_E) : Prop := ∃ x y : Nat, e = .inr (4, [.ref x, .ref y]) ∧ G x = some (2, 0, 60, 0) ∧ G y = some (2, 0, 3, 0)
def hq_okWay (e : va_E) : Prop := ∃ z1 z2 z3 z4 z5 z6 z7 : Int32, e = .inr (10, [.int z1, .int z2, .int z3, .int z4, .int z5, .int z6, .int z7]) ∧ hq_ir (-1) 59 z2 ∧ hq_ir (-1) 59 z3
def hq_okSurvey (G : hq_G) (e : va_E) : Prop := ∃ (w : Int32) (x y z : Nat), e = .inr (8, [.int w, .ref x, .ref y, .ref z]) ∧ G x = some (3, 900, 0, 0) ∧ G y = some (3, 900, 0, 0) ∧ G z = some (3, 900, 0, 0)
def hq_okForm (G : hq_G) (a : Nat) (e : va_E) : Prop := ∃ (w r : Nat) (z : Int32), e = .inr (2, [.ref w, .ref r, .int z]) ∧ G w = some (0, 30, 0, 0) ∧ G r = some (2, 5, 120, 0) ∧ 0 ≤ z.toInt ∧ z.toInt ≤ 120 ∧ w = a + 1 ∧ r = a + 3
/-- what a cell of a type holds -/
def hq_ok (cs : Nat → ClassId) (G : hq_G) (a : Nat) (t : hq_T) (e : va_E) : Prop :=
  match t.1 with
  | 0 => hq_okText G a t.2.1 e
  | 1 => hq_okB cs t.2.1 e
  | 2 => hq_okInts cs t.2.2.1 t.2.2.2 e
  | 3 => hq_okLongs cs t.2.1 e
  | 4 => hq_okRefs cs G t.2.1 t.2.2.1 t.2.2.2 e
  | 5 => hq_okLine G e
  | 6 => hq_okBook G t.2.1 e
  | 7 => hq_okForm G a e
  | 8 => hq_okForms G a t.2.1 e
  | 9 => hq_okLearner G e
  | 11 => hq_okMaker G a e
  | 12 => hq_okSurvey G e
  | 13 => hq_okWay e
  | 20 => hq_okBytes cs t.2.1 e
  | 21 => hq_okInts cs t.2.1 t.2.2.1 e
  | 22 => hq_okBools cs t.2.1 e
  | _ => True
def hq_I (cs : Nat → ClassId) (G : hq_G) (V : hp_V) : Prop := ∀ x t, G x = some t → ∃ e, V x = some e ∧ hq_ok cs G x t e
theorem hq_I.upd {cs : Nat → ClassId} {G : hq_G} {V V1 : hp_V} {a : Nat} {t : hq_T} {e : va_E} (h : hq_I cs G V) (ha : G a = some t) (e1 : V1 a = some e) (o1 : ∀ x, x ≠ a → V1 x = V x) (ok : hq_ok cs G a t e) : hq_I cs G V1 := by
  intro x t' hx
  by_cases hxa : x = a
  · subst hxa
    cases ha.symm.trans hx
    exact ⟨e, e1, ok⟩
  · obtain ⟨e', g1, g2⟩ := h x t' hx
    exact ⟨e', (o1 x hxa).trans g1, g2⟩
/-- what a call leaves: the types, and all but the parts that it may write -/
def hq_P (cs : Nat → ClassId) (G : hq_G) (ok : Nat × Nat → Bool) (V V' : hp_V) : Prop := hq_I cs G V' ∧ ∀ x t, G x = some t → ok (hq_grp t) = false → V' x = V x
theorem hq_P.rf {cs : Nat → ClassId} {G : hq_G} {ok : Nat × Nat → Bool} {V : hp_V} (h : hq_I cs G V) : hq_P cs G ok V V := ⟨h, fun _ _ _ _ => rfl⟩
theorem hq_P.put {cs : Nat → ClassId} {G : hq_G} {ok : Nat × Nat → Bool} {V V0 V1 : hp_V} {a : Nat} {t : hq_T} {e : va_E} (h : hq_P cs G ok V0 V) (ha : G a = some t) (e1 : V1 a = some e) (o1 : ∀ x, x ≠ a → V1 x = V x) (hk : hq_ok cs G a t e) (hg : ok (hq_grp t) = true) : hq_P cs G ok V0 V1 :=
  ⟨h.1.upd ha e1 o1 hk, fun x t' hx hn => (o1 x (fun hxa => by subst hxa; cases ha.symm.trans hx; rw [hg] at hn; cases hn)).trans (h.2 x t' hx hn)⟩
theorem hq_P.trans {cs : Nat → ClassId} {G : hq_G} {ok ok' : Nat × Nat → Bool} {V0 V V1 : hp_V} (h : hq_P cs G ok V0 V) (h1 : hq_P cs G ok' V V1) (hs : ∀ g, ok g = false → ok' g = false) : hq_P cs G ok V0 V1 :=
  ⟨h1.1, fun x t hx hn => (h1.2 x t hx (hs _ hn)).trans (h.2 x t hx hn)⟩
theorem hq_tne {G : hq_G} {a b : Nat} {t u : hq_T} (ha : G a = some t) (hb : G b = some u) (h : t ≠ u) : a ≠ b := fun e => by
  subst e; exact h (Option.some.inj (ha.symm.trans hb))
/-! numbers -/
theorem hq_rng (x : Int32) : -2147483648 ≤ x.toInt ∧ x.toInt ≤ 2147483647 := ⟨Int32.le_toInt x, by have := Int32.toInt_lt x; omega⟩
theorem hq_bm (z : Int) : ∃ k : Int, z.bmod 4294967296 = z + k * 4294967296 := by
  refine ⟨-(z + 2147483648) / 4294967296 * 0 + (z.bmod 4294967296 - z) / 4294967296, ?_⟩
  have h : (z.bmod 4294967296 - z) % 4294967296 = 0 := by
    have h1 := Int.bmod_def z 4294967296
    split at h1 <;> omega
  omega
theorem hq_add (x y : Int32) : ∃ k : Int, (x + y).toInt = x.toInt + y.toInt + k * 4294967296 ∧ -2147483648 ≤ (x + y).toInt ∧ (x + y).toInt ≤ 2147483647 := by
  obtain ⟨k, hk⟩ := hq_bm (x.toInt + y.toInt)
  exact ⟨k, by rw [Int32.toInt_add]; exact hk, hq_rng _⟩
theorem hq_sub (x y : Int32) : ∃ k : Int, (x - y).toInt = x.toInt - y.toInt + k * 4294967296 ∧ -2147483648 ≤ (x - y).toInt ∧ (x - y).toInt ≤ 2147483647 := by
  obtain ⟨k, hk⟩ := hq_bm (x.toInt - y.toInt)
  exact ⟨k, by rw [Int32.toInt_sub]; exact hk, hq_rng _⟩
theorem hq_in {i : Int32} {N : Nat} (h0 : 0 ≤ i.toInt) (h1 : i.toInt < N) : vp_in i N := by
  intro h
  rcases h with h | h
  · rw [Int32.lt_iff_toInt_lt] at h
    have : (0 : Int32).toInt = 0 := rfl
    omega
  · have : i.toNatClampNeg = i.toInt.toNat := rfl
    omega
theorem hq_lti {x y : Int32} : x < y ↔ x.toInt < y.toInt := Int32.lt_iff_toInt_lt
theorem hq_lei {x y : Int32} : x ≤ y ↔ x.toInt ≤ y.toInt := Int32.le_iff_toInt_le
theorem hq_eqi {x y : Int32} : x = y ↔ x.toInt = y.toInt := Int32.toInt_inj.symm
theorem hq_ix {x : Int32} {N : Nat} (h0 : 0 ≤ x.toInt) (h1 : x.toInt < N) : x.toNatClampNeg < N := by
  have : x.toNatClampNeg = x.toInt.toNat := rfl
  omega
theorem hq_nI {N : Nat} (h : N ≤ 100000) : (nI N).toInt = N := by
  show (Int32.ofNat N).toInt = N
  rw [Int32.toInt_ofNat_of_lt (by omega)]
theorem hq_nz {v : Int32} (h : v = 0 ∨ v = 1) : narrow .boolean (.int v) = .int v := by
  rcases h with rfl | rfl <;> rfl
/-! opening and closing -/
section HQO
variable {cs : Nat → ClassId} {G : hq_G} {V : hp_V} {a R N k : Nat}
theorem hq_o0 (h : hq_I cs G V) (ha : G a = some (0, R, 0, 0)) : ∃ (u : Nat) (z : Int32), V a = some (.inr (9, [.ref u, .int z])) ∧ G u = some (1, R, 0, 0) ∧ 0 ≤ z.toInt ∧ z.toInt ≤ R ∧ R ≤ 100000 ∧ u = a + 1 := by
  obtain ⟨e, h1, u, z, rfl, h2⟩ := h a _ ha
  exact ⟨u, z, h1, h2⟩
theorem hq_c0 {u : Nat} {z : Int32} (hu : G u = some (1, R, 0, 0)) (h0 : 0 ≤ z.toInt) (h1 : z.toInt ≤ R) (h2 : R ≤ 100000) (hs : u = a + 1) : hq_ok cs G a (0, R, 0, 0) (.inr (9, [.ref u, .int z])) := ⟨u, z, rfl, hu, h0, h1, h2, hs⟩
theorem hq_o1 (h : hq_I cs G V) (ha : G a = some (1, R, 0, 0)) : R ≤ 100000 ∧ ∃ f : Nat → Int32, V a = some (.inl (cs 0, R, .inl f)) ∧ ∀ j, j < R → fits .byte (.int (f j)) = true := by
  obtain ⟨e, h1, hN, f, rfl, h2⟩ := h a _ ha
  exact ⟨hN, f, h1, h2⟩
theorem hq_c1 {f : Nat → Int32} (h : R ≤ 100000) (hf : ∀ j, j < R → fits .byte (.int (f j)) = true) : hq_ok cs G a (1, R, 0, 0) (.inl (cs 0, R, .inl f)) := ⟨h, f, rfl, hf⟩
theorem hq_fb (x : Int32) : fits .byte (.int x.toInt8.toInt32) = true := by
  simp [fits]
  rw [Int32.le_iff_toInt_le, Int32.le_iff_toInt_le, Int8.toInt_toInt32]
  have h1 := Int8.le_toInt x.toInt8
  have h2 := Int8.toInt_lt x.toInt8
  have h3 : (-128 : Int32).toInt = -128 := by decide
  have h4 : (127 : Int32).toInt = 127 := by decide
  rw [h3, h4]
  omega
theorem hq_updB {f : Nat → Int32} {i : Nat} {x : Int32} (hf : ∀ j, j < R → fits .byte (.int (f j)) = true) : ∀ j, j < R → fits .byte (.int (upd f i x.toInt8.toInt32 j)) = true := by
  intro j hj
  by_cases h : j = i
  · subst h; simp only [upd, if_true]; exact hq_fb x
  · simp only [upd, h, if_false]; exact hf j hj
theorem hq_cpB {f g : Nat → Int32} {sp dp k N0 : Nat} (hf : ∀ j, j < N0 → fits .byte (.int (f j)) = true) (hg : ∀ j, j < R → fits .byte (.int (g j)) = true) (h : sp + k ≤ N0) : ∀ j, j < R → fits .byte (.int (va_cpy f g sp dp k j)) = true := by
  intro j hj
  unfold va_cpy
  split
  · exact hf _ (by omega)
  · exact hg j hj
theorem hq_o20 {g : Nat} (h : hq_I cs G V) (ha : G a = some (20, R, g, 0)) : R ≤ 100000 ∧ ∃ f : Nat → Int32, V a = some (.inl (cs 0, R, .inl f)) := by
  obtain ⟨e, h1, hN, f, rfl⟩ := h a _ ha
  exact ⟨hN, f, h1⟩
theorem hq_c20 {g : Nat} {f : Nat → Int32} (h : R ≤ 100000) : hq_ok cs G a (20, R, g, 0) (.inl (cs 0, R, .inl f)) := ⟨h, f, rfl⟩
theorem hq_o22 {g : Nat} (h : hq_I cs G V) (ha : G a = some (22, R, g, 0)) : R ≤ 100000 ∧ ∃ f : Nat → Int32, V a = some (.inl (cs 3, R, .inl f)) := by
  obtain ⟨e, h1, hN, f, rfl⟩ := h a _ ha
  exact ⟨hN, f, h1⟩
theorem hq_c22 {g : Nat} {f : Nat → Int32} (h : R ≤ 100000) : hq_ok cs G a (22, R, g, 0) (.inl (cs 3, R, .inl f)) := ⟨h, f, rfl⟩
theorem hq_o3 (h : hq_I cs G V) (ha : G a = some (3, R, 0, 0)) : R ≤ 100000 ∧ ∃ f : Nat → Int64, V a = some (.inl (cs 2, R, .inr (.inl f))) := by
  obtain ⟨e, h1, hN, f, rfl⟩ := h a _ ha
  exact ⟨hN, f, h1⟩
theorem hq_c3 {f : Nat → Int64} (h : R ≤ 100000) : hq_ok cs G a (3, R, 0, 0) (.inl (cs 2, R, .inr (.inl f))) := ⟨h, f, rfl⟩
theorem hq_o2 {g : Nat} (h : hq_I cs G V) (ha : G a = some (2, g, N, k)) : N ≤ 100000 ∧ ∃ f : Nat → Int32, V a = some (.inl (cs 1, N, .inl f)) ∧ ∀ j, j < N → hq_ir (hq_lo k) (hq_hi k) (f j) := by
  obtain ⟨e, h1, hN, f, rfl, h2⟩ := h a _ ha
  exact ⟨hN, f, h1, h2⟩
theorem hq_c2 {g : Nat} {f : Nat → Int32} (h : N ≤ 100000) (hf : ∀ j, j < N → hq_ir (hq_lo k) (hq_hi k) (f j)) : hq_ok cs G a (2, g, N, k) (.inl (cs 1, N, .inl f)) := ⟨h, f, rfl, hf⟩
theorem hq_o21 {g : Nat} (h : hq_I cs G V) (ha : G a = some (21, N, k, g)) : N ≤ 100000 ∧ ∃ f : Nat → Int32, V a = some (.inl (cs 1, N, .inl f)) ∧ ∀ j, j < N → hq_ir (hq_lo k) (hq_hi k) (f j) := by
  obtain ⟨e, h1, hN, f, rfl, h2⟩ := h a _ ha
  exact ⟨hN, f, h1, h2⟩
theorem hq_c21 {g : Nat} {f : Nat → Int32} (h : N ≤ 100000) (hf : ∀ j, j < N → hq_ir (hq_lo k) (hq_hi k) (f j)) : hq_ok cs G a (21, N, k, g) (.inl (cs 1, N, .inl f)) := ⟨h, f, rfl, hf⟩
theorem hq_upd {f : Nat → Int32} {i : Nat} {x : Int32} {lo hi : Int} (hf : ∀ j, j < N → hq_ir lo hi (f j)) (hx : lo ≤ x.toInt ∧ x.toInt ≤ hi) : ∀ j, j < N → hq_ir lo hi (upd f i x j) := by
  intro j hj
  by_cases h : j = i
  · subst h; simp only [upd, if_true]; exact hx
  · simp only [upd, h, if_false]; exact hf j hj
theorem hq_o4 {el : Nat} (h : hq_I cs G V) (ha : G a = some (4, k, N, el)) : N ≤ 100000 ∧ ∃ f : Nat → Option Nat, V a = some (.inl (cs k, N, .inr (.inr (.inr (.inr f))))) ∧ (∀ j, j < N → ∃ x, f j = some x ∧ G x = some (hq_el k el)) ∧ ∀ i j, i < N → j < N → f i = f j → i = j := by
  obtain ⟨e, h1, hN, f, rfl, h2⟩ := h a _ ha
  exact ⟨hN, f, h1, h2⟩
theorem hq_o5 {b : Nat} (h : hq_I cs G V) (ha : G a = some (5, b, 0, 0)) : ∃ (k o t p h ht pa la : Int32) (x y : Nat), V a = some (.inr (5, [.int k, .int o, .int t, .int p, .int h, .int ht, .int pa, .int la, .ref x, .ref y])) ∧ G x = some (0, 8, 0, 0) ∧ G y = some (0, 8, 0, 0) ∧ -1 ≤ h.toInt ∧ h.toInt ≤ 29 := by
  obtain ⟨e, h1, k, o, t, p, h, ht, pa, la, x, y, rfl, h2, h3, h4⟩ := h a _ ha
  exact ⟨k, o, t, p, h, ht, pa, la, x, y, h1, h2, h3, h4⟩
theorem hq_c5 {b : Nat} {k o t p h ht pa la : Int32} {x y : Nat} (hx : G x = some (0, 8, 0, 0)) (hy : G y = some (0, 8, 0, 0)) (h0 : -1 ≤ h.toInt) (h1 : h.toInt ≤ 29) : hq_ok cs G a (5, b, 0, 0) (.inr (5, [.int k, .int o, .int t, .int p, .int h, .int ht, .int pa, .int la, .ref x, .ref y])) := ⟨k, o, t, p, h, ht, pa, la, x, y, rfl, hx, hy, h0, h1⟩
theorem hq_o6 {b : Nat} (h : hq_I cs G V) (ha : G a = some (6, b, 0, 0)) : ∃ (cn vn vc ln : Nat) (c v l : Int32), V a = some (.inr (0, [.ref cn, .int c, .ref vn, .ref vc, .int v, .ref ln, .int l])) ∧ G cn = some (4, 7, 6, 0) ∧ G vn = some (4, 7, 30, 0) ∧ G vc = some (2, 3, 30, 0) ∧ G ln = some (4, 6, 60, b) ∧ (0 ≤ c.toInt ∧ c.toInt ≤ 6) ∧ (0 ≤ v.toInt ∧ v.toInt ≤ 30) ∧ 0 ≤ l.toInt ∧ l.toInt ≤ 60 := by
  obtain ⟨e, h1, cn, vn, vc, ln, c, v, l, rfl, h2⟩ := h a _ ha
  exact ⟨cn, vn, vc, ln, c, v, l, h1, h2⟩
theorem hq_c6 {b cn vn vc ln : Nat} {c v l : Int32} (g1 : G cn = some (4, 7, 6, 0)) (g2 : G vn = some (4, 7, 30, 0)) (g3 : G vc = some (2, 3, 30, 0)) (g4 : G ln = some (4, 6, 60, b)) (h1 : 0 ≤ c.toInt ∧ c.toInt ≤ 6) (h2 : 0 ≤ v.toInt ∧ v.toInt ≤ 30) (h3 : 0 ≤ l.toInt ∧ l.toInt ≤ 60) : hq_ok cs G a (6, b, 0, 0) (.inr (0, [.ref cn, .int c, .ref vn, .ref vc, .int v, .ref ln, .int l])) := ⟨cn, vn, vc, ln, c, v, l, rfl, g1, g2, g3, g4, h1, h2, h3⟩
theorem hq_o7 (h : hq_I cs G V) (ha : G a = some (7, 0, 0, 0)) : ∃ (w r : Nat) (z : Int32), V a = some (.inr (2, [.ref w, .ref r, .int z])) ∧ G w = some (0, 30, 0, 0) ∧ G r = some (2, 5, 120, 0) ∧ 0 ≤ z.toInt ∧ z.toInt ≤ 120 ∧ w = a + 1 ∧ r = a + 3 := by
  obtain ⟨e, h1, w, r, z, rfl, h2⟩ := h a _ ha
  exact ⟨w, r, z, h1, h2⟩
theorem hq_c7 {w r : Nat} {z : Int32} (g1 : G w = some (0, 30, 0, 0)) (g2 : G r = some (2, 5, 120, 0)) (h0 : 0 ≤ z.toInt) (h1 : z.toInt ≤ 120) (hs : w = a + 1) (hs2 : r = a + 3) : hq_ok cs G a (7, 0, 0, 0) (.inr (2, [.ref w, .ref r, .int z])) := ⟨w, r, z, rfl, g1, g2, h0, h1, hs, hs2⟩
theorem hq_o8 (h : hq_I cs G V) (ha : G a = some (8, R, 0, 0)) : ∃ (f : Nat) (z : Int32), V a = some (.inr (3, [.ref f, .int z])) ∧ G f = some (4, 4, R, 0) ∧ 0 ≤ z.toInt ∧ z.toInt ≤ R ∧ R ≤ 4 ∧ f = a + 1 := by
  obtain ⟨e, h1, f, z, rfl, h2⟩ := h a _ ha
  exact ⟨f, z, h1, h2⟩
theorem hq_c8 {f : Nat} {z : Int32} (g1 : G f = some (4, 4, R, 0)) (h0 : 0 ≤ z.toInt) (h1 : z.toInt ≤ R) (h2 : R ≤ 4) (hs : f = a + 1) : hq_ok cs G a (8, R, 0, 0) (.inr (3, [.ref f, .int z])) := ⟨f, z, rfl, g1, h0, h1, h2, hs⟩
theorem hq_o11 (h : hq_I cs G V) (ha : G a = some (11, 0, 0, 0)) : ∃ (m h p c : Nat) (w : Int32), V a = some (.inr (6, [.ref m, .int w, .ref h, .ref p, .ref c])) ∧ G m = some (8, 4, 0, 0) ∧ G h = some (8, 2, 0, 0) ∧ G p = some (8, 2, 0, 0) ∧ G c = some (0, 30, 0, 0) ∧ 0 ≤ w.toInt ∧ w.toInt ≤ 1 ∧ m = a + 1 ∧ h = a + 19 ∧ p = a + 29 ∧ c = a + 39 := by
  obtain ⟨e, h1, m, h, p, c, w, rfl, h2⟩ := h a _ ha
  exact ⟨m, h, p, c, w, h1, h2⟩
theorem hq_c11 {m h p c : Nat} {w : Int32} (g1 : G m = some (8, 4, 0, 0)) (g2 : G h = some (8, 2, 0, 0)) (g3 : G p = some (8, 2, 0, 0)) (g4 : G c = some (0, 30, 0, 0)) (h0 : 0 ≤ w.toInt) (h1 : w.toInt ≤ 1) (hs : m = a + 1) (hs2 : h = a + 19) (hs3 : p = a + 29) (hs4 : c = a + 39) : hq_ok cs G a (11, 0, 0, 0) (.inr (6, [.ref m, .int w, .ref h, .ref p, .ref c])) := ⟨m, h, p, c, w, rfl, g1, g2, g3, g4, h0, h1, hs, hs2, hs3, hs4⟩
theorem hq_o9 (h : hq_I cs G V) (ha : G a = some (9, 0, 0, 0)) : ∃ x y : Nat, V a = some (.inr (4, [.ref x, .ref y])) ∧ G x = some (2, 0, 60, 0) ∧ G y = some (2, 0, 3, 0) := by
  obtain ⟨e, h1, x, y, rfl, h2⟩ := h a _ ha
  exact ⟨x, y, h1, h2⟩
theorem hq_o13 (h : hq_I cs G V) (ha : G a = some (13, 0, 0, 0)) : ∃ z1 z2 z3 z4 z5 z6 z7 : Int32, V a = some (.inr (10, [.int z1, .int z2, .int z3, .int z4, .int z5, .int z6, .int z7])) ∧ (-1 ≤ z2.toInt ∧ z2.toInt ≤ 59) ∧ -1 ≤ z3.toInt ∧ z3.toInt ≤ 59 := by
  obtain ⟨e, h1, z1, z2, z3, z4, z5, z6, z7, rfl, h2, h3⟩ := h a _ ha
  exact ⟨z1, z2, z3, z4, z5, z6, z7, h1, h2, h3⟩
theorem hq_c13 {z1 z2 z3 z4 z5 z6 z7 : Int32} (h2 : -1 ≤ z2.toInt ∧ z2.toInt ≤ 59) (h3 : -1 ≤ z3.toInt ∧ z3.toInt ≤ 59) : hq_ok cs G a (13, 0, 0, 0) (.inr (10, [.int z1, .int z2, .int z3, .int z4, .int z5, .int z6, .int z7])) := ⟨_, _, _, _, _, _, _, rfl, h2, h3⟩
theorem hq_o12 (h : hq_I cs G V) (ha : G a = some (12, 0, 0, 0)) : ∃ (w : Int32) (x y z : Nat), V a = some (.inr (8, [.int w, .ref x, .ref y, .ref z])) ∧ G x = some (3, 900, 0, 0) ∧ G y = some (3, 900, 0, 0) ∧ G z = some (3, 900, 0, 0) := by
  obtain ⟨e, h1, w, x, y, z, rfl, h2⟩ := h a _ ha
  exact ⟨w, x, y, z, h1, h2⟩
theorem hq_c12 {w : Int32} {x y z : Nat} (h1 : G x = some (3, 900, 0, 0)) (h2 : G y = some (3, 900, 0, 0)) (h3 : G z = some (3, 900, 0, 0)) : hq_ok cs G a (12, 0, 0, 0) (.inr (8, [.int w, .ref x, .ref y, .ref z])) := ⟨_, _, _, _, rfl, h1, h2, h3⟩
end HQO
section HQCP
variable {p : Program} {l : Launch} {e : Env} {R : Room} {s : State} {m : MethodId} {args : Array Value} {below : List Frame} {meth : Method} {c : Code} {H : Heap} {locs : List Loc} {cells slots : Nat} {Q : State → Prop}
variable {cc : ByteArray} {pc : Nat} {ls : Array Slot} {rest : List Value} {D : va_G} {cs : Nat → ClassId} {B n : Nat} {V : hp_V} {own : String}
theorem hq_nn {z : Int32} (hz : 0 ≤ z.toInt) : z.toInt = (z.toNatClampNeg : Int) ∧ ¬ z < 0 := by
  have h : z.toNatClampNeg = z.toInt.toNat := rfl
  refine ⟨by omega, fun h9 => ?_⟩
  have h8 : z.toInt < 0 := Int32.lt_iff_toInt_lt.mp h9
  omega
theorem hq_copy (hx : p.tables.exec = Jvm.exec) (hb : c.code = cc) (hml : c.maxLocals = ls.size) (hts : ∀ w ∈ TBG, w.before args s = true) (hown : s.vm.findClass own = some m.cls) (hZ : hp_Z D cs B s V H n locs) {index : Nat} (hlink : Cond.methodLink own index arraycopyName ∈ TBG) (hnat : Cond.native arraycopyName ∈ TBG) (hstat : Cond.static arraycopyName ∈ TBG) (hini : Cond.initialized "java/lang/System" ∈ TBG)
    {a0 a N0 N1 : Nat} {f g : Nat → Int32} (ha0 : V a0 = some (.inl (cs 0, N0, .inl f))) (ha : V a = some (.inl (cs 0, N1, .inl g))) {sp dp k : Int32} (h1 : 0 ≤ sp.toInt) (h2 : 0 ≤ dp.toInt) (h3 : 0 ≤ k.toInt) (h4 : sp.toInt + k.toInt ≤ N0) (h5 : dp.toInt + k.toInt ≤ N1) (hfit : ∀ j, j < N0 → fits .byte (.int (f j)) = true)
    (hframes : 1 ≤ R.frames) (hlocals : (rest.map fun v => v.category).sum + (nativeFrameWords "java/lang/System" "arraycopy" 5 + 11) ≤ R.locals) (hdg : decode cc pc = .ok (.invokestatic index, 3))
    (kk : ∀ (V1 : hp_V) (H1 : Heap) (locs1 : List Loc), V1 a = some (.inl (cs 0, N1, .inl (va_cpy f g sp.toNatClampNeg dp.toNatClampNeg k.toNatClampNeg))) → (∀ x, x ≠ a → V1 x = V x) → hp_Z D cs B s V1 H1 n locs1 → W p l e R s m args below meth c H1 locs1 cells slots Q (F0 m (pc + 3) ls rest)) : W p l e R s m args below meth c H locs cells slots Q (F0 m pc ls (.int k :: .int dp :: .ref a :: .int sp :: .ref a0 :: rest)) := by
  obtain ⟨i1, j1⟩ := hq_nn h1
  obtain ⟨i2, j2⟩ := hq_nn h2
  obtain ⟨i3, j3⟩ := hq_nn h3
  have hc0 : H[a0]? = some (vp_cell (cs 0) (N0, .inl f)) := (hZ.1 a0 _ ha0).2
  have hc1 : H[a]? = some (vp_cell (cs 0) (N1, .inl g)) := (hZ.1 a _ ha).2
  intro T hT X
  obtain ⟨-, k0, hk0, cm0, hkk0⟩ := (hZ.2.2.1.1.2 0 _ rfl).1 N0 (fun j => .int (f j))
  have hbnd : sp.toNatClampNeg + k.toNatClampNeg ≤ N0 := by omega
  have hread : ∀ i, i < k.toNatClampNeg → (vp_cell (cs 0) (N0, .inl f)).slots.getD (sp.toNatClampNeg + i) .null = .int (f (sp.toNatClampNeg + i)) := by
    intro i hi
    show (arrV (cs 0) N0 (fun j => .int (f j))).slots.getD _ _ = _
    rw [Array.getD_eq_getD_getElem?, arrV_read _ _ (by omega)]
    rfl
  obtain ⟨vm1, X1, go⟩ := X.arraycopy hx hown (hts _ hlink) (hts _ hnat) (hts _ hstat) (hts _ hini) (src := a0) (dst := a) (cs := vp_cell (cs 0) (N0, .inl f)) (cd := vp_cell (cs 0) (N1, .inl g)) (srcPos := sp) (destPos := dp) (n := k) (by rw [hT]; exact hc0) (by rw [hT]; exact hc1)
    (fun _ h => by cases h) (fun _ h => by cases h) (fun h => by cases h) (fun h => by cases h) hk0 hk0 hkk0 hkk0 (by simp [refKind]) j1 j2 j3
    (by show ¬ _ > ((arrV (cs 0) N0 (fun j => .int (f j))).slots.size : Int); rw [arrV_size]; omega)
    (by show ¬ _ > ((arrV (cs 0) N1 (fun j => .int (g j))).slots.size : Int); rw [arrV_size]; omega)
    (fun _ _ i hi => ⟨by rw [hread i hi]; exact hfit _ (by omega), by rw [hread i hi]; exact trivial⟩)
    (g := F0 m pc ls (.int k :: .int dp :: .ref a :: .int sp :: .ref a0 :: rest)) rfl (by rw [hml]) (rest := rest) rfl (by rw [hb]; exact hdg) hframes (by show 2 * 0 + _ + _ ≤ _; omega)
  have hcp : copied (vp_cell (cs 0) (N0, .inl f)) (vp_cell (cs 0) (N1, .inl g)) sp dp k = vp_cell (cs 0) (N1, .inl (va_cpy f g sp.toNatClampNeg dp.toNatClampNeg k.toNatClampNeg)) := va_copied (fun z => .int z) (cs 0) (cs 0) f g hbnd
  rw [hcp] at X1 go
  have hlt : a < H.size := (Array.getElem?_eq_some_iff.mp hc1).1
  have hheap : ((T.setVm vm1).setCell a (vp_cell (cs 0) (N1, .inl (va_cpy f g sp.toNatClampNeg dp.toNatClampNeg k.toNatClampNeg)))).heap = H.setIfInBounds a (vp_cell (cs 0) (N1, .inl (va_cpy f g sp.toNatClampNeg dp.toNatClampNeg k.toNatClampNeg))) := by rw [← hT]; rfl
  have hot : ∀ q : Nat, q ≠ a → (H.setIfInBounds a (vp_cell (cs 0) (N1, .inl (va_cpy f g sp.toNatClampNeg dp.toNatClampNeg k.toNatClampNeg))))[q]? = H[q]? := fun q hq => by simp [Array.getElem?_setIfInBounds, Ne.symm hq]
  have hne : (H.setIfInBounds a (vp_cell (cs 0) (N1, .inl (va_cpy f g sp.toNatClampNeg dp.toNatClampNeg k.toNatClampNeg))))[a]? = some (vp_cell (cs 0) (N1, .inl (va_cpy f g sp.toNatClampNeg dp.toNatClampNeg k.toNatClampNeg))) := by simp [Array.getElem?_setIfInBounds, hlt]
  have hput := hZ.put (k := 0) (e1 := .inl (cs 0, N1, .inl (va_cpy f g sp.toNatClampNeg dp.toNatClampNeg k.toNatClampNeg))) ha hne (by simp) hot
  obtain ⟨t, t1, t2⟩ := kk _ _ _ (hp_up_eq V a _) (hp_up_ne V a _) ⟨hput.1, ⟨hput.2.1.1, hput.2.1.2.1, fun q hq => by
    rcases List.mem_append.mp hq with h | h
    · exact hZ.2.1.2.2 q h
    · obtain ⟨z, -, hz⟩ := List.mem_map.mp h
      rw [← hz]
      exact hZ.ge ha⟩, hput.2.2⟩ _ hheap X1
  exact ⟨t, go t t1, t2⟩
theorem hq_nzi {v : Int32} (h0 : 0 ≤ v.toInt) (h1 : v.toInt ≤ 1) : narrow .boolean (.int v) = .int v := by
  refine hq_nz ?_
  by_cases h : v.toInt = 0
  · exact Or.inl (Int32.toInt_inj.mp h)
  · exact Or.inr (Int32.toInt_inj.mp (show v.toInt = 1 by omega))
end HQCP
theorem hq_mul (x y : Int32) : ∃ k : Int, (x * y).toInt = x.toInt * y.toInt + k * 4294967296 ∧ -2147483648 ≤ (x * y).toInt ∧ (x * y).toInt ≤ 2147483647 := by
  obtain ⟨k, hk⟩ := hq_bm (x.toInt * y.toInt)
  exact ⟨k, by rw [Int32.toInt_mul]; exact hk, hq_rng _⟩

/-! ===== MY LAYER, 3: the heap typed. A map G from addresses to types; every cell keeps its type's invariant, whatever is written ===== -/
/-- a type: a tag and three numbers. 0 Text of room R; 1 its bytes; 2 int array (part, N, range); 3 long array N; 4 array of references (class index k of cs, N, element); 5 Line of book b; 6 Book b; 7 Form; 8 FormList; 9 Learner; 10 Parser; 11 Maker; 12 Survey; 13 Way; 14 Explainer; 15 the class; the reference: 20 byte array N; 21 int array (N, range); 22 boolean array N; 23 Stop; 24 the reference -/
abbrev hq_T : Type := Nat × Nat × Nat × Nat
/-- the ranges of int arrays: 0 any; 1: 0 .. 8; 2: 0 .. 12; 3: 0 .. 29; 4: 0 .. 59; 5: -1 .. 59; 6: 0 .. 61; 7: 0 .. 140; 8: 0 .. 60 -/
def hq_lo (k : Nat) : Int := if k = 0 then -2147483648 else if k = 5 then -1 else 0
def hq_hi (k : Nat) : Int := if k = 0 then 2147483647 else if k = 1 then 8 else if k = 2 then 12 else if k = 3 then 29 else if k = 4 then 59 else if k = 5 then 59 else if k = 6 then 61 else if k = 7 then 140 else 60
/-- the elements of arrays of references: 0 Text 12; 1 Line of book 0; 2 Line of book 1; 3 Form; 4 Learner -/
def hq_el (k : Nat) : hq_T := if k = 0 then (0, 12, 0, 0) else if k = 1 then (5, 0, 0, 0) else if k = 2 then (5, 1, 0, 0) else if k = 3 then (7, 0, 0, 0) else (9, 0, 0, 0)
/-- which part of the program a cell belongs to: 0 what every call makes anew, 1 the reference, 2 the tape, 3 the books, 4 the class's own object and the parser -/
def hq_grp (t : hq_T) : Nat :=
  if t.1 ≤ 1 then (if t.2.1 = 4000 then 2 else if t.2.1 = 12 then 3 else if t.2.1 = 8 then 3 else 0)
  else if t.1 = 2 then t.2.1 else if t.1 = 3 then 0 else if t.1 = 4 then (if t.2.2.2 ≤ 2 then 3 else 0) else if t.1 = 5 then 3 else if t.1 = 6 then 3 else if t.1 = 10 then 4 else if t.1 = 15 then 4 else if t.1 < 20 then 0 else 1
abbrev hq_G : Type := Nat → Option hq_T
def hq_ir (lo hi : Int) (x : Int32) : Prop := lo ≤ x.toInt ∧ x.toInt ≤ hi
def hq_okText (G : hq_G) (R : Nat) (e : va_E) : Prop := ∃ (u : Nat) (z : Int32), e = .inr (9, [.ref u, .int z]) ∧ G u = some (1, R, 0, 0) ∧ 0 ≤ z.toInt ∧ z.toInt ≤ R
def hq_okBytes (cs : Nat → ClassId) (R : Nat) (e : va_E) : Prop := R ≤ 100000 ∧ ∃ f : Nat → Int32, e = .inl (cs 0, R, .inl f)
def hq_okInts (cs : Nat → ClassId) (N k : Nat) (e : va_E) : Prop := N ≤ 100000 ∧ ∃ f : Nat → Int32, e = .inl (cs 1, N, .inl f) ∧ ∀ j, j < N → hq_ir (hq_lo k) (hq_hi k) (f j)
def hq_okBools (cs : Nat → ClassId) (N : Nat) (e : va_E) : Prop := N ≤ 100000 ∧ ∃ f : Nat → Int32, e = .inl (cs 3, N, .inl f)
def hq_okLongs (cs : Nat → ClassId) (N : Nat) (e : va_E) : Prop := N ≤ 100000 ∧ ∃ f : Nat → Int64, e = .inl (cs 2, N, .inr (.inl f))
def hq_okRefs (cs : Nat → ClassId) (G : hq_G) (k N el : Nat) (e : va_E) : Prop := N ≤ 100000 ∧ ∃ f : Nat → Option Nat, e = .inl (cs k, N, .inr (.inr (.inr (.inr f)))) ∧ (∀ j, j < N → ∃ x, f j = some x ∧ G x = some (hq_el el)) ∧ ∀ i j, i < N → j < N → f i = f j → i = j
def hq_okLine (G : hq_G) (e : va_E) : Prop := ∃ (k o t p h ht pa la : Int32) (a b : Nat), e = .inr (5, [.int k, .int o, .int t, .int p, .int h, .int ht, .int pa, .int la, .ref a, .ref b]) ∧ G a = some (0, 8, 0, 0) ∧ G b = some (0, 8, 0, 0) ∧ hq_ir (-1) 29 h
def hq_okBook (G : hq_G) (b : Nat) (e : va_E) : Prop := ∃ (cn vn vc ln : Nat) (c v l : Int32), e = .inr (0, [.ref cn, .int c, .ref vn, .ref vc, .int v, .ref ln, .int l]) ∧ G cn = some (4, 7, 6, 0) ∧ G vn = some (4, 7, 30, 0) ∧ G vc = some (2, 3, 30, 0) ∧ G ln = some (4, 6, 60, b + 1) ∧ hq_ir 0 6 c ∧ hq_ir 0 30 v ∧ hq_ir 0 60 l
def hq_okForm (G : hq_G) (e : va_E) : Prop := ∃ (w r : Nat) (z : Int32), e = .inr (2, [.ref w, .ref r, .int z]) ∧ G w = some (0, 61, 0, 0) ∧ G r = some (2, 0, 120, 0) ∧ hq_ir 0 120 z
/-- what a cell of a type holds -/
def hq_ok (cs : Nat → ClassId) (G : hq_G) (t : hq_T) (e : va_E) : Prop :=
  match t.1 with
  | 0 => hq_okText G t.2.1 e
  | 1 => hq_okBytes cs t.2.1 e
  | 2 => hq_okInts cs t.2.2.1 t.2.2.2 e
  | 3 => hq_okLongs cs t.2.1 e
  | 4 => hq_okRefs cs G t.2.1 t.2.2.1 t.2.2.2 e
  | 5 => hq_okLine G e
  | 6 => hq_okBook G t.2.1 e
  | 7 => hq_okForm G e
  | 20 => hq_okBytes cs t.2.1 e
  | 21 => hq_okInts cs t.2.1 t.2.2.1 e
  | 22 => hq_okBools cs t.2.1 e
  | _ => True
def hq_I (cs : Nat → ClassId) (G : hq_G) (V : hp_V) : Prop := ∀ x t, G x = some t → ∃ e, V x = some e ∧ hq_ok cs G t e
theorem hq_I.upd {cs : Nat → ClassId} {G : hq_G} {V V1 : hp_V} {a : Nat} {t : hq_T} {e : va_E} (h : hq_I cs G V) (ha : G a = some t) (e1 : V1 a = some e) (o1 : ∀ x, x ≠ a → V1 x = V x) (ok : hq_ok cs G t e) : hq_I cs G V1 := by
  intro x t' hx
  by_cases hxa : x = a
  · subst hxa
    cases ha.symm.trans hx
    exact ⟨e, e1, ok⟩
  · obtain ⟨e', g1, g2⟩ := h x t' hx
    exact ⟨e', (o1 x hxa).trans g1, g2⟩
/-- what a call leaves: the types, and all but the parts that it may write -/
def hq_P (cs : Nat → ClassId) (G : hq_G) (ok : Nat → Bool) (V V' : hp_V) : Prop := hq_I cs G V' ∧ ∀ x t, G x = some t → ok (hq_grp t) = false → V' x = V x
theorem hq_P.rf {cs : Nat → ClassId} {G : hq_G} {ok : Nat → Bool} {V : hp_V} (h : hq_I cs G V) : hq_P cs G ok V V := ⟨h, fun _ _ _ _ => rfl⟩
theorem hq_P.put {cs : Nat → ClassId} {G : hq_G} {ok : Nat → Bool} {V V0 V1 : hp_V} {a : Nat} {t : hq_T} {e : va_E} (h : hq_P cs G ok V0 V) (ha : G a = some t) (e1 : V1 a = some e) (o1 : ∀ x, x ≠ a → V1 x = V x) (hk : hq_ok cs G t e) (hg : ok (hq_grp t) = true) : hq_P cs G ok V0 V1 :=
  ⟨h.1.upd ha e1 o1 hk, fun x t' hx hn => (o1 x (fun hxa => by subst hxa; cases ha.symm.trans hx; rw [hg] at hn; cases hn)).trans (h.2 x t' hx hn)⟩
theorem hq_P.trans {cs : Nat → ClassId} {G : hq_G} {ok ok' : Nat → Bool} {V0 V V1 : hp_V} (h : hq_P cs G ok V0 V) (h1 : hq_P cs G ok' V V1) (hs : ∀ g, ok g = false → ok' g = false) : hq_P cs G ok V0 V1 :=
  ⟨h1.1, fun x t hx hn => (h1.2 x t hx (hs _ hn)).trans (h.2 x t hx hn)⟩
theorem hq_tne {G : hq_G} {a b : Nat} {t u : hq_T} (ha : G a = some t) (hb : G b = some u) (h : t ≠ u) : a ≠ b := fun e => by
  subst e; exact h (Option.some.inj (ha.symm.trans hb))
/-! numbers -/
theorem hq_rng (x : Int32) : -2147483648 ≤ x.toInt ∧ x.toInt ≤ 2147483647 := ⟨Int32.le_toInt x, by have := Int32.toInt_lt x; omega⟩
theorem hq_bm (z : Int) : ∃ k : Int, z.bmod 4294967296 = z + k * 4294967296 := by
  refine ⟨-(z + 2147483648) / 4294967296 * 0 + (z.bmod 4294967296 - z) / 4294967296, ?_⟩
  have h : (z.bmod 4294967296 - z) % 4294967296 = 0 := by
    have h1 := Int.bmod_def z 4294967296
    split at h1 <;> omega
  omega
theorem hq_add (x y : Int32) : ∃ k : Int, (x + y).toInt = x.toInt + y.toInt + k * 4294967296 ∧ -2147483648 ≤ (x + y).toInt ∧ (x + y).toInt ≤ 2147483647 := by
  obtain ⟨k, hk⟩ := hq_bm (x.toInt + y.toInt)
  exact ⟨k, by rw [Int32.toInt_add]; exact hk, hq_rng _⟩
theorem hq_sub (x y : Int32) : ∃ k : Int, (x - y).toInt = x.toInt - y.toInt + k * 4294967296 ∧ -2147483648 ≤ (x - y).toInt ∧ (x - y).toInt ≤ 2147483647 := by
  obtain ⟨k, hk⟩ := hq_bm (x.toInt - y.toInt)
  exact ⟨k, by rw [Int32.toInt_sub]; exact hk, hq_rng _⟩
theorem hq_in {i : Int32} {N : Nat} (h0 : 0 ≤ i.toInt) (h1 : i.toInt < N) : vp_in i N := by
  intro h
  rcases h with h | h
  · rw [Int32.lt_iff_toInt_lt] at h
    have : (0 : Int32).toInt = 0 := rfl
    omega
  · have : i.toNatClampNeg = i.toInt.toNat := rfl
    omega
theorem hq_lti {x y : Int32} : x < y ↔ x.toInt < y.toInt := Int32.lt_iff_toInt_lt
theorem hq_lei {x y : Int32} : x ≤ y ↔ x.toInt ≤ y.toInt := Int32.le_iff_toInt_le
theorem hq_eqi {x y : Int32} : x = y ↔ x.toInt = y.toInt := Int32.toInt_inj.symm
theorem hq_ix {x : Int32} {N : Nat} (h0 : 0 ≤ x.toInt) (h1 : x.toInt < N) : x.toNatClampNeg < N := by
  have : x.toNatClampNeg = x.toInt.toNat := rfl
  omega
theorem hq_nI {N : Nat} (h : N ≤ 100000) : (nI N).toInt = N := by
  show (Int32.ofNat N).toInt = N
  rw [Int32.toInt_ofNat_of_lt (by omega)]
theorem hq_nz {v : Int32} (h : v = 0 ∨ v = 1) : narrow .boolean (.int v) = .int v := by
  rcases h with rfl | rfl <;> rfl

/-! ===== THE LIST OF FORMS, EXACTLY ===== -/
/-- a form's word -/
def hx_FW (cs : Nat → ClassId) (V : hp_V) (a : Nat) (u : List Int) : Prop := ∃ (rz z : Int32) (f : Nat → Int32), V a = some (.inr (2, [.ref (a + 1), .ref (a + 3), .int rz])) ∧ V (a + 1) = some (.inr (9, [.ref (a + 2), .int z])) ∧ V (a + 2) = some (.inl (cs 0, 30, .inl f)) ∧ sp_rp z f u
theorem hx_FW.keep {cs : Nat → ClassId} {V V' : hp_V} {a : Nat} {u : List Int} (h : hx_FW cs V a u) (hk : ∀ x, (a ≤ x ∧ x < a + 4) → V' x = V x) : hx_FW cs V' a u := by
  obtain ⟨rz, z, f, h1, h2, h3, h4⟩ := h
  exact ⟨rz, z, f, (hk _ (by omega)).trans h1, (hk _ (by omega)).trans h2, (hk _ (by omega)).trans h3, h4⟩
/-- the words of the list at fl -/
def hx_FM (cs : Nat → ClassId) (V : hp_V) (fl : Nat) (L : List (List Int)) : Prop := ∀ (i : Nat) (u : List Int), L[i]? = some u → hx_FW cs V (fl + 2 + 4 * i) u
theorem hx_FM.keep {cs : Nat → ClassId} {V V' : hp_V} {fl : Nat} {L : List (List Int)} (h : hx_FM cs V fl L) (hk : ∀ x, (fl + 2 ≤ x ∧ x < fl + 2 + 4 * L.length) → V' x = V x) : hx_FM cs V' fl L := fun i u hi => (h i u hi).keep (fun x hx => hk x (by have h9 := (List.getElem?_eq_some_iff.mp hi).1; omega))
theorem hx_FM.nil {cs : Nat → ClassId} {V : hp_V} {fl : Nat} : hx_FM cs V fl [] := fun i u hi => by simp at hi
theorem hx_FM.snoc {cs : Nat → ClassId} {V : hp_V} {fl a : Nat} {L : List (List Int)} {u : List Int} (h : hx_FM cs V fl L) (ha : a = fl + 2 + 4 * L.length) (h2 : hx_FW cs V a u) : hx_FM cs V fl (L ++ [u]) := by
  intro i v hi
  by_cases c : i < L.length
  · rw [List.getElem?_append_left c] at hi
    exact h i v hi
  · have hi2 := (List.getElem?_eq_some_iff.mp hi).1
    rw [List.length_append] at hi2
    simp only [List.length_cons, List.length_nil] at hi2
    have e : i = L.length := by omega
    subst e
    rw [List.getElem?_append_right (Nat.le_refl _), Nat.sub_self] at hi
    have hi : some u = some v := hi
    cases hi
    rw [← ha]
    exact h2
/-- types of the list's cells -/
def hx_FT (G : hq_G) (fl : Nat) : Prop := ∀ a j : Nat, j < 4 → a = fl + 2 + 4 * j → G a = some (7, 0, 0, 0) ∧ G (a + 1) = some (0, 30, 0, 0) ∧ G (a + 2) = some (1, 30, 0, 0) ∧ G (a + 3) = some (2, 5, 120, 0)
/-- a form opened: its shape is told by its type -/
theorem hx_oF {cs : Nat → ClassId} {G : hq_G} {V : hp_V} {a : Nat} (hI : hq_I cs G V) (h : G a = some (7, 0, 0, 0)) : ∃ rz : Int32, V a = some (.inr (2, [.ref (a + 1), .ref (a + 3), .int rz])) ∧ 0 ≤ rz.toInt ∧ rz.toInt ≤ 120 := by
  obtain ⟨w, r, z, e, -, -, h0, h1, h2, h3⟩ := hq_o7 hI h
  subst h2 h3
  exact ⟨z, e, h0, h1⟩
theorem hx_oT {cs : Nat → ClassId} {G : hq_G} {V : hp_V} {a R : Nat} (hI : hq_I cs G V) (h : G a = some (0, R, 0, 0)) : ∃ z : Int32, V a = some (.inr (9, [.ref (a + 1), .int z])) ∧ 0 ≤ z.toInt ∧ z.toInt ≤ R := by
  obtain ⟨u, z, e, -, h0, h1, h2, h3⟩ := hq_o0 hI h
  subst h3
  exact ⟨z, e, h0, h1⟩
theorem hx_oL {cs : Nat → ClassId} {G : hq_G} {V : hp_V} {a R : Nat} (hI : hq_I cs G V) (h : G a = some (8, R, 0, 0)) : ∃ z : Int32, V a = some (.inr (3, [.ref (a + 1), .int z])) ∧ 0 ≤ z.toInt ∧ z.toInt ≤ R := by
  obtain ⟨f, z, e, -, h0, h1, h2, h3⟩ := hq_o8 hI h
  subst h3
  exact ⟨z, e, h0, h1⟩
theorem hx_oM {cs : Nat → ClassId} {G : hq_G} {V : hp_V} {a : Nat} (hI : hq_I cs G V) (h : G a = some (11, 0, 0, 0)) : ∃ z : Int32, V a = some (.inr (6, [.ref (a + 1), .int z, .ref (a + 19), .ref (a + 29), .ref (a + 39)])) ∧ 0 ≤ z.toInt ∧ z.toInt ≤ 1 := by
  obtain ⟨m, h', p, c, z, e, -, -, -, -, h0, h1, h2, h3, h4, h5⟩ := hq_o11 hI h
  subst h2 h3 h4 h5
  exact ⟨z, e, h0, h1⟩
theorem sp_ex_le {w : sp_W} {b : sp_B} (h : sp_g8 w b) {v c t p : Int} (k : Nat) : ∀ (ls : List sp_L) (hs : ∀ x ∈ ls, (sp_F w x).length ≤ 30) (u : List Int), u ∈ sp_ex w v c t p ls k → u.length ≤ 30 := by
  intro ls
  induction ls generalizing k with
  | nil => intro _ u hu; cases k <;> cases hu
  | cons x ls ih =>
    intro hs u hu
    cases k with
    | zero => cases hu
    | succ k =>
      simp only [sp_ex] at hu
      split at hu
      · rcases List.mem_cons.mp hu with g | g
        · rw [g]; exact hs x List.mem_cons_self
        · exact ih k (fun y hy => hs y (List.mem_cons_of_mem _ hy)) u g
      · exact ih (k + 1) (fun y hy => hs y (List.mem_cons_of_mem _ hy)) u hu
theorem sp_exb_le {w : sp_W} {b : sp_B} (h : sp_g8 w b) {v c t p : Int} {k : Nat} {u : List Int} (hu : u ∈ sp_ex w v c t p b.2.2.2 k) : u.length ≤ 30 := by
  refine sp_ex_le h k b.2.2.2 (fun x hx => ?_) u hu
  obtain ⟨i, hi⟩ := List.mem_iff_getElem?.mp hx
  have := (h i x hi).1
  omega

/-! ===== THE REFERENCE'S SOUND: the word as it goes on ===== -/
def sp_rs (F S u0 cu : List Int) (a : Int) : Prop := ∃ D R : List Int, cu = D ++ R ∧ (D.length : Int) = a ∧ sp_snd F S u0 0 = D ++ sp_snd F S R 0
theorem sp_rs.rf {F S u : List Int} : sp_rs F S u u 0 := ⟨[], u, rfl, rfl, rfl⟩
theorem sp_rs.n {F S u0 cu : List Int} {a : Int} (h : sp_rs F S u0 cu a) (h1 : a < (cu.length : Int)) (h2 : ¬ sp_pf F (cu.drop a.toNat) = true) : sp_rs F S u0 cu (a + 1) := by
  obtain ⟨D, R, e1, e2, e3⟩ := h
  have e4 : cu.drop a.toNat = R := by rw [e1, show a.toNat = D.length by omega, List.drop_left]
  rw [e4] at h2
  cases R with
  | nil => rw [e1, List.append_nil] at h1; omega
  | cons x R =>
    refine ⟨D ++ [x], R, by rw [e1, List.append_assoc]; rfl, by rw [List.length_append]; simp only [List.length_cons, List.length_nil]; omega, ?_⟩
    rw [e3, List.append_assoc]
    congr 1
    simp only [sp_snd]
    rw [if_neg h2]
    rfl
theorem sp_rs.y {F S u0 cu : List Int} {a : Int} (h : sp_rs F S u0 cu a) (hf : 0 < F.length) (h2 : sp_pf F (cu.drop a.toNat) = true) : sp_rs F S u0 (sp_cg F S cu a.toNat) (a + (S.length : Int)) := by
  obtain ⟨D, R, e1, e2, e3⟩ := h
  have e4 : cu.drop a.toNat = R := by rw [e1, show a.toNat = D.length by omega, List.drop_left]
  have e5 : cu.take a.toNat = D := by rw [e1, show a.toNat = D.length by omega, List.take_left]
  rw [e4] at h2
  refine ⟨D ++ S, R.drop F.length, ?_, by rw [List.length_append]; omega, ?_⟩
  · unfold sp_cg
    rw [e5, ← e4, List.drop_drop, List.append_assoc]
  · rw [e3, sp_snd_y hf h2, List.append_assoc]
theorem sp_rs.fin {F S u0 cu : List Int} {a : Int} (h : sp_rs F S u0 cu a) (h1 : ¬ a < (cu.length : Int)) : sp_snd F S u0 0 = cu := by
  obtain ⟨D, R, e1, e2, e3⟩ := h
  have hl : cu.length = D.length + R.length := by rw [e1, List.length_append]
  have hR : R = [] := List.eq_nil_of_length_eq_zero (by omega)
  subst hR
  rw [e3, e1]
  rfl
theorem sp_rs.le {F S u0 cu : List Int} {a : Int} (h : sp_rs F S u0 cu a) : 0 ≤ a ∧ a ≤ (cu.length : Int) := by
  obtain ⟨D, R, e1, e2, e3⟩ := h
  have hl : cu.length = D.length + R.length := by rw [e1, List.length_append]
  omega
/-! ===== ALL SOUNDS ===== -/
def sp_F (w : sp_W) (x : sp_L) : List Int := sp_lw w x.2.2.2.2.2.1 x.2.2.2.2.2.2.2.1
def sp_S2 (w : sp_W) (x : sp_L) : List Int := sp_lw w x.2.2.2.2.2.2.1 x.2.2.2.2.2.2.2.2
def sp_sx (w : sp_W) (x : sp_L) (u : List Int) : List Int := if x.2.2.2.2.1 = 1 then sp_sndl (sp_F w x) (sp_S2 w x) u else sp_snd (sp_F w x) (sp_S2 w x) u 0
def sp_sa (w : sp_W) (a b : Int) : List sp_L → Int → List Int → Option (List Int)
  | [], _, u => some u
  | x :: xs, i, u => if x.1 = 2 ∧ ¬ i = a ∧ ¬ i = b then (if (sp_sx w x u).length ≤ 30 then sp_sa w a b xs (i + 1) (sp_sx w x u) else none) else sp_sa w a b xs (i + 1) u
section SPA
variable {w : sp_W} {a b : Int} {ls : List sp_L} {n : Nat} {x : sp_L} {i : Int} {u : List Int}
theorem sp_sa_skip (hi : ls[n]? = some x) (h : ¬ (x.1 = 2 ∧ ¬ i = a ∧ ¬ i = b)) : sp_sa w a b (ls.drop n) i u = sp_sa w a b (ls.drop (n + 1)) (i + 1) u := by
  obtain ⟨hl, he⟩ := List.getElem?_eq_some_iff.mp hi
  rw [List.drop_eq_getElem_cons hl, he]
  simp only [sp_sa]
  rw [if_neg h]
theorem sp_sa_go (hi : ls[n]? = some x) (h : x.1 = 2 ∧ ¬ i = a ∧ ¬ i = b) (h2 : (sp_sx w x u).length ≤ 30) : sp_sa w a b (ls.drop n) i u = sp_sa w a b (ls.drop (n + 1)) (i + 1) (sp_sx w x u) := by
  obtain ⟨hl, he⟩ := List.getElem?_eq_some_iff.mp hi
  rw [List.drop_eq_getElem_cons hl, he]
  simp only [sp_sa]
  rw [if_pos h, if_pos h2]
theorem sp_sa_none (hi : ls[n]? = some x) (h : x.1 = 2 ∧ ¬ i = a ∧ ¬ i = b) (h2 : ¬ (sp_sx w x u).length ≤ 30) : sp_sa w a b (ls.drop n) i u = none := by
  obtain ⟨hl, he⟩ := List.getElem?_eq_some_iff.mp hi
  rw [List.drop_eq_getElem_cons hl, he]
  simp only [sp_sa]
  rw [if_pos h, if_neg h2]
theorem sp_sa_end (h : ls.length ≤ n) : sp_sa w a b (ls.drop n) i u = some u := by
  rw [List.drop_eq_nil_of_le h]
  rfl
end SPA
/-- a word: its stem's change, the ending, the sounds; none where it is no FORM -/
noncomputable def sp_stm (w : sp_W) (b : sp_B) (nm : List Int) (s : Int) : List Int := if s = -1 then nm else if sp_lp (sp_F w (b.2.2.2.getD s.toNat sp_ln0)) nm = -1 then nm else sp_cg (sp_F w (b.2.2.2.getD s.toNat sp_ln0)) (sp_S2 w (b.2.2.2.getD s.toNat sp_ln0)) nm (sp_lp (sp_F w (b.2.2.2.getD s.toNat sp_ln0)) nm).toNat
noncomputable def sp_end (w : sp_W) (b : sp_B) (u : List Int) (e : Int) : List Int := if e = -1 then u else u ++ sp_F w (b.2.2.2.getD e.toNat sp_ln0)
noncomputable def sp_word (w : sp_W) (b : sp_B) (nm : List Int) (s e n0 n1 : Int) : Option (List Int) := match sp_sa w n0 n1 b.2.2.2 0 (sp_end w b (sp_stm w b nm s) e) with | none => none | some u => if u.length = 0 then none else some u

/-! the told book's lines, over a parse -/
def hq_JW (cs : Nat → ClassId) (V : hp_V) (bk : Nat) (r : Int32) : Prop := r.toInt = 1 → hq_J cs V bk
def hq_JJ (cs : Nat → ClassId) (V V' : hp_V) (bk : Nat) (r : Int32) : Prop := r.toInt = 1 → hq_J cs V bk → hq_J cs V' bk
theorem hq_J.empty {cs : Nat → ClassId} {V : hp_V} {bk cn vn vc ln : Nat} {c v l : Int32} (eb : V bk = some (.inr (0, [.ref cn, .int c, .ref vn, .ref vc, .int v, .ref ln, .int l]))) (h0 : l.toInt ≤ 0) : hq_J cs V bk := by
  intro i k h hL h3
  obtain ⟨cn', vn', vc', ln', x, y, z, c', v', l', o, t, p, ht, pa, la, f, e1, e2, e3, e4, e5, e6⟩ := hL
  cases eb.symm.trans e1
  omega
theorem hq_J.same {cs : Nat → ClassId} {G : hq_G} {V V' : hp_V} {bk b cn vn vc ln cn1 vn1 vc1 : Nat} {c v l c1 v1 : Int32} (hI' : hq_I cs G V') (hb : G bk = some (6, b, 0, 0)) (hJ : hq_J cs V bk) (eb : V bk = some (.inr (0, [.ref cn, .int c, .ref vn, .ref vc, .int v, .ref ln, .int l]))) (eb' : V' bk = some (.inr (0, [.ref cn1, .int c1, .ref vn1, .ref vc1, .int v1, .ref ln, .int l])))
    (hk : ∀ x t, G x = some t → ((hq_grp t).1 = 20 ∨ (hq_grp t).1 = 11) → V' x = V x) : hq_J cs V' bk := by
  intro i k h hL h3
  obtain ⟨cn', vn', vc', ln', x, y, z, c', v', l', o, t, p, ht, pa, la, f, e1, e2, e3, e4, e5, e6⟩ := hL
  obtain ⟨cn2, vn2, vc2, ln2, c2, v2, l2, e1', g1, g2, g3, g4, -, -, g5⟩ := hq_o6 hI' hb
  cases e1.symm.trans e1'
  cases eb'.symm.trans e1
  obtain ⟨-, f', e2', g6, -⟩ := hq_o4 hI' g4
  cases e2.symm.trans e2'
  obtain ⟨x', h1, h2⟩ := g6 _ (hq_ix e5 (by omega))
  cases e3.symm.trans h1
  exact hJ i k h ⟨_, _, _, _, _, _, _, _, _, _, _, _, _, _, _, _, _, eb, (hk _ _ g4 (Or.inr rfl)).symm.trans e2, e3, (hk _ _ h2 (Or.inl rfl)).symm.trans e4, e5, e6⟩ h3
theorem hq_J.add {cs : Nat → ClassId} {G : hq_G} {V V' : hp_V} {bk b cn vn vc ln cn1 vn1 vc1 it ya za : Nat} {c v l c1 v1 l1 k0 o0 t0 p0 h0 ht0 pa0 la0 : Int32} {f : Nat → Option Nat} (hI : hq_I cs G V) (hb : G bk = some (6, b, 0, 0)) (hJ : hq_J cs V bk) (eb : V bk = some (.inr (0, [.ref cn, .int c, .ref vn, .ref vc, .int v, .ref ln, .int l]))) (eb' : V' bk = some (.inr (0, [.ref cn1, .int c1, .ref vn1, .ref vc1, .int v1, .ref ln, .int l1])))
    (hl : l1.toInt = l.toInt + 1) (hl0 : 0 ≤ l.toInt) (hlt : l.toInt < 60) (ef : V ln = some (.inl (cs 6, 60, .inr (.inr (.inr (.inr f)))))) (hk : ∀ x t, G x = some t → (hq_grp t).1 = 11 → V' x = V x) (hx : f l.toNatClampNeg = some it)
    (ei : V' it = some (.inr (5, [.int k0, .int o0, .int t0, .int p0, .int h0, .int ht0, .int pa0, .int la0, .ref ya, .ref za]))) (hfr : ∀ x, G x = some (5, b, 0, 0) → x ≠ it → V' x = V x) (h30 : k0.toInt = 3 → 0 ≤ h0.toInt) : hq_J cs V' bk := by
  intro i k h hL h3
  obtain ⟨cn', vn', vc', ln', x, y, z, c', v', l', o, t, p, ht, pa, la, f', e1, e2, e3, e4, e5, e6⟩ := hL
  cases eb'.symm.trans e1
  obtain ⟨cn2, vn2, vc2, ln2, c2, v2, l2, e1', g1, g2, g3, g4, -, -, g5⟩ := hq_o6 hI hb
  cases eb.symm.trans e1'
  obtain ⟨-, f2, e2', g6, g7⟩ := hq_o4 hI g4
  cases ef.symm.trans e2'
  cases ((hk _ _ g4 rfl).trans ef).symm.trans e2
  have hi : i.toNatClampNeg < 60 := hq_ix e5 (by omega)
  have hl9 : l.toNatClampNeg < 60 := hq_ix hl0 (by omega)
  obtain ⟨x', h1, h2⟩ := g6 _ hi
  cases e3.symm.trans h1
  by_cases hxi : x = it
  · subst hxi
    cases ei.symm.trans e4
    exact h30 h3
  · have hne : i.toNatClampNeg ≠ l.toNatClampNeg := fun e9 => hxi (Option.some.inj (e3.symm.trans ((congrArg f e9).trans hx)))
    have hlt9 : i.toInt < l.toInt := by
      have q1 : i.toNatClampNeg = i.toInt.toNat := rfl
      have q2 : l.toNatClampNeg = l.toInt.toNat := rfl
      omega
    exact hJ i k h ⟨_, _, _, _, _, _, _, _, _, _, _, _, _, _, _, _, _, eb, ef, e3, (hfr _ h2 hxi).symm.trans e4, e5, hlt9⟩ h3
theorem hq_J.keepb {cs : Nat → ClassId} {G : hq_G} {V V' : hp_V} {bk b : Nat} (hJ : hq_J cs V bk) (hI' : hq_I cs G V') (hb : G bk = some (6, b, 0, 0)) (hk : ∀ x t, G x = some t → (hq_grp t = (20, b) ∨ hq_grp t = (21, b) ∨ (hq_grp t).1 = 11) → V' x = V x) : hq_J cs V' bk := by
  intro i k h hL h3
  obtain ⟨cn', vn', vc', ln', x, y, z, c', v', l', o, t, p, ht, pa, la, f, e1, e2, e3, e4, e5, e6⟩ := hL
  obtain ⟨cn2, vn2, vc2, ln2, c2, v2, l2, e1', g1, g2, g3, g4, -, -, g5⟩ := hq_o6 hI' hb
  cases e1.symm.trans e1'
  obtain ⟨-, f', e2', g6, -⟩ := hq_o4 hI' g4
  cases e2.symm.trans e2'
  obtain ⟨x', h1, h2⟩ := g6 _ (hq_ix e5 (by omega))
  cases e3.symm.trans h1
  exact hJ i k h ⟨_, _, _, _, _, _, _, _, _, _, _, _, _, _, _, _, _, (hk _ _ hb (Or.inr (Or.inl rfl))).symm.trans e1, (hk _ _ g4 (Or.inr (Or.inr rfl))).symm.trans e2, e3, (hk _ _ h2 (Or.inl rfl)).symm.trans e4, e5, e6⟩ h3
theorem hq_lgn {ok : Nat × Nat → Bool} {g : Nat × Nat} (h : hq_lg g = true) (h2 : (ok (20, g.2) || ok (21, g.2) || ok (11, g.2)) = false) : ok g = false := by
  obtain ⟨a, b⟩ := g
  simp only [hq_lg, Bool.or_eq_true, beq_iff_eq, Bool.or_eq_false_iff] at h h2
  obtain ⟨⟨h3, h4⟩, h5⟩ := h2
  rcases h with (rfl | rfl) | rfl
  · exact h3
  · exact h4
  · exact h5

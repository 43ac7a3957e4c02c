/-! sound lines have letters: over the book that is held (0) and the one that is drafted (60) -/
def hm_Q (fk fs : Nat → Int32) (o k : Nat) : Prop := ∀ j, j < k → (fk (o + j)).toInt = 2 → 1 ≤ (fs (o + j)).toInt
def hm_VQ (cs : Nat → ClassId) (V : hp_V) (q o i : Nat) : Prop := ∀ fk fs fl : Nat → Int32, V (q + 10) = some (.inl (cs 1, 120, .inl fk)) → V (q + 14) = some (.inl (cs 1, 120, .inl fs)) → V (q + 2) = some (.inl (cs 1, 2, .inl fl)) → hm_Q fk fs o (fl i).toInt.toNat
def hm_JH (cs : Nat → ClassId) (V V' : hp_V) (q : Nat) : Prop := hm_VQ cs V q 0 0 → hm_VQ cs V' q 0 0
def hm_JJ (cs : Nat → ClassId) (V V' : hp_V) (q : Nat) : Prop := hm_VQ cs V q 60 1 → hm_VQ cs V' q 60 1
def hm_E (G : hq_G) (V V' : hp_V) : Prop := ∀ x t, G x = some t → (hq_grp t).1 = 50 → V' x = V x
theorem hm_VQ.keep {cs : Nat → ClassId} {G : hq_G} {V V' : hp_V} {q o i : Nat} (h : hm_VQ cs V q o i) (hR : hq_RT G q) (he : hm_E G V V') : hm_VQ cs V' q o i :=
  fun fk fs fl e1 e2 e3 => h fk fs fl ((he _ _ (hr_10 hR) rfl).symm.trans e1) ((he _ _ (hr_14 hR) rfl).symm.trans e2) ((he _ _ (hr_2 hR) rfl).symm.trans e3)
theorem hm_JH.keep {cs : Nat → ClassId} {G : hq_G} {V V1 V2 : hp_V} {q : Nat} (h : hm_JH cs V V1 q) (hR : hq_RT G q) (he : hm_E G V1 V2) : hm_JH cs V V2 q := fun h0 => (h h0).keep hR he
theorem hm_E.jh {cs : Nat → ClassId} {G : hq_G} {V V1 : hp_V} {q : Nat} (he : hm_E G V V1) (hR : hq_RT G q) : hm_JH cs V V1 q := fun h0 => h0.keep hR he
theorem hm_E.jj {cs : Nat → ClassId} {G : hq_G} {V V1 : hp_V} {q : Nat} (he : hm_E G V V1) (hR : hq_RT G q) : hm_JJ cs V V1 q := fun h0 => h0.keep hR he
theorem hm_un {f : Nat → Int32} {i j : Nat} {x : Int32} (h : j ≠ i) : upd f i x j = f j := by simp only [upd, h, if_false]
theorem hm_ue {f : Nat → Int32} {i : Nat} {x : Int32} : upd f i x i = x := by simp only [upd, if_true]
theorem hm_ub {f : Nat → Int32} {i : Int32} {j : Nat} {x : Int32} (h : 60 ≤ i.toInt) (hj : j < 60) : upd f i.toNatClampNeg x j = f j := hm_un (by have h9 : i.toNatClampNeg = i.toInt.toNat := rfl; omega)
theorem hq_gne {G : hq_G} {a b : Nat} {t u : hq_T} (ha : G a = some t) (hb : G b = some u) (h : (hq_grp t).1 = 50) (h2 : (hq_grp u).1 ≠ 50) : a ≠ b := fun e => by
  subst e
  cases ha.symm.trans hb
  exact h2 h
theorem hm_JH.of {cs : Nat → ClassId} {V V' : hp_V} {q : Nat} {fk fs fl fk' fs' fl' : Nat → Int32} (ek : V (q + 10) = some (.inl (cs 1, 120, .inl fk))) (es : V (q + 14) = some (.inl (cs 1, 120, .inl fs))) (el : V (q + 2) = some (.inl (cs 1, 2, .inl fl)))
    (ek' : V' (q + 10) = some (.inl (cs 1, 120, .inl fk'))) (es' : V' (q + 14) = some (.inl (cs 1, 120, .inl fs'))) (el' : V' (q + 2) = some (.inl (cs 1, 2, .inl fl'))) (h1 : ∀ j, j < 60 → fk' j = fk j) (h2 : ∀ j, j < 60 → fs' j = fs j) (h3 : fl' 0 = fl 0) (hf : (fl 0).toInt ≤ 60) : hm_JH cs V V' q := by
  intro h gk gs gl e1 e2 e3
  cases ek'.symm.trans e1
  cases es'.symm.trans e2
  cases el'.symm.trans e3
  intro j hj h9
  rw [h3] at hj
  have hj6 : 0 + j < 60 := by omega
  rw [h1 _ hj6] at h9
  rw [h2 _ hj6]
  exact h fk fs fl ek es el j hj h9
theorem hm_JJ.of {cs : Nat → ClassId} {V V' : hp_V} {q : Nat} {fk fs fl fk' fs' fl' : Nat → Int32} {l : Int32} (ek : V (q + 10) = some (.inl (cs 1, 120, .inl fk))) (es : V (q + 14) = some (.inl (cs 1, 120, .inl fs))) (el : V (q + 2) = some (.inl (cs 1, 2, .inl fl)))
    (ek' : V' (q + 10) = some (.inl (cs 1, 120, .inl fk'))) (es' : V' (q + 14) = some (.inl (cs 1, 120, .inl fs'))) (el' : V' (q + 2) = some (.inl (cs 1, 2, .inl fl'))) (hl : l.toInt = 60 + (fl (1 : Int32).toNatClampNeg).toInt) (h0 : 0 ≤ (fl (1 : Int32).toNatClampNeg).toInt)
    (h1 : ∀ j, j ≠ l.toNatClampNeg → fk' j = fk j) (h2 : ∀ j, j ≠ l.toNatClampNeg → fs' j = fs j) (h3 : (fl' (1 : Int32).toNatClampNeg).toInt = (fl (1 : Int32).toNatClampNeg).toInt + 1) (h4 : (fk' l.toNatClampNeg).toInt = 2 → 1 ≤ (fs' l.toNatClampNeg).toInt) : hm_JJ cs V V' q := by
  intro h gk gs gl e1 e2 e3
  cases ek'.symm.trans e1
  cases es'.symm.trans e2
  cases el'.symm.trans e3
  intro j hj h9
  have hn : l.toNatClampNeg = l.toInt.toNat := rfl
  have hj' : j < ((fl' (1 : Int32).toNatClampNeg).toInt).toNat := hj
  by_cases hjl : 60 + j = l.toNatClampNeg
  · rw [hjl] at h9 ⊢
    exact h4 h9
  · rw [h1 _ hjl] at h9
    rw [h2 _ hjl]
    refine h fk fs fl ek es el j ?_ h9
    show j < ((fl (1 : Int32).toNatClampNeg).toInt).toNat
    omega
theorem hm_VQ.empty {cs : Nat → ClassId} {V : hp_V} {q o i : Nat} {fl : Nat → Int32} (el : V (q + 2) = some (.inl (cs 1, 2, .inl fl))) (h : (fl i).toInt ≤ 0) : hm_VQ cs V q o i := by
  intro gk gs gl e1 e2 e3
  cases el.symm.trans e3
  intro j hj
  omega
/-- the drafted book becomes the held one -/
def hm_B (fk fs fk0 fs0 : Nat → Int32) (i : Int) : Prop := (∀ j, 60 ≤ j → fk j = fk0 j ∧ fs j = fs0 j) ∧ ∀ j : Nat, (j : Int) < i → fk j = fk0 (60 + j) ∧ fs j = fs0 (60 + j)
theorem hm_B.step {fk fs fk0 fs0 fk1 fs1 : Nat → Int32} {i a c x y : Int32} (h : hm_B fk fs fk0 fs0 i.toInt) (h0 : 0 ≤ i.toInt) (h6 : i.toInt < 60) (ha : a.toInt = 60 + i.toInt) (hc : c.toInt = 60 + i.toInt) (hx : x = fk a.toNatClampNeg) (hy : y = fs c.toNatClampNeg) (e1 : fk1 = upd fk i.toNatClampNeg x) (e2 : fs1 = upd fs i.toNatClampNeg y) {i' : Int} (hi : i' = i.toInt + 1) : hm_B fk1 fs1 fk0 fs0 i' := by
  have n1 : i.toNatClampNeg = i.toInt.toNat := rfl
  have n2 : a.toNatClampNeg = a.toInt.toNat := rfl
  have n3 : c.toNatClampNeg = c.toInt.toNat := rfl
  subst hx hy e1 e2 hi
  refine ⟨fun j hj => ?_, fun j hj => ?_⟩
  · rw [hm_un (by omega), hm_un (by omega)]
    exact h.1 j hj
  · by_cases hji : j = i.toNatClampNeg
    · rw [hji, hm_ue, hm_ue, n2, n3, ha, hc]
      have q1 := h.1 ((60 + i.toInt).toNat) (by omega)
      have q2 : (60 + i.toInt).toNat = 60 + i.toNatClampNeg := by omega
      rw [q2] at q1 ⊢
      exact q1
    · rw [hm_un hji, hm_un hji]
      exact h.2 j (by omega)
theorem hm_VQ.become {cs : Nat → ClassId} {V V' : hp_V} {q : Nat} {fk fs fl fk' fs' fl' : Nat → Int32} (h : hm_VQ cs V q 60 1) (ek : V (q + 10) = some (.inl (cs 1, 120, .inl fk))) (es : V (q + 14) = some (.inl (cs 1, 120, .inl fs))) (el : V (q + 2) = some (.inl (cs 1, 2, .inl fl)))
    (ek' : V' (q + 10) = some (.inl (cs 1, 120, .inl fk'))) (es' : V' (q + 14) = some (.inl (cs 1, 120, .inl fs'))) (el' : V' (q + 2) = some (.inl (cs 1, 2, .inl fl'))) {i : Int} (hB : hm_B fk' fs' fk fs i) (hi : 60 ≤ i) (hl : fl' 0 = fl 1) (h6 : (fl 1).toInt ≤ 60) : hm_VQ cs V' q 0 0 := by
  intro gk gs gl e1 e2 e3
  cases ek'.symm.trans e1
  cases es'.symm.trans e2
  cases el'.symm.trans e3
  intro j hj h9
  rw [hl] at hj
  rw [(hB.2 (0 + j) (by omega)).1] at h9
  rw [(hB.2 (0 + j) (by omega)).2]
  have q1 : 60 + (0 + j) = 60 + j := by omega
  rw [q1] at h9 ⊢
  exact h fk fs fl ek es el j hj h9

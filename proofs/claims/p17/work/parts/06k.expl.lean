def hm_fit (fk fw ft fp fc : Nat → Int32) (l v t p : Int32) : Prop := (¬ (fk l.toNatClampNeg).toInt = 2 ∧ (ft l.toNatClampNeg).toInt = t.toInt ∧ ((fp l.toNatClampNeg).toInt = -1 ∨ (fp l.toNatClampNeg).toInt = p.toInt)) ∧ ((fw l.toNatClampNeg).toInt = -1 ∨ ((((fk l.toNatClampNeg).toInt = 4 ∨ (fk l.toNatClampNeg).toInt = 5) ∧ (fw l.toNatClampNeg).toInt = v.toInt) ∨ (¬ ((fk l.toNatClampNeg).toInt = 4 ∨ (fk l.toNatClampNeg).toInt = 5) ∧ (fw l.toNatClampNeg).toInt = (fc v.toNatClampNeg).toInt)))
def hm_P (fk fw ft fp fc : Nat → Int32) (k v t p l : Int32) : Prop := (fk l.toNatClampNeg).toInt = k.toInt ∧ hm_fit fk fw ft fp fc l v t p
/-- the first line below n that fits -/
def hm_F (fk fw ft fp fc : Nat → Int32) (n : Int) (k v t p r : Int32) : Prop := (r.toInt = -1 ∨ (0 ≤ r.toInt ∧ r.toInt < n ∧ hm_P fk fw ft fp fc k v t p r)) ∧ ∀ l : Int32, 0 ≤ l.toInt → l.toInt < n → (r.toInt = -1 ∨ l.toInt < r.toInt) → ¬ hm_P fk fw ft fp fc k v t p l
theorem hm_F.one {fk fw ft fp fc : Nat → Int32} {n : Int} {k v t p r r' : Int32} (h : hm_F fk fw ft fp fc n k v t p r) (h' : hm_F fk fw ft fp fc n k v t p r') : r.toInt = r'.toInt := by
  obtain ⟨h1, h2⟩ := h
  obtain ⟨g1, g2⟩ := h'
  rcases h1 with h1 | ⟨a1, a2, a3⟩
  · rcases g1 with g1 | ⟨b1, b2, b3⟩
    · omega
    · exact absurd b3 (h2 r' b1 b2 (Or.inl h1))
  · rcases g1 with g1 | ⟨b1, b2, b3⟩
    · exact absurd a3 (g2 r a1 a2 (Or.inl g1))
    · by_cases hlt : r.toInt < r'.toInt
      · exact absurd a3 (g2 r a1 a2 (Or.inr hlt))
      · by_cases hgt : r'.toInt < r.toInt
        · exact absurd b3 (h2 r' b1 b2 (Or.inr hgt))
        · omega
def hm_Fi (fk fw ft fp fc : Nat → Int32) (k v t p i : Int32) : Prop := ∀ l : Int32, 0 ≤ l.toInt → l.toInt < i.toInt → ¬ hm_P fk fw ft fp fc k v t p l
theorem hm_Fi.zero {fk fw ft fp fc : Nat → Int32} {k v t p i : Int32} (h : i.toInt ≤ 0) : hm_Fi fk fw ft fp fc k v t p i := fun l h0 h1 => absurd h1 (by omega)
theorem hm_Fi.step {fk fw ft fp fc : Nat → Int32} {k v t p i j : Int32} (h : hm_Fi fk fw ft fp fc k v t p i) (hn : ¬ hm_P fk fw ft fp fc k v t p i) (hj : j.toInt = i.toInt + 1) : hm_Fi fk fw ft fp fc k v t p j := by
  intro l h0 h1
  by_cases hl : l.toInt < i.toInt
  · exact h l h0 hl
  · obtain rfl : l = i := Int32.toInt_inj.mp (by omega)
    exact hn
def hm_1 (x : Int32) : Int := if x.toInt = -1 then 0 else 1
def hm_Ns (gs st : Int32) : Int := if st.toInt = gs.toInt then 0 else 1
def hm_Ne (ge ed : Int32) : Int := if ed.toInt = ge.toInt ∧ ¬ ge.toInt = -1 then 0 else 1
theorem hm_1.of (x : Int32) : (hm_1 x = 0 ∧ x.toInt = -1) ∨ (hm_1 x = 1 ∧ ¬ x.toInt = -1) := by unfold hm_1; split <;> omega
theorem hm_Ns.of (gs st : Int32) : (hm_Ns gs st = 0 ∧ st.toInt = gs.toInt) ∨ (hm_Ns gs st = 1 ∧ ¬ st.toInt = gs.toInt) := by unfold hm_Ns; split <;> omega
theorem hm_Ne.of (ge ed : Int32) : (hm_Ne ge ed = 0 ∧ ed.toInt = ge.toInt ∧ ¬ ge.toInt = -1) ∨ (hm_Ne ge ed = 1 ∧ ¬ (ed.toInt = ge.toInt ∧ ¬ ge.toInt = -1)) := by unfold hm_Ne; split <;> omega
def hm_N (gs ge st ed n0 n1 : Int32) : Int := hm_Ns gs st + hm_Ne ge ed + hm_1 n0 + hm_1 n1
/-- what the best attempt is, if there is one -/
def hm_BI (gs ge : Int32) (gx : Int) (bc bs be b0 b1 : Int32) : Prop := bc.toInt = 1000 ∨ (hm_N gs ge bs be b0 b1 + gx ≤ 2 ∧ (-1 ≤ bs.toInt ∧ bs.toInt < 60) ∧ (-1 ≤ be.toInt ∧ be.toInt < 60) ∧ (-1 ≤ b0.toInt ∧ b0.toInt < 60) ∧ -1 ≤ b1.toInt ∧ b1.toInt < 60)
def hm_XP (fk fw ft fp fc : Nat → Int32) (n : Int) (v t p bc bs be b0 b1 : Int32) : Prop := ∃ gs ge gx : Int32, hm_F fk fw ft fp fc n 0 v t p gs ∧ hm_F fk fw ft fp fc n 1 v t p ge ∧ hm_F fk fw ft fp fc n 4 v t p gx ∧ hm_BI gs ge (hm_1 gx) bc bs be b0 b1
theorem hm_XP.use {fk fw ft fp fc : Nat → Int32} {n : Int} {v t p bc bs be b0 b1 st en ex : Int32} (h : hm_XP fk fw ft fp fc n v t p bc bs be b0 b1) (hb : ¬ bc.toInt = 1000) (h1 : hm_F fk fw ft fp fc n 0 v t p st) (h2 : hm_F fk fw ft fp fc n 1 v t p en) (h3 : hm_F fk fw ft fp fc n 4 v t p ex) :
    hm_1 ex + hm_Ns st bs + hm_Ne en be + hm_1 b0 + hm_1 b1 ≤ 2 ∧ (-1 ≤ bs.toInt ∧ bs.toInt < 60) ∧ (-1 ≤ be.toInt ∧ be.toInt < 60) ∧ (-1 ≤ b0.toInt ∧ b0.toInt < 60) ∧ -1 ≤ b1.toInt ∧ b1.toInt < 60 := by
  obtain ⟨gs, ge, gx, g1, g2, g3, g4⟩ := h
  have e1 := Int32.toInt_inj.mp (h1.one g1)
  have e2 := Int32.toInt_inj.mp (h2.one g2)
  have e3 := Int32.toInt_inj.mp (h3.one g3)
  subst e1 e2 e3
  rcases g4 with g4 | ⟨g4, g5⟩
  · exact absurd g4 hb
  · refine ⟨?_, g5⟩
    unfold hm_N at g4
    omega

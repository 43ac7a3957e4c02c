/-! ===== THE CLASS'S LOOPS, STEP BY STEP ===== -/
section SPZ2
variable {ls : List sp_L} {w : sp_W} {U : Int → Int → List Int} {st : Nat → Prop} {M : sp_Y → Prop} {ex q os oe s e : Int} {Y : sp_Y}
theorem sp_bs_no (h : (s = -1 ∧ os = -1) ∨ (0 ≤ s ∧ ¬ (s < (ls.length : Int) ∧ sp_kd ls s.toNat = 0 ∧ ¬ s = os ∧ st s.toNat))) (hl : s < (ls.length : Int)) : sp_bs ls w U st q os oe s = [] := by
  unfold sp_bs
  rcases h with ⟨a, b⟩ | ⟨a, b⟩
  · rw [if_neg (by omega), if_pos a, if_pos b]
  · rw [if_neg (by omega), if_neg (by omega)]
    unfold sp_cxl
    rw [if_neg (fun g => b ⟨hl, g.1, by have := g.2.1; omega, g.2.2⟩)]
theorem sp_bs_yes (hq : (ex = -1 ∧ q = 0) ∨ (¬ ex = -1 ∧ q = 1)) (hs : sp_vs ls.length os s) (h0 : 0 ≤ s → sp_kd ls s.toNat = 0 ∧ st s.toNat) : sp_bs ls w U st q os oe s = sp_ce ls w U (sp_wc ex s (-2) (-1) (-1)) (sp_wk ex s (-2) (-1) (-1)) (sp_ys os s) oe := by
  have hc : ∀ a b : Int, sp_i2 ex (-1) 2 a → sp_i3 s (-2) 0 (-1) 2 3 b → sp_wc ex s (-2) (-1) (-1) = a + b := fun a b h1 h2 => ((sp_wc_eq h1 h2 (Or.inl ⟨rfl, rfl⟩) (Or.inl ⟨rfl, rfl⟩) (Or.inl ⟨rfl, rfl⟩) (r := a + b) (by omega))).symm
  have hk : ∀ a b : Int, sp_i2 ex (-1) 1 a → sp_i2 s (-2) 1 b → sp_wk ex s (-2) (-1) (-1) = a + b := fun a b h1 h2 => ((sp_wk_eq h1 h2 (Or.inl ⟨rfl, rfl⟩) (Or.inl ⟨rfl, rfl⟩) (Or.inl ⟨rfl, rfl⟩) (r := a + b) (by omega))).symm
  have q1 : sp_i2 ex (-1) 2 (2 * q) := by unfold sp_i2; omega
  have q2 : sp_i2 ex (-1) 1 q := by unfold sp_i2; omega
  unfold sp_bs sp_ys
  rcases hs with a | ⟨a, b⟩ | ⟨a, b, c⟩
  · rw [if_pos a, if_pos a, hc (2 * q) 0 q1 (Or.inl ⟨a, rfl⟩), hk q 0 q2 (Or.inl ⟨a, rfl⟩), Int.add_zero, Int.add_zero]
  · rw [if_neg (by omega), if_pos a, if_neg b, if_neg (by omega), hc (2 * q) 2 q1 (Or.inr (Or.inl ⟨by omega, a, rfl⟩)), hk q 1 q2 (Or.inr ⟨by omega, rfl⟩), a]
  · rw [if_neg (by omega), if_neg (by omega), if_neg (by omega), hc (2 * q) 3 q1 (Or.inr (Or.inr ⟨by omega, by omega, rfl⟩)), hk q 1 q2 (Or.inr ⟨by omega, rfl⟩)]
    unfold sp_cxl
    rw [if_pos ⟨(h0 a).1, by omega, (h0 a).2⟩, show ((s.toNat : Nat) : Int) = s by omega]
theorem sp_wc_e : (e = -2 → sp_wc ex s e (-1) (-1) = sp_wc ex s (-2) (-1) (-1) ∧ sp_wk ex s e (-1) (-1) = sp_wk ex s (-2) (-1) (-1)) ∧ (e = 60 → sp_wc ex s e (-1) (-1) = sp_wc ex s (-2) (-1) (-1) + 4 ∧ sp_wk ex s e (-1) (-1) = sp_wk ex s (-2) (-1) (-1) + 1) ∧ (¬ e = -2 → ¬ e = 60 → sp_wc ex s e (-1) (-1) = sp_wc ex s (-2) (-1) (-1) + 3 ∧ sp_wk ex s e (-1) (-1) = sp_wk ex s (-2) (-1) (-1) + 1) := by
  refine ⟨fun h => by rw [h]; exact ⟨rfl, rfl⟩, fun h => ?_, fun h h2 => ?_⟩
  · subst h
    unfold sp_wc sp_wk
    constructor
    · rw [if_neg (show ¬ (60 : Int) = -2 by decide), if_pos (rfl : (60 : Int) = 60), if_pos (rfl : (-2 : Int) = -2)]; omega
    · rw [if_neg (show ¬ (60 : Int) = -2 by decide), if_pos (rfl : (-2 : Int) = -2)]; omega
  · unfold sp_wc sp_wk
    constructor
    · rw [if_neg h, if_neg h2, if_pos (rfl : (-2 : Int) = -2)]; omega
    · rw [if_neg h, if_pos (rfl : (-2 : Int) = -2)]; omega
/-- an ending that is no way -/
theorem sp_be_no {c ch sS : Int} (h : (e = -2 ∧ oe = -1) ∨ (¬ e = -2 ∧ ¬ e = 60 ∧ ¬ (0 ≤ e ∧ e < (ls.length : Int) ∧ sp_kd ls e.toNat = 1 ∧ ¬ e = oe))) : sp_be ls w U c ch sS oe e = [] := by
  unfold sp_be
  rcases h with ⟨a, b⟩ | ⟨a, b, c1⟩
  · rw [if_pos a, if_pos b]
  · rw [if_neg a]
    split
    · rfl
    · first | rfl | rw [if_neg b, if_neg c1]
theorem sp_be_yes (hv : sp_ve ls.length oe e) (hk : 0 ≤ e → ¬ e = 60 → sp_kd ls e.toNat = 1) (hl : ls.length ≤ 60) (hc : e = -2 ∨ ¬ 1 < sp_wk ex s (-2) (-1) (-1)) : sp_be ls w U (sp_wc ex s (-2) (-1) (-1)) (sp_wk ex s (-2) (-1) (-1)) (sp_ys os s) oe e = sp_cy ls w U (sp_wc ex s e (-1) (-1)) (sp_wk ex s e (-1) (-1)) (sp_ys os s) (sp_ye oe e) := by
  obtain ⟨w1, w2, w3⟩ := sp_wc_e (ex := ex) (s := s) (e := e)
  unfold sp_be sp_ye
  by_cases c1 : e = -2
  · have b : ¬ oe = -1 := by rcases hv with ⟨-, b⟩ | b | ⟨b, -⟩ <;> omega
    rw [if_pos c1, if_neg b, if_pos c1, (w1 c1).1, (w1 c1).2]
  · have c2 : ¬ 1 < sp_wk ex s (-2) (-1) (-1) := by rcases hc with g | g; exact absurd g c1; exact g
    rw [if_neg c1, if_neg c2, if_neg c1]
    by_cases c3 : e = 60
    · rw [if_pos c3, if_pos c3, (w2 c3).1, (w2 c3).2]
    · have hx : 0 ≤ e ∧ e < (ls.length : Int) ∧ ¬ e = oe := by rcases hv with ⟨b, -⟩ | b | b; exact absurd b c1; exact absurd b c3; exact b
      rw [if_neg c3, if_pos ⟨hx.1, hx.2.1, hk hx.1 c3, hx.2.2⟩, if_neg c3, (w3 c1 c3).1, (w3 c1 c3).2]
/-- an ending that makes nothing better -/
theorem sp_be_skip {ask : List Int} (hv : sp_ve ls.length oe e) (hk : 0 ≤ e → ¬ e = 60 → sp_kd ls e.toNat = 1) (hl : ls.length ≤ 60) (hn : ¬ (sp_wk ex s e (-1) (-1) ≤ 2 ∧ (sp_wc ex s e (-1) (-1) < Y.1 ∨ (sp_wc ex s e (-1) (-1) = Y.1 ∧ sp_wk ex s e (-1) (-1) < Y.2.1)))) : Y = sp_tr (sp_M w ls U ask) Y (sp_be ls w U (sp_wc ex s (-2) (-1) (-1)) (sp_wk ex s (-2) (-1) (-1)) (sp_ys os s) oe e) := by
  by_cases c : e = -2 ∨ ¬ 1 < sp_wk ex s (-2) (-1) (-1)
  · rw [sp_be_yes hv hk hl c]
    exact (sp_cw_no (M := sp_M w ls U ask) (fun y hy => hy.1) hn).symm
  · have c1 : ¬ e = -2 := fun g => c (Or.inl g)
    have c2 : 1 < sp_wk ex s (-2) (-1) (-1) := Classical.byContradiction (fun g => c (Or.inr g))
    unfold sp_be
    rw [if_neg c1, if_pos c2]
    rfl
theorem sp_be_do (hv : sp_ve ls.length oe e) (hk : 0 ≤ e → ¬ e = 60 → sp_kd ls e.toNat = 1) (hl : ls.length ≤ 60) (hb : sp_wk ex s e (-1) (-1) ≤ 2) : sp_be ls w U (sp_wc ex s (-2) (-1) (-1)) (sp_wk ex s (-2) (-1) (-1)) (sp_ys os s) oe e = sp_cy ls w U (sp_wc ex s e (-1) (-1)) (sp_wk ex s e (-1) (-1)) (sp_ys os s) (sp_ye oe e) := by
  refine sp_be_yes hv hk hl ?_
  obtain ⟨w1, w2, w3⟩ := sp_wc_e (ex := ex) (s := s) (e := e)
  by_cases c1 : e = -2
  · exact Or.inl c1
  · right
    by_cases c3 : e = 60
    · have := (w2 c3).2; omega
    · have := (w3 c1 c3).2; omega
end SPZ2

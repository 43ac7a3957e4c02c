/-! ===== WORDS, PURELY: lists of bytes; places of letters in them ===== -/
def sp_pf : List Int → List Int → Bool
  | [], _ => true
  | _ :: _, [] => false
  | x :: xs, y :: ys => if x = y then sp_pf xs ys else false
theorem sp_pf_iff (f : List Int) : ∀ u : List Int, sp_pf f u = true ↔ (f.length ≤ u.length ∧ ∀ (k : Nat) (x : Int), f[k]? = some x → u[k]? = some x) := by
  induction f with
  | nil => intro u; simp [sp_pf]
  | cons a f ih =>
    intro u
    cases u with
    | nil => simp [sp_pf]
    | cons b u =>
      simp only [sp_pf]
      by_cases c : a = b
      · rw [if_pos c, ih u]
        subst c
        constructor
        · rintro ⟨h1, h2⟩
          refine ⟨by simp only [List.length_cons]; omega, fun k x hk => ?_⟩
          cases k with
          | zero => simpa using hk
          | succ k => exact h2 k x (by simpa using hk)
        · rintro ⟨h1, h2⟩
          refine ⟨by simp only [List.length_cons] at h1; omega, fun k x hk => ?_⟩
          have := h2 (k + 1) x (by simpa using hk)
          simpa using this
      · rw [if_neg c]
        constructor
        · intro h; cases h
        · rintro ⟨h1, h2⟩
          have := h2 0 a (by simp)
          simp at this
          exact absurd this.symm c
/-- a text's cells hold the word u -/
def sp_rp (z : Int32) (f : Nat → Int32) (u : List Int) : Prop := z.toInt = (u.length : Int) ∧ ∀ (k : Nat) (x : Int), u[k]? = some x → (f k).toInt = x
theorem sp_rp.nil {f : Nat → Int32} : sp_rp 0 f [] := ⟨rfl, fun k x h => by simp at h⟩
theorem sp_rp.nth {z : Int32} {f : Nat → Int32} {u : List Int} (h : sp_rp z f u) {k : Nat} (hk : k < u.length) : u[k]? = some (f k).toInt := by
  obtain ⟨x, hx⟩ : ∃ x, u[k]? = some x := ⟨_, List.getElem?_eq_getElem hk⟩
  rw [hx, h.2 k x hx]
/-- part stands in the word at i -/
theorem hx_st {z z2 : Int32} {f f2 : Nat → Int32} {u u2 : List Int} (h : sp_rp z f u) (h2 : sp_rp z2 f2 u2) {i : Int} (hi : 0 ≤ i) (hn : 0 < u2.length) : (i + z2.toInt ≤ z.toInt ∧ ∀ j : Nat, (j : Int) < z2.toInt → f (i.toNat + j) = f2 j) ↔ sp_pf u2 (u.drop i.toNat) = true := by
  rw [sp_pf_iff, List.length_drop]
  have e1 := h.1
  have e2 := h2.1
  constructor
  · rintro ⟨g1, g2⟩
    refine ⟨by omega, fun k x hk => ?_⟩
    have hl := (List.getElem?_eq_some_iff.mp hk).1
    rw [List.getElem?_drop, h.nth (by omega), g2 k (by omega), h2.2 k x hk]
  · rintro ⟨g1, g2⟩
    refine ⟨by omega, fun j hj => ?_⟩
    have hj2 : j < u2.length := by omega
    have h3 := g2 j _ (h2.nth hj2)
    rw [List.getElem?_drop, h.nth (by omega)] at h3
    exact Int32.toInt_inj.mp (Option.some.inj h3)
/-- the first place from here on -/
def sp_fp (f : List Int) : List Int → Int → Int
  | [], i => if sp_pf f [] = true then i else -1
  | x :: xs, i => if sp_pf f (x :: xs) = true then i else sp_fp f xs (i + 1)
theorem sp_fp_y {f u : List Int} {i : Int} (h : sp_pf f u = true) : sp_fp f u i = i := by
  cases u with
  | nil => simp only [sp_fp]; rw [if_pos h]
  | cons x u => simp only [sp_fp]; rw [if_pos h]
theorem sp_fp_n {f u : List Int} {k : Nat} {i : Int} (hk : k < u.length) (h : ¬ sp_pf f (u.drop k) = true) : sp_fp f (u.drop k) i = sp_fp f (u.drop (k + 1)) (i + 1) := by
  have e := List.drop_eq_getElem_cons hk
  rw [e] at h ⊢
  simp only [sp_fp]
  rw [if_neg h]
theorem sp_fp_o (f : List Int) : ∀ (u : List Int) (i : Int), u.length < f.length → sp_fp f u i = -1 := by
  have hn : ∀ u : List Int, u.length < f.length → ¬ sp_pf f u = true := fun u h g => by have := ((sp_pf_iff f u).mp g).1; omega
  intro u
  induction u with
  | nil => intro i h; simp only [sp_fp]; rw [if_neg (hn _ h)]
  | cons x u ih =>
    intro i h
    simp only [sp_fp]
    rw [if_neg (hn _ h)]
    exact ih (i + 1) (by simp only [List.length_cons] at h; omega)
/-- the last place up to i -/
def sp_lpg (f u : List Int) : Nat → Int
  | 0 => if sp_pf f (u.drop 0) = true then 0 else -1
  | i + 1 => if sp_pf f (u.drop (i + 1)) = true then ((i + 1 : Nat) : Int) else sp_lpg f u i
def sp_lp (f u : List Int) : Int := sp_lpg f u u.length
theorem sp_lpg_y {f u : List Int} {i : Nat} (h : sp_pf f (u.drop i) = true) : sp_lpg f u i = (i : Int) := by
  cases i with
  | zero => simp only [sp_lpg]; rw [if_pos h]; rfl
  | succ i => simp only [sp_lpg]; rw [if_pos h]
theorem sp_lpg_n {f u : List Int} {i : Nat} (h : ¬ sp_pf f (u.drop (i + 1)) = true) : sp_lpg f u (i + 1) = sp_lpg f u i := by simp only [sp_lpg]; rw [if_neg h]
theorem sp_lpg_0 {f u : List Int} (h : ¬ sp_pf f (u.drop 0) = true) : sp_lpg f u 0 = -1 := by simp only [sp_lpg]; rw [if_neg h]
/-- places at which too little is left don't count -/
theorem sp_lpg_up {f u : List Int} (hf : 0 < f.length) {i : Nat} (d : Nat) (h : u.length < i + 1 + f.length) : sp_lpg f u (i + d) = sp_lpg f u i := by
  induction d with
  | zero => rfl
  | succ d ih =>
    rw [show i + (d + 1) = (i + d) + 1 by omega, sp_lpg_n (fun g => by have h9 := ((sp_pf_iff f _).mp g).1; rw [List.length_drop] at h9; omega), ih]
theorem sp_lp_fit {f u : List Int} (hf : 0 < f.length) (h : f.length ≤ u.length) : sp_lp f u = sp_lpg f u (u.length - f.length) := by
  have := sp_lpg_up (f := f) (u := u) hf (i := u.length - f.length) f.length (by omega)
  unfold sp_lp
  rw [← this]
  congr 1
  omega
theorem sp_lp_none {f u : List Int} (h : u.length < f.length) : sp_lp f u = -1 := by
  have h0 : ∀ i, sp_lpg f u i = -1 := by
    intro i
    have hn : ∀ i, ¬ sp_pf f (u.drop i) = true := fun i g => by have h9 := ((sp_pf_iff f _).mp g).1; rw [List.length_drop] at h9; omega
    induction i with
    | zero => exact sp_lpg_0 (hn 0)
    | succ i ih => rw [sp_lpg_n (hn _), ih]
  exact h0 _
theorem sp_lpg_rg (f u : List Int) : ∀ i : Nat, sp_lpg f u i = -1 ∨ (0 ≤ sp_lpg f u i ∧ sp_lpg f u i ≤ i ∧ sp_pf f (u.drop (sp_lpg f u i).toNat) = true) := by
  intro i
  induction i with
  | zero =>
    by_cases c : sp_pf f (u.drop 0) = true
    · right; rw [sp_lpg_y c]; exact ⟨by decide, by decide, c⟩
    · left; exact sp_lpg_0 c
  | succ i ih =>
    by_cases c : sp_pf f (u.drop (i + 1)) = true
    · right; rw [sp_lpg_y c]; exact ⟨by omega, by omega, by rw [Int.toNat_natCast]; exact c⟩
    · rw [sp_lpg_n c]
      rcases ih with h | ⟨h1, h2, h3⟩
      · exact Or.inl h
      · exact Or.inr ⟨h1, by omega, h3⟩
/-- a part of another text behind a text -/
theorem sp_rp.app {z z1 k k2 : Int32} {f f1 f2 : Nat → Int32} {u u2 : List Int} (h : sp_rp z f u) (h2 : ∀ (j : Nat) (x : Int), u2[j]? = some x → (f2 j).toInt = x) (hk : 0 ≤ k.toInt ∧ k.toInt ≤ k2.toInt ∧ k2.toInt ≤ (u2.length : Int)) (e : z1.toInt = z.toInt + (k2.toInt - k.toInt)) (c1 : ∀ j : Nat, (j : Int) < z.toInt → f1 j = f j) (c2 : ∀ j : Nat, (j : Int) < k2.toInt - k.toInt → f1 (z.toInt.toNat + j) = f2 (k.toInt.toNat + j)) : sp_rp z1 f1 (u ++ (u2.drop k.toInt.toNat).take (k2.toInt - k.toInt).toNat) := by
  have e0 := h.1
  have hl : ((u2.drop k.toInt.toNat).take (k2.toInt - k.toInt).toNat).length = (k2.toInt - k.toInt).toNat := by rw [List.length_take, List.length_drop]; omega
  refine ⟨by rw [List.length_append, hl]; omega, fun j x hj => ?_⟩
  by_cases c : j < u.length
  · rw [List.getElem?_append_left c] at hj
    rw [c1 j (by omega)]
    exact h.2 j x hj
  · have hj2 := (List.getElem?_eq_some_iff.mp hj).1
    rw [List.length_append, hl] at hj2
    rw [List.getElem?_append_right (by omega), List.getElem?_take, if_pos (by omega), List.getElem?_drop] at hj
    have h3 := c2 (j - u.length) (by omega)
    rw [show z.toInt.toNat + (j - u.length) = j by omega] at h3
    rw [h3]
    exact h2 _ x hj
theorem sp_rp.same {z z2 : Int32} {f f2 : Nat → Int32} {u u2 : List Int} (h : sp_rp z f u) (h2 : sp_rp z2 f2 u2) : (z.toInt = z2.toInt ∧ ∀ j : Nat, (j : Int) < z2.toInt → f j = f2 j) ↔ u = u2 := by
  have e1 := h.1
  have e2 := h2.1
  constructor
  · rintro ⟨g1, g2⟩
    apply List.ext_getElem?
    intro k
    by_cases c : k < u.length
    · rw [h.nth c, h2.nth (by omega), g2 k (by omega)]
    · rw [List.getElem?_eq_none (by omega), List.getElem?_eq_none (by omega)]
  · intro e
    subst e
    refine ⟨by omega, fun j hj => Int32.toInt_inj.mp ?_⟩
    have h3 := h.nth (k := j) (by omega)
    have h4 := h2.nth (k := j) (by omega)
    rw [h3] at h4
    exact Option.some.inj h4
/-! a sound: from the left, each place at which f stands has s instead; k letters are passed over first -/
def sp_snd (f s : List Int) : List Int → Nat → List Int
  | [], _ => []
  | _ :: xs, k + 1 => sp_snd f s xs k
  | x :: xs, 0 => if sp_pf f (x :: xs) = true then s ++ sp_snd f s xs (f.length - 1) else x :: sp_snd f s xs 0
theorem sp_snd_skip (f s : List Int) : ∀ (k : Nat) (u : List Int), sp_snd f s u k = sp_snd f s (u.drop k) 0 := by
  intro k
  induction k with
  | zero => intro u; rfl
  | succ k ih =>
    intro u
    cases u with
    | nil => simp [sp_snd]
    | cons x u => simp only [sp_snd, List.drop_succ_cons]; exact ih u
theorem sp_snd_y {f s u : List Int} (hf : 0 < f.length) (h : sp_pf f u = true) : sp_snd f s u 0 = s ++ sp_snd f s (u.drop f.length) 0 := by
  cases u with
  | nil => have h9 := ((sp_pf_iff f []).mp h).1; simp only [List.length_nil] at h9; omega
  | cons x u =>
    simp only [sp_snd]
    rw [if_pos h, sp_snd_skip, show f.length = (f.length - 1) + 1 by omega, List.drop_succ_cons, Nat.add_sub_cancel]
theorem sp_snd_n {f s u : List Int} {k : Nat} (hk : k < u.length) (h : ¬ sp_pf f (u.drop k) = true) : sp_snd f s (u.drop k) 0 = u[k] :: sp_snd f s (u.drop (k + 1)) 0 := by
  have e := List.drop_eq_getElem_cons hk
  rw [e] at h ⊢
  simp only [sp_snd]
  rw [if_neg h]
theorem sp_snd_nil {f s u : List Int} {k : Nat} (hk : u.length ≤ k) : sp_snd f s (u.drop k) 0 = [] := by
  rw [List.drop_eq_nil_of_le hk]
  rfl
/-- up to the first place nothing changes -/
theorem sp_snd_fp {f s u : List Int} (hf : 0 < f.length) : ∀ (d k : Nat), u.length - k = d → (sp_fp f (u.drop k) k = -1 → sp_snd f s (u.drop k) 0 = u.drop k) ∧ (∀ a : Nat, sp_fp f (u.drop k) k = (a : Int) → k ≤ a ∧ a + f.length ≤ u.length ∧ sp_snd f s (u.drop k) 0 = (u.drop k).take (a - k) ++ (s ++ sp_snd f s (u.drop (a + f.length)) 0)) := by
  intro d
  induction d with
  | zero =>
    intro k hk
    have e : u.drop k = [] := List.drop_eq_nil_of_le (by omega)
    have h1 : sp_fp f (u.drop k) k = -1 := by rw [e]; exact sp_fp_o f [] k (by simpa using hf)
    refine ⟨fun _ => by rw [e]; rfl, fun a ha => ?_⟩
    rw [h1] at ha
    omega
  | succ d ih =>
    intro k hk
    have hl : k < u.length := by omega
    by_cases c : sp_pf f (u.drop k) = true
    · rw [sp_fp_y c]
      refine ⟨fun h => by omega, fun a ha => ?_⟩
      have ha : k = a := by omega
      subst ha
      have h9 := ((sp_pf_iff f _).mp c).1
      rw [List.length_drop] at h9
      refine ⟨Nat.le_refl _, by omega, ?_⟩
      rw [sp_snd_y hf c, Nat.sub_self, List.take_zero, List.nil_append, List.drop_drop]
    · obtain ⟨i1, i2⟩ := ih (k + 1) (by omega)
      rw [sp_fp_n hl c, show (k : Int) + 1 = ((k + 1 : Nat) : Int) by omega]
      have e := List.drop_eq_getElem_cons hl
      refine ⟨fun h => ?_, fun a ha => ?_⟩
      · rw [sp_snd_n hl c, i1 h, ← e]
      · obtain ⟨j1, j2, j3⟩ := i2 a ha
        refine ⟨by omega, j2, ?_⟩
        rw [sp_snd_n hl c, j3, e, show a - k = (a - (k + 1)) + 1 by omega, List.take_succ_cons, List.cons_append]
def sp_sndl (f s u : List Int) : List Int := if f.length ≤ u.length ∧ sp_pf f (u.drop (u.length - f.length)) = true then u.take (u.length - f.length) ++ s else u
/-- the letters of a line's token -/
def sp_lw (w : sp_W) (z : Int) (j : Nat) : List Int := sp_seg w.1 (sp_s w j + 1) (sp_s w j + 1 + z)
theorem sp_lw_rp {w : sp_W} {z : Int} {j : Nat} {z1 : Int32} {f : Nat → Int32} (h0 : 0 ≤ z) (h1 : z1.toInt = z) (h2 : ∀ k : Nat, (k : Int) < z → (f k).toInt = w.1 (sp_s w j + 1 + k)) : sp_rp z1 f (sp_lw w z j) := by
  unfold sp_lw
  have hl := sp_seg_len w.1 (sp_s w j + 1) (sp_s w j + 1 + z)
  refine ⟨by rw [hl]; omega, fun k x hk => ?_⟩
  have hk2 := (List.getElem?_eq_some_iff.mp hk).1
  rw [hl] at hk2
  rw [sp_seg_at _ _ _ k hk2] at hk
  rw [h2 k (by omega)]
  exact Option.some.inj hk
theorem sp_nm_rp {w : sp_W} {t : Nat} {z1 : Int32} {f : Nat → Int32} (h0 : 0 ≤ z1.toInt) (h1 : z1.toInt = sp_e w t - sp_s w t) (h2 : ∀ k : Nat, (k : Int) < z1.toInt → (f k).toInt = w.1 (sp_s w t + k)) : sp_rp z1 f (sp_nm w t) := by
  unfold sp_nm
  have hl := sp_seg_len w.1 (sp_s w t) (sp_e w t)
  refine ⟨by rw [hl]; omega, fun k x hk => ?_⟩
  have hk2 := (List.getElem?_eq_some_iff.mp hk).1
  rw [hl] at hk2
  rw [sp_seg_at _ _ _ k hk2] at hk
  rw [h2 k (by omega)]
  exact Option.some.inj hk

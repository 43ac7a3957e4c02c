/-! ===== SIZES AND BYTES OF A MADE WORD ===== -/
theorem sp_b8_iff {u : List Int} : sp_b8 u ↔ ∀ x ∈ u, -128 ≤ x ∧ x ≤ 127 := by
  constructor
  · intro h x hx
    obtain ⟨k, hk⟩ := List.mem_iff_getElem?.mp hx
    exact h k x hk
  · intro h k x hk
    exact h x (List.mem_iff_getElem?.mpr ⟨k, hk⟩)
theorem sp_snd_mem (f s : List Int) {x : Int} : ∀ (u : List Int) (k : Nat), x ∈ sp_snd f s u k → x ∈ u ∨ x ∈ s := by
  intro u
  induction u with
  | nil => intro k h; simp [sp_snd] at h
  | cons y u ih =>
    intro k h
    cases k with
    | succ k =>
      simp only [sp_snd] at h
      rcases ih k h with g | g
      · exact Or.inl (List.mem_cons_of_mem _ g)
      · exact Or.inr g
    | zero =>
      simp only [sp_snd] at h
      split at h
      · rcases List.mem_append.mp h with g | g
        · exact Or.inr g
        · rcases ih _ g with g | g
          · exact Or.inl (List.mem_cons_of_mem _ g)
          · exact Or.inr g
      · rcases List.mem_cons.mp h with g | g
        · rw [g]; exact Or.inl List.mem_cons_self
        · rcases ih _ g with g | g
          · exact Or.inl (List.mem_cons_of_mem _ g)
          · exact Or.inr g
theorem sp_sx_b8 {w : sp_W} {x : sp_L} {u : List Int} (hoc : sp_okc w) (h : sp_b8 u) : sp_b8 (sp_sx w x u) := by
  have hs : sp_b8 (sp_S2 w x) := sp_lw_b8 hoc _ _
  unfold sp_sx
  split
  · unfold sp_sndl
    split
    · exact (h.take _).app hs
    · exact h
  · have h := sp_b8_iff.mp h
    have hs := sp_b8_iff.mp hs
    refine sp_b8_iff.mpr (fun y hy => ?_)
    rcases sp_snd_mem _ _ _ _ hy with g | g
    · exact h y g
    · exact hs y g
theorem sp_pre_b8 {w : sp_W} {a b : Int} {ls : List sp_L} {u : List Int} (hoc : sp_okc w) (hu : sp_b8 u) : ∀ (n : Nat) (v : List Int), sp_pre w a b ls u n = some v → sp_b8 v := by
  intro n
  induction n with
  | zero => intro v h; cases h; exact hu
  | succ n ih =>
    intro v h
    cases h1 : sp_pre w a b ls u n with
    | none => rw [sp_pre_no h1] at h; cases h
    | some v1 =>
      have h2 := ih v1 h1
      cases hx : ls[n]? with
      | none => rw [sp_pre_out h1 hx] at h; cases h; exact h2
      | some x =>
        by_cases c : x.1 = 2 ∧ ¬ (n : Int) = a ∧ ¬ (n : Int) = b
        · by_cases c2 : (sp_sx w x v1).length ≤ 30
          · rw [sp_pre_g h1 hx c c2] at h; cases h; exact sp_sx_b8 hoc h2
          · rw [sp_pre_b h1 hx c c2] at h; cases h
        · rw [sp_pre_s h1 hx c] at h; cases h; exact h2
theorem sp_sa_b8 {w : sp_W} {a b : Int} {ls : List sp_L} {u v : List Int} (hoc : sp_okc w) (hu : sp_b8 u) (h : sp_sa w a b ls 0 u = some v) : sp_b8 v := by
  rw [sp_sa_fin] at h
  exact sp_pre_b8 hoc hu _ _ h
theorem sp_sa_le {w : sp_W} {a b : Int} {ls : List sp_L} {u v : List Int} (hu : u.length ≤ 30) (h : sp_sa w a b ls 0 u = some v) : v.length ≤ 30 := by
  rw [sp_sa_fin] at h
  exact sp_pre_le hu _ _ h
theorem sp_U_le {w : sp_W} {b : sp_B} {nm : List Int} (h : sp_g8 w b) (hn : nm.length ≤ 12) (s e : Int) : (sp_U w b nm s e).length ≤ 30 := (sp_U_len h hn s e).2
/-! ===== FORMS HELD BY THE REFERENCE ===== -/
def sp_fo (n : Int32) (fs ft : Nat → Int32) (L : List (List Int)) : Prop := n.toInt = (L.length : Int) ∧ ∀ (i : Nat) (u : List Int), L[i]? = some u → (fs i).toInt = (u.length : Int) ∧ u.length ≤ 61 ∧ ∀ (j : Nat) (x : Int), u[j]? = some x → (ft (61 * i + j)).toInt = x
theorem sp_fo.nil {fs ft : Nat → Int32} : sp_fo 0 fs ft [] := ⟨rfl, fun i t h => by simp at h⟩
/-- and one more under way -/
def sp_fc (n : Int32) (fs ft : Nat → Int32) (L : List (List Int)) (u : List Int) : Prop := sp_fo n fs ft L ∧ (fs n.toNatClampNeg).toInt = (u.length : Int) ∧ u.length ≤ 61 ∧ ∀ (j : Nat) (x : Int), u[j]? = some x → (ft (61 * n.toNatClampNeg + j)).toInt = x
theorem sp_fo.ix {n : Int32} {fs ft : Nat → Int32} {L : List (List Int)} (h : sp_fo n fs ft L) : n.toNatClampNeg = L.length := by
  have e0 := h.1
  have := (hq_nn (z := n) (by omega)).1
  omega
theorem sp_fo.begin {n : Int32} {fs ft : Nat → Int32} {L : List (List Int)} (h : sp_fo n fs ft L) : sp_fc n (upd fs n.toNatClampNeg 0) ft L [] := by
  have hl := h.ix
  refine ⟨⟨h.1, fun i u hi => ?_⟩, by rw [hm_ue] <;> rfl, Nat.zero_le _, fun j x hj => by simp at hj⟩
  have hi2 := (List.getElem?_eq_some_iff.mp hi).1
  rw [hm_un (by omega)]
  exact h.2 i u hi
theorem sp_fc.say {n v c : Int32} {fs ft : Nat → Int32} {L : List (List Int)} {u : List Int} {ix : Nat} (h : sp_fc n fs ft L u) (hu : u.length < 61) (hv : v.toInt = (u.length : Int) + 1) (hi : ix = 61 * n.toNatClampNeg + u.length) (h8 : -128 ≤ c.toInt ∧ c.toInt ≤ 127) : sp_fc n (upd fs n.toNatClampNeg v) (upd ft ix ((c : Int32).toInt8.toInt32)) L (u ++ [c.toInt]) := by
  obtain ⟨h1, h2, h3, h4⟩ := h
  have hl := h1.ix
  refine ⟨⟨h1.1, fun i u1 hi1 => ?_⟩, ?_, ?_, fun j x hj => ?_⟩
  · have hi2 := (List.getElem?_eq_some_iff.mp hi1).1
    obtain ⟨k1, k2, k3⟩ := h1.2 i u1 hi1
    rw [hm_un (by omega)]
    refine ⟨k1, k2, fun j x hj => ?_⟩
    have hj2 := (List.getElem?_eq_some_iff.mp hj).1
    rw [hm_un (by omega)]
    exact k3 j x hj
  · rw [hm_ue, List.length_append]; simp only [List.length_cons, List.length_nil]; omega
  · rw [List.length_append]; simp only [List.length_cons, List.length_nil]; omega
  · by_cases c9 : j < u.length
    · rw [List.getElem?_append_left c9] at hj
      rw [hm_un (by omega)]
      exact h4 j x hj
    · have hj2 := (List.getElem?_eq_some_iff.mp hj).1
      rw [List.length_append] at hj2
      simp only [List.length_cons, List.length_nil] at hj2
      have hj3 : j = u.length := by omega
      subst hj3
      rw [List.getElem?_append_right (Nat.le_refl _), Nat.sub_self] at hj
      have hj : some c.toInt = some x := hj
      cases hj
      rw [← hi, hm_ue]
      exact hx_n8 h8
theorem sp_fc.fin {n n1 : Int32} {fs ft : Nat → Int32} {L : List (List Int)} {u : List Int} (h : sp_fc n fs ft L u) (hn : n1.toInt = n.toInt + 1) : sp_fo n1 fs ft (L ++ [u]) := by
  obtain ⟨h1, h2, h3, h4⟩ := h
  have hl := h1.ix
  have e0 := h1.1
  refine ⟨by rw [List.length_append]; simp only [List.length_cons, List.length_nil]; omega, fun i u1 hi1 => ?_⟩
  by_cases c9 : i < L.length
  · rw [List.getElem?_append_left c9] at hi1
    exact h1.2 i u1 hi1
  · have hi2 := (List.getElem?_eq_some_iff.mp hi1).1
    rw [List.length_append] at hi2
    simp only [List.length_cons, List.length_nil] at hi2
    have hi3 : i = L.length := by omega
    subst hi3
    rw [List.getElem?_append_right (Nat.le_refl _), Nat.sub_self] at hi1
    have hi1 : some u = some u1 := hi1
    cases hi1
    rw [← hl]
    exact ⟨h2, h3, h4⟩
/-! ===== THE FORMS OF A PLACE WITHOUT A COMPOUND ===== -/
noncomputable def sp_ex (w : sp_W) (v c t p : Int) : List sp_L → Nat → List (List Int)
  | [], _ => []
  | _ :: _, 0 => []
  | x :: xs, k + 1 => @ite _ (sp_ft x 4 v c t p) (Classical.propDecidable _) (sp_F w x :: sp_ex w v c t p xs k) (sp_ex w v c t p xs (k + 1))
section SPX
variable {w : sp_W} {v c t p : Int} {ls : List sp_L} {n k : Nat} {x : sp_L}
theorem sp_ex_0 : sp_ex w v c t p ls 0 = [] := by cases ls <;> rfl
theorem sp_ex_o (h : ls.length ≤ n) : sp_ex w v c t p (ls.drop n) k = [] := by rw [List.drop_eq_nil_of_le h] <;> rfl
theorem sp_ex_y (hi : ls[n]? = some x) (h : sp_ft x 4 v c t p) : sp_ex w v c t p (ls.drop n) (k + 1) = sp_F w x :: sp_ex w v c t p (ls.drop (n + 1)) k := by
  obtain ⟨hl, he⟩ := List.getElem?_eq_some_iff.mp hi
  rw [List.drop_eq_getElem_cons hl, he]
  simp only [sp_ex]
  rw [if_pos h]
theorem sp_ex_n (hi : ls[n]? = some x) (h : ¬ sp_ft x 4 v c t p) : sp_ex w v c t p (ls.drop n) k = sp_ex w v c t p (ls.drop (n + 1)) k := by
  obtain ⟨hl, he⟩ := List.getElem?_eq_some_iff.mp hi
  rw [List.drop_eq_getElem_cons hl, he]
  cases k with
  | zero => rw [sp_ex_0, sp_ex_0]
  | succ k => simp only [sp_ex]; rw [if_neg h]
/-- by the next that fits -/
theorem sp_ex_nf : ∀ (d n : Nat), ls.length - n = d → (sp_nf 4 v c t p (ls.drop n) n = -1 → sp_ex w v c t p (ls.drop n) k = []) ∧ (∀ m : Nat, sp_nf 4 v c t p (ls.drop n) n = (m : Int) → ∃ y, ls[m]? = some y ∧ n ≤ m ∧ sp_ex w v c t p (ls.drop n) (k + 1) = sp_F w y :: sp_ex w v c t p (ls.drop (m + 1)) k) := by
  intro d
  induction d with
  | zero =>
    intro n hn
    refine ⟨fun _ => sp_ex_o (by omega), fun m hm => ?_⟩
    rw [sp_nf_o (by omega)] at hm
    omega
  | succ d ih =>
    intro n hn
    obtain ⟨y, hy⟩ : ∃ y, ls[n]? = some y := ⟨_, List.getElem?_eq_getElem (by omega)⟩
    by_cases f : sp_ft y 4 v c t p
    · rw [sp_nf_y hy f]
      refine ⟨fun h => by omega, fun m hm => ?_⟩
      have hm : n = m := by omega
      subst hm
      exact ⟨y, hy, Nat.le_refl _, sp_ex_y hy f⟩
    · obtain ⟨i1, i2⟩ := ih (n + 1) (by omega)
      rw [sp_nf_n hy f, show (n : Int) + 1 = ((n + 1 : Nat) : Int) by omega]
      refine ⟨fun h => by rw [sp_ex_n hy f]; exact i1 h, fun m hm => ?_⟩
      obtain ⟨z, hz, h1, h2⟩ := i2 m hm
      exact ⟨z, hz, by omega, by rw [sp_ex_n hy f]; exact h2⟩
end SPX
/-- all forms there -/
def sp_FM (n5 n1 : Int) (E : List (List Int)) (SA : Option (List Int)) (L : List (List Int)) : Prop := (¬ n5 = -1 ∧ L = []) ∨ (n5 = -1 ∧ ¬ E = [] ∧ L = E) ∨ (n5 = -1 ∧ E = [] ∧ n1 = -1 ∧ L = []) ∨ (n5 = -1 ∧ E = [] ∧ ¬ n1 = -1 ∧ ∃ u, SA = some u ∧ 0 < u.length ∧ L = [u]) ∨ (n5 = -1 ∧ E = [] ∧ ¬ n1 = -1 ∧ (∀ u, SA = some u → u.length = 0) ∧ L = [])
theorem sp_FM.uq {n5 n1 : Int} {E : List (List Int)} {SA : Option (List Int)} {L L2 : List (List Int)} (h : sp_FM n5 n1 E SA L) (h2 : sp_FM n5 n1 E SA L2) : L = L2 := by
  rcases h with ⟨a, b⟩ | ⟨a, c, b⟩ | ⟨a, c, d, b⟩ | ⟨a, c, d, u, e, f, b⟩ | ⟨a, c, d, e, b⟩ <;> rcases h2 with ⟨a2, b2⟩ | ⟨a2, c2, b2⟩ | ⟨a2, c2, d2, b2⟩ | ⟨a2, c2, d2, u2, e2, f2, b2⟩ | ⟨a2, c2, d2, e2, b2⟩
  all_goals first | (exact b.trans b2.symm) | (exact absurd a a2) | (exact absurd a2 a) | (exact absurd c2 c) | (exact absurd c c2) | (exact absurd d d2) | (exact absurd d2 d) | skip
  · rw [b, b2, Option.some.inj (e.symm.trans e2)]
  · have := e2 u e; omega
  · have := e u2 e2; omega

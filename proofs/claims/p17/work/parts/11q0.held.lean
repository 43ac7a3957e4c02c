/-! ===== TWO WORDS ALIKE BYTE BY BYTE; WHAT IS HELD FOR change() ===== -/
theorem sp_ext {u v : List Int} (hl : u.length = v.length) (h : ∀ (j : Nat) (x : Int), u[j]? = some x → v[j]? = some x) : u = v := by
  apply List.ext_getElem?
  intro k
  cases hk : u[k]? with
  | none =>
    have h1 : u.length ≤ k := List.getElem?_eq_none_iff.mp hk
    exact (List.getElem?_eq_none (by omega)).symm
  | some x => exact (h k x hk).symm
/-- types of the maker's cells and the explainer's bytes -/
def hk_T3 (G : hq_G) (kb : Nat) : Prop := G (kb + 6) = some (8, 4, 0, 0) ∧ G (kb + 7) = some (4, 4, 4, 0) ∧ G (kb + 24) = some (8, 2, 0, 0) ∧ G (kb + 34) = some (8, 2, 0, 0) ∧ G (kb + 44) = some (0, 30, 0, 0) ∧ G (kb + 45) = some (1, 30, 0, 0) ∧ G (kb + 54) = some (1, 30, 0, 0) ∧ G (kb + 56) = some (1, 30, 0, 0) ∧ G (kb + 58) = some (1, 30, 0, 0) ∧ hx_FT G (kb + 6)
theorem hk_t3_ok (n : Nat) : hk_T3 (hk_G n) n := by
  refine ⟨(hk_at n 6).trans rfl, (hk_at n 7).trans rfl, (hk_at n 24).trans rfl, (hk_at n 34).trans rfl, (hk_at n 44).trans rfl, (hk_at n 45).trans rfl, (hk_at n 54).trans rfl, (hk_at n 56).trans rfl, (hk_at n 58).trans rfl, fun a j hj ha => ?_⟩
  rcases (show j = 0 ∨ j = 1 ∨ j = 2 ∨ j = 3 by omega) with rfl | rfl | rfl | rfl
  · obtain rfl : a = n + 8 := by omega
    exact ⟨(hk_at n 8).trans rfl, (hk_at n 9).trans rfl, (hk_at n 10).trans rfl, (hk_at n 11).trans rfl⟩
  · obtain rfl : a = n + 12 := by omega
    exact ⟨(hk_at n 12).trans rfl, (hk_at n 13).trans rfl, (hk_at n 14).trans rfl, (hk_at n 15).trans rfl⟩
  · obtain rfl : a = n + 16 := by omega
    exact ⟨(hk_at n 16).trans rfl, (hk_at n 17).trans rfl, (hk_at n 18).trans rfl, (hk_at n 19).trans rfl⟩
  · obtain rfl : a = n + 20 := by omega
    exact ⟨(hk_at n 20).trans rfl, (hk_at n 21).trans rfl, (hk_at n 22).trans rfl, (hk_at n 23).trans rfl⟩
/-- the changes told, of both; the list of forms' array -/
def hk_CH (cs : Nat → ClassId) (nb q : Nat) (V : hp_V) (z hc cm : Int32) : Prop := ∃ (kk mm tt wh mi ta : Nat → Int32) (gf : Nat → Option Nat), V (nb + 59) = some (.inl (cs 1, 2, .inl kk)) ∧ V (nb + 60) = some (.inl (cs 1, 2, .inl mm)) ∧ V (nb + 61) = some (.inl (cs 1, 2, .inl tt)) ∧ V (q + 44) = some (.inl (cs 1, 2, .inl wh)) ∧ V (q + 45) = some (.inl (cs 1, 2, .inl mi)) ∧ V (q + 46) = some (.inl (cs 1, 2, .inl ta)) ∧ V (nb + 7) = some (.inl (cs 4, 4, .inr (.inr (.inr (.inr gf))))) ∧ (∀ j, j < 4 → gf j = some (nb + 6 + 2 + 4 * j)) ∧ ((hc.toInt = 0 ∧ z.toInt = 0) ∨ (hc.toInt = 1 ∧ ∃ T : List sp_C3, 1 ≤ T.length ∧ T.length ≤ 2 ∧ sp_hl z kk mm tt T ∧ sp_hl cm wh mi ta T))
/-- its cells -/
def hk_Ic (nb q x : Nat) : Prop := x = nb + 7 ∨ x = nb + 59 ∨ x = nb + 60 ∨ x = nb + 61 ∨ x = q + 44 ∨ x = q + 45 ∨ x = q + 46
theorem hk_CH.keep {cs : Nat → ClassId} {nb q : Nat} {V V' : hp_V} {z hc cm : Int32} (h : hk_CH cs nb q V z hc cm) (hk : ∀ x, hk_Ic nb q x → V' x = V x) : hk_CH cs nb q V' z hc cm := by
  obtain ⟨kk, mm, tt, wh, mi, ta, gf, h1, h2, h3, h4, h5, h6, h7, h8, h9⟩ := h
  exact ⟨kk, mm, tt, wh, mi, ta, gf, (hk _ (by unfold hk_Ic; omega)).trans h1, (hk _ (by unfold hk_Ic; omega)).trans h2, (hk _ (by unfold hk_Ic; omega)).trans h3, (hk _ (by unfold hk_Ic; omega)).trans h4, (hk _ (by unfold hk_Ic; omega)).trans h5, (hk _ (by unfold hk_Ic; omega)).trans h6, (hk _ (by unfold hk_Ic; omega)).trans h7, h8, h9⟩
/-- all is forgotten -/
theorem hk_CH.keep0 {cs : Nat → ClassId} {G : hq_G} {nb q : Nat} {V V' : hp_V} {z hc cm z1 hc1 cm1 : Int32} (h : hk_CH cs nb q V z hc cm) (hI : hq_I cs G V') (g1 : G (nb + 59) = some (2, 8, 2, 0)) (g2 : G (nb + 60) = some (2, 8, 2, 0)) (g3 : G (nb + 61) = some (2, 8, 2, 0)) (g4 : G (q + 44) = some (21, 2, 0, 49)) (g5 : G (q + 45) = some (21, 2, 5, 49)) (g6 : G (q + 46) = some (21, 2, 0, 49)) (e7 : V' (nb + 7) = V (nb + 7)) (e8 : hc1.toInt = 0) (e9 : z1.toInt = 0) : hk_CH cs nb q V' z1 hc1 cm1 := by
  obtain ⟨kk, mm, tt, wh, mi, ta, gf, -, -, -, -, -, -, h7, h8, -⟩ := h
  obtain ⟨-, f1, a1, -⟩ := hq_o2 hI g1
  obtain ⟨-, f2, a2, -⟩ := hq_o2 hI g2
  obtain ⟨-, f3, a3, -⟩ := hq_o2 hI g3
  obtain ⟨-, f4, a4, -⟩ := hq_o21 hI g4
  obtain ⟨-, f5, a5, -⟩ := hq_o21 hI g5
  obtain ⟨-, f6, a6, -⟩ := hq_o21 hI g6
  exact ⟨f1, f2, f3, f4, f5, f6, gf, a1, a2, a3, a4, a5, a6, e7.trans h7, h8, Or.inl ⟨e8, e9⟩⟩
/-- groups of these cells -/
def hk_T4 (G : hq_G) (nb q : Nat) : Prop := ∀ x, hk_Ic nb q x → ∃ t, G x = some t ∧ ((hq_grp t).1 = 11 ∨ (hq_grp t).1 = 8 ∨ (hq_grp t).1 = 49)
theorem hk_T4.fr {cs : Nat → ClassId} {G : hq_G} {nb q : Nat} {V V' : hp_V} {ok : Nat × Nat → Bool} (h : hk_T4 G nb q) (hq : hq_P cs G ok V V') (hok : ∀ g : Nat × Nat, (g.1 = 11 ∨ g.1 = 8 ∨ g.1 = 49) → ok g = false) : ∀ x, hk_Ic nb q x → V' x = V x := by
  intro x hx
  obtain ⟨t, h1, h2⟩ := h x hx
  exact hq.2 x t h1 (hok _ h2)
theorem hk_t4_ok {n q : Nat} (hq : q = n + 843) : hk_T4 (hk_G n) n q := by
  subst hq
  intro x hx
  rcases hx with rfl | rfl | rfl | rfl | rfl | rfl | rfl
  · exact ⟨_, (hk_at n 7).trans rfl, Or.inl rfl⟩
  · exact ⟨_, (hk_at n 59).trans rfl, Or.inr (Or.inl rfl)⟩
  · exact ⟨_, (hk_at n 60).trans rfl, Or.inr (Or.inl rfl)⟩
  · exact ⟨_, (hk_at n 61).trans rfl, Or.inr (Or.inl rfl)⟩
  · exact ⟨_, (hk_r n 44).trans rfl, Or.inr (Or.inr rfl)⟩
  · exact ⟨_, (hk_r n 45).trans rfl, Or.inr (Or.inr rfl)⟩
  · exact ⟨_, (hk_r n 46).trans rfl, Or.inr (Or.inr rfl)⟩
/-- the changes told, as one list -/
theorem hk_T9 {z hc cm : Int32} {kk mm tt wh mi ta : Nat → Int32} (h : (hc.toInt = 0 ∧ z.toInt = 0) ∨ (hc.toInt = 1 ∧ ∃ T : List sp_C3, 1 ≤ T.length ∧ T.length ≤ 2 ∧ sp_hl z kk mm tt T ∧ sp_hl cm wh mi ta T)) : ∃ T : List sp_C3, sp_hl z kk mm tt T ∧ T.length ≤ 2 ∧ ((hc.toInt = 0 ∧ T = []) ∨ (hc.toInt = 1 ∧ 1 ≤ T.length ∧ sp_hl cm wh mi ta T)) := by
  rcases h with ⟨h1, h2⟩ | ⟨h1, T, h2, h3, h4, h5⟩
  · exact ⟨[], ⟨h2.trans rfl, fun i t h => by simp at h⟩, by decide, Or.inl ⟨h1, rfl⟩⟩
  · exact ⟨T, h4, h3, Or.inr ⟨h1, h2, h5⟩⟩

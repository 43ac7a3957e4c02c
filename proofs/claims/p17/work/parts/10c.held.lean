/-! ===== WHAT IS HELD BETWEEN TWO CALLS, EXACTLY ===== -/
theorem hx_BK.keep {cs : Nat → ClassId} {V V' : hp_V} {qb : Nat} {w : sp_W} {b : sp_B} (h : hx_BK cs V qb w b) (hk : ∀ x, (qb ≤ x ∧ x < qb + 377) → V' x = V x) : hx_BK cs V' qb w b := by
  obtain ⟨⟨bc, bv, bl, h1, h2⟩, h3, h4, ⟨f, h5, h6⟩, h7⟩ := h
  have l1 := h3.1
  have l2 := h4.1
  have l3 := h7.1
  exact ⟨⟨bc, bv, bl, (hk _ (by omega)).trans h1, h2⟩, h3.keep (fun x hx => hk x (by omega)), h4.keep (fun x hx => hk x (by omega)), ⟨f, (hk _ (by omega)).trans h5, h6⟩, h7.keep (fun x hx => hk x (by omega))⟩
theorem hx_BK0.keep {V V' : hp_V} {qb : Nat} (h : hx_BK0 V qb) (e : V' qb = V qb) : hx_BK0 V' qb := by
  obtain ⟨bc, bv, bl, h1, h2⟩ := h
  exact ⟨bc, bv, bl, e.trans h1, h2⟩
/-- the shapes of a book's cells -/
def hx_SH (cs : Nat → ClassId) (V : hp_V) (qb : Nat) : Prop := hx_SK cs V qb ∧ hx_BS cs V qb ∧ hx_BK0 V qb
theorem hx_SH.keep {cs : Nat → ClassId} {V V' : hp_V} {qb : Nat} (h : hx_SH cs V qb) (hk : ∀ x, (qb ≤ x ∧ x < qb + 377) → V' x = V x) : hx_SH cs V' qb :=
  ⟨h.1.keep (fun x hx => hk x (by omega)), h.2.1.keep (hk _ (by omega)) (hk _ (by omega)) (hk _ (by omega)), h.2.2.keep (hk _ (by omega))⟩
/-- compounds have a helper, sounds have letters -/
def sp_gl (x : sp_L) : Prop := (x.1 = 3 → 0 ≤ x.2.2.2.2.1) ∧ (x.1 = 2 → 1 ≤ x.2.2.2.2.2.1) ∧ (¬ x.1 = 3 → x.2.2.2.2.1 = 0 ∨ x.2.2.2.2.1 = 1)
/-- a name's letters are small ones -/
def sp_gn (w : sp_W) (t : Nat) : Prop := ∀ k : Nat, (k : Int) < sp_e w t - sp_s w t → 97 ≤ w.1 (sp_s w t + k) ∧ w.1 (sp_s w t + k) ≤ 122
def sp_good (w : sp_W) (b : sp_B) : Prop := (∀ (i : Nat) (x : sp_L), b.2.2.2[i]? = some x → sp_gl x) ∧ ∀ (i t : Nat), b.2.1[i]? = some t → sp_gn w t
theorem sp_good.nil {w : sp_W} : sp_good w ([], [], [], []) := ⟨fun i x h => by simp at h, fun i t h => by simp at h⟩
theorem sp_go_all (p : Int → Bool) (z : Int) (k : Nat) : ∀ i j, i ≤ j → j < sp_go p z k i → p j = true := by
  induction k with
  | zero => intro i j h1 h2; have h2 : j < i := h2; omega
  | succ k ih =>
    intro i j h1 h2
    simp only [sp_go] at h2
    split at h2
    · rename_i c
      by_cases e : j = i
      · rw [e]; exact c.2
      · exact ih (i + 1) j (by omega) h2
    · omega
theorem sp_tok_gn {w : sp_W} {j : Nat} (h : sp_k w j ≤ 17) : sp_gn w j := by
  have h0 := sp_K_le w (sp_pos w j)
  have h9 := sp_K_end w (sp_pos w j)
  have h : sp_K w (sp_pos w j) ≤ 17 := h
  have h8 : sp_S w (sp_pos w j) < w.2 := by omega
  by_cases c1 : w.1 (sp_S w (sp_pos w j)) = 59
  · have := (sp_c_semi h8 c1).2; omega
  by_cases c2 : w.1 (sp_S w (sp_pos w j)) = 39
  · have := (sp_c_quote h8 c2).2
    split at this <;> omega
  by_cases c3 : 97 ≤ w.1 (sp_S w (sp_pos w j)) ∧ w.1 (sp_S w (sp_pos w j)) ≤ 122
  · have e1 := (sp_c_word h8 c3).1
    intro k hk
    have hk : (k : Int) < sp_E w (sp_pos w j) - sp_S w (sp_pos w j) := hk
    rw [e1] at hk
    have h7 := sp_go_all (sp_rg w.1 97 122) w.2 (w.2 - sp_S w (sp_pos w j)).toNat (sp_S w (sp_pos w j)) (sp_S w (sp_pos w j) + k) (by omega) (by unfold sp_run at hk; omega)
    exact of_decide_eq_true h7
  by_cases c4 : 48 ≤ w.1 (sp_S w (sp_pos w j)) ∧ w.1 (sp_S w (sp_pos w j)) ≤ 57
  · have := (sp_c_dig h8 c4).2
    split at this <;> omega
  · have := (sp_c_bad h8 c1 c2 c3 c4).2; omega
theorem sp_last_01 {w : sp_W} {j : Nat} : (sp_last w j).2.2 = 0 ∨ (sp_last w j).2.2 = 1 := by
  by_cases c : sp_k w j = 10
  · exact Or.inr (sp_last_y c).2
  · exact Or.inl (sp_last_n c).2
theorem sp_chg_sz {w : sp_W} {j : Nat} (h : (sp_chg w j).1 = 0) : 1 ≤ sp_sz w j := by
  by_cases c : sp_k w j = 19
  · by_cases c2 : sp_e w j - sp_s w j = 2
    · have := (sp_chg_b c c2).1; omega
    · have h1 := sp_tok_let c
      unfold sp_sz
      omega
  · have := (sp_chg_a c).1; omega
theorem sp_old_0 {w : sp_W} {L : List Nat} {j : Nat} (h : (sp_old w L j).1 = 0) : 0 ≤ (sp_old w L j).2.2 := by
  have h9 := sp_fi_rg w j L 0 (by decide)
  unfold sp_old at h ⊢
  split at h
  · cases h
  · rename_i c1
    rw [if_neg c1]
    split at h
    · cases h
    · rename_i c2
      rw [if_neg c2]
      show 0 ≤ sp_fi w j L 0
      omega
theorem sp_comp_0 {w : sp_W} {L : List Nat} {j : Nat} (h : (sp_comp w L j).1 = 0) : 0 ≤ (sp_comp w L j).2.2.2 := by
  unfold sp_comp at h ⊢
  repeat' split at h
  all_goals first
    | omega
    | exact absurd h (by assumption)
    | skip
  all_goals first
    | (rename_i c1 c2 c3 c4 c5 c6 c7 c8; rw [if_neg c1, if_neg c2, if_neg c3, if_neg c4, if_neg c5, if_neg c6, if_neg c7, if_neg c8]; exact sp_old_0 (by omega))
theorem sp_line_good {w : sp_W} {b : sp_B} {k : Int} {j : Nat} (h : (sp_line w b k j).1 = 0) : sp_gl (sp_line w b k j).2.2 := by
  unfold sp_line at h ⊢
  split at h
  · rename_i ck
    rw [if_pos ck]
    repeat' split at h
    all_goals first | exact absurd h (by assumption) | skip
    rename_i c1 c2 c3
    rw [if_neg c1, if_neg c2, if_neg c3]
    exact ⟨fun g => absurd g (by show ¬ (0 : Int) = 3; decide), fun g => absurd g (by show ¬ (0 : Int) = 2; decide), fun _ => Or.inl rfl⟩
  rename_i ck0
  rw [if_neg ck0]
  split at h
  · rename_i ck
    rw [if_pos ck]
    repeat' split at h
    all_goals first | exact absurd h (by assumption) | skip
    rename_i c1 c2 c3
    rw [if_neg c1, if_neg c2, if_neg c3]
    exact ⟨fun g => absurd g (by show ¬ (1 : Int) = 3; decide), fun g => absurd g (by show ¬ (1 : Int) = 2; decide), fun _ => Or.inl rfl⟩
  rename_i ck1
  rw [if_neg ck1]
  split at h
  · rename_i ck
    rw [if_pos ck]
    split at h
    · exact absurd h (by assumption)
    · rename_i c1
      rw [if_neg c1]
      exact ⟨fun g => absurd g (by show ¬ (2 : Int) = 3; decide), fun _ => sp_chg_sz (by omega), fun _ => sp_last_01⟩
  rename_i ck2
  rw [if_neg ck2]
  split at h
  · rename_i ck
    rw [if_pos ck]
    repeat' split at h
    all_goals first | exact absurd h (by assumption) | skip
    rename_i c1 c2
    rw [if_neg c1, if_neg c2]
    exact ⟨fun _ => sp_comp_0 (by omega), fun g => absurd g (by show ¬ (3 : Int) = 2; decide), fun g => absurd rfl g⟩
  rename_i ck3
  rw [if_neg ck3]
  split at h
  · exact absurd h (by assumption)
  rename_i c1
  rw [if_neg c1]
  split at h
  · exact absurd h (by assumption)
  rename_i c2
  rw [if_neg c2]
  split at h
  · rename_i ck
    rw [if_pos ck]
    split at h
    · exact absurd h (by assumption)
    · rename_i c3
      rw [if_neg c3]
      exact ⟨fun g => absurd g (by show ¬ (4 : Int) = 3; decide), fun g => absurd g (by show ¬ (4 : Int) = 2; decide), fun _ => Or.inl rfl⟩
  · rename_i ck
    rw [if_neg ck]
    exact ⟨fun g => absurd g (by show ¬ (5 : Int) = 3; decide), fun g => absurd g (by show ¬ (5 : Int) = 2; decide), fun _ => Or.inl rfl⟩
theorem sp_tl_good {w : sp_W} {b : sp_B} {j : Nat} (h : (sp_tl w b j).1 = 0) : sp_gl (sp_tl w b j).2.2 := by
  unfold sp_tl at h ⊢
  split at h
  · cases h
  rename_i c1
  rw [if_neg c1]
  split at h
  · cases h
  rename_i c2
  rw [if_neg c2]
  exact sp_line_good h
theorem sp_item_good {w : sp_W} {b : sp_B} {j : Nat} (hb : sp_good w b) (h : (sp_item w b j).1 = 0) : sp_good w (sp_item w b j).2.2 := by
  unfold sp_item at h ⊢
  split at h
  · rename_i c1
    rw [if_pos c1]
    exact hb
  rename_i c1
  rw [if_neg c1]
  split at h
  · rename_i c2
    rw [if_pos c2]
    refine ⟨hb.1, fun i t hi => ?_⟩
    have hi : (b.2.1 ++ [j + 1])[i]? = some t := hi
    by_cases c : i < b.2.1.length
    · rw [List.getElem?_append_left c] at hi
      exact hb.2 i t hi
    · have hl : i < (b.2.1 ++ [j + 1]).length := (List.getElem?_eq_some_iff.mp hi).1
      have hi2 : i = b.2.1.length := by simp at hl; omega
      subst hi2
      rw [List.getElem?_append_right (Nat.le_refl _)] at hi
      simp at hi
      rw [← hi]
      have h : (sp_tv w b.1 b.2.1 j).1 = 0 := h
      have h17 : sp_k w (j + 1) = 17 := by
        by_cases c9 : (sp_new w b.2.1 (j + 1)).1 = 0
        · exact sp_new_k c9
        · unfold sp_tv at h
          by_cases c8 : 30 ≤ b.2.1.length
          · rw [if_pos c8] at h
            exact absurd h (by show ¬ (4 : Int) = 0; decide)
          · rw [if_neg c8, if_pos c9] at h
            exact absurd h c9
      exact sp_tok_gn (by omega)
  rename_i c2
  rw [if_neg c2]
  refine ⟨fun i x hi => ?_, hb.2⟩
  have hi : (b.2.2.2 ++ [(sp_tl w b j).2.2])[i]? = some x := hi
  by_cases c : i < b.2.2.2.length
  · rw [List.getElem?_append_left c] at hi
    exact hb.1 i x hi
  · have hl : i < (b.2.2.2 ++ [(sp_tl w b j).2.2]).length := (List.getElem?_eq_some_iff.mp hi).1
    have hi2 : i = b.2.2.2.length := by simp at hl; omega
    subst hi2
    rw [List.getElem?_append_right (Nat.le_refl _)] at hi
    simp at hi
    rw [← hi]
    exact sp_tl_good h
theorem sp_prs_good {w : sp_W} (f : Nat) : ∀ (j : Nat) (b : sp_B), sp_good w b → (sp_prs w f j b).1 = 0 → sp_good w (sp_prs w f j b).2.2 := by
  induction f with
  | zero => intro j b hb h; exact absurd h (by show ¬ (9 : Int) = 0; decide)
  | succ f ih =>
    intro j b hb h
    by_cases c1 : sp_k w j = 21
    · rw [sp_prs_end c1]; exact hb
    by_cases c2 : (sp_item w b j).1 = 0
    · by_cases c3 : (sp_take w 20 (sp_item w b j).2.1).1 = 0
      · rw [sp_prs_ok c1 c2 c3] at h ⊢
        exact ih _ _ (sp_item_good hb c2) h
      · rw [sp_prs_semi c1 c2 c3] at h
        exact absurd h c3
    · rw [sp_prs_bad c1 c2] at h
      exact absurd h c2
/-- the told book's compounds have helpers, by the pure book -/
theorem hq_J.of {cs : Nat → ClassId} {V : hp_V} {qb : Nat} {w : sp_W} {b : sp_B} (h : hx_BK cs V qb w b) (hs : hx_BS cs V qb) (hg : sp_good w b) : hq_J cs V qb := by
  intro i k hh hL h3
  obtain ⟨cn', vn', vc', ln', x, y, z, c', v', l', o, t, p, ht, pa, la, f, e1, e2, e3, e4, e5, e6⟩ := hL
  obtain ⟨⟨bc, bv, bl, h1, h2, h2a, h2b⟩, -, -, -, h7⟩ := h
  obtain ⟨-, -, ⟨g3, s1, s2⟩⟩ := hs
  cases h1.symm.trans e1
  cases s1.symm.trans e2
  have n1 := (hq_nn (z := i) (by omega)).1
  have l3 := h7.1
  obtain ⟨x9, hx9⟩ : ∃ t, b.2.2.2[i.toNatClampNeg]? = some t := ⟨_, List.getElem?_eq_getElem (by omega)⟩
  have s3 := s2 i.toNatClampNeg (by omega)
  cases e3.symm.trans s3
  obtain ⟨ak, ao, at9, ap, ah, aht, apa, ala, ha1, ha2, ha3, ha4, ha5, ha6, -⟩ := h7.2 _ _ hx9
  cases ha1.symm.trans e4
  rw [ha6 (by omega)]
  exact (hg.1 _ _ hx9).1 (by omega)
theorem hm_VQ.of {cs : Nat → ClassId} {V : hp_V} {q : Nat} {rh : hm_Rh} {w : sp_W} {b : sp_B} (h : hm_AR cs V q rh) (hb : hm_BK rh 0 w b) (hg : sp_good w b) : hm_VQ cs V q 0 0 := by
  intro fk fs fl e1 e2 e3
  cases (h 10 (by decide)).symm.trans e1
  cases (h 14 (by decide)).symm.trans e2
  cases (h 2 (by decide)).symm.trans e3
  intro j hj h9
  obtain ⟨-, -, h2, -, -, h6⟩ := hb
  obtain ⟨x9, hx9⟩ : ∃ t, b.2.2.2[j]? = some t := ⟨_, List.getElem?_eq_getElem (by omega)⟩
  obtain ⟨g1, -, -, -, -, ⟨g6, -⟩, -⟩ := h6.2 _ _ hx9
  have g1 : (rh 10 (0 + j)).toInt = x9.1 := g1
  have g6 : (rh 14 (0 + j)).toInt = x9.2.2.2.2.2.1 := g6
  rw [g6]
  exact (hg.1 _ _ hx9).2.1 (by omega)
theorem hm_BK.held {rh rh1 : hm_Rh} {w : sp_W} {b : sp_B} (h : hm_BK rh 0 w b) (hH : hm_H rh rh1) : hm_BK rh1 0 w b := by
  obtain ⟨h0, h1, h2, h3, ⟨h4, h5⟩, h6⟩ := h
  have l1 := h3.1
  have l2 := h6.1
  have f : ∀ a N i, hm_half.getD a 0 = N → i < N → rh1 a i = rh a i := fun a N i e hi => hH a i (by omega)
  refine ⟨by rw [f 0 1 0 rfl (by decide)]; exact h0, by rw [f 1 1 0 rfl (by decide)]; exact h1, by rw [f 2 1 0 rfl (by decide)]; exact h2, h3.keep (fun i _ _ => f 8 30 i rfl (by omega)) (fun i _ _ => f 4 360 i rfl (by omega)), ⟨h4, fun k x hk => ?_⟩, h6.keep (fun a i ha ha2 _ _ => ?_) (fun a i ha ha2 _ _ => ?_)⟩
  · have hl := (List.getElem?_eq_some_iff.mp hk).1
    rw [f 9 30 _ rfl (by omega)]
    exact h5 k x hk
  · rcases (show a = 10 ∨ a = 11 ∨ a = 12 ∨ a = 13 ∨ a = 14 ∨ a = 15 ∨ a = 16 by omega) with rfl | rfl | rfl | rfl | rfl | rfl | rfl
    all_goals exact f _ 60 i rfl (by omega)
  · rcases (show a = 5 ∨ a = 6 by omega) with rfl | rfl
    all_goals exact f _ 480 i rfl (by omega)
theorem hx_TS.of {cs : Nat → ClassId} {G : hq_G} {V : hp_V} {a R : Nat} {z : Int32} {f : Nat → Int32} (hI : hq_I cs G V) (hG : G a = some (0, R, 0, 0)) (e : V a = some (.inr (9, [.ref (a + 1), .int z]))) (e2 : V (a + 1) = some (.inl (cs 0, R, .inl f))) : hx_TS cs V a R := by
  obtain ⟨u, z', e', -, h0, h1, -⟩ := hq_o0 hI hG
  cases e.symm.trans e'
  exact ⟨z, f, e, e2, h0, h1⟩
theorem sp_okc_add {w : sp_W} {v : Int} (h : sp_okc w) (hv : -128 ≤ v ∧ v ≤ 127) : sp_okc (sp_add w v) := by
  intro i
  show -128 ≤ (if i = w.2 then v else w.1 i) ∧ (if i = w.2 then v else w.1 i) ≤ 127
  split
  · exact hv
  · exact h i
theorem sp_okc_addI {w : sp_W} {a : Int32} (h : sp_okc w) : sp_okc (sp_addI w a) := sp_okc_add (sp_okc_add (sp_okc_add (sp_okc_add h (sp_fb_rg _ _)) (sp_fb_rg _ _)) (sp_fb_rg _ _)) (sp_fb_rg _ _)
theorem sp_okc_feed {w : sp_W} {a b c d e : Int32} (h : sp_okc w) : sp_okc (sp_feed w a b c d e) := sp_okc_addI (sp_okc_addI (sp_okc_addI (sp_okc_addI (sp_okc_addI h))))
/-- what a whole book's lines keep to, further -/
def sp_g2 (x : sp_L) : Prop := (x.1 = 4 ∨ x.1 = 5 → 0 ≤ x.2.1) ∧ (x.1 = 2 → x.2.2.1 = -1) ∧ (x.1 = 0 → 1 ≤ x.2.2.2.2.2.1) ∧ (x.1 = 4 → 1 ≤ x.2.2.2.2.2.1)
theorem sp_exc_sz {w : sp_W} {k : Int} {j : Nat} (h : (sp_exc w k j).1 = 0) : 1 ≤ sp_sz w j := by
  by_cases c : sp_k w j = 19
  · by_cases c2 : 2 ≤ k
    · have := (sp_exc_b c c2).1; omega
    · by_cases c3 : sp_e w j - sp_s w j = 2
      · have := (sp_exc_c c c2 c3).1; omega
      · have h1 := sp_tok_let c
        unfold sp_sz
        omega
  · have := (sp_exc_a (n := k) c).1; omega
theorem sp_line_g2 {w : sp_W} {b : sp_B} {k : Int} {j : Nat} (h : (sp_line w b k j).1 = 0) : sp_g2 (sp_line w b k j).2.2 := by
  unfold sp_line at h ⊢
  split at h
  · rename_i ck
    rw [if_pos ck]
    repeat' split at h
    all_goals first | exact absurd h (by assumption) | skip
    rename_i c1 c2 c3
    rw [if_neg c1, if_neg c2, if_neg c3]
    exact ⟨fun g => absurd g (by show ¬ ((0 : Int) = 4 ∨ (0 : Int) = 5); decide), fun g => absurd g (by show ¬ (0 : Int) = 2; decide), fun _ => sp_chg_sz (by omega), fun g => absurd g (by show ¬ (0 : Int) = 4; decide)⟩
  rename_i ck0
  rw [if_neg ck0]
  split at h
  · rename_i ck
    rw [if_pos ck]
    repeat' split at h
    all_goals first | exact absurd h (by assumption) | skip
    rename_i c1 c2 c3
    rw [if_neg c1, if_neg c2, if_neg c3]
    exact ⟨fun g => absurd g (by show ¬ ((1 : Int) = 4 ∨ (1 : Int) = 5); decide), fun g => absurd g (by show ¬ (1 : Int) = 2; decide), fun g => absurd g (by show ¬ (1 : Int) = 0; decide), fun g => absurd g (by show ¬ (1 : Int) = 4; decide)⟩
  rename_i ck1
  rw [if_neg ck1]
  split at h
  · rename_i ck
    rw [if_pos ck]
    split at h
    · exact absurd h (by assumption)
    · rename_i c1
      rw [if_neg c1]
      exact ⟨fun g => absurd g (by show ¬ ((2 : Int) = 4 ∨ (2 : Int) = 5); decide), fun _ => rfl, fun g => absurd g (by show ¬ (2 : Int) = 0; decide), fun g => absurd g (by show ¬ (2 : Int) = 4; decide)⟩
  rename_i ck2
  rw [if_neg ck2]
  split at h
  · rename_i ck
    rw [if_pos ck]
    repeat' split at h
    all_goals first | exact absurd h (by assumption) | skip
    rename_i c1 c2
    rw [if_neg c1, if_neg c2]
    exact ⟨fun g => absurd g (by show ¬ ((3 : Int) = 4 ∨ (3 : Int) = 5); decide), fun g => absurd g (by show ¬ (3 : Int) = 2; decide), fun g => absurd g (by show ¬ (3 : Int) = 0; decide), fun g => absurd g (by show ¬ (3 : Int) = 4; decide)⟩
  rename_i ck3
  rw [if_neg ck3]
  split at h
  · exact absurd h (by assumption)
  rename_i c1
  rw [if_neg c1]
  split at h
  · exact absurd h (by assumption)
  rename_i c2
  rw [if_neg c2]
  split at h
  · rename_i ck
    rw [if_pos ck]
    split at h
    · exact absurd h (by assumption)
    · rename_i c3
      rw [if_neg c3]
      exact ⟨fun _ => sp_old_0 (by omega), fun g => absurd g (by show ¬ (4 : Int) = 2; decide), fun g => absurd g (by show ¬ (4 : Int) = 0; decide), fun _ => sp_exc_sz (Classical.not_not.mp c3)⟩
  · rename_i ck
    rw [if_neg ck]
    exact ⟨fun _ => sp_old_0 (by omega), fun g => absurd g (by show ¬ (5 : Int) = 2; decide), fun g => absurd g (by show ¬ (5 : Int) = 0; decide), fun g => absurd g (by show ¬ (5 : Int) = 4; decide)⟩
def sp_good2 (b : sp_B) : Prop := ∀ (i : Nat) (x : sp_L), b.2.2.2[i]? = some x → sp_g2 x
theorem sp_good2.nil : sp_good2 ([], [], [], []) := fun i x h => by simp at h
theorem sp_item_good2 {w : sp_W} {b : sp_B} {j : Nat} (hb : sp_good2 b) (h : (sp_item w b j).1 = 0) : sp_good2 (sp_item w b j).2.2 := by
  by_cases c1 : sp_k w j = 6
  · unfold sp_item; rw [if_pos c1]; exact hb
  by_cases c2 : sp_k w j = 7
  · unfold sp_item; rw [if_neg c1, if_pos c2]; exact hb
  unfold sp_item at h ⊢
  rw [if_neg c1, if_neg c2] at h ⊢
  have h : (sp_tl w b j).1 = 0 := h
  intro i x hi
  have hi : (b.2.2.2 ++ [(sp_tl w b j).2.2])[i]? = some x := hi
  by_cases c : i < b.2.2.2.length
  · rw [List.getElem?_append_left c] at hi
    exact hb i x hi
  · have hl : i < (b.2.2.2 ++ [(sp_tl w b j).2.2]).length := (List.getElem?_eq_some_iff.mp hi).1
    have hi2 : i = b.2.2.2.length := by simp at hl; omega
    subst hi2
    rw [List.getElem?_append_right (Nat.le_refl _)] at hi
    simp at hi
    rw [← hi]
    unfold sp_tl at h ⊢
    by_cases d1 : sp_k w j ≤ 5
    · rw [if_neg (fun g => g d1)] at h ⊢
      by_cases d2 : 60 ≤ b.2.2.2.length
      · rw [if_pos d2] at h; exact absurd h (by show ¬ (4 : Int) = 0; decide)
      · rw [if_neg d2] at h ⊢
        exact sp_line_g2 h
    · rw [if_pos d1] at h; exact absurd h (by show ¬ (1 : Int) = 0; decide)
theorem sp_prs_good2 {w : sp_W} (f : Nat) : ∀ (j : Nat) (b : sp_B), sp_good2 b → (sp_prs w f j b).1 = 0 → sp_good2 (sp_prs w f j b).2.2 := by
  induction f with
  | zero => intro j b hb h; exact absurd h (by show ¬ (9 : Int) = 0; decide)
  | succ f ih =>
    intro j b hb h
    by_cases c1 : sp_k w j = 21
    · rw [sp_prs_end c1]; exact hb
    by_cases c2 : (sp_item w b j).1 = 0
    · by_cases c3 : (sp_take w 20 (sp_item w b j).2.1).1 = 0
      · rw [sp_prs_ok c1 c2 c3] at h ⊢
        exact ih _ _ (sp_item_good2 hb c2) h
      · rw [sp_prs_semi c1 c2 c3] at h
        exact absurd h c3
    · rw [sp_prs_bad c1 c2] at h
      exact absurd h c2
/-- what a told book keeps to, all -/
def sp_gd (w : sp_W) (b : sp_B) : Prop := sp_good w b ∧ sp_good2 b ∧ sp_okc w
/-- the class's and the reference's tapes, books and faults are the same -/
def hk_E (cs : Nat → ClassId) (nb q : Nat) (V : hp_V) (to : Nat) (fk fp ft fa : Int32) : Prop := (fk.toInt = ft.toInt ∧ fp.toInt = fa.toInt) ∧ (∃ w : sp_W, hx_TP cs V nb w ∧ hm_TP cs V q w ∧ sp_okc w) ∧ (∃ (w : sp_W) (b : sp_B) (rh : hm_Rh), hm_AR cs V q rh ∧ hm_BK rh 0 w b ∧ sp_gd w b ∧ hx_BK cs V to w b) ∧ hx_SH cs V (nb + 88) ∧ hx_SH cs V (nb + 465) ∧ hx_TS cs V (nb + 3) 12
/-- the cells that tell it, but for the tapes -/
def hk_In (nb q x : Nat) : Prop := x = nb + 3 ∨ x = nb + 4 ∨ (nb + 88 ≤ x ∧ x < nb + 842) ∨ (q ≤ x ∧ x < q + 19)
theorem hk_E.keep {cs : Nat → ClassId} {nb q to : Nat} {V V' : hp_V} {fk fp ft fa : Int32} (h : hk_E cs nb q V to fk fp ft fa) (hto : to = nb + 88 ∨ to = nb + 465) (hk : ∀ x, hk_In nb q x → V' x = V x) (e0 : V' nb = V nb) (e1 : V' (nb + 1) = V (nb + 1)) (e2 : V' (q + 20) = V (q + 20)) : hk_E cs nb q V' to fk fp ft fa := by
  obtain ⟨h0, ⟨w, h1, h2, h3⟩, ⟨wb, b, rh, h4, h5, h6, h7⟩, h8, h9, h10⟩ := h
  exact ⟨h0, ⟨w, h1.keep e0 e1, h2.keep e2, h3⟩, ⟨wb, b, rh, h4.keep (fun x hx => hk x (by unfold hk_In; omega)), h5, h6, h7.keep (fun x hx => hk x (by unfold hk_In; omega))⟩, h8.keep (fun x hx => hk x (by unfold hk_In; omega)), h9.keep (fun x hx => hk x (by unfold hk_In; omega)), h10.keep (hk _ (by unfold hk_In; omega)) (hk _ (by unfold hk_In; omega))⟩
/-- the tape is empty -/
theorem hk_E.keep0 {cs : Nat → ClassId} {G : hq_G} {nb q to : Nat} {V V' : hp_V} {fk fp ft fa z : Int32} (h : hk_E cs nb q V to fk fp ft fa) (hto : to = nb + 88 ∨ to = nb + 465) (hk : ∀ x, hk_In nb q x → V' x = V x) (hI : hq_I cs G V') (g1 : G (nb + 1) = some (1, 4000, 0, 0)) (g2 : G (q + 20) = some (20, 4000, 42, 0)) (e0 : V' nb = some (.inr (9, [.ref (nb + 1), .int z]))) (hz : z.toInt = 0) : hk_E cs nb q V' to fk fp ft fa := by
  obtain ⟨h0, ⟨w, h1, h2, h3⟩, ⟨wb, b, rh, h4, h5, h6, h7⟩, h8, h9, h10⟩ := h
  obtain ⟨-, f1, e1, -⟩ := hq_o1 hI g1
  obtain ⟨-, f2, e2⟩ := hq_o20 hI g2
  exact ⟨h0, ⟨sp_cut w 0, ⟨z, f1, e0, e1, hz, ⟨Int.le_refl 0, by show (0 : Int) ≤ 4000; decide⟩, fun k (hk : (k : Int) < 0) => absurd hk (by omega)⟩, ⟨f2, e2, ⟨⟨Int.le_refl 0, by show (0 : Int) ≤ 4000; decide⟩, fun i hi (hi2 : i < 0) => absurd hi2 (by omega)⟩, fun k (hk : (k : Int) < 0) => absurd hk (by omega)⟩, h3⟩, ⟨wb, b, rh, h4.keep (fun x hx => hk x (by unfold hk_In; omega)), h5, h6, h7.keep (fun x hx => hk x (by unfold hk_In; omega))⟩, h8.keep (fun x hx => hk x (by unfold hk_In; omega)), h9.keep (fun x hx => hk x (by unfold hk_In; omega)), h10.keep (hk _ (by unfold hk_In; omega)) (hk _ (by unfold hk_In; omega))⟩
/-- the tape anew -/
theorem hk_E.tape {cs : Nat → ClassId} {nb q to : Nat} {V V' : hp_V} {fk fp ft fa : Int32} {w : sp_W} (h : hk_E cs nb q V to fk fp ft fa) (hto : to = nb + 88 ∨ to = nb + 465) (hk : ∀ x, hk_In nb q x → V' x = V x) (h1 : hx_TP cs V' nb w) (h2 : hm_TP cs V' q w) (h3 : sp_okc w) : hk_E cs nb q V' to fk fp ft fa := by
  obtain ⟨h0, -, ⟨wb, b, rh, h4, h5, h6, h7⟩, h8, h9, h10⟩ := h
  exact ⟨h0, ⟨w, h1, h2, h3⟩, ⟨wb, b, rh, h4.keep (fun x hx => hk x (by unfold hk_In; omega)), h5, h6, h7.keep (fun x hx => hk x (by unfold hk_In; omega))⟩, h8.keep (fun x hx => hk x (by unfold hk_In; omega)), h9.keep (fun x hx => hk x (by unfold hk_In; omega)), h10.keep (hk _ (by unfold hk_In; omega)) (hk _ (by unfold hk_In; omega))⟩
/-- types of the books' cells -/
def hk_BTy (G : hq_G) (qb bb : Nat) : Prop := G (qb + 1) = some (4, 7, 6, 0) ∧ G (qb + 14) = some (4, 7, 30, 0) ∧ G (qb + 75) = some (2, 3, 30, 0) ∧ G (qb + 76) = some (4, 6, 60, bb) ∧ hx_BT G qb bb
def hk_gr (g : Nat) : Prop := g = 3 ∨ g = 11 ∨ g = 20 ∨ g = 21 ∨ g = 41 ∨ g = 50
def hk_T2 (G : hq_G) (nb q : Nat) : Prop := G (nb + 4) = some (1, 12, 0, 0) ∧ hk_BTy G (nb + 88) 0 ∧ hk_BTy G (nb + 465) 1 ∧ ∀ x, hk_In nb q x → ∃ t, G x = some t ∧ hk_gr (hq_grp t).1
theorem hk_T2.fr {cs : Nat → ClassId} {G : hq_G} {nb q : Nat} {V V' : hp_V} {ok : Nat × Nat → Bool} (h : hk_T2 G nb q) (hq : hq_P cs G ok V V') (hok : ∀ g : Nat × Nat, hk_gr g.1 → ok g = false) : ∀ x, hk_In nb q x → V' x = V x := by
  intro x hx
  obtain ⟨t, h1, h2⟩ := h.2.2.2 x hx
  exact hq.2 x t h1 (hok _ h2)
theorem hk_Bg {b d : Nat} (h : d < 376) : ∃ t, hk_B b d = some t ∧ hk_gr (hq_grp t).1 := by
  unfold hk_B
  repeat' split
  all_goals first
    | exact ⟨_, rfl, Or.inl rfl⟩
    | exact ⟨_, rfl, Or.inr (Or.inl rfl)⟩
    | exact ⟨_, rfl, Or.inr (Or.inr (Or.inl rfl))⟩
    | exact ⟨_, rfl, Or.inr (Or.inr (Or.inr (Or.inl rfl)))⟩
    | omega
theorem hk_bty {G : hq_G} {qb b : Nat} (h : ∀ d, d < 376 → G (qb + 1 + d) = hk_B b d) : hk_BTy G qb b := by
  refine ⟨(h 0 (by decide)).trans rfl, (h 13 (by decide)).trans rfl, (h 74 (by decide)).trans rfl, (h 75 (by decide)).trans rfl, fun i hi => ⟨?_, ?_⟩, fun i hi => ⟨?_, ?_⟩, fun i hi => ⟨?_, ?_, ?_, ?_, ?_⟩⟩
  · rw [show qb + 2 + 2 * i = qb + 1 + (1 + 2 * i) by omega, h _ (by omega)]; exact hk_t1 hi
  · rw [show qb + 2 + 2 * i + 1 = qb + 1 + (2 + 2 * i) by omega, h _ (by omega)]; exact hk_t2 hi
  · rw [show qb + 15 + 2 * i = qb + 1 + (14 + 2 * i) by omega, h _ (by omega)]; exact hk_t3 hi
  · rw [show qb + 15 + 2 * i + 1 = qb + 1 + (15 + 2 * i) by omega, h _ (by omega)]; exact hk_t4 hi
  · rw [show qb + 77 + 5 * i = qb + 1 + (76 + 5 * i + 0) by omega, h _ (by omega), hk_t5 hi (by decide)]; rfl
  · rw [show qb + 77 + 5 * i + 1 = qb + 1 + (76 + 5 * i + 1) by omega, h _ (by omega), hk_t5 hi (by decide)]; rfl
  · rw [show qb + 77 + 5 * i + 2 = qb + 1 + (76 + 5 * i + 2) by omega, h _ (by omega), hk_t5 hi (by decide)]; rfl
  · rw [show qb + 77 + 5 * i + 3 = qb + 1 + (76 + 5 * i + 3) by omega, h _ (by omega), hk_t5 hi (by decide)]; rfl
  · rw [show qb + 77 + 5 * i + 4 = qb + 1 + (76 + 5 * i + 4) by omega, h _ (by omega), hk_t5 hi (by decide)]; rfl
theorem hk_Rg : ∀ d, d < 19 → ∃ t, hk_R[d]? = some t ∧ ((hq_grp t).1 = 41 ∨ (hq_grp t).1 = 50) := by
  intro d hd
  have h : ∀ d, d < 19 → (match hk_R[d]? with | some t => decide ((hq_grp t).1 = 41 ∨ (hq_grp t).1 = 50) | none => false) = true := by decide
  have h2 := h d hd
  cases h3 : hk_R[d]? with
  | none => rw [h3] at h2; cases h2
  | some t => rw [h3] at h2; exact ⟨t, rfl, of_decide_eq_true h2⟩
theorem hk_t2_ok {n q : Nat} (hq : q = n + 843) : hk_T2 (hk_G n) n q := by
  subst hq
  refine ⟨(hk_at n 4).trans rfl, hk_bty (fun d hd => hk_b0 n d hd), hk_bty (fun d hd => hk_b1 n d hd), fun x hx => ?_⟩
  rcases hx with rfl | rfl | hx | hx
  · exact ⟨_, (hk_at n 3).trans rfl, Or.inl rfl⟩
  · exact ⟨_, (hk_at n 4).trans rfl, Or.inl rfl⟩
  · by_cases c0 : x = n + 88
    · subst c0; exact ⟨_, (hk_at n 88).trans rfl, Or.inr (Or.inr (Or.inr (Or.inl rfl)))⟩
    by_cases c1 : x = n + 465
    · subst c1; exact ⟨_, (hk_at n 465).trans rfl, Or.inr (Or.inr (Or.inr (Or.inl rfl)))⟩
    by_cases c2 : x < n + 465
    · obtain ⟨d, hd, rfl⟩ : ∃ d, d < 376 ∧ x = n + 89 + d := ⟨x - (n + 89), by omega, by omega⟩
      rw [hk_b0 n d hd]
      exact hk_Bg hd
    · obtain ⟨d, hd, rfl⟩ : ∃ d, d < 376 ∧ x = n + 466 + d := ⟨x - (n + 466), by omega, by omega⟩
      rw [hk_b1 n d hd]
      exact hk_Bg hd
  · obtain ⟨d, hd, rfl⟩ : ∃ d, d < 19 ∧ x = n + 843 + d := ⟨x - (n + 843), by omega, by omega⟩
    obtain ⟨t, h1, h2⟩ := hk_Rg d hd
    exact ⟨t, (hk_r n d).trans h1, by unfold hk_gr; omega⟩
theorem hx_TP.opn {cs : Nat → ClassId} {V : hp_V} {kb u : Nat} {w : sp_W} {z : Int32} (h : hx_TP cs V kb w) (e : V kb = some (.inr (9, [.ref u, .int z]))) : z.toInt = w.2 ∧ (0 ≤ w.2 ∧ w.2 ≤ 4000) ∧ ∃ g : Nat → Int32, V (kb + 1) = some (.inl (cs 0, 4000, .inl g)) ∧ ∀ k : Nat, (k : Int) < w.2 → (g k).toInt = w.1 k := by
  obtain ⟨z', g, h1, h2, h3, h4, h5⟩ := h
  cases h1.symm.trans e
  exact ⟨h3, h4, g, h2, h5⟩
theorem hk_E.mk {cs : Nat → ClassId} {G : hq_G} {nb q to : Nat} {V : hp_V} {fk fp ft fa z : Int32} {w wb : sp_W} {b : sp_B} {rh : hm_Rh} (h0 : fk.toInt = ft.toInt ∧ fp.toInt = fa.toInt) (hI : hq_I cs G V) (g1 : G (nb + 1) = some (1, 4000, 0, 0)) (g2 : G (q + 20) = some (20, 4000, 42, 0)) (e0 : V nb = some (.inr (9, [.ref (nb + 1), .int z]))) (hz : z.toInt = 0) (hoc : sp_okc w) (h4 : hm_AR cs V q rh) (h5 : hm_BK rh 0 wb b) (h6 : sp_gd wb b) (h7 : hx_BK cs V to wb b) (h8 : hx_SH cs V (nb + 88)) (h9 : hx_SH cs V (nb + 465)) (h10 : hx_TS cs V (nb + 3) 12) : hk_E cs nb q V to fk fp ft fa := by
  obtain ⟨-, f1, e1, -⟩ := hq_o1 hI g1
  obtain ⟨-, f2, e2⟩ := hq_o20 hI g2
  exact ⟨h0, ⟨sp_cut w 0, ⟨z, f1, e0, e1, hz, ⟨Int.le_refl 0, by show (0 : Int) ≤ 4000; decide⟩, fun k (hk : (k : Int) < 0) => absurd hk (by omega)⟩, ⟨f2, e2, ⟨⟨Int.le_refl 0, by show (0 : Int) ≤ 4000; decide⟩, fun i hi (hi2 : i < 0) => absurd hi2 (by omega)⟩, fun k (hk : (k : Int) < 0) => absurd hk (by omega)⟩, hoc⟩, ⟨wb, b, rh, h4, h5, h6, h7⟩, h8, h9, h10⟩
theorem sp_okb_cut {w : sp_W} {z : Int} (h : sp_okb w) (h0 : 0 ≤ z) (h1 : z ≤ w.2) : sp_okb (sp_cut w z) := ⟨⟨h0, by have := h.1; show z ≤ 4000; omega⟩, fun i hi (hi2 : i < z) => h.2 i hi (by omega)⟩
/-- a fresh book -/
theorem hx_fresh {cs : Nat → ClassId} {V : hp_V} {qb : Nat} (h : fx_B cs V qb (qb + 1)) : hx_SH cs V qb ∧ ∀ w, hx_BK cs V qb w ([], [], [], []) := by
  obtain ⟨h1, h2, ⟨g1, e1, f1⟩, ⟨g2, e2, f2⟩, ⟨g3, e3, f3⟩⟩ := h
  refine ⟨⟨⟨fun i hi => ?_, fun i hi => ?_, fun i hi => ?_⟩, ⟨⟨g1, e1, fun j hj => ?_⟩, ⟨g2, e2, fun j hj => ?_⟩, ⟨g3, e3, fun j hj => ?_⟩⟩, ⟨0, 0, 0, h1, by decide, by decide, by decide⟩⟩, fun w => ⟨⟨0, 0, 0, h1, rfl, rfl, rfl⟩, hx_NL.nil, hx_NL.nil, ⟨_, h2, rfl, fun k x hk => by simp at hk⟩, hx_LL.nil⟩⟩
  · obtain ⟨p1, p2, p3⟩ := f1 i hi
    rw [show qb + 1 + 1 + 2 * i = qb + 2 + 2 * i by omega] at p2 p3
    exact ⟨0, _, p2, p3, by decide⟩
  · obtain ⟨p1, p2, p3⟩ := f2 i hi
    rw [show qb + 1 + 14 + 2 * i = qb + 15 + 2 * i by omega] at p2 p3
    exact ⟨0, _, p2, p3, by decide⟩
  · obtain ⟨p1, p2, p3, p4, p5, p6⟩ := f3 i hi
    rw [show qb + 1 + 76 + 5 * i = qb + 77 + 5 * i by omega] at p2 p3 p4 p5 p6
    exact ⟨⟨0, 0, 0, 0, 0, 0, 0, 0, p2, by decide⟩, ⟨0, _, p3, p4, by decide⟩, ⟨0, _, p5, p6, by decide⟩⟩
  · rw [(f1 j hj).1, show qb + 1 + 1 + 2 * j = qb + 2 + 2 * j by omega]
  · rw [(f2 j hj).1, show qb + 1 + 14 + 2 * j = qb + 15 + 2 * j by omega]
  · rw [(f3 j hj).1, show qb + 1 + 76 + 5 * j = qb + 77 + 5 * j by omega]
theorem hx_fg {cs : Nat → ClassId} {G : hq_G} {ok : Nat × Nat → Bool} {V V' : hp_V} {x : Nat} (h : hq_P cs G ok V V') (hx : ∃ t, G x = some t ∧ ok (hq_grp t) = false) : V' x = V x := by
  obtain ⟨t, h1, h2⟩ := hx
  exact h.2 x t h1 h2

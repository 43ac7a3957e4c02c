/-! ===== THE REFERENCE'S LINES: what a line's letters tell, purely ===== -/
theorem hm_h60 {as : List Nat} {l : Nat} (h : ∀ a, a ∈ as → 10 ≤ a ∧ a ≤ 18) (hl : 60 ≤ l) : ∀ a, a ∈ as → hm_half.getD a 0 ≤ l := by
  intro a ha
  have h2 := h a ha
  rcases (show a = 10 ∨ a = 11 ∨ a = 12 ∨ a = 13 ∨ a = 14 ∨ a = 15 ∨ a = 16 ∨ a = 17 ∨ a = 18 by omega) with rfl | rfl | rfl | rfl | rfl | rfl | rfl | rfl | rfl
  all_goals exact hl
section SPT
variable {w : sp_W} {j : Nat}
theorem sp_take_F {d : Int} {a b : Int32} (h : hx_F w (sp_take w d j).1 (sp_take w d j).2 a b) : ¬ sp_k w j = d ∧ a.toInt = 1 ∧ b.toInt = sp_s w j := by
  obtain ⟨h1, h2, h3⟩ := h
  unfold sp_take at h1 h2 h3
  split at h1
  · exact absurd rfl h1
  · rename_i c
    rw [if_neg c] at h2 h3
    exact ⟨c, h2, h3⟩
theorem sp_nem_y (h : sp_k w j = 19) (h2 : sp_e w j - sp_s w j = 2) : (sp_nem w j).1 = 5 ∧ (sp_nem w j).2 = j := by unfold sp_nem; rw [if_pos ⟨h, h2⟩]; exact ⟨rfl, rfl⟩
theorem sp_nem_n (h : ¬ (sp_k w j = 19 ∧ sp_e w j - sp_s w j = 2)) : (sp_nem w j).1 = 0 ∧ (sp_nem w j).2 = j := by unfold sp_nem; rw [if_neg h]; exact ⟨rfl, rfl⟩
theorem sp_let_y (h : sp_k w j = 19) : (sp_let w j).1 = 0 ∧ (sp_let w j).2 = j + 1 := by unfold sp_let; rw [if_pos h]; exact ⟨rfl, rfl⟩
theorem sp_let_n (h : ¬ sp_k w j = 19) : (sp_let w j).1 = 1 ∧ (sp_let w j).2 = j := by unfold sp_let; rw [if_neg h]; exact ⟨rfl, rfl⟩
theorem sp_take_y {d : Int} (h : sp_k w j = d) : (sp_take w d j).1 = 0 ∧ (sp_take w d j).2 = j + 1 := by unfold sp_take; rw [if_pos h]; exact ⟨rfl, rfl⟩
theorem sp_take_n {d : Int} (h : ¬ sp_k w j = d) : (sp_take w d j).1 = 1 ∧ (sp_take w d j).2 = j := by unfold sp_take; rw [if_neg h]; exact ⟨rfl, rfl⟩
theorem sp_last_y (h : sp_k w j = 10) : (sp_last w j).2.1 = j + 1 ∧ (sp_last w j).2.2 = 1 := by unfold sp_last; rw [if_pos h]; exact ⟨rfl, rfl⟩
theorem sp_last_n (h : ¬ sp_k w j = 10) : (sp_last w j).2.1 = j ∧ (sp_last w j).2.2 = 0 := by unfold sp_last; rw [if_neg h]; exact ⟨rfl, rfl⟩
/-- the first letters are wanting -/
theorem sp_chg_a (h : ¬ sp_k w j = 19) : (sp_chg w j).1 = 1 ∧ (sp_chg w j).2 = j := by
  have h1 := sp_nem_n (w := w) (j := j) (fun g => h g.1)
  have h2 := sp_let_n h
  unfold sp_chg
  rw [if_neg (by omega), if_pos (by omega)]
  exact h2
/-- they are empty -/
theorem sp_chg_b (h : sp_k w j = 19) (h2 : sp_e w j - sp_s w j = 2) : (sp_chg w j).1 = 5 ∧ (sp_chg w j).2 = j := by
  have h1 := sp_nem_y h h2
  unfold sp_chg
  rw [if_pos (by omega)]
  exact h1
/-- no 'to' -/
theorem sp_chg_c (h : sp_k w j = 19) (h2 : ¬ sp_e w j - sp_s w j = 2) (h3 : ¬ sp_k w (j + 1) = 9) : (sp_chg w j).1 = 1 ∧ (sp_chg w j).2 = j + 1 := by
  have h1 := sp_nem_n (w := w) (j := j) (fun g => h2 g.2)
  have h4 := sp_let_y h
  have h5 := sp_take_n h3
  unfold sp_chg
  rw [if_neg (by omega), if_neg (by omega), h4.2, if_pos (by omega)]
  exact h5
/-- the second letters are wanting -/
theorem sp_chg_d (h : sp_k w j = 19) (h2 : ¬ sp_e w j - sp_s w j = 2) (h3 : sp_k w (j + 1) = 9) (h6 : ¬ sp_k w (j + 2) = 19) : (sp_chg w j).1 = 1 ∧ (sp_chg w j).2 = j + 2 := by
  have h1 := sp_nem_n (w := w) (j := j) (fun g => h2 g.2)
  have h4 := sp_let_y h
  have h5 := sp_take_y h3
  have h7 := sp_let_n h6
  unfold sp_chg
  rw [if_neg (by omega), if_neg (by omega), h4.2, if_neg (by omega), h5.2]
  exact h7
theorem sp_chg_e (h : sp_k w j = 19) (h2 : ¬ sp_e w j - sp_s w j = 2) (h3 : sp_k w (j + 1) = 9) (h6 : sp_k w (j + 2) = 19) : (sp_chg w j).1 = 0 ∧ (sp_chg w j).2 = j + 3 := by
  have h1 := sp_nem_n (w := w) (j := j) (fun g => h2 g.2)
  have h4 := sp_let_y h
  have h5 := sp_take_y h3
  have h7 := sp_let_y h6
  unfold sp_chg
  rw [if_neg (by omega), if_neg (by omega), h4.2, if_neg (by omega), h5.2]
  exact h7
theorem sp_exc_a {n : Int} (h : ¬ sp_k w j = 19) : (sp_exc w n j).1 = 1 ∧ (sp_exc w n j).2 = j := by
  have h1 := sp_nem_n (w := w) (j := j) (fun g => h g.1)
  unfold sp_exc
  rw [if_neg (fun g => h g.1), if_neg (by omega)]
  exact sp_let_n h
theorem sp_exc_b {n : Int} (h : sp_k w j = 19) (h2 : 2 ≤ n) : (sp_exc w n j).1 = 4 ∧ (sp_exc w n j).2 = j := by
  unfold sp_exc
  rw [if_pos ⟨h, h2⟩]
  exact ⟨rfl, rfl⟩
theorem sp_exc_c {n : Int} (h : sp_k w j = 19) (h2 : ¬ 2 ≤ n) (h3 : sp_e w j - sp_s w j = 2) : (sp_exc w n j).1 = 5 ∧ (sp_exc w n j).2 = j := by
  have h1 := sp_nem_y h h3
  unfold sp_exc
  rw [if_neg (fun g => h2 g.2), if_pos (by omega)]
  exact h1
theorem sp_exc_d {n : Int} (h : sp_k w j = 19) (h2 : ¬ 2 ≤ n) (h3 : ¬ sp_e w j - sp_s w j = 2) : (sp_exc w n j).1 = 0 ∧ (sp_exc w n j).2 = j + 1 := by
  have h1 := sp_nem_n (w := w) (j := j) (fun g => h3 g.2)
  unfold sp_exc
  rw [if_neg (fun g => h2 g.2), if_neg (by omega)]
  exact sp_let_y h
end SPT
/-- the draft, with its classes' names -/
def hm_DR (rh : hm_Rh) (w : sp_W) (b : sp_B) : Prop := hm_BK rh 1 w b ∧ hm_NL rh 7 3 6 6 w b.1
theorem hm_VC.add {rh : hm_Rh} {base : Nat} {vc : List Int} {x : Int} (h : ∀ (k : Nat) (y : Int), vc[k]? = some y → (rh 9 (base + k)).toInt = y) (e : (rh 9 (base + vc.length)).toInt = x) : ∀ (k : Nat) (y : Int), (vc ++ [x])[k]? = some y → (rh 9 (base + k)).toInt = y := by
  intro k y hk
  by_cases c : k < vc.length
  · rw [List.getElem?_append_left c] at hk
    exact h k y hk
  · have hl : k < (vc ++ [x]).length := (List.getElem?_eq_some_iff.mp hk).1
    have hi2 : k = vc.length := by simp at hl; omega
    subst hi2
    rw [List.getElem?_append_right (Nat.le_refl _)] at hk
    simp at hk
    rw [← hk]
    exact e
theorem sp_new_a {w : sp_W} {L : List Nat} {j : Nat} (h : ¬ sp_k w j = 17) : (sp_new w L j).1 = 1 ∧ (sp_new w L j).2 = j := by unfold sp_new; rw [if_pos h]; exact ⟨rfl, rfl⟩
theorem sp_new_b {w : sp_W} {L : List Nat} {j : Nat} (h : sp_k w j = 17) (h2 : ¬ sp_fi w j L 0 = -1) : (sp_new w L j).1 = 2 ∧ (sp_new w L j).2 = j := by unfold sp_new; rw [if_neg (by omega), if_neg h2]; exact ⟨rfl, rfl⟩
theorem sp_new_c {w : sp_W} {L : List Nat} {j : Nat} (h : sp_k w j = 17) (h2 : sp_fi w j L 0 = -1) : (sp_new w L j).1 = 0 ∧ (sp_new w L j).2 = j := by unfold sp_new; rw [if_neg (by omega), if_pos h2]; exact ⟨rfl, rfl⟩
/-- only the draft's class or verb l was written (and how many there are) -/
def hm_WN (sa na ca za l : Nat) (rh rh1 : hm_Rh) : Prop := ∀ a i, ¬ ((a = sa ∧ i = l) ∨ (a = na ∧ 12 * l ≤ i ∧ i < 12 * l + 12) ∨ (a = ca ∧ i = l) ∨ (a = za ∧ i = 1)) → rh1 a i = rh a i
theorem hm_WN.rf {sa na ca za l : Nat} {rh : hm_Rh} : hm_WN sa na ca za l rh rh := fun _ _ _ => rfl
theorem hm_WN.put {sa na ca za l a i : Nat} {v : Int32} {rh rh1 : hm_Rh} (h : hm_WN sa na ca za l rh rh1) (ha : (a = sa ∧ i = l) ∨ (a = ca ∧ i = l) ∨ (a = za ∧ i = 1)) : hm_WN sa na ca za l rh (hm_u2 rh1 a i v) := by
  intro b j hj
  rw [← h b j hj]
  by_cases c2 : b = a
  · subst c2
    exact hm_u2i (fun e => by subst e; exact hj (by omega))
  · exact hm_u2a c2
theorem hm_WN.l {sa na ca za l : Nat} {rh rh1 rh2 : hm_Rh} (h : hm_WN sa na ca za l rh rh1) (h2 : ∀ a i : Nat, ¬ (a = na ∧ 12 * l ≤ i ∧ i < 12 * l + 12) → rh2 a i = rh1 a i) : hm_WN sa na ca za l rh rh2 := fun b j hj => (h2 b j (fun g => hj (Or.inr (Or.inl g)))).trans (h b j hj)
theorem hm_DR.nil {rh : hm_Rh} {w : sp_W} (h0 : (rh 0 1).toInt = 0) (h1 : (rh 1 1).toInt = 0) (h2 : (rh 2 1).toInt = 0) : hm_DR rh w ([], [], [], []) :=
  ⟨⟨h0, h1, h2, hm_NL.nil, ⟨rfl, fun k x h => by simp at h⟩, hm_LL.nil⟩, hm_NL.nil⟩
section DRA
variable {rh rh1 : hm_Rh} {w : sp_W} {cl vn : List Nat} {vc : List Int} {lz : List sp_L} {t : Nat}
theorem hm_DR.cls (h : hm_DR rh w (cl, vn, vc, lz)) (hw : hm_WN 7 3 7 0 (6 + cl.length) rh rh1) (hl : cl.length < 6) (hc : (rh1 0 1).toInt = (cl.length : Int) + 1) (hz : (rh1 7 (6 + cl.length)).toInt = sp_e w t - sp_s w t) (hb : 0 ≤ sp_e w t - sp_s w t ∧ sp_e w t - sp_s w t ≤ 12) (hco : ∀ k : Nat, (k : Int) < sp_e w t - sp_s w t → (rh1 3 (12 * (6 + cl.length) + k)).toInt = w.1 (sp_s w t + k)) : hm_DR rh1 w (cl ++ [t], vn, vc, lz) := by
  obtain ⟨⟨h0, h1, h2, h3, ⟨h4, h5⟩, h6⟩, h7⟩ := h
  refine ⟨⟨?_, ?_, ?_, h3.keep (fun i _ _ => hw 8 i (by omega)) (fun i _ _ => hw 4 i (by omega)), ⟨h4, fun k x hk => ?_⟩, h6.keep (fun a i _ _ _ _ => hw a i (by omega)) (fun a i _ _ _ _ => hw a i (by omega))⟩, ?_⟩
  · show (rh1 0 1).toInt = ((cl ++ [t]).length : Int)
    rw [sp_len1]
    omega
  · rw [hw 1 1 (by omega)]; exact h1
  · rw [hw 2 1 (by omega)]; exact h2
  · rw [hw 9 _ (by omega)]; exact h5 k x hk
  · have h7 : hm_NL rh 7 3 6 6 w cl := h7
    exact (h7.keep (fun i _ _ => hw 7 i (by omega)) (fun i _ _ => hw 3 i (by omega))).add hl ⟨hz, hb, hco⟩
theorem hm_DR.verb {x : Int} (h : hm_DR rh w (cl, vn, vc, lz)) (hw : hm_WN 8 4 9 1 (30 + vn.length) rh rh1) (hl : vn.length < 30) (hc : (rh1 1 1).toInt = (vn.length : Int) + 1) (hz : (rh1 8 (30 + vn.length)).toInt = sp_e w t - sp_s w t) (hb : 0 ≤ sp_e w t - sp_s w t ∧ sp_e w t - sp_s w t ≤ 12) (hco : ∀ k : Nat, (k : Int) < sp_e w t - sp_s w t → (rh1 4 (12 * (30 + vn.length) + k)).toInt = w.1 (sp_s w t + k)) (hx : (rh1 9 (30 + vn.length)).toInt = x) : hm_DR rh1 w (cl, vn ++ [t], vc ++ [x], lz) := by
  obtain ⟨⟨h0, h1, h2, h3, ⟨h4, h5⟩, h6⟩, h7⟩ := h
  have h3 : hm_NL rh 8 4 30 30 w vn := h3
  have h4 : vc.length = vn.length := h4
  have h5 : ∀ (k : Nat) (x : Int), vc[k]? = some x → (rh 9 (30 + k)).toInt = x := h5
  refine ⟨⟨?_, ?_, ?_, (h3.keep (fun i _ _ => hw 8 i (by omega)) (fun i _ _ => hw 4 i (by omega))).add hl ⟨hz, hb, hco⟩, ⟨?_, ?_⟩, h6.keep (fun a i _ _ _ _ => hw a i (by omega)) (fun a i _ _ _ _ => hw a i (by omega))⟩, h7.keep (fun i _ _ => hw 7 i (by omega)) (fun i _ _ => hw 3 i (by omega))⟩
  · rw [hw 0 1 (by omega)]; exact h0
  · show (rh1 1 1).toInt = ((vn ++ [t]).length : Int)
    rw [sp_len1]
    omega
  · rw [hw 2 1 (by omega)]; exact h2
  · show (vc ++ [x]).length = (vn ++ [t]).length
    rw [sp_len1, sp_len1, h4]
  · exact hm_VC.add (base := 30) (fun k y hk => by
      have hk2 := (List.getElem?_eq_some_iff.mp hk).1
      rw [hw 9 _ (by omega)]
      exact h5 k y hk) (by rw [h4]; exact hx)
theorem hm_DR.line {x : sp_L} (h : hm_DR rh w (cl, vn, vc, lz)) (hw : hm_WL (60 + lz.length) rh rh1) (hl : lz.length < 60) (hc : (rh1 2 1).toInt = (lz.length : Int) + 1) (hx : hm_LN rh1 (60 + lz.length) w x) : hm_DR rh1 w (cl, vn, vc, lz ++ [x]) := by
  obtain ⟨⟨h0, h1, h2, h3, ⟨h4, h5⟩, h6⟩, h7⟩ := h
  have h6 : hm_LL rh 60 w lz := h6
  refine ⟨⟨?_, ?_, ?_, h3.keep (fun i _ _ => hw 8 i (by omega)) (fun i _ _ => hw 4 i (by omega)), ⟨h4, fun k y hk => ?_⟩, (h6.keep (fun a i _ _ _ _ => hw a i (by omega)) (fun a i _ _ _ _ => hw a i (by omega))).add hl hx⟩, h7.keep (fun i _ _ => hw 7 i (by omega)) (fun i _ _ => hw 3 i (by omega))⟩
  · rw [hw 0 1 (by omega)]; exact h0
  · rw [hw 1 1 (by omega)]; exact h1
  · show (rh1 2 1).toInt = ((lz ++ [x]).length : Int)
    rw [sp_len1]
    omega
  · rw [hw 9 _ (by omega)]; exact h5 k y hk
end DRA
/-! ===== THE DRAFT BECOMES WHAT IS HELD ===== -/
def hm_Dr (rh rh9 : hm_Rh) : Prop := ∀ a i, hm_half.getD a 0 ≤ i → rh9 a i = rh a i
theorem hm_Dr.rf {rh : hm_Rh} : hm_Dr rh rh := fun _ _ _ => rfl
theorem hm_Dr.put {rh rh9 : hm_Rh} {a i : Nat} {v : Int32} (h : hm_Dr rh rh9) (hi : i < hm_half.getD a 0) : hm_Dr rh (hm_u2 rh9 a i v) := by
  intro b j hj
  rw [← h b j hj]
  by_cases c : b = a
  · subst c
    exact hm_u2i (by omega)
  · exact hm_u2a c
/-- the first k places of array a are the draft's (bytes: as they are stored) -/
def hm_C1 (a k : Nat) (rh rh9 : hm_Rh) : Prop := ∀ x, x < k → rh9 a x = rh a (hm_half.getD a 0 + x)
def hm_Cb (a k : Nat) (rh rh9 : hm_Rh) : Prop := ∀ x, x < k → rh9 a x = (rh a (hm_half.getD a 0 + x)).toInt8.toInt32
theorem hm_C1.zero {a : Nat} {rh rh9 : hm_Rh} : hm_C1 a 0 rh rh9 := fun x hx => absurd hx (Nat.not_lt_zero x)
theorem hm_Cb.zero {a : Nat} {rh rh9 : hm_Rh} : hm_Cb a 0 rh rh9 := fun x hx => absurd hx (Nat.not_lt_zero x)
theorem hm_C1.le {a k k2 : Nat} {rh rh9 : hm_Rh} (h : hm_C1 a k rh rh9) (hk : k2 ≤ k) : hm_C1 a k2 rh rh9 := fun x hx => h x (Nat.lt_of_lt_of_le hx hk)
theorem hm_Cb.le {a k k2 : Nat} {rh rh9 : hm_Rh} (h : hm_Cb a k rh rh9) (hk : k2 ≤ k) : hm_Cb a k2 rh rh9 := fun x hx => h x (Nat.lt_of_lt_of_le hx hk)
theorem hm_C1.ne {a b k i : Nat} {v : Int32} {rh rh9 : hm_Rh} (h : hm_C1 a k rh rh9) (hb : a ≠ b) : hm_C1 a k rh (hm_u2 rh9 b i v) := fun x hx => by rw [hm_u2a hb]; exact h x hx
theorem hm_Cb.ne {a b k i : Nat} {v : Int32} {rh rh9 : hm_Rh} (h : hm_Cb a k rh rh9) (hb : a ≠ b) : hm_Cb a k rh (hm_u2 rh9 b i v) := fun x hx => by rw [hm_u2a hb]; exact h x hx
theorem hm_C1.put {a k i : Nat} {v : Int32} {rh rh9 : hm_Rh} (h : hm_C1 a k rh rh9) (hi : i = k) (hv : v = rh a (hm_half.getD a 0 + k)) : hm_C1 a (k + 1) rh (hm_u2 rh9 a i v) := by
  intro x hx
  subst hi
  by_cases c : x = i
  · subst c; rw [hm_u2e]; exact hv
  · rw [hm_u2i c]; exact h x (by omega)
theorem hm_Cb.put {a k i : Nat} {v : Int32} {rh rh9 : hm_Rh} (h : hm_Cb a k rh rh9) (hi : i = k) (hv : v = (rh a (hm_half.getD a 0 + k)).toInt8.toInt32) : hm_Cb a (k + 1) rh (hm_u2 rh9 a i v) := by
  intro x hx
  subst hi
  by_cases c : x = i
  · subst c; rw [hm_u2e]; exact hv
  · rw [hm_u2i c]; exact h x (by omega)
def sp_okc (w : sp_W) : Prop := ∀ i : Int, -128 ≤ w.1 i ∧ w.1 i ≤ 127
theorem hm_BK.become {rh rh1 : hm_Rh} {w : sp_W} {b : sp_B} (h : hm_BK rh 1 w b) (hoc : sp_okc w) (c0 : hm_C1 0 1 rh rh1) (c1 : hm_C1 1 1 rh rh1) (c2 : hm_C1 2 1 rh rh1) (c8 : hm_C1 8 30 rh rh1) (c9 : hm_C1 9 30 rh rh1) (c4 : hm_Cb 4 360 rh rh1) (c5 : hm_Cb 5 480 rh rh1) (c6 : hm_Cb 6 480 rh rh1) (c10 : hm_C1 10 60 rh rh1) (c11 : hm_C1 11 60 rh rh1) (c12 : hm_C1 12 60 rh rh1) (c13 : hm_C1 13 60 rh rh1) (c14 : hm_C1 14 60 rh rh1) (c15 : hm_C1 15 60 rh rh1) (c16 : hm_C1 16 60 rh rh1) : hm_BK rh1 0 w b := by
  have c8 : ∀ x, x < 30 → rh1 8 x = rh 8 (30 + x) := c8
  have c9 : ∀ x, x < 30 → rh1 9 x = rh 9 (30 + x) := c9
  have c4 : ∀ x, x < 360 → rh1 4 x = (rh 4 (360 + x)).toInt8.toInt32 := c4
  have c5 : ∀ x, x < 480 → rh1 5 x = (rh 5 (480 + x)).toInt8.toInt32 := c5
  have c6 : ∀ x, x < 480 → rh1 6 x = (rh 6 (480 + x)).toInt8.toInt32 := c6
  have c10 : ∀ x, x < 60 → rh1 10 x = rh 10 (60 + x) := c10
  have c11 : ∀ x, x < 60 → rh1 11 x = rh 11 (60 + x) := c11
  have c12 : ∀ x, x < 60 → rh1 12 x = rh 12 (60 + x) := c12
  have c13 : ∀ x, x < 60 → rh1 13 x = rh 13 (60 + x) := c13
  have c14 : ∀ x, x < 60 → rh1 14 x = rh 14 (60 + x) := c14
  have c15 : ∀ x, x < 60 → rh1 15 x = rh 15 (60 + x) := c15
  have c16 : ∀ x, x < 60 → rh1 16 x = rh 16 (60 + x) := c16
  obtain ⟨h0, h1, h2, h3, ⟨h4, h5⟩, h6⟩ := h
  refine ⟨?_, ?_, ?_, ⟨h3.1, fun i t hi => ?_⟩, ⟨h4, fun k x hk => ?_⟩, ⟨h6.1, fun i x hi => ?_⟩⟩
  · rw [c0 0 (by decide)]; exact h0
  · rw [c1 0 (by decide)]; exact h1
  · rw [c2 0 (by decide)]; exact h2
  · have hl := (List.getElem?_eq_some_iff.mp hi).1
    have hl2 := h3.1
    obtain ⟨g1, g2, g3⟩ := h3.2 i t hi
    refine ⟨?_, g2, fun k hk => ?_⟩
    · rw [c8 _ (by omega), show 30 + (30 * 0 + i) = 30 * 1 + i by omega]; exact g1
    · have g4 := g3 k hk
      rw [c4 _ (by omega), show 360 + (12 * (30 * 0 + i) + k) = 12 * (30 * 1 + i) + k by omega, hx_n8 (by rw [g4]; exact hoc _)]
      exact g4
  · have hl := (List.getElem?_eq_some_iff.mp hk).1
    have hl2 := h3.1
    rw [c9 _ (by omega), show 30 + (30 * 0 + k) = 30 * 1 + k by omega]
    exact h5 k x hk
  · have hl := (List.getElem?_eq_some_iff.mp hi).1
    have hl2 := h6.1
    obtain ⟨g1, g2, g3, g4, g5, ⟨g6, g7, g8⟩, ⟨g9, g10, g11⟩⟩ := h6.2 i x hi
    have e1 : 60 + (60 * 0 + i) = 60 * 1 + i := by omega
    refine ⟨?_, ?_, ?_, ?_, ?_, ⟨?_, g7, fun k hk => ?_⟩, ⟨?_, g10, fun k hk => ?_⟩⟩
    · rw [c10 _ (by omega), e1]; exact g1
    · rw [c11 _ (by omega), e1]; exact g2
    · rw [c12 _ (by omega), e1]; exact g3
    · rw [c13 _ (by omega), e1]; exact g4
    · rw [c16 _ (by omega), e1]; exact g5
    · rw [c14 _ (by omega), e1]; exact g6
    · have g := g8 k hk
      rw [c5 _ (by omega), show 480 + (8 * (60 * 0 + i) + k) = 8 * (60 * 1 + i) + k by omega, hx_n8 (by rw [g]; exact hoc _)]
      exact g
    · rw [c15 _ (by omega), e1]; exact g9
    · have g := g11 k hk
      rw [c6 _ (by omega), show 480 + (8 * (60 * 0 + i) + k) = 8 * (60 * 1 + i) + k by omega, hx_n8 (by rw [g]; exact hoc _)]
      exact g

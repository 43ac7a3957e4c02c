/-! ===== THE REFERENCE AND THE PURE BOOK ===== -/
/-- what the reference calls a token, by its number -/
def sp_h (k : Int) : Int := if k ≤ 17 then 1 else if k = 18 then 2 else if k = 19 then 3 else if k = 20 then 4 else if k = 21 then 0 else 5
def sp_okb (w : sp_W) : Prop := (0 ≤ w.2 ∧ w.2 ≤ 4000) ∧ ∀ i : Int, 0 ≤ i → i < w.2 → -128 ≤ w.1 i ∧ w.1 i ≤ 127
/-- the reference's tape holds the text w -/
def hm_TP (cs : Nat → ClassId) (V : hp_V) (q : Nat) (w : sp_W) : Prop := ∃ g : Nat → Int32, V (q + 20) = some (.inl (cs 0, 4000, .inl g)) ∧ sp_okb w ∧ (∀ k : Nat, (k : Int) < w.2 → (g k).toInt = w.1 k)
theorem hm_TP.keep {cs : Nat → ClassId} {V V' : hp_V} {q : Nat} {w : sp_W} (h : hm_TP cs V q w) (e0 : V' (q + 20) = V (q + 20)) : hm_TP cs V' q w := by
  obtain ⟨g, h1, h2⟩ := h
  exact ⟨g, e0.trans h1, h2⟩
theorem hm_TP.ok {cs : Nat → ClassId} {V : hp_V} {q : Nat} {w : sp_W} (h : hm_TP cs V q w) : sp_okb w := by
  obtain ⟨g, h1, h2, h3⟩ := h
  exact h2
/-- the reference stands at token j -/
def hm_A (w : sp_W) (j : Nat) (fr bh hd : Int32) : Prop := (0 ≤ sp_pos w j ∧ sp_pos w j ≤ w.2) ∧ fr.toInt = sp_s w j ∧ hd.toInt = sp_h (sp_k w j) ∧ (sp_k w j ≤ 20 → bh.toInt = sp_e w j)
theorem sp_h_1 (k : Int) : sp_h k = 1 ↔ k ≤ 17 := by
  unfold sp_h
  repeat' split
  all_goals omega
theorem sp_h_2 (k : Int) : sp_h k = 2 ↔ k = 18 := by
  unfold sp_h
  repeat' split
  all_goals omega
theorem sp_h_3 (k : Int) : sp_h k = 3 ↔ k = 19 := by
  unfold sp_h
  repeat' split
  all_goals omega
theorem sp_h_4 (k : Int) : sp_h k = 4 ↔ k = 20 := by
  unfold sp_h
  repeat' split
  all_goals omega
theorem sp_h_0 (k : Int) : sp_h k = 0 ↔ k = 21 := by
  unfold sp_h
  repeat' split
  all_goals omega
theorem sp_kw_nd : ∀ a, a < 17 → ∀ b, b < 17 → sp_kw.getD a [] = sp_kw.getD b [] → a = b := by decide
theorem sp_wn_iff {b : Int → Int} {s e : Int} {k : Nat} (hk : k < 17) : sp_wn b s e = k ↔ sp_seg b s e = sp_kw.getD k [] := by
  unfold sp_wn
  have hl : sp_kw.length = 17 := rfl
  constructor
  · intro h
    have h1 : sp_kw.idxOf (sp_seg b s e) = k := by omega
    have h2 : sp_kw.idxOf (sp_seg b s e) < sp_kw.length := by omega
    have h3 := List.getElem_idxOf h2
    rw [← h3]
    simp only [h1]
    rw [List.getD_eq_getElem?_getD, List.getElem?_eq_getElem (by omega)]
    rfl
  · intro h
    have hm : sp_seg b s e ∈ sp_kw := by
      rw [h, List.getD_eq_getElem?_getD, List.getElem?_eq_getElem (by omega)]
      exact List.getElem_mem _
    have h2 := List.idxOf_lt_length_of_mem hm
    have h3 := List.getElem_idxOf h2
    have h4 : sp_kw.getD (sp_kw.idxOf (sp_seg b s e)) [] = sp_kw.getD k [] := by
      rw [List.getD_eq_getElem?_getD, List.getElem?_eq_getElem h2]
      show sp_kw[List.idxOf (sp_seg b s e) sp_kw] = _
      rw [h3, h]
    have h5 := sp_kw_nd _ (by omega) k hk h4
    omega
/-- a word token's number is k just where its letters are those of word k -/
theorem sp_k_iff {w : sp_W} {j k : Nat} (hk : k < 17) : sp_k w j = k ↔ (sp_k w j ≤ 17 ∧ sp_nm w j = sp_kw.getD k []) := by
  have hw : sp_k w j ≤ 17 → sp_k w j = sp_wn w.1 (sp_s w j) (sp_e w j) := by
    intro h
    unfold sp_k at h ⊢
    unfold sp_s sp_e
    unfold sp_K at h ⊢
    repeat' split at h
    all_goals first | omega | skip
  constructor
  · intro h
    have h1 := hw (by omega)
    refine ⟨by omega, ?_⟩
    exact (sp_wn_iff hk).mp (by omega)
  · rintro ⟨h1, h2⟩
    rw [hw h1]
    exact (sp_wn_iff hk).mpr h2
/-- the words of the reference's constants, by their places among the Strings -/
def sp_kwi : List Nat := [99, 6, 7, 8, 0, 9, 1, 2, 10, 3, 11, 12, 13, 4, 5, 14, 15, 16]
theorem sp_kwi_ok0 : ∀ i, i < 18 → 0 < i → (sp_kwi.getD i 0 < 17 ∧ (sp_kw.getD (sp_kwi.getD i 0) []).length = hp_sl.getD i 0 ∧ ∀ k, k < hp_sl.getD i 0 → (sp_kw.getD (sp_kwi.getD i 0) [])[k]? = some ((((hp_sb.getD i []).getD k 0) &&& 255).toInt)) := by decide +kernel
theorem sp_kwi_ok (i : Nat) (h0 : 0 < i) (h18 : i < 18) : (sp_kwi.getD i 0 < 17 ∧ (sp_kw.getD (sp_kwi.getD i 0) []).length = hp_sl.getD i 0 ∧ ∀ k, k < hp_sl.getD i 0 → (sp_kw.getD (sp_kwi.getD i 0) [])[k]? = some ((((hp_sb.getD i []).getD k 0) &&& 255).toInt)) := sp_kwi_ok0 i h18 h0
def sp_ch (i x : Nat) : Int := (((hp_sb.getD i []).getD x 0) &&& 255).toInt
section SPI
variable {w : sp_W} {j i kn : Nat}
theorem sp_is_len (h0 : 0 < i) (h18 : i < 18) (hk : sp_kwi.getD i 0 = kn) (h : ¬ sp_e w j - sp_s w j = (hp_sl.getD i 0 : Nat)) : ¬ sp_k w j = (kn : Int) := by
  obtain ⟨a1, a2, a3⟩ := sp_kwi_ok i h0 h18
  rw [hk] at a1 a2 a3
  intro g
  have g2 := ((sp_k_iff a1).mp g).2
  have g3 : (sp_nm w j).length = (sp_e w j - sp_s w j).toNat := sp_seg_len _ _ _
  rw [g2, a2] at g3
  have g4 := sp_E_gt w (sp_pos w j)
  unfold sp_s sp_e at *
  omega
theorem sp_is_no (h0 : 0 < i) (h18 : i < 18) (hk : sp_kwi.getD i 0 = kn) {x : Nat} (hx : x < hp_sl.getD i 0) (h : ¬ w.1 (sp_s w j + x) = sp_ch i x) : ¬ sp_k w j = (kn : Int) := by
  obtain ⟨a1, a2, a3⟩ := sp_kwi_ok i h0 h18
  rw [hk] at a1 a2 a3
  intro g
  have g2 := ((sp_k_iff a1).mp g).2
  have g3 : (sp_nm w j).length = (sp_e w j - sp_s w j).toNat := sp_seg_len _ _ _
  have g5 : (sp_nm w j)[x]? = some (w.1 (sp_s w j + x)) := sp_seg_at _ _ _ _ (by rw [← g3, g2, a2]; exact hx)
  rw [g2, a3 x hx] at g5
  exact h (Option.some.inj g5).symm
theorem sp_is_yes (h0 : 0 < i) (h18 : i < 18) (hk : sp_kwi.getD i 0 = kn) (h17 : sp_k w j ≤ 17) (hl : sp_e w j - sp_s w j = (hp_sl.getD i 0 : Nat)) (h : ∀ x : Nat, x < hp_sl.getD i 0 → w.1 (sp_s w j + x) = sp_ch i x) : sp_k w j = (kn : Int) := by
  obtain ⟨a1, a2, a3⟩ := sp_kwi_ok i h0 h18
  rw [hk] at a1 a2 a3
  refine (sp_k_iff a1).mpr ⟨h17, ?_⟩
  have g3 : (sp_nm w j).length = (sp_e w j - sp_s w j).toNat := sp_seg_len _ _ _
  apply List.ext_getElem?
  intro x
  by_cases hx : x < hp_sl.getD i 0
  · rw [a3 x hx, show (sp_nm w j)[x]? = some (w.1 (sp_s w j + x)) from sp_seg_at _ _ _ _ (by omega), h x hx]
    rfl
  · rw [List.getElem?_eq_none (by rw [g3]; omega), List.getElem?_eq_none (by rw [a2]; omega)]
end SPI

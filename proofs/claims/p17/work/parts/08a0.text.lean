/-! ===== THE TEXT, PURELY: bytes as a function on Int, its size; tokens ===== -/
abbrev sp_W : Type := (Int → Int) × Int
def sp_go (p : Int → Bool) (z : Int) : Nat → Int → Int
  | 0, i => i
  | k + 1, i => if i < z ∧ p i = true then sp_go p z k (i + 1) else i
/-- the first place from i on at which p fails, or the text ends -/
def sp_run (p : Int → Bool) (z i : Int) : Int := sp_go p z (z - i).toNat i
theorem sp_run_step {p : Int → Bool} {z i : Int} (h : i < z) (hp : p i = true) : sp_run p z i = sp_run p z (i + 1) := by
  unfold sp_run
  rw [show (z - i).toNat = (z - (i + 1)).toNat + 1 by omega]
  simp only [sp_go]
  rw [if_pos ⟨h, hp⟩]
theorem sp_run_stop {p : Int → Bool} {z i : Int} (h : ¬ (i < z ∧ p i = true)) : sp_run p z i = i := by
  unfold sp_run
  cases (z - i).toNat with
  | zero => rfl
  | succ k => simp only [sp_go]; rw [if_neg h]
theorem sp_go_le (p : Int → Bool) (z : Int) (k : Nat) : ∀ i, i ≤ sp_go p z k i := by
  induction k with
  | zero => intro i; exact Int.le_refl _
  | succ k ih =>
    intro i
    simp only [sp_go]
    split
    · have := ih (i + 1); omega
    · exact Int.le_refl _
theorem sp_go_hi (p : Int → Bool) (z : Int) (k : Nat) : ∀ i, sp_go p z k i ≤ i ∨ sp_go p z k i ≤ z := by
  induction k with
  | zero => intro i; exact Or.inl (Int.le_refl _)
  | succ k ih =>
    intro i
    simp only [sp_go]
    split
    · rename_i h
      rcases ih (i + 1) with g | g
      · exact Or.inr (by omega)
      · exact Or.inr g
    · exact Or.inl (Int.le_refl _)
theorem sp_run_le (p : Int → Bool) (z i : Int) : i ≤ sp_run p z i := sp_go_le p z _ i
theorem sp_run_hi (p : Int → Bool) (z i : Int) : sp_run p z i ≤ i ∨ sp_run p z i ≤ z := sp_go_hi p z _ i
def sp_ws (b : Int → Int) (i : Int) : Bool := decide (b i = 32 ∨ b i = 10)
def sp_rg (b : Int → Int) (lo hi i : Int) : Bool := decide (lo ≤ b i ∧ b i ≤ hi)
theorem sp_ws_t {b : Int → Int} {i : Int} (h : b i = 32 ∨ b i = 10) : sp_ws b i = true := decide_eq_true h
theorem sp_ws_f {b : Int → Int} {z i : Int} (h : ¬ (i < z ∧ (b i = 32 ∨ b i = 10))) : ¬ (i < z ∧ sp_ws b i = true) := fun g => h ⟨g.1, of_decide_eq_true g.2⟩
theorem sp_rg_t {b : Int → Int} {lo hi i : Int} (h : lo ≤ b i ∧ b i ≤ hi) : sp_rg b lo hi i = true := decide_eq_true h
theorem sp_rg_f {b : Int → Int} {z lo hi i : Int} (h : ¬ (i < z ∧ (lo ≤ b i ∧ b i ≤ hi))) : ¬ (i < z ∧ sp_rg b lo hi i = true) := fun g => h ⟨g.1, of_decide_eq_true g.2⟩
def sp_seg (b : Int → Int) (s e : Int) : List Int := (List.range (e - s).toNat).map (fun k : Nat => b (s + (k : Int)))
/-- the words of the language, by their numbers -/
def sp_kw : List (List Int) := [[115, 116, 101, 109], [101, 110, 100, 105, 110, 103], [115, 111, 117, 110, 100], [99, 111, 109, 112, 111, 117, 110, 100], [101, 120, 99, 101, 112, 116], [108, 97, 99, 107], [99, 108, 97, 115, 115], [118, 101, 114, 98], [111, 102], [116, 111], [108, 97, 115, 116], [116, 101, 110, 115, 101], [98, 121], [112, 97, 114, 116], [97, 108, 108], [105, 110], [112, 101, 114, 115, 111, 110]]
def sp_wn (b : Int → Int) (s e : Int) : Int := ((sp_kw.idxOf (sp_seg b s e) : Nat) : Int)
/-- the token that is come to from place p: its first byte, the first byte behind it, its number -/
def sp_S (w : sp_W) (p : Int) : Int := sp_run (sp_ws w.1) w.2 p
def sp_E (w : sp_W) (p : Int) : Int :=
  if w.2 ≤ sp_S w p then sp_S w p + 1 else if w.1 (sp_S w p) = 59 then sp_S w p + 1 else if w.1 (sp_S w p) = 39 then sp_run (sp_rg w.1 97 122) w.2 (sp_S w p + 1) + 1 else if 97 ≤ w.1 (sp_S w p) ∧ w.1 (sp_S w p) ≤ 122 then sp_run (sp_rg w.1 97 122) w.2 (sp_S w p) else if 48 ≤ w.1 (sp_S w p) ∧ w.1 (sp_S w p) ≤ 57 then sp_run (sp_rg w.1 48 57) w.2 (sp_S w p) else sp_S w p + 1
def sp_K (w : sp_W) (p : Int) : Int :=
  if w.2 ≤ sp_S w p then 21 else if w.1 (sp_S w p) = 59 then 20 else if w.1 (sp_S w p) = 39 then (if sp_E w p - 1 < w.2 ∧ w.1 (sp_E w p - 1) = 39 ∧ sp_E w p - sp_S w p ≤ 10 then 19 else 22) else if 97 ≤ w.1 (sp_S w p) ∧ w.1 (sp_S w p) ≤ 122 then (if sp_E w p - sp_S w p ≤ 12 then sp_wn w.1 (sp_S w p) (sp_E w p) else 22) else if 48 ≤ w.1 (sp_S w p) ∧ w.1 (sp_S w p) ≤ 57 then (if sp_E w p - sp_S w p = 1 then 18 else 22) else 22
def sp_pos (w : sp_W) : Nat → Int
  | 0 => 0
  | j + 1 => sp_E w (sp_pos w j)
/-- token j of the text -/
def sp_s (w : sp_W) (j : Nat) : Int := sp_S w (sp_pos w j)
def sp_e (w : sp_W) (j : Nat) : Int := sp_E w (sp_pos w j)
def sp_k (w : sp_W) (j : Nat) : Int := sp_K w (sp_pos w j)
theorem sp_pos_e (w : sp_W) (j : Nat) : sp_pos w (j + 1) = sp_e w j := rfl
theorem sp_kw_n (x : List Int) : ((sp_kw.idxOf x : Nat) : Int) ≤ 17 := by
  have h := List.idxOf_le_length (a := x) (l := sp_kw)
  have h2 : sp_kw.length = 17 := rfl
  omega
theorem sp_wn_le (b : Int → Int) (s e : Int) : 0 ≤ sp_wn b s e ∧ sp_wn b s e ≤ 17 := ⟨Int.natCast_nonneg _, sp_kw_n _⟩
theorem sp_S_ge (w : sp_W) (p : Int) : p ≤ sp_S w p := sp_run_le _ _ _
theorem sp_S_hi (w : sp_W) (p : Int) : sp_S w p ≤ p ∨ sp_S w p ≤ w.2 := sp_run_hi _ _ _
theorem sp_E_gt (w : sp_W) (p : Int) : sp_S w p + 1 ≤ sp_E w p := by
  unfold sp_E
  split
  · omega
  split
  · omega
  split
  · have := sp_run_le (sp_rg w.1 97 122) w.2 (sp_S w p + 1); omega
  split
  · rename_i h0 h1 h2 h3
    rw [sp_run_step (by omega) (sp_rg_t h3)]
    exact sp_run_le _ _ _
  split
  · rename_i h0 h1 h2 h3 h4
    rw [sp_run_step (by omega) (sp_rg_t h4)]
    exact sp_run_le _ _ _
  omega
theorem sp_E_hi (w : sp_W) (p : Int) (h : p ≤ w.2 + 1) : sp_E w p ≤ w.2 + 2 := by
  have h9 := sp_S_hi w p
  unfold sp_E
  split
  · omega
  split
  · omega
  split
  · have := sp_run_hi (sp_rg w.1 97 122) w.2 (sp_S w p + 1); omega
  split
  · have := sp_run_hi (sp_rg w.1 97 122) w.2 (sp_S w p); omega
  split
  · have := sp_run_hi (sp_rg w.1 48 57) w.2 (sp_S w p); omega
  omega
/-- what is known of a token by its number -/
theorem sp_K_le (w : sp_W) (p : Int) : 0 ≤ sp_K w p ∧ sp_K w p ≤ 22 := by
  unfold sp_K
  have := sp_wn_le w.1 (sp_S w p) (sp_E w p)
  repeat' split
  all_goals omega
theorem sp_K_end (w : sp_W) (p : Int) : sp_K w p = 21 ↔ w.2 ≤ sp_S w p := by
  unfold sp_K
  have := sp_wn_le w.1 (sp_S w p) (sp_E w p)
  repeat' split
  all_goals omega
/-! the words, as the class looks for them -/
def sp_W89 : List Int := [115, 116, 101, 109, 32, 101, 110, 100, 105, 110, 103, 32, 115, 111, 117, 110, 100, 32, 99, 111, 109, 112, 111, 117, 110, 100, 32, 101, 120, 99, 101, 112, 116, 32, 108, 97, 99, 107, 32, 99, 108, 97, 115, 115, 32, 118, 101, 114, 98, 32, 111, 102, 32, 116, 111, 32, 108, 97, 115, 116, 32, 116, 101, 110, 115, 101, 32, 98, 121, 32, 112, 97, 114, 116, 32, 97, 108, 108, 32, 105, 110, 32, 112, 101, 114, 115, 111, 110, 32]
def sp_wl (b : Int → Int) (e s : Int) : List Int → Int → Int → Int → Int
  | [], _, _, _ => 17
  | ch :: cs, k, i, a => if ch = 32 then (if a ≠ 0 ∧ i = e then k else sp_wl b e s cs (k + 1) s 1) else sp_wl b e s cs k (i + 1) (if a ≠ 0 ∧ i < e ∧ b i = ch then 1 else 0)
def sp_mt (b : Int → Int) (e : Int) : List Int → Int → Prop
  | [], i => i = e
  | ch :: cs, i => i < e ∧ b i = ch ∧ sp_mt b e cs (i + 1)
theorem sp_seg_nil {b : Int → Int} {i e : Int} (h : e ≤ i) : sp_seg b i e = [] := by
  unfold sp_seg
  rw [show (e - i).toNat = 0 by omega]
  rfl
theorem sp_seg_cons {b : Int → Int} {i e : Int} (h : i < e) : sp_seg b i e = b i :: sp_seg b (i + 1) e := by
  unfold sp_seg
  rw [show (e - i).toNat = (e - (i + 1)).toNat + 1 by omega, List.range_succ_eq_map, List.map_cons, List.map_map]
  refine congr (congrArg List.cons ?_) ?_
  · simp
  · apply List.map_congr_left
    intro k _
    show b (i + ((k + 1 : Nat) : Int)) = b (i + 1 + k)
    congr 1
    omega
theorem sp_mt_seg (b : Int → Int) (e : Int) (ws : List Int) : ∀ i, i ≤ e → (sp_mt b e ws i ↔ sp_seg b i e = ws) := by
  induction ws with
  | nil =>
    intro i hi
    show i = e ↔ _
    constructor
    · intro h; exact sp_seg_nil (by omega)
    · intro h
      by_cases h9 : i < e
      · rw [sp_seg_cons h9] at h; cases h
      · omega
  | cons c ws ih =>
    intro i hi
    show (i < e ∧ b i = c ∧ sp_mt b e ws (i + 1)) ↔ _
    by_cases h9 : i < e
    · rw [sp_seg_cons h9, ih (i + 1) (by omega)]
      constructor
      · rintro ⟨-, h1, h2⟩; rw [h1, h2]
      · intro h; injection h with h1 h2; exact ⟨h9, h1, h2⟩
    · rw [sp_seg_nil (by omega)]
      constructor
      · rintro ⟨h1, -⟩; omega
      · intro h; cases h
theorem sp_wl_word (b : Int → Int) (e s : Int) (rest : List Int) (k : Int) (ws : List Int) : (∀ c ∈ ws, c ≠ 32) → ∀ (i a : Int), ((a ≠ 0 ∧ sp_mt b e ws i) → sp_wl b e s (ws ++ 32 :: rest) k i a = k) ∧ (¬ (a ≠ 0 ∧ sp_mt b e ws i) → sp_wl b e s (ws ++ 32 :: rest) k i a = sp_wl b e s rest (k + 1) s 1) := by
  induction ws with
  | nil =>
    intro _ i a
    simp only [List.nil_append, sp_wl, sp_mt, if_true]
    exact ⟨fun h => if_pos h, fun h => if_neg h⟩
  | cons c ws ih =>
    intro hc i a
    simp only [List.cons_append, sp_wl]
    rw [if_neg (hc c List.mem_cons_self)]
    have ih := ih (fun x hx => hc x (List.mem_cons_of_mem _ hx)) (i + 1)
    by_cases h : a ≠ 0 ∧ i < e ∧ b i = c
    · rw [if_pos h]
      refine ⟨fun g => (ih 1).1 ⟨by decide, g.2.2.2⟩, fun g => (ih 1).2 (fun g2 => g ⟨h.1, h.2.1, h.2.2, g2.2⟩)⟩
    · rw [if_neg h]
      refine ⟨fun g => absurd ⟨g.1, g.2.1, g.2.2.1⟩ h, fun g => (ih 0).2 (fun g2 => absurd rfl g2.1)⟩
def sp_cat : List (List Int) → List Int
  | [] => []
  | x :: xs => x ++ 32 :: sp_cat xs
theorem sp_wl_cat (b : Int → Int) (e s : Int) (hs : s ≤ e) (ws : List (List Int)) : (∀ x ∈ ws, ∀ c ∈ x, c ≠ 32) → ∀ k : Int, k + ws.length = 17 → sp_wl b e s (sp_cat ws) k s 1 = k + (ws.idxOf (sp_seg b s e) : Nat) := by
  induction ws with
  | nil => intro _ k hk; simp only [sp_cat, sp_wl]; simp at hk ⊢; omega
  | cons x ws ih =>
    intro hc k hk
    simp only [sp_cat]
    have hw := sp_wl_word b e s (sp_cat ws) k x (hc x List.mem_cons_self) s 1
    have hl : ((x :: ws).length : Int) = ws.length + 1 := by simp
    by_cases h : sp_seg b s e = x
    · rw [hw.1 ⟨by decide, (sp_mt_seg b e x s hs).mpr h⟩, h, List.idxOf_cons_self]
      simp
    · rw [hw.2 (fun g => h ((sp_mt_seg b e x s hs).mp g.2)), ih (fun y hy => hc y (List.mem_cons_of_mem _ hy)) (k + 1) (by omega), List.idxOf_cons, show (x == sp_seg b s e) = false from beq_eq_false_iff_ne.mpr (fun g => h g.symm)]
      simp only [cond_false]
      omega
theorem sp_wl_all (b : Int → Int) {e s : Int} (hs : s ≤ e) : sp_wl b e s sp_W89 0 s 1 = sp_wn b s e := by
  have h := sp_wl_cat b e s hs sp_kw (by decide) 0 (by decide)
  rw [show sp_cat sp_kw = sp_W89 by decide] at h
  rw [h]
  unfold sp_wn
  omega
section SPC
variable {w : sp_W} {p : Int}
theorem sp_c_end (h : w.2 ≤ sp_S w p) : sp_E w p = sp_S w p + 1 ∧ sp_K w p = 21 := by unfold sp_K sp_E; rw [if_pos h, if_pos h]; exact ⟨rfl, rfl⟩
theorem sp_c_semi (h : sp_S w p < w.2) (h1 : w.1 (sp_S w p) = 59) : sp_E w p = sp_S w p + 1 ∧ sp_K w p = 20 := by
  have e1 : sp_E w p = sp_S w p + 1 := by unfold sp_E; rw [if_neg (by omega), if_pos h1]
  have e2 : sp_K w p = 20 := by unfold sp_K; rw [if_neg (by omega), if_pos h1]
  exact ⟨e1, e2⟩
theorem sp_c_quote (h : sp_S w p < w.2) (h1 : w.1 (sp_S w p) = 39) : sp_E w p = sp_run (sp_rg w.1 97 122) w.2 (sp_S w p + 1) + 1 ∧ sp_K w p = if sp_run (sp_rg w.1 97 122) w.2 (sp_S w p + 1) < w.2 ∧ w.1 (sp_run (sp_rg w.1 97 122) w.2 (sp_S w p + 1)) = 39 ∧ sp_run (sp_rg w.1 97 122) w.2 (sp_S w p + 1) - sp_S w p ≤ 9 then 19 else 22 := by
  have e : sp_E w p = sp_run (sp_rg w.1 97 122) w.2 (sp_S w p + 1) + 1 := by unfold sp_E; rw [if_neg (by omega), if_neg (by omega), if_pos h1]
  refine ⟨e, ?_⟩
  unfold sp_K
  rw [if_neg (by omega), if_neg (by omega), if_pos h1, e, Int.add_sub_cancel]
  split
  · rw [if_pos (by omega)]
  · rw [if_neg (by omega)]
theorem sp_c_word (h : sp_S w p < w.2) (h1 : 97 ≤ w.1 (sp_S w p) ∧ w.1 (sp_S w p) ≤ 122) : sp_E w p = sp_run (sp_rg w.1 97 122) w.2 (sp_S w p) ∧ sp_K w p = if sp_run (sp_rg w.1 97 122) w.2 (sp_S w p) - sp_S w p ≤ 12 then sp_wn w.1 (sp_S w p) (sp_run (sp_rg w.1 97 122) w.2 (sp_S w p)) else 22 := by
  have e : sp_E w p = sp_run (sp_rg w.1 97 122) w.2 (sp_S w p) := by unfold sp_E; rw [if_neg (by omega), if_neg (by omega), if_neg (by omega), if_pos h1]
  refine ⟨e, ?_⟩
  unfold sp_K
  rw [if_neg (by omega), if_neg (by omega), if_neg (by omega), if_pos h1, e]
theorem sp_c_dig (h : sp_S w p < w.2) (h1 : 48 ≤ w.1 (sp_S w p) ∧ w.1 (sp_S w p) ≤ 57) : sp_E w p = sp_run (sp_rg w.1 48 57) w.2 (sp_S w p) ∧ sp_K w p = if sp_run (sp_rg w.1 48 57) w.2 (sp_S w p) - sp_S w p = 1 then 18 else 22 := by
  have e : sp_E w p = sp_run (sp_rg w.1 48 57) w.2 (sp_S w p) := by unfold sp_E; rw [if_neg (by omega), if_neg (by omega), if_neg (by omega), if_neg (by omega), if_pos h1]
  refine ⟨e, ?_⟩
  unfold sp_K
  rw [if_neg (by omega), if_neg (by omega), if_neg (by omega), if_neg (by omega), if_pos h1, e]
theorem sp_c_bad (h : sp_S w p < w.2) (h1 : ¬ w.1 (sp_S w p) = 59) (h2 : ¬ w.1 (sp_S w p) = 39) (h3 : ¬ (97 ≤ w.1 (sp_S w p) ∧ w.1 (sp_S w p) ≤ 122)) (h4 : ¬ (48 ≤ w.1 (sp_S w p) ∧ w.1 (sp_S w p) ≤ 57)) : sp_E w p = sp_S w p + 1 ∧ sp_K w p = 22 := by
  have e1 : sp_E w p = sp_S w p + 1 := by unfold sp_E; rw [if_neg (by omega), if_neg h1, if_neg h2, if_neg h3, if_neg h4]
  have e2 : sp_K w p = 22 := by unfold sp_K; rw [if_neg (by omega), if_neg h1, if_neg h2, if_neg h3, if_neg h4]
  exact ⟨e1, e2⟩
end SPC
/-- a token that is read whole ends within the text -/
theorem sp_K_in (w : sp_W) (p : Int) (hp : p ≤ w.2 + 1) (h : sp_K w p ≤ 20) : sp_S w p < w.2 ∧ sp_E w p ≤ w.2 := by
  have h8 : sp_S w p < w.2 := by
    have := sp_K_end w p
    omega
  refine ⟨h8, ?_⟩
  by_cases c1 : w.1 (sp_S w p) = 59
  · have := sp_c_semi h8 c1; omega
  by_cases c2 : w.1 (sp_S w p) = 39
  · obtain ⟨g1, g2⟩ := sp_c_quote h8 c2
    split at g2
    · omega
    · omega
  by_cases c3 : 97 ≤ w.1 (sp_S w p) ∧ w.1 (sp_S w p) ≤ 122
  · have g1 := sp_c_word h8 c3
    have := sp_run_hi (sp_rg w.1 97 122) w.2 (sp_S w p)
    omega
  by_cases c4 : 48 ≤ w.1 (sp_S w p) ∧ w.1 (sp_S w p) ≤ 57
  · have g1 := sp_c_dig h8 c4
    have := sp_run_hi (sp_rg w.1 48 57) w.2 (sp_S w p)
    omega
  · have := sp_c_bad h8 c1 c2 c3 c4; omega
/-- what is known of token j by its number -/
theorem sp_tok {w : sp_W} {j : Nat} (hp : 0 ≤ sp_pos w j ∧ sp_pos w j ≤ w.2) : 0 ≤ sp_s w j ∧ sp_s w j ≤ w.2 ∧ sp_pos w j ≤ sp_s w j ∧ sp_s w j + 1 ≤ sp_e w j ∧ 0 ≤ sp_k w j ∧ sp_k w j ≤ 22 := by
  have h1 := sp_S_ge w (sp_pos w j)
  have h2 := sp_S_hi w (sp_pos w j)
  have h3 := sp_E_gt w (sp_pos w j)
  have h4 := sp_K_le w (sp_pos w j)
  unfold sp_s sp_e sp_k
  omega
theorem sp_tok_in {w : sp_W} {j : Nat} (hp : 0 ≤ sp_pos w j ∧ sp_pos w j ≤ w.2) (hk : sp_k w j ≤ 20) : sp_s w j < w.2 ∧ sp_e w j ≤ w.2 ∧ (0 ≤ sp_pos w (j + 1) ∧ sp_pos w (j + 1) ≤ w.2) := by
  have h1 := sp_K_in w (sp_pos w j) (by omega) hk
  have h2 := sp_tok hp
  refine ⟨h1.1, h1.2, ?_⟩
  rw [sp_pos_e]
  have h3 : sp_e w j ≤ w.2 := h1.2
  omega
theorem sp_tok_word {w : sp_W} {j : Nat} (hp : 0 ≤ sp_pos w j ∧ sp_pos w j ≤ w.2) (hk : sp_k w j ≤ 17) : sp_e w j - sp_s w j ≤ 12 := by
  have h0 := sp_K_end w (sp_pos w j)
  unfold sp_k at hk
  unfold sp_s sp_e
  unfold sp_K at hk
  repeat' split at hk
  all_goals omega
theorem sp_tok_num {w : sp_W} {j : Nat} (hk : sp_k w j = 18) : sp_e w j - sp_s w j = 1 ∧ 48 ≤ w.1 (sp_s w j) ∧ w.1 (sp_s w j) ≤ 57 := by
  have h0 := sp_wn_le w.1 (sp_S w (sp_pos w j)) (sp_E w (sp_pos w j))
  unfold sp_k at hk
  unfold sp_s sp_e
  unfold sp_K at hk
  repeat' split at hk
  all_goals omega
theorem sp_tok_let {w : sp_W} {j : Nat} (hk : sp_k w j = 19) : 2 ≤ sp_e w j - sp_s w j ∧ sp_e w j - sp_s w j ≤ 10 := by
  have h0 := sp_wn_le w.1 (sp_S w (sp_pos w j)) (sp_E w (sp_pos w j))
  have h1 : sp_S w (sp_pos w j) < w.2 ∧ w.1 (sp_S w (sp_pos w j)) = 39 ∧ sp_E w (sp_pos w j) - sp_S w (sp_pos w j) ≤ 10 := by
    unfold sp_k at hk
    unfold sp_K at hk
    repeat' split at hk
    all_goals omega
  have h2 := sp_c_quote h1.1 h1.2.1
  have h3 := sp_run_le (sp_rg w.1 97 122) w.2 (sp_S w (sp_pos w j) + 1)
  unfold sp_s sp_e
  omega

/-! ===== THE CLASS'S TWO LOOPS OVER STEMS AND ENDINGS ===== -/
def sp_fz (f : Int → List sp_Y) : Int → Nat → List sp_Y
  | _, 0 => []
  | i, d + 1 => f i ++ sp_fz f (i + 1) d
theorem sp_fz_go {f : Int → List sp_Y} {i n : Int} (h : i < n) : sp_fz f i (n - i).toNat = f i ++ sp_fz f (i + 1) (n - (i + 1)).toNat := by
  rw [show (n - i).toNat = (n - (i + 1)).toNat + 1 by omega]
  rfl
theorem sp_fz_out {f : Int → List sp_Y} {i n : Int} (h : n ≤ i) : sp_fz f i (n - i).toNat = [] := by
  rw [show (n - i).toNat = 0 by omega]
  rfl
theorem sp_fz_fl {f : Int → List sp_Y} {g : Nat → List sp_Y} : ∀ (d k : Nat), (∀ j : Nat, k ≤ j → j < k + d → f j = g j) → sp_fz f k d = sp_fl g k d := by
  intro d
  induction d with
  | zero => intro k h; rfl
  | succ d ih =>
    intro k h
    simp only [sp_fz, sp_fl]
    rw [h k (by omega) (by omega), show (k : Int) + 1 = ((k + 1 : Nat) : Int) by omega, ih (k + 1) (fun j h1 h2 => h j (by omega) (by omega))]
theorem sp_fz_nil {f : Int → List sp_Y} : ∀ (d : Nat) (i : Int), (∀ j : Int, i ≤ j → j < i + d → f j = []) → sp_fz f i d = [] := by
  intro d
  induction d with
  | zero => intro i h; rfl
  | succ d ih =>
    intro i h
    simp only [sp_fz]
    rw [h i (by omega) (by omega), ih (i + 1) (fun j h1 h2 => h j (by omega) (by omega))]
    rfl
theorem sp_fz_app {f : Int → List sp_Y} : ∀ (d d2 : Nat) (i : Int), sp_fz f i (d + d2) = sp_fz f i d ++ sp_fz f (i + d) d2 := by
  intro d
  induction d with
  | zero => intro d2 i; simp [sp_fz]
  | succ d ih =>
    intro d2 i
    rw [show d + 1 + d2 = (d + d2) + 1 by omega]
    simp only [sp_fz]
    rw [ih, List.append_assoc, show i + 1 + (d : Int) = i + ((d + 1 : Nat) : Int) by omega]
section SPZ
variable (ls : List sp_L) (w : sp_W) (U : Int → Int → List Int)
/-- what ending e adds: -2 the fitting one, 60 none -/
noncomputable def sp_be (c ch s fit e : Int) : List sp_Y := if e = -2 then (if fit = -1 then [] else sp_cy ls w U c ch s fit) else if 1 < ch then [] else if e = 60 then sp_cy ls w U (c + 4) (ch + 1) s (-1) else if 0 ≤ e ∧ e < (ls.length : Int) ∧ sp_kd ls e.toNat = 1 ∧ ¬ e = fit then sp_cy ls w U (c + 3) (ch + 1) s e else []
/-- what stem s adds: -2 the fitting one, -1 none -/
noncomputable def sp_bs (st : Nat → Prop) (q stem fit s : Int) : List sp_Y := if s = -2 then sp_ce ls w U (2 * q) q stem fit else if s = -1 then (if stem = -1 then [] else sp_ce ls w U (2 * q + 2) (q + 1) (-1) fit) else sp_cxl ls w U st q stem fit s.toNat
end SPZ
theorem sp_be_all {ls : List sp_L} {w : sp_W} {U : Int → Int → List Int} {c ch s fit : Int} (hn : ls.length ≤ 60) : sp_fz (sp_be ls w U c ch s fit) (-2) 63 = sp_ce ls w U c ch s fit := by
  rw [show 63 = 1 + (1 + (60 + 1)) by rfl, sp_fz_app, sp_fz_app, sp_fz_app]
  unfold sp_ce
  have e1 : sp_fz (sp_be ls w U c ch s fit) (-2) 1 = (if fit = -1 then [] else sp_cy ls w U c ch s fit) := by
    simp only [sp_fz, List.append_nil]
    unfold sp_be
    rw [if_pos rfl]
  have e2 : sp_fz (sp_be ls w U c ch s fit) (-2 + ((1 : Nat) : Int)) 1 = [] := by
    refine sp_fz_nil _ _ (fun j h1 h2 => ?_)
    unfold sp_be
    rw [if_neg (by omega)]
    split
    · rfl
    · rw [if_neg (by omega), if_neg (by omega)]
  rw [e1, e2, List.nil_append]
  congr 1
  rw [show (-2 : Int) + ((1 : Nat) : Int) + ((1 : Nat) : Int) = ((0 : Nat) : Int) by omega]
  split
  · rename_i c1
    rw [sp_fz_nil _ _ (fun j h1 h2 => ?_), sp_fz_nil _ _ (fun j h1 h2 => ?_)]
    · rfl
    all_goals (unfold sp_be; rw [if_neg (by omega), if_pos c1])
  · rename_i c1
    congr 1
    · rw [show (60 : Nat) = (ls.length - 0) + (60 - ls.length) by omega, sp_fz_app, sp_fz_nil (60 - ls.length) _ (fun j h1 h2 => ?_), List.append_nil]
      · refine sp_fz_fl _ _ (fun j h1 h2 => ?_)
        unfold sp_be sp_cel
        rw [if_neg (by omega), if_neg c1, if_neg (by omega)]
        by_cases c2 : sp_kd ls j = 1 ∧ ¬ (j : Int) = fit
        · rw [if_pos c2, if_pos ⟨by omega, by omega, by rw [Int.toNat_natCast]; exact c2.1, c2.2⟩]
        · rw [if_neg c2, if_neg (fun g => c2 ⟨by have := g.2.2.1; rw [Int.toNat_natCast] at this; exact this, g.2.2.2⟩)]
      · unfold sp_be
        rw [if_neg (by omega), if_neg c1, if_neg (by omega), if_neg (by omega)]
    · simp only [sp_fz, List.append_nil]
      unfold sp_be
      rw [if_neg (by omega), if_neg c1, if_pos (by omega)]
theorem sp_bs_all {ls : List sp_L} {w : sp_W} {U : Int → Int → List Int} {st : Nat → Prop} {q stem fit : Int} : sp_fz (sp_bs ls w U st q stem fit) (-2) ((ls.length : Int) - (-2)).toNat = sp_cx ls w U st q stem fit := by
  rw [show ((ls.length : Int) - (-2)).toNat = 1 + (1 + (ls.length - 0)) by omega, sp_fz_app, sp_fz_app]
  unfold sp_cx
  congr 1
  · simp only [sp_fz, List.append_nil]
    unfold sp_bs
    rw [if_pos rfl]
  · congr 1
    · simp only [sp_fz, List.append_nil]
      unfold sp_bs
      rw [if_neg (by omega), if_pos (by omega)]
    · rw [show (-2 : Int) + ((1 : Nat) : Int) + ((1 : Nat) : Int) = ((0 : Nat) : Int) by omega]
      refine sp_fz_fl _ _ (fun j h1 h2 => ?_)
      unfold sp_bs
      rw [if_neg (by omega), if_neg (by omega), Int.toNat_natCast]
/-! ===== THE WORDS' SIZES ===== -/
theorem sp_stm_no {w : sp_W} {b : sp_B} {nm : List Int} {i : Nat} {x : sp_L} (hx : b.2.2.2[i]? = some x) (h : sp_lp (sp_F w x) nm = -1) : sp_stm w b nm i = sp_stm w b nm (-1) := by
  rw [sp_stm_0 rfl, sp_stm_n (by omega) (by rw [Int.toNat_natCast]; exact hx) h]
theorem sp_ln0_F (w : sp_W) : sp_F w sp_ln0 = [] ∧ sp_S2 w sp_ln0 = [] := by
  unfold sp_F sp_S2 sp_lw sp_ln0
  constructor
  · apply List.eq_nil_of_length_eq_zero; rw [sp_seg_len]; dsimp only; omega
  · apply List.eq_nil_of_length_eq_zero; rw [sp_seg_len]; dsimp only; omega
theorem sp_getD_F {w : sp_W} {ls : List sp_L} (h : ∀ (i : Nat) (x : sp_L), ls[i]? = some x → (sp_F w x).length ≤ 8 ∧ (sp_S2 w x).length ≤ 8) (i : Nat) : (sp_F w (ls.getD i sp_ln0)).length ≤ 8 ∧ (sp_S2 w (ls.getD i sp_ln0)).length ≤ 8 := by
  cases hx : ls[i]? with
  | none => rw [List.getD_eq_getElem?_getD, hx]; show (sp_F w sp_ln0).length ≤ 8 ∧ (sp_S2 w sp_ln0).length ≤ 8; rw [(sp_ln0_F w).1, (sp_ln0_F w).2]; exact ⟨by decide, by decide⟩
  | some x => rw [sp_getD hx]; exact h i x hx
theorem sp_U_len {w : sp_W} {b : sp_B} {nm : List Int} (h : ∀ (i : Nat) (x : sp_L), b.2.2.2[i]? = some x → (sp_F w x).length ≤ 8 ∧ (sp_S2 w x).length ≤ 8) (hn : nm.length ≤ 12) (s e : Int) : (sp_stm w b nm s).length ≤ 20 ∧ (sp_end w b (sp_stm w b nm s) e).length ≤ 30 := by
  have h1 : (sp_stm w b nm s).length ≤ 20 := by
    have h2 := sp_getD_F h s.toNat
    unfold sp_stm
    split
    · omega
    · split
      · omega
      · unfold sp_cg
        rw [List.length_append, List.length_append, List.length_take, List.length_drop]
        omega
  refine ⟨h1, ?_⟩
  have h2 := sp_getD_F h e.toNat
  unfold sp_end
  split
  · omega
  · rw [List.length_append]; omega
/-! ===== THE CHANGES TOLD ===== -/
def sp_tel (ex os oe s e n0 n1 : Int) : List (Int × Int × Int) := (if ex = -1 then [] else [(0, ex, -1)]) ++ ((if s = os then [] else [(if s = -1 then 1 else 2, if os = -1 then s else os, s)]) ++ ((if e = oe ∧ ¬ oe = -1 then [] else [(if e = -1 then 4 else 3, if oe = -1 then e else oe, e)]) ++ ((if n0 = -1 then [] else [(5, n0, -1)]) ++ (if n1 = -1 then [] else [(5, n1, -1)]))))
/-- as the class tells them: s -2 the own stem, -1 none; e -2 the own ending, 60 none -/
def sp_tec (ex os oe s e n0 n1 : Int) : List (Int × Int × Int) := (if ex = -1 then [] else [(0, ex, -1)]) ++ ((if s = -1 then [(1, os, -1)] else if s = -2 then [] else [(2, if os = -1 then s else os, s)]) ++ ((if e = 60 then [(4, oe, -1)] else if e = -2 then [] else [(3, if oe = -1 then e else oe, e)]) ++ ((if n0 = -1 then [] else [(5, n0, -1)]) ++ (if n1 = -1 then [] else [(5, n1, -1)]))))
def sp_ys (os s : Int) : Int := if s = -2 then os else s
def sp_ye (oe e : Int) : Int := if e = -2 then oe else if e = 60 then -1 else e
theorem sp_tec_tel {ex os oe s e n0 n1 : Int} (hs : s = -2 ∨ (s = -1 ∧ ¬ os = -1) ∨ (0 ≤ s ∧ ¬ s = os)) (he : (e = -2 ∧ ¬ oe = -1) ∨ e = 60 ∨ (0 ≤ e ∧ ¬ e = oe)) (ho : oe < 60) : sp_tec ex os oe s e n0 n1 = sp_tel ex os oe (sp_ys os s) (sp_ye oe e) n0 n1 := by
  have es1 : s = -2 → sp_ys os s = os := fun h => by unfold sp_ys; rw [if_pos h]
  have es2 : ¬ s = -2 → sp_ys os s = s := fun h => by unfold sp_ys; rw [if_neg h]
  have ee1 : e = -2 → sp_ye oe e = oe := fun h => by unfold sp_ye; rw [if_pos h]
  have ee2 : e = 60 → sp_ye oe e = -1 := fun h => by unfold sp_ye; rw [if_neg (by omega), if_pos h]
  have ee3 : ¬ e = -2 → ¬ e = 60 → sp_ye oe e = e := fun h h2 => by unfold sp_ye; rw [if_neg h, if_neg h2]
  have p1 : (if s = -1 then [((1 : Int), os, (-1 : Int))] else if s = -2 then [] else [(2, if os = -1 then s else os, s)]) = (if sp_ys os s = os then [] else [(if sp_ys os s = -1 then 1 else 2, if os = -1 then sp_ys os s else os, sp_ys os s)]) := by
    rcases hs with h | h | h
    · rw [es1 h, if_neg (by omega), if_pos h, if_pos rfl]
    · rw [es2 (by omega), if_pos h.1, if_neg (by omega), if_pos h.1, if_neg h.2, h.1]
    · rw [es2 (by omega), if_neg (show ¬ s = -1 by omega), if_neg (show ¬ s = -2 by omega), if_neg h.2, if_neg (show ¬ s = -1 by omega)]
  have p2 : (if e = 60 then [((4 : Int), oe, (-1 : Int))] else if e = -2 then [] else [(3, if oe = -1 then e else oe, e)]) = (if sp_ye oe e = oe ∧ ¬ oe = -1 then [] else [(if sp_ye oe e = -1 then 4 else 3, if oe = -1 then sp_ye oe e else oe, sp_ye oe e)]) := by
    by_cases c : e = 60
    · rw [ee2 c, if_pos c, if_neg (by omega), if_pos rfl]
      by_cases c2 : oe = -1
      · rw [if_pos c2, c2]
      · rw [if_neg c2]
    · by_cases c2 : e = -2
      · rw [ee1 c2, if_neg c, if_pos c2, if_pos ⟨rfl, by omega⟩]
      · rw [ee3 c2 c, if_neg c, if_neg c2, if_neg (show ¬ (e = oe ∧ ¬ oe = -1) by omega), if_neg (show ¬ e = -1 by omega)]
  unfold sp_tec sp_tel
  rw [p1, p2]

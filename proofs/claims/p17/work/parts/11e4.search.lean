/-! ===== THE BEST EXPLANATION, PURELY: what is tried one by one, and what needn't be tried ===== -/
/-- a way: cost, changes, stem, ending, the sounds left out -/
abbrev sp_Y : Type := Int × Int × Int × Int × Int × Int
def sp_lt (x y : sp_Y) : Prop := x.1 < y.1 ∨ (x.1 = y.1 ∧ x.2.1 < y.2.1)
theorem sp_lt.tr {x y z : sp_Y} (h : sp_lt x y) (h2 : sp_lt y z) : sp_lt x z := by unfold sp_lt at *; omega
theorem sp_lt.ir {x : sp_Y} (h : sp_lt x x) : False := by unfold sp_lt at h; omega
theorem sp_lt.tot (x y : sp_Y) : sp_lt x y ∨ sp_lt y x ∨ (x.1 = y.1 ∧ x.2.1 = y.2.1) := by unfold sp_lt; omega
/-- M: this way makes the word, with two changes at most -/
noncomputable def sp_t1 (M : sp_Y → Prop) (s x : sp_Y) : sp_Y := @ite sp_Y (M x ∧ sp_lt x s) (Classical.propDecidable _) x s
noncomputable def sp_tr (M : sp_Y → Prop) : sp_Y → List sp_Y → sp_Y
  | s, [] => s
  | s, x :: xs => sp_tr M (sp_t1 M s x) xs
theorem sp_t1_y {M : sp_Y → Prop} {s x : sp_Y} (h : M x) (h2 : sp_lt x s) : sp_t1 M s x = x := by unfold sp_t1; rw [if_pos ⟨h, h2⟩]
theorem sp_t1_n {M : sp_Y → Prop} {s x : sp_Y} (h : ¬ (M x ∧ sp_lt x s)) : sp_t1 M s x = s := by unfold sp_t1; rw [if_neg h]
theorem sp_tr_app (M : sp_Y → Prop) (L1 L2 : List sp_Y) : ∀ s, sp_tr M s (L1 ++ L2) = sp_tr M (sp_tr M s L1) L2 := by
  induction L1 with
  | nil => intro s; rfl
  | cons x L1 ih => intro s; simp only [List.cons_append, sp_tr]; exact ih _
/-- none of these is better than s: nothing changes -/
theorem sp_tr_no {M : sp_Y → Prop} {s : sp_Y} (L : List sp_Y) (h : ∀ x ∈ L, ¬ sp_lt x s) : sp_tr M s L = s := by
  induction L with
  | nil => rfl
  | cons x L ih =>
    simp only [sp_tr]
    rw [sp_t1_n (fun g => h x List.mem_cons_self g.2)]
    exact ih (fun y hy => h y (List.mem_cons_of_mem _ hy))
/-- two runs that are one, or will be -/
def sp_rl (M : sp_Y → Prop) (L : List sp_Y) (s1 s2 : sp_Y) : Prop := s1 = s2 ∨ ∃ y ∈ L, M y ∧ sp_lt y s1 ∧ sp_lt y s2
/-- L2 is L1 with some left out, each of which is made by none or by a better one in K -/
def sp_sb (M : sp_Y → Prop) (K : List sp_Y) : List sp_Y → List sp_Y → Prop
  | [], L2 => L2 = []
  | x :: L1, L2 => (∃ L3, L2 = x :: L3 ∧ sp_sb M K L1 L3) ∨ ((M x → ∃ y ∈ K, M y ∧ sp_lt y x) ∧ sp_sb M K L1 L2)
theorem sp_trn {M : sp_Y → Prop} {K : List sp_Y} (L1 : List sp_Y) : ∀ (L2 P : List sp_Y) (s1 s2 : sp_Y), sp_sb M K L1 L2 → (∀ y ∈ K, y ∈ P ∨ y ∈ L2) → (∀ y ∈ P, M y → ¬ sp_lt y s1) → (∀ y ∈ P, M y → ¬ sp_lt y s2) → sp_rl M L2 s1 s2 → sp_tr M s1 L1 = sp_tr M s2 L2 := by
  induction L1 with
  | nil =>
    intro L2 P s1 s2 h hK h1 h2 hr
    have h : L2 = [] := h
    subst h
    rcases hr with hr | ⟨y, hy, -⟩
    · exact hr
    · cases hy
  | cons x L1 ih =>
    intro L2 P s1 s2 h hK h1 h2 hr
    have keep : ∀ (s z y : sp_Y), (M y → ¬ sp_lt y s) → M y → ¬ sp_lt y (sp_t1 M s z) := by
      intro s z y g gy g2
      by_cases c : M z ∧ sp_lt z s
      · rw [sp_t1_y c.1 c.2] at g2
        exact g gy (g2.tr c.2)
      · rw [sp_t1_n c] at g2
        exact g gy g2
    rcases h with ⟨L3, rfl, h⟩ | ⟨hd, h⟩
    · simp only [sp_tr]
      have own : ∀ s : sp_Y, M x → ¬ sp_lt x (sp_t1 M s x) := by
        intro s mx g
        by_cases c : M x ∧ sp_lt x s
        · rw [sp_t1_y c.1 c.2] at g; exact g.ir
        · rw [sp_t1_n c] at g; exact c ⟨mx, g⟩
      refine ih L3 (x :: P) _ _ h (fun y hy => ?_) (fun y hy my => ?_) (fun y hy my => ?_) ?_
      · rcases hK y hy with g | g
        · exact Or.inl (List.mem_cons_of_mem _ g)
        · rcases List.mem_cons.mp g with g | g
          · exact Or.inl (by rw [g]; exact List.mem_cons_self)
          · exact Or.inr g
      · rcases List.mem_cons.mp hy with g | g
        · subst g; exact own s1 my
        · exact keep s1 x y (h1 y g) my
      · rcases List.mem_cons.mp hy with g | g
        · subst g; exact own s2 my
        · exact keep s2 x y (h2 y g) my
      · rcases hr with hr | ⟨y, hy, my, l1, l2⟩
        · exact Or.inl (by rw [hr])
        · rcases List.mem_cons.mp hy with g | g
          · subst g
            exact Or.inl (by rw [sp_t1_y my l1, sp_t1_y my l2])
          · by_cases c1 : M x ∧ sp_lt x s1
            · by_cases c2 : sp_lt x s2
              · exact Or.inl (by rw [sp_t1_y c1.1 c1.2, sp_t1_y c1.1 c2])
              · rw [sp_t1_y c1.1 c1.2, sp_t1_n (fun g9 => c2 g9.2)]
                refine Or.inr ⟨y, g, my, ?_, l2⟩
                unfold sp_lt at c2 l2 ⊢
                omega
            · rw [sp_t1_n c1]
              by_cases c2 : M x ∧ sp_lt x s2
              · rw [sp_t1_y c2.1 c2.2]
                refine Or.inr ⟨y, g, my, l1, ?_⟩
                have c3 : ¬ sp_lt x s1 := fun g9 => c1 ⟨c2.1, g9⟩
                unfold sp_lt at c3 l1 ⊢
                omega
              · rw [sp_t1_n c2]
                exact Or.inr ⟨y, g, my, l1, l2⟩
    · simp only [sp_tr]
      refine ih L2 P _ _ h hK (fun y hy my => keep s1 x y (h1 y hy) my) h2 ?_
      by_cases c1 : M x ∧ sp_lt x s1
      · rw [sp_t1_y c1.1 c1.2]
        obtain ⟨y, hy, my, ly⟩ := hd c1.1
        have hy2 : y ∈ L2 := by
          rcases hK y hy with g | g
          · exact absurd (ly.tr c1.2) (h1 y g my)
          · exact g
        rcases hr with hr | ⟨y2, hy2', my2, l1, l2⟩
        · subst hr
          exact Or.inr ⟨y, hy2, my, ly, ly.tr c1.2⟩
        · by_cases c3 : sp_lt y s2
          · exact Or.inr ⟨y, hy2, my, ly, c3⟩
          · refine Or.inr ⟨y2, hy2', my2, ?_, l2⟩
            unfold sp_lt at c3 l2 ly ⊢
            omega
      · rw [sp_t1_n c1]
        exact hr
/-- what is left out needn't be tried -/
theorem sp_less {M : sp_Y → Prop} {L1 L2 : List sp_Y} (s : sp_Y) (h : sp_sb M L2 L1 L2) : sp_tr M s L1 = sp_tr M s L2 :=
  sp_trn L1 L2 [] s s h (fun y hy => Or.inr hy) (fun y hy => by cases hy) (fun y hy => by cases hy) (Or.inl rfl)
theorem sp_sb.rf {M : sp_Y → Prop} {K : List sp_Y} (L : List sp_Y) : sp_sb M K L L := by
  induction L with
  | nil => exact rfl
  | cons x L ih => exact Or.inl ⟨L, rfl, ih⟩
theorem sp_sb.app {M : sp_Y → Prop} {K : List sp_Y} (A : List sp_Y) : ∀ {B C D : List sp_Y}, sp_sb M K A B → sp_sb M K C D → sp_sb M K (A ++ C) (B ++ D) := by
  induction A with
  | nil => intro B C D h h2; have h : B = [] := h; subst h; exact h2
  | cons x A ih =>
    intro B C D h h2
    rcases h with ⟨L3, rfl, h⟩ | ⟨hd, h⟩
    · exact Or.inl ⟨L3 ++ D, rfl, ih h h2⟩
    · exact Or.inr ⟨hd, ih h h2⟩
theorem sp_sb.out {M : sp_Y → Prop} {K : List sp_Y} (L : List sp_Y) (h : ∀ x ∈ L, M x → ∃ y ∈ K, M y ∧ sp_lt y x) : sp_sb M K L [] := by
  induction L with
  | nil => exact rfl
  | cons x L ih => exact Or.inr ⟨h x List.mem_cons_self, ih (fun y hy => h y (List.mem_cons_of_mem _ hy))⟩

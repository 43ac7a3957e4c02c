/-! ===== ALL WAYS, IN THEIR ORDER ===== -/
def sp_fl (f : Nat → List sp_Y) : Nat → Nat → List sp_Y
  | _, 0 => []
  | i, d + 1 => f i ++ sp_fl f (i + 1) d
theorem sp_fl_go {f : Nat → List sp_Y} {i n : Nat} (h : i < n) : sp_fl f i (n - i) = f i ++ sp_fl f (i + 1) (n - (i + 1)) := by
  rw [show n - i = (n - (i + 1)) + 1 by omega]
  rfl
theorem sp_fl_out {f : Nat → List sp_Y} {i n : Nat} (h : n ≤ i) : sp_fl f i (n - i) = [] := by
  rw [show n - i = 0 by omega]
  rfl
theorem sp_fl_mem {f : Nat → List sp_Y} {y : sp_Y} : ∀ (d i : Nat), y ∈ sp_fl f i d ↔ ∃ k, i ≤ k ∧ k < i + d ∧ y ∈ f k := by
  intro d
  induction d with
  | zero => intro i; constructor; (· intro h; cases h); (· rintro ⟨k, h1, h2, -⟩; omega)
  | succ d ih =>
    intro i
    simp only [sp_fl, List.mem_append]
    rw [ih]
    constructor
    · rintro (h | ⟨k, h1, h2, h3⟩)
      · exact ⟨i, by omega, by omega, h⟩
      · exact ⟨k, by omega, by omega, h3⟩
    · rintro ⟨k, h1, h2, h3⟩
      by_cases c : k = i
      · subst c; exact Or.inl h3
      · exact Or.inr ⟨k, by omega, by omega, h3⟩
theorem sp_sb.fl {M : sp_Y → Prop} {K : List sp_Y} {f g : Nat → List sp_Y} : ∀ (d i : Nat), (∀ k, i ≤ k → k < i + d → sp_sb M K (f k) (g k)) → sp_sb M K (sp_fl f i d) (sp_fl g i d) := by
  intro d
  induction d with
  | zero => intro i h; exact rfl
  | succ d ih => intro i h; simp only [sp_fl]; exact sp_sb.app _ (h i (by omega) (by omega)) (ih (i + 1) (fun k h1 h2 => h k (by omega) (by omega)))
theorem sp_sb.mono {M : sp_Y → Prop} {K K2 : List sp_Y} (hK : ∀ y ∈ K, y ∈ K2) : ∀ {L1 L2 : List sp_Y}, sp_sb M K L1 L2 → sp_sb M K2 L1 L2 := by
  intro L1
  induction L1 with
  | nil => intro L2 h; exact h
  | cons x L1 ih =>
    intro L2 h
    rcases h with ⟨L3, rfl, h⟩ | ⟨hd, h⟩
    · exact Or.inl ⟨L3, rfl, ih h⟩
    · refine Or.inr ⟨fun mx => ?_, ih h⟩
      obtain ⟨y, h1, h2⟩ := hd mx
      exact ⟨y, hK y h1, h2⟩
section SPW
variable (ls : List sp_L) (c ch s e : Int)
/-- the reference's: two sounds left out, one, none -/
def sp_wb (a b : Nat) : List sp_Y := if sp_kd ls b = 2 then [(c + 4, ch + 2, s, e, (a : Int), (b : Int))] else []
def sp_wa (a : Nat) : List sp_Y := if ¬ sp_kd ls a = 2 ∨ 1 < ch then [] else (c + 2, ch + 1, s, e, (a : Int), -1) :: sp_fl (sp_wb ls c ch s e a) (a + 1) (ls.length - (a + 1))
def sp_wy : List sp_Y := (c, ch, s, e, -1, -1) :: sp_fl (sp_wa ls c ch s e) 0 (ls.length - 0)
/-- the class's: h the sounds that change something, o those where one is left out -/
noncomputable def sp_cb (o : Nat → Prop) (a b : Nat) : List sp_Y := @ite _ (o b ∧ ch < 1) (Classical.propDecidable _) [(c + 4, ch + 2, s, e, (a : Int), (b : Int))] []
noncomputable def sp_ca (h : Nat → Prop) (o : Nat → Nat → Prop) (a : Nat) : List sp_Y := @ite _ (h a ∧ ch < 2) (Classical.propDecidable _) ((c + 2, ch + 1, s, e, (a : Int), -1) :: sp_fl (sp_cb c ch s e (o a) a) (a + 1) (ls.length - (a + 1))) []
noncomputable def sp_cw (h : Nat → Prop) (o : Nat → Nat → Prop) : List sp_Y := (c, ch, s, e, -1, -1) :: sp_fl (sp_ca ls c ch s e h o) 0 (ls.length - 0)
end SPW
/-- what the ways make -/
def sp_M (w : sp_W) (ls : List sp_L) (U : Int → Int → List Int) (ask : List Int) (y : sp_Y) : Prop := y.2.1 ≤ 2 ∧ sp_sa w y.2.2.2.2.1 y.2.2.2.2.2 ls 0 (U y.2.2.1 y.2.2.2.1) = some ask ∧ 0 < ask.length
/-- one block: the class's ways are enough -/
theorem sp_cw_sb {w : sp_W} {ls : List sp_L} {U : Int → Int → List Int} {ask : List Int} {c ch s e : Int} (hu : (U s e).length ≤ 30) : sp_sb (sp_M w ls U ask) (sp_cw ls c ch s e (sp_hd w (-1) (-1) ls (U s e)) (fun a => sp_hd w a (-1) ls (U s e))) (sp_wy ls c ch s e) (sp_cw ls c ch s e (sp_hd w (-1) (-1) ls (U s e)) (fun a => sp_hd w a (-1) ls (U s e))) := by
  obtain ⟨K, hK⟩ : ∃ K, K = sp_cw ls c ch s e (sp_hd w (-1) (-1) ls (U s e)) (fun a => sp_hd w a (-1) ls (U s e)) := ⟨_, rfl⟩
  have k0 : (c, ch, s, e, -1, -1) ∈ K := by rw [hK]; exact List.mem_cons_self
  have k1 : ∀ a, a < ls.length → sp_hd w (-1) (-1) ls (U s e) a → ch < 2 → (c + 2, ch + 1, s, e, (a : Int), -1) ∈ K := by
    intro a ha h h2
    rw [hK]
    refine List.mem_cons_of_mem _ ((sp_fl_mem _ _).mpr ⟨a, by omega, by omega, ?_⟩)
    unfold sp_ca
    rw [if_pos ⟨h, h2⟩]
    exact List.mem_cons_self
  rw [← hK]
  have hk : sp_sb (sp_M w ls U ask) K (sp_wy ls c ch s e) (sp_cw ls c ch s e (sp_hd w (-1) (-1) ls (U s e)) (fun a => sp_hd w a (-1) ls (U s e))) := by
    unfold sp_wy sp_cw
    refine Or.inl ⟨_, rfl, sp_sb.fl _ _ (fun a _ ha => ?_)⟩
    unfold sp_wa sp_ca
    by_cases c1 : sp_kd ls a = 2 ∧ ¬ 1 < ch
    · rw [if_neg (by omega)]
      by_cases c2 : sp_hd w (-1) (-1) ls (U s e) a
      · rw [if_pos ⟨c2, by omega⟩]
        refine Or.inl ⟨_, rfl, sp_sb.fl _ _ (fun b hb1 hb2 => ?_)⟩
        unfold sp_wb sp_cb
        by_cases c3 : sp_kd ls b = 2
        · rw [if_pos c3]
          by_cases c4 : sp_hd w a (-1) ls (U s e) b ∧ ch < 1
          · rw [if_pos c4]; exact sp_sb.rf _
          · rw [if_neg c4]
            refine sp_sb.out _ (fun x hx => ?_)
            rw [List.mem_singleton.mp hx]
            rintro ⟨m1, m2, m3⟩
            dsimp only at m1 m2 m3
            refine ⟨_, k1 a (by omega) c2 (by omega), ⟨by show ch + 1 ≤ 2; omega, ?_, m3⟩, Or.inl (by show c + 2 < c + 4; omega)⟩
            dsimp only
            rw [← m2]
            exact (sp_nc3 hu (sp_hd.no (fun g => c4 ⟨g, by omega⟩) (by omega) (by omega))).symm
        · rw [if_neg c3, if_neg (fun g => c3 g.1.kd.1)]
          exact rfl
      · rw [if_neg (fun g => c2 g.1)]
        have n1 := sp_hd.no c2 (by omega) (by omega)
        refine sp_sb.out _ (fun x hx => ?_)
        rcases List.mem_cons.mp hx with g | g
        · rw [g]
          rintro ⟨m1, m2, m3⟩
          dsimp only at m1 m2 m3
          refine ⟨_, k0, ⟨by show ch ≤ 2; omega, ?_, m3⟩, Or.inl (by show c < c + 2; omega)⟩
          dsimp only
          rw [← m2]
          exact (sp_nc1 hu n1).symm
        · obtain ⟨b, hb1, hb2, hb3⟩ := (sp_fl_mem _ _).mp g
          unfold sp_wb at hb3
          split at hb3
          · rename_i c3
            rw [List.mem_singleton.mp hb3]
            rintro ⟨m1, m2, m3⟩
            dsimp only at m1 m2 m3
            have e2 := sp_nc2 hu (b := b) (by omega) n1
            by_cases c5 : sp_hd w (-1) (-1) ls (U s e) b
            · refine ⟨_, k1 b (by omega) c5 (by omega), ⟨by show ch + 1 ≤ 2; omega, ?_, m3⟩, Or.inl (by show c + 2 < c + 4; omega)⟩
              dsimp only
              rw [← m2]
              exact e2.symm
            · refine ⟨_, k0, ⟨by show ch ≤ 2; omega, ?_, m3⟩, Or.inl (by show c < c + 4; omega)⟩
              dsimp only
              rw [← m2, e2]
              exact (sp_nc1 hu (sp_hd.no c5 (by omega) (by omega))).symm
          · cases hb3
    · rw [if_pos (by omega), if_neg (fun g => c1 ⟨g.1.kd.1, by omega⟩)]
      exact rfl
  rw [← hK] at hk
  exact hk
/-- L2 is enough for L1 -/
def sp_sq (M : sp_Y → Prop) (L1 L2 : List sp_Y) : Prop := sp_sb M L2 L1 L2
theorem sp_sq.rf {M : sp_Y → Prop} (L : List sp_Y) : sp_sq M L L := sp_sb.rf L
theorem sp_sq.app {M : sp_Y → Prop} {A B C E : List sp_Y} (h : sp_sq M A B) (h2 : sp_sq M C E) : sp_sq M (A ++ C) (B ++ E) :=
  sp_sb.app A (h.mono (fun y hy => List.mem_append.mpr (Or.inl hy))) (h2.mono (fun y hy => List.mem_append.mpr (Or.inr hy)))
theorem sp_sq.fl {M : sp_Y → Prop} {f g : Nat → List sp_Y} : ∀ (d i : Nat), (∀ k, i ≤ k → k < i + d → sp_sq M (f k) (g k)) → sp_sq M (sp_fl f i d) (sp_fl g i d) := by
  intro d
  induction d with
  | zero => intro i h; exact rfl
  | succ d ih => intro i h; simp only [sp_fl]; exact sp_sq.app (h i (by omega) (by omega)) (ih (i + 1) (fun k h1 h2 => h k (by omega) (by omega)))
section SPE
variable (ls : List sp_L)
def sp_wel (c ch s fit : Int) (i : Nat) : List sp_Y := if sp_kd ls i = 1 ∧ ¬ (i : Int) = fit then sp_wy ls (c + 3) (ch + 1) s i else []
def sp_we (c ch s fit : Int) : List sp_Y := (if fit = -1 then [] else sp_wy ls c ch s fit) ++ (if 1 < ch then [] else sp_fl (sp_wel ls c ch s fit) 0 (ls.length - 0) ++ sp_wy ls (c + 4) (ch + 1) s (-1))
def sp_wxl (q stem fit : Int) (i : Nat) : List sp_Y := if sp_kd ls i = 0 ∧ ¬ (i : Int) = stem then sp_we ls (2 * q + 3) (q + 1) i fit else []
/-- all of the reference's, q 1 where an except fits -/
def sp_wx (q stem fit : Int) : List sp_Y := sp_we ls (2 * q) q stem fit ++ ((if stem = -1 then [] else sp_we ls (2 * q + 2) (q + 1) (-1) fit) ++ sp_fl (sp_wxl ls q stem fit) 0 (ls.length - 0))
/-- without the stems that don't stand -/
noncomputable def sp_vxl (st : Nat → Prop) (q stem fit : Int) (i : Nat) : List sp_Y := @ite _ (sp_kd ls i = 0 ∧ ¬ (i : Int) = stem ∧ st i) (Classical.propDecidable _) (sp_we ls (2 * q + 3) (q + 1) i fit) []
noncomputable def sp_vx (st : Nat → Prop) (q stem fit : Int) : List sp_Y := sp_we ls (2 * q) q stem fit ++ ((if stem = -1 then [] else sp_we ls (2 * q + 2) (q + 1) (-1) fit) ++ sp_fl (sp_vxl ls st q stem fit) 0 (ls.length - 0))
variable (w : sp_W) (U : Int → Int → List Int)
noncomputable def sp_cy (c ch s e : Int) : List sp_Y := sp_cw ls c ch s e (sp_hd w (-1) (-1) ls (U s e)) (fun a => sp_hd w a (-1) ls (U s e))
noncomputable def sp_cel (c ch s fit : Int) (i : Nat) : List sp_Y := if sp_kd ls i = 1 ∧ ¬ (i : Int) = fit then sp_cy ls w U (c + 3) (ch + 1) s i else []
noncomputable def sp_ce (c ch s fit : Int) : List sp_Y := (if fit = -1 then [] else sp_cy ls w U c ch s fit) ++ (if 1 < ch then [] else sp_fl (sp_cel ls w U c ch s fit) 0 (ls.length - 0) ++ sp_cy ls w U (c + 4) (ch + 1) s (-1))
noncomputable def sp_cxl (st : Nat → Prop) (q stem fit : Int) (i : Nat) : List sp_Y := @ite _ (sp_kd ls i = 0 ∧ ¬ (i : Int) = stem ∧ st i) (Classical.propDecidable _) (sp_ce ls w U (2 * q + 3) (q + 1) i fit) []
noncomputable def sp_cx (st : Nat → Prop) (q stem fit : Int) : List sp_Y := sp_ce ls w U (2 * q) q stem fit ++ ((if stem = -1 then [] else sp_ce ls w U (2 * q + 2) (q + 1) (-1) fit) ++ sp_fl (sp_cxl ls w U st q stem fit) 0 (ls.length - 0))
end SPE
/-- the same ways, at another cost -/
theorem sp_wy_mem {ls : List sp_L} {c ch s e c2 ch2 s2 : Int} {y : sp_Y} (h : y ∈ sp_wy ls c ch s e) (hc : ch2 ≤ ch) : y.2.2.1 = s ∧ y.2.2.2.1 = e ∧ (c2 + (y.1 - c), ch2 + (y.2.1 - ch), s2, e, y.2.2.2.2.1, y.2.2.2.2.2) ∈ sp_wy ls c2 ch2 s2 e := by
  unfold sp_wy at h ⊢
  rcases List.mem_cons.mp h with g | g
  · rw [g]
    refine ⟨rfl, rfl, List.mem_cons.mpr (Or.inl ?_)⟩
    dsimp only
    rw [show c2 + (c - c) = c2 by omega, show ch2 + (ch - ch) = ch2 by omega]
  · obtain ⟨a, a1, a2, a3⟩ := (sp_fl_mem _ _).mp g
    unfold sp_wa at a3
    split at a3
    · cases a3
    · rename_i ca
      have ca2 : ¬ (¬ sp_kd ls a = 2 ∨ 1 < ch2) := by omega
      rcases List.mem_cons.mp a3 with g | g
      · rw [g]
        refine ⟨rfl, rfl, List.mem_cons_of_mem _ ((sp_fl_mem _ _).mpr ⟨a, a1, a2, ?_⟩)⟩
        unfold sp_wa
        rw [if_neg ca2]
        dsimp only
        rw [show c2 + (c + 2 - c) = c2 + 2 by omega, show ch2 + (ch + 1 - ch) = ch2 + 1 by omega]
        exact List.mem_cons_self
      · obtain ⟨b, b1, b2, b3⟩ := (sp_fl_mem _ _).mp g
        unfold sp_wb at b3
        split at b3
        · rename_i cb
          rw [List.mem_singleton.mp b3]
          refine ⟨rfl, rfl, List.mem_cons_of_mem _ ((sp_fl_mem _ _).mpr ⟨a, a1, a2, ?_⟩)⟩
          unfold sp_wa
          rw [if_neg ca2]
          refine List.mem_cons_of_mem _ ((sp_fl_mem _ _).mpr ⟨b, b1, b2, ?_⟩)
          unfold sp_wb
          rw [if_pos cb]
          dsimp only
          rw [show c2 + (c + 4 - c) = c2 + 4 by omega, show ch2 + (ch + 2 - ch) = ch2 + 2 by omega]
          exact List.mem_singleton.mpr rfl
        · cases b3
theorem sp_we_mem {ls : List sp_L} {c ch s fit c2 ch2 s2 : Int} {y : sp_Y} (h : y ∈ sp_we ls c ch s fit) (hc : ch2 ≤ ch) : y.2.2.1 = s ∧ (c2 + (y.1 - c), ch2 + (y.2.1 - ch), s2, y.2.2.2.1, y.2.2.2.2.1, y.2.2.2.2.2) ∈ sp_we ls c2 ch2 s2 fit := by
  unfold sp_we at h ⊢
  rcases List.mem_append.mp h with g | g
  · split at g
    · cases g
    · rename_i cf
      obtain ⟨h1, h2, h3⟩ := sp_wy_mem (c2 := c2) (s2 := s2) g hc
      refine ⟨h1, List.mem_append.mpr (Or.inl ?_)⟩
      rw [if_neg cf, h2]
      exact h3
  · split at g
    · cases g
    · rename_i cf
      have cf2 : ¬ 1 < ch2 := by omega
      rcases List.mem_append.mp g with g | g
      · obtain ⟨a, a1, a2, a3⟩ := (sp_fl_mem _ _).mp g
        unfold sp_wel at a3
        split at a3
        · rename_i ca
          obtain ⟨h1, h2, h3⟩ := sp_wy_mem (c2 := c2 + 3) (ch2 := ch2 + 1) (s2 := s2) a3 (by omega)
          refine ⟨h1, List.mem_append.mpr (Or.inr ?_)⟩
          rw [if_neg cf2]
          refine List.mem_append.mpr (Or.inl ((sp_fl_mem _ _).mpr ⟨a, a1, a2, ?_⟩))
          unfold sp_wel
          rw [if_pos ca, h2]
          rw [show c2 + 3 + (y.1 - (c + 3)) = c2 + (y.1 - c) by omega, show ch2 + 1 + (y.2.1 - (ch + 1)) = ch2 + (y.2.1 - ch) by omega] at h3
          exact h3
        · cases a3
      · obtain ⟨h1, h2, h3⟩ := sp_wy_mem (c2 := c2 + 4) (ch2 := ch2 + 1) (s2 := s2) g (by omega)
        refine ⟨h1, List.mem_append.mpr (Or.inr ?_)⟩
        rw [if_neg cf2]
        refine List.mem_append.mpr (Or.inr ?_)
        rw [h2]
        rw [show c2 + 4 + (y.1 - (c + 4)) = c2 + (y.1 - c) by omega, show ch2 + 1 + (y.2.1 - (ch + 1)) = ch2 + (y.2.1 - ch) by omega] at h3
        exact h3
/-- stems that don't stand: as none, at more cost -/
theorem sp_vx_sq {w : sp_W} {ls : List sp_L} {U : Int → Int → List Int} {ask : List Int} {st : Nat → Prop} {q stem fit : Int} (hst : ∀ (i : Nat) (e : Int), ¬ st i → i < ls.length → U i e = U (-1) e) : sp_sq (sp_M w ls U ask) (sp_wx ls q stem fit) (sp_vx ls st q stem fit) := by
  unfold sp_sq
  obtain ⟨K, hK⟩ : ∃ K, K = sp_vx ls st q stem fit := ⟨_, rfl⟩
  rw [← hK]
  have hk : sp_sb (sp_M w ls U ask) K (sp_wx ls q stem fit) (sp_vx ls st q stem fit) := by
    unfold sp_wx sp_vx
    refine sp_sb.app _ (sp_sb.rf _) (sp_sb.app _ (sp_sb.rf _) (sp_sb.fl _ _ (fun i _ hi => ?_)))
    unfold sp_wxl sp_vxl
    by_cases c1 : sp_kd ls i = 0 ∧ ¬ (i : Int) = stem
    · rw [if_pos c1]
      by_cases c2 : st i
      · rw [if_pos ⟨c1.1, c1.2, c2⟩]
        exact sp_sb.rf _
      · rw [if_neg (fun g => c2 g.2.2)]
        refine sp_sb.out _ (fun y hy => ?_)
        rintro ⟨m1, m2, m3⟩
        by_cases c3 : stem = -1
        · obtain ⟨h1, h2⟩ := sp_we_mem (c2 := 2 * q) (ch2 := q) (s2 := stem) hy (by omega)
          have h4 : ∀ z, z ∈ sp_we ls (2 * q) q stem fit → z ∈ K := fun z hz => by rw [hK]; unfold sp_vx; exact List.mem_append.mpr (Or.inl hz)
          refine ⟨_, h4 _ h2, ⟨?_, ?_, m3⟩, Or.inl ?_⟩
          · dsimp only; omega
          · dsimp only
            rw [c3, ← hst i _ c2 (by omega), ← h1]
            exact m2
          · dsimp only; omega
        · obtain ⟨h1, h2⟩ := sp_we_mem (c2 := 2 * q + 2) (ch2 := q + 1) (s2 := -1) hy (by omega)
          have h4 : ∀ z, z ∈ sp_we ls (2 * q + 2) (q + 1) (-1) fit → z ∈ K := fun z hz => by rw [hK]; unfold sp_vx; rw [if_neg c3]; exact List.mem_append.mpr (Or.inr (List.mem_append.mpr (Or.inl hz)))
          refine ⟨_, h4 _ h2, ⟨?_, ?_, m3⟩, Or.inl ?_⟩
          · dsimp only; omega
          · dsimp only
            rw [← hst i _ c2 (by omega), ← h1]
            exact m2
          · dsimp only; omega
    · rw [if_neg c1, if_neg (fun g => c1 ⟨g.1, g.2.1⟩)]
      exact rfl
  rw [← hK] at hk
  exact hk
theorem sp_ce_sq {w : sp_W} {ls : List sp_L} {U : Int → Int → List Int} {ask : List Int} {c ch s fit : Int} (hu : ∀ s e, (U s e).length ≤ 30) : sp_sq (sp_M w ls U ask) (sp_we ls c ch s fit) (sp_ce ls w U c ch s fit) := by
  have hb : ∀ c ch s e : Int, sp_sq (sp_M w ls U ask) (sp_wy ls c ch s e) (sp_cy ls w U c ch s e) := fun c ch s e => sp_cw_sb (hu s e)
  unfold sp_we sp_ce
  refine sp_sq.app ?_ ?_
  · split
    · exact rfl
    · exact hb _ _ _ _
  · split
    · exact rfl
    · refine sp_sq.app (sp_sq.fl _ _ (fun k _ _ => ?_)) (hb _ _ _ _)
      unfold sp_wel sp_cel
      split
      · exact hb _ _ _ _
      · exact rfl
theorem sp_cx_sq {w : sp_W} {ls : List sp_L} {U : Int → Int → List Int} {ask : List Int} {st : Nat → Prop} {q stem fit : Int} (hu : ∀ s e, (U s e).length ≤ 30) : sp_sq (sp_M w ls U ask) (sp_vx ls st q stem fit) (sp_cx ls w U st q stem fit) := by
  unfold sp_vx sp_cx
  refine sp_sq.app (sp_ce_sq hu) (sp_sq.app ?_ (sp_sq.fl _ _ (fun k _ _ => ?_)))
  · split
    · exact rfl
    · exact sp_ce_sq hu
  · unfold sp_vxl sp_cxl
    split
    · exact sp_ce_sq hu
    · exact rfl
/-- class and reference find the same -/
theorem sp_same {w : sp_W} {ls : List sp_L} {U : Int → Int → List Int} {ask : List Int} {st : Nat → Prop} {q stem fit : Int} (hu : ∀ s e, (U s e).length ≤ 30) (hst : ∀ (i : Nat) (e : Int), ¬ st i → i < ls.length → U i e = U (-1) e) (y : sp_Y) : sp_tr (sp_M w ls U ask) y (sp_wx ls q stem fit) = sp_tr (sp_M w ls U ask) y (sp_cx ls w U st q stem fit) :=
  (sp_less y (sp_vx_sq hst)).trans (sp_less y (sp_cx_sq hu))

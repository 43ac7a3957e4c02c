/-! ===== THE CHANGES HELD ===== -/
abbrev sp_C3 : Type := Int × Int × Int
def sp_hl (n : Int32) (f1 f2 f3 : Nat → Int32) (L : List sp_C3) : Prop := n.toInt = (L.length : Int) ∧ ∀ (i : Nat) (t : sp_C3), L[i]? = some t → (f1 i).toInt = t.1 ∧ (f2 i).toInt = t.2.1 ∧ (f3 i).toInt = t.2.2
theorem sp_hl.nil {f1 f2 f3 : Nat → Int32} : sp_hl 0 f1 f2 f3 [] := ⟨rfl, fun i t h => by simp at h⟩
theorem sp_hl.snoc {n n1 a b c : Int32} {f1 f2 f3 : Nat → Int32} {L : List sp_C3} (h : sp_hl n f1 f2 f3 L) (hn : n1.toInt = n.toInt + 1) : sp_hl n1 (upd f1 n.toNatClampNeg a) (upd f2 n.toNatClampNeg b) (upd f3 n.toNatClampNeg c) (L ++ [(a.toInt, b.toInt, c.toInt)]) := by
  have e0 := h.1
  have hl : n.toNatClampNeg = L.length := by
    have := (hq_nn (z := n) (by omega)).1
    omega
  refine ⟨by rw [List.length_append]; simp only [List.length_cons, List.length_nil]; omega, fun k t hk => ?_⟩
  by_cases c9 : k < L.length
  · rw [List.getElem?_append_left c9] at hk
    rw [hm_un (by omega), hm_un (by omega), hm_un (by omega)]
    exact h.2 k t hk
  · have hk2 := (List.getElem?_eq_some_iff.mp hk).1
    rw [List.length_append] at hk2
    simp only [List.length_cons, List.length_nil] at hk2
    have hk3 : k = L.length := by omega
    subst hk3
    rw [List.getElem?_append_right (Nat.le_refl _), Nat.sub_self] at hk
    have hk : some (a.toInt, b.toInt, c.toInt) = some t := hk
    cases hk
    rw [← hl, hm_ue, hm_ue, hm_ue]
    exact ⟨rfl, rfl, rfl⟩
def sp_te1 (k x : Int) : List sp_C3 := if x = -1 then [] else [(k, x, -1)]
def sp_te2 (os s : Int) : List sp_C3 := if s = os then [] else [(if s = -1 then 1 else 2, if os = -1 then s else os, s)]
def sp_te3 (oe e : Int) : List sp_C3 := if e = oe ∧ ¬ oe = -1 then [] else [(if e = -1 then 4 else 3, if oe = -1 then e else oe, e)]
theorem sp_tel_eq (ex os oe s e n0 n1 : Int) : sp_tel ex os oe s e n0 n1 = sp_te1 0 ex ++ (sp_te2 os s ++ (sp_te3 oe e ++ (sp_te1 5 n0 ++ sp_te1 5 n1))) := rfl
theorem sp_te1_n {k x : Int} (h : x = -1) : sp_te1 k x = [] := by unfold sp_te1; rw [if_pos h]
theorem sp_te1_y {k x : Int} (h : ¬ x = -1) : sp_te1 k x = [(k, x, -1)] := by unfold sp_te1; rw [if_neg h]
theorem sp_te2_n {os s : Int} (h : s = os) : sp_te2 os s = [] := by unfold sp_te2; rw [if_pos h]
theorem sp_te2_y {os s k m : Int} (h : ¬ s = os) (hk : (s = -1 ∧ k = 1) ∨ (¬ s = -1 ∧ k = 2)) (hm : (os = -1 ∧ m = s) ∨ (¬ os = -1 ∧ m = os)) : sp_te2 os s = [(k, m, s)] := by
  unfold sp_te2
  rw [if_neg h]
  rcases hk with ⟨a, b⟩ | ⟨a, b⟩ <;> rcases hm with ⟨c, d⟩ | ⟨c, d⟩
  · rw [if_pos a, if_pos c, b, d]
  · rw [if_pos a, if_neg c, b, d]
  · rw [if_neg a, if_pos c, b, d]
  · rw [if_neg a, if_neg c, b, d]
theorem sp_te3_n {oe e : Int} (h : e = oe) (h2 : ¬ oe = -1) : sp_te3 oe e = [] := by unfold sp_te3; rw [if_pos ⟨h, h2⟩]
theorem sp_te3_y {oe e k m : Int} (h : ¬ (e = oe ∧ ¬ oe = -1)) (hk : (e = -1 ∧ k = 4) ∨ (¬ e = -1 ∧ k = 3)) (hm : (oe = -1 ∧ m = e) ∨ (¬ oe = -1 ∧ m = oe)) : sp_te3 oe e = [(k, m, e)] := by
  unfold sp_te3
  rw [if_neg h]
  rcases hk with ⟨a, b⟩ | ⟨a, b⟩ <;> rcases hm with ⟨c, d⟩ | ⟨c, d⟩
  · rw [if_pos a, if_pos c, b, d]
  · rw [if_pos a, if_neg c, b, d]
  · rw [if_neg a, if_pos c, b, d]
  · rw [if_neg a, if_neg c, b, d]
/-- a piece more of the list told -/
theorem sp_pc_n {l P R T : List sp_C3} (h : l ++ (P ++ R) = T) (hP : P = []) : l ++ R = T := by rw [← h, hP, List.nil_append]
theorem sp_pc_y {l P R T : List sp_C3} {x : sp_C3} (h : l ++ (P ++ R) = T) (hP : P = [x]) : (l ++ [x]) ++ R = T := by rw [← h, hP, List.append_assoc]
theorem sp_pc_l {l P R T : List sp_C3} {x : sp_C3} (h : l ++ (P ++ R) = T) (hP : P = [x]) : l.length + 1 ≤ T.length := by
  rw [← h, hP]
  simp only [List.length_append, List.length_cons, List.length_nil]
  omega
/-! ===== WHAT A WAY IS ===== -/
def sp_yn (n : Nat) (n0 n1 cn kn : Int) : Prop := (n0 = -1 ∧ n1 = -1 ∧ cn = 0 ∧ kn = 0) ∨ (0 ≤ n0 ∧ n0 < n ∧ n1 = -1 ∧ cn = 2 ∧ kn = 1) ∨ (0 ≤ n0 ∧ n0 < n ∧ 0 ≤ n1 ∧ n1 < n ∧ cn = 4 ∧ kn = 2)
def sp_yee (n : Nat) (oe e ce ke : Int) : Prop := (e = oe ∧ ¬ oe = -1 ∧ ce = 0 ∧ ke = 0) ∨ (0 ≤ e ∧ e < n ∧ ¬ e = oe ∧ ce = 3 ∧ ke = 1) ∨ (e = -1 ∧ ce = 4 ∧ ke = 1)
def sp_yss (n : Nat) (os s c k : Int) : Prop := (s = os ∧ c = 0 ∧ k = 0) ∨ (s = -1 ∧ ¬ os = -1 ∧ c = 2 ∧ k = 1) ∨ (0 ≤ s ∧ s < n ∧ ¬ s = os ∧ c = 3 ∧ k = 1)
theorem sp_wy_is {ls : List sp_L} {c ch s e : Int} {y : sp_Y} (h : y ∈ sp_wy ls c ch s e) : y.2.2.1 = s ∧ y.2.2.2.1 = e ∧ sp_yn ls.length y.2.2.2.2.1 y.2.2.2.2.2 (y.1 - c) (y.2.1 - ch) := by
  unfold sp_wy at h
  rcases List.mem_cons.mp h with g | g
  · rw [g]; exact ⟨rfl, rfl, Or.inl ⟨rfl, rfl, by dsimp only; omega, by dsimp only; omega⟩⟩
  · obtain ⟨a, a1, a2, a3⟩ := (sp_fl_mem _ _).mp g
    unfold sp_wa at a3
    split at a3
    · cases a3
    · rcases List.mem_cons.mp a3 with g | g
      · rw [g]; exact ⟨rfl, rfl, Or.inr (Or.inl ⟨by dsimp only; omega, by dsimp only; omega, rfl, by dsimp only; omega, by dsimp only; omega⟩)⟩
      · obtain ⟨b, b1, b2, b3⟩ := (sp_fl_mem _ _).mp g
        unfold sp_wb at b3
        split at b3
        · rw [List.mem_singleton.mp b3]; exact ⟨rfl, rfl, Or.inr (Or.inr ⟨by dsimp only; omega, by dsimp only; omega, by dsimp only; omega, by dsimp only; omega, by dsimp only; omega, by dsimp only; omega⟩)⟩
        · cases b3
theorem sp_we_is {ls : List sp_L} {c ch s fit : Int} {y : sp_Y} (h : y ∈ sp_we ls c ch s fit) : y.2.2.1 = s ∧ ∃ ce ke, sp_yee ls.length fit y.2.2.2.1 ce ke ∧ sp_yn ls.length y.2.2.2.2.1 y.2.2.2.2.2 (y.1 - c - ce) (y.2.1 - ch - ke) := by
  unfold sp_we at h
  rcases List.mem_append.mp h with g | g
  · split at g
    · cases g
    · rename_i cf
      obtain ⟨h1, h2, h3⟩ := sp_wy_is g
      refine ⟨h1, 0, 0, Or.inl ⟨h2, cf, rfl, rfl⟩, ?_⟩
      rw [Int.sub_zero, Int.sub_zero]
      exact h3
  · split at g
    · cases g
    · rcases List.mem_append.mp g with g | g
      · obtain ⟨a, a1, a2, a3⟩ := (sp_fl_mem _ _).mp g
        unfold sp_wel at a3
        split at a3
        · rename_i ca
          obtain ⟨h1, h2, h3⟩ := sp_wy_is a3
          refine ⟨h1, 3, 1, Or.inr (Or.inl ⟨by omega, by omega, by omega, rfl, rfl⟩), ?_⟩
          rw [show y.1 - c - 3 = y.1 - (c + 3) by omega, show y.2.1 - ch - 1 = y.2.1 - (ch + 1) by omega]
          exact h3
        · cases a3
      · obtain ⟨h1, h2, h3⟩ := sp_wy_is g
        refine ⟨h1, 4, 1, Or.inr (Or.inr ⟨h2, rfl, rfl⟩), ?_⟩
        rw [show y.1 - c - 4 = y.1 - (c + 4) by omega, show y.2.1 - ch - 1 = y.2.1 - (ch + 1) by omega]
        exact h3
/-- a way of all: its stem, its ending, its sounds, and what they cost -/
def sp_yk (n : Nat) (q os oe : Int) (y : sp_Y) : Prop := ∃ c k ce ke cn kn, sp_yss n os y.2.2.1 c k ∧ sp_yee n oe y.2.2.2.1 ce ke ∧ sp_yn n y.2.2.2.2.1 y.2.2.2.2.2 cn kn ∧ y.1 = 2 * q + c + ce + cn ∧ y.2.1 = q + k + ke + kn
theorem sp_wx_is {ls : List sp_L} {q os oe : Int} {y : sp_Y} (h : y ∈ sp_wx ls q os oe) : sp_yk ls.length q os oe y := by
  unfold sp_wx at h
  rcases List.mem_append.mp h with g | g
  · obtain ⟨h1, ce, ke, h2, h3⟩ := sp_we_is g
    exact ⟨0, 0, ce, ke, _, _, Or.inl ⟨h1, rfl, rfl⟩, h2, h3, by omega, by omega⟩
  · rcases List.mem_append.mp g with g | g
    · split at g
      · cases g
      · rename_i cf
        obtain ⟨h1, ce, ke, h2, h3⟩ := sp_we_is g
        exact ⟨2, 1, ce, ke, _, _, Or.inr (Or.inl ⟨h1, cf, rfl, rfl⟩), h2, h3, by omega, by omega⟩
    · obtain ⟨a, a1, a2, a3⟩ := (sp_fl_mem _ _).mp g
      unfold sp_wxl at a3
      split at a3
      · rename_i ca
        obtain ⟨h1, ce, ke, h2, h3⟩ := sp_we_is a3
        exact ⟨3, 1, ce, ke, _, _, Or.inr (Or.inr ⟨by omega, by omega, by omega, rfl, rfl⟩), h2, h3, by omega, by omega⟩
      · cases a3
/-- the changes told are as many as are counted -/
theorem sp_yk.len {n : Nat} {q ex os oe : Int} {y : sp_Y} (h : sp_yk n q os oe y) (hq : (ex = -1 ∧ q = 0) ∨ (¬ ex = -1 ∧ q = 1)) : ((sp_tel ex os oe y.2.2.1 y.2.2.2.1 y.2.2.2.2.1 y.2.2.2.2.2).length : Int) = y.2.1 := by
  obtain ⟨c, k, ce, ke, cn, kn, h1, h2, h3, -, h5⟩ := h
  have l1 : ((sp_te1 0 ex).length : Int) = q := by
    rcases hq with ⟨a, b⟩ | ⟨a, b⟩
    · rw [sp_te1_n a, b] <;> rfl
    · rw [sp_te1_y a, b] <;> rfl
  have l2 : ((sp_te2 os y.2.2.1).length : Int) = k := by
    unfold sp_te2
    rcases h1 with ⟨a, -, b⟩ | ⟨a, d, -, b⟩ | ⟨a1, a2, a3, -, b⟩
    · rw [if_pos a, b] <;> rfl
    · rw [if_neg (by omega), b] <;> rfl
    · rw [if_neg a3, b] <;> rfl
  have l3 : ((sp_te3 oe y.2.2.2.1).length : Int) = ke := by
    unfold sp_te3
    rcases h2 with ⟨a, d, -, b⟩ | ⟨a1, a2, a3, -, b⟩ | ⟨a, -, b⟩
    · rw [if_pos ⟨a, d⟩, b] <;> rfl
    · rw [if_neg (by omega), b] <;> rfl
    · rw [if_neg (by omega), b] <;> rfl
  have l4 : ((sp_te1 5 y.2.2.2.2.1).length : Int) + ((sp_te1 5 y.2.2.2.2.2).length : Int) = kn := by
    rcases h3 with ⟨a, d, -, b⟩ | ⟨a1, a2, a3, -, b⟩ | ⟨a1, a2, a3, a4, -, b⟩
    · rw [sp_te1_n a, sp_te1_n d, b] <;> rfl
    · rw [sp_te1_y (by omega), sp_te1_n a3, b] <;> rfl
    · rw [sp_te1_y (by omega), sp_te1_y (by omega), b] <;> rfl
  rw [sp_tel_eq]
  simp only [List.length_append]
  omega
theorem sp_yk.rg {n : Nat} {q os oe : Int} {y : sp_Y} (h : sp_yk n q os oe y) (hq : 0 ≤ q ∧ q ≤ 1) (hs : -1 ≤ os ∧ os < n) (he : -1 ≤ oe ∧ oe < n) : (0 ≤ y.1 ∧ y.1 ≤ 20) ∧ (-1 ≤ y.2.2.1 ∧ y.2.2.1 < n) ∧ (-1 ≤ y.2.2.2.1 ∧ y.2.2.2.1 < n) ∧ (-1 ≤ y.2.2.2.2.1 ∧ (y.2.2.2.2.1 < n ∨ y.2.2.2.2.1 = -1)) ∧ (-1 ≤ y.2.2.2.2.2 ∧ (y.2.2.2.2.2 < n ∨ y.2.2.2.2.2 = -1)) := by
  obtain ⟨c, k, ce, ke, cn, kn, h1, h2, h3, h4, h5⟩ := h
  unfold sp_yss at h1
  unfold sp_yee at h2
  unfold sp_yn at h3
  omega
/-- what the search ends with: one of the ways, or what it began with -/
theorem sp_tr_mem {M : sp_Y → Prop} (L : List sp_Y) : ∀ s : sp_Y, sp_tr M s L = s ∨ (sp_tr M s L ∈ L ∧ M (sp_tr M s L)) := by
  induction L with
  | nil => intro s; exact Or.inl rfl
  | cons x L ih =>
    intro s
    rw [sp_tr_1]
    rcases ih (sp_t1 M s x) with g | ⟨g, m⟩
    · rw [g]
      by_cases c : M x ∧ sp_lt x s
      · rw [sp_t1_y c.1 c.2]; exact Or.inr ⟨List.mem_cons_self, c.1⟩
      · rw [sp_t1_n c]; exact Or.inl rfl
    · exact Or.inr ⟨List.mem_cons_of_mem _ g, m⟩
/-- the tape's word -/
def sp_tw (w : sp_W) : List Int := sp_seg w.1 0 w.2
theorem sp_tw_rp {w : sp_W} {z : Int32} {f : Nat → Int32} (h0 : 0 ≤ w.2) (hz : z.toInt = w.2) (h : ∀ k : Nat, (k : Int) < w.2 → (f k).toInt = w.1 (k : Int)) : sp_rp z f (sp_tw w) := by
  unfold sp_tw
  refine ⟨by rw [sp_seg_len]; omega, fun k x hk => ?_⟩
  have hk2 := (List.getElem?_eq_some_iff.mp hk).1
  rw [sp_seg_len] at hk2
  rw [sp_seg_at _ _ _ k hk2] at hk
  have hk : some (w.1 (0 + (k : Int))) = some x := hk
  rw [h k (by omega), ← Option.some.inj hk, Int.zero_add]
/-! the pieces as the class tells them -/
def sp_tk2 (os s : Int) : List sp_C3 := if s = -1 then [(1, os, -1)] else if s = -2 then [] else [(2, if os = -1 then s else os, s)]
def sp_tk3 (oe e : Int) : List sp_C3 := if e = 60 then [(4, oe, -1)] else if e = -2 then [] else [(3, if oe = -1 then e else oe, e)]
theorem sp_tec_eq (ex os oe s e n0 n1 : Int) : sp_tec ex os oe s e n0 n1 = sp_te1 0 ex ++ (sp_tk2 os s ++ (sp_tk3 oe e ++ (sp_te1 5 n0 ++ sp_te1 5 n1))) := rfl
theorem sp_tk2_o {os s : Int} (h : s = -2) : sp_tk2 os s = [] := by unfold sp_tk2; rw [if_neg (by omega), if_pos h]
theorem sp_tk2_n {os s k m t : Int} (h : s = -1) (hk : k = 1) (hm : t = -1 ∧ m = os) : sp_tk2 os s = [(k, m, t)] := by unfold sp_tk2; rw [if_pos h, hk, hm.1, hm.2]
theorem sp_tk2_y {os s k m t : Int} (h : ¬ s = -1 ∧ ¬ s = -2) (hk : k = 2) (ht : t = s) (hm : (os = -1 ∧ m = s) ∨ (¬ os = -1 ∧ m = os)) : sp_tk2 os s = [(k, m, t)] := by
  unfold sp_tk2
  rw [if_neg h.1, if_neg h.2, hk, ht]
  rcases hm with ⟨c, d⟩ | ⟨c, d⟩
  · rw [if_pos c, d]
  · rw [if_neg c, d]
theorem sp_tk3_o {oe e : Int} (h : e = -2) : sp_tk3 oe e = [] := by unfold sp_tk3; rw [if_neg (by omega), if_pos h]
theorem sp_tk3_n {oe e k m t : Int} (h : e = 60) (hk : k = 4) (hm : t = -1 ∧ m = oe) : sp_tk3 oe e = [(k, m, t)] := by unfold sp_tk3; rw [if_pos h, hk, hm.1, hm.2]
theorem sp_tk3_y {oe e k m t : Int} (h : ¬ e = 60 ∧ ¬ e = -2) (hk : k = 3) (ht : t = e) (hm : (oe = -1 ∧ m = e) ∨ (¬ oe = -1 ∧ m = oe)) : sp_tk3 oe e = [(k, m, t)] := by
  unfold sp_tk3
  rw [if_neg h.1, if_neg h.2, hk, ht]
  rcases hm with ⟨c, d⟩ | ⟨c, d⟩
  · rw [if_pos c, d]
  · rw [if_neg c, d]

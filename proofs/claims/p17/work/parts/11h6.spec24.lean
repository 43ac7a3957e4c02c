/-! ===== A WAY OF THE CLASS ===== -/
def sp_wc (ex s e n0 n1 : Int) : Int := (if ex = -1 then 0 else 2) + (if s = -2 then 0 else if s = -1 then 2 else 3) + (if e = -2 then 0 else if e = 60 then 4 else 3) + (if n0 = -1 then 0 else 2) + (if n1 = -1 then 0 else 2)
def sp_wk (ex s e n0 n1 : Int) : Int := (if ex = -1 then 0 else 1) + (if s = -2 then 0 else 1) + (if e = -2 then 0 else 1) + (if n0 = -1 then 0 else 1) + (if n1 = -1 then 0 else 1)
def sp_i2 (x k a : Int) (r : Int) : Prop := (x = k ∧ r = 0) ∨ (¬ x = k ∧ r = a)
def sp_i3 (x k a k2 a2 a3 : Int) (r : Int) : Prop := (x = k ∧ r = a) ∨ (¬ x = k ∧ x = k2 ∧ r = a2) ∨ (¬ x = k ∧ ¬ x = k2 ∧ r = a3)
theorem sp_i2.eq {x k a r : Int} (h : sp_i2 x k a r) : (if x = k then 0 else a) = r := by
  rcases h with ⟨h, e⟩ | ⟨h, e⟩
  · rw [if_pos h, e]
  · rw [if_neg h, e]
theorem sp_i3.eq {x k a k2 a2 a3 r : Int} (h : sp_i3 x k a k2 a2 a3 r) : (if x = k then a else if x = k2 then a2 else a3) = r := by
  rcases h with ⟨h, e⟩ | ⟨h, h2, e⟩ | ⟨h, h2, e⟩
  · rw [if_pos h, e]
  · rw [if_neg h, if_pos h2, e]
  · rw [if_neg h, if_neg h2, e]
theorem sp_wc_eq {ex s e n0 n1 a b c d f r : Int} (h1 : sp_i2 ex (-1) 2 a) (h2 : sp_i3 s (-2) 0 (-1) 2 3 b) (h3 : sp_i3 e (-2) 0 60 4 3 c) (h4 : sp_i2 n0 (-1) 2 d) (h5 : sp_i2 n1 (-1) 2 f) (h : r = a + b + c + d + f) : r = sp_wc ex s e n0 n1 := by
  unfold sp_wc
  rw [h1.eq, h2.eq, h3.eq, h4.eq, h5.eq, h]
theorem sp_wk_eq {ex s e n0 n1 a b c d f r : Int} (h1 : sp_i2 ex (-1) 1 a) (h2 : sp_i2 s (-2) 1 b) (h3 : sp_i2 e (-2) 1 c) (h4 : sp_i2 n0 (-1) 1 d) (h5 : sp_i2 n1 (-1) 1 f) (h : r = a + b + c + d + f) : r = sp_wk ex s e n0 n1 := by
  unfold sp_wk
  rw [h1.eq, h2.eq, h3.eq, h4.eq, h5.eq, h]
theorem sp_wc_rg (ex s e n0 n1 : Int) : 0 ≤ sp_wc ex s e n0 n1 ∧ sp_wc ex s e n0 n1 ≤ 13 := by
  unfold sp_wc
  repeat' split
  all_goals omega
theorem sp_wk_rg (ex s e n0 n1 : Int) : 0 ≤ sp_wk ex s e n0 n1 ∧ sp_wk ex s e n0 n1 ≤ 5 := by
  unfold sp_wk
  repeat' split
  all_goals omega
/-- without sounds, with one, with two -/
theorem sp_wc_n {ex s e n0 n1 : Int} : (¬ n0 = -1 → sp_wc ex s e n0 (-1) = sp_wc ex s e (-1) (-1) + 2) ∧ (¬ n0 = -1 → ¬ n1 = -1 → sp_wc ex s e n0 n1 = sp_wc ex s e (-1) (-1) + 4) ∧ (¬ n0 = -1 → sp_wk ex s e n0 (-1) = sp_wk ex s e (-1) (-1) + 1) ∧ (¬ n0 = -1 → ¬ n1 = -1 → sp_wk ex s e n0 n1 = sp_wk ex s e (-1) (-1) + 2) := by
  unfold sp_wc sp_wk
  refine ⟨fun h => ?_, fun h h2 => ?_, fun h => ?_, fun h h2 => ?_⟩
  all_goals (rw [if_neg h])
  all_goals (try rw [if_neg h2])
  all_goals (simp only [if_true]; omega)
/-- the way as the search knows it -/
def sp_yw (ex os oe s e n0 n1 : Int) : sp_Y := (sp_wc ex s e n0 n1, sp_wk ex s e n0 n1, sp_ys os s, sp_ye oe e, n0, n1)
def sp_vs (n : Nat) (os s : Int) : Prop := s = -2 ∨ (s = -1 ∧ ¬ os = -1) ∨ (0 ≤ s ∧ s < n ∧ ¬ s = os)
def sp_ve (n : Nat) (oe e : Int) : Prop := (e = -2 ∧ ¬ oe = -1) ∨ e = 60 ∨ (0 ≤ e ∧ e < n ∧ ¬ e = oe)
/-- what the class has found, and what the search has -/
def hx_BW (n : Nat) (fd ex os oe bx bo be bs bd b0 b1 : Int) (Y : sp_Y) : Prop := (fd = 0 ∧ Y.1 = 1000) ∨ (fd = 1 ∧ Y = sp_yw ex os oe bs bd b0 b1 ∧ bx = ex ∧ bo = os ∧ be = oe ∧ sp_vs n os bs ∧ sp_ve n oe bd ∧ (-1 ≤ b0 ∧ b0 < 60) ∧ (-1 ≤ b1 ∧ b1 < 60))
theorem sp_lt_w {x y : sp_Y} : sp_lt x y ↔ (x.1 < y.1 ∨ (x.1 = y.1 ∧ x.2.1 < y.2.1)) := Iff.rfl
/-- the block of a stem and an ending: nothing of it is better, if its first isn't -/
theorem sp_cw_no {M : sp_Y → Prop} {ls : List sp_L} {c ch s e : Int} {h : Nat → Prop} {o : Nat → Nat → Prop} {Y : sp_Y} (hM : ∀ y, M y → y.2.1 ≤ 2) (hn : ¬ (ch ≤ 2 ∧ (c < Y.1 ∨ (c = Y.1 ∧ ch < Y.2.1)))) : sp_tr M Y (sp_cw ls c ch s e h o) = Y := by
  have key : ∀ L : List sp_Y, (∀ x ∈ L, ¬ (M x ∧ sp_lt x Y)) → sp_tr M Y L = Y := by
    intro L
    induction L with
    | nil => intro _; rfl
    | cons x L ih =>
      intro hx
      rw [sp_tr_1, sp_t1_n (hx x List.mem_cons_self)]
      exact ih (fun y hy => hx y (List.mem_cons_of_mem _ hy))
  apply key
  intro x hx
  rintro ⟨m, l⟩
  have m2 := hM x m
  have hs : (x.1 = c ∧ x.2.1 = ch) ∨ (c < x.1 ∧ ch ≤ x.2.1) := by
    unfold sp_cw at hx
    rcases List.mem_cons.mp hx with g | g
    · rw [g]; exact Or.inl ⟨rfl, rfl⟩
    · obtain ⟨a, a1, a2, a3⟩ := (sp_fl_mem _ _).mp g
      unfold sp_ca at a3
      split at a3
      · rcases List.mem_cons.mp a3 with g | g
        · rw [g]; exact Or.inr ⟨by dsimp only; omega, by dsimp only; omega⟩
        · obtain ⟨b, b1, b2, b3⟩ := (sp_fl_mem _ _).mp g
          unfold sp_cb at b3
          split at b3
          · rw [List.mem_singleton.mp b3]; exact Or.inr ⟨by dsimp only; omega, by dsimp only; omega⟩
          · cases b3
      · cases a3
  unfold sp_lt at l
  omega
section SPC
variable {M : sp_Y → Prop} {ls : List sp_L} {c ch s e : Int} {h : Nat → Prop} {o : Nat → Nat → Prop} {T Y Y1 : sp_Y} {R : List sp_Y} {a b : Nat}
theorem sp_cw_in (h1 : Y1 = sp_t1 M Y (c, ch, s, e, -1, -1)) : sp_tr M Y1 (sp_fl (sp_ca ls c ch s e h o) 0 (ls.length - 0)) = sp_tr M Y (sp_cw ls c ch s e h o) := by rw [h1] <;> rfl
theorem sp_ca_skip (ha : a < ls.length) (hn : ¬ (h a ∧ ch < 2)) (ht : sp_tr M Y (sp_fl (sp_ca ls c ch s e h o) a (ls.length - a)) = T) : sp_tr M Y (sp_fl (sp_ca ls c ch s e h o) (a + 1) (ls.length - (a + 1))) = T := by
  have e0 : sp_ca ls c ch s e h o a = [] := by unfold sp_ca; rw [if_neg hn]
  rw [sp_fl_go ha, e0, List.nil_append] at ht
  exact ht
/-- no change is left: nothing comes any more -/
theorem sp_ca_all (hc : ¬ ch < 2) : ∀ d a, sp_fl (sp_ca ls c ch s e h o) a d = [] := by
  intro d
  induction d with
  | zero => intro a; rfl
  | succ d ih =>
    intro a
    have e0 : sp_ca ls c ch s e h o a = [] := by unfold sp_ca; rw [if_neg (fun g => hc g.2)]
    simp only [sp_fl]
    rw [e0, ih]
    rfl
theorem sp_cb_all {o1 : Nat → Prop} (hc : ¬ ch < 1) : ∀ d b, sp_fl (sp_cb c ch s e o1 a) b d = [] := by
  intro d
  induction d with
  | zero => intro a; rfl
  | succ d ih =>
    intro b
    have e0 : sp_cb c ch s e o1 a b = [] := by unfold sp_cb; rw [if_neg (fun g => hc g.2)]
    simp only [sp_fl]
    rw [e0, ih]
    rfl
theorem sp_ca_in (ha : a < ls.length) (hy : h a) (hc : ch < 2) (ht : sp_tr M Y (sp_fl (sp_ca ls c ch s e h o) a (ls.length - a)) = T) (h1 : Y1 = sp_t1 M Y (c + 2, ch + 1, s, e, (a : Int), -1)) : sp_tr M Y1 (sp_fl (sp_cb c ch s e (o a) a) (a + 1) (ls.length - (a + 1)) ++ sp_fl (sp_ca ls c ch s e h o) (a + 1) (ls.length - (a + 1))) = T := by
  have e0 : sp_ca ls c ch s e h o a = (c + 2, ch + 1, s, e, (a : Int), -1) :: sp_fl (sp_cb c ch s e (o a) a) (a + 1) (ls.length - (a + 1)) := by unfold sp_ca; rw [if_pos ⟨hy, hc⟩]
  rw [sp_fl_go ha, e0, List.cons_append] at ht
  rw [h1]
  exact ht
theorem sp_ca_out (ha : ls.length ≤ a) (ht : sp_tr M Y (sp_fl (sp_ca ls c ch s e h o) a (ls.length - a)) = T) : Y = T := by
  rw [sp_fl_out ha] at ht
  exact ht
theorem sp_ca_end (hc : ¬ ch < 2) (ht : sp_tr M Y (sp_fl (sp_ca ls c ch s e h o) a (ls.length - a)) = T) : Y = T := by
  rw [sp_ca_all hc] at ht
  exact ht
theorem sp_cb_skip {o1 : Nat → Prop} (hb : b < ls.length) (hn : ¬ (o1 b ∧ ch < 1)) (ht : sp_tr M Y (sp_fl (sp_cb c ch s e o1 a) b (ls.length - b) ++ R) = T) : sp_tr M Y (sp_fl (sp_cb c ch s e o1 a) (b + 1) (ls.length - (b + 1)) ++ R) = T := by
  have e0 : sp_cb c ch s e o1 a b = [] := by unfold sp_cb; rw [if_neg hn]
  rw [sp_fl_go hb, e0, List.nil_append] at ht
  exact ht
theorem sp_cb_in {o1 : Nat → Prop} (hb : b < ls.length) (hy : o1 b) (hc : ch < 1) (ht : sp_tr M Y (sp_fl (sp_cb c ch s e o1 a) b (ls.length - b) ++ R) = T) (h1 : Y1 = sp_t1 M Y (c + 4, ch + 2, s, e, (a : Int), (b : Int))) : sp_tr M Y1 (sp_fl (sp_cb c ch s e o1 a) (b + 1) (ls.length - (b + 1)) ++ R) = T := by
  have e0 : sp_cb c ch s e o1 a b = [(c + 4, ch + 2, s, e, (a : Int), (b : Int))] := by unfold sp_cb; rw [if_pos ⟨hy, hc⟩]
  rw [sp_fl_go hb, e0] at ht
  rw [h1]
  exact ht
theorem sp_cb_out {o1 : Nat → Prop} (hb : ls.length ≤ b ∨ ¬ ch < 1) (ht : sp_tr M Y (sp_fl (sp_cb c ch s e o1 a) b (ls.length - b) ++ R) = T) : sp_tr M Y R = T := by
  have e0 : sp_fl (sp_cb c ch s e o1 a) b (ls.length - b) = [] := by
    rcases hb with g | g
    · exact sp_fl_out g
    · exact sp_cb_all g _ _
  rw [e0, List.nil_append] at ht
  exact ht
end SPC
/-- the search over a stretch of stems or endings -/
theorem sp_fz_in {M : sp_Y → Prop} {f : Int → List sp_Y} {T Y Y1 : sp_Y} {i n : Int} {R : List sp_Y} (hi : i < n) (ht : sp_tr M Y (sp_fz f i (n - i).toNat ++ R) = T) (h1 : Y1 = sp_tr M Y (f i)) : sp_tr M Y1 (sp_fz f (i + 1) (n - (i + 1)).toNat ++ R) = T := by
  rw [sp_fz_go hi, List.append_assoc, sp_tr_app] at ht
  rw [h1]
  exact ht
theorem sp_fz_end {M : sp_Y → Prop} {f : Int → List sp_Y} {T Y : sp_Y} {i n : Int} {R : List sp_Y} (hi : n ≤ i) (ht : sp_tr M Y (sp_fz f i (n - i).toNat ++ R) = T) : sp_tr M Y R = T := by
  rw [sp_fz_out hi, List.nil_append] at ht
  exact ht
theorem sp_yw_0 {ex os oe s e n0 n1 : Int} (h0 : n0 = -1) (h1 : n1 = -1) : sp_yw ex os oe s e n0 n1 = (sp_wc ex s e (-1) (-1), sp_wk ex s e (-1) (-1), sp_ys os s, sp_ye oe e, -1, -1) := by rw [h0, h1] <;> rfl
theorem sp_yw_1 {ex os oe s e n0 n1 m : Int} (h0 : ¬ n0 = -1) (h1 : n1 = -1) (hm : n0 = m) : sp_yw ex os oe s e n0 n1 = (sp_wc ex s e (-1) (-1) + 2, sp_wk ex s e (-1) (-1) + 1, sp_ys os s, sp_ye oe e, m, -1) := by
  subst h1
  subst hm
  unfold sp_yw
  rw [(sp_wc_n (ex := ex) (s := s) (e := e) (n0 := n0) (n1 := n0)).1 h0, (sp_wc_n (ex := ex) (s := s) (e := e) (n0 := n0) (n1 := n0)).2.2.1 h0]
theorem sp_yw_2 {ex os oe s e n0 n1 m m1 : Int} (h0 : ¬ n0 = -1) (h1 : ¬ n1 = -1) (hm : n0 = m) (hm1 : n1 = m1) : sp_yw ex os oe s e n0 n1 = (sp_wc ex s e (-1) (-1) + 4, sp_wk ex s e (-1) (-1) + 2, sp_ys os s, sp_ye oe e, m, m1) := by
  subst hm
  subst hm1
  unfold sp_yw
  rw [(sp_wc_n (ex := ex) (s := s) (e := e) (n0 := n0) (n1 := n1)).2.1 h0 h1, (sp_wc_n (ex := ex) (s := s) (e := e) (n0 := n0) (n1 := n1)).2.2.2 h0 h1]
theorem hx_BW.fd {n : Nat} {fd ex os oe bx bo be bs bd b0 b1 : Int} {Y : sp_Y} (h : hx_BW n fd ex os oe bx bo be bs bd b0 b1 Y) : 0 ≤ fd ∧ fd ≤ 1 := by
  rcases h with ⟨h, -⟩ | ⟨h, -⟩ <;> omega

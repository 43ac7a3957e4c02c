/-! ===== THE CLASS'S SEARCH ENDS; WHAT answer() TELLS ===== -/
theorem sp_fz_op {M : sp_Y → Prop} {f : Int → List sp_Y} {T Y : sp_Y} {i n : Int} {R : List sp_Y} (hi : i < n) (ht : sp_tr M Y (sp_fz f i (n - i).toNat ++ R) = T) : sp_tr M Y (f i ++ (sp_fz f (i + 1) (n - (i + 1)).toNat ++ R)) = T := by
  rw [sp_fz_go hi, List.append_assoc] at ht
  exact ht
theorem sp_tr_st {M : sp_Y → Prop} (L : List sp_Y) : ∀ s s' : sp_Y, s.1 = s'.1 → s.2.1 = s'.2.1 → (sp_tr M s L = s ∧ sp_tr M s' L = s') ∨ sp_tr M s L = sp_tr M s' L := by
  induction L with
  | nil => intro s s' h1 h2; exact Or.inl ⟨rfl, rfl⟩
  | cons x L ih =>
    intro s s' h1 h2
    have e : sp_lt x s ↔ sp_lt x s' := by unfold sp_lt; rw [h1, h2]
    rw [sp_tr_1, sp_tr_1]
    by_cases c : M x ∧ sp_lt x s
    · rw [sp_t1_y c.1 c.2, sp_t1_y c.1 (e.mp c.2)]
      exact Or.inr rfl
    · rw [sp_t1_n c, sp_t1_n (fun g => c ⟨g.1, e.mpr g.2⟩)]
      exact ih s s' h1 h2
theorem sp_tr_0s {M : sp_Y → Prop} {L : List sp_Y} {s s' : sp_Y} (h1 : s.1 = 1000) (h1' : s'.1 = 1000) (h2 : s.2.1 = s'.2.1) : ((sp_tr M s L).1 = 1000 ∧ (sp_tr M s' L).1 = 1000) ∨ sp_tr M s L = sp_tr M s' L := by
  rcases sp_tr_st (M := M) L s s' (h1.trans h1'.symm) h2 with ⟨g1, g2⟩ | g
  · rw [g1, g2]; exact Or.inl ⟨h1, h1'⟩
  · exact Or.inr g
/-- a word where the stem doesn't stand is as without it -/
theorem sp_U_no {w : sp_W} {b : sp_B} {nm : List Int} (i : Nat) (e : Int) (h : ¬ ∀ x, b.2.2.2[i]? = some x → ¬ sp_lp (sp_F w x) nm = -1) (hi : i < b.2.2.2.length) : sp_U w b nm i e = sp_U w b nm (-1) e := by
  obtain ⟨x, hx⟩ : ∃ x, b.2.2.2[i]? = some x := ⟨_, List.getElem?_eq_getElem hi⟩
  have h1 : sp_lp (sp_F w x) nm = -1 := Classical.byContradiction (fun g => h (fun y hy => by cases hx.symm.trans hy; exact g))
  unfold sp_U
  rw [sp_stm_no hx h1]
/-- what the search ends with, as it is told -/
theorem sp_xfin {w : sp_W} {ls : List sp_L} {U : Int → Int → List Int} {ask : List Int} {st : Nat → Prop} {q ex os oe fd bx bo be bs bd b0 b1 : Int} {Y0 : sp_Y} (hu : ∀ s e, (U s e).length ≤ 30) (hst : ∀ (i : Nat) (e : Int), ¬ st i → i < ls.length → U i e = U (-1) e) (hq : (ex = -1 ∧ q = 0) ∨ (¬ ex = -1 ∧ q = 1)) (hY : Y0.1 = 1000) (hl : ls.length ≤ 60) (ho : oe < 60) (hfd : fd = 1) (h : hx_BW ls.length fd ex os oe bx bo be bs bd b0 b1 (sp_tr (sp_M w ls U ask) Y0 (sp_cx ls w U st q os oe))) : ¬ (sp_tr (sp_M w ls U ask) Y0 (sp_wx ls q os oe)).1 = 1000 ∧ sp_tec bx bo be bs bd b0 b1 = sp_tel ex os oe (sp_tr (sp_M w ls U ask) Y0 (sp_wx ls q os oe)).2.2.1 (sp_tr (sp_M w ls U ask) Y0 (sp_wx ls q os oe)).2.2.2.1 (sp_tr (sp_M w ls U ask) Y0 (sp_wx ls q os oe)).2.2.2.2.1 (sp_tr (sp_M w ls U ask) Y0 (sp_wx ls q os oe)).2.2.2.2.2 ∧ (sp_tec bx bo be bs bd b0 b1).length ≤ 2 ∧ (bx = ex ∧ bo = os ∧ be = oe) ∧ (-2 ≤ bs ∧ bs < 60) ∧ (-2 ≤ bd ∧ bd ≤ 60) ∧ (-1 ≤ b0 ∧ b0 < 60) ∧ (-1 ≤ b1 ∧ b1 < 60) := by
  rw [← sp_same hu hst] at h
  obtain ⟨T, hT⟩ : ∃ T, T = sp_tr (sp_M w ls U ask) Y0 (sp_wx ls q os oe) := ⟨_, rfl⟩
  rw [← hT] at h ⊢
  rcases h with ⟨h, -⟩ | ⟨-, h2, h3, h4, h5, h6, h7, h8, h9⟩
  · omega
  have hc := sp_wc_rg ex bs bd b0 b1
  have e1 : T.1 = sp_wc ex bs bd b0 b1 := by rw [h2] <;> rfl
  have n1 : ¬ T.1 = 1000 := by omega
  have e2 : sp_tec bx bo be bs bd b0 b1 = sp_tel ex os oe T.2.2.1 T.2.2.2.1 T.2.2.2.2.1 T.2.2.2.2.2 := by
    rw [h3, h4, h5, sp_tec_tel (by rcases h6 with g | g | g; exact Or.inl g; exact Or.inr (Or.inl g); exact Or.inr (Or.inr ⟨g.1, g.2.2⟩)) (by rcases h7 with g | g | g; exact Or.inl g; exact Or.inr (Or.inl g); exact Or.inr (Or.inr ⟨g.1, g.2.2⟩)) ho, h2]
    rfl
  have e3 : (sp_tec bx bo be bs bd b0 b1).length ≤ 2 := by
    rw [e2]
    rcases sp_tr_mem (M := sp_M w ls U ask) (sp_wx ls q os oe) Y0 with g | ⟨g, m⟩
    · rw [← hT] at g; rw [g] at n1; exact absurd hY n1
    · rw [← hT] at g m
      have l1 := (sp_wx_is g).len hq
      have l2 := m.1
      omega
  exact ⟨n1, e2, e3, ⟨h3, h4, h5⟩, by unfold sp_vs at h6; omega, by unfold sp_ve at h7; omega, h8, h9⟩
theorem sp_xno {w : sp_W} {ls : List sp_L} {U : Int → Int → List Int} {ask : List Int} {st : Nat → Prop} {q ex os oe fd bx bo be bs bd b0 b1 : Int} {Y0 : sp_Y} (hu : ∀ s e, (U s e).length ≤ 30) (hst : ∀ (i : Nat) (e : Int), ¬ st i → i < ls.length → U i e = U (-1) e) (hfd : fd = 0) (h : hx_BW ls.length fd ex os oe bx bo be bs bd b0 b1 (sp_tr (sp_M w ls U ask) Y0 (sp_cx ls w U st q os oe))) : (sp_tr (sp_M w ls U ask) Y0 (sp_wx ls q os oe)).1 = 1000 := by
  rw [← sp_same hu hst] at h
  rcases h with ⟨-, h⟩ | ⟨h, -⟩
  · exact h
  · omega
/-! the answer, purely -/
noncomputable def sp_c9 (b : sp_B) (v : Int) : Int := b.2.2.1.getD v.toNat 0
noncomputable def sp_nfv (b : sp_B) (k v te pe : Int) : Int := sp_nf k v (sp_c9 b v) te pe b.2.2.2 0
noncomputable def sp_nmv (w : sp_W) (b : sp_B) (v : Int) : List Int := sp_nm w (b.2.1.getD v.toNat 0)
noncomputable def sp_qv (b : sp_B) (v te pe : Int) : Int := if sp_nfv b 4 v te pe = -1 then 0 else 1
theorem sp_qv_is (b : sp_B) (v te pe : Int) : (sp_nfv b 4 v te pe = -1 ∧ sp_qv b v te pe = 0) ∨ (¬ sp_nfv b 4 v te pe = -1 ∧ sp_qv b v te pe = 1) := by
  unfold sp_qv
  by_cases c : sp_nfv b 4 v te pe = -1
  · rw [if_pos c]; exact Or.inl ⟨c, rfl⟩
  · rw [if_neg c]; exact Or.inr ⟨c, rfl⟩
noncomputable def sp_TR (w : sp_W) (b : sp_B) (ask : List Int) (v te pe : Int) : sp_Y := sp_tr (sp_M w b.2.2.2 (sp_U w b (sp_nmv w b v)) ask) (1000, 9, 0, 0, 0, 0) (sp_wx b.2.2.2 (sp_qv b v te pe) (sp_nfv b 0 v te pe) (sp_nfv b 1 v te pe))
noncomputable def sp_TL (w : sp_W) (b : sp_B) (ask : List Int) (v te pe : Int) : List sp_C3 := sp_tel (sp_nfv b 4 v te pe) (sp_nfv b 0 v te pe) (sp_nfv b 1 v te pe) (sp_TR w b ask v te pe).2.2.1 (sp_TR w b ask v te pe).2.2.2.1 (sp_TR w b ask v te pe).2.2.2.2.1 (sp_TR w b ask v te pe).2.2.2.2.2
def sp_FMv (w : sp_W) (b : sp_B) (v te pe : Int) (L : List (List Int)) : Prop := sp_FM (sp_nfv b 5 v te pe) (sp_nfv b 1 v te pe) (sp_ex w v (sp_c9 b v) te pe b.2.2.2 2) (sp_sa w (-1) (-1) b.2.2.2 0 (sp_U w b (sp_nmv w b v) (sp_nfv b 0 v te pe) (sp_nfv b 1 v te pe))) L
def sp_pl (b : sp_B) (l v te pe : Int) : Prop := (0 ≤ l ∧ l < 8) ∧ (0 ≤ v ∧ v < (b.2.1.length : Int)) ∧ (0 ≤ te ∧ te < 5) ∧ (0 ≤ pe ∧ pe < 6)
def sp_Z (w : sp_W) (b : sp_B) (ask : List Int) (l v te pe : Int) : Prop := sp_pl b l v te pe ∧ sp_nfv b 3 v te pe = -1 ∧ (∃ L, sp_FMv w b v te pe L ∧ ¬ L = [] ∧ ¬ ask ∈ L) ∧ ¬ (sp_TR w b ask v te pe).1 = 1000
/-- a list of forms that is empty, or has it: no slip -/
theorem sp_Z.no {w : sp_W} {b : sp_B} {ask : List Int} {l v te pe : Int} {L : List (List Int)} (hL : sp_FMv w b v te pe L) (h : L = [] ∨ ask ∈ L) : ¬ sp_Z w b ask l v te pe := by
  rintro ⟨-, -, ⟨L2, h1, h2, h3⟩, -⟩
  have e := sp_FM.uq hL h1
  subst e
  rcases h with h | h
  · exact h2 h
  · exact h3 h
theorem sp_TR_len {w : sp_W} {b : sp_B} {ask : List Int} {v te pe : Int} (h : ¬ (sp_TR w b ask v te pe).1 = 1000) : sp_yk b.2.2.2.length (sp_qv b v te pe) (sp_nfv b 0 v te pe) (sp_nfv b 1 v te pe) (sp_TR w b ask v te pe) ∧ sp_M w b.2.2.2 (sp_U w b (sp_nmv w b v)) ask (sp_TR w b ask v te pe) ∧ ((sp_TL w b ask v te pe).length : Int) = (sp_TR w b ask v te pe).2.1 := by
  rcases sp_tr_mem (M := sp_M w b.2.2.2 (sp_U w b (sp_nmv w b v)) ask) (sp_wx b.2.2.2 (sp_qv b v te pe) (sp_nfv b 0 v te pe) (sp_nfv b 1 v te pe)) (1000, 9, 0, 0, 0, 0) with g | ⟨g, m⟩
  · exact absurd (show (sp_TR w b ask v te pe).1 = 1000 by unfold sp_TR; rw [g]) h
  · exact ⟨sp_wx_is g, m, (sp_wx_is g).len (sp_qv_is b v te pe)⟩
theorem sp_TL_le {w : sp_W} {b : sp_B} {ask : List Int} {v te pe : Int} (h : ¬ (sp_TR w b ask v te pe).1 = 1000) : (sp_TL w b ask v te pe).length ≤ 2 := by
  obtain ⟨-, m, e⟩ := sp_TR_len h
  have m1 := m.1
  omega
/-- a slip's explanation has a change -/
theorem sp_Z.pos {w : sp_W} {b : sp_B} {ask : List Int} {l v te pe : Int} (h : sp_Z w b ask l v te pe) : 1 ≤ (sp_TL w b ask v te pe).length := by
  obtain ⟨-, -, ⟨L, hL, h2, h3⟩, h4⟩ := h
  obtain ⟨k, m, e⟩ := sp_TR_len h4
  rcases Nat.lt_or_ge 0 (sp_TL w b ask v te pe).length with c | c
  · exact c
  exfalso
  have e0 : (sp_TR w b ask v te pe).2.1 = 0 := by omega
  obtain ⟨c1, k1, ce, ke, cn, kn, y1, y2, y3, y4, y5⟩ := k
  have hq := sp_qv_is b v te pe
  have z1 : sp_nfv b 4 v te pe = -1 := by unfold sp_yss at y1; unfold sp_yee at y2; unfold sp_yn at y3; omega
  have z2 : (sp_TR w b ask v te pe).2.2.1 = sp_nfv b 0 v te pe := by unfold sp_yss at y1; unfold sp_yee at y2; unfold sp_yn at y3; omega
  have z3 : (sp_TR w b ask v te pe).2.2.2.1 = sp_nfv b 1 v te pe ∧ ¬ sp_nfv b 1 v te pe = -1 := by unfold sp_yss at y1; unfold sp_yee at y2; unfold sp_yn at y3; omega
  have z4 : (sp_TR w b ask v te pe).2.2.2.2.1 = -1 ∧ (sp_TR w b ask v te pe).2.2.2.2.2 = -1 := by unfold sp_yss at y1; unfold sp_yee at y2; unfold sp_yn at y3; omega
  obtain ⟨-, m2, m3⟩ := m
  rw [z2, z3.1, z4.1, z4.2] at m2
  have hE : sp_ex w v (sp_c9 b v) te pe b.2.2.2 2 = [] := (sp_ex_nf (w := w) (v := v) (c := sp_c9 b v) (t := te) (p := pe) (ls := b.2.2.2) (k := 2) (b.2.2.2.length - 0) 0 rfl).1 z1
  rcases hL with ⟨a, g⟩ | ⟨a, c, g⟩ | ⟨a, c, d, g⟩ | ⟨a, c, d, u, f, f2, g⟩ | ⟨a, c, d, f, g⟩
  · exact h2 g
  · exact c hE
  · exact z3.2 d
  · have e9 : u = ask := Option.some.inj (f.symm.trans m2)
    apply h3
    rw [g, e9]
    exact List.mem_singleton.mpr rfl
  · have := f ask m2
    omega
/-! what change() answers -/
def sp_cha (T : List sp_C3) (k : Int) : Int := if k = 0 then (if T = [] then -9 else (T.length : Int)) else if 10 ≤ k ∧ k < 10 + (T.length : Int) then (T.getD (k - 10).toNat (0, 0, 0)).1 else if 20 ≤ k ∧ k < 20 + (T.length : Int) then (T.getD (k - 20).toNat (0, 0, 0)).2.1 else if 30 ≤ k ∧ k < 30 + (T.length : Int) then (T.getD (k - 30).toNat (0, 0, 0)).2.2 else -9
section SPCH
variable {T : List sp_C3} {k : Int} {t : sp_C3}
theorem sp_cha_0 (h : k = 0) (h2 : 1 ≤ T.length) : sp_cha T k = (T.length : Int) := by
  unfold sp_cha
  rw [if_pos h, if_neg (fun g => by rw [g] at h2; exact absurd h2 (by decide))]
theorem sp_cha_1 (h : 10 ≤ k ∧ k < 10 + (T.length : Int)) (ht : T[(k - 10).toNat]? = some t) : sp_cha T k = t.1 := by
  unfold sp_cha
  rw [if_neg (by omega), if_pos h, sp_getD ht]
theorem sp_cha_2 (hl : T.length ≤ 10) (h : 20 ≤ k ∧ k < 20 + (T.length : Int)) (ht : T[(k - 20).toNat]? = some t) : sp_cha T k = t.2.1 := by
  unfold sp_cha
  rw [if_neg (by omega), if_neg (by omega), if_pos h, sp_getD ht]
theorem sp_cha_3 (hl : T.length ≤ 10) (h : 30 ≤ k ∧ k < 30 + (T.length : Int)) (ht : T[(k - 30).toNat]? = some t) : sp_cha T k = t.2.2 := by
  unfold sp_cha
  rw [if_neg (by omega), if_neg (by omega), if_neg (by omega), if_pos h, sp_getD ht]
theorem sp_cha_n (h0 : k = 0 → T.length = 0) (h1 : ¬ (10 ≤ k ∧ k < 10 + (T.length : Int))) (h2 : ¬ (20 ≤ k ∧ k < 20 + (T.length : Int))) (h3 : ¬ (30 ≤ k ∧ k < 30 + (T.length : Int))) : sp_cha T k = -9 := by
  unfold sp_cha
  by_cases c : k = 0
  · rw [if_pos c, if_pos (List.eq_nil_of_length_eq_zero (h0 c))]
  · rw [if_neg c, if_neg h1, if_neg h2, if_neg h3]
end SPCH
theorem sp_cha_nil (k : Int) : sp_cha [] k = -9 := sp_cha_n (fun _ => rfl) (by rw [show ((([] : List sp_C3).length : Nat) : Int) = 0 from rfl]; omega) (by rw [show ((([] : List sp_C3).length : Nat) : Int) = 0 from rfl]; omega) (by rw [show ((([] : List sp_C3).length : Nat) : Int) = 0 from rfl]; omega)
theorem sp_hl.nth {n : Int32} {f1 f2 f3 : Nat → Int32} {T : List sp_C3} (h : sp_hl n f1 f2 f3 T) {i : Nat} (hi : i < T.length) : T[i]? = some ((f1 i).toInt, (f2 i).toInt, (f3 i).toInt) := by
  obtain ⟨t, ht⟩ : ∃ t, T[i]? = some t := ⟨_, List.getElem?_eq_getElem hi⟩
  obtain ⟨h1, h2, h3⟩ := h.2 i t ht
  rw [h1, h2, h3]
  exact ht
/-! addresses of the class's small cells and of a book are never the same -/
section HQNK
variable {kb qt x i j c : Nat}
theorem hq_nk (h : kb + 61 < qt) (hx : qt + j ≤ x) (hi : i ≤ 61) : x ≠ kb + i := by omega
theorem hq_nkj (h : kb + 61 < qt) (hi : i ≤ 61) : qt + j ≠ kb + i := by omega
theorem hq_nk0 (h : kb + 61 < qt) (hi : i ≤ 61) : qt ≠ kb + i := by omega
theorem hq_nc (h : kb + 61 < qt) (hx : qt + j ≤ x) (hc : c = kb + 44) : x ≠ c := by omega
theorem hq_ncj (h : kb + 61 < qt) (hc : c = kb + 44) : qt + j ≠ c := by omega
theorem hq_nc0 (h : kb + 61 < qt) (hc : c = kb + 44) : qt ≠ c := by omega
theorem hq_nc1 (h : kb + 61 < qt) (hx : qt + j ≤ x) (hc : c = kb + 44) : x ≠ c + 1 := by omega
theorem hq_nc1j (h : kb + 61 < qt) (hc : c = kb + 44) : qt + j ≠ c + 1 := by omega
theorem hq_nc10 (h : kb + 61 < qt) (hc : c = kb + 44) : qt ≠ c + 1 := by omega
end HQNK

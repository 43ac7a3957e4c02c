/-! ===== BYTES AND SIZES OF A BOOK'S WORDS ===== -/
theorem sp_take_s : ∀ {l : List Int} {n : Nat} {x : Int}, l[n]? = some x → l.take (n + 1) = l.take n ++ [x] := by
  intro l
  induction l with
  | nil => intro n x h; simp at h
  | cons y l ih =>
    intro n x h
    cases n with
    | zero => simp at h; subst h; rfl
    | succ n => simp only [List.take_succ_cons, List.cons_append]; rw [ih (by simpa using h)]
theorem sp_lw_b8 {w : sp_W} (h : sp_okc w) (z : Int) (j : Nat) : sp_b8 (sp_lw w z j) := by
  intro k x hk
  have hk2 := (List.getElem?_eq_some_iff.mp hk).1
  unfold sp_lw at hk hk2
  rw [sp_seg_len] at hk2
  rw [sp_seg_at _ _ _ k hk2] at hk
  rw [← Option.some.inj hk]
  exact h _
theorem sp_nm_b8 {w : sp_W} (h : sp_okc w) (j : Nat) : sp_b8 (sp_nm w j) := by
  intro k x hk
  have hk2 := (List.getElem?_eq_some_iff.mp hk).1
  unfold sp_nm at hk hk2
  rw [sp_seg_len] at hk2
  rw [sp_seg_at _ _ _ k hk2] at hk
  rw [← Option.some.inj hk]
  exact h _
/-- a byte more behind a word -/
theorem sp_rp.snoc {z z1 v : Int32} {f : Nat → Int32} {u : List Int} {x : Int} (h : sp_rp z f u) (hz : z1.toInt = z.toInt + 1) (hv : v.toInt = x) (h8 : -128 ≤ x ∧ x ≤ 127) : sp_rp z1 (upd f z.toNatClampNeg ((v : Int32).toInt8.toInt32)) (u ++ [x]) := by
  have e0 := h.1
  have hn : z.toNatClampNeg = u.length := by
    have := (hq_nn (z := z) (by omega)).1
    omega
  refine ⟨by rw [List.length_append]; simp only [List.length_cons, List.length_nil]; omega, fun k y hk => ?_⟩
  by_cases c : k < u.length
  · rw [List.getElem?_append_left c] at hk
    rw [hm_un (by omega)]
    exact h.2 k y hk
  · have hk2 := (List.getElem?_eq_some_iff.mp hk).1
    rw [List.length_append] at hk2
    simp only [List.length_cons, List.length_nil] at hk2
    have hk3 : k = u.length := by omega
    subst hk3
    rw [List.getElem?_append_right (Nat.le_refl _), Nat.sub_self] at hk
    have hk : some x = some y := hk
    cases hk
    rw [← hn, hm_ue, hx_n8 (by omega)]
    exact hv
/-- lines' letters are eight at most -/
def sp_g8 (w : sp_W) (b : sp_B) : Prop := ∀ (i : Nat) (x : sp_L), b.2.2.2[i]? = some x → (sp_F w x).length ≤ 8 ∧ (sp_S2 w x).length ≤ 8
theorem hm_BK.g8 {rh : hm_Rh} {d : Nat} {w : sp_W} {b : sp_B} (h : hm_BK rh d w b) : sp_g8 w b := by
  intro i x hx
  obtain ⟨-, -, -, -, -, h6, h7⟩ := h.2.2.2.2.2.2 i x hx
  exact ⟨h6.ft.2.1, h7.ft.2.1⟩
theorem sp_nm_len {w : sp_W} {t : Nat} (h : 0 ≤ sp_e w t - sp_s w t) : ((sp_nm w t).length : Int) = sp_e w t - sp_s w t := by
  unfold sp_nm
  rw [sp_seg_len]
  omega
noncomputable def sp_U (w : sp_W) (b : sp_B) (nm : List Int) (s e : Int) : List Int := sp_end w b (sp_stm w b nm s) e
/-- six numbers: the best way up to now -/
def sp_y6 (a b c d e f : Int32) : sp_Y := (a.toInt, b.toInt, c.toInt, d.toInt, e.toInt, f.toInt)
theorem sp_y6_1 (a b c d e f : Int32) : (sp_y6 a b c d e f).1 = a.toInt ∧ (sp_y6 a b c d e f).2.1 = b.toInt := ⟨rfl, rfl⟩
section SPT
variable {M : sp_Y → Prop} {bc bg bs be b0 b1 co cg st ed n0 n1 : Int32}
theorem sp_t1_lt (h : ¬ (co.toInt < bc.toInt ∨ (co.toInt = bc.toInt ∧ cg.toInt < bg.toInt))) : sp_t1 M (sp_y6 bc bg bs be b0 b1) (sp_y6 co cg st ed n0 n1) = sp_y6 bc bg bs be b0 b1 := sp_t1_n (fun g => h g.2)
theorem sp_t1_m (h : ¬ M (sp_y6 co cg st ed n0 n1)) : sp_t1 M (sp_y6 bc bg bs be b0 b1) (sp_y6 co cg st ed n0 n1) = sp_y6 bc bg bs be b0 b1 := sp_t1_n (fun g => h g.1)
theorem sp_t1_k (h : M (sp_y6 co cg st ed n0 n1)) (h2 : co.toInt < bc.toInt ∨ (co.toInt = bc.toInt ∧ cg.toInt < bg.toInt)) : sp_t1 M (sp_y6 bc bg bs be b0 b1) (sp_y6 co cg st ed n0 n1) = sp_y6 co cg st ed n0 n1 := sp_t1_y h h2
end SPT
theorem sp_tr_1 (M : sp_Y → Prop) (s x : sp_Y) (L : List sp_Y) : sp_tr M s (x :: L) = sp_tr M (sp_t1 M s x) L := rfl
theorem sp_tr_0 (M : sp_Y → Prop) (s : sp_Y) : sp_tr M s [] = s := rfl
theorem sp_U_b8 {w : sp_W} {b : sp_B} (h : sp_okc w) (t : Nat) (s e : Int) : sp_b8 (sp_U w b (sp_nm w t) s e) := by
  have hn := sp_nm_b8 h t
  have hs : sp_b8 (sp_stm w b (sp_nm w t) s) := by
    unfold sp_stm
    split
    · exact hn
    · split
      · exact hn
      · exact sp_cg_b8 hn (sp_lw_b8 h _ _)
  unfold sp_U sp_end
  split
  · exact hs
  · exact hs.app (sp_lw_b8 h _ _)

/-! ===== A SOUND, PURELY ===== -/
theorem sp_pf_app {f u : List Int} (h : sp_pf f u = true) : u = f ++ u.drop f.length := by
  obtain ⟨h1, h2⟩ := (sp_pf_iff f u).mp h
  apply List.ext_getElem?
  intro k
  by_cases c : k < f.length
  · rw [List.getElem?_append_left c]
    obtain ⟨x, hx⟩ : ∃ x, f[k]? = some x := ⟨_, List.getElem?_eq_getElem c⟩
    rw [hx, h2 k x hx]
  · rw [List.getElem?_append_right (by omega), List.getElem?_drop, show f.length + (k - f.length) = k by omega]
theorem sp_snd_self {f : List Int} (hf : 0 < f.length) : ∀ (u : List Int) (k : Nat), sp_snd f f u k = u.drop k := by
  intro u
  induction u with
  | nil => intro k; simp [sp_snd]
  | cons x u ih =>
    intro k
    cases k with
    | succ k => simp only [sp_snd, List.drop_succ_cons]; exact ih k
    | zero =>
      simp only [sp_snd]
      split
      · rename_i c
        rw [ih (f.length - 1)]
        have h1 := sp_pf_app c
        rw [show f.length = (f.length - 1) + 1 by omega, List.drop_succ_cons] at h1
        exact h1.symm
      · rw [ih 0]; rfl
theorem sp_fp_end {f u : List Int} (hf : 0 < f.length) (h : f.length ≤ u.length) : sp_fp f (u.drop (u.length - f.length)) ((u.length - f.length : Nat) : Int) = ((u.length - f.length : Nat) : Int) ∧ sp_pf f (u.drop (u.length - f.length)) = true ∨ sp_fp f (u.drop (u.length - f.length)) ((u.length - f.length : Nat) : Int) = -1 ∧ ¬ sp_pf f (u.drop (u.length - f.length)) = true := by
  by_cases c : sp_pf f (u.drop (u.length - f.length)) = true
  · exact Or.inl ⟨sp_fp_y c, c⟩
  · refine Or.inr ⟨?_, c⟩
    rw [sp_fp_n (by omega) c]
    exact sp_fp_o f _ _ (by rw [List.length_drop]; omega)
/-- how far a sound has come: D is what is behind it, fr where it goes on -/
def sp_sv (F S u D : List Int) (fr : Int) (wz cz : Int32) (cf : Nat → Int32) : Prop := (wz.toInt = 1 ∧ sp_rp cz cf D ∧ sp_snd F S u 0 = D ++ sp_snd F S (u.drop fr.toNat) 0) ∨ (wz.toInt = 0 ∧ 30 < (sp_snd F S u 0).length ∧ 0 < fr)
/-- at its end -/
def sp_se (F S u D : List Int) (fr : Int) (wz cz : Int32) (cf : Nat → Int32) : Prop := (wz.toInt = 1 ∧ sp_rp cz cf D ∧ sp_snd F S u 0 = D ++ u.drop fr.toNat) ∨ (wz.toInt = 0 ∧ 30 < (sp_snd F S u 0).length ∧ 0 < fr)
theorem sp_sv.fin {F S u D : List Int} {fr : Int} {wz cz : Int32} {cf : Nat → Int32} (h : sp_sv F S u D fr wz cz cf) (hf : 0 < F.length) (h0 : 0 ≤ fr) (hn : sp_fp F (u.drop fr.toNat) fr = -1) : sp_se F S u D fr wz cz cf := by
  rcases h with ⟨h1, h2, h3⟩ | h
  · have e := (sp_snd_fp (s := S) (u := u) hf (u.length - fr.toNat) fr.toNat rfl).1 (by rw [show ((fr.toNat : Nat) : Int) = fr by omega]; exact hn)
    exact Or.inl ⟨h1, h2, by rw [h3, e]⟩
  · exact Or.inr h
theorem sp_sv.full {F S u D : List Int} {fr : Int} {wz cz : Int32} {cf : Nat → Int32} (h : sp_sv F S u D fr wz cz cf) (h0 : (u.length : Int) ≤ fr) : sp_se F S u D fr wz cz cf := by
  rcases h with ⟨h1, h2, h3⟩ | h
  · exact Or.inl ⟨h1, h2, by rw [h3, sp_snd_nil (by omega), List.drop_eq_nil_of_le (by omega)]⟩
  · exact Or.inr h
theorem sp_sv.bad {F S u D : List Int} {fr : Int} {wz cz : Int32} {cf : Nat → Int32} (h : sp_sv F S u D fr wz cz cf) (h0 : wz.toInt = 0) : sp_se F S u D fr wz cz cf := by
  rcases h with ⟨h1, -⟩ | h
  · omega
  · exact Or.inr h
/-- a place more: all of it fits -/
theorem sp_sv.step {F S u D D2 : List Int} {fr at_ : Int} {wz cz wz2 cz2 : Int32} {cf cf2 : Nat → Int32} (h : sp_sv F S u D fr wz cz cf) (hw : wz.toInt = 1) (hf : 0 < F.length) (h0 : 0 ≤ fr) (ha : sp_fp F (u.drop fr.toNat) fr = at_) (ha0 : ¬ at_ = -1) (hw2 : wz2.toInt = 1) (hr : sp_rp cz2 cf2 D2) (hD : D2 = D ++ (u.drop fr.toNat).take (at_ - fr).toNat ++ S) : sp_sv F S u D2 (at_ + (F.length : Int)) wz2 cz2 cf2 ∧ fr ≤ at_ ∧ at_ + (F.length : Int) ≤ (u.length : Int) := by
  rcases h with ⟨h1, h2, h3⟩ | ⟨h1, -⟩
  · have e := sp_snd_fp (s := S) (u := u) hf (u.length - fr.toNat) fr.toNat rfl
    rw [show ((fr.toNat : Nat) : Int) = fr by omega, ha] at e
    have hrg : 0 ≤ at_ := by
      rcases Int.lt_or_le at_ 0 with c | c
      · exfalso
        have : ∀ (l : List Int) (i : Int), 0 ≤ i → (sp_fp F l i = -1 ∨ 0 ≤ sp_fp F l i) := by
          intro l
          induction l with
          | nil => intro i hi; simp only [sp_fp]; split <;> omega
          | cons x l ih =>
            intro i hi
            simp only [sp_fp]
            split
            · omega
            · exact ih (i + 1) (by omega)
        have := this (u.drop fr.toNat) fr h0
        omega
      · exact c
    obtain ⟨e1, e2, e3⟩ := e.2 at_.toNat (by omega)
    refine ⟨Or.inl ⟨hw2, hr, ?_⟩, by omega, by omega⟩
    rw [h3, e3, hD, show at_.toNat - fr.toNat = (at_ - fr).toNat by omega, show at_.toNat + F.length = (at_ + (F.length : Int)).toNat by omega]
    simp only [List.append_assoc]
  · omega
/-- a place more: it is too long -/
theorem sp_sv.over {F S u D : List Int} {fr at_ : Int} {wz cz wz2 cz2 : Int32} {cf cf2 : Nat → Int32} {D2 : List Int} (h : sp_sv F S u D fr wz cz cf) (hw : wz.toInt = 1) (hf : 0 < F.length) (h0 : 0 ≤ fr) (ha : sp_fp F (u.drop fr.toNat) fr = at_) (ha0 : ¬ at_ = -1) (hw2 : wz2.toInt = 0) (hl : 30 < (D.length : Int) + (at_ - fr) + S.length) : sp_sv F S u D2 (at_ + (F.length : Int)) wz2 cz2 cf2 ∧ fr ≤ at_ ∧ at_ + (F.length : Int) ≤ (u.length : Int) := by
  rcases h with ⟨h1, h2, h3⟩ | ⟨h1, -⟩
  · have h4 : sp_sv F S u D fr wz cz cf := Or.inl ⟨h1, h2, h3⟩
    have hc : ∃ (c : Int32) (f : Nat → Int32), True := ⟨0, fun _ => 0, trivial⟩
    have e := sp_snd_fp (s := S) (u := u) hf (u.length - fr.toNat) fr.toNat rfl
    rw [show ((fr.toNat : Nat) : Int) = fr by omega, ha] at e
    have hrg : 0 ≤ at_ := by
      rcases Int.lt_or_le at_ 0 with c | c
      · exfalso
        have : ∀ (l : List Int) (i : Int), 0 ≤ i → (sp_fp F l i = -1 ∨ 0 ≤ sp_fp F l i) := by
          intro l
          induction l with
          | nil => intro i hi; simp only [sp_fp]; split <;> omega
          | cons x l ih =>
            intro i hi
            simp only [sp_fp]
            split
            · omega
            · exact ih (i + 1) (by omega)
        have := this (u.drop fr.toNat) fr h0
        omega
      · exact c
    obtain ⟨e1, e2, e3⟩ := e.2 at_.toNat (by omega)
    refine ⟨Or.inr ⟨hw2, ?_, by omega⟩, by omega, by omega⟩
    rw [h3, e3]
    simp only [List.length_append, List.length_take, List.length_drop]
    omega
  · omega
theorem sp_fp_in {F u : List Int} {fr at_ : Int} (hf : 0 < F.length) (h0 : 0 ≤ fr) (ha : sp_fp F (u.drop fr.toNat) fr = at_) (ha0 : ¬ at_ = -1) : fr ≤ at_ ∧ at_ + (F.length : Int) ≤ (u.length : Int) := by
  have e := sp_snd_fp (s := []) (u := u) hf (u.length - fr.toNat) fr.toNat rfl
  rw [show ((fr.toNat : Nat) : Int) = fr by omega, ha] at e
  have h9 : ∀ (l : List Int) (i : Int), 0 ≤ i → (sp_fp F l i = -1 ∨ 0 ≤ sp_fp F l i) := by
    intro l
    induction l with
    | nil => intro i hi; simp only [sp_fp]; split <;> omega
    | cons x l ih =>
      intro i hi
      simp only [sp_fp]
      split
      · omega
      · exact ih (i + 1) (by omega)
  have h8 := h9 (u.drop fr.toNat) fr h0
  obtain ⟨e1, e2, -⟩ := e.2 at_.toNat (by omega)
  omega
theorem sp_snd_none {F S u : List Int} (hf : 0 < F.length) (h : sp_fp F (u.drop 0) 0 = -1) : sp_snd F S u 0 = u := by
  have e := (sp_snd_fp (s := S) (u := u) hf (u.length - 0) 0 rfl).1 h
  exact e
theorem sp_sndl_y {F S u : List Int} (h : F.length ≤ u.length) (h2 : sp_pf F (u.drop (u.length - F.length)) = true) : sp_sndl F S u = u.take (u.length - F.length) ++ S := by unfold sp_sndl; rw [if_pos ⟨h, h2⟩]
theorem sp_sndl_n {F S u : List Int} (h : ¬ (F.length ≤ u.length ∧ sp_pf F (u.drop (u.length - F.length)) = true)) : sp_sndl F S u = u := by unfold sp_sndl; rw [if_neg h]
/-- where the last place is looked for, and what comes of it -/
theorem sp_last_fp {F S u : List Int} {lk r : Int} (hf : 0 < F.length) (hr : r = sp_fp F (u.drop lk.toNat) lk) (hl : ((u.length : Int) - F.length ≤ 0 ∧ lk = 0) ∨ (0 ≤ (u.length : Int) - F.length ∧ lk = (u.length : Int) - F.length)) : (r = -1 ∧ sp_sndl F S u = u) ∨ (F.length ≤ u.length ∧ r = (u.length : Int) - F.length ∧ sp_pf F (u.drop (u.length - F.length)) = true ∧ sp_sndl F S u = u.take (u.length - F.length) ++ S) := by
  by_cases c : F.length ≤ u.length
  · have e1 : lk.toNat = u.length - F.length := by omega
    have e2 : lk = ((u.length - F.length : Nat) : Int) := by omega
    rw [e1] at hr
    rcases sp_fp_end hf c with ⟨g1, g2⟩ | ⟨g1, g2⟩
    · refine Or.inr ⟨c, ?_, g2, sp_sndl_y c g2⟩
      rw [hr, e2, g1]
      omega
    · refine Or.inl ⟨?_, sp_sndl_n (fun g => g2 g.2)⟩
      rw [hr, e2, g1]
  · refine Or.inl ⟨?_, sp_sndl_n (fun g => c g.1)⟩
    rw [hr, sp_fp_o F _ _ (by rw [List.length_drop]; omega)]
theorem sp_sndl_self {F u : List Int} (h : F.length ≤ u.length) (h2 : sp_pf F (u.drop (u.length - F.length)) = true) : u.take (u.length - F.length) ++ F = u := by
  have h3 := sp_pf_app h2
  rw [List.drop_drop, show u.length - F.length + F.length = u.length by omega, List.drop_length, List.append_nil] at h3
  have h4 := List.take_append_drop (u.length - F.length) u
  rw [h3] at h4
  exact h4
/-! ===== A SOUND THAT STANDS CHANGES THE WORD ===== -/
theorem sp_snd_le {F S : List Int} (hf : 0 < F.length) (h : S.length ≤ F.length) : ∀ (d : Nat) (u : List Int), u.length = d → (sp_snd F S u 0).length ≤ u.length := by
  intro d
  induction d using Nat.strongRecOn with
  | ind d ih =>
    intro u hu
    cases u with
    | nil => exact Nat.le_refl _
    | cons x u =>
      by_cases c : sp_pf F (x :: u) = true
      · have hl := ((sp_pf_iff F _).mp c).1
        rw [sp_snd_y hf c, List.length_append]
        have := ih (d - F.length) (by simp only [List.length_cons] at hu; omega) ((x :: u).drop F.length) (by rw [List.length_drop, hu])
        rw [List.length_drop] at this
        omega
      · simp only [sp_snd]
        rw [if_neg c]
        simp only [List.length_cons] at hu ⊢
        have := ih u.length (by omega) u rfl
        omega
theorem sp_snd_ge {F S : List Int} (hf : 0 < F.length) (h : F.length ≤ S.length) : ∀ (d : Nat) (u : List Int), u.length = d → u.length ≤ (sp_snd F S u 0).length := by
  intro d
  induction d using Nat.strongRecOn with
  | ind d ih =>
    intro u hu
    cases u with
    | nil => exact Nat.zero_le _
    | cons x u =>
      by_cases c : sp_pf F (x :: u) = true
      · have hl := ((sp_pf_iff F _).mp c).1
        rw [sp_snd_y hf c, List.length_append]
        have := ih (d - F.length) (by simp only [List.length_cons] at hu; omega) ((x :: u).drop F.length) (by rw [List.length_drop, hu])
        rw [List.length_drop] at this
        omega
      · simp only [sp_snd]
        rw [if_neg c]
        simp only [List.length_cons] at hu ⊢
        have := ih u.length (by omega) u rfl
        omega
theorem sp_fp_pf {F u : List Int} (hf : 0 < F.length) : ∀ (d k : Nat), u.length - k = d → ∀ {a : Nat}, sp_fp F (u.drop k) k = (a : Int) → sp_pf F (u.drop a) = true := by
  intro d
  induction d with
  | zero =>
    intro k hk a ha
    rw [List.drop_eq_nil_of_le (by omega), sp_fp_o F [] k (by simpa using hf)] at ha
    omega
  | succ d ih =>
    intro k hk a ha
    by_cases c : sp_pf F (u.drop k) = true
    · rw [sp_fp_y c] at ha
      rw [show a = k by omega]
      exact c
    · rw [sp_fp_n (by omega) c, show (k : Int) + 1 = ((k + 1 : Nat) : Int) by omega] at ha
      exact ih (k + 1) (by omega) ha
theorem sp_snd_ne {F S u : List Int} (hf : 0 < F.length) (hn : ¬ F = S) (h : ¬ sp_fp F (u.drop 0) 0 = -1) : ¬ sp_snd F S u 0 = u := by
  intro he
  obtain ⟨g1, g2⟩ := sp_fp_in (F := F) (u := u) (fr := 0) (at_ := sp_fp F (u.drop 0) 0) hf (by omega) rfl h
  obtain ⟨a, ha⟩ : ∃ a : Nat, sp_fp F (u.drop 0) 0 = (a : Int) := ⟨(sp_fp F (u.drop 0) 0).toNat, by omega⟩
  obtain ⟨-, k2, k3⟩ := (sp_snd_fp (s := S) hf u.length 0 (by omega)).2 a ha
  rw [List.drop_zero, Nat.sub_zero, he] at k3
  have hp : sp_pf F (u.drop a) = true := by
    exact sp_fp_pf hf u.length 0 (by omega) ha
  have e1 := sp_pf_app hp
  have e2 : u.drop a = S ++ sp_snd F S (u.drop (a + F.length)) 0 := by
    have e3 := List.take_append_drop a u
    exact (List.append_cancel_left (e3.trans k3))
  have l1 := congrArg List.length e1
  have l2 := congrArg List.length e2
  rw [List.length_append, List.drop_drop, List.length_drop, List.length_drop] at l1
  rw [List.length_append, List.length_drop] at l2
  by_cases c : S.length = F.length
  · rw [e1] at e2
    exact hn (List.append_inj e2 c.symm).1
  · by_cases c2 : S.length ≤ F.length
    · have := sp_snd_le hf c2 _ (u.drop (a + F.length)) rfl
      rw [List.length_drop] at this
      omega
    · have := sp_snd_ge (S := S) hf (by omega) _ (u.drop (a + F.length)) rfl
      rw [List.length_drop] at this
      omega
theorem sp_sndl_ne {F S u : List Int} (hn : ¬ F = S) (h : F.length ≤ u.length) (h2 : sp_pf F (u.drop (u.length - F.length)) = true) : ¬ sp_sndl F S u = u := by
  intro he
  rw [sp_sndl_y h h2] at he
  exact hn (List.append_cancel_left ((sp_sndl_self h h2).trans he.symm))

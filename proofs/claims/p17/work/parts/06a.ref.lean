def hm_o (q : Nat) (m_tp m_sz m_fr m_bh m_hd m_ft m_fa m_le m_fo m_as m_fd m_bc m_bg m_bs m_be m_b0 m_b1 m_cm m_hc : Int32) : List Value := [.ref (q), .ref (q + 1), .ref (q + 2), .ref (q + 3), .ref (q + 4), .ref (q + 5), .ref (q + 6), .ref (q + 7), .ref (q + 8), .ref (q + 9), .ref (q + 10), .ref (q + 11), .ref (q + 12), .ref (q + 13), .ref (q + 14), .ref (q + 15), .ref (q + 16), .ref (q + 17), .ref (q + 18), .ref (q + 19), .ref (q + 20), .int (m_tp), .int (m_sz), .int (m_fr), .int (m_bh), .int (m_hd), .int (m_ft), .int (m_fa), .ref (q + 21), .ref (q + 22), .int (m_le), .ref (q + 23), .ref (q + 24), .ref (q + 25), .ref (q + 26), .ref (q + 27), .ref (q + 28), .ref (q + 29), .ref (q + 30), .ref (q + 31), .ref (q + 32), .ref (q + 33), .ref (q + 34), .ref (q + 35), .ref (q + 36), .int (m_fo), .ref (q + 37), .int (m_as), .int (m_fd), .ref (q + 38), .ref (q + 39), .ref (q + 40), .ref (q + 41), .int (m_bc), .int (m_bg), .int (m_bs), .int (m_be), .int (m_b0), .int (m_b1), .ref (q + 42), .ref (q + 43), .int (m_cm), .int (m_hc), .ref (q + 44), .ref (q + 45), .ref (q + 46)]
/-- the types of the reference's cells: its arrays from q on, one behind the other -/
def hq_RT (G : hq_G) (q : Nat) : Prop := G (q) = some (21, 2, 11, 41) ∧ G (q + 1) = some (21, 2, 9, 41) ∧ G (q + 2) = some (21, 2, 8, 50) ∧ G (q + 3) = some (20, 144, 41, 0) ∧ G (q + 4) = some (20, 720, 41, 0) ∧ G (q + 5) = some (20, 960, 41, 0) ∧ G (q + 6) = some (20, 960, 41, 0) ∧ G (q + 7) = some (21, 12, 2, 41) ∧ G (q + 8) = some (21, 60, 2, 41) ∧ G (q + 9) = some (21, 60, 0, 41) ∧ G (q + 10) = some (21, 120, 0, 50) ∧ G (q + 11) = some (21, 120, 0, 41) ∧ G (q + 12) = some (21, 120, 0, 41) ∧ G (q + 13) = some (21, 120, 0, 41) ∧ G (q + 14) = some (21, 120, 1, 50) ∧ G (q + 15) = some (21, 120, 1, 41) ∧ G (q + 16) = some (21, 120, 3, 41) ∧ G (q + 17) = some (21, 120, 0, 41) ∧ G (q + 18) = some (21, 120, 0, 41) ∧ G (q + 19) = some (23, 0, 0, 0) ∧ G (q + 20) = some (20, 4000, 42, 0) ∧ G (q + 21) = some (20, 276, 43, 0) ∧ G (q + 22) = some (20, 276, 43, 0) ∧ G (q + 23) = some (22, 60, 43, 0) ∧ G (q + 24) = some (20, 30, 43, 0) ∧ G (q + 25) = some (20, 244, 44, 0) ∧ G (q + 26) = some (20, 122, 45, 0) ∧ G (q + 27) = some (20, 122, 45, 0) ∧ G (q + 28) = some (21, 4, 6, 44) ∧ G (q + 29) = some (21, 560, 4, 44) ∧ G (q + 30) = some (21, 4, 7, 44) ∧ G (q + 31) = some (21, 2, 9, 45) ∧ G (q + 32) = some (21, 2, 9, 45) ∧ G (q + 33) = some (21, 280, 4, 45) ∧ G (q + 34) = some (21, 280, 4, 45) ∧ G (q + 35) = some (21, 2, 10, 45) ∧ G (q + 36) = some (21, 2, 10, 45) ∧ G (q + 37) = some (20, 4000, 46, 0) ∧ G (q + 38) = some (21, 60, 0, 47) ∧ G (q + 39) = some (21, 60, 0, 47) ∧ G (q + 40) = some (21, 60, 0, 47) ∧ G (q + 41) = some (21, 60, 0, 47) ∧ G (q + 42) = some (21, 480, 0, 48) ∧ G (q + 43) = some (21, 24, 0, 48) ∧ G (q + 44) = some (21, 2, 0, 49) ∧ G (q + 45) = some (21, 2, 5, 49) ∧ G (q + 46) = some (21, 2, 0, 49)
theorem hr_0 {G : hq_G} {q : Nat} (h : hq_RT G q) : G (q) = some (21, 2, 11, 41) := h.1
theorem hr_1 {G : hq_G} {q : Nat} (h : hq_RT G q) : G (q + 1) = some (21, 2, 9, 41) := h.2.1
theorem hr_2 {G : hq_G} {q : Nat} (h : hq_RT G q) : G (q + 2) = some (21, 2, 8, 50) := h.2.2.1
theorem hr_3 {G : hq_G} {q : Nat} (h : hq_RT G q) : G (q + 3) = some (20, 144, 41, 0) := h.2.2.2.1
theorem hr_4 {G : hq_G} {q : Nat} (h : hq_RT G q) : G (q + 4) = some (20, 720, 41, 0) := h.2.2.2.2.1
theorem hr_5 {G : hq_G} {q : Nat} (h : hq_RT G q) : G (q + 5) = some (20, 960, 41, 0) := h.2.2.2.2.2.1
theorem hr_6 {G : hq_G} {q : Nat} (h : hq_RT G q) : G (q + 6) = some (20, 960, 41, 0) := h.2.2.2.2.2.2.1
theorem hr_7 {G : hq_G} {q : Nat} (h : hq_RT G q) : G (q + 7) = some (21, 12, 2, 41) := h.2.2.2.2.2.2.2.1
theorem hr_8 {G : hq_G} {q : Nat} (h : hq_RT G q) : G (q + 8) = some (21, 60, 2, 41) := h.2.2.2.2.2.2.2.2.1
theorem hr_9 {G : hq_G} {q : Nat} (h : hq_RT G q) : G (q + 9) = some (21, 60, 0, 41) := h.2.2.2.2.2.2.2.2.2.1
theorem hr_10 {G : hq_G} {q : Nat} (h : hq_RT G q) : G (q + 10) = some (21, 120, 0, 50) := h.2.2.2.2.2.2.2.2.2.2.1
theorem hr_11 {G : hq_G} {q : Nat} (h : hq_RT G q) : G (q + 11) = some (21, 120, 0, 41) := h.2.2.2.2.2.2.2.2.2.2.2.1
theorem hr_12 {G : hq_G} {q : Nat} (h : hq_RT G q) : G (q + 12) = some (21, 120, 0, 41) := h.2.2.2.2.2.2.2.2.2.2.2.2.1
theorem hr_13 {G : hq_G} {q : Nat} (h : hq_RT G q) : G (q + 13) = some (21, 120, 0, 41) := h.2.2.2.2.2.2.2.2.2.2.2.2.2.1
theorem hr_14 {G : hq_G} {q : Nat} (h : hq_RT G q) : G (q + 14) = some (21, 120, 1, 50) := h.2.2.2.2.2.2.2.2.2.2.2.2.2.2.1
theorem hr_15 {G : hq_G} {q : Nat} (h : hq_RT G q) : G (q + 15) = some (21, 120, 1, 41) := h.2.2.2.2.2.2.2.2.2.2.2.2.2.2.2.1
theorem hr_16 {G : hq_G} {q : Nat} (h : hq_RT G q) : G (q + 16) = some (21, 120, 3, 41) := h.2.2.2.2.2.2.2.2.2.2.2.2.2.2.2.2.1
theorem hr_17 {G : hq_G} {q : Nat} (h : hq_RT G q) : G (q + 17) = some (21, 120, 0, 41) := h.2.2.2.2.2.2.2.2.2.2.2.2.2.2.2.2.2.1
theorem hr_18 {G : hq_G} {q : Nat} (h : hq_RT G q) : G (q + 18) = some (21, 120, 0, 41) := h.2.2.2.2.2.2.2.2.2.2.2.2.2.2.2.2.2.2.1
theorem hr_19 {G : hq_G} {q : Nat} (h : hq_RT G q) : G (q + 19) = some (23, 0, 0, 0) := h.2.2.2.2.2.2.2.2.2.2.2.2.2.2.2.2.2.2.2.1
theorem hr_20 {G : hq_G} {q : Nat} (h : hq_RT G q) : G (q + 20) = some (20, 4000, 42, 0) := h.2.2.2.2.2.2.2.2.2.2.2.2.2.2.2.2.2.2.2.2.1
theorem hr_21 {G : hq_G} {q : Nat} (h : hq_RT G q) : G (q + 21) = some (20, 276, 43, 0) := h.2.2.2.2.2.2.2.2.2.2.2.2.2.2.2.2.2.2.2.2.2.1
theorem hr_22 {G : hq_G} {q : Nat} (h : hq_RT G q) : G (q + 22) = some (20, 276, 43, 0) := h.2.2.2.2.2.2.2.2.2.2.2.2.2.2.2.2.2.2.2.2.2.2.1
theorem hr_23 {G : hq_G} {q : Nat} (h : hq_RT G q) : G (q + 23) = some (22, 60, 43, 0) := h.2.2.2.2.2.2.2.2.2.2.2.2.2.2.2.2.2.2.2.2.2.2.2.1
theorem hr_24 {G : hq_G} {q : Nat} (h : hq_RT G q) : G (q + 24) = some (20, 30, 43, 0) := h.2.2.2.2.2.2.2.2.2.2.2.2.2.2.2.2.2.2.2.2.2.2.2.2.1
theorem hr_25 {G : hq_G} {q : Nat} (h : hq_RT G q) : G (q + 25) = some (20, 244, 44, 0) := h.2.2.2.2.2.2.2.2.2.2.2.2.2.2.2.2.2.2.2.2.2.2.2.2.2.1
theorem hr_26 {G : hq_G} {q : Nat} (h : hq_RT G q) : G (q + 26) = some (20, 122, 45, 0) := h.2.2.2.2.2.2.2.2.2.2.2.2.2.2.2.2.2.2.2.2.2.2.2.2.2.2.1
theorem hr_27 {G : hq_G} {q : Nat} (h : hq_RT G q) : G (q + 27) = some (20, 122, 45, 0) := h.2.2.2.2.2.2.2.2.2.2.2.2.2.2.2.2.2.2.2.2.2.2.2.2.2.2.2.1
theorem hr_28 {G : hq_G} {q : Nat} (h : hq_RT G q) : G (q + 28) = some (21, 4, 6, 44) := h.2.2.2.2.2.2.2.2.2.2.2.2.2.2.2.2.2.2.2.2.2.2.2.2.2.2.2.2.1
theorem hr_29 {G : hq_G} {q : Nat} (h : hq_RT G q) : G (q + 29) = some (21, 560, 4, 44) := h.2.2.2.2.2.2.2.2.2.2.2.2.2.2.2.2.2.2.2.2.2.2.2.2.2.2.2.2.2.1
theorem hr_30 {G : hq_G} {q : Nat} (h : hq_RT G q) : G (q + 30) = some (21, 4, 7, 44) := h.2.2.2.2.2.2.2.2.2.2.2.2.2.2.2.2.2.2.2.2.2.2.2.2.2.2.2.2.2.2.1
theorem hr_31 {G : hq_G} {q : Nat} (h : hq_RT G q) : G (q + 31) = some (21, 2, 9, 45) := h.2.2.2.2.2.2.2.2.2.2.2.2.2.2.2.2.2.2.2.2.2.2.2.2.2.2.2.2.2.2.2.1
theorem hr_32 {G : hq_G} {q : Nat} (h : hq_RT G q) : G (q + 32) = some (21, 2, 9, 45) := h.2.2.2.2.2.2.2.2.2.2.2.2.2.2.2.2.2.2.2.2.2.2.2.2.2.2.2.2.2.2.2.2.1
theorem hr_33 {G : hq_G} {q : Nat} (h : hq_RT G q) : G (q + 33) = some (21, 280, 4, 45) := h.2.2.2.2.2.2.2.2.2.2.2.2.2.2.2.2.2.2.2.2.2.2.2.2.2.2.2.2.2.2.2.2.2.1
theorem hr_34 {G : hq_G} {q : Nat} (h : hq_RT G q) : G (q + 34) = some (21, 280, 4, 45) := h.2.2.2.2.2.2.2.2.2.2.2.2.2.2.2.2.2.2.2.2.2.2.2.2.2.2.2.2.2.2.2.2.2.2.1
theorem hr_35 {G : hq_G} {q : Nat} (h : hq_RT G q) : G (q + 35) = some (21, 2, 10, 45) := h.2.2.2.2.2.2.2.2.2.2.2.2.2.2.2.2.2.2.2.2.2.2.2.2.2.2.2.2.2.2.2.2.2.2.2.1
theorem hr_36 {G : hq_G} {q : Nat} (h : hq_RT G q) : G (q + 36) = some (21, 2, 10, 45) := h.2.2.2.2.2.2.2.2.2.2.2.2.2.2.2.2.2.2.2.2.2.2.2.2.2.2.2.2.2.2.2.2.2.2.2.2.1
theorem hr_37 {G : hq_G} {q : Nat} (h : hq_RT G q) : G (q + 37) = some (20, 4000, 46, 0) := h.2.2.2.2.2.2.2.2.2.2.2.2.2.2.2.2.2.2.2.2.2.2.2.2.2.2.2.2.2.2.2.2.2.2.2.2.2.1
theorem hr_38 {G : hq_G} {q : Nat} (h : hq_RT G q) : G (q + 38) = some (21, 60, 0, 47) := h.2.2.2.2.2.2.2.2.2.2.2.2.2.2.2.2.2.2.2.2.2.2.2.2.2.2.2.2.2.2.2.2.2.2.2.2.2.2.1
theorem hr_39 {G : hq_G} {q : Nat} (h : hq_RT G q) : G (q + 39) = some (21, 60, 0, 47) := h.2.2.2.2.2.2.2.2.2.2.2.2.2.2.2.2.2.2.2.2.2.2.2.2.2.2.2.2.2.2.2.2.2.2.2.2.2.2.2.1
theorem hr_40 {G : hq_G} {q : Nat} (h : hq_RT G q) : G (q + 40) = some (21, 60, 0, 47) := h.2.2.2.2.2.2.2.2.2.2.2.2.2.2.2.2.2.2.2.2.2.2.2.2.2.2.2.2.2.2.2.2.2.2.2.2.2.2.2.2.1
theorem hr_41 {G : hq_G} {q : Nat} (h : hq_RT G q) : G (q + 41) = some (21, 60, 0, 47) := h.2.2.2.2.2.2.2.2.2.2.2.2.2.2.2.2.2.2.2.2.2.2.2.2.2.2.2.2.2.2.2.2.2.2.2.2.2.2.2.2.2.1
theorem hr_42 {G : hq_G} {q : Nat} (h : hq_RT G q) : G (q + 42) = some (21, 480, 0, 48) := h.2.2.2.2.2.2.2.2.2.2.2.2.2.2.2.2.2.2.2.2.2.2.2.2.2.2.2.2.2.2.2.2.2.2.2.2.2.2.2.2.2.2.1
theorem hr_43 {G : hq_G} {q : Nat} (h : hq_RT G q) : G (q + 43) = some (21, 24, 0, 48) := h.2.2.2.2.2.2.2.2.2.2.2.2.2.2.2.2.2.2.2.2.2.2.2.2.2.2.2.2.2.2.2.2.2.2.2.2.2.2.2.2.2.2.2.1
theorem hr_44 {G : hq_G} {q : Nat} (h : hq_RT G q) : G (q + 44) = some (21, 2, 0, 49) := h.2.2.2.2.2.2.2.2.2.2.2.2.2.2.2.2.2.2.2.2.2.2.2.2.2.2.2.2.2.2.2.2.2.2.2.2.2.2.2.2.2.2.2.2.1
theorem hr_45 {G : hq_G} {q : Nat} (h : hq_RT G q) : G (q + 45) = some (21, 2, 5, 49) := h.2.2.2.2.2.2.2.2.2.2.2.2.2.2.2.2.2.2.2.2.2.2.2.2.2.2.2.2.2.2.2.2.2.2.2.2.2.2.2.2.2.2.2.2.2.1
theorem hr_46 {G : hq_G} {q : Nat} (h : hq_RT G q) : G (q + 46) = some (21, 2, 0, 49) := h.2.2.2.2.2.2.2.2.2.2.2.2.2.2.2.2.2.2.2.2.2.2.2.2.2.2.2.2.2.2.2.2.2.2.2.2.2.2.2.2.2.2.2.2.2.2
theorem hq_rg {cs : Nat → ClassId} {G : hq_G} {V : hp_V} {a N k g : Nat} {f : Nat → Int32} (h : hq_I cs G V) (ha : G a = some (21, N, k, g)) (e : V a = some (.inl (cs 1, N, .inl f))) : ∀ j, j < N → hq_ir (hq_lo k) (hq_hi k) (f j) := by
  obtain ⟨-, f', e', hf⟩ := hq_o21 h ha
  cases e.symm.trans e'
  exact hf
theorem hm_i2l (x : Int32) : x.toInt64.toInt = x.toInt := by simp
theorem hm_lsub (x y : Int64) (h0 : -4611686018427387904 ≤ x.toInt - y.toInt) (h1 : x.toInt - y.toInt ≤ 4611686018427387904) : (x - y).toInt = x.toInt - y.toInt := by
  rw [Int64.toInt_sub, Int.bmod_def]
  omega
theorem hm_ladd (x y : Int64) (h0 : -4611686018427387904 ≤ x.toInt + y.toInt) (h1 : x.toInt + y.toInt ≤ 4611686018427387904) : (x + y).toInt = x.toInt + y.toInt := by
  rw [Int64.toInt_add, Int.bmod_def]
  omega
theorem hm_cmp (x y : Int64) : ((lg_cmp x y).toInt = -1 ∧ x.toInt < y.toInt) ∨ ((lg_cmp x y).toInt = 0 ∧ x.toInt = y.toInt) ∨ ((lg_cmp x y).toInt = 1 ∧ y.toInt < x.toInt) := by
  unfold lg_cmp
  by_cases h : x > y
  · rw [if_pos h]; exact Or.inr (Or.inr ⟨by decide, Int64.lt_iff_toInt_lt.mp h⟩)
  · rw [if_neg h]
    by_cases h2 : x = y
    · rw [if_pos h2]; exact Or.inr (Or.inl ⟨by decide, by rw [h2]⟩)
    · rw [if_neg h2]
      refine Or.inl ⟨by decide, ?_⟩
      have h3 : ¬ y.toInt < x.toInt := fun h9 => h (Int64.lt_iff_toInt_lt.mpr h9)
      have h4 : ¬ x.toInt = y.toInt := fun h9 => h2 (Int64.toInt_inj.mp h9)
      omega
theorem hm_mn (x y : Int32) : ((if y < x then y else x).toInt = y.toInt ∧ y.toInt < x.toInt) ∨ ((if y < x then y else x).toInt = x.toInt ∧ x.toInt ≤ y.toInt) := by
  by_cases h : y < x
  · rw [if_pos h]; exact Or.inl ⟨rfl, hq_lti.mp h⟩
  · rw [if_neg h]
    refine Or.inr ⟨rfl, ?_⟩
    have h1 : ¬ y.toInt < x.toInt := fun h9 => h (hq_lti.mpr h9)
    omega

def hm_SC (sz fr bh hd : Int32) : Prop := (0 ≤ fr.toInt ∧ fr.toInt ≤ sz.toInt) ∧ (0 ≤ bh.toInt ∧ bh.toInt ≤ sz.toInt + 1) ∧ (bh.toInt ≤ sz.toInt ∨ hd.toInt = 5) ∧ (¬ hd.toInt = 1 ∨ (fr.toInt + 1 ≤ bh.toInt ∧ bh.toInt ≤ fr.toInt + 12)) ∧ (¬ hd.toInt = 3 ∨ (fr.toInt + 2 ≤ bh.toInt ∧ bh.toInt ≤ fr.toInt + 10)) ∧ (¬ hd.toInt = 2 ∨ bh.toInt = fr.toInt + 1) ∧ (0 ≤ hd.toInt ∧ hd.toInt ≤ 5)
theorem hm_SC.out {sz fr bh hd : Int32} (h : hm_SC sz fr bh hd) : (0 ≤ fr.toInt ∧ fr.toInt ≤ sz.toInt) ∧ (0 ≤ bh.toInt ∧ bh.toInt ≤ sz.toInt + 1) ∧ (bh.toInt ≤ sz.toInt ∨ hd.toInt = 5) ∧ (¬ hd.toInt = 1 ∨ (fr.toInt + 1 ≤ bh.toInt ∧ bh.toInt ≤ fr.toInt + 12)) ∧ (¬ hd.toInt = 3 ∨ (fr.toInt + 2 ≤ bh.toInt ∧ bh.toInt ≤ fr.toInt + 10)) ∧ (¬ hd.toInt = 2 ∨ bh.toInt = fr.toInt + 1) ∧ (0 ≤ hd.toInt ∧ hd.toInt ≤ 5) := h
def hm_Up (bh bh1 hd1 : Int32) : Prop := hd1.toInt = 0 ∨ bh.toInt + 1 ≤ bh1.toInt
theorem hm_Up.out {bh bh1 hd1 : Int32} (h : hm_Up bh bh1 hd1) : hd1.toInt = 0 ∨ bh.toInt + 1 ≤ bh1.toInt := h

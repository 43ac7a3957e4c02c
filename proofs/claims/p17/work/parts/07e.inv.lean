set_option maxRecDepth 20000 in
set_option maxHeartbeats 4000000 in
theorem hk_M {cs : Nat → ClassId} {V : hp_V} {a n q : Nat} (hq : q = n + 843) (h : fx_M cs a q V) (d : Nat) (t : hq_T) (hd : d < 47) (ht : hk_R[d]? = some t) : ∃ e, V (q + d) = some e ∧ hq_ok cs (hk_G n) (q + d) t e := by
  obtain ⟨ha, h_classes, h_verbs, h_lines, h_className, h_verbName, h_first, h_second, h_classSize, h_verbSize, h_classOf, h_kind, h_whose, h_tense, h_person, h_firstSize, h_secondSize, h_helper, h_helperTense, h_part, h_tape, h_word, h_spare, h_did, h_before, h_form, h_helpForm, h_partForm, h_formSize, h_row, h_rowSize, h_helpSize, h_partSize, h_helpRow, h_partRow, h_helpRowSize, h_partRowSize, h_asked, h_foundVerb, h_foundTense, h_foundPerson, h_uses, ⟨g_misses, h_misses⟩, ⟨g_latest, h_latest⟩, h_changeWhat, h_changeMissed, h_changeTaken, ⟨fs_, h_stop⟩⟩ := h
  rcases (show d = 0 ∨ d = 1 ∨ d = 2 ∨ d = 3 ∨ d = 4 ∨ d = 5 ∨ d = 6 ∨ d = 7 ∨ d = 8 ∨ d = 9 ∨ d = 10 ∨ d = 11 ∨ d = 12 ∨ d = 13 ∨ d = 14 ∨ d = 15 ∨ d = 16 ∨ d = 17 ∨ d = 18 ∨ d = 19 ∨ d = 20 ∨ d = 21 ∨ d = 22 ∨ d = 23 ∨ d = 24 ∨ d = 25 ∨ d = 26 ∨ d = 27 ∨ d = 28 ∨ d = 29 ∨ d = 30 ∨ d = 31 ∨ d = 32 ∨ d = 33 ∨ d = 34 ∨ d = 35 ∨ d = 36 ∨ d = 37 ∨ d = 38 ∨ d = 39 ∨ d = 40 ∨ d = 41 ∨ d = 42 ∨ d = 43 ∨ d = 44 ∨ d = 45 ∨ d = 46 by omega) with rfl | rfl | rfl | rfl | rfl | rfl | rfl | rfl | rfl | rfl | rfl | rfl | rfl | rfl | rfl | rfl | rfl | rfl | rfl | rfl | rfl | rfl | rfl | rfl | rfl | rfl | rfl | rfl | rfl | rfl | rfl | rfl | rfl | rfl | rfl | rfl | rfl | rfl | rfl | rfl | rfl | rfl | rfl | rfl | rfl | rfl | rfl
  · cases (show hk_R[0]? = some (21, 2, 11, 41) from rfl).symm.trans ht
    exact ⟨_, h_classes, hq_c21 (by decide) (hk_zr (by decide) (by decide))⟩
  · cases (show hk_R[1]? = some (21, 2, 9, 41) from rfl).symm.trans ht
    exact ⟨_, h_verbs, hq_c21 (by decide) (hk_zr (by decide) (by decide))⟩
  · cases (show hk_R[2]? = some (21, 2, 8, 50) from rfl).symm.trans ht
    exact ⟨_, h_lines, hq_c21 (by decide) (hk_zr (by decide) (by decide))⟩
  · cases (show hk_R[3]? = some (20, 144, 41, 0) from rfl).symm.trans ht
    exact ⟨_, h_className, hq_c20 (by decide)⟩
  · cases (show hk_R[4]? = some (20, 720, 41, 0) from rfl).symm.trans ht
    exact ⟨_, h_verbName, hq_c20 (by decide)⟩
  · cases (show hk_R[5]? = some (20, 960, 41, 0) from rfl).symm.trans ht
    exact ⟨_, h_first, hq_c20 (by decide)⟩
  · cases (show hk_R[6]? = some (20, 960, 41, 0) from rfl).symm.trans ht
    exact ⟨_, h_second, hq_c20 (by decide)⟩
  · cases (show hk_R[7]? = some (21, 12, 2, 41) from rfl).symm.trans ht
    exact ⟨_, h_classSize, hq_c21 (by decide) (hk_zr (by decide) (by decide))⟩
  · cases (show hk_R[8]? = some (21, 60, 2, 41) from rfl).symm.trans ht
    exact ⟨_, h_verbSize, hq_c21 (by decide) (hk_zr (by decide) (by decide))⟩
  · cases (show hk_R[9]? = some (21, 60, 0, 41) from rfl).symm.trans ht
    exact ⟨_, h_classOf, hq_c21 (by decide) (hk_zr (by decide) (by decide))⟩
  · cases (show hk_R[10]? = some (21, 120, 0, 50) from rfl).symm.trans ht
    exact ⟨_, h_kind, hq_c21 (by decide) (hk_zr (by decide) (by decide))⟩
  · cases (show hk_R[11]? = some (21, 120, 0, 41) from rfl).symm.trans ht
    exact ⟨_, h_whose, hq_c21 (by decide) (hk_zr (by decide) (by decide))⟩
  · cases (show hk_R[12]? = some (21, 120, 0, 41) from rfl).symm.trans ht
    exact ⟨_, h_tense, hq_c21 (by decide) (hk_zr (by decide) (by decide))⟩
  · cases (show hk_R[13]? = some (21, 120, 0, 41) from rfl).symm.trans ht
    exact ⟨_, h_person, hq_c21 (by decide) (hk_zr (by decide) (by decide))⟩
  · cases (show hk_R[14]? = some (21, 120, 1, 50) from rfl).symm.trans ht
    exact ⟨_, h_firstSize, hq_c21 (by decide) (hk_zr (by decide) (by decide))⟩
  · cases (show hk_R[15]? = some (21, 120, 1, 41) from rfl).symm.trans ht
    exact ⟨_, h_secondSize, hq_c21 (by decide) (hk_zr (by decide) (by decide))⟩
  · cases (show hk_R[16]? = some (21, 120, 3, 41) from rfl).symm.trans ht
    exact ⟨_, h_helper, hq_c21 (by decide) (hk_zr (by decide) (by decide))⟩
  · cases (show hk_R[17]? = some (21, 120, 0, 41) from rfl).symm.trans ht
    exact ⟨_, h_helperTense, hq_c21 (by decide) (hk_zr (by decide) (by decide))⟩
  · cases (show hk_R[18]? = some (21, 120, 0, 41) from rfl).symm.trans ht
    exact ⟨_, h_part, hq_c21 (by decide) (hk_zr (by decide) (by decide))⟩
  · cases (show hk_R[19]? = some (23, 0, 0, 0) from rfl).symm.trans ht
    exact ⟨_, h_stop, trivial⟩
  · cases (show hk_R[20]? = some (20, 4000, 42, 0) from rfl).symm.trans ht
    exact ⟨_, h_tape, hq_c20 (by decide)⟩
  · cases (show hk_R[21]? = some (20, 276, 43, 0) from rfl).symm.trans ht
    exact ⟨_, h_word, hq_c20 (by decide)⟩
  · cases (show hk_R[22]? = some (20, 276, 43, 0) from rfl).symm.trans ht
    exact ⟨_, h_spare, hq_c20 (by decide)⟩
  · cases (show hk_R[23]? = some (22, 60, 43, 0) from rfl).symm.trans ht
    exact ⟨_, h_did, hq_c22 (by decide)⟩
  · cases (show hk_R[24]? = some (20, 30, 43, 0) from rfl).symm.trans ht
    exact ⟨_, h_before, hq_c20 (by decide)⟩
  · cases (show hk_R[25]? = some (20, 244, 44, 0) from rfl).symm.trans ht
    exact ⟨_, h_form, hq_c20 (by decide)⟩
  · cases (show hk_R[26]? = some (20, 122, 45, 0) from rfl).symm.trans ht
    exact ⟨_, h_helpForm, hq_c20 (by decide)⟩
  · cases (show hk_R[27]? = some (20, 122, 45, 0) from rfl).symm.trans ht
    exact ⟨_, h_partForm, hq_c20 (by decide)⟩
  · cases (show hk_R[28]? = some (21, 4, 6, 44) from rfl).symm.trans ht
    exact ⟨_, h_formSize, hq_c21 (by decide) (hk_zr (by decide) (by decide))⟩
  · cases (show hk_R[29]? = some (21, 560, 4, 44) from rfl).symm.trans ht
    exact ⟨_, h_row, hq_c21 (by decide) (hk_zr (by decide) (by decide))⟩
  · cases (show hk_R[30]? = some (21, 4, 7, 44) from rfl).symm.trans ht
    exact ⟨_, h_rowSize, hq_c21 (by decide) (hk_zr (by decide) (by decide))⟩
  · cases (show hk_R[31]? = some (21, 2, 9, 45) from rfl).symm.trans ht
    exact ⟨_, h_helpSize, hq_c21 (by decide) (hk_zr (by decide) (by decide))⟩
  · cases (show hk_R[32]? = some (21, 2, 9, 45) from rfl).symm.trans ht
    exact ⟨_, h_partSize, hq_c21 (by decide) (hk_zr (by decide) (by decide))⟩
  · cases (show hk_R[33]? = some (21, 280, 4, 45) from rfl).symm.trans ht
    exact ⟨_, h_helpRow, hq_c21 (by decide) (hk_zr (by decide) (by decide))⟩
  · cases (show hk_R[34]? = some (21, 280, 4, 45) from rfl).symm.trans ht
    exact ⟨_, h_partRow, hq_c21 (by decide) (hk_zr (by decide) (by decide))⟩
  · cases (show hk_R[35]? = some (21, 2, 10, 45) from rfl).symm.trans ht
    exact ⟨_, h_helpRowSize, hq_c21 (by decide) (hk_zr (by decide) (by decide))⟩
  · cases (show hk_R[36]? = some (21, 2, 10, 45) from rfl).symm.trans ht
    exact ⟨_, h_partRowSize, hq_c21 (by decide) (hk_zr (by decide) (by decide))⟩
  · cases (show hk_R[37]? = some (20, 4000, 46, 0) from rfl).symm.trans ht
    exact ⟨_, h_asked, hq_c20 (by decide)⟩
  · cases (show hk_R[38]? = some (21, 60, 0, 47) from rfl).symm.trans ht
    exact ⟨_, h_foundVerb, hq_c21 (by decide) (hk_zr (by decide) (by decide))⟩
  · cases (show hk_R[39]? = some (21, 60, 0, 47) from rfl).symm.trans ht
    exact ⟨_, h_foundTense, hq_c21 (by decide) (hk_zr (by decide) (by decide))⟩
  · cases (show hk_R[40]? = some (21, 60, 0, 47) from rfl).symm.trans ht
    exact ⟨_, h_foundPerson, hq_c21 (by decide) (hk_zr (by decide) (by decide))⟩
  · cases (show hk_R[41]? = some (21, 60, 0, 47) from rfl).symm.trans ht
    exact ⟨_, h_uses, hq_c21 (by decide) (hk_zr (by decide) (by decide))⟩
  · cases (show hk_R[42]? = some (21, 480, 0, 48) from rfl).symm.trans ht
    exact ⟨_, h_misses, hq_c21 (by decide) (fun _ _ => hq_rng _)⟩
  · cases (show hk_R[43]? = some (21, 24, 0, 48) from rfl).symm.trans ht
    exact ⟨_, h_latest, hq_c21 (by decide) (fun _ _ => hq_rng _)⟩
  · cases (show hk_R[44]? = some (21, 2, 0, 49) from rfl).symm.trans ht
    exact ⟨_, h_changeWhat, hq_c21 (by decide) (hk_zr (by decide) (by decide))⟩
  · cases (show hk_R[45]? = some (21, 2, 5, 49) from rfl).symm.trans ht
    exact ⟨_, h_changeMissed, hq_c21 (by decide) (hk_zr (by decide) (by decide))⟩
  · cases (show hk_R[46]? = some (21, 2, 0, 49) from rfl).symm.trans ht
    exact ⟨_, h_changeTaken, hq_c21 (by decide) (hk_zr (by decide) (by decide))⟩
theorem hk_I {cs : Nat → ClassId} {V : hp_V} {a n mo q : Nat} (ha : a + 1 = n) (hm : mo = n + 842) (hq : q = n + 843) (hX : fx_X cs a n V) (hM : fx_M cs mo q V) : hq_I cs (hk_G n) V := by
  intro x t hx
  by_cases h1 : x + 1 = n
  · obtain rfl : x = a := by omega
    exact ⟨_, hX.1, by unfold hk_G at hx; rw [if_pos h1] at hx; cases hx; exact trivial⟩
  by_cases h2 : x < n
  · unfold hk_G at hx
    rw [if_neg h1, if_pos h2] at hx
    cases hx
  obtain ⟨d, rfl⟩ : ∃ d, x = n + d := ⟨x - n, by omega⟩
  rw [hk_at] at hx
  by_cases h3 : d < 842
  · exact hk_X hX d t h3 hx
  by_cases h4 : d = 842
  · subst h4
    cases (show hk_D 842 = some (24, 0, 0, 0) from rfl).symm.trans hx
    exact ⟨_, by rw [← hm]; exact hM.1, trivial⟩
  obtain ⟨k, rfl⟩ : ∃ k, d = 843 + k := ⟨d - 843, by omega⟩
  have hx2 : hk_R[k]? = some t := by
    rw [← hk_r n k, Nat.add_assoc, hk_at]
    exact hx
  have hk : k < 47 := (List.getElem?_eq_some_iff.mp hx2).1
  rw [← Nat.add_assoc, ← hq]
  exact hk_M hq hM k t hk hx2

def hk_Ty (G : hq_G) (a n mo q : Nat) : Prop := G (a) = some (15, 0, 0, 0) ∧ G (n) = some (0, 4000, 0, 0) ∧ G (n + 1) = some (1, 4000, 0, 0) ∧ G (n + 2) = some (10, 0, 0, 0) ∧ G (n + 3) = some (0, 12, 0, 0) ∧ G (n + 5) = some (11, 0, 0, 0) ∧ G (n + 46) = some (12, 0, 0, 0) ∧ G (n + 50) = some (14, 0, 0, 0) ∧ G (n + 51) = some (13, 0, 0, 0) ∧ G (n + 52) = some (13, 0, 0, 0) ∧ G (n + 53) = some (0, 30, 0, 0) ∧ G (n + 55) = some (0, 30, 0, 0) ∧ G (n + 57) = some (0, 30, 0, 0) ∧ G (n + 59) = some (2, 8, 2, 0) ∧ G (n + 60) = some (2, 8, 2, 0) ∧ G (n + 61) = some (2, 8, 2, 0) ∧ G (n + 62) = some (4, 5, 8, 0) ∧ G (n + 87) = some (2, 0, 60, 0) ∧ G (n + 88) = some (6, 0, 0, 0) ∧ G (n + 465) = some (6, 1, 0, 0) ∧ G (mo) = some (24, 0, 0, 0) ∧ hq_RT G q
theorem hk_ty {a n mo q : Nat} (ha : a + 1 = n) (hm : mo = n + 842) (hq : q = n + 843) : hk_Ty (hk_G n) a n mo q := by
  subst hm hq
  exact ⟨by unfold hk_G; rw [if_pos ha], (hk_at0 n).trans rfl, (hk_at n 1).trans rfl, (hk_at n 2).trans rfl, (hk_at n 3).trans rfl, (hk_at n 5).trans rfl, (hk_at n 46).trans rfl, (hk_at n 50).trans rfl, (hk_at n 51).trans rfl, (hk_at n 52).trans rfl, (hk_at n 53).trans rfl, (hk_at n 55).trans rfl, (hk_at n 57).trans rfl, (hk_at n 59).trans rfl, (hk_at n 60).trans rfl, (hk_at n 61).trans rfl, (hk_at n 62).trans rfl, (hk_at n 87).trans rfl, (hk_at n 88).trans rfl, (hk_at n 465).trans rfl, (hk_at n 842).trans rfl, (hk_r n 0).trans rfl, (hk_r n 1).trans rfl, (hk_r n 2).trans rfl, (hk_r n 3).trans rfl, (hk_r n 4).trans rfl, (hk_r n 5).trans rfl, (hk_r n 6).trans rfl, (hk_r n 7).trans rfl, (hk_r n 8).trans rfl, (hk_r n 9).trans rfl, (hk_r n 10).trans rfl, (hk_r n 11).trans rfl, (hk_r n 12).trans rfl, (hk_r n 13).trans rfl, (hk_r n 14).trans rfl, (hk_r n 15).trans rfl, (hk_r n 16).trans rfl, (hk_r n 17).trans rfl, (hk_r n 18).trans rfl, (hk_r n 19).trans rfl, (hk_r n 20).trans rfl, (hk_r n 21).trans rfl, (hk_r n 22).trans rfl, (hk_r n 23).trans rfl, (hk_r n 24).trans rfl, (hk_r n 25).trans rfl, (hk_r n 26).trans rfl, (hk_r n 27).trans rfl, (hk_r n 28).trans rfl, (hk_r n 29).trans rfl, (hk_r n 30).trans rfl, (hk_r n 31).trans rfl, (hk_r n 32).trans rfl, (hk_r n 33).trans rfl, (hk_r n 34).trans rfl, (hk_r n 35).trans rfl, (hk_r n 36).trans rfl, (hk_r n 37).trans rfl, (hk_r n 38).trans rfl, (hk_r n 39).trans rfl, (hk_r n 40).trans rfl, (hk_r n 41).trans rfl, (hk_r n 42).trans rfl, (hk_r n 43).trans rfl, (hk_r n 44).trans rfl, (hk_r n 45).trans rfl, (hk_r n 46).trans rfl⟩
theorem hk_ix {i k : Int32} {L : Nat} (h0 : 0 ≤ i.toInt) (h1 : i.toInt + 6 ≤ L) (hL : L ≤ 3072) (hk0 : 0 ≤ k.toInt) (hk1 : k.toInt ≤ 5) : vp_in (i + k) L := by
  obtain ⟨z, hz, z0, z1⟩ := hq_add i k
  obtain rfl : z = 0 := by omega
  exact hq_in (by omega) (by omega)

set_option maxRecDepth 20000 in
set_option maxHeartbeats 4000000 in
theorem hk_invX0 {cs : Nat → ClassId} {a n mo q : Nat} {V : hp_V} (ha1 : a + 1 = n) (hm1 : mo = n + 842) (hq1 : q = n + 843) (hX : fx_X cs a n V) (hM : fx_M cs mo q V) : hk_InvX cs (hk_G n) a n mo q V := by
  have hI := hk_I ha1 hm1 hq1 hX hM
  have hty := hk_ty ha1 hm1 hq1
  obtain ⟨ty0, ty1, ty2, ty3, ty4, ty5, ty6, ty7, ty8, ty9, ty10, ty11, ty12, ty13, ty14, ty15, ty16, ty17, ty18, ty19, ty20, hR⟩ := id hty
  obtain ⟨ha, h0, h1, h2, h3, h4, h5, h6, h7, h8, h9, h10, h11, h12, h13, h14, h15, h16, h17, h18, h19, h20, h21, h22, h23, h24, h25, h26, h27, h28, h29, h30, h31, h32, h33, h34, h35, h36, h37, h38, h39, h40, h41, h42, h43, h44, h45, h46, h47, h48, h49, h50, h51, h52, h53, h54, h55, h56, h57, h58, h59, h60, h61, h62, h63, h64, h65, h66, h67, h68, h69, h70, h71, h72, h73, h74, h75, ⟨g0, x0, y0_0, y0_1, y0_2, y0_3⟩, ⟨g1, x1, y1_0, y1_1⟩, ⟨g2, x2, y2_0, y2_1⟩, ⟨g3, x3, y3_0, y3_1, y3_2, y3_3, y3_4, y3_5, y3_6, y3_7⟩, ⟨v0, w0⟩, ⟨v1, w1⟩, ⟨v2, w2⟩, ⟨v3, w3⟩, ⟨v4, w4⟩, ⟨v5, w5⟩, ⟨v6, w6⟩, ⟨v7, w7⟩, hb0, hb1⟩ := hX
  have hM9 := hM
  obtain ⟨hM0, h_classes, h_verbs, h_lines, h_className, h_verbName, h_first, h_second, h_classSize, h_verbSize, h_classOf, h_kind, h_whose, h_tense, h_person, h_firstSize, h_secondSize, h_helper, h_helperTense, h_part, h_tape, h_word, h_spare, h_did, h_before, h_form, h_helpForm, h_partForm, h_formSize, h_row, h_rowSize, h_helpSize, h_partSize, h_helpRow, h_partRow, h_helpRowSize, h_partRowSize, h_asked, h_foundVerb, h_foundTense, h_foundPerson, h_uses, ⟨g_misses, h_misses⟩, ⟨g_latest, h_latest⟩, h_changeWhat, h_changeMissed, h_changeTaken, hst⟩ := hM9
  have f0 := hx_fresh (qb := n + 88) hb0
  have f1 := hx_fresh (qb := n + 465) hb1
  have hAR : hm_AR cs V q (fun _ _ => 0) := by
    intro k hk
    rcases (show k = 0 ∨ k = 1 ∨ k = 2 ∨ k = 3 ∨ k = 4 ∨ k = 5 ∨ k = 6 ∨ k = 7 ∨ k = 8 ∨ k = 9 ∨ k = 10 ∨ k = 11 ∨ k = 12 ∨ k = 13 ∨ k = 14 ∨ k = 15 ∨ k = 16 ∨ k = 17 ∨ k = 18 by omega) with rfl | rfl | rfl | rfl | rfl | rfl | rfl | rfl | rfl | rfl | rfl | rfl | rfl | rfl | rfl | rfl | rfl | rfl | rfl
    · exact h_classes
    · exact h_verbs
    · exact h_lines
    · exact h_className
    · exact h_verbName
    · exact h_first
    · exact h_second
    · exact h_classSize
    · exact h_verbSize
    · exact h_classOf
    · exact h_kind
    · exact h_whose
    · exact h_tense
    · exact h_person
    · exact h_firstSize
    · exact h_secondSize
    · exact h_helper
    · exact h_helperTense
    · exact h_part
  refine ⟨hI, 0, 0, -1, 0, 0, 0, 0, 0, 0, 0, 0, 0, 0, 0, 0, -1, 0, 0, 0, 0, 0, 0, 0, 0, 0, 0, 0, 0, n + 88, n + 465, .null, .null, .null, .null, .null, ha, Or.inl ⟨rfl, rfl⟩, by decide, hq_J.empty hb0.1 (by decide), h2, h47, by decide, by decide, h0, hM.1, by decide, by decide, by decide, by decide, by decide, by decide, by decide, by decide, by decide, hm_VQ.empty h_lines (by decide), hst, ?_, ?_⟩
  · exact hk_E.mk (w := (fun _ => 0, 0)) (wb := (fun _ => 0, 0)) ⟨by decide, by decide⟩ hI ty2 (hr_20 hR) h0 (by decide) (fun _ => (by decide : (-128 : Int) ≤ 0 ∧ (0 : Int) ≤ 127)) hAR ⟨by decide, by decide, by decide, hm_NL.nil, ⟨rfl, fun k x hk => by simp at hk⟩, hm_LL.nil⟩ ⟨sp_good.nil, sp_good2.nil, fun _ => (by decide : (-128 : Int) ≤ 0 ∧ (0 : Int) ≤ 127)⟩ (f0.2 _) f0.1 f1.1 ⟨0, _, h3, h4, by decide⟩
  · refine ⟨_, _, _, _, _, _, g0, h56, h57, h58, h_changeWhat, h_changeMissed, h_changeTaken, x0, fun j hj => ?_, Or.inl ⟨by decide, by decide⟩⟩
    rcases (show j = 0 ∨ j = 1 ∨ j = 2 ∨ j = 3 by omega) with rfl | rfl | rfl | rfl
    · exact y0_0
    · exact y0_1
    · exact y0_2
    · exact y0_3

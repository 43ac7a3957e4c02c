
/-! THE CLAIM OUT OF ONE WALK OF THE LAW'S BODY. Your part is whole_start (and what it stands on); all else here is the same for every law, but numbers. -/
def R_law : String := "VerbSchoolLaw"
def lw_P (b : Addr) (xs : List Int32) (args : Array Value) (s : State) : Prop := args = #[.ref b] ∧ s.IntsAt b xs ∧ xs.length ≤ 6 ∧ (Jvm.Cond.and given_1 narrow_1).before args s = true
def lw_Q (_ : Array Value) (s : State) (o : Outcome) (t : State) : Prop := o = .returned (some (.int 1)) ∧ Framed s o t [] 600002 7302232
def lw_Z (below : List Frame) (a : Array Value) (s : State) : State → Prop := fun t => ∃ o, t.status = .running ∧ Ended t below o ∧ lw_Q a s o t
/-- the law's own end, with 1 on the stack, nothing written that was there before, its room as the claim has it -/
theorem lw_ret {p : Program} {l : Launch} {e : Env} {s : State} {m : MethodId} {below : List Frame} {meth : Method} {c : Code} {b : Nat} (hx : p.tables.exec = Jvm.exec) (hb : c.code = code) (hr : meth.sig.returnType = ret) (hlocks : meth.locks = false) {pc : Nat} {H : Heap} {ls : Array Slot} (hdg : decode code pc = .ok (.ireturn, 1)) : W p l e room_1 s m #[Value.ref b] below meth c H [] 600002 7302232 (lw_Z below #[Value.ref b] s) (F0 m pc ls [.int 1]) := by
  intro T hT X
  obtain ⟨fs, hret, hrun, hended, hW, hframe⟩ := X.leave (v := some (.int 1)) (hlocks := hlocks) (fun h => by rw [hr] at h; cases h)
  have hmeth' : T.vm.method? m = some meth := X.method'
  refine ⟨T.setFrames fs, ?_, .returned (some (.int 1)), hrun, hended, rfl, ⟨_, rfl⟩, hW, hframe⟩
  jvm_step X.here [X.here.top, hx, hb, hdg, hmeth', hr, ret, narrow_b1]
  (try refine ⟨rfl, ?_⟩); (try refine ⟨rfl, ?_⟩)
  first | (intro acts; rw [hret _ acts rfl rfl rfl]) | rw [hret _ _ rfl rfl rfl]
  exact Steps.refl _
/-- what holds at the law's entry: the machine, the code, the tables' words (any of lw_tbl by 'hts w (by decide +kernel)'), the script of L ints xs at the cell b, what the Statement gives of the start (any of its parts by flat_of_before) -/
def lw_At (p : Program) (s : State) (m : MethodId) (meth : Method) (c : Code) (b L : Nat) (xs : Nat → Int32) : Prop :=
  p.tables.exec = Jvm.exec ∧ c.code = code ∧ meth.sig.returnType = ret ∧ c.maxLocals = 4 ∧ s.vm.findClass R_law = some m.cls ∧ (∀ w ∈ lw_tbl, w.before #[Value.ref b] s = true) ∧ va_X b L xs s s.heap ∧ b < s.heap.size ∧ meth.locks = false ∧ (Jvm.Cond.and given_1 narrow_1).before #[Value.ref b] s = true
set_option maxHeartbeats 16000000 in
set_option maxRecDepth 100000 in
theorem whole_start {p : Program} {e : Env} {s : State} {m : MethodId} {below : List Frame} {meth : Method} {c : Code} (l : Launch) {b L : Nat} {xs : Nat → Int32} (hL : L ≤ 6) (C0 : lw_At p s m meth c b L xs) : W p l e room_1 s m #[Value.ref b] below meth c s.heap [] 0 0 (lw_Z below #[Value.ref b] s) (entryFrame m ([Value.ref b] : List Value).toArray 4) := by
  obtain ⟨hx, hb, hr, hml, hown, hts0, hX, hbl, hlocks, hgv⟩ := id C0
  have hts : ∀ w ∈ TBG, w.before #[Value.ref b] s = true := fun w h => hts0 w (List.mem_filter.mp h).1
  have hown : s.vm.findClass RL = some m.cls := hown
  obtain ⟨D, cs, hK⟩ := law_K hts0
  obtain ⟨B, hB⟩ : ∃ B, B = s.heap.size := ⟨_, rfl⟩
  have hbA : ¬ hp_F B b := by rw [hB]; exact Nat.not_le.mpr hbl
  have hnA : ∀ a : Nat, a < s.heap.size → ¬ hp_F B a := fun a h => by rw [hB]; exact Nat.not_le.mpr h
  have hG : hp_G B s s.heap := ⟨va_Zqof (hts0 _ sl_UNASSIGNED_STACK) (hts0 _ in_T) (flat_of_before _ hgv _ (by decide +kernel)) hnA, va_Zqof (hts0 _ sl_SUPPRESSED_SENTINEL) (hts0 _ in_T) (flat_of_before _ hgv _ (by decide +kernel)) hnA⟩
  obtain ⟨V0, hV0⟩ : ∃ V0 : hp_V, ∀ x, V0 x = none := ⟨fun _ => none, fun _ => rfl⟩
  have hZ : hp_Z D cs B s V0 s.heap B [] := ⟨fun a e h => absurd ((hV0 a).symm.trans h) (fun h9 => by cases h9), va_S.rf, hK, by omega, hB.symm, hG⟩
  have hl := lv_entry ([.ref b]) (n := 4) (Nat.le_of_ble_eq_true rfl)
  rw [lg_entry_eq]
  generalize (lg_sl ([.ref b]) ++ List.replicate (4 - (lg_sl ([.ref b])).length) Slot.unset).toArray = ls at hl ⊢
  have hl : lv_has ls 4 [(0, .ref b)] := hl
  refine hp_new hx hb hts hown hZ nw_L_7 (Nat.le_of_ble_eq_true rfl) (Nat.le_of_ble_eq_true rfl) dL_law_0 (fun V1 _ e2 o3 hZ => ?_)
  have e2 : V1 (B) = some (.inr (11, [.null, .null, .null, .null, .null, .null, .null, .int (0), .null, .null])) := e2
  refine lv_dup hx hb dL_law_3 rfl ?_
  refine hp_callv (hp_runN (As := []) (rest := [.ref (B)]) hx hb hml hown hts (c_X11_init l D cs B V1 (B + 1) B e2) hZ cv_L_9 rfl rfl ⟨Nat.le_of_ble_eq_true rfl, Nat.le_of_ble_eq_true rfl⟩ rfl hl.1 rfl (Nat.le_of_ble_eq_true rfl) dL_law_4 ⟨(Nat.le_of_ble_eq_true rfl), (Nat.le_of_ble_eq_true rfl)⟩) hZ (fun V4 n5 _ _ hw6 hZ => ?_)
  obtain ⟨hn7, hFX, fr8⟩ := hw6
  have hn7 : B + 843 = n5 := by omega
  subst hn7
  refine lv_astore_n (lv' := [(1, .ref (B)), (0, .ref (b))]) hx hb dL_law_7 rfl hl (by decide) rfl (fun ls hl => ?_)
  refine hp_new hx hb hts hown hZ nw_L_10 (Nat.le_of_ble_eq_true rfl) (Nat.le_of_ble_eq_true rfl) dL_law_8 (fun V9 _ e10 o11 hZ => ?_)
  have e10 : V9 (B + 843) = some (.inr (13, [.null, .null, .null, .null, .null, .null, .null, .null, .null, .null, .null, .null, .null, .null, .null, .null, .null, .null, .null, .null, .null, .int (0), .int (0), .int (0), .int (0), .int (0), .int (0), .int (0), .null, .null, .int (0), .null, .null, .null, .null, .null, .null, .null, .null, .null, .null, .null, .null, .null, .null, .int (0), .null, .int (0), .int (0), .null, .null, .null, .null, .int (0), .int (0), .int (0), .int (0), .int (0), .int (0), .null, .null, .int (0), .int (0), .null, .null, .null])) := e10
  refine lv_dup hx hb dL_law_11 rfl ?_
  refine hp_callv (hp_runN (As := []) (rest := [.ref (B + 843)]) hx hb hml hown hts (c_X13_init l D cs B V9 (B + 844) (B + 843) e10) hZ cv_L_12 rfl rfl ⟨Nat.le_of_ble_eq_true rfl, Nat.le_of_ble_eq_true rfl⟩ rfl hl.1 rfl (Nat.le_of_ble_eq_true rfl) dL_law_12 ⟨(Nat.le_of_ble_eq_true rfl), (Nat.le_of_ble_eq_true rfl)⟩) hZ (fun V12 n13 _ _ hw14 hZ => ?_)
  obtain ⟨hn15, hFM, fr16⟩ := hw14
  have hn15 : B + 891 = n13 := by omega
  subst hn15
  have hFX := fx_X_keep (hi := B + 843) (V1 := V12) (fun x hx9 => (fr16 x (by omega) (by omega)).trans (o11 x (by omega))) (by omega) (by omega) hFX
  refine lv_astore_n (lv' := [(2, .ref (B + 843)), (1, .ref (B)), (0, .ref (b))]) hx hb dL_law_15 rfl hl (by decide) rfl (fun ls hl => ?_)
  refine lv_iconst (v := 0) hx hb dL_law_16 (by decide) ?_
  refine lv_istore_n (lv' := [(3, .int (0)), (2, .ref (B + 843)), (1, .ref (B)), (0, .ref (b))]) hx hb dL_law_17 rfl hl (by decide) rfl (fun ls hl => ?_)
  rcases Nat.lt_or_ge L 6 with hL6 | hL6
  · refine lv_iload_n hx hb dL_law_18 rfl (lv_at hl 0 rfl) ?_
    refine lv_aload_n hx hb dL_law_19 rfl (lv_at hl 3 rfl) ?_
    refine va_slen hx hb hX hbl hbA hZ.2.1 dL_law_20 ?_
    refine lv_bipush (v := 6) hx hb dL_law_21 (by decide) ?_
    refine lv_isub hx hb dL_law_23 ?_
    refine lv_icmp_gt (tgt := 767) hx hb dL_law_24 (by decide) (fun c18 => ?_) (fun c18 => absurd (hq_L6 L hL6) c18)
    refine lv_iconst (v := 1) hx hb dL_law_767 (by decide) ?_
    refine va_forget (fun q hq => by rw [← hB]; exact hZ.2.1.2.2 q hq) ?_
    refine W.widen (k := 600002) (n := 7302232) (Nat.le_of_ble_eq_true rfl) (Nat.le_of_ble_eq_true rfl) ?_
    exact lw_ret hx hb hr hlocks dL_law_768
  · obtain rfl : L = 6 := by omega
    refine lv_iload_n hx hb dL_law_18 rfl (lv_at hl 0 rfl) ?_
    refine lv_aload_n hx hb dL_law_19 rfl (lv_at hl 3 rfl) ?_
    refine va_slen hx hb hX hbl hbA hZ.2.1 dL_law_20 ?_
    refine lv_bipush (v := 6) hx hb dL_law_21 (by decide) ?_
    refine lv_isub hx hb dL_law_23 ?_
    refine lv_icmp_gt (tgt := 767) hx hb dL_law_24 (by decide) (fun c19 => absurd c19 (by decide)) (fun c19 => ?_)
    refine lv_aload_n hx hb dL_law_27 rfl (lv_at hl 3 rfl) ?_
    refine lv_iload_n hx hb dL_law_28 rfl (lv_at hl 0 rfl) ?_
    refine va_sld hx hb hX hbl hbA hZ.2.1 (by unfold vp_in; decide) dL_law_29 ?_
    refine lv_bipush (v := 31) hx hb dL_law_30 (by decide) ?_
    refine lv_iand hx hb dL_law_32 ?_
    refine lv_topi (fun y20 ey21 => ?_)
    rcases Classical.em (y20 = 0) with h22 | h22
    · refine lv_tableIn (off := 91) (tgt := 124) hx hb dL_law_33 (by rw [h22]; decide) (by rw [h22]; decide) (by rw [h22]; decide) (by decide) ?_
      refine lv_aload_n hx hb dL_law_124 rfl (lv_at hl 2 rfl) ?_
      refine lv_aload_n hx hb dL_law_125 rfl (lv_at hl 3 rfl) ?_
      refine lv_iload_n hx hb dL_law_126 rfl (lv_at hl 0 rfl) ?_
      refine lv_iconst (v := 1) hx hb dL_law_127 (by decide) ?_
      refine lv_iadd hx hb dL_law_128 ?_
      refine va_sld hx hb hX hbl hbA hZ.2.1 (by unfold vp_in; decide) dL_law_129 ?_
      refine lv_aload_n hx hb dL_law_130 rfl (lv_at hl 3 rfl) ?_
      refine lv_iload_n hx hb dL_law_131 rfl (lv_at hl 0 rfl) ?_
      refine lv_iconst (v := 2) hx hb dL_law_132 (by decide) ?_
      refine lv_iadd hx hb dL_law_133 ?_
      refine va_sld hx hb hX hbl hbA hZ.2.1 (by unfold vp_in; decide) dL_law_134 ?_
      refine lv_aload_n hx hb dL_law_135 rfl (lv_at hl 3 rfl) ?_
      refine lv_iload_n hx hb dL_law_136 rfl (lv_at hl 0 rfl) ?_
      refine lv_iconst (v := 3) hx hb dL_law_137 (by decide) ?_
      refine lv_iadd hx hb dL_law_138 ?_
      refine va_sld hx hb hX hbl hbA hZ.2.1 (by unfold vp_in; decide) dL_law_139 ?_
      refine lv_aload_n hx hb dL_law_140 rfl (lv_at hl 3 rfl) ?_
      refine lv_iload_n hx hb dL_law_141 rfl (lv_at hl 0 rfl) ?_
      refine lv_iconst (v := 4) hx hb dL_law_142 (by decide) ?_
      refine lv_iadd hx hb dL_law_143 ?_
      refine va_sld hx hb hX hbl hbA hZ.2.1 (by unfold vp_in; decide) dL_law_144 ?_
      refine lv_aload_n hx hb dL_law_145 rfl (lv_at hl 3 rfl) ?_
      refine lv_iload_n hx hb dL_law_146 rfl (lv_at hl 0 rfl) ?_
      refine lv_iconst (v := 5) hx hb dL_law_147 (by decide) ?_
      refine lv_iadd hx hb dL_law_148 ?_
      refine va_sld hx hb hX hbl hbA hZ.2.1 (by unfold vp_in; decide) dL_law_149 ?_
      refine hp_calli (hp_runV (As := [.int ((xs ((0 + 1) : Int32).toNatClampNeg)), .int ((xs ((0 + 2) : Int32).toNatClampNeg)), .int ((xs ((0 + 3) : Int32).toNatClampNeg)), .int ((xs ((0 + 4) : Int32).toNatClampNeg)), .int ((xs ((0 + 5) : Int32).toNatClampNeg))]) (rest := []) hx hb hml hown hts (k_feed l D cs B V12 (B + 891) B (B + 1) (Nat.lt_succ_self B) hFX (xs ((0 + 1) : Int32).toNatClampNeg) (xs ((0 + 2) : Int32).toNatClampNeg) (xs ((0 + 3) : Int32).toNatClampNeg) (xs ((0 + 4) : Int32).toNatClampNeg) (xs ((0 + 5) : Int32).toNatClampNeg)) hZ hFX.1 cv_L_13 rfl rfl ⟨Nat.le_of_ble_eq_true rfl, Nat.le_of_ble_eq_true rfl⟩ rfl hl.1 rfl (Nat.le_of_ble_eq_true rfl) dL_law_150 ⟨(Nat.le_of_ble_eq_true rfl), (Nat.le_of_ble_eq_true rfl)⟩) hZ (fun r26 V23 n24 _ _ hw25 hZ => ?_)
      obtain ⟨ha29, hn27, fr28⟩ := hw25
      have hn27 : B + 891 = n24 := hn27.symm
      subst hn27
      have hFM := fx_M_keep (V1 := V23) fr28 (by omega) (by omega) hFM
      refine lv_aload_n hx hb dL_law_153 rfl (lv_at hl 1 rfl) ?_
      refine lv_aload_n hx hb dL_law_154 rfl (lv_at hl 3 rfl) ?_
      refine lv_iload_n hx hb dL_law_155 rfl (lv_at hl 0 rfl) ?_
      refine lv_iconst (v := 1) hx hb dL_law_156 (by decide) ?_
      refine lv_iadd hx hb dL_law_157 ?_
      refine va_sld hx hb hX hbl hbA hZ.2.1 (by unfold vp_in; decide) dL_law_158 ?_
      refine lv_aload_n hx hb dL_law_159 rfl (lv_at hl 3 rfl) ?_
      refine lv_iload_n hx hb dL_law_160 rfl (lv_at hl 0 rfl) ?_
      refine lv_iconst (v := 2) hx hb dL_law_161 (by decide) ?_
      refine lv_iadd hx hb dL_law_162 ?_
      refine va_sld hx hb hX hbl hbA hZ.2.1 (by unfold vp_in; decide) dL_law_163 ?_
      refine lv_aload_n hx hb dL_law_164 rfl (lv_at hl 3 rfl) ?_
      refine lv_iload_n hx hb dL_law_165 rfl (lv_at hl 0 rfl) ?_
      refine lv_iconst (v := 3) hx hb dL_law_166 (by decide) ?_
      refine lv_iadd hx hb dL_law_167 ?_
      refine va_sld hx hb hX hbl hbA hZ.2.1 (by unfold vp_in; decide) dL_law_168 ?_
      refine lv_aload_n hx hb dL_law_169 rfl (lv_at hl 3 rfl) ?_
      refine lv_iload_n hx hb dL_law_170 rfl (lv_at hl 0 rfl) ?_
      refine lv_iconst (v := 4) hx hb dL_law_171 (by decide) ?_
      refine lv_iadd hx hb dL_law_172 ?_
      refine va_sld hx hb hX hbl hbA hZ.2.1 (by unfold vp_in; decide) dL_law_173 ?_
      refine lv_aload_n hx hb dL_law_174 rfl (lv_at hl 3 rfl) ?_
      refine lv_iload_n hx hb dL_law_175 rfl (lv_at hl 0 rfl) ?_
      refine lv_iconst (v := 5) hx hb dL_law_176 (by decide) ?_
      refine lv_iadd hx hb dL_law_177 ?_
      refine va_sld hx hb hX hbl hbA hZ.2.1 (by unfold vp_in; decide) dL_law_178 ?_
      refine hp_calli (hp_runV (As := [.int ((xs ((0 + 1) : Int32).toNatClampNeg)), .int ((xs ((0 + 2) : Int32).toNatClampNeg)), .int ((xs ((0 + 3) : Int32).toNatClampNeg)), .int ((xs ((0 + 4) : Int32).toNatClampNeg)), .int ((xs ((0 + 5) : Int32).toNatClampNeg))]) (rest := [.int (r26)]) hx hb hml hown hts (r_feed l D cs B V23 (B + 891) (B + 843) (B + 844) (Nat.lt_succ_self (B + 843)) hFM (xs ((0 + 1) : Int32).toNatClampNeg) (xs ((0 + 2) : Int32).toNatClampNeg) (xs ((0 + 3) : Int32).toNatClampNeg) (xs ((0 + 4) : Int32).toNatClampNeg) (xs ((0 + 5) : Int32).toNatClampNeg)) hZ hFM.1 cv_L_17 rfl rfl ⟨Nat.le_of_ble_eq_true rfl, Nat.le_of_ble_eq_true rfl⟩ rfl hl.1 rfl (Nat.le_of_ble_eq_true rfl) dL_law_179 ⟨(Nat.le_of_ble_eq_true rfl), (Nat.le_of_ble_eq_true rfl)⟩) hZ (fun r33 V30 n31 _ _ hw32 hZ => ?_)
      refine lv_icmp_eq (tgt := 761) hx hb dL_law_182 (by decide) (fun c34 => ?_) (fun c34 => absurd (ha29.trans hw32.symm) c34)
      refine lv_iinc (v := 6) (lv' := [(3, .int (6)), (2, .ref (B + 843)), (1, .ref (B)), (0, .ref (b))]) hx hb dL_law_761 hl (k := 0) rfl (by decide) (by decide) rfl (fun ls hl => ?_)
      refine lv_goto (tgt := 18) hx hb dL_law_764 (by decide) ?_
      refine lv_iload_n hx hb dL_law_18 rfl (lv_at hl 0 rfl) ?_
      refine lv_aload_n hx hb dL_law_19 rfl (lv_at hl 3 rfl) ?_
      refine va_slen hx hb hX hbl hbA hZ.2.1 dL_law_20 ?_
      refine lv_bipush (v := 6) hx hb dL_law_21 (by decide) ?_
      refine lv_isub hx hb dL_law_23 ?_
      refine lv_icmp_gt (tgt := 767) hx hb dL_law_24 (by decide) (fun c35 => ?_) (fun c35 => absurd (by decide) c35)
      refine lv_iconst (v := 1) hx hb dL_law_767 (by decide) ?_
      refine va_forget (fun q hq => by rw [← hB]; exact hZ.2.1.2.2 q hq) ?_
      refine W.widen (k := 600002) (n := 7302232) (Nat.le_of_ble_eq_true rfl) (Nat.le_of_ble_eq_true rfl) ?_
      exact lw_ret hx hb hr hlocks dL_law_768
    ·
      rcases Classical.em (y20 = 1) with h36 | h36
      · refine lv_tableIn (off := 154) (tgt := 187) hx hb dL_law_33 (by rw [h36]; decide) (by rw [h36]; decide) (by rw [h36]; decide) (by decide) ?_
        refine lv_aload_n hx hb dL_law_187 rfl (lv_at hl 2 rfl) ?_
        refine lv_aload_n hx hb dL_law_188 rfl (lv_at hl 3 rfl) ?_
        refine lv_iload_n hx hb dL_law_189 rfl (lv_at hl 0 rfl) ?_
        refine lv_iconst (v := 1) hx hb dL_law_190 (by decide) ?_
        refine lv_iadd hx hb dL_law_191 ?_
        refine va_sld hx hb hX hbl hbA hZ.2.1 (by unfold vp_in; decide) dL_law_192 ?_
        refine hp_calli (hp_runV (As := [.int ((xs ((0 + 1) : Int32).toNatClampNeg))]) (rest := []) hx hb hml hown hts (k_end l D cs B V12 (B + 891) B (B + 1) (Nat.lt_succ_self B) hFX (xs ((0 + 1) : Int32).toNatClampNeg)) hZ hFX.1 cv_L_18 rfl rfl ⟨Nat.le_of_ble_eq_true rfl, Nat.le_of_ble_eq_true rfl⟩ rfl hl.1 rfl (Nat.le_of_ble_eq_true rfl) dL_law_193 ⟨(Nat.le_of_ble_eq_true rfl), (Nat.le_of_ble_eq_true rfl)⟩) hZ (fun r40 V37 n38 _ _ hw39 hZ => ?_)
        obtain ⟨ha43, hn41, fr42⟩ := hw39
        have hn41 : B + 891 = n38 := hn41.symm
        subst hn41
        have hFM := fx_M_keep (V1 := V37) fr42 (by omega) (by omega) hFM
        refine lv_aload_n hx hb dL_law_196 rfl (lv_at hl 1 rfl) ?_
        refine lv_aload_n hx hb dL_law_197 rfl (lv_at hl 3 rfl) ?_
        refine lv_iload_n hx hb dL_law_198 rfl (lv_at hl 0 rfl) ?_
        refine lv_iconst (v := 1) hx hb dL_law_199 (by decide) ?_
        refine lv_iadd hx hb dL_law_200 ?_
        refine va_sld hx hb hX hbl hbA hZ.2.1 (by unfold vp_in; decide) dL_law_201 ?_
        refine hp_calli (hp_runV (As := [.int ((xs ((0 + 1) : Int32).toNatClampNeg))]) (rest := [.int (r40)]) hx hb hml hown hts (r_end l D cs B V37 (B + 891) (B + 843) (B + 844) (Nat.lt_succ_self (B + 843)) hFM (xs ((0 + 1) : Int32).toNatClampNeg)) hZ hFM.1 cv_L_22 rfl rfl ⟨Nat.le_of_ble_eq_true rfl, Nat.le_of_ble_eq_true rfl⟩ rfl hl.1 rfl (Nat.le_of_ble_eq_true rfl) dL_law_202 ⟨(Nat.le_of_ble_eq_true rfl), (Nat.le_of_ble_eq_true rfl)⟩) hZ (fun r47 V44 n45 _ _ hw46 hZ => ?_)
        refine lv_icmp_eq (tgt := 761) hx hb dL_law_205 (by decide) (fun c48 => ?_) (fun c48 => absurd (hq_same ha43 hw46) c48)
        refine lv_iinc (v := 6) (lv' := [(3, .int (6)), (2, .ref (B + 843)), (1, .ref (B)), (0, .ref (b))]) hx hb dL_law_761 hl (k := 0) rfl (by decide) (by decide) rfl (fun ls hl => ?_)
        refine lv_goto (tgt := 18) hx hb dL_law_764 (by decide) ?_
        refine lv_iload_n hx hb dL_law_18 rfl (lv_at hl 0 rfl) ?_
        refine lv_aload_n hx hb dL_law_19 rfl (lv_at hl 3 rfl) ?_
        refine va_slen hx hb hX hbl hbA hZ.2.1 dL_law_20 ?_
        refine lv_bipush (v := 6) hx hb dL_law_21 (by decide) ?_
        refine lv_isub hx hb dL_law_23 ?_
        refine lv_icmp_gt (tgt := 767) hx hb dL_law_24 (by decide) (fun c49 => ?_) (fun c49 => absurd (by decide) c49)
        refine lv_iconst (v := 1) hx hb dL_law_767 (by decide) ?_
        refine va_forget (fun q hq => by rw [← hB]; exact hZ.2.1.2.2 q hq) ?_
        refine W.widen (k := 600002) (n := 7302232) (Nat.le_of_ble_eq_true rfl) (Nat.le_of_ble_eq_true rfl) ?_
        exact lw_ret hx hb hr hlocks dL_law_768
      ·
        rcases Classical.em (y20 = 2) with h50 | h50
        · refine lv_tableIn (off := 177) (tgt := 210) hx hb dL_law_33 (by rw [h50]; decide) (by rw [h50]; decide) (by rw [h50]; decide) (by decide) ?_
          refine lv_aload_n hx hb dL_law_210 rfl (lv_at hl 2 rfl) ?_
          refine hp_calli (hp_runV (As := []) (rest := []) hx hb hml hown hts (k_book l D cs B V12 (B + 891) B (B + 1) (Nat.lt_succ_self B) hFX ) hZ hFX.1 cv_L_23 rfl rfl ⟨Nat.le_of_ble_eq_true rfl, Nat.le_of_ble_eq_true rfl⟩ rfl hl.1 rfl (Nat.le_of_ble_eq_true rfl) dL_law_211 ⟨(Nat.le_of_ble_eq_true rfl), (Nat.le_of_ble_eq_true rfl)⟩) hZ (fun r54 V51 n52 _ _ hw53 hZ => ?_)
          obtain ⟨ha57, hn55, fr56⟩ := hw53
          have hn55 : B + 891 = n52 := hn55.symm
          subst hn55
          have hFM := fx_M_keep (V1 := V51) fr56 (by omega) (by omega) hFM
          refine lv_aload_n hx hb dL_law_214 rfl (lv_at hl 1 rfl) ?_
          refine hp_calli (hp_runVW (As := []) (rest := [.int (r54)]) hx hb hml hown hts (r_book l D cs B V51 (B + 891) (B + 843) (B + 844) (Nat.lt_succ_self (B + 843)) hFM ) hZ hFM.1 cv_L_27 rfl rfl ⟨Nat.le_of_ble_eq_true rfl, Nat.le_of_ble_eq_true rfl⟩ rfl hl.1 rfl (Nat.le_of_ble_eq_true rfl) dL_law_215 ⟨(Nat.le_of_ble_eq_true rfl), (Nat.le_of_ble_eq_true rfl)⟩) hZ (fun r61 V58 n59 _ _ hw60 hZ => ?_)
          refine lv_icmp_eq (tgt := 761) hx hb dL_law_218 (by decide) (fun c62 => ?_) (fun c62 => absurd (ha57.trans hw60.symm) c62)
          refine lv_iinc (v := 6) (lv' := [(3, .int (6)), (2, .ref (B + 843)), (1, .ref (B)), (0, .ref (b))]) hx hb dL_law_761 hl (k := 0) rfl (by decide) (by decide) rfl (fun ls hl => ?_)
          refine lv_goto (tgt := 18) hx hb dL_law_764 (by decide) ?_
          refine lv_iload_n hx hb dL_law_18 rfl (lv_at hl 0 rfl) ?_
          refine lv_aload_n hx hb dL_law_19 rfl (lv_at hl 3 rfl) ?_
          refine va_slen hx hb hX hbl hbA hZ.2.1 dL_law_20 ?_
          refine lv_bipush (v := 6) hx hb dL_law_21 (by decide) ?_
          refine lv_isub hx hb dL_law_23 ?_
          refine lv_icmp_gt (tgt := 767) hx hb dL_law_24 (by decide) (fun c63 => ?_) (fun c63 => absurd (by decide) c63)
          refine lv_iconst (v := 1) hx hb dL_law_767 (by decide) ?_
          refine va_forget (fun q hq => by rw [← hB]; exact hZ.2.1.2.2 q hq) ?_
          refine W.widen (k := 600002) (n := 7302232) (Nat.le_of_ble_eq_true rfl) (Nat.le_of_ble_eq_true rfl) ?_
          exact lw_ret hx hb hr hlocks dL_law_768
        ·
          rcases Classical.em (y20 = 3) with h64 | h64
          · refine lv_tableIn (off := 190) (tgt := 223) hx hb dL_law_33 (by rw [h64]; decide) (by rw [h64]; decide) (by rw [h64]; decide) (by decide) ?_
            refine lv_aload_n hx hb dL_law_223 rfl (lv_at hl 2 rfl) ?_
            refine lv_aload_n hx hb dL_law_224 rfl (lv_at hl 3 rfl) ?_
            refine lv_iload_n hx hb dL_law_225 rfl (lv_at hl 0 rfl) ?_
            refine lv_iconst (v := 1) hx hb dL_law_226 (by decide) ?_
            refine lv_iadd hx hb dL_law_227 ?_
            refine va_sld hx hb hX hbl hbA hZ.2.1 (by unfold vp_in; decide) dL_law_228 ?_
            refine hp_calli (hp_runV (As := [.int ((xs ((0 + 1) : Int32).toNatClampNeg))]) (rest := []) hx hb hml hown hts (k_fault l D cs B V12 (B + 891) B (B + 1) (Nat.lt_succ_self B) hFX (xs ((0 + 1) : Int32).toNatClampNeg)) hZ hFX.1 cv_L_28 rfl rfl ⟨Nat.le_of_ble_eq_true rfl, Nat.le_of_ble_eq_true rfl⟩ rfl hl.1 rfl (Nat.le_of_ble_eq_true rfl) dL_law_229 ⟨(Nat.le_of_ble_eq_true rfl), (Nat.le_of_ble_eq_true rfl)⟩) hZ (fun r68 V65 n66 _ _ hw67 hZ => ?_)
            obtain ⟨ha71, hn69, fr70⟩ := hw67
            have hn69 : B + 891 = n66 := hn69.symm
            subst hn69
            have hFM := fx_M_keep (V1 := V65) fr70 (by omega) (by omega) hFM
            refine lv_aload_n hx hb dL_law_232 rfl (lv_at hl 1 rfl) ?_
            refine lv_aload_n hx hb dL_law_233 rfl (lv_at hl 3 rfl) ?_
            refine lv_iload_n hx hb dL_law_234 rfl (lv_at hl 0 rfl) ?_
            refine lv_iconst (v := 1) hx hb dL_law_235 (by decide) ?_
            refine lv_iadd hx hb dL_law_236 ?_
            refine va_sld hx hb hX hbl hbA hZ.2.1 (by unfold vp_in; decide) dL_law_237 ?_
            refine hp_calli (hp_runV (As := [.int ((xs ((0 + 1) : Int32).toNatClampNeg))]) (rest := [.int (r68)]) hx hb hml hown hts (r_fault l D cs B V65 (B + 891) (B + 843) (B + 844) (Nat.lt_succ_self (B + 843)) hFM (xs ((0 + 1) : Int32).toNatClampNeg)) hZ hFM.1 cv_L_31 rfl rfl ⟨Nat.le_of_ble_eq_true rfl, Nat.le_of_ble_eq_true rfl⟩ rfl hl.1 rfl (Nat.le_of_ble_eq_true rfl) dL_law_238 ⟨(Nat.le_of_ble_eq_true rfl), (Nat.le_of_ble_eq_true rfl)⟩) hZ (fun r75 V72 n73 _ _ hw74 hZ => ?_)
            refine lv_icmp_eq (tgt := 761) hx hb dL_law_241 (by decide) (fun c76 => ?_) (fun c76 => absurd (hq_same ha71 hw74) c76)
            refine lv_iinc (v := 6) (lv' := [(3, .int (6)), (2, .ref (B + 843)), (1, .ref (B)), (0, .ref (b))]) hx hb dL_law_761 hl (k := 0) rfl (by decide) (by decide) rfl (fun ls hl => ?_)
            refine lv_goto (tgt := 18) hx hb dL_law_764 (by decide) ?_
            refine lv_iload_n hx hb dL_law_18 rfl (lv_at hl 0 rfl) ?_
            refine lv_aload_n hx hb dL_law_19 rfl (lv_at hl 3 rfl) ?_
            refine va_slen hx hb hX hbl hbA hZ.2.1 dL_law_20 ?_
            refine lv_bipush (v := 6) hx hb dL_law_21 (by decide) ?_
            refine lv_isub hx hb dL_law_23 ?_
            refine lv_icmp_gt (tgt := 767) hx hb dL_law_24 (by decide) (fun c77 => ?_) (fun c77 => absurd (by decide) c77)
            refine lv_iconst (v := 1) hx hb dL_law_767 (by decide) ?_
            refine va_forget (fun q hq => by rw [← hB]; exact hZ.2.1.2.2 q hq) ?_
            refine W.widen (k := 600002) (n := 7302232) (Nat.le_of_ble_eq_true rfl) (Nat.le_of_ble_eq_true rfl) ?_
            exact lw_ret hx hb hr hlocks dL_law_768
          ·
            rcases Classical.em (y20 = 4) with h78 | h78
            · refine lv_tableIn (off := 213) (tgt := 246) hx hb dL_law_33 (by rw [h78]; decide) (by rw [h78]; decide) (by rw [h78]; decide) (by decide) ?_
              refine lv_aload_n hx hb dL_law_246 rfl (lv_at hl 2 rfl) ?_
              refine lv_aload_n hx hb dL_law_247 rfl (lv_at hl 3 rfl) ?_
              refine lv_iload_n hx hb dL_law_248 rfl (lv_at hl 0 rfl) ?_
              refine lv_iconst (v := 1) hx hb dL_law_249 (by decide) ?_
              refine lv_iadd hx hb dL_law_250 ?_
              refine va_sld hx hb hX hbl hbA hZ.2.1 (by unfold vp_in; decide) dL_law_251 ?_
              refine lv_aload_n hx hb dL_law_252 rfl (lv_at hl 3 rfl) ?_
              refine lv_iload_n hx hb dL_law_253 rfl (lv_at hl 0 rfl) ?_
              refine lv_iconst (v := 2) hx hb dL_law_254 (by decide) ?_
              refine lv_iadd hx hb dL_law_255 ?_
              refine va_sld hx hb hX hbl hbA hZ.2.1 (by unfold vp_in; decide) dL_law_256 ?_
              refine hp_calli (hp_runV (As := [.int ((xs ((0 + 1) : Int32).toNatClampNeg)), .int ((xs ((0 + 2) : Int32).toNatClampNeg))]) (rest := []) hx hb hml hown hts (k_verb l D cs B V12 (B + 891) B (B + 1) (Nat.lt_succ_self B) hFX (xs ((0 + 1) : Int32).toNatClampNeg) (xs ((0 + 2) : Int32).toNatClampNeg)) hZ hFX.1 cv_L_32 rfl rfl ⟨Nat.le_of_ble_eq_true rfl, Nat.le_of_ble_eq_true rfl⟩ rfl hl.1 rfl (Nat.le_of_ble_eq_true rfl) dL_law_257 ⟨(Nat.le_of_ble_eq_true rfl), (Nat.le_of_ble_eq_true rfl)⟩) hZ (fun r82 V79 n80 _ _ hw81 hZ => ?_)
              obtain ⟨ha85, hn83, fr84⟩ := hw81
              have hn83 : B + 891 = n80 := hn83.symm
              subst hn83
              have hFM := fx_M_keep (V1 := V79) fr84 (by omega) (by omega) hFM
              refine lv_aload_n hx hb dL_law_260 rfl (lv_at hl 1 rfl) ?_
              refine lv_aload_n hx hb dL_law_261 rfl (lv_at hl 3 rfl) ?_
              refine lv_iload_n hx hb dL_law_262 rfl (lv_at hl 0 rfl) ?_
              refine lv_iconst (v := 1) hx hb dL_law_263 (by decide) ?_
              refine lv_iadd hx hb dL_law_264 ?_
              refine va_sld hx hb hX hbl hbA hZ.2.1 (by unfold vp_in; decide) dL_law_265 ?_
              refine lv_aload_n hx hb dL_law_266 rfl (lv_at hl 3 rfl) ?_
              refine lv_iload_n hx hb dL_law_267 rfl (lv_at hl 0 rfl) ?_
              refine lv_iconst (v := 2) hx hb dL_law_268 (by decide) ?_
              refine lv_iadd hx hb dL_law_269 ?_
              refine va_sld hx hb hX hbl hbA hZ.2.1 (by unfold vp_in; decide) dL_law_270 ?_
              refine hp_calli (hp_runV (As := [.int ((xs ((0 + 1) : Int32).toNatClampNeg)), .int ((xs ((0 + 2) : Int32).toNatClampNeg))]) (rest := [.int (r82)]) hx hb hml hown hts (r_verb l D cs B V79 (B + 891) (B + 843) (B + 844) (Nat.lt_succ_self (B + 843)) hFM (xs ((0 + 1) : Int32).toNatClampNeg) (xs ((0 + 2) : Int32).toNatClampNeg)) hZ hFM.1 cv_L_36 rfl rfl ⟨Nat.le_of_ble_eq_true rfl, Nat.le_of_ble_eq_true rfl⟩ rfl hl.1 rfl (Nat.le_of_ble_eq_true rfl) dL_law_271 ⟨(Nat.le_of_ble_eq_true rfl), (Nat.le_of_ble_eq_true rfl)⟩) hZ (fun r89 V86 n87 _ _ hw88 hZ => ?_)
              refine lv_icmp_eq (tgt := 761) hx hb dL_law_274 (by decide) (fun c90 => ?_) (fun c90 => absurd (ha85.trans hw88.symm) c90)
              refine lv_iinc (v := 6) (lv' := [(3, .int (6)), (2, .ref (B + 843)), (1, .ref (B)), (0, .ref (b))]) hx hb dL_law_761 hl (k := 0) rfl (by decide) (by decide) rfl (fun ls hl => ?_)
              refine lv_goto (tgt := 18) hx hb dL_law_764 (by decide) ?_
              refine lv_iload_n hx hb dL_law_18 rfl (lv_at hl 0 rfl) ?_
              refine lv_aload_n hx hb dL_law_19 rfl (lv_at hl 3 rfl) ?_
              refine va_slen hx hb hX hbl hbA hZ.2.1 dL_law_20 ?_
              refine lv_bipush (v := 6) hx hb dL_law_21 (by decide) ?_
              refine lv_isub hx hb dL_law_23 ?_
              refine lv_icmp_gt (tgt := 767) hx hb dL_law_24 (by decide) (fun c91 => ?_) (fun c91 => absurd (by decide) c91)
              refine lv_iconst (v := 1) hx hb dL_law_767 (by decide) ?_
              refine va_forget (fun q hq => by rw [← hB]; exact hZ.2.1.2.2 q hq) ?_
              refine W.widen (k := 600002) (n := 7302232) (Nat.le_of_ble_eq_true rfl) (Nat.le_of_ble_eq_true rfl) ?_
              exact lw_ret hx hb hr hlocks dL_law_768
            ·
              rcases Classical.em (y20 = 5) with h92 | h92
              · refine lv_tableIn (off := 246) (tgt := 279) hx hb dL_law_33 (by rw [h92]; decide) (by rw [h92]; decide) (by rw [h92]; decide) (by decide) ?_
                refine lv_aload_n hx hb dL_law_279 rfl (lv_at hl 2 rfl) ?_
                refine lv_aload_n hx hb dL_law_280 rfl (lv_at hl 3 rfl) ?_
                refine lv_iload_n hx hb dL_law_281 rfl (lv_at hl 0 rfl) ?_
                refine lv_iconst (v := 1) hx hb dL_law_282 (by decide) ?_
                refine lv_iadd hx hb dL_law_283 ?_
                refine va_sld hx hb hX hbl hbA hZ.2.1 (by unfold vp_in; decide) dL_law_284 ?_
                refine lv_aload_n hx hb dL_law_285 rfl (lv_at hl 3 rfl) ?_
                refine lv_iload_n hx hb dL_law_286 rfl (lv_at hl 0 rfl) ?_
                refine lv_iconst (v := 2) hx hb dL_law_287 (by decide) ?_
                refine lv_iadd hx hb dL_law_288 ?_
                refine va_sld hx hb hX hbl hbA hZ.2.1 (by unfold vp_in; decide) dL_law_289 ?_
                refine hp_calli (hp_runV (As := [.int ((xs ((0 + 1) : Int32).toNatClampNeg)), .int ((xs ((0 + 2) : Int32).toNatClampNeg))]) (rest := []) hx hb hml hown hts (k_line l D cs B V12 (B + 891) B (B + 1) (Nat.lt_succ_self B) hFX (xs ((0 + 1) : Int32).toNatClampNeg) (xs ((0 + 2) : Int32).toNatClampNeg)) hZ hFX.1 cv_L_37 rfl rfl ⟨Nat.le_of_ble_eq_true rfl, Nat.le_of_ble_eq_true rfl⟩ rfl hl.1 rfl (Nat.le_of_ble_eq_true rfl) dL_law_290 ⟨(Nat.le_of_ble_eq_true rfl), (Nat.le_of_ble_eq_true rfl)⟩) hZ (fun r96 V93 n94 _ _ hw95 hZ => ?_)
                obtain ⟨ha99, hn97, fr98⟩ := hw95
                have hn97 : B + 891 = n94 := hn97.symm
                subst hn97
                have hFM := fx_M_keep (V1 := V93) fr98 (by omega) (by omega) hFM
                refine lv_aload_n hx hb dL_law_293 rfl (lv_at hl 1 rfl) ?_
                refine lv_aload_n hx hb dL_law_294 rfl (lv_at hl 3 rfl) ?_
                refine lv_iload_n hx hb dL_law_295 rfl (lv_at hl 0 rfl) ?_
                refine lv_iconst (v := 1) hx hb dL_law_296 (by decide) ?_
                refine lv_iadd hx hb dL_law_297 ?_
                refine va_sld hx hb hX hbl hbA hZ.2.1 (by unfold vp_in; decide) dL_law_298 ?_
                refine lv_aload_n hx hb dL_law_299 rfl (lv_at hl 3 rfl) ?_
                refine lv_iload_n hx hb dL_law_300 rfl (lv_at hl 0 rfl) ?_
                refine lv_iconst (v := 2) hx hb dL_law_301 (by decide) ?_
                refine lv_iadd hx hb dL_law_302 ?_
                refine va_sld hx hb hX hbl hbA hZ.2.1 (by unfold vp_in; decide) dL_law_303 ?_
                refine hp_calli (hp_runV (As := [.int ((xs ((0 + 1) : Int32).toNatClampNeg)), .int ((xs ((0 + 2) : Int32).toNatClampNeg))]) (rest := [.int (r96)]) hx hb hml hown hts (r_line l D cs B V93 (B + 891) (B + 843) (B + 844) (Nat.lt_succ_self (B + 843)) hFM (xs ((0 + 1) : Int32).toNatClampNeg) (xs ((0 + 2) : Int32).toNatClampNeg)) hZ hFM.1 cv_L_40 rfl rfl ⟨Nat.le_of_ble_eq_true rfl, Nat.le_of_ble_eq_true rfl⟩ rfl hl.1 rfl (Nat.le_of_ble_eq_true rfl) dL_law_304 ⟨(Nat.le_of_ble_eq_true rfl), (Nat.le_of_ble_eq_true rfl)⟩) hZ (fun r103 V100 n101 _ _ hw102 hZ => ?_)
                refine lv_icmp_eq (tgt := 761) hx hb dL_law_307 (by decide) (fun c104 => ?_) (fun c104 => absurd (ha99.trans hw102.symm) c104)
                refine lv_iinc (v := 6) (lv' := [(3, .int (6)), (2, .ref (B + 843)), (1, .ref (B)), (0, .ref (b))]) hx hb dL_law_761 hl (k := 0) rfl (by decide) (by decide) rfl (fun ls hl => ?_)
                refine lv_goto (tgt := 18) hx hb dL_law_764 (by decide) ?_
                refine lv_iload_n hx hb dL_law_18 rfl (lv_at hl 0 rfl) ?_
                refine lv_aload_n hx hb dL_law_19 rfl (lv_at hl 3 rfl) ?_
                refine va_slen hx hb hX hbl hbA hZ.2.1 dL_law_20 ?_
                refine lv_bipush (v := 6) hx hb dL_law_21 (by decide) ?_
                refine lv_isub hx hb dL_law_23 ?_
                refine lv_icmp_gt (tgt := 767) hx hb dL_law_24 (by decide) (fun c105 => ?_) (fun c105 => absurd (by decide) c105)
                refine lv_iconst (v := 1) hx hb dL_law_767 (by decide) ?_
                refine va_forget (fun q hq => by rw [← hB]; exact hZ.2.1.2.2 q hq) ?_
                refine W.widen (k := 600002) (n := 7302232) (Nat.le_of_ble_eq_true rfl) (Nat.le_of_ble_eq_true rfl) ?_
                exact lw_ret hx hb hr hlocks dL_law_768
              ·
                rcases Classical.em (y20 = 6) with h106 | h106
                · refine lv_tableIn (off := 279) (tgt := 312) hx hb dL_law_33 (by rw [h106]; decide) (by rw [h106]; decide) (by rw [h106]; decide) (by decide) ?_
                  refine lv_aload_n hx hb dL_law_312 rfl (lv_at hl 2 rfl) ?_
                  refine lv_aload_n hx hb dL_law_313 rfl (lv_at hl 3 rfl) ?_
                  refine lv_iload_n hx hb dL_law_314 rfl (lv_at hl 0 rfl) ?_
                  refine lv_iconst (v := 1) hx hb dL_law_315 (by decide) ?_
                  refine lv_iadd hx hb dL_law_316 ?_
                  refine va_sld hx hb hX hbl hbA hZ.2.1 (by unfold vp_in; decide) dL_law_317 ?_
                  refine lv_aload_n hx hb dL_law_318 rfl (lv_at hl 3 rfl) ?_
                  refine lv_iload_n hx hb dL_law_319 rfl (lv_at hl 0 rfl) ?_
                  refine lv_iconst (v := 2) hx hb dL_law_320 (by decide) ?_
                  refine lv_iadd hx hb dL_law_321 ?_
                  refine va_sld hx hb hX hbl hbA hZ.2.1 (by unfold vp_in; decide) dL_law_322 ?_
                  refine lv_aload_n hx hb dL_law_323 rfl (lv_at hl 3 rfl) ?_
                  refine lv_iload_n hx hb dL_law_324 rfl (lv_at hl 0 rfl) ?_
                  refine lv_iconst (v := 3) hx hb dL_law_325 (by decide) ?_
                  refine lv_iadd hx hb dL_law_326 ?_
                  refine va_sld hx hb hX hbl hbA hZ.2.1 (by unfold vp_in; decide) dL_law_327 ?_
                  refine hp_calli (hp_runV (As := [.int ((xs ((0 + 1) : Int32).toNatClampNeg)), .int ((xs ((0 + 2) : Int32).toNatClampNeg)), .int ((xs ((0 + 3) : Int32).toNatClampNeg))]) (rest := []) hx hb hml hown hts (k_forms l D cs B V12 (B + 891) B (B + 1) (Nat.lt_succ_self B) hFX (xs ((0 + 1) : Int32).toNatClampNeg) (xs ((0 + 2) : Int32).toNatClampNeg) (xs ((0 + 3) : Int32).toNatClampNeg)) hZ hFX.1 cv_L_41 rfl rfl ⟨Nat.le_of_ble_eq_true rfl, Nat.le_of_ble_eq_true rfl⟩ rfl hl.1 rfl (Nat.le_of_ble_eq_true rfl) dL_law_328 ⟨(Nat.le_of_ble_eq_true rfl), (Nat.le_of_ble_eq_true rfl)⟩) hZ (fun r110 V107 n108 _ _ hw109 hZ => ?_)
                  obtain ⟨ha113, hn111, fr112⟩ := hw109
                  have hn111 : B + 891 = n108 := hn111.symm
                  subst hn111
                  have hFM := fx_M_keep (V1 := V107) fr112 (by omega) (by omega) hFM
                  refine lv_aload_n hx hb dL_law_331 rfl (lv_at hl 1 rfl) ?_
                  refine lv_aload_n hx hb dL_law_332 rfl (lv_at hl 3 rfl) ?_
                  refine lv_iload_n hx hb dL_law_333 rfl (lv_at hl 0 rfl) ?_
                  refine lv_iconst (v := 1) hx hb dL_law_334 (by decide) ?_
                  refine lv_iadd hx hb dL_law_335 ?_
                  refine va_sld hx hb hX hbl hbA hZ.2.1 (by unfold vp_in; decide) dL_law_336 ?_
                  refine lv_aload_n hx hb dL_law_337 rfl (lv_at hl 3 rfl) ?_
                  refine lv_iload_n hx hb dL_law_338 rfl (lv_at hl 0 rfl) ?_
                  refine lv_iconst (v := 2) hx hb dL_law_339 (by decide) ?_
                  refine lv_iadd hx hb dL_law_340 ?_
                  refine va_sld hx hb hX hbl hbA hZ.2.1 (by unfold vp_in; decide) dL_law_341 ?_
                  refine lv_aload_n hx hb dL_law_342 rfl (lv_at hl 3 rfl) ?_
                  refine lv_iload_n hx hb dL_law_343 rfl (lv_at hl 0 rfl) ?_
                  refine lv_iconst (v := 3) hx hb dL_law_344 (by decide) ?_
                  refine lv_iadd hx hb dL_law_345 ?_
                  refine va_sld hx hb hX hbl hbA hZ.2.1 (by unfold vp_in; decide) dL_law_346 ?_
                  refine hp_calli (hp_runV (As := [.int ((xs ((0 + 1) : Int32).toNatClampNeg)), .int ((xs ((0 + 2) : Int32).toNatClampNeg)), .int ((xs ((0 + 3) : Int32).toNatClampNeg))]) (rest := [.int (r110)]) hx hb hml hown hts (r_forms l D cs B V107 (B + 891) (B + 843) (B + 844) (Nat.lt_succ_self (B + 843)) hFM (xs ((0 + 1) : Int32).toNatClampNeg) (xs ((0 + 2) : Int32).toNatClampNeg) (xs ((0 + 3) : Int32).toNatClampNeg)) hZ hFM.1 cv_L_45 rfl rfl ⟨Nat.le_of_ble_eq_true rfl, Nat.le_of_ble_eq_true rfl⟩ rfl hl.1 rfl (Nat.le_of_ble_eq_true rfl) dL_law_347 ⟨(Nat.le_of_ble_eq_true rfl), (Nat.le_of_ble_eq_true rfl)⟩) hZ (fun r117 V114 n115 _ _ hw116 hZ => ?_)
                  refine lv_icmp_eq (tgt := 761) hx hb dL_law_350 (by decide) (fun c118 => ?_) (fun c118 => absurd (ha113.trans hw116.symm) c118)
                  refine lv_iinc (v := 6) (lv' := [(3, .int (6)), (2, .ref (B + 843)), (1, .ref (B)), (0, .ref (b))]) hx hb dL_law_761 hl (k := 0) rfl (by decide) (by decide) rfl (fun ls hl => ?_)
                  refine lv_goto (tgt := 18) hx hb dL_law_764 (by decide) ?_
                  refine lv_iload_n hx hb dL_law_18 rfl (lv_at hl 0 rfl) ?_
                  refine lv_aload_n hx hb dL_law_19 rfl (lv_at hl 3 rfl) ?_
                  refine va_slen hx hb hX hbl hbA hZ.2.1 dL_law_20 ?_
                  refine lv_bipush (v := 6) hx hb dL_law_21 (by decide) ?_
                  refine lv_isub hx hb dL_law_23 ?_
                  refine lv_icmp_gt (tgt := 767) hx hb dL_law_24 (by decide) (fun c119 => ?_) (fun c119 => absurd (by decide) c119)
                  refine lv_iconst (v := 1) hx hb dL_law_767 (by decide) ?_
                  refine va_forget (fun q hq => by rw [← hB]; exact hZ.2.1.2.2 q hq) ?_
                  refine W.widen (k := 600002) (n := 7302232) (Nat.le_of_ble_eq_true rfl) (Nat.le_of_ble_eq_true rfl) ?_
                  exact lw_ret hx hb hr hlocks dL_law_768
                ·
                  rcases Classical.em (y20 = 7) with h120 | h120
                  · refine lv_tableIn (off := 322) (tgt := 355) hx hb dL_law_33 (by rw [h120]; decide) (by rw [h120]; decide) (by rw [h120]; decide) (by decide) ?_
                    refine lv_aload_n hx hb dL_law_355 rfl (lv_at hl 2 rfl) ?_
                    refine lv_aload_n hx hb dL_law_356 rfl (lv_at hl 3 rfl) ?_
                    refine lv_iload_n hx hb dL_law_357 rfl (lv_at hl 0 rfl) ?_
                    refine lv_iconst (v := 1) hx hb dL_law_358 (by decide) ?_
                    refine lv_iadd hx hb dL_law_359 ?_
                    refine va_sld hx hb hX hbl hbA hZ.2.1 (by unfold vp_in; decide) dL_law_360 ?_
                    refine lv_aload_n hx hb dL_law_361 rfl (lv_at hl 3 rfl) ?_
                    refine lv_iload_n hx hb dL_law_362 rfl (lv_at hl 0 rfl) ?_
                    refine lv_iconst (v := 2) hx hb dL_law_363 (by decide) ?_
                    refine lv_iadd hx hb dL_law_364 ?_
                    refine va_sld hx hb hX hbl hbA hZ.2.1 (by unfold vp_in; decide) dL_law_365 ?_
                    refine lv_aload_n hx hb dL_law_366 rfl (lv_at hl 3 rfl) ?_
                    refine lv_iload_n hx hb dL_law_367 rfl (lv_at hl 0 rfl) ?_
                    refine lv_iconst (v := 3) hx hb dL_law_368 (by decide) ?_
                    refine lv_iadd hx hb dL_law_369 ?_
                    refine va_sld hx hb hX hbl hbA hZ.2.1 (by unfold vp_in; decide) dL_law_370 ?_
                    refine lv_aload_n hx hb dL_law_371 rfl (lv_at hl 3 rfl) ?_
                    refine lv_iload_n hx hb dL_law_372 rfl (lv_at hl 0 rfl) ?_
                    refine lv_iconst (v := 4) hx hb dL_law_373 (by decide) ?_
                    refine lv_iadd hx hb dL_law_374 ?_
                    refine va_sld hx hb hX hbl hbA hZ.2.1 (by unfold vp_in; decide) dL_law_375 ?_
                    refine lv_aload_n hx hb dL_law_376 rfl (lv_at hl 3 rfl) ?_
                    refine lv_iload_n hx hb dL_law_377 rfl (lv_at hl 0 rfl) ?_
                    refine lv_iconst (v := 5) hx hb dL_law_378 (by decide) ?_
                    refine lv_iadd hx hb dL_law_379 ?_
                    refine va_sld hx hb hX hbl hbA hZ.2.1 (by unfold vp_in; decide) dL_law_380 ?_
                    refine hp_calli (hp_runV (As := [.int ((xs ((0 + 1) : Int32).toNatClampNeg)), .int ((xs ((0 + 2) : Int32).toNatClampNeg)), .int ((xs ((0 + 3) : Int32).toNatClampNeg)), .int ((xs ((0 + 4) : Int32).toNatClampNeg)), .int ((xs ((0 + 5) : Int32).toNatClampNeg))]) (rest := []) hx hb hml hown hts (k_form l D cs B V12 (B + 891) B (B + 1) (Nat.lt_succ_self B) hFX (xs ((0 + 1) : Int32).toNatClampNeg) (xs ((0 + 2) : Int32).toNatClampNeg) (xs ((0 + 3) : Int32).toNatClampNeg) (xs ((0 + 4) : Int32).toNatClampNeg) (xs ((0 + 5) : Int32).toNatClampNeg)) hZ hFX.1 cv_L_46 rfl rfl ⟨Nat.le_of_ble_eq_true rfl, Nat.le_of_ble_eq_true rfl⟩ rfl hl.1 rfl (Nat.le_of_ble_eq_true rfl) dL_law_381 ⟨(Nat.le_of_ble_eq_true rfl), (Nat.le_of_ble_eq_true rfl)⟩) hZ (fun r124 V121 n122 _ _ hw123 hZ => ?_)
                    obtain ⟨ha127, hn125, fr126⟩ := hw123
                    have hn125 : B + 891 = n122 := hn125.symm
                    subst hn125
                    have hFM := fx_M_keep (V1 := V121) fr126 (by omega) (by omega) hFM
                    refine lv_aload_n hx hb dL_law_384 rfl (lv_at hl 1 rfl) ?_
                    refine lv_aload_n hx hb dL_law_385 rfl (lv_at hl 3 rfl) ?_
                    refine lv_iload_n hx hb dL_law_386 rfl (lv_at hl 0 rfl) ?_
                    refine lv_iconst (v := 1) hx hb dL_law_387 (by decide) ?_
                    refine lv_iadd hx hb dL_law_388 ?_
                    refine va_sld hx hb hX hbl hbA hZ.2.1 (by unfold vp_in; decide) dL_law_389 ?_
                    refine lv_aload_n hx hb dL_law_390 rfl (lv_at hl 3 rfl) ?_
                    refine lv_iload_n hx hb dL_law_391 rfl (lv_at hl 0 rfl) ?_
                    refine lv_iconst (v := 2) hx hb dL_law_392 (by decide) ?_
                    refine lv_iadd hx hb dL_law_393 ?_
                    refine va_sld hx hb hX hbl hbA hZ.2.1 (by unfold vp_in; decide) dL_law_394 ?_
                    refine lv_aload_n hx hb dL_law_395 rfl (lv_at hl 3 rfl) ?_
                    refine lv_iload_n hx hb dL_law_396 rfl (lv_at hl 0 rfl) ?_
                    refine lv_iconst (v := 3) hx hb dL_law_397 (by decide) ?_
                    refine lv_iadd hx hb dL_law_398 ?_
                    refine va_sld hx hb hX hbl hbA hZ.2.1 (by unfold vp_in; decide) dL_law_399 ?_
                    refine lv_aload_n hx hb dL_law_400 rfl (lv_at hl 3 rfl) ?_
                    refine lv_iload_n hx hb dL_law_401 rfl (lv_at hl 0 rfl) ?_
                    refine lv_iconst (v := 4) hx hb dL_law_402 (by decide) ?_
                    refine lv_iadd hx hb dL_law_403 ?_
                    refine va_sld hx hb hX hbl hbA hZ.2.1 (by unfold vp_in; decide) dL_law_404 ?_
                    refine lv_aload_n hx hb dL_law_405 rfl (lv_at hl 3 rfl) ?_
                    refine lv_iload_n hx hb dL_law_406 rfl (lv_at hl 0 rfl) ?_
                    refine lv_iconst (v := 5) hx hb dL_law_407 (by decide) ?_
                    refine lv_iadd hx hb dL_law_408 ?_
                    refine va_sld hx hb hX hbl hbA hZ.2.1 (by unfold vp_in; decide) dL_law_409 ?_
                    refine hp_calli (hp_runV (As := [.int ((xs ((0 + 1) : Int32).toNatClampNeg)), .int ((xs ((0 + 2) : Int32).toNatClampNeg)), .int ((xs ((0 + 3) : Int32).toNatClampNeg)), .int ((xs ((0 + 4) : Int32).toNatClampNeg)), .int ((xs ((0 + 5) : Int32).toNatClampNeg))]) (rest := [.int (r124)]) hx hb hml hown hts (r_form l D cs B V121 (B + 891) (B + 843) (B + 844) (Nat.lt_succ_self (B + 843)) hFM (xs ((0 + 1) : Int32).toNatClampNeg) (xs ((0 + 2) : Int32).toNatClampNeg) (xs ((0 + 3) : Int32).toNatClampNeg) (xs ((0 + 4) : Int32).toNatClampNeg) (xs ((0 + 5) : Int32).toNatClampNeg)) hZ hFM.1 cv_L_49 rfl rfl ⟨Nat.le_of_ble_eq_true rfl, Nat.le_of_ble_eq_true rfl⟩ rfl hl.1 rfl (Nat.le_of_ble_eq_true rfl) dL_law_410 ⟨(Nat.le_of_ble_eq_true rfl), (Nat.le_of_ble_eq_true rfl)⟩) hZ (fun r131 V128 n129 _ _ hw130 hZ => ?_)
                    refine lv_icmp_eq (tgt := 761) hx hb dL_law_413 (by decide) (fun c132 => ?_) (fun c132 => absurd (ha127.trans hw130.symm) c132)
                    refine lv_iinc (v := 6) (lv' := [(3, .int (6)), (2, .ref (B + 843)), (1, .ref (B)), (0, .ref (b))]) hx hb dL_law_761 hl (k := 0) rfl (by decide) (by decide) rfl (fun ls hl => ?_)
                    refine lv_goto (tgt := 18) hx hb dL_law_764 (by decide) ?_
                    refine lv_iload_n hx hb dL_law_18 rfl (lv_at hl 0 rfl) ?_
                    refine lv_aload_n hx hb dL_law_19 rfl (lv_at hl 3 rfl) ?_
                    refine va_slen hx hb hX hbl hbA hZ.2.1 dL_law_20 ?_
                    refine lv_bipush (v := 6) hx hb dL_law_21 (by decide) ?_
                    refine lv_isub hx hb dL_law_23 ?_
                    refine lv_icmp_gt (tgt := 767) hx hb dL_law_24 (by decide) (fun c133 => ?_) (fun c133 => absurd (by decide) c133)
                    refine lv_iconst (v := 1) hx hb dL_law_767 (by decide) ?_
                    refine va_forget (fun q hq => by rw [← hB]; exact hZ.2.1.2.2 q hq) ?_
                    refine W.widen (k := 600002) (n := 7302232) (Nat.le_of_ble_eq_true rfl) (Nat.le_of_ble_eq_true rfl) ?_
                    exact lw_ret hx hb hr hlocks dL_law_768
                  ·
                    rcases Classical.em (y20 = 8) with h134 | h134
                    · refine lv_tableIn (off := 385) (tgt := 418) hx hb dL_law_33 (by rw [h134]; decide) (by rw [h134]; decide) (by rw [h134]; decide) (by decide) ?_
                      refine lv_aload_n hx hb dL_law_418 rfl (lv_at hl 2 rfl) ?_
                      refine lv_aload_n hx hb dL_law_419 rfl (lv_at hl 3 rfl) ?_
                      refine lv_iload_n hx hb dL_law_420 rfl (lv_at hl 0 rfl) ?_
                      refine lv_iconst (v := 1) hx hb dL_law_421 (by decide) ?_
                      refine lv_iadd hx hb dL_law_422 ?_
                      refine va_sld hx hb hX hbl hbA hZ.2.1 (by unfold vp_in; decide) dL_law_423 ?_
                      refine lv_aload_n hx hb dL_law_424 rfl (lv_at hl 3 rfl) ?_
                      refine lv_iload_n hx hb dL_law_425 rfl (lv_at hl 0 rfl) ?_
                      refine lv_iconst (v := 2) hx hb dL_law_426 (by decide) ?_
                      refine lv_iadd hx hb dL_law_427 ?_
                      refine va_sld hx hb hX hbl hbA hZ.2.1 (by unfold vp_in; decide) dL_law_428 ?_
                      refine lv_aload_n hx hb dL_law_429 rfl (lv_at hl 3 rfl) ?_
                      refine lv_iload_n hx hb dL_law_430 rfl (lv_at hl 0 rfl) ?_
                      refine lv_iconst (v := 3) hx hb dL_law_431 (by decide) ?_
                      refine lv_iadd hx hb dL_law_432 ?_
                      refine va_sld hx hb hX hbl hbA hZ.2.1 (by unfold vp_in; decide) dL_law_433 ?_
                      refine lv_aload_n hx hb dL_law_434 rfl (lv_at hl 3 rfl) ?_
                      refine lv_iload_n hx hb dL_law_435 rfl (lv_at hl 0 rfl) ?_
                      refine lv_iconst (v := 4) hx hb dL_law_436 (by decide) ?_
                      refine lv_iadd hx hb dL_law_437 ?_
                      refine va_sld hx hb hX hbl hbA hZ.2.1 (by unfold vp_in; decide) dL_law_438 ?_
                      refine lv_aload_n hx hb dL_law_439 rfl (lv_at hl 3 rfl) ?_
                      refine lv_iload_n hx hb dL_law_440 rfl (lv_at hl 0 rfl) ?_
                      refine lv_iconst (v := 5) hx hb dL_law_441 (by decide) ?_
                      refine lv_iadd hx hb dL_law_442 ?_
                      refine va_sld hx hb hX hbl hbA hZ.2.1 (by unfold vp_in; decide) dL_law_443 ?_
                      refine hp_calli (hp_runV (As := [.int ((xs ((0 + 1) : Int32).toNatClampNeg)), .int ((xs ((0 + 2) : Int32).toNatClampNeg)), .int ((xs ((0 + 3) : Int32).toNatClampNeg)), .int ((xs ((0 + 4) : Int32).toNatClampNeg)), .int ((xs ((0 + 5) : Int32).toNatClampNeg))]) (rest := []) hx hb hml hown hts (k_row l D cs B V12 (B + 891) B (B + 1) (Nat.lt_succ_self B) hFX (xs ((0 + 1) : Int32).toNatClampNeg) (xs ((0 + 2) : Int32).toNatClampNeg) (xs ((0 + 3) : Int32).toNatClampNeg) (xs ((0 + 4) : Int32).toNatClampNeg) (xs ((0 + 5) : Int32).toNatClampNeg)) hZ hFX.1 cv_L_50 rfl rfl ⟨Nat.le_of_ble_eq_true rfl, Nat.le_of_ble_eq_true rfl⟩ rfl hl.1 rfl (Nat.le_of_ble_eq_true rfl) dL_law_444 ⟨(Nat.le_of_ble_eq_true rfl), (Nat.le_of_ble_eq_true rfl)⟩) hZ (fun r138 V135 n136 _ _ hw137 hZ => ?_)
                      obtain ⟨ha141, hn139, fr140⟩ := hw137
                      have hn139 : B + 891 = n136 := hn139.symm
                      subst hn139
                      have hFM := fx_M_keep (V1 := V135) fr140 (by omega) (by omega) hFM
                      refine lv_aload_n hx hb dL_law_447 rfl (lv_at hl 1 rfl) ?_
                      refine lv_aload_n hx hb dL_law_448 rfl (lv_at hl 3 rfl) ?_
                      refine lv_iload_n hx hb dL_law_449 rfl (lv_at hl 0 rfl) ?_
                      refine lv_iconst (v := 1) hx hb dL_law_450 (by decide) ?_
                      refine lv_iadd hx hb dL_law_451 ?_
                      refine va_sld hx hb hX hbl hbA hZ.2.1 (by unfold vp_in; decide) dL_law_452 ?_
                      refine lv_aload_n hx hb dL_law_453 rfl (lv_at hl 3 rfl) ?_
                      refine lv_iload_n hx hb dL_law_454 rfl (lv_at hl 0 rfl) ?_
                      refine lv_iconst (v := 2) hx hb dL_law_455 (by decide) ?_
                      refine lv_iadd hx hb dL_law_456 ?_
                      refine va_sld hx hb hX hbl hbA hZ.2.1 (by unfold vp_in; decide) dL_law_457 ?_
                      refine lv_aload_n hx hb dL_law_458 rfl (lv_at hl 3 rfl) ?_
                      refine lv_iload_n hx hb dL_law_459 rfl (lv_at hl 0 rfl) ?_
                      refine lv_iconst (v := 3) hx hb dL_law_460 (by decide) ?_
                      refine lv_iadd hx hb dL_law_461 ?_
                      refine va_sld hx hb hX hbl hbA hZ.2.1 (by unfold vp_in; decide) dL_law_462 ?_
                      refine lv_aload_n hx hb dL_law_463 rfl (lv_at hl 3 rfl) ?_
                      refine lv_iload_n hx hb dL_law_464 rfl (lv_at hl 0 rfl) ?_
                      refine lv_iconst (v := 4) hx hb dL_law_465 (by decide) ?_
                      refine lv_iadd hx hb dL_law_466 ?_
                      refine va_sld hx hb hX hbl hbA hZ.2.1 (by unfold vp_in; decide) dL_law_467 ?_
                      refine lv_aload_n hx hb dL_law_468 rfl (lv_at hl 3 rfl) ?_
                      refine lv_iload_n hx hb dL_law_469 rfl (lv_at hl 0 rfl) ?_
                      refine lv_iconst (v := 5) hx hb dL_law_470 (by decide) ?_
                      refine lv_iadd hx hb dL_law_471 ?_
                      refine va_sld hx hb hX hbl hbA hZ.2.1 (by unfold vp_in; decide) dL_law_472 ?_
                      refine hp_calli (hp_runV (As := [.int ((xs ((0 + 1) : Int32).toNatClampNeg)), .int ((xs ((0 + 2) : Int32).toNatClampNeg)), .int ((xs ((0 + 3) : Int32).toNatClampNeg)), .int ((xs ((0 + 4) : Int32).toNatClampNeg)), .int ((xs ((0 + 5) : Int32).toNatClampNeg))]) (rest := [.int (r138)]) hx hb hml hown hts (r_row l D cs B V135 (B + 891) (B + 843) (B + 844) (Nat.lt_succ_self (B + 843)) hFM (xs ((0 + 1) : Int32).toNatClampNeg) (xs ((0 + 2) : Int32).toNatClampNeg) (xs ((0 + 3) : Int32).toNatClampNeg) (xs ((0 + 4) : Int32).toNatClampNeg) (xs ((0 + 5) : Int32).toNatClampNeg)) hZ hFM.1 cv_L_53 rfl rfl ⟨Nat.le_of_ble_eq_true rfl, Nat.le_of_ble_eq_true rfl⟩ rfl hl.1 rfl (Nat.le_of_ble_eq_true rfl) dL_law_473 ⟨(Nat.le_of_ble_eq_true rfl), (Nat.le_of_ble_eq_true rfl)⟩) hZ (fun r145 V142 n143 _ _ hw144 hZ => ?_)
                      refine lv_icmp_eq (tgt := 761) hx hb dL_law_476 (by decide) (fun c146 => ?_) (fun c146 => absurd (ha141.trans hw144.symm) c146)
                      refine lv_iinc (v := 6) (lv' := [(3, .int (6)), (2, .ref (B + 843)), (1, .ref (B)), (0, .ref (b))]) hx hb dL_law_761 hl (k := 0) rfl (by decide) (by decide) rfl (fun ls hl => ?_)
                      refine lv_goto (tgt := 18) hx hb dL_law_764 (by decide) ?_
                      refine lv_iload_n hx hb dL_law_18 rfl (lv_at hl 0 rfl) ?_
                      refine lv_aload_n hx hb dL_law_19 rfl (lv_at hl 3 rfl) ?_
                      refine va_slen hx hb hX hbl hbA hZ.2.1 dL_law_20 ?_
                      refine lv_bipush (v := 6) hx hb dL_law_21 (by decide) ?_
                      refine lv_isub hx hb dL_law_23 ?_
                      refine lv_icmp_gt (tgt := 767) hx hb dL_law_24 (by decide) (fun c147 => ?_) (fun c147 => absurd (by decide) c147)
                      refine lv_iconst (v := 1) hx hb dL_law_767 (by decide) ?_
                      refine va_forget (fun q hq => by rw [← hB]; exact hZ.2.1.2.2 q hq) ?_
                      refine W.widen (k := 600002) (n := 7302232) (Nat.le_of_ble_eq_true rfl) (Nat.le_of_ble_eq_true rfl) ?_
                      exact lw_ret hx hb hr hlocks dL_law_768
                    ·
                      rcases Classical.em (y20 = 9) with h148 | h148
                      · refine lv_tableIn (off := 448) (tgt := 481) hx hb dL_law_33 (by rw [h148]; decide) (by rw [h148]; decide) (by rw [h148]; decide) (by decide) ?_
                        refine lv_aload_n hx hb dL_law_481 rfl (lv_at hl 2 rfl) ?_
                        refine lv_aload_n hx hb dL_law_482 rfl (lv_at hl 3 rfl) ?_
                        refine lv_iload_n hx hb dL_law_483 rfl (lv_at hl 0 rfl) ?_
                        refine lv_iconst (v := 1) hx hb dL_law_484 (by decide) ?_
                        refine lv_iadd hx hb dL_law_485 ?_
                        refine va_sld hx hb hX hbl hbA hZ.2.1 (by unfold vp_in; decide) dL_law_486 ?_
                        refine lv_aload_n hx hb dL_law_487 rfl (lv_at hl 3 rfl) ?_
                        refine lv_iload_n hx hb dL_law_488 rfl (lv_at hl 0 rfl) ?_
                        refine lv_iconst (v := 2) hx hb dL_law_489 (by decide) ?_
                        refine lv_iadd hx hb dL_law_490 ?_
                        refine va_sld hx hb hX hbl hbA hZ.2.1 (by unfold vp_in; decide) dL_law_491 ?_
                        refine lv_aload_n hx hb dL_law_492 rfl (lv_at hl 3 rfl) ?_
                        refine lv_iload_n hx hb dL_law_493 rfl (lv_at hl 0 rfl) ?_
                        refine lv_iconst (v := 3) hx hb dL_law_494 (by decide) ?_
                        refine lv_iadd hx hb dL_law_495 ?_
                        refine va_sld hx hb hX hbl hbA hZ.2.1 (by unfold vp_in; decide) dL_law_496 ?_
                        refine hp_calli (hp_runV (As := [.int ((xs ((0 + 1) : Int32).toNatClampNeg)), .int ((xs ((0 + 2) : Int32).toNatClampNeg)), .int ((xs ((0 + 3) : Int32).toNatClampNeg))]) (rest := []) hx hb hml hown hts (k_rivals l D cs B V12 (B + 891) B (B + 1) (Nat.lt_succ_self B) hFX (xs ((0 + 1) : Int32).toNatClampNeg) (xs ((0 + 2) : Int32).toNatClampNeg) (xs ((0 + 3) : Int32).toNatClampNeg)) hZ hFX.1 cv_L_54 rfl rfl ⟨Nat.le_of_ble_eq_true rfl, Nat.le_of_ble_eq_true rfl⟩ rfl hl.1 rfl (Nat.le_of_ble_eq_true rfl) dL_law_497 ⟨(Nat.le_of_ble_eq_true rfl), (Nat.le_of_ble_eq_true rfl)⟩) hZ (fun r152 V149 n150 _ _ hw151 hZ => ?_)
                        obtain ⟨ha155, hn153, fr154⟩ := hw151
                        have hn153 : B + 891 = n150 := hn153.symm
                        subst hn153
                        have hFM := fx_M_keep (V1 := V149) fr154 (by omega) (by omega) hFM
                        refine lv_aload_n hx hb dL_law_500 rfl (lv_at hl 1 rfl) ?_
                        refine lv_aload_n hx hb dL_law_501 rfl (lv_at hl 3 rfl) ?_
                        refine lv_iload_n hx hb dL_law_502 rfl (lv_at hl 0 rfl) ?_
                        refine lv_iconst (v := 1) hx hb dL_law_503 (by decide) ?_
                        refine lv_iadd hx hb dL_law_504 ?_
                        refine va_sld hx hb hX hbl hbA hZ.2.1 (by unfold vp_in; decide) dL_law_505 ?_
                        refine lv_aload_n hx hb dL_law_506 rfl (lv_at hl 3 rfl) ?_
                        refine lv_iload_n hx hb dL_law_507 rfl (lv_at hl 0 rfl) ?_
                        refine lv_iconst (v := 2) hx hb dL_law_508 (by decide) ?_
                        refine lv_iadd hx hb dL_law_509 ?_
                        refine va_sld hx hb hX hbl hbA hZ.2.1 (by unfold vp_in; decide) dL_law_510 ?_
                        refine lv_aload_n hx hb dL_law_511 rfl (lv_at hl 3 rfl) ?_
                        refine lv_iload_n hx hb dL_law_512 rfl (lv_at hl 0 rfl) ?_
                        refine lv_iconst (v := 3) hx hb dL_law_513 (by decide) ?_
                        refine lv_iadd hx hb dL_law_514 ?_
                        refine va_sld hx hb hX hbl hbA hZ.2.1 (by unfold vp_in; decide) dL_law_515 ?_
                        refine hp_calli (hp_runV (As := [.int ((xs ((0 + 1) : Int32).toNatClampNeg)), .int ((xs ((0 + 2) : Int32).toNatClampNeg)), .int ((xs ((0 + 3) : Int32).toNatClampNeg))]) (rest := [.int (r152)]) hx hb hml hown hts (r_rivals l D cs B V149 (B + 891) (B + 843) (B + 844) (Nat.lt_succ_self (B + 843)) hFM (xs ((0 + 1) : Int32).toNatClampNeg) (xs ((0 + 2) : Int32).toNatClampNeg) (xs ((0 + 3) : Int32).toNatClampNeg)) hZ hFM.1 cv_L_57 rfl rfl ⟨Nat.le_of_ble_eq_true rfl, Nat.le_of_ble_eq_true rfl⟩ rfl hl.1 rfl (Nat.le_of_ble_eq_true rfl) dL_law_516 ⟨(Nat.le_of_ble_eq_true rfl), (Nat.le_of_ble_eq_true rfl)⟩) hZ (fun r159 V156 n157 _ _ hw158 hZ => ?_)
                        refine lv_icmp_eq (tgt := 761) hx hb dL_law_519 (by decide) (fun c160 => ?_) (fun c160 => absurd (ha155.trans hw158.symm) c160)
                        refine lv_iinc (v := 6) (lv' := [(3, .int (6)), (2, .ref (B + 843)), (1, .ref (B)), (0, .ref (b))]) hx hb dL_law_761 hl (k := 0) rfl (by decide) (by decide) rfl (fun ls hl => ?_)
                        refine lv_goto (tgt := 18) hx hb dL_law_764 (by decide) ?_
                        refine lv_iload_n hx hb dL_law_18 rfl (lv_at hl 0 rfl) ?_
                        refine lv_aload_n hx hb dL_law_19 rfl (lv_at hl 3 rfl) ?_
                        refine va_slen hx hb hX hbl hbA hZ.2.1 dL_law_20 ?_
                        refine lv_bipush (v := 6) hx hb dL_law_21 (by decide) ?_
                        refine lv_isub hx hb dL_law_23 ?_
                        refine lv_icmp_gt (tgt := 767) hx hb dL_law_24 (by decide) (fun c161 => ?_) (fun c161 => absurd (by decide) c161)
                        refine lv_iconst (v := 1) hx hb dL_law_767 (by decide) ?_
                        refine va_forget (fun q hq => by rw [← hB]; exact hZ.2.1.2.2 q hq) ?_
                        refine W.widen (k := 600002) (n := 7302232) (Nat.le_of_ble_eq_true rfl) (Nat.le_of_ble_eq_true rfl) ?_
                        exact lw_ret hx hb hr hlocks dL_law_768
                      ·
                        rcases Classical.em (y20 = 10) with h162 | h162
                        · refine lv_tableIn (off := 491) (tgt := 524) hx hb dL_law_33 (by rw [h162]; decide) (by rw [h162]; decide) (by rw [h162]; decide) (by decide) ?_
                          refine lv_aload_n hx hb dL_law_524 rfl (lv_at hl 2 rfl) ?_
                          refine hp_calli (hp_runV (As := []) (rest := []) hx hb hml hown hts (k_read l D cs B V12 (B + 891) B (B + 1) (Nat.lt_succ_self B) hFX ) hZ hFX.1 cv_L_58 rfl rfl ⟨Nat.le_of_ble_eq_true rfl, Nat.le_of_ble_eq_true rfl⟩ rfl hl.1 rfl (Nat.le_of_ble_eq_true rfl) dL_law_525 ⟨(Nat.le_of_ble_eq_true rfl), (Nat.le_of_ble_eq_true rfl)⟩) hZ (fun r166 V163 n164 _ _ hw165 hZ => ?_)
                          obtain ⟨ha169, hn167, fr168⟩ := hw165
                          have hn167 : B + 891 = n164 := hn167.symm
                          subst hn167
                          have hFM := fx_M_keep (V1 := V163) fr168 (by omega) (by omega) hFM
                          refine lv_aload_n hx hb dL_law_528 rfl (lv_at hl 1 rfl) ?_
                          refine hp_calli (hp_runV (As := []) (rest := [.int (r166)]) hx hb hml hown hts (r_read l D cs B V163 (B + 891) (B + 843) (B + 844) (Nat.lt_succ_self (B + 843)) hFM ) hZ hFM.1 cv_L_61 rfl rfl ⟨Nat.le_of_ble_eq_true rfl, Nat.le_of_ble_eq_true rfl⟩ rfl hl.1 rfl (Nat.le_of_ble_eq_true rfl) dL_law_529 ⟨(Nat.le_of_ble_eq_true rfl), (Nat.le_of_ble_eq_true rfl)⟩) hZ (fun r173 V170 n171 _ _ hw172 hZ => ?_)
                          refine lv_icmp_eq (tgt := 761) hx hb dL_law_532 (by decide) (fun c174 => ?_) (fun c174 => absurd (ha169.trans hw172.symm) c174)
                          refine lv_iinc (v := 6) (lv' := [(3, .int (6)), (2, .ref (B + 843)), (1, .ref (B)), (0, .ref (b))]) hx hb dL_law_761 hl (k := 0) rfl (by decide) (by decide) rfl (fun ls hl => ?_)
                          refine lv_goto (tgt := 18) hx hb dL_law_764 (by decide) ?_
                          refine lv_iload_n hx hb dL_law_18 rfl (lv_at hl 0 rfl) ?_
                          refine lv_aload_n hx hb dL_law_19 rfl (lv_at hl 3 rfl) ?_
                          refine va_slen hx hb hX hbl hbA hZ.2.1 dL_law_20 ?_
                          refine lv_bipush (v := 6) hx hb dL_law_21 (by decide) ?_
                          refine lv_isub hx hb dL_law_23 ?_
                          refine lv_icmp_gt (tgt := 767) hx hb dL_law_24 (by decide) (fun c175 => ?_) (fun c175 => absurd (by decide) c175)
                          refine lv_iconst (v := 1) hx hb dL_law_767 (by decide) ?_
                          refine va_forget (fun q hq => by rw [← hB]; exact hZ.2.1.2.2 q hq) ?_
                          refine W.widen (k := 600002) (n := 7302232) (Nat.le_of_ble_eq_true rfl) (Nat.le_of_ble_eq_true rfl) ?_
                          exact lw_ret hx hb hr hlocks dL_law_768
                        ·
                          rcases Classical.em (y20 = 11) with h176 | h176
                          · refine lv_tableIn (off := 504) (tgt := 537) hx hb dL_law_33 (by rw [h176]; decide) (by rw [h176]; decide) (by rw [h176]; decide) (by decide) ?_
                            refine lv_aload_n hx hb dL_law_537 rfl (lv_at hl 2 rfl) ?_
                            refine lv_aload_n hx hb dL_law_538 rfl (lv_at hl 3 rfl) ?_
                            refine lv_iload_n hx hb dL_law_539 rfl (lv_at hl 0 rfl) ?_
                            refine lv_iconst (v := 1) hx hb dL_law_540 (by decide) ?_
                            refine lv_iadd hx hb dL_law_541 ?_
                            refine va_sld hx hb hX hbl hbA hZ.2.1 (by unfold vp_in; decide) dL_law_542 ?_
                            refine lv_aload_n hx hb dL_law_543 rfl (lv_at hl 3 rfl) ?_
                            refine lv_iload_n hx hb dL_law_544 rfl (lv_at hl 0 rfl) ?_
                            refine lv_iconst (v := 2) hx hb dL_law_545 (by decide) ?_
                            refine lv_iadd hx hb dL_law_546 ?_
                            refine va_sld hx hb hX hbl hbA hZ.2.1 (by unfold vp_in; decide) dL_law_547 ?_
                            refine hp_calli (hp_runV (As := [.int ((xs ((0 + 1) : Int32).toNatClampNeg)), .int ((xs ((0 + 2) : Int32).toNatClampNeg))]) (rest := []) hx hb hml hown hts (k_place l D cs B V12 (B + 891) B (B + 1) (Nat.lt_succ_self B) hFX (xs ((0 + 1) : Int32).toNatClampNeg) (xs ((0 + 2) : Int32).toNatClampNeg)) hZ hFX.1 cv_L_62 rfl rfl ⟨Nat.le_of_ble_eq_true rfl, Nat.le_of_ble_eq_true rfl⟩ rfl hl.1 rfl (Nat.le_of_ble_eq_true rfl) dL_law_548 ⟨(Nat.le_of_ble_eq_true rfl), (Nat.le_of_ble_eq_true rfl)⟩) hZ (fun r180 V177 n178 _ _ hw179 hZ => ?_)
                            obtain ⟨ha183, hn181, fr182⟩ := hw179
                            have hn181 : B + 891 = n178 := hn181.symm
                            subst hn181
                            have hFM := fx_M_keep (V1 := V177) fr182 (by omega) (by omega) hFM
                            refine lv_aload_n hx hb dL_law_551 rfl (lv_at hl 1 rfl) ?_
                            refine lv_aload_n hx hb dL_law_552 rfl (lv_at hl 3 rfl) ?_
                            refine lv_iload_n hx hb dL_law_553 rfl (lv_at hl 0 rfl) ?_
                            refine lv_iconst (v := 1) hx hb dL_law_554 (by decide) ?_
                            refine lv_iadd hx hb dL_law_555 ?_
                            refine va_sld hx hb hX hbl hbA hZ.2.1 (by unfold vp_in; decide) dL_law_556 ?_
                            refine lv_aload_n hx hb dL_law_557 rfl (lv_at hl 3 rfl) ?_
                            refine lv_iload_n hx hb dL_law_558 rfl (lv_at hl 0 rfl) ?_
                            refine lv_iconst (v := 2) hx hb dL_law_559 (by decide) ?_
                            refine lv_iadd hx hb dL_law_560 ?_
                            refine va_sld hx hb hX hbl hbA hZ.2.1 (by unfold vp_in; decide) dL_law_561 ?_
                            refine hp_calli (hp_runV (As := [.int ((xs ((0 + 1) : Int32).toNatClampNeg)), .int ((xs ((0 + 2) : Int32).toNatClampNeg))]) (rest := [.int (r180)]) hx hb hml hown hts (r_place l D cs B V177 (B + 891) (B + 843) (B + 844) (Nat.lt_succ_self (B + 843)) hFM (xs ((0 + 1) : Int32).toNatClampNeg) (xs ((0 + 2) : Int32).toNatClampNeg)) hZ hFM.1 cv_L_65 rfl rfl ⟨Nat.le_of_ble_eq_true rfl, Nat.le_of_ble_eq_true rfl⟩ rfl hl.1 rfl (Nat.le_of_ble_eq_true rfl) dL_law_562 ⟨(Nat.le_of_ble_eq_true rfl), (Nat.le_of_ble_eq_true rfl)⟩) hZ (fun r187 V184 n185 _ _ hw186 hZ => ?_)
                            refine lv_icmp_eq (tgt := 761) hx hb dL_law_565 (by decide) (fun c188 => ?_) (fun c188 => absurd (ha183.trans hw186.symm) c188)
                            refine lv_iinc (v := 6) (lv' := [(3, .int (6)), (2, .ref (B + 843)), (1, .ref (B)), (0, .ref (b))]) hx hb dL_law_761 hl (k := 0) rfl (by decide) (by decide) rfl (fun ls hl => ?_)
                            refine lv_goto (tgt := 18) hx hb dL_law_764 (by decide) ?_
                            refine lv_iload_n hx hb dL_law_18 rfl (lv_at hl 0 rfl) ?_
                            refine lv_aload_n hx hb dL_law_19 rfl (lv_at hl 3 rfl) ?_
                            refine va_slen hx hb hX hbl hbA hZ.2.1 dL_law_20 ?_
                            refine lv_bipush (v := 6) hx hb dL_law_21 (by decide) ?_
                            refine lv_isub hx hb dL_law_23 ?_
                            refine lv_icmp_gt (tgt := 767) hx hb dL_law_24 (by decide) (fun c189 => ?_) (fun c189 => absurd (by decide) c189)
                            refine lv_iconst (v := 1) hx hb dL_law_767 (by decide) ?_
                            refine va_forget (fun q hq => by rw [← hB]; exact hZ.2.1.2.2 q hq) ?_
                            refine W.widen (k := 600002) (n := 7302232) (Nat.le_of_ble_eq_true rfl) (Nat.le_of_ble_eq_true rfl) ?_
                            exact lw_ret hx hb hr hlocks dL_law_768
                          ·
                            rcases Classical.em (y20 = 12) with h190 | h190
                            · refine lv_tableIn (off := 537) (tgt := 570) hx hb dL_law_33 (by rw [h190]; decide) (by rw [h190]; decide) (by rw [h190]; decide) (by decide) ?_
                              refine lv_aload_n hx hb dL_law_570 rfl (lv_at hl 2 rfl) ?_
                              refine hp_calli (hp_runV (As := []) (rest := []) hx hb hml hown hts (k_unused l D cs B V12 (B + 891) B (B + 1) (Nat.lt_succ_self B) hFX ) hZ hFX.1 cv_L_66 rfl rfl ⟨Nat.le_of_ble_eq_true rfl, Nat.le_of_ble_eq_true rfl⟩ rfl hl.1 rfl (Nat.le_of_ble_eq_true rfl) dL_law_571 ⟨(Nat.le_of_ble_eq_true rfl), (Nat.le_of_ble_eq_true rfl)⟩) hZ (fun r194 V191 n192 _ _ hw193 hZ => ?_)
                              obtain ⟨ha197, hn195, fr196⟩ := hw193
                              have hn195 : B + 891 = n192 := hn195.symm
                              subst hn195
                              have hFM := fx_M_keep (V1 := V191) fr196 (by omega) (by omega) hFM
                              refine lv_aload_n hx hb dL_law_574 rfl (lv_at hl 1 rfl) ?_
                              refine hp_calli (hp_runV (As := []) (rest := [.int (r194)]) hx hb hml hown hts (r_unused l D cs B V191 (B + 891) (B + 843) (B + 844) (Nat.lt_succ_self (B + 843)) hFM ) hZ hFM.1 cv_L_69 rfl rfl ⟨Nat.le_of_ble_eq_true rfl, Nat.le_of_ble_eq_true rfl⟩ rfl hl.1 rfl (Nat.le_of_ble_eq_true rfl) dL_law_575 ⟨(Nat.le_of_ble_eq_true rfl), (Nat.le_of_ble_eq_true rfl)⟩) hZ (fun r201 V198 n199 _ _ hw200 hZ => ?_)
                              refine lv_icmp_eq (tgt := 761) hx hb dL_law_578 (by decide) (fun c202 => ?_) (fun c202 => absurd (ha197.trans hw200.symm) c202)
                              refine lv_iinc (v := 6) (lv' := [(3, .int (6)), (2, .ref (B + 843)), (1, .ref (B)), (0, .ref (b))]) hx hb dL_law_761 hl (k := 0) rfl (by decide) (by decide) rfl (fun ls hl => ?_)
                              refine lv_goto (tgt := 18) hx hb dL_law_764 (by decide) ?_
                              refine lv_iload_n hx hb dL_law_18 rfl (lv_at hl 0 rfl) ?_
                              refine lv_aload_n hx hb dL_law_19 rfl (lv_at hl 3 rfl) ?_
                              refine va_slen hx hb hX hbl hbA hZ.2.1 dL_law_20 ?_
                              refine lv_bipush (v := 6) hx hb dL_law_21 (by decide) ?_
                              refine lv_isub hx hb dL_law_23 ?_
                              refine lv_icmp_gt (tgt := 767) hx hb dL_law_24 (by decide) (fun c203 => ?_) (fun c203 => absurd (by decide) c203)
                              refine lv_iconst (v := 1) hx hb dL_law_767 (by decide) ?_
                              refine va_forget (fun q hq => by rw [← hB]; exact hZ.2.1.2.2 q hq) ?_
                              refine W.widen (k := 600002) (n := 7302232) (Nat.le_of_ble_eq_true rfl) (Nat.le_of_ble_eq_true rfl) ?_
                              exact lw_ret hx hb hr hlocks dL_law_768
                            ·
                              rcases Classical.em (y20 = 13) with h204 | h204
                              · refine lv_tableIn (off := 550) (tgt := 583) hx hb dL_law_33 (by rw [h204]; decide) (by rw [h204]; decide) (by rw [h204]; decide) (by decide) ?_
                                refine lv_aload_n hx hb dL_law_583 rfl (lv_at hl 2 rfl) ?_
                                refine lv_aload_n hx hb dL_law_584 rfl (lv_at hl 3 rfl) ?_
                                refine lv_iload_n hx hb dL_law_585 rfl (lv_at hl 0 rfl) ?_
                                refine lv_iconst (v := 1) hx hb dL_law_586 (by decide) ?_
                                refine lv_iadd hx hb dL_law_587 ?_
                                refine va_sld hx hb hX hbl hbA hZ.2.1 (by unfold vp_in; decide) dL_law_588 ?_
                                refine hp_calli (hp_runV (As := [.int ((xs ((0 + 1) : Int32).toNatClampNeg))]) (rest := []) hx hb hml hown hts (k_users l D cs B V12 (B + 891) B (B + 1) (Nat.lt_succ_self B) hFX (xs ((0 + 1) : Int32).toNatClampNeg)) hZ hFX.1 cv_L_70 rfl rfl ⟨Nat.le_of_ble_eq_true rfl, Nat.le_of_ble_eq_true rfl⟩ rfl hl.1 rfl (Nat.le_of_ble_eq_true rfl) dL_law_589 ⟨(Nat.le_of_ble_eq_true rfl), (Nat.le_of_ble_eq_true rfl)⟩) hZ (fun r208 V205 n206 _ _ hw207 hZ => ?_)
                                obtain ⟨ha211, hn209, fr210⟩ := hw207
                                have hn209 : B + 891 = n206 := hn209.symm
                                subst hn209
                                have hFM := fx_M_keep (V1 := V205) fr210 (by omega) (by omega) hFM
                                refine lv_aload_n hx hb dL_law_592 rfl (lv_at hl 1 rfl) ?_
                                refine lv_aload_n hx hb dL_law_593 rfl (lv_at hl 3 rfl) ?_
                                refine lv_iload_n hx hb dL_law_594 rfl (lv_at hl 0 rfl) ?_
                                refine lv_iconst (v := 1) hx hb dL_law_595 (by decide) ?_
                                refine lv_iadd hx hb dL_law_596 ?_
                                refine va_sld hx hb hX hbl hbA hZ.2.1 (by unfold vp_in; decide) dL_law_597 ?_
                                refine hp_calli (hp_runV (As := [.int ((xs ((0 + 1) : Int32).toNatClampNeg))]) (rest := [.int (r208)]) hx hb hml hown hts (r_users l D cs B V205 (B + 891) (B + 843) (B + 844) (Nat.lt_succ_self (B + 843)) hFM (xs ((0 + 1) : Int32).toNatClampNeg)) hZ hFM.1 cv_L_73 rfl rfl ⟨Nat.le_of_ble_eq_true rfl, Nat.le_of_ble_eq_true rfl⟩ rfl hl.1 rfl (Nat.le_of_ble_eq_true rfl) dL_law_598 ⟨(Nat.le_of_ble_eq_true rfl), (Nat.le_of_ble_eq_true rfl)⟩) hZ (fun r215 V212 n213 _ _ hw214 hZ => ?_)
                                refine lv_icmp_eq (tgt := 761) hx hb dL_law_601 (by decide) (fun c216 => ?_) (fun c216 => absurd (ha211.trans hw214.symm) c216)
                                refine lv_iinc (v := 6) (lv' := [(3, .int (6)), (2, .ref (B + 843)), (1, .ref (B)), (0, .ref (b))]) hx hb dL_law_761 hl (k := 0) rfl (by decide) (by decide) rfl (fun ls hl => ?_)
                                refine lv_goto (tgt := 18) hx hb dL_law_764 (by decide) ?_
                                refine lv_iload_n hx hb dL_law_18 rfl (lv_at hl 0 rfl) ?_
                                refine lv_aload_n hx hb dL_law_19 rfl (lv_at hl 3 rfl) ?_
                                refine va_slen hx hb hX hbl hbA hZ.2.1 dL_law_20 ?_
                                refine lv_bipush (v := 6) hx hb dL_law_21 (by decide) ?_
                                refine lv_isub hx hb dL_law_23 ?_
                                refine lv_icmp_gt (tgt := 767) hx hb dL_law_24 (by decide) (fun c217 => ?_) (fun c217 => absurd (by decide) c217)
                                refine lv_iconst (v := 1) hx hb dL_law_767 (by decide) ?_
                                refine va_forget (fun q hq => by rw [← hB]; exact hZ.2.1.2.2 q hq) ?_
                                refine W.widen (k := 600002) (n := 7302232) (Nat.le_of_ble_eq_true rfl) (Nat.le_of_ble_eq_true rfl) ?_
                                exact lw_ret hx hb hr hlocks dL_law_768
                              ·
                                rcases Classical.em (y20 = 14) with h218 | h218
                                · refine lv_tableIn (off := 573) (tgt := 606) hx hb dL_law_33 (by rw [h218]; decide) (by rw [h218]; decide) (by rw [h218]; decide) (by decide) ?_
                                  refine lv_aload_n hx hb dL_law_606 rfl (lv_at hl 2 rfl) ?_
                                  refine lv_aload_n hx hb dL_law_607 rfl (lv_at hl 3 rfl) ?_
                                  refine lv_iload_n hx hb dL_law_608 rfl (lv_at hl 0 rfl) ?_
                                  refine lv_iconst (v := 1) hx hb dL_law_609 (by decide) ?_
                                  refine lv_iadd hx hb dL_law_610 ?_
                                  refine va_sld hx hb hX hbl hbA hZ.2.1 (by unfold vp_in; decide) dL_law_611 ?_
                                  refine lv_aload_n hx hb dL_law_612 rfl (lv_at hl 3 rfl) ?_
                                  refine lv_iload_n hx hb dL_law_613 rfl (lv_at hl 0 rfl) ?_
                                  refine lv_iconst (v := 2) hx hb dL_law_614 (by decide) ?_
                                  refine lv_iadd hx hb dL_law_615 ?_
                                  refine va_sld hx hb hX hbl hbA hZ.2.1 (by unfold vp_in; decide) dL_law_616 ?_
                                  refine lv_aload_n hx hb dL_law_617 rfl (lv_at hl 3 rfl) ?_
                                  refine lv_iload_n hx hb dL_law_618 rfl (lv_at hl 0 rfl) ?_
                                  refine lv_iconst (v := 3) hx hb dL_law_619 (by decide) ?_
                                  refine lv_iadd hx hb dL_law_620 ?_
                                  refine va_sld hx hb hX hbl hbA hZ.2.1 (by unfold vp_in; decide) dL_law_621 ?_
                                  refine lv_aload_n hx hb dL_law_622 rfl (lv_at hl 3 rfl) ?_
                                  refine lv_iload_n hx hb dL_law_623 rfl (lv_at hl 0 rfl) ?_
                                  refine lv_iconst (v := 4) hx hb dL_law_624 (by decide) ?_
                                  refine lv_iadd hx hb dL_law_625 ?_
                                  refine va_sld hx hb hX hbl hbA hZ.2.1 (by unfold vp_in; decide) dL_law_626 ?_
                                  refine hp_calli (hp_runV (As := [.int ((xs ((0 + 1) : Int32).toNatClampNeg)), .int ((xs ((0 + 2) : Int32).toNatClampNeg)), .int ((xs ((0 + 3) : Int32).toNatClampNeg)), .int ((xs ((0 + 4) : Int32).toNatClampNeg))]) (rest := []) hx hb hml hown hts (k_answer l D cs B V12 (B + 891) B (B + 1) (Nat.lt_succ_self B) hFX (xs ((0 + 1) : Int32).toNatClampNeg) (xs ((0 + 2) : Int32).toNatClampNeg) (xs ((0 + 3) : Int32).toNatClampNeg) (xs ((0 + 4) : Int32).toNatClampNeg)) hZ hFX.1 cv_L_74 rfl rfl ⟨Nat.le_of_ble_eq_true rfl, Nat.le_of_ble_eq_true rfl⟩ rfl hl.1 rfl (Nat.le_of_ble_eq_true rfl) dL_law_627 ⟨(Nat.le_of_ble_eq_true rfl), (Nat.le_of_ble_eq_true rfl)⟩) hZ (fun r222 V219 n220 _ _ hw221 hZ => ?_)
                                  obtain ⟨ha225, hn223, fr224⟩ := hw221
                                  have hn223 : B + 891 = n220 := hn223.symm
                                  subst hn223
                                  have hFM := fx_M_keep (V1 := V219) fr224 (by omega) (by omega) hFM
                                  refine lv_aload_n hx hb dL_law_630 rfl (lv_at hl 1 rfl) ?_
                                  refine lv_aload_n hx hb dL_law_631 rfl (lv_at hl 3 rfl) ?_
                                  refine lv_iload_n hx hb dL_law_632 rfl (lv_at hl 0 rfl) ?_
                                  refine lv_iconst (v := 1) hx hb dL_law_633 (by decide) ?_
                                  refine lv_iadd hx hb dL_law_634 ?_
                                  refine va_sld hx hb hX hbl hbA hZ.2.1 (by unfold vp_in; decide) dL_law_635 ?_
                                  refine lv_aload_n hx hb dL_law_636 rfl (lv_at hl 3 rfl) ?_
                                  refine lv_iload_n hx hb dL_law_637 rfl (lv_at hl 0 rfl) ?_
                                  refine lv_iconst (v := 2) hx hb dL_law_638 (by decide) ?_
                                  refine lv_iadd hx hb dL_law_639 ?_
                                  refine va_sld hx hb hX hbl hbA hZ.2.1 (by unfold vp_in; decide) dL_law_640 ?_
                                  refine lv_aload_n hx hb dL_law_641 rfl (lv_at hl 3 rfl) ?_
                                  refine lv_iload_n hx hb dL_law_642 rfl (lv_at hl 0 rfl) ?_
                                  refine lv_iconst (v := 3) hx hb dL_law_643 (by decide) ?_
                                  refine lv_iadd hx hb dL_law_644 ?_
                                  refine va_sld hx hb hX hbl hbA hZ.2.1 (by unfold vp_in; decide) dL_law_645 ?_
                                  refine lv_aload_n hx hb dL_law_646 rfl (lv_at hl 3 rfl) ?_
                                  refine lv_iload_n hx hb dL_law_647 rfl (lv_at hl 0 rfl) ?_
                                  refine lv_iconst (v := 4) hx hb dL_law_648 (by decide) ?_
                                  refine lv_iadd hx hb dL_law_649 ?_
                                  refine va_sld hx hb hX hbl hbA hZ.2.1 (by unfold vp_in; decide) dL_law_650 ?_
                                  refine hp_calli (hp_runV (As := [.int ((xs ((0 + 1) : Int32).toNatClampNeg)), .int ((xs ((0 + 2) : Int32).toNatClampNeg)), .int ((xs ((0 + 3) : Int32).toNatClampNeg)), .int ((xs ((0 + 4) : Int32).toNatClampNeg))]) (rest := [.int (r222)]) hx hb hml hown hts (r_answer l D cs B V219 (B + 891) (B + 843) (B + 844) (Nat.lt_succ_self (B + 843)) hFM (xs ((0 + 1) : Int32).toNatClampNeg) (xs ((0 + 2) : Int32).toNatClampNeg) (xs ((0 + 3) : Int32).toNatClampNeg) (xs ((0 + 4) : Int32).toNatClampNeg)) hZ hFM.1 cv_L_78 rfl rfl ⟨Nat.le_of_ble_eq_true rfl, Nat.le_of_ble_eq_true rfl⟩ rfl hl.1 rfl (Nat.le_of_ble_eq_true rfl) dL_law_651 ⟨(Nat.le_of_ble_eq_true rfl), (Nat.le_of_ble_eq_true rfl)⟩) hZ (fun r229 V226 n227 _ _ hw228 hZ => ?_)
                                  refine lv_icmp_eq (tgt := 761) hx hb dL_law_654 (by decide) (fun c230 => ?_) (fun c230 => absurd (ha225.trans hw228.symm) c230)
                                  refine lv_iinc (v := 6) (lv' := [(3, .int (6)), (2, .ref (B + 843)), (1, .ref (B)), (0, .ref (b))]) hx hb dL_law_761 hl (k := 0) rfl (by decide) (by decide) rfl (fun ls hl => ?_)
                                  refine lv_goto (tgt := 18) hx hb dL_law_764 (by decide) ?_
                                  refine lv_iload_n hx hb dL_law_18 rfl (lv_at hl 0 rfl) ?_
                                  refine lv_aload_n hx hb dL_law_19 rfl (lv_at hl 3 rfl) ?_
                                  refine va_slen hx hb hX hbl hbA hZ.2.1 dL_law_20 ?_
                                  refine lv_bipush (v := 6) hx hb dL_law_21 (by decide) ?_
                                  refine lv_isub hx hb dL_law_23 ?_
                                  refine lv_icmp_gt (tgt := 767) hx hb dL_law_24 (by decide) (fun c231 => ?_) (fun c231 => absurd (by decide) c231)
                                  refine lv_iconst (v := 1) hx hb dL_law_767 (by decide) ?_
                                  refine va_forget (fun q hq => by rw [← hB]; exact hZ.2.1.2.2 q hq) ?_
                                  refine W.widen (k := 600002) (n := 7302232) (Nat.le_of_ble_eq_true rfl) (Nat.le_of_ble_eq_true rfl) ?_
                                  exact lw_ret hx hb hr hlocks dL_law_768
                                ·
                                  rcases Classical.em (y20 = 15) with h232 | h232
                                  · refine lv_tableIn (off := 626) (tgt := 659) hx hb dL_law_33 (by rw [h232]; decide) (by rw [h232]; decide) (by rw [h232]; decide) (by decide) ?_
                                    refine lv_aload_n hx hb dL_law_659 rfl (lv_at hl 2 rfl) ?_
                                    refine lv_aload_n hx hb dL_law_660 rfl (lv_at hl 3 rfl) ?_
                                    refine lv_iload_n hx hb dL_law_661 rfl (lv_at hl 0 rfl) ?_
                                    refine lv_iconst (v := 1) hx hb dL_law_662 (by decide) ?_
                                    refine lv_iadd hx hb dL_law_663 ?_
                                    refine va_sld hx hb hX hbl hbA hZ.2.1 (by unfold vp_in; decide) dL_law_664 ?_
                                    refine hp_calli (hp_runV (As := [.int ((xs ((0 + 1) : Int32).toNatClampNeg))]) (rest := []) hx hb hml hown hts (k_change l D cs B V12 (B + 891) B (B + 1) (Nat.lt_succ_self B) hFX (xs ((0 + 1) : Int32).toNatClampNeg)) hZ hFX.1 cv_L_79 rfl rfl ⟨Nat.le_of_ble_eq_true rfl, Nat.le_of_ble_eq_true rfl⟩ rfl hl.1 rfl (Nat.le_of_ble_eq_true rfl) dL_law_665 ⟨(Nat.le_of_ble_eq_true rfl), (Nat.le_of_ble_eq_true rfl)⟩) hZ (fun r236 V233 n234 _ _ hw235 hZ => ?_)
                                    obtain ⟨ha239, hn237, fr238⟩ := hw235
                                    have hn237 : B + 891 = n234 := hn237.symm
                                    subst hn237
                                    have hFM := fx_M_keep (V1 := V233) fr238 (by omega) (by omega) hFM
                                    refine lv_aload_n hx hb dL_law_668 rfl (lv_at hl 1 rfl) ?_
                                    refine lv_aload_n hx hb dL_law_669 rfl (lv_at hl 3 rfl) ?_
                                    refine lv_iload_n hx hb dL_law_670 rfl (lv_at hl 0 rfl) ?_
                                    refine lv_iconst (v := 1) hx hb dL_law_671 (by decide) ?_
                                    refine lv_iadd hx hb dL_law_672 ?_
                                    refine va_sld hx hb hX hbl hbA hZ.2.1 (by unfold vp_in; decide) dL_law_673 ?_
                                    refine hp_calli (hp_runV (As := [.int ((xs ((0 + 1) : Int32).toNatClampNeg))]) (rest := [.int (r236)]) hx hb hml hown hts (r_change l D cs B V233 (B + 891) (B + 843) (B + 844) (Nat.lt_succ_self (B + 843)) hFM (xs ((0 + 1) : Int32).toNatClampNeg)) hZ hFM.1 cv_L_82 rfl rfl ⟨Nat.le_of_ble_eq_true rfl, Nat.le_of_ble_eq_true rfl⟩ rfl hl.1 rfl (Nat.le_of_ble_eq_true rfl) dL_law_674 ⟨(Nat.le_of_ble_eq_true rfl), (Nat.le_of_ble_eq_true rfl)⟩) hZ (fun r243 V240 n241 _ _ hw242 hZ => ?_)
                                    refine lv_icmp_eq (tgt := 761) hx hb dL_law_677 (by decide) (fun c244 => ?_) (fun c244 => absurd (ha239.trans hw242.symm) c244)
                                    refine lv_iinc (v := 6) (lv' := [(3, .int (6)), (2, .ref (B + 843)), (1, .ref (B)), (0, .ref (b))]) hx hb dL_law_761 hl (k := 0) rfl (by decide) (by decide) rfl (fun ls hl => ?_)
                                    refine lv_goto (tgt := 18) hx hb dL_law_764 (by decide) ?_
                                    refine lv_iload_n hx hb dL_law_18 rfl (lv_at hl 0 rfl) ?_
                                    refine lv_aload_n hx hb dL_law_19 rfl (lv_at hl 3 rfl) ?_
                                    refine va_slen hx hb hX hbl hbA hZ.2.1 dL_law_20 ?_
                                    refine lv_bipush (v := 6) hx hb dL_law_21 (by decide) ?_
                                    refine lv_isub hx hb dL_law_23 ?_
                                    refine lv_icmp_gt (tgt := 767) hx hb dL_law_24 (by decide) (fun c245 => ?_) (fun c245 => absurd (by decide) c245)
                                    refine lv_iconst (v := 1) hx hb dL_law_767 (by decide) ?_
                                    refine va_forget (fun q hq => by rw [← hB]; exact hZ.2.1.2.2 q hq) ?_
                                    refine W.widen (k := 600002) (n := 7302232) (Nat.le_of_ble_eq_true rfl) (Nat.le_of_ble_eq_true rfl) ?_
                                    exact lw_ret hx hb hr hlocks dL_law_768
                                  ·
                                    rcases Classical.em (y20 = 16) with h246 | h246
                                    · refine lv_tableIn (off := 649) (tgt := 682) hx hb dL_law_33 (by rw [h246]; decide) (by rw [h246]; decide) (by rw [h246]; decide) (by decide) ?_
                                      refine lv_aload_n hx hb dL_law_682 rfl (lv_at hl 2 rfl) ?_
                                      refine lv_aload_n hx hb dL_law_683 rfl (lv_at hl 3 rfl) ?_
                                      refine lv_iload_n hx hb dL_law_684 rfl (lv_at hl 0 rfl) ?_
                                      refine lv_iconst (v := 1) hx hb dL_law_685 (by decide) ?_
                                      refine lv_iadd hx hb dL_law_686 ?_
                                      refine va_sld hx hb hX hbl hbA hZ.2.1 (by unfold vp_in; decide) dL_law_687 ?_
                                      refine lv_aload_n hx hb dL_law_688 rfl (lv_at hl 3 rfl) ?_
                                      refine lv_iload_n hx hb dL_law_689 rfl (lv_at hl 0 rfl) ?_
                                      refine lv_iconst (v := 2) hx hb dL_law_690 (by decide) ?_
                                      refine lv_iadd hx hb dL_law_691 ?_
                                      refine va_sld hx hb hX hbl hbA hZ.2.1 (by unfold vp_in; decide) dL_law_692 ?_
                                      refine hp_calli (hp_runV (As := [.int ((xs ((0 + 1) : Int32).toNatClampNeg)), .int ((xs ((0 + 2) : Int32).toNatClampNeg))]) (rest := []) hx hb hml hown hts (k_misses l D cs B V12 (B + 891) B (B + 1) (Nat.lt_succ_self B) hFX (xs ((0 + 1) : Int32).toNatClampNeg) (xs ((0 + 2) : Int32).toNatClampNeg)) hZ hFX.1 cv_L_83 rfl rfl ⟨Nat.le_of_ble_eq_true rfl, Nat.le_of_ble_eq_true rfl⟩ rfl hl.1 rfl (Nat.le_of_ble_eq_true rfl) dL_law_693 ⟨(Nat.le_of_ble_eq_true rfl), (Nat.le_of_ble_eq_true rfl)⟩) hZ (fun r250 V247 n248 _ _ hw249 hZ => ?_)
                                      obtain ⟨ha253, hn251, fr252⟩ := hw249
                                      have hn251 : B + 891 = n248 := hn251.symm
                                      subst hn251
                                      have hFM := fx_M_keep (V1 := V247) fr252 (by omega) (by omega) hFM
                                      refine lv_aload_n hx hb dL_law_696 rfl (lv_at hl 1 rfl) ?_
                                      refine lv_aload_n hx hb dL_law_697 rfl (lv_at hl 3 rfl) ?_
                                      refine lv_iload_n hx hb dL_law_698 rfl (lv_at hl 0 rfl) ?_
                                      refine lv_iconst (v := 1) hx hb dL_law_699 (by decide) ?_
                                      refine lv_iadd hx hb dL_law_700 ?_
                                      refine va_sld hx hb hX hbl hbA hZ.2.1 (by unfold vp_in; decide) dL_law_701 ?_
                                      refine lv_aload_n hx hb dL_law_702 rfl (lv_at hl 3 rfl) ?_
                                      refine lv_iload_n hx hb dL_law_703 rfl (lv_at hl 0 rfl) ?_
                                      refine lv_iconst (v := 2) hx hb dL_law_704 (by decide) ?_
                                      refine lv_iadd hx hb dL_law_705 ?_
                                      refine va_sld hx hb hX hbl hbA hZ.2.1 (by unfold vp_in; decide) dL_law_706 ?_
                                      refine hp_calli (hp_runV (As := [.int ((xs ((0 + 1) : Int32).toNatClampNeg)), .int ((xs ((0 + 2) : Int32).toNatClampNeg))]) (rest := [.int (r250)]) hx hb hml hown hts (r_misses l D cs B V247 (B + 891) (B + 843) (B + 844) (Nat.lt_succ_self (B + 843)) hFM (xs ((0 + 1) : Int32).toNatClampNeg) (xs ((0 + 2) : Int32).toNatClampNeg)) hZ hFM.1 cv_L_86 rfl rfl ⟨Nat.le_of_ble_eq_true rfl, Nat.le_of_ble_eq_true rfl⟩ rfl hl.1 rfl (Nat.le_of_ble_eq_true rfl) dL_law_707 ⟨(Nat.le_of_ble_eq_true rfl), (Nat.le_of_ble_eq_true rfl)⟩) hZ (fun r257 V254 n255 _ _ hw256 hZ => ?_)
                                      refine lv_icmp_eq (tgt := 761) hx hb dL_law_710 (by decide) (fun c258 => ?_) (fun c258 => absurd (ha253.trans hw256.symm) c258)
                                      refine lv_iinc (v := 6) (lv' := [(3, .int (6)), (2, .ref (B + 843)), (1, .ref (B)), (0, .ref (b))]) hx hb dL_law_761 hl (k := 0) rfl (by decide) (by decide) rfl (fun ls hl => ?_)
                                      refine lv_goto (tgt := 18) hx hb dL_law_764 (by decide) ?_
                                      refine lv_iload_n hx hb dL_law_18 rfl (lv_at hl 0 rfl) ?_
                                      refine lv_aload_n hx hb dL_law_19 rfl (lv_at hl 3 rfl) ?_
                                      refine va_slen hx hb hX hbl hbA hZ.2.1 dL_law_20 ?_
                                      refine lv_bipush (v := 6) hx hb dL_law_21 (by decide) ?_
                                      refine lv_isub hx hb dL_law_23 ?_
                                      refine lv_icmp_gt (tgt := 767) hx hb dL_law_24 (by decide) (fun c259 => ?_) (fun c259 => absurd (by decide) c259)
                                      refine lv_iconst (v := 1) hx hb dL_law_767 (by decide) ?_
                                      refine va_forget (fun q hq => by rw [← hB]; exact hZ.2.1.2.2 q hq) ?_
                                      refine W.widen (k := 600002) (n := 7302232) (Nat.le_of_ble_eq_true rfl) (Nat.le_of_ble_eq_true rfl) ?_
                                      exact lw_ret hx hb hr hlocks dL_law_768
                                    ·
                                      rcases Classical.em (y20 = 17) with h260 | h260
                                      · refine lv_tableIn (off := 682) (tgt := 715) hx hb dL_law_33 (by rw [h260]; decide) (by rw [h260]; decide) (by rw [h260]; decide) (by decide) ?_
                                        refine lv_aload_n hx hb dL_law_715 rfl (lv_at hl 2 rfl) ?_
                                        refine lv_aload_n hx hb dL_law_716 rfl (lv_at hl 3 rfl) ?_
                                        refine lv_iload_n hx hb dL_law_717 rfl (lv_at hl 0 rfl) ?_
                                        refine lv_iconst (v := 1) hx hb dL_law_718 (by decide) ?_
                                        refine lv_iadd hx hb dL_law_719 ?_
                                        refine va_sld hx hb hX hbl hbA hZ.2.1 (by unfold vp_in; decide) dL_law_720 ?_
                                        refine hp_calli (hp_runV (As := [.int ((xs ((0 + 1) : Int32).toNatClampNeg))]) (rest := []) hx hb hml hown hts (k_drill l D cs B V12 (B + 891) B (B + 1) (Nat.lt_succ_self B) hFX (xs ((0 + 1) : Int32).toNatClampNeg)) hZ hFX.1 cv_L_87 rfl rfl ⟨Nat.le_of_ble_eq_true rfl, Nat.le_of_ble_eq_true rfl⟩ rfl hl.1 rfl (Nat.le_of_ble_eq_true rfl) dL_law_721 ⟨(Nat.le_of_ble_eq_true rfl), (Nat.le_of_ble_eq_true rfl)⟩) hZ (fun r264 V261 n262 _ _ hw263 hZ => ?_)
                                        obtain ⟨ha267, hn265, fr266⟩ := hw263
                                        have hn265 : B + 891 = n262 := hn265.symm
                                        subst hn265
                                        have hFM := fx_M_keep (V1 := V261) fr266 (by omega) (by omega) hFM
                                        refine lv_aload_n hx hb dL_law_724 rfl (lv_at hl 1 rfl) ?_
                                        refine lv_aload_n hx hb dL_law_725 rfl (lv_at hl 3 rfl) ?_
                                        refine lv_iload_n hx hb dL_law_726 rfl (lv_at hl 0 rfl) ?_
                                        refine lv_iconst (v := 1) hx hb dL_law_727 (by decide) ?_
                                        refine lv_iadd hx hb dL_law_728 ?_
                                        refine va_sld hx hb hX hbl hbA hZ.2.1 (by unfold vp_in; decide) dL_law_729 ?_
                                        refine hp_calli (hp_runV (As := [.int ((xs ((0 + 1) : Int32).toNatClampNeg))]) (rest := [.int (r264)]) hx hb hml hown hts (r_drill l D cs B V261 (B + 891) (B + 843) (B + 844) (Nat.lt_succ_self (B + 843)) hFM (xs ((0 + 1) : Int32).toNatClampNeg)) hZ hFM.1 cv_L_90 rfl rfl ⟨Nat.le_of_ble_eq_true rfl, Nat.le_of_ble_eq_true rfl⟩ rfl hl.1 rfl (Nat.le_of_ble_eq_true rfl) dL_law_730 ⟨(Nat.le_of_ble_eq_true rfl), (Nat.le_of_ble_eq_true rfl)⟩) hZ (fun r271 V268 n269 _ _ hw270 hZ => ?_)
                                        refine lv_icmp_eq (tgt := 761) hx hb dL_law_733 (by decide) (fun c272 => ?_) (fun c272 => absurd (hq_same ha267 hw270) c272)
                                        refine lv_iinc (v := 6) (lv' := [(3, .int (6)), (2, .ref (B + 843)), (1, .ref (B)), (0, .ref (b))]) hx hb dL_law_761 hl (k := 0) rfl (by decide) (by decide) rfl (fun ls hl => ?_)
                                        refine lv_goto (tgt := 18) hx hb dL_law_764 (by decide) ?_
                                        refine lv_iload_n hx hb dL_law_18 rfl (lv_at hl 0 rfl) ?_
                                        refine lv_aload_n hx hb dL_law_19 rfl (lv_at hl 3 rfl) ?_
                                        refine va_slen hx hb hX hbl hbA hZ.2.1 dL_law_20 ?_
                                        refine lv_bipush (v := 6) hx hb dL_law_21 (by decide) ?_
                                        refine lv_isub hx hb dL_law_23 ?_
                                        refine lv_icmp_gt (tgt := 767) hx hb dL_law_24 (by decide) (fun c273 => ?_) (fun c273 => absurd (by decide) c273)
                                        refine lv_iconst (v := 1) hx hb dL_law_767 (by decide) ?_
                                        refine va_forget (fun q hq => by rw [← hB]; exact hZ.2.1.2.2 q hq) ?_
                                        refine W.widen (k := 600002) (n := 7302232) (Nat.le_of_ble_eq_true rfl) (Nat.le_of_ble_eq_true rfl) ?_
                                        exact lw_ret hx hb hr hlocks dL_law_768
                                      ·
                                        rcases Classical.em (y20 = 18) with h274 | h274
                                        · refine lv_tableIn (off := 705) (tgt := 738) hx hb dL_law_33 (by rw [h274]; decide) (by rw [h274]; decide) (by rw [h274]; decide) (by decide) ?_
                                          refine lv_aload_n hx hb dL_law_738 rfl (lv_at hl 2 rfl) ?_
                                          refine lv_aload_n hx hb dL_law_739 rfl (lv_at hl 3 rfl) ?_
                                          refine lv_iload_n hx hb dL_law_740 rfl (lv_at hl 0 rfl) ?_
                                          refine lv_iconst (v := 1) hx hb dL_law_741 (by decide) ?_
                                          refine lv_iadd hx hb dL_law_742 ?_
                                          refine va_sld hx hb hX hbl hbA hZ.2.1 (by unfold vp_in; decide) dL_law_743 ?_
                                          refine hp_calli (hp_runV (As := [.int ((xs ((0 + 1) : Int32).toNatClampNeg))]) (rest := []) hx hb hml hown hts (k_count l D cs B V12 (B + 891) B (B + 1) (Nat.lt_succ_self B) hFX (xs ((0 + 1) : Int32).toNatClampNeg)) hZ hFX.1 cv_L_91 rfl rfl ⟨Nat.le_of_ble_eq_true rfl, Nat.le_of_ble_eq_true rfl⟩ rfl hl.1 rfl (Nat.le_of_ble_eq_true rfl) dL_law_744 ⟨(Nat.le_of_ble_eq_true rfl), (Nat.le_of_ble_eq_true rfl)⟩) hZ (fun r278 V275 n276 _ _ hw277 hZ => ?_)
                                          obtain ⟨ha281, hn279, fr280⟩ := hw277
                                          have hn279 : B + 891 = n276 := hn279.symm
                                          subst hn279
                                          have hFM := fx_M_keep (V1 := V275) fr280 (by omega) (by omega) hFM
                                          refine lv_aload_n hx hb dL_law_747 rfl (lv_at hl 1 rfl) ?_
                                          refine lv_aload_n hx hb dL_law_748 rfl (lv_at hl 3 rfl) ?_
                                          refine lv_iload_n hx hb dL_law_749 rfl (lv_at hl 0 rfl) ?_
                                          refine lv_iconst (v := 1) hx hb dL_law_750 (by decide) ?_
                                          refine lv_iadd hx hb dL_law_751 ?_
                                          refine va_sld hx hb hX hbl hbA hZ.2.1 (by unfold vp_in; decide) dL_law_752 ?_
                                          refine hp_calli (hp_runV (As := [.int ((xs ((0 + 1) : Int32).toNatClampNeg))]) (rest := [.int (r278)]) hx hb hml hown hts (r_count l D cs B V275 (B + 891) (B + 843) (B + 844) (Nat.lt_succ_self (B + 843)) hFM (xs ((0 + 1) : Int32).toNatClampNeg)) hZ hFM.1 cv_L_94 rfl rfl ⟨Nat.le_of_ble_eq_true rfl, Nat.le_of_ble_eq_true rfl⟩ rfl hl.1 rfl (Nat.le_of_ble_eq_true rfl) dL_law_753 ⟨(Nat.le_of_ble_eq_true rfl), (Nat.le_of_ble_eq_true rfl)⟩) hZ (fun r285 V282 n283 _ _ hw284 hZ => ?_)
                                          refine lv_icmp_eq (tgt := 761) hx hb dL_law_756 (by decide) (fun c286 => ?_) (fun c286 => absurd (hq_same ha281 hw284) c286)
                                          refine lv_iinc (v := 6) (lv' := [(3, .int (6)), (2, .ref (B + 843)), (1, .ref (B)), (0, .ref (b))]) hx hb dL_law_761 hl (k := 0) rfl (by decide) (by decide) rfl (fun ls hl => ?_)
                                          refine lv_goto (tgt := 18) hx hb dL_law_764 (by decide) ?_
                                          refine lv_iload_n hx hb dL_law_18 rfl (lv_at hl 0 rfl) ?_
                                          refine lv_aload_n hx hb dL_law_19 rfl (lv_at hl 3 rfl) ?_
                                          refine va_slen hx hb hX hbl hbA hZ.2.1 dL_law_20 ?_
                                          refine lv_bipush (v := 6) hx hb dL_law_21 (by decide) ?_
                                          refine lv_isub hx hb dL_law_23 ?_
                                          refine lv_icmp_gt (tgt := 767) hx hb dL_law_24 (by decide) (fun c287 => ?_) (fun c287 => absurd (by decide) c287)
                                          refine lv_iconst (v := 1) hx hb dL_law_767 (by decide) ?_
                                          refine va_forget (fun q hq => by rw [← hB]; exact hZ.2.1.2.2 q hq) ?_
                                          refine W.widen (k := 600002) (n := 7302232) (Nat.le_of_ble_eq_true rfl) (Nat.le_of_ble_eq_true rfl) ?_
                                          exact lw_ret hx hb hr hlocks dL_law_768
                                        ·
                                          have z288 : ¬ y20.toInt = 0 := lv_neT h22 (by decide)
                                          have z289 : ¬ y20.toInt = 1 := lv_neT h36 (by decide)
                                          have z290 : ¬ y20.toInt = 2 := lv_neT h50 (by decide)
                                          have z291 : ¬ y20.toInt = 3 := lv_neT h64 (by decide)
                                          have z292 : ¬ y20.toInt = 4 := lv_neT h78 (by decide)
                                          have z293 : ¬ y20.toInt = 5 := lv_neT h92 (by decide)
                                          have z294 : ¬ y20.toInt = 6 := lv_neT h106 (by decide)
                                          have z295 : ¬ y20.toInt = 7 := lv_neT h120 (by decide)
                                          have z296 : ¬ y20.toInt = 8 := lv_neT h134 (by decide)
                                          have z297 : ¬ y20.toInt = 9 := lv_neT h148 (by decide)
                                          have z298 : ¬ y20.toInt = 10 := lv_neT h162 (by decide)
                                          have z299 : ¬ y20.toInt = 11 := lv_neT h176 (by decide)
                                          have z300 : ¬ y20.toInt = 12 := lv_neT h190 (by decide)
                                          have z301 : ¬ y20.toInt = 13 := lv_neT h204 (by decide)
                                          have z302 : ¬ y20.toInt = 14 := lv_neT h218 (by decide)
                                          have z303 : ¬ y20.toInt = 15 := lv_neT h232 (by decide)
                                          have z304 : ¬ y20.toInt = 16 := lv_neT h246 (by decide)
                                          have z305 : ¬ y20.toInt = 17 := lv_neT h260 (by decide)
                                          have z306 : ¬ y20.toInt = 18 := lv_neT h274 (by decide)
                                          refine lv_tableOut (tgt := 761) hx hb dL_law_33 (by omega) (by decide) ?_
                                          refine lv_iinc (v := 6) (lv' := [(3, .int (6)), (2, .ref (B + 843)), (1, .ref (B)), (0, .ref (b))]) hx hb dL_law_761 hl (k := 0) rfl (by decide) (by decide) rfl (fun ls hl => ?_)
                                          refine lv_goto (tgt := 18) hx hb dL_law_764 (by decide) ?_
                                          refine lv_iload_n hx hb dL_law_18 rfl (lv_at hl 0 rfl) ?_
                                          refine lv_aload_n hx hb dL_law_19 rfl (lv_at hl 3 rfl) ?_
                                          refine va_slen hx hb hX hbl hbA hZ.2.1 dL_law_20 ?_
                                          refine lv_bipush (v := 6) hx hb dL_law_21 (by decide) ?_
                                          refine lv_isub hx hb dL_law_23 ?_
                                          refine lv_icmp_gt (tgt := 767) hx hb dL_law_24 (by decide) (fun c307 => ?_) (fun c307 => absurd (by decide) c307)
                                          refine lv_iconst (v := 1) hx hb dL_law_767 (by decide) ?_
                                          refine va_forget (fun q hq => by rw [← hB]; exact hZ.2.1.2.2 q hq) ?_
                                          refine W.widen (k := 600002) (n := 7302232) (Nat.le_of_ble_eq_true rfl) (Nat.le_of_ble_eq_true rfl) ?_
                                          exact lw_ret hx hb hr hlocks dL_law_768

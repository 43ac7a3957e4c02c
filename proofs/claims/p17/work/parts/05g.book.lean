/-! a book's lines below its lineSize: kind and helper -/
theorem hq_mx (x y : Int32) : ((if x < y then y else x).toInt = y.toInt ∧ x.toInt < y.toInt) ∨ ((if x < y then y else x).toInt = x.toInt ∧ y.toInt ≤ x.toInt) := by
  by_cases h : x < y
  · rw [if_pos h]; exact Or.inl ⟨rfl, hq_lti.mp h⟩
  · rw [if_neg h]
    refine Or.inr ⟨rfl, ?_⟩
    have h1 : ¬ x.toInt < y.toInt := fun h9 => h (hq_lti.mpr h9)
    omega
def hq_LN (cs : Nat → ClassId) (V : hp_V) (bk : Nat) (i k h : Int32) : Prop := ∃ (cn vn vc ln x y z : Nat) (c v l o t p ht pa la : Int32) (f : Nat → Option Nat), V bk = some (.inr (0, [.ref cn, .int c, .ref vn, .ref vc, .int v, .ref ln, .int l])) ∧ V ln = some (.inl (cs 6, 60, .inr (.inr (.inr (.inr f))))) ∧ f i.toNatClampNeg = some x ∧ V x = some (.inr (5, [.int k, .int o, .int t, .int p, .int h, .int ht, .int pa, .int la, .ref y, .ref z])) ∧ 0 ≤ i.toInt ∧ i.toInt < l.toInt
def hq_J (cs : Nat → ClassId) (V : hp_V) (bk : Nat) : Prop := ∀ i k h : Int32, hq_LN cs V bk i k h → k.toInt = 3 → 0 ≤ h.toInt
/-- the parts that a book's lines lie in -/
def hq_lg (g : Nat × Nat) : Bool := g.1 == 20 || g.1 == 21 || g.1 == 11
theorem hq_LN.keep {cs : Nat → ClassId} {G : hq_G} {V V' : hp_V} {bk b : Nat} {i k h : Int32} (hI : hq_I cs G V) (hb : G bk = some (6, b, 0, 0)) (hk : ∀ x t, G x = some t → hq_lg (hq_grp t) = true → V' x = V x) (hL : hq_LN cs V bk i k h) : hq_LN cs V' bk i k h := by
  obtain ⟨cn, vn, vc, ln, x, y, z, c, v, l, o, t, p, ht, pa, la, f, e1, e2, e3, e4, e5, e6⟩ := hL
  obtain ⟨cn', vn', vc', ln', c', v', l', e1', g1, g2, g3, g4, -, -, g5⟩ := hq_o6 hI hb
  cases e1.symm.trans e1'
  obtain ⟨-, f', e2', g6, -⟩ := hq_o4 hI g4
  cases e2.symm.trans e2'
  have hi : i.toNatClampNeg < 60 := hq_ix e5 (by omega)
  obtain ⟨x', h1, h2⟩ := g6 _ hi
  cases e3.symm.trans h1
  exact ⟨cn, vn, vc, ln, x, y, z, c, v, l, o, t, p, ht, pa, la, f, (hk _ _ hb rfl).trans e1, (hk _ _ g4 rfl).trans e2, e3, (hk _ _ h2 rfl).trans e4, e5, e6⟩
theorem hq_J.keep {cs : Nat → ClassId} {G : hq_G} {V V' : hp_V} {bk b : Nat} (hJ : hq_J cs V bk) (hI' : hq_I cs G V') (hb : G bk = some (6, b, 0, 0)) (hk : ∀ x t, G x = some t → hq_lg (hq_grp t) = true → V' x = V x) : hq_J cs V' bk :=
  fun i k h hL h3 => hJ i k h (hL.keep hI' hb (fun x t hx hg => (hk x t hx hg).symm)) h3
theorem hq_LN.same {cs : Nat → ClassId} {V : hp_V} {bk cn vn vc ln x y z : Nat} {i k k0 h0 h : Int32} {c v l o t p ht pa la : Int32} {f : Nat → Option Nat} (hL : hq_LN cs V bk i k0 h0) (e1 : V bk = some (.inr (0, [.ref cn, .int c, .ref vn, .ref vc, .int v, .ref ln, .int l]))) (e2 : V ln = some (.inl (cs 6, 60, .inr (.inr (.inr (.inr f)))))) (e3 : f i.toNatClampNeg = some x) (e4 : V x = some (.inr (5, [.int k, .int o, .int t, .int p, .int h, .int ht, .int pa, .int la, .ref y, .ref z]))) : k = k0 ∧ h = h0 := by
  obtain ⟨cn', vn', vc', ln', x', y', z', c', v', l', o', t', p', ht', pa', la', f', g1, g2, g3, g4, -, -⟩ := hL
  cases e1.symm.trans g1
  cases e2.symm.trans g2
  cases e3.symm.trans g3
  cases e4.symm.trans g4
  exact ⟨rfl, rfl⟩
def hq_NF (cs : Nat → ClassId) (V : hp_V) (bk : Nat) (k r : Int32) : Prop := 0 ≤ r.toInt → ∃ k1 h1 : Int32, hq_LN cs V bk r k1 h1 ∧ k1.toInt = k.toInt
theorem hq_kp {cs : Nat → ClassId} {G : hq_G} {ok : Nat × Nat → Bool} {V V' : hp_V} (h : hq_P cs G ok V V') (hg : ∀ g, hq_lg g = true → ok g = false) : ∀ x t, G x = some t → hq_lg (hq_grp t) = true → V' x = V x := fun x t hx h1 => h.2 x t hx (hg _ h1)

set_option maxHeartbeats 4000000 in
set_option maxRecDepth 100000 in
theorem t_X5_isOfVerb (l : Launch) (D : va_G) (cs : Nat → ClassId) (B : Nat) (G : hq_G) (V : hp_V) (n : Nat) (hI : hq_I cs G V) (b : Nat) (t : Nat) (h_t : G t = some (5, b, 0, 0)) : hp_M l yX5_isOfVerb cX5_isOfVerb 1 (some .boolean) ({ frames := 1, cells := 0, slots := 0, locals := 21 }) D cs B V n [.ref (t)] (hp_QI D cs B (fun r V' n' => n = n' ∧ hq_P cs G (fun _ => false) V V' ∧ (0 ≤ r.toInt ∧ r.toInt ≤ 1))) 0 0 := by
  refine hp_walk (R0 := RX5) (by decide) rfl ?_ (Nat.le_of_ble_eq_true rfl)
  intro p e s m below meth c ls hx hb hr hts hown hlocks hin hml hZ hl
  have hP : hq_P cs G (fun _ => false) V V := hq_P.rf hI
  have hl : lv_has ls 1 [(0, .ref (t))] := hl
  refine lv_aload_n hx hb dX5_isOfVerb_0 rfl (lv_at hl 0 rfl) ?_
  obtain ⟨z2, z3, z4, z5, z6, z7, z8, z9, u10, u11, eV1, hu12, hu13, h14, h15⟩ := hq_o5 hP.1 h_t
  refine hp_get (v := .int (z2)) hx hb hts hown hZ eV1 fl_X5_23 rfl dX5_isOfVerb_1 ?_
  refine lv_iconst (v := 4) hx hb dX5_isOfVerb_4 (by decide) ?_
  refine lv_icmp_eq (tgt := 16) hx hb dX5_isOfVerb_5 (by decide) (fun c16 => ?_) (fun c16 => ?_)
  · have c16 : (z2).toInt = (4 : Int) := hq_eqi.mp c16
    refine lv_iconst (v := 1) hx hb dX5_isOfVerb_16 (by decide) ?_
    refine lv_goto (tgt := 21) hx hb dX5_isOfVerb_17 (by decide) ?_
    exact hp_zret hx hb hr rfl hlocks hZ ⟨rfl, hP, (by decide)⟩ dX5_isOfVerb_21
  · have c16 : ¬ (z2).toInt = (4 : Int) := fun h9 => c16 (hq_eqi.mpr h9)
    refine lv_aload_n hx hb dX5_isOfVerb_8 rfl (lv_at hl 0 rfl) ?_
    refine hp_get (v := .int (z2)) hx hb hts hown hZ eV1 fl_X5_23 rfl dX5_isOfVerb_9 ?_
    refine lv_iconst (v := 5) hx hb dX5_isOfVerb_12 (by decide) ?_
    refine lv_icmp_ne (tgt := 20) hx hb dX5_isOfVerb_13 (by decide) (fun c17 => ?_) (fun c17 => ?_)
    · have c17 : ¬ (z2).toInt = (5 : Int) := fun h9 => c17 (hq_eqi.mpr h9)
      refine lv_iconst (v := 0) hx hb dX5_isOfVerb_20 (by decide) ?_
      exact hp_zret hx hb hr rfl hlocks hZ ⟨rfl, hP, (by decide)⟩ dX5_isOfVerb_21
    · have c17 : (z2).toInt = (5 : Int) := hq_eqi.mp c17
      refine lv_iconst (v := 1) hx hb dX5_isOfVerb_16 (by decide) ?_
      refine lv_goto (tgt := 21) hx hb dX5_isOfVerb_17 (by decide) ?_
      exact hp_zret hx hb hr rfl hlocks hZ ⟨rfl, hP, (by decide)⟩ dX5_isOfVerb_21

set_option maxHeartbeats 4000000 in
set_option maxRecDepth 100000 in
theorem t_X0_placeSize (l : Launch) (D : va_G) (cs : Nat → ClassId) (B : Nat) (G : hq_G) (V : hp_V) (n : Nat) (hI : hq_I cs G V) (b : Nat) (t : Nat) (h_t : G t = some (6, b, 0, 0)) : hp_M l yX0_placeSize cX0_placeSize 1 (some .int) ({ frames := 1, cells := 0, slots := 0, locals := 21 }) D cs B V n [.ref (t)] (hp_QI D cs B (fun r V' n' => n = n' ∧ hq_P cs G (fun _ => false) V V' ∧ (0 ≤ r.toInt ∧ r.toInt ≤ 900))) 0 0 := by
  refine hp_walk (R0 := RX0) (by decide) rfl ?_ (Nat.le_of_ble_eq_true rfl)
  intro p e s m below meth c ls hx hb hr hts hown hlocks hin hml hZ hl
  have hP : hq_P cs G (fun _ => false) V V := hq_P.rf hI
  have hl : lv_has ls 1 [(0, .ref (t))] := hl
  refine lv_aload_n hx hb dX0_placeSize_0 rfl (lv_at hl 0 rfl) ?_
  obtain ⟨u2, u3, u4, u5, z6, z7, z8, eV1, hu9, hu10, hu11, hu12, ⟨h13, h14⟩, ⟨h15, h16⟩, h17, h18⟩ := hq_o6 hP.1 h_t
  refine hp_get (v := .int (z7)) hx hb hts hown hZ eV1 fl_X0_38 rfl dX0_placeSize_1 ?_
  refine lv_bipush (v := 30) hx hb dX0_placeSize_4 (by decide) ?_
  refine lv_imul hx hb dX0_placeSize_6 ?_
  refine lv_topi (fun y19 ey20 => ?_)
  obtain ⟨k21, hk22, b23, b24⟩ := hq_mul (z7) (30)
  rw [← ey20] at hk22 b23 b24
  have hk22 : (y19).toInt = (z7).toInt * (30 : Int) + k21 * 4294967296 := hk22
  obtain rfl : k21 = 0 := by omega
  exact hp_iret hx hb hr hlocks hZ ⟨rfl, hP, (by constructor <;> omega)⟩ dX0_placeSize_7

set_option maxHeartbeats 4000000 in
set_option maxRecDepth 100000 in
theorem t_X0_fits (l : Launch) (D : va_G) (cs : Nat → ClassId) (B : Nat) (G : hq_G) (V : hp_V) (n : Nat) (hI : hq_I cs G V) (b : Nat) (t : Nat) (h_t : G t = some (6, b, 0, 0)) (k : Int32) (v : Int32) (te : Int32) (pe : Int32) (hk0 : 0 ≤ k.toInt) (hk1 : k.toInt < 60) (hv0 : 0 ≤ v.toInt) (hv1 : v.toInt < 30) : hp_M l yX0_fits cX0_fits 6 (some .boolean) ({ frames := 2, cells := 0, slots := 0, locals := 41 }) D cs B V n [.ref (t), .int (k), .int (v), .int (te), .int (pe)] (hp_QI D cs B (fun r V' n' => n = n' ∧ hq_P cs G (fun _ => false) V V' ∧ (0 ≤ r.toInt ∧ r.toInt ≤ 1))) 0 0 := by
  refine hp_walk (R0 := RX0) (by decide) rfl ?_ (Nat.le_of_ble_eq_true rfl)
  intro p e s m below meth c ls hx hb hr hts hown hlocks hin hml hZ hl
  have hP : hq_P cs G (fun _ => false) V V := hq_P.rf hI
  have hl : lv_has ls 6 [(0, .ref (t)), (1, .int (k)), (2, .int (v)), (3, .int (te)), (4, .int (pe))] := hl
  have hb_k := hq_rng k
  have hb_v := hq_rng v
  have hb_te := hq_rng te
  have hb_pe := hq_rng pe
  refine lv_aload_n hx hb dX0_fits_0 rfl (lv_at hl 0 rfl) ?_
  obtain ⟨u2, u3, u4, u5, z6, z7, z8, eV1, hu9, hu10, hu11, hu12, ⟨h13, h14⟩, ⟨h15, h16⟩, h17, h18⟩ := hq_o6 hP.1 h_t
  refine hp_get (v := .ref (u5)) hx hb hts hown hZ eV1 fl_X0_29 rfl dX0_fits_1 ?_
  refine lv_iload_n hx hb dX0_fits_4 rfl (lv_at hl 1 rfl) ?_
  obtain ⟨hN21, g20, eV19, hf22, _⟩ := hq_o4 hP.1 hu12
  obtain ⟨u23, hx24, hu25⟩ := hf22 (k : Int32).toNatClampNeg (hq_ix (by omega) (by omega))
  have hu25 : G u23 = some (5, b, 0, 0) := hu25
  refine hp_aald (v := .ref (u23)) hx hb hZ 6 eV19 rfl (hq_in (by omega) (by omega)) (by rw [hx24]; rfl) dX0_fits_5 ?_
  refine lv_astore (lv' := [(5, .ref (u23)), (0, .ref (t)), (1, .int (k)), (2, .int (v)), (3, .int (te)), (4, .int (pe))]) hx hb dX0_fits_6 hl (by decide) rfl (fun ls hl => ?_)
  refine lv_aload hx hb dX0_fits_8 (lv_at hl 0 rfl) ?_
  obtain ⟨z27, z28, z29, z30, z31, z32, z33, z34, u35, u36, eV26, hu37, hu38, h39, h40⟩ := hq_o5 hP.1 hu25
  refine hp_get (v := .int (z29)) hx hb hts hown hZ eV26 fl_X0_48 rfl dX0_fits_10 ?_
  refine lv_iload_n hx hb dX0_fits_13 rfl (lv_at hl 4 rfl) ?_
  refine lv_icmp_ne (tgt := 36) hx hb dX0_fits_14 (by decide) (fun c41 => ?_) (fun c41 => ?_)
  · have c41 : ¬ (z29).toInt = (te).toInt := fun h9 => c41 (hq_eqi.mpr h9)
    refine lv_iconst (v := 0) hx hb dX0_fits_36 (by decide) ?_
    exact hp_zret hx hb hr rfl hlocks hZ ⟨rfl, hP, (by decide)⟩ dX0_fits_37
  · have c41 : (z29).toInt = (te).toInt := hq_eqi.mp c41
    refine lv_aload hx hb dX0_fits_17 (lv_at hl 0 rfl) ?_
    refine hp_get (v := .int (z30)) hx hb hts hown hZ eV26 fl_X0_51 rfl dX0_fits_19 ?_
    refine lv_iconst (v := -1) hx hb dX0_fits_22 (by decide) ?_
    refine lv_icmp_eq (tgt := 38) hx hb dX0_fits_23 (by decide) (fun c42 => ?_) (fun c42 => ?_)
    · have c42 : (z30).toInt = (-1 : Int) := hq_eqi.mp c42
      refine lv_aload hx hb dX0_fits_38 (lv_at hl 0 rfl) ?_
      refine hp_calli (hp_runV (As := []) (rest := []) hx hb hml hown hts (t_X5_isOfVerb l D cs B G  V n hP.1 b (u23) hu25 ) hZ eV26 cv_X0_54 rfl rfl ⟨Nat.le_of_ble_eq_true rfl, Nat.le_of_ble_eq_true rfl⟩ rfl hl.1 rfl (Nat.le_of_ble_eq_true rfl) dX0_fits_40 ⟨(Nat.le_of_ble_eq_true rfl), (Nat.le_of_ble_eq_true rfl)⟩) hZ (fun r46 V43 n44 _ _ hw45 hZ => ?_)
      obtain ⟨rfl, hq47, hr48⟩ := hw45
      have hP := hP.trans hq47 (fun _ _ => rfl)
      have b49 := hq_rng r46
      refine lv_if_eq (tgt := 63) hx hb dX0_fits_43 (by decide) (fun c50 => ?_) (fun c50 => ?_)
      · have c50 : (r46).toInt = (0 : Int) := hq_eqi.mp c50
        refine lv_aload hx hb dX0_fits_63 (lv_at hl 0 rfl) ?_
        have fx51 : V43 (u23) = some (.inr (5, [.int (z27), .int (z28), .int (z29), .int (z30), .int (z31), .int (z32), .int (z33), .int (z34), .ref (u35), .ref (u36)])) := (hq47.2 (u23) _ hu25 rfl).trans (eV26)
        refine hp_get (v := .int (z28)) hx hb hts hown hZ fx51 fl_X0_58 rfl dX0_fits_65 ?_
        refine lv_iconst (v := -1) hx hb dX0_fits_68 (by decide) ?_
        refine lv_icmp_eq (tgt := 86) hx hb dX0_fits_69 (by decide) (fun c52 => ?_) (fun c52 => ?_)
        · have c52 : (z28).toInt = (-1 : Int) := hq_eqi.mp c52
          refine lv_iconst (v := 1) hx hb dX0_fits_86 (by decide) ?_
          refine lv_goto (tgt := 91) hx hb dX0_fits_87 (by decide) ?_
          exact hp_zret hx hb hr rfl hlocks hZ ⟨rfl, hP, (by decide)⟩ dX0_fits_91
        · have c52 : ¬ (z28).toInt = (-1 : Int) := fun h9 => c52 (hq_eqi.mpr h9)
          refine lv_aload hx hb dX0_fits_72 (lv_at hl 0 rfl) ?_
          refine hp_get (v := .int (z28)) hx hb hts hown hZ fx51 fl_X0_58 rfl dX0_fits_74 ?_
          refine lv_aload_n hx hb dX0_fits_77 rfl (lv_at hl 1 rfl) ?_
          have fx53 : V43 (t) = some (.inr (0, [.ref (u2), .int (z6), .ref (u3), .ref (u4), .int (z7), .ref (u5), .int (z8)])) := (hq47.2 (t) _ h_t rfl).trans (eV1)
          refine hp_get (v := .ref (u4)) hx hb hts hown hZ fx53 fl_X0_23 rfl dX0_fits_78 ?_
          refine lv_iload_n hx hb dX0_fits_81 rfl (lv_at hl 3 rfl) ?_
          obtain ⟨hN56, g55, eV54, hf57⟩ := hq_o2 hP.1 hu11
          refine hp_iald hx hb hZ eV54 (hq_in (by omega) (by omega)) dX0_fits_82 ?_
          refine lv_topi (fun y58 ey59 => ?_)
          have b60 := hq_rng y58
          refine lv_icmp_ne (tgt := 90) hx hb dX0_fits_83 (by decide) (fun c61 => ?_) (fun c61 => ?_)
          · have c61 : ¬ (z28).toInt = (y58).toInt := fun h9 => c61 (hq_eqi.mpr h9)
            refine lv_iconst (v := 0) hx hb dX0_fits_90 (by decide) ?_
            exact hp_zret hx hb hr rfl hlocks hZ ⟨rfl, hP, (by decide)⟩ dX0_fits_91
          · have c61 : (z28).toInt = (y58).toInt := hq_eqi.mp c61
            refine lv_iconst (v := 1) hx hb dX0_fits_86 (by decide) ?_
            refine lv_goto (tgt := 91) hx hb dX0_fits_87 (by decide) ?_
            exact hp_zret hx hb hr rfl hlocks hZ ⟨rfl, hP, (by decide)⟩ dX0_fits_91
      · have c50 : ¬ (r46).toInt = (0 : Int) := fun h9 => c50 (hq_eqi.mpr h9)
        refine lv_aload hx hb dX0_fits_46 (lv_at hl 0 rfl) ?_
        have fx62 : V43 (u23) = some (.inr (5, [.int (z27), .int (z28), .int (z29), .int (z30), .int (z31), .int (z32), .int (z33), .int (z34), .ref (u35), .ref (u36)])) := (hq47.2 (u23) _ hu25 rfl).trans (eV26)
        refine hp_get (v := .int (z28)) hx hb hts hown hZ fx62 fl_X0_58 rfl dX0_fits_48 ?_
        refine lv_iload_n hx hb dX0_fits_51 rfl (lv_at hl 3 rfl) ?_
        refine lv_icmp_ne (tgt := 59) hx hb dX0_fits_52 (by decide) (fun c63 => ?_) (fun c63 => ?_)
        · have c63 : ¬ (z28).toInt = (v).toInt := fun h9 => c63 (hq_eqi.mpr h9)
          refine lv_iconst (v := 0) hx hb dX0_fits_59 (by decide) ?_
          refine lv_goto (tgt := 91) hx hb dX0_fits_60 (by decide) ?_
          exact hp_zret hx hb hr rfl hlocks hZ ⟨rfl, hP, (by decide)⟩ dX0_fits_91
        · have c63 : (z28).toInt = (v).toInt := hq_eqi.mp c63
          refine lv_iconst (v := 1) hx hb dX0_fits_55 (by decide) ?_
          refine lv_goto (tgt := 91) hx hb dX0_fits_56 (by decide) ?_
          exact hp_zret hx hb hr rfl hlocks hZ ⟨rfl, hP, (by decide)⟩ dX0_fits_91
    · have c42 : ¬ (z30).toInt = (-1 : Int) := fun h9 => c42 (hq_eqi.mpr h9)
      refine lv_aload hx hb dX0_fits_26 (lv_at hl 0 rfl) ?_
      refine hp_get (v := .int (z30)) hx hb hts hown hZ eV26 fl_X0_51 rfl dX0_fits_28 ?_
      refine lv_iload hx hb dX0_fits_31 (lv_at hl 5 rfl) ?_
      refine lv_icmp_eq (tgt := 38) hx hb dX0_fits_33 (by decide) (fun c64 => ?_) (fun c64 => ?_)
      · have c64 : (z30).toInt = (pe).toInt := hq_eqi.mp c64
        refine lv_aload hx hb dX0_fits_38 (lv_at hl 0 rfl) ?_
        refine hp_calli (hp_runV (As := []) (rest := []) hx hb hml hown hts (t_X5_isOfVerb l D cs B G  V n hP.1 b (u23) hu25 ) hZ eV26 cv_X0_54 rfl rfl ⟨Nat.le_of_ble_eq_true rfl, Nat.le_of_ble_eq_true rfl⟩ rfl hl.1 rfl (Nat.le_of_ble_eq_true rfl) dX0_fits_40 ⟨(Nat.le_of_ble_eq_true rfl), (Nat.le_of_ble_eq_true rfl)⟩) hZ (fun r68 V65 n66 _ _ hw67 hZ => ?_)
        obtain ⟨rfl, hq69, hr70⟩ := hw67
        have hP := hP.trans hq69 (fun _ _ => rfl)
        have b71 := hq_rng r68
        refine lv_if_eq (tgt := 63) hx hb dX0_fits_43 (by decide) (fun c72 => ?_) (fun c72 => ?_)
        · have c72 : (r68).toInt = (0 : Int) := hq_eqi.mp c72
          refine lv_aload hx hb dX0_fits_63 (lv_at hl 0 rfl) ?_
          have fx73 : V65 (u23) = some (.inr (5, [.int (z27), .int (z28), .int (z29), .int (z30), .int (z31), .int (z32), .int (z33), .int (z34), .ref (u35), .ref (u36)])) := (hq69.2 (u23) _ hu25 rfl).trans (eV26)
          refine hp_get (v := .int (z28)) hx hb hts hown hZ fx73 fl_X0_58 rfl dX0_fits_65 ?_
          refine lv_iconst (v := -1) hx hb dX0_fits_68 (by decide) ?_
          refine lv_icmp_eq (tgt := 86) hx hb dX0_fits_69 (by decide) (fun c74 => ?_) (fun c74 => ?_)
          · have c74 : (z28).toInt = (-1 : Int) := hq_eqi.mp c74
            refine lv_iconst (v := 1) hx hb dX0_fits_86 (by decide) ?_
            refine lv_goto (tgt := 91) hx hb dX0_fits_87 (by decide) ?_
            exact hp_zret hx hb hr rfl hlocks hZ ⟨rfl, hP, (by decide)⟩ dX0_fits_91
          · have c74 : ¬ (z28).toInt = (-1 : Int) := fun h9 => c74 (hq_eqi.mpr h9)
            refine lv_aload hx hb dX0_fits_72 (lv_at hl 0 rfl) ?_
            refine hp_get (v := .int (z28)) hx hb hts hown hZ fx73 fl_X0_58 rfl dX0_fits_74 ?_
            refine lv_aload_n hx hb dX0_fits_77 rfl (lv_at hl 1 rfl) ?_
            have fx75 : V65 (t) = some (.inr (0, [.ref (u2), .int (z6), .ref (u3), .ref (u4), .int (z7), .ref (u5), .int (z8)])) := (hq69.2 (t) _ h_t rfl).trans (eV1)
            refine hp_get (v := .ref (u4)) hx hb hts hown hZ fx75 fl_X0_23 rfl dX0_fits_78 ?_
            refine lv_iload_n hx hb dX0_fits_81 rfl (lv_at hl 3 rfl) ?_
            obtain ⟨hN78, g77, eV76, hf79⟩ := hq_o2 hP.1 hu11
            refine hp_iald hx hb hZ eV76 (hq_in (by omega) (by omega)) dX0_fits_82 ?_
            refine lv_topi (fun y80 ey81 => ?_)
            have b82 := hq_rng y80
            refine lv_icmp_ne (tgt := 90) hx hb dX0_fits_83 (by decide) (fun c83 => ?_) (fun c83 => ?_)
            · have c83 : ¬ (z28).toInt = (y80).toInt := fun h9 => c83 (hq_eqi.mpr h9)
              refine lv_iconst (v := 0) hx hb dX0_fits_90 (by decide) ?_
              exact hp_zret hx hb hr rfl hlocks hZ ⟨rfl, hP, (by decide)⟩ dX0_fits_91
            · have c83 : (z28).toInt = (y80).toInt := hq_eqi.mp c83
              refine lv_iconst (v := 1) hx hb dX0_fits_86 (by decide) ?_
              refine lv_goto (tgt := 91) hx hb dX0_fits_87 (by decide) ?_
              exact hp_zret hx hb hr rfl hlocks hZ ⟨rfl, hP, (by decide)⟩ dX0_fits_91
        · have c72 : ¬ (r68).toInt = (0 : Int) := fun h9 => c72 (hq_eqi.mpr h9)
          refine lv_aload hx hb dX0_fits_46 (lv_at hl 0 rfl) ?_
          have fx84 : V65 (u23) = some (.inr (5, [.int (z27), .int (z28), .int (z29), .int (z30), .int (z31), .int (z32), .int (z33), .int (z34), .ref (u35), .ref (u36)])) := (hq69.2 (u23) _ hu25 rfl).trans (eV26)
          refine hp_get (v := .int (z28)) hx hb hts hown hZ fx84 fl_X0_58 rfl dX0_fits_48 ?_
          refine lv_iload_n hx hb dX0_fits_51 rfl (lv_at hl 3 rfl) ?_
          refine lv_icmp_ne (tgt := 59) hx hb dX0_fits_52 (by decide) (fun c85 => ?_) (fun c85 => ?_)
          · have c85 : ¬ (z28).toInt = (v).toInt := fun h9 => c85 (hq_eqi.mpr h9)
            refine lv_iconst (v := 0) hx hb dX0_fits_59 (by decide) ?_
            refine lv_goto (tgt := 91) hx hb dX0_fits_60 (by decide) ?_
            exact hp_zret hx hb hr rfl hlocks hZ ⟨rfl, hP, (by decide)⟩ dX0_fits_91
          · have c85 : (z28).toInt = (v).toInt := hq_eqi.mp c85
            refine lv_iconst (v := 1) hx hb dX0_fits_55 (by decide) ?_
            refine lv_goto (tgt := 91) hx hb dX0_fits_56 (by decide) ?_
            exact hp_zret hx hb hr rfl hlocks hZ ⟨rfl, hP, (by decide)⟩ dX0_fits_91
      · have c64 : ¬ (z30).toInt = (pe).toInt := fun h9 => c64 (hq_eqi.mpr h9)
        refine lv_iconst (v := 0) hx hb dX0_fits_36 (by decide) ?_
        exact hp_zret hx hb hr rfl hlocks hZ ⟨rfl, hP, (by decide)⟩ dX0_fits_37

set_option maxHeartbeats 4000000 in
set_option maxRecDepth 100000 in
theorem t_X0_nextFitting (l : Launch) (D : va_G) (cs : Nat → ClassId) (B : Nat) (G : hq_G) (V : hp_V) (n : Nat) (hI : hq_I cs G V) (b : Nat) (t : Nat) (h_t : G t = some (6, b, 0, 0)) (k : Int32) (fr : Int32) (v : Int32) (te : Int32) (pe : Int32) (hf0 : 0 ≤ fr.toInt) (hv0 : 0 ≤ v.toInt) (hv1 : v.toInt < 30) : hp_M l yX0_nextFitting cX0_nextFitting 7 (some .int) ({ frames := 3, cells := 0, slots := 0, locals := 66 }) D cs B V n [.ref (t), .int (k), .int (fr), .int (v), .int (te), .int (pe)] (hp_QI D cs B (fun r V' n' => n = n' ∧ hq_P cs G (fun _ => false) V V' ∧ ((-1 ≤ r.toInt ∧ r.toInt < 60) ∧ hq_NF cs V t k r))) 0 0 := by
  refine hp_walk (R0 := RX0) (by decide) rfl ?_ (Nat.le_of_ble_eq_true rfl)
  intro p e s m below meth c ls hx hb hr hts hown hlocks hin hml hZ hl
  have hP : hq_P cs G (fun _ => false) V V := hq_P.rf hI
  have hl : lv_has ls 7 [(0, .ref (t)), (1, .int (k)), (2, .int (fr)), (3, .int (v)), (4, .int (te)), (5, .int (pe))] := hl
  have hb_k := hq_rng k
  have hb_fr := hq_rng fr
  have hb_v := hq_rng v
  have hb_te := hq_rng te
  have hb_pe := hq_rng pe
  refine lv_iload_n hx hb dX0_nextFitting_0 rfl (lv_at hl 2 rfl) ?_
  refine lv_istore (lv' := [(6, .int (fr)), (0, .ref (t)), (1, .int (k)), (2, .int (fr)), (3, .int (v)), (4, .int (te)), (5, .int (pe))]) hx hb dX0_nextFitting_1 hl (by decide) rfl (fun ls hl => ?_)
  suffices lp3 : ∀ (k9 : Nat) (V9 : hp_V) (H9 : Heap) (locs9 : List Loc) (ls : Array Slot) (i : Int32), (100 - i.toInt).toNat = k9 → hp_Z D cs B s V9 H9 n locs9 → hq_P cs G (fun _ => false) V V9 → 0 ≤ i.toInt → lv_has ls 7 [(6, .int (i)), (0, .ref (t)), (1, .int (k)), (2, .int (fr)), (3, .int (v)), (4, .int (te)), (5, .int (pe))] → W p l e ({ frames := 3, cells := 0, slots := 0, locals := 66 }) s m ([.ref (t), .int (k), .int (fr), .int (v), .int (te), .int (pe)] : List Value).toArray below meth c H9 locs9 0 0 (MQ below (hp_QI D cs B (fun r V' n' => n = n' ∧ hq_P cs G (fun _ => false) V V' ∧ ((-1 ≤ r.toInt ∧ r.toInt < 60) ∧ hq_NF cs V t k r))) ([.ref (t), .int (k), .int (fr), .int (v), .int (te), .int (pe)] : List Value).toArray s 0 0 (hp_F B)) (F0 m 3 ls []) from lp3 _ _ _ _ ls (fr) rfl hZ hP (by omega) (lv_sub hl [0, 1, 2, 3, 4, 5, 6] rfl)
  intro k9
  induction k9 using Nat.strongRecOn with
  | _ k9 ih3 =>
    intro V9 H9 locs9 ls i  hk3 hZ hP  hv1 hl
    have hb_i := hq_rng i
    have hP_3 := hP
    refine lv_iload hx hb dX0_nextFitting_3 (lv_at hl 0 rfl) ?_
    refine lv_aload_n hx hb dX0_nextFitting_5 rfl (lv_at hl 1 rfl) ?_
    obtain ⟨u3, u4, u5, u6, z7, z8, z9, eV2, hu10, hu11, hu12, hu13, ⟨h14, h15⟩, ⟨h16, h17⟩, h18, h19⟩ := hq_o6 hP.1 h_t
    refine hp_get (v := .int (z9)) hx hb hts hown hZ eV2 fl_X0_41 rfl dX0_nextFitting_6 ?_
    refine lv_icmp_ge (tgt := 49) hx hb dX0_nextFitting_9 (by decide) (fun c20 => ?_) (fun c20 => ?_)
    · have c20 : (z9).toInt ≤ (i).toInt := hq_lei.mp c20
      refine lv_iconst (v := -1) hx hb dX0_nextFitting_49 (by decide) ?_
      exact hp_iret hx hb hr hlocks hZ ⟨rfl, hP, ⟨by decide, fun h9 => absurd h9 (by decide)⟩⟩ dX0_nextFitting_50
    · have c20 : ¬ (z9).toInt ≤ (i).toInt := fun h9 => c20 (hq_lei.mpr h9)
      refine lv_aload_n hx hb dX0_nextFitting_12 rfl (lv_at hl 1 rfl) ?_
      refine hp_get (v := .ref (u6)) hx hb hts hown hZ eV2 fl_X0_29 rfl dX0_nextFitting_13 ?_
      refine lv_iload hx hb dX0_nextFitting_16 (lv_at hl 0 rfl) ?_
      obtain ⟨hN23, g22, eV21, hf24, _⟩ := hq_o4 hP.1 hu13
      obtain ⟨u25, hx26, hu27⟩ := hf24 (i : Int32).toNatClampNeg (hq_ix (by omega) (by omega))
      have hu27 : G u25 = some (5, b, 0, 0) := hu27
      refine hp_aald (v := .ref (u25)) hx hb hZ 6 eV21 rfl (hq_in (by omega) (by omega)) (by rw [hx26]; rfl) dX0_nextFitting_18 ?_
      obtain ⟨z29, z30, z31, z32, z33, z34, z35, z36, u37, u38, eV28, hu39, hu40, h41, h42⟩ := hq_o5 hP.1 hu27
      refine hp_get (v := .int (z29)) hx hb hts hown hZ eV28 fl_X0_61 rfl dX0_nextFitting_19 ?_
      refine lv_iload_n hx hb dX0_nextFitting_22 rfl (lv_at hl 2 rfl) ?_
      refine lv_icmp_ne (tgt := 43) hx hb dX0_nextFitting_23 (by decide) (fun c43 => ?_) (fun c43 => ?_)
      · have c43 : ¬ (z29).toInt = (k).toInt := fun h9 => c43 (hq_eqi.mpr h9)
        obtain ⟨y44, ey45⟩ : ∃ y : Int32, y = i + (1) := ⟨_, rfl⟩
        obtain ⟨k46, hk47, b48, b49⟩ := hq_add (i) (1)
        rw [← ey45] at hk47 b48 b49
        have hk47 : (y44).toInt = (i).toInt + (1) + k46 * 4294967296 := hk47
        refine lv_iinc (v := y44) (lv' := [(6, .int (y44)), (0, .ref (t)), (1, .int (k)), (2, .int (fr)), (3, .int (v)), (4, .int (te)), (5, .int (pe))]) hx hb dX0_nextFitting_43 hl (k := 0) rfl (by rw [ey45]; rfl) (by decide) rfl (fun ls hl => ?_)
        refine lv_goto (tgt := 3) hx hb dX0_nextFitting_46 (by decide) ?_
        exact ih3 _ (by omega) _ _ _ ls (y44) rfl hZ hP (by omega) (lv_sub hl [0, 1, 2, 3, 4, 5, 6] rfl)
      · have c43 : (z29).toInt = (k).toInt := hq_eqi.mp c43
        refine lv_aload_n hx hb dX0_nextFitting_26 rfl (lv_at hl 1 rfl) ?_
        refine lv_iload hx hb dX0_nextFitting_27 (lv_at hl 0 rfl) ?_
        refine lv_iload_n hx hb dX0_nextFitting_29 rfl (lv_at hl 4 rfl) ?_
        refine lv_iload hx hb dX0_nextFitting_30 (lv_at hl 5 rfl) ?_
        refine lv_iload hx hb dX0_nextFitting_32 (lv_at hl 6 rfl) ?_
        refine hp_calli (hp_runV (As := [.int (i), .int (v), .int (te), .int (pe)]) (rest := []) hx hb hml hown hts (t_X0_fits l D cs B G  V9 n hP.1 b (t) h_t (i) (v) (te) (pe) (by omega) (by omega) (by omega) (by omega)) hZ eV2 cv_X0_64 rfl rfl ⟨Nat.le_of_ble_eq_true rfl, Nat.le_of_ble_eq_true rfl⟩ rfl hl.1 rfl (Nat.le_of_ble_eq_true rfl) dX0_nextFitting_34 ⟨(Nat.le_of_ble_eq_true rfl), (Nat.le_of_ble_eq_true rfl)⟩) hZ (fun r53 V50 n51 _ _ hw52 hZ => ?_)
        obtain ⟨rfl, hq54, hr55⟩ := hw52
        have hP := hP.trans hq54 (fun _ _ => rfl)
        have b56 := hq_rng r53
        refine lv_if_eq (tgt := 43) hx hb dX0_nextFitting_37 (by decide) (fun c57 => ?_) (fun c57 => ?_)
        · have c57 : (r53).toInt = (0 : Int) := hq_eqi.mp c57
          obtain ⟨y58, ey59⟩ : ∃ y : Int32, y = i + (1) := ⟨_, rfl⟩
          obtain ⟨k60, hk61, b62, b63⟩ := hq_add (i) (1)
          rw [← ey59] at hk61 b62 b63
          have hk61 : (y58).toInt = (i).toInt + (1) + k60 * 4294967296 := hk61
          refine lv_iinc (v := y58) (lv' := [(6, .int (y58)), (0, .ref (t)), (1, .int (k)), (2, .int (fr)), (3, .int (v)), (4, .int (te)), (5, .int (pe))]) hx hb dX0_nextFitting_43 hl (k := 0) rfl (by rw [ey59]; rfl) (by decide) rfl (fun ls hl => ?_)
          refine lv_goto (tgt := 3) hx hb dX0_nextFitting_46 (by decide) ?_
          exact ih3 _ (by omega) _ _ _ ls (y58) rfl hZ hP (by omega) (lv_sub hl [0, 1, 2, 3, 4, 5, 6] rfl)
        · have c57 : ¬ (r53).toInt = (0 : Int) := fun h9 => c57 (hq_eqi.mpr h9)
          refine lv_iload hx hb dX0_nextFitting_40 (lv_at hl 0 rfl) ?_
          have fx64 : V50 (t) = some (.inr (0, [.ref (u3), .int (z7), .ref (u4), .ref (u5), .int (z8), .ref (u6), .int (z9)])) := (hq54.2 (t) _ h_t rfl).trans (eV2)
          have fx65 : V50 (u6) = some (.inl (cs 6, 60, .inr (.inr (.inr (.inr (g22)))))) := (hq54.2 (u6) _ hu13 rfl).trans (eV21)
          have fx66 : V50 (u25) = some (.inr (5, [.int (z29), .int (z30), .int (z31), .int (z32), .int (z33), .int (z34), .int (z35), .int (z36), .ref (u37), .ref (u38)])) := (hq54.2 (u25) _ hu27 rfl).trans (eV28)
          exact hp_iret hx hb hr hlocks hZ ⟨rfl, hP, ⟨by omega, fun _ => ⟨_, _, hq_LN.keep hP.1 h_t (fun x t hx _ => (hP.2 x t hx rfl).symm) ⟨_, _, _, _, _, _, _, _, _, _, _, _, _, _, _, _, _, fx64, fx65, hx26, fx66, by omega, by omega⟩, by omega⟩⟩⟩ dX0_nextFitting_42

set_option maxHeartbeats 4000000 in
set_option maxRecDepth 100000 in
theorem t_X2_clear (l : Launch) (D : va_G) (cs : Nat → ClassId) (B : Nat) (G : hq_G) (V : hp_V) (n : Nat) (hI : hq_I cs G V) (t : Nat) (h_t : G t = some (7, 0, 0, 0)) : hp_M l yX2_clear cX2_clear 1 none ({ frames := 2, cells := 0, slots := 0, locals := 41 }) D cs B V n [.ref (t)] (hp_QV D cs B (fun V' n' => n = n' ∧ hq_P cs G (fun g => g.1 == 5) V V')) 0 0 := by
  refine hp_walk (R0 := RX2) (by decide) rfl ?_ (Nat.le_of_ble_eq_true rfl)
  intro p e s m below meth c ls hx hb hr hts hown hlocks hin hml hZ hl
  have hP : hq_P cs G (fun g => g.1 == 5) V V := hq_P.rf hI
  have hl : lv_has ls 1 [(0, .ref (t))] := hl
  refine lv_aload_n hx hb dX2_clear_0 rfl (lv_at hl 0 rfl) ?_
  obtain ⟨u2, u3, z4, eV1, hu5, hu6, h7, h8⟩ := hq_o7 hP.1 h_t
  refine hp_get (v := .ref (u2)) hx hb hts hown hZ eV1 fl_X2_14 rfl dX2_clear_1 ?_
  obtain ⟨u16, z17, eV15, hu18, h19, h20, h21⟩ := hq_o0 hP.1 hu5
  refine hp_callv (hp_runV (As := []) (rest := []) hx hb hml hown hts (t_X9_clear l D cs B G (fun g => g.1 == 5) V n hP.1 30 (u2) hu5 rfl) hZ eV15 cv_X2_24 rfl rfl ⟨Nat.le_of_ble_eq_true rfl, Nat.le_of_ble_eq_true rfl⟩ rfl hl.1 rfl (Nat.le_of_ble_eq_true rfl) dX2_clear_4 ⟨(Nat.le_of_ble_eq_true rfl), (Nat.le_of_ble_eq_true rfl)⟩) hZ (fun V9 n10 _ _ hw11 hZ => ?_)
  obtain ⟨rfl, hq13⟩ := hw11
  have hP := hP.trans hq13 (fun _ h => h)
  refine lv_aload_n hx hb dX2_clear_7 rfl (lv_at hl 0 rfl) ?_
  refine lv_iconst (v := 0) hx hb dX2_clear_8 (by decide) ?_
  obtain ⟨u23, u24, z25, eV22, hu26, hu27, h28, h29⟩ := hq_o7 hP.1 h_t
  refine hp_put hx hb hts hown hZ eV22 fp_X2_27 rfl rfl (Nat.le_of_ble_eq_true rfl) dX2_clear_9 (fun V30 _ _ e31 o32 hZ => ?_)
  have e31 : V30 (t) = some (.inr (2, [.ref (u23), .ref (u24), .int (0)])) := e31
  have hP := hP.put h_t e31 o32 (hq_c7 hu26 hu27 (show 0 ≤ (0 : Int) by omega) (show (0 : Int) ≤ 120 by omega) (by first | rfl | omega) (by first | rfl | omega)) rfl
  exact hp_vret hx hb hr hlocks hZ ⟨rfl, hP⟩ dX2_clear_12

set_option maxHeartbeats 4000000 in
set_option maxRecDepth 100000 in
theorem t_X2_lineAt (l : Launch) (D : va_G) (cs : Nat → ClassId) (B : Nat) (G : hq_G) (V : hp_V) (n : Nat) (hI : hq_I cs G V) (t : Nat) (h_t : G t = some (7, 0, 0, 0)) (i : Int32) : hp_M l yX2_lineAt cX2_lineAt 2 (some .int) ({ frames := 1, cells := 0, slots := 0, locals := 21 }) D cs B V n [.ref (t), .int (i)] (hp_QI D cs B (fun r V' n' => n = n' ∧ hq_P cs G (fun _ => false) V V' ∧ True)) 0 0 := by
  refine hp_walk (R0 := RX2) (by decide) rfl ?_ (Nat.le_of_ble_eq_true rfl)
  intro p e s m below meth c ls hx hb hr hts hown hlocks hin hml hZ hl
  have hP : hq_P cs G (fun _ => false) V V := hq_P.rf hI
  have hl : lv_has ls 2 [(0, .ref (t)), (1, .int (i))] := hl
  have hb_i := hq_rng i
  refine lv_iload_n hx hb dX2_lineAt_0 rfl (lv_at hl 1 rfl) ?_
  refine lv_if_lt (tgt := 21) hx hb dX2_lineAt_1 (by decide) (fun c1 => ?_) (fun c1 => ?_)
  · have c1 : (i).toInt < (0 : Int) := hq_lti.mp c1
    refine lv_iconst (v := -1) hx hb dX2_lineAt_21 (by decide) ?_
    exact hp_iret hx hb hr hlocks hZ ⟨rfl, hP, trivial⟩ dX2_lineAt_22
  · have c1 : ¬ (i).toInt < (0 : Int) := fun h9 => c1 (hq_lti.mpr h9)
    refine lv_iload_n hx hb dX2_lineAt_4 rfl (lv_at hl 1 rfl) ?_
    refine lv_aload_n hx hb dX2_lineAt_5 rfl (lv_at hl 0 rfl) ?_
    obtain ⟨u3, u4, z5, eV2, hu6, hu7, h8, h9⟩ := hq_o7 hP.1 h_t
    refine hp_get (v := .int (z5)) hx hb hts hown hZ eV2 fl_X2_27 rfl dX2_lineAt_6 ?_
    refine lv_icmp_ge (tgt := 21) hx hb dX2_lineAt_9 (by decide) (fun c10 => ?_) (fun c10 => ?_)
    · have c10 : (z5).toInt ≤ (i).toInt := hq_lei.mp c10
      refine lv_iconst (v := -1) hx hb dX2_lineAt_21 (by decide) ?_
      exact hp_iret hx hb hr hlocks hZ ⟨rfl, hP, trivial⟩ dX2_lineAt_22
    · have c10 : ¬ (z5).toInt ≤ (i).toInt := fun h9 => c10 (hq_lei.mpr h9)
      refine lv_aload_n hx hb dX2_lineAt_12 rfl (lv_at hl 0 rfl) ?_
      refine hp_get (v := .ref (u4)) hx hb hts hown hZ eV2 fl_X2_20 rfl dX2_lineAt_13 ?_
      refine lv_iload_n hx hb dX2_lineAt_16 rfl (lv_at hl 1 rfl) ?_
      obtain ⟨hN13, g12, eV11, hf14⟩ := hq_o2 hP.1 hu7
      refine hp_iald hx hb hZ eV11 (hq_in (by omega) (by omega)) dX2_lineAt_17 ?_
      refine lv_topi (fun y15 ey16 => ?_)
      have b17 := hq_rng y15
      refine lv_goto (tgt := 22) hx hb dX2_lineAt_18 (by decide) ?_
      exact hp_iret hx hb hr hlocks hZ ⟨rfl, hP, trivial⟩ dX2_lineAt_22

set_option maxHeartbeats 4000000 in
set_option maxRecDepth 100000 in
theorem t_X2_addLine (l : Launch) (D : va_G) (cs : Nat → ClassId) (B : Nat) (G : hq_G) (V : hp_V) (n : Nat) (hI : hq_I cs G V) (t : Nat) (h_t : G t = some (7, 0, 0, 0)) (k : Int32) : hp_M l yX2_addLine cX2_addLine 2 none ({ frames := 1, cells := 0, slots := 0, locals := 21 }) D cs B V n [.ref (t), .int (k)] (hp_QV D cs B (fun V' n' => n = n' ∧ hq_P cs G (fun g => g.1 == 5) V V')) 0 0 := by
  refine hp_walk (R0 := RX2) (by decide) rfl ?_ (Nat.le_of_ble_eq_true rfl)
  intro p e s m below meth c ls hx hb hr hts hown hlocks hin hml hZ hl
  have hP : hq_P cs G (fun g => g.1 == 5) V V := hq_P.rf hI
  have hl : lv_has ls 2 [(0, .ref (t)), (1, .int (k))] := hl
  have hb_k := hq_rng k
  refine lv_aload_n hx hb dX2_addLine_0 rfl (lv_at hl 0 rfl) ?_
  obtain ⟨u2, u3, z4, eV1, hu5, hu6, h7, h8⟩ := hq_o7 hP.1 h_t
  refine hp_get (v := .int (z4)) hx hb hts hown hZ eV1 fl_X2_27 rfl dX2_addLine_1 ?_
  refine lv_aload_n hx hb dX2_addLine_4 rfl (lv_at hl 0 rfl) ?_
  refine hp_get (v := .ref (u3)) hx hb hts hown hZ eV1 fl_X2_20 rfl dX2_addLine_5 ?_
  obtain ⟨hN11, g10, eV9, hf12⟩ := hq_o2 hP.1 hu6
  refine hp_alen (v := 120) hx hb hZ 1 eV9 rfl rfl dX2_addLine_8 ?_
  refine lv_icmp_ge (tgt := 32) hx hb dX2_addLine_9 (by decide) (fun c13 => ?_) (fun c13 => ?_)
  · have c13 : (120 : Int) ≤ (z4).toInt := hq_lei.mp c13
    exact hp_vret hx hb hr hlocks hZ ⟨rfl, hP⟩ dX2_addLine_32
  · have c13 : ¬ (120 : Int) ≤ (z4).toInt := fun h9 => c13 (hq_lei.mpr h9)
    refine lv_aload_n hx hb dX2_addLine_12 rfl (lv_at hl 0 rfl) ?_
    refine hp_get (v := .ref (u3)) hx hb hts hown hZ eV1 fl_X2_20 rfl dX2_addLine_13 ?_
    refine lv_aload_n hx hb dX2_addLine_16 rfl (lv_at hl 0 rfl) ?_
    refine hp_get (v := .int (z4)) hx hb hts hown hZ eV1 fl_X2_27 rfl dX2_addLine_17 ?_
    refine lv_iload_n hx hb dX2_addLine_20 rfl (lv_at hl 1 rfl) ?_
    refine hp_iast hx hb hZ eV9 (hq_in (by omega) (by omega)) dX2_addLine_21 (fun V14 _ _ e15 o16 hZ => ?_)
    have e15 : V14 (u3) = some (.inl (cs 1, 120, .inl (upd (g10) ((z4 : Int32).toNatClampNeg) (k)))) := e15
    have hP := hP.put hu6 e15 o16 (hq_c2 (by omega) (hq_upd hf12 (hq_rng _))) rfl
    refine lv_aload_n hx hb dX2_addLine_22 rfl (lv_at hl 0 rfl) ?_
    refine lv_dup hx hb dX2_addLine_23 rfl ?_
    have fx17 : V14 (t) = some (.inr (2, [.ref (u2), .ref (u3), .int (z4)])) := (o16 (t) (hq_tne h_t hu6 (by simp))).trans (eV1)
    refine hp_get (v := .int (z4)) hx hb hts hown hZ fx17 fl_X2_27 rfl dX2_addLine_24 ?_
    refine lv_iconst (v := 1) hx hb dX2_addLine_27 (by decide) ?_
    refine lv_iadd hx hb dX2_addLine_28 ?_
    refine lv_topi (fun y18 ey19 => ?_)
    obtain ⟨k20, hk21, b22, b23⟩ := hq_add (z4) (1)
    rw [← ey19] at hk21 b22 b23
    have hk21 : (y18).toInt = (z4).toInt + (1 : Int) + k20 * 4294967296 := hk21
    refine hp_put hx hb hts hown hZ fx17 fp_X2_27 rfl rfl (Nat.le_of_ble_eq_true rfl) dX2_addLine_29 (fun V24 _ _ e25 o26 hZ => ?_)
    have e25 : V24 (t) = some (.inr (2, [.ref (u2), .ref (u3), .int (y18)])) := e25
    have hP := hP.put h_t e25 o26 (hq_c7 hu5 hu6 (show 0 ≤ (y18).toInt by omega) (show (y18).toInt ≤ 120 by omega) (by first | rfl | omega) (by first | rfl | omega)) rfl
    exact hp_vret hx hb hr hlocks hZ ⟨rfl, hP⟩ dX2_addLine_32

set_option maxHeartbeats 4000000 in
set_option maxRecDepth 100000 in
theorem t_X2_addBits (l : Launch) (D : va_G) (cs : Nat → ClassId) (B : Nat) (G : hq_G) (V : hp_V) (n : Nat) (hI : hq_I cs G V) (t : Nat) (h_t : G t = some (7, 0, 0, 0)) (k : Int64) : hp_M l yX2_addBits cX2_addBits 4 none ({ frames := 2, cells := 0, slots := 0, locals := 42 }) D cs B V n [.ref (t), .long (k)] (hp_QV D cs B (fun V' n' => n = n' ∧ hq_P cs G (fun g => g.1 == 5) V V')) 0 0 := by
  refine hp_walk (R0 := RX2) (by decide) rfl ?_ (Nat.le_of_ble_eq_true rfl)
  intro p e s m below meth c ls hx hb hr hts hown hlocks hin hml hZ hl
  have hP : hq_P cs G (fun g => g.1 == 5) V V := hq_P.rf hI
  have hl : lv_has ls 4 [(0, .ref (t)), (1, .long (k))] := hl
  refine lv_iconst (v := 0) hx hb dX2_addBits_0 (by decide) ?_
  refine lv_istore_n (lv' := [(3, .int (0)), (0, .ref (t)), (1, .long (k))]) hx hb dX2_addBits_1 rfl hl (by decide) rfl (fun ls hl => ?_)
  have hl1 : (0 : Int32).toInt = 0 := by decide
  suffices lp2 : ∀ (k9 : Nat) (V9 : hp_V) (H9 : Heap) (locs9 : List Loc) (ls : Array Slot) (i : Int32), (100 - i.toInt).toNat = k9 → hp_Z D cs B s V9 H9 n locs9 → hq_P cs G (fun g => g.1 == 5) V V9 → 0 ≤ i.toInt → i.toInt ≤ 60 → lv_has ls 4 [(3, .int (i)), (0, .ref (t)), (1, .long (k))] → W p l e ({ frames := 2, cells := 0, slots := 0, locals := 42 }) s m ([.ref (t), .long (k)] : List Value).toArray below meth c H9 locs9 0 0 (MQ below (hp_QV D cs B (fun V' n' => n = n' ∧ hq_P cs G (fun g => g.1 == 5) V V')) ([.ref (t), .long (k)] : List Value).toArray s 0 0 (hp_F B)) (F0 m 2 ls []) from lp2 _ _ _ _ ls (0) rfl hZ hP (by omega) (by omega) (lv_sub hl [0, 1, 2] rfl)
  intro k9
  induction k9 using Nat.strongRecOn with
  | _ k9 ih2 =>
    intro V9 H9 locs9 ls i  hk2 hZ hP  hv2 hv3 hl
    have hb_i := hq_rng i
    have hP_2 := hP
    refine lv_iload_n hx hb dX2_addBits_2 rfl (lv_at hl 0 rfl) ?_
    refine lv_bipush (v := 60) hx hb dX2_addBits_3 (by decide) ?_
    refine lv_icmp_ge (tgt := 29) hx hb dX2_addBits_5 (by decide) (fun c4 => ?_) (fun c4 => ?_)
    · have c4 : (60 : Int) ≤ (i).toInt := hq_lei.mp c4
      exact hp_vret hx hb hr hlocks hZ ⟨rfl, hP⟩ dX2_addBits_29
    · have c4 : ¬ (60 : Int) ≤ (i).toInt := fun h9 => c4 (hq_lei.mpr h9)
      refine lv_lload_n hx hb dX2_addBits_8 rfl (lv_at hl 2 rfl) ?_
      refine lv_iload_n hx hb dX2_addBits_9 rfl (lv_at hl 0 rfl) ?_
      refine lv_lushr (v := ((k : Int64).toUInt64 >>> ((i : Int32).toInt64.toUInt64 &&& Int64.toUInt64 63)).toInt64) hx hb dX2_addBits_10 rfl ?_
      refine lv_topl (fun y5 ey6 => ?_)
      refine lv_lconst (v := 1) hx hb dX2_addBits_11 (by decide) ?_
      refine lv_land hx hb dX2_addBits_12 ?_
      refine lv_topl (fun y7 ey8 => ?_)
      refine lv_lconst (v := 0) hx hb dX2_addBits_13 (by decide) ?_
      refine W.lcmp hx hb dX2_addBits_14 ?_
      refine lv_topi (fun y9 ey10 => ?_)
      have b11 := hq_rng y9
      refine lv_if_eq (tgt := 23) hx hb dX2_addBits_15 (by decide) (fun c12 => ?_) (fun c12 => ?_)
      · have c12 : (y9).toInt = (0 : Int) := hq_eqi.mp c12
        obtain ⟨y13, ey14⟩ : ∃ y : Int32, y = i + (1) := ⟨_, rfl⟩
        obtain ⟨k15, hk16, b17, b18⟩ := hq_add (i) (1)
        rw [← ey14] at hk16 b17 b18
        have hk16 : (y13).toInt = (i).toInt + (1) + k15 * 4294967296 := hk16
        refine lv_iinc (v := y13) (lv' := [(3, .int (y13)), (0, .ref (t)), (1, .long (k))]) hx hb dX2_addBits_23 hl (k := 0) rfl (by rw [ey14]; rfl) (by decide) rfl (fun ls hl => ?_)
        refine lv_goto (tgt := 2) hx hb dX2_addBits_26 (by decide) ?_
        exact ih2 _ (by omega) _ _ _ ls (y13) rfl hZ hP (by omega) (by omega) (lv_sub hl [0, 1, 2] rfl)
      · have c12 : ¬ (y9).toInt = (0 : Int) := fun h9 => c12 (hq_eqi.mpr h9)
        refine lv_aload_n hx hb dX2_addBits_18 rfl (lv_at hl 1 rfl) ?_
        refine lv_iload_n hx hb dX2_addBits_19 rfl (lv_at hl 0 rfl) ?_
        obtain ⟨u26, u27, z28, eV25, hu29, hu30, h31, h32⟩ := hq_o7 hP.1 h_t
        refine hp_callv (hp_runV (As := [.int (i)]) (rest := []) hx hb hml hown hts (t_X2_addLine l D cs B G  V9 n hP.1  (t) h_t (i) ) hZ eV25 cv_X2_31 rfl rfl ⟨Nat.le_of_ble_eq_true rfl, Nat.le_of_ble_eq_true rfl⟩ rfl hl.1 rfl (Nat.le_of_ble_eq_true rfl) dX2_addBits_20 ⟨(Nat.le_of_ble_eq_true rfl), (Nat.le_of_ble_eq_true rfl)⟩) hZ (fun V19 n20 _ _ hw21 hZ => ?_)
        obtain ⟨rfl, hq23⟩ := hw21
        have hP := hP.trans hq23 (by intro g h; simp_all)
        obtain ⟨y33, ey34⟩ : ∃ y : Int32, y = i + (1) := ⟨_, rfl⟩
        obtain ⟨k35, hk36, b37, b38⟩ := hq_add (i) (1)
        rw [← ey34] at hk36 b37 b38
        have hk36 : (y33).toInt = (i).toInt + (1) + k35 * 4294967296 := hk36
        refine lv_iinc (v := y33) (lv' := [(3, .int (y33)), (0, .ref (t)), (1, .long (k))]) hx hb dX2_addBits_23 hl (k := 0) rfl (by rw [ey34]; rfl) (by decide) rfl (fun ls hl => ?_)
        refine lv_goto (tgt := 2) hx hb dX2_addBits_26 (by decide) ?_
        exact ih2 _ (by omega) _ _ _ ls (y33) rfl hZ hP (by omega) (by omega) (lv_sub hl [0, 1, 2] rfl)

set_option maxHeartbeats 4000000 in
set_option maxRecDepth 100000 in
theorem t_X2_addRow (l : Launch) (D : va_G) (cs : Nat → ClassId) (B : Nat) (G : hq_G) (V : hp_V) (n : Nat) (hI : hq_I cs G V) (t : Nat) (h_t : G t = some (7, 0, 0, 0)) (u : Nat) (h_u : G u = some (7, 0, 0, 0)) : hp_M l yX2_addRow cX2_addRow 3 none ({ frames := 2, cells := 0, slots := 0, locals := 42 }) D cs B V n [.ref (t), .ref (u)] (hp_QV D cs B (fun V' n' => n = n' ∧ hq_P cs G (fun g => g.1 == 5) V V')) 0 0 := by
  refine hp_walk (R0 := RX2) (by decide) rfl ?_ (Nat.le_of_ble_eq_true rfl)
  intro p e s m below meth c ls hx hb hr hts hown hlocks hin hml hZ hl
  have hP : hq_P cs G (fun g => g.1 == 5) V V := hq_P.rf hI
  have hl : lv_has ls 3 [(0, .ref (t)), (1, .ref (u))] := hl
  refine lv_iconst (v := 0) hx hb dX2_addRow_0 (by decide) ?_
  refine lv_istore_n (lv' := [(2, .int (0)), (0, .ref (t)), (1, .ref (u))]) hx hb dX2_addRow_1 rfl hl (by decide) rfl (fun ls hl => ?_)
  have hl1 : (0 : Int32).toInt = 0 := by decide
  suffices lp2 : ∀ (k9 : Nat) (V9 : hp_V) (H9 : Heap) (locs9 : List Loc) (ls : Array Slot) (i : Int32), (200 - i.toInt).toNat = k9 → hp_Z D cs B s V9 H9 n locs9 → hq_P cs G (fun g => g.1 == 5) V V9 → 0 ≤ i.toInt → i.toInt ≤ 120 → lv_has ls 3 [(2, .int (i)), (0, .ref (t)), (1, .ref (u))] → W p l e ({ frames := 2, cells := 0, slots := 0, locals := 42 }) s m ([.ref (t), .ref (u)] : List Value).toArray below meth c H9 locs9 0 0 (MQ below (hp_QV D cs B (fun V' n' => n = n' ∧ hq_P cs G (fun g => g.1 == 5) V V')) ([.ref (t), .ref (u)] : List Value).toArray s 0 0 (hp_F B)) (F0 m 2 ls []) from lp2 _ _ _ _ ls (0) rfl hZ hP (by omega) (by omega) (lv_sub hl [0, 1, 2] rfl)
  intro k9
  induction k9 using Nat.strongRecOn with
  | _ k9 ih2 =>
    intro V9 H9 locs9 ls i  hk2 hZ hP  hv2 hv3 hl
    have hb_i := hq_rng i
    have hP_2 := hP
    refine lv_iload_n hx hb dX2_addRow_2 rfl (lv_at hl 0 rfl) ?_
    refine lv_aload_n hx hb dX2_addRow_3 rfl (lv_at hl 2 rfl) ?_
    obtain ⟨u5, u6, z7, eV4, hu8, hu9, h10, h11⟩ := hq_o7 hP.1 h_u
    refine hp_get (v := .int (z7)) hx hb hts hown hZ eV4 fl_X2_27 rfl dX2_addRow_4 ?_
    refine lv_icmp_ge (tgt := 26) hx hb dX2_addRow_7 (by decide) (fun c12 => ?_) (fun c12 => ?_)
    · have c12 : (z7).toInt ≤ (i).toInt := hq_lei.mp c12
      exact hp_vret hx hb hr hlocks hZ ⟨rfl, hP⟩ dX2_addRow_26
    · have c12 : ¬ (z7).toInt ≤ (i).toInt := fun h9 => c12 (hq_lei.mpr h9)
      refine lv_aload_n hx hb dX2_addRow_10 rfl (lv_at hl 1 rfl) ?_
      refine lv_aload_n hx hb dX2_addRow_11 rfl (lv_at hl 2 rfl) ?_
      refine hp_get (v := .ref (u6)) hx hb hts hown hZ eV4 fl_X2_20 rfl dX2_addRow_12 ?_
      refine lv_iload_n hx hb dX2_addRow_15 rfl (lv_at hl 0 rfl) ?_
      obtain ⟨hN15, g14, eV13, hf16⟩ := hq_o2 hP.1 hu9
      refine hp_iald hx hb hZ eV13 (hq_in (by omega) (by omega)) dX2_addRow_16 ?_
      refine lv_topi (fun y17 ey18 => ?_)
      have b19 := hq_rng y17
      obtain ⟨u27, u28, z29, eV26, hu30, hu31, h32, h33⟩ := hq_o7 hP.1 h_t
      refine hp_callv (hp_runV (As := [.int (y17)]) (rest := []) hx hb hml hown hts (t_X2_addLine l D cs B G  V9 n hP.1  (t) h_t (y17) ) hZ eV26 cv_X2_31 rfl rfl ⟨Nat.le_of_ble_eq_true rfl, Nat.le_of_ble_eq_true rfl⟩ rfl hl.1 rfl (Nat.le_of_ble_eq_true rfl) dX2_addRow_17 ⟨(Nat.le_of_ble_eq_true rfl), (Nat.le_of_ble_eq_true rfl)⟩) hZ (fun V20 n21 _ _ hw22 hZ => ?_)
      obtain ⟨rfl, hq24⟩ := hw22
      have hP := hP.trans hq24 (by intro g h; simp_all)
      obtain ⟨y34, ey35⟩ : ∃ y : Int32, y = i + (1) := ⟨_, rfl⟩
      obtain ⟨k36, hk37, b38, b39⟩ := hq_add (i) (1)
      rw [← ey35] at hk37 b38 b39
      have hk37 : (y34).toInt = (i).toInt + (1) + k36 * 4294967296 := hk37
      refine lv_iinc (v := y34) (lv' := [(2, .int (y34)), (0, .ref (t)), (1, .ref (u))]) hx hb dX2_addRow_20 hl (k := 0) rfl (by rw [ey35]; rfl) (by decide) rfl (fun ls hl => ?_)
      refine lv_goto (tgt := 2) hx hb dX2_addRow_23 (by decide) ?_
      exact ih2 _ (by omega) _ _ _ ls (y34) rfl hZ hP (by omega) (by omega) (lv_sub hl [0, 1, 2] rfl)

set_option maxHeartbeats 4000000 in
set_option maxRecDepth 100000 in
theorem t_X2_lineBits (l : Launch) (D : va_G) (cs : Nat → ClassId) (B : Nat) (G : hq_G) (V : hp_V) (n : Nat) (hI : hq_I cs G V) (t : Nat) (h_t : G t = some (7, 0, 0, 0)) : hp_M l yX2_lineBits cX2_lineBits 4 (some .long) ({ frames := 1, cells := 0, slots := 0, locals := 21 }) D cs B V n [.ref (t)] (hp_QL D cs B (fun r V' n' => n = n' ∧ hq_P cs G (fun _ => false) V V' ∧ True)) 0 0 := by
  refine hp_walk (R0 := RX2) (by decide) rfl ?_ (Nat.le_of_ble_eq_true rfl)
  intro p e s m below meth c ls hx hb hr hts hown hlocks hin hml hZ hl
  have hP : hq_P cs G (fun _ => false) V V := hq_P.rf hI
  have hl : lv_has ls 4 [(0, .ref (t))] := hl
  refine lv_lconst (v := 0) hx hb dX2_lineBits_0 (by decide) ?_
  refine lv_lstore_n (lv' := [(1, .long (0)), (0, .ref (t))]) hx hb dX2_lineBits_1 rfl hl (by decide) rfl (fun ls hl => ?_)
  refine lv_iconst (v := 0) hx hb dX2_lineBits_2 (by decide) ?_
  refine lv_istore_n (lv' := [(3, .int (0)), (1, .long (0)), (0, .ref (t))]) hx hb dX2_lineBits_3 rfl hl (by decide) rfl (fun ls hl => ?_)
  have hl1 : (0 : Int32).toInt = 0 := by decide
  suffices lp4 : ∀ (k9 : Nat) (V9 : hp_V) (H9 : Heap) (locs9 : List Loc) (ls : Array Slot) (q : Int64) (i : Int32), (200 - i.toInt).toNat = k9 → hp_Z D cs B s V9 H9 n locs9 → hq_P cs G (fun _ => false) V V9 → 0 ≤ i.toInt → i.toInt ≤ 120 → lv_has ls 4 [(3, .int (i)), (1, .long (q)), (0, .ref (t))] → W p l e ({ frames := 1, cells := 0, slots := 0, locals := 21 }) s m ([.ref (t)] : List Value).toArray below meth c H9 locs9 0 0 (MQ below (hp_QL D cs B (fun r V' n' => n = n' ∧ hq_P cs G (fun _ => false) V V' ∧ True)) ([.ref (t)] : List Value).toArray s 0 0 (hp_F B)) (F0 m 4 ls []) from lp4 _ _ _ _ ls (0) (0) rfl hZ hP (by omega) (by omega) (lv_sub hl [0, 1, 2] rfl)
  intro k9
  induction k9 using Nat.strongRecOn with
  | _ k9 ih4 =>
    intro V9 H9 locs9 ls q i  hk4 hZ hP  hv2 hv3 hl
    have hb_i := hq_rng i
    have hP_4 := hP
    refine lv_iload_n hx hb dX2_lineBits_4 rfl (lv_at hl 0 rfl) ?_
    refine lv_aload_n hx hb dX2_lineBits_5 rfl (lv_at hl 2 rfl) ?_
    obtain ⟨u5, u6, z7, eV4, hu8, hu9, h10, h11⟩ := hq_o7 hP.1 h_t
    refine hp_get (v := .int (z7)) hx hb hts hown hZ eV4 fl_X2_27 rfl dX2_lineBits_6 ?_
    refine lv_icmp_ge (tgt := 29) hx hb dX2_lineBits_9 (by decide) (fun c12 => ?_) (fun c12 => ?_)
    · have c12 : (z7).toInt ≤ (i).toInt := hq_lei.mp c12
      refine lv_lload_n hx hb dX2_lineBits_29 rfl (lv_at hl 1 rfl) ?_
      exact hp_lret hx hb hr hlocks hZ ⟨rfl, hP, trivial⟩ dX2_lineBits_30
    · have c12 : ¬ (z7).toInt ≤ (i).toInt := fun h9 => c12 (hq_lei.mpr h9)
      refine lv_lload_n hx hb dX2_lineBits_12 rfl (lv_at hl 1 rfl) ?_
      refine lv_lconst (v := 1) hx hb dX2_lineBits_13 (by decide) ?_
      refine lv_aload_n hx hb dX2_lineBits_14 rfl (lv_at hl 2 rfl) ?_
      refine hp_get (v := .ref (u6)) hx hb hts hown hZ eV4 fl_X2_20 rfl dX2_lineBits_15 ?_
      refine lv_iload_n hx hb dX2_lineBits_18 rfl (lv_at hl 0 rfl) ?_
      obtain ⟨hN15, g14, eV13, hf16⟩ := hq_o2 hP.1 hu9
      refine hp_iald hx hb hZ eV13 (hq_in (by omega) (by omega)) dX2_lineBits_19 ?_
      refine lv_topi (fun y17 ey18 => ?_)
      have b19 := hq_rng y17
      refine lv_lshl (v := (1 : Int64) <<< ((y17 : Int32).toInt64 &&& 63)) hx hb dX2_lineBits_20 rfl ?_
      refine lv_topl (fun y20 ey21 => ?_)
      refine lv_lor hx hb dX2_lineBits_21 ?_
      refine lv_topl (fun y22 ey23 => ?_)
      refine lv_lstore_n (lv' := [(1, .long (y22)), (3, .int (i)), (0, .ref (t))]) hx hb dX2_lineBits_22 rfl hl (by decide) rfl (fun ls hl => ?_)
      obtain ⟨y24, ey25⟩ : ∃ y : Int32, y = i + (1) := ⟨_, rfl⟩
      obtain ⟨k26, hk27, b28, b29⟩ := hq_add (i) (1)
      rw [← ey25] at hk27 b28 b29
      have hk27 : (y24).toInt = (i).toInt + (1) + k26 * 4294967296 := hk27
      refine lv_iinc (v := y24) (lv' := [(3, .int (y24)), (1, .long (y22)), (0, .ref (t))]) hx hb dX2_lineBits_23 hl (k := 1) rfl (by rw [ey25]; rfl) (by decide) rfl (fun ls hl => ?_)
      refine lv_goto (tgt := 4) hx hb dX2_lineBits_26 (by decide) ?_
      exact ih4 _ (by omega) _ _ _ ls (y22) (y24) rfl hZ hP (by omega) (by omega) (lv_sub hl [0, 1, 2] rfl)

set_option maxHeartbeats 4000000 in
set_option maxRecDepth 100000 in
theorem t_X3_clear (l : Launch) (D : va_G) (cs : Nat → ClassId) (B : Nat) (G : hq_G) (V : hp_V) (n : Nat) (hI : hq_I cs G V) (R : Nat) (t : Nat) (h_t : G t = some (8, R, 0, 0)) : hp_M l yX3_clear cX3_clear 1 none ({ frames := 1, cells := 0, slots := 0, locals := 21 }) D cs B V n [.ref (t)] (hp_QV D cs B (fun V' n' => n = n' ∧ hq_P cs G (fun g => g.1 == 6) V V')) 0 0 := by
  refine hp_walk (R0 := RX3) (by decide) rfl ?_ (Nat.le_of_ble_eq_true rfl)
  intro p e s m below meth c ls hx hb hr hts hown hlocks hin hml hZ hl
  have hP : hq_P cs G (fun g => g.1 == 6) V V := hq_P.rf hI
  have hl : lv_has ls 1 [(0, .ref (t))] := hl
  refine lv_aload_n hx hb dX3_clear_0 rfl (lv_at hl 0 rfl) ?_
  refine lv_iconst (v := 0) hx hb dX3_clear_1 (by decide) ?_
  obtain ⟨u2, z3, eV1, hu4, h5, h6, h7⟩ := hq_o8 hP.1 h_t
  refine hp_put hx hb hts hown hZ eV1 fp_X3_24 rfl rfl (Nat.le_of_ble_eq_true rfl) dX3_clear_2 (fun V8 _ _ e9 o10 hZ => ?_)
  have e9 : V8 (t) = some (.inr (3, [.ref (u2), .int (0)])) := e9
  have hP := hP.put h_t e9 o10 (hq_c8 hu4 (show 0 ≤ (0 : Int) by omega) (show (0 : Int) ≤ (R : Nat) by omega) (by omega) (by first | rfl | omega)) rfl
  exact hp_vret hx hb hr hlocks hZ ⟨rfl, hP⟩ dX3_clear_5

set_option maxHeartbeats 4000000 in
set_option maxRecDepth 100000 in
theorem t_X3_get (l : Launch) (D : va_G) (cs : Nat → ClassId) (B : Nat) (G : hq_G) (V : hp_V) (n : Nat) (hI : hq_I cs G V) (R : Nat) (t : Nat) (h_t : G t = some (8, R, 0, 0)) (k : Int32) : hp_M l yX3_get cX3_get 2 (some (.object "VerbSchool$Form")) ({ frames := 1, cells := 0, slots := 0, locals := 21 }) D cs B V n [.ref (t), .int (k)] (hp_QR D cs B (fun r V' n' => n = n' ∧ hq_P cs G (fun _ => false) V V' ∧ (∀ x, r = some x → G x = some (7, 0, 0, 0)))) 0 0 := by
  refine hp_walk (R0 := RX3) (by decide) rfl ?_ (Nat.le_of_ble_eq_true rfl)
  intro p e s m below meth c ls hx hb hr hts hown hlocks hin hml hZ hl
  have hP : hq_P cs G (fun _ => false) V V := hq_P.rf hI
  have hl : lv_has ls 2 [(0, .ref (t)), (1, .int (k))] := hl
  have hb_k := hq_rng k
  refine lv_iload_n hx hb dX3_get_0 rfl (lv_at hl 1 rfl) ?_
  refine lv_if_lt (tgt := 21) hx hb dX3_get_1 (by decide) (fun c1 => ?_) (fun c1 => ?_)
  · have c1 : (k).toInt < (0 : Int) := hq_lti.mp c1
    refine lv_null hx hb dX3_get_21 ?_
    exact hp_aret (r := none) hx hb hr (Or.inl ⟨_, rfl⟩) hlocks hZ ⟨rfl, hP, (fun x h => by cases h)⟩ dX3_get_22
  · have c1 : ¬ (k).toInt < (0 : Int) := fun h9 => c1 (hq_lti.mpr h9)
    refine lv_iload_n hx hb dX3_get_4 rfl (lv_at hl 1 rfl) ?_
    refine lv_aload_n hx hb dX3_get_5 rfl (lv_at hl 0 rfl) ?_
    obtain ⟨u3, z4, eV2, hu5, h6, h7, h8⟩ := hq_o8 hP.1 h_t
    refine hp_get (v := .int (z4)) hx hb hts hown hZ eV2 fl_X3_24 rfl dX3_get_6 ?_
    refine lv_icmp_ge (tgt := 21) hx hb dX3_get_9 (by decide) (fun c9 => ?_) (fun c9 => ?_)
    · have c9 : (z4).toInt ≤ (k).toInt := hq_lei.mp c9
      refine lv_null hx hb dX3_get_21 ?_
      exact hp_aret (r := none) hx hb hr (Or.inl ⟨_, rfl⟩) hlocks hZ ⟨rfl, hP, (fun x h => by cases h)⟩ dX3_get_22
    · have c9 : ¬ (z4).toInt ≤ (k).toInt := fun h9 => c9 (hq_lei.mpr h9)
      refine lv_aload_n hx hb dX3_get_12 rfl (lv_at hl 0 rfl) ?_
      refine hp_get (v := .ref (u3)) hx hb hts hown hZ eV2 fl_X3_17 rfl dX3_get_13 ?_
      refine lv_iload_n hx hb dX3_get_16 rfl (lv_at hl 1 rfl) ?_
      obtain ⟨hN12, g11, eV10, hf13, _⟩ := hq_o4 hP.1 hu5
      obtain ⟨u14, hx15, hu16⟩ := hf13 (k : Int32).toNatClampNeg (hq_ix (by omega) (by omega))
      have hu16 : G u14 = some (7, 0, 0, 0) := hu16
      refine hp_aald (v := .ref (u14)) hx hb hZ 4 eV10 rfl (hq_in (by omega) (by omega)) (by rw [hx15]; rfl) dX3_get_17 ?_
      refine lv_goto (tgt := 22) hx hb dX3_get_18 (by decide) ?_
      exact hp_aret (r := some (u14)) hx hb hr (Or.inl ⟨_, rfl⟩) hlocks hZ ⟨rfl, hP, (fun x h => by cases h; exact hu16)⟩ dX3_get_22

set_option maxHeartbeats 4000000 in
set_option maxRecDepth 100000 in
theorem t_X3_open (l : Launch) (D : va_G) (cs : Nat → ClassId) (B : Nat) (G : hq_G) (V : hp_V) (n : Nat) (hI : hq_I cs G V) (R : Nat) (t : Nat) (h_t : G t = some (8, R, 0, 0)) : hp_M l yX3_open cX3_open 1 (some (.object "VerbSchool$Form")) ({ frames := 3, cells := 0, slots := 0, locals := 61 }) D cs B V n [.ref (t)] (hp_QR D cs B (fun r V' n' => n = n' ∧ hq_P cs G (fun g => g.1 == 5) V V' ∧ (∀ x, r = some x → G x = some (7, 0, 0, 0)))) 0 0 := by
  refine hp_walk (R0 := RX3) (by decide) rfl ?_ (Nat.le_of_ble_eq_true rfl)
  intro p e s m below meth c ls hx hb hr hts hown hlocks hin hml hZ hl
  have hP : hq_P cs G (fun g => g.1 == 5) V V := hq_P.rf hI
  have hl : lv_has ls 1 [(0, .ref (t))] := hl
  refine lv_aload_n hx hb dX3_open_0 rfl (lv_at hl 0 rfl) ?_
  obtain ⟨u2, z3, eV1, hu4, h5, h6, h7⟩ := hq_o8 hP.1 h_t
  refine hp_get (v := .int (z3)) hx hb hts hown hZ eV1 fl_X3_24 rfl dX3_open_1 ?_
  refine lv_aload_n hx hb dX3_open_4 rfl (lv_at hl 0 rfl) ?_
  refine hp_get (v := .ref (u2)) hx hb hts hown hZ eV1 fl_X3_17 rfl dX3_open_5 ?_
  obtain ⟨hN10, g9, eV8, hf11, _⟩ := hq_o4 hP.1 hu4
  refine hp_alen (v := nI (R)) hx hb hZ 4 eV8 rfl rfl dX3_open_8 ?_
  refine lv_topi (fun y12 ey13 => ?_)
  have b14 : (y12).toInt = (R : Nat) := by rw [ey13]; exact hq_nI (by omega)
  refine lv_icmp_lt (tgt := 14) hx hb dX3_open_9 (by decide) (fun c15 => ?_) (fun c15 => ?_)
  · have c15 : (z3).toInt < (y12).toInt := hq_lti.mp c15
    refine lv_aload_n hx hb dX3_open_14 rfl (lv_at hl 0 rfl) ?_
    refine hp_get (v := .ref (u2)) hx hb hts hown hZ eV1 fl_X3_17 rfl dX3_open_15 ?_
    refine lv_aload_n hx hb dX3_open_18 rfl (lv_at hl 0 rfl) ?_
    refine hp_get (v := .int (z3)) hx hb hts hown hZ eV1 fl_X3_24 rfl dX3_open_19 ?_
    obtain ⟨u16, hx17, hu18⟩ := hf11 (z3 : Int32).toNatClampNeg (hq_ix (by omega) (by omega))
    have hu18 : G u16 = some (7, 0, 0, 0) := hu18
    refine hp_aald (v := .ref (u16)) hx hb hZ 4 eV8 rfl (hq_in (by omega) (by omega)) (by rw [hx17]; rfl) dX3_open_22 ?_
    obtain ⟨u26, u27, z28, eV25, hu29, hu30, h31, h32⟩ := hq_o7 hP.1 hu18
    refine hp_callv (hp_runV (As := []) (rest := []) hx hb hml hown hts (t_X2_clear l D cs B G  V n hP.1  (u16) hu18 ) hZ eV25 cv_X3_28 rfl rfl ⟨Nat.le_of_ble_eq_true rfl, Nat.le_of_ble_eq_true rfl⟩ rfl hl.1 rfl (Nat.le_of_ble_eq_true rfl) dX3_open_23 ⟨(Nat.le_of_ble_eq_true rfl), (Nat.le_of_ble_eq_true rfl)⟩) hZ (fun V19 n20 _ _ hw21 hZ => ?_)
    obtain ⟨rfl, hq23⟩ := hw21
    have hP := hP.trans hq23 (by intro g h; simp_all)
    refine lv_aload_n hx hb dX3_open_26 rfl (lv_at hl 0 rfl) ?_
    have fx33 : V19 (t) = some (.inr (3, [.ref (u2), .int (z3)])) := (hq23.2 (t) _ h_t rfl).trans (eV1)
    refine hp_get (v := .ref (u2)) hx hb hts hown hZ fx33 fl_X3_17 rfl dX3_open_27 ?_
    refine lv_aload_n hx hb dX3_open_30 rfl (lv_at hl 0 rfl) ?_
    refine hp_get (v := .int (z3)) hx hb hts hown hZ fx33 fl_X3_24 rfl dX3_open_31 ?_
    have fx34 : V19 (u2) = some (.inl (cs 4, R, .inr (.inr (.inr (.inr (g9)))))) := (hq23.2 (u2) _ hu4 rfl).trans (eV8)
    obtain ⟨u35, hx36, hu37⟩ := hf11 (z3 : Int32).toNatClampNeg (hq_ix (by omega) (by omega))
    have hu37 : G u35 = some (7, 0, 0, 0) := hu37
    refine hp_aald (v := .ref (u35)) hx hb hZ 4 fx34 rfl (hq_in (by omega) (by omega)) (by rw [hx36]; rfl) dX3_open_34 ?_
    exact hp_aret (r := some (u35)) hx hb hr (Or.inl ⟨_, rfl⟩) hlocks hZ ⟨rfl, hP, (fun x h => by cases h; exact hu37)⟩ dX3_open_35
  · have c15 : ¬ (z3).toInt < (y12).toInt := fun h9 => c15 (hq_lti.mpr h9)
    refine lv_null hx hb dX3_open_12 ?_
    exact hp_aret (r := none) hx hb hr (Or.inl ⟨_, rfl⟩) hlocks hZ ⟨rfl, hP, (fun x h => by cases h)⟩ dX3_open_13

set_option maxHeartbeats 4000000 in
set_option maxRecDepth 100000 in
theorem t_X3_keep (l : Launch) (D : va_G) (cs : Nat → ClassId) (B : Nat) (G : hq_G) (V : hp_V) (n : Nat) (hI : hq_I cs G V) (R : Nat) (t : Nat) (h_t : G t = some (8, R, 0, 0)) : hp_M l yX3_keep cX3_keep 1 none ({ frames := 1, cells := 0, slots := 0, locals := 21 }) D cs B V n [.ref (t)] (hp_QV D cs B (fun V' n' => n = n' ∧ hq_P cs G (fun g => g.1 == 6) V V')) 0 0 := by
  refine hp_walk (R0 := RX3) (by decide) rfl ?_ (Nat.le_of_ble_eq_true rfl)
  intro p e s m below meth c ls hx hb hr hts hown hlocks hin hml hZ hl
  have hP : hq_P cs G (fun g => g.1 == 6) V V := hq_P.rf hI
  have hl : lv_has ls 1 [(0, .ref (t))] := hl
  refine lv_aload_n hx hb dX3_keep_0 rfl (lv_at hl 0 rfl) ?_
  obtain ⟨u2, z3, eV1, hu4, h5, h6, h7⟩ := hq_o8 hP.1 h_t
  refine hp_get (v := .int (z3)) hx hb hts hown hZ eV1 fl_X3_24 rfl dX3_keep_1 ?_
  refine lv_aload_n hx hb dX3_keep_4 rfl (lv_at hl 0 rfl) ?_
  refine hp_get (v := .ref (u2)) hx hb hts hown hZ eV1 fl_X3_17 rfl dX3_keep_5 ?_
  obtain ⟨hN10, g9, eV8, hf11, _⟩ := hq_o4 hP.1 hu4
  refine hp_alen (v := nI (R)) hx hb hZ 4 eV8 rfl rfl dX3_keep_8 ?_
  refine lv_topi (fun y12 ey13 => ?_)
  have b14 : (y12).toInt = (R : Nat) := by rw [ey13]; exact hq_nI (by omega)
  refine lv_icmp_ge (tgt := 22) hx hb dX3_keep_9 (by decide) (fun c15 => ?_) (fun c15 => ?_)
  · have c15 : (y12).toInt ≤ (z3).toInt := hq_lei.mp c15
    exact hp_vret hx hb hr hlocks hZ ⟨rfl, hP⟩ dX3_keep_22
  · have c15 : ¬ (y12).toInt ≤ (z3).toInt := fun h9 => c15 (hq_lei.mpr h9)
    refine lv_aload_n hx hb dX3_keep_12 rfl (lv_at hl 0 rfl) ?_
    refine lv_dup hx hb dX3_keep_13 rfl ?_
    refine hp_get (v := .int (z3)) hx hb hts hown hZ eV1 fl_X3_24 rfl dX3_keep_14 ?_
    refine lv_iconst (v := 1) hx hb dX3_keep_17 (by decide) ?_
    refine lv_iadd hx hb dX3_keep_18 ?_
    refine lv_topi (fun y16 ey17 => ?_)
    obtain ⟨k18, hk19, b20, b21⟩ := hq_add (z3) (1)
    rw [← ey17] at hk19 b20 b21
    have hk19 : (y16).toInt = (z3).toInt + (1 : Int) + k18 * 4294967296 := hk19
    refine hp_put hx hb hts hown hZ eV1 fp_X3_24 rfl rfl (Nat.le_of_ble_eq_true rfl) dX3_keep_19 (fun V22 _ _ e23 o24 hZ => ?_)
    have e23 : V22 (t) = some (.inr (3, [.ref (u2), .int (y16)])) := e23
    have hP := hP.put h_t e23 o24 (hq_c8 hu4 (show 0 ≤ (y16).toInt by omega) (show (y16).toInt ≤ (R : Nat) by omega) (by omega) (by first | rfl | omega)) rfl
    exact hp_vret hx hb hr hlocks hZ ⟨rfl, hP⟩ dX3_keep_22

set_option maxHeartbeats 4000000 in
set_option maxRecDepth 100000 in
theorem t_X3_find (l : Launch) (D : va_G) (cs : Nat → ClassId) (B : Nat) (G : hq_G) (V : hp_V) (n : Nat) (hI : hq_I cs G V) (R R1 : Nat) (t : Nat) (h_t : G t = some (8, R, 0, 0)) (u : Nat) (h_u : G u = some (0, R1, 0, 0)) : hp_M l yX3_find cX3_find 3 (some .int) ({ frames := 3, cells := 0, slots := 0, locals := 65 }) D cs B V n [.ref (t), .ref (u)] (hp_QI D cs B (fun r V' n' => n = n' ∧ hq_P cs G (fun _ => false) V V' ∧ (-1 ≤ r.toInt ∧ r.toInt < 4))) 0 0 := by
  refine hp_walk (R0 := RX3) (by decide) rfl ?_ (Nat.le_of_ble_eq_true rfl)
  intro p e s m below meth c ls hx hb hr hts hown hlocks hin hml hZ hl
  have hP : hq_P cs G (fun _ => false) V V := hq_P.rf hI
  have hl : lv_has ls 3 [(0, .ref (t)), (1, .ref (u))] := hl
  refine lv_iconst (v := 0) hx hb dX3_find_0 (by decide) ?_
  refine lv_istore_n (lv' := [(2, .int (0)), (0, .ref (t)), (1, .ref (u))]) hx hb dX3_find_1 rfl hl (by decide) rfl (fun ls hl => ?_)
  have hl1 : (0 : Int32).toInt = 0 := by decide
  suffices lp2 : ∀ (k9 : Nat) (V9 : hp_V) (H9 : Heap) (locs9 : List Loc) (ls : Array Slot) (i : Int32), (100 - i.toInt).toNat = k9 → hp_Z D cs B s V9 H9 n locs9 → hq_P cs G (fun _ => false) V V9 → 0 ≤ i.toInt → i.toInt ≤ 4 → lv_has ls 3 [(2, .int (i)), (0, .ref (t)), (1, .ref (u))] → W p l e ({ frames := 3, cells := 0, slots := 0, locals := 65 }) s m ([.ref (t), .ref (u)] : List Value).toArray below meth c H9 locs9 0 0 (MQ below (hp_QI D cs B (fun r V' n' => n = n' ∧ hq_P cs G (fun _ => false) V V' ∧ (-1 ≤ r.toInt ∧ r.toInt < 4))) ([.ref (t), .ref (u)] : List Value).toArray s 0 0 (hp_F B)) (F0 m 2 ls []) from lp2 _ _ _ _ ls (0) rfl hZ hP (by omega) (by omega) (lv_sub hl [0, 1, 2] rfl)
  intro k9
  induction k9 using Nat.strongRecOn with
  | _ k9 ih2 =>
    intro V9 H9 locs9 ls i  hk2 hZ hP  hv2 hv3 hl
    have hb_i := hq_rng i
    have hP_2 := hP
    refine lv_iload_n hx hb dX3_find_2 rfl (lv_at hl 0 rfl) ?_
    refine lv_aload_n hx hb dX3_find_3 rfl (lv_at hl 1 rfl) ?_
    obtain ⟨u5, z6, eV4, hu7, h8, h9, h10⟩ := hq_o8 hP.1 h_t
    refine hp_get (v := .int (z6)) hx hb hts hown hZ eV4 fl_X3_24 rfl dX3_find_4 ?_
    refine lv_icmp_ge (tgt := 34) hx hb dX3_find_7 (by decide) (fun c11 => ?_) (fun c11 => ?_)
    · have c11 : (z6).toInt ≤ (i).toInt := hq_lei.mp c11
      refine lv_iconst (v := -1) hx hb dX3_find_34 (by decide) ?_
      exact hp_iret hx hb hr hlocks hZ ⟨rfl, hP, (by decide)⟩ dX3_find_35
    · have c11 : ¬ (z6).toInt ≤ (i).toInt := fun h9 => c11 (hq_lei.mpr h9)
      refine lv_aload_n hx hb dX3_find_10 rfl (lv_at hl 1 rfl) ?_
      refine hp_get (v := .ref (u5)) hx hb hts hown hZ eV4 fl_X3_17 rfl dX3_find_11 ?_
      refine lv_iload_n hx hb dX3_find_14 rfl (lv_at hl 0 rfl) ?_
      obtain ⟨hN14, g13, eV12, hf15, _⟩ := hq_o4 hP.1 hu7
      obtain ⟨u16, hx17, hu18⟩ := hf15 (i : Int32).toNatClampNeg (hq_ix (by omega) (by omega))
      have hu18 : G u16 = some (7, 0, 0, 0) := hu18
      refine hp_aald (v := .ref (u16)) hx hb hZ 4 eV12 rfl (hq_in (by omega) (by omega)) (by rw [hx17]; rfl) dX3_find_15 ?_
      obtain ⟨u20, u21, z22, eV19, hu23, hu24, h25, h26⟩ := hq_o7 hP.1 hu18
      refine hp_get (v := .ref (u20)) hx hb hts hown hZ eV19 fl_X3_31 rfl dX3_find_16 ?_
      refine lv_aload_n hx hb dX3_find_19 rfl (lv_at hl 2 rfl) ?_
      obtain ⟨u34, z35, eV33, hu36, h37, h38, h39⟩ := hq_o0 hP.1 hu23
      refine hp_calli (hp_runV (As := [.ref (u)]) (rest := []) hx hb hml hown hts (t_X9_same l D cs B G  V9 n hP.1 30 R1 (u20) hu23 (u) h_u ) hZ eV33 cv_X3_35 rfl rfl ⟨Nat.le_of_ble_eq_true rfl, Nat.le_of_ble_eq_true rfl⟩ rfl hl.1 rfl (Nat.le_of_ble_eq_true rfl) dX3_find_20 ⟨(Nat.le_of_ble_eq_true rfl), (Nat.le_of_ble_eq_true rfl)⟩) hZ (fun r30 V27 n28 _ _ hw29 hZ => ?_)
      obtain ⟨rfl, hq31, hr32⟩ := hw29
      have hP := hP.trans hq31 (fun _ _ => rfl)
      have b40 := hq_rng r30
      refine lv_if_eq (tgt := 28) hx hb dX3_find_23 (by decide) (fun c41 => ?_) (fun c41 => ?_)
      · have c41 : (r30).toInt = (0 : Int) := hq_eqi.mp c41
        obtain ⟨y42, ey43⟩ : ∃ y : Int32, y = i + (1) := ⟨_, rfl⟩
        obtain ⟨k44, hk45, b46, b47⟩ := hq_add (i) (1)
        rw [← ey43] at hk45 b46 b47
        have hk45 : (y42).toInt = (i).toInt + (1) + k44 * 4294967296 := hk45
        refine lv_iinc (v := y42) (lv' := [(2, .int (y42)), (0, .ref (t)), (1, .ref (u))]) hx hb dX3_find_28 hl (k := 0) rfl (by rw [ey43]; rfl) (by decide) rfl (fun ls hl => ?_)
        refine lv_goto (tgt := 2) hx hb dX3_find_31 (by decide) ?_
        exact ih2 _ (by omega) _ _ _ ls (y42) rfl hZ hP (by omega) (by omega) (lv_sub hl [0, 1, 2] rfl)
      · have c41 : ¬ (r30).toInt = (0 : Int) := fun h9 => c41 (hq_eqi.mpr h9)
        refine lv_iload_n hx hb dX3_find_26 rfl (lv_at hl 0 rfl) ?_
        exact hp_iret hx hb hr hlocks hZ ⟨rfl, hP, (by constructor <;> omega)⟩ dX3_find_27

set_option maxHeartbeats 4000000 in
set_option maxRecDepth 100000 in
theorem t_X0_putStem (l : Launch) (D : va_G) (cs : Nat → ClassId) (B : Nat) (G : hq_G) (V : hp_V) (n : Nat) (hI : hq_I cs G V) (b : Nat) (t : Nat) (h_t : G t = some (6, b, 0, 0)) (v : Int32) (k : Int32) (u : Nat) (h_u : G u = some (0, 30, 0, 0)) (hv0 : 0 ≤ v.toInt) (hv1 : v.toInt < 30) (hk0 : -1 ≤ k.toInt) (hk1 : k.toInt < 60) : hp_M l yX0_putStem cX0_putStem 6 (some .boolean) ({ frames := 3, cells := 0, slots := 0, locals := 66 }) D cs B V n [.ref (t), .int (v), .int (k), .ref (u)] (hp_QI D cs B (fun r V' n' => n = n' ∧ hq_P cs G (fun g => g.1 == 5) V V' ∧ (0 ≤ r.toInt ∧ r.toInt ≤ 1))) 0 0 := by
  refine hp_walk (R0 := RX0) (by decide) rfl ?_ (Nat.le_of_ble_eq_true rfl)
  intro p e s m below meth c ls hx hb hr hts hown hlocks hin hml hZ hl
  have hP : hq_P cs G (fun g => g.1 == 5) V V := hq_P.rf hI
  have hl : lv_has ls 6 [(0, .ref (t)), (1, .int (v)), (2, .int (k)), (3, .ref (u))] := hl
  have hb_v := hq_rng v
  have hb_k := hq_rng k
  refine lv_aload_n hx hb dX0_putStem_0 rfl (lv_at hl 0 rfl) ?_
  obtain ⟨u2, u3, u4, u5, z6, z7, z8, eV1, hu9, hu10, hu11, hu12, ⟨h13, h14⟩, ⟨h15, h16⟩, h17, h18⟩ := hq_o6 hP.1 h_t
  refine hp_get (v := .ref (u3)) hx hb hts hown hZ eV1 fl_X0_20 rfl dX0_putStem_1 ?_
  refine lv_iload_n hx hb dX0_putStem_4 rfl (lv_at hl 1 rfl) ?_
  obtain ⟨hN21, g20, eV19, hf22, _⟩ := hq_o4 hP.1 hu10
  obtain ⟨u23, hx24, hu25⟩ := hf22 (v : Int32).toNatClampNeg (hq_ix (by omega) (by omega))
  have hu25 : G u23 = some (0, 12, 0, 0) := hu25
  refine hp_aald (v := .ref (u23)) hx hb hZ 7 eV19 rfl (hq_in (by omega) (by omega)) (by rw [hx24]; rfl) dX0_putStem_5 ?_
  refine lv_astore (lv' := [(4, .ref (u23)), (0, .ref (t)), (1, .int (v)), (2, .int (k)), (3, .ref (u))]) hx hb dX0_putStem_6 hl (by decide) rfl (fun ls hl => ?_)
  refine lv_iload_n hx hb dX0_putStem_8 rfl (lv_at hl 3 rfl) ?_
  refine lv_iconst (v := -1) hx hb dX0_putStem_9 (by decide) ?_
  refine lv_icmp_ne (tgt := 17) hx hb dX0_putStem_10 (by decide) (fun c26 => ?_) (fun c26 => ?_)
  · have c26 : ¬ (k).toInt = (-1 : Int) := fun h9 => c26 (hq_eqi.mpr h9)
    refine lv_aload hx hb dX0_putStem_17 (lv_at hl 0 rfl) ?_
    refine lv_aload_n hx hb dX0_putStem_19 rfl (lv_at hl 1 rfl) ?_
    refine hp_get (v := .ref (u5)) hx hb hts hown hZ eV1 fl_X0_29 rfl dX0_putStem_20 ?_
    refine lv_iload_n hx hb dX0_putStem_23 rfl (lv_at hl 3 rfl) ?_
    obtain ⟨hN29, g28, eV27, hf30, _⟩ := hq_o4 hP.1 hu12
    obtain ⟨u31, hx32, hu33⟩ := hf30 (k : Int32).toNatClampNeg (hq_ix (by omega) (by omega))
    have hu33 : G u31 = some (5, b, 0, 0) := hu33
    refine hp_aald (v := .ref (u31)) hx hb hZ 6 eV27 rfl (hq_in (by omega) (by omega)) (by rw [hx32]; rfl) dX0_putStem_24 ?_
    obtain ⟨z35, z36, z37, z38, z39, z40, z41, z42, u43, u44, eV34, hu45, hu46, h47, h48⟩ := hq_o5 hP.1 hu33
    refine hp_get (v := .ref (u43)) hx hb hts hown hZ eV34 fl_X0_68 rfl dX0_putStem_25 ?_
    obtain ⟨u56, z57, eV55, hu58, h59, h60, h61⟩ := hq_o0 hP.1 hu25
    refine hp_calli (hp_runV (As := [.ref (u43)]) (rest := []) hx hb hml hown hts (t_X9_lastPlaceOf l D cs B G  V n hP.1 12 8 (u23) hu25 (u43) hu45 ) hZ eV55 cv_X0_72 rfl rfl ⟨Nat.le_of_ble_eq_true rfl, Nat.le_of_ble_eq_true rfl⟩ rfl hl.1 rfl (Nat.le_of_ble_eq_true rfl) dX0_putStem_28 ⟨(Nat.le_of_ble_eq_true rfl), (Nat.le_of_ble_eq_true rfl)⟩) hZ (fun r52 V49 n50 _ _ hw51 hZ => ?_)
    obtain ⟨rfl, hq53, hr54⟩ := hw51
    have hP := hP.trans hq53 (fun _ _ => rfl)
    have b62 := hq_rng r52
    refine lv_istore (lv' := [(5, .int (r52)), (4, .ref (u23)), (0, .ref (t)), (1, .int (v)), (2, .int (k)), (3, .ref (u))]) hx hb dX0_putStem_31 hl (by decide) rfl (fun ls hl => ?_)
    refine lv_iload hx hb dX0_putStem_33 (lv_at hl 0 rfl) ?_
    refine lv_iconst (v := -1) hx hb dX0_putStem_35 (by decide) ?_
    refine lv_icmp_ne (tgt := 47) hx hb dX0_putStem_36 (by decide) (fun c63 => ?_) (fun c63 => ?_)
    · have c63 : ¬ (r52).toInt = (-1 : Int) := fun h9 => c63 (hq_eqi.mpr h9)
      refine lv_aload_n hx hb dX0_putStem_47 rfl (lv_at hl 5 rfl) ?_
      obtain ⟨u71, z72, eV70, hu73, h74, h75, h76⟩ := hq_o0 hP.1 h_u
      refine hp_callv (hp_runV (As := []) (rest := []) hx hb hml hown hts (t_X9_clear l D cs B G (fun g => g.1 == 5) V49 n hP.1 30 (u) h_u rfl) hZ eV70 cv_X0_80 rfl rfl ⟨Nat.le_of_ble_eq_true rfl, Nat.le_of_ble_eq_true rfl⟩ rfl hl.1 rfl (Nat.le_of_ble_eq_true rfl) dX0_putStem_48 ⟨(Nat.le_of_ble_eq_true rfl), (Nat.le_of_ble_eq_true rfl)⟩) hZ (fun V64 n65 _ _ hw66 hZ => ?_)
      obtain ⟨rfl, hq68⟩ := hw66
      have hP := hP.trans hq68 (fun _ h => h)
      refine lv_aload_n hx hb dX0_putStem_51 rfl (lv_at hl 5 rfl) ?_
      refine lv_aload hx hb dX0_putStem_52 (lv_at hl 1 rfl) ?_
      refine lv_iconst (v := 0) hx hb dX0_putStem_54 (by decide) ?_
      refine lv_iload hx hb dX0_putStem_55 (lv_at hl 0 rfl) ?_
      have hl83 : (0 : Int32).toInt = 0 := by decide
      obtain ⟨u85, z86, eV84, hu87, h88, h89, h90⟩ := hq_o0 hP.1 h_u
      refine hp_calli (hp_runV (As := [.ref (u23), .int (0), .int (r52)]) (rest := []) hx hb hml hown hts (t_X9_addPart l D cs B G (fun g => g.1 == 5) V64 n hP.1 30 12 (u) h_u (u23) hu25 (0) (r52) rfl rfl (by omega)) hZ eV84 cv_X0_83 rfl rfl ⟨Nat.le_of_ble_eq_true rfl, Nat.le_of_ble_eq_true rfl⟩ rfl hl.1 rfl (Nat.le_of_ble_eq_true rfl) dX0_putStem_57 ⟨(Nat.le_of_ble_eq_true rfl), (Nat.le_of_ble_eq_true rfl)⟩) hZ (fun r80 V77 n78 _ _ hw79 hZ => ?_)
      obtain ⟨rfl, hq81, hr82⟩ := hw79
      have hP := hP.trans hq81 (fun _ h => h)
      have b91 := hq_rng r80
      refine lv_pop hx hb dX0_putStem_60 rfl ?_
      refine lv_aload_n hx hb dX0_putStem_61 rfl (lv_at hl 5 rfl) ?_
      refine lv_aload_n hx hb dX0_putStem_62 rfl (lv_at hl 2 rfl) ?_
      have fx92 : V77 (t) = some (.inr (0, [.ref (u2), .int (z6), .ref (u3), .ref (u4), .int (z7), .ref (u5), .int (z8)])) := (hq81.2 (t) _ h_t rfl).trans ((hq68.2 (t) _ h_t rfl).trans ((hq53.2 (t) _ h_t rfl).trans (eV1)))
      refine hp_get (v := .ref (u5)) hx hb hts hown hZ fx92 fl_X0_29 rfl dX0_putStem_63 ?_
      refine lv_iload_n hx hb dX0_putStem_66 rfl (lv_at hl 4 rfl) ?_
      have fx93 : V77 (u5) = some (.inl (cs 6, 60, .inr (.inr (.inr (.inr (g28)))))) := (hq81.2 (u5) _ hu12 rfl).trans ((hq68.2 (u5) _ hu12 rfl).trans ((hq53.2 (u5) _ hu12 rfl).trans (eV27)))
      obtain ⟨u94, hx95, hu96⟩ := hf30 (k : Int32).toNatClampNeg (hq_ix (by omega) (by omega))
      have hu96 : G u94 = some (5, b, 0, 0) := hu96
      refine hp_aald (v := .ref (u94)) hx hb hZ 6 fx93 rfl (hq_in (by omega) (by omega)) (by rw [hx95]; rfl) dX0_putStem_67 ?_
      obtain ⟨z98, z99, z100, z101, z102, z103, z104, z105, u106, u107, eV97, hu108, hu109, h110, h111⟩ := hq_o5 hP.1 hu96
      refine hp_get (v := .ref (u107)) hx hb hts hown hZ eV97 fl_X0_87 rfl dX0_putStem_68 ?_
      obtain ⟨u119, z120, eV118, hu121, h122, h123, h124⟩ := hq_o0 hP.1 h_u
      refine hp_calli (hp_runV (As := [.ref (u107)]) (rest := []) hx hb hml hown hts (t_X9_addAll l D cs B G (fun g => g.1 == 5) V77 n hP.1 30 8 (u) h_u (u107) hu109 rfl rfl) hZ eV118 cv_X0_90 rfl rfl ⟨Nat.le_of_ble_eq_true rfl, Nat.le_of_ble_eq_true rfl⟩ rfl hl.1 rfl (Nat.le_of_ble_eq_true rfl) dX0_putStem_71 ⟨(Nat.le_of_ble_eq_true rfl), (Nat.le_of_ble_eq_true rfl)⟩) hZ (fun r115 V112 n113 _ _ hw114 hZ => ?_)
      obtain ⟨rfl, hq116, hr117⟩ := hw114
      have hP := hP.trans hq116 (fun _ h => h)
      have b125 := hq_rng r115
      refine lv_pop hx hb dX0_putStem_74 rfl ?_
      refine lv_aload_n hx hb dX0_putStem_75 rfl (lv_at hl 5 rfl) ?_
      refine lv_aload hx hb dX0_putStem_76 (lv_at hl 1 rfl) ?_
      refine lv_iload hx hb dX0_putStem_78 (lv_at hl 0 rfl) ?_
      refine lv_aload_n hx hb dX0_putStem_80 rfl (lv_at hl 2 rfl) ?_
      have fx126 : V112 (t) = some (.inr (0, [.ref (u2), .int (z6), .ref (u3), .ref (u4), .int (z7), .ref (u5), .int (z8)])) := (hq116.2 (t) _ h_t rfl).trans (fx92)
      refine hp_get (v := .ref (u5)) hx hb hts hown hZ fx126 fl_X0_29 rfl dX0_putStem_81 ?_
      refine lv_iload_n hx hb dX0_putStem_84 rfl (lv_at hl 4 rfl) ?_
      have fx127 : V112 (u5) = some (.inl (cs 6, 60, .inr (.inr (.inr (.inr (g28)))))) := (hq116.2 (u5) _ hu12 rfl).trans (fx93)
      obtain ⟨u128, hx129, hu130⟩ := hf30 (k : Int32).toNatClampNeg (hq_ix (by omega) (by omega))
      have hu130 : G u128 = some (5, b, 0, 0) := hu130
      refine hp_aald (v := .ref (u128)) hx hb hZ 6 fx127 rfl (hq_in (by omega) (by omega)) (by rw [hx129]; rfl) dX0_putStem_85 ?_
      obtain ⟨z132, z133, z134, z135, z136, z137, z138, z139, u140, u141, eV131, hu142, hu143, h144, h145⟩ := hq_o5 hP.1 hu130
      refine hp_get (v := .ref (u140)) hx hb hts hown hZ eV131 fl_X0_68 rfl dX0_putStem_86 ?_
      obtain ⟨u147, z148, eV146, hu149, h150, h151, h152⟩ := hq_o0 hP.1 hu142
      refine hp_get (v := .int (z148)) hx hb hts hown hZ eV146 fl_X0_93 rfl dX0_putStem_89 ?_
      refine lv_iadd hx hb dX0_putStem_92 ?_
      refine lv_topi (fun y153 ey154 => ?_)
      obtain ⟨k155, hk156, b157, b158⟩ := hq_add (r52) (z148)
      rw [← ey154] at hk156 b157 b158
      have hk156 : (y153).toInt = (r52).toInt + (z148).toInt + k155 * 4294967296 := hk156
      refine lv_aload hx hb dX0_putStem_93 (lv_at hl 1 rfl) ?_
      have fx159 : V112 (u23) = some (.inr (9, [.ref (u56), .int (z57)])) := (hq116.2 (u23) _ hu25 rfl).trans ((hq81.2 (u23) _ hu25 rfl).trans ((hq68.2 (u23) _ hu25 rfl).trans ((hq53.2 (u23) _ hu25 rfl).trans (eV55))))
      refine hp_get (v := .int (z57)) hx hb hts hown hZ fx159 fl_X0_93 rfl dX0_putStem_95 ?_
      obtain ⟨u167, z168, eV166, hu169, h170, h171, h172⟩ := hq_o0 hP.1 h_u
      refine hp_calli (hp_runV (As := [.ref (u23), .int (y153), .int (z57)]) (rest := []) hx hb hml hown hts (t_X9_addPart l D cs B G (fun g => g.1 == 5) V112 n hP.1 30 12 (u) h_u (u23) hu25 (y153) (z57) rfl rfl (by omega)) hZ eV166 cv_X0_83 rfl rfl ⟨Nat.le_of_ble_eq_true rfl, Nat.le_of_ble_eq_true rfl⟩ rfl hl.1 rfl (Nat.le_of_ble_eq_true rfl) dX0_putStem_98 ⟨(Nat.le_of_ble_eq_true rfl), (Nat.le_of_ble_eq_true rfl)⟩) hZ (fun r163 V160 n161 _ _ hw162 hZ => ?_)
      obtain ⟨rfl, hq164, hr165⟩ := hw162
      have hP := hP.trans hq164 (fun _ h => h)
      have b173 := hq_rng r163
      refine lv_pop hx hb dX0_putStem_101 rfl ?_
      refine lv_iconst (v := 1) hx hb dX0_putStem_102 (by decide) ?_
      exact hp_zret hx hb hr rfl hlocks hZ ⟨rfl, hP, (by decide)⟩ dX0_putStem_103
    · have c63 : (r52).toInt = (-1 : Int) := hq_eqi.mp c63
      refine lv_aload_n hx hb dX0_putStem_39 rfl (lv_at hl 5 rfl) ?_
      refine lv_aload hx hb dX0_putStem_40 (lv_at hl 1 rfl) ?_
      obtain ⟨u181, z182, eV180, hu183, h184, h185, h186⟩ := hq_o0 hP.1 h_u
      refine hp_callv (hp_runV (As := [.ref (u23)]) (rest := []) hx hb hml hown hts (t_X9_set l D cs B G (fun g => g.1 == 5) V49 n hP.1 30 12 (u) h_u (u23) hu25 rfl rfl) hZ eV180 cv_X0_76 rfl rfl ⟨Nat.le_of_ble_eq_true rfl, Nat.le_of_ble_eq_true rfl⟩ rfl hl.1 rfl (Nat.le_of_ble_eq_true rfl) dX0_putStem_42 ⟨(Nat.le_of_ble_eq_true rfl), (Nat.le_of_ble_eq_true rfl)⟩) hZ (fun V174 n175 _ _ hw176 hZ => ?_)
      obtain ⟨rfl, hq178⟩ := hw176
      have hP := hP.trans hq178 (fun _ h => h)
      refine lv_iconst (v := 0) hx hb dX0_putStem_45 (by decide) ?_
      exact hp_zret hx hb hr rfl hlocks hZ ⟨rfl, hP, (by decide)⟩ dX0_putStem_46
  · have c26 : (k).toInt = (-1 : Int) := hq_eqi.mp c26
    refine lv_iconst (v := -1) hx hb dX0_putStem_13 (by decide) ?_
    refine lv_goto (tgt := 31) hx hb dX0_putStem_14 (by decide) ?_
    refine lv_istore (lv' := [(5, .int (-1)), (4, .ref (u23)), (0, .ref (t)), (1, .int (v)), (2, .int (k)), (3, .ref (u))]) hx hb dX0_putStem_31 hl (by decide) rfl (fun ls hl => ?_)
    refine lv_iload hx hb dX0_putStem_33 (lv_at hl 0 rfl) ?_
    refine lv_iconst (v := -1) hx hb dX0_putStem_35 (by decide) ?_
    refine lv_icmp_ne (tgt := 47) hx hb dX0_putStem_36 (by decide) (fun c187 => absurd (by decide) c187) (fun c187 => ?_)
    refine lv_aload_n hx hb dX0_putStem_39 rfl (lv_at hl 5 rfl) ?_
    refine lv_aload hx hb dX0_putStem_40 (lv_at hl 1 rfl) ?_
    obtain ⟨u195, z196, eV194, hu197, h198, h199, h200⟩ := hq_o0 hP.1 h_u
    refine hp_callv (hp_runV (As := [.ref (u23)]) (rest := []) hx hb hml hown hts (t_X9_set l D cs B G (fun g => g.1 == 5) V n hP.1 30 12 (u) h_u (u23) hu25 rfl rfl) hZ eV194 cv_X0_76 rfl rfl ⟨Nat.le_of_ble_eq_true rfl, Nat.le_of_ble_eq_true rfl⟩ rfl hl.1 rfl (Nat.le_of_ble_eq_true rfl) dX0_putStem_42 ⟨(Nat.le_of_ble_eq_true rfl), (Nat.le_of_ble_eq_true rfl)⟩) hZ (fun V188 n189 _ _ hw190 hZ => ?_)
    obtain ⟨rfl, hq192⟩ := hw190
    have hP := hP.trans hq192 (fun _ h => h)
    refine lv_iconst (v := 0) hx hb dX0_putStem_45 (by decide) ?_
    exact hp_zret hx hb hr rfl hlocks hZ ⟨rfl, hP, (by decide)⟩ dX0_putStem_46

set_option maxHeartbeats 4000000 in
set_option maxRecDepth 100000 in
theorem x_find (l : Launch) (D : va_G) (cs : Nat → ClassId) (B : Nat) (G : hq_G) (V : hp_V) (n : Nat) (hI : hq_I cs G V) (fl : Nat) (kb : Nat) (L : List (List Int)) (ask : List Int) (nz : Int32) (pz : Int32) (pf : Nat → Int32) (gf : Nat → Option Nat) (hc0 : V (fl) = some (.inr (3, [.ref (fl + 1), .int (nz)]))) (hc1 : V (fl + 1) = some (.inl (cs 4, 4, .inr (.inr (.inr (.inr (gf))))))) (hc2 : V (kb) = some (.inr (9, [.ref (kb + 1), .int (pz)]))) (hc3 : V (kb + 1) = some (.inl (cs 0, 4000, .inl (pf)))) (hp0 : hx_FM cs V fl L) (hgf : ∀ j, j < 4 → gf j = some (fl + 2 + 4 * j)) (hask : sp_rp pz pf ask) (hnz : nz.toInt = (L.length : Int)) (hl4 : L.length ≤ 4) (hL30 : ∀ u ∈ L, u.length ≤ 30) (hpz : pz.toInt ≤ 4000) : hp_M l yX3_find cX3_find 3 (some .int) ({ frames := 3, cells := 0, slots := 0, locals := 65 }) D cs B V n [.ref (fl), .ref (kb)] (hp_QI D cs B (fun r V' n' => n = n' ∧ V = V' ∧ ((r.toInt = -1 ∧ ¬ ask ∈ L) ∨ (0 ≤ r.toInt ∧ r.toInt < nz.toInt ∧ ask ∈ L)))) 0 0 := by
  refine hp_walk (R0 := RX3) (by decide) rfl ?_ (Nat.le_of_ble_eq_true rfl)
  intro p e s m below meth c ls hx hb hr hts hown hlocks hin hml hZ hl
  have hP : hq_I cs G V := hI
  have hl : lv_has ls 3 [(0, .ref (fl)), (1, .ref (kb))] := hl
  have hb_nz := hq_rng nz
  have hb_pz := hq_rng pz
  have ha1 := hask.1
  refine lv_iconst (v := 0) hx hb dX3_find_0 (by decide) ?_
  refine lv_istore_n (lv' := [(2, .int (0)), (0, .ref (fl)), (1, .ref (kb))]) hx hb dX3_find_1 rfl hl (by decide) rfl (fun ls hl => ?_)
  have hl1 : (0 : Int32).toInt = 0 := by decide
  suffices lp2 : ∀ (k9 : Nat) (H9 : Heap) (locs9 : List Loc) (ls : Array Slot) (i : Int32), (100 - i.toInt).toNat = k9 → hp_Z D cs B s V H9 n locs9 → hq_I cs G V → 0 ≤ i.toInt → i.toInt ≤ (L.length : Int) → (∀ (j : Nat) (u : List Int), (j : Int) < i.toInt → L[j]? = some u → ¬ u = ask) → lv_has ls 3 [(2, .int (i)), (0, .ref (fl)), (1, .ref (kb))] → W p l e ({ frames := 3, cells := 0, slots := 0, locals := 65 }) s m ([.ref (fl), .ref (kb)] : List Value).toArray below meth c H9 locs9 0 0 (MQ below (hp_QI D cs B (fun r V' n' => n = n' ∧ V = V' ∧ ((r.toInt = -1 ∧ ¬ ask ∈ L) ∨ (0 ≤ r.toInt ∧ r.toInt < nz.toInt ∧ ask ∈ L)))) ([.ref (fl), .ref (kb)] : List Value).toArray s 0 0 (hp_F B)) (F0 m 2 ls []) from lp2 _ _ _ ls (0) rfl hZ hP (by omega) (by omega) (fun j u hj => by omega) (lv_sub hl [0, 1, 2] rfl)
  intro k9
  induction k9 using Nat.strongRecOn with
  | _ k9 ih2 =>
    intro H9 locs9 ls i   hk2 hZ hP    hv2 hv3 hno9 hl
    have hb_i := hq_rng i
    refine lv_iload_n hx hb dX3_find_2 rfl (lv_at hl 0 rfl) ?_
    refine lv_aload_n hx hb dX3_find_3 rfl (lv_at hl 1 rfl) ?_
    refine hp_get (v := .int (nz)) hx hb hts hown hZ hc0 fl_X3_24 rfl dX3_find_4 ?_
    refine lv_icmp_ge (tgt := 34) hx hb dX3_find_7 (by decide) (fun c4 => ?_) (fun c4 => ?_)
    · have c4 : (nz).toInt ≤ (i).toInt := hq_lei.mp c4
      refine lv_iconst (v := -1) hx hb dX3_find_34 (by decide) ?_
      have hl5 : (-1 : Int32).toInt = -1 := by decide
      exact hp_iret hx hb hr hlocks hZ ⟨rfl, rfl, Or.inl ⟨by omega, fun g9 => by obtain ⟨j9, hj9⟩ := List.mem_iff_getElem?.mp g9; have h9 := (List.getElem?_eq_some_iff.mp hj9).1; exact hno9 j9 ask (by omega) hj9 rfl⟩⟩ dX3_find_35
    · have c4 : ¬ (nz).toInt ≤ (i).toInt := fun h9 => c4 (hq_lei.mpr h9)
      refine lv_aload_n hx hb dX3_find_10 rfl (lv_at hl 1 rfl) ?_
      refine hp_get (v := .ref (fl + 1)) hx hb hts hown hZ hc0 fl_X3_17 rfl dX3_find_11 ?_
      refine lv_iload_n hx hb dX3_find_14 rfl (lv_at hl 0 rfl) ?_
      have hin := (hq_nn (z := i) (by omega)).1
      obtain ⟨u9, hu9⟩ : ∃ t, L[i.toNatClampNeg]? = some t := ⟨_, List.getElem?_eq_getElem (by omega)⟩
      obtain ⟨it9, hit9⟩ : ∃ t, t = fl + 2 + 4 * i.toNatClampNeg := ⟨_, rfl⟩
      obtain ⟨rz9, iz9, if9, hw1, hw2, hw3, hw4⟩ := (show hx_FW cs V it9 u9 by rw [hit9]; exact hp0 _ _ hu9)
      have hw41 := hw4.1
      have hu30 := hL30 u9 (List.mem_iff_getElem?.mpr ⟨_, hu9⟩)
      have hgi9 : gf i.toNatClampNeg = some it9 := by rw [hgf _ (by omega), hit9]
      refine hp_aald (v := .ref (it9)) hx hb hZ 4 hc1 rfl (hq_in (by omega) (by omega)) (by rw [hgi9]; rfl) dX3_find_15 ?_
      refine hp_get (v := .ref (it9 + 1)) hx hb hts hown hZ hw1 fl_X3_31 rfl dX3_find_16 ?_
      refine lv_aload_n hx hb dX3_find_19 rfl (lv_at hl 2 rfl) ?_
      refine hp_calli (hp_runV (As := [.ref (kb)]) (rest := []) hx hb hml hown hts (x_same l D cs B G V n hP (it9 + 1) (30) (kb) (4000) (iz9) (if9) (pz) (pf)  hw2 hw3 hc2 hc3  (by omega) (by omega) (by decide) (by decide)) hZ hw2 cv_X3_35 rfl rfl ⟨Nat.le_of_ble_eq_true rfl, Nat.le_of_ble_eq_true rfl⟩ rfl hl.1 rfl (Nat.le_of_ble_eq_true rfl) dX3_find_20 ⟨(Nat.le_of_ble_eq_true rfl), (Nat.le_of_ble_eq_true rfl)⟩) hZ (fun r9 V6 n7 _ _ hw8 hZ => ?_)
      obtain ⟨rfl, rfl, hp12⟩ := hw8
      have b13 := hq_rng r9
      refine lv_if_eq (tgt := 28) hx hb dX3_find_23 (by decide) (fun c14 => ?_) (fun c14 => ?_)
      · have c14 : (r9).toInt = (0 : Int) := hq_eqi.mp c14
        have hna : ¬ u9 = ask := fun g9 => (hx_D.neg hp12 (by omega)).2 ((hw4.same hask).mpr g9)
        obtain ⟨y15, ey16⟩ : ∃ y : Int32, y = i + (1) := ⟨_, rfl⟩
        obtain ⟨k17, hk18, b19, b20⟩ := hq_add (i) (1)
        rw [← ey16] at hk18 b19 b20
        have hk18 : (y15).toInt = (i).toInt + (1) + k17 * 4294967296 := hk18
        obtain rfl : k17 = 0 := by omega
        refine lv_iinc (v := y15) (lv' := [(2, .int (y15)), (0, .ref (fl)), (1, .ref (kb))]) hx hb dX3_find_28 hl (k := 0) rfl (by rw [ey16]; rfl) (by decide) rfl (fun ls hl => ?_)
        refine lv_goto (tgt := 2) hx hb dX3_find_31 (by decide) ?_
        exact ih2 _ (by omega) _ _ ls (y15) rfl hZ hP (by omega) (by omega) (fun j u hj hu => by rcases Classical.em ((j : Int) < i.toInt) with c9 | c9; (· exact hno9 j u c9 hu); (· obtain rfl : j = i.toNatClampNeg := (by omega); cases hu9.symm.trans hu; exact hna)) (lv_sub hl [0, 1, 2] rfl)
      · have c14 : ¬ (r9).toInt = (0 : Int) := fun h9 => c14 (hq_eqi.mpr h9)
        have hya : u9 = ask := (hw4.same hask).mp (hx_D.pos hp12 (by rcases Classical.em ((r9).toInt = 1) with h9 | h9; exact h9; exact absurd (hx_D.neg hp12 h9).1 (by omega)))
        refine lv_iload_n hx hb dX3_find_26 rfl (lv_at hl 0 rfl) ?_
        exact hp_iret hx hb hr hlocks hZ ⟨rfl, rfl, Or.inr ⟨by omega, by omega, by rw [← hya]; exact List.mem_iff_getElem?.mpr ⟨_, hu9⟩⟩⟩ dX3_find_27

set_option maxHeartbeats 16000000 in
set_option maxRecDepth 100000 in
theorem whole_start {p : Program} {e : Env} {s : State} {m : MethodId} {below : List Frame} {meth : Method} {c : Code} (l : Launch) {b L : Nat} {xs : Nat → Int32} (hL : L ≤ 3072) (C0 : lw_At p s m meth c b L xs) : W p l e room_1 s m #[Value.ref b] below meth c s.heap [] 0 0 (lw_Z below #[Value.ref b] s) (entryFrame m ([Value.ref b] : List Value).toArray 4) := by
  obtain ⟨hx, hb, hr, hml, hown, hts0, hX, hbl, hlocks, hgv⟩ := id C0
  have hts : ∀ w ∈ TBG, w.before #[Value.ref b] s = true := fun w h => hts0 w (List.mem_filter.mp h).1
  have hown : s.vm.findClass RL = some m.cls := hown
  obtain ⟨D, cs0, hK0⟩ := law_K hts0
  obtain ⟨B, hB⟩ : ∃ B, B = s.heap.size := ⟨_, rfl⟩
  have hbA : ¬ hp_F B b := by rw [hB]; exact Nat.not_le.mpr hbl
  have hnA : ∀ a : Nat, a < s.heap.size → ¬ hp_F B a := fun a h => by rw [hB]; exact Nat.not_le.mpr h
  obtain ⟨cs, hK, hG⟩ := hk_start (B := B) hts0 hgv hK0 hnA
  obtain ⟨V0, hV0⟩ : ∃ V0 : hp_V, ∀ x, V0 x = none := ⟨fun _ => none, fun _ => rfl⟩
  have hZ : hp_Z D cs B s V0 s.heap B [] := ⟨fun a e h => absurd ((hV0 a).symm.trans h) (fun h9 => by cases h9), va_S.rf, hK, by omega, hB.symm, hG⟩
  have hl := lv_entry ([.ref b]) (n := 4) (Nat.le_of_ble_eq_true rfl)
  rw [lg_entry_eq]
  generalize (lg_sl ([.ref b]) ++ List.replicate (4 - (lg_sl ([.ref b])).length) Slot.unset).toArray = ls at hl ⊢
  have hl : lv_has ls 4 [(0, .ref b)] := hl
  refine hp_new hx hb hts hown hZ nw_L_7 (Nat.le_of_ble_eq_true rfl) (Nat.le_of_ble_eq_true rfl) dL_law_0 (fun V1 _ e2 o3 hZ => ?_)
  have e2 : V1 (B) = some (.inr (11, [.null, .null, .null, .null, .null, .null, .null, .int (0), .null, .null])) := e2
  refine lv_dup hx hb dL_law_3 rfl ?_
  refine hp_callv (hp_runN (As := []) (rest := [.ref (B)]) hx hb hml hown hts (c_X11_init l D cs B V1 (B + 1) B e2) hZ cv_L_9 rfl rfl ⟨Nat.le_of_ble_eq_true rfl, Nat.le_of_ble_eq_true rfl⟩ rfl hl.1 rfl (Nat.le_of_ble_eq_true rfl) dL_law_4 ⟨(Nat.le_of_ble_eq_true rfl), (Nat.le_of_ble_eq_true rfl)⟩) hZ (fun V4 n5 _ _ hw6 hZ => ?_)
  obtain ⟨hn7, hFX, fr8⟩ := hw6
  have hn7 : B + 843 = n5 := by omega
  subst hn7
  refine lv_astore_n (lv' := [(1, .ref (B)), (0, .ref (b))]) hx hb dL_law_7 rfl hl (by decide) rfl (fun ls hl => ?_)
  refine hp_new hx hb hts hown hZ nw_L_10 (Nat.le_of_ble_eq_true rfl) (Nat.le_of_ble_eq_true rfl) dL_law_8 (fun V9 _ e10 o11 hZ => ?_)
  have e10 : V9 (B + 843) = some (.inr (13, [.null, .null, .null, .null, .null, .null, .null, .null, .null, .null, .null, .null, .null, .null, .null, .null, .null, .null, .null, .null, .null, .int (0), .int (0), .int (0), .int (0), .int (0), .int (0), .int (0), .null, .null, .int (0), .null, .null, .null, .null, .null, .null, .null, .null, .null, .null, .null, .null, .null, .null, .int (0), .null, .int (0), .int (0), .null, .null, .null, .null, .int (0), .int (0), .int (0), .int (0), .int (0), .int (0), .null, .null, .int (0), .int (0), .null, .null, .null])) := e10
  refine lv_dup hx hb dL_law_11 rfl ?_
  refine hp_callv (hp_runN (As := []) (rest := [.ref (B + 843)]) hx hb hml hown hts (c_X13_init l D cs B V9 (B + 844) (B + 843) e10) hZ cv_L_12 rfl rfl ⟨Nat.le_of_ble_eq_true rfl, Nat.le_of_ble_eq_true rfl⟩ rfl hl.1 rfl (Nat.le_of_ble_eq_true rfl) dL_law_12 ⟨(Nat.le_of_ble_eq_true rfl), (Nat.le_of_ble_eq_true rfl)⟩) hZ (fun V12 n13 _ _ hw14 hZ => ?_)
  obtain ⟨hn15, hFM, fr16⟩ := hw14
  have hn15 : B + 891 = n13 := by omega
  subst hn15
  have hFX := fx_X_keep (V1 := V12) (hi := B + 843) (fun x hx9 => (fr16 x (by omega) (by omega)).trans (o11 x (by omega))) (by omega) (by omega) hFX
  refine lv_astore_n (lv' := [(2, .ref (B + 843)), (1, .ref (B)), (0, .ref (b))]) hx hb dL_law_15 rfl hl (by decide) rfl (fun ls hl => ?_)
  refine lv_iconst (v := 0) hx hb dL_law_16 (by decide) ?_
  refine lv_istore_n (lv' := [(3, .int (0)), (2, .ref (B + 843)), (1, .ref (B)), (0, .ref (b))]) hx hb dL_law_17 rfl hl (by decide) rfl (fun ls hl => ?_)
  exact hx_loop l D cs B (hk_G (B + 1)) hx hb hml hown hts hX hbl hbA hL B (B + 1) (B + 843) (B + 844) (B + 891) (hk_ty rfl (by omega) (by omega)) (hk_t2_ok (by omega)) (hk_t3_ok _) (hk_t4_ok (by omega)) (by omega) (by omega) (by omega) hr hlocks hB _ V12 _ _ ls 0 rfl hZ (hk_invX0 rfl (by omega) (by omega) hFX hFM) (by decide) (by decide) (lv_sub hl [0, 1, 2, 3] rfl)

set_option maxHeartbeats 4000000 in
set_option maxRecDepth 100000 in
theorem x_getNone (l : Launch) (D : va_G) (cs : Nat → ClassId) (B : Nat) (G : hq_G) (V : hp_V) (n : Nat) (hI : hq_I cs G V) (fl : Nat) (k : Int32) (nz : Int32) (hc0 : V (fl) = some (.inr (3, [.ref (fl + 1), .int (nz)]))) (hk : ¬ (0 ≤ k.toInt ∧ k.toInt < nz.toInt)) : hp_M l yX3_get cX3_get 2 (some (.object "VerbSchool$Form")) ({ frames := 1, cells := 0, slots := 0, locals := 21 }) D cs B V n [.ref (fl), .int (k)] (hp_QR D cs B (fun r V' n' => n = n' ∧ V = V' ∧ (r = none))) 0 0 := by
  refine hp_walk (R0 := RX3) (by decide) rfl ?_ (Nat.le_of_ble_eq_true rfl)
  intro p e s m below meth c ls hx hb hr hts hown hlocks hin hml hZ hl
  have hP : hq_I cs G V := hI
  have hl : lv_has ls 2 [(0, .ref (fl)), (1, .int (k))] := hl
  have hb_k := hq_rng k
  have hb_nz := hq_rng nz
  refine lv_iload_n hx hb dX3_get_0 rfl (lv_at hl 1 rfl) ?_
  refine lv_if_lt (tgt := 21) hx hb dX3_get_1 (by decide) (fun c1 => ?_) (fun c1 => ?_)
  · have c1 : (k).toInt < (0 : Int) := hq_lti.mp c1
    refine lv_null hx hb dX3_get_21 ?_
    exact hp_aret (r := none) hx hb hr (Or.inl ⟨_, rfl⟩) hlocks hZ ⟨rfl, rfl, rfl⟩ dX3_get_22
  · have c1 : ¬ (k).toInt < (0 : Int) := fun h9 => c1 (hq_lti.mpr h9)
    refine lv_iload_n hx hb dX3_get_4 rfl (lv_at hl 1 rfl) ?_
    refine lv_aload_n hx hb dX3_get_5 rfl (lv_at hl 0 rfl) ?_
    refine hp_get (v := .int (nz)) hx hb hts hown hZ hc0 fl_X3_24 rfl dX3_get_6 ?_
    refine lv_icmp_ge (tgt := 21) hx hb dX3_get_9 (by decide) (fun c2 => ?_) (fun c2 => ?_)
    · have c2 : (nz).toInt ≤ (k).toInt := hq_lei.mp c2
      refine lv_null hx hb dX3_get_21 ?_
      exact hp_aret (r := none) hx hb hr (Or.inl ⟨_, rfl⟩) hlocks hZ ⟨rfl, rfl, rfl⟩ dX3_get_22
    · have c2 : ¬ (nz).toInt ≤ (k).toInt := fun h9 => c2 (hq_lei.mpr h9)
      exfalso
      omega

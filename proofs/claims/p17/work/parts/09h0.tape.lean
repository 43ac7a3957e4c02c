/-! ===== THE TAPE, PURELY ===== -/
def sp_add (w : sp_W) (v : Int) : sp_W := (fun i => if i = w.2 then v else w.1 i, w.2 + 1)
def sp_fb (a s : Int32) : Int := ((a >>> (s &&& 31)).toInt8.toInt32).toInt
def sp_addI (w : sp_W) (a : Int32) : sp_W := sp_add (sp_add (sp_add (sp_add w (sp_fb a 24)) (sp_fb a 16)) (sp_fb a 8)) (sp_fb a 0)
def sp_feed (w : sp_W) (a b c d e : Int32) : sp_W := sp_addI (sp_addI (sp_addI (sp_addI (sp_addI w a) b) c) d) e
theorem sp_addI_n (w : sp_W) (a : Int32) : (sp_addI w a).2 = w.2 + 4 := by unfold sp_addI sp_add; dsimp only; omega
theorem sp_feed_n (w : sp_W) (a b c d e : Int32) : (sp_feed w a b c d e).2 = w.2 + 20 := by
  unfold sp_feed
  simp only [sp_addI_n]
  omega
theorem sp_fb_rg (a s : Int32) : -128 ≤ sp_fb a s ∧ sp_fb a s ≤ 127 := hx_fb (hq_fb _)
theorem sp_okb_add {w : sp_W} {v : Int} (h : sp_okb w) (hw : w.2 + 1 ≤ 4000) (hv : -128 ≤ v ∧ v ≤ 127) : sp_okb (sp_add w v) := by
  refine ⟨⟨by have := h.1.1; show 0 ≤ w.2 + 1; omega, hw⟩, fun i h0 h1 => ?_⟩
  have h1 : i < w.2 + 1 := h1
  show -128 ≤ (if i = w.2 then v else w.1 i) ∧ (if i = w.2 then v else w.1 i) ≤ 127
  split
  · exact hv
  · exact h.2 i h0 (by omega)
theorem sp_okb_addI {w : sp_W} {a : Int32} (h : sp_okb w) (hw : w.2 + 4 ≤ 4000) : sp_okb (sp_addI w a) := by
  unfold sp_addI
  exact sp_okb_add (sp_okb_add (sp_okb_add (sp_okb_add h (by omega) (sp_fb_rg _ _)) (by show w.2 + 1 + 1 ≤ 4000; omega) (sp_fb_rg _ _)) (by show w.2 + 1 + 1 + 1 ≤ 4000; omega) (sp_fb_rg _ _)) (by show w.2 + 1 + 1 + 1 + 1 ≤ 4000; omega) (sp_fb_rg _ _)
theorem sp_okb_feed {w : sp_W} {a b c d e : Int32} (h : sp_okb w) (hw : w.2 + 20 ≤ 4000) : sp_okb (sp_feed w a b c d e) := by
  unfold sp_feed
  have n1 := sp_addI_n w a
  have n2 := sp_addI_n (sp_addI w a) b
  have n3 := sp_addI_n (sp_addI (sp_addI w a) b) c
  have n4 := sp_addI_n (sp_addI (sp_addI (sp_addI w a) b) c) d
  exact sp_okb_addI (sp_okb_addI (sp_okb_addI (sp_okb_addI (sp_okb_addI h (by omega)) (by omega)) (by omega)) (by omega)) (by omega)
/-- a byte more, in an array that shows the text -/
theorem sp_add_g {w : sp_W} {g g1 : Nat → Int32} {v x : Int32} (h0 : 0 ≤ w.2) (h : ∀ k : Nat, (k : Int) < w.2 → (g k).toInt = w.1 k) (hv : v.toInt = w.2) (e : g1 = upd g v.toNatClampNeg x) : ∀ k : Nat, (k : Int) < (sp_add w x.toInt).2 → (g1 k).toInt = (sp_add w x.toInt).1 k := by
  intro k hk
  have hk : (k : Int) < w.2 + 1 := hk
  have hv2 := (hq_nn (z := v) (by omega)).1
  show (g1 k).toInt = if (k : Int) = w.2 then x.toInt else w.1 k
  rw [e]
  split
  · rename_i c
    rw [show k = v.toNatClampNeg by omega, hm_ue]
  · rename_i c
    rw [hm_un (by omega)]
    exact h k (by omega)
def sp_cut (w : sp_W) (z : Int) : sp_W := (w.1, z)
theorem hx_n88 (k : Int32) : (k.toInt8.toInt32).toInt8.toInt32 = k.toInt8.toInt32 := by simp

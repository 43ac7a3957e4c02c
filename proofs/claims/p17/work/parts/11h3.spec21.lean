/-! ===== THE REFERENCE'S SEARCH, STEP BY STEP ===== -/
theorem sp_y6_eq {a b c d e f : Int32} {a' b' c' d' e' f' : Int} (h1 : a.toInt = a') (h2 : b.toInt = b') (h3 : c.toInt = c') (h4 : d.toInt = d') (h5 : e.toInt = e') (h6 : f.toInt = f') : sp_y6 a b c d e f = (a', b', c', d', e', f') := by
  unfold sp_y6
  rw [h1, h2, h3, h4, h5, h6]
section SPS
variable {M : sp_Y → Prop} {ls : List sp_L} {c ch s e fit q stem : Int} {T Y Y1 : sp_Y} {R : List sp_Y} {a b i : Nat}
theorem sp_wy_in (h1 : Y1 = sp_t1 M Y (c, ch, s, e, -1, -1)) : sp_tr M Y1 (sp_fl (sp_wa ls c ch s e) 0 (ls.length - 0)) = sp_tr M Y (sp_wy ls c ch s e) := by rw [h1] <;> rfl
theorem sp_wa_skip (ha : a < ls.length) (h : ¬ sp_kd ls a = 2 ∨ 1 < ch) (ht : sp_tr M Y (sp_fl (sp_wa ls c ch s e) a (ls.length - a)) = T) : sp_tr M Y (sp_fl (sp_wa ls c ch s e) (a + 1) (ls.length - (a + 1))) = T := by
  have e0 : sp_wa ls c ch s e a = [] := by unfold sp_wa; rw [if_pos h]
  rw [sp_fl_go ha, e0, List.nil_append] at ht
  exact ht
theorem sp_wa_in (ha : a < ls.length) (h : sp_kd ls a = 2) (h2 : ¬ 1 < ch) (ht : sp_tr M Y (sp_fl (sp_wa ls c ch s e) a (ls.length - a)) = T) (h1 : Y1 = sp_t1 M Y (c + 2, ch + 1, s, e, (a : Int), -1)) : sp_tr M Y1 (sp_fl (sp_wb ls c ch s e a) (a + 1) (ls.length - (a + 1)) ++ sp_fl (sp_wa ls c ch s e) (a + 1) (ls.length - (a + 1))) = T := by
  have e0 : sp_wa ls c ch s e a = (c + 2, ch + 1, s, e, (a : Int), -1) :: sp_fl (sp_wb ls c ch s e a) (a + 1) (ls.length - (a + 1)) := by unfold sp_wa; rw [if_neg (by omega)]
  rw [sp_fl_go ha, e0, List.cons_append] at ht
  rw [h1]
  exact ht
theorem sp_wa_out (ha : ls.length ≤ a) (ht : sp_tr M Y (sp_fl (sp_wa ls c ch s e) a (ls.length - a)) = T) : Y = T := by
  rw [sp_fl_out ha] at ht
  exact ht
theorem sp_wb_skip (hb : b < ls.length) (h : ¬ sp_kd ls b = 2) (ht : sp_tr M Y (sp_fl (sp_wb ls c ch s e a) b (ls.length - b) ++ R) = T) : sp_tr M Y (sp_fl (sp_wb ls c ch s e a) (b + 1) (ls.length - (b + 1)) ++ R) = T := by
  have e0 : sp_wb ls c ch s e a b = [] := by unfold sp_wb; rw [if_neg h]
  rw [sp_fl_go hb, e0, List.nil_append] at ht
  exact ht
theorem sp_wb_in (hb : b < ls.length) (h : sp_kd ls b = 2) (ht : sp_tr M Y (sp_fl (sp_wb ls c ch s e a) b (ls.length - b) ++ R) = T) (h1 : Y1 = sp_t1 M Y (c + 4, ch + 2, s, e, (a : Int), (b : Int))) : sp_tr M Y1 (sp_fl (sp_wb ls c ch s e a) (b + 1) (ls.length - (b + 1)) ++ R) = T := by
  have e0 : sp_wb ls c ch s e a b = [(c + 4, ch + 2, s, e, (a : Int), (b : Int))] := by unfold sp_wb; rw [if_pos h]
  rw [sp_fl_go hb, e0] at ht
  rw [h1]
  exact ht
theorem sp_wb_out (hb : ls.length ≤ b) (ht : sp_tr M Y (sp_fl (sp_wb ls c ch s e a) b (ls.length - b) ++ R) = T) : sp_tr M Y R = T := by
  rw [sp_fl_out hb, List.nil_append] at ht
  exact ht
theorem sp_we_fit (h : ¬ fit = -1) (h1 : Y1 = sp_tr M Y (sp_wy ls c ch s fit)) : sp_tr M Y1 (if 1 < ch then [] else sp_fl (sp_wel ls c ch s fit) 0 (ls.length - 0) ++ sp_wy ls (c + 4) (ch + 1) s (-1)) = sp_tr M Y (sp_we ls c ch s fit) := by
  unfold sp_we
  rw [if_neg h, sp_tr_app, h1]
theorem sp_we_nofit (h : fit = -1) : sp_tr M Y (if 1 < ch then [] else sp_fl (sp_wel ls c ch s fit) 0 (ls.length - 0) ++ sp_wy ls (c + 4) (ch + 1) s (-1)) = sp_tr M Y (sp_we ls c ch s fit) := by
  unfold sp_we
  rw [if_pos h, List.nil_append]
theorem sp_we_end (h : 1 < ch) (ht : sp_tr M Y (if 1 < ch then [] else R) = T) : Y = T := by rw [if_pos h] at ht; exact ht
theorem sp_we_go (h : ¬ 1 < ch) (ht : sp_tr M Y (if 1 < ch then [] else R) = T) : sp_tr M Y R = T := by rw [if_neg h] at ht; exact ht
theorem sp_wel_skip (hi : i < ls.length) (h : ¬ (sp_kd ls i = 1 ∧ ¬ (i : Int) = fit)) (ht : sp_tr M Y (sp_fl (sp_wel ls c ch s fit) i (ls.length - i) ++ R) = T) : sp_tr M Y (sp_fl (sp_wel ls c ch s fit) (i + 1) (ls.length - (i + 1)) ++ R) = T := by
  have e0 : sp_wel ls c ch s fit i = [] := by unfold sp_wel; rw [if_neg h]
  rw [sp_fl_go hi, e0, List.nil_append] at ht
  exact ht
theorem sp_wel_in (hi : i < ls.length) (h : sp_kd ls i = 1 ∧ ¬ (i : Int) = fit) (ht : sp_tr M Y (sp_fl (sp_wel ls c ch s fit) i (ls.length - i) ++ R) = T) (h1 : Y1 = sp_tr M Y (sp_wy ls (c + 3) (ch + 1) s i)) : sp_tr M Y1 (sp_fl (sp_wel ls c ch s fit) (i + 1) (ls.length - (i + 1)) ++ R) = T := by
  have e0 : sp_wel ls c ch s fit i = sp_wy ls (c + 3) (ch + 1) s i := by unfold sp_wel; rw [if_pos h]
  rw [sp_fl_go hi, e0, List.append_assoc, sp_tr_app] at ht
  rw [h1]
  exact ht
theorem sp_wel_out (hi : ls.length ≤ i) (ht : sp_tr M Y (sp_fl (sp_wel ls c ch s fit) i (ls.length - i) ++ R) = T) : sp_tr M Y R = T := by
  rw [sp_fl_out hi, List.nil_append] at ht
  exact ht
theorem sp_wx_1 (h1 : Y1 = sp_tr M Y (sp_we ls (2 * q) q stem fit)) : sp_tr M Y1 ((if stem = -1 then [] else sp_we ls (2 * q + 2) (q + 1) (-1) fit) ++ sp_fl (sp_wxl ls q stem fit) 0 (ls.length - 0)) = sp_tr M Y (sp_wx ls q stem fit) := by
  unfold sp_wx
  rw [sp_tr_app M (sp_we ls (2 * q) q stem fit), h1]
theorem sp_wx_2 {K : List sp_Y} (h : ¬ stem = -1) (ht : sp_tr M Y ((if stem = -1 then [] else K) ++ R) = T) (h1 : Y1 = sp_tr M Y K) : sp_tr M Y1 R = T := by
  rw [if_neg h, sp_tr_app] at ht
  rw [h1]
  exact ht
theorem sp_wx_3 {K : List sp_Y} (h : stem = -1) (ht : sp_tr M Y ((if stem = -1 then [] else K) ++ R) = T) : sp_tr M Y R = T := by
  rw [if_pos h, List.nil_append] at ht
  exact ht
theorem sp_wxl_skip (hi : i < ls.length) (h : ¬ (sp_kd ls i = 0 ∧ ¬ (i : Int) = stem)) (ht : sp_tr M Y (sp_fl (sp_wxl ls q stem fit) i (ls.length - i)) = T) : sp_tr M Y (sp_fl (sp_wxl ls q stem fit) (i + 1) (ls.length - (i + 1))) = T := by
  have e0 : sp_wxl ls q stem fit i = [] := by unfold sp_wxl; rw [if_neg h]
  rw [sp_fl_go hi, e0, List.nil_append] at ht
  exact ht
theorem sp_wxl_in (hi : i < ls.length) (h : sp_kd ls i = 0 ∧ ¬ (i : Int) = stem) (ht : sp_tr M Y (sp_fl (sp_wxl ls q stem fit) i (ls.length - i)) = T) (h1 : Y1 = sp_tr M Y (sp_we ls (2 * q + 3) (q + 1) i fit)) : sp_tr M Y1 (sp_fl (sp_wxl ls q stem fit) (i + 1) (ls.length - (i + 1))) = T := by
  have e0 : sp_wxl ls q stem fit i = sp_we ls (2 * q + 3) (q + 1) i fit := by unfold sp_wxl; rw [if_pos h]
  rw [sp_fl_go hi, e0, sp_tr_app] at ht
  rw [h1]
  exact ht
theorem sp_wxl_out (hi : ls.length ≤ i) (ht : sp_tr M Y (sp_fl (sp_wxl ls q stem fit) i (ls.length - i)) = T) : Y = T := by
  rw [sp_fl_out hi] at ht
  exact ht
end SPS

def hk_L : List hq_T := [(0, 4000, 0, 0), (1, 4000, 0, 0), (10, 0, 0, 0), (0, 12, 0, 0), (1, 12, 0, 0), (11, 0, 0, 0), (8, 4, 0, 0), (4, 4, 4, 0), (7, 0, 0, 0), (0, 30, 0, 0), (1, 30, 0, 0), (2, 5, 120, 0), (7, 0, 0, 0), (0, 30, 0, 0), (1, 30, 0, 0), (2, 5, 120, 0), (7, 0, 0, 0), (0, 30, 0, 0), (1, 30, 0, 0), (2, 5, 120, 0), (7, 0, 0, 0), (0, 30, 0, 0), (1, 30, 0, 0), (2, 5, 120, 0), (8, 2, 0, 0), (4, 4, 2, 0), (7, 0, 0, 0), (0, 30, 0, 0), (1, 30, 0, 0), (2, 5, 120, 0), (7, 0, 0, 0), (0, 30, 0, 0), (1, 30, 0, 0), (2, 5, 120, 0), (8, 2, 0, 0), (4, 4, 2, 0), (7, 0, 0, 0), (0, 30, 0, 0), (1, 30, 0, 0), (2, 5, 120, 0), (7, 0, 0, 0), (0, 30, 0, 0), (1, 30, 0, 0), (2, 5, 120, 0), (0, 30, 0, 0), (1, 30, 0, 0), (12, 0, 0, 0), (3, 900, 0, 0), (3, 900, 0, 0), (3, 900, 0, 0), (14, 0, 0, 0), (13, 0, 0, 0), (13, 0, 0, 0), (0, 30, 0, 0), (1, 30, 0, 0), (0, 30, 0, 0), (1, 30, 0, 0), (0, 30, 0, 0), (1, 30, 0, 0), (2, 8, 2, 0), (2, 8, 2, 0), (2, 8, 2, 0), (4, 5, 8, 0), (9, 0, 0, 0), (2, 0, 60, 0), (2, 0, 3, 0), (9, 0, 0, 0), (2, 0, 60, 0), (2, 0, 3, 0), (9, 0, 0, 0), (2, 0, 60, 0), (2, 0, 3, 0), (9, 0, 0, 0), (2, 0, 60, 0), (2, 0, 3, 0), (9, 0, 0, 0), (2, 0, 60, 0), (2, 0, 3, 0), (9, 0, 0, 0), (2, 0, 60, 0), (2, 0, 3, 0), (9, 0, 0, 0), (2, 0, 60, 0), (2, 0, 3, 0), (9, 0, 0, 0), (2, 0, 60, 0), (2, 0, 3, 0), (2, 0, 60, 0)]
def hk_R : List hq_T := [(21, 2, 11, 41), (21, 2, 9, 41), (21, 2, 8, 50), (20, 144, 41, 0), (20, 720, 41, 0), (20, 960, 41, 0), (20, 960, 41, 0), (21, 12, 2, 41), (21, 60, 2, 41), (21, 60, 0, 41), (21, 120, 0, 50), (21, 120, 0, 41), (21, 120, 0, 41), (21, 120, 0, 41), (21, 120, 1, 50), (21, 120, 1, 41), (21, 120, 3, 41), (21, 120, 0, 41), (21, 120, 0, 41), (23, 0, 0, 0), (20, 4000, 42, 0), (20, 276, 43, 0), (20, 276, 43, 0), (22, 60, 43, 0), (20, 30, 43, 0), (20, 244, 44, 0), (20, 122, 45, 0), (20, 122, 45, 0), (21, 4, 6, 44), (21, 560, 4, 44), (21, 4, 7, 44), (21, 2, 9, 45), (21, 2, 9, 45), (21, 280, 4, 45), (21, 280, 4, 45), (21, 2, 10, 45), (21, 2, 10, 45), (20, 4000, 46, 0), (21, 60, 0, 47), (21, 60, 0, 47), (21, 60, 0, 47), (21, 60, 0, 47), (21, 480, 0, 48), (21, 24, 0, 48), (21, 2, 0, 49), (21, 2, 5, 49), (21, 2, 0, 49)]
def hk_B (b d : Nat) : Option hq_T := if d = 0 then some (4, 7, 6, 0) else if d < 13 then (if d % 2 = 1 then some (0, 12, 0, 0) else some (1, 12, 0, 0)) else if d = 13 then some (4, 7, 30, 0) else if d < 74 then (if d % 2 = 0 then some (0, 12, 0, 0) else some (1, 12, 0, 0)) else if d = 74 then some (2, 3, 30, 0) else if d = 75 then some (4, 6, 60, b) else if d < 376 then (if (d - 76) % 5 = 0 then some (5, b, 0, 0) else if (d - 76) % 5 = 1 then some (0, 8, 0, 0) else if (d - 76) % 5 = 2 then some (1, 8, 0, 0) else if (d - 76) % 5 = 3 then some (0, 8, 0, 0) else some (1, 8, 0, 0)) else none
def hk_D (d : Nat) : Option hq_T := if d < 88 then hk_L[d]? else if d = 88 then some (6, 0, 0, 0) else if d < 465 then hk_B 0 (d - 89) else if d = 465 then some (6, 1, 0, 0) else if d < 842 then hk_B 1 (d - 466) else if d = 842 then some (24, 0, 0, 0) else hk_R[d - 843]?
/-- the types of all cells: the class's object just below n, its cells from n on, the reference's object at n + 842, its cells from n + 843 on -/
def hk_G (n : Nat) : hq_G := fun x => if x + 1 = n then some (15, 0, 0, 0) else if x < n then none else hk_D (x - n)
theorem hk_at (n d : Nat) : hk_G n (n + d) = hk_D d := by
  unfold hk_G
  rw [if_neg (by omega), if_neg (by omega), Nat.add_sub_cancel_left]
theorem hk_at0 (n : Nat) : hk_G n n = hk_D 0 := hk_at n 0
theorem hk_b0 (n d : Nat) (h : d < 376) : hk_G n (n + 89 + d) = hk_B 0 d := by
  rw [Nat.add_assoc, hk_at]
  unfold hk_D
  rw [if_neg (by omega), if_neg (by omega), if_pos (by omega), Nat.add_sub_cancel_left]
theorem hk_b1 (n d : Nat) (h : d < 376) : hk_G n (n + 466 + d) = hk_B 1 d := by
  rw [Nat.add_assoc, hk_at]
  unfold hk_D
  rw [if_neg (by omega), if_neg (by omega), if_neg (by omega), if_neg (by omega), if_pos (by omega), Nat.add_sub_cancel_left]
theorem hk_r (n d : Nat) : hk_G n (n + 843 + d) = hk_R[d]? := by
  rw [Nat.add_assoc, hk_at]
  unfold hk_D
  rw [if_neg (by omega), if_neg (by omega), if_neg (by omega), if_neg (by omega), if_neg (by omega), if_neg (by omega), Nat.add_sub_cancel_left]
theorem hk_zr {N : Nat} {lo hi : Int} (h1 : lo ≤ 0) (h2 : 0 ≤ hi) : ∀ j, j < N → hq_ir lo hi ((fun _ : Nat => (0 : Int32)) j) := fun _ _ => ⟨h1, h2⟩
theorem hk_t1 {b j : Nat} (h : j < 6) : hk_B b (1 + 2 * j) = some (0, 12, 0, 0) := by unfold hk_B; rw [if_neg (by omega), if_pos (by omega), if_pos (by omega)]
theorem hk_t2 {b j : Nat} (h : j < 6) : hk_B b (2 + 2 * j) = some (1, 12, 0, 0) := by unfold hk_B; rw [if_neg (by omega), if_pos (by omega), if_neg (by omega)]
theorem hk_t3 {b j : Nat} (h : j < 30) : hk_B b (14 + 2 * j) = some (0, 12, 0, 0) := by unfold hk_B; rw [if_neg (by omega), if_neg (by omega), if_neg (by omega), if_pos (by omega), if_pos (by omega)]
theorem hk_t4 {b j : Nat} (h : j < 30) : hk_B b (15 + 2 * j) = some (1, 12, 0, 0) := by unfold hk_B; rw [if_neg (by omega), if_neg (by omega), if_neg (by omega), if_pos (by omega), if_neg (by omega)]
theorem hk_t5 {b j k : Nat} (h : j < 60) (hk : k < 5) : hk_B b (76 + 5 * j + k) = (if k = 0 then some (5, b, 0, 0) else if k = 1 then some (0, 8, 0, 0) else if k = 2 then some (1, 8, 0, 0) else if k = 3 then some (0, 8, 0, 0) else some (1, 8, 0, 0)) := by
  unfold hk_B
  rw [if_neg (by omega), if_neg (by omega), if_neg (by omega), if_neg (by omega), if_neg (by omega), if_neg (by omega), if_pos (by omega)]
  have e : (76 + 5 * j + k - 76) % 5 = k := by omega
  rw [e]
/-- a fresh Book keeps its cells' types -/
theorem hk_Bok {cs : Nat → ClassId} {G : hq_G} {V : hp_V} {o q b : Nat} (h : fx_B cs V o q) (hG : ∀ d, d < 376 → G (q + d) = hk_B b d) (d : Nat) (t : hq_T) (hd : d < 376) (ht : hk_B b d = some t) : ∃ e, V (q + d) = some e ∧ hq_ok cs G (q + d) t e := by
  obtain ⟨h1, h2, ⟨g1, e1, f1⟩, ⟨g2, e2, f2⟩, ⟨g3, e3, f3⟩⟩ := h
  by_cases c0 : d = 0
  · subst c0
    cases (show hk_B b 0 = some (4, 7, 6, 0) from rfl).symm.trans ht
    refine ⟨_, e1, (by decide : 6 ≤ 100000), g1, rfl, fun j (hj : j < 6) => ⟨_, (f1 j hj).1, ?_⟩, fun i j hi hj e9 => ?_⟩
    · rw [show q + 1 + 2 * j = q + (1 + 2 * j) by omega, hG _ (by omega)]; exact hk_t1 hj
    · rw [(f1 i hi).1, (f1 j hj).1] at e9; have e8 := Option.some.inj e9; omega
  by_cases c1 : d < 13
  · obtain ⟨j, hj, hd2⟩ : ∃ j, j < 6 ∧ (d = 1 + 2 * j ∨ d = 2 + 2 * j) := ⟨(d - 1) / 2, by omega, by omega⟩
    obtain ⟨p1, p2, p3⟩ := f1 j hj
    rcases hd2 with rfl | rfl
    · cases (hk_t1 (b := b) hj).symm.trans ht
      refine ⟨_, (by rw [show q + (1 + 2 * j) = q + 1 + 2 * j by omega]; exact p2), hq_c0 ?_ (by decide) (by decide) (by decide) (by omega)⟩
      rw [show q + 1 + 2 * j + 1 = q + (2 + 2 * j) by omega, hG _ (by omega)]; exact hk_t2 hj
    · cases (hk_t2 (b := b) hj).symm.trans ht
      exact ⟨_, (by rw [show q + (2 + 2 * j) = q + 1 + 2 * j + 1 by omega]; exact p3), hq_c1 (by decide) (fun _ _ => rfl)⟩
  by_cases c2 : d = 13
  · subst c2
    cases (show hk_B b 13 = some (4, 7, 30, 0) from rfl).symm.trans ht
    refine ⟨_, e2, (by decide : 30 ≤ 100000), g2, rfl, fun j (hj : j < 30) => ⟨_, (f2 j hj).1, ?_⟩, fun i j hi hj e9 => ?_⟩
    · rw [show q + 14 + 2 * j = q + (14 + 2 * j) by omega, hG _ (by omega)]; exact hk_t3 hj
    · rw [(f2 i hi).1, (f2 j hj).1] at e9; have e8 := Option.some.inj e9; omega
  by_cases c3 : d < 74
  · obtain ⟨j, hj, hd2⟩ : ∃ j, j < 30 ∧ (d = 14 + 2 * j ∨ d = 15 + 2 * j) := ⟨(d - 14) / 2, by omega, by omega⟩
    obtain ⟨p1, p2, p3⟩ := f2 j hj
    rcases hd2 with rfl | rfl
    · cases (hk_t3 (b := b) hj).symm.trans ht
      refine ⟨_, (by rw [show q + (14 + 2 * j) = q + 14 + 2 * j by omega]; exact p2), hq_c0 ?_ (by decide) (by decide) (by decide) (by omega)⟩
      rw [show q + 14 + 2 * j + 1 = q + (15 + 2 * j) by omega, hG _ (by omega)]; exact hk_t4 hj
    · cases (hk_t4 (b := b) hj).symm.trans ht
      exact ⟨_, (by rw [show q + (15 + 2 * j) = q + 14 + 2 * j + 1 by omega]; exact p3), hq_c1 (by decide) (fun _ _ => rfl)⟩
  by_cases c4 : d = 74
  · subst c4
    cases (show hk_B b 74 = some (2, 3, 30, 0) from rfl).symm.trans ht
    exact ⟨_, h2, hq_c2 (by decide) (hk_zr (by decide) (by decide))⟩
  by_cases c5 : d = 75
  · subst c5
    cases (show hk_B b 75 = some (4, 6, 60, b) from rfl).symm.trans ht
    refine ⟨_, e3, (by decide : 60 ≤ 100000), g3, rfl, fun j (hj : j < 60) => ⟨_, (f3 j hj).1, ?_⟩, fun i j hi hj e9 => ?_⟩
    · rw [show q + 76 + 5 * j = q + (76 + 5 * j + 0) by omega, hG _ (by omega), hk_t5 hj (by decide)]; rfl
    · rw [(f3 i hi).1, (f3 j hj).1] at e9; have e8 := Option.some.inj e9; omega
  obtain ⟨j, k, hj, hk, rfl⟩ : ∃ j k, j < 60 ∧ k < 5 ∧ d = 76 + 5 * j + k := ⟨(d - 76) / 5, (d - 76) % 5, by omega, by omega, by omega⟩
  obtain ⟨p1, p2, p3, p4, p5, p6⟩ := f3 j hj
  rw [hk_t5 hj hk] at ht
  have tx : ∀ k', k' < 5 → G (q + 76 + 5 * j + k') = (if k' = 0 then some (5, b, 0, 0) else if k' = 1 then some (0, 8, 0, 0) else if k' = 2 then some (1, 8, 0, 0) else if k' = 3 then some (0, 8, 0, 0) else some (1, 8, 0, 0)) := fun k' hk' => by
    rw [show q + 76 + 5 * j + k' = q + (76 + 5 * j + k') by omega, hG _ (by omega)]; exact hk_t5 hj hk'
  rw [show q + (76 + 5 * j + k) = q + 76 + 5 * j + k by omega]
  rcases (show k = 0 ∨ k = 1 ∨ k = 2 ∨ k = 3 ∨ k = 4 by omega) with rfl | rfl | rfl | rfl | rfl
  · cases (show some (5, b, 0, 0) = some t from ht)
    exact ⟨_, p2, hq_c5 (tx 1 (by decide)) (tx 3 (by decide)) (by decide) (by decide)⟩
  · cases (show some (0, 8, 0, 0) = some t from ht)
    exact ⟨_, p3, hq_c0 (tx 2 (by decide)) (by decide) (by decide) (by decide) rfl⟩
  · cases (show some (1, 8, 0, 0) = some t from ht)
    exact ⟨_, p4, hq_c1 (by decide) (fun _ _ => rfl)⟩
  · cases (show some (0, 8, 0, 0) = some t from ht)
    exact ⟨_, p5, hq_c0 (tx 4 (by decide)) (by decide) (by decide) (by decide) rfl⟩
  · cases (show some (1, 8, 0, 0) = some t from ht)
    exact ⟨_, p6, hq_c1 (by decide) (fun _ _ => rfl)⟩

set_option maxRecDepth 20000 in
set_option maxHeartbeats 4000000 in
/-- the class, fresh, keeps its cells' types -/
theorem hk_X {cs : Nat → ClassId} {V : hp_V} {a n : Nat} (h : fx_X cs a n V) (d : Nat) (t : hq_T) (hd : d < 842) (ht : hk_D d = some t) : ∃ e, V (n + d) = some e ∧ hq_ok cs (hk_G n) (n + d) t e := by
  obtain ⟨ha, h0, h1, h2, h3, h4, h5, h6, h7, h8, h9, h10, h11, h12, h13, h14, h15, h16, h17, h18, h19, h20, h21, h22, h23, h24, h25, h26, h27, h28, h29, h30, h31, h32, h33, h34, h35, h36, h37, h38, h39, h40, h41, h42, h43, h44, h45, h46, h47, h48, h49, h50, h51, h52, h53, h54, h55, h56, h57, h58, h59, h60, h61, h62, h63, h64, h65, h66, h67, h68, h69, h70, h71, h72, h73, h74, h75, ⟨g0, x0, y0_0, y0_1, y0_2, y0_3⟩, ⟨g1, x1, y1_0, y1_1⟩, ⟨g2, x2, y2_0, y2_1⟩, ⟨g3, x3, y3_0, y3_1, y3_2, y3_3, y3_4, y3_5, y3_6, y3_7⟩, ⟨v0, w0⟩, ⟨v1, w1⟩, ⟨v2, w2⟩, ⟨v3, w3⟩, ⟨v4, w4⟩, ⟨v5, w5⟩, ⟨v6, w6⟩, ⟨v7, w7⟩, hb0, hb1⟩ := h
  by_cases c1 : d < 88
  · rcases (show d = 0 ∨ d = 1 ∨ d = 2 ∨ d = 3 ∨ d = 4 ∨ d = 5 ∨ d = 6 ∨ d = 7 ∨ d = 8 ∨ d = 9 ∨ d = 10 ∨ d = 11 ∨ d = 12 ∨ d = 13 ∨ d = 14 ∨ d = 15 ∨ d = 16 ∨ d = 17 ∨ d = 18 ∨ d = 19 ∨ d = 20 ∨ d = 21 ∨ d = 22 ∨ d = 23 ∨ d = 24 ∨ d = 25 ∨ d = 26 ∨ d = 27 ∨ d = 28 ∨ d = 29 ∨ d = 30 ∨ d = 31 ∨ d = 32 ∨ d = 33 ∨ d = 34 ∨ d = 35 ∨ d = 36 ∨ d = 37 ∨ d = 38 ∨ d = 39 ∨ d = 40 ∨ d = 41 ∨ d = 42 ∨ d = 43 ∨ d = 44 ∨ d = 45 ∨ d = 46 ∨ d = 47 ∨ d = 48 ∨ d = 49 ∨ d = 50 ∨ d = 51 ∨ d = 52 ∨ d = 53 ∨ d = 54 ∨ d = 55 ∨ d = 56 ∨ d = 57 ∨ d = 58 ∨ d = 59 ∨ d = 60 ∨ d = 61 ∨ d = 62 ∨ d = 63 ∨ d = 64 ∨ d = 65 ∨ d = 66 ∨ d = 67 ∨ d = 68 ∨ d = 69 ∨ d = 70 ∨ d = 71 ∨ d = 72 ∨ d = 73 ∨ d = 74 ∨ d = 75 ∨ d = 76 ∨ d = 77 ∨ d = 78 ∨ d = 79 ∨ d = 80 ∨ d = 81 ∨ d = 82 ∨ d = 83 ∨ d = 84 ∨ d = 85 ∨ d = 86 ∨ d = 87 by omega) with rfl | rfl | rfl | rfl | rfl | rfl | rfl | rfl | rfl | rfl | rfl | rfl | rfl | rfl | rfl | rfl | rfl | rfl | rfl | rfl | rfl | rfl | rfl | rfl | rfl | rfl | rfl | rfl | rfl | rfl | rfl | rfl | rfl | rfl | rfl | rfl | rfl | rfl | rfl | rfl | rfl | rfl | rfl | rfl | rfl | rfl | rfl | rfl | rfl | rfl | rfl | rfl | rfl | rfl | rfl | rfl | rfl | rfl | rfl | rfl | rfl | rfl | rfl | rfl | rfl | rfl | rfl | rfl | rfl | rfl | rfl | rfl | rfl | rfl | rfl | rfl | rfl | rfl | rfl | rfl | rfl | rfl | rfl | rfl | rfl | rfl | rfl | rfl
    · cases (show hk_D 0 = some (0, 4000, 0, 0) from rfl).symm.trans ht
      exact ⟨_, h0, hq_c0 (show hk_G n (n + 1) = some (1, 4000, 0, 0) from (hk_at n 1).trans rfl) (by decide) (by decide) (by decide) rfl⟩
    · cases (show hk_D 1 = some (1, 4000, 0, 0) from rfl).symm.trans ht
      exact ⟨_, h1, hq_c1 (by decide) (fun _ _ => rfl)⟩
    · cases (show hk_D 2 = some (10, 0, 0, 0) from rfl).symm.trans ht
      exact ⟨_, h2, trivial⟩
    · cases (show hk_D 3 = some (0, 12, 0, 0) from rfl).symm.trans ht
      exact ⟨_, h3, hq_c0 (show hk_G n (n + 4) = some (1, 12, 0, 0) from (hk_at n 4).trans rfl) (by decide) (by decide) (by decide) rfl⟩
    · cases (show hk_D 4 = some (1, 12, 0, 0) from rfl).symm.trans ht
      exact ⟨_, h4, hq_c1 (by decide) (fun _ _ => rfl)⟩
    · cases (show hk_D 5 = some (11, 0, 0, 0) from rfl).symm.trans ht
      exact ⟨_, h5, hq_c11 (show hk_G n (n + 6) = some (8, 4, 0, 0) from (hk_at n 6).trans rfl) (show hk_G n (n + 24) = some (8, 2, 0, 0) from (hk_at n 24).trans rfl) (show hk_G n (n + 34) = some (8, 2, 0, 0) from (hk_at n 34).trans rfl) (show hk_G n (n + 44) = some (0, 30, 0, 0) from (hk_at n 44).trans rfl) (by decide) (by decide) rfl rfl rfl rfl⟩
    · cases (show hk_D 6 = some (8, 4, 0, 0) from rfl).symm.trans ht
      exact ⟨_, h6, hq_c8 (show hk_G n (n + 7) = some (4, 4, 4, 0) from (hk_at n 7).trans rfl) (by decide) (by decide) (by decide) rfl⟩
    · cases (show hk_D 7 = some (4, 4, 4, 0) from rfl).symm.trans ht
      have hy : ∀ j, j < 4 → g0 j = some (n + 8 + 4 * j) := fun j hj => by
        rcases (show j = 0 ∨ j = 1 ∨ j = 2 ∨ j = 3 by omega) with rfl | rfl | rfl | rfl
        · exact y0_0
        · exact y0_1
        · exact y0_2
        · exact y0_3
      refine ⟨_, x0, (by decide : 4 ≤ 100000), g0, rfl, fun j (hj : j < 4) => ?_, fun i j hi hj e9 => ?_⟩
      · rcases (show j = 0 ∨ j = 1 ∨ j = 2 ∨ j = 3 by omega) with rfl | rfl | rfl | rfl
        · exact ⟨_, y0_0, (show hk_G n (n + 8) = some (7, 0, 0, 0) from (hk_at n 8).trans rfl)⟩
        · exact ⟨_, y0_1, (show hk_G n (n + 12) = some (7, 0, 0, 0) from (hk_at n 12).trans rfl)⟩
        · exact ⟨_, y0_2, (show hk_G n (n + 16) = some (7, 0, 0, 0) from (hk_at n 16).trans rfl)⟩
        · exact ⟨_, y0_3, (show hk_G n (n + 20) = some (7, 0, 0, 0) from (hk_at n 20).trans rfl)⟩
      · rw [hy i hi, hy j hj] at e9; have e8 := Option.some.inj e9; omega
    · cases (show hk_D 8 = some (7, 0, 0, 0) from rfl).symm.trans ht
      exact ⟨_, h7, hq_c7 (show hk_G n (n + 9) = some (0, 30, 0, 0) from (hk_at n 9).trans rfl) (show hk_G n (n + 11) = some (2, 5, 120, 0) from (hk_at n 11).trans rfl) (by decide) (by decide) rfl rfl⟩
    · cases (show hk_D 9 = some (0, 30, 0, 0) from rfl).symm.trans ht
      exact ⟨_, h8, hq_c0 (show hk_G n (n + 10) = some (1, 30, 0, 0) from (hk_at n 10).trans rfl) (by decide) (by decide) (by decide) rfl⟩
    · cases (show hk_D 10 = some (1, 30, 0, 0) from rfl).symm.trans ht
      exact ⟨_, h9, hq_c1 (by decide) (fun _ _ => rfl)⟩
    · cases (show hk_D 11 = some (2, 5, 120, 0) from rfl).symm.trans ht
      exact ⟨_, h10, hq_c2 (by decide) (hk_zr (by decide) (by decide))⟩
    · cases (show hk_D 12 = some (7, 0, 0, 0) from rfl).symm.trans ht
      exact ⟨_, h11, hq_c7 (show hk_G n (n + 13) = some (0, 30, 0, 0) from (hk_at n 13).trans rfl) (show hk_G n (n + 15) = some (2, 5, 120, 0) from (hk_at n 15).trans rfl) (by decide) (by decide) rfl rfl⟩
    · cases (show hk_D 13 = some (0, 30, 0, 0) from rfl).symm.trans ht
      exact ⟨_, h12, hq_c0 (show hk_G n (n + 14) = some (1, 30, 0, 0) from (hk_at n 14).trans rfl) (by decide) (by decide) (by decide) rfl⟩
    · cases (show hk_D 14 = some (1, 30, 0, 0) from rfl).symm.trans ht
      exact ⟨_, h13, hq_c1 (by decide) (fun _ _ => rfl)⟩
    · cases (show hk_D 15 = some (2, 5, 120, 0) from rfl).symm.trans ht
      exact ⟨_, h14, hq_c2 (by decide) (hk_zr (by decide) (by decide))⟩
    · cases (show hk_D 16 = some (7, 0, 0, 0) from rfl).symm.trans ht
      exact ⟨_, h15, hq_c7 (show hk_G n (n + 17) = some (0, 30, 0, 0) from (hk_at n 17).trans rfl) (show hk_G n (n + 19) = some (2, 5, 120, 0) from (hk_at n 19).trans rfl) (by decide) (by decide) rfl rfl⟩
    · cases (show hk_D 17 = some (0, 30, 0, 0) from rfl).symm.trans ht
      exact ⟨_, h16, hq_c0 (show hk_G n (n + 18) = some (1, 30, 0, 0) from (hk_at n 18).trans rfl) (by decide) (by decide) (by decide) rfl⟩
    · cases (show hk_D 18 = some (1, 30, 0, 0) from rfl).symm.trans ht
      exact ⟨_, h17, hq_c1 (by decide) (fun _ _ => rfl)⟩
    · cases (show hk_D 19 = some (2, 5, 120, 0) from rfl).symm.trans ht
      exact ⟨_, h18, hq_c2 (by decide) (hk_zr (by decide) (by decide))⟩
    · cases (show hk_D 20 = some (7, 0, 0, 0) from rfl).symm.trans ht
      exact ⟨_, h19, hq_c7 (show hk_G n (n + 21) = some (0, 30, 0, 0) from (hk_at n 21).trans rfl) (show hk_G n (n + 23) = some (2, 5, 120, 0) from (hk_at n 23).trans rfl) (by decide) (by decide) rfl rfl⟩
    · cases (show hk_D 21 = some (0, 30, 0, 0) from rfl).symm.trans ht
      exact ⟨_, h20, hq_c0 (show hk_G n (n + 22) = some (1, 30, 0, 0) from (hk_at n 22).trans rfl) (by decide) (by decide) (by decide) rfl⟩
    · cases (show hk_D 22 = some (1, 30, 0, 0) from rfl).symm.trans ht
      exact ⟨_, h21, hq_c1 (by decide) (fun _ _ => rfl)⟩
    · cases (show hk_D 23 = some (2, 5, 120, 0) from rfl).symm.trans ht
      exact ⟨_, h22, hq_c2 (by decide) (hk_zr (by decide) (by decide))⟩
    · cases (show hk_D 24 = some (8, 2, 0, 0) from rfl).symm.trans ht
      exact ⟨_, h23, hq_c8 (show hk_G n (n + 25) = some (4, 4, 2, 0) from (hk_at n 25).trans rfl) (by decide) (by decide) (by decide) rfl⟩
    · cases (show hk_D 25 = some (4, 4, 2, 0) from rfl).symm.trans ht
      have hy : ∀ j, j < 2 → g1 j = some (n + 26 + 4 * j) := fun j hj => by
        rcases (show j = 0 ∨ j = 1 by omega) with rfl | rfl
        · exact y1_0
        · exact y1_1
      refine ⟨_, x1, (by decide : 2 ≤ 100000), g1, rfl, fun j (hj : j < 2) => ?_, fun i j hi hj e9 => ?_⟩
      · rcases (show j = 0 ∨ j = 1 by omega) with rfl | rfl
        · exact ⟨_, y1_0, (show hk_G n (n + 26) = some (7, 0, 0, 0) from (hk_at n 26).trans rfl)⟩
        · exact ⟨_, y1_1, (show hk_G n (n + 30) = some (7, 0, 0, 0) from (hk_at n 30).trans rfl)⟩
      · rw [hy i hi, hy j hj] at e9; have e8 := Option.some.inj e9; omega
    · cases (show hk_D 26 = some (7, 0, 0, 0) from rfl).symm.trans ht
      exact ⟨_, h24, hq_c7 (show hk_G n (n + 27) = some (0, 30, 0, 0) from (hk_at n 27).trans rfl) (show hk_G n (n + 29) = some (2, 5, 120, 0) from (hk_at n 29).trans rfl) (by decide) (by decide) rfl rfl⟩
    · cases (show hk_D 27 = some (0, 30, 0, 0) from rfl).symm.trans ht
      exact ⟨_, h25, hq_c0 (show hk_G n (n + 28) = some (1, 30, 0, 0) from (hk_at n 28).trans rfl) (by decide) (by decide) (by decide) rfl⟩
    · cases (show hk_D 28 = some (1, 30, 0, 0) from rfl).symm.trans ht
      exact ⟨_, h26, hq_c1 (by decide) (fun _ _ => rfl)⟩
    · cases (show hk_D 29 = some (2, 5, 120, 0) from rfl).symm.trans ht
      exact ⟨_, h27, hq_c2 (by decide) (hk_zr (by decide) (by decide))⟩
    · cases (show hk_D 30 = some (7, 0, 0, 0) from rfl).symm.trans ht
      exact ⟨_, h28, hq_c7 (show hk_G n (n + 31) = some (0, 30, 0, 0) from (hk_at n 31).trans rfl) (show hk_G n (n + 33) = some (2, 5, 120, 0) from (hk_at n 33).trans rfl) (by decide) (by decide) rfl rfl⟩
    · cases (show hk_D 31 = some (0, 30, 0, 0) from rfl).symm.trans ht
      exact ⟨_, h29, hq_c0 (show hk_G n (n + 32) = some (1, 30, 0, 0) from (hk_at n 32).trans rfl) (by decide) (by decide) (by decide) rfl⟩
    · cases (show hk_D 32 = some (1, 30, 0, 0) from rfl).symm.trans ht
      exact ⟨_, h30, hq_c1 (by decide) (fun _ _ => rfl)⟩
    · cases (show hk_D 33 = some (2, 5, 120, 0) from rfl).symm.trans ht
      exact ⟨_, h31, hq_c2 (by decide) (hk_zr (by decide) (by decide))⟩
    · cases (show hk_D 34 = some (8, 2, 0, 0) from rfl).symm.trans ht
      exact ⟨_, h32, hq_c8 (show hk_G n (n + 35) = some (4, 4, 2, 0) from (hk_at n 35).trans rfl) (by decide) (by decide) (by decide) rfl⟩
    · cases (show hk_D 35 = some (4, 4, 2, 0) from rfl).symm.trans ht
      have hy : ∀ j, j < 2 → g2 j = some (n + 36 + 4 * j) := fun j hj => by
        rcases (show j = 0 ∨ j = 1 by omega) with rfl | rfl
        · exact y2_0
        · exact y2_1
      refine ⟨_, x2, (by decide : 2 ≤ 100000), g2, rfl, fun j (hj : j < 2) => ?_, fun i j hi hj e9 => ?_⟩
      · rcases (show j = 0 ∨ j = 1 by omega) with rfl | rfl
        · exact ⟨_, y2_0, (show hk_G n (n + 36) = some (7, 0, 0, 0) from (hk_at n 36).trans rfl)⟩
        · exact ⟨_, y2_1, (show hk_G n (n + 40) = some (7, 0, 0, 0) from (hk_at n 40).trans rfl)⟩
      · rw [hy i hi, hy j hj] at e9; have e8 := Option.some.inj e9; omega
    · cases (show hk_D 36 = some (7, 0, 0, 0) from rfl).symm.trans ht
      exact ⟨_, h33, hq_c7 (show hk_G n (n + 37) = some (0, 30, 0, 0) from (hk_at n 37).trans rfl) (show hk_G n (n + 39) = some (2, 5, 120, 0) from (hk_at n 39).trans rfl) (by decide) (by decide) rfl rfl⟩
    · cases (show hk_D 37 = some (0, 30, 0, 0) from rfl).symm.trans ht
      exact ⟨_, h34, hq_c0 (show hk_G n (n + 38) = some (1, 30, 0, 0) from (hk_at n 38).trans rfl) (by decide) (by decide) (by decide) rfl⟩
    · cases (show hk_D 38 = some (1, 30, 0, 0) from rfl).symm.trans ht
      exact ⟨_, h35, hq_c1 (by decide) (fun _ _ => rfl)⟩
    · cases (show hk_D 39 = some (2, 5, 120, 0) from rfl).symm.trans ht
      exact ⟨_, h36, hq_c2 (by decide) (hk_zr (by decide) (by decide))⟩
    · cases (show hk_D 40 = some (7, 0, 0, 0) from rfl).symm.trans ht
      exact ⟨_, h37, hq_c7 (show hk_G n (n + 41) = some (0, 30, 0, 0) from (hk_at n 41).trans rfl) (show hk_G n (n + 43) = some (2, 5, 120, 0) from (hk_at n 43).trans rfl) (by decide) (by decide) rfl rfl⟩
    · cases (show hk_D 41 = some (0, 30, 0, 0) from rfl).symm.trans ht
      exact ⟨_, h38, hq_c0 (show hk_G n (n + 42) = some (1, 30, 0, 0) from (hk_at n 42).trans rfl) (by decide) (by decide) (by decide) rfl⟩
    · cases (show hk_D 42 = some (1, 30, 0, 0) from rfl).symm.trans ht
      exact ⟨_, h39, hq_c1 (by decide) (fun _ _ => rfl)⟩
    · cases (show hk_D 43 = some (2, 5, 120, 0) from rfl).symm.trans ht
      exact ⟨_, h40, hq_c2 (by decide) (hk_zr (by decide) (by decide))⟩
    · cases (show hk_D 44 = some (0, 30, 0, 0) from rfl).symm.trans ht
      exact ⟨_, h41, hq_c0 (show hk_G n (n + 45) = some (1, 30, 0, 0) from (hk_at n 45).trans rfl) (by decide) (by decide) (by decide) rfl⟩
    · cases (show hk_D 45 = some (1, 30, 0, 0) from rfl).symm.trans ht
      exact ⟨_, h42, hq_c1 (by decide) (fun _ _ => rfl)⟩
    · cases (show hk_D 46 = some (12, 0, 0, 0) from rfl).symm.trans ht
      exact ⟨_, h43, hq_c12 (show hk_G n (n + 47) = some (3, 900, 0, 0) from (hk_at n 47).trans rfl) (show hk_G n (n + 48) = some (3, 900, 0, 0) from (hk_at n 48).trans rfl) (show hk_G n (n + 49) = some (3, 900, 0, 0) from (hk_at n 49).trans rfl)⟩
    · cases (show hk_D 47 = some (3, 900, 0, 0) from rfl).symm.trans ht
      exact ⟨_, h44, hq_c3 (by decide)⟩
    · cases (show hk_D 48 = some (3, 900, 0, 0) from rfl).symm.trans ht
      exact ⟨_, h45, hq_c3 (by decide)⟩
    · cases (show hk_D 49 = some (3, 900, 0, 0) from rfl).symm.trans ht
      exact ⟨_, h46, hq_c3 (by decide)⟩
    · cases (show hk_D 50 = some (14, 0, 0, 0) from rfl).symm.trans ht
      exact ⟨_, h47, trivial⟩
    · cases (show hk_D 51 = some (13, 0, 0, 0) from rfl).symm.trans ht
      exact ⟨_, h48, hq_c13 (by decide) (by decide)⟩
    · cases (show hk_D 52 = some (13, 0, 0, 0) from rfl).symm.trans ht
      exact ⟨_, h49, hq_c13 (by decide) (by decide)⟩
    · cases (show hk_D 53 = some (0, 30, 0, 0) from rfl).symm.trans ht
      exact ⟨_, h50, hq_c0 (show hk_G n (n + 54) = some (1, 30, 0, 0) from (hk_at n 54).trans rfl) (by decide) (by decide) (by decide) rfl⟩
    · cases (show hk_D 54 = some (1, 30, 0, 0) from rfl).symm.trans ht
      exact ⟨_, h51, hq_c1 (by decide) (fun _ _ => rfl)⟩
    · cases (show hk_D 55 = some (0, 30, 0, 0) from rfl).symm.trans ht
      exact ⟨_, h52, hq_c0 (show hk_G n (n + 56) = some (1, 30, 0, 0) from (hk_at n 56).trans rfl) (by decide) (by decide) (by decide) rfl⟩
    · cases (show hk_D 56 = some (1, 30, 0, 0) from rfl).symm.trans ht
      exact ⟨_, h53, hq_c1 (by decide) (fun _ _ => rfl)⟩
    · cases (show hk_D 57 = some (0, 30, 0, 0) from rfl).symm.trans ht
      exact ⟨_, h54, hq_c0 (show hk_G n (n + 58) = some (1, 30, 0, 0) from (hk_at n 58).trans rfl) (by decide) (by decide) (by decide) rfl⟩
    · cases (show hk_D 58 = some (1, 30, 0, 0) from rfl).symm.trans ht
      exact ⟨_, h55, hq_c1 (by decide) (fun _ _ => rfl)⟩
    · cases (show hk_D 59 = some (2, 8, 2, 0) from rfl).symm.trans ht
      exact ⟨_, h56, hq_c2 (by decide) (hk_zr (by decide) (by decide))⟩
    · cases (show hk_D 60 = some (2, 8, 2, 0) from rfl).symm.trans ht
      exact ⟨_, h57, hq_c2 (by decide) (hk_zr (by decide) (by decide))⟩
    · cases (show hk_D 61 = some (2, 8, 2, 0) from rfl).symm.trans ht
      exact ⟨_, h58, hq_c2 (by decide) (hk_zr (by decide) (by decide))⟩
    · cases (show hk_D 62 = some (4, 5, 8, 0) from rfl).symm.trans ht
      have hy : ∀ j, j < 8 → g3 j = some (n + 63 + 3 * j) := fun j hj => by
        rcases (show j = 0 ∨ j = 1 ∨ j = 2 ∨ j = 3 ∨ j = 4 ∨ j = 5 ∨ j = 6 ∨ j = 7 by omega) with rfl | rfl | rfl | rfl | rfl | rfl | rfl | rfl
        · exact y3_0
        · exact y3_1
        · exact y3_2
        · exact y3_3
        · exact y3_4
        · exact y3_5
        · exact y3_6
        · exact y3_7
      refine ⟨_, x3, (by decide : 8 ≤ 100000), g3, rfl, fun j (hj : j < 8) => ?_, fun i j hi hj e9 => ?_⟩
      · rcases (show j = 0 ∨ j = 1 ∨ j = 2 ∨ j = 3 ∨ j = 4 ∨ j = 5 ∨ j = 6 ∨ j = 7 by omega) with rfl | rfl | rfl | rfl | rfl | rfl | rfl | rfl
        · exact ⟨_, y3_0, (show hk_G n (n + 63) = some (9, 0, 0, 0) from (hk_at n 63).trans rfl)⟩
        · exact ⟨_, y3_1, (show hk_G n (n + 66) = some (9, 0, 0, 0) from (hk_at n 66).trans rfl)⟩
        · exact ⟨_, y3_2, (show hk_G n (n + 69) = some (9, 0, 0, 0) from (hk_at n 69).trans rfl)⟩
        · exact ⟨_, y3_3, (show hk_G n (n + 72) = some (9, 0, 0, 0) from (hk_at n 72).trans rfl)⟩
        · exact ⟨_, y3_4, (show hk_G n (n + 75) = some (9, 0, 0, 0) from (hk_at n 75).trans rfl)⟩
        · exact ⟨_, y3_5, (show hk_G n (n + 78) = some (9, 0, 0, 0) from (hk_at n 78).trans rfl)⟩
        · exact ⟨_, y3_6, (show hk_G n (n + 81) = some (9, 0, 0, 0) from (hk_at n 81).trans rfl)⟩
        · exact ⟨_, y3_7, (show hk_G n (n + 84) = some (9, 0, 0, 0) from (hk_at n 84).trans rfl)⟩
      · rw [hy i hi, hy j hj] at e9; have e8 := Option.some.inj e9; omega
    · cases (show hk_D 63 = some (9, 0, 0, 0) from rfl).symm.trans ht
      exact ⟨_, h59, ⟨_, _, rfl, (show hk_G n (n + 64) = some (2, 0, 60, 0) from (hk_at n 64).trans rfl), (show hk_G n (n + 65) = some (2, 0, 3, 0) from (hk_at n 65).trans rfl)⟩⟩
    · cases (show hk_D 64 = some (2, 0, 60, 0) from rfl).symm.trans ht
      exact ⟨_, h67, hq_c2 (by decide) (hk_zr (by decide) (by decide))⟩
    · cases (show hk_D 65 = some (2, 0, 3, 0) from rfl).symm.trans ht
      exact ⟨_, w0, hq_c2 (by decide) (fun _ _ => hq_rng _)⟩
    · cases (show hk_D 66 = some (9, 0, 0, 0) from rfl).symm.trans ht
      exact ⟨_, h60, ⟨_, _, rfl, (show hk_G n (n + 67) = some (2, 0, 60, 0) from (hk_at n 67).trans rfl), (show hk_G n (n + 68) = some (2, 0, 3, 0) from (hk_at n 68).trans rfl)⟩⟩
    · cases (show hk_D 67 = some (2, 0, 60, 0) from rfl).symm.trans ht
      exact ⟨_, h68, hq_c2 (by decide) (hk_zr (by decide) (by decide))⟩
    · cases (show hk_D 68 = some (2, 0, 3, 0) from rfl).symm.trans ht
      exact ⟨_, w1, hq_c2 (by decide) (fun _ _ => hq_rng _)⟩
    · cases (show hk_D 69 = some (9, 0, 0, 0) from rfl).symm.trans ht
      exact ⟨_, h61, ⟨_, _, rfl, (show hk_G n (n + 70) = some (2, 0, 60, 0) from (hk_at n 70).trans rfl), (show hk_G n (n + 71) = some (2, 0, 3, 0) from (hk_at n 71).trans rfl)⟩⟩
    · cases (show hk_D 70 = some (2, 0, 60, 0) from rfl).symm.trans ht
      exact ⟨_, h69, hq_c2 (by decide) (hk_zr (by decide) (by decide))⟩
    · cases (show hk_D 71 = some (2, 0, 3, 0) from rfl).symm.trans ht
      exact ⟨_, w2, hq_c2 (by decide) (fun _ _ => hq_rng _)⟩
    · cases (show hk_D 72 = some (9, 0, 0, 0) from rfl).symm.trans ht
      exact ⟨_, h62, ⟨_, _, rfl, (show hk_G n (n + 73) = some (2, 0, 60, 0) from (hk_at n 73).trans rfl), (show hk_G n (n + 74) = some (2, 0, 3, 0) from (hk_at n 74).trans rfl)⟩⟩
    · cases (show hk_D 73 = some (2, 0, 60, 0) from rfl).symm.trans ht
      exact ⟨_, h70, hq_c2 (by decide) (hk_zr (by decide) (by decide))⟩
    · cases (show hk_D 74 = some (2, 0, 3, 0) from rfl).symm.trans ht
      exact ⟨_, w3, hq_c2 (by decide) (fun _ _ => hq_rng _)⟩
    · cases (show hk_D 75 = some (9, 0, 0, 0) from rfl).symm.trans ht
      exact ⟨_, h63, ⟨_, _, rfl, (show hk_G n (n + 76) = some (2, 0, 60, 0) from (hk_at n 76).trans rfl), (show hk_G n (n + 77) = some (2, 0, 3, 0) from (hk_at n 77).trans rfl)⟩⟩
    · cases (show hk_D 76 = some (2, 0, 60, 0) from rfl).symm.trans ht
      exact ⟨_, h71, hq_c2 (by decide) (hk_zr (by decide) (by decide))⟩
    · cases (show hk_D 77 = some (2, 0, 3, 0) from rfl).symm.trans ht
      exact ⟨_, w4, hq_c2 (by decide) (fun _ _ => hq_rng _)⟩
    · cases (show hk_D 78 = some (9, 0, 0, 0) from rfl).symm.trans ht
      exact ⟨_, h64, ⟨_, _, rfl, (show hk_G n (n + 79) = some (2, 0, 60, 0) from (hk_at n 79).trans rfl), (show hk_G n (n + 80) = some (2, 0, 3, 0) from (hk_at n 80).trans rfl)⟩⟩
    · cases (show hk_D 79 = some (2, 0, 60, 0) from rfl).symm.trans ht
      exact ⟨_, h72, hq_c2 (by decide) (hk_zr (by decide) (by decide))⟩
    · cases (show hk_D 80 = some (2, 0, 3, 0) from rfl).symm.trans ht
      exact ⟨_, w5, hq_c2 (by decide) (fun _ _ => hq_rng _)⟩
    · cases (show hk_D 81 = some (9, 0, 0, 0) from rfl).symm.trans ht
      exact ⟨_, h65, ⟨_, _, rfl, (show hk_G n (n + 82) = some (2, 0, 60, 0) from (hk_at n 82).trans rfl), (show hk_G n (n + 83) = some (2, 0, 3, 0) from (hk_at n 83).trans rfl)⟩⟩
    · cases (show hk_D 82 = some (2, 0, 60, 0) from rfl).symm.trans ht
      exact ⟨_, h73, hq_c2 (by decide) (hk_zr (by decide) (by decide))⟩
    · cases (show hk_D 83 = some (2, 0, 3, 0) from rfl).symm.trans ht
      exact ⟨_, w6, hq_c2 (by decide) (fun _ _ => hq_rng _)⟩
    · cases (show hk_D 84 = some (9, 0, 0, 0) from rfl).symm.trans ht
      exact ⟨_, h66, ⟨_, _, rfl, (show hk_G n (n + 85) = some (2, 0, 60, 0) from (hk_at n 85).trans rfl), (show hk_G n (n + 86) = some (2, 0, 3, 0) from (hk_at n 86).trans rfl)⟩⟩
    · cases (show hk_D 85 = some (2, 0, 60, 0) from rfl).symm.trans ht
      exact ⟨_, h74, hq_c2 (by decide) (hk_zr (by decide) (by decide))⟩
    · cases (show hk_D 86 = some (2, 0, 3, 0) from rfl).symm.trans ht
      exact ⟨_, w7, hq_c2 (by decide) (fun _ _ => hq_rng _)⟩
    · cases (show hk_D 87 = some (2, 0, 60, 0) from rfl).symm.trans ht
      exact ⟨_, h75, hq_c2 (by decide) (hk_zr (by decide) (by decide))⟩
  by_cases c88 : d = 88
  · subst c88
    cases (show hk_D 88 = some (6, 0, 0, 0) from rfl).symm.trans ht
    refine ⟨_, hb0.1, hq_c6 ?_ ?_ ?_ ?_ (by decide) (by decide) (by decide)⟩
    · exact (hk_b0 n 0 (by decide)).trans rfl
    · exact (hk_b0 n 13 (by decide)).trans rfl
    · exact (hk_b0 n 74 (by decide)).trans rfl
    · exact (hk_b0 n 75 (by decide)).trans rfl
  by_cases c3 : d < 465
  · obtain ⟨d', hd', rfl⟩ : ∃ d', d' < 376 ∧ d = 89 + d' := ⟨d - 89, by omega, by omega⟩
    rw [← Nat.add_assoc]
    refine hk_Bok hb0 (fun d h => hk_b0 n d h) d' t hd' ?_
    rw [← hk_b0 n d' hd', Nat.add_assoc, hk_at]
    exact ht
  by_cases c465 : d = 465
  · subst c465
    cases (show hk_D 465 = some (6, 1, 0, 0) from rfl).symm.trans ht
    refine ⟨_, hb1.1, hq_c6 ?_ ?_ ?_ ?_ (by decide) (by decide) (by decide)⟩
    · exact (hk_b1 n 0 (by decide)).trans rfl
    · exact (hk_b1 n 13 (by decide)).trans rfl
    · exact (hk_b1 n 74 (by decide)).trans rfl
    · exact (hk_b1 n 75 (by decide)).trans rfl
  obtain ⟨d', hd', rfl⟩ : ∃ d', d' < 376 ∧ d = 466 + d' := ⟨d - 466, by omega, by omega⟩
  rw [← Nat.add_assoc]
  refine hk_Bok hb1 (fun d h => hk_b1 n d h) d' t hd' ?_
  rw [← hk_b1 n d' hd', Nat.add_assoc, hk_at]
  exact ht

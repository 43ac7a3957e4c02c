set_option maxHeartbeats 4000000 in
set_option maxRecDepth 20000 in
theorem hq_b13 {cs : Nat → ClassId} {G : hq_G} {V : hp_V} {a : Nat} {w0 w1 w2 w3 w4 w5 w6 : Int32} (h : hq_I cs G V) (ha : G a = some (13, 0, 0, 0)) (e : V a = some (.inr (10, [.int w0, .int w1, .int w2, .int w3, .int w4, .int w5, .int w6]))) : (-1 ≤ w1.toInt ∧ w1.toInt ≤ 59) ∧ (-1 ≤ w2.toInt ∧ w2.toInt ≤ 59) := by
  obtain ⟨x0, x1, x2, x3, x4, x5, x6, e9, h1, h2⟩ := hq_o13 h ha
  have e8 := e.symm.trans e9
  cases e8
  exact ⟨h1, h2⟩

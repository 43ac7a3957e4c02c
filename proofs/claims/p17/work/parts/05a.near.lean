theorem hq_ne (n i j : Nat) (h : i ≠ j) : n + i ≠ n + j := fun e => h (Nat.add_left_cancel e)
theorem hq_lt {a n : Nat} (h : a < n) (k : Nat) : a ≠ n + k := Nat.ne_of_lt (Nat.lt_of_lt_of_le h (Nat.le_add_right n k))
theorem hq_lts (n i j : Nat) (h : i < j) : n + i < n + j := Nat.add_lt_add_left h n
theorem hq_ltn {a n : Nat} (h : a < n) (k : Nat) : a < n + k := Nat.lt_of_lt_of_le h (Nat.le_add_right n k)

/-! ===== THE BOOK, PURELY: what is read from token j on; a fault is its kind (0: none) and its token ===== -/
def sp_d (w : sp_W) (j : Nat) : Int := w.1 (sp_s w j) - 48
def sp_nm (w : sp_W) (j : Nat) : List Int := sp_seg w.1 (sp_s w j) (sp_e w j)
def sp_fi (w : sp_W) (j : Nat) : List Nat → Int → Int
  | [], _ => -1
  | t :: ts, i => if sp_nm w t = sp_nm w j then i else sp_fi w j ts (i + 1)
def sp_take (w : sp_W) (d : Int) (j : Nat) : Int × Nat := if sp_k w j = d then (0, j + 1) else (1, j)
def sp_num (w : sp_W) (d : Int) (j : Nat) : Int × Nat × Int := if ¬ sp_k w j = 18 then (1, j, -1) else if d ≤ sp_d w j then (3, j, -1) else (0, j + 1, sp_d w j)
def sp_old (w : sp_W) (L : List Nat) (j : Nat) : Int × Nat × Int := if ¬ sp_k w j = 17 then (1, j, -1) else if sp_fi w j L 0 = -1 then (2, j, -1) else (0, j + 1, sp_fi w j L 0)
def sp_new (w : sp_W) (L : List Nat) (j : Nat) : Int × Nat := if ¬ sp_k w j = 17 then (1, j) else if sp_fi w j L 0 = -1 then (0, j) else (2, j)
def sp_nem (w : sp_W) (j : Nat) : Int × Nat := if sp_k w j = 19 ∧ sp_e w j - sp_s w j = 2 then (5, j) else (0, j)
def sp_let (w : sp_W) (j : Nat) : Int × Nat := if sp_k w j = 19 then (0, j + 1) else (1, j)
def sp_where (w : sp_W) (L : List Nat) (j : Nat) : Int × Nat × Int := if sp_k w j = 14 then (0, j + 1, -1) else if ¬ (sp_take w 15 j).1 = 0 then ((sp_take w 15 j).1, (sp_take w 15 j).2, -1) else sp_old w L (sp_take w 15 j).2
def sp_slot (w : sp_W) (j : Nat) : Int × Nat × Int × Int :=
  if ¬ (sp_take w 11 j).1 = 0 then ((sp_take w 11 j).1, (sp_take w 11 j).2, -1, -1)
  else if ¬ (sp_num w 5 (sp_take w 11 j).2).1 = 0 then ((sp_num w 5 (sp_take w 11 j).2).1, (sp_num w 5 (sp_take w 11 j).2).2.1, -1, -1)
  else if ¬ sp_k w (sp_num w 5 (sp_take w 11 j).2).2.1 = 16 then (0, (sp_num w 5 (sp_take w 11 j).2).2.1, (sp_num w 5 (sp_take w 11 j).2).2.2, -1)
  else if ¬ (sp_num w 6 ((sp_num w 5 (sp_take w 11 j).2).2.1 + 1)).1 = 0 then ((sp_num w 6 ((sp_num w 5 (sp_take w 11 j).2).2.1 + 1)).1, (sp_num w 6 ((sp_num w 5 (sp_take w 11 j).2).2.1 + 1)).2.1, -1, -1)
  else (0, (sp_num w 6 ((sp_num w 5 (sp_take w 11 j).2).2.1 + 1)).2.1, (sp_num w 5 (sp_take w 11 j).2).2.2, (sp_num w 6 ((sp_num w 5 (sp_take w 11 j).2).2.1 + 1)).2.2)
def sp_chg (w : sp_W) (j : Nat) : Int × Nat :=
  if ¬ (sp_nem w j).1 = 0 then sp_nem w j else if ¬ (sp_let w j).1 = 0 then sp_let w j
  else if ¬ (sp_take w 9 (sp_let w j).2).1 = 0 then sp_take w 9 (sp_let w j).2 else sp_let w (sp_take w 9 (sp_let w j).2).2
def sp_last (w : sp_W) (j : Nat) : Int × Nat × Int := if sp_k w j = 10 then (0, j + 1, 1) else (0, j, 0)
def sp_exc (w : sp_W) (n : Int) (j : Nat) : Int × Nat := if sp_k w j = 19 ∧ 2 ≤ n then (4, j) else if ¬ (sp_nem w j).1 = 0 then sp_nem w j else sp_let w j
/-- tense, helper; then their tense, the part: read, and not kept here -/
def sp_comp (w : sp_W) (L : List Nat) (j : Nat) : Int × Nat × Int × Int :=
  if ¬ (sp_take w 11 j).1 = 0 then ((sp_take w 11 j).1, (sp_take w 11 j).2, -1, -1)
  else if ¬ (sp_num w 5 ((sp_take w 11 j).2)).1 = 0 then ((sp_num w 5 ((sp_take w 11 j).2)).1, (sp_num w 5 ((sp_take w 11 j).2)).2.1, -1, -1)
  else if ¬ (sp_take w 12 ((sp_num w 5 ((sp_take w 11 j).2)).2.1)).1 = 0 then ((sp_take w 12 ((sp_num w 5 ((sp_take w 11 j).2)).2.1)).1, (sp_take w 12 ((sp_num w 5 ((sp_take w 11 j).2)).2.1)).2, -1, -1)
  else if ¬ (sp_old w L ((sp_take w 12 ((sp_num w 5 ((sp_take w 11 j).2)).2.1)).2)).1 = 0 then ((sp_old w L ((sp_take w 12 ((sp_num w 5 ((sp_take w 11 j).2)).2.1)).2)).1, (sp_old w L ((sp_take w 12 ((sp_num w 5 ((sp_take w 11 j).2)).2.1)).2)).2.1, -1, -1)
  else if ¬ (sp_take w 11 ((sp_old w L ((sp_take w 12 ((sp_num w 5 ((sp_take w 11 j).2)).2.1)).2)).2.1)).1 = 0 then ((sp_take w 11 ((sp_old w L ((sp_take w 12 ((sp_num w 5 ((sp_take w 11 j).2)).2.1)).2)).2.1)).1, (sp_take w 11 ((sp_old w L ((sp_take w 12 ((sp_num w 5 ((sp_take w 11 j).2)).2.1)).2)).2.1)).2, -1, -1)
  else if ¬ (sp_num w 5 ((sp_take w 11 ((sp_old w L ((sp_take w 12 ((sp_num w 5 ((sp_take w 11 j).2)).2.1)).2)).2.1)).2)).1 = 0 then ((sp_num w 5 ((sp_take w 11 ((sp_old w L ((sp_take w 12 ((sp_num w 5 ((sp_take w 11 j).2)).2.1)).2)).2.1)).2)).1, (sp_num w 5 ((sp_take w 11 ((sp_old w L ((sp_take w 12 ((sp_num w 5 ((sp_take w 11 j).2)).2.1)).2)).2.1)).2)).2.1, -1, -1)
  else if ¬ (sp_take w 13 ((sp_num w 5 ((sp_take w 11 ((sp_old w L ((sp_take w 12 ((sp_num w 5 ((sp_take w 11 j).2)).2.1)).2)).2.1)).2)).2.1)).1 = 0 then ((sp_take w 13 ((sp_num w 5 ((sp_take w 11 ((sp_old w L ((sp_take w 12 ((sp_num w 5 ((sp_take w 11 j).2)).2.1)).2)).2.1)).2)).2.1)).1, (sp_take w 13 ((sp_num w 5 ((sp_take w 11 ((sp_old w L ((sp_take w 12 ((sp_num w 5 ((sp_take w 11 j).2)).2.1)).2)).2.1)).2)).2.1)).2, -1, -1)
  else if ¬ (sp_num w 5 ((sp_take w 13 ((sp_num w 5 ((sp_take w 11 ((sp_old w L ((sp_take w 12 ((sp_num w 5 ((sp_take w 11 j).2)).2.1)).2)).2.1)).2)).2.1)).2)).1 = 0 then ((sp_num w 5 ((sp_take w 13 ((sp_num w 5 ((sp_take w 11 ((sp_old w L ((sp_take w 12 ((sp_num w 5 ((sp_take w 11 j).2)).2.1)).2)).2.1)).2)).2.1)).2)).1, (sp_num w 5 ((sp_take w 13 ((sp_num w 5 ((sp_take w 11 ((sp_old w L ((sp_take w 12 ((sp_num w 5 ((sp_take w 11 j).2)).2.1)).2)).2.1)).2)).2.1)).2)).2.1, -1, -1)
  else (0, (sp_num w 5 ((sp_take w 13 ((sp_num w 5 ((sp_take w 11 ((sp_old w L ((sp_take w 12 ((sp_num w 5 ((sp_take w 11 j).2)).2.1)).2)).2.1)).2)).2.1)).2)).2.1, (sp_num w 5 ((sp_take w 11 j).2)).2.2, (sp_old w L ((sp_take w 12 ((sp_num w 5 ((sp_take w 11 j).2)).2.1)).2)).2.2)
/-- a line: kind, owner, tense, person, what line(l, 6) tells, sizes of its letters, their tokens -/
abbrev sp_L : Type := Int × Int × Int × Int × Int × Int × Int × Nat × Nat
def sp_like (o t p : Int) : List sp_L → Int → Int
  | [], k => k
  | x :: xs, k => sp_like o t p xs (if x.1 = 4 ∧ x.2.1 = o ∧ x.2.2.1 = t ∧ x.2.2.2.1 = p then k + 1 else k)
def sp_sz (w : sp_W) (j : Nat) : Int := sp_e w j - sp_s w j - 2
/-- the book so far: classes' names, verbs' names, their classes, lines -/
abbrev sp_B : Type := List Nat × List Nat × List Int × List sp_L
def sp_ln0 : sp_L := (0, 0, 0, 0, 0, 0, 0, 0, 0)
def sp_line (w : sp_W) (b : sp_B) (k : Int) (j : Nat) : Int × Nat × sp_L :=
  if k = 0 then
    (if ¬ (sp_where w b.1 j).1 = 0 then ((sp_where w b.1 j).1, (sp_where w b.1 j).2.1, sp_ln0)
     else if ¬ (sp_slot w (sp_where w b.1 j).2.1).1 = 0 then ((sp_slot w (sp_where w b.1 j).2.1).1, (sp_slot w (sp_where w b.1 j).2.1).2.1, sp_ln0)
     else if ¬ (sp_chg w (sp_slot w (sp_where w b.1 j).2.1).2.1).1 = 0 then ((sp_chg w (sp_slot w (sp_where w b.1 j).2.1).2.1).1, (sp_chg w (sp_slot w (sp_where w b.1 j).2.1).2.1).2, sp_ln0)
     else (0, (sp_chg w (sp_slot w (sp_where w b.1 j).2.1).2.1).2, (0, (sp_where w b.1 j).2.2, (sp_slot w (sp_where w b.1 j).2.1).2.2.1, (sp_slot w (sp_where w b.1 j).2.1).2.2.2, 0, sp_sz w (sp_slot w (sp_where w b.1 j).2.1).2.1, sp_sz w ((sp_slot w (sp_where w b.1 j).2.1).2.1 + 2), (sp_slot w (sp_where w b.1 j).2.1).2.1, (sp_slot w (sp_where w b.1 j).2.1).2.1 + 2)))
  else if k = 1 then
    (if ¬ (sp_where w b.1 j).1 = 0 then ((sp_where w b.1 j).1, (sp_where w b.1 j).2.1, sp_ln0)
     else if ¬ (sp_slot w (sp_where w b.1 j).2.1).1 = 0 then ((sp_slot w (sp_where w b.1 j).2.1).1, (sp_slot w (sp_where w b.1 j).2.1).2.1, sp_ln0)
     else if ¬ (sp_let w (sp_slot w (sp_where w b.1 j).2.1).2.1).1 = 0 then ((sp_let w (sp_slot w (sp_where w b.1 j).2.1).2.1).1, (sp_let w (sp_slot w (sp_where w b.1 j).2.1).2.1).2, sp_ln0)
     else (0, (sp_let w (sp_slot w (sp_where w b.1 j).2.1).2.1).2, (1, (sp_where w b.1 j).2.2, (sp_slot w (sp_where w b.1 j).2.1).2.2.1, (sp_slot w (sp_where w b.1 j).2.1).2.2.2, 0, sp_sz w (sp_slot w (sp_where w b.1 j).2.1).2.1, 0, (sp_slot w (sp_where w b.1 j).2.1).2.1, 0)))
  else if k = 2 then
    (if ¬ (sp_chg w j).1 = 0 then ((sp_chg w j).1, (sp_chg w j).2, sp_ln0)
     else (0, (sp_last w (sp_chg w j).2).2.1, (2, -1, -1, -1, (sp_last w (sp_chg w j).2).2.2, sp_sz w j, sp_sz w (j + 2), j, j + 2)))
  else if k = 3 then
    (if ¬ (sp_where w b.1 j).1 = 0 then ((sp_where w b.1 j).1, (sp_where w b.1 j).2.1, sp_ln0)
     else if ¬ (sp_comp w b.2.1 (sp_where w b.1 j).2.1).1 = 0 then ((sp_comp w b.2.1 (sp_where w b.1 j).2.1).1, (sp_comp w b.2.1 (sp_where w b.1 j).2.1).2.1, sp_ln0)
     else (0, (sp_comp w b.2.1 (sp_where w b.1 j).2.1).2.1, (3, (sp_where w b.1 j).2.2, (sp_comp w b.2.1 (sp_where w b.1 j).2.1).2.2.1, -1, (sp_comp w b.2.1 (sp_where w b.1 j).2.1).2.2.2, 0, 0, 0, 0)))
  else if ¬ (sp_old w b.2.1 j).1 = 0 then ((sp_old w b.2.1 j).1, (sp_old w b.2.1 j).2.1, sp_ln0)
  else if ¬ (sp_slot w (sp_old w b.2.1 j).2.1).1 = 0 then ((sp_slot w (sp_old w b.2.1 j).2.1).1, (sp_slot w (sp_old w b.2.1 j).2.1).2.1, sp_ln0)
  else if k = 4 then
    (if ¬ (sp_exc w (sp_like (sp_old w b.2.1 j).2.2 (sp_slot w (sp_old w b.2.1 j).2.1).2.2.1 (sp_slot w (sp_old w b.2.1 j).2.1).2.2.2 b.2.2.2 0) (sp_slot w (sp_old w b.2.1 j).2.1).2.1).1 = 0 then ((sp_exc w (sp_like (sp_old w b.2.1 j).2.2 (sp_slot w (sp_old w b.2.1 j).2.1).2.2.1 (sp_slot w (sp_old w b.2.1 j).2.1).2.2.2 b.2.2.2 0) (sp_slot w (sp_old w b.2.1 j).2.1).2.1).1, (sp_exc w (sp_like (sp_old w b.2.1 j).2.2 (sp_slot w (sp_old w b.2.1 j).2.1).2.2.1 (sp_slot w (sp_old w b.2.1 j).2.1).2.2.2 b.2.2.2 0) (sp_slot w (sp_old w b.2.1 j).2.1).2.1).2, sp_ln0)
     else (0, (sp_exc w (sp_like (sp_old w b.2.1 j).2.2 (sp_slot w (sp_old w b.2.1 j).2.1).2.2.1 (sp_slot w (sp_old w b.2.1 j).2.1).2.2.2 b.2.2.2 0) (sp_slot w (sp_old w b.2.1 j).2.1).2.1).2, (4, (sp_old w b.2.1 j).2.2, (sp_slot w (sp_old w b.2.1 j).2.1).2.2.1, (sp_slot w (sp_old w b.2.1 j).2.1).2.2.2, 0, sp_sz w (sp_slot w (sp_old w b.2.1 j).2.1).2.1, 0, (sp_slot w (sp_old w b.2.1 j).2.1).2.1, 0)))
  else (0, (sp_slot w (sp_old w b.2.1 j).2.1).2.1, (5, (sp_old w b.2.1 j).2.2, (sp_slot w (sp_old w b.2.1 j).2.1).2.2.1, (sp_slot w (sp_old w b.2.1 j).2.1).2.2.2, 0, 0, 0, 0, 0))
def sp_tc (w : sp_W) (cl : List Nat) (j : Nat) : Int × Nat := if 6 ≤ cl.length then (4, j) else if ¬ (sp_new w cl (j + 1)).1 = 0 then ((sp_new w cl (j + 1)).1, (sp_new w cl (j + 1)).2) else (0, j + 2)
def sp_tv (w : sp_W) (cl vn : List Nat) (j : Nat) : Int × Nat × Int := if 30 ≤ vn.length then (4, j, -1) else if ¬ (sp_new w vn (j + 1)).1 = 0 then ((sp_new w vn (j + 1)).1, (sp_new w vn (j + 1)).2, -1) else if ¬ (sp_take w 8 (j + 2)).1 = 0 then ((sp_take w 8 (j + 2)).1, (sp_take w 8 (j + 2)).2, -1) else sp_old w cl (sp_take w 8 (j + 2)).2
def sp_tl (w : sp_W) (b : sp_B) (j : Nat) : Int × Nat × sp_L := if ¬ sp_k w j ≤ 5 then (1, j, sp_ln0) else if 60 ≤ b.2.2.2.length then (4, j, sp_ln0) else sp_line w b (sp_k w j) (j + 1)
def sp_item (w : sp_W) (b : sp_B) (j : Nat) : Int × Nat × sp_B :=
  if sp_k w j = 6 then ((sp_tc w b.1 j).1, (sp_tc w b.1 j).2, (b.1 ++ [j + 1], b.2.1, b.2.2.1, b.2.2.2))
  else if sp_k w j = 7 then ((sp_tv w b.1 b.2.1 j).1, (sp_tv w b.1 b.2.1 j).2.1, (b.1, b.2.1 ++ [j + 1], b.2.2.1 ++ [(sp_tv w b.1 b.2.1 j).2.2], b.2.2.2))
  else ((sp_tl w b j).1, (sp_tl w b j).2.1, (b.1, b.2.1, b.2.2.1, b.2.2.2 ++ [(sp_tl w b j).2.2]))
def sp_prs (w : sp_W) : Nat → Nat → sp_B → Int × Nat × sp_B
  | 0, j, b => (9, j, b)
  | f + 1, j, b => if sp_k w j = 21 then (0, j, b) else if ¬ (sp_item w b j).1 = 0 then ((sp_item w b j).1, (sp_item w b j).2.1, b)
    else if ¬ (sp_take w 20 (sp_item w b j).2.1).1 = 0 then ((sp_take w 20 (sp_item w b j).2.1).1, (sp_take w 20 (sp_item w b j).2.1).2, b)
    else sp_prs w f (sp_take w 20 (sp_item w b j).2.1).2 (sp_item w b j).2.2

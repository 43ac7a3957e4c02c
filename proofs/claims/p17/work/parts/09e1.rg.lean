theorem hq_rg20 {cs : Nat → ClassId} {G : hq_G} {V : hp_V} {a R g : Nat} {f : Nat → Int32} (_ : hq_I cs G V) (_ : G a = some (20, R, g, 0)) (_ : V a = some (.inl (cs 0, R, .inl f))) : True := trivial

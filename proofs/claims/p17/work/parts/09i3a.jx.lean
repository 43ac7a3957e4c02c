theorem hm_jx {H : Nat} {Hi : Int} {i y : Int32} (h0 : 0 ≤ i.toInt) (h : y.toInt = Hi + i.toInt + 0 * 4294967296) (e : Hi = (H : Int)) : y.toNatClampNeg = H + i.toNatClampNeg := by
  have h1 : y.toNatClampNeg = y.toInt.toNat := rfl
  have h2 : i.toNatClampNeg = i.toInt.toNat := rfl
  omega
theorem hm_lx {H : Nat} {Hi : Int} {i : Int32} (h0 : 0 ≤ i.toInt) (h : ¬ Hi ≤ i.toInt) (e : Hi = (H : Int)) : i.toNatClampNeg < H := by
  have h2 : i.toNatClampNeg = i.toInt.toNat := rfl
  omega
theorem hm_sx {i y : Int32} (h0 : 0 ≤ i.toInt) (h : y.toInt = i.toInt + 1 + 0 * 4294967296) : y.toNatClampNeg ≤ i.toNatClampNeg + 1 := by
  have h1 : y.toNatClampNeg = y.toInt.toNat := rfl
  have h2 : i.toNatClampNeg = i.toInt.toNat := rfl
  omega

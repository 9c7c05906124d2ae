theorem zx_fin {n : Int32} {m : Nat} (h0 : 0 ≤ n.toInt) (h1 : n.toInt < (m : Int)) (hm : m ≤ 5000) : ∃ k : Fin m, n = Int32.ofNat k := ⟨⟨n.toInt.toNat, by omega⟩, zx_eq.mpr (by
  show n.toInt = (Int32.ofNat n.toInt.toNat).toInt
  have h2 : (Int32.ofNat n.toInt.toNat).toInt = (n.toInt.toNat : Int) := zx_len (by omega)
  omega)⟩
theorem zx_shl1 {n : Int32} (h0 : 0 ≤ n.toInt) (h1 : n.toInt ≤ 12) : 1 ≤ ((1 : Int32) <<< (n &&& 31)).toInt ∧ ((1 : Int32) <<< (n &&& 31)).toInt ≤ 4096 := by
  obtain ⟨k, rfl⟩ := zx_fin (m := 13) h0 (by omega) (by decide)
  revert k
  decide
theorem zx_shl2 {n : Int32} (h0 : 0 ≤ n.toInt) (h1 : n.toInt ≤ 12) : 2 ≤ ((2 : Int32) <<< (n &&& 31)).toInt ∧ ((2 : Int32) <<< (n &&& 31)).toInt ≤ 8192 := by
  obtain ⟨k, rfl⟩ := zx_fin (m := 13) h0 (by omega) (by decide)
  revert k
  decide

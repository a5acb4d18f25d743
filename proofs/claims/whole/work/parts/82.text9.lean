/-! bytes with signs -/
theorem i8_e (b : Int8) : Int8.ofNat b.toBitVec.toNat = b := by
  apply Int8.toBitVec_inj.mp
  show BitVec.ofNat 8 b.toBitVec.toNat = b.toBitVec
  exact BitVec.ofNat_toNat .. |>.trans (by simp)
theorem by_all : ∀ n, n < 256 → isLt_ (Int8.ofNat n).toInt32 = isLt_ ((Int8.ofNat n).toInt32 &&& 255) := by decide +kernel
theorem by_lt {x : Int32} (h : x.toInt8.toInt32 = x) : isLt_ x = isLt_ (x &&& 255) := by
  rw [← h, ← i8_e x.toInt8]
  exact by_all _ x.toInt8.toBitVec.isLt
theorem by_a2 : ∀ n, n < 256 → ∀ c, c < 128 → ((Int8.ofNat n).toInt32 = nI c ↔ (Int8.ofNat n).toInt32 &&& 255 = nI c) := by decide +kernel
theorem by_eq {x : Int32} {c : Nat} (h : x.toInt8.toInt32 = x) (hc : c < 128) : x = nI c ↔ x &&& 255 = nI c := by
  rw [← h, ← i8_e x.toInt8]
  exact by_a2 _ x.toInt8.toBitVec.isLt c hc

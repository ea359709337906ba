theorem bm64 {y : Int} (h1 : 0 ≤ y) (h2 : y < 4611686018427387904) : y.bmod (2 ^ 64) = y := by
  simp only [Int.bmod]
  have : ((2 ^ 64 : Nat) : Int) = 18446744073709551616 := rfl
  rw [this]
  split <;> omega
theorem bm32 {y : Int} (h1 : 0 ≤ y) (h2 : y < 1073741824) : y.bmod (2 ^ 32) = y := by
  simp only [Int.bmod]
  have : ((2 ^ 32 : Nat) : Int) = 4294967296 := rfl
  rw [this]
  split <;> omega
theorem and32 (z : Int64) : ∃ x : Nat, x < 2 ^ 32 ∧ (z &&& 4294967295).toInt = x := by
  refine ⟨(z &&& 4294967295).toBitVec.toNat, ?_, ?_⟩
  · rw [Int64.toBitVec_and, BitVec.toNat_and]
    exact Nat.lt_of_le_of_lt Nat.and_le_right (by decide)
  · show (z &&& 4294967295).toBitVec.toInt = _
    rw [BitVec.toInt_eq_toNat_of_lt]
    rw [Int64.toBitVec_and, BitVec.toNat_and]
    exact Nat.lt_of_le_of_lt (Nat.mul_le_mul_left 2 Nat.and_le_right) (by decide)
theorem dhr_ok {a b : Nat} {z : Int32} (h1 : a ≤ b) (h2 : b ≤ 40) : ∃ h, a ≤ h ∧ h ≤ b ∧ dhr (nI a) (nI b) z = nI h := by
  obtain ⟨x, x1, x2⟩ := and32 z.toInt64
  have hd : nI b - nI a + 1 = nI (b - a + 1) := by rw [pk_sub h1, nI_1]
  have hx : x % (b - a + 1) < b - a + 1 := Nat.mod_lt _ (by omega)
  refine ⟨a + x % (b - a + 1), by omega, by omega, ?_⟩
  unfold dhr
  rw [hd]
  generalize z.toInt64 &&& 4294967295 = X at x2
  have hW : (nI (b - a + 1)).toInt64.toInt = (b - a + 1 : Nat) := by rw [Int32.toInt_toInt64, nI_toInt (by omega)]
  generalize (nI (b - a + 1)).toInt64 = W at hW
  have hd41 : b - a + 1 ≤ 41 := by omega
  generalize b - a + 1 = d at hx hW hd41
  have q1 : (X / W).toInt = (x / d : Nat) := by
    rw [Int64.toInt_div, x2, hW, ← Int.ofNat_tdiv]
    exact bm64 (Int.natCast_nonneg _) (by have := Nat.div_le_self x d; omega)
  have hm := Nat.div_add_mod x d
  have hmul : x / d * d ≤ x := Nat.div_mul_le_self x d
  have q2 : (X / W * W).toInt = (x / d * d : Nat) := by
    rw [Int64.toInt_mul, q1, hW, ← Int.natCast_mul]
    exact bm64 (Int.natCast_nonneg _) (by omega)
  have q3 : (X - X / W * W).toInt = (x % d : Nat) := by
    rw [Int64.toInt_sub, x2, q2]
    have e : (x : Int) - (x / d * d : Nat) = (x % d : Nat) := by
      rw [Nat.mul_comm] at hmul ⊢
      omega
    rw [e]
    exact bm64 (Int.natCast_nonneg _) (by have := Nat.mod_le x d; omega)
  have q4 : (X - X / W * W).toInt32 = nI (x % d) := by
    apply Int32.toInt_inj.mp
    rw [Int64.toInt_toInt32, q3, nI_toInt (by omega)]
    exact bm32 (Int.natCast_nonneg _) (by omega)
  rw [q4, nI_add]

/-! ===== SETS AS INTS ===== -/
theorem iN_or (a b : Nat) : iN a ||| iN b = iN (a ||| b) := Int32.toBitVec_inj.mp (by rw [Int32.toBitVec_or]; exact (BitVec.ofNat_or (w := 32)).symm)
theorem iN_and (a b : Nat) : iN a &&& iN b = iN (a &&& b) := Int32.toBitVec_inj.mp (by rw [Int32.toBitVec_and]; exact (BitVec.ofNat_and (w := 32)).symm)
theorem iN_xor (a b : Nat) : iN a ^^^ iN b = iN (a ^^^ b) := Int32.toBitVec_inj.mp (by rw [Int32.toBitVec_xor]; exact (BitVec.ofNat_xor (w := 32)).symm)
theorem iN_sl : ∀ n, n < 32 → ((iN n &&& 31).toBitVec.smod 32).toNat = n := by decide +kernel
theorem iN_shl1 : ∀ p, p < 31 → iN 1 <<< (iN p &&& iN 31) = iN (2 ^ p) := by decide +kernel
theorem iN_shr {m p : Nat} (hm : m < 2147483648) (hp : p < 32) : iN m >>> (iN p &&& iN 31) = iN (m >>> p) := by
  apply Int32.toBitVec_inj.mp
  rw [Int32.toBitVec_shiftRight]
  show BitVec.sshiftRight' (BitVec.ofNat 32 m) ((iN p &&& 31).toBitVec.smod 32) = BitVec.ofNat 32 (m >>> p)
  rw [BitVec.sshiftRight', iN_sl p hp]
  apply BitVec.eq_of_toNat_eq
  have h1 : (BitVec.ofNat 32 m).toNat = m := by rw [BitVec.toNat_ofNat]; exact Nat.mod_eq_of_lt (by omega)
  have h2 : (BitVec.ofNat 32 m).msb = false := by rw [BitVec.msb_eq_false_iff_two_mul_lt, h1]; omega
  rw [BitVec.toNat_sshiftRight_of_msb_false h2, h1, BitVec.toNat_ofNat, Nat.mod_eq_of_lt]
  exact Nat.lt_of_le_of_lt (Nat.shiftRight_le m p) (by omega)
/-- the bit at p -/
theorem iN_bit {m p : Nat} (hm : m < 2147483648) (hp : p < 32) : iN m >>> (iN p &&& iN 31) &&& iN 1 = iN (if m.testBit p then 1 else 0) := by
  rw [iN_shr hm hp, iN_and]
  congr 1
  rw [Nat.and_one_is_mod, Nat.testBit, Nat.and_comm, Nat.and_one_is_mod]
  by_cases h : m >>> p % 2 = 0
  · simp [h]
  · have : m >>> p % 2 = 1 := by omega
    simp [this]
theorem iN_shl1A {p : Nat} (hp : p < 31) : iN 1 <<< iN (p &&& 31) = iN (2 ^ p) := by rw [← iN_and]; exact iN_shl1 p hp
theorem iN_shrA {m p : Nat} (hm : m < 2147483648) (hp : p < 32) : iN m >>> iN (p &&& 31) = iN (m >>> p) := by rw [← iN_and]; exact iN_shr hm hp
theorem iN_bitA {m p : Nat} (hm : m < 2147483648) (hp : p < 32) : iN m >>> iN (p &&& 31) &&& iN 1 = iN (if m.testBit p then 1 else 0) := by rw [← iN_and]; exact iN_bit hm hp
/-- a set below n -/
def mask (f : Nat → Bool) : Nat → Nat
  | 0 => 0
  | n + 1 => mask f n ||| (if f n then 2 ^ n else 0)
theorem mask_bit (f : Nat → Bool) : ∀ (n k : Nat), (mask f n).testBit k = (decide (k < n) && f k)
  | 0, k => by simp [mask]
  | n + 1, k => by
    rw [mask, Nat.testBit_or, mask_bit f n k]
    by_cases hf : f n = true
    · rw [if_pos hf, Nat.testBit_two_pow]
      by_cases h1 : n = k
      · subst h1; simp [hf]
      · rw [decide_eq_false h1, Bool.or_false]
        congr 1
        simp only [decide_eq_decide]; omega
    · rw [if_neg hf, Nat.zero_testBit, Bool.or_false]
      by_cases h1 : n = k
      · subst h1; simp [hf]
      · congr 1
        simp only [decide_eq_decide]; omega
theorem mask_lt (f : Nat → Bool) : ∀ n, mask f n < 2 ^ n
  | 0 => by simp [mask]
  | n + 1 => by
    rw [mask]
    apply Nat.or_lt_two_pow
    · exact Nat.lt_of_lt_of_le (mask_lt f n) (Nat.pow_le_pow_right (by decide) (by omega))
    · split
      · exact Nat.pow_lt_pow_right (by decide) (by omega)
      · exact Nat.two_pow_pos _
theorem mask_ext {f g : Nat → Bool} {n : Nat} (h : ∀ k, k < n → f k = g k) : mask f n = mask g n := by
  apply Nat.eq_of_testBit_eq
  intro k
  rw [mask_bit, mask_bit]
  by_cases hk : k < n
  · rw [h k hk]
  · simp [hk]
theorem mask_eq {f : Nat → Bool} {n m : Nat} (hm : m < 2 ^ n) (h : ∀ k, k < n → m.testBit k = f k) : m = mask f n := by
  apply Nat.eq_of_testBit_eq
  intro k
  rw [mask_bit]
  by_cases hk : k < n
  · simp [hk, h k hk]
  · simp only [hk, decide_false, Bool.false_and]
    exact Nat.testBit_lt_two_pow (Nat.lt_of_lt_of_le hm (Nat.pow_le_pow_right (by decide) (by omega)))
theorem pow31 {n : Nat} (h : n ≤ 24) : 2 ^ n < 2147483648 := Nat.lt_of_le_of_lt (Nat.pow_le_pow_right (by decide) h) (by decide)

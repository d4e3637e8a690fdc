/-! ===== SETS WITHOUT OTHERS ===== -/
/-- a without b -/
def wo (a b : Nat) : Nat := a ^^^ (a &&& b)
theorem wo_bit (a b k : Nat) : (wo a b).testBit k = (a.testBit k && !b.testBit k) := by
  unfold wo
  rw [Nat.testBit_xor, Nat.testBit_and]
  cases a.testBit k <;> cases b.testBit k <;> rfl
theorem wo_zero {a b : Nat} : wo a b = 0 ↔ a &&& b = a := by
  constructor
  · intro h
    refine sub_iff.mpr fun k hk => ?_
    have := congrArg (fun z => z.testBit k) h
    simp only [wo_bit, Nat.zero_testBit, hk, Bool.true_and] at this
    cases hb : b.testBit k with
    | true => rfl
    | false => rw [hb] at this; cases this
  · intro h
    refine Nat.eq_of_testBit_eq fun k => ?_
    rw [wo_bit, Nat.zero_testBit]
    cases hk : a.testBit k with
    | false => rfl
    | true => rw [sub_iff.mp h k hk]; rfl
theorem wo_le (a b : Nat) : wo a b ≤ a := by
  have h : wo a b &&& a = wo a b := sub_iff.mpr fun k hk => by
    rw [wo_bit, Bool.and_eq_true] at hk; exact hk.1
  rw [← h]; exact Nat.and_le_right
theorem iN_not (b : Nat) : iN b ^^^ -1 = ~~~iN b := by
  apply Int32.toBitVec_inj.mp
  rw [Int32.toBitVec_xor, Int32.toBitVec_not]
  show _ ^^^ BitVec.allOnes 32 = _
  exact BitVec.xor_allOnes
theorem iN_wo (a b : Nat) : iN a &&& (iN b ^^^ -1) = iN (wo a b) := by
  rw [iN_not]
  apply Int32.toBitVec_inj.mp
  rw [Int32.toBitVec_and, Int32.toBitVec_not]
  apply BitVec.eq_of_getLsbD_eq
  intro k hk
  rw [BitVec.getLsbD_and, BitVec.getLsbD_not]
  show ((BitVec.ofNat 32 a).getLsbD k && (decide (k < 32) && !(BitVec.ofNat 32 b).getLsbD k)) = (BitVec.ofNat 32 (wo a b)).getLsbD k
  rw [BitVec.getLsbD_ofNat, BitVec.getLsbD_ofNat, BitVec.getLsbD_ofNat, wo_bit]
  simp [hk]
theorem iN_wo' (a b : Nat) : iN a &&& (iN b ^^^ -iN 1) = iN (wo a b) := iN_wo a b

/-! ===== THE CLASS: bits ===== -/
section XBITS
variable {d : Nat} {h : qH}
def ush (x y : Int32) : Int32 := (x.toUInt32 >>> (y.toUInt32 &&& Int32.toUInt32 31)).toInt32
def bc1 (x : Int32) : Int32 := x - (ush x 1 &&& 1431655765)
def bc2 (x : Int32) : Int32 := (x &&& 858993459) + (ush x 2 &&& 858993459)
def bc3 (x : Int32) : Int32 := (x + ush x 4) &&& 252645135
def bc4 (x : Int32) : Int32 := x + ush x 8
def bc5 (x : Int32) : Int32 := x + ush x 16
def bcF (x : Int32) : Int32 := bc5 (bc4 (bc3 (bc2 (bc1 x)))) &&& 63
set_option maxRecDepth 100000 in
set_option maxHeartbeats 16000000 in
theorem x_bc {x : Int32} {R : qRes} : qMC (d + 1) 308 [.int x] h R ↔ R = (some (.int (bcF x)), h) := by
  simp (disch := first | assumption | omega) only [e308_0, e308_1, e308_2, e308_3, e308_4, e308_7, e308_8, e308_9, e308_10, e308_11, e308_14, e308_15, e308_16, e308_17, e308_18, e308_21, e308_22, e308_23, e308_24, e308_25, e308_26, e308_27, e308_28, e308_29, e308_32, e308_33, e308_34, e308_35, e308_36, e308_38, e308_39, e308_40, e308_41, e308_42, e308_43, e308_45, e308_46, e308_47, e308_48, e308_49, e308_51, e308_52, m308, ↓reduceIte, qg_0, qg_1, qg_2, qg_3, qg_4, qg_5, qg_6, qg_7, qg_8, qg_9, qg_10, qg_11, qg_12, qg_13, not_true_eq_false, not_false_eq_true, Nat.reduceBEq, Bool.false_eq_true, ex1, ex3, ex4, exF, qfit_i, qfit_l, qfit_r, qfit_n, qfit_b0, qfit_b1, qcat_i, qcat_r, qcat_n, qcat_l, qroom_0, qroom_c, List.map_cons, List.map_nil, List.sum_cons, List.sum_nil, Nat.reduceAdd, Nat.reduceMul, Nat.reduceLT, Nat.reduceLeDiff, Nat.reduceEqDiff, Nat.reduceSub, decide_true, true_and, and_true, and_self, if_true, if_false, Option.toList_some, Option.toList_none, List.cons_append, List.nil_append, qsL, qlong, List.length_cons, List.length_nil]
  exact Iff.rfl
/-- the same over counts -/
def bnA (n : Nat) : Nat := Nat.sub n (Nat.land (Nat.shiftRight n 1) 1431655765)
def bnB (n : Nat) : Nat := Nat.add (Nat.land n 858993459) (Nat.land (Nat.shiftRight n 2) 858993459)
def bnC (n : Nat) : Nat := Nat.land (Nat.add n (Nat.shiftRight n 4)) 252645135
def bnD (n : Nat) : Nat := Nat.add n (Nat.shiftRight n 8)
def bnE (n : Nat) : Nat := Nat.add n (Nat.shiftRight n 16)
def bcN (n : Nat) : Nat := Nat.land (bnE (bnD (bnC (bnB (bnA n))))) 63
def btN (n i : Nat) : Nat := Nat.land (Nat.shiftRight n i) 1
def pcN (n : Nat) : Nat := Nat.add (Nat.add (Nat.add (Nat.add (Nat.add (Nat.add (Nat.add (Nat.add (Nat.add (Nat.add (Nat.add (Nat.add (Nat.add (Nat.add (Nat.add (Nat.add 0 (btN n 0)) (btN n 1)) (btN n 2)) (btN n 3)) (btN n 4)) (btN n 5)) (btN n 6)) (btN n 7)) (btN n 8)) (btN n 9)) (btN n 10)) (btN n 11)) (btN n 12)) (btN n 13)) (btN n 14)) (btN n 15)
def alB (p : Nat → Bool) : Nat → Nat → Bool
  | 0, s => p s
  | k + 1, s => alB p k s && alB p k (Nat.add s (Nat.pow 2 k))
theorem alB_all {p : Nat → Bool} : ∀ k s, alB p k s = true → ∀ n, s ≤ n → n < s + 2 ^ k → p n = true
  | 0, s, h0, n, h1, h2 => by
    rw [Nat.pow_zero] at h2
    rw [show n = s by omega]; exact h0
  | k + 1, s, h0, n, h1, h2 => by
    have h3 : alB p k s = true ∧ alB p k (s + 2 ^ k) = true := Bool.and_eq_true_iff.mp h0
    rw [Nat.pow_succ] at h2
    rcases Nat.lt_or_ge n (s + 2 ^ k) with z | z
    · exact alB_all k s h3.1 n h1 z
    · exact alB_all k (s + 2 ^ k) h3.2 n z (by omega)
def bcQ (n : Nat) : Bool := Nat.beq (bcN n) (pcN n)
theorem bc_0 : alB bcQ 12 0 = true := by decide +kernel
theorem bc_1 : alB bcQ 12 4096 = true := by decide +kernel
theorem bc_2 : alB bcQ 12 8192 = true := by decide +kernel
theorem bc_3 : alB bcQ 12 12288 = true := by decide +kernel
theorem bc_4 : alB bcQ 12 16384 = true := by decide +kernel
theorem bc_5 : alB bcQ 12 20480 = true := by decide +kernel
theorem bc_6 : alB bcQ 12 24576 = true := by decide +kernel
theorem bc_7 : alB bcQ 12 28672 = true := by decide +kernel
theorem bc_8 : alB bcQ 12 32768 = true := by decide +kernel
theorem bc_9 : alB bcQ 12 36864 = true := by decide +kernel
theorem bc_10 : alB bcQ 12 40960 = true := by decide +kernel
theorem bc_11 : alB bcQ 12 45056 = true := by decide +kernel
theorem bc_12 : alB bcQ 12 49152 = true := by decide +kernel
theorem bc_13 : alB bcQ 12 53248 = true := by decide +kernel
theorem bc_14 : alB bcQ 12 57344 = true := by decide +kernel
theorem bc_15 : alB bcQ 12 61440 = true := by decide +kernel
theorem bc_all {n : Nat} (hn : n < 65536) : bcN n = pcN n := by
  have key : ∀ s, alB bcQ 12 s = true → s ≤ n → n < s + 4096 → bcN n = pcN n := fun s h0 h1 h2 => Nat.eq_of_beq_eq_true (alB_all 12 s h0 n h1 h2)
  rcases Nat.lt_or_ge n 32768 with z | z
  · rcases Nat.lt_or_ge n 16384 with z1 | z1
    · rcases Nat.lt_or_ge n 8192 with z2 | z2
      · rcases Nat.lt_or_ge n 4096 with z3 | z3
        · exact key _ bc_0 (by omega) (by omega)
        · exact key _ bc_1 (by omega) (by omega)
      · rcases Nat.lt_or_ge n 12288 with z3 | z3
        · exact key _ bc_2 (by omega) (by omega)
        · exact key _ bc_3 (by omega) (by omega)
    · rcases Nat.lt_or_ge n 24576 with z2 | z2
      · rcases Nat.lt_or_ge n 20480 with z3 | z3
        · exact key _ bc_4 (by omega) (by omega)
        · exact key _ bc_5 (by omega) (by omega)
      · rcases Nat.lt_or_ge n 28672 with z3 | z3
        · exact key _ bc_6 (by omega) (by omega)
        · exact key _ bc_7 (by omega) (by omega)
  · rcases Nat.lt_or_ge n 49152 with z1 | z1
    · rcases Nat.lt_or_ge n 40960 with z2 | z2
      · rcases Nat.lt_or_ge n 36864 with z3 | z3
        · exact key _ bc_8 (by omega) (by omega)
        · exact key _ bc_9 (by omega) (by omega)
      · rcases Nat.lt_or_ge n 45056 with z3 | z3
        · exact key _ bc_10 (by omega) (by omega)
        · exact key _ bc_11 (by omega) (by omega)
    · rcases Nat.lt_or_ge n 57344 with z2 | z2
      · rcases Nat.lt_or_ge n 53248 with z3 | z3
        · exact key _ bc_12 (by omega) (by omega)
        · exact key _ bc_13 (by omega) (by omega)
      · rcases Nat.lt_or_ge n 61440 with z3 | z3
        · exact key _ bc_14 (by omega) (by omega)
        · exact key _ bc_15 (by omega) (by omega)
theorem bt_if (n k : Nat) : (if n.testBit k = true then 1 else 0) = btN n k := by
  show _ = n >>> k &&& 1
  rw [Nat.and_one_is_mod, Nat.testBit, Nat.and_comm, Nat.and_one_is_mod]
  by_cases h : n >>> k % 2 = 0
  · simp [h]
  · have : n >>> k % 2 = 1 := by omega
    simp [this]
theorem pcN_pop (n : Nat) : pcN n = pop n 16 := by
  unfold pop
  simp only [cntN, bt_if]
  rfl
theorem pop_hi {n : Nat} (hn : n < 65536) : ∀ k, pop n (16 + k) = pop n 16
  | 0 => rfl
  | k + 1 => by
    rw [show 16 + (k + 1) = (16 + k) + 1 by omega, pop_s, pop_hi hn k, Nat.testBit_lt_two_pow (Nat.lt_of_lt_of_le hn (show 2 ^ 16 ≤ 2 ^ (16 + k) from Nat.pow_le_pow_right (by decide) (by omega)))]
    rfl
theorem pop_24 {n : Nat} (hn : n < 65536) : pop n 24 = pop n 16 := pop_hi hn 8
theorem ush_p : ∀ p, p < 32 → (UInt32.ofNat p &&& Int32.toUInt32 31).toNat % 32 = p := by decide +kernel
theorem ush_N {m p : Nat} (hm : m < 2147483648) (hp : p < 32) : ush (iN m) (iN p) = iN (m >>> p) := by
  apply Int32.toBitVec_inj.mp
  apply BitVec.eq_of_toNat_eq
  show (UInt32.ofNat m >>> (UInt32.ofNat p &&& Int32.toUInt32 31)).toNat = (BitVec.ofNat 32 (m >>> p)).toNat
  rw [UInt32.toNat_shiftRight, ush_p p hp, BitVec.toNat_ofNat, Nat.mod_eq_of_lt (Nat.lt_of_le_of_lt (Nat.shiftRight_le m p) (by omega))]
  congr 1
  show (BitVec.ofNat 32 m).toNat = m
  rw [BitVec.toNat_ofNat]
  exact Nat.mod_eq_of_lt (by omega)
theorem bcF_N {n : Nat} (hn : n < 65536) : bcF (iN n) = iN (bcN n) := by
  have a0 : bnA n ≤ n := Nat.sub_le _ _
  have b0 : bnB (bnA n) ≤ bnA n + bnA n := Nat.add_le_add Nat.and_le_left (Nat.le_trans Nat.and_le_left (Nat.shiftRight_le _ 2))
  have c0 : bnC (bnB (bnA n)) ≤ bnB (bnA n) + bnB (bnA n) := Nat.le_trans Nat.and_le_left (Nat.add_le_add (Nat.le_refl _) (Nat.shiftRight_le _ 4))
  have d0 : bnD (bnC (bnB (bnA n))) ≤ bnC (bnB (bnA n)) + bnC (bnB (bnA n)) := Nat.add_le_add (Nat.le_refl _) (Nat.shiftRight_le _ 8)
  have a1 : bc1 (iN n) = iN (bnA n) := by
    unfold bc1
    rw [show ush (iN n) 1 = iN (n >>> 1) from ush_N (m := n) (p := 1) (by omega) (by omega), show (iN (n >>> 1) &&& (1431655765 : Int32)) = iN (n >>> 1 &&& 1431655765) from iN_and _ _, iN_sub (Nat.le_trans Nat.and_le_left (Nat.shiftRight_le n 1))]
    rfl
  have a2 : ∀ m, m < 2147483648 → bc2 (iN m) = iN (bnB m) := fun m hm => by
    unfold bc2
    rw [show ush (iN m) 2 = iN (m >>> 2) from ush_N (m := m) (p := 2) hm (by omega), show (iN (m >>> 2) &&& (858993459 : Int32)) = iN (m >>> 2 &&& 858993459) from iN_and _ _, show (iN m &&& (858993459 : Int32)) = iN (m &&& 858993459) from iN_and _ _, iN_add]
    rfl
  have a3 : ∀ m, m < 2147483648 → bc3 (iN m) = iN (bnC m) := fun m hm => by
    unfold bc3
    rw [show ush (iN m) 4 = iN (m >>> 4) from ush_N (m := m) (p := 4) hm (by omega), iN_add, show (iN (m + m >>> 4) &&& (252645135 : Int32)) = iN ((m + m >>> 4) &&& 252645135) from iN_and _ _]
    rfl
  have a4 : ∀ m, m < 2147483648 → bc4 (iN m) = iN (bnD m) := fun m hm => by
    unfold bc4
    rw [show ush (iN m) 8 = iN (m >>> 8) from ush_N (m := m) (p := 8) hm (by omega), iN_add]
    rfl
  have a5 : ∀ m, m < 2147483648 → bc5 (iN m) = iN (bnE m) := fun m hm => by
    unfold bc5
    rw [show ush (iN m) 16 = iN (m >>> 16) from ush_N (m := m) (p := 16) hm (by omega), iN_add]
    rfl
  unfold bcF
  rw [a1, a2 _ (by omega), a3 _ (by omega), a4 _ (by omega), a5 _ (by omega)]
  exact iN_and _ 63
theorem bcF_pop {n : Nat} (hn : n < 65536) : bcF (iN n) = iN (pop n 24) := by rw [bcF_N hn, bc_all hn, pcN_pop, pop_24 hn]
theorem x_bitCount {n : Nat} {R : qRes} (hn : n < 65536) : qMC (d + 1) 308 [.int (iN n)] h R ↔ R = (some (.int (iN (pop n 24))), h) := by
  rw [x_bc, bcF_pop hn]
/-- the least member of a set -/
theorem pop_low : ∀ m, m < 17 → pop (2 ^ m - 1) 24 = m := by decide +kernel
theorem low_un {x c m : Nat} (h1 : x.testBit c = true) (h2 : ∀ j, j < c → x.testBit j = false) (h3 : x.testBit m = true) (h4 : ∀ j, j < m → x.testBit j = false) : c = m := by
  rcases Nat.lt_trichotomy c m with z | z | z
  · rw [h4 c z] at h1; cases h1
  · exact z
  · rw [h2 m z] at h3; cases h3
theorem low_is {x m : Nat} (hx : x < 65536) (h3 : x.testBit m = true) (h4 : ∀ j, j < m → x.testBit j = false) : low x = 2 ^ m := by
  have h0 : 0 < x := by
    rcases Nat.eq_zero_or_pos x with z | z
    · rw [z, Nat.zero_testBit] at h3; cases h3
    · exact z
  obtain ⟨c, c1, c2, c3⟩ := low_spec h0 hx
  rw [c3, low_un c1 c2 h3 h4]
set_option maxRecDepth 100000 in
theorem x_leastOf {n m : Nat} {R : qRes} (hn : n < 65536) (h3 : n.testBit m = true) (h4 : ∀ j, j < m → n.testBit j = false) : qMC (d + 2) 178 [.int (iN n)] h R ↔ R = (some (.int (iN m)), h) := by
  have m16 := bit16 hn h3
  have p1 := Nat.two_pow_pos m
  have p2 : 2 ^ m ≤ 2 ^ 15 := Nat.pow_le_pow_right (by decide) (by omega)
  have e : iN n &&& -iN n = iN (2 ^ m) := by rw [iN_low (by omega), low_is hn h3 h4]
  have e2 : iN (2 ^ m) - iN 1 = iN (2 ^ m - 1) := iN_sub (by omega)
  have sb : ∀ R, qMC (d + 1) 308 [.int (iN (2 ^ m - 1))] h R ↔ R = (some (.int (iN m)), h) := fun R => by
    rw [x_bitCount (show 2 ^ m - 1 < 65536 by omega), pop_low m (by omega)]
  simp (disch := first | assumption | omega) only [e178_0, e178_1, e178_2, e178_3, e178_4, e178_5, e178_6, e178_9, m178, ↓reduceIte, qg_0, qg_1, qg_2, qg_3, qg_4, qg_5, qg_6, qg_7, qg_8, qg_9, qg_10, qg_11, qg_12, qg_13, not_true_eq_false, not_false_eq_true, Nat.reduceBEq, Bool.false_eq_true, ex1, ex3, ex4, exF, qfit_i, qfit_l, qfit_r, qfit_n, qfit_b0, qfit_b1, qcat_i, qcat_r, qcat_n, qcat_l, qroom_0, qroom_c, List.map_cons, List.map_nil, List.sum_cons, List.sum_nil, Nat.reduceAdd, Nat.reduceMul, Nat.reduceLT, Nat.reduceLeDiff, Nat.reduceEqDiff, Nat.reduceSub, decide_true, true_and, and_true, and_self, if_true, if_false, Option.toList_some, Option.toList_none, List.cons_append, List.nil_append, qsL, qlong, List.length_cons, List.length_nil, iN_L, e, e2, sb]
theorem drop_n : ∀ (n x : Nat), 0 < x → x < 2 ^ n → ∃ c, x.testBit c = true ∧ (∀ j, j < c → x.testBit j = false) ∧ ∀ i, (x &&& (x - 1)).testBit i = (x.testBit i && decide (i ≠ c)) := by
  intro n
  induction n with
  | zero => intro x h0 h1; simp at h1; omega
  | succ n ih =>
    intro x h0 h1
    have e2 : 2 ^ (n + 1) = 2 * 2 ^ n := by rw [Nat.pow_succ, Nat.mul_comm]
    by_cases odd : x % 2 = 1
    · refine ⟨0, by rw [Nat.testBit_zero]; exact decide_eq_true odd, fun j hj => absurd hj (Nat.not_lt_zero j), fun i => ?_⟩
      cases i with
      | zero => rw [Nat.testBit_and, Nat.testBit_zero, Nat.testBit_zero, decide_eq_false (show ¬ (x - 1) % 2 = 1 by omega), decide_eq_false (show ¬ (0 ≠ 0) from fun z => z rfl)]
      | succ i =>
        rw [Nat.testBit_and, Nat.testBit_succ, Nat.testBit_succ, show (x - 1) / 2 = x / 2 by omega, decide_eq_true (show i + 1 ≠ 0 by omega), Bool.and_self, Bool.and_true]
    · obtain ⟨c, c1, c2, c3⟩ := ih (x / 2) (by omega) (by omega)
      refine ⟨c + 1, by rw [Nat.testBit_succ]; exact c1, fun j hj => ?_, fun i => ?_⟩
      · cases j with
        | zero => rw [Nat.testBit_zero]; exact decide_eq_false odd
        | succ j => rw [Nat.testBit_succ]; exact c2 j (by omega)
      · cases i with
        | zero => rw [Nat.testBit_and, Nat.testBit_zero, decide_eq_false odd]; rfl
        | succ i =>
          have := c3 i
          rw [Nat.testBit_and] at this
          rw [Nat.testBit_and, Nat.testBit_succ, Nat.testBit_succ, show (x - 1) / 2 = x / 2 - 1 by omega, this]
          by_cases e : i = c
          · rw [e, decide_eq_false (fun z => z rfl), decide_eq_false (fun z => z rfl)]
          · rw [decide_eq_true e, decide_eq_true (show i + 1 ≠ c + 1 by omega)]
theorem drop_is {x m : Nat} (hx : x < 65536) (h3 : x.testBit m = true) (h4 : ∀ j, j < m → x.testBit j = false) : x &&& (x - 1) = wo x (2 ^ m) := by
  have h0 : 0 < x := by
    rcases Nat.eq_zero_or_pos x with z | z
    · rw [z, Nat.zero_testBit] at h3; cases h3
    · exact z
  obtain ⟨c, c1, c2, c3⟩ := drop_n 16 x h0 hx
  have e := low_un c1 c2 h3 h4
  subst e
  apply Nat.eq_of_testBit_eq
  intro i
  rw [c3, wo_bit, Nat.testBit_two_pow]
  by_cases e : i = c
  · rw [e]; simp
  · rw [decide_eq_true e, decide_eq_false (fun z => e z.symm)]; rfl
/-- a set as the list of its members, the least first -/
def stL : List Nat → Nat
  | [] => 0
  | m :: ms => 2 ^ m ||| stL ms
def inL (ms : List Nat) : Prop := ms.Pairwise (· < ·) ∧ ∀ x, x ∈ ms → x < 16
theorem stL_bit {c : Nat} : ∀ {ms : List Nat}, (stL ms).testBit c = true ↔ c ∈ ms
  | [] => by
    show (0 : Nat).testBit c = true ↔ _
    rw [Nat.zero_testBit]
    exact ⟨fun z => (by cases z), fun z => (by cases z)⟩
  | m :: ms => by
    show (2 ^ m ||| stL ms).testBit c = true ↔ _
    rw [Nat.testBit_or, Bool.or_eq_true, stL_bit (ms := ms), Nat.testBit_two_pow, decide_eq_true_eq, List.mem_cons]
    constructor
    · rintro (z | z)
      · exact Or.inl z.symm
      · exact Or.inr z
    · rintro (z | z)
      · exact Or.inl z.symm
      · exact Or.inr z
theorem stL_lt : ∀ {ms : List Nat}, inL ms → stL ms < 65536
  | [], _ => by show 0 < 65536; decide
  | m :: ms, hm => Nat.or_lt_two_pow (n := 16) (Nat.pow_lt_pow_right (by decide) (hm.2 m List.mem_cons_self)) (stL_lt ⟨(List.pairwise_cons.mp hm.1).2, fun x hx => hm.2 x (List.mem_cons_of_mem _ hx)⟩)
theorem inL.tl {m : Nat} {ms : List Nat} (hm : inL (m :: ms)) : inL ms := ⟨(List.pairwise_cons.mp hm.1).2, fun x hx => hm.2 x (List.mem_cons_of_mem _ hx)⟩
theorem inL.hd {m : Nat} {ms : List Nat} (hm : inL (m :: ms)) : m < 16 := hm.2 m List.mem_cons_self
theorem stL_hd {m : Nat} {ms : List Nat} : (stL (m :: ms)).testBit m = true := stL_bit.mpr List.mem_cons_self
theorem stL_lo {m : Nat} {ms : List Nat} (hm : inL (m :: ms)) : ∀ j, j < m → (stL (m :: ms)).testBit j = false := fun j hj => by
  cases e : (stL (m :: ms)).testBit j with
  | false => rfl
  | true =>
    rcases List.mem_cons.mp (stL_bit.mp e) with z | z
    · omega
    · have := (List.pairwise_cons.mp hm.1).1 j z
      omega
theorem x_least {m : Nat} {ms : List Nat} {R : qRes} (hm : inL (m :: ms)) : qMC (d + 2) 178 [.int (iN (stL (m :: ms)))] h R ↔ R = (some (.int (iN m)), h) := x_leastOf (stL_lt hm) stL_hd (stL_lo hm)
theorem stL_pos {m : Nat} {ms : List Nat} : 0 < stL (m :: ms) := by
  rcases Nat.eq_zero_or_pos (stL (m :: ms)) with z | z
  · have := stL_hd (m := m) (ms := ms)
    rw [z, Nat.zero_testBit] at this; cases this
  · exact z
theorem stL_wo {m : Nat} {ms : List Nat} (hm : inL (m :: ms)) : wo (stL (m :: ms)) (2 ^ m) = stL ms := by
  apply Nat.eq_of_testBit_eq
  intro i
  rw [wo_bit, Nat.testBit_two_pow]
  show ((2 ^ m ||| stL ms).testBit i && _) = _
  rw [Nat.testBit_or, Nat.testBit_two_pow]
  by_cases e : m = i
  · rw [decide_eq_true e]
    have : ¬ (stL ms).testBit i = true := fun z => by
      have := (List.pairwise_cons.mp hm.1).1 i (stL_bit.mp z)
      omega
    cases q : (stL ms).testBit i with
    | false => rfl
    | true => exact absurd q this
  · rw [decide_eq_false e]; simp
theorem stL_drop {m : Nat} {ms : List Nat} (hm : inL (m :: ms)) : iN (stL (m :: ms)) &&& (iN (stL (m :: ms)) - iN 1) = iN (stL ms) := by
  have := stL_pos (m := m) (ms := ms)
  rw [iN_sub (by omega), iN_and, drop_is (stL_lt hm) stL_hd (stL_lo hm), stL_wo hm]
theorem stL_low {m : Nat} {ms : List Nat} (hm : inL (m :: ms)) : iN (stL (m :: ms)) &&& -iN (stL (m :: ms)) = iN (2 ^ m) := by
  have := stL_lt hm
  rw [iN_low (by omega), low_is (stL_lt hm) stL_hd (stL_lo hm)]
theorem stL_ne {m : Nat} {ms : List Nat} (hm : inL (m :: ms)) : (iN (stL (m :: ms)) = iN 0) ↔ False := by
  have := stL_lt hm
  have := stL_pos (m := m) (ms := ms)
  rw [iN_eq (by omega) (by omega)]
  exact ⟨fun z => by omega, False.elim⟩
theorem stL_nil : (iN (stL []) = iN 0) ↔ True := ⟨fun _ => trivial, fun _ => rfl⟩
def mems (x : Nat) : List Nat := pickN (fun c => x.testBit c) 16
theorem pickN_inL {p : Nat → Bool} : ∀ n, n ≤ 16 → inL (pickN p n)
  | 0, _ => ⟨List.Pairwise.nil, fun x hx => by cases hx⟩
  | n + 1, hn => by
    obtain ⟨h1, h2⟩ := pickN_inL (p := p) n (by omega)
    refine ⟨?_, fun x hx => by have := (pickN_mem.mp hx).1; omega⟩
    rw [pickN]
    split
    · rw [List.pairwise_append]
      exact ⟨h1, List.pairwise_singleton _ _, fun a ha b hb => by rw [List.mem_singleton.mp hb]; exact (pickN_mem.mp ha).1⟩
    · exact h1
theorem mems_in (x : Nat) : inL (mems x) := pickN_inL 16 (Nat.le_refl _)
theorem mem_mems {x c : Nat} (hx : x < 65536) : c ∈ mems x ↔ x.testBit c = true := by
  unfold mems
  rw [pickN_mem]
  exact ⟨fun z => z.2, fun z => ⟨bit16 hx z, z⟩⟩
theorem stL_mems {x : Nat} (hx : x < 65536) : stL (mems x) = x := by
  apply Nat.eq_of_testBit_eq
  intro i
  rw [Bool.eq_iff_iff, stL_bit, mem_mems hx]
end XBITS

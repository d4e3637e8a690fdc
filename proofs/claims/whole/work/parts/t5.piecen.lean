/-! ===== PIECES, PURE: all sets of two, of three ===== -/
section PIECEN
def ch2 : Nat → Nat
  | 0 => 0
  | a + 1 => ch2 a + a
def ch3 : Nat → Nat
  | 0 => 0
  | a + 1 => ch3 a + ch2 a
theorem ch2_le : ∀ {b a : Nat}, a ≤ b → ch2 a ≤ ch2 b
  | 0, a, h => by rw [show a = 0 by omega]; exact Nat.le_refl _
  | b + 1, a, h => by
    by_cases e : a = b + 1
    · rw [e]; exact Nat.le_refl _
    · have := ch2_le (b := b) (a := a) (by omega)
      rw [ch2]; omega
theorem ch3_le : ∀ {b a : Nat}, a ≤ b → ch3 a ≤ ch3 b
  | 0, a, h => by rw [show a = 0 by omega]; exact Nat.le_refl _
  | b + 1, a, h => by
    by_cases e : a = b + 1
    · rw [e]; exact Nat.le_refl _
    · have := ch3_le (b := b) (a := a) (by omega)
      rw [ch3]; omega
/-- corners but 0 -/
def no0 (t j : Nat) : Bool := t.testBit j && decide (j ≠ 0)
def D2 (t n : Nat) : Nat := sumN (fun j => sumN (fun i => if (q2 i j t && decide (i ≠ 0)) then 1 else 0) j) n
def D3 (t n : Nat) : Nat := sumN (fun k => sumN (fun j => sumN (fun i => if (q3 i j k t && decide (i ≠ 0)) then 1 else 0) j) k) n
theorem D2_in {t j : Nat} : ∀ n, sumN (fun i => if (q2 i j t && decide (i ≠ 0)) then 1 else 0) n = if t.testBit j then cntN (no0 t) n else 0 := by
  intro n
  cases e : t.testBit j with
  | true =>
    rw [if_pos rfl, cntN_sum]
    refine sumN_ext fun i _ => ?_
    unfold q2 no0
    rw [e, Bool.and_true]
  | false =>
    rw [if_neg (by decide)]
    refine sumN_0 fun i _ => ?_
    unfold q2
    rw [e, Bool.and_false, Bool.false_and]; rfl
theorem D2_ch {t : Nat} : ∀ n, D2 t n = ch2 (cntN (no0 t) n)
  | 0 => rfl
  | n + 1 => by
    show D2 t n + sumN (fun i => if (q2 i n t && decide (i ≠ 0)) then 1 else 0) n = _
    rw [D2_ch n, D2_in, cntN]
    unfold no0
    cases e : t.testBit n with
    | false => rfl
    | true =>
      by_cases z : n = 0
      · subst z; rfl
      · rw [if_pos rfl, decide_eq_true z]; rfl
theorem D3_in {t k : Nat} : ∀ n, sumN (fun j => sumN (fun i => if (q3 i j k t && decide (i ≠ 0)) then 1 else 0) j) n = if t.testBit k then D2 t n else 0 := by
  intro n
  cases e : t.testBit k with
  | true =>
    rw [if_pos rfl]
    unfold D2
    refine sumN_ext fun j _ => sumN_ext fun i _ => ?_
    unfold q2 q3
    rw [e, Bool.and_true]
  | false =>
    rw [if_neg (by decide)]
    refine sumN_0 fun j _ => sumN_0 fun i _ => ?_
    unfold q3
    rw [e, Bool.and_false, Bool.and_false, Bool.false_and]; rfl
theorem D3_ch {t : Nat} : ∀ n, D3 t n = ch3 (cntN (no0 t) n)
  | 0 => rfl
  | n + 1 => by
    show D3 t n + sumN (fun j => sumN (fun i => if (q3 i j n t && decide (i ≠ 0)) then 1 else 0) j) n = _
    rw [D3_ch n, D3_in, cntN, D2_ch]
    unfold no0
    cases e : t.testBit n with
    | false => rfl
    | true =>
      by_cases z : n = 0
      · subst z; rfl
      · rw [if_pos rfl, decide_eq_true z]; rfl
theorem sum_sumN {f : Nat → Nat → Nat} {n : Nat} : ∀ {L : List Nat}, (L.map fun t => sumN (f t) n).sum = sumN (fun i => (L.map fun t => f t i).sum) n
  | [] => (sumN_0 fun _ _ => rfl).symm
  | a :: L => by
    rw [List.map_cons, List.sum_cons, sum_sumN (L := L), ← sumN_add]
    refine sumN_ext fun i _ => ?_
    rw [List.map_cons, List.sum_cons]
theorem sum_ind {p : Nat → Bool} : ∀ {L : List Nat}, (L.map fun t => if p t then 1 else 0).sum = L.countP p
  | [] => rfl
  | a :: L => by rw [List.map_cons, List.sum_cons, sum_ind (L := L), List.countP_cons, Nat.add_comm]
theorem sum_lb {f : Nat → Nat} {c : Nat} : ∀ {L : List Nat}, (∀ t, t ∈ L → c ≤ f t) → c * L.length ≤ (L.map f).sum
  | [], _ => Nat.zero_le _
  | a :: L, h => by
    rw [List.map_cons, List.sum_cons, List.length_cons, Nat.mul_add, Nat.mul_one, Nat.add_comm]
    exact Nat.add_le_add (h a List.mem_cons_self) (sum_lb fun t ht => h t (List.mem_cons_of_mem _ ht))
theorem no0_pop {t c : Nat} (ht : t < 65536) (hp : pop t 24 = c + 1) : c ≤ cntN (no0 t) 16 := by
  have h1 : pop t 24 = pop t 16 := cntN_cut (by decide) fun k h1 _ h3 => by have := bit16 ht h3; omega
  have h2 := cntN_minus (p := fun k => t.testBit k) (n := 16) (v := 0)
  have h3 : pop t 16 = cntN (fun k => t.testBit k) 16 := rfl
  have h4 : cntN (fun u => t.testBit u && decide (u ≠ 0)) 16 = cntN (no0 t) 16 := rfl
  omega
theorem all_3 {L : List Nat} (h : ∀ i j k, 0 < i → i < j → j < k → L.countP (q3 i j k) ≤ 2) (hp : ∀ t, t ∈ L → t < 65536 ∧ pop t 24 = 5) : L.length ≤ 227 := by
  have a1 : 4 * L.length ≤ (L.map fun t => D3 t 16).sum := sum_lb fun t ht => by
    obtain ⟨h1, h2⟩ := hp t ht
    rw [D3_ch]
    exact ch3_le (a := 4) (no0_pop h1 h2)
  have a2 : (L.map fun t => D3 t 16).sum ≤ sumN (fun k => sumN (fun j => sumN (fun i => 2 * (if (q3 i j k 65535 && decide (i ≠ 0)) then 1 else 0)) j) k) 16 := by
    unfold D3
    rw [sum_sumN]
    refine sumN_le fun k hk => ?_
    rw [sum_sumN]
    refine sumN_le fun j hj => ?_
    rw [sum_sumN]
    refine sumN_le fun i hi => ?_
    rw [sum_ind]
    have fl : ∀ b, b < 16 → (65535 : Nat).testBit b = true := by decide
    by_cases z : i = 0
    · subst z
      rw [List.countP_eq_zero.mpr fun t _ => by rw [decide_eq_false (by omega), Bool.and_false]; exact Bool.false_ne_true]
      exact Nat.zero_le _
    · unfold q3
      rw [fl i (by omega), fl j (by omega), fl k hk, decide_eq_true z]
      refine Nat.le_trans (Nat.le_of_eq ?_) (h i j k (by omega) hi hj)
      exact cnt_ext fun t _ => by unfold q3; rw [Bool.and_true]
  have a3 : sumN (fun k => sumN (fun j => sumN (fun i => 2 * (if (q3 i j k 65535 && decide (i ≠ 0)) then 1 else 0)) j) k) 16 = 2 * D3 65535 16 := by
    unfold D3
    rw [← sumN_mul]
    refine sumN_ext fun k _ => ?_
    rw [← sumN_mul]
    refine sumN_ext fun j _ => ?_
    rw [← sumN_mul]
  have a4 : D3 65535 16 = 455 := by rw [D3_ch]; decide
  omega
theorem all_2 {L : List Nat} (h : ∀ i j, 0 < i → i < j → L.countP (q2 i j) ≤ 4) (hp : ∀ t, t ∈ L → t < 65536 ∧ pop t 24 = 4) : L.length ≤ 140 := by
  have a1 : 3 * L.length ≤ (L.map fun t => D2 t 16).sum := sum_lb fun t ht => by
    obtain ⟨h1, h2⟩ := hp t ht
    rw [D2_ch]
    exact ch2_le (a := 3) (no0_pop h1 h2)
  have a2 : (L.map fun t => D2 t 16).sum ≤ sumN (fun j => sumN (fun i => 4 * (if (q2 i j 65535 && decide (i ≠ 0)) then 1 else 0)) j) 16 := by
    unfold D2
    rw [sum_sumN]
    refine sumN_le fun j hj => ?_
    rw [sum_sumN]
    refine sumN_le fun i hi => ?_
    rw [sum_ind]
    have fl : ∀ b, b < 16 → (65535 : Nat).testBit b = true := by decide
    by_cases z : i = 0
    · subst z
      rw [List.countP_eq_zero.mpr fun t _ => by rw [decide_eq_false (by omega), Bool.and_false]; exact Bool.false_ne_true]
      exact Nat.zero_le _
    · unfold q2
      rw [fl i (by omega), fl j hj, decide_eq_true z]
      refine Nat.le_trans (Nat.le_of_eq ?_) (h i j (by omega) hi)
      exact cnt_ext fun t _ => by unfold q2; rw [Bool.and_true]
  have a3 : sumN (fun j => sumN (fun i => 4 * (if (q2 i j 65535 && decide (i ≠ 0)) then 1 else 0)) j) 16 = 4 * D2 65535 16 := by
    unfold D2
    rw [← sumN_mul]
    refine sumN_ext fun j _ => ?_
    rw [← sumN_mul]
  have a4 : D2 65535 16 = 105 := by rw [D2_ch]; decide
  omega
end PIECEN

/-! ===== the lowest member; pieces have a corner more than the body's dimension ===== -/
section LOW
variable {d : Nat} {h : qH} {bs : List bdy} {i : Nat}
theorem low_n : ∀ (n x : Nat), 0 < x → x < 2 ^ n → ∃ c, x.testBit c = true ∧ (∀ j, j < c → x.testBit j = false) ∧ ∀ i, (x &&& (2 ^ n - x)).testBit i = decide (i = c) := by
  intro n
  induction n with
  | zero => intro x h0 h1; simp at h1; omega
  | succ n ih =>
    intro x h0 h1
    have e2 : 2 ^ (n + 1) = 2 * 2 ^ n := by rw [Nat.pow_succ, Nat.mul_comm]
    have hp := Nat.two_pow_pos n
    by_cases odd : x % 2 = 1
    · refine ⟨0, by rw [Nat.testBit_zero]; exact decide_eq_true odd, fun j hj => absurd hj (Nat.not_lt_zero j), fun i => ?_⟩
      cases i with
      | zero => rw [Nat.testBit_and, Nat.testBit_zero, Nat.testBit_zero, decide_eq_true odd, decide_eq_true (show (2 ^ (n + 1) - x) % 2 = 1 by omega)]; rfl
      | succ i =>
        rw [Nat.testBit_and, Nat.testBit_succ, Nat.testBit_succ, show (2 ^ (n + 1) - x) / 2 = 2 ^ n - (x / 2 + 1) by omega, Nat.testBit_two_pow_sub_succ (show x / 2 < 2 ^ n by omega)]
        cases (x / 2).testBit i <;> simp
    · obtain ⟨c, c1, c2, c3⟩ := ih (x / 2) (by omega) (by omega)
      refine ⟨c + 1, by rw [Nat.testBit_succ]; exact c1, fun j hj => ?_, fun i => ?_⟩
      · cases j with
        | zero => rw [Nat.testBit_zero]; exact decide_eq_false odd
        | succ j => rw [Nat.testBit_succ]; exact c2 j (by omega)
      · cases i with
        | zero => rw [Nat.testBit_and, Nat.testBit_zero, decide_eq_false odd]; rfl
        | succ i =>
          have := c3 i
          rw [Nat.testBit_and] at this
          rw [Nat.testBit_and, Nat.testBit_succ, Nat.testBit_succ, show (2 ^ (n + 1) - x) / 2 = 2 ^ n - x / 2 by omega, this]
          by_cases e : i = c
          · rw [e, decide_eq_true rfl, decide_eq_true rfl]
          · rw [decide_eq_false e, decide_eq_false (by omega)]
theorem low_spec {x : Nat} (h0 : 0 < x) (hx : x < 65536) : ∃ c, x.testBit c = true ∧ (∀ j, j < c → x.testBit j = false) ∧ low x = 2 ^ c := by
  obtain ⟨c, c1, c2, c3⟩ := low_n 32 x h0 (by omega)
  refine ⟨c, c1, c2, Nat.eq_of_testBit_eq fun i => ?_⟩
  rw [Nat.testBit_two_pow]
  refine (c3 i).trans ?_
  by_cases e : i = c
  · rw [decide_eq_true e, decide_eq_true e.symm]
  · rw [decide_eq_false e, decide_eq_false fun z => e z.symm]
/-- apart -/
def dj (x u : Nat) : Prop := ∀ c, ¬ (x.testBit c = true ∧ u.testBit c = true)
theorem pop_or : ∀ {n x u : Nat}, dj x u → pop (x ||| u) n = pop x n + pop u n
  | 0, _, _, _ => rfl
  | n + 1, x, u, hd => by
    rw [pop_s, pop_s, pop_s, pop_or hd, Nat.testBit_or]
    have := hd n
    cases q1 : x.testBit n with
    | true =>
      cases q2 : u.testBit n with
      | true => exact absurd ⟨q1, q2⟩ this
      | false => simp; omega
    | false =>
      cases q2 : u.testBit n with
      | true => simp; omega
      | false => simp
theorem pop_one {c n : Nat} (hc : c < n) : pop (2 ^ c) n = 1 := by
  have h1 : 0 < pop (2 ^ c) n := cntN_pos.mpr ⟨c, hc, Nat.testBit_two_pow_self⟩
  have h2 : pop (2 ^ c) n ≤ 1 := cntN_le1 fun a b hab _ hh => by
    have h3 := hh.1
    have h4 := hh.2
    rw [Nat.testBit_two_pow] at h3 h4
    have := of_decide_eq_true h3
    have := of_decide_eq_true h4
    omega
  omega
theorem pcs_pop (hne : ∀ k y, y ∈ cel bs i k → 0 < y ∧ y < 65536) (two : ∀ y, y ∈ cel bs i 1 → pop y 24 = 2) : ∀ (k x u : Nat), 0 < x → x < 65536 → u < 65536 → dj x u → (k = 0 → pop x 24 = 2) → ∀ y, y ∈ pcs bs i (k + 1) x u → pop y 24 = k + 2 + pop u 24 ∧ ∀ c, y.testBit c = true → x.testBit c = true ∨ u.testBit c = true := by
  intro k
  induction k with
  | zero =>
    intro x u h0 hx hu hd h2 y hy
    rw [pcs, if_pos (h2 rfl), List.mem_singleton] at hy
    rw [hy, pop_or hd, h2 rfl]
    exact ⟨rfl, fun c hc => by rw [Nat.testBit_or, Bool.or_eq_true] at hc; exact hc⟩
  | succ k ih =>
    intro x u h0 hx hu hd h2 y hy
    rw [pcs] at hy
    by_cases q : pop x 24 = k + 1 + 2
    · rw [if_pos q, List.mem_singleton] at hy
      rw [hy, pop_or hd, q]
      exact ⟨rfl, fun c hc => by rw [Nat.testBit_or, Bool.or_eq_true] at hc; exact hc⟩
    · rw [if_neg q, List.mem_flatMap] at hy
      obtain ⟨z, hz, hy⟩ := hy
      obtain ⟨z1, z2⟩ := List.mem_filter.mp hz
      unfold blwB at z2
      rw [Bool.and_eq_true, decide_eq_true_eq, decide_eq_true_eq] at z2
      obtain ⟨c, c1, c2, c3⟩ := low_spec h0 hx
      obtain ⟨n1, n2⟩ := hne (k + 1) z z1
      have zx : ∀ b, z.testBit b = true → x.testBit b = true := fun b hb => by
        have := wo_bit z x b
        rw [z2.1, Nat.zero_testBit, hb] at this
        cases e : x.testBit b with
        | true => rfl
        | false => rw [e] at this; cases this
      have zc : z.testBit c = false := by
        cases e : z.testBit c with
        | false => rfl
        | true =>
          have : (z &&& low x).testBit c = true := by rw [Nat.testBit_and, e, c3, Nat.testBit_two_pow_self]; rfl
          rw [z2.2, Nat.zero_testBit] at this
          cases this
      have cu : u.testBit c = false := by
        cases e : u.testBit c with
        | false => rfl
        | true => exact absurd ⟨c1, e⟩ (hd c)
      have lb : ∀ b, (low x).testBit b = true → b = c := fun b hb => by
        rw [c3, Nat.testBit_two_pow] at hb
        exact (of_decide_eq_true hb).symm
      have ul : u ||| low x < 65536 := Nat.or_lt_two_pow (n := 16) hu (show low x < 2 ^ 16 by have := low_le (x := x); omega)
      have dz : dj z (u ||| low x) := fun b hb => by
        obtain ⟨b1, b2⟩ := hb
        rw [Nat.testBit_or, Bool.or_eq_true] at b2
        rcases b2 with b2 | b2
        · exact hd b ⟨zx b b1, b2⟩
        · rw [lb b b2, zc] at b1; cases b1
      have c16 : c < 24 := by have := bit16 hx c1; omega
      have pu : pop (u ||| low x) 24 = pop u 24 + 1 := by
        rw [pop_or (fun b hb => by rw [lb b hb.2, cu] at hb; exact Bool.false_ne_true hb.1), c3, pop_one c16]
      obtain ⟨r1, r2⟩ := ih z (u ||| low x) n1 n2 ul dz (fun e => by rw [e] at z1; exact two z z1) y hy
      rw [pu] at r1
      refine ⟨by omega, fun b hb => ?_⟩
      rcases r2 b hb with w | w
      · exact Or.inl (zx b w)
      · rw [Nat.testBit_or, Bool.or_eq_true] at w
        rcases w with w | w
        · exact Or.inr w
        · rw [lb b w]; exact Or.inl c1
end LOW

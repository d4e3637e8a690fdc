/-! ===== THE CLASS: the first ring ===== -/
section XRINGOF
variable {d : Nat} {h : qH} {bs : List bdy} {sa : Nat → Nat} {R : qRes}
theorem pop_inR {adj : Nat → Nat → Bool} {n : Nat} {r : Nat → Nat} : ∀ {k : Nat}, vpR adj n r k → pop (mask (inR r k) n) n = k
  | 0, _ => by
    have : mask (inR r 0) n = 0 := by
      apply Nat.eq_of_testBit_eq
      intro i
      rw [mask_bit, Nat.zero_testBit]
      show (_ && anyN _ 0) = false
      rw [show anyN (fun j => decide (r j = i)) 0 = false from rfl, Bool.and_false]
    rw [this]
    have : ∀ m, pop 0 m = 0 := by
      intro m
      induction m with
      | zero => rfl
      | succ m ih => rw [pop_s, ih, Nat.zero_testBit]; rfl
    exact this n
  | k + 1, v => by
    have v' : vpR adj n r k := ⟨v.1, fun j hj => v.2.1 j (by omega), fun i j hij hj => v.2.2.1 i j hij (by omega), fun j hj => v.2.2.2 j (by omega)⟩
    have rk := v.2.1 k (by omega)
    have e : mask (inR r k) n ||| 2 ^ r k = mask (inR r (k + 1)) n := by
      have := inM_upd (n := n) (r := r) (k := k) (c := r k)
      rw [if_pos rk] at this
      rw [this]
      congr 2
      funext j
      unfold updR
      by_cases z : j = k
      · rw [if_pos z, z]
      · rw [if_neg z]
    rw [← e, pop_add rk, pop_inR v']
    rw [mask_bit, decide_eq_true rk, Bool.true_and]
    cases z : inR r k (r k) with
    | false => rfl
    | true =>
      obtain ⟨j, hj, ej⟩ := inR_iff.mp z
      exact absurd ej (v.2.2.1 j k hj (by omega))
theorem inR_0 {adj : Nat → Nat → Bool} {n : Nat} {r : Nat → Nat} (hn : 1 ≤ n) (h0 : r 0 = 0) : mask (inR r 1) n = 1 := by
  symm
  refine mask_eq (Nat.one_lt_two_pow (by omega)) fun k _ => ?_
  show (2 ^ 0).testBit k = (false || decide (r 0 = k))
  rw [Nat.testBit_two_pow, h0, Bool.false_or]
/-- ways that are the first that can be ended, so far -/
def rpS (adj : Nat → Nat → Bool) (n : Nat) (q : Nat → Nat) (k : Nat) : Prop := vpR adj n q k ∧ finB adj n (n - k) (mask (inR q k) n) (q (k - 1)) = true ∧ ∀ j, 1 ≤ j → j < k → ∀ c, c < q j → okN adj q j c = true → finB adj n (n - j - 1) (mask (inR q j) n ||| 2 ^ c) c = false
/-- one more -/
theorem rp_step {adj : Nat → Nat → Bool} {n k : Nat} {q : Nat → Nat} (hk : 1 ≤ k) (hkn : k < n) (v : rpS adj n q k) : ∃ c, c < n ∧ (gnM adj n (mask (inR q k) n) (q (k - 1))).testBit c = true ∧ (∀ j, j < c → (gnM adj n (mask (inR q k) n) (q (k - 1))).testBit j = false) ∧ rpS adj n (updR q k c) (k + 1) ∧ (mask (inR q k) n).testBit c = false := by
  obtain ⟨v1, v2, v3⟩ := v
  have pp := pop_inR v1
  have nz := (gn_some (adj := adj) (n := n) (S := mask (inR q k) n) (l := q (k - 1)) (by rw [pp]; exact hkn)).mpr (by rw [pp]; exact v2)
  obtain ⟨c, c1, c2, -⟩ := low_n n (gnM adj n (mask (inR q k) n) (q (k - 1))) (by omega) (mask_lt _ n)
  have cn : c < n := by
    rcases Nat.lt_or_ge c n with z | z
    · exact z
    · unfold gnM at c1
      rw [mask_bit, decide_eq_false (by omega)] at c1; cases c1
  have bt : ∀ b, b < n → (gnM adj n (mask (inR q k) n) (q (k - 1))).testBit b = (okN adj q k b && finB adj n (n - k - 1) (mask (inR q k) n ||| 2 ^ b) b) := fun b hb => by
    unfold gnM okN
    rw [mask_bit, decide_eq_true hb, Bool.true_and, pp, mask_bit, decide_eq_true hb, Bool.true_and, Bool.and_comm (adj (q (k - 1)) b)]
  have h1 := c1
  rw [bt c cn, Bool.and_eq_true] at h1
  have cs : (mask (inR q k) n).testBit c = false := by
    have := h1.1
    unfold okN at this
    rw [Bool.and_eq_true] at this
    rw [mask_bit, decide_eq_true cn, Bool.true_and]
    cases z : inR q k c with
    | false => rfl
    | true => rw [z] at this; cases this.1
  have ue : ∀ j, j < k → updR q k c j = q j := fun j hj => if_neg (by omega)
  have uk : updR q k c k = c := if_pos rfl
  have im : ∀ j, j ≤ k → mask (inR (updR q k c) j) n = mask (inR q j) n := fun j hj => mask_ext fun b _ => by
    rw [Bool.eq_iff_iff, inR_iff, inR_iff]
    constructor
    · rintro ⟨t, t1, t2⟩; exact ⟨t, t1, by rw [← ue t (by omega)]; exact t2⟩
    · rintro ⟨t, t1, t2⟩; exact ⟨t, t1, by rw [ue t (by omega)]; exact t2⟩
  have ok : ∀ j b, 1 ≤ j → j ≤ k → okN adj (updR q k c) j b = okN adj q j b := fun j b hj1 hj => by
    unfold okN
    rw [ue (j - 1) (by omega)]
    congr 2
    rw [Bool.eq_iff_iff, inR_iff, inR_iff]
    constructor
    · rintro ⟨t, t1, t2⟩; exact ⟨t, t1, by rw [← ue t (by omega)]; exact t2⟩
    · rintro ⟨t, t1, t2⟩; exact ⟨t, t1, by rw [ue t (by omega)]; exact t2⟩
  refine ⟨c, cn, c1, c2, ⟨vpR_up v1 hk cn h1.1, ?_, fun j hj1 hj b hb ho => ?_⟩, cs⟩
  · rw [show k + 1 - 1 = k by omega, uk, ← inM_upd, if_pos cn, show n - (k + 1) = n - k - 1 by omega]
    exact h1.2
  · rcases Nat.lt_or_ge j k with z | z
    · rw [ue j z] at hb
      rw [ok j b hj1 (by omega)] at ho
      rw [im j (by omega)]
      exact v3 j hj1 z b hb ho
    · have ej : j = k := by omega
      subst ej
      rw [uk] at hb
      rw [ok j b hj1 (Nat.le_refl _)] at ho
      rw [im j (Nat.le_refl _)]
      have := c2 b hb
      rw [bt b (by omega), ho, Bool.true_and] at this
      exact this
/-- at the end -/
theorem rp_end {adj : Nat → Nat → Bool} {n : Nat} {q : Nat → Nat} (hn : 1 ≤ n) (v : rpS adj n q n) : fstR adj n q := by
  obtain ⟨v1, v2, v3⟩ := v
  rw [Nat.sub_self] at v2
  exact fst_of ⟨v1, v2⟩ fun k k1 k2 c hc ho => v3 k k1 k2 c hc ho
theorem rp_0 {adj : Nat → Nat → Bool} {n : Nat} (hn : 1 ≤ n) : (∃ q, hamR adj n q) ↔ finB adj n (n - 1) 1 0 = true := by
  have v : vpR adj n (fun _ => 0) 1 := ⟨rfl, fun j _ => by show 0 < n; omega, fun i j hij hj => by omega, fun j hj => by omega⟩
  have := fin_iff (n - 1) 1 (fun _ => 0) (by omega) (Nat.le_refl _) v
  rw [inR_0 (adj := adj) hn rfl] at this
  rw [this]
  exact ⟨fun ⟨q, hq⟩ => ⟨q, hq, fun j hj => by rw [show j = 0 by omega]; exact hq.1.1⟩, fun ⟨q, hq, _⟩ => ⟨q, hq⟩⟩
end XRINGOF

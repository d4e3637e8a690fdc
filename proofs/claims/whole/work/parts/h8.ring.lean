/-! ===== THE CLASS: rings, what the table says ===== -/
section XRING
variable {adj : Nat → Nat → Bool} {n : Nat}
/-- from l the rest can be walked, w of them, and ended beside 0 -/
def finB (adj : Nat → Nat → Bool) (n : Nat) : Nat → Nat → Nat → Bool
  | 0, _, l => adj l 0
  | w + 1, S, l => anyN (fun c => !S.testBit c && adj l c && finB adj n w (S ||| 2 ^ c) c) n
theorem vpR_up {r : Nat → Nat} {k c : Nat} (v : vpR adj n r k) (hk : 1 ≤ k) (hc : c < n) (ho : okN adj r k c = true) : vpR adj n (updR r k c) (k + 1) := by
  unfold okN at ho
  rw [Bool.and_eq_true] at ho
  obtain ⟨v1, v2, v3, v4⟩ := v
  have ne : ∀ j, j < k → r j ≠ c := fun j hj e => by
    have : inR r k c = true := inR_iff.mpr ⟨j, hj, e⟩
    rw [this] at ho; cases ho.1
  have a1 : ∀ j, j < k → updR r k c j = r j := fun j hj => if_neg (by omega)
  have a2 : updR r k c k = c := if_pos rfl
  refine ⟨by rw [a1 0 (by omega)]; exact v1, fun j hj => ?_, fun i j hij hj => ?_, fun j hj => ?_⟩
  · rcases Nat.lt_or_ge j k with z | z
    · rw [a1 j z]; exact v2 j z
    · rw [show j = k by omega, a2]; exact hc
  · rcases Nat.lt_or_ge j k with z | z
    · rw [a1 j z, a1 i (by omega)]; exact v3 i j hij z
    · rw [show j = k by omega, a2, a1 i (by omega)]; exact ne i (by omega)
  · rcases Nat.lt_or_ge (j + 1) k with z | z
    · rw [a1 j (by omega), a1 (j + 1) z]; exact v4 j z
    · rw [show j = k - 1 by omega, a1 (k - 1) (by omega), show k - 1 + 1 = k by omega, a2]; exact ho.2
theorem inM_upd {r : Nat → Nat} {k c : Nat} : mask (inR r k) n ||| (if c < n then 2 ^ c else 0) = mask (inR (updR r k c) (k + 1)) n := by
  apply Nat.eq_of_testBit_eq
  intro b
  have e : inR (updR r k c) (k + 1) b = (inR r k b || decide (c = b)) := by
    unfold inR
    rw [anyN]
    congr 1
    · have : ∀ m, m ≤ k → anyN (fun j => decide (updR r k c j = b)) m = anyN (fun j => decide (r j = b)) m := by
        intro m
        induction m with
        | zero => exact fun _ => rfl
        | succ m ih =>
          intro hm
          rw [anyN, anyN, ih (by omega), show updR r k c m = r m from if_neg (by omega)]
      exact this k (Nat.le_refl _)
    · rw [show updR r k c k = c from if_pos rfl]
  rw [Nat.testBit_or, mask_bit, mask_bit, e]
  by_cases hc : c < n
  · rw [if_pos hc, Nat.testBit_two_pow]
    by_cases hb : b < n
    · rw [decide_eq_true hb, Bool.true_and, Bool.true_and]
    · rw [decide_eq_false hb, decide_eq_false (show ¬ c = b by omega)]; rfl
  · rw [if_neg hc, Nat.zero_testBit, Bool.or_false]
    by_cases hb : b < n
    · rw [decide_eq_true hb, decide_eq_false (show ¬ c = b by omega), Bool.or_false]
    · rw [decide_eq_false hb]; rfl
/-- a way can be ended as a ring -/
theorem fin_iff : ∀ (w k : Nat) (r : Nat → Nat), k + w = n → 1 ≤ k → vpR adj n r k → (finB adj n w (mask (inR r k) n) (r (k - 1)) = true ↔ ∃ q, hamR adj n q ∧ ∀ j, j < k → q j = r j)
  | 0, k, r, hk, h1, v => by
    have e : k = n := by omega
    subst e
    show adj (r (k - 1)) 0 = true ↔ _
    constructor
    · intro z
      exact ⟨r, ⟨v, z⟩, fun _ _ => rfl⟩
    · rintro ⟨q, ⟨-, q2⟩, q3⟩
      rw [← q3 (k - 1) (by omega)]; exact q2
  | w + 1, k, r, hk, h1, v => by
    show anyN _ n = true ↔ _
    rw [anyN_iff]
    have bt : ∀ c, c < n → (mask (inR r k) n).testBit c = inR r k c := fun c hc => by rw [mask_bit, decide_eq_true hc, Bool.true_and]
    have key : ∀ c, c < n → okN adj r k c = true → (finB adj n w (mask (inR r k) n ||| 2 ^ c) c = true ↔ ∃ q, hamR adj n q ∧ ∀ j, j < k + 1 → q j = updR r k c j) := fun c hc ho => by
      have := fin_iff w (k + 1) (updR r k c) (by omega) (by omega) (vpR_up v h1 hc ho)
      rw [← inM_upd, if_pos hc, show k + 1 - 1 = k by omega, show updR r k c k = c from if_pos rfl] at this
      exact this
    constructor
    · rintro ⟨c, hc, hb⟩
      rw [bt c hc, Bool.and_eq_true, show (!inR r k c && adj (r (k - 1)) c) = okN adj r k c from rfl] at hb
      obtain ⟨q, q1, q2⟩ := (key c hc hb.1).mp hb.2
      exact ⟨q, q1, fun j hj => by rw [q2 j (by omega)]; exact if_neg (by omega)⟩
    · rintro ⟨q, q1, q2⟩
      have hq : q k < n := q1.1.2.1 k (by omega)
      have ho : okN adj r k (q k) = true := by
        cases e : okN adj r k (q k) with
        | true => rfl
        | false => exact absurd ⟨q, q1, q2, rfl⟩ (noR_not h1 (by omega) e)
      refine ⟨q k, hq, ?_⟩
      rw [bt _ hq, Bool.and_eq_true, show (!inR r k (q k) && adj (r (k - 1)) (q k)) = okN adj r k (q k) from rfl]
      refine ⟨ho, (key (q k) hq ho).mpr ⟨q, q1, fun j hj => ?_⟩⟩
      rcases Nat.lt_or_ge j k with z | z
      · rw [q2 j z]; exact (if_neg (by omega)).symm
      · rw [show j = k by omega]; exact (if_pos rfl).symm
theorem adj_sym {es : List Nat} {a b : Nat} : adjB es a b = adjB es b a := by
  unfold adjB
  rw [Nat.or_comm]
  congr 1
  exact decide_eq_decide.mpr ⟨fun z e => z e.symm, fun z e => z e.symm⟩
/-- the first of a ring: chosen one by one -/
theorem fst_of {q : Nat → Nat} (hq : hamR adj n q) (hl : ∀ k, 1 ≤ k → k < n → ∀ c, c < q k → okN adj q k c = true → finB adj n (n - k - 1) (mask (inR q k) n ||| 2 ^ c) c = false) : fstR adj n q := by
  refine ⟨hq, fun j hj hjn c hc _ => ?_⟩
  cases e : okN adj q j c with
  | false => exact noR_not hj hjn e
  | true =>
    have cn : c < n := Nat.lt_trans hc (hq.1.2.1 j hjn)
    have vj : vpR adj n q j := ⟨hq.1.1, fun i hi' => hq.1.2.1 i (by omega), fun a b hab hb => hq.1.2.2.1 a b hab (by omega), fun i hi' => hq.1.2.2.2 i (by omega)⟩
    rintro ⟨p, p1, p2, p3⟩
    have := (fin_iff (n - j - 1) (j + 1) (updR q j c) (by omega) (by omega) (vpR_up vj hj cn e)).mpr ⟨p, p1, fun i hi' => by
      rcases Nat.lt_or_ge i j with z | z
      · rw [p2 i z]; exact (if_neg (by omega)).symm
      · rw [show i = j by omega, p3]; exact (if_pos rfl).symm⟩
    rw [← inM_upd, if_pos cn, show j + 1 - 1 = j by omega, show updR q j c j = c from if_pos rfl, hl j hj hjn c hc e] at this
    cases this
end XRING

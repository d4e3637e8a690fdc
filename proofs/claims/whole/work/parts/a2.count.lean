/-! ===== COUNTING ===== -/
section CNT
def sumN (f : Nat → Nat) : Nat → Nat
  | 0 => 0
  | n + 1 => sumN f n + f n
theorem sumN_le {f g : Nat → Nat} : ∀ {n : Nat}, (∀ k, k < n → f k ≤ g k) → sumN f n ≤ sumN g n
  | 0, _ => Nat.le_refl _
  | n + 1, h => by
    have h1 := sumN_le (n := n) fun k hk => h k (by omega)
    have h2 := h n (by omega)
    rw [sumN, sumN]; omega
theorem sumN_ext {f g : Nat → Nat} : ∀ {n : Nat}, (∀ k, k < n → f k = g k) → sumN f n = sumN g n
  | 0, _ => rfl
  | n + 1, h => by rw [sumN, sumN, h n (by omega), sumN_ext fun k hk => h k (by omega)]
theorem sumN_c {c : Nat} : ∀ n, sumN (fun _ => c) n = n * c
  | 0 => by rw [sumN, Nat.zero_mul]
  | n + 1 => by rw [sumN, sumN_c n, Nat.succ_mul]
theorem sumN_0 {f : Nat → Nat} {n : Nat} (h : ∀ k, k < n → f k = 0) : sumN f n = 0 := by
  rw [sumN_ext (g := fun _ => 0) h, sumN_c, Nat.mul_zero]
theorem sumN_add {f g : Nat → Nat} : ∀ n, sumN (fun k => f k + g k) n = sumN f n + sumN g n
  | 0 => rfl
  | n + 1 => by rw [sumN, sumN, sumN, sumN_add n]; omega
theorem sumN_mul {f : Nat → Nat} {c : Nat} : ∀ n, sumN (fun k => c * f k) n = c * sumN f n
  | 0 => by rw [sumN, sumN, Nat.mul_zero]
  | n + 1 => by rw [sumN, sumN, sumN_mul n, Nat.mul_add]
theorem cntN_sum {p : Nat → Bool} : ∀ n, cntN p n = sumN (fun k => if p k then 1 else 0) n
  | 0 => rfl
  | n + 1 => by rw [cntN, sumN, cntN_sum n]
theorem sumN_swap {f : Nat → Nat → Nat} : ∀ n m, sumN (fun i => sumN (fun j => f i j) m) n = sumN (fun j => sumN (fun i => f i j) n) m
  | 0, m => by rw [sumN, sumN_0]; intro k _; rfl
  | n + 1, m => by
    rw [sumN, sumN_swap n m, ← sumN_add]
    exact sumN_ext fun k _ => rfl
/-- pairs counted by rows, by columns -/
theorem cntN_swap {I : Nat → Nat → Bool} (n m : Nat) : sumN (fun i => cntN (fun j => I i j) m) n = sumN (fun j => cntN (fun i => I i j) n) m := by
  rw [sumN_ext (g := fun i => sumN (fun j => if I i j then 1 else 0) m) fun i _ => cntN_sum m, sumN_swap]
  exact sumN_ext fun j _ => (cntN_sum n).symm
theorem sumN_one {n u : Nat} (hu : u < n) : sumN (fun x => if x = u then 1 else 0) n = 1 := by
  induction n with
  | zero => omega
  | succ n ih =>
    rw [sumN]
    by_cases e : u = n
    · subst e; rw [if_pos rfl, sumN_0 fun k hk => if_neg (by omega)]
    · rw [if_neg (by omega), ih (by omega)]
/-- those with p, by what they go to -/
theorem cntN_fib {p : Nat → Bool} {U : Nat → Nat} {n : Nat} : ∀ {f : Nat}, (∀ j, j < f → p j = true → U j < n) → cntN p f = sumN (fun u => cntN (fun j => p j && decide (U j = u)) f) n
  | 0, _ => by rw [cntN, sumN_0]; intro k _; rfl
  | f + 1, h => by
    have h1 := cntN_fib (f := f) fun j hj => h j (by omega)
    have h2 : sumN (fun u => cntN (fun j => p j && decide (U j = u)) (f + 1)) n = sumN (fun u => cntN (fun j => p j && decide (U j = u)) f) n + sumN (fun u => if (p f && decide (U f = u)) = true then 1 else 0) n := by
      rw [← sumN_add]; exact sumN_ext fun u _ => rfl
    rw [h2, ← h1, cntN]
    congr 1
    by_cases hp : p f = true
    · rw [if_pos hp]
      refine (sumN_one (h f (by omega) hp)).symm.trans (sumN_ext fun u _ => ?_)
      by_cases e : u = U f
      · rw [if_pos e, if_pos]; rw [hp, decide_eq_true e.symm]; rfl
      · rw [if_neg e, if_neg]; rw [hp, decide_eq_false (fun z => e z.symm)]; decide
    · rw [if_neg hp, sumN_0]
      intro u _
      rw [if_neg]
      intro z
      exact hp (Bool.and_eq_true_iff.mp z).1
theorem cntN_0 {p : Nat → Bool} {n : Nat} (h : ∀ k, k < n → ¬ p k = true) : cntN p n = 0 := by
  rw [cntN_sum]; exact sumN_0 fun k hk => if_neg (h k hk)
theorem cntN_le1 {p : Nat → Bool} : ∀ {n : Nat}, (∀ a b, a < b → b < n → ¬ (p a = true ∧ p b = true)) → cntN p n ≤ 1
  | 0, _ => by rw [cntN]; omega
  | n + 1, h => by
    have h1 := cntN_le1 (n := n) fun a b h1 h2 => h a b h1 (by omega)
    rw [cntN]
    by_cases hp : p n = true
    · rw [if_pos hp, cntN_0 fun k hk hk2 => h k n hk (by omega) ⟨hk2, hp⟩]; exact Nat.le_refl _
    · rw [if_neg hp]; exact h1
theorem cntN_le2 {p : Nat → Bool} : ∀ {n : Nat}, (∀ a b c, a < b → b < c → c < n → ¬ (p a = true ∧ p b = true ∧ p c = true)) → cntN p n ≤ 2
  | 0, _ => by rw [cntN]; omega
  | n + 1, h => by
    have h1 := cntN_le2 (n := n) fun a b c h1 h2 h3 => h a b c h1 h2 (by omega)
    rw [cntN]
    by_cases hp : p n = true
    · rw [if_pos hp]
      have := cntN_le1 (p := p) (n := n) fun a b h1 h2 h3 => h a b n h1 h2 (by omega) ⟨h3.1, h3.2, hp⟩
      omega
    · rw [if_neg hp]; exact h1
theorem cntN_or {p q : Nat → Bool} : ∀ {n : Nat}, (∀ k, k < n → ¬ (p k = true ∧ q k = true)) → cntN p n + cntN q n ≤ n
  | 0, _ => by rw [cntN, cntN]; omega
  | n + 1, h => by
    have h1 := cntN_or (n := n) fun k hk => h k (by omega)
    have h2 := h n (by omega)
    rw [cntN, cntN]
    by_cases hp : p n = true
    · rw [if_pos hp, if_neg (fun z => h2 ⟨hp, z⟩)]; omega
    · rw [if_neg hp]; split <;> omega
theorem cntN_3 {n a b c : Nat} (ha : a < n) (hb : b < n) (hc : c < n) (hab : a ≠ b) (hac : a ≠ c) (hbc : b ≠ c) : 3 ≤ cntN (fun x => decide (x = a ∨ x = b ∨ x = c)) n := by
  have h1 : cntN (fun x => decide (x = a)) n < cntN (fun x => decide (x = a ∨ x = b)) n := cntN_ltq (fun k _ h => decide_eq_true (Or.inl (of_decide_eq_true h))) ⟨b, hb, decide_eq_true (Or.inr rfl), fun z => hab (of_decide_eq_true z).symm⟩
  have h2 : cntN (fun x => decide (x = a ∨ x = b)) n < cntN (fun x => decide (x = a ∨ x = b ∨ x = c)) n := cntN_ltq (fun k _ h => decide_eq_true ((of_decide_eq_true h).elim Or.inl fun z => Or.inr (Or.inl z))) ⟨c, hc, decide_eq_true (Or.inr (Or.inr rfl)), fun z => (of_decide_eq_true z).elim (fun e => hac e.symm) fun e => hbc e.symm⟩
  have h3 : 0 < cntN (fun x => decide (x = a)) n := cntN_pos.mpr ⟨a, ha, decide_eq_true rfl⟩
  omega
/-- two others at least -/
theorem cntN_ex {p : Nat → Bool} {n : Nat} (h : 2 ≤ cntN p n) (v : Nat) : ∃ u, u < n ∧ p u = true ∧ u ≠ v := by
  refine Classical.byContradiction fun z => ?_
  have := cntN_le1 (p := p) (n := n) fun a b h1 h2 h3 => by
    have e1 : a = v := Classical.byContradiction fun w => z ⟨a, by omega, h3.1, w⟩
    have e2 : b = v := Classical.byContradiction fun w => z ⟨b, h2, h3.2, w⟩
    omega
  omega
theorem cntN_ex2 {p : Nat → Bool} {n : Nat} (h : 3 ≤ cntN p n) (v w : Nat) : ∃ u, u < n ∧ p u = true ∧ u ≠ v ∧ u ≠ w := by
  refine Classical.byContradiction fun z => ?_
  have := cntN_le2 (p := p) (n := n) fun a b c h1 h2 h3 h4 => by
    have e : ∀ x, x < n → p x = true → x = v ∨ x = w := fun x hx hp => Classical.byContradiction fun q => z ⟨x, hx, hp, fun e => q (Or.inl e), fun e => q (Or.inr e)⟩
    have e1 := e a (by omega) h4.1
    have e2 := e b (by omega) h4.2.1
    have e3 := e c h3 h4.2.2
    omega
  omega
theorem filter_len {p : Nat → Bool} : ∀ n, ((List.range n).filter p).length = cntN p n
  | 0 => rfl
  | n + 1 => by
    rw [List.range_succ, List.filter_append, List.length_append, filter_len n, cntN]
    congr 1
    by_cases hp : p n = true
    · rw [if_pos hp, List.filter_cons_of_pos hp]; rfl
    · rw [if_neg hp, List.filter_cons_of_neg hp]; rfl
end CNT

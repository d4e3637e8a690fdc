/-! ===== PURE: the places of a box, line by line ===== -/
section XBOX
theorem sumN_app {f : Nat → Nat} {n : Nat} : ∀ m, sumN f (n + m) = sumN f n + sumN (fun k => f (n + k)) m
  | 0 => rfl
  | m + 1 => by rw [show n + (m + 1) = n + m + 1 from rfl, sumN, sumN_app m, sumN]; omega
theorem sum_radix {H : Nat → Nat → Nat} {a : Nat} : ∀ b, sumN (fun m => H (m % a) (m / a)) (a * b) = sumN (fun q => sumN (fun r => H r q) a) b
  | 0 => rfl
  | b + 1 => by
    rw [Nat.mul_succ, sumN_app, sum_radix b, sumN]
    congr 1
    refine sumN_ext fun k hk => ?_
    show H ((a * b + k) % a) ((a * b + k) / a) = H k b
    rw [Nat.mul_add_mod, Nat.mod_eq_of_lt hk, Nat.mul_add_div (by omega), Nat.div_eq_of_lt hk, Nat.add_zero]
/-- the number of places of a box -/
def box4 (S : Nat → Nat → Nat → Nat → Nat) (A B C D : Nat) : Nat := sumN (fun a => sumN (fun b => sumN (fun c => sumN (fun e => S a b c e) D) C) B) A
theorem box_sw1 {S : Nat → Nat → Nat → Nat → Nat} {A B C D : Nat} : box4 S A B C D = box4 (fun b a c e => S a b c e) B A C D := sumN_swap A B
theorem box_sw2 {S : Nat → Nat → Nat → Nat → Nat} {A B C D : Nat} : box4 S A B C D = box4 (fun a c b e => S a b c e) A C B D := sumN_ext fun _ _ => sumN_swap B C
theorem box_sw3 {S : Nat → Nat → Nat → Nat → Nat} {A B C D : Nat} : box4 S A B C D = box4 (fun a b e c => S a b c e) A B D C := sumN_ext fun _ _ => sumN_ext fun _ _ => sumN_swap C D
theorem box_radix {S : Nat → Nat → Nat → Nat → Nat} {A B C D : Nat} : sumN (fun m => S (m % A) (m / A % B) (m / A / B % C) (m / A / B / C)) (A * (B * (C * D))) = box4 S A B C D := by
  rw [sum_radix (H := fun r q => S r (q % B) (q / B % C) (q / B / C))]
  rw [sum_radix (H := fun r q => sumN (fun a => S a r (q % C) (q / C)) A)]
  rw [sum_radix (H := fun r q => sumN (fun b => sumN (fun a => S a b r q) A) B)]
  show box4 (fun e c b a => S a b c e) D C B A = box4 S A B C D
  rw [box_sw1, box_sw2, box_sw3, box_sw1, box_sw2, box_sw1]
/-- how many of a line lie between first and last -/
theorem cnt_line {P : Int → Bool} {lo f l : Int} {W : Nat} (h : ∀ x, (lo ≤ x ∧ x < lo + W ∧ P x = true) ↔ (f ≤ x ∧ x ≤ l)) : ((cntN (fun e => P (lo + (e : Nat))) W : Nat) : Int) = if f ≤ l then l - f + 1 else 0 := by
  have gen : ∀ k : Nat, k ≤ W → ((cntN (fun e => P (lo + (e : Nat))) k : Nat) : Int) = if f ≤ l ∧ f < lo + k then (if l < lo + k then l - f + 1 else lo + k - f) else 0 := by
    intro k
    induction k with
    | zero =>
      intro _
      rw [cntN]
      split
      · rename_i z
        have := (h f).mpr ⟨Int.le_refl _, z.1⟩
        omega
      · rfl
    | succ k ih =>
      intro hk
      have h1 := ih (by omega)
      have hx := h (lo + (k : Nat))
      have hf := h f
      have hl := h l
      rw [cntN]
      by_cases q : P (lo + (k : Nat)) = true
      · have := hx.mp ⟨by omega, by omega, q⟩
        rw [if_pos q, Int.natCast_add, h1]
        by_cases z : f ≤ l ∧ f < lo + (k : Nat)
        · rw [if_pos z, if_pos (show f ≤ l ∧ f < lo + ((k + 1 : Nat) : Int) from ⟨z.1, by omega⟩)]
          split <;> split <;> omega
        · rw [if_neg z, if_pos (show f ≤ l ∧ f < lo + ((k + 1 : Nat) : Int) from ⟨by omega, by omega⟩)]
          split <;> omega
      · have nx : ¬ (f ≤ lo + (k : Nat) ∧ lo + (k : Nat) ≤ l) := fun y => q (hx.mpr y).2.2
        rw [if_neg q, Nat.add_zero, h1]
        by_cases z : f ≤ l ∧ f < lo + (k : Nat)
        · rw [if_pos z, if_pos (show f ≤ l ∧ f < lo + ((k + 1 : Nat) : Int) from ⟨z.1, by omega⟩)]
          split <;> split <;> omega
        · rw [if_neg z]
          by_cases z2 : f ≤ l ∧ f < lo + ((k + 1 : Nat) : Int)
          · omega
          · rw [if_neg z2]
  rw [gen W (Nat.le_refl _)]
  by_cases z : f ≤ l
  · have h1 := (h f).mpr ⟨Int.le_refl _, z⟩
    have h2 := (h l).mpr ⟨z, Int.le_refl _⟩
    rw [if_pos (show f ≤ l ∧ f < lo + (W : Int) from ⟨z, by omega⟩), if_pos (show l < lo + (W : Int) by omega), if_pos z]
  · rw [if_neg fun y => z y.1, if_neg z]
end XBOX

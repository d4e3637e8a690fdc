/-! ===== GEOMETRY: functionals that are nowhere above 0, facets ===== -/
section PEN
variable {N np : Nat} {X : Nat → Nat → Int} {l : Nat → Int}
def gval (N np : Nat) (X : Nat → Nat → Int) (l : Nat → Int) : Prop := ∀ p, p < np → dt N l (X p) ≤ 0
def gnz (N : Nat) (l : Nat → Int) : Prop := ∃ j, j < N ∧ l j ≠ 0
def gful (N np : Nat) (X : Nat → Nat → Int) : Prop := ∀ m : Nat → Int, (∀ p, p < np → dt N m (X p) = 0) → ∀ j, j < N → m j = 0
def gpr (N : Nat) (m l : Nat → Int) : Prop := ∀ i j, i < N → j < N → m i * l j = m j * l i
def gzi (N np : Nat) (X : Nat → Nat → Int) (l m : Nat → Int) : Prop := ∀ p, p < np → dt N l (X p) = 0 → dt N m (X p) = 0
/-- a facet's functional: all that is nothing where it is nothing goes with it -/
def gfc (N np : Nat) (X : Nat → Nat → Int) (l : Nat → Int) : Prop := (gval N np X l ∧ gnz N l) ∧ ∀ m, gzi N np X l m → gpr N m l
theorem gnz_of {x : Nat → Int} (h : dt N l x ≠ 0) : gnz N l := by
  refine Classical.byContradiction fun z => h (dt_0 fun k hk => ?_)
  exact Classical.byContradiction fun w => z ⟨k, hk, w⟩
theorem gnz_pt (hf : gful N np X) (hn : gnz N l) : ∃ p, p < np ∧ dt N l (X p) ≠ 0 := by
  refine Classical.byContradiction fun z => ?_
  obtain ⟨j, hj, hne⟩ := hn
  exact hne (hf l (fun p hp => Classical.byContradiction fun w => z ⟨p, hp, w⟩) j hj)
/-- the greatest of all ratios -/
theorem rmax {m s : Nat → Int} {A : Nat → Prop} : ∀ {n : Nat}, (∀ p, p < n → A p → 0 < s p) → (∃ p, p < n ∧ A p) → ∃ p, (p < n ∧ A p) ∧ ∀ x, x < n → A x → m x * s p ≤ m p * s x
  | 0, _, h => by obtain ⟨p, hp, _⟩ := h; omega
  | n + 1, hs, h => by
    by_cases hn : A n
    · by_cases hb : ∃ p, p < n ∧ A p
      · obtain ⟨p, ⟨hp, hA⟩, mx⟩ := rmax (n := n) (fun p hp => hs p (by omega)) hb
        have sp := hs p (by omega) hA
        have sn := hs n (by omega) hn
        by_cases hc : m n * s p ≤ m p * s n
        · refine ⟨p, ⟨by omega, hA⟩, fun x hx hAx => ?_⟩
          by_cases e : x = n
          · rw [e]; exact hc
          · exact mx x (by omega) hAx
        · refine ⟨n, ⟨by omega, hn⟩, fun x hx hAx => ?_⟩
          by_cases e : x = n
          · rw [e]; exact Int.le_refl _
          · have sx := hs x (by omega) hAx
            have h1 := mx x (by omega) hAx
            have h2 : m x * s p * s n ≤ m p * s x * s n := Int.mul_le_mul_of_nonneg_right h1 (Int.le_of_lt sn)
            have h3 : m p * s n * s x ≤ m n * s p * s x := Int.mul_le_mul_of_nonneg_right (by omega) (Int.le_of_lt sx)
            have h4 : m x * s n * s p ≤ m n * s x * s p := by
              rw [Int.mul_right_comm (m x), Int.mul_right_comm (m n)]
              rw [Int.mul_right_comm (m p)] at h2
              omega
            exact Int.le_of_mul_le_mul_right h4 sp
      · refine ⟨n, ⟨by omega, hn⟩, fun x hx hAx => ?_⟩
        by_cases e : x = n
        · rw [e]; exact Int.le_refl _
        · exact absurd ⟨x, by omega, hAx⟩ hb
    · obtain ⟨p, hp, hA⟩ := h
      have hb : ∃ p, p < n ∧ A p := ⟨p, by
        rcases Nat.lt_or_ge p n with z | z
        · exact z
        · exact absurd (show A n by rw [show n = p by omega]; exact hA) hn, hA⟩
      obtain ⟨p, ⟨hp, hA⟩, mx⟩ := rmax (n := n) (fun p hp => hs p (by omega)) hb
      refine ⟨p, ⟨by omega, hA⟩, fun x hx hAx => mx x ?_ hAx⟩
      rcases Nat.lt_or_ge x n with z | z
      · exact z
      · exact absurd (show A n by rw [show n = x by omega]; exact hAx) hn
theorem pencil (hf : gful N np X) (hv : gval N np X l) (hn : gnz N l) (hnf : ¬ gfc N np X l) : ∃ (l1 l2 : Nat → Int) (a b c : Int), (gval N np X l1 ∧ gnz N l1 ∧ gzi N np X l l1 ∧ ∃ p, p < np ∧ dt N l (X p) ≠ 0 ∧ dt N l1 (X p) = 0) ∧ (gval N np X l2 ∧ gnz N l2 ∧ gzi N np X l l2 ∧ ∃ p, p < np ∧ dt N l (X p) ≠ 0 ∧ dt N l2 (X p) = 0) ∧ (0 < a ∧ 0 < b ∧ 0 < c) ∧ ∀ k, c * l k = a * l1 k + b * l2 k := by
  obtain ⟨m, hz, hp⟩ : ∃ m, gzi N np X l m ∧ ¬ gpr N m l := Classical.byContradiction fun z => hnf ⟨⟨hv, hn⟩, fun m hm => Classical.byContradiction fun w => z ⟨m, hm, w⟩⟩
  have hs : ∀ p, p < np → dt N l (X p) ≠ 0 → 0 < -dt N l (X p) := fun p h1 h2 => by have := hv p h1; omega
  have hex := gnz_pt hf hn
  obtain ⟨p, ⟨p1, p2⟩, mx⟩ := rmax (m := fun p => dt N m (X p)) (s := fun p => -dt N l (X p)) (A := fun p => dt N l (X p) ≠ 0) hs hex
  obtain ⟨q, ⟨q1, q2⟩, mn⟩ := rmax (m := fun p => -dt N m (X p)) (s := fun p => -dt N l (X p)) (A := fun p => dt N l (X p) ≠ 0) hs hex
  try dsimp only at mx mn
  have sp := hs p p1 p2
  have sq := hs q q1 q2
  have e1 : ∀ x, dt N (fun k => (-dt N l (X p)) * m k + dt N m (X p) * l k) (X x) = dt N m (X p) * dt N l (X x) - dt N m (X x) * dt N l (X p) := fun x => by
    rw [dt_lin, Int.neg_mul, Int.mul_comm (dt N l (X p))]; omega
  have e2 : ∀ x, dt N (fun k => dt N l (X q) * m k + (-dt N m (X q)) * l k) (X x) = dt N m (X x) * dt N l (X q) - dt N m (X q) * dt N l (X x) := fun x => by
    rw [dt_lin, Int.neg_mul, Int.mul_comm (dt N l (X q))]; omega
  have le1 : ∀ x, x < np → dt N m (X p) * dt N l (X x) - dt N m (X x) * dt N l (X p) ≤ 0 := by
    intro x hx
    by_cases h0 : dt N l (X x) = 0
    · rw [h0, hz x hx h0, Int.mul_zero, Int.zero_mul]; exact Int.le_refl _
    · have := mx x hx h0
      rw [Int.mul_neg, Int.mul_neg] at this
      omega
  have le2 : ∀ x, x < np → dt N m (X x) * dt N l (X q) - dt N m (X q) * dt N l (X x) ≤ 0 := by
    intro x hx
    by_cases h0 : dt N l (X x) = 0
    · rw [h0, hz x hx h0, Int.mul_zero, Int.zero_mul]; exact Int.le_refl _
    · have := mn x hx h0
      rw [Int.neg_mul_neg, Int.neg_mul_neg] at this
      omega
  have hc : 0 < dt N m (X q) * dt N l (X p) - dt N m (X p) * dt N l (X q) := by
    have h1 := le1 q q1
    rcases Int.lt_or_eq_of_le h1 with h2 | h2
    · omega
    · exfalso
      apply hp
      have hall : ∀ x, x < np → dt N (fun k => (-dt N l (X p)) * m k + dt N m (X p) * l k) (X x) = 0 := by
        intro x hx
        rw [e1]
        by_cases h0 : dt N l (X x) = 0
        · rw [h0, hz x hx h0, Int.mul_zero, Int.zero_mul]; rfl
        · have h3 := le1 x hx
          have h4 := le2 x hx
          have h5 : (dt N m (X x) * dt N l (X q)) * (-dt N l (X p)) ≤ (dt N m (X q) * dt N l (X x)) * (-dt N l (X p)) := Int.mul_le_mul_of_nonneg_right (by omega) (by omega)
          have h6 : (dt N m (X p) * dt N l (X x) - dt N m (X x) * dt N l (X p)) * (-dt N l (X q)) ≤ 0 := by
            have := Int.mul_le_mul_of_nonneg_right h3 (show 0 ≤ -dt N l (X q) by omega)
            rw [Int.zero_mul] at this; exact this
          have h7 : 0 ≤ (dt N m (X p) * dt N l (X x) - dt N m (X x) * dt N l (X p)) * (-dt N l (X q)) := by
            have h8 : dt N m (X p) * dt N l (X q) * dt N l (X x) = dt N m (X q) * dt N l (X p) * dt N l (X x) := by rw [show dt N m (X p) * dt N l (X q) = dt N m (X q) * dt N l (X p) by omega]
            grind
          have h9 : (dt N m (X p) * dt N l (X x) - dt N m (X x) * dt N l (X p)) * (-dt N l (X q)) = 0 := by omega
          rcases Int.mul_eq_zero.mp h9 with z | z
          · exact z
          · omega
      have h0 := hf _ hall
      intro i j hi' hj
      have hi0 := h0 i hi'
      have hj0 := h0 j hj
      try dsimp only at hi0 hj0
      have : (m i * l j - m j * l i) * (-dt N l (X p)) = 0 := by grind
      rcases Int.mul_eq_zero.mp this with z | z
      · omega
      · omega
  refine ⟨fun k => (-dt N l (X p)) * m k + dt N m (X p) * l k, fun k => dt N l (X q) * m k + (-dt N m (X q)) * l k, -dt N l (X q), -dt N l (X p), dt N m (X q) * dt N l (X p) - dt N m (X p) * dt N l (X q), ⟨fun x hx => by rw [e1]; exact le1 x hx, gnz_of (x := X q) ?_, fun x hx h0 => ?_, p, p1, p2, ?_⟩, ⟨fun x hx => by rw [e2]; exact le2 x hx, gnz_of (x := X p) ?_, fun x hx h0 => ?_, q, q1, q2, ?_⟩, ⟨sq, sp, hc⟩, fun k => by grind⟩
  · rw [e1]; omega
  · rw [e1, h0, hz x hx h0, Int.mul_zero, Int.zero_mul]; rfl
  · rw [e1]; omega
  · rw [e2]; omega
  · rw [e2, h0, hz x hx h0, Int.mul_zero, Int.zero_mul]; rfl
  · rw [e2]; omega
theorem cntN_leq {p q : Nat → Bool} : ∀ {n : Nat}, (∀ k, k < n → p k = true → q k = true) → cntN p n ≤ cntN q n
  | 0, _ => Nat.le_refl _
  | n + 1, h => by
    have h1 := cntN_leq (n := n) fun k hk => h k (by omega)
    rw [cntN, cntN]
    by_cases hp : p n = true
    · rw [if_pos hp, if_pos (h n (by omega) hp)]; omega
    · rw [if_neg hp]; omega
theorem cntN_ltq {p q : Nat → Bool} : ∀ {n : Nat}, (∀ k, k < n → p k = true → q k = true) → (∃ k, k < n ∧ q k = true ∧ ¬ p k = true) → cntN p n < cntN q n
  | 0, _, h => by obtain ⟨k, hk, _⟩ := h; omega
  | n + 1, h, hex => by
    rw [cntN, cntN]
    by_cases hn : q n = true ∧ ¬ p n = true
    · have h1 := cntN_leq (n := n) fun k hk => h k (by omega)
      rw [if_neg hn.2, if_pos hn.1]; omega
    · obtain ⟨k, hk, h1, h2⟩ := hex
      have hk' : k < n := by
        rcases Nat.lt_or_ge k n with z | z
        · exact z
        · have e : k = n := by omega
          subst e
          exact absurd ⟨h1, h2⟩ hn
      have h3 := cntN_ltq (n := n) (fun k hk => h k (by omega)) ⟨k, hk', h1, h2⟩
      by_cases hp : p n = true
      · rw [if_pos hp, if_pos (h n (by omega) hp)]; omega
      · rw [if_neg hp]; omega
theorem facet_ind (hf : gful N np X) {x : Nat → Int} {σ : Int} : ∀ (n : Nat) (l : Nat → Int), cntN (fun p => decide (dt N l (X p) ≠ 0)) np ≤ n → gval N np X l → gnz N l → 0 < σ * dt N l x → ∃ f, gfc N np X f ∧ gzi N np X l f ∧ 0 < σ * dt N f x
  | n, l, hc, hv, hn, hx => by
    by_cases hfc : gfc N np X l
    · exact ⟨l, hfc, fun _ _ z => z, hx⟩
    · obtain ⟨l1, l2, a, b, c, ⟨v1, n1, z1, w1⟩, ⟨v2, n2, z2, w2⟩, ⟨ha, hb, hc'⟩, e⟩ := pencil hf hv hn hfc
      have less : ∀ l' : Nat → Int, gzi N np X l l' → (∃ p, p < np ∧ dt N l (X p) ≠ 0 ∧ dt N l' (X p) = 0) → cntN (fun p => decide (dt N l' (X p) ≠ 0)) np < cntN (fun p => decide (dt N l (X p) ≠ 0)) np := by
        intro l' hz' hw'
        refine cntN_ltq (fun k hk h1 => ?_) ?_
        · exact decide_eq_true fun z => (of_decide_eq_true h1) (hz' k hk z)
        · obtain ⟨p, hp, h1, h2⟩ := hw'
          exact ⟨p, hp, decide_eq_true h1, fun z => of_decide_eq_true z h2⟩
      have g1 := less l1 z1 w1
      have g2 := less l2 z2 w2
      have hs : c * (σ * dt N l x) = a * (σ * dt N l1 x) + b * (σ * dt N l2 x) := by
        have h1 : dt N (fun k => c * l k + 0 * l k) x = dt N (fun k => a * l1 k + b * l2 k) x := dt_ext fun k _ => by rw [e k]; omega
        rw [dt_lin, dt_lin] at h1
        grind
      match n, hc with
      | 0, hc => omega
      | n + 1, hc =>
        by_cases hp : 0 < σ * dt N l1 x
        · obtain ⟨f, f1, f2, f3⟩ := facet_ind hf n l1 (by omega) v1 n1 hp
          exact ⟨f, f1, fun p hp z => f2 p hp (z1 p hp z), f3⟩
        · have hp2 : 0 < σ * dt N l2 x := by
            have h3 : a * (σ * dt N l1 x) ≤ 0 := Int.mul_nonpos_of_nonneg_of_nonpos (by omega) (by omega)
            have h4 : 0 < c * (σ * dt N l x) := Int.mul_pos hc' hx
            have h5 : 0 < b * (σ * dt N l2 x) := by omega
            exact Int.pos_of_mul_pos_right h5 hb
          obtain ⟨f, f1, f2, f3⟩ := facet_ind hf n l2 (by omega) v2 n2 hp2
          exact ⟨f, f1, fun p hp z => f2 p hp (z2 p hp z), f3⟩
theorem facet_neg (hf : gful N np X) (hv : gval N np X l) (hn : gnz N l) {x : Nat → Int} (hx : dt N l x < 0) : ∃ f, gfc N np X f ∧ gzi N np X l f ∧ dt N f x < 0 := by
  obtain ⟨f, h1, h2, h3⟩ := facet_ind hf (x := x) (σ := -1) _ l (Nat.le_refl _) hv hn (by omega)
  exact ⟨f, h1, h2, by omega⟩
theorem facet_pos (hf : gful N np X) (hv : gval N np X l) (hn : gnz N l) {x : Nat → Int} (hx : 0 < dt N l x) : ∃ f, gfc N np X f ∧ gzi N np X l f ∧ 0 < dt N f x := by
  obtain ⟨f, h1, h2, h3⟩ := facet_ind hf (x := x) (σ := 1) _ l (Nat.le_refl _) hv hn (by omega)
  exact ⟨f, h1, h2, by omega⟩
end PEN

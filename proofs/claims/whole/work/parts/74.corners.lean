/-! ===== THE CORNERS OF A BODY, AS A LIST ===== -/
/-- x is a facet of the points, as a set of them -/
def isFac (l : List pt4) (D x : Nat) : Prop := ∃ c0 c1 c2 c3, inc l.length D c0 c1 c2 c3 ∧ chG (lP l) l.length D c0 c1 c2 c3 ∧ x = chM (lP l) l.length D c0 c1 c2 c3
theorem facL_iff {l : List pt4} {D f : Nat} {S : Nat → Nat} {Q : Nat → Nat → Int} (fl : facL l D f S Q) {x : Nat} : isFac l D x ↔ ∃ j, j < f ∧ S j = x := by
  constructor
  · rintro ⟨c0, c1, c2, c3, i, g, e⟩
    obtain ⟨j, hj, h⟩ := fl.2 c0 c1 c2 c3 i g
    exact ⟨j, hj, h.trans e.symm⟩
  · rintro ⟨j, hj, e⟩
    obtain ⟨c0, c1, c2, c3, i, g, h, -⟩ := fl.1.1 j hj
    exact ⟨c0, c1, c2, c3, i, g, e.symm.trans h⟩
/-- the facets that have p have nothing else in common -/
def corP (l : List pt4) (D p : Nat) : Prop := (∃ x, isFac l D x ∧ x.testBit p = true) ∧ ∀ b, b < l.length → (∀ x, isFac l D x → x.testBit p = true → x.testBit b = true) → b = p
theorem comN_bit {S : Nat → Nat} {n p b : Nat} : ∀ {f : Nat}, (comN S n p f).testBit b = true ↔ b < n ∧ ∀ j, j < f → (S j).testBit p = true → (S j).testBit b = true
  | 0 => by
    show (2 ^ n - 1).testBit b = true ↔ _
    rw [Nat.testBit_two_pow_sub_one, decide_eq_true_eq]
    exact ⟨fun h => ⟨h, fun j hj => absurd hj (Nat.not_lt_zero j)⟩, fun h => h.1⟩
  | f + 1 => by
    rw [comN]
    by_cases hp : (S f).testBit p = true
    · rw [if_pos hp, Nat.testBit_and, Bool.and_eq_true, comN_bit]
      constructor
      · rintro ⟨⟨h1, h2⟩, h3⟩
        refine ⟨h1, fun j hj hj2 => ?_⟩
        by_cases e : j = f
        · subst e; exact h3
        · exact h2 j (by omega) hj2
      · rintro ⟨h1, h2⟩
        exact ⟨⟨h1, fun j hj hj2 => h2 j (by omega) hj2⟩, h2 f (by omega) hp⟩
    · rw [if_neg hp, comN_bit]
      constructor
      · rintro ⟨h1, h2⟩
        refine ⟨h1, fun j hj hj2 => ?_⟩
        by_cases e : j = f
        · subst e; exact absurd hj2 hp
        · exact h2 j (by omega) hj2
      · rintro ⟨h1, h2⟩
        exact ⟨h1, fun j hj hj2 => h2 j (by omega) hj2⟩
theorem cor_iff {l : List pt4} {D f p : Nat} {S : Nat → Nat} {Q : Nat → Nat → Int} (fl : facL l D f S Q) (hp : p < l.length) : cor S l.length f p = tB (corP l D p) := by
  have key : cor S l.length f p = true ↔ corP l D p := by
    unfold cor
    rw [Bool.and_eq_true, anyN_iff, decide_eq_true_eq]
    constructor
    · rintro ⟨⟨j, hj, hb⟩, hc⟩
      refine ⟨⟨S j, (facL_iff fl).mpr ⟨j, hj, rfl⟩, hb⟩, fun b hb2 hall => ?_⟩
      have : (comN S l.length p f).testBit b = true := comN_bit.mpr ⟨hb2, fun j hj hjp => hall (S j) ((facL_iff fl).mpr ⟨j, hj, rfl⟩) hjp⟩
      rw [hc, Nat.testBit_two_pow, decide_eq_true_eq] at this
      exact this.symm
    · rintro ⟨⟨x, hx, hb⟩, hu⟩
      obtain ⟨j, hj, e⟩ := (facL_iff fl).mp hx
      refine ⟨⟨j, hj, by rw [e]; exact hb⟩, Nat.eq_of_testBit_eq fun b => ?_⟩
      rw [Nat.testBit_two_pow, Bool.eq_iff_iff, decide_eq_true_eq, comN_bit]
      constructor
      · rintro ⟨h1, h2⟩
        refine (hu b h1 fun x hx hxp => ?_).symm
        obtain ⟨j, hj, e⟩ := (facL_iff fl).mp hx
        rw [← e] at hxp ⊢
        exact h2 j hj hxp
      · rintro rfl
        exact ⟨hp, fun j _ hj2 => hj2⟩
  by_cases h : corP l D p
  · rw [tB_t h]; exact key.mpr h
  · rw [tB_f h]
    cases hc : cor S l.length f p with
    | false => rfl
    | true => exact absurd (key.mp hc) h
/-- the first n numbers with p, in order -/
def pickN (p : Nat → Bool) : Nat → List Nat
  | 0 => []
  | n + 1 => if p n then pickN p n ++ [n] else pickN p n
theorem pickN_len (p : Nat → Bool) : ∀ n, (pickN p n).length = cntN p n
  | 0 => rfl
  | n + 1 => by
    rw [pickN, cntN]
    by_cases h : p n = true
    · rw [if_pos h, if_pos h, List.length_append, pickN_len p n]; rfl
    · rw [if_neg h, if_neg h, pickN_len p n, Nat.add_zero]
theorem pickN_ext {p q : Nat → Bool} : ∀ {n : Nat}, (∀ k, k < n → p k = q k) → pickN p n = pickN q n
  | 0, _ => rfl
  | n + 1, h => by rw [pickN, pickN, h n (by omega), pickN_ext fun k hk => h k (by omega)]
theorem pickN_get (p : Nat → Bool) : ∀ {n c : Nat}, c < cntN p n → ∃ k, k < n ∧ p k = true ∧ cntN p k = c ∧ (pickN p n).getD c 0 = k
  | 0, c, h => absurd h (Nat.not_lt_zero c)
  | n + 1, c, h => by
    rw [cntN] at h
    rw [pickN]
    by_cases hp : p n = true
    · rw [if_pos hp] at h ⊢
      by_cases e : c = cntN p n
      · refine ⟨n, by omega, hp, e.symm, ?_⟩
        rw [List.getD_eq_getElem?_getD, List.getElem?_append_right (by rw [pickN_len]; omega), pickN_len, e, Nat.sub_self]; rfl
      · obtain ⟨k, h1, h2, h3, h4⟩ := pickN_get p (n := n) (c := c) (by omega)
        refine ⟨k, by omega, h2, h3, ?_⟩
        rw [List.getD_eq_getElem?_getD, List.getElem?_append_left (by rw [pickN_len]; omega), ← List.getD_eq_getElem?_getD]; exact h4
    · rw [if_neg hp] at h ⊢
      obtain ⟨k, h1, h2, h3, h4⟩ := pickN_get p (n := n) (c := c) (by omega)
      exact ⟨k, by omega, h2, h3, h4⟩
/-- the corners of a body of points, in their order -/
noncomputable def crn (l : List pt4) (D : Nat) : List pt4 := (pickN (fun p => tB (corP l D p)) l.length).map fun p => l.getD p z4
def CornV (h : qH) (i : Nat) (cs : List pt4) : Prop := hi h 57 i = iN cs.length ∧ cs.length ≤ 16 ∧ ∀ c, c < cs.length → ∀ k, k < 4 → hi h 59 (64 * i + 4 * c + k) = iZ (lP cs c k) ∧ -999 ≤ lP cs c k ∧ lP cs c k ≤ 999
theorem BodyM.corn {h : qH} {i D : Nat} {l : List pt4} {sc : Int32} (ok : okP l D) (b : BodyM h i l D sc) : CornV h i (crn l D) := by
  obtain ⟨f, S, Q, M, T, O, h0, h1, h2, ⟨a1, a2, a3⟩, h4, -⟩ := b
  have e : pickN (fun p => tB (corP l D p)) l.length = pickN (cor S l.length f) l.length := pickN_ext fun p hp => (cor_iff h1 hp).symm
  have hl : (crn l D).length = rk S l.length f l.length := by unfold crn; rw [List.length_map, e, pickN_len]; rfl
  have hle : rk S l.length f l.length ≤ l.length := cntN_le
  refine ⟨by rw [hl]; exact a2, by rw [hl]; have := ok.2.2.1; omega, fun c hc k hk => ?_⟩
  rw [hl] at hc
  obtain ⟨p, p1, p2, p3, p4⟩ := pickN_get (cor S l.length f) hc
  have hg : (crn l D).getD c z4 = l.getD p z4 := by
    unfold crn
    rw [e, List.getD_eq_getElem?_getD, List.getElem?_map]
    have hlt : c < (pickN (cor S l.length f) l.length).length := by rw [pickN_len]; exact hc
    rw [List.getElem?_eq_getElem hlt]
    have : (pickN (cor S l.length f) l.length)[c] = p := by
      rw [List.getD_eq_getElem?_getD, List.getElem?_eq_getElem hlt] at p4; exact p4
    rw [this]; rfl
  have hco : lP (crn l D) c k = lP l p k := by unfold lP; rw [hg]
  rw [hco]
  have hx := h4 p p1 p2 k hk
  have hr : rk S l.length f p = c := p3
  rw [hr] at hx
  refine ⟨hx, ?_⟩
  unfold lP
  rw [lP_at p1]
  exact ok.1 _ (List.getElem_mem p1) k hk

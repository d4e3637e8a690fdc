/-! ===== THE CELLS OF A BODY, AS LISTS ===== -/
theorem pickN_mem {p : Nat → Bool} : ∀ {n x : Nat}, x ∈ pickN p n ↔ x < n ∧ p x = true
  | 0, x => by simp [pickN]
  | n + 1, x => by
    rw [pickN]
    by_cases h : p n = true
    · rw [if_pos h, List.mem_append, pickN_mem, List.mem_singleton]
      constructor
      · rintro (⟨h1, h2⟩ | rfl)
        · exact ⟨by omega, h2⟩
        · exact ⟨by omega, h⟩
      · rintro ⟨h1, h2⟩
        by_cases e : x = n
        · exact Or.inr e
        · exact Or.inl ⟨by omega, h2⟩
    · rw [if_neg h, pickN_mem]
      constructor
      · rintro ⟨h1, h2⟩; exact ⟨by omega, h2⟩
      · rintro ⟨h1, h2⟩
        by_cases e : x = n
        · subst e; exact absurd h2 h
        · exact ⟨by omega, h2⟩
/-- a row in order that holds just those with p is their list -/
theorem srt_pick {p : Nat → Bool} : ∀ {n m : Nat} {T : Nat → Nat}, srt T m → (∀ y, (∃ k, k < m ∧ T k = y) ↔ y < n ∧ p y = true) → m = (pickN p n).length ∧ ∀ k, k < m → (pickN p n).getD k 0 = T k
  | 0, m, T, hs, hm => by
    have : m = 0 := by
      rcases Nat.eq_zero_or_pos m with h | h
      · exact h
      · have := (hm (T 0)).mp ⟨0, h, rfl⟩; omega
    subst this
    exact ⟨rfl, fun k hk => absurd hk (Nat.not_lt_zero k)⟩
  | n + 1, m, T, hs, hm => by
    rw [pickN]
    by_cases h : p n = true
    · rw [if_pos h]
      obtain ⟨k0, hk0, e0⟩ := (hm n).mpr ⟨by omega, h⟩
      have hlast : k0 = m - 1 := by
        rcases Nat.lt_or_ge k0 (m - 1) with z | z
        · have h1 := hs k0 (m - 1) z (by omega)
          have h2 := (hm (T (m - 1))).mp ⟨m - 1, by omega, rfl⟩
          omega
        · omega
      have ih := srt_pick (p := p) (n := n) (m := m - 1) (T := T) (fun a b h1 h2 => hs a b h1 (by omega)) (fun y => by
        constructor
        · rintro ⟨k, hk, e⟩
          have h1 := (hm y).mp ⟨k, by omega, e⟩
          have h2 := hs k k0 (by omega) hk0
          exact ⟨by omega, h1.2⟩
        · rintro ⟨h1, h2⟩
          obtain ⟨k, hk, e⟩ := (hm y).mpr ⟨by omega, h2⟩
          refine ⟨k, ?_, e⟩
          have : k ≠ k0 := fun z => by subst z; omega
          omega)
      refine ⟨by rw [List.length_append, ← ih.1]; show m = m - 1 + 1; omega, fun k hk => ?_⟩
      rw [List.getD_eq_getElem?_getD]
      by_cases e : k = m - 1
      · rw [List.getElem?_append_right (by rw [← ih.1]; omega), ← ih.1, e, Nat.sub_self, ← hlast, e0]; rfl
      · rw [List.getElem?_append_left (by rw [← ih.1]; omega), ← List.getD_eq_getElem?_getD]
        exact ih.2 k (by omega)
    · rw [if_neg h]
      exact srt_pick hs (fun y => (hm y).trans ⟨fun ⟨h1, h2⟩ => ⟨by rcases Nat.lt_or_ge y n with z | z; exact z; exact absurd (show p n = true by rw [show n = y by omega]; exact h2) h, h2⟩, fun ⟨h1, h2⟩ => ⟨by omega, h2⟩⟩)
/-- meets of sets of a kind -/
def MeetP (isF : Nat → Prop) (y : Nat) : Prop := y ≠ 0 ∧ (∃ x, isF x ∧ y &&& x = y) ∧ ∀ b, b < 16 → (∀ x, isF x → y &&& x = y → x.testBit b = true) → y.testBit b = true
theorem MeetP_iff {F : Nat → Nat} {m y : Nat} (hy : y < 65536) : Meet F m y ↔ MeetP (fun x => ∃ j, j < m ∧ F j = x) y := by
  unfold Meet MeetP
  refine and_congr_right fun h0 => ?_
  constructor
  · rintro ⟨⟨j, hj, ha⟩, hc⟩
    refine ⟨⟨F j, ⟨j, hj, rfl⟩, of_decide_eq_true ha⟩, fun b hb hall => ?_⟩
    rw [← hc, clo_bit]
    exact ⟨hb, fun k hk hk2 => hall (F k) ⟨k, hk, rfl⟩ (of_decide_eq_true hk2)⟩
  · rintro ⟨⟨x, ⟨j, hj, e⟩, hx⟩, hall⟩
    refine ⟨⟨j, hj, by rw [← e] at hx; exact decide_eq_true hx⟩, Nat.eq_of_testBit_eq fun b => ?_⟩
    rw [Bool.eq_iff_iff, clo_bit]
    constructor
    · rintro ⟨h1, h2⟩
      refine hall b h1 fun x hx hyx => ?_
      obtain ⟨k, hk, e⟩ := hx
      rw [← e] at hyx ⊢
      exact h2 k hk (decide_eq_true hyx)
    · intro hb
      exact ⟨bit16 hy hb, fun k hk hk2 => around_iff.mp hk2 b hb⟩
/-- a set of points by the numbers of its corners -/
noncomputable def sqP (l : List pt4) (D y : Nat) : Nat → Nat
  | 0 => 0
  | p + 1 => sqP l D y p ||| (if y.testBit p = true ∧ tB (corP l D p) = true then 2 ^ cntN (fun q => tB (corP l D q)) p else 0)
theorem cntN_ext {p q : Nat → Bool} : ∀ {n : Nat}, (∀ k, k < n → p k = q k) → cntN p n = cntN q n
  | 0, _ => rfl
  | n + 1, h => by rw [cntN, cntN, h n (by omega), cntN_ext fun k hk => h k (by omega)]
theorem sqz_sqP {l : List pt4} {D f j : Nat} {S : Nat → Nat} {Q : Nat → Nat → Int} (fl : facL l D f S Q) : ∀ p, p ≤ l.length → sqz S l.length f j p = sqP l D (S j) p
  | 0, _ => rfl
  | p + 1, hp => by
    rw [sqz, sqP, sqz_sqP fl p (by omega), cor_iff fl (by omega)]
    have : rk S l.length f p = cntN (fun q => tB (corP l D q)) p := cntN_ext fun k hk => cor_iff fl (by omega)
    rw [this]
/-- a facet as a set of corners -/
def isFc (l : List pt4) (D x : Nat) : Prop := ∃ y, isFac l D y ∧ x = sqP l D y l.length
/-- a cell of K -/
def isCl (l : List pt4) (D K x : Nat) : Prop := (K = D - 1 ∧ isFc l D x) ∨ (K < D - 1 ∧ MeetP (isFc l D) x ∧ ¬ isFc l D x ∧ kindOf x = K)
noncomputable def cls (l : List pt4) (D K : Nat) : List Nat := pickN (fun x => tB (isCl l D K x)) 65536
def CellV (h : qH) (i : Nat) (C : Nat → List Nat) : Prop := ∀ K, K < 4 → hi h 60 (4 * i + K) = iN (C K).length ∧ (C K).length ≤ 208 ∧ ∀ k, k < (C K).length → hi h 61 (208 * (4 * i + K) + k) = iN ((C K).getD k 0) ∧ (C K).getD k 0 < 65536
theorem tB_iff {p : Prop} : tB p = true ↔ p := by
  constructor
  · intro h
    exact Classical.byContradiction fun z => by rw [tB_f z] at h; cases h
  · exact tB_t
theorem BodyM.cells {h : qH} {i D : Nat} {l : List pt4} {sc : Int32} (ok : okP l D) (b : BodyM h i l D sc) : CellV h i (cls l D) := by
  obtain ⟨f, S, Q, M, T, O, h0, h1, h2, -, -, h5, h6, h7, h8, h9, h10⟩ := b
  have hD := ok.2.2.2.2
  have h16 := ok.2.2.1
  have ef : ∀ x, isFc l D x ↔ ∃ j, j < f ∧ T (D - 1) j = x := by
    intro x
    constructor
    · rintro ⟨y, hy, rfl⟩
      obtain ⟨a, ha, e⟩ := (facL_iff h1).mp hy
      obtain ⟨j, hj, ej⟩ := h9 a ha
      exact ⟨j, hj, by rw [(h8 j hj).1, ej, sqz_sqP h1 _ (Nat.le_refl _), e]⟩
    · rintro ⟨j, hj, rfl⟩
      obtain ⟨e1, e2, -⟩ := h8 j hj
      exact ⟨S (O j), (facL_iff h1).mpr ⟨O j, e2, rfl⟩, by rw [e1, sqz_sqP h1 _ (Nat.le_refl _)]⟩
  have key : ∀ K, K < 4 → srt (T K) (M K) ∧ ∀ y, (∃ k, k < M K ∧ T K k = y) ↔ y < 65536 ∧ tB (isCl l D K y) = true := by
    intro K hK
    have bnd : ∀ k, k < M K → T K k < 65536 := fun k hk => ((h5 K hK).2.2 k hk).2
    by_cases eK : K = D - 1
    · subst eK
      refine ⟨by rw [h6.1]; exact h6.2, fun y => ?_⟩
      rw [tB_iff]
      constructor
      · rintro ⟨k, hk, e⟩
        exact ⟨by rw [← e]; exact bnd k hk, Or.inl ⟨rfl, (ef y).mpr ⟨k, by rw [← h6.1]; exact hk, e⟩⟩⟩
      · rintro ⟨-, h | h⟩
        · obtain ⟨k, hk, e⟩ := (ef y).mp h.2
          exact ⟨k, by rw [h6.1]; exact hk, e⟩
        · omega
    · by_cases lK : K < D - 1
      · obtain ⟨q1, q2⟩ := h10 K lK
        refine ⟨q1, fun y => ?_⟩
        rw [q2 y, tB_iff]
        have eF : (fun x => ∃ j, j < f ∧ T (D - 1) j = x) = isFc l D := funext fun x => propext (ef x).symm
        constructor
        · rintro ⟨a1, a2, a3⟩
          obtain ⟨k, hk, e⟩ := (q2 y).mpr ⟨a1, a2, a3⟩
          have hy : y < 65536 := by rw [← e]; exact bnd k hk
          refine ⟨hy, Or.inr ⟨lK, ?_, fun z => ?_, a3⟩⟩
          · rw [← eF]; exact (MeetP_iff hy).mp a1
          · obtain ⟨j, hj, e⟩ := (ef y).mp z
            exact a2 j hj e.symm
        · rintro ⟨hy, h | ⟨-, a1, a2, a3⟩⟩
          · omega
          · refine ⟨(MeetP_iff hy).mpr (by rw [eF]; exact a1), fun j hj e => a2 ((ef y).mpr ⟨j, hj, e.symm⟩), a3⟩
      · have mz := h7 K (by omega) hK
        refine ⟨fun a b _ hb => by omega, fun y => ?_⟩
        rw [tB_iff]
        constructor
        · rintro ⟨k, hk, -⟩; omega
        · rintro ⟨-, h | h⟩
          · omega
          · omega
  intro K hK
  obtain ⟨k1, k2⟩ := key K hK
  obtain ⟨e1, e2⟩ := srt_pick (p := fun x => tB (isCl l D K x)) (n := 65536) k1 k2
  obtain ⟨v1, v2, v3⟩ := h5 K hK
  have el : (cls l D K).length = M K := e1.symm
  refine ⟨by rw [el]; exact v1, by rw [el]; exact v2, fun k hk => ?_⟩
  rw [el] at hk
  have : (cls l D K).getD k 0 = T K k := e2 k hk
  rw [this]; exact v3 k hk

/-! ===== RENAMINGS, COUNTED ===== -/
section REN
variable {n m : Nat}
/-- how many functions of k places to numbers below n have P -/
def cF (n : Nat) : Nat → ((Nat → Nat) → Bool) → Nat
  | 0, P => if P (fun _ => 0) then 1 else 0
  | k + 1, P => sumN (fun c => cF n k (fun f => P (updR f k c))) n
theorem cF_ext : ∀ {k : Nat} {P Q : (Nat → Nat) → Bool}, (∀ f, (∀ j, j < k → f j < n) → (∀ j, k ≤ j → f j = 0) → P f = Q f) → cF n k P = cF n k Q
  | 0, P, Q, h => by rw [cF, cF, h (fun _ => 0) (fun j hj => absurd hj (Nat.not_lt_zero j)) (fun _ _ => rfl)]
  | k + 1, P, Q, h => by
    rw [cF, cF]
    refine sumN_ext fun c hc => cF_ext fun f h1 h2 => h _ (fun j hj => ?_) (fun j hj => ?_)
    · unfold updR
      by_cases e : j = k
      · rw [if_pos e]; exact hc
      · rw [if_neg e]; exact h1 j (by omega)
    · unfold updR
      rw [if_neg (by omega)]; exact h2 j (by omega)
theorem cF_0 {k : Nat} {P : (Nat → Nat) → Bool} (h : ∀ f, (∀ j, j < k → f j < n) → P f = false) : cF n k P = 0 := by
  have e : cF n k P = cF n k (fun _ => false) := cF_ext fun f h1 _ => h f h1
  rw [e]
  have : ∀ k, cF n k (fun _ => false) = 0 := by
    intro k
    induction k with
    | zero => rfl
    | succ k ih => rw [cF]; exact sumN_0 fun c _ => ih
  exact this k
/-- by the value at place j -/
theorem cF_part {k j : Nat} (hj : j < k) : ∀ {P : (Nat → Nat) → Bool}, cF n k P = sumN (fun c => cF n k (fun f => P f && decide (f j = c))) n := by
  intro P
  have key : ∀ k (P : (Nat → Nat) → Bool) (q : (Nat → Nat) → Nat → Bool), (∀ f, (∀ j, j < k → f j < n) → sumN (fun c => if q f c then 1 else 0) n = 1) → cF n k P = sumN (fun c => cF n k (fun f => P f && q f c)) n := by
    intro k
    induction k with
    | zero =>
      intro P q hq
      show (if P (fun _ => 0) then 1 else 0) = sumN (fun c => if (P (fun _ => 0) && q (fun _ => 0) c) = true then 1 else 0) n
      cases P (fun _ => 0) with
      | false => rw [sumN_0 fun c _ => by rw [Bool.false_and]; rfl]; rfl
      | true =>
        rw [if_pos rfl]
        exact (hq (fun _ => 0) (fun j hj => absurd hj (Nat.not_lt_zero j))).symm.trans (sumN_ext fun c _ => by rw [Bool.true_and])
    | succ k ih =>
      intro P q hq
      rw [cF]
      have e1 : ∀ b, b < n → cF n k (fun f => P (updR f k b)) = sumN (fun c => cF n k (fun f => P (updR f k b) && q (updR f k b) c)) n := fun b hb => ih _ (fun f c => q (updR f k b) c) (fun f hf => hq _ (fun j hj => by
        unfold updR
        by_cases e : j = k
        · rw [if_pos e]; exact hb
        · rw [if_neg e]; exact hf j (by omega)))
      rw [sumN_ext e1, sumN_swap]
      exact sumN_ext fun c _ => rfl
  exact key k P (fun f c => decide (f j = c)) (fun f hf => by
    refine Eq.trans (sumN_ext fun c _ => ?_) (sumN_one (hf j hj))
    by_cases e : c = f j
    · rw [if_pos e, if_pos (decide_eq_true e.symm)]
    · rw [if_neg e, if_neg (fun z => e (of_decide_eq_true z).symm)])
/-- one alone agrees with r everywhere -/
theorem cF_one : ∀ {k : Nat} {P : (Nat → Nat) → Bool} {r : Nat → Nat}, (∀ j, j < k → r j < n) → (∀ f, (∀ j, j < k → f j = r j) → P f = P r) → cF n k (fun f => P f && allN (fun j => decide (f j = r j)) k) = if P r then 1 else 0
  | 0, P, r, _, he => by
    show (if (P (fun _ => 0) && true) = true then 1 else 0) = _
    rw [Bool.and_true, he _ (fun j hj => absurd hj (Nat.not_lt_zero j))]
  | k + 1, P, r, hr, he => by
    rw [cF]
    have e1 : ∀ c, c < n → cF n k (fun f => P (updR f k c) && allN (fun j => decide (updR f k c j = r j)) (k + 1)) = if c = r k then (if P r then 1 else 0) else 0 := by
      intro c hc
      by_cases e : c = r k
      · have e0 : P (updR r k c) = P r := he _ fun j hj => by
          unfold updR
          by_cases q : j = k
          · rw [if_pos q, q]; exact e
          · rw [if_neg q]
        have ih := cF_one (k := k) (P := fun f => P (updR f k c)) (r := r) (fun j hj => hr j (by omega)) (fun f hf => by
          refine (he _ fun j hj => ?_).trans e0.symm
          unfold updR
          by_cases q : j = k
          · rw [if_pos q, q]; exact e
          · rw [if_neg q]; exact hf j (by omega))
        try dsimp only at ih
        rw [e0] at ih
        rw [if_pos e, ← ih]
        refine cF_ext fun f _ _ => ?_
        rw [allN]
        have a1 : updR f k c k = r k := by unfold updR; rw [if_pos rfl]; exact e
        rw [a1, decide_eq_true rfl, Bool.and_true]
        congr 1
        have : ∀ m, m ≤ k → allN (fun j => decide (updR f k c j = r j)) m = allN (fun j => decide (f j = r j)) m := by
          intro m
          induction m with
          | zero => exact fun _ => rfl
          | succ m ih =>
            intro hm
            rw [allN, allN, ih (by omega)]
            congr 1
            unfold updR
            rw [if_neg (by omega)]
        exact this k (Nat.le_refl _)
      · rw [if_neg e]
        refine cF_0 fun f _ => ?_
        rw [allN]
        have a1 : updR f k c k = c := by unfold updR; rw [if_pos rfl]
        rw [a1, decide_eq_false e, Bool.and_false, Bool.and_false]
    rw [sumN_ext e1]
    have hrk := hr k (by omega)
    cases P r with
    | true =>
      rw [if_pos rfl]
      exact sumN_one hrk
    | false =>
      rw [if_neg Bool.false_ne_true]
      exact sumN_0 fun c _ => by split <;> rfl
theorem cF_pos : ∀ {k : Nat} {P : (Nat → Nat) → Bool}, 0 < cF n k P ↔ ∃ f, (∀ j, j < k → f j < n) ∧ (∀ j, k ≤ j → f j = 0) ∧ P f = true
  | 0, P => by
    rw [cF]
    constructor
    · intro h
      refine ⟨fun _ => 0, fun j hj => absurd hj (Nat.not_lt_zero j), fun _ _ => rfl, ?_⟩
      cases e : P (fun _ => 0) with
      | true => rfl
      | false => rw [e] at h; exact absurd h (by decide)
    · rintro ⟨f, -, h2, h3⟩
      have : f = fun _ => 0 := funext fun j => h2 j (Nat.zero_le _)
      rw [this] at h3
      rw [h3]; decide
  | k + 1, P => by
    rw [cF]
    have sp : ∀ {w : Nat → Nat} {m : Nat}, 0 < sumN w m ↔ ∃ c, c < m ∧ 0 < w c := by
      intro w m
      induction m with
      | zero => rw [sumN]; exact ⟨fun h => absurd h (Nat.lt_irrefl 0), fun ⟨c, hc, _⟩ => absurd hc (Nat.not_lt_zero c)⟩
      | succ m ih =>
        rw [sumN]
        constructor
        · intro h
          by_cases q : 0 < sumN w m
          · obtain ⟨c, h1, h2⟩ := ih.mp q
            exact ⟨c, by omega, h2⟩
          · exact ⟨m, by omega, by omega⟩
        · rintro ⟨c, h1, h2⟩
          by_cases e : c = m
          · subst e; omega
          · have := ih.mpr ⟨c, by omega, h2⟩; omega
    rw [sp]
    constructor
    · rintro ⟨c, hc, h⟩
      obtain ⟨f, h1, h2, h3⟩ := cF_pos.mp h
      refine ⟨updR f k c, fun j hj => ?_, fun j hj => ?_, h3⟩
      · unfold updR
        by_cases e : j = k
        · rw [if_pos e]; exact hc
        · rw [if_neg e]; exact h1 j (by omega)
      · unfold updR
        rw [if_neg (by omega)]; exact h2 j (by omega)
    · rintro ⟨f, h1, h2, h3⟩
      refine ⟨f k, h1 k (by omega), cF_pos.mpr ⟨updR f k 0, fun j hj => ?_, fun j hj => ?_, ?_⟩⟩
      · unfold updR
        rw [if_neg (by omega)]; exact h1 j (by omega)
      · unfold updR
        by_cases e : j = k
        · rw [if_pos e]
        · rw [if_neg e]; exact h2 j (by omega)
      · have : updR (updR f k 0) k (f k) = f := funext fun j => by
          unfold updR
          by_cases e : j = k
          · rw [if_pos e, e]
          · rw [if_neg e, if_neg e]
        rw [this]; exact h3
/-- a set renamed -/
def imS (f : Nat → Nat) (x : Nat) : Nat → Nat
  | 0 => 0
  | k + 1 => imS f x k ||| if x.testBit k then 2 ^ f k else 0
theorem imS_bit {f : Nat → Nat} {x b : Nat} : ∀ {k : Nat}, (imS f x k).testBit b = true ↔ ∃ c, c < k ∧ x.testBit c = true ∧ f c = b
  | 0 => by
    rw [imS, Nat.zero_testBit]
    exact ⟨fun h => absurd h Bool.false_ne_true, fun ⟨c, hc, _⟩ => absurd hc (Nat.not_lt_zero c)⟩
  | k + 1 => by
    rw [imS, Nat.testBit_or, Bool.or_eq_true, imS_bit]
    constructor
    · rintro (⟨c, h1, h2⟩ | h)
      · exact ⟨c, by omega, h2⟩
      · cases q : x.testBit k with
        | false => rw [q, if_neg Bool.false_ne_true, Nat.zero_testBit] at h; exact absurd h Bool.false_ne_true
        | true =>
          rw [q, if_pos rfl, Nat.testBit_two_pow, decide_eq_true_eq] at h
          exact ⟨k, by omega, q, h⟩
    · rintro ⟨c, h1, h2, h3⟩
      by_cases e : c = k
      · subst e
        right
        rw [h2, if_pos rfl, Nat.testBit_two_pow, decide_eq_true_eq]; exact h3
      · exact Or.inl ⟨c, by omega, h2, h3⟩
theorem imS_ext {f g : Nat → Nat} {x : Nat} : ∀ {k : Nat}, (∀ c, c < k → f c = g c) → imS f x k = imS g x k
  | 0, _ => rfl
  | k + 1, h => by rw [imS, imS, imS_ext fun c hc => h c (by omega), h k (by omega)]
/-- a renaming: no two alike, each set of A becomes one of B -/
def rnB (n : Nat) (A B : List Nat) (f : Nat → Nat) : Bool := allN (fun j => allN (fun i => decide (f i ≠ f j)) j) n && allN (fun s => decide (imS f (A.getD s 0) n ∈ B)) A.length
def rnP (n : Nat) (A B : List Nat) (f : Nat → Nat) : Prop := (∀ i j, i < j → j < n → f i ≠ f j) ∧ ∀ x, x ∈ A → imS f x n ∈ B
theorem rnB_iff {A B : List Nat} {f : Nat → Nat} : rnB n A B f = true ↔ rnP n A B f := by
  unfold rnB rnP
  rw [Bool.and_eq_true, allN_iff, allN_iff]
  constructor
  · rintro ⟨h1, h2⟩
    refine ⟨fun i j hij hj => of_decide_eq_true (allN_iff.mp (h1 j hj) i hij), fun x hx => ?_⟩
    obtain ⟨s, hs, e⟩ := List.getElem_of_mem hx
    have := of_decide_eq_true (h2 s hs)
    rw [List.getD_eq_getElem?_getD, List.getElem?_eq_getElem hs] at this
    rw [← e]; exact this
  · rintro ⟨h1, h2⟩
    refine ⟨fun j hj => allN_iff.mpr fun i hi' => decide_eq_true (h1 i j hi' hj), fun s hs => decide_eq_true (h2 _ ?_)⟩
    rw [List.getD_eq_getElem?_getD, List.getElem?_eq_getElem hs]; exact List.getElem_mem hs
theorem rnB_ext {A B : List Nat} {f g : Nat → Nat} (h : ∀ j, j < n → f j = g j) : rnB n A B f = rnB n A B g := by
  rw [Bool.eq_iff_iff, rnB_iff, rnB_iff]
  unfold rnP
  constructor
  · rintro ⟨h1, h2⟩
    exact ⟨fun i j hij hj => by rw [← h i (by omega), ← h j hj]; exact h1 i j hij hj, fun x hx => by rw [← imS_ext h]; exact h2 x hx⟩
  · rintro ⟨h1, h2⟩
    exact ⟨fun i j hij hj => by rw [h i (by omega), h j hj]; exact h1 i j hij hj, fun x hx => by rw [imS_ext h]; exact h2 x hx⟩
/-- all renamings -/
def rnT (n : Nat) (A B : List Nat) : Nat := cF n n (rnB n A B)
/-- those that agree with r on the first k -/
def rnE (n : Nat) (A B : List Nat) (r : Nat → Nat) (k : Nat) : Nat := cF n n (fun f => rnB n A B f && allN (fun j => decide (f j = r j)) k)
theorem rnE_0 {A B : List Nat} {r : Nat → Nat} : rnE n A B r 0 = rnT n A B := cF_ext fun f _ _ => Bool.and_true _
theorem allN_ext {p q : Nat → Bool} : ∀ {k : Nat}, (∀ j, j < k → p j = q j) → allN p k = allN q k
  | 0, _ => rfl
  | k + 1, h => by rw [allN, allN, allN_ext fun j hj => h j (by omega), h k (by omega)]
theorem rnE_step {A B : List Nat} {r : Nat → Nat} {k : Nat} (hk : k < n) : rnE n A B r k = sumN (fun c => rnE n A B (updR r k c) (k + 1)) n := by
  unfold rnE
  rw [cF_part hk]
  refine sumN_ext fun c _ => cF_ext fun f _ _ => ?_
  rw [allN, Bool.and_assoc]
  congr 1
  have a1 : updR r k c k = c := by unfold updR; rw [if_pos rfl]
  rw [a1]
  congr 1
  exact allN_ext fun j hj => by unfold updR; rw [if_neg (by omega)]
theorem rnE_n {A B : List Nat} {r : Nat → Nat} (hr : ∀ j, j < n → r j < n) : rnE n A B r n = if rnB n A B r then 1 else 0 := cF_one hr fun f hf => rnB_ext hf
theorem rnE_none {A B : List Nat} {r : Nat → Nat} {k : Nat} (h : ¬ ∃ f, rnP n A B f ∧ (∀ j, j < n → f j < n) ∧ ∀ j, j < k → f j = r j) : rnE n A B r k = 0 := by
  refine cF_0 fun f hf => ?_
  cases e : (rnB n A B f && allN (fun j => decide (f j = r j)) k) with
  | false => rfl
  | true =>
    rw [Bool.and_eq_true, allN_iff] at e
    exact absurd ⟨f, rnB_iff.mp e.1, hf, fun j hj => of_decide_eq_true (e.2 j hj)⟩ h
theorem rnE_ext {A B : List Nat} {r r' : Nat → Nat} {k : Nat} (h : ∀ j, j < k → r j = r' j) : rnE n A B r k = rnE n A B r' k := cF_ext fun f _ _ => by
  congr 1
  exact allN_ext fun j hj => by rw [h j hj]
end REN

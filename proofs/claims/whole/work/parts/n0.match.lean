/-! ===== PURE: renamings, mark by mark in any order ===== -/
section RENO
variable {n : Nat} {A B : List Nat}
theorem sum_pick {g : Nat → Nat} {u : Nat} : ∀ {n : Nat}, u < n → sumN (fun t => if u = t then g t else 0) n = g u
  | 0, h => absurd h (Nat.not_lt_zero u)
  | n + 1, h => by
    rw [sumN]
    by_cases e : u = n
    · rw [if_pos e, sumN_0 fun k hk => if_neg (by omega), ← e]; omega
    · rw [if_neg e, sum_pick (by omega)]; omega
theorem sum_if {p : Nat → Bool} {c : Nat} (m : Nat) : sumN (fun s => if p s = true then c else 0) m = c * cntN p m := by
  rw [cntN_sum, ← sumN_mul]
  exact sumN_ext fun s _ => by
    cases p s <;> simp
theorem inj_sum {m : Nat} {f g : Nat → Nat} (hf : ∀ s, s < m → f s < m) (hi' : ∀ s t, s < t → t < m → f s ≠ f t) : sumN (fun s => g (f s)) m = sumN g m := by
  have e1 : sumN (fun s => g (f s)) m = sumN (fun s => sumN (fun t => if f s = t then g t else 0) m) m := sumN_ext fun s hs => (sum_pick (hf s hs)).symm
  rw [e1, sumN_swap]
  refine sumN_ext fun t ht => ?_
  have e2 : sumN (fun s => if f s = t then g t else 0) m = sumN (fun s => if (fun s => decide (f s = t)) s = true then g t else 0) m := sumN_ext fun s _ => by
    by_cases z : f s = t
    · rw [if_pos z, if_pos (decide_eq_true z)]
    · rw [if_neg z, if_neg (fun y => z (of_decide_eq_true y))]
  rw [e2, sum_if, inj_cnt (p := fun s => decide (s = t)) hf hi']
  have : cntN (fun s => decide (s = t)) m = 1 := by
    have h1 : 0 < cntN (fun s => decide (s = t)) m := cntN_pos.mpr ⟨t, ht, decide_eq_true rfl⟩
    have h2 : cntN (fun s => decide (s = t)) m ≤ 1 := cntN_le1 fun a b hab _ z => by
      have := of_decide_eq_true z.1
      have := of_decide_eq_true z.2
      omega
    omega
  rw [this, Nat.mul_one]
theorem sh_sum (L : List Nat) (a b : Nat) : ∀ k, shN L a b k = sumN (fun s => if (L.getD s 0).testBit a = true ∧ (L.getD s 0).testBit b = true then wtN (L.getD s 0) else 0) k
  | 0 => rfl
  | k + 1 => by rw [shN, sumN, sh_sum L a b k]
theorem im_at {f : Nat → Nat} {x a : Nat} (hinj : ∀ i j, i < j → j < n → f i ≠ f j) (ha : a < n) : (imS f x n).testBit (f a) = x.testBit a := by
  rw [Bool.eq_iff_iff, imS_bit]
  constructor
  · rintro ⟨c, hc, hb, e⟩
    have : c = a := by
      rcases Nat.lt_trichotomy c a with z | z | z
      · exact absurd e (hinj c a z ha)
      · exact z
      · exact absurd e.symm (hinj a c z hc)
    rw [← this]; exact hb
  · exact fun h => ⟨a, ha, h, rfl⟩
theorem im_pop {f : Nat → Nat} {x : Nat} (h16 : n ≤ 16) (hx : ∀ c, x.testBit c = true → c < n) (hf : ∀ j, j < n → f j < n) (hinj : ∀ i j, i < j → j < n → f i ≠ f j) : pop (imS f x n) 24 = pop x 24 := by
  have hy : ∀ c, (imS f x n).testBit c = true → c < n := fun c hc => by
    obtain ⟨a, ha, -, e⟩ := imS_bit.mp hc
    rw [← e]; exact hf a ha
  have cut : ∀ y : Nat, (∀ c, y.testBit c = true → c < n) → pop y 24 = cntN (fun c => y.testBit c) n := fun y h => cntN_cut (by omega) fun k h1 _ h3 => by have := h k h3; omega
  rw [cut _ hy, cut _ hx, ← inj_cnt (f := f) (p := fun c => (imS f x n).testBit c) hf hinj]
  exact cntN_ext fun c hc => im_at hinj hc
/-- how marks share sets is kept by a renaming -/
theorem ren_shN {f : Nat → Nat} {a b : Nat} (h16 : n ≤ 16) (hA : ∀ x, x ∈ A → ∀ c, x.testBit c = true → c < n) (nd : A.Nodup) (hBl : B.length = A.length) (hf : rnP n A B f) (hn : ∀ j, j < n → f j < n) (ha : a < n) (hb : b < n) : shN A a b A.length = shN B (f a) (f b) A.length := by
  obtain ⟨φ, p1, p2⟩ := ren_map hA nd hf
  rw [sh_sum, sh_sum]
  rw [← inj_sum (m := A.length) (f := φ) (g := fun t => if (B.getD t 0).testBit (f a) = true ∧ (B.getD t 0).testBit (f b) = true then wtN (B.getD t 0) else 0) (fun s hs => by have := (p1 s hs).1; omega) p2]
  refine sumN_ext fun s hs => ?_
  have e := (p1 s hs).2
  have hx := hA _ (getD_mem0 hs)
  show _ = if (B.getD (φ s) 0).testBit (f a) = true ∧ (B.getD (φ s) 0).testBit (f b) = true then wtN (B.getD (φ s) 0) else 0
  rw [e, im_at hf.1 ha, im_at hf.1 hb]
  have : wtN (imS f (A.getD s 0) n) = wtN (A.getD s 0) := by unfold wtN; rw [im_pop h16 hx hn hf.1]
  rw [this]
/-- renamings that go on with r at the first d of the order o -/
def rnC (n : Nat) (A B : List Nat) (o r : Nat → Nat) (d : Nat) : Nat := cF n n (fun f => rnB n A B f && allN (fun e => decide (f (o e) = r (o e))) d)
theorem rnC_0 {o r : Nat → Nat} : rnC n A B o r 0 = rnT n A B := cF_ext fun f _ _ => Bool.and_true _
theorem updR_at {r : Nat → Nat} {k c j : Nat} : updR r k c j = if j = k then c else r j := rfl
theorem rnC_step {o r : Nat → Nat} {d : Nat} (hd : d < n) (ho : ∀ e, e < n → o e < n) (hi' : ∀ a b, a < b → b < n → o a ≠ o b) : rnC n A B o r d = sumN (fun c => rnC n A B o (updR r (o d) c) (d + 1)) n := by
  unfold rnC
  rw [cF_part (ho d hd)]
  refine sumN_ext fun c _ => cF_ext fun f _ _ => ?_
  have e1 : allN (fun e => decide (f (o e) = updR r (o d) c (o e))) (d + 1) = (allN (fun e => decide (f (o e) = r (o e))) d && decide (f (o d) = c)) := by
    rw [Bool.eq_iff_iff, Bool.and_eq_true, allN_iff, allN_iff, decide_eq_true_eq]
    constructor
    · intro z
      refine ⟨fun k hk => ?_, ?_⟩
      · have := of_decide_eq_true (z k (by omega))
        rw [updR_at, if_neg (hi' k d hk hd)] at this
        exact decide_eq_true this
      · have := of_decide_eq_true (z d (by omega))
        rw [updR_at, if_pos rfl] at this; exact this
    · rintro ⟨z1, z2⟩ k hk
      refine decide_eq_true ?_
      rw [updR_at]
      by_cases e : k = d
      · rw [e, if_pos rfl]; exact z2
      · rw [if_neg (hi' k d (by omega) hd)]; exact of_decide_eq_true (z1 k (by omega))
  rw [e1, Bool.and_assoc]
theorem rnC_n {o r : Nat → Nat} (hr : ∀ j, j < n → r j < n) (hs : ∀ j, j < n → ∃ e, e < n ∧ o e = j) (ho : ∀ e, e < n → o e < n) : rnC n A B o r n = if rnB n A B r then 1 else 0 := by
  rw [← cF_one (P := rnB n A B) hr fun f hf => rnB_ext hf]
  refine cF_ext fun f _ _ => ?_
  congr 1
  rw [Bool.eq_iff_iff, allN_iff, allN_iff]
  constructor
  · intro z j hj
    obtain ⟨e, he, ej⟩ := hs j hj
    rw [← ej]; exact z e he
  · exact fun z e he => z (o e) (ho e he)
theorem rnC_no {o r : Nat → Nat} {d : Nat} (h : ¬ ∃ f, rnP n A B f ∧ (∀ j, j < n → f j < n) ∧ ∀ e, e < d → f (o e) = r (o e)) : rnC n A B o r d = 0 := cF_0 fun f hf => by
  cases q : (rnB n A B f && allN (fun e => decide (f (o e) = r (o e))) d) with
  | false => rfl
  | true =>
    rw [Bool.and_eq_true, rnB_iff, allN_iff] at q
    exact absurd ⟨f, q.1, hf, fun e he => of_decide_eq_true (q.2 e he)⟩ h
/-- an order of marks without two alike has all -/
theorem ord_all {o : Nat → Nat} (ho : ∀ e, e < n → o e < n) (hi' : ∀ a b, a < b → b < n → o a ≠ o b) {j : Nat} (hj : j < n) : ∃ e, e < n ∧ o e = j := Classical.byContradiction fun z => by
  have ne : ∀ e, e < n → o e ≠ j := fun e he h => z ⟨e, he, h⟩
  have := inj_le (n := n) (m := n - 1) (f := fun e => if o e < j then o e else o e - 1) (fun a ha => by
    have h1 := ho a ha
    have h2 := ne a ha
    show (if o a < j then o a else o a - 1) < n - 1
    split <;> omega) (fun a b hab hb e => by
    have h1 := hi' a b hab hb
    have h2 := ne a (by omega)
    have h3 := ne b hb
    have e' : (if o a < j then o a else o a - 1) = (if o b < j then o b else o b - 1) := e
    split at e' <;> split at e' <;> omega)
  omega
/-- what a mark's fit says -/
def fitP (A B : List Nat) (o r : Nat → Nat) (st : Nat → Nat) (cp : Nat → Nat) (d : Nat) : Prop := (∀ e, e ≤ d → shN A (o d) (o e) A.length = shN B (r (o d)) (r (o e)) A.length) ∧ ∀ t, st d ≤ t → t < st (d + 1) → imS r (cp t) 16 ∈ B
/-- the order, and the sets by when they are complete -/
def ordP (n : Nat) (A : List Nat) (o st cp : Nat → Nat) : Prop := (∀ e, e < n → o e < n) ∧ (∀ a b, a < b → b < n → o a ≠ o b) ∧ (∀ d, d ≤ n → st d ≤ 104) ∧ (∀ d, d < n → st d ≤ st (d + 1)) ∧ (∀ d t, d < n → st d ≤ t → t < st (d + 1) → cp t ∈ A ∧ ∀ c, (cp t).testBit c = true → ∃ e, e ≤ d ∧ c = o e) ∧ ∀ d x, d < n → x ∈ A → x.testBit (o d) = true → (∀ c, x.testBit c = true → ∃ e, e ≤ d ∧ c = o e) → ∃ t, st d ≤ t ∧ t < st (d + 1) ∧ cp t = x
theorem im_16 {f : Nat → Nat} {x : Nat} (h16 : n ≤ 16) (hx : ∀ c, x.testBit c = true → c < n) : imS f x 16 = imS f x n := Nat.eq_of_testBit_eq fun b => by
  rw [Bool.eq_iff_iff, imS_bit, imS_bit]
  exact ⟨fun ⟨c, _, h2, h3⟩ => ⟨c, hx c h2, h2, h3⟩, fun ⟨c, h1, h2, h3⟩ => ⟨c, by omega, h2, h3⟩⟩
theorem im_eq {f g : Nat → Nat} {x k : Nat} (h : ∀ c, x.testBit c = true → f c = g c) : imS f x k = imS g x k := Nat.eq_of_testBit_eq fun b => by
  rw [Bool.eq_iff_iff, imS_bit, imS_bit]
  exact ⟨fun ⟨c, h1, h2, h3⟩ => ⟨c, h1, h2, by rw [← h c h2]; exact h3⟩, fun ⟨c, h1, h2, h3⟩ => ⟨c, h1, h2, by rw [h c h2]; exact h3⟩⟩
/-- a mark that does not fit goes on to no renaming -/
theorem fit_no {o r st cp : Nat → Nat} {d : Nat} (h16 : n ≤ 16) (hA : ∀ x, x ∈ A → ∀ c, x.testBit c = true → c < n) (nd : A.Nodup) (hBl : B.length = A.length) (O : ordP n A o st cp) (hd : d < n) (h : ¬ fitP A B o r st cp d) : rnC n A B o r (d + 1) = 0 := rnC_no fun ⟨f, f1, f2, f3⟩ => h ⟨fun e he => by
    rw [← f3 e (by omega), ← f3 d (by omega)]
    exact ren_shN h16 hA nd hBl f1 f2 (O.1 d hd) (O.1 e (by omega)), fun t h1 h2 => by
    obtain ⟨o1, o2, o3, o4, o5, o6⟩ := O
    obtain ⟨q1, q2⟩ := o5 d t hd h1 h2
    have : imS r (cp t) 16 = imS f (cp t) n := by
      rw [← im_16 h16 (hA _ q1)]
      refine im_eq fun c hc => ?_
      obtain ⟨e, he, ec⟩ := q2 c hc
      rw [ec]; exact (f3 e (by omega)).symm
    rw [this]
    exact f1.2 _ q1⟩
theorem used_no {o r : Nat → Nat} {d e : Nat} (hd : d < n) (he : e < d) (ho : ∀ e, e < n → o e < n) (hi' : ∀ a b, a < b → b < n → o a ≠ o b) (h : r (o e) = r (o d)) : rnC n A B o r (d + 1) = 0 := rnC_no fun ⟨f, f1, f2, f3⟩ => by
  have h1 := f3 e (by omega)
  have h2 := f3 d (by omega)
  rw [h, ← h2] at h1
  have ne := hi' e d he hd
  rcases Nat.lt_or_gt_of_ne ne with z | z
  · exact f1.1 _ _ z (ho d hd) h1
  · exact f1.1 _ _ z (ho e (by omega)) h1.symm
/-- sets that are complete are found among the goal's -/
def cmpP (A B : List Nat) (o r : Nat → Nat) (d : Nat) : Prop := ∀ x, x ∈ A → (∀ c, x.testBit c = true → ∃ e, e < d ∧ c = o e) → imS r x 16 ∈ B
theorem cmp_step {o r st cp : Nat → Nat} {d c : Nat} (O : ordP n A o st cp) (hd : d < n) (C : cmpP A B o r d) (F : fitP A B o (updR r (o d) c) st cp d) : cmpP A B o (updR r (o d) c) (d + 1) := by
  intro x hx hc
  by_cases z : x.testBit (o d) = true
  · obtain ⟨t, h1, h2, h3⟩ := O.2.2.2.2.2 d x hd hx z (fun c hc' => by
      obtain ⟨e, he, ec⟩ := hc c hc'
      exact ⟨e, by omega, ec⟩)
    rw [← h3]; exact F.2 t h1 h2
  · have hc' : ∀ c, x.testBit c = true → ∃ e, e < d ∧ c = o e := fun c' h' => by
      obtain ⟨e, he, ec⟩ := hc c' h'
      refine ⟨e, ?_, ec⟩
      rcases Nat.lt_or_ge e d with y | y
      · exact y
      · rw [show e = d by omega] at ec; rw [ec] at h'; exact absurd h' z
    have : imS (updR r (o d) c) x 16 = imS r x 16 := im_eq fun c' h' => by
      obtain ⟨e, he, ec⟩ := hc' c' h'
      rw [ec, updR_at, if_neg (O.2.1 e d he hd)]
    rw [this]
    exact C x hx hc'
theorem cmp_0 {o r : Nat → Nat} (h0 : ∀ x, x ∈ A → 0 < x) (h16 : ∀ x, x ∈ A → x < 65536) : cmpP A B o r 0 := fun x hx hc => by
  obtain ⟨c, h1, -, -⟩ := low_spec (h0 x hx) (h16 x hx)
  obtain ⟨e, he, -⟩ := hc c h1
  omega
theorem cmp_n {o r : Nat → Nat} (h16 : n ≤ 16) (hA : ∀ x, x ∈ A → ∀ c, x.testBit c = true → c < n) (ho : ∀ e, e < n → o e < n) (hi' : ∀ a b, a < b → b < n → o a ≠ o b) (inj : ∀ a b, a < b → b < n → r (o a) ≠ r (o b)) (C : cmpP A B o r n) : rnB n A B r = true := by
  rw [rnB_iff]
  refine ⟨fun i j hij hj e => ?_, fun x hx => ?_⟩
  · obtain ⟨a, ha, ea⟩ := ord_all ho hi' (show i < n by omega)
    obtain ⟨b, hb, eb⟩ := ord_all ho hi' hj
    have ne : a ≠ b := fun z => by rw [z, eb] at ea; omega
    rw [← ea, ← eb] at e
    rcases Nat.lt_or_gt_of_ne ne with z | z
    · exact inj a b z hb e
    · exact inj b a z ha e.symm
  · rw [← im_16 h16 (hA x hx)]
    exact C x hx fun c hc => by
      obtain ⟨e, he, ec⟩ := ord_all ho hi' (hA x hx c hc)
      exact ⟨e, he, ec.symm⟩
end RENO

/-! ===== GEOMETRY: choices of points, planes, facets ===== -/
section GROW
variable {N np : Nat} {X : Nat → Nat → Int} {f : Nat → Int}
theorem sumZ_single {w : Nat → Int} {e : Nat} : ∀ {n : Nat}, e < n → (∀ p, p < n → p ≠ e → w p = 0) → sumZ w n = w e
  | 0, h, _ => absurd h (Nat.not_lt_zero e)
  | n + 1, h, h0 => by
    rw [sumZ]
    by_cases q : e = n
    · subst q; rw [sumZ_0 fun k hk => h0 k (by omega) (by omega), Int.zero_add]
    · rw [h0 n (by omega) (fun z => q z.symm), sumZ_single (by omega) fun p hp => h0 p (by omega), Int.add_zero]
theorem sumZ_add {f g : Nat → Int} : ∀ n, sumZ (fun k => f k + g k) n = sumZ f n + sumZ g n
  | 0 => rfl
  | n + 1 => by rw [sumZ, sumZ, sumZ, sumZ_add n]; omega
theorem sumZ_pt {a : Int} {x : Nat → Int} {q n : Nat} (hq : q < n) : sumZ (fun p => (if p = q then a else 0) * x p) n = a * x q := by
  rw [sumZ_single hq (fun p _ hp => by rw [if_neg hp, Int.zero_mul]), if_pos rfl]
/-- no sum of places of A is nothing -/
def indA (N np : Nat) (X : Nat → Nat → Int) (A : Nat → Bool) : Prop := ∀ c : Nat → Int, (∀ p, p < np → ¬ A p = true → c p = 0) → (∀ j, j < N → sumZ (fun p => c p * X p j) np = 0) → ∀ p, p < np → c p = 0
theorem cntN_add1 {p : Nat → Bool} {e : Nat} (he : ¬ p e = true) : ∀ {n : Nat}, e < n → cntN (fun x => p x || decide (x = e)) n = cntN p n + 1
  | 0, h => absurd h (Nat.not_lt_zero e)
  | n + 1, h => by
    rw [cntN, cntN]
    by_cases q : e = n
    · subst q
      rw [if_pos (by rw [decide_eq_true rfl, Bool.or_true]), if_neg he, cntN_ext (q := p) fun k hk => by rw [decide_eq_false (by omega), Bool.or_false]]
    · rw [cntN_add1 he (by omega), decide_eq_false (fun z => q z.symm), Bool.or_false]; omega
theorem grow (hF : gful N np X) (hf : gfc N np X f) : ∀ r, r < N → ∃ A, indA N np X A ∧ cntN A np = r ∧ ∀ p, p < np → A p = true → dt N f (X p) = 0
  | 0, _ => ⟨fun _ => false, fun c hc _ p hp => hc p hp Bool.false_ne_true, cntN_0 fun k _ => Bool.false_ne_true, fun p _ h => absurd h Bool.false_ne_true⟩
  | r + 1, hr => by
    obtain ⟨A, hA, cA, zA⟩ := grow hF hf r (by omega)
    obtain ⟨w, hw, hne⟩ := gnz_pt hF hf.1.2
    obtain ⟨m, ⟨j, hj, hj2⟩, hm⟩ := hom N (X w :: ((List.range np).filter A).map X) (by rw [List.length_cons, List.length_map, filter_len]; omega)
    have mA : ∀ p, p < np → A p = true → dt N m (X p) = 0 := fun p hp h => hm _ (List.mem_cons.mpr (Or.inr (List.mem_map.mpr ⟨p, List.mem_filter.mpr ⟨List.mem_range.mpr hp, h⟩, rfl⟩)))
    obtain ⟨e, le, fe, me⟩ : ∃ e, e < np ∧ dt N f (X e) = 0 ∧ dt N m (X e) ≠ 0 := Classical.byContradiction fun z => hj2 (fct_only hf (fun p hp h0 => Classical.byContradiction fun q => z ⟨p, hp, h0, q⟩) hne (hm _ (List.mem_cons.mpr (Or.inl rfl))) hj)
    have nA : ¬ A e = true := fun z => me (mA e le z)
    refine ⟨fun x => A x || decide (x = e), fun c hc h0 => ?_, by rw [cntN_add1 nA le, cA], fun p hp h => ?_⟩
    · have h1 : dt N m (fun j => sumZ (fun p => c p * X p j) np) = 0 := by rw [dt_comm]; exact dt_0 h0
      rw [dt_sum, sumZ_single le (fun p hp hpe => by
        by_cases q : A p = true
        · rw [mA p hp q, Int.mul_zero]
        · rw [hc p hp (fun z => by rcases Bool.or_eq_true_iff.mp z with z | z; exact q z; exact hpe (of_decide_eq_true z)), Int.zero_mul])] at h1
      have ce : c e = 0 := (Int.mul_eq_zero.mp h1).resolve_right me
      refine hA c (fun p hp q => ?_) h0
      by_cases z : p = e
      · rw [z]; exact ce
      · exact hc p hp (fun w => by rcases Bool.or_eq_true_iff.mp w with w | w; exact q w; exact z (of_decide_eq_true w))
    · rcases Bool.or_eq_true_iff.mp h with h | h
      · exact zA p hp h
      · rw [of_decide_eq_true h]; exact fe
theorem cnt_last {A : Nat → Bool} {k : Nat} : ∀ {n : Nat}, cntN A n = k + 1 → ∃ p, p < n ∧ A p = true ∧ cntN A p = k
  | 0, h => absurd h (by rw [cntN]; omega)
  | n + 1, h => by
    rw [cntN] at h
    by_cases q : A n = true
    · rw [if_pos q] at h
      exact ⟨n, by omega, q, by omega⟩
    · rw [if_neg q] at h
      obtain ⟨p, h1, h2, h3⟩ := cnt_last (n := n) (by omega)
      exact ⟨p, by omega, h2, h3⟩
end GROW
section LINK
variable {l : List pt4} {D p0 p1 p2 p3 : Nat}
/-- points with a 1 behind -/
def vX (l : List pt4) (D p : Nat) : Nat → Int := fun k => if k = D then 1 else lP l p k
/-- the functional of a plane -/
def pF (D : Nat) (a : Nat → Int) (b : Int) : Nat → Int := fun k => if k = D then -b else a k
theorem ok_0 (ok : okP l D) {p k : Nat} (hp : p < l.length) (hk : D ≤ k) (hk4 : k < 4) : lP l p k = 0 := by
  have hq := ok.2.2.2.1 l[p] (List.getElem_mem hp)
  have hD := ok.2.2.2.2
  unfold lP
  rw [lP_at hp]
  match k, hk4 with
  | 0, _ => omega
  | 1, _ => omega
  | 2, _ =>
    have h := congrArg (fun q : pt4 => q.2.2.1) hq
    have h' : (if 2 < D then l[p].2.2.1 else 0) = l[p].2.2.1 := h
    rw [if_neg (by omega)] at h'
    exact h'.symm
  | 3, _ =>
    have h := congrArg (fun q : pt4 => q.2.2.2) hq
    have h' : (if 3 < D then l[p].2.2.2 else 0) = l[p].2.2.2 := h
    rw [if_neg (by omega)] at h'
    exact h'.symm
theorem sumZ_cut {f : Nat → Int} {D : Nat} : ∀ {n : Nat}, D ≤ n → (∀ k, D ≤ k → k < n → f k = 0) → sumZ f n = sumZ f D
  | 0, h, _ => by rw [Nat.le_zero.mp h]
  | n + 1, h, h0 => by
    by_cases e : D = n + 1
    · rw [e]
    · rw [sumZ, h0 n (by omega) (by omega), Int.add_zero]
      exact sumZ_cut (by omega) fun k h1 h2 => h0 k h1 (by omega)
theorem pF_dt {a : Nat → Int} {b : Int} {p : Nat} (hD : D ≤ 4) (h0 : ∀ k, D ≤ k → k < 4 → a k = 0) : dt (D + 1) (pF D a b) (vX l D p) = lev a b (lP l) p := by
  unfold dt lev
  rw [sumZ, sumZ_cut hD (fun k h1 h2 => by rw [h0 k h1 h2, Int.zero_mul])]
  have : sumZ (fun k => pF D a b k * vX l D p k) D = sumZ (fun k => a k * lP l p k) D := sumZ_ext fun k hk => by
    unfold pF vX
    rw [if_neg (by omega), if_neg (by omega)]
  rw [this]
  unfold pF vX
  rw [if_pos rfl, if_pos rfl]; omega
theorem rawN_0 {P : Nat → Nat → Int} {p q r t k : Nat} (hD : 2 ≤ D) (hk : D ≤ k) (hk4 : k < 4) : rawN P D p q r t k = 0 := by
  unfold rawN
  by_cases h2 : D = 2
  · rw [if_pos h2, if_neg (by omega), if_neg (by omega)]
  · rw [if_neg h2]
    by_cases h3 : D = 3
    · rw [if_pos h3, if_neg (by omega), if_neg (by omega), if_neg (by omega)]
    · omega
theorem chN_0 {P : Nat → Nat → Int} {k : Nat} (hD : 2 ≤ D) (hk : D ≤ k) (hk4 : k < 4) : chN P D p0 p1 p2 p3 k = 0 := by
  unfold chN smN
  rw [rawN_0 hD hk hk4]
  split
  · exact Int.zero_tdiv _
  · rfl
/-- the normal as it comes is a multiple of that made small -/
theorem raw_ch {P : Nat → Nat → Int} (hz : ∃ k, k < 4 ∧ rawN P D p0 p1 p2 p3 k ≠ 0) : ∃ g : Int, 0 < g ∧ ∀ k, k < 4 → rawN P D p0 p1 p2 p3 k = g * chN P D p0 p1 p2 p3 k := by
  have hg : 0 < gcd4 (rawN P D p0 p1 p2 p3) := by
    rcases Nat.eq_zero_or_pos (gcd4 (rawN P D p0 p1 p2 p3)) with z | z
    · obtain ⟨k, hk, hne⟩ := hz
      exact absurd (gcd4_0 z hk) hne
    · exact z
  exact ⟨gcd4 (rawN P D p0 p1 p2 p3), by omega, fun k hk => smN_mul hk hg⟩
theorem ch_raw {P : Nat → Nat → Int} (hz : ∃ k, k < 4 ∧ chN P D p0 p1 p2 p3 k ≠ 0) : ∃ k, k < 4 ∧ rawN P D p0 p1 p2 p3 k ≠ 0 := by
  refine Classical.byContradiction fun z => ?_
  obtain ⟨k, hk, hne⟩ := hz
  apply hne
  have h0 : rawN P D p0 p1 p2 p3 k = 0 := Classical.byContradiction fun w => z ⟨k, hk, w⟩
  unfold chN smN
  rw [h0]
  split
  · exact Int.zero_tdiv _
  · rfl
def dV (P : Nat → Nat → Int) (D p0 p2 : Nat) : Nat → Int := if 3 ≤ D then ap P p0 p2 else fun k => if k = 2 then 1 else 0
def dW (P : Nat → Nat → Int) (D p0 p3 : Nat) : Nat → Int := if 4 ≤ D then ap P p0 p3 else fun k => if k = 3 then 1 else 0
/-- three columns of three rows -/
def d3 (u v w : Nat → Int) (a b c : Nat) : Int := u a * (v b * w c - v c * w b) - u b * (v a * w c - v c * w a) + u c * (v a * w b - v b * w a)
theorem raw_cross {P : Nat → Nat → Int} (hD : 2 ≤ D ∧ D ≤ 4) : rawN P D p0 p1 p2 p3 0 = d3 (ap P p0 p1) (dV P D p0 p2) (dW P D p0 p3) 1 2 3 ∧ rawN P D p0 p1 p2 p3 1 = -d3 (ap P p0 p1) (dV P D p0 p2) (dW P D p0 p3) 0 2 3 ∧ rawN P D p0 p1 p2 p3 2 = d3 (ap P p0 p1) (dV P D p0 p2) (dW P D p0 p3) 0 1 3 ∧ rawN P D p0 p1 p2 p3 3 = -d3 (ap P p0 p1) (dV P D p0 p2) (dW P D p0 p3) 0 1 2 := by
  have h3 : D = 2 ∨ D = 3 ∨ D = 4 := by omega
  rcases h3 with rfl | rfl | rfl
  · simp [rawN, dV, dW, d3]
  · simp [rawN, dV, dW, d3, c2]
  · simp [rawN, dV, dW, d3, c2, c3]
end LINK

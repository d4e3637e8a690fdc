/-! ===== GEOMETRY: vectors of whole numbers ===== -/
def dt (n : Nat) (a b : Nat → Int) : Int := sumZ (fun k => a k * b k) n
theorem sumZ_ext {f g : Nat → Int} : ∀ {n : Nat}, (∀ k, k < n → f k = g k) → sumZ f n = sumZ g n
  | 0, _ => rfl
  | n + 1, h => by rw [sumZ, sumZ, h n (by omega), sumZ_ext fun k hk => h k (by omega)]
theorem sumZ_lin {f g : Nat → Int} {a b : Int} : ∀ n, sumZ (fun k => a * f k + b * g k) n = a * sumZ f n + b * sumZ g n
  | 0 => by simp [sumZ]
  | n + 1 => by rw [sumZ, sumZ, sumZ, sumZ_lin n, Int.mul_add, Int.mul_add]; omega
theorem sumZ_0 {f : Nat → Int} : ∀ {n : Nat}, (∀ k, k < n → f k = 0) → sumZ f n = 0
  | 0, _ => rfl
  | n + 1, h => by rw [sumZ, h n (by omega), sumZ_0 fun k hk => h k (by omega)]; rfl
theorem sumZ_mul {f : Nat → Int} {a : Int} : ∀ n, sumZ (fun k => a * f k) n = a * sumZ f n
  | 0 => by simp [sumZ]
  | n + 1 => by rw [sumZ, sumZ, sumZ_mul n, Int.mul_add]
/-- sums change places -/
theorem sumZ_swap {f : Nat → Nat → Int} : ∀ n m, sumZ (fun i => sumZ (fun j => f i j) m) n = sumZ (fun j => sumZ (fun i => f i j) n) m
  | 0, m => by rw [sumZ, sumZ_0]; intro k _; rfl
  | n + 1, m => by
    rw [sumZ, sumZ_swap n m]
    have : ∀ m, sumZ (fun j => sumZ (fun i => f i j) n) m + sumZ (fun j => f n j) m = sumZ (fun j => sumZ (fun i => f i j) (n + 1)) m := by
      intro m
      induction m with
      | zero => rfl
      | succ m ih => rw [sumZ, sumZ, sumZ, ← ih, sumZ]; omega
    exact this m
theorem dt_lin {n : Nat} {f g x : Nat → Int} {a b : Int} : dt n (fun k => a * f k + b * g k) x = a * dt n f x + b * dt n g x := by
  unfold dt
  rw [← sumZ_lin]
  exact sumZ_ext fun k _ => by rw [Int.add_mul, Int.mul_assoc, Int.mul_assoc]
theorem dt_linR {n : Nat} {f g x : Nat → Int} {a b : Int} : dt n x (fun k => a * f k + b * g k) = a * dt n x f + b * dt n x g := by
  unfold dt
  rw [← sumZ_lin]
  exact sumZ_ext fun k _ => by rw [Int.mul_add, Int.mul_left_comm, Int.mul_left_comm (x k) b]
theorem dt_ext {n : Nat} {f g x : Nat → Int} (h : ∀ k, k < n → f k = g k) : dt n f x = dt n g x := sumZ_ext fun k hk => by rw [h k hk]
theorem dt_extR {n : Nat} {f g x : Nat → Int} (h : ∀ k, k < n → f k = g k) : dt n x f = dt n x g := sumZ_ext fun k hk => by rw [h k hk]
theorem dt_0 {n : Nat} {f x : Nat → Int} (h : ∀ k, k < n → f k = 0) : dt n f x = 0 := sumZ_0 fun k hk => by rw [h k hk, Int.zero_mul]
theorem dt_unit {n i : Nat} {x : Nat → Int} (hi' : i < n) : dt n x (fun k => if k = i then 1 else 0) = x i := by
  unfold dt
  induction n with
  | zero => omega
  | succ n ih =>
    rw [sumZ]
    by_cases e : i = n
    · subst e
      dsimp only
      rw [sumZ_0 (fun k hk => by rw [if_neg (by omega), Int.mul_zero]), if_pos rfl, Int.mul_one, Int.zero_add]
    · dsimp only at ih ⊢
      rw [if_neg (by omega), Int.mul_zero, Int.add_zero]; exact ih (by omega)
theorem dt_comm {n : Nat} {x y : Nat → Int} : dt n x y = dt n y x := sumZ_ext fun k _ => Int.mul_comm _ _
/-- fewer equations than unknowns -/
theorem hom : ∀ (n : Nat) (V : List (Nat → Int)), V.length < n → ∃ m : Nat → Int, (∃ j, j < n ∧ m j ≠ 0) ∧ ∀ v, v ∈ V → dt n m v = 0
  | 0, V, h => absurd h (Nat.not_lt_zero _)
  | n + 1, V, h => by
    by_cases hz : ∀ v, v ∈ V → v n = 0
    · refine ⟨fun k => if k = n then 1 else 0, ⟨n, by omega, by dsimp only; rw [if_pos rfl]; decide⟩, fun v hv => ?_⟩
      rw [dt_comm, dt_unit (by omega)]; exact hz v hv
    · obtain ⟨v0, hv0, hp⟩ : ∃ v0, v0 ∈ V ∧ v0 n ≠ 0 := Classical.byContradiction fun z => hz fun v hv => Classical.byContradiction fun w => z ⟨v, hv, w⟩
      obtain ⟨l1, l2, rfl⟩ := List.append_of_mem hv0
      obtain ⟨m, ⟨j, hj, hne⟩, hm⟩ := hom n ((l1 ++ l2).map fun v k => v0 n * v k + (-v n) * v0 k) (by
        rw [List.length_map, List.length_append]
        rw [List.length_append, List.length_cons] at h
        omega)
      have ev : ∀ v, dt (n + 1) (fun k => if k = n then -dt n m v0 else v0 n * m k) v = v0 n * dt n m v - dt n m v0 * v n := by
        intro v
        show sumZ _ n + (if n = n then -dt n m v0 else v0 n * m n) * v n = _
        rw [if_pos rfl, Int.neg_mul]
        have : sumZ (fun k => (if k = n then -dt n m v0 else v0 n * m k) * v k) n = v0 n * dt n m v := by
          unfold dt
          rw [← sumZ_mul]
          exact sumZ_ext fun k hk => by rw [if_neg (by omega), Int.mul_assoc]
        rw [this]; omega
      refine ⟨fun k => if k = n then -dt n m v0 else v0 n * m k, ⟨j, by omega, ?_⟩, fun v hv => ?_⟩
      · dsimp only; rw [if_neg (by omega)]; exact Int.mul_ne_zero hp hne
      · rw [ev]
        have key : ∀ v, v ∈ l1 ++ l2 → v0 n * dt n m v - dt n m v0 * v n = 0 := by
          intro v hv
          have h9 := hm _ (List.mem_map.mpr ⟨v, hv, rfl⟩)
          rw [dt_linR] at h9
          rw [Int.mul_comm (dt n m v0)]
          rw [Int.neg_mul] at h9
          omega
        rcases List.mem_append.mp hv with hv | hv
        · exact key v (List.mem_append.mpr (Or.inl hv))
        · rcases List.mem_cons.mp hv with rfl | hv
          · rw [Int.mul_comm]; omega
          · exact key v (List.mem_append.mpr (Or.inr hv))
/-- no sum of them is nothing -/
def ind (N r : Nat) (b : Nat → Nat → Int) : Prop := ∀ c : Nat → Int, (∀ j, j < N → sumZ (fun i => c i * b i j) r = 0) → ∀ i, i < r → c i = 0
theorem ind_le {N r : Nat} {b : Nat → Nat → Int} (h : ind N r b) : r ≤ N := by
  rcases Nat.lt_or_ge N r with z | z
  · obtain ⟨m, ⟨j, hj, hne⟩, hm⟩ := hom r ((List.range N).map fun j i => b i j) (by rw [List.length_map, List.length_range]; exact z)
    exact absurd (h m (fun j hj => hm _ (List.mem_map.mpr ⟨j, List.mem_range.mpr hj, rfl⟩)) j hj) hne
  · exact z
/-- a functional of a sum -/
theorem dt_sum {N r : Nat} {c : Nat → Int} {b : Nat → Nat → Int} {m : Nat → Int} : dt N m (fun j => sumZ (fun i => c i * b i j) r) = sumZ (fun i => c i * dt N m (b i)) r := by
  unfold dt
  have h1 : sumZ (fun j => m j * sumZ (fun i => c i * b i j) r) N = sumZ (fun j => sumZ (fun i => c i * (m j * b i j)) r) N := sumZ_ext fun j _ => by
    rw [← sumZ_mul]; exact sumZ_ext fun i _ => Int.mul_left_comm _ _ _
  rw [h1, sumZ_swap]
  exact sumZ_ext fun i _ => by rw [sumZ_mul]
theorem dt_sumL {N r : Nat} {c : Nat → Int} {b : Nat → Nat → Int} {m : Nat → Int} : dt N (fun j => sumZ (fun i => c i * b i j) r) m = sumZ (fun i => c i * dt N (b i) m) r := by
  rw [dt_comm, dt_sum]; exact sumZ_ext fun i _ => by rw [dt_comm]
theorem ind_more {N r : Nat} {b : Nat → Nat → Int} {m e : Nat → Int} (h : ind N r b) (hm : ∀ i, i < r → dt N m (b i) = 0) (he : dt N m e ≠ 0) : ind N (r + 1) (fun i => if i = r then e else b i) := by
  intro c hc
  have h1 : dt N m (fun j => sumZ (fun i => c i * (if i = r then e else b i) j) (r + 1)) = 0 := by
    rw [dt_comm]; exact dt_0 hc
  rw [dt_sum, sumZ, if_pos rfl, sumZ_0 (fun i hi' => by rw [if_neg (by omega), hm i hi', Int.mul_zero]), Int.zero_add] at h1
  have hr : c r = 0 := by
    rcases Int.mul_eq_zero.mp h1 with z | z
    · exact z
    · exact absurd z he
  intro i hi'
  by_cases e1 : i = r
  · rw [e1]; exact hr
  · refine h c (fun j hj => ?_) i (by omega)
    have h2 := hc j hj
    rw [sumZ, hr, Int.zero_mul, Int.add_zero] at h2
    rw [← h2]
    exact sumZ_ext fun i hi' => by dsimp only; rw [if_neg (by omega)]
/-- independent ones, and some more, so that no functional is nothing on all -/
theorem ind_ext {N : Nat} : ∀ (k r : Nat) (b : Nat → Nat → Int), ind N r b → N ≤ r + k → ∃ (b' : Nat → Nat → Int) (r' : Nat), r ≤ r' ∧ r' ≤ N ∧ (∀ i, i < r → b' i = b i) ∧ ∀ m : Nat → Int, (∀ i, i < r' → dt N m (b' i) = 0) → ∀ j, j < N → m j = 0
  | k, r, b, h, hk => by
    by_cases hz : ∀ m : Nat → Int, (∀ i, i < r → dt N m (b i) = 0) → ∀ j, j < N → m j = 0
    · exact ⟨b, r, Nat.le_refl _, ind_le h, fun _ _ => rfl, hz⟩
    · obtain ⟨m, hm⟩ := Classical.not_forall.mp hz
      obtain ⟨hm1, hm⟩ := Classical.not_imp.mp hm
      obtain ⟨j, hm⟩ := Classical.not_forall.mp hm
      obtain ⟨hj, hm⟩ := Classical.not_imp.mp hm
      have h2 := ind_more (e := fun k => if k = j then 1 else 0) h hm1 (by rw [dt_unit hj]; exact hm)
      have h3 := ind_le h2
      match k, hk with
      | 0, hk => omega
      | k + 1, hk =>
        obtain ⟨b', r', a1, a2, a3, a4⟩ := ind_ext k (r + 1) _ h2 (by omega)
        exact ⟨b', r', by omega, a2, fun i hi' => by rw [a3 i (by omega), if_neg (by omega)], a4⟩
/-- too many functionals that are nothing on independent ones hang together -/
theorem dimL {N r s : Nat} {b g : Nat → Nat → Int} (h : ind N r b) (hs : N < r + s) (hg : ∀ i j, i < s → j < r → dt N (g i) (b j) = 0) : ∃ c : Nat → Int, (∃ i, i < s ∧ c i ≠ 0) ∧ ∀ x, sumZ (fun i => c i * dt N (g i) x) s = 0 := by
  obtain ⟨b', r', a1, a2, a3, a4⟩ := ind_ext N r b h (by omega)
  obtain ⟨c, hc, hm⟩ := hom s ((List.range (r' - r)).map fun j i => dt N (g i) (b' (r + j))) (by rw [List.length_map, List.length_range]; omega)
  refine ⟨c, hc, fun x => ?_⟩
  have h1 : ∀ j, j < N → (fun j => sumZ (fun i => c i * g i j) s) j = 0 := by
    refine a4 _ fun j hj => ?_
    rw [dt_sumL]
    by_cases e : j < r
    · rw [a3 j e]
      exact sumZ_0 fun i hi' => by rw [hg i j hi' e, Int.mul_zero]
    · have h2 := hm _ (List.mem_map.mpr ⟨j - r, List.mem_range.mpr (by omega), rfl⟩)
      rw [show r + (j - r) = j by omega] at h2
      exact h2
  rw [← dt_sumL]
  exact dt_0 h1

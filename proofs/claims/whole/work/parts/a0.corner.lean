/-! ===== GEOMETRY: corners, faces ===== -/
section COR
variable {N np : Nat} {X : Nat → Nat → Int} {l f g : Nat → Int}
theorem bndZ (w : Nat → Int) : ∀ n, ∃ K : Int, 0 < K ∧ ∀ x, x < n → w x ≤ K
  | 0 => ⟨1, by omega, fun x hx => absurd hx (Nat.not_lt_zero x)⟩
  | n + 1 => by
    obtain ⟨K, h1, h2⟩ := bndZ w n
    by_cases h : w n ≤ K
    · refine ⟨K, h1, fun x hx => ?_⟩
      by_cases e : x = n
      · rw [e]; exact h
      · exact h2 x (by omega)
    · refine ⟨w n, by omega, fun x hx => ?_⟩
      by_cases e : x = n
      · rw [e]; exact Int.le_refl _
      · have := h2 x (by omega); omega
/-- the last number is 1 -/
def gone (N np : Nat) (X : Nat → Nat → Int) : Prop := 0 < N ∧ ∀ p, p < np → X p (N - 1) = 1
theorem gone_dt (h : gone N np X) {p : Nat} (hp : p < np) : dt N (fun k => if k = N - 1 then 1 else 0) (X p) = 1 := by
  have := h.1
  rw [dt_comm, dt_unit (by omega)]; exact h.2 p hp
/-- a face's part where another functional is greatest -/
theorem gtilt (h1 : gone N np X) (hv : gval N np X l) (he : ∃ p, p < np ∧ dt N l (X p) = 0) (g : Nat → Int) : ∃ l', gval N np X l' ∧ (∃ p, p < np ∧ dt N l' (X p) = 0) ∧ ∀ x, x < np → (dt N l' (X x) = 0 ↔ dt N l (X x) = 0 ∧ ∀ y, y < np → dt N l (X y) = 0 → dt N g (X y) ≤ dt N g (X x)) := by
  obtain ⟨p, ⟨p1, p2⟩, mx⟩ := rmax (m := fun p => dt N g (X p)) (s := fun _ => 1) (A := fun p => dt N l (X p) = 0) (fun _ _ _ => by omega) he
  try dsimp only at mx
  obtain ⟨K, k1, k2⟩ := bndZ (fun x => dt N g (X x) - dt N g (X p) + 1) np
  have ev : ∀ x, x < np → dt N (fun k => K * l k + 1 * (fun k => 1 * g k + (-dt N g (X p)) * (if k = N - 1 then 1 else 0)) k) (X x) = K * dt N l (X x) + (dt N g (X x) - dt N g (X p)) := by
    intro x hx
    rw [dt_lin, dt_lin, gone_dt h1 hx]; omega
  have mx' : ∀ x, x < np → dt N l (X x) = 0 → dt N g (X x) ≤ dt N g (X p) := fun x hx h0 => by have := mx x hx h0; omega
  have out : ∀ x, x < np → dt N l (X x) ≠ 0 → K * dt N l (X x) + (dt N g (X x) - dt N g (X p)) < 0 := by
    intro x hx h0
    have h2 := hv x hx
    have h3 := k2 x hx
    try dsimp only at h3
    have h4 : K * dt N l (X x) ≤ K * (-1) := Int.mul_le_mul_of_nonneg_left (by omega) (by omega)
    omega
  refine ⟨fun k => K * l k + 1 * (fun k => 1 * g k + (-dt N g (X p)) * (if k = N - 1 then 1 else 0)) k, fun x hx => ?_, ⟨p, p1, ?_⟩, fun x hx => ?_⟩
  · rw [ev x hx]
    by_cases h0 : dt N l (X x) = 0
    · have := mx' x hx h0
      rw [h0]; omega
    · have := out x hx h0; omega
  · rw [ev p p1, p2]; omega
  · rw [ev x hx]
    constructor
    · intro h2
      have h0 : dt N l (X x) = 0 := Classical.byContradiction fun z => by have := out x hx z; omega
      refine ⟨h0, fun y hy hy0 => ?_⟩
      rw [h0] at h2
      have := mx' y hy hy0
      omega
    · rintro ⟨h0, h2⟩
      have h3 := h2 p p1 p2
      have h4 := mx' x hx h0
      rw [h0]; omega
/-- a corner: alone where some functional is greatest -/
def gco (N np : Nat) (X : Nat → Nat → Int) (p : Nat) : Prop := p < np ∧ ∃ φ, gval N np X φ ∧ gnz N φ ∧ ∀ x, x < np → (dt N φ (X x) = 0 ↔ x = p)
def ginj (N np : Nat) (X : Nat → Nat → Int) : Prop := 2 ≤ np ∧ ∃ g : Nat → Int, ∀ p q, p < np → q < np → dt N g (X p) = dt N g (X q) → p = q
theorem face_max (h1 : gone N np X) (hi' : ginj N np X) (hv : gval N np X l) (he : ∃ p, p < np ∧ dt N l (X p) = 0) (g : Nat → Int) : ∃ p, gco N np X p ∧ dt N l (X p) = 0 ∧ ∀ x, x < np → dt N l (X x) = 0 → dt N g (X x) ≤ dt N g (X p) := by
  obtain ⟨l1, v1, e1, z1⟩ := gtilt h1 hv he g
  obtain ⟨h2, u, hu⟩ := hi'
  obtain ⟨l2, v2, ⟨p, hp, p0⟩, z2⟩ := gtilt h1 v1 e1 u
  have hz := (z2 p hp).mp p0
  have hz1 := (z1 p hp).mp hz.1
  have one : ∀ x, x < np → dt N l2 (X x) = 0 → x = p := by
    intro x hx h0
    have hx2 := (z2 x hx).mp h0
    have a1 := hz.2 x hx hx2.1
    have a2 := hx2.2 p hp hz.1
    exact hu x p hx hp (by omega)
  refine ⟨p, ⟨hp, l2, v2, ?_, fun x hx => ⟨one x hx, fun e => by rw [e]; exact p0⟩⟩, hz1.1, hz1.2⟩
  by_cases ep : p = 0
  · exact gnz_of (x := X 1) fun z => by have := one 1 (by omega) z; omega
  · exact gnz_of (x := X 0) fun z => by have := one 0 (by omega) z; omega
theorem all_max (h1 : gone N np X) (hi' : ginj N np X) (g : Nat → Int) : ∃ p, gco N np X p ∧ ∀ x, x < np → dt N g (X x) ≤ dt N g (X p) := by
  have z : ∀ x, dt N (fun _ => 0) (X x) = 0 := fun x => dt_0 fun _ _ => rfl
  obtain ⟨p, a, -, b⟩ := face_max (l := fun _ => 0) h1 hi' (fun x _ => by rw [z]; exact Int.le_refl _) ⟨0, by have := hi'.1; omega, z 0⟩ g
  exact ⟨p, a, fun x hx => b x hx (z x)⟩
theorem gpr_dt {m : Nat → Int} (h : gpr N m l) {x : Nat → Int} {j : Nat} (hj : j < N) : dt N m x * l j = m j * dt N l x := by
  have h2 : dt N (fun k => l j * m k + (-m j) * l k) x = 0 := dt_0 fun k hk => by
    have := h k j hk hj
    rw [Int.neg_mul, Int.mul_comm (l j)]; omega
  rw [dt_lin, Int.neg_mul, Int.mul_comm (l j)] at h2
  omega
/-- no facet lies in another -/
theorem fct_sub (hf : gfc N np X f) (hg : gfc N np X g) (h : gzi N np X f g) {x : Nat → Int} (hx : dt N g x = 0) : dt N f x = 0 := by
  obtain ⟨j, hj, hne⟩ := hg.1.2
  have h2 := gpr_dt (hf.2 g h) (x := x) hj
  rw [hx, Int.zero_mul] at h2
  rcases Int.mul_eq_zero.mp h2.symm with z | z
  · exact absurd z hne
  · exact z
/-- what is nothing on a face's corners is nothing on it -/
theorem face_0 (h1 : gone N np X) (hi' : ginj N np X) (hv : gval N np X l) {m : Nat → Int} (h : ∀ p, gco N np X p → dt N l (X p) = 0 → dt N m (X p) = 0) : gzi N np X l m := by
  intro x hx h0
  obtain ⟨p, c1, z1, mx⟩ := face_max h1 hi' hv ⟨x, hx, h0⟩ m
  obtain ⟨q, c2', z2, mn⟩ := face_max h1 hi' hv ⟨x, hx, h0⟩ (fun k => (-1) * m k + 0 * m k)
  have a := mx x hx h0
  have b := mn x hx h0
  rw [dt_lin, dt_lin] at b
  rw [h p c1 z1] at a
  rw [h q c2' z2] at b
  omega
theorem cor_facets (hf : gful N np X) {p : Nat} (hc : gco N np X p) : (∃ f, gfc N np X f ∧ dt N f (X p) = 0) ∧ ∀ x, x < np → x ≠ p → ∃ f, gfc N np X f ∧ dt N f (X p) = 0 ∧ dt N f (X x) < 0 := by
  obtain ⟨hp, φ, v, n, z⟩ := hc
  have key : ∀ x, x < np → x ≠ p → ∃ f, gfc N np X f ∧ dt N f (X p) = 0 ∧ dt N f (X x) < 0 := by
    intro x hx hne
    have h0 : dt N φ (X x) < 0 := by
      have h2 := v x hx
      have h3 : dt N φ (X x) ≠ 0 := fun e => hne ((z x hx).mp e)
      omega
    obtain ⟨f, f1, f2, f3⟩ := facet_neg hf v n h0
    exact ⟨f, f1, f2 p hp ((z p hp).mpr rfl), f3⟩
  refine ⟨?_, key⟩
  obtain ⟨x, hx, hne⟩ := gnz_pt hf n
  obtain ⟨f, f1, f2, -⟩ := key x hx (fun e => hne ((z x hx).mpr e))
  exact ⟨f, f1, f2⟩
theorem cor_of (hf : gful N np X) {p : Nat} (hp : p < np) (h0 : ∃ f, gfc N np X f ∧ dt N f (X p) = 0) (h : ∀ x, x < np → x ≠ p → ∃ f, gfc N np X f ∧ dt N f (X p) = 0 ∧ dt N f (X x) ≠ 0) : gco N np X p := by
  have key : ∀ k, k ≤ np → ∃ φ, gval N np X φ ∧ gnz N φ ∧ dt N φ (X p) = 0 ∧ ∀ x, x < k → x ≠ p → dt N φ (X x) < 0 := by
    intro k
    induction k with
    | zero =>
      intro _
      obtain ⟨f, f1, f2⟩ := h0
      exact ⟨f, f1.1.1, f1.1.2, f2, fun x hx => absurd hx (Nat.not_lt_zero x)⟩
    | succ k ih =>
      intro hk
      obtain ⟨φ, v, n, z, neg⟩ := ih (by omega)
      by_cases e : k = p
      · exact ⟨φ, v, n, z, fun x hx hne => neg x (by omega) hne⟩
      · obtain ⟨f, f1, f2, f3⟩ := h k (by omega) e
        have ev : ∀ x, dt N (fun k => 1 * φ k + 1 * f k) x = dt N φ x + dt N f x := fun x => by rw [dt_lin]; omega
        refine ⟨fun k => 1 * φ k + 1 * f k, fun x hx => ?_, ?_, ?_, fun x hx hne => ?_⟩
        · have a := v x hx
          have b := f1.1.1 x hx
          rw [ev]; omega
        · obtain ⟨x, hx, hne⟩ := gnz_pt hf n
          have a := v x hx
          have b := f1.1.1 x hx
          exact gnz_of (x := X x) (by rw [ev]; omega)
        · rw [ev, z, f2]; rfl
        · have a := v x (by omega)
          have b := f1.1.1 x (by omega)
          rw [ev]
          by_cases e2 : x = k
          · subst e2; omega
          · have := neg x (by omega) hne; omega
  obtain ⟨φ, v, n, z, neg⟩ := key np (Nat.le_refl _)
  refine ⟨hp, φ, v, n, fun x hx => ⟨fun e => Classical.byContradiction fun hne => ?_, fun e => by rw [e]; exact z⟩⟩
  have := neg x hx hne; omega
/-- the corners alone: κ tells their places -/
def gcr (N np : Nat) (X : Nat → Nat → Int) (nc : Nat) (κ : Nat → Nat) : Prop := (∀ p, gco N np X p ↔ ∃ c, c < nc ∧ κ c = p) ∧ ∀ a b, a < nc → b < nc → κ a = κ b → a = b
variable {nc : Nat} {κ : Nat → Nat}
theorem gcr_val (h1 : gone N np X) (hi' : ginj N np X) (hk : gcr N np X nc κ) : gval N nc (fun c => X (κ c)) l ↔ gval N np X l := by
  constructor
  · intro h x hx
    obtain ⟨p, c1, mx⟩ := all_max h1 hi' l
    obtain ⟨c, hc, rfl⟩ := (hk.1 p).mp c1
    exact Int.le_trans (mx x hx) (h c hc)
  · intro h c hc
    exact h _ ((hk.1 _).mpr ⟨c, hc, rfl⟩).1
theorem gcr_ful (h1 : gone N np X) (hi' : ginj N np X) (hk : gcr N np X nc κ) (hf : gful N np X) : gful N nc (fun c => X (κ c)) := by
  intro m hm
  refine hf m fun x hx => ?_
  have z : ∀ x, dt N (fun _ => 0) (X x) = 0 := fun x => dt_0 fun _ _ => rfl
  refine face_0 (l := fun _ => 0) h1 hi' (fun x _ => by rw [z]; exact Int.le_refl _) (fun p hp _ => ?_) x hx (z x)
  obtain ⟨c, hc, rfl⟩ := (hk.1 p).mp hp
  exact hm c hc
theorem gcr_zi (h1 : gone N np X) (hi' : ginj N np X) (hk : gcr N np X nc κ) (hv : gval N np X l) {m : Nat → Int} : gzi N nc (fun c => X (κ c)) l m ↔ gzi N np X l m := by
  constructor
  · intro h
    refine face_0 h1 hi' hv fun p hp h0 => ?_
    obtain ⟨c, hc, rfl⟩ := (hk.1 p).mp hp
    exact h c hc h0
  · intro h c hc
    exact h _ ((hk.1 _).mpr ⟨c, hc, rfl⟩).1
theorem gcr_fc (h1 : gone N np X) (hi' : ginj N np X) (hk : gcr N np X nc κ) : gfc N nc (fun c => X (κ c)) f ↔ gfc N np X f := by
  unfold gfc
  rw [gcr_val h1 hi' hk]
  constructor
  · rintro ⟨⟨a, b⟩, c⟩
    exact ⟨⟨a, b⟩, fun m hm => c m ((gcr_zi h1 hi' hk a).mpr hm)⟩
  · rintro ⟨⟨a, b⟩, c⟩
    exact ⟨⟨a, b⟩, fun m hm => c m ((gcr_zi h1 hi' hk a).mp hm)⟩
theorem gcr_co (hk : gcr N np X nc κ) {c : Nat} (hc : c < nc) : gco N nc (fun c => X (κ c)) c := by
  obtain ⟨hp, φ, v, n, z⟩ := (hk.1 (κ c)).mpr ⟨c, hc, rfl⟩
  refine ⟨hc, φ, fun x hx => v _ ((hk.1 _).mpr ⟨x, hx, rfl⟩).1, n, fun x hx => ?_⟩
  rw [z _ ((hk.1 _).mpr ⟨x, hx, rfl⟩).1]
  exact ⟨fun e => hk.2 x c hx hc e, fun e => by rw [e]⟩
theorem gcr_one (hk : gcr N np X nc κ) (h1 : gone N np X) : gone N nc (fun c => X (κ c)) := ⟨h1.1, fun c hc => h1.2 _ ((hk.1 _).mpr ⟨c, hc, rfl⟩).1⟩
end COR

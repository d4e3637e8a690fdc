/-! ===== GEOMETRY: edges lead everywhere; places in a body; facets enough ===== -/
section CONN
variable {N n : Nat} {X : Nat → Nat → Int} {g : Nat → Int}
/-- from a corner that isn't highest an edge goes up -/
theorem edge_up (P : gP N n X) {c b : Nat} (hc : c < n) (hb : b < n) (hg : dt N g (X c) < dt N g (X b)) : ∃ u, u < n ∧ u ≠ c ∧ gE N n X c u ∧ dt N g (X c) < dt N g (X u) := by
  obtain ⟨φ, h, H⟩ := P.gen hc
  have ev : ∀ x, x < n → dt N (fun k => 1 * g k + (-dt N g (X c)) * (if k = N - 1 then 1 else 0)) (X x) = dt N g (X x) - dt N g (X c) := fun x hx => by rw [dt_lin, gone_dt P.2.1 hx]; omega
  obtain ⟨m, em⟩ : ∃ m : Nat → Int, m = fun k => 1 * g k + (-dt N g (X c)) * (if k = N - 1 then 1 else 0) := ⟨_, rfl⟩
  rw [← em] at ev
  have hbc : b ≠ c := fun e => by rw [e] at hg; omega
  obtain ⟨p, ⟨p1, p2⟩, mx⟩ := rmax (m := fun x => dt N m (X x)) (s := fun x => -dt N φ (X x)) (A := fun x => x ≠ c) (n := n) (fun p hp hA => by have := H.2.2.1 p hp hA; omega) ⟨b, hb, hbc⟩
  try dsimp only at mx
  have sp : 0 < -dt N φ (X p) := by have := H.2.2.1 p p1 p2; omega
  have sb : 0 < -dt N φ (X b) := by have := H.2.2.1 b hb hbc; omega
  have mb : 0 < dt N m (X b) := by rw [ev b hb]; omega
  have mp : 0 < dt N m (X p) := by
    have h1 := mx b hb hbc
    have h2 : 0 < dt N m (X b) * -dt N φ (X p) := Int.mul_pos mb sp
    exact Int.pos_of_mul_pos_left (show 0 < dt N m (X p) * -dt N φ (X b) by omega) sb
  have eq : ∀ x, dt N (fun k => (-dt N φ (X p)) * m k + dt N m (X p) * φ k) (X x) = dt N m (X x) * (-dt N φ (X p)) - dt N m (X p) * (-dt N φ (X x)) := fun x => by
    rw [dt_lin, Int.mul_comm (-dt N φ (X p)), Int.mul_neg (dt N m (X p)) (dt N φ (X x))]; omega
  have mc : dt N m (X c) = 0 := by rw [ev c hc]; omega
  have qc : dt N (fun k => (-dt N φ (X p)) * m k + dt N m (X p) * φ k) (X c) = 0 := by rw [eq, mc, H.2.1]; omega
  have qv : gval N n X (fun k => (-dt N φ (X p)) * m k + dt N m (X p) * φ k) := by
    intro x hx
    by_cases e : x = c
    · rw [e, qc]; exact Int.le_refl _
    · have := mx x hx e
      rw [eq]; omega
  obtain ⟨u, u1, u2, u3, uE, -⟩ := top_edge P H hc qv qc ⟨p, p1, p2, by rw [eq]; omega⟩
  refine ⟨u, u1, u2, uE, ?_⟩
  rw [eq] at u3
  have su : 0 < -dt N φ (X u) := by have := H.2.2.1 u u1 u2; omega
  have h3 : 0 < dt N m (X p) * -dt N φ (X u) := Int.mul_pos mp su
  have h4 : 0 < dt N m (X u) := Int.pos_of_mul_pos_left (show 0 < dt N m (X u) * -dt N φ (X p) by omega) sp
  rw [ev u u1] at h4
  omega
/-- a set of corners that no edge leaves holds all -/
theorem gconn (P : gP N n X) {R : Nat → Prop} {a : Nat} (ha : a < n) (hR : R a) (hcl : ∀ c u, c < n → u < n → u ≠ c → R c → gE N n X c u → R u) {b : Nat} (hb : b < n) : R b := by
  obtain ⟨φ, v, z, neg⟩ := P.exp hb
  obtain ⟨c, ⟨c1, c2'⟩, mx⟩ := rmax (m := fun x => dt N φ (X x)) (s := fun _ => 1) (A := R) (n := n) (fun _ _ _ => by omega) ⟨a, ha, hR⟩
  by_cases e : c = b
  · rw [← e]; exact c2'
  · exfalso
    have h1 := neg c c1 e
    obtain ⟨u, u1, u2, uE, u4⟩ := edge_up (g := φ) P c1 hb (by omega)
    have h2 := mx u u1 (hcl c u c1 u1 u2 c2' uE)
    try dsimp only at h2
    omega
/-- a place in the body that is on some facets: these have a corner in common -/
theorem tight (P : gP N n X) (hn : 0 < n) {m : Nat} {G : Nat → Nat → Int} (hG : ∀ j, j < m → gval N n X (G j)) (hall : ∀ f, gfc N n X f → ∃ j, j < m ∧ gzi N n X f (G j) ∧ gzi N n X (G j) f) (hfc : ∀ j, j < m → gfc N n X (G j)) {x : Nat → Int} (x1 : x (N - 1) = 1) (hx : ∀ j, j < m → dt N (G j) x ≤ 0) : ∃ c, c < n ∧ ∀ j, j < m → dt N (G j) x = 0 → dt N (G j) (X c) = 0 := by
  refine Classical.byContradiction fun hno => ?_
  obtain ⟨L, eL⟩ : ∃ L : Nat → Int, L = fun k => sumZ (fun j => (if dt N (G j) x = 0 then 1 else 0) * G j k) m := ⟨_, rfl⟩
  have Ld : ∀ y, dt N L y = sumZ (fun j => (if dt N (G j) x = 0 then 1 else 0) * dt N (G j) y) m := fun y => by rw [eL]; exact dt_sumL
  have Lx : dt N L x = 0 := by
    rw [Ld]
    refine sumZ_0 fun j hj => ?_
    by_cases h : dt N (G j) x = 0
    · rw [h, Int.mul_zero]
    · rw [if_neg h, Int.zero_mul]
  have Lc : ∀ c, c < n → dt N L (X c) < 0 := by
    intro c hc
    rw [Ld]
    obtain ⟨j, hj, j0, jc⟩ : ∃ j, j < m ∧ dt N (G j) x = 0 ∧ dt N (G j) (X c) ≠ 0 := Classical.byContradiction fun z => hno ⟨c, hc, fun j hj h0 => Classical.byContradiction fun w => z ⟨j, hj, h0, w⟩⟩
    refine sumZ_neg (fun k hk => ?_) ⟨j, hj, ?_⟩
    · have := hG k hk c hc
      split <;> omega
    · have := hG j hj c hc
      rw [if_pos j0]; omega
  obtain ⟨c, ⟨c1, -⟩, mx⟩ := rmax (m := fun y => dt N L (X y)) (s := fun _ => 1) (A := fun _ => True) (n := n) (fun _ _ _ => by omega) ⟨0, hn, trivial⟩
  try dsimp only at mx
  have hN := P.2.1.1
  have K := Lc c c1
  have eu : ∀ y : Nat → Int, y (N - 1) = 1 → dt N (fun k => if k = N - 1 then 1 else 0) y = 1 := fun y hy => by rw [dt_comm, dt_unit (by omega)]; exact hy
  have ev : ∀ y : Nat → Int, y (N - 1) = 1 → dt N (fun k => 1 * L k + (-dt N L (X c)) * (if k = N - 1 then 1 else 0)) y = dt N L y - dt N L (X c) := fun y hy => by rw [dt_lin, eu y hy]; omega
  have v' : gval N n X (fun k => 1 * L k + (-dt N L (X c)) * (if k = N - 1 then 1 else 0)) := fun y hy => by
    rw [ev _ (P.2.1.2 y hy)]
    have := mx y hy trivial
    omega
  have px : 0 < dt N (fun k => 1 * L k + (-dt N L (X c)) * (if k = N - 1 then 1 else 0)) x := by rw [ev x x1, Lx]; omega
  obtain ⟨f, f1, -, f3⟩ := facet_pos P.1 v' (gnz_of (x := x) (by omega)) px
  obtain ⟨j, hj, z1, z2⟩ := hall f f1
  -- f and G j go the same way
  obtain ⟨y, hy, hyn⟩ := gnz_pt P.1 f1.1.2
  obtain ⟨k, hk, hkn⟩ := f1.1.2
  have pr := f1.2 (G j) z1
  have r1 := gpr_dt pr (x := x) hk
  have r2 := gpr_dt pr (x := X y) hk
  have fy : dt N f (X y) < 0 := by have := f1.1.1 y hy; omega
  have gy : dt N (G j) (X y) < 0 := by
    have h1 := hG j hj y hy
    have h2 : dt N (G j) (X y) ≠ 0 := fun e => hyn (z2 y hy e)
    omega
  have gx := hx j hj
  rcases Int.lt_or_gt_of_ne hkn with w | w
  · have a1 : 0 < dt N (G j) (X y) * f k := Int.mul_pos_of_neg_of_neg gy w
    have a2 : 0 ≤ dt N (G j) x * f k := Int.mul_nonneg_of_nonpos_of_nonpos gx (by omega)
    have a3 : G j k < 0 := by
      refine Classical.byContradiction fun q => ?_
      have : G j k * dt N f (X y) ≤ 0 := Int.mul_nonpos_of_nonneg_of_nonpos (by omega) (by omega)
      omega
    have : G j k * dt N f x < 0 := Int.mul_neg_of_neg_of_pos a3 f3
    omega
  · have a1 : dt N (G j) (X y) * f k < 0 := Int.mul_neg_of_neg_of_pos gy w
    have a2 : dt N (G j) x * f k ≤ 0 := Int.mul_nonpos_of_nonpos_of_nonneg gx (by omega)
    have a3 : 0 < G j k := by
      refine Classical.byContradiction fun q => ?_
      have : 0 ≤ G j k * dt N f (X y) := Int.mul_nonneg_of_nonpos_of_nonpos (by omega) (by omega)
      omega
    have : 0 < G j k * dt N f x := Int.mul_pos a3 f3
    omega
/-- there are more facets than dimensions -/
theorem many_f (P : gP N n X) {m : Nat} {G : Nat → Nat → Int} (hall : ∀ f, gfc N n X f → ∃ j, j < m ∧ gzi N n X f (G j)) (hfc : ∀ j, j < m → gfc N n X (G j)) : N ≤ m := by
  rcases Nat.lt_or_ge m N with z | z
  · exfalso
    obtain ⟨x, ⟨i, hi', hne⟩, hx⟩ := hom N ((List.range m).map G) (by rw [List.length_map, List.length_range]; exact z)
    have g0 : ∀ j, j < m → dt N (G j) x = 0 := fun j hj => by rw [dt_comm]; exact hx _ (List.mem_map.mpr ⟨j, List.mem_range.mpr hj, rfl⟩)
    have f0 : ∀ f, gfc N n X f → dt N f x = 0 := fun f hf => by
      obtain ⟨j, hj, h1⟩ := hall f hf
      exact fct_sub hf (hfc j hj) h1 (g0 j hj)
    have l0 : ∀ l, gval N n X l → gnz N l → dt N l x = 0 := by
      intro l hv hn
      rcases Int.lt_trichotomy (dt N l x) 0 with w | w | w
      · obtain ⟨f, f1, -, f3⟩ := facet_neg P.1 hv hn w
        have := f0 f f1; omega
      · exact w
      · obtain ⟨f, f1, -, f3⟩ := facet_pos P.1 hv hn w
        have := f0 f f1; omega
    have hN := P.2.1.1
    have ex : ∀ y : Nat → Int, dt N (fun k => if k = N - 1 then 1 else 0) y = y (N - 1) := fun y => by rw [dt_comm, dt_unit (by omega)]
    have nzu : ∀ a : Int, a ≠ 0 → gnz N (fun k => a * (if k = N - 1 then 1 else 0) + 0 * (if k = N - 1 then 1 else 0)) := fun a ha => ⟨N - 1, by omega, by dsimp only; rw [if_pos rfl]; omega⟩
    have xl : x (N - 1) = 0 := by
      have := l0 (fun k => (-1) * (if k = N - 1 then 1 else 0) + 0 * (if k = N - 1 then 1 else 0)) (fun p hp => by rw [dt_lin, gone_dt P.2.1 hp]; omega) (nzu (-1) (by decide))
      rw [dt_lin, ex] at this
      omega
    obtain ⟨K, k1, k2⟩ := bndZ (fun p => X p i) n
    have ei : ∀ y : Nat → Int, dt N (fun k => if k = i then 1 else 0) y = y i := fun y => by rw [dt_comm, dt_unit hi']
    have ev : ∀ y : Nat → Int, dt N (fun k => 1 * (if k = i then 1 else 0) + (-K) * (if k = N - 1 then 1 else 0)) y = y i - K * y (N - 1) := fun y => by rw [dt_lin, ei, ex, Int.neg_mul]; omega
    have := l0 (fun k => 1 * (if k = i then 1 else 0) + (-K) * (if k = N - 1 then 1 else 0)) (fun p hp => by
      rw [ev, P.2.1.2 p hp]
      have := k2 p hp
      try dsimp only at this
      omega) (gnz_of (x := x) (by rw [ev, xl]; omega))
    rw [ev, xl] at this
    omega
  · exact z
end CONN

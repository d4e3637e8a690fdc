/-! ===== GEOMETRY: all facets; from facet to facet ===== -/
section DUALG
variable {N n m : Nat} {X G : Nat → Nat → Int} {x f g z : Nat → Int}
/-- where all facets are nothing nothing is -/
theorem fz_0 (P : gP N n X) (h0 : ∀ f, gfc N n X f → dt N f x = 0) {i : Nat} (hi' : i < N) : x i = 0 := by
  have l0 : ∀ l, gval N n X l → gnz N l → dt N l x = 0 := by
    intro l hv hn
    rcases Int.lt_trichotomy (dt N l x) 0 with w | w | w
    · obtain ⟨f, f1, -, f3⟩ := facet_neg P.1 hv hn w
      have := h0 f f1; omega
    · exact w
    · obtain ⟨f, f1, -, f3⟩ := facet_pos P.1 hv hn w
      have := h0 f f1; omega
  have hN := P.2.1.1
  have ex : ∀ y : Nat → Int, dt N (fun k => if k = N - 1 then 1 else 0) y = y (N - 1) := fun y => by rw [dt_comm, dt_unit (by omega)]
  have xl : x (N - 1) = 0 := by
    have := l0 (fun k => (-1) * (if k = N - 1 then 1 else 0) + 0 * (if k = N - 1 then 1 else 0)) (fun p hp => by rw [dt_lin, gone_dt P.2.1 hp]; omega) ⟨N - 1, by omega, by dsimp only; rw [if_pos rfl]; omega⟩
    rw [dt_lin, ex] at this
    omega
  refine Classical.byContradiction fun hne => ?_
  obtain ⟨K, k1, k2⟩ := bndZ (fun p => X p i) n
  have ei : ∀ y : Nat → Int, dt N (fun k => if k = i then 1 else 0) y = y i := fun y => by rw [dt_comm, dt_unit hi']
  have ev : ∀ y : Nat → Int, dt N (fun k => 1 * (if k = i then 1 else 0) + (-K) * (if k = N - 1 then 1 else 0)) y = y i - K * y (N - 1) := fun y => by rw [dt_lin, ei, ex, Int.neg_mul]; omega
  have := l0 (fun k => 1 * (if k = i then 1 else 0) + (-K) * (if k = N - 1 then 1 else 0)) (fun p hp => by
    rw [ev, P.2.1.2 p hp]
    have := k2 p hp
    try dsimp only at this
    omega) (gnz_of (x := x) (by rw [ev, xl]; omega))
  rw [ev, xl] at this
  omega
/-- two functionals of one facet go the same way -/
theorem fct_way (hf : gfc N n X f) (hg : gfc N n X g) (z1 : gzi N n X f g) (z2 : gzi N n X g f) (ful : gful N n X) (h : 0 < dt N f x) : 0 < dt N g x := by
  obtain ⟨y, hy, hyn⟩ := gnz_pt ful hf.1.2
  obtain ⟨k, hk, hkn⟩ := hf.1.2
  have pr := hf.2 g z1
  have r1 := gpr_dt pr (x := x) hk
  have r2 := gpr_dt pr (x := X y) hk
  have fy : dt N f (X y) < 0 := by have := hf.1.1 y hy; omega
  have gy : dt N g (X y) < 0 := by
    have h1 := hg.1.1 y hy
    have h2 : dt N g (X y) ≠ 0 := fun e => hyn (z2 y hy e)
    omega
  have e : f k * (dt N g x * dt N f (X y) - dt N f x * dt N g (X y)) = 0 := by grind
  have e := (Int.mul_eq_zero.mp e).resolve_left hkn
  have a1 : dt N f x * dt N g (X y) < 0 := Int.mul_neg_of_pos_of_neg h gy
  refine Classical.byContradiction fun z => ?_
  have : 0 ≤ dt N g x * dt N f (X y) := Int.mul_nonneg_of_nonpos_of_nonpos (by omega) (by omega)
  omega
/-- all facets, no two alike -/
def famA (N n : Nat) (X : Nat → Nat → Int) (m : Nat) (G : Nat → Nat → Int) : Prop := fam N n X m G ∧ ∀ f, gfc N n X f → ∃ j, j < m ∧ gzi N n X f (G j) ∧ gzi N n X (G j) f
theorem famA_ex (N n : Nat) (X : Nat → Nat → Int) : ∃ m G, famA N n X m G := by
  obtain ⟨m, κ, e1, e2, e3⟩ := enP_ex (fun s => ∃ f, gfc N n X f ∧ ∀ c, c < n → (s.testBit c = true ↔ dt N f (X c) = 0)) (2 ^ n)
  have ex : ∀ j, ∃ f, j < m → gfc N n X f ∧ ∀ c, c < n → ((κ j).testBit c = true ↔ dt N f (X c) = 0) := fun j => by
    by_cases hj : j < m
    · obtain ⟨f, h1, h2⟩ := (e1 j hj).2
      exact ⟨f, fun _ => ⟨h1, h2⟩⟩
    · exact ⟨fun _ => 0, fun z => absurd z hj⟩
  obtain ⟨G, hG⟩ := Classical.axiomOfChoice ex
  refine ⟨m, G, ⟨fun j hj => (hG j hj).1, fun i j hi' hj hne hz => hne (e2 i j hi' hj (Nat.eq_of_testBit_eq fun c => ?_))⟩, fun f hf => ?_⟩
  · by_cases hc : c < n
    · rw [Bool.eq_iff_iff, (hG i hi').2 c hc, (hG j hj).2 c hc]
      exact ⟨hz c hc, fun h => fct_sub (hG i hi').1 (hG j hj).1 hz h⟩
    · have l1 : κ i < 2 ^ c := Nat.lt_of_lt_of_le (e1 i hi').1 (Nat.pow_le_pow_right (by decide) (by omega))
      have l2 : κ j < 2 ^ c := Nat.lt_of_lt_of_le (e1 j hj).1 (Nat.pow_le_pow_right (by decide) (by omega))
      rw [Nat.testBit_lt_two_pow l1, Nat.testBit_lt_two_pow l2]
  · have bit : ∀ c, c < n → ((mask (fun c => decide (dt N f (X c) = 0)) n).testBit c = true ↔ dt N f (X c) = 0) := fun c hc => by
      rw [mask_bit, decide_eq_true hc, Bool.true_and, decide_eq_true_eq]
    obtain ⟨j, hj, e⟩ := e3 _ (mask_lt _ _) ⟨f, hf, bit⟩
    have hb := (hG j hj).2
    rw [e] at hb
    exact ⟨j, hj, fun c hc h => (hb c hc).mp ((bit c hc).mpr h), fun c hc h => (bit c hc).mp ((hb c hc).mpr h)⟩
theorem famA.one (A : famA N n X m G) {i j : Nat} (hi' : i < m) (hj : j < m) (h : gzi N n X (G i) (G j)) : i = j := Classical.byContradiction fun e => A.1.2 i j hi' hj e h
/-- common multiples -/
theorem comZ {a : Nat → Int} : ∀ {m : Nat}, (∀ j, j < m → 0 < a j) → ∃ (A : Int) (t : Nat → Int), 0 < A ∧ ∀ j, j < m → 0 < t j ∧ t j * a j = A
  | 0, _ => ⟨1, fun _ => 0, by decide, fun j hj => absurd hj (Nat.not_lt_zero j)⟩
  | m + 1, h => by
    obtain ⟨A, t, h1, h2⟩ := comZ (m := m) fun j hj => h j (by omega)
    have h3 := h m (by omega)
    refine ⟨A * a m, fun j => if j = m then A else t j * a m, Int.mul_pos h1 h3, fun j hj => ?_⟩
    by_cases e : j = m
    · subst e
      dsimp only
      rw [if_pos rfl]; exact ⟨h1, rfl⟩
    · have := h2 j (by omega)
      dsimp only
      rw [if_neg e]
      refine ⟨Int.mul_pos this.1 h3, ?_⟩
      rw [← this.2, Int.mul_assoc, Int.mul_comm (a m), ← Int.mul_assoc]
/-- the same functionals as places, the places as functionals -/
theorem dual_P (P : gP N n X) (hN : 2 ≤ N) (A : famA N n X m G) : ∃ W : Nat → Nat → Int, gP N m W ∧ ∀ ζ : Nat → Int, ∃ z : Nat → Int, ∀ j, j < m → (dt N (G j) z = 0 ↔ dt N ζ (W j) = 0) ∧ (dt N ζ (W j) ≤ 0 → dt N (G j) z ≤ 0) := by
  have hm : N ≤ m := many_f P (fun f hf => by obtain ⟨j, hj, h1, -⟩ := A.2 f hf; exact ⟨j, hj, h1⟩) A.1.1
  -- the middle
  obtain ⟨y, ey⟩ : ∃ y : Nat → Int, y = fun k => sumZ (fun p => 1 * X p k) n := ⟨_, rfl⟩
  have yd : ∀ l, dt N l y = sumZ (fun p => 1 * dt N l (X p)) n := fun l => by rw [ey]; exact dt_sum
  have ypos : ∀ j, j < m → 0 < -dt N (G j) y := fun j hj => by
    obtain ⟨p, hp, hne⟩ := gnz_pt P.1 (A.1.1 j hj).1.2
    have v := (A.1.1 j hj).1.1
    have : dt N (G j) y < 0 := by
      rw [yd]
      refine sumZ_neg (fun k hk => ?_) ⟨p, hp, ?_⟩
      · have := v k hk; omega
      · have := v p hp; omega
    omega
  obtain ⟨B, t, hB, ht⟩ := comZ ypos
  obtain ⟨W, eW⟩ : ∃ W : Nat → Nat → Int, W = fun j k => if k = N - 1 then 1 else t j * G j k := ⟨_, rfl⟩
  -- a functional of W as a place
  have key : ∀ (ζ : Nat → Int) j, j < m → t j * dt N (G j) (fun k => B * (if k = N - 1 then 0 else ζ k) + (-ζ (N - 1)) * y k) = B * dt N ζ (W j) := fun ζ j hj => by
    rw [dt_linR]
    have h1 : t j * dt N (G j) (fun k => if k = N - 1 then 0 else ζ k) + ζ (N - 1) = dt N ζ (W j) := by
      have e1 : t j * dt N (G j) (fun k => if k = N - 1 then 0 else ζ k) = dt N (fun k => t j * G j k + 0 * G j k) (fun k => if k = N - 1 then 0 else ζ k) := by rw [dt_lin]; omega
      rw [e1]
      unfold dt
      obtain ⟨M, rfl⟩ : ∃ M, N = M + 1 := ⟨N - 1, by omega⟩
      have wM : W j M = 1 := by rw [eW]; dsimp only; rw [if_pos (by omega)]
      have wk : ∀ k, k < M → W j k = t j * G j k := fun k hk => by rw [eW]; dsimp only; rw [if_neg (by omega)]
      rw [sumZ, sumZ, wM, Nat.add_sub_cancel]
      dsimp only
      rw [if_pos rfl, Int.mul_zero, Int.add_zero, Int.mul_one]
      rw [sumZ_ext fun k hk => show (t j * G j k + 0 * G j k) * (if k = M then 0 else ζ k) = ζ k * W j k by
        rw [if_neg (by omega), wk k hk, Int.zero_mul, Int.add_zero, Int.mul_comm]]
    have h2 := (ht j hj).2
    have h3 : t j * dt N (G j) y = -B := by rw [Int.mul_neg] at h2; omega
    have : t j * (B * dt N (G j) (fun k => if k = N - 1 then 0 else ζ k) + -ζ (N - 1) * dt N (G j) y) = B * (t j * dt N (G j) (fun k => if k = N - 1 then 0 else ζ k)) + -ζ (N - 1) * (t j * dt N (G j) y) := by grind
    rw [this, h3, ← h1]
    grind
  have sg0 : ∀ (ζ : Nat → Int) j, j < m → (dt N (G j) (fun k => B * (if k = N - 1 then 0 else ζ k) + (-ζ (N - 1)) * y k) = 0 ↔ dt N ζ (W j) = 0) := fun ζ j hj => by
    have k1 := key ζ j hj
    have k2 := (ht j hj).1
    constructor
    · intro e
      rw [e, Int.mul_zero] at k1
      exact (Int.mul_eq_zero.mp k1.symm).resolve_left (by omega)
    · intro e
      rw [e, Int.mul_zero] at k1
      exact (Int.mul_eq_zero.mp k1).resolve_left (by omega)
  have sgn : ∀ (ζ : Nat → Int) j, j < m → dt N ζ (W j) ≤ 0 → dt N (G j) (fun k => B * (if k = N - 1 then 0 else ζ k) + (-ζ (N - 1)) * y k) ≤ 0 := fun ζ j hj h => by
    have k1 := key ζ j hj
    have k2 := (ht j hj).1
    refine Classical.byContradiction fun z => ?_
    have a1 := Int.mul_pos k2 (show 0 < dt N (G j) (fun k => B * (if k = N - 1 then 0 else ζ k) + (-ζ (N - 1)) * y k) by omega)
    have a2 : B * dt N ζ (W j) ≤ 0 := Int.mul_nonpos_of_nonneg_of_nonpos (by omega) h
    omega
  -- a place as a functional of W
  have rev : ∀ (z : Nat → Int) j, j < m → dt N (fun k => if k = N - 1 then -(B * z (N - 1)) else (n : Int) * z k - z (N - 1) * y k) (W j) = (n : Int) * (t j * dt N (G j) z) := fun z j hj => by
    have yl : y (N - 1) = (n : Int) := by
      rw [ey]
      show sumZ (fun p => 1 * X p (N - 1)) n = _
      have : ∀ q, q ≤ n → sumZ (fun p => 1 * X p (N - 1)) q = (q : Int) := by
        intro q
        induction q with
        | zero => intro _; rfl
        | succ q ih =>
          intro hq
          rw [sumZ, ih (by omega), P.2.1.2 q (by omega)]; omega
      exact this n (Nat.le_refl _)
    have h2 := (ht j hj).2
    have h3 : t j * dt N (G j) y = -B := by rw [Int.mul_neg] at h2; omega
    obtain ⟨M, rfl⟩ : ∃ M, N = M + 1 := ⟨N - 1, by omega⟩
    rw [Nat.add_sub_cancel] at yl
    unfold dt at h3
    rw [sumZ, yl] at h3
    have wM : W j M = 1 := by rw [eW]; dsimp only; rw [if_pos (by omega)]
    have wk : ∀ k, k < M → W j k = t j * G j k := fun k hk => by rw [eW]; dsimp only; rw [if_neg (by omega)]
    unfold dt
    rw [sumZ, sumZ, wM, Nat.add_sub_cancel]
    dsimp only
    rw [if_pos rfl, Int.mul_one]
    have e9 : sumZ (fun k => (if k = M then -(B * z M) else (n : Int) * z k - z M * y k) * W j k) M = (n : Int) * (t j * sumZ (fun k => G j k * z k) M) + (-z M) * (t j * sumZ (fun k => G j k * y k) M) := by
      have s1 := sumZ_lin (f := fun k => t j * (G j k * z k)) (g := fun k => t j * (G j k * y k)) (a := (n : Int)) (b := -z M) M
      rw [sumZ_mul, sumZ_mul] at s1
      rw [← s1]
      refine sumZ_ext fun k hk => ?_
      rw [if_neg (by omega), wk k hk]
      grind
    rw [e9]
    grind
  refine ⟨W, ⟨fun ζ hζ i hi' => ?_, ⟨by omega, fun j _ => by rw [eW]; dsimp only; rw [if_pos rfl]⟩, fun j hj => ⟨hj, ?_⟩⟩, fun ζ => ⟨_, fun j hj => ⟨sg0 ζ j hj, sgn ζ j hj⟩⟩⟩
  · have z0 : ∀ i, i < N → B * (if i = N - 1 then 0 else ζ i) + (-ζ (N - 1)) * y i = 0 := fun i hi' => fz_0 P (x := fun k => B * (if k = N - 1 then 0 else ζ k) + (-ζ (N - 1)) * y k) (fun f hf => by
      obtain ⟨j, hj, z1, z2⟩ := A.2 f hf
      exact fct_sub hf (A.1.1 j hj) z1 ((sg0 ζ j hj).mpr (hζ j hj))) hi'
    have yl : 0 < y (N - 1) := by
      have := ypos 0 (by omega)
      rw [ey]
      show 0 < sumZ (fun p => 1 * X p (N - 1)) n
      have n0 : 0 < n := by
        obtain ⟨p, hp, -⟩ := gnz_pt P.1 (A.1.1 0 (by omega)).1.2
        omega
      have : ∀ q, q ≤ n → sumZ (fun p => 1 * X p (N - 1)) q = (q : Int) := by
        intro q
        induction q with
        | zero => intro _; rfl
        | succ q ih =>
          intro hq
          rw [sumZ, ih (by omega), P.2.1.2 q (by omega)]; omega
      rw [this n (Nat.le_refl _)]; omega
    have zl := z0 (N - 1) (by omega)
    rw [if_pos rfl, Int.mul_zero, Int.zero_add] at zl
    have zl : ζ (N - 1) = 0 := by
      have := (Int.mul_eq_zero.mp zl).resolve_right (by omega)
      omega
    by_cases e : i = N - 1
    · rw [e]; exact zl
    · have := z0 i hi'
      rw [if_neg e, zl] at this
      have : B * ζ i = 0 := by omega
      exact (Int.mul_eq_zero.mp this).resolve_left (by omega)
  · have n0 : 0 < (n : Int) := by
      obtain ⟨p, hp, -⟩ := gnz_pt P.1 (A.1.1 0 (by omega)).1.2
      omega
    have neg : ∀ i, i < m → i ≠ j → (n : Int) * (t i * dt N (G i) (sV N n X (G j))) < 0 := fun i hi' hne => by
      have := sV_neg (A.1.1 i hi').1.1 (A.1.2 j i hj hi' (fun e => hne e.symm))
      exact Int.mul_neg_of_pos_of_neg n0 (Int.mul_neg_of_pos_of_neg (ht i hi').1 this)
    have at0 : (n : Int) * (t j * dt N (G j) (sV N n X (G j))) = 0 := by rw [sV_0, Int.mul_zero, Int.mul_zero]
    refine ⟨fun k => if k = N - 1 then -(B * sV N n X (G j) (N - 1)) else (n : Int) * sV N n X (G j) k - sV N n X (G j) (N - 1) * y k, fun i hi' => ?_, ?_, fun i hi' => ?_⟩
    · rw [rev _ i hi']
      by_cases e : i = j
      · rw [e, at0]; exact Int.le_refl _
      · exact Int.le_of_lt (neg i hi' e)
    · obtain ⟨i, hi', hne⟩ : ∃ i, i < m ∧ i ≠ j := ⟨if j = 0 then 1 else 0, by split <;> omega, by split <;> omega⟩
      refine gnz_of (x := W i) ?_
      rw [rev _ i hi']
      have := neg i hi' hne
      omega
    · rw [rev _ i hi']
      constructor
      · intro e
        exact Classical.byContradiction fun hne => by have := neg i hi' hne; omega
      · rintro rfl; exact at0
/-- from facet to facet, where two have places that no third has -/
theorem fconn (P : gP N n X) (hN : 2 ≤ N) (A : famA N n X m G) {R : Nat → Prop} {a : Nat} (ha : a < m) (hR : R a) (hcl : ∀ i j, i < m → j < m → j ≠ i → R i → (∃ z : Nat → Int, ∀ q, q < m → dt N (G q) z ≤ 0 ∧ (dt N (G q) z = 0 ↔ q = i ∨ q = j)) → R j) {b : Nat} (hb : b < m) : R b := by
  obtain ⟨W, PW, hz⟩ := dual_P P hN A
  refine gconn PW ha hR (fun i j hi' hj hne hRi hE => hcl i j hi' hj hne hRi ?_) hb
  obtain ⟨e, e1, e2⟩ := hE
  obtain ⟨z, h⟩ := hz e
  exact ⟨z, fun q hq => ⟨(h q hq).2 (e1 q hq), (h q hq).1.trans (e2 q hq)⟩⟩
/-- no third facet has what two such have in common -/
theorem fridge (P : gP N n X) (A : famA N n X m G) {i j q : Nat} (hi' : i < m) (hj : j < m) (hq : q < m) (hz : ∀ q, q < m → dt N (G q) z ≤ 0 ∧ (dt N (G q) z = 0 ↔ q = i ∨ q = j)) (h : ∀ c, c < n → dt N (G i) (X c) = 0 → dt N (G j) (X c) = 0 → dt N (G q) (X c) = 0) : q = i ∨ q = j := by
  refine (hz q hq).2.mp (Classical.byContradiction fun hne => ?_)
  have zq : dt N (G q) z < 0 := by have := (hz q hq).1; omega
  have zi := (hz i hi').2.mpr (Or.inl rfl)
  have zj := (hz j hj).2.mpr (Or.inr rfl)
  obtain ⟨K, k1, k2⟩ := bndZ (fun c => -dt N (G q) (X c)) n
  have ev : ∀ x, dt N (fun k => K * (fun k => 1 * G i k + 1 * G j k) k + (-1) * G q k) x = K * (dt N (G i) x + dt N (G j) x) - dt N (G q) x := fun x => by
    rw [dt_lin, dt_lin, Int.one_mul, Int.one_mul]; omega
  have v : gval N n X (fun k => K * (fun k => 1 * G i k + 1 * G j k) k + (-1) * G q k) := fun c hc => by
    rw [ev]
    have a1 := (A.1.1 i hi').1.1 c hc
    have a2 := (A.1.1 j hj).1.1 c hc
    have a3 := k2 c hc
    try dsimp only at a3
    by_cases e : dt N (G i) (X c) = 0 ∧ dt N (G j) (X c) = 0
    · rw [h c hc e.1 e.2, e.1, e.2]; omega
    · have : K * (dt N (G i) (X c) + dt N (G j) (X c)) ≤ K * (-1) := Int.mul_le_mul_of_nonneg_left (by omega) (by omega)
      omega
  have pos : 0 < dt N (fun k => K * (fun k => 1 * G i k + 1 * G j k) k + (-1) * G q k) z := by
    rw [ev, zi, zj]; omega
  obtain ⟨f, f1, -, f3⟩ := facet_pos P.1 v (gnz_of (x := z) (by omega)) pos
  obtain ⟨r, hr, r1, r2⟩ := A.2 f f1
  have s := fct_way f1 (A.1.1 r hr) r1 r2 P.1 f3
  have := (hz r hr).1
  omega
end DUALG

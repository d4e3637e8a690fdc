/-! ===== GEOMETRY: what lies around a corner ===== -/
section VTX
variable {N n : Nat} {X : Nat → Nat → Int} {f g : Nat → Int}
/-- all places are corners -/
def gP (N n : Nat) (X : Nat → Nat → Int) : Prop := gful N n X ∧ gone N n X ∧ ∀ c, c < n → gco N n X c
theorem gP.exp (P : gP N n X) {v : Nat} (hv : v < n) : ∃ φ, gval N n X φ ∧ dt N φ (X v) = 0 ∧ ∀ x, x < n → x ≠ v → dt N φ (X x) < 0 := by
  obtain ⟨-, φ, v1, -, z⟩ := P.2.2 v hv
  refine ⟨φ, v1, (z v hv).mpr rfl, fun x hx hne => ?_⟩
  have h1 := v1 x hx
  have h2 : dt N φ (X x) ≠ 0 := fun e => hne ((z x hx).mp e)
  omega
theorem gP.i1 (P : gP N n X) {v : Nat} (hv : v < n) : ind N 1 (fun _ => X v) := by
  intro c hc i hi'
  have h0 := P.2.1.1
  have h1 := hc (N - 1) (by omega)
  rw [sumZ, sumZ, show (fun x => X v) 0 (N - 1) = 1 from P.2.1.2 v hv] at h1
  have : i = 0 := by omega
  subst this; omega
theorem gP.i2 (P : gP N n X) {v u : Nat} (hv : v < n) (hu : u < n) (h : v ≠ u) : ind N 2 (t2 (X v) (X u)) := by
  obtain ⟨p, -, p0, pn⟩ := P.exp hv
  obtain ⟨q, -, q0, qn⟩ := P.exp hu
  have a := pn u hu (fun e => h e.symm)
  have b := qn v hv h
  exact ind2 p0 (by omega) (by omega) q0
theorem gP.i3 (P : gP N n X) {v u w : Nat} (hv : v < n) (hu : u < n) (hw : w < n) (h1 : v ≠ u) (h2 : v ≠ w) (h3 : u ≠ w) : ind N 3 (t3 (X v) (X u) (X w)) := by
  obtain ⟨p, -, p0, pn⟩ := P.exp hv
  obtain ⟨q, -, q0, qn⟩ := P.exp hu
  obtain ⟨s, -, s0, sn⟩ := P.exp hw
  exact ind3 p0 (pn u hu (fun e => h1 e.symm)) (pn w hw (fun e => h2 e.symm)) (qn v hv h1) q0 (qn w hw (fun e => h3 e.symm)) (sn v hv h2) (sn u hu h3) s0
theorem sumZ_neg {w : Nat → Int} : ∀ {n : Nat}, (∀ k, k < n → w k ≤ 0) → (∃ k, k < n ∧ w k < 0) → sumZ w n < 0
  | 0, _, h => by obtain ⟨k, hk, _⟩ := h; omega
  | n + 1, h, hex => by
    have h0 : ∀ m, m ≤ n → sumZ w m ≤ 0 := by
      intro m
      induction m with
      | zero => intro _; exact Int.le_refl _
      | succ m ih => intro hm; have a := ih (by omega); have b := h m (by omega); rw [sumZ]; omega
    rw [sumZ]
    obtain ⟨k, hk, hk2⟩ := hex
    by_cases e : k = n
    · subst e
      have := h0 k (Nat.le_refl _); omega
    · have a := sumZ_neg (n := n) (fun k hk => h k (by omega)) ⟨k, by omega, hk2⟩
      have b := h n (by omega)
      omega
/-- the sum of a face's places -/
def sV (N n : Nat) (X : Nat → Nat → Int) (f : Nat → Int) : Nat → Int := fun j => sumZ (fun p => (if dt N f (X p) = 0 then 1 else 0) * X p j) n
theorem sV_dt : dt N g (sV N n X f) = sumZ (fun p => (if dt N f (X p) = 0 then 1 else 0) * dt N g (X p)) n := dt_sum
theorem sV_0 : dt N f (sV N n X f) = 0 := by
  rw [sV_dt]
  refine sumZ_0 fun k hk => ?_
  by_cases h : dt N f (X k) = 0
  · rw [h, Int.mul_zero]
  · rw [if_neg h, Int.zero_mul]
theorem sV_neg (hg : gval N n X g) (h : ¬ gzi N n X f g) : dt N g (sV N n X f) < 0 := by
  rw [sV_dt]
  obtain ⟨p, hp, h1, h2⟩ : ∃ p, p < n ∧ dt N f (X p) = 0 ∧ dt N g (X p) ≠ 0 := Classical.byContradiction fun z => h fun p hp h1 => Classical.byContradiction fun w => z ⟨p, hp, h1, w⟩
  refine sumZ_neg (fun k hk => ?_) ⟨p, hp, ?_⟩
  · have := hg k hk
    split
    · omega
    · omega
  · have := hg p hp
    rw [if_pos h1]; omega
/-- three facets have no N less 2 independent places in common -/
theorem gP.tri {r : Nat} {b : Nat → Nat → Int} {f1 f2 f3 : Nat → Int} (h : ind N r b) (hs : N < r + 3) (g1 : gval N n X f1) (g2 : gval N n X f2) (g3 : gval N n X f3) (h1 : ∀ j, j < r → dt N f1 (b j) = 0) (h2 : ∀ j, j < r → dt N f2 (b j) = 0) (h3 : ∀ j, j < r → dt N f3 (b j) = 0) (d12 : ¬ gzi N n X f1 f2) (d13 : ¬ gzi N n X f1 f3) (d21 : ¬ gzi N n X f2 f1) (d23 : ¬ gzi N n X f2 f3) (d31 : ¬ gzi N n X f3 f1) (d32 : ¬ gzi N n X f3 f2) : False :=
  part3 h hs h1 h2 h3 (x1 := sV N n X f1) (x2 := sV N n X f2) (x3 := sV N n X f3) sV_0 (sV_neg g1 d21) (sV_neg g1 d31) (sV_neg g2 d12) sV_0 (sV_neg g2 d32) (sV_neg g3 d13) (sV_neg g3 d23) sV_0
/-- a facet: no functional that is nothing on it, and elsewhere too, but none -/
theorem fct_only (hf : gfc N n X f) {m w : Nat → Int} (hz : gzi N n X f m) (hw : dt N f w ≠ 0) (hm : dt N m w = 0) {j : Nat} (hj : j < N) : m j = 0 := by
  have h2 := gpr_dt (hf.2 m hz) (x := w) hj
  rw [hm, Int.zero_mul] at h2
  exact (Int.mul_eq_zero.mp h2.symm).resolve_right hw
theorem fct_card (hF : gful N n X) (hf : gfc N n X f) : N ≤ cntN (fun p => decide (dt N f (X p) = 0)) n + 1 := by
  rcases Nat.lt_or_ge (cntN (fun p => decide (dt N f (X p) = 0)) n + 1) N with z | z
  · exfalso
    obtain ⟨w, hw, hne⟩ := gnz_pt hF hf.1.2
    obtain ⟨m, ⟨j, hj, hj2⟩, hm⟩ := hom N (X w :: ((List.range n).filter fun p => decide (dt N f (X p) = 0)).map X) (by rw [List.length_cons, List.length_map, filter_len]; exact z)
    refine hj2 (fct_only hf (fun p hp h0 => ?_) hne (hm _ (List.mem_cons.mpr (Or.inl rfl))) hj)
    exact hm _ (List.mem_cons.mpr (Or.inr (List.mem_map.mpr ⟨p, List.mem_filter.mpr ⟨List.mem_range.mpr hp, decide_eq_true h0⟩, rfl⟩)))
  · exact z
/-- a functional that parts all of a family -/
theorem generic {V : Nat → Nat → Int} : ∀ m, ∃ u : Nat → Int, ∀ i, i < m → gnz N (V i) → dt N u (V i) ≠ 0
  | 0 => ⟨fun _ => 0, fun i hi' => absurd hi' (Nat.not_lt_zero i)⟩
  | m + 1 => by
    obtain ⟨u, hu⟩ := generic (V := V) m
    by_cases h : gnz N (V m) ∧ dt N u (V m) = 0
    · obtain ⟨⟨i, hi', hne⟩, h0⟩ := h
      obtain ⟨K1, k1, k2⟩ := bndZ (fun j => V j i) m
      obtain ⟨K2, k3, k4⟩ := bndZ (fun j => -V j i) m
      have ev : ∀ x : Nat → Int, dt N (fun k => (K1 + K2 + 1) * u k + 1 * (if k = i then 1 else 0)) x = (K1 + K2 + 1) * dt N u x + x i := by
        intro x
        rw [dt_lin, dt_comm (x := fun k => if k = i then 1 else 0), dt_unit hi']; omega
      refine ⟨fun k => (K1 + K2 + 1) * u k + 1 * (if k = i then 1 else 0), fun j hj hz => ?_⟩
      rw [ev]
      by_cases e : j = m
      · subst e; rw [h0, Int.mul_zero, Int.zero_add]; exact hne
      · have h1 := hu j (by omega) hz
        have h2 := k2 j (by omega)
        have h3 := k4 j (by omega)
        try dsimp only at h2 h3
        rcases Int.lt_or_gt_of_ne h1 with q | q
        · have : (K1 + K2 + 1) * dt N u (V j) ≤ (K1 + K2 + 1) * (-1) := Int.mul_le_mul_of_nonneg_left (by omega) (by omega)
          omega
        · have : (K1 + K2 + 1) * 1 ≤ (K1 + K2 + 1) * dt N u (V j) := Int.mul_le_mul_of_nonneg_left (by omega) (by omega)
          omega
    · refine ⟨u, fun j hj hz => ?_⟩
      by_cases e : j = m
      · subst e; exact fun q => h ⟨hz, q⟩
      · exact hu j (by omega) hz
/-- heights around a corner v: φ is 0 at v alone, no two others are alike -/
def hgt (N n : Nat) (X : Nat → Nat → Int) (v : Nat) (φ h : Nat → Int) : Prop := gval N n X φ ∧ dt N φ (X v) = 0 ∧ (∀ x, x < n → x ≠ v → dt N φ (X x) < 0) ∧ dt N h (X v) = 0 ∧ ∀ x y, x < n → y < n → x ≠ v → y ≠ v → x ≠ y → dt N h (X x) * dt N φ (X y) ≠ dt N h (X y) * dt N φ (X x)
theorem gP.gen (P : gP N n X) {v : Nat} (hv : v < n) : ∃ φ h, hgt N n X v φ h := by
  obtain ⟨φ, p1, p2, p3⟩ := P.exp hv
  obtain ⟨V, eV⟩ : ∃ V : Nat → Nat → Int, V = fun i k => (dt N φ (X (i % n))) * (fun k => 1 * X (i / n) k + (-1) * X v k) k + (-dt N φ (X (i / n))) * (fun k => 1 * X (i % n) k + (-1) * X v k) k := ⟨_, rfl⟩
  obtain ⟨u, hu⟩ := generic (N := N) (V := V) (n * n)
  have hh : ∀ x, x < n → dt N (fun k => 1 * u k + (-dt N u (X v)) * (if k = N - 1 then 1 else 0)) (X x) = dt N u (X x) - dt N u (X v) := by
    intro x hx
    rw [dt_lin, gone_dt P.2.1 hx]; omega
  refine ⟨φ, fun k => 1 * u k + (-dt N u (X v)) * (if k = N - 1 then 1 else 0), p1, p2, p3, by rw [hh v hv]; omega, fun x y hx hy hxv hyv hxy => ?_⟩
  have hi' : x * n + y < n * n := by
    have : x * n + n ≤ n * n := by rw [← Nat.succ_mul]; exact Nat.mul_le_mul_right n hx
    omega
  have ed : (x * n + y) / n = x := by
    rw [Nat.mul_comm, Nat.mul_add_div (by omega), Nat.div_eq_of_lt hy]; rfl
  have em : (x * n + y) % n = y := by
    rw [Nat.mul_comm, Nat.mul_add_mod, Nat.mod_eq_of_lt hy]
  have nz : gnz N (V (x * n + y)) := by
    refine Classical.byContradiction fun z => ?_
    have z0 : ∀ k, k < N → V (x * n + y) k = 0 := fun k hk => Classical.byContradiction fun w => z ⟨k, hk, w⟩
    have h3 := P.i3 hx hy hv hxy hxv hyv
    have h4 := h3 (t3 (dt N φ (X y)) (-dt N φ (X x)) (dt N φ (X x) - dt N φ (X y))) (fun j hj => by
      have := z0 j hj
      rw [eV] at this
      try dsimp only at this
      rw [ed, em] at this
      rw [← this]
      simp only [sumZ, t3, if_true, if_false, Nat.reduceEqDiff, Nat.one_ne_zero]
      grind) 0 (by decide)
    have h5 := p3 y hy hyv
    have h6 : dt N φ (X y) = 0 := h4
    omega
  have h7 := hu _ hi' nz
  rw [eV] at h7
  try dsimp only at h7
  rw [dt_linR, dt_linR, dt_linR, ed, em] at h7
  rw [hh x hx, hh y hy]
  intro e
  apply h7
  grind
/-- how x stands against u -/
def kf (N : Nat) (X : Nat → Nat → Int) (φ h : Nat → Int) (u : Nat) : Nat → Int := fun k => (-dt N φ (X u)) * h k + dt N h (X u) * φ k
theorem kf_dt {φ h : Nat → Int} {u : Nat} {x : Nat → Int} : dt N (kf N X φ h u) x = dt N h (X u) * dt N φ x - dt N h x * dt N φ (X u) := by
  unfold kf
  rw [dt_lin, Int.neg_mul, Int.mul_comm (dt N φ (X u))]; omega
section H
variable {v u : Nat} {φ h : Nat → Int}
theorem kf_v (H : hgt N n X v φ h) : dt N (kf N X φ h u) (X v) = 0 := by rw [kf_dt, H.2.1, H.2.2.2.1, Int.mul_zero, Int.zero_mul]; rfl
theorem kf_u : dt N (kf N X φ h u) (X u) = 0 := by rw [kf_dt]; omega
theorem kf_ne (H : hgt N n X v φ h) {x : Nat} (hx : x < n) (hu : u < n) (h1 : x ≠ v) (h2 : u ≠ v) (h3 : x ≠ u) : dt N (kf N X φ h u) (X x) ≠ 0 := by
  have := H.2.2.2.2 x u hx hu h1 h2 h3
  rw [kf_dt]; omega
theorem kf_anti {x : Nat} : dt N (kf N X φ h u) (X x) = -dt N (kf N X φ h x) (X u) := by rw [kf_dt, kf_dt]; omega
/-- the highest of some, v not among them -/
theorem top_of (H : hgt N n X v φ h) {A : Nat → Prop} (hA : ∃ x, x < n ∧ x ≠ v ∧ A x) : ∃ t, t < n ∧ t ≠ v ∧ A t ∧ ∀ x, x < n → x ≠ v → A x → dt N (kf N X φ h t) (X x) ≤ 0 := by
  obtain ⟨x0, a1, a2, a3⟩ := hA
  obtain ⟨t, ⟨t1, t2, t3⟩, mx⟩ := rmax (m := fun x => dt N h (X x)) (s := fun x => -dt N φ (X x)) (A := fun x => x ≠ v ∧ A x) (n := n) (fun p hp hA => by have := H.2.2.1 p hp hA.1; omega) ⟨x0, a1, a2, a3⟩
  refine ⟨t, t1, t2, t3, fun x hx hxv hAx => ?_⟩
  have := mx x hx ⟨hxv, hAx⟩
  try dsimp only at this
  rw [Int.mul_neg, Int.mul_neg] at this
  rw [kf_dt]; omega
theorem bot_of (H : hgt N n X v φ h) {A : Nat → Prop} (hA : ∃ x, x < n ∧ x ≠ v ∧ A x) : ∃ t, t < n ∧ t ≠ v ∧ A t ∧ ∀ x, x < n → x ≠ v → A x → 0 ≤ dt N (kf N X φ h t) (X x) := by
  obtain ⟨x0, a1, a2, a3⟩ := hA
  obtain ⟨t, ⟨t1, t2, t3⟩, mx⟩ := rmax (m := fun x => -dt N h (X x)) (s := fun x => -dt N φ (X x)) (A := fun x => x ≠ v ∧ A x) (n := n) (fun p hp hA => by have := H.2.2.1 p hp hA.1; omega) ⟨x0, a1, a2, a3⟩
  refine ⟨t, t1, t2, t3, fun x hx hxv hAx => ?_⟩
  have := mx x hx ⟨hxv, hAx⟩
  try dsimp only at this
  rw [Int.neg_mul_neg, Int.neg_mul_neg] at this
  rw [kf_dt]; omega
/-- an edge: no others where some functional is greatest -/
def gE (N n : Nat) (X : Nat → Nat → Int) (v u : Nat) : Prop := ∃ e, gval N n X e ∧ ∀ x, x < n → (dt N e (X x) = 0 ↔ x = v ∨ x = u)
/-- the highest place of a face at v makes an edge -/
theorem top_edge (P : gP N n X) (H : hgt N n X v φ h) (hv : v < n) {l : Nat → Int} (hl : gval N n X l) (hlv : dt N l (X v) = 0) (hex : ∃ x, x < n ∧ x ≠ v ∧ dt N l (X x) = 0) : ∃ u, u < n ∧ u ≠ v ∧ dt N l (X u) = 0 ∧ gE N n X v u ∧ ∀ x, x < n → x ≠ v → dt N l (X x) = 0 → x ≠ u → dt N (kf N X φ h u) (X x) < 0 := by
  obtain ⟨u, u1, u2, u3, mx⟩ := top_of H (A := fun x => dt N l (X x) = 0) hex
  have lt : ∀ x, x < n → x ≠ v → dt N l (X x) = 0 → x ≠ u → dt N (kf N X φ h u) (X x) < 0 := by
    intro x hx hxv h0 hxu
    have a := mx x hx hxv h0
    have b := kf_ne H hx u1 hxv u2 hxu
    omega
  obtain ⟨e, e1, e2, e3⟩ := gtilt P.2.1 hl ⟨v, hv, hlv⟩ (kf N X φ h u)
  refine ⟨u, u1, u2, u3, ⟨e, e1, fun x hx => ?_⟩, lt⟩
  rw [e3 x hx]
  have le : ∀ y, y < n → dt N l (X y) = 0 → dt N (kf N X φ h u) (X y) ≤ 0 := by
    intro y hy hy0
    by_cases hyv : y = v
    · rw [hyv, kf_v H]; exact Int.le_refl _
    · exact mx y hy hyv hy0
  constructor
  · rintro ⟨a, b⟩
    by_cases hxv : x = v
    · exact Or.inl hxv
    · refine Or.inr (Classical.byContradiction fun hxu => ?_)
      have c1 := lt x hx hxv a hxu
      have c2' := b v hv hlv
      rw [kf_v H] at c2'
      omega
  · rintro (rfl | rfl)
    · exact ⟨hlv, fun y hy hy0 => by rw [kf_v H]; exact le y hy hy0⟩
    · exact ⟨u3, fun y hy hy0 => by rw [kf_u]; exact le y hy hy0⟩
/-- u stands between others in a facet -/
def bwn (N n : Nat) (X : Nat → Nat → Int) (v : Nat) (φ h f : Nat → Int) (u : Nat) : Prop := (u < n ∧ u ≠ v ∧ dt N f (X u) = 0 ∧ gE N n X v u) ∧ (∃ a, a < n ∧ dt N f (X a) = 0 ∧ dt N (kf N X φ h u) (X a) < 0) ∧ ∃ b, b < n ∧ dt N f (X b) = 0 ∧ 0 < dt N (kf N X φ h u) (X b)
theorem bwn_not2 (P : gP 5 n X) (H : hgt 5 n X v φ h) (hv : v < n) {a b : Nat} (hu : u < n) (huv : u ≠ v) (hE : gE 5 n X v u) (hf : gfc 5 n X f) (hg : gfc 5 n X g) (hd : ¬ gzi 5 n X f g) (hd' : ¬ gzi 5 n X g f) (fv : dt 5 f (X v) = 0) (fu : dt 5 f (X u) = 0) (gv : dt 5 g (X v) = 0) (gu : dt 5 g (X u) = 0) (ha : a < n) (hb : b < n) (fa : dt 5 f (X a) = 0) (fb : dt 5 f (X b) = 0) (ga : dt 5 g (X a) = 0) (gb : dt 5 g (X b) = 0) (ka : dt 5 (kf 5 X φ h u) (X a) < 0) (kb : 0 < dt 5 (kf 5 X φ h u) (X b)) : False := by
  obtain ⟨e, e1, e2⟩ := hE
  have av : a ≠ v := fun z => by rw [z, kf_v H] at ka; omega
  have au : a ≠ u := fun z => by rw [z, kf_u] at ka; omega
  have bv : b ≠ v := fun z => by rw [z, kf_v H] at kb; omega
  have bu : b ≠ u := fun z => by rw [z, kf_u] at kb; omega
  have ea : dt 5 e (X a) < 0 := by
    have h1 := e1 a ha
    have h2 : dt 5 e (X a) ≠ 0 := fun z => by rcases (e2 a ha).mp z with z | z; exact av z; exact au z
    omega
  have eb : dt 5 e (X b) < 0 := by
    have h1 := e1 b hb
    have h2 : dt 5 e (X b) ≠ 0 := fun z => by rcases (e2 b hb).mp z with z | z; exact bv z; exact bu z
    omega
  have ev0 : dt 5 e (X v) = 0 := (e2 v hv).mpr (Or.inl rfl)
  have eu0 : dt 5 e (X u) = 0 := (e2 u hu).mpr (Or.inr rfl)
  obtain ⟨e', he'⟩ : ∃ e' : Nat → Int, e' = fun k => dt 5 (kf 5 X φ h u) (X a) * e k + (-dt 5 e (X a)) * kf 5 X φ h u k := ⟨_, rfl⟩
  have ed : ∀ x, dt 5 e' x = dt 5 (kf 5 X φ h u) (X a) * dt 5 e x - dt 5 e (X a) * dt 5 (kf 5 X φ h u) x := fun x => by rw [he', dt_lin, Int.neg_mul]; omega
  obtain ⟨c, ⟨i, hi', hne⟩, hx⟩ := dimL (s := 3) (g := t3 f g e') (P.i3 hv hu ha (fun z => huv z.symm) (fun z => av z.symm) (fun z => au z.symm)) (by decide) (fun i j hi' hj => by
    match i, hi', j, hj with
    | 0, _, 0, _ => exact fv
    | 0, _, 1, _ => exact fu
    | 0, _, 2, _ => exact fa
    | 1, _, 0, _ => exact gv
    | 1, _, 1, _ => exact gu
    | 1, _, 2, _ => exact ga
    | 2, _, 0, _ => exact (ed (X v)).trans (by rw [show dt 5 e (X v) = 0 from ev0, kf_v H, Int.mul_zero, Int.mul_zero]; rfl)
    | 2, _, 1, _ => exact (ed (X u)).trans (by rw [show dt 5 e (X u) = 0 from eu0, kf_u, Int.mul_zero, Int.mul_zero]; rfl)
    | 2, _, 2, _ => exact (ed (X a)).trans (by rw [Int.mul_comm]; omega))
  have ev : ∀ x, c 0 * dt 5 f x + c 1 * dt 5 g x + c 2 * dt 5 e' x = 0 := fun x => by simpa [sumZ, t3] using hx x
  have h1 := ev (X b)
  have pb : 0 < dt 5 e' (X b) := by
    rw [ed]
    have m1 : 0 < dt 5 (kf 5 X φ h u) (X a) * dt 5 e (X b) := Int.mul_pos_of_neg_of_neg ka eb
    have m2 : dt 5 e (X a) * dt 5 (kf 5 X φ h u) (X b) < 0 := Int.mul_neg_of_neg_of_pos ea kb
    omega
  rw [fb, gb, Int.mul_zero, Int.mul_zero, Int.zero_add, Int.zero_add] at h1
  have c2' : c 2 = 0 := (Int.mul_eq_zero.mp h1).resolve_right (by omega)
  have h2 := ev (sV 5 n X f)
  have h3 := ev (sV 5 n X g)
  have n2 := sV_neg hg.1.1 hd
  have n3 := sV_neg hf.1.1 hd'
  rw [c2', sV_0, Int.mul_zero, Int.zero_mul, Int.zero_add, Int.add_zero] at h2
  rw [c2', sV_0, Int.mul_zero, Int.zero_mul, Int.add_zero, Int.add_zero] at h3
  have c1 : c 1 = 0 := (Int.mul_eq_zero.mp h2).resolve_right (by omega)
  have c0 : c 0 = 0 := (Int.mul_eq_zero.mp h3).resolve_right (by omega)
  match i, hi' with
  | 0, _ => exact hne c0
  | 1, _ => exact hne c1
  | 2, _ => exact hne c2'
/-- in two facets at most -/
theorem bwn_2 (P : gP 5 n X) (H : hgt 5 n X v φ h) (hv : v < n) {f1 f2 f3 : Nat → Int} (g1 : gfc 5 n X f1) (g2 : gfc 5 n X f2) (g3 : gfc 5 n X f3) (z1 : dt 5 f1 (X v) = 0) (z2 : dt 5 f2 (X v) = 0) (z3 : dt 5 f3 (X v) = 0) (d12 : ¬ gzi 5 n X f1 f2) (d13 : ¬ gzi 5 n X f1 f3) (d21 : ¬ gzi 5 n X f2 f1) (d23 : ¬ gzi 5 n X f2 f3) (d31 : ¬ gzi 5 n X f3 f1) (d32 : ¬ gzi 5 n X f3 f2) (b1 : bwn 5 n X v φ h f1 u) (b2 : bwn 5 n X v φ h f2 u) (b3 : bwn 5 n X v φ h f3 u) : False := by
  obtain ⟨⟨hu, huv, u1, hE⟩, ⟨a1, la1, fa1, ka1⟩, c1, lc1, fc1, kc1⟩ := b1
  obtain ⟨⟨-, -, u2, -⟩, ⟨a2, la2, fa2, ka2⟩, c2', lc2, fc2, kc2⟩ := b2
  obtain ⟨⟨-, -, u3, -⟩, ⟨a3, la3, fa3, ka3⟩, c3', lc3, fc3, kc3⟩ := b3
  have neg : ∀ {f g : Nat → Int} {a c : Nat}, gfc 5 n X f → gfc 5 n X g → ¬ gzi 5 n X f g → ¬ gzi 5 n X g f → dt 5 f (X v) = 0 → dt 5 f (X u) = 0 → dt 5 g (X v) = 0 → dt 5 g (X u) = 0 → a < n → c < n → dt 5 f (X a) = 0 → dt 5 f (X c) = 0 → dt 5 (kf 5 X φ h u) (X a) < 0 → 0 < dt 5 (kf 5 X φ h u) (X c) → dt 5 g (fun k => dt 5 (kf 5 X φ h u) (X c) * X a k + (-dt 5 (kf 5 X φ h u) (X a)) * X c k) < 0 := by
    intro f g a c hf hg q1 q2 fv fu gv gu la lc fa fc ka kc
    rw [dt_linR]
    have ga := hg.1.1 a la
    have gc := hg.1.1 c lc
    have hno : ¬ (dt 5 g (X a) = 0 ∧ dt 5 g (X c) = 0) := fun z => bwn_not2 P H hv hu huv hE hf hg q1 q2 fv fu gv gu la lc fa fc z.1 z.2 ka kc
    have m1 : dt 5 (kf 5 X φ h u) (X c) * dt 5 g (X a) ≤ 0 := Int.mul_nonpos_of_nonneg_of_nonpos (by omega) ga
    have m2 : (-dt 5 (kf 5 X φ h u) (X a)) * dt 5 g (X c) ≤ 0 := Int.mul_nonpos_of_nonneg_of_nonpos (by omega) gc
    by_cases q : dt 5 g (X a) = 0
    · have : dt 5 g (X c) < 0 := by have : dt 5 g (X c) ≠ 0 := fun w => hno ⟨q, w⟩; omega
      have : (-dt 5 (kf 5 X φ h u) (X a)) * dt 5 g (X c) < 0 := Int.mul_neg_of_pos_of_neg (by omega) this
      omega
    · have : dt 5 (kf 5 X φ h u) (X c) * dt 5 g (X a) < 0 := Int.mul_neg_of_pos_of_neg kc (by omega)
      omega
  have zer : ∀ {f : Nat → Int} {a c : Nat}, dt 5 f (X a) = 0 → dt 5 f (X c) = 0 → dt 5 f (fun k => dt 5 (kf 5 X φ h u) (X c) * X a k + (-dt 5 (kf 5 X φ h u) (X a)) * X c k) = 0 := by
    intro f a c fa fc
    rw [dt_linR, fa, fc, Int.mul_zero, Int.mul_zero]; rfl
  have kz : ∀ {a c : Nat}, dt 5 (kf 5 X φ h u) (fun k => dt 5 (kf 5 X φ h u) (X c) * X a k + (-dt 5 (kf 5 X φ h u) (X a)) * X c k) = 0 := by
    intro a c
    rw [dt_linR, Int.neg_mul, Int.mul_comm]; omega
  have two : ∀ {f : Nat → Int}, dt 5 f (X v) = 0 → dt 5 f (X u) = 0 → ∀ j, j < 2 → dt 5 f (t2 (X v) (X u) j) = 0 := by
    intro f q1 q2 j hj
    match j, hj with
    | 0, _ => exact q1
    | 1, _ => exact q2
  exact part4 (P.i2 hv hu (fun z => huv z.symm)) (by decide) (two z1 u1) (two z2 u2) (two z3 u3) (two (kf_v H) kf_u) (w := X a1) (by omega) kz kz kz
    (zer fa1 fc1) (neg g2 g1 d21 d12 z2 u2 z1 u1 la2 lc2 fa2 fc2 ka2 kc2) (neg g3 g1 d31 d13 z3 u3 z1 u1 la3 lc3 fa3 fc3 ka3 kc3)
    (neg g1 g2 d12 d21 z1 u1 z2 u2 la1 lc1 fa1 fc1 ka1 kc1) (zer fa2 fc2) (neg g3 g2 d32 d23 z3 u3 z2 u2 la3 lc3 fa3 fc3 ka3 kc3)
    (neg g1 g3 d13 d31 z1 u1 z3 u3 la1 lc1 fa1 fc1 ka1 kc1) (neg g2 g3 d23 d32 z2 u2 z3 u3 la2 lc2 fa2 fc2 ka2 kc2) (zer fa3 fc3)
/-- each facet at v has one between -/
theorem bwn_ex (P : gP 5 n X) (H : hgt 5 n X v φ h) (hv : v < n) (hf : gfc 5 n X f) (fv : dt 5 f (X v) = 0) : ∃ u, bwn 5 n X v φ h f u := by
  have hcard := fct_card P.1 hf
  obtain ⟨x0, l0, f0, n0⟩ := cntN_ex (p := fun p => decide (dt 5 f (X p) = 0)) (n := n) (by omega) v
  have hex : ∃ x, x < n ∧ x ≠ v ∧ dt 5 f (X x) = 0 := ⟨x0, l0, n0, of_decide_eq_true f0⟩
  obtain ⟨t, t1, t2', t3', tm⟩ := top_of H (A := fun x => dt 5 f (X x) = 0) hex
  obtain ⟨b, b1, b2, b3, bm⟩ := bot_of H (A := fun x => dt 5 f (X x) = 0) hex
  obtain ⟨w, lw, hw⟩ := gnz_pt P.1 hf.1.2
  obtain ⟨m, ⟨j, hj, hj2⟩, hm⟩ := hom 5 [X v, X t, X b, X w] (by simp)
  have mv := hm (X v) (by simp)
  have mt := hm (X t) (by simp)
  have mb := hm (X b) (by simp)
  have mw := hm (X w) (by simp)
  obtain ⟨y, ly, fy, hy⟩ : ∃ y, y < n ∧ dt 5 f (X y) = 0 ∧ dt 5 m (X y) ≠ 0 := Classical.byContradiction fun z => hj2 (fct_only hf (fun p hp h0 => Classical.byContradiction fun q => z ⟨p, hp, h0, q⟩) hw mw hj)
  obtain ⟨g, gv, gt, gb, gy⟩ : ∃ g : Nat → Int, dt 5 g (X v) = 0 ∧ dt 5 g (X t) = 0 ∧ dt 5 g (X b) = 0 ∧ 0 < dt 5 g (X y) := by
    rcases Int.lt_or_gt_of_ne hy with q | q
    · refine ⟨fun k => (-1) * m k + 0 * m k, ?_, ?_, ?_, ?_⟩ <;> rw [dt_lin] <;> omega
    · exact ⟨m, mv, mt, mb, q⟩
  have yv : y ≠ v := fun z => by rw [z] at gy; omega
  obtain ⟨p, ⟨p1, p2, p3⟩, mx⟩ := rmax (m := fun x => dt 5 g (X x)) (s := fun x => -dt 5 φ (X x)) (A := fun x => x ≠ v ∧ dt 5 f (X x) = 0) (n := n) (fun p hp hA => by have := H.2.2.1 p hp hA.1; omega) ⟨y, ly, yv, fy⟩
  try dsimp only at mx
  have sp : 0 < -dt 5 φ (X p) := by have := H.2.2.1 p p1 p2; omega
  have sy : 0 < -dt 5 φ (X y) := by have := H.2.2.1 y ly yv; omega
  have gp : 0 < dt 5 g (X p) := by
    have h1 := mx y ly ⟨yv, fy⟩
    have h2 : 0 < dt 5 g (X y) * -dt 5 φ (X p) := Int.mul_pos gy sp
    exact Int.pos_of_mul_pos_left (show 0 < dt 5 g (X p) * -dt 5 φ (X y) by omega) sy
  have eq : ∀ x, dt 5 (fun k => (-dt 5 φ (X p)) * g k + dt 5 g (X p) * φ k) (X x) = dt 5 g (X x) * (-dt 5 φ (X p)) - dt 5 g (X p) * (-dt 5 φ (X x)) := fun x => by
    rw [dt_lin, Int.mul_comm (-dt 5 φ (X p)), Int.mul_neg (dt 5 g (X p)) (dt 5 φ (X x))]; omega
  obtain ⟨l, l1, -, l3⟩ := gtilt P.2.1 hf.1.1 ⟨v, hv, fv⟩ (fun k => (-dt 5 φ (X p)) * g k + dt 5 g (X p) * φ k)
  have le : ∀ y, y < n → dt 5 f (X y) = 0 → dt 5 (fun k => (-dt 5 φ (X p)) * g k + dt 5 g (X p) * φ k) (X y) ≤ 0 := by
    intro y hy hy0
    rw [eq]
    by_cases hyv : y = v
    · rw [hyv, gv, H.2.1]; omega
    · have := mx y hy ⟨hyv, hy0⟩; omega
  have q0 : dt 5 (fun k => (-dt 5 φ (X p)) * g k + dt 5 g (X p) * φ k) (X v) = 0 := by rw [eq, gv, H.2.1]; omega
  have lv : dt 5 l (X v) = 0 := (l3 v hv).mpr ⟨fv, fun y hy hy0 => by rw [q0]; exact le y hy hy0⟩
  have lp : dt 5 l (X p) = 0 := (l3 p p1).mpr ⟨p3, fun y hy hy0 => by
    have : dt 5 (fun k => (-dt 5 φ (X p)) * g k + dt 5 g (X p) * φ k) (X p) = 0 := by rw [eq]; omega
    rw [this]; exact le y hy hy0⟩
  obtain ⟨u, u1, u2, u3, uE, -⟩ := top_edge P H hv l1 lv ⟨p, p1, p2, lp⟩
  have fu : dt 5 f (X u) = 0 := ((l3 u u1).mp u3).1
  have not0 : ∀ z, z < n → z ≠ v → dt 5 g (X z) = 0 → z ≠ u := by
    intro z hz hzv gz e
    subst e
    have h1 := ((l3 z u1).mp u3).2 v hv fv
    rw [q0, eq, gz, Int.zero_mul] at h1
    have sz : 0 < -dt 5 φ (X z) := by have := H.2.2.1 z hz hzv; omega
    have : 0 < dt 5 g (X p) * -dt 5 φ (X z) := Int.mul_pos gp sz
    omega
  refine ⟨u, ⟨u1, u2, fu, uE⟩, ⟨b, b1, b3, ?_⟩, t, t1, t3', ?_⟩
  · have h1 := bm u u1 u2 fu
    have h2 := kf_ne H b1 u1 b2 u2 (not0 b b1 b2 gb)
    rw [kf_anti] at h1
    omega
  · have h1 := tm u u1 u2 fu
    have h2 := kf_ne H t1 u1 t2' u2 (not0 t t1 t2' gt)
    rw [kf_anti] at h1
    omega
end H
end VTX

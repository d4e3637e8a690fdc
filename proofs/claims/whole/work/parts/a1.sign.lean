/-! ===== GEOMETRY: three functionals hang together ===== -/
section SGN
theorem opp2 {a b x y : Int} (ha : a < 0) (hb : b < 0) (h : a * x + b * y = 0) : (0 < x → y < 0) ∧ (x < 0 → 0 < y) ∧ (x = 0 → y = 0) := by
  refine ⟨fun hx => ?_, fun hx => ?_, fun hx => ?_⟩
  · have h1 : a * x < 0 := Int.mul_neg_of_neg_of_pos ha hx
    refine Classical.byContradiction fun z => ?_
    have h2 : b * y ≤ 0 := Int.mul_nonpos_of_nonpos_of_nonneg (by omega) (by omega)
    omega
  · have h1 : 0 < a * x := Int.mul_pos_of_neg_of_neg ha hx
    refine Classical.byContradiction fun z => ?_
    have h2 : 0 ≤ b * y := Int.mul_nonneg_of_nonpos_of_nonpos (by omega) (by omega)
    omega
  · rw [hx, Int.mul_zero, Int.zero_add] at h
    rcases Int.mul_eq_zero.mp h with z | z
    · omega
    · exact z
theorem sgn3 {a12 a13 a21 a23 a31 a32 x1 x2 x3 : Int} (h12 : a12 < 0) (h13 : a13 < 0) (h21 : a21 < 0) (h23 : a23 < 0) (h31 : a31 < 0) (h32 : a32 < 0) (e1 : a12 * x2 + a13 * x3 = 0) (e2 : a21 * x1 + a23 * x3 = 0) (e3 : a31 * x1 + a32 * x2 = 0) : x1 = 0 ∧ x2 = 0 ∧ x3 = 0 := by
  have o1 := opp2 h12 h13 e1
  have o2 := opp2 h21 h23 e2
  have o3 := opp2 h31 h32 e3
  omega
variable {N n r : Nat} {X b : Nat → Nat → Int} {f f1 f2 f3 k : Nat → Int}
def t2 {α : Type} (a b : α) : Nat → α := fun i => if i = 0 then a else b
def t3 {α : Type} (a b c : α) : Nat → α := fun i => if i = 0 then a else if i = 1 then b else c
def t4 {α : Type} (a b c e : α) : Nat → α := fun i => if i = 0 then a else if i = 1 then b else if i = 2 then c else e
def t5 {α : Type} (a b c e g : α) : Nat → α := fun i => if i = 0 then a else if i = 1 then b else if i = 2 then c else if i = 3 then e else g
theorem ind2 {x y : Nat → Int} {p q : Nat → Int} (hp : dt N p x = 0) (hpy : dt N p y ≠ 0) (hqx : dt N q x ≠ 0) (hq : dt N q y = 0) : ind N 2 (t2 x y) := by
  intro c hc
  have ev : ∀ m : Nat → Int, c 0 * dt N m x + c 1 * dt N m y = 0 := by
    intro m
    have h1 : dt N m (fun j => sumZ (fun i => c i * t2 x y i j) 2) = 0 := by rw [dt_comm]; exact dt_0 hc
    rw [dt_sum] at h1
    simpa [sumZ, t2] using h1
  have h1 := ev p
  have h2 := ev q
  rw [hp, Int.mul_zero, Int.zero_add] at h1
  rw [hq, Int.mul_zero, Int.add_zero] at h2
  have c1 : c 1 = 0 := (Int.mul_eq_zero.mp h1).resolve_right hpy
  have c0 : c 0 = 0 := (Int.mul_eq_zero.mp h2).resolve_right hqx
  intro i hi'
  match i, hi' with
  | 0, _ => exact c0
  | 1, _ => exact c1
theorem ind3 {x y z p q s : Nat → Int} (h11 : dt N p x = 0) (h12 : dt N p y < 0) (h13 : dt N p z < 0) (h21 : dt N q x < 0) (h22 : dt N q y = 0) (h23 : dt N q z < 0) (h31 : dt N s x < 0) (h32 : dt N s y < 0) (h33 : dt N s z = 0) : ind N 3 (t3 x y z) := by
  intro c hc
  have ev : ∀ m : Nat → Int, c 0 * dt N m x + c 1 * dt N m y + c 2 * dt N m z = 0 := by
    intro m
    have h1 : dt N m (fun j => sumZ (fun i => c i * t3 x y z i j) 3) = 0 := by rw [dt_comm]; exact dt_0 hc
    rw [dt_sum] at h1
    simpa [sumZ, t3] using h1
  have h1 := ev p
  have h2 := ev q
  have h3 := ev s
  rw [h11, Int.mul_zero, Int.mul_comm (c 1), Int.mul_comm (c 2)] at h1
  rw [h22, Int.mul_zero, Int.mul_comm (c 0), Int.mul_comm (c 2)] at h2
  rw [h33, Int.mul_zero, Int.mul_comm (c 0), Int.mul_comm (c 1)] at h3
  obtain ⟨c0, c1, c2'⟩ := sgn3 (x1 := c 0) (x2 := c 1) (x3 := c 2) h12 h13 h21 h23 h31 h32 (by omega) (by omega) (by omega)
  intro i hi'
  match i, hi' with
  | 0, _ => exact c0
  | 1, _ => exact c1
  | 2, _ => exact c2'
/-- three that are nothing on r independent ones, N less 2 of them, can't part three places -/
theorem part3 {x1 x2 x3 : Nat → Int} (h : ind N r b) (hs : N < r + 3) (h1 : ∀ j, j < r → dt N f1 (b j) = 0) (h2 : ∀ j, j < r → dt N f2 (b j) = 0) (h3 : ∀ j, j < r → dt N f3 (b j) = 0) (e11 : dt N f1 x1 = 0) (e12 : dt N f1 x2 < 0) (e13 : dt N f1 x3 < 0) (e21 : dt N f2 x1 < 0) (e22 : dt N f2 x2 = 0) (e23 : dt N f2 x3 < 0) (e31 : dt N f3 x1 < 0) (e32 : dt N f3 x2 < 0) (e33 : dt N f3 x3 = 0) : False := by
  obtain ⟨c, ⟨i, hi', hne⟩, hx⟩ := dimL (g := t3 f1 f2 f3) h hs (fun i j hi' hj => by
    match i, hi' with
    | 0, _ => exact h1 j hj
    | 1, _ => exact h2 j hj
    | 2, _ => exact h3 j hj)
  have ev : ∀ x, c 0 * dt N f1 x + c 1 * dt N f2 x + c 2 * dt N f3 x = 0 := fun x => by simpa [sumZ, t3] using hx x
  have a1 := ev x1
  have a2 := ev x2
  have a3 := ev x3
  rw [e11, Int.mul_zero, Int.mul_comm (c 1), Int.mul_comm (c 2)] at a1
  rw [e22, Int.mul_zero, Int.mul_comm (c 0), Int.mul_comm (c 2)] at a2
  rw [e33, Int.mul_zero, Int.mul_comm (c 0), Int.mul_comm (c 1)] at a3
  obtain ⟨c0, c1, c2'⟩ := sgn3 (x1 := c 0) (x2 := c 1) (x3 := c 2) e21 e31 e12 e32 e13 e23 (by omega) (by omega) (by omega)
  match i, hi' with
  | 0, _ => exact hne c0
  | 1, _ => exact hne c1
  | 2, _ => exact hne c2'
/-- the same beside one more functional -/
theorem part4 {x1 x2 x3 w : Nat → Int} (h : ind N r b) (hs : N < r + 4) (h1 : ∀ j, j < r → dt N f1 (b j) = 0) (h2 : ∀ j, j < r → dt N f2 (b j) = 0) (h3 : ∀ j, j < r → dt N f3 (b j) = 0) (hk : ∀ j, j < r → dt N k (b j) = 0) (hw : dt N k w ≠ 0) (k1 : dt N k x1 = 0) (k2 : dt N k x2 = 0) (k3 : dt N k x3 = 0) (e11 : dt N f1 x1 = 0) (e12 : dt N f1 x2 < 0) (e13 : dt N f1 x3 < 0) (e21 : dt N f2 x1 < 0) (e22 : dt N f2 x2 = 0) (e23 : dt N f2 x3 < 0) (e31 : dt N f3 x1 < 0) (e32 : dt N f3 x2 < 0) (e33 : dt N f3 x3 = 0) : False := by
  obtain ⟨c, ⟨i, hi', hne⟩, hx⟩ := dimL (g := t4 f1 f2 f3 k) h hs (fun i j hi' hj => by
    match i, hi' with
    | 0, _ => exact h1 j hj
    | 1, _ => exact h2 j hj
    | 2, _ => exact h3 j hj
    | 3, _ => exact hk j hj)
  have ev : ∀ x, c 0 * dt N f1 x + c 1 * dt N f2 x + c 2 * dt N f3 x + c 3 * dt N k x = 0 := fun x => by simpa [sumZ, t4] using hx x
  have a1 := ev x1
  have a2 := ev x2
  have a3 := ev x3
  have a4 := ev w
  rw [e11, k1, Int.mul_zero, Int.mul_zero, Int.mul_comm (c 1), Int.mul_comm (c 2)] at a1
  rw [e22, k2, Int.mul_zero, Int.mul_zero, Int.mul_comm (c 0), Int.mul_comm (c 2)] at a2
  rw [e33, k3, Int.mul_zero, Int.mul_zero, Int.mul_comm (c 0), Int.mul_comm (c 1)] at a3
  obtain ⟨c0, c1, c2'⟩ := sgn3 (x1 := c 0) (x2 := c 1) (x3 := c 2) e21 e31 e12 e32 e13 e23 (by omega) (by omega) (by omega)
  rw [c0, c1, c2', Int.zero_mul, Int.zero_mul, Int.zero_mul, Int.zero_add, Int.zero_add, Int.zero_add] at a4
  have c3' : c 3 = 0 := (Int.mul_eq_zero.mp a4).resolve_right hw
  match i, hi' with
  | 0, _ => exact hne c0
  | 1, _ => exact hne c1
  | 2, _ => exact hne c2'
  | 3, _ => exact hne c3'
/-- and beside two more -/
theorem part5 {x1 x2 x3 k' w w' : Nat → Int} (h : ind N r b) (hs : N < r + 5) (h1 : ∀ j, j < r → dt N f1 (b j) = 0) (h2 : ∀ j, j < r → dt N f2 (b j) = 0) (h3 : ∀ j, j < r → dt N f3 (b j) = 0) (hk : ∀ j, j < r → dt N k (b j) = 0) (hk' : ∀ j, j < r → dt N k' (b j) = 0) (hw : dt N k w ≠ 0) (hw0 : dt N k' w = 0) (hw' : dt N k' w' ≠ 0) (k1 : dt N k x1 = 0) (k2 : dt N k x2 = 0) (k3 : dt N k x3 = 0) (k1' : dt N k' x1 = 0) (k2' : dt N k' x2 = 0) (k3' : dt N k' x3 = 0) (e11 : dt N f1 x1 = 0) (e12 : dt N f1 x2 < 0) (e13 : dt N f1 x3 < 0) (e21 : dt N f2 x1 < 0) (e22 : dt N f2 x2 = 0) (e23 : dt N f2 x3 < 0) (e31 : dt N f3 x1 < 0) (e32 : dt N f3 x2 < 0) (e33 : dt N f3 x3 = 0) : False := by
  obtain ⟨c, ⟨i, hi', hne⟩, hx⟩ := dimL (g := t5 f1 f2 f3 k k') h hs (fun i j hi' hj => by
    match i, hi' with
    | 0, _ => exact h1 j hj
    | 1, _ => exact h2 j hj
    | 2, _ => exact h3 j hj
    | 3, _ => exact hk j hj
    | 4, _ => exact hk' j hj)
  have ev : ∀ x, c 0 * dt N f1 x + c 1 * dt N f2 x + c 2 * dt N f3 x + c 3 * dt N k x + c 4 * dt N k' x = 0 := fun x => by simpa [sumZ, t5] using hx x
  have a1 := ev x1
  have a2 := ev x2
  have a3 := ev x3
  have a4 := ev w
  have a5 := ev w'
  rw [e11, k1, k1', Int.mul_zero, Int.mul_zero, Int.mul_zero, Int.mul_comm (c 1), Int.mul_comm (c 2)] at a1
  rw [e22, k2, k2', Int.mul_zero, Int.mul_zero, Int.mul_zero, Int.mul_comm (c 0), Int.mul_comm (c 2)] at a2
  rw [e33, k3, k3', Int.mul_zero, Int.mul_zero, Int.mul_zero, Int.mul_comm (c 0), Int.mul_comm (c 1)] at a3
  obtain ⟨c0, c1, c2'⟩ := sgn3 (x1 := c 0) (x2 := c 1) (x3 := c 2) e21 e31 e12 e32 e13 e23 (by omega) (by omega) (by omega)
  rw [c0, c1, c2', hw0, Int.zero_mul, Int.zero_mul, Int.zero_mul, Int.mul_zero, Int.zero_add, Int.zero_add, Int.zero_add, Int.add_zero] at a4
  have c3' : c 3 = 0 := (Int.mul_eq_zero.mp a4).resolve_right hw
  rw [c0, c1, c2', c3', Int.zero_mul, Int.zero_mul, Int.zero_mul, Int.zero_mul, Int.zero_add, Int.zero_add, Int.zero_add, Int.zero_add] at a5
  have c4' : c 4 = 0 := (Int.mul_eq_zero.mp a5).resolve_right hw'
  match i, hi' with
  | 0, _ => exact hne c0
  | 1, _ => exact hne c1
  | 2, _ => exact hne c2'
  | 3, _ => exact hne c3'
  | 4, _ => exact hne c4'
/-- two that are nothing on N less 1 independent ones go together -/
theorem part2 {x1 x2 : Nat → Int} (h : ind N r b) (hs : N < r + 2) (h1 : ∀ j, j < r → dt N f1 (b j) = 0) (h2 : ∀ j, j < r → dt N f2 (b j) = 0) (e11 : dt N f1 x1 = 0) (e12 : dt N f1 x2 ≠ 0) (e21 : dt N f2 x1 ≠ 0) : False := by
  obtain ⟨c, ⟨i, hi', hne⟩, hx⟩ := dimL (g := t2 f1 f2) h hs (fun i j hi' hj => by
    match i, hi' with
    | 0, _ => exact h1 j hj
    | 1, _ => exact h2 j hj)
  have ev : ∀ x, c 0 * dt N f1 x + c 1 * dt N f2 x = 0 := fun x => by simpa [sumZ, t2] using hx x
  have a1 := ev x1
  have a2 := ev x2
  rw [e11, Int.mul_zero, Int.zero_add] at a1
  have c1 : c 1 = 0 := (Int.mul_eq_zero.mp a1).resolve_right e21
  rw [c1, Int.zero_mul, Int.add_zero] at a2
  have c0 : c 0 = 0 := (Int.mul_eq_zero.mp a2).resolve_right e12
  match i, hi' with
  | 0, _ => exact hne c0
  | 1, _ => exact hne c1
/-- two sides that have the same top -/
theorem part4t {x1 x2 t w : Nat → Int} (h : ind N r b) (hs : N < r + 4) (h1 : ∀ j, j < r → dt N f1 (b j) = 0) (h2 : ∀ j, j < r → dt N f2 (b j) = 0) (h3 : ∀ j, j < r → dt N k (b j) = 0) (hf : ∀ j, j < r → dt N f (b j) = 0) (hw : dt N f w ≠ 0) (z1 : dt N f x1 = 0) (z2 : dt N f x2 = 0) (zt : dt N f t = 0) (e11 : dt N f1 x1 = 0) (e12 : dt N f1 x2 < 0) (e1t : dt N f1 t ≤ 0) (e21 : dt N f2 x1 < 0) (e22 : dt N f2 x2 = 0) (e2t : dt N f2 t ≤ 0) (k1 : dt N k x1 < 0) (k2 : dt N k x2 < 0) (kt : 0 < dt N k t) : False := by
  obtain ⟨c, ⟨i, hi', hne⟩, hx⟩ := dimL (g := t4 f1 f2 k f) h hs (fun i j hi' hj => by
    match i, hi' with
    | 0, _ => exact h1 j hj
    | 1, _ => exact h2 j hj
    | 2, _ => exact h3 j hj
    | 3, _ => exact hf j hj)
  have ev : ∀ x, c 0 * dt N f1 x + c 1 * dt N f2 x + c 2 * dt N k x + c 3 * dt N f x = 0 := fun x => by simpa [sumZ, t4] using hx x
  have a1 := ev x1
  have a2 := ev x2
  have a3 := ev t
  have a4 := ev w
  rw [e11, z1, Int.mul_zero, Int.mul_zero, Int.mul_comm (c 1), Int.mul_comm (c 2)] at a1
  rw [e22, z2, Int.mul_zero, Int.mul_zero, Int.mul_comm (c 0), Int.mul_comm (c 2)] at a2
  rw [zt, Int.mul_zero] at a3
  have o1 := opp2 (x := c 1) (y := c 2) e21 k1 (by omega)
  have o2 := opp2 (x := c 0) (y := c 2) e12 k2 (by omega)
  have c2' : c 2 = 0 := by
    rcases Int.lt_trichotomy (c 2) 0 with z | z | z
    · have q1 : 0 < c 1 := by omega
      have q0 : 0 < c 0 := by omega
      have m0 : c 0 * dt N f1 t ≤ 0 := Int.mul_nonpos_of_nonneg_of_nonpos (by omega) e1t
      have m1 : c 1 * dt N f2 t ≤ 0 := Int.mul_nonpos_of_nonneg_of_nonpos (by omega) e2t
      have m2 : c 2 * dt N k t < 0 := Int.mul_neg_of_neg_of_pos z kt
      omega
    · exact z
    · have q1 : c 1 < 0 := by omega
      have q0 : c 0 < 0 := by omega
      have m0 : 0 ≤ c 0 * dt N f1 t := Int.mul_nonneg_of_nonpos_of_nonpos (by omega) e1t
      have m1 : 0 ≤ c 1 * dt N f2 t := Int.mul_nonneg_of_nonpos_of_nonpos (by omega) e2t
      have m2 : 0 < c 2 * dt N k t := Int.mul_pos z kt
      omega
  have c1 : c 1 = 0 := by omega
  have c0 : c 0 = 0 := by omega
  rw [c0, c1, c2', Int.zero_mul, Int.zero_mul, Int.zero_mul, Int.zero_add, Int.zero_add, Int.zero_add] at a4
  have c3' : c 3 = 0 := (Int.mul_eq_zero.mp a4).resolve_right hw
  match i, hi' with
  | 0, _ => exact hne c0
  | 1, _ => exact hne c1
  | 2, _ => exact hne c2'
  | 3, _ => exact hne c3'
end SGN

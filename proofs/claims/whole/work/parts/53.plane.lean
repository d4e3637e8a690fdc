/-! ===== THE REFERENCE: planes through points ===== -/
/-- the points of the hull at work -/
def AtZ (h : qH) (n : Nat) (P : Nat → Nat → Int) : Prop := n ≤ 256 ∧ ∀ p k, p < n → k < 4 → hi h 63 (4 * p + k) = iZ (P p k) ∧ -999 ≤ P p k ∧ P p k ≤ 999
theorem AtZ.at {h : qH} {n : Nat} {P : Nat → Nat → Int} (a : AtZ h n P) {p k : Nat} (hp : p < n) (hk : k < 4) : hi h 63 (4 * p + k) = iZ (P p k) := (a.2 p k hp hk).1
theorem AtZ.same {h h' : qH} {n : Nat} {P : Nat → Nat → Int} (a : AtZ h n P) (e : hi h' 63 = hi h 63) : AtZ h' n P := ⟨a.1, fun p k hp hk => by rw [e]; exact a.2 p k hp hk⟩
theorem AtZ.lt {h : qH} {n : Nat} {P : Nat → Nat → Int} (a : AtZ h n P) {p k : Nat} (hp : p < n) (hk : k < 4) : 4 * p + k < 1024 := by have := a.1; omega
def ap (P : Nat → Nat → Int) (p q k : Nat) : Int := P q k - P p k
def c2 (P : Nat → Nat → Int) (p q r a b : Nat) : Int := ap P p q a * ap P p r b - ap P p q b * ap P p r a
def c3 (P : Nat → Nat → Int) (p q r s a b c : Nat) : Int := ap P p q a * c2 P p r s b c - ap P p q b * c2 P p r s a c + ap P p q c * c2 P p r s a b
theorem AtZ.apb {h : qH} {n : Nat} {P : Nat → Nat → Int} (a : AtZ h n P) {p q k : Nat} (hp : p < n) (hq : q < n) (hk : k < 4) : -1998 ≤ ap P p q k ∧ ap P p q k ≤ 1998 := by
  have h1 := (a.2 p k hp hk).2
  have h2 := (a.2 q k hq hk).2
  show -1998 ≤ P q k - P p k ∧ P q k - P p k ≤ 1998; omega
theorem mul_b {x y A B : Int} (hx : -A ≤ x ∧ x ≤ A) (hy : -B ≤ y ∧ y ≤ B) : -(A * B) ≤ x * y ∧ x * y ≤ A * B := by
  have hA : 0 ≤ A := by omega
  have hB : 0 ≤ B := by omega
  have h1 : (x * y).natAbs ≤ A.natAbs * B.natAbs := by
    rw [Int.natAbs_mul]
    exact Nat.mul_le_mul (by omega) (by omega)
  have h2 : ((A.natAbs * B.natAbs : Nat) : Int) = A * B := by
    rw [Int.natCast_mul, Int.natAbs_of_nonneg hA, Int.natAbs_of_nonneg hB]
  omega
theorem AtZ.c2b {h : qH} {n : Nat} {P : Nat → Nat → Int} (a : AtZ h n P) {p q r x y : Nat} (hp : p < n) (hq : q < n) (hr : r < n) (hx : x < 4) (hy : y < 4) : -7984008 ≤ c2 P p q r x y ∧ c2 P p q r x y ≤ 7984008 := by
  have h1 := mul_b (a.apb hp hq hx) (a.apb hp hr hy)
  have h2 := mul_b (a.apb hp hq hy) (a.apb hp hr hx)
  unfold c2; omega
theorem AtZ.c3b {h : qH} {n : Nat} {P : Nat → Nat → Int} (a : AtZ h n P) {p q r s x y z : Nat} (hp : p < n) (hq : q < n) (hr : r < n) (hs : s < n) (hx : x < 4) (hy : y < 4) (hz : z < 4) : -47856143952 ≤ c3 P p q r s x y z ∧ c3 P p q r s x y z ≤ 47856143952 := by
  have h1 := mul_b (a.apb hp hq hx) (a.c2b hp hr hs hy hz)
  have h2 := mul_b (a.apb hp hq hy) (a.c2b hp hr hs hx hz)
  have h3 := mul_b (a.apb hp hq hz) (a.c2b hp hr hs hx hy)
  unfold c3; omega
set_option maxRecDepth 100000 in
set_option maxHeartbeats 8000000 in
theorem s_apart {d n p q k : Nat} {P : Nat → Nat → Int} {h : qH} {R : qRes} (s : ShM h) (a : AtZ h n P) (hp : p < n) (hq : q < n) (hk : k < 4) : qMC (d + 1) 202 [.ref 55, .int (iN p), .int (iN q), .int (iN k)] h R ↔ R = (some (.long (lZ (ap P p q k))), h) := by
  have h1 := a.lt hp hk
  have h2 := a.lt hq hk
  simp (disch := first | assumption | omega) only [e202_0, e202_1, e202_4, e202_5, e202_6, e202_7, e202_8, e202_9, e202_10, e202_11, e202_14, e202_15, e202_16, e202_17, e202_18, e202_19, e202_20, e202_21, e202_22, m202, ↓reduceIte, qg_0, qg_1, qg_2, qg_3, qg_4, qg_5, qg_6, qg_7, qg_8, qg_9, qg_10, qg_11, qg_12, qg_13, not_true_eq_false, not_false_eq_true, Nat.reduceBEq, Bool.false_eq_true, ex1, ex3, ex4, exF, qfit_i, qfit_l, qfit_r, qfit_n, qfit_b0, qfit_b1, qcat_i, qcat_r, qcat_n, qcat_l, qroom_0, qroom_c, List.map_cons, List.map_nil, List.sum_cons, List.sum_nil, Nat.reduceAdd, Nat.reduceMul, Nat.reduceLT, Nat.reduceLeDiff, Nat.reduceEqDiff, Nat.reduceSub, decide_true, true_and, and_true, and_self, if_true, if_false, Option.toList_some, Option.toList_none, List.cons_append, List.nil_append, qsL, qlong, List.length_cons, List.length_nil, gM_10, iN_Lmul, iN_add, rM_63]
  rw [a.at hp hk, a.at hq hk, iZ_sub, iZ_long (by have := a.apb hp hq hk; unfold iB; unfold ap at this; omega)]
  rfl
set_option maxRecDepth 100000 in
set_option maxHeartbeats 8000000 in
theorem s_corner2 {d n p q r x y : Nat} {P : Nat → Nat → Int} {h : qH} {R : qRes} (s : ShM h) (a : AtZ h n P) (hp : p < n) (hq : q < n) (hr : r < n) (hx : x < 4) (hy : y < 4) : qMC (d + 2) 203 [.ref 55, .int (iN p), .int (iN q), .int (iN r), .int (iN x), .int (iN y)] h R ↔ R = (some (.long (lZ (c2 P p q r x y))), h) := by
  simp (disch := first | assumption | omega) only [e203_0, e203_1, e203_2, e203_3, e203_5, e203_8, e203_9, e203_10, e203_11, e203_13, e203_16, e203_17, e203_18, e203_19, e203_20, e203_22, e203_25, e203_26, e203_27, e203_28, e203_30, e203_33, e203_34, e203_35, m203, ↓reduceIte, qg_0, qg_1, qg_2, qg_3, qg_4, qg_5, qg_6, qg_7, qg_8, qg_9, qg_10, qg_11, qg_12, qg_13, not_true_eq_false, not_false_eq_true, Nat.reduceBEq, Bool.false_eq_true, ex1, ex3, ex4, exF, qfit_i, qfit_l, qfit_r, qfit_n, qfit_b0, qfit_b1, qcat_i, qcat_r, qcat_n, qcat_l, qroom_0, qroom_c, List.map_cons, List.map_nil, List.sum_cons, List.sum_nil, Nat.reduceAdd, Nat.reduceMul, Nat.reduceLT, Nat.reduceLeDiff, Nat.reduceEqDiff, Nat.reduceSub, decide_true, true_and, and_true, and_self, if_true, if_false, Option.toList_some, Option.toList_none, List.cons_append, List.nil_append, qsL, qlong, List.length_cons, List.length_nil, vM1, vM2, s_apart s a, lZ_mul, lZ_sub]
  rfl
set_option maxRecDepth 100000 in
set_option maxHeartbeats 8000000 in
theorem s_corner3 {d n p q r t x y z : Nat} {P : Nat → Nat → Int} {h : qH} {R : qRes} (s : ShM h) (a : AtZ h n P) (hp : p < n) (hq : q < n) (hr : r < n) (ht : t < n) (hx : x < 4) (hy : y < 4) (hz : z < 4) : qMC (d + 3) 204 [.ref 55, .int (iN p), .int (iN q), .int (iN r), .int (iN t), .int (iN x), .int (iN y), .int (iN z)] h R ↔ R = (some (.long (lZ (c3 P p q r t x y z))), h) := by
  simp (disch := first | assumption | omega) only [e204_0, e204_1, e204_2, e204_3, e204_5, e204_8, e204_9, e204_10, e204_11, e204_13, e204_15, e204_17, e204_20, e204_21, e204_22, e204_23, e204_24, e204_26, e204_29, e204_30, e204_31, e204_32, e204_34, e204_36, e204_38, e204_41, e204_42, e204_43, e204_44, e204_45, e204_46, e204_48, e204_51, e204_52, e204_53, e204_54, e204_56, e204_58, e204_60, e204_63, e204_64, e204_65, m204, ↓reduceIte, qg_0, qg_1, qg_2, qg_3, qg_4, qg_5, qg_6, qg_7, qg_8, qg_9, qg_10, qg_11, qg_12, qg_13, not_true_eq_false, not_false_eq_true, Nat.reduceBEq, Bool.false_eq_true, ex1, ex3, ex4, exF, qfit_i, qfit_l, qfit_r, qfit_n, qfit_b0, qfit_b1, qcat_i, qcat_r, qcat_n, qcat_l, qroom_0, qroom_c, List.map_cons, List.map_nil, List.sum_cons, List.sum_nil, Nat.reduceAdd, Nat.reduceMul, Nat.reduceLT, Nat.reduceLeDiff, Nat.reduceEqDiff, Nat.reduceSub, decide_true, true_and, and_true, and_self, if_true, if_false, Option.toList_some, Option.toList_none, List.cons_append, List.nil_append, qsL, qlong, List.length_cons, List.length_nil, vM1, vM2, s_apart s a, s_corner2 s a, lZ_mul, lZ_sub, lZ_add]
  rfl
/-- the normal of the plane through the points picked, as it comes -/
def rawN (P : Nat → Nat → Int) (D : Nat) (p q r t : Nat) : Nat → Int := fun k =>
  if D = 2 then (if k = 0 then ap P p q 1 else if k = 1 then -ap P p q 0 else 0)
  else if D = 3 then (if k = 0 then c2 P p q r 1 2 else if k = 1 then -c2 P p q r 0 2 else if k = 2 then c2 P p q r 0 1 else 0)
  else (if k = 0 then c3 P p q r t 1 2 3 else if k = 1 then -c3 P p q r t 0 2 3 else if k = 2 then c3 P p q r t 0 1 3 else if k = 3 then -c3 P p q r t 0 1 2 else 0)
def gcd4 (N : Nat → Int) : Nat := Nat.gcd (Nat.gcd (N 0).natAbs (N 1).natAbs) (Nat.gcd (N 2).natAbs (N 3).natAbs)
/-- made as small as it goes -/
def smN (N : Nat → Int) : Nat → Int := fun k => if 0 < gcd4 N then (N k).tdiv (gcd4 N) else N k
theorem rawN_b {h : qH} {n : Nat} {P : Nat → Nat → Int} (a : AtZ h n P) {D p q r t : Nat} (hp : p < n) (hq : q < n) (hr : 3 ≤ D → r < n) (ht : 4 ≤ D → t < n) (hD : 2 ≤ D ∧ D ≤ 4) (k : Nat) : -47856143952 ≤ rawN P D p q r t k ∧ rawN P D p q r t k ≤ 47856143952 := by
  unfold rawN
  by_cases h2 : D = 2
  · rw [if_pos h2]
    have h1 := a.apb hp hq (k := 0) (by decide)
    have h3 := a.apb hp hq (k := 1) (by decide)
    repeat' split
    all_goals omega
  · rw [if_neg h2]
    have hr' := hr (by omega)
    by_cases h3 : D = 3
    · rw [if_pos h3]
      have h1 := a.c2b hp hq hr' (x := 1) (y := 2) (by decide) (by decide)
      have h4 := a.c2b hp hq hr' (x := 0) (y := 2) (by decide) (by decide)
      have h5 := a.c2b hp hq hr' (x := 0) (y := 1) (by decide) (by decide)
      repeat' split
      all_goals omega
    · rw [if_neg h3]
      have ht' := ht (by omega)
      have h1 := a.c3b hp hq hr' ht' (x := 1) (y := 2) (z := 3) (by decide) (by decide) (by decide)
      have h4 := a.c3b hp hq hr' ht' (x := 0) (y := 2) (z := 3) (by decide) (by decide) (by decide)
      have h5 := a.c3b hp hq hr' ht' (x := 0) (y := 1) (z := 3) (by decide) (by decide) (by decide)
      have h6 := a.c3b hp hq hr' ht' (x := 0) (y := 1) (z := 2) (by decide) (by decide) (by decide)
      repeat' split
      all_goals omega

/-! ===== THE REFERENCE: square, cube ===== -/
section SIZE
variable {d : Nat} {h : qH} {bs : List bdy} {i : Nat} {m : Nat} {E : Nat → Nat → Int}
/-- rows of differences -/
def EdV (h : qH) (m : Nat) (E : Nat → Nat → Int) : Prop := ∀ r, r < m → ∀ k, k < 4 → hl h 90 (4 * r + k) = lZ (E r k)
def sq2 (E : Nat → Nat → Int) (a b x y : Nat) : Int := E a x * E b y - E a y * E b x
def cu3 (E : Nat → Nat → Int) (a b c x y z : Nat) : Int := E a x * sq2 E b c y z - E a y * sq2 E b c x z + E a z * sq2 E b c x y
set_option maxRecDepth 100000 in
set_option maxHeartbeats 16000000 in
theorem s_square {a b x y : Nat} (s : ShM h) (v : EdV h m E) (hm : m ≤ 4) (ha : a < m) (hb : b < m) (hx : x < 4) (hy : y < 4) (R : qRes) : qMC (d + 1) 285 [.ref 55, .int (iN a), .int (iN b), .int (iN x), .int (iN y)] h R ↔ R = (some (.long (lZ (sq2 E a b x y))), h) := by
  have v1 := v a ha x hx
  have v2 := v a ha y hy
  have v3 := v b hb x hx
  have v4 := v b hb y hy
  simp (disch := first | assumption | omega) only [e285_0, e285_1, e285_4, e285_5, e285_6, e285_7, e285_8, e285_9, e285_10, e285_11, e285_14, e285_15, e285_16, e285_17, e285_19, e285_20, e285_21, e285_22, e285_23, e285_26, e285_27, e285_28, e285_29, e285_31, e285_32, e285_33, e285_34, e285_37, e285_38, e285_39, e285_40, e285_41, e285_42, e285_43, e285_44, e285_45, m285, ↓reduceIte, qg_0, qg_1, qg_2, qg_3, qg_4, qg_5, qg_6, qg_7, qg_8, qg_9, qg_10, qg_11, qg_12, qg_13, not_true_eq_false, not_false_eq_true, Nat.reduceBEq, Bool.false_eq_true, ex1, ex3, ex4, exF, qfit_i, qfit_l, qfit_r, qfit_n, qfit_b0, qfit_b1, qcat_i, qcat_r, qcat_n, qcat_l, qroom_0, qroom_c, List.map_cons, List.map_nil, List.sum_cons, List.sum_nil, Nat.reduceAdd, Nat.reduceMul, Nat.reduceLT, Nat.reduceLeDiff, Nat.reduceEqDiff, Nat.reduceSub, decide_true, true_and, and_true, and_self, if_true, if_false, Option.toList_some, Option.toList_none, List.cons_append, List.nil_append, qsL, qlong, List.length_cons, List.length_nil, iN_L, vM1, vM2, exI, iN_add, iN_mul, iN_le, iN_lt, iN_eq, Nat.le_refl, qfN0, qfN1, gM_47, rM_90, v1, v2, v3, v4, lZ_mul, lZ_sub]
  exact Iff.rfl
set_option maxRecDepth 100000 in
set_option maxHeartbeats 16000000 in
theorem s_cube {a b c x y z : Nat} (s : ShM h) (v : EdV h m E) (hm : m ≤ 4) (ha : a < m) (hb : b < m) (hc : c < m) (hx : x < 4) (hy : y < 4) (hz : z < 4) (R : qRes) : qMC (d + 2) 286 [.ref 55, .int (iN a), .int (iN b), .int (iN c), .int (iN x), .int (iN y), .int (iN z)] h R ↔ R = (some (.long (lZ (cu3 E a b c x y z))), h) := by
  have v1 := v a ha x hx
  have v2 := v a ha y hy
  have v3 := v a ha z hz
  have q1 : ∀ R, qMC (d + 1) 285 [.ref 55, .int (iN b), .int (iN c), .int (iN y), .int (iN z)] h R ↔ _ := fun R => s_square s v hm hb hc hy hz R
  have q2 : ∀ R, qMC (d + 1) 285 [.ref 55, .int (iN b), .int (iN c), .int (iN x), .int (iN z)] h R ↔ _ := fun R => s_square s v hm hb hc hx hz R
  have q3 : ∀ R, qMC (d + 1) 285 [.ref 55, .int (iN b), .int (iN c), .int (iN x), .int (iN y)] h R ↔ _ := fun R => s_square s v hm hb hc hx hy R
  simp (disch := first | assumption | omega) only [e286_0, e286_1, e286_4, e286_5, e286_6, e286_7, e286_9, e286_10, e286_11, e286_12, e286_13, e286_14, e286_16, e286_18, e286_21, e286_22, e286_23, e286_26, e286_27, e286_28, e286_29, e286_31, e286_32, e286_33, e286_34, e286_35, e286_36, e286_38, e286_40, e286_43, e286_44, e286_45, e286_46, e286_49, e286_50, e286_51, e286_52, e286_54, e286_55, e286_56, e286_57, e286_58, e286_59, e286_61, e286_63, e286_66, e286_67, e286_68, m286, ↓reduceIte, qg_0, qg_1, qg_2, qg_3, qg_4, qg_5, qg_6, qg_7, qg_8, qg_9, qg_10, qg_11, qg_12, qg_13, not_true_eq_false, not_false_eq_true, Nat.reduceBEq, Bool.false_eq_true, ex1, ex3, ex4, exF, qfit_i, qfit_l, qfit_r, qfit_n, qfit_b0, qfit_b1, qcat_i, qcat_r, qcat_n, qcat_l, qroom_0, qroom_c, List.map_cons, List.map_nil, List.sum_cons, List.sum_nil, Nat.reduceAdd, Nat.reduceMul, Nat.reduceLT, Nat.reduceLeDiff, Nat.reduceEqDiff, Nat.reduceSub, decide_true, true_and, and_true, and_self, if_true, if_false, Option.toList_some, Option.toList_none, List.cons_append, List.nil_append, qsL, qlong, List.length_cons, List.length_nil, iN_L, vM1, vM2, exI, iN_add, iN_mul, iN_le, iN_lt, iN_eq, Nat.le_refl, qfN0, qfN1, gM_47, rM_90, v1, v2, v3, q1, q2, q3, lZ_mul, lZ_sub, lZ_add]
  exact Iff.rfl
/-- bounds -/
theorem mulB2 {a b A B : Int} (hA : 0 ≤ A) (h1 : -A ≤ a ∧ a ≤ A) (h2 : -B ≤ b ∧ b ≤ B) : -(A * B) ≤ a * b ∧ a * b ≤ A * B := by
  obtain ⟨x1, x2⟩ := h1
  obtain ⟨y1, y2⟩ := h2
  have p1 : 0 ≤ (A - a) * (B + b) := Int.mul_nonneg (by omega) (by omega)
  have p2 : 0 ≤ (A + a) * (B - b) := Int.mul_nonneg (by omega) (by omega)
  have p3 : 0 ≤ (A - a) * (B - b) := Int.mul_nonneg (by omega) (by omega)
  have p4 : 0 ≤ (A + a) * (B + b) := Int.mul_nonneg (by omega) (by omega)
  constructor <;> grind
theorem sq2_b {a b x y : Nat} (hE : ∀ r k, r < m → k < 4 → -1998 ≤ E r k ∧ E r k ≤ 1998) (ha : a < m) (hb : b < m) (hx : x < 4) (hy : y < 4) : -7984008 ≤ sq2 E a b x y ∧ sq2 E a b x y ≤ 7984008 := by
  have h1 := mulB2 (by decide) (hE a x ha hx) (hE b y hb hy)
  have h2 := mulB2 (by decide) (hE a y ha hy) (hE b x hb hx)
  unfold sq2
  omega
theorem cu3_b {a b c x y z : Nat} (hE : ∀ r k, r < m → k < 4 → -1998 ≤ E r k ∧ E r k ≤ 1998) (ha : a < m) (hb : b < m) (hc : c < m) (hx : x < 4) (hy : y < 4) (hz : z < 4) : -47856143952 ≤ cu3 E a b c x y z ∧ cu3 E a b c x y z ≤ 47856143952 := by
  have h1 := mulB2 (by decide) (hE a x ha hx) (sq2_b hE hb hc hy hz)
  have h2 := mulB2 (by decide) (hE a y ha hy) (sq2_b hE hb hc hx hz)
  have h3 := mulB2 (by decide) (hE a z ha hz) (sq2_b hE hb hc hx hy)
  unfold cu3
  omega
def de4 (E : Nat → Nat → Int) : Int := E 0 0 * cu3 E 1 2 3 1 2 3 - E 0 1 * cu3 E 1 2 3 0 2 3 + E 0 2 * cu3 E 1 2 3 0 1 3 - E 0 3 * cu3 E 1 2 3 0 1 2
def deD (D : Nat) (E : Nat → Nat → Int) : Int := if D = 2 then sq2 E 0 1 0 1 else if D = 3 then cu3 E 0 1 2 0 1 2 else de4 E
theorem deD_b {D : Nat} (hD : 2 ≤ D ∧ D ≤ 4) (hE : ∀ r k, r < D → k < 4 → -1998 ≤ E r k ∧ E r k ≤ 1998) : -400000000000000 ≤ deD D E ∧ deD D E ≤ 400000000000000 := by
  unfold deD
  by_cases h2 : D = 2
  · have := sq2_b (m := D) hE (show 0 < D by omega) (show 1 < D by omega) (show 0 < 4 by omega) (show 1 < 4 by omega)
    rw [if_pos h2]; omega
  · rw [if_neg h2]
    by_cases h3 : D = 3
    · have := cu3_b (m := D) hE (show 0 < D by omega) (show 1 < D by omega) (show 2 < D by omega) (show 0 < 4 by omega) (show 1 < 4 by omega) (show 2 < 4 by omega)
      rw [if_pos h3]; omega
    · rw [if_neg h3]
      have c1 := mulB2 (by decide) (hE 0 0 (by omega) (by omega)) (cu3_b (m := D) hE (show 1 < D by omega) (show 2 < D by omega) (show 3 < D by omega) (show 1 < 4 by omega) (show 2 < 4 by omega) (show 3 < 4 by omega))
      have c2 := mulB2 (by decide) (hE 0 1 (by omega) (by omega)) (cu3_b (m := D) hE (show 1 < D by omega) (show 2 < D by omega) (show 3 < D by omega) (show 0 < 4 by omega) (show 2 < 4 by omega) (show 3 < 4 by omega))
      have c3 := mulB2 (by decide) (hE 0 2 (by omega) (by omega)) (cu3_b (m := D) hE (show 1 < D by omega) (show 2 < D by omega) (show 3 < D by omega) (show 0 < 4 by omega) (show 1 < 4 by omega) (show 3 < 4 by omega))
      have c4 := mulB2 (by decide) (hE 0 3 (by omega) (by omega)) (cu3_b (m := D) hE (show 1 < D by omega) (show 2 < D by omega) (show 3 < D by omega) (show 0 < 4 by omega) (show 1 < 4 by omega) (show 2 < 4 by omega))
      unfold de4
      omega
end SIZE

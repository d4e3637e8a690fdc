/-! ===== THE CLASS: planes; parted ===== -/
section XPLANES
variable {d : Nat} {h : qH} {bs : List bdy} {sa : Nat → Nat} {R : qRes} {l : List pt4} {D : Nat}
theorem ovZ_mul {q g : Nat → Int} {u v : Int} (h0 : u * q 0 = v * g 0) (h1 : u * q 1 = v * g 1) (h2 : 2 < D → u * q 2 = v * g 2) (h3 : 3 < D → u * q 3 = v * g 3) (h4 : u * q 4 = v * g 4) (p : pt4) (s : Int) : u * ovZ q D p s = v * ovZ g D p s := by
  unfold ovZ
  rw [Int.mul_add, Int.mul_add, Int.mul_sub, Int.mul_add, Int.mul_add, Int.mul_add, Int.mul_sub, Int.mul_add, ← Int.mul_assoc u, ← Int.mul_assoc u, ← Int.mul_assoc u, ← Int.mul_assoc v, ← Int.mul_assoc v, ← Int.mul_assoc v, h0, h1, h4]
  congr 1
  · congr 1
    by_cases z : 2 < D
    · rw [if_pos z, if_pos z, ← Int.mul_assoc, ← Int.mul_assoc, h2 z]
    · rw [if_neg z, if_neg z, Int.mul_zero, Int.mul_zero]
  · by_cases z : 3 < D
    · rw [if_pos z, if_pos z, ← Int.mul_assoc, ← Int.mul_assoc, h3 z]
    · rw [if_neg z, if_neg z, Int.mul_zero, Int.mul_zero]
/-- two planes of one facet -/
theorem pl_two (ok : okP l D) (so : solid l D) {x : Nat} {q g : Nat → Int} (hq : isPl l D x q) (hg : isPl l D x g) : ∃ u v : Int, (0 < u ∧ 0 < v) ∧ ∀ p s, u * ovZ q D p s = v * ovZ g D p s := by
  obtain ⟨m, S, G, b⟩ := bdG_ex ok so
  have hD := ok.2.2.2.2
  obtain ⟨f1, -, z1⟩ := hq.fc ok b
  obtain ⟨f2, -, z2⟩ := hg.fc ok b
  have gp : gpr (D + 1) (oF D q) (oF D g) := f2.2 _ fun c hc h0 => ((z1 c).mp ((z2 c).mpr ⟨hc, h0⟩)).2
  obtain ⟨c, hc, nz⟩ := gnz_pt b.P.1 f2.1.2
  have n2 : dt (D + 1) (oF D g) (cX l D c) < 0 := by have := f2.1.1 c hc; omega
  have n1 : dt (D + 1) (oF D q) (cX l D c) < 0 := by
    have h1 := f1.1.1 c hc
    have h2 : dt (D + 1) (oF D q) (cX l D c) ≠ 0 := fun z => nz ((z2 c).mp ((z1 c).mpr ⟨hc, z⟩)).2
    omega
  have key : ∀ j, j < D + 1 → -dt (D + 1) (oF D g) (cX l D c) * oF D q j = -dt (D + 1) (oF D q) (cX l D c) * oF D g j := fun j hj => by
    have := gpr_dt gp (x := cX l D c) hj
    rw [Int.neg_mul, Int.neg_mul, this, Int.mul_comm (oF D q j)]
  obtain ⟨u, eu⟩ : ∃ u, u = -dt (D + 1) (oF D g) (cX l D c) := ⟨_, rfl⟩
  obtain ⟨v, ev⟩ : ∃ v, v = -dt (D + 1) (oF D q) (cX l D c) := ⟨_, rfl⟩
  rw [← eu, ← ev] at key
  refine ⟨u, v, ⟨by omega, by omega⟩, fun p s => ?_⟩
  have ko : ∀ t, t < D → u * q t = v * g t := fun t ht => by
    have := key t (by omega)
    unfold oF pF at this
    rw [if_neg (by omega), if_neg (by omega)] at this
    exact this
  have k4 : u * q 4 = v * g 4 := by
    have := key D (by omega)
    unfold oF pF at this
    rw [if_pos rfl, if_pos rfl, Int.mul_neg, Int.mul_neg] at this
    omega
  exact ovZ_mul (ko 0 (by omega)) (ko 1 (by omega)) (fun z => ko 2 z) (fun z => ko 3 z) k4 p s
theorem sg_mul {u v a b : Int} (hu : 0 < u) (hv : 0 < v) (e : u * a = v * b) : (0 < a ↔ 0 < b) ∧ (a = 0 ↔ b = 0) := by
  have p1 : 0 < u * a ↔ 0 < a := ⟨fun z => Int.pos_of_mul_pos_right z hu, fun z => Int.mul_pos hu z⟩
  have p2 : 0 < v * b ↔ 0 < b := ⟨fun z => Int.pos_of_mul_pos_right z hv, fun z => Int.mul_pos hv z⟩
  refine ⟨by rw [← p1, e, p2], ?_⟩
  constructor
  · intro z
    rw [z, Int.mul_zero] at e
    rcases Int.mul_eq_zero.mp e.symm with w | w
    · omega
    · exact w
  · intro z
    rw [z, Int.mul_zero] at e
    rcases Int.mul_eq_zero.mp e with w | w
    · omega
    · exact w
/-- the class's planes part as the reference's -/
theorem pl_sgn (ok : okP l D) (so : solid l D) {x : Nat} {q g : Nat → Int} (hq : plS l D x q) (hg : isPl l D x g) (p : pt4) (s : Int) : (0 < ovZ q D p s ↔ 0 < ovZ g D p s) ∧ (ovZ q D p s = 0 ↔ ovZ g D p s = 0) := by
  obtain ⟨g0, u, v, h1, ⟨hu, hv⟩, h2⟩ := hq
  obtain ⟨u', v', ⟨hu', hv'⟩, h3⟩ := pl_two ok so h1 hg
  have e1 := sg_mul hu hv (ovZ_mul (D := D) (h2 0 (by decide)) (h2 1 (by decide)) (fun _ => h2 2 (by decide)) (fun _ => h2 3 (by decide)) (h2 4 (by decide)) p s)
  have e2 := sg_mul hu' hv' (h3 p s)
  exact ⟨e1.1.trans e2.1, e1.2.trans e2.2⟩
/-- a place in a row of ints -/
def spX (h : qH) (r t : Nat) (p : pt4) : Prop := ∃ n, kI h r n ∧ t + 4 ≤ n ∧ ∀ k, k < 4 → hi h r (t + k) = iZ (co p k) ∧ -999 ≤ co p k ∧ co p k ≤ 999
theorem ovZ_1 {q : Nat → Int} (hD : 2 ≤ D) (hz : ∀ t, D ≤ t → t < 4 → q t = 0) (p : pt4) : ovZ q D p 1 = q 0 * p.1 + q 1 * p.2.1 + q 2 * p.2.2.1 + q 3 * p.2.2.2 - q 4 := by
  unfold ovZ
  by_cases z2 : 2 < D
  · rw [if_pos z2]
    by_cases z3 : 3 < D
    · rw [if_pos z3]; omega
    · rw [if_neg z3, hz 3 (by omega) (by decide)]; omega
  · rw [if_neg z2, if_neg (by omega), hz 2 (by omega) (by decide), hz 3 (by omega) (by decide)]; omega
theorem ovZ_1b {q : Nat → Int} (hD : 2 ≤ D) (hq : plBd D q) {p : pt4} (hp : ∀ k, k < 4 → -999 ≤ co p k ∧ co p k ≤ 999) : lB (ovZ q D p 1) := by
  rw [ovZ_1 hD hq.2.2]
  have m0 := mul_b (A := 100000000000) (B := 999) (hq.1 0 (by decide)) (hp 0 (by decide))
  have m1 := mul_b (A := 100000000000) (B := 999) (hq.1 1 (by decide)) (hp 1 (by decide))
  have m2 := mul_b (A := 100000000000) (B := 999) (hq.1 2 (by decide)) (hp 2 (by decide))
  have m3 := mul_b (A := 100000000000) (B := 999) (hq.1 3 (by decide)) (hp 3 (by decide))
  have e0 : co p 0 = p.1 := rfl
  have e1 : co p 1 = p.2.1 := rfl
  have e2 : co p 2 = p.2.2.1 := rfl
  have e3 : co p 3 = p.2.2.2 := rfl
  rw [e0] at m0
  rw [e1] at m1
  rw [e2] at m2
  rw [e3] at m3
  have := hq.2.1
  unfold lB
  omega
set_option maxRecDepth 100000 in
set_option maxHeartbeats 16000000 in
theorem x_beyond {i j r t w : Nat} {p : pt4} {Q : Nat → Nat → Int} {pp q e : Nat} {B : Nat → Nat} (S : SoD h (sa i) (dmn bs i) (scl bs i) (cnr bs i) (cel bs i) pp q w e B) (hD : 2 ≤ dmn bs i) (V : SoQ h w (bs.getD i b0).1 (dmn bs i) (fct bs i) Q) (hj : j < (fct bs i).length) (hl8 : (fct bs i).length ≤ 208) (sp : spX h r t p) (ht : t < 1000) : qMC (d + 1) 116 [.ref (sa i), .int (iN j), .ref r, .int (iN t)] h R ↔ R = (some (.long (lZ (ovZ (Q j) (dmn bs i) p 1))), h) := by
  obtain ⟨⟨u16, ult, uF⟩, g0, g1, g2, g3, g4, g5, g6⟩ := S.obj
  obtain ⟨⟨w97, kw⟩, V2⟩ := V
  obtain ⟨⟨-, pb⟩, v⟩ := V2 j hj
  obtain ⟨n, kr, tn, sv⟩ := sp
  have ib : ∀ k, k < 4 → iB (co p k) := fun k hk => by have := (sv k hk).2; unfold iB; omega
  have rl : ∀ k, k < 5 → qlald h w (iN (j * 5 + k)) = some (lZ (Q j k)) := fun k hk => by rw [rdL kw (by omega), v k hk]
  have ri : ∀ k, k < 4 → qiald h r (iN (t + k)) = some (iZ (co p k)) := fun k hk => by rw [rdI kr (by omega), (sv k hk).1]
  have a0 : qlald h w (iN (j * 5)) = some (lZ (Q j 0)) := rl 0 (by decide)
  have a1 := rl 1 (by decide)
  have a2 := rl 2 (by decide)
  have a3 := rl 3 (by decide)
  have a4 := rl 4 (by decide)
  have b0 : qiald h r (iN t) = some (iZ (co p 0)) := ri 0 (by decide)
  have b1 := ri 1 (by decide)
  have b2 := ri 2 (by decide)
  have b3 := ri 3 (by decide)
  have l0 := iZ_long (ib 0 (by decide))
  have l1 := iZ_long (ib 1 (by decide))
  have l2 := iZ_long (ib 2 (by decide))
  have l3 := iZ_long (ib 3 (by decide))
  rw [ovZ_1 hD pb.2.2, show p.1 = co p 0 from rfl, show p.2.1 = co p 1 from rfl, show p.2.2.1 = co p 2 from rfl, show p.2.2.2 = co p 3 from rfl]
  simp (disch := first | assumption | omega) only [e116_0, e116_1, e116_2, e116_3, e116_5, e116_6, e116_9, e116_11, e116_12, e116_13, e116_14, e116_15, e116_16, e116_17, e116_18, e116_21, e116_23, e116_24, e116_25, e116_26, e116_27, e116_28, e116_29, e116_30, e116_31, e116_32, e116_33, e116_34, e116_35, e116_38, e116_40, e116_41, e116_42, e116_43, e116_44, e116_45, e116_46, e116_47, e116_48, e116_49, e116_50, e116_51, e116_52, e116_55, e116_57, e116_58, e116_59, e116_60, e116_61, e116_62, e116_63, e116_64, e116_65, e116_66, e116_67, e116_68, e116_69, e116_72, e116_74, e116_75, e116_76, e116_77, e116_78, m116, ↓reduceIte, qg_0, qg_1, qg_2, qg_3, qg_4, qg_5, qg_6, qg_7, qg_8, qg_9, qg_10, qg_11, qg_12, qg_13, not_true_eq_false, not_false_eq_true, Nat.reduceBEq, Bool.false_eq_true, ex1, ex3, ex4, exF, qfit_i, qfit_l, qfit_r, qfit_n, qfit_b0, qfit_b1, qcat_i, qcat_r, qcat_n, qcat_l, qroom_0, qroom_c, List.map_cons, List.map_nil, List.sum_cons, List.sum_nil, Nat.reduceAdd, Nat.reduceMul, Nat.reduceLT, Nat.reduceLeDiff, Nat.reduceEqDiff, Nat.reduceSub, decide_true, true_and, and_true, and_self, if_true, if_false, Option.toList_some, Option.toList_none, List.cons_append, List.nil_append, qsL, qlong, List.length_cons, List.length_nil, iN_L, exI, iN_add, iN_mul, iN_le, iN_lt, iN_eq, Nat.le_refl, qfN0, qfN1, uX_16, vX_16, uX_19, vX_19, uX_27, vX_27, uX_30, vX_30, uX_39, vX_39, uX_41, vX_41, uX_43, vX_43, uX_46, vX_46, uX_50, vX_50, uX_53, vX_53, u16, ult, uF, g0, g1, g2, g3, g4, g5, g6, a0, a1, a2, a3, a4, b0, b1, b2, b3, l0, l1, l2, l3, lZ_mul, lZ_add, lZ_sub]
end XPLANES

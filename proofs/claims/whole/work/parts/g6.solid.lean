/-! ===== THE CLASS: bodies ===== -/
section XSOLID
theorem rdR {h : qH} {t a n i : Nat} (k : kR h t a n) (ht : t = 2 ∨ t = 3) (hi' : i < n) : qaald h a (iN i) = some (hr h a i) := by
  obtain ⟨⟨k1, k2, k3⟩, f, k4⟩ := k
  unfold qaald hr
  rw [if_pos ⟨k2, k3⟩, k4]
  have e : ¬ (iN i < 0 ∨ n ≤ (iN i).toNatClampNeg) := by
    rw [iN_nat (by omega)]
    intro q
    rcases q with q | q
    · rw [show (0 : Int32) = iN 0 from rfl, iN_lt (by omega) (by omega)] at q; omega
    · omega
  rcases ht with rfl | rfl
  · show (if iN i < 0 ∨ n ≤ (iN i).toNatClampNeg then none else some (f (iN i).toNatClampNeg)) = some (f i)
    rw [if_neg e, iN_nat (by omega)]
  · show (if iN i < 0 ∨ n ≤ (iN i).toNatClampNeg then none else some (f (iN i).toNatClampNeg)) = some (f i)
    rw [if_neg e, iN_nat (by omega)]
theorem lnI {h : qH} {a n : Nat} (k : kI h a n) : qalen h a = some (iN n) := by
  obtain ⟨⟨k1, k2, k3⟩, f, k4⟩ := k
  unfold qalen
  rw [if_pos (Or.inr ⟨k2, k3⟩), k4]
  rfl
theorem lnL {h : qH} {a n : Nat} (k : kL h a n) : qalen h a = some (iN n) := by
  obtain ⟨⟨k1, k2, k3⟩, f, k4⟩ := k
  unfold qalen
  rw [if_pos (Or.inr ⟨k2, k3⟩), k4]
  rfl
theorem lnR {h : qH} {t a n : Nat} (k : kR h t a n) (ht : t ≤ 3) : qalen h a = some (iN n) := by
  obtain ⟨⟨k1, k2, k3⟩, f, k4⟩ := k
  unfold qalen
  rw [if_pos (Or.inr ⟨k2, k3⟩), k4]
  exact if_pos ht
/-- what a body's numbers keep to -/
def SoP (D : Nat) (cs : List pt4) (C : Nat → List Nat) : Prop := (2 ≤ D ∧ D ≤ 4) ∧ (D < cs.length ∧ cs.length ≤ 16) ∧ (∀ c, c < cs.length → ∀ k, k < 4 → -999 ≤ lP cs c k ∧ lP cs c k ≤ 999) ∧ (∀ c k, D ≤ k → k < 4 → lP cs c k = 0) ∧ (∀ K, K < 4 → (C K).length ≤ 208 ∧ ∀ k, k < (C K).length → 0 < (C K).getD k 0 ∧ (C K).getD k 0 < 65536) ∧ (∀ K, D ≤ K → C K = []) ∧ (∀ y, y ∈ C 1 → ∃ a b, a < b ∧ b < cs.length ∧ y = 2 ^ a ||| 2 ^ b) ∧ ∀ K, K < 4 → ∀ k, k < (C K).length → (C K).getD k 0 < 2 ^ cs.length
/-- a body of the class: object a; rows of places p, of cells q (B), of planes w, of those beside e -/
def SoD (h : qH) (a D : Nat) (sc : Int32) (cs : List pt4) (C : Nat → List Nat) (p q w e : Nat) (B : Nat → Nat) : Prop :=
  (kO h a 8 ∧ 97 ≤ a) ∧ (hf h a 0 = .int (iN D) ∧ hf h a 1 = .int (iN cs.length) ∧ hf h a 2 = .int sc ∧ hf h a 3 = .ref p ∧ hf h a 4 = .ref q ∧ hf h a 5 = .ref w ∧ hf h a 6 = .ref e) ∧
  (97 ≤ p ∧ kI h p (4 * cs.length) ∧ ∀ c, c < cs.length → ∀ k, k < 4 → hi h p (c * 4 + k) = iZ (lP cs c k)) ∧
  (97 ≤ q ∧ kR h 3 q 4 ∧ ∀ K, K < 4 → hr h q K = some (B K) ∧ 97 ≤ B K ∧ kI h (B K) (C K).length ∧ ∀ k, k < (C K).length → hi h (B K) k = iN ((C K).getD k 0)) ∧
  (97 ≤ e ∧ kI h e cs.length ∧ ∀ c, c < cs.length → hi h e c = iN (mask (adjB (C 1) c) cs.length))
section
variable {h : qH} {a D : Nat} {sc : Int32} {cs : List pt4} {C : Nat → List Nat} {p q w e : Nat} {B : Nat → Nat}
theorem SoD.obj (S : SoD h a D sc cs C p q w e B) : (16 ≤ a ∧ a < h.2.1 ∧ ∃ F, h.1 a = .inr (8, F)) ∧ qget h a 8 0 = some (.int (iN D)) ∧ qget h a 8 1 = some (.int (iN cs.length)) ∧ qget h a 8 2 = some (.int sc) ∧ qget h a 8 3 = some (.ref p) ∧ qget h a 8 4 = some (.ref q) ∧ qget h a 8 5 = some (.ref w) ∧ qget h a 8 6 = some (.ref e) := by
  obtain ⟨⟨k, a97⟩, ⟨f0, f1, f2, f3, f4, f5, f6⟩, -⟩ := S
  exact ⟨⟨k.1.1, k.1.2, k.2⟩, by rw [gFd k (by decide), f0], by rw [gFd k (by decide), f1], by rw [gFd k (by decide), f2], by rw [gFd k (by decide), f3], by rw [gFd k (by decide), f4], by rw [gFd k (by decide), f5], by rw [gFd k (by decide), f6]⟩
theorem SoD.pl (S : SoD h a D sc cs C p q w e B) {c k : Nat} (hc : c < cs.length) (hk : k < 4) : qiald h p (iN (c * 4 + k)) = some (iZ (lP cs c k)) := by
  obtain ⟨-, -, ⟨-, k1, k2⟩, -⟩ := S
  rw [rdI k1 (by omega), k2 c hc k hk]
theorem SoD.ce (S : SoD h a D sc cs C p q w e B) {K : Nat} (hK : K < 4) : qaald h q (iN K) = some (some (B K)) := by
  obtain ⟨-, -, -, ⟨-, k1, k2⟩, -⟩ := S
  rw [rdR k1 (Or.inr rfl) hK, (k2 K hK).1]
theorem SoD.cl (S : SoD h a D sc cs C p q w e B) {K : Nat} (hK : K < 4) : qalen h (B K) = some (iN (C K).length) := by
  obtain ⟨-, -, -, ⟨-, k1, k2⟩, -⟩ := S
  exact lnI (k2 K hK).2.2.1
theorem SoD.ck (S : SoD h a D sc cs C p q w e B) {K k : Nat} (hK : K < 4) (hk : k < (C K).length) : qiald h (B K) (iN k) = some (iN ((C K).getD k 0)) := by
  obtain ⟨-, -, -, ⟨-, k1, k2⟩, -⟩ := S
  rw [rdI (k2 K hK).2.2.1 hk, (k2 K hK).2.2.2 k hk]
theorem SoD.cq (S : SoD h a D sc cs C p q w e B) : qalen h q = some (iN 4) := lnR S.2.2.2.1.2.1 (by decide)
theorem SoD.cp (S : SoD h a D sc cs C p q w e B) : qalen h p = some (iN (4 * cs.length)) := lnI S.2.2.1.2.1
theorem SoD.ne (S : SoD h a D sc cs C p q w e B) {c : Nat} (hc : c < cs.length) : qiald h e (iN c) = some (iN (mask (adjB (C 1) c) cs.length)) := by
  obtain ⟨-, -, -, -, ⟨-, k1, k2⟩⟩ := S
  rw [rdI k1 hc, k2 c hc]
end
theorem rf_some {x : Nat} : va_rf (some x) = .ref x := rfl
theorem rf_none : va_rf none = .null := rfl
section
variable {d : Nat} {h : qH} {a D : Nat} {sc : Int32} {cs : List pt4} {C : Nat → List Nat} {p q w e : Nat} {B : Nat → Nat} {R : qRes}
set_option maxRecDepth 100000 in
theorem x_at {c k : Nat} (S : SoD h a D sc cs C p q w e B) (hc : c < cs.length) (hk : k < 4) : qMC (d + 1) 104 [.ref a, .int (iN c), .int (iN k)] h R ↔ R = (some (.int (iZ (lP cs c k))), h) := by
  obtain ⟨⟨u16, ult, uF⟩, g0, g1, g2, g3, g4, g5, g6⟩ := S.obj
  have r1 := S.pl hc hk
  simp (disch := first | assumption | omega) only [e104_0, e104_1, e104_4, e104_5, e104_6, e104_7, e104_8, e104_9, e104_10, m104, ↓reduceIte, qg_0, qg_1, qg_2, qg_3, qg_4, qg_5, qg_6, qg_7, qg_8, qg_9, qg_10, qg_11, qg_12, qg_13, not_true_eq_false, not_false_eq_true, Nat.reduceBEq, Bool.false_eq_true, ex1, ex3, ex4, exF, qfit_i, qfit_l, qfit_r, qfit_n, qfit_b0, qfit_b1, qcat_i, qcat_r, qcat_n, qcat_l, qroom_0, qroom_c, List.map_cons, List.map_nil, List.sum_cons, List.sum_nil, Nat.reduceAdd, Nat.reduceMul, Nat.reduceLT, Nat.reduceLeDiff, Nat.reduceEqDiff, Nat.reduceSub, decide_true, true_and, and_true, and_self, if_true, if_false, Option.toList_some, Option.toList_none, List.cons_append, List.nil_append, qsL, qlong, List.length_cons, List.length_nil, iN_L, exI, iN_add, iN_mul, iN_le, iN_lt, iN_eq, Nat.le_refl, qfN0, qfN1, uX_16, vX_16, uX_19, vX_19, uX_27, vX_27, uX_30, vX_30, uX_39, vX_39, uX_41, vX_41, uX_43, vX_43, uX_46, vX_46, uX_50, vX_50, uX_53, vX_53, u16, ult, uF, g0, g1, g2, g3, g4, g5, g6, r1]
set_option maxRecDepth 100000 in
theorem x_every (S : SoD h a D sc cs C p q w e B) (hn : cs.length ≤ 16) : qMC (d + 1) 103 [.ref a] h R ↔ R = (some (.int (iN (2 ^ cs.length - 1))), h) := by
  obtain ⟨⟨u16, ult, uF⟩, g0, g1, g2, g3, g4, g5, g6⟩ := S.obj
  have pp := Nat.two_pow_pos cs.length
  have e1 : iN 1 <<< (iN cs.length &&& iN 31) - iN 1 = iN (2 ^ cs.length - 1) := by rw [iN_shl1 cs.length (by omega), iN_sub (by omega)]
  simp (disch := first | assumption | omega) only [e103_0, e103_1, e103_2, e103_5, e103_6, e103_7, e103_8, m103, ↓reduceIte, qg_0, qg_1, qg_2, qg_3, qg_4, qg_5, qg_6, qg_7, qg_8, qg_9, qg_10, qg_11, qg_12, qg_13, not_true_eq_false, not_false_eq_true, Nat.reduceBEq, Bool.false_eq_true, ex1, ex3, ex4, exF, qfit_i, qfit_l, qfit_r, qfit_n, qfit_b0, qfit_b1, qcat_i, qcat_r, qcat_n, qcat_l, qroom_0, qroom_c, List.map_cons, List.map_nil, List.sum_cons, List.sum_nil, Nat.reduceAdd, Nat.reduceMul, Nat.reduceLT, Nat.reduceLeDiff, Nat.reduceEqDiff, Nat.reduceSub, decide_true, true_and, and_true, and_self, if_true, if_false, Option.toList_some, Option.toList_none, List.cons_append, List.nil_append, qsL, qlong, List.length_cons, List.length_nil, iN_L, exI, iN_add, iN_mul, iN_le, iN_lt, iN_eq, Nat.le_refl, qfN0, qfN1, uX_16, vX_16, uX_19, vX_19, uX_27, vX_27, uX_30, vX_30, uX_39, vX_39, uX_41, vX_41, uX_43, vX_43, uX_46, vX_46, uX_50, vX_50, uX_53, vX_53, u16, ult, uF, g0, g1, g2, g3, g4, g5, g6, e1]
set_option maxRecDepth 100000 in
theorem x_hasCorner {x : Int32} (S : SoD h a D sc cs C p q w e B) (hn : cs.length ≤ 16) : ((∃ c, c < cs.length ∧ x = iN c) → (qMC (d + 1) 102 [.ref a, .int x] h R ↔ R = (some (.int (iN 1)), h))) ∧ ((¬ ∃ c, c < cs.length ∧ x = iN c) → (qMC (d + 1) 102 [.ref a, .int x] h R ↔ R = (some (.int (iN 0)), h))) := by
  obtain ⟨⟨u16, ult, uF⟩, g0, g1, g2, g3, g4, g5, g6⟩ := S.obj
  constructor
  · rintro ⟨c, hc, rfl⟩
    simp (disch := first | assumption | omega) only [e102_0, e102_1, e102_4, e102_5, e102_6, e102_9, e102_12, e102_13, e102_16, e102_17, m102, ↓reduceIte, qg_0, qg_1, qg_2, qg_3, qg_4, qg_5, qg_6, qg_7, qg_8, qg_9, qg_10, qg_11, qg_12, qg_13, not_true_eq_false, not_false_eq_true, Nat.reduceBEq, Bool.false_eq_true, ex1, ex3, ex4, exF, qfit_i, qfit_l, qfit_r, qfit_n, qfit_b0, qfit_b1, qcat_i, qcat_r, qcat_n, qcat_l, qroom_0, qroom_c, List.map_cons, List.map_nil, List.sum_cons, List.sum_nil, Nat.reduceAdd, Nat.reduceMul, Nat.reduceLT, Nat.reduceLeDiff, Nat.reduceEqDiff, Nat.reduceSub, decide_true, true_and, and_true, and_self, if_true, if_false, Option.toList_some, Option.toList_none, List.cons_append, List.nil_append, qsL, qlong, List.length_cons, List.length_nil, iN_L, exI, iN_add, iN_mul, iN_le, iN_lt, iN_eq, Nat.le_refl, qfN0, qfN1, uX_16, vX_16, uX_19, vX_19, uX_27, vX_27, uX_30, vX_30, uX_39, vX_39, uX_41, vX_41, uX_43, vX_43, uX_46, vX_46, uX_50, vX_50, uX_53, vX_53, u16, ult, uF, g0, g1, g2, g3, g4, g5, g6, show ¬ c < 0 by omega, show ¬ cs.length ≤ c by omega]
  · intro hx
    by_cases q1 : x < iN 0
    · simp (disch := first | assumption | omega) only [e102_0, e102_1, e102_4, e102_5, e102_6, e102_9, e102_12, e102_13, e102_16, e102_17, m102, ↓reduceIte, qg_0, qg_1, qg_2, qg_3, qg_4, qg_5, qg_6, qg_7, qg_8, qg_9, qg_10, qg_11, qg_12, qg_13, not_true_eq_false, not_false_eq_true, Nat.reduceBEq, Bool.false_eq_true, ex1, ex3, ex4, exF, qfit_i, qfit_l, qfit_r, qfit_n, qfit_b0, qfit_b1, qcat_i, qcat_r, qcat_n, qcat_l, qroom_0, qroom_c, List.map_cons, List.map_nil, List.sum_cons, List.sum_nil, Nat.reduceAdd, Nat.reduceMul, Nat.reduceLT, Nat.reduceLeDiff, Nat.reduceEqDiff, Nat.reduceSub, decide_true, true_and, and_true, and_self, if_true, if_false, Option.toList_some, Option.toList_none, List.cons_append, List.nil_append, qsL, qlong, List.length_cons, List.length_nil, iN_L, exI, iN_add, iN_mul, iN_le, iN_lt, iN_eq, Nat.le_refl, qfN0, qfN1, uX_16, vX_16, uX_19, vX_19, uX_27, vX_27, uX_30, vX_30, uX_39, vX_39, uX_41, vX_41, uX_43, vX_43, uX_46, vX_46, uX_50, vX_50, uX_53, vX_53, u16, ult, uF, g0, g1, g2, g3, g4, g5, g6, q1]
    · have q2 : iN cs.length ≤ x := by
        rw [Int32.le_iff_toInt_le, iN_int (by omega)]
        rw [ltN_0] at q1
        apply Classical.byContradiction
        intro z
        exact hx ⟨x.toInt.toNat, by omega, by rw [← Int32.toInt_inj, iN_int (by omega)]; omega⟩
      simp (disch := first | assumption | omega) only [e102_0, e102_1, e102_4, e102_5, e102_6, e102_9, e102_12, e102_13, e102_16, e102_17, m102, ↓reduceIte, qg_0, qg_1, qg_2, qg_3, qg_4, qg_5, qg_6, qg_7, qg_8, qg_9, qg_10, qg_11, qg_12, qg_13, not_true_eq_false, not_false_eq_true, Nat.reduceBEq, Bool.false_eq_true, ex1, ex3, ex4, exF, qfit_i, qfit_l, qfit_r, qfit_n, qfit_b0, qfit_b1, qcat_i, qcat_r, qcat_n, qcat_l, qroom_0, qroom_c, List.map_cons, List.map_nil, List.sum_cons, List.sum_nil, Nat.reduceAdd, Nat.reduceMul, Nat.reduceLT, Nat.reduceLeDiff, Nat.reduceEqDiff, Nat.reduceSub, decide_true, true_and, and_true, and_self, if_true, if_false, Option.toList_some, Option.toList_none, List.cons_append, List.nil_append, qsL, qlong, List.length_cons, List.length_nil, iN_L, exI, iN_add, iN_mul, iN_le, iN_lt, iN_eq, Nat.le_refl, qfN0, qfN1, uX_16, vX_16, uX_19, vX_19, uX_27, vX_27, uX_30, vX_30, uX_39, vX_39, uX_41, vX_41, uX_43, vX_43, uX_46, vX_46, uX_50, vX_50, uX_53, vX_53, u16, ult, uF, g0, g1, g2, g3, g4, g5, g6, q1, q2]
set_option maxRecDepth 100000 in
theorem x_cellCount {K : Nat} (S : SoD h a D sc cs C p q w e B) (hK : K < 4) : qMC (d + 1) 105 [.ref a, .int (iN K)] h R ↔ R = (some (.int (iN (C K).length)), h) := by
  obtain ⟨⟨u16, ult, uF⟩, g0, g1, g2, g3, g4, g5, g6⟩ := S.obj
  have r1 := S.ce hK
  have r2 := S.cl hK
  have r3 := S.cq
  simp (disch := first | assumption | omega) only [e105_0, e105_1, e105_4, e105_5, e105_6, e105_9, e105_10, e105_13, e105_14, e105_17, e105_18, e105_19, e105_20, e105_23, e105_24, m105, ↓reduceIte, qg_0, qg_1, qg_2, qg_3, qg_4, qg_5, qg_6, qg_7, qg_8, qg_9, qg_10, qg_11, qg_12, qg_13, not_true_eq_false, not_false_eq_true, Nat.reduceBEq, Bool.false_eq_true, ex1, ex3, ex4, exF, qfit_i, qfit_l, qfit_r, qfit_n, qfit_b0, qfit_b1, qcat_i, qcat_r, qcat_n, qcat_l, qroom_0, qroom_c, List.map_cons, List.map_nil, List.sum_cons, List.sum_nil, Nat.reduceAdd, Nat.reduceMul, Nat.reduceLT, Nat.reduceLeDiff, Nat.reduceEqDiff, Nat.reduceSub, decide_true, true_and, and_true, and_self, if_true, if_false, Option.toList_some, Option.toList_none, List.cons_append, List.nil_append, qsL, qlong, List.length_cons, List.length_nil, iN_L, exI, iN_add, iN_mul, iN_le, iN_lt, iN_eq, Nat.le_refl, qfN0, qfN1, uX_16, vX_16, uX_19, vX_19, uX_27, vX_27, uX_30, vX_30, uX_39, vX_39, uX_41, vX_41, uX_43, vX_43, uX_46, vX_46, uX_50, vX_50, uX_53, vX_53, u16, ult, uF, g0, g1, g2, g3, g4, g5, g6, r1, r2, r3, rf_some, show ¬ K < 0 by omega, show ¬ 4 ≤ K by omega]
set_option maxRecDepth 100000 in
theorem x_hasCell {K : Nat} {x : Int32} (S : SoD h a D sc cs C p q w e B) (hK : K < 4) (hn : (C K).length ≤ 208) : ((∃ c, c < (C K).length ∧ x = iN c) → (qMC (d + 2) 106 [.ref a, .int (iN K), .int x] h R ↔ R = (some (.int (iN 1)), h))) ∧ ((¬ ∃ c, c < (C K).length ∧ x = iN c) → (qMC (d + 2) 106 [.ref a, .int (iN K), .int x] h R ↔ R = (some (.int (iN 0)), h))) := by
  obtain ⟨⟨u16, ult, uF⟩, g0, g1, g2, g3, g4, g5, g6⟩ := S.obj
  have cc : ∀ R, qMC (d + 1) 105 [.ref a, .int (iN K)] h R ↔ R = (some (.int (iN (C K).length)), h) := fun R => x_cellCount S hK
  constructor
  · rintro ⟨c, hc, rfl⟩
    simp (disch := first | assumption | omega) only [e106_0, e106_1, e106_4, e106_5, e106_6, e106_7, e106_10, e106_13, e106_14, e106_17, e106_18, m106, ↓reduceIte, qg_0, qg_1, qg_2, qg_3, qg_4, qg_5, qg_6, qg_7, qg_8, qg_9, qg_10, qg_11, qg_12, qg_13, not_true_eq_false, not_false_eq_true, Nat.reduceBEq, Bool.false_eq_true, ex1, ex3, ex4, exF, qfit_i, qfit_l, qfit_r, qfit_n, qfit_b0, qfit_b1, qcat_i, qcat_r, qcat_n, qcat_l, qroom_0, qroom_c, List.map_cons, List.map_nil, List.sum_cons, List.sum_nil, Nat.reduceAdd, Nat.reduceMul, Nat.reduceLT, Nat.reduceLeDiff, Nat.reduceEqDiff, Nat.reduceSub, decide_true, true_and, and_true, and_self, if_true, if_false, Option.toList_some, Option.toList_none, List.cons_append, List.nil_append, qsL, qlong, List.length_cons, List.length_nil, iN_L, exI, iN_add, iN_mul, iN_le, iN_lt, iN_eq, Nat.le_refl, qfN0, qfN1, uX_16, vX_16, uX_19, vX_19, uX_27, vX_27, uX_30, vX_30, uX_39, vX_39, uX_41, vX_41, uX_43, vX_43, uX_46, vX_46, uX_50, vX_50, uX_53, vX_53, u16, ult, uF, g0, g1, g2, g3, g4, g5, g6, cc, show ¬ c < 0 by omega, show ¬ (C K).length ≤ c by omega]
  · intro hx
    by_cases q1 : x < iN 0
    · simp (disch := first | assumption | omega) only [e106_0, e106_1, e106_4, e106_5, e106_6, e106_7, e106_10, e106_13, e106_14, e106_17, e106_18, m106, ↓reduceIte, qg_0, qg_1, qg_2, qg_3, qg_4, qg_5, qg_6, qg_7, qg_8, qg_9, qg_10, qg_11, qg_12, qg_13, not_true_eq_false, not_false_eq_true, Nat.reduceBEq, Bool.false_eq_true, ex1, ex3, ex4, exF, qfit_i, qfit_l, qfit_r, qfit_n, qfit_b0, qfit_b1, qcat_i, qcat_r, qcat_n, qcat_l, qroom_0, qroom_c, List.map_cons, List.map_nil, List.sum_cons, List.sum_nil, Nat.reduceAdd, Nat.reduceMul, Nat.reduceLT, Nat.reduceLeDiff, Nat.reduceEqDiff, Nat.reduceSub, decide_true, true_and, and_true, and_self, if_true, if_false, Option.toList_some, Option.toList_none, List.cons_append, List.nil_append, qsL, qlong, List.length_cons, List.length_nil, iN_L, exI, iN_add, iN_mul, iN_le, iN_lt, iN_eq, Nat.le_refl, qfN0, qfN1, uX_16, vX_16, uX_19, vX_19, uX_27, vX_27, uX_30, vX_30, uX_39, vX_39, uX_41, vX_41, uX_43, vX_43, uX_46, vX_46, uX_50, vX_50, uX_53, vX_53, u16, ult, uF, g0, g1, g2, g3, g4, g5, g6, q1]
    · have q2 : iN (C K).length ≤ x := by
        rw [Int32.le_iff_toInt_le, iN_int (by omega)]
        rw [ltN_0] at q1
        apply Classical.byContradiction
        intro z
        exact hx ⟨x.toInt.toNat, by omega, by rw [← Int32.toInt_inj, iN_int (by omega)]; omega⟩
      simp (disch := first | assumption | omega) only [e106_0, e106_1, e106_4, e106_5, e106_6, e106_7, e106_10, e106_13, e106_14, e106_17, e106_18, m106, ↓reduceIte, qg_0, qg_1, qg_2, qg_3, qg_4, qg_5, qg_6, qg_7, qg_8, qg_9, qg_10, qg_11, qg_12, qg_13, not_true_eq_false, not_false_eq_true, Nat.reduceBEq, Bool.false_eq_true, ex1, ex3, ex4, exF, qfit_i, qfit_l, qfit_r, qfit_n, qfit_b0, qfit_b1, qcat_i, qcat_r, qcat_n, qcat_l, qroom_0, qroom_c, List.map_cons, List.map_nil, List.sum_cons, List.sum_nil, Nat.reduceAdd, Nat.reduceMul, Nat.reduceLT, Nat.reduceLeDiff, Nat.reduceEqDiff, Nat.reduceSub, decide_true, true_and, and_true, and_self, if_true, if_false, Option.toList_some, Option.toList_none, List.cons_append, List.nil_append, qsL, qlong, List.length_cons, List.length_nil, iN_L, exI, iN_add, iN_mul, iN_le, iN_lt, iN_eq, Nat.le_refl, qfN0, qfN1, uX_16, vX_16, uX_19, vX_19, uX_27, vX_27, uX_30, vX_30, uX_39, vX_39, uX_41, vX_41, uX_43, vX_43, uX_46, vX_46, uX_50, vX_50, uX_53, vX_53, u16, ult, uF, g0, g1, g2, g3, g4, g5, g6, cc, q1, q2]
set_option maxRecDepth 100000 in
theorem x_facetSets (S : SoD h a D sc cs C p q w e B) (hD : 2 ≤ D ∧ D ≤ 4) : qMC (d + 1) 107 [.ref a] h R ↔ R = (some (.ref (B (D - 1))), h) := by
  obtain ⟨⟨u16, ult, uF⟩, g0, g1, g2, g3, g4, g5, g6⟩ := S.obj
  have r1 := S.ce (K := D - 1) (by omega)
  have eD : iN D - iN 1 = iN (D - 1) := iN_sub (by omega)
  simp (disch := first | assumption | omega) only [e107_0, e107_1, e107_4, e107_5, e107_8, e107_9, e107_10, e107_11, e107_11N, m107, ↓reduceIte, qg_0, qg_1, qg_2, qg_3, qg_4, qg_5, qg_6, qg_7, qg_8, qg_9, qg_10, qg_11, qg_12, qg_13, not_true_eq_false, not_false_eq_true, Nat.reduceBEq, Bool.false_eq_true, ex1, ex3, ex4, exF, qfit_i, qfit_l, qfit_r, qfit_n, qfit_b0, qfit_b1, qcat_i, qcat_r, qcat_n, qcat_l, qroom_0, qroom_c, List.map_cons, List.map_nil, List.sum_cons, List.sum_nil, Nat.reduceAdd, Nat.reduceMul, Nat.reduceLT, Nat.reduceLeDiff, Nat.reduceEqDiff, Nat.reduceSub, decide_true, true_and, and_true, and_self, if_true, if_false, Option.toList_some, Option.toList_none, List.cons_append, List.nil_append, qsL, qlong, List.length_cons, List.length_nil, iN_L, exI, iN_add, iN_mul, iN_le, iN_lt, iN_eq, Nat.le_refl, qfN0, qfN1, uX_16, vX_16, uX_19, vX_19, uX_27, vX_27, uX_30, vX_30, uX_39, vX_39, uX_41, vX_41, uX_43, vX_43, uX_46, vX_46, uX_50, vX_50, uX_53, vX_53, u16, ult, uF, g0, g1, g2, g3, g4, g5, g6, eD, r1, rf_some]
set_option maxRecDepth 100000 in
theorem x_facetCount (S : SoD h a D sc cs C p q w e B) (hD : 2 ≤ D ∧ D ≤ 4) : qMC (d + 1) 108 [.ref a] h R ↔ R = (some (.int (iN (C (D - 1)).length)), h) := by
  obtain ⟨⟨u16, ult, uF⟩, g0, g1, g2, g3, g4, g5, g6⟩ := S.obj
  have r1 := S.ce (K := D - 1) (by omega)
  have r2 := S.cl (K := D - 1) (by omega)
  have eD : iN D - iN 1 = iN (D - 1) := iN_sub (by omega)
  simp (disch := first | assumption | omega) only [e108_0, e108_1, e108_4, e108_5, e108_8, e108_9, e108_10, e108_11, e108_12, m108, ↓reduceIte, qg_0, qg_1, qg_2, qg_3, qg_4, qg_5, qg_6, qg_7, qg_8, qg_9, qg_10, qg_11, qg_12, qg_13, not_true_eq_false, not_false_eq_true, Nat.reduceBEq, Bool.false_eq_true, ex1, ex3, ex4, exF, qfit_i, qfit_l, qfit_r, qfit_n, qfit_b0, qfit_b1, qcat_i, qcat_r, qcat_n, qcat_l, qroom_0, qroom_c, List.map_cons, List.map_nil, List.sum_cons, List.sum_nil, Nat.reduceAdd, Nat.reduceMul, Nat.reduceLT, Nat.reduceLeDiff, Nat.reduceEqDiff, Nat.reduceSub, decide_true, true_and, and_true, and_self, if_true, if_false, Option.toList_some, Option.toList_none, List.cons_append, List.nil_append, qsL, qlong, List.length_cons, List.length_nil, iN_L, exI, iN_add, iN_mul, iN_le, iN_lt, iN_eq, Nat.le_refl, qfN0, qfN1, uX_16, vX_16, uX_19, vX_19, uX_27, vX_27, uX_30, vX_30, uX_39, vX_39, uX_41, vX_41, uX_43, vX_43, uX_46, vX_46, uX_50, vX_50, uX_53, vX_53, u16, ult, uF, g0, g1, g2, g3, g4, g5, g6, eD, r1, r2, rf_some]
set_option maxRecDepth 100000 in
theorem x_simple (S : SoD h a D sc cs C p q w e B) (P : SoP D cs C) : qMC (d + 2) 109 [.ref a] h R ↔ R = (some (.int (bB (allN (fun j => decide (pop ((C (D - 1)).getD j 0) 24 = D)) (C (D - 1)).length))), h) := by
  obtain ⟨⟨u16, ult, uF⟩, g0, g1, g2, g3, g4, g5, g6⟩ := S.obj
  have hD := P.1
  have fs : ∀ R, qMC (d + 1) 107 [.ref a] h R ↔ R = (some (.ref (B (D - 1))), h) := fun R => x_facetSets S P.1
  have r2 := S.cl (K := D - 1) (by omega)
  obtain ⟨l8, pb⟩ := P.2.2.2.2.1 (D - 1) (by omega)
  have go : ∀ (v j : Nat), j + v = (C (D - 1)).length → (∀ t, t < j → pop ((C (D - 1)).getD t 0) 24 = D) → (qEv (d + 1) 3 qk_109 7 [some (.ref a), some (.ref (B (D - 1))), some (.int (iN j))] [] h R ↔ R = (some (.int (bB (allN (fun j => decide (pop ((C (D - 1)).getD j 0) 24 = D)) (C (D - 1)).length))), h)) := by
    intro v
    induction v with
    | zero =>
      intro j hj hn
      rw [allN_iff.mpr (fun t ht => decide_eq_true (hn t (by omega))), bN_t, e109_7]
      simp (disch := first | assumption | omega) only [e109_0, e109_1, e109_4, e109_5, e109_6, e109_8, e109_9, e109_10, e109_13, e109_14, e109_15, e109_16, e109_19, e109_20, e109_23, e109_26, e109_27, e109_28, e109_31, e109_34, e109_35, m109, ↓reduceIte, qg_0, qg_1, qg_2, qg_3, qg_4, qg_5, qg_6, qg_7, qg_8, qg_9, qg_10, qg_11, qg_12, qg_13, not_true_eq_false, not_false_eq_true, Nat.reduceBEq, Bool.false_eq_true, ex1, ex3, ex4, exF, qfit_i, qfit_l, qfit_r, qfit_n, qfit_b0, qfit_b1, qcat_i, qcat_r, qcat_n, qcat_l, qroom_0, qroom_c, List.map_cons, List.map_nil, List.sum_cons, List.sum_nil, Nat.reduceAdd, Nat.reduceMul, Nat.reduceLT, Nat.reduceLeDiff, Nat.reduceEqDiff, Nat.reduceSub, decide_true, true_and, and_true, and_self, if_true, if_false, Option.toList_some, Option.toList_none, List.cons_append, List.nil_append, qsL, qlong, List.length_cons, List.length_nil, iN_L, exI, iN_add, iN_mul, iN_le, iN_lt, iN_eq, Nat.le_refl, qfN0, qfN1, uX_16, vX_16, uX_19, vX_19, uX_27, vX_27, uX_30, vX_30, uX_39, vX_39, uX_41, vX_41, uX_43, vX_43, uX_46, vX_46, uX_50, vX_50, uX_53, vX_53, r2, show (C (D - 1)).length ≤ j by omega]
    | succ v ih =>
      intro j hj hn
      have hj' : j < (C (D - 1)).length := by omega
      have r3 := S.ck (K := D - 1) (by omega) hj'
      obtain ⟨p0, p1⟩ := pb j hj'
      have sb : ∀ R, qMC (d + 1) 308 [.int (iN ((C (D - 1)).getD j 0))] h R ↔ R = (some (.int (iN (pop ((C (D - 1)).getD j 0) 24))), h) := fun R => x_bitCount (by omega)
      have pl := pop_le ((C (D - 1)).getD j 0) 24
      by_cases z : pop ((C (D - 1)).getD j 0) 24 = D
      · rw [← ih (j + 1) (by omega) (fun t ht => by
          rcases Nat.lt_or_ge t j with y | y
          · exact hn t y
          · rw [show t = j by omega]; exact z), e109_7]
        simp (disch := first | assumption | omega) only [e109_0, e109_1, e109_4, e109_5, e109_6, e109_8, e109_9, e109_10, e109_13, e109_14, e109_15, e109_16, e109_19, e109_20, e109_23, e109_26, e109_27, e109_28, e109_31, e109_34, e109_35, m109, ↓reduceIte, qg_0, qg_1, qg_2, qg_3, qg_4, qg_5, qg_6, qg_7, qg_8, qg_9, qg_10, qg_11, qg_12, qg_13, not_true_eq_false, not_false_eq_true, Nat.reduceBEq, Bool.false_eq_true, ex1, ex3, ex4, exF, qfit_i, qfit_l, qfit_r, qfit_n, qfit_b0, qfit_b1, qcat_i, qcat_r, qcat_n, qcat_l, qroom_0, qroom_c, List.map_cons, List.map_nil, List.sum_cons, List.sum_nil, Nat.reduceAdd, Nat.reduceMul, Nat.reduceLT, Nat.reduceLeDiff, Nat.reduceEqDiff, Nat.reduceSub, decide_true, true_and, and_true, and_self, if_true, if_false, Option.toList_some, Option.toList_none, List.cons_append, List.nil_append, qsL, qlong, List.length_cons, List.length_nil, iN_L, exI, iN_add, iN_mul, iN_le, iN_lt, iN_eq, Nat.le_refl, qfN0, qfN1, uX_16, vX_16, uX_19, vX_19, uX_27, vX_27, uX_30, vX_30, uX_39, vX_39, uX_41, vX_41, uX_43, vX_43, uX_46, vX_46, uX_50, vX_50, uX_53, vX_53, u16, ult, uF, g0, g1, g2, g3, g4, g5, g6, r2, show ¬ (C (D - 1)).length ≤ j by omega, r3, sb, z]
      · rw [all_f hj' (decide_eq_false z), bN_f, e109_7]
        simp (disch := first | assumption | omega) only [e109_0, e109_1, e109_4, e109_5, e109_6, e109_8, e109_9, e109_10, e109_13, e109_14, e109_15, e109_16, e109_19, e109_20, e109_23, e109_26, e109_27, e109_28, e109_31, e109_34, e109_35, m109, ↓reduceIte, qg_0, qg_1, qg_2, qg_3, qg_4, qg_5, qg_6, qg_7, qg_8, qg_9, qg_10, qg_11, qg_12, qg_13, not_true_eq_false, not_false_eq_true, Nat.reduceBEq, Bool.false_eq_true, ex1, ex3, ex4, exF, qfit_i, qfit_l, qfit_r, qfit_n, qfit_b0, qfit_b1, qcat_i, qcat_r, qcat_n, qcat_l, qroom_0, qroom_c, List.map_cons, List.map_nil, List.sum_cons, List.sum_nil, Nat.reduceAdd, Nat.reduceMul, Nat.reduceLT, Nat.reduceLeDiff, Nat.reduceEqDiff, Nat.reduceSub, decide_true, true_and, and_true, and_self, if_true, if_false, Option.toList_some, Option.toList_none, List.cons_append, List.nil_append, qsL, qlong, List.length_cons, List.length_nil, iN_L, exI, iN_add, iN_mul, iN_le, iN_lt, iN_eq, Nat.le_refl, qfN0, qfN1, uX_16, vX_16, uX_19, vX_19, uX_27, vX_27, uX_30, vX_30, uX_39, vX_39, uX_41, vX_41, uX_43, vX_43, uX_46, vX_46, uX_50, vX_50, uX_53, vX_53, u16, ult, uF, g0, g1, g2, g3, g4, g5, g6, r2, show ¬ (C (D - 1)).length ≤ j by omega, r3, sb, z]
  rw [← go (C (D - 1)).length 0 (by omega) (fun t ht => absurd ht (Nat.not_lt_zero t))]
  simp (disch := first | assumption | omega) only [e109_0, e109_1, e109_4, e109_5, e109_6, e109_8, e109_9, e109_10, e109_13, e109_14, e109_15, e109_16, e109_19, e109_20, e109_23, e109_26, e109_27, e109_28, e109_31, e109_34, e109_35, m109, ↓reduceIte, qg_0, qg_1, qg_2, qg_3, qg_4, qg_5, qg_6, qg_7, qg_8, qg_9, qg_10, qg_11, qg_12, qg_13, not_true_eq_false, not_false_eq_true, Nat.reduceBEq, Bool.false_eq_true, ex1, ex3, ex4, exF, qfit_i, qfit_l, qfit_r, qfit_n, qfit_b0, qfit_b1, qcat_i, qcat_r, qcat_n, qcat_l, qroom_0, qroom_c, List.map_cons, List.map_nil, List.sum_cons, List.sum_nil, Nat.reduceAdd, Nat.reduceMul, Nat.reduceLT, Nat.reduceLeDiff, Nat.reduceEqDiff, Nat.reduceSub, decide_true, true_and, and_true, and_self, if_true, if_false, Option.toList_some, Option.toList_none, List.cons_append, List.nil_append, qsL, qlong, List.length_cons, List.length_nil, iN_L, exI, iN_add, iN_mul, iN_le, iN_lt, iN_eq, Nat.le_refl, qfN0, qfN1, uX_16, vX_16, uX_19, vX_19, uX_27, vX_27, uX_30, vX_30, uX_39, vX_39, uX_41, vX_41, uX_43, vX_43, uX_46, vX_46, uX_50, vX_50, uX_53, vX_53, u16, ult, uF, g0, g1, g2, g3, g4, g5, g6, fs]
set_option maxRecDepth 100000 in
set_option maxHeartbeats 16000000 in
theorem x_countWithin {K x : Nat} (S : SoD h a D sc cs C p q w e B) (P : SoP D cs C) (hK : K < 4) : qMC (d + 1) 111 [.ref a, .int (iN K), .int (iN x)] h R ↔ R = (some (.int (iN (cntN (fun f => decide (wo ((C K).getD f 0) x = 0)) (C K).length))), h) := by
  obtain ⟨⟨u16, ult, uF⟩, g0, g1, g2, g3, g4, g5, g6⟩ := S.obj
  have r1 := S.ce hK
  have r2 := S.cl hK
  obtain ⟨l8, pb⟩ := P.2.2.2.2.1 K hK
  have r0 : qMC (d + 1) 111 [.ref a, .int (iN K), .int (iN x)] h R ↔ qEv d 0 qk_111 5 [some (.ref a), some (.int (iN K)), some (.int (iN x)), some (.int (iN (cntN (fun f => decide (wo ((C K).getD f 0) x = 0)) 0))), some (.int (iN 0))] [] h R := by
    rw [show cntN (fun f => decide (wo ((C K).getD f 0) x = 0)) 0 = 0 from rfl]
    simp (disch := first | assumption | omega) only [e111_0, e111_1, e111_2, e111_3, e111_7, e111_8, e111_11, e111_12, e111_13, e111_14, e111_17, e111_18, e111_21, e111_22, e111_23, e111_25, e111_26, e111_27, e111_28, e111_29, e111_30, e111_33, e111_36, e111_39, e111_42, e111_43, m111, ↓reduceIte, qg_0, qg_1, qg_2, qg_3, qg_4, qg_5, qg_6, qg_7, qg_8, qg_9, qg_10, qg_11, qg_12, qg_13, not_true_eq_false, not_false_eq_true, Nat.reduceBEq, Bool.false_eq_true, ex1, ex3, ex4, exF, qfit_i, qfit_l, qfit_r, qfit_n, qfit_b0, qfit_b1, qcat_i, qcat_r, qcat_n, qcat_l, qroom_0, qroom_c, List.map_cons, List.map_nil, List.sum_cons, List.sum_nil, Nat.reduceAdd, Nat.reduceMul, Nat.reduceLT, Nat.reduceLeDiff, Nat.reduceEqDiff, Nat.reduceSub, decide_true, true_and, and_true, and_self, if_true, if_false, Option.toList_some, Option.toList_none, List.cons_append, List.nil_append, qsL, qlong, List.length_cons, List.length_nil, iN_L, exI, iN_add, iN_mul, iN_le, iN_lt, iN_eq, Nat.le_refl, qfN0, qfN1, uX_16, vX_16, uX_19, vX_19, uX_27, vX_27, uX_30, vX_30, uX_39, vX_39, uX_41, vX_41, uX_43, vX_43, uX_46, vX_46, uX_50, vX_50, uX_53, vX_53]
  rw [r0]
  refine Iff.trans (loop_up (n := (C K).length) (L := fun t => [some (.ref a), some (.int (iN K)), some (.int (iN x)), some (.int (iN (cntN (fun f => decide (wo ((C K).getD f 0) x = 0)) t))), some (.int (iN t))]) (H := fun _ => h) ?_) ?_
  · intro t ht
    try dsimp only
    have r3 := S.ck hK ht
    obtain ⟨p0, p1⟩ := pb t ht
    have wl := wo_le ((C K).getD t 0) x
    rw [e111_5, cntN]
    by_cases z : wo ((C K).getD t 0) x = 0
    · rw [decide_eq_true z, if_pos rfl]
      simp (disch := first | assumption | omega) only [e111_0, e111_1, e111_2, e111_3, e111_7, e111_8, e111_11, e111_12, e111_13, e111_14, e111_17, e111_18, e111_21, e111_22, e111_23, e111_25, e111_26, e111_27, e111_28, e111_29, e111_30, e111_33, e111_36, e111_39, e111_42, e111_43, m111, ↓reduceIte, qg_0, qg_1, qg_2, qg_3, qg_4, qg_5, qg_6, qg_7, qg_8, qg_9, qg_10, qg_11, qg_12, qg_13, not_true_eq_false, not_false_eq_true, Nat.reduceBEq, Bool.false_eq_true, ex1, ex3, ex4, exF, qfit_i, qfit_l, qfit_r, qfit_n, qfit_b0, qfit_b1, qcat_i, qcat_r, qcat_n, qcat_l, qroom_0, qroom_c, List.map_cons, List.map_nil, List.sum_cons, List.sum_nil, Nat.reduceAdd, Nat.reduceMul, Nat.reduceLT, Nat.reduceLeDiff, Nat.reduceEqDiff, Nat.reduceSub, decide_true, true_and, and_true, and_self, if_true, if_false, Option.toList_some, Option.toList_none, List.cons_append, List.nil_append, qsL, qlong, List.length_cons, List.length_nil, iN_L, exI, iN_add, iN_mul, iN_le, iN_lt, iN_eq, Nat.le_refl, qfN0, qfN1, uX_16, vX_16, uX_19, vX_19, uX_27, vX_27, uX_30, vX_30, uX_39, vX_39, uX_41, vX_41, uX_43, vX_43, uX_46, vX_46, uX_50, vX_50, uX_53, vX_53, u16, ult, uF, g0, g1, g2, g3, g4, g5, g6, r1, r2, r3, rf_some, show ¬ (C K).length ≤ t by omega, iN_wo', z]
    · rw [decide_eq_false z, if_neg Bool.false_ne_true, Nat.add_zero]
      simp (disch := first | assumption | omega) only [e111_0, e111_1, e111_2, e111_3, e111_7, e111_8, e111_11, e111_12, e111_13, e111_14, e111_17, e111_18, e111_21, e111_22, e111_23, e111_25, e111_26, e111_27, e111_28, e111_29, e111_30, e111_33, e111_36, e111_39, e111_42, e111_43, m111, ↓reduceIte, qg_0, qg_1, qg_2, qg_3, qg_4, qg_5, qg_6, qg_7, qg_8, qg_9, qg_10, qg_11, qg_12, qg_13, not_true_eq_false, not_false_eq_true, Nat.reduceBEq, Bool.false_eq_true, ex1, ex3, ex4, exF, qfit_i, qfit_l, qfit_r, qfit_n, qfit_b0, qfit_b1, qcat_i, qcat_r, qcat_n, qcat_l, qroom_0, qroom_c, List.map_cons, List.map_nil, List.sum_cons, List.sum_nil, Nat.reduceAdd, Nat.reduceMul, Nat.reduceLT, Nat.reduceLeDiff, Nat.reduceEqDiff, Nat.reduceSub, decide_true, true_and, and_true, and_self, if_true, if_false, Option.toList_some, Option.toList_none, List.cons_append, List.nil_append, qsL, qlong, List.length_cons, List.length_nil, iN_L, exI, iN_add, iN_mul, iN_le, iN_lt, iN_eq, Nat.le_refl, qfN0, qfN1, uX_16, vX_16, uX_19, vX_19, uX_27, vX_27, uX_30, vX_30, uX_39, vX_39, uX_41, vX_41, uX_43, vX_43, uX_46, vX_46, uX_50, vX_50, uX_53, vX_53, u16, ult, uF, g0, g1, g2, g3, g4, g5, g6, r1, r2, r3, rf_some, show ¬ (C K).length ≤ t by omega, iN_wo', z]
  · try dsimp only
    rw [e111_5]
    simp (disch := first | assumption | omega) only [e111_0, e111_1, e111_2, e111_3, e111_7, e111_8, e111_11, e111_12, e111_13, e111_14, e111_17, e111_18, e111_21, e111_22, e111_23, e111_25, e111_26, e111_27, e111_28, e111_29, e111_30, e111_33, e111_36, e111_39, e111_42, e111_43, m111, ↓reduceIte, qg_0, qg_1, qg_2, qg_3, qg_4, qg_5, qg_6, qg_7, qg_8, qg_9, qg_10, qg_11, qg_12, qg_13, not_true_eq_false, not_false_eq_true, Nat.reduceBEq, Bool.false_eq_true, ex1, ex3, ex4, exF, qfit_i, qfit_l, qfit_r, qfit_n, qfit_b0, qfit_b1, qcat_i, qcat_r, qcat_n, qcat_l, qroom_0, qroom_c, List.map_cons, List.map_nil, List.sum_cons, List.sum_nil, Nat.reduceAdd, Nat.reduceMul, Nat.reduceLT, Nat.reduceLeDiff, Nat.reduceEqDiff, Nat.reduceSub, decide_true, true_and, and_true, and_self, if_true, if_false, Option.toList_some, Option.toList_none, List.cons_append, List.nil_append, qsL, qlong, List.length_cons, List.length_nil, iN_L, exI, iN_add, iN_mul, iN_le, iN_lt, iN_eq, Nat.le_refl, qfN0, qfN1, uX_16, vX_16, uX_19, vX_19, uX_27, vX_27, uX_30, vX_30, uX_39, vX_39, uX_41, vX_41, uX_43, vX_43, uX_46, vX_46, uX_50, vX_50, uX_53, vX_53, u16, ult, uF, g0, g1, g2, g3, g4, g5, g6, r1, r2, rf_some]
set_option maxRecDepth 100000 in
set_option maxHeartbeats 16000000 in
theorem x_countAround {K x : Nat} (S : SoD h a D sc cs C p q w e B) (P : SoP D cs C) (hK : K < 4) (hx : x < 65536) : qMC (d + 1) 112 [.ref a, .int (iN K), .int (iN x)] h R ↔ R = (some (.int (iN (cntN (fun f => decide (wo x ((C K).getD f 0) = 0)) (C K).length))), h) := by
  obtain ⟨⟨u16, ult, uF⟩, g0, g1, g2, g3, g4, g5, g6⟩ := S.obj
  have r1 := S.ce hK
  have r2 := S.cl hK
  obtain ⟨l8, pb⟩ := P.2.2.2.2.1 K hK
  have r0 : qMC (d + 1) 112 [.ref a, .int (iN K), .int (iN x)] h R ↔ qEv d 0 qk_112 5 [some (.ref a), some (.int (iN K)), some (.int (iN x)), some (.int (iN (cntN (fun f => decide (wo x ((C K).getD f 0) = 0)) 0))), some (.int (iN 0))] [] h R := by
    rw [show cntN (fun f => decide (wo x ((C K).getD f 0) = 0)) 0 = 0 from rfl]
    simp (disch := first | assumption | omega) only [e112_0, e112_1, e112_2, e112_3, e112_7, e112_8, e112_11, e112_12, e112_13, e112_14, e112_17, e112_18, e112_19, e112_22, e112_23, e112_24, e112_26, e112_27, e112_28, e112_29, e112_30, e112_33, e112_36, e112_39, e112_42, e112_43, m112, ↓reduceIte, qg_0, qg_1, qg_2, qg_3, qg_4, qg_5, qg_6, qg_7, qg_8, qg_9, qg_10, qg_11, qg_12, qg_13, not_true_eq_false, not_false_eq_true, Nat.reduceBEq, Bool.false_eq_true, ex1, ex3, ex4, exF, qfit_i, qfit_l, qfit_r, qfit_n, qfit_b0, qfit_b1, qcat_i, qcat_r, qcat_n, qcat_l, qroom_0, qroom_c, List.map_cons, List.map_nil, List.sum_cons, List.sum_nil, Nat.reduceAdd, Nat.reduceMul, Nat.reduceLT, Nat.reduceLeDiff, Nat.reduceEqDiff, Nat.reduceSub, decide_true, true_and, and_true, and_self, if_true, if_false, Option.toList_some, Option.toList_none, List.cons_append, List.nil_append, qsL, qlong, List.length_cons, List.length_nil, iN_L, exI, iN_add, iN_mul, iN_le, iN_lt, iN_eq, Nat.le_refl, qfN0, qfN1, uX_16, vX_16, uX_19, vX_19, uX_27, vX_27, uX_30, vX_30, uX_39, vX_39, uX_41, vX_41, uX_43, vX_43, uX_46, vX_46, uX_50, vX_50, uX_53, vX_53]
  rw [r0]
  refine Iff.trans (loop_up (n := (C K).length) (L := fun t => [some (.ref a), some (.int (iN K)), some (.int (iN x)), some (.int (iN (cntN (fun f => decide (wo x ((C K).getD f 0) = 0)) t))), some (.int (iN t))]) (H := fun _ => h) ?_) ?_
  · intro t ht
    try dsimp only
    have r3 := S.ck hK ht
    have wl := wo_le x ((C K).getD t 0)
    rw [e112_5, cntN]
    by_cases z : wo x ((C K).getD t 0) = 0
    · rw [decide_eq_true z, if_pos rfl]
      simp (disch := first | assumption | omega) only [e112_0, e112_1, e112_2, e112_3, e112_7, e112_8, e112_11, e112_12, e112_13, e112_14, e112_17, e112_18, e112_19, e112_22, e112_23, e112_24, e112_26, e112_27, e112_28, e112_29, e112_30, e112_33, e112_36, e112_39, e112_42, e112_43, m112, ↓reduceIte, qg_0, qg_1, qg_2, qg_3, qg_4, qg_5, qg_6, qg_7, qg_8, qg_9, qg_10, qg_11, qg_12, qg_13, not_true_eq_false, not_false_eq_true, Nat.reduceBEq, Bool.false_eq_true, ex1, ex3, ex4, exF, qfit_i, qfit_l, qfit_r, qfit_n, qfit_b0, qfit_b1, qcat_i, qcat_r, qcat_n, qcat_l, qroom_0, qroom_c, List.map_cons, List.map_nil, List.sum_cons, List.sum_nil, Nat.reduceAdd, Nat.reduceMul, Nat.reduceLT, Nat.reduceLeDiff, Nat.reduceEqDiff, Nat.reduceSub, decide_true, true_and, and_true, and_self, if_true, if_false, Option.toList_some, Option.toList_none, List.cons_append, List.nil_append, qsL, qlong, List.length_cons, List.length_nil, iN_L, exI, iN_add, iN_mul, iN_le, iN_lt, iN_eq, Nat.le_refl, qfN0, qfN1, uX_16, vX_16, uX_19, vX_19, uX_27, vX_27, uX_30, vX_30, uX_39, vX_39, uX_41, vX_41, uX_43, vX_43, uX_46, vX_46, uX_50, vX_50, uX_53, vX_53, u16, ult, uF, g0, g1, g2, g3, g4, g5, g6, r1, r2, r3, rf_some, show ¬ (C K).length ≤ t by omega, iN_wo', z]
    · rw [decide_eq_false z, if_neg Bool.false_ne_true, Nat.add_zero]
      simp (disch := first | assumption | omega) only [e112_0, e112_1, e112_2, e112_3, e112_7, e112_8, e112_11, e112_12, e112_13, e112_14, e112_17, e112_18, e112_19, e112_22, e112_23, e112_24, e112_26, e112_27, e112_28, e112_29, e112_30, e112_33, e112_36, e112_39, e112_42, e112_43, m112, ↓reduceIte, qg_0, qg_1, qg_2, qg_3, qg_4, qg_5, qg_6, qg_7, qg_8, qg_9, qg_10, qg_11, qg_12, qg_13, not_true_eq_false, not_false_eq_true, Nat.reduceBEq, Bool.false_eq_true, ex1, ex3, ex4, exF, qfit_i, qfit_l, qfit_r, qfit_n, qfit_b0, qfit_b1, qcat_i, qcat_r, qcat_n, qcat_l, qroom_0, qroom_c, List.map_cons, List.map_nil, List.sum_cons, List.sum_nil, Nat.reduceAdd, Nat.reduceMul, Nat.reduceLT, Nat.reduceLeDiff, Nat.reduceEqDiff, Nat.reduceSub, decide_true, true_and, and_true, and_self, if_true, if_false, Option.toList_some, Option.toList_none, List.cons_append, List.nil_append, qsL, qlong, List.length_cons, List.length_nil, iN_L, exI, iN_add, iN_mul, iN_le, iN_lt, iN_eq, Nat.le_refl, qfN0, qfN1, uX_16, vX_16, uX_19, vX_19, uX_27, vX_27, uX_30, vX_30, uX_39, vX_39, uX_41, vX_41, uX_43, vX_43, uX_46, vX_46, uX_50, vX_50, uX_53, vX_53, u16, ult, uF, g0, g1, g2, g3, g4, g5, g6, r1, r2, r3, rf_some, show ¬ (C K).length ≤ t by omega, iN_wo', z]
  · try dsimp only
    rw [e112_5]
    simp (disch := first | assumption | omega) only [e112_0, e112_1, e112_2, e112_3, e112_7, e112_8, e112_11, e112_12, e112_13, e112_14, e112_17, e112_18, e112_19, e112_22, e112_23, e112_24, e112_26, e112_27, e112_28, e112_29, e112_30, e112_33, e112_36, e112_39, e112_42, e112_43, m112, ↓reduceIte, qg_0, qg_1, qg_2, qg_3, qg_4, qg_5, qg_6, qg_7, qg_8, qg_9, qg_10, qg_11, qg_12, qg_13, not_true_eq_false, not_false_eq_true, Nat.reduceBEq, Bool.false_eq_true, ex1, ex3, ex4, exF, qfit_i, qfit_l, qfit_r, qfit_n, qfit_b0, qfit_b1, qcat_i, qcat_r, qcat_n, qcat_l, qroom_0, qroom_c, List.map_cons, List.map_nil, List.sum_cons, List.sum_nil, Nat.reduceAdd, Nat.reduceMul, Nat.reduceLT, Nat.reduceLeDiff, Nat.reduceEqDiff, Nat.reduceSub, decide_true, true_and, and_true, and_self, if_true, if_false, Option.toList_some, Option.toList_none, List.cons_append, List.nil_append, qsL, qlong, List.length_cons, List.length_nil, iN_L, exI, iN_add, iN_mul, iN_le, iN_lt, iN_eq, Nat.le_refl, qfN0, qfN1, uX_16, vX_16, uX_19, vX_19, uX_27, vX_27, uX_30, vX_30, uX_39, vX_39, uX_41, vX_41, uX_43, vX_43, uX_46, vX_46, uX_50, vX_50, uX_53, vX_53, u16, ult, uF, g0, g1, g2, g3, g4, g5, g6, r1, r2, rf_some]
end
end XSOLID

/-! ===== THE CLASS: sizeOf ===== -/
section XSIZEOF
variable {d : Nat} {h : qH} {bs : List bdy} {sa : Nat → Nat} {R : qRes}
def crD (F : Nat → Nat → Int) : Int := cu3 F 0 1 2 1 2 3 * F 3 0 + -cu3 F 0 1 2 0 2 3 * F 3 1 + cu3 F 0 1 2 0 1 3 * F 3 2 + -cu3 F 0 1 2 0 1 2 * F 3 3
theorem crD_4 (F : Nat → Nat → Int) : crD F = -de4 F := by
  unfold crD de4 cu3 sq2
  grind
theorem crD_3 {F : Nat → Nat → Int} (h0 : F 3 0 = 0) (h1 : F 3 1 = 0) (h2 : F 3 2 = 0) (h3 : F 3 3 = 1) : crD F = -cu3 F 0 1 2 0 1 2 := by
  unfold crD
  rw [h0, h1, h2, h3]
  omega
theorem crD_2 {F : Nat → Nat → Int} (h0 : F 3 0 = 0) (h1 : F 3 1 = 0) (h2 : F 3 2 = 0) (h3 : F 3 3 = 1) (g0 : F 2 0 = 0) (g1 : F 2 1 = 0) (g2 : F 2 2 = 1) (a2 : F 0 2 = 0) (b2 : F 1 2 = 0) : crD F = -sq2 F 0 1 0 1 := by
  rw [crD_3 h0 h1 h2 h3]
  unfold cu3 sq2
  rw [g0, g1, g2, a2, b2]
  grind
theorem deD_ext {D : Nat} {F G : Nat → Nat → Int} (hD : 2 ≤ D ∧ D ≤ 4) (hF : ∀ a k, a < D → k < 4 → F a k = G a k) : deD D F = deD D G := by
  rcases (show D = 2 ∨ D = 3 ∨ D = 4 by omega) with rfl | rfl | rfl
  · unfold deD sq2
    rw [if_pos rfl, if_pos rfl, hF 0 0 (by decide) (by decide), hF 0 1 (by decide) (by decide), hF 1 0 (by decide) (by decide), hF 1 1 (by decide) (by decide)]
  · unfold deD cu3 sq2
    rw [if_neg (by decide), if_pos rfl, if_neg (by decide), if_pos rfl, hF 0 0 (by decide) (by decide), hF 0 1 (by decide) (by decide), hF 0 2 (by decide) (by decide), hF 1 0 (by decide) (by decide), hF 1 1 (by decide) (by decide), hF 1 2 (by decide) (by decide), hF 2 0 (by decide) (by decide), hF 2 1 (by decide) (by decide), hF 2 2 (by decide) (by decide)]
  · unfold deD de4 cu3 sq2
    rw [if_neg (by decide), if_neg (by decide), if_neg (by decide), if_neg (by decide), hF 0 0 (by decide) (by decide), hF 0 1 (by decide) (by decide), hF 0 2 (by decide) (by decide), hF 0 3 (by decide) (by decide), hF 1 0 (by decide) (by decide), hF 1 1 (by decide) (by decide), hF 1 2 (by decide) (by decide), hF 1 3 (by decide) (by decide), hF 2 0 (by decide) (by decide), hF 2 1 (by decide) (by decide), hF 2 2 (by decide) (by decide), hF 2 3 (by decide) (by decide), hF 3 0 (by decide) (by decide), hF 3 1 (by decide) (by decide), hF 3 2 (by decide) (by decide), hF 3 3 (by decide) (by decide)]
set_option maxRecDepth 100000 in
theorem x_absL {z : Int} (hz : lB z) : qMC (d + 1) 311 [.long (lZ z)] h R ↔ R = (some (.long (lZ z.natAbs)), h) := by
  have ge := lZ_le lB_0 hz
  by_cases q : 0 ≤ z
  · rw [show ((z.natAbs : Nat) : Int) = z by omega]
    simp (disch := first | assumption | omega) only [e311_0, e311_1, e311_2, e311_3, e311_6, e311_7, e311_8, e311_11, e311_12, m311, ↓reduceIte, qg_0, qg_1, qg_2, qg_3, qg_4, qg_5, qg_6, qg_7, qg_8, qg_9, qg_10, qg_11, qg_12, qg_13, not_true_eq_false, not_false_eq_true, Nat.reduceBEq, Bool.false_eq_true, ex1, ex3, ex4, exF, qfit_i, qfit_l, qfit_r, qfit_n, qfit_b0, qfit_b1, qcat_i, qcat_r, qcat_n, qcat_l, qroom_0, qroom_c, List.map_cons, List.map_nil, List.sum_cons, List.sum_nil, Nat.reduceAdd, Nat.reduceMul, Nat.reduceLT, Nat.reduceLeDiff, Nat.reduceEqDiff, Nat.reduceSub, decide_true, true_and, and_true, and_self, if_true, if_false, Option.toList_some, Option.toList_none, List.cons_append, List.nil_append, qsL, qlong, List.length_cons, List.length_nil, iN_L, exI, iN_add, iN_mul, iN_le, iN_lt, iN_eq, Nat.le_refl, qfN0, qfN1, uX_16, vX_16, uX_19, vX_19, uX_27, vX_27, uX_30, vX_30, uX_39, vX_39, uX_41, vX_41, uX_43, vX_43, uX_46, vX_46, uX_50, vX_50, uX_53, vX_53, lgN_ge, show (0 : Int64) = lZ 0 from rfl, ge, q]
  · rw [show ((z.natAbs : Nat) : Int) = -z by omega]
    simp (disch := first | assumption | omega) only [e311_0, e311_1, e311_2, e311_3, e311_6, e311_7, e311_8, e311_11, e311_12, m311, ↓reduceIte, qg_0, qg_1, qg_2, qg_3, qg_4, qg_5, qg_6, qg_7, qg_8, qg_9, qg_10, qg_11, qg_12, qg_13, not_true_eq_false, not_false_eq_true, Nat.reduceBEq, Bool.false_eq_true, ex1, ex3, ex4, exF, qfit_i, qfit_l, qfit_r, qfit_n, qfit_b0, qfit_b1, qcat_i, qcat_r, qcat_n, qcat_l, qroom_0, qroom_c, List.map_cons, List.map_nil, List.sum_cons, List.sum_nil, Nat.reduceAdd, Nat.reduceMul, Nat.reduceLT, Nat.reduceLeDiff, Nat.reduceEqDiff, Nat.reduceSub, decide_true, true_and, and_true, and_self, if_true, if_false, Option.toList_some, Option.toList_none, List.cons_append, List.nil_append, qsL, qlong, List.length_cons, List.length_nil, iN_L, exI, iN_add, iN_mul, iN_le, iN_lt, iN_eq, Nat.le_refl, qfN0, qfN1, uX_16, vX_16, uX_19, vX_19, uX_27, vX_27, uX_30, vX_30, uX_39, vX_39, uX_41, vX_41, uX_43, vX_43, uX_46, vX_46, uX_50, vX_50, uX_53, vX_53, lgN_ge, show (0 : Int64) = lZ 0 from rfl, ge, q, lZ_neg]
/-- units behind the rows of a piece -/
def unE (D : Nat) (E : Nat → Nat → Int) : Nat → Nat → Int := fun a k => if D ≤ a ∧ a < 4 ∧ k < 4 then (if k = a then 1 else 0) else E a k
theorem SoD.spR {a D : Nat} {sc : Int32} {cs : List pt4} {C : Nat → List Nat} {p q w e : Nat} {B : Nat → Nat} (S : SoD h a D sc cs C p q w e B) (P : SoP D cs C) : spR h p cs.length (lP cs) := ⟨4 * cs.length, S.2.2.1.2.1, Nat.le_refl _, P.2.1.2, fun c hc k hk => ⟨S.2.2.1.2.2 c hc k hk, P.2.2.1 c hc k hk⟩⟩
set_option maxRecDepth 100000 in
set_option maxHeartbeats 64000000 in
theorem x_sizeOf {i x : Nat} (s : ShX h) (X : BsX h bs sa) (hi' : i < bs.length) (hx : x < 2 ^ (cnr bs i).length) (hp : pop x 16 = dmn bs i + 1) : ∃ h', (∀ R, qMC (d + 4) 33 [.ref 19, .ref (sa i), .int (iN x)] h R ↔ R = (some (.long (lZ (szP bs i x))), h')) ∧ ChX [23, 24] [] 0 h h' := by
  obtain ⟨E, P0, eh⟩ := H2_of s
  obtain ⟨p, q, w, e, B, S, P⟩ := X.at hi'
  obtain ⟨⟨u16, ult, uF⟩, g0, g1, g2, g3, g4, g5, g6⟩ := S.obj
  have hD := P.1
  have n16 := P.2.1.2
  have x16 : x < 65536 := Nat.lt_of_lt_of_le hx (show _ ≤ 2 ^ 16 from Nat.pow_le_pow_right (by decide) n16)
  have hm : ∀ c, x.testBit c = true → c < (cnr bs i).length := fun c hc => by
    rcases Nat.lt_or_ge c (cnr bs i).length with z | z
    · exact z
    · rw [Nat.testBit_lt_two_pow (Nat.lt_of_lt_of_le hx (Nat.pow_le_pow_right (by decide) z))] at hc; cases hc
  have em : mbr x 16 = mbr x (cnr bs i).length := pickN_stop n16 fun k hk => by
    cases z : x.testBit k with
    | false => rfl
    | true => have := hm k z; omega
  have rw' : ∀ R, qMC (d + 3) 29 [.ref 19, .int (iN x), .ref p] h R ↔ R = (some (.int (iN (dmn bs i))), H2 h (rwE E x (lP (cnr bs i)) 16) P0) := fun R => by
    have := x_rowsWithin (d := d) (R := R) (E := E) (P := P0) s (S.spR P) x16 hm (by omega)
    rw [← eh, hp, show dmn bs i + 1 - 1 = dmn bs i by omega] at this
    exact this
  obtain ⟨F0, e0⟩ : ∃ F0, F0 = rwE E x (lP (cnr bs i)) 16 := ⟨_, rfl⟩
  rw [← e0] at rw'
  have f0 : ∀ a k, a < dmn bs i → k < 4 → F0 a k = edE bs i x a k := fun a k ha hk => by
    rw [e0]
    unfold rwE edE
    rw [hp, if_pos ⟨by omega, hk⟩, em]
  obtain ⟨F, eF⟩ : ∃ F, F = unE (dmn bs i) F0 := ⟨_, rfl⟩
  have fl : ∀ a k, a < dmn bs i → F a k = F0 a k := fun a k ha => by rw [eF]; exact if_neg (fun z => by omega)
  have fu : ∀ a k, dmn bs i ≤ a → a < 4 → k < 4 → F a k = if k = a then 1 else 0 := fun a k h1 h2 h3 => by rw [eF]; exact if_pos ⟨h1, h2, h3⟩
  have sH : ∀ E P, ShX (H2 h E P) := fun E P => (H2_ch s).sh
  -- the units
  have un : ∀ R, qMC (d + 4) 33 [.ref 19, .ref (sa i), .int (iN x)] h R ↔ qEv (d + 3) 1 qk_33 27 [some (.ref 19), some (.ref (sa i)), some (.int (iN x)), some (.int (iN 4))] [] (H2 h F P0) R := by
    intro R
    have go : ∀ (v a : Nat), a + v = 4 → dmn bs i ≤ a → (qEv (d + 3) 1 qk_33 10 [some (.ref 19), some (.ref (sa i)), some (.int (iN x)), some (.int (iN a))] [] (H2 h (fun b k => if b < a then F b k else F0 b k) P0) R ↔ qEv (d + 3) 1 qk_33 27 [some (.ref 19), some (.ref (sa i)), some (.int (iN x)), some (.int (iN 4))] [] (H2 h F P0) R) := by
      intro v
      induction v with
      | zero =>
        intro a ha hDa
        have e4 : a = 4 := by omega
        subst e4
        have e5 : (fun b k => if b < 4 then F b k else F0 b k) = F := by
          funext b k
          by_cases z : b < 4
          · rw [if_pos z]
          · rw [if_neg z, eF]; exact (if_neg (fun y => by omega)).symm
        rw [e5, e33_10]
        have s1 := sH F P0
        simp (disch := first | assumption | omega) only [e33_0, e33_1, e33_2, e33_3, e33_6, e33_9, e33_11, e33_12, e33_15, e33_16, e33_17, e33_18, e33_21, e33_24, e33_28, e33_31, e33_32, e33_35, e33_36, e33_37, e33_38, e33_41, e33_43, e33_44, e33_45, e33_46, e33_49, e33_50, e33_51, e33_52, e33_55, e33_57, e33_58, e33_59, e33_60, e33_61, e33_64, e33_65, e33_66, e33_67, e33_70, e33_72, e33_73, e33_74, e33_75, e33_76, e33_79, e33_80, e33_81, e33_82, e33_85, e33_87, e33_88, e33_89, e33_90, e33_93, m33, ↓reduceIte, qg_0, qg_1, qg_2, qg_3, qg_4, qg_5, qg_6, qg_7, qg_8, qg_9, qg_10, qg_11, qg_12, qg_13, not_true_eq_false, not_false_eq_true, Nat.reduceBEq, Bool.false_eq_true, ex1, ex3, ex4, exF, qfit_i, qfit_l, qfit_r, qfit_n, qfit_b0, qfit_b1, qcat_i, qcat_r, qcat_n, qcat_l, qroom_0, qroom_c, List.map_cons, List.map_nil, List.sum_cons, List.sum_nil, Nat.reduceAdd, Nat.reduceMul, Nat.reduceLT, Nat.reduceLeDiff, Nat.reduceEqDiff, Nat.reduceSub, decide_true, true_and, and_true, and_self, if_true, if_false, Option.toList_some, Option.toList_none, List.cons_append, List.nil_append, qsL, qlong, List.length_cons, List.length_nil, iN_L, exI, iN_add, iN_mul, iN_le, iN_lt, iN_eq, Nat.le_refl, qfN0, qfN1, uX_16, vX_16, uX_19, vX_19, uX_27, vX_27, uX_30, vX_30, uX_39, vX_39, uX_41, vX_41, uX_43, vX_43, uX_46, vX_46, uX_50, vX_50, uX_53, vX_53]
      | succ v ih =>
        intro a ha hDa
        have s1 := sH (fun b k => if b < a then F b k else F0 b k) P0
        have ru : ∀ R, qMC (d + 3) 28 [.ref 19, .int (iN a), .int (iN a)] (H2 h (fun b k => if b < a then F b k else F0 b k) P0) R ↔ R = (none, H2 h (fun b k => if b < a + 1 then F b k else F0 b k) P0) := fun R => by
          rw [x_rowOfUnit s (by omega) (by omega)]
          have : updE (fun b k => if b < a then F b k else F0 b k) a (fun k => if k = a then 1 else 0) = (fun b k => if b < a + 1 then F b k else F0 b k) := by
            funext b k
            show (if b = a ∧ k < 4 then (if k = a then (1 : Int) else 0) else (if b < a then F b k else F0 b k)) = (if b < a + 1 then F b k else F0 b k)
            by_cases z : b = a
            · by_cases zk : k < 4
              · rw [if_pos ⟨z, zk⟩, if_pos (show b < a + 1 by omega), fu b k (by omega) (by omega) zk, z]
              · rw [if_neg (fun y => zk y.2), if_neg (show ¬ b < a by omega), if_pos (show b < a + 1 by omega), eF]
                exact (if_neg (fun y => zk y.2.2)).symm
            · rw [if_neg (fun y => z y.1)]
              by_cases z2 : b < a
              · rw [if_pos z2, if_pos (show b < a + 1 by omega)]
              · rw [if_neg z2, if_neg (show ¬ b < a + 1 by omega)]
          rw [this]
        rw [← ih (a + 1) (by omega) (by omega), e33_10]
        simp (disch := first | assumption | omega) only [e33_0, e33_1, e33_2, e33_3, e33_6, e33_9, e33_11, e33_12, e33_15, e33_16, e33_17, e33_18, e33_21, e33_24, e33_28, e33_31, e33_32, e33_35, e33_36, e33_37, e33_38, e33_41, e33_43, e33_44, e33_45, e33_46, e33_49, e33_50, e33_51, e33_52, e33_55, e33_57, e33_58, e33_59, e33_60, e33_61, e33_64, e33_65, e33_66, e33_67, e33_70, e33_72, e33_73, e33_74, e33_75, e33_76, e33_79, e33_80, e33_81, e33_82, e33_85, e33_87, e33_88, e33_89, e33_90, e33_93, m33, ↓reduceIte, qg_0, qg_1, qg_2, qg_3, qg_4, qg_5, qg_6, qg_7, qg_8, qg_9, qg_10, qg_11, qg_12, qg_13, not_true_eq_false, not_false_eq_true, Nat.reduceBEq, Bool.false_eq_true, ex1, ex3, ex4, exF, qfit_i, qfit_l, qfit_r, qfit_n, qfit_b0, qfit_b1, qcat_i, qcat_r, qcat_n, qcat_l, qroom_0, qroom_c, List.map_cons, List.map_nil, List.sum_cons, List.sum_nil, Nat.reduceAdd, Nat.reduceMul, Nat.reduceLT, Nat.reduceLeDiff, Nat.reduceEqDiff, Nat.reduceSub, decide_true, true_and, and_true, and_self, if_true, if_false, Option.toList_some, Option.toList_none, List.cons_append, List.nil_append, qsL, qlong, List.length_cons, List.length_nil, iN_L, exI, iN_add, iN_mul, iN_le, iN_lt, iN_eq, Nat.le_refl, qfN0, qfN1, uX_16, vX_16, uX_19, vX_19, uX_27, vX_27, uX_30, vX_30, uX_39, vX_39, uX_41, vX_41, uX_43, vX_43, uX_46, vX_46, uX_50, vX_50, uX_53, vX_53, show ¬ 4 ≤ a by omega, ru]
    have e6 : (fun b k => if b < dmn bs i then F b k else F0 b k) = F0 := by
      funext b k
      by_cases z : b < dmn bs i
      · rw [if_pos z, fl b k z]
      · rw [if_neg z]
    have := go (4 - dmn bs i) (dmn bs i) (by omega) (Nat.le_refl _)
    rw [e6] at this
    rw [← this]
    simp (disch := first | assumption | omega) only [e33_0, e33_1, e33_2, e33_3, e33_6, e33_9, e33_11, e33_12, e33_15, e33_16, e33_17, e33_18, e33_21, e33_24, e33_27, e33_28, e33_31, e33_32, e33_35, e33_36, e33_37, e33_38, e33_41, e33_43, e33_44, e33_45, e33_46, e33_49, e33_50, e33_51, e33_52, e33_55, e33_57, e33_58, e33_59, e33_60, e33_61, e33_64, e33_65, e33_66, e33_67, e33_70, e33_72, e33_73, e33_74, e33_75, e33_76, e33_79, e33_80, e33_81, e33_82, e33_85, e33_87, e33_88, e33_89, e33_90, e33_93, m33, ↓reduceIte, qg_0, qg_1, qg_2, qg_3, qg_4, qg_5, qg_6, qg_7, qg_8, qg_9, qg_10, qg_11, qg_12, qg_13, not_true_eq_false, not_false_eq_true, Nat.reduceBEq, Bool.false_eq_true, ex1, ex3, ex4, exF, qfit_i, qfit_l, qfit_r, qfit_n, qfit_b0, qfit_b1, qcat_i, qcat_r, qcat_n, qcat_l, qroom_0, qroom_c, List.map_cons, List.map_nil, List.sum_cons, List.sum_nil, Nat.reduceAdd, Nat.reduceMul, Nat.reduceLT, Nat.reduceLeDiff, Nat.reduceEqDiff, Nat.reduceSub, decide_true, true_and, and_true, and_self, if_true, if_false, Option.toList_some, Option.toList_none, List.cons_append, List.nil_append, qsL, qlong, List.length_cons, List.length_nil, iN_L, exI, iN_add, iN_mul, iN_le, iN_lt, iN_eq, Nat.le_refl, qfN0, qfN1, uX_16, vX_16, uX_19, vX_19, uX_27, vX_27, uX_30, vX_30, uX_39, vX_39, uX_41, vX_41, uX_43, vX_43, uX_46, vX_46, uX_50, vX_50, uX_53, vX_53, u16, ult, uF, g0, g1, g2, g3, g4, g5, g6, rw']
  have cr : ∀ R, qMC (d + 3) 31 [.ref 19] (H2 h F P0) R ↔ R = (none, H2 h F (crP F P0)) := fun R => x_cross s
  have s2 := sH F (crP F P0)
  have s1 := sH F P0
  have a0 : qlald (H2 h F (crP F P0)) 24 (iN 0) = some (lZ (cu3 F 0 1 2 1 2 3)) := H2_r24 s (by decide)
  have a1 : qlald (H2 h F (crP F P0)) 24 (iN 1) = some (lZ (-cu3 F 0 1 2 0 2 3)) := H2_r24 s (by decide)
  have a2 : qlald (H2 h F (crP F P0)) 24 (iN 2) = some (lZ (cu3 F 0 1 2 0 1 3)) := H2_r24 s (by decide)
  have a3 : qlald (H2 h F (crP F P0)) 24 (iN 3) = some (lZ (-cu3 F 0 1 2 0 1 2)) := H2_r24 s (by decide)
  have b0' : qlald (H2 h F (crP F P0)) 23 (iN 12) = some (lZ (F 3 0)) := H2_r23 s (r := 3) (k := 0) (by decide) (by decide)
  have b1' : qlald (H2 h F (crP F P0)) 23 (iN 13) = some (lZ (F 3 1)) := H2_r23 s (r := 3) (k := 1) (by decide) (by decide)
  have b2' : qlald (H2 h F (crP F P0)) 23 (iN 14) = some (lZ (F 3 2)) := H2_r23 s (r := 3) (k := 2) (by decide) (by decide)
  have b3' : qlald (H2 h F (crP F P0)) 23 (iN 15) = some (lZ (F 3 3)) := H2_r23 s (r := 3) (k := 3) (by decide) (by decide)
  have eb : ∀ r k, r < dmn bs i → k < 4 → -1998 ≤ edE bs i x r k ∧ edE bs i x r k ≤ 1998 := fun r k hr hk => by
    have hb : ∀ j, j < dmn bs i + 1 → (mbr x (cnr bs i).length).getD j 0 < (cnr bs i).length := fun j hj => by
      rw [← em]
      obtain ⟨c, c1, c2, -, c4⟩ := pickN_get (fun c => x.testBit c) (n := 16) (c := j) (by show j < pop x 16; omega)
      rw [show (mbr x 16).getD j 0 = c from c4]
      exact hm c c2
    unfold edE
    have h1 := P.2.2.1 _ (hb (r + 1) (by omega)) k hk
    have h2 := P.2.2.1 _ (hb 0 (by omega)) k hk
    omega
  have ez : ∀ r k, dmn bs i ≤ k → k < 4 → edE bs i x r k = 0 := fun r k h1 h2 => by
    unfold edE
    rw [P.2.2.2.1 _ k h1 h2, P.2.2.2.1 _ k h1 h2]; rfl
  have dF : deD (dmn bs i) F = deD (dmn bs i) (edE bs i x) := deD_ext hD fun a k ha hk => by rw [fl a k ha, f0 a k ha hk]
  have db := deD_b hD eb
  have key : crD F = -deD (dmn bs i) (edE bs i x) := by
    rw [← dF]
    rcases (show dmn bs i = 2 ∨ dmn bs i = 3 ∨ dmn bs i = 4 by omega) with z | z | z
    · rw [crD_2 (fu 3 0 (by omega) (by decide) (by decide)) (fu 3 1 (by omega) (by decide) (by decide)) (fu 3 2 (by omega) (by decide) (by decide)) (fu 3 3 (by omega) (by decide) (by decide)) (fu 2 0 (by omega) (by decide) (by decide)) (fu 2 1 (by omega) (by decide) (by decide)) (fu 2 2 (by omega) (by decide) (by decide)) (by rw [fl 0 2 (by omega), f0 0 2 (by omega) (by decide), ez 0 2 (by omega) (by decide)]) (by rw [fl 1 2 (by omega), f0 1 2 (by omega) (by decide), ez 1 2 (by omega) (by decide)])]
      unfold deD
      rw [if_pos z]
    · rw [crD_3 (fu 3 0 (by omega) (by decide) (by decide)) (fu 3 1 (by omega) (by decide) (by decide)) (fu 3 2 (by omega) (by decide) (by decide)) (fu 3 3 (by omega) (by decide) (by decide))]
      unfold deD
      rw [if_neg (by omega), if_pos z]
    · rw [crD_4]
      unfold deD
      rw [if_neg (by omega), if_neg (by omega)]
  have ab : ∀ R, qMC (d + 3) 311 [.long (lZ (crD F))] (H2 h F (crP F P0)) R ↔ R = (some (.long (lZ (szP bs i x))), H2 h F (crP F P0)) := fun R => by
    rw [x_absL (by rw [key]; unfold lB; omega), key, Int.natAbs_neg]
    exact Iff.rfl
  refine ⟨H2 h F (crP F P0), fun R => ?_, H2_ch s⟩
  rw [un R]
  have ec : crD F = cu3 F 0 1 2 1 2 3 * F 3 0 + -cu3 F 0 1 2 0 2 3 * F 3 1 + cu3 F 0 1 2 0 1 3 * F 3 2 + -cu3 F 0 1 2 0 1 2 * F 3 3 := rfl
  rw [e33_27]
  simp (disch := first | assumption | omega) only [e33_0, e33_1, e33_2, e33_3, e33_6, e33_9, e33_11, e33_12, e33_15, e33_16, e33_17, e33_18, e33_21, e33_24, e33_28, e33_31, e33_32, e33_35, e33_36, e33_37, e33_38, e33_41, e33_43, e33_44, e33_45, e33_46, e33_49, e33_50, e33_51, e33_52, e33_55, e33_57, e33_58, e33_59, e33_60, e33_61, e33_64, e33_65, e33_66, e33_67, e33_70, e33_72, e33_73, e33_74, e33_75, e33_76, e33_79, e33_80, e33_81, e33_82, e33_85, e33_87, e33_88, e33_89, e33_90, e33_93, m33, ↓reduceIte, qg_0, qg_1, qg_2, qg_3, qg_4, qg_5, qg_6, qg_7, qg_8, qg_9, qg_10, qg_11, qg_12, qg_13, not_true_eq_false, not_false_eq_true, Nat.reduceBEq, Bool.false_eq_true, ex1, ex3, ex4, exF, qfit_i, qfit_l, qfit_r, qfit_n, qfit_b0, qfit_b1, qcat_i, qcat_r, qcat_n, qcat_l, qroom_0, qroom_c, List.map_cons, List.map_nil, List.sum_cons, List.sum_nil, Nat.reduceAdd, Nat.reduceMul, Nat.reduceLT, Nat.reduceLeDiff, Nat.reduceEqDiff, Nat.reduceSub, decide_true, true_and, and_true, and_self, if_true, if_false, Option.toList_some, Option.toList_none, List.cons_append, List.nil_append, qsL, qlong, List.length_cons, List.length_nil, iN_L, exI, iN_add, iN_mul, iN_le, iN_lt, iN_eq, Nat.le_refl, qfN0, qfN1, uX_16, vX_16, uX_19, vX_19, uX_27, vX_27, uX_30, vX_30, uX_39, vX_39, uX_41, vX_41, uX_43, vX_43, uX_46, vX_46, uX_50, vX_50, uX_53, vX_53, cr, gX_19_7, gX_19_8, a0, a1, a2, a3, b0', b1', b2', b3', lZ_mul, lZ_add, ← ec, ab]
end XSIZEOF

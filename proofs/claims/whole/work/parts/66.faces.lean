/-! ===== THE REFERENCE: findFaces ===== -/
/-- meets of facets: a set with all that the facets around it have in common -/
def around (F : Nat → Nat) (x : Nat) (j : Nat) : Bool := decide (x &&& F j = x)
def clo (F : Nat → Nat) (x : Nat) : Nat → Nat
  | 0 => 65535
  | j + 1 => if around F x j then clo F x j &&& F j else clo F x j
def Meet (F : Nat → Nat) (m x : Nat) : Prop := x ≠ 0 ∧ (∃ j, j < m ∧ around F x j = true) ∧ clo F x m = x
theorem sub_iff {x y : Nat} : x &&& y = x ↔ ∀ b, x.testBit b = true → y.testBit b = true := by
  constructor
  · intro h b hb
    have := congrArg (fun z => z.testBit b) h
    simp only [Nat.testBit_and, hb, Bool.true_and] at this
    exact this
  · intro h
    apply Nat.eq_of_testBit_eq
    intro b
    rw [Nat.testBit_and]
    cases hb : x.testBit b with
    | false => rfl
    | true => rw [h b hb]; rfl
theorem clo_bit {F : Nat → Nat} {x b : Nat} : ∀ {m : Nat}, (clo F x m).testBit b = true ↔ b < 16 ∧ ∀ j, j < m → around F x j = true → (F j).testBit b = true
  | 0 => by
    show (65535 : Nat).testBit b = true ↔ _
    rw [show (65535 : Nat) = 2 ^ 16 - 1 from rfl, Nat.testBit_two_pow_sub_one, decide_eq_true_eq]
    exact ⟨fun h => ⟨h, fun j hj => absurd hj (Nat.not_lt_zero j)⟩, fun h => h.1⟩
  | m + 1 => by
    rw [clo]
    by_cases ha : around F x m = true
    · rw [if_pos ha, Nat.testBit_and, Bool.and_eq_true, clo_bit]
      constructor
      · rintro ⟨⟨h1, h2⟩, h3⟩
        refine ⟨h1, fun j hj hj2 => ?_⟩
        by_cases e : j = m
        · subst e; exact h3
        · exact h2 j (by omega) hj2
      · rintro ⟨h1, h2⟩
        exact ⟨⟨h1, fun j hj hj2 => h2 j (by omega) hj2⟩, h2 m (by omega) ha⟩
    · rw [if_neg ha, clo_bit]
      constructor
      · rintro ⟨h1, h2⟩
        refine ⟨h1, fun j hj hj2 => ?_⟩
        by_cases e : j = m
        · subst e; exact absurd hj2 ha
        · exact h2 j (by omega) hj2
      · rintro ⟨h1, h2⟩
        exact ⟨h1, fun j hj hj2 => h2 j (by omega) hj2⟩
theorem around_iff {F : Nat → Nat} {x j : Nat} : around F x j = true ↔ ∀ b, x.testBit b = true → (F j).testBit b = true := by
  unfold around; rw [decide_eq_true_eq]; exact sub_iff
theorem bit16 {x b : Nat} (hx : x < 65536) (hb : x.testBit b = true) : b < 16 := by
  rcases Nat.lt_or_ge b 16 with h | h
  · exact h
  · have := Nat.testBit_lt_two_pow (Nat.lt_of_lt_of_le hx (Nat.pow_le_pow_right (n := 2) (by decide) h))
    rw [this] at hb; cases hb
theorem meet_facet {F : Nat → Nat} {m j : Nat} (hj : j < m) (h0 : F j ≠ 0) (hF : F j < 65536) : Meet F m (F j) := by
  refine ⟨h0, ⟨j, hj, around_iff.mpr fun b hb => hb⟩, ?_⟩
  apply Nat.eq_of_testBit_eq
  intro b
  rw [Bool.eq_iff_iff, clo_bit]
  constructor
  · rintro ⟨-, h2⟩; exact h2 j hj (around_iff.mpr fun b hb => hb)
  · intro hb; exact ⟨bit16 hF hb, fun k _ hk => around_iff.mp hk b hb⟩
theorem meet_and {F : Nat → Nat} {m j x : Nat} (hx : Meet F m x) (hj : j < m) (h0 : x &&& F j ≠ 0) : Meet F m (x &&& F j) := by
  obtain ⟨-, ⟨j0, hj0, ha⟩, hc⟩ := hx
  refine ⟨h0, ⟨j, hj, around_iff.mpr fun b hb => by rw [Nat.testBit_and, Bool.and_eq_true] at hb; exact hb.2⟩, ?_⟩
  apply Nat.eq_of_testBit_eq
  intro b
  rw [Bool.eq_iff_iff, clo_bit, Nat.testBit_and, Bool.and_eq_true]
  constructor
  · rintro ⟨h1, h2⟩
    refine ⟨?_, h2 j hj (around_iff.mpr fun b hb => by rw [Nat.testBit_and, Bool.and_eq_true] at hb; exact hb.2)⟩
    rw [← hc, clo_bit]
    refine ⟨h1, fun k hk hk2 => h2 k hk (around_iff.mpr fun c hb => ?_)⟩
    rw [Nat.testBit_and, Bool.and_eq_true] at hb
    exact around_iff.mp hk2 c hb.1
  · rintro ⟨h1, h2⟩
    rw [← hc, clo_bit] at h1
    refine ⟨h1.1, fun k hk hk2 => around_iff.mp hk2 b ?_⟩
    rw [Nat.testBit_and, Bool.and_eq_true]
    exact ⟨by rw [← hc, clo_bit]; exact h1, h2⟩
/-- whatever holds the facets, and with each of its sets the meets with facets, holds all meets -/
theorem meet_all {F : Nat → Nat} {m : Nat} {U : Nat → Prop} (hF16 : ∀ j, j < m → F j < 65536) (hF : ∀ j, j < m → U (F j)) (hU : ∀ y j, U y → j < m → y &&& F j ≠ 0 → U (y &&& F j)) {x : Nat} (hx : Meet F m x) : U x := by
  obtain ⟨h0, ⟨j0, hj0, ha⟩, hc⟩ := hx
  have key : ∀ k, k ≤ m → ∃ y, U y ∧ (∀ b, x.testBit b = true → y.testBit b = true) ∧ (∀ b, y.testBit b = true → ∀ j, j < k → around F x j = true → (F j).testBit b = true) ∧ ∀ b, y.testBit b = true → (F j0).testBit b = true := by
    intro k
    induction k with
    | zero => exact fun _ => ⟨F j0, hF j0 hj0, around_iff.mp ha, fun _ _ j hj => absurd hj (Nat.not_lt_zero j), fun _ hb => hb⟩
    | succ k ih =>
      intro hk
      obtain ⟨y, u1, u2, u3, u4⟩ := ih (by omega)
      by_cases hak : around F x k = true
      · have hne : y &&& F k ≠ 0 := by
          intro e
          refine h0 (Nat.eq_of_testBit_eq fun b => ?_)
          rw [Nat.zero_testBit]
          cases hb : x.testBit b with
          | false => rfl
          | true =>
            have := congrArg (fun z => z.testBit b) e
            simp only [Nat.testBit_and, Nat.zero_testBit, u2 b hb, around_iff.mp hak b hb] at this
            cases this
        refine ⟨y &&& F k, hU y k u1 (by omega) hne, fun b hb => ?_, fun b hb j hj hj2 => ?_, fun b hb => ?_⟩
        · rw [Nat.testBit_and, u2 b hb, around_iff.mp hak b hb]; rfl
        · rw [Nat.testBit_and, Bool.and_eq_true] at hb
          by_cases e : j = k
          · subst e; exact hb.2
          · exact u3 b hb.1 j (by omega) hj2
        · rw [Nat.testBit_and, Bool.and_eq_true] at hb
          exact u4 b hb.1
      · refine ⟨y, u1, u2, fun b hb j hj hj2 => ?_, u4⟩
        by_cases e : j = k
        · subst e; exact absurd hj2 hak
        · exact u3 b hb j (by omega) hj2
  obtain ⟨y, u1, u2, u3, u4⟩ := key m (Nat.le_refl _)
  have : y = x := by
    apply Nat.eq_of_testBit_eq
    intro b
    rw [Bool.eq_iff_iff]
    constructor
    · intro hb
      rw [← hc, clo_bit]
      refine ⟨?_, u3 b hb⟩
      have h1 := u4 b hb
      exact bit16 (hF16 j0 hj0) h1
    · exact u2 b
  rw [← this]; exact u1
section FF
variable {d i D m : Nat} {h h1 : qH} {F : Nat → Nat}
/-- what the geometry gives: meets that are no facets are of lesser kinds, and there are not too many -/
def ffG (F : Nat → Nat) (m D : Nat) : Prop := (∀ j k, j < m → k < m → F k &&& F j = F k → F k = F j) ∧ (∀ x, Meet F m x → (∀ j, j < m → x ≠ F j) → kindOf x < D - 1) ∧ ∀ (K L : Nat) (T : Nat → Nat), srt T L → (∀ k, k < L → Meet F m (T k) ∧ (∀ j, j < m → T k ≠ F j) ∧ kindOf (T k) = K) → L ≤ 208
def ffIn (M : Nat → Nat) (T : Nat → Nat → Nat) (y : Nat) : Prop := ∃ k, k < M (kindOf y) ∧ T (kindOf y) k = y
def ffOk (M : Nat → Nat) (T : Nat → Nat → Nat) (F : Nat → Nat) (u y j : Nat) : Prop := y = 0 ∨ y = u ∨ y = F j ∨ ffIn M T y
/-- the other bodies' faces stay -/
def ffO (h0 h' : qH) (i D : Nat) : Prop := (∀ x, x < 4 * i ∨ 4 * i + D ≤ x → hi h' 60 x = hi h0 60 x) ∧ ∀ x, x < 832 * i ∨ 832 * i + 832 ≤ x → hi h' 61 x = hi h0 61 x
def ffI (h0 h' : qH) (i D m : Nat) (F : Nat → Nat) (all : Nat) (M : Nat → Nat) (T : Nat → Nat → Nat) (U : Nat → Nat) : Prop :=
  Ch [60, 61, 69] [] h0 h' ∧ FaceV h' i M T ∧ (∀ k, k < all → hi h' 69 k = iN (U k) ∧ U k < 65536) ∧ (∀ k, k < m → U k = F k) ∧ (m ≤ all ∧ all ≤ m + (M 0 + M 1 + M 2)) ∧
  (∀ k, m ≤ k → k < all → Meet F m (U k) ∧ (∀ j, j < m → U k ≠ F j) ∧ ffIn M T (U k)) ∧
  (∀ K, K < D - 1 → srt (T K) (M K) ∧ ∀ k, k < M K → Meet F m (T K k) ∧ (∀ j, j < m → T K k ≠ F j) ∧ kindOf (T K k) = K ∧ ∃ k', k' < all ∧ U k' = T K k) ∧ (M (D - 1) = m ∧ ∀ k, k < m → T (D - 1) k = F k) ∧ ffO h0 h' i D
theorem addM_in {M : Nat → Nat} {T : Nat → Nat → Nat} {x y : Nat} : ffIn (addM M x) (addT M T x) y ↔ y = x ∨ ffIn M T y := by
  unfold ffIn addM addT
  by_cases e : kindOf y = kindOf x
  · simp only [if_pos e]
    exact insN_mem
  · simp only [if_neg e]
    exact ⟨Or.inr, fun z => z.elim (fun q => absurd (by rw [q]) e) id⟩
theorem pop_pos {x : Nat} (hx : x < 65536) (h0 : x ≠ 0) : 1 ≤ pop x 24 := by
  have : ∃ b, x.testBit b = true := by
    refine Classical.byContradiction fun hc => h0 (Nat.eq_of_testBit_eq fun b => ?_)
    rw [Nat.zero_testBit]
    cases hb : x.testBit b with
    | false => rfl
    | true => exact absurd ⟨b, hb⟩ hc
  obtain ⟨b, hb⟩ := this
  exact cntN_pos.mpr ⟨b, by have := bit16 hx hb; omega, hb⟩
set_option maxRecDepth 100000 in
set_option maxHeartbeats 16000000 in
theorem ff_step {all t j : Nat} {M : Nat → Nat} {T : Nat → Nat → Nat} {U : Nat → Nat} {x6 x7 : Option Value} (h0 : qH) (hi' : i < 24) (hD : 2 ≤ D ∧ D ≤ 4) (hd : hi h0 56 i = iN D) (hm : m ≤ 104) (hF : ∀ k, k < m → F k < 65536 ∧ F k ≠ 0) (g : ffG F m D) (I : ffI h0 h i D m F all M T U) (ht : t < all) (hj : j < m) (hx6 : qlong x6 = false) (hx7 : qlong x7 = false) :
    ∃ h' all' M' T' U' y6 y7, (∀ R, qEv (d + 3) 4 qk_213 51 [some (.ref 55), some (.int (iN i)), some (.int (iN all)), some (.int (iN m)), some (.int (iN t)), some (.int (iN j)), x6, x7] [] h R ↔ qEv (d + 3) 4 qk_213 51 [some (.ref 55), some (.int (iN i)), some (.int (iN all')), some (.int (iN m)), some (.int (iN t)), some (.int (iN (j + 1))), y6, y7] [] h' R) ∧ qlong y6 = false ∧ qlong y7 = false ∧
      ffI h0 h' i D m F all' M' T' U' ∧ all ≤ all' ∧ (∀ k, k < all → U' k = U k) ∧ (∀ y, ffIn M T y → ffIn M' T' y) ∧ ffOk M' T' F (U t) (U t &&& F j) j := by
  obtain ⟨ch, v, u, uF, ⟨a1, a2⟩, uM, tK, ⟨m1, m2⟩, oo⟩ := id I
  have s := ch.sh
  have d1 : hi h 56 i = iN D := by rw [ch.hi (by decide) (by decide)]; exact hd
  have v0 := (v 0 (by decide)).2.1
  have v1 := (v 1 (by decide)).2.1
  have v2 := (v 2 (by decide)).2.1
  have hall : all < 1000 := by omega
  have ut := u t ht
  have fj : hi h 61 (208 * (4 * i + (D - 1)) + j) = iN (F j) := by
    have := ((v (D - 1) (by omega)).2.2 j (by omega)).1
    rw [this, m2 j hj]
  have hb := (hF j hj).1
  have hxy : U t &&& F j < 65536 := Nat.lt_of_le_of_lt Nat.and_le_left ut.2
  have hso : 208 * (4 * i + (D - 1)) + j < 19968 := by omega
  have sf : ∀ R, qMC (d + 3) 198 [.ref 55, .int (iN i), .int (iN j)] h R ↔ R = (some (.int (iN (F j))), h) := by
    intro R
    rw [s_facet (d := d + 1) s hi' d1 (by omega) (by omega) hso, fj]
  obtain ⟨x, ex⟩ : ∃ x, x = U t &&& F j := ⟨_, rfl⟩
  rw [← ex] at hxy ⊢
  have fin0 : ∀ h2 all2, (∀ k, k < 1 → True) → ∀ R, qEv (d + 3) 4 qk_213 117 [some (.ref 55), some (.int (iN i)), some (.int (iN all2)), some (.int (iN m)), some (.int (iN t)), some (.int (iN j)), some (.int (iN x)), x7] [] h2 R ↔ qEv (d + 3) 4 qk_213 51 [some (.ref 55), some (.int (iN i)), some (.int (iN all2)), some (.int (iN m)), some (.int (iN t)), some (.int (iN (j + 1))), some (.int (iN x)), some (.int (iN 0))] [] h2 R := by
    intro h2 all2 _ R
    simp (disch := first | assumption | omega) only [e213_0, e213_1, e213_2, e213_3, e213_4, e213_7, e213_8, e213_9, e213_11, e213_13, e213_14, e213_17, e213_18, e213_21, e213_22, e213_23, e213_24, e213_26, e213_29, e213_30, e213_33, e213_36, e213_39, e213_40, e213_42, e213_44, e213_45, e213_48, e213_49, e213_53, e213_54, e213_57, e213_58, e213_61, e213_63, e213_64, e213_65, e213_66, e213_68, e213_71, e213_72, e213_74, e213_76, e213_79, e213_81, e213_82, e213_85, e213_87, e213_88, e213_91, e213_93, e213_94, e213_95, e213_97, e213_100, e213_103, e213_104, e213_105, e213_107, e213_110, e213_113, e213_114, e213_117, e213_118, e213_120, e213_122, e213_125, e213_126, e213_129, e213_130, e213_132, e213_133, e213_136, e213_139, e213_142, e213_145, e213_148, m213, ↓reduceIte, qg_0, qg_1, qg_2, qg_3, qg_4, qg_5, qg_6, qg_7, qg_8, qg_9, qg_10, qg_11, qg_12, qg_13, not_true_eq_false, not_false_eq_true, Nat.reduceBEq, Bool.false_eq_true, ex1, ex3, ex4, exF, qfit_i, qfit_l, qfit_r, qfit_n, qfit_b0, qfit_b1, qcat_i, qcat_r, qcat_n, qcat_l, qroom_0, qroom_c, List.map_cons, List.map_nil, List.sum_cons, List.sum_nil, Nat.reduceAdd, Nat.reduceMul, Nat.reduceLT, Nat.reduceLeDiff, Nat.reduceEqDiff, Nat.reduceSub, decide_true, true_and, and_true, and_self, if_true, if_false, Option.toList_some, Option.toList_none, List.cons_append, List.nil_append, qsL, qlong, List.length_cons, List.length_nil, iN_L, exI, iN_add]
  have pre : ∀ R, qEv (d + 3) 4 qk_213 51 [some (.ref 55), some (.int (iN i)), some (.int (iN all)), some (.int (iN m)), some (.int (iN t)), some (.int (iN j)), x6, x7] [] h R ↔ qEv (d + 3) 4 qk_213 74 [some (.ref 55), some (.int (iN i)), some (.int (iN all)), some (.int (iN m)), some (.int (iN t)), some (.int (iN j)), some (.int (iN x)), x7] [] h R := by
    intro R
    rw [e213_51]
    simp (disch := first | assumption | omega) only [e213_0, e213_1, e213_2, e213_3, e213_4, e213_7, e213_8, e213_9, e213_11, e213_13, e213_14, e213_17, e213_18, e213_21, e213_22, e213_23, e213_24, e213_26, e213_29, e213_30, e213_33, e213_36, e213_39, e213_40, e213_42, e213_44, e213_45, e213_48, e213_49, e213_53, e213_54, e213_57, e213_58, e213_61, e213_63, e213_64, e213_65, e213_66, e213_68, e213_71, e213_72, e213_76, e213_79, e213_81, e213_82, e213_85, e213_87, e213_88, e213_91, e213_93, e213_94, e213_95, e213_97, e213_100, e213_103, e213_104, e213_105, e213_107, e213_110, e213_113, e213_114, e213_117, e213_118, e213_120, e213_122, e213_125, e213_126, e213_129, e213_130, e213_132, e213_133, e213_136, e213_139, e213_142, e213_145, e213_148, m213, ↓reduceIte, qg_0, qg_1, qg_2, qg_3, qg_4, qg_5, qg_6, qg_7, qg_8, qg_9, qg_10, qg_11, qg_12, qg_13, not_true_eq_false, not_false_eq_true, Nat.reduceBEq, Bool.false_eq_true, ex1, ex3, ex4, exF, qfit_i, qfit_l, qfit_r, qfit_n, qfit_b0, qfit_b1, qcat_i, qcat_r, qcat_n, qcat_l, qroom_0, qroom_c, List.map_cons, List.map_nil, List.sum_cons, List.sum_nil, Nat.reduceAdd, Nat.reduceMul, Nat.reduceLT, Nat.reduceLeDiff, Nat.reduceEqDiff, Nat.reduceSub, decide_true, true_and, and_true, and_self, if_true, if_false, Option.toList_some, Option.toList_none, List.cons_append, List.nil_append, qsL, qlong, List.length_cons, List.length_nil, iN_L, iN_le, show ¬ m ≤ j by omega, gM_17, rM_69, ut.1, vM1, vM2, sf, iN_and, ← ex]
  by_cases c0 : x = 0
  · refine ⟨h, all, M, T, U, some (.int (iN x)), some (.int (iN 0)), fun R => ?_, rfl, rfl, I, Nat.le_refl _, fun _ _ => rfl, fun _ z => z, Or.inl c0⟩
    rw [pre R, ← fin0 h all (fun _ _ => trivial) R]
    simp (disch := first | assumption | omega) only [e213_0, e213_1, e213_2, e213_3, e213_4, e213_7, e213_8, e213_9, e213_11, e213_13, e213_14, e213_17, e213_18, e213_21, e213_22, e213_23, e213_24, e213_26, e213_29, e213_30, e213_33, e213_36, e213_39, e213_40, e213_42, e213_44, e213_45, e213_48, e213_49, e213_53, e213_54, e213_57, e213_58, e213_61, e213_63, e213_64, e213_65, e213_66, e213_68, e213_71, e213_72, e213_74, e213_76, e213_79, e213_81, e213_82, e213_85, e213_87, e213_88, e213_91, e213_93, e213_94, e213_95, e213_97, e213_100, e213_103, e213_104, e213_105, e213_107, e213_110, e213_113, e213_114, e213_118, e213_120, e213_122, e213_125, e213_126, e213_129, e213_130, e213_132, e213_133, e213_136, e213_139, e213_142, e213_145, e213_148, m213, ↓reduceIte, qg_0, qg_1, qg_2, qg_3, qg_4, qg_5, qg_6, qg_7, qg_8, qg_9, qg_10, qg_11, qg_12, qg_13, not_true_eq_false, not_false_eq_true, Nat.reduceBEq, Bool.false_eq_true, ex1, ex3, ex4, exF, qfit_i, qfit_l, qfit_r, qfit_n, qfit_b0, qfit_b1, qcat_i, qcat_r, qcat_n, qcat_l, qroom_0, qroom_c, List.map_cons, List.map_nil, List.sum_cons, List.sum_nil, Nat.reduceAdd, Nat.reduceMul, Nat.reduceLT, Nat.reduceLeDiff, Nat.reduceEqDiff, Nat.reduceSub, decide_true, true_and, and_true, and_self, if_true, if_false, Option.toList_some, Option.toList_none, List.cons_append, List.nil_append, qsL, qlong, List.length_cons, List.length_nil, iN_L, iN_eq, c0]
  by_cases c1 : x = U t
  · refine ⟨h, all, M, T, U, some (.int (iN x)), some (.int (iN 0)), fun R => ?_, rfl, rfl, I, Nat.le_refl _, fun _ _ => rfl, fun _ z => z, Or.inr (Or.inl c1)⟩
    rw [pre R, ← fin0 h all (fun _ _ => trivial) R]
    simp (disch := first | assumption | omega) only [e213_0, e213_1, e213_2, e213_3, e213_4, e213_7, e213_8, e213_9, e213_11, e213_13, e213_14, e213_17, e213_18, e213_21, e213_22, e213_23, e213_24, e213_26, e213_29, e213_30, e213_33, e213_36, e213_39, e213_40, e213_42, e213_44, e213_45, e213_48, e213_49, e213_53, e213_54, e213_57, e213_58, e213_61, e213_63, e213_64, e213_65, e213_66, e213_68, e213_71, e213_72, e213_74, e213_76, e213_79, e213_81, e213_82, e213_85, e213_87, e213_88, e213_91, e213_93, e213_94, e213_95, e213_97, e213_100, e213_103, e213_104, e213_105, e213_107, e213_110, e213_113, e213_114, e213_118, e213_120, e213_122, e213_125, e213_126, e213_129, e213_130, e213_132, e213_133, e213_136, e213_139, e213_142, e213_145, e213_148, m213, ↓reduceIte, qg_0, qg_1, qg_2, qg_3, qg_4, qg_5, qg_6, qg_7, qg_8, qg_9, qg_10, qg_11, qg_12, qg_13, not_true_eq_false, not_false_eq_true, Nat.reduceBEq, Bool.false_eq_true, ex1, ex3, ex4, exF, qfit_i, qfit_l, qfit_r, qfit_n, qfit_b0, qfit_b1, qcat_i, qcat_r, qcat_n, qcat_l, qroom_0, qroom_c, List.map_cons, List.map_nil, List.sum_cons, List.sum_nil, Nat.reduceAdd, Nat.reduceMul, Nat.reduceLT, Nat.reduceLeDiff, Nat.reduceEqDiff, Nat.reduceSub, decide_true, true_and, and_true, and_self, if_true, if_false, Option.toList_some, Option.toList_none, List.cons_append, List.nil_append, qsL, qlong, List.length_cons, List.length_nil, iN_L, iN_eq, c0, gM_17, rM_69, ut.1, ← c1]
  by_cases c2 : x = F j
  · refine ⟨h, all, M, T, U, some (.int (iN x)), some (.int (iN 0)), fun R => ?_, rfl, rfl, I, Nat.le_refl _, fun _ _ => rfl, fun _ z => z, Or.inr (Or.inr (Or.inl c2))⟩
    rw [pre R, ← fin0 h all (fun _ _ => trivial) R]
    have sf' : ∀ R, qMC (d + 3) 198 [.ref 55, .int (iN i), .int (iN j)] h R ↔ R = (some (.int (iN x)), h) := by rw [c2]; exact sf
    have utl := ut.2
    simp (disch := first | assumption | omega) only [e213_0, e213_1, e213_2, e213_3, e213_4, e213_7, e213_8, e213_9, e213_11, e213_13, e213_14, e213_17, e213_18, e213_21, e213_22, e213_23, e213_24, e213_26, e213_29, e213_30, e213_33, e213_36, e213_39, e213_40, e213_42, e213_44, e213_45, e213_48, e213_49, e213_53, e213_54, e213_57, e213_58, e213_61, e213_63, e213_64, e213_65, e213_66, e213_68, e213_71, e213_72, e213_74, e213_76, e213_79, e213_81, e213_82, e213_85, e213_87, e213_88, e213_91, e213_93, e213_94, e213_95, e213_97, e213_100, e213_103, e213_104, e213_105, e213_107, e213_110, e213_113, e213_114, e213_118, e213_120, e213_122, e213_125, e213_126, e213_129, e213_130, e213_132, e213_133, e213_136, e213_139, e213_142, e213_145, e213_148, m213, ↓reduceIte, qg_0, qg_1, qg_2, qg_3, qg_4, qg_5, qg_6, qg_7, qg_8, qg_9, qg_10, qg_11, qg_12, qg_13, not_true_eq_false, not_false_eq_true, Nat.reduceBEq, Bool.false_eq_true, ex1, ex3, ex4, exF, qfit_i, qfit_l, qfit_r, qfit_n, qfit_b0, qfit_b1, qcat_i, qcat_r, qcat_n, qcat_l, qroom_0, qroom_c, List.map_cons, List.map_nil, List.sum_cons, List.sum_nil, Nat.reduceAdd, Nat.reduceMul, Nat.reduceLT, Nat.reduceLeDiff, Nat.reduceEqDiff, Nat.reduceSub, decide_true, true_and, and_true, and_self, if_true, if_false, Option.toList_some, Option.toList_none, List.cons_append, List.nil_append, qsL, qlong, List.length_cons, List.length_nil, iN_L, iN_eq, c0, gM_17, rM_69, ut.1, c1, vM1, vM2, sf']
  have utl := ut.2
  have mt : Meet F m (U t) := by
    by_cases q : t < m
    · rw [uF t q]; exact meet_facet q (hF t q).2 (hF t q).1
    · exact (uM t (by omega) ht).1
  have mx : Meet F m x := by rw [ex]; exact meet_and mt hj (by rw [← ex]; exact c0)
  have nf : ∀ k, k < m → x ≠ F k := by
    intro k hk e
    have h9 : F k &&& F j = F k := by
      rw [← e, ex, Nat.and_assoc, Nat.and_self]
    exact c2 (e.trans (g.1 j k hj hk h9))
  have kx := g.2.1 x mx nf
  have hp := pop_pos hxy c0
  have hk2 := kind_le x
  have vx := v (kindOf x) (by omega)
  have P := s_putFace (d := d + 1) s hi' hxy hp vx.1 vx.2.1 vx.2.2
  by_cases hin : ∃ k, k < M (kindOf x) ∧ T (kindOf x) k = x
  · refine ⟨h, all, M, T, U, some (.int (iN x)), some (.int (iN 0)), fun R => ?_, rfl, rfl, I, Nat.le_refl _, fun _ _ => rfl, fun _ z => z, Or.inr (Or.inr (Or.inr hin))⟩
    rw [pre R, ← fin0 h all (fun _ _ => trivial) R]
    have P1 : ∀ R, qMC (d + 3) 212 [.ref 55, .int (iN i), .int (iN x)] h R ↔ R = (some (.int 0), h) := P.1 hin
    simp (disch := first | assumption | omega) only [e213_0, e213_1, e213_2, e213_3, e213_4, e213_7, e213_8, e213_9, e213_11, e213_13, e213_14, e213_17, e213_18, e213_21, e213_22, e213_23, e213_24, e213_26, e213_29, e213_30, e213_33, e213_36, e213_39, e213_40, e213_42, e213_44, e213_45, e213_48, e213_49, e213_53, e213_54, e213_57, e213_58, e213_61, e213_63, e213_64, e213_65, e213_66, e213_68, e213_71, e213_72, e213_74, e213_76, e213_79, e213_81, e213_82, e213_85, e213_87, e213_88, e213_91, e213_93, e213_94, e213_95, e213_97, e213_100, e213_103, e213_104, e213_105, e213_107, e213_110, e213_113, e213_114, e213_118, e213_120, e213_122, e213_125, e213_126, e213_129, e213_130, e213_132, e213_133, e213_136, e213_139, e213_142, e213_145, e213_148, m213, ↓reduceIte, qg_0, qg_1, qg_2, qg_3, qg_4, qg_5, qg_6, qg_7, qg_8, qg_9, qg_10, qg_11, qg_12, qg_13, not_true_eq_false, not_false_eq_true, Nat.reduceBEq, Bool.false_eq_true, ex1, ex3, ex4, exF, qfit_i, qfit_l, qfit_r, qfit_n, qfit_b0, qfit_b1, qcat_i, qcat_r, qcat_n, qcat_l, qroom_0, qroom_c, List.map_cons, List.map_nil, List.sum_cons, List.sum_nil, Nat.reduceAdd, Nat.reduceMul, Nat.reduceLT, Nat.reduceLeDiff, Nat.reduceEqDiff, Nat.reduceSub, decide_true, true_and, and_true, and_self, if_true, if_false, Option.toList_some, Option.toList_none, List.cons_append, List.nil_append, qsL, qlong, List.length_cons, List.length_nil, iN_L, iN_eq, c0, gM_17, rM_69, ut.1, c1, c2, vM1, vM2, sf, P1]
  · have hin' : ∀ k, k < M (kindOf x) → T (kindOf x) k ≠ x := fun k hk e => hin ⟨k, hk, e⟩
    have tx := tK (kindOf x) kx
    have hlt : M (kindOf x) < 208 := by
      refine g.2.2 (kindOf x) (M (kindOf x) + 1) (insN (T (kindOf x)) x (M (kindOf x))) (insN_srt tx.1 hin') fun k hk => ?_
      rcases insN_mem.mp ⟨k, hk, rfl⟩ with e | ⟨k', h1, h2⟩
      · rw [e]; exact ⟨mx, nf, rfl⟩
      · rw [← h2]; have := tx.2 k' h1; exact ⟨this.1, this.2.1, this.2.2.1⟩
    obtain ⟨h2, r2', ch2, e60, e61⟩ := P.2 hlt hin'
    have P1 : ∀ R, qMC (d + 3) 212 [.ref 55, .int (iN i), .int (iN x)] h R ↔ R = (some (.int 1), h2) := r2'
    have s2 := ch2.sh
    have k69 := kM_69 s2
    have e69 : hi h2 69 = hi h 69 := ch2.hi (by decide) (by decide)
    refine ⟨sI h2 69 (upd (hi h2 69) all (iN x)), all + 1, addM M x, addT M T x, fun k => if k = all then x else U k, some (.int (iN x)), some (.int (iN 1)), fun R => ?_, rfl, rfl, ?_, by omega, fun k hk => if_neg (by omega), fun y z => addM_in.mpr (Or.inr z), Or.inr (Or.inr (Or.inr (addM_in.mpr (Or.inl rfl))))⟩
    · rw [pre R]
      simp (disch := first | assumption | omega) only [e213_0, e213_1, e213_2, e213_3, e213_4, e213_7, e213_8, e213_9, e213_11, e213_13, e213_14, e213_17, e213_18, e213_21, e213_22, e213_23, e213_24, e213_26, e213_29, e213_30, e213_33, e213_36, e213_39, e213_40, e213_42, e213_44, e213_45, e213_48, e213_49, e213_53, e213_54, e213_57, e213_58, e213_61, e213_63, e213_64, e213_65, e213_66, e213_68, e213_71, e213_72, e213_74, e213_76, e213_79, e213_81, e213_82, e213_85, e213_87, e213_88, e213_91, e213_93, e213_94, e213_95, e213_97, e213_100, e213_103, e213_104, e213_105, e213_107, e213_110, e213_113, e213_114, e213_117, e213_118, e213_120, e213_122, e213_125, e213_126, e213_129, e213_130, e213_132, e213_133, e213_136, e213_139, e213_142, e213_145, e213_148, m213, ↓reduceIte, qg_0, qg_1, qg_2, qg_3, qg_4, qg_5, qg_6, qg_7, qg_8, qg_9, qg_10, qg_11, qg_12, qg_13, not_true_eq_false, not_false_eq_true, Nat.reduceBEq, Bool.false_eq_true, ex1, ex3, ex4, exF, qfit_i, qfit_l, qfit_r, qfit_n, qfit_b0, qfit_b1, qcat_i, qcat_r, qcat_n, qcat_l, qroom_0, qroom_c, List.map_cons, List.map_nil, List.sum_cons, List.sum_nil, Nat.reduceAdd, Nat.reduceMul, Nat.reduceLT, Nat.reduceLeDiff, Nat.reduceEqDiff, Nat.reduceSub, decide_true, true_and, and_true, and_self, if_true, if_false, Option.toList_some, Option.toList_none, List.cons_append, List.nil_append, qsL, qlong, List.length_cons, List.length_nil, iN_L, iN_eq, c0, gM_17, rM_69, ut.1, c1, c2, vM1, vM2, sf, P1, Nat.one_ne_zero, wM_69, exI, iN_add]
    · have fv := FaceV.add v hxy hlt e60 e61
      refine ⟨(ch.trans (ch2.mono (by decide) (by decide))).trans (Ch.rowI s2 k69 (by decide)), ?_, ?_, ?_, ⟨by omega, ?_⟩, ?_, ?_, ?_, ?_⟩
      · intro K hK
        rw [hi_sI, if_neg (by decide), hi_sI, if_neg (by decide)]
        exact fv K hK
      · intro k hk
        rw [hi_sI, if_pos rfl, upd_at, e69]
        show _ = iN (if k = all then x else U k) ∧ (if k = all then x else U k) < 65536
        by_cases e : k = all
        · rw [if_pos e, if_pos e]; exact ⟨rfl, hxy⟩
        · rw [if_neg e, if_neg e]; exact u k (by omega)
      · intro k hk
        show (if k = all then x else U k) = F k
        rw [if_neg (by omega)]; exact uF k hk
      · show all + 1 ≤ m + ((if 0 = kindOf x then M 0 + 1 else M 0) + (if 1 = kindOf x then M 1 + 1 else M 1) + (if 2 = kindOf x then M 2 + 1 else M 2))
        have h3 : kindOf x = 0 ∨ kindOf x = 1 ∨ kindOf x = 2 := by omega
        rcases h3 with e | e | e <;> rw [e] <;> simp <;> omega
      · intro k hk1 hk2
        show Meet F m (if k = all then x else U k) ∧ (∀ j, j < m → (if k = all then x else U k) ≠ F j) ∧ ffIn _ _ (if k = all then x else U k)
        by_cases e : k = all
        · rw [if_pos e]; exact ⟨mx, nf, addM_in.mpr (Or.inl rfl)⟩
        · rw [if_neg e]
          obtain ⟨q1, q2, q3⟩ := uM k hk1 (by omega)
          exact ⟨q1, q2, addM_in.mpr (Or.inr q3)⟩
      · intro K hK
        have q := tK K hK
        show srt (if K = kindOf x then insN (T K) x (M K) else T K) (if K = kindOf x then M K + 1 else M K) ∧ ∀ k, k < (if K = kindOf x then M K + 1 else M K) → Meet F m ((if K = kindOf x then insN (T K) x (M K) else T K) k) ∧ (∀ j, j < m → (if K = kindOf x then insN (T K) x (M K) else T K) k ≠ F j) ∧ kindOf ((if K = kindOf x then insN (T K) x (M K) else T K) k) = K ∧ ∃ k', k' < all + 1 ∧ (if k' = all then x else U k') = (if K = kindOf x then insN (T K) x (M K) else T K) k
        by_cases e : K = kindOf x
        · rw [if_pos e, if_pos e]
          subst e
          refine ⟨insN_srt q.1 hin', fun k hk => ?_⟩
          rcases insN_mem.mp ⟨k, hk, rfl⟩ with e | ⟨k', h1, h2⟩
          · rw [e]; exact ⟨mx, nf, rfl, all, by omega, if_pos rfl⟩
          · rw [← h2]
            obtain ⟨w1, w2, w3, k3, w4, w5⟩ := q.2 k' h1
            exact ⟨w1, w2, w3, k3, by omega, by rw [if_neg (by omega)]; exact w5⟩
        · rw [if_neg e, if_neg e]
          refine ⟨q.1, fun k hk => ?_⟩
          obtain ⟨w1, w2, w3, k3, w4, w5⟩ := q.2 k hk
          exact ⟨w1, w2, w3, k3, by omega, by rw [if_neg (by omega)]; exact w5⟩
      · show (if D - 1 = kindOf x then M (D - 1) + 1 else M (D - 1)) = m ∧ ∀ k, k < m → (if D - 1 = kindOf x then insN (T (D - 1)) x (M (D - 1)) else T (D - 1)) k = F k
        rw [if_neg (by omega), if_neg (by omega)]
        exact ⟨m1, m2⟩
      · refine ⟨fun y hy => ?_, fun y hy => ?_⟩
        · rw [hi_sI, if_neg (by decide), e60, upd_at, if_neg (by omega)]; exact oo.1 y hy
        · rw [hi_sI, if_neg (by decide), e61, insI_out (by omega)]; exact oo.2 y hy
end FF

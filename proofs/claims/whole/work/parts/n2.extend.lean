/-! ===== THE CLASS: fits, extend ===== -/
section XEXTEND
variable {d n lim gr : Nat} {h : qH} {R : qRes} {A B : List Nat} {o st cp : Nat → Nat}
theorem wtN_le (x : Nat) : wtN x ≤ 1576 := by
  unfold wtN
  have := pop_le x 24
  have := Nat.mul_le_mul this this
  omega
theorem shN_le (L : List Nat) (a b : Nat) : ∀ k, shN L a b k ≤ k * 1576
  | 0 => Nat.le_refl _
  | k + 1 => by
    have h1 := shN_le L a b k
    have h2 := wtN_le (L.getD k 0)
    rw [shN, Nat.succ_mul]
    generalize k * 1576 = Z at h1 ⊢
    split
    · exact Nat.add_le_add h1 h2
    · exact Nat.le_trans h1 (Nat.le_add_right _ _)
theorem imS_16 {f : Nat → Nat} {x : Nat} (h : ∀ c, x.testBit c = true → f c < 16) : imS f x 16 < 65536 := Nat.lt_pow_two_of_testBit (n := 16) _ fun b hb => by
  cases q : (imS f x 16).testBit b with
  | false => rfl
  | true =>
    obtain ⟨c, -, h2, h3⟩ := imS_bit.mp q
    have := h c h2
    omega
/-- all that a search reads -/
def OrV (g : qH) (n lim gr : Nat) (A B : List Nat) (o st cp : Nat → Nat) : Prop := (n ≤ 16 ∧ A.length ≤ 104 ∧ B.length = A.length) ∧ ((∀ e, e < n → hi g 34 e = iN (o e)) ∧ (∀ e, e ≤ n → hi g 37 e = iN (st e)) ∧ ∀ t, t < st n → hi g 36 t = iN (cp t)) ∧ ((∀ a b, a < 16 → b < 16 → hi g 32 (a * 16 + b) = iN (shN A a b A.length)) ∧ ∀ a b, a < 16 → b < 16 → hi g 33 (a * 16 + b) = iN (shN B a b A.length)) ∧ xi g 30 2 = iN n ∧ (xi g 30 6 = iN lim ∧ lim ≤ 1000000) ∧ GoX g gr B
theorem OrV.ch {g g' : qH} (v : OrV g n lim gr A B o st cp) (c : ChX [35] [] 0 g g') (s : ShX g) (hg : gr ≠ 35) (hx : gr ∉ XO) : OrV g' n lim gr A B o st cp := by
  obtain ⟨v1, ⟨v2, v3, v4⟩, ⟨v5, v6⟩, v7, ⟨v8, v9⟩, v10⟩ := v
  have e : ∀ a, a ≠ 35 → a ∉ XO → a < 97 → hi g' a = hi g a := fun a h1 h2 h3 => c.hi (fun z => h1 (List.mem_singleton.mp z)) h2 (s.lt h3)
  refine ⟨v1, ⟨?_, ?_, ?_⟩, ⟨?_, ?_⟩, (c.xi (by decide) (by intro z; cases z)).trans v7, ⟨(c.xi (by decide) (by intro z; cases z)).trans v8, v9⟩, ?_⟩
  · rw [e 34 (by decide) (by decide) (by decide)]; exact v2
  · rw [e 37 (by decide) (by decide) (by decide)]; exact v3
  · rw [e 36 (by decide) (by decide) (by decide)]; exact v4
  · rw [e 32 (by decide) (by decide) (by decide)]; exact v5
  · rw [e 33 (by decide) (by decide) (by decide)]; exact v6
  · obtain ⟨g1, g2, g3, g4, g5⟩ := v10
    have ea := c.at (fun z => hg (List.mem_singleton.mp z)) hx g2.1.2.2
    exact ⟨(c.hf (by decide) (by intro z; cases z)).trans g1, g2.sm c.1.2.1 ea, g3, fun k hk => by rw [hi_at ea]; exact g4 k hk, g5⟩
set_option maxRecDepth 100000 in
set_option maxHeartbeats 32000000 in
theorem x_fits {r : Nat → Nat} {dd c : Nat} (s : ShX h) (v : OrV h n lim gr A B o st cp) (O : ordP n A o st cp) (hA : ∀ x, x ∈ A → x < 65536) (hg : gr ≠ 35) (hx : gr ∉ XO) (hd : dd < n) (hc : c < n) (im : ∀ e, e < dd → hi h 35 (o e) = iN (r (o e)) ∧ r (o e) < n) : ∃ h', (∀ R, qMC (d + 4) 57 [.ref 30, .int (iN dd), .int (iN c)] h R ↔ R = (some (.int (bB (tB (fitP A B o (updR r (o dd) c) st cp dd)))), h')) ∧ ChX [35] [] 0 h h' ∧ ∀ e, e < dd + 1 → hi h' 35 (o e) = iN (updR r (o dd) c (o e)) := by
  obtain ⟨⟨n16, l104, lB'⟩, ⟨v2, v3, v4⟩, ⟨v5, v6⟩, v7, v8, v10⟩ := id v
  obtain ⟨O1, O2, O3, O4, O5, O6⟩ := id O
  have od := O1 dd hd
  obtain ⟨r', er'⟩ : ∃ r', r' = updR r (o dd) c := ⟨_, rfl⟩
  obtain ⟨h1, e1⟩ : ∃ h1, h1 = sI h 35 (upd (hi h 35) (o dd) (iN c)) := ⟨_, rfl⟩
  have w1 : qiast h 35 (iN (o dd)) (iN c) = some h1 := by rw [e1]; exact wX_35 s (by omega)
  have c1 : ChX [35] [] 0 h h1 := by rw [e1]; exact ChX.rowI s (kX_35 s) (by decide) (by decide)
  have s1 := c1.sh
  have vv := v.ch c1 s hg hx
  obtain ⟨-, ⟨u2, u3, u4⟩, ⟨u5, u6⟩, u7, u8, u10⟩ := id vv
  have im1 : ∀ e, e < dd + 1 → hi h1 35 (o e) = iN (r' (o e)) ∧ r' (o e) < n := fun e he => by
    rw [e1, hi_sI, if_pos rfl, upd_at, er', updR_at]
    by_cases z : e = dd
    · rw [z, if_pos rfl, if_pos rfl]; exact ⟨rfl, hc⟩
    · have ne := O2 e dd (by omega) hd
      rw [if_neg ne, if_neg ne]; exact im e (by omega)
  have rod : r' (o dd) = c := by rw [er', updR_at, if_pos rfl]
  rw [← er']
  refine ⟨h1, fun R => ?_, c1, fun e he => (im1 e he).1⟩
  have odr : qiald h 34 (iN dd) = some (iN (o dd)) := by rw [rX_34 s (by omega), v2 dd hd]
  have r0 : qMC (d + 4) 57 [.ref 30, .int (iN dd), .int (iN c)] h R ↔ qEv (d + 3) 3 qk_57 17 [some (.ref 30), some (.int (iN dd)), some (.int (iN c)), some (.int (iN (o dd))), some (.int (iN 0)), none] [] h1 R := by
    simp (disch := first | assumption | omega) only [e57_0, e57_1, e57_4, e57_5, e57_6, e57_7, e57_8, e57_11, e57_12, e57_13, e57_14, e57_15, e57_19, e57_20, e57_23, e57_24, e57_27, e57_29, e57_30, e57_32, e57_33, e57_36, e57_37, e57_39, e57_40, e57_42, e57_43, e57_44, e57_45, e57_48, e57_49, e57_51, e57_52, e57_53, e57_56, e57_58, e57_59, e57_60, e57_61, e57_64, e57_65, e57_66, e57_69, e57_72, e57_73, e57_76, e57_77, e57_78, e57_80, e57_82, e57_83, e57_86, e57_87, e57_88, e57_89, e57_90, e57_93, e57_94, e57_95, e57_96, e57_99, e57_101, e57_102, e57_105, e57_108, e57_111, e57_112, e57_113, e57_116, e57_119, e57_120, m57, ↓reduceIte, qg_0, qg_1, qg_2, qg_3, qg_4, qg_5, qg_6, qg_7, qg_8, qg_9, qg_10, qg_11, qg_12, qg_13, not_true_eq_false, not_false_eq_true, Nat.reduceBEq, Bool.false_eq_true, ex1, ex3, ex4, exF, qfit_i, qfit_l, qfit_r, qfit_n, qfit_b0, qfit_b1, qcat_i, qcat_r, qcat_n, qcat_l, qroom_0, qroom_c, List.map_cons, List.map_nil, List.sum_cons, List.sum_nil, Nat.reduceAdd, Nat.reduceMul, Nat.reduceLT, Nat.reduceLeDiff, Nat.reduceEqDiff, Nat.reduceSub, decide_true, true_and, and_true, and_self, if_true, if_false, Option.toList_some, Option.toList_none, List.cons_append, List.nil_append, qsL, qlong, List.length_cons, List.length_nil, iN_L, exI, iN_add, iN_mul, iN_le, iN_lt, iN_eq, Nat.le_refl, qfN0, qfN1, uX_16, vX_16, uX_19, vX_19, uX_27, vX_27, uX_30, vX_30, uX_39, vX_39, uX_41, vX_41, uX_43, vX_43, uX_46, vX_46, uX_50, vX_50, uX_53, vX_53, gX_30_7, odr, gX_30_8, w1]
  have l2 : ∀ (w t : Nat) (x5 : Option Value), t + w = st (dd + 1) → st dd ≤ t → (∀ t', st dd ≤ t' → t' < t → imS r' (cp t') 16 ∈ B) → (qEv (d + 3) 3 qk_57 80 [some (.ref 30), some (.int (iN dd)), some (.int (iN c)), some (.int (iN (o dd))), some (.int (iN t)), x5] [] h1 R ↔ R = (some (.int (bB (tB (∀ t, st dd ≤ t → t < st (dd + 1) → imS r' (cp t) 16 ∈ B)))), h1)) := by
    intro w
    have rs : qiald h1 37 (iN (dd + 1)) = some (iN (st (dd + 1))) := by rw [rX_37 s1 (by omega), u3 (dd + 1) (by omega)]
    have b1 := O3 (dd + 1) (by omega)
    induction w with
    | zero =>
      intro t x5 ht hst hall
      rw [tB_t (fun t' h1 h2 => hall t' h1 (by omega)), bN_t, e57_80]
      simp (disch := first | assumption | omega) only [e57_0, e57_1, e57_4, e57_5, e57_6, e57_7, e57_8, e57_11, e57_12, e57_13, e57_14, e57_15, e57_19, e57_20, e57_23, e57_24, e57_27, e57_29, e57_30, e57_32, e57_33, e57_36, e57_37, e57_39, e57_40, e57_42, e57_43, e57_44, e57_45, e57_48, e57_49, e57_51, e57_52, e57_53, e57_56, e57_58, e57_59, e57_60, e57_61, e57_64, e57_65, e57_66, e57_69, e57_72, e57_73, e57_76, e57_77, e57_78, e57_82, e57_83, e57_86, e57_87, e57_88, e57_89, e57_90, e57_93, e57_94, e57_95, e57_96, e57_99, e57_101, e57_102, e57_105, e57_108, e57_111, e57_112, e57_113, e57_116, e57_119, e57_120, m57, ↓reduceIte, qg_0, qg_1, qg_2, qg_3, qg_4, qg_5, qg_6, qg_7, qg_8, qg_9, qg_10, qg_11, qg_12, qg_13, not_true_eq_false, not_false_eq_true, Nat.reduceBEq, Bool.false_eq_true, ex1, ex3, ex4, exF, qfit_i, qfit_l, qfit_r, qfit_n, qfit_b0, qfit_b1, qcat_i, qcat_r, qcat_n, qcat_l, qroom_0, qroom_c, List.map_cons, List.map_nil, List.sum_cons, List.sum_nil, Nat.reduceAdd, Nat.reduceMul, Nat.reduceLT, Nat.reduceLeDiff, Nat.reduceEqDiff, Nat.reduceSub, decide_true, true_and, and_true, and_self, if_true, if_false, Option.toList_some, Option.toList_none, List.cons_append, List.nil_append, qsL, qlong, List.length_cons, List.length_nil, iN_L, exI, iN_add, iN_mul, iN_le, iN_lt, iN_eq, Nat.le_refl, qfN0, qfN1, uX_16, vX_16, uX_19, vX_19, uX_27, vX_27, uX_30, vX_30, uX_39, vX_39, uX_41, vX_41, uX_43, vX_43, uX_46, vX_46, uX_50, vX_50, uX_53, vX_53, gX_30_10, rs, show st (dd + 1) ≤ t by omega]
    | succ w ih =>
      intro t x5 ht hst hall
      obtain ⟨q1, q2⟩ := O5 dd t hd hst (by omega)
      have stn : st (dd + 1) ≤ st n := by
        have : ∀ k, dd + 1 + k ≤ n → st (dd + 1) ≤ st (dd + 1 + k) := by
          intro k
          induction k with
          | zero => intro _; exact Nat.le_refl _
          | succ k ih => intro hk; have h1 := ih (by omega); have h2 := O4 (dd + 1 + k) (by omega); rw [show dd + 1 + (k + 1) = dd + 1 + k + 1 from rfl]; omega
        have := this (n - (dd + 1)) (by omega)
        rw [show dd + 1 + (n - (dd + 1)) = n by omega] at this
        exact this
      have rc : qiald h1 36 (iN t) = some (iN (cp t)) := by rw [rX_36 s1 (by omega), u4 t (by omega)]
      have x16 := hA _ q1
      have fc : ∀ c', (cp t).testBit c' = true → hi h1 35 c' = iN (r' c') ∧ r' c' < 16 := fun c' h' => by
        obtain ⟨e, he, ec⟩ := q2 c' h'
        rw [ec]
        have := im1 e (by omega)
        exact ⟨this.1, by omega⟩
      have rn : ∀ R, qMC (d + 3) 58 [.ref 30, .int (iN (cp t))] h1 R ↔ R = (some (.int (iN (imS r' (cp t) 16))), h1) := fun R => x_renamed s1 x16 fc
      have ib := imS_16 fun c' h' => (fc c' h').2
      have ig : ∀ R, qMC (d + 3) 59 [.ref 30, .int (iN (imS r' (cp t) 16))] h1 R ↔ R = (some (.int (bB (decide (imS r' (cp t) 16 ∈ B)))), h1) := fun R => x_isGoal (d := d + 2) s1 u10 (by omega)
      by_cases z : imS r' (cp t) 16 ∈ B
      · rw [decide_eq_true z, bN_t] at ig
        rw [← ih (t + 1) x5 (by omega) (by omega) (fun t' h1 h2 => by
          rcases Nat.lt_or_ge t' t with y | y
          · exact hall t' h1 y
          · rw [show t' = t by omega]; exact z), e57_80]
        simp (disch := first | assumption | omega) only [e57_0, e57_1, e57_4, e57_5, e57_6, e57_7, e57_8, e57_11, e57_12, e57_13, e57_14, e57_15, e57_19, e57_20, e57_23, e57_24, e57_27, e57_29, e57_30, e57_32, e57_33, e57_36, e57_37, e57_39, e57_40, e57_42, e57_43, e57_44, e57_45, e57_48, e57_49, e57_51, e57_52, e57_53, e57_56, e57_58, e57_59, e57_60, e57_61, e57_64, e57_65, e57_66, e57_69, e57_72, e57_73, e57_76, e57_77, e57_78, e57_82, e57_83, e57_86, e57_87, e57_88, e57_89, e57_90, e57_93, e57_94, e57_95, e57_96, e57_99, e57_101, e57_102, e57_105, e57_108, e57_111, e57_112, e57_113, e57_116, e57_119, e57_120, m57, ↓reduceIte, qg_0, qg_1, qg_2, qg_3, qg_4, qg_5, qg_6, qg_7, qg_8, qg_9, qg_10, qg_11, qg_12, qg_13, not_true_eq_false, not_false_eq_true, Nat.reduceBEq, Bool.false_eq_true, ex1, ex3, ex4, exF, qfit_i, qfit_l, qfit_r, qfit_n, qfit_b0, qfit_b1, qcat_i, qcat_r, qcat_n, qcat_l, qroom_0, qroom_c, List.map_cons, List.map_nil, List.sum_cons, List.sum_nil, Nat.reduceAdd, Nat.reduceMul, Nat.reduceLT, Nat.reduceLeDiff, Nat.reduceEqDiff, Nat.reduceSub, decide_true, true_and, and_true, and_self, if_true, if_false, Option.toList_some, Option.toList_none, List.cons_append, List.nil_append, qsL, qlong, List.length_cons, List.length_nil, iN_L, exI, iN_add, iN_mul, iN_le, iN_lt, iN_eq, Nat.le_refl, qfN0, qfN1, uX_16, vX_16, uX_19, vX_19, uX_27, vX_27, uX_30, vX_30, uX_39, vX_39, uX_41, vX_41, uX_43, vX_43, uX_46, vX_46, uX_50, vX_50, uX_53, vX_53, gX_30_10, rs, show ¬ st (dd + 1) ≤ t by omega, gX_30_9, rc, rn, ig]
      · rw [decide_eq_false z, bN_f] at ig
        rw [tB_f (fun y => z (y t hst (by omega))), bN_f, e57_80]
        simp (disch := first | assumption | omega) only [e57_0, e57_1, e57_4, e57_5, e57_6, e57_7, e57_8, e57_11, e57_12, e57_13, e57_14, e57_15, e57_19, e57_20, e57_23, e57_24, e57_27, e57_29, e57_30, e57_32, e57_33, e57_36, e57_37, e57_39, e57_40, e57_42, e57_43, e57_44, e57_45, e57_48, e57_49, e57_51, e57_52, e57_53, e57_56, e57_58, e57_59, e57_60, e57_61, e57_64, e57_65, e57_66, e57_69, e57_72, e57_73, e57_76, e57_77, e57_78, e57_82, e57_83, e57_86, e57_87, e57_88, e57_89, e57_90, e57_93, e57_94, e57_95, e57_96, e57_99, e57_101, e57_102, e57_105, e57_108, e57_111, e57_112, e57_113, e57_116, e57_119, e57_120, m57, ↓reduceIte, qg_0, qg_1, qg_2, qg_3, qg_4, qg_5, qg_6, qg_7, qg_8, qg_9, qg_10, qg_11, qg_12, qg_13, not_true_eq_false, not_false_eq_true, Nat.reduceBEq, Bool.false_eq_true, ex1, ex3, ex4, exF, qfit_i, qfit_l, qfit_r, qfit_n, qfit_b0, qfit_b1, qcat_i, qcat_r, qcat_n, qcat_l, qroom_0, qroom_c, List.map_cons, List.map_nil, List.sum_cons, List.sum_nil, Nat.reduceAdd, Nat.reduceMul, Nat.reduceLT, Nat.reduceLeDiff, Nat.reduceEqDiff, Nat.reduceSub, decide_true, true_and, and_true, and_self, if_true, if_false, Option.toList_some, Option.toList_none, List.cons_append, List.nil_append, qsL, qlong, List.length_cons, List.length_nil, iN_L, exI, iN_add, iN_mul, iN_le, iN_lt, iN_eq, Nat.le_refl, qfN0, qfN1, uX_16, vX_16, uX_19, vX_19, uX_27, vX_27, uX_30, vX_30, uX_39, vX_39, uX_41, vX_41, uX_43, vX_43, uX_46, vX_46, uX_50, vX_50, uX_53, vX_53, gX_30_10, rs, show ¬ st (dd + 1) ≤ t by omega, gX_30_9, rc, rn, ig]
  have l1 : ∀ (w e : Nat) (x5 : Option Value), e + w = dd + 1 → (∀ e', e' < e → shN A (o dd) (o e') A.length = shN B (r' (o dd)) (r' (o e')) A.length) → (qEv (d + 3) 3 qk_57 17 [some (.ref 30), some (.int (iN dd)), some (.int (iN c)), some (.int (iN (o dd))), some (.int (iN e)), x5] [] h1 R ↔ R = (some (.int (bB (tB (fitP A B o r' st cp dd)))), h1)) := by
    intro w
    induction w with
    | zero =>
      intro e x5 he hall
      have fe : fitP A B o r' st cp dd = (∀ t, st dd ≤ t → t < st (dd + 1) → imS r' (cp t) 16 ∈ B) := propext ⟨fun z => z.2, fun z => ⟨fun e' h' => hall e' (by omega), z⟩⟩
      have rs : qiald h1 37 (iN dd) = some (iN (st dd)) := by rw [rX_37 s1 (by omega), u3 dd (by omega)]
      have mo := O4 dd hd
      rw [fe, ← l2 (st (dd + 1) - st dd) (st dd) x5 (by omega) (Nat.le_refl _) (fun t' h1 h2 => by omega), e57_17]
      simp (disch := first | assumption | omega) only [e57_0, e57_1, e57_4, e57_5, e57_6, e57_7, e57_8, e57_11, e57_12, e57_13, e57_14, e57_15, e57_19, e57_20, e57_23, e57_24, e57_27, e57_29, e57_30, e57_32, e57_33, e57_36, e57_37, e57_39, e57_40, e57_42, e57_43, e57_44, e57_45, e57_48, e57_49, e57_51, e57_52, e57_53, e57_56, e57_58, e57_59, e57_60, e57_61, e57_64, e57_65, e57_66, e57_69, e57_72, e57_73, e57_76, e57_77, e57_78, e57_82, e57_83, e57_86, e57_87, e57_88, e57_89, e57_90, e57_93, e57_94, e57_95, e57_96, e57_99, e57_101, e57_102, e57_105, e57_108, e57_111, e57_112, e57_113, e57_116, e57_119, e57_120, m57, ↓reduceIte, qg_0, qg_1, qg_2, qg_3, qg_4, qg_5, qg_6, qg_7, qg_8, qg_9, qg_10, qg_11, qg_12, qg_13, not_true_eq_false, not_false_eq_true, Nat.reduceBEq, Bool.false_eq_true, ex1, ex3, ex4, exF, qfit_i, qfit_l, qfit_r, qfit_n, qfit_b0, qfit_b1, qcat_i, qcat_r, qcat_n, qcat_l, qroom_0, qroom_c, List.map_cons, List.map_nil, List.sum_cons, List.sum_nil, Nat.reduceAdd, Nat.reduceMul, Nat.reduceLT, Nat.reduceLeDiff, Nat.reduceEqDiff, Nat.reduceSub, decide_true, true_and, and_true, and_self, if_true, if_false, Option.toList_some, Option.toList_none, List.cons_append, List.nil_append, qsL, qlong, List.length_cons, List.length_nil, iN_L, exI, iN_add, iN_mul, iN_le, iN_lt, iN_eq, Nat.le_refl, qfN0, qfN1, uX_16, vX_16, uX_19, vX_19, uX_27, vX_27, uX_30, vX_30, uX_39, vX_39, uX_41, vX_41, uX_43, vX_43, uX_46, vX_46, uX_50, vX_50, uX_53, vX_53, show dd < e by omega, gX_30_10, rs]
    | succ w ih =>
      intro e x5 he hall
      have oe := O1 e (by omega)
      have q0 : qiald h1 34 (iN e) = some (iN (o e)) := by rw [rX_34 s1 (by omega), u2 e (by omega)]
      obtain ⟨i1, i2⟩ := im1 e (by omega)
      have q1 : qiald h1 35 (iN (o e)) = some (iN (r' (o e))) := by rw [rX_35 s1 (by omega), i1]
      have q2 : qiald h1 32 (iN (o dd * 16 + o e)) = some (iN (shN A (o dd) (o e) A.length)) := by rw [rX_32 s1 (by omega), u5 _ _ (by omega) (by omega)]
      have q3 : qiald h1 33 (iN (c * 16 + r' (o e))) = some (iN (shN B c (r' (o e)) A.length)) := by rw [rX_33 s1 (by omega), u6 _ _ (by omega) (by omega)]
      have b1 := shN_le A (o dd) (o e) A.length
      have b2 := shN_le B c (r' (o e)) A.length
      by_cases z : shN A (o dd) (o e) A.length = shN B c (r' (o e)) A.length
      · rw [← ih (e + 1) (some (.int (iN (o e)))) (by omega) (fun e' h' => by
          rcases Nat.lt_or_ge e' e with y | y
          · exact hall e' y
          · rw [show e' = e by omega, rod]; exact z), e57_17]
        rw [z] at q2
        simp (disch := first | assumption | omega) only [e57_0, e57_1, e57_4, e57_5, e57_6, e57_7, e57_8, e57_11, e57_12, e57_13, e57_14, e57_15, e57_19, e57_20, e57_23, e57_24, e57_27, e57_29, e57_30, e57_32, e57_33, e57_36, e57_37, e57_39, e57_40, e57_42, e57_43, e57_44, e57_45, e57_48, e57_49, e57_51, e57_52, e57_53, e57_56, e57_58, e57_59, e57_60, e57_61, e57_64, e57_65, e57_66, e57_69, e57_72, e57_73, e57_76, e57_77, e57_78, e57_82, e57_83, e57_86, e57_87, e57_88, e57_89, e57_90, e57_93, e57_94, e57_95, e57_96, e57_99, e57_101, e57_102, e57_105, e57_108, e57_111, e57_112, e57_113, e57_116, e57_119, e57_120, m57, ↓reduceIte, qg_0, qg_1, qg_2, qg_3, qg_4, qg_5, qg_6, qg_7, qg_8, qg_9, qg_10, qg_11, qg_12, qg_13, not_true_eq_false, not_false_eq_true, Nat.reduceBEq, Bool.false_eq_true, ex1, ex3, ex4, exF, qfit_i, qfit_l, qfit_r, qfit_n, qfit_b0, qfit_b1, qcat_i, qcat_r, qcat_n, qcat_l, qroom_0, qroom_c, List.map_cons, List.map_nil, List.sum_cons, List.sum_nil, Nat.reduceAdd, Nat.reduceMul, Nat.reduceLT, Nat.reduceLeDiff, Nat.reduceEqDiff, Nat.reduceSub, decide_true, true_and, and_true, and_self, if_true, if_false, Option.toList_some, Option.toList_none, List.cons_append, List.nil_append, qsL, qlong, List.length_cons, List.length_nil, iN_L, exI, iN_add, iN_mul, iN_le, iN_lt, iN_eq, Nat.le_refl, qfN0, qfN1, uX_16, vX_16, uX_19, vX_19, uX_27, vX_27, uX_30, vX_30, uX_39, vX_39, uX_41, vX_41, uX_43, vX_43, uX_46, vX_46, uX_50, vX_50, uX_53, vX_53, show ¬ dd < e by omega, gX_30_7, gX_30_3, gX_30_4, gX_30_8, q0, q1, q2, q3]
      · rw [tB_f (fun y => z (by have := y.1 e (by omega); rw [rod] at this; exact this)), bN_f, e57_17]
        simp (disch := first | assumption | omega) only [e57_0, e57_1, e57_4, e57_5, e57_6, e57_7, e57_8, e57_11, e57_12, e57_13, e57_14, e57_15, e57_19, e57_20, e57_23, e57_24, e57_27, e57_29, e57_30, e57_32, e57_33, e57_36, e57_37, e57_39, e57_40, e57_42, e57_43, e57_44, e57_45, e57_48, e57_49, e57_51, e57_52, e57_53, e57_56, e57_58, e57_59, e57_60, e57_61, e57_64, e57_65, e57_66, e57_69, e57_72, e57_73, e57_76, e57_77, e57_78, e57_82, e57_83, e57_86, e57_87, e57_88, e57_89, e57_90, e57_93, e57_94, e57_95, e57_96, e57_99, e57_101, e57_102, e57_105, e57_108, e57_111, e57_112, e57_113, e57_116, e57_119, e57_120, m57, ↓reduceIte, qg_0, qg_1, qg_2, qg_3, qg_4, qg_5, qg_6, qg_7, qg_8, qg_9, qg_10, qg_11, qg_12, qg_13, not_true_eq_false, not_false_eq_true, Nat.reduceBEq, Bool.false_eq_true, ex1, ex3, ex4, exF, qfit_i, qfit_l, qfit_r, qfit_n, qfit_b0, qfit_b1, qcat_i, qcat_r, qcat_n, qcat_l, qroom_0, qroom_c, List.map_cons, List.map_nil, List.sum_cons, List.sum_nil, Nat.reduceAdd, Nat.reduceMul, Nat.reduceLT, Nat.reduceLeDiff, Nat.reduceEqDiff, Nat.reduceSub, decide_true, true_and, and_true, and_self, if_true, if_false, Option.toList_some, Option.toList_none, List.cons_append, List.nil_append, qsL, qlong, List.length_cons, List.length_nil, iN_L, exI, iN_add, iN_mul, iN_le, iN_lt, iN_eq, Nat.le_refl, qfN0, qfN1, uX_16, vX_16, uX_19, vX_19, uX_27, vX_27, uX_30, vX_30, uX_39, vX_39, uX_41, vX_41, uX_43, vX_43, uX_46, vX_46, uX_50, vX_50, uX_53, vX_53, show ¬ dd < e by omega, gX_30_7, gX_30_3, gX_30_4, gX_30_8, q0, q1, q2, q3, z]
  rw [r0]
  exact l1 (dd + 1) 0 none (by omega) (fun e' h' => absurd h' (Nat.not_lt_zero e'))
def capN (lim x : Nat) : Nat := if x < lim then x else lim
set_option maxRecDepth 100000 in
set_option maxHeartbeats 32000000 in
theorem x_extend (s : ShX h) (v : OrV h n lim gr A B o st cp) (O : ordP n A o st cp) (hA : ∀ x, x ∈ A → x < 65536) (hAn : ∀ x, x ∈ A → ∀ c, x.testBit c = true → c < n) (nd : A.Nodup) (hg : gr ≠ 35) (hx : gr ∉ XO) : ∀ (m dd : Nat), dd + m = n → ∀ (r : Nat → Nat) (used found : Nat) (g : qH), ChX [35] [] 0 h g → (∀ e, e < dd → hi g 35 (o e) = iN (r (o e)) ∧ r (o e) < n) → (∀ a b, a < b → b < dd → r (o a) ≠ r (o b)) → (∀ c, used.testBit c = true ↔ ∃ e, e < dd ∧ r (o e) = c) → cmpP A B o r dd → found < lim → ∃ g', (∀ R, qMC (d + 6 + m) 56 [.ref 30, .int (iN dd), .int (iN used), .int (iN found)] g R ↔ R = (some (.int (iN (capN lim (found + rnC n A B o r dd)))), g')) ∧ ChX [35] [] 0 h g' ∧ ∀ e, e < dd → hi g' 35 (o e) = iN (r (o e)) := by
  obtain ⟨⟨n16, l104, lB'⟩, -, -, v7, ⟨v8, v9⟩, -⟩ := id v
  obtain ⟨O1, O2, O3, O4, O5, O6⟩ := id O
  intro m
  induction m with
  | zero =>
    intro dd hdd r used found g cg im inj us C fl
    have e : dd = n := by omega
    subst e
    have sg := cg.sh
    have m2 : xi g 30 2 = iN dd := (cg.xi (by decide) (by intro z; cases z)).trans v7
    have hs : ∀ j, j < dd → ∃ e, e < dd ∧ o e = j := fun j hj => ord_all O1 O2 hj
    have hr : ∀ j, j < dd → r j < dd := fun j hj => by
      obtain ⟨e, he, ej⟩ := hs j hj
      rw [← ej]; exact (im e he).2
    have e1 : rnC dd A B o r dd = 1 := by rw [rnC_n hr hs O1, cmp_n n16 hAn O1 O2 inj C]; rfl
    refine ⟨g, fun R => ?_, cg, fun e he => (im e he).1⟩
    rw [e1, show capN lim (found + 1) = found + 1 by unfold capN; split <;> omega]
    simp (disch := first | assumption | omega) only [e56_0, e56_1, e56_2, e56_5, e56_8, e56_9, e56_10, e56_11, e56_12, e56_13, e56_15, e56_16, e56_18, e56_20, e56_21, e56_24, e56_27, e56_29, e56_30, e56_33, e56_36, e56_37, e56_39, e56_40, e56_41, e56_42, e56_45, e56_46, e56_47, e56_49, e56_52, e56_55, e56_56, e56_57, e56_58, e56_59, e56_60, e56_61, e56_63, e56_64, e56_65, e56_67, e56_70, e56_72, e56_75, e56_78, e56_80, m56, ↓reduceIte, qg_0, qg_1, qg_2, qg_3, qg_4, qg_5, qg_6, qg_7, qg_8, qg_9, qg_10, qg_11, qg_12, qg_13, not_true_eq_false, not_false_eq_true, Nat.reduceBEq, Bool.false_eq_true, ex1, ex3, ex4, exF, qfit_i, qfit_l, qfit_r, qfit_n, qfit_b0, qfit_b1, qcat_i, qcat_r, qcat_n, qcat_l, qroom_0, qroom_c, List.map_cons, List.map_nil, List.sum_cons, List.sum_nil, Nat.reduceAdd, Nat.reduceMul, Nat.reduceLT, Nat.reduceLeDiff, Nat.reduceEqDiff, Nat.reduceSub, decide_true, true_and, and_true, and_self, if_true, if_false, Option.toList_some, Option.toList_none, List.cons_append, List.nil_append, qsL, qlong, List.length_cons, List.length_nil, iN_L, exI, iN_add, iN_mul, iN_le, iN_lt, iN_eq, Nat.le_refl, qfN0, qfN1, uX_16, vX_16, uX_19, vX_19, uX_27, vX_27, uX_30, vX_30, uX_39, vX_39, uX_41, vX_41, uX_43, vX_43, uX_46, vX_46, uX_50, vX_50, uX_53, vX_53, uX_30, vX_30, gX_30_2, m2, Nat.lt_irrefl]
  | succ m ih =>
    intro dd hdd r used found g cg im inj us C fl
    have hd : dd < n := by omega
    have od := O1 dd hd
    have u16 : used < 65536 := Nat.lt_pow_two_of_testBit (n := 16) _ fun b hb => by
      cases q : used.testBit b with
      | false => rfl
      | true => obtain ⟨e, he, e2⟩ := (us b).mp q; have := (im e he).2; omega
    obtain ⟨N, eN⟩ : ∃ N : Nat → Nat, N = fun c => rnC n A B o (updR r (o dd) c) (dd + 1) := ⟨_, rfl⟩
    have tot : rnC n A B o r dd = sumN N n := by rw [rnC_step hd O1 O2, eN]
    have sm : ∀ a b, a ≤ b → sumN N a ≤ sumN N b := fun a b hab => by
      induction b with
      | zero => rw [show a = 0 by omega]; exact Nat.le_refl _
      | succ b ihb =>
        rcases Nat.lt_or_ge b a with z | z
        · rw [show a = b + 1 by omega]; exact Nat.le_refl _
        · have := ihb z; rw [sumN]; omega
    have upo : ∀ c e, e < dd → updR r (o dd) c (o e) = r (o e) := fun c e he => by rw [updR_at, if_neg (O2 e dd he hd)]
    have loop : ∀ (w c : Nat) (g1 : qH), c + w = n → ChX [35] [] 0 h g1 → (∀ e, e < dd → hi g1 35 (o e) = iN (r (o e))) → ∃ g', (∀ R, qEv (d + 6 + m) 0 qk_56 18 [some (.ref 30), some (.int (iN dd)), some (.int (iN used)), some (.int (iN found)), some (.int (iN (capN lim (found + sumN N c)))), some (.int (iN c))] [] g1 R ↔ R = (some (.int (iN (capN lim (found + sumN N n)))), g')) ∧ ChX [35] [] 0 h g' ∧ ∀ e, e < dd → hi g' 35 (o e) = iN (r (o e)) := by
      intro w
      induction w with
      | zero =>
        intro c g1 hc cg1 im1
        have ec : c = n := by omega
        subst ec
        have s1 := cg1.sh
        have m2 : xi g1 30 2 = iN c := (cg1.xi (by decide) (by intro z; cases z)).trans v7
        refine ⟨g1, fun R => ?_, cg1, im1⟩
        rw [e56_18]
        simp (disch := first | assumption | omega) only [e56_0, e56_1, e56_2, e56_5, e56_8, e56_9, e56_10, e56_11, e56_12, e56_13, e56_15, e56_16, e56_20, e56_21, e56_24, e56_27, e56_29, e56_30, e56_33, e56_36, e56_37, e56_39, e56_40, e56_41, e56_42, e56_45, e56_46, e56_47, e56_49, e56_52, e56_55, e56_56, e56_57, e56_58, e56_59, e56_60, e56_61, e56_63, e56_64, e56_65, e56_67, e56_70, e56_72, e56_75, e56_78, e56_80, m56, ↓reduceIte, qg_0, qg_1, qg_2, qg_3, qg_4, qg_5, qg_6, qg_7, qg_8, qg_9, qg_10, qg_11, qg_12, qg_13, not_true_eq_false, not_false_eq_true, Nat.reduceBEq, Bool.false_eq_true, ex1, ex3, ex4, exF, qfit_i, qfit_l, qfit_r, qfit_n, qfit_b0, qfit_b1, qcat_i, qcat_r, qcat_n, qcat_l, qroom_0, qroom_c, List.map_cons, List.map_nil, List.sum_cons, List.sum_nil, Nat.reduceAdd, Nat.reduceMul, Nat.reduceLT, Nat.reduceLeDiff, Nat.reduceEqDiff, Nat.reduceSub, decide_true, true_and, and_true, and_self, if_true, if_false, Option.toList_some, Option.toList_none, List.cons_append, List.nil_append, qsL, qlong, List.length_cons, List.length_nil, iN_L, exI, iN_add, iN_mul, iN_le, iN_lt, iN_eq, Nat.le_refl, qfN0, qfN1, uX_16, vX_16, uX_19, vX_19, uX_27, vX_27, uX_30, vX_30, uX_39, vX_39, uX_41, vX_41, uX_43, vX_43, uX_46, vX_46, uX_50, vX_50, uX_53, vX_53, uX_30, vX_30, gX_30_2, m2]
      | succ w ihw =>
        intro c g1 hc cg1 im1
        have hcn : c < n := by omega
        have s1 := cg1.sh
        have m2 : xi g1 30 2 = iN n := (cg1.xi (by decide) (by intro z; cases z)).trans v7
        have m6 : xi g1 30 6 = iN lim := (cg1.xi (by decide) (by intro z; cases z)).trans v8
        have sc : sumN N (c + 1) = sumN N c + N c := rfl
        by_cases full : lim ≤ found + sumN N c
        · have e1 : capN lim (found + sumN N c) = lim := by unfold capN; rw [if_neg (by omega)]
          have e2 : capN lim (found + sumN N n) = lim := by unfold capN; rw [if_neg (by have := sm c n (by omega); omega)]
          refine ⟨g1, fun R => ?_, cg1, im1⟩
          rw [e1, e2, e56_18]
          simp (disch := first | assumption | omega) only [e56_0, e56_1, e56_2, e56_5, e56_8, e56_9, e56_10, e56_11, e56_12, e56_13, e56_15, e56_16, e56_20, e56_21, e56_24, e56_27, e56_29, e56_30, e56_33, e56_36, e56_37, e56_39, e56_40, e56_41, e56_42, e56_45, e56_46, e56_47, e56_49, e56_52, e56_55, e56_56, e56_57, e56_58, e56_59, e56_60, e56_61, e56_63, e56_64, e56_65, e56_67, e56_70, e56_72, e56_75, e56_78, e56_80, m56, ↓reduceIte, qg_0, qg_1, qg_2, qg_3, qg_4, qg_5, qg_6, qg_7, qg_8, qg_9, qg_10, qg_11, qg_12, qg_13, not_true_eq_false, not_false_eq_true, Nat.reduceBEq, Bool.false_eq_true, ex1, ex3, ex4, exF, qfit_i, qfit_l, qfit_r, qfit_n, qfit_b0, qfit_b1, qcat_i, qcat_r, qcat_n, qcat_l, qroom_0, qroom_c, List.map_cons, List.map_nil, List.sum_cons, List.sum_nil, Nat.reduceAdd, Nat.reduceMul, Nat.reduceLT, Nat.reduceLeDiff, Nat.reduceEqDiff, Nat.reduceSub, decide_true, true_and, and_true, and_self, if_true, if_false, Option.toList_some, Option.toList_none, List.cons_append, List.nil_append, qsL, qlong, List.length_cons, List.length_nil, iN_L, exI, iN_add, iN_mul, iN_le, iN_lt, iN_eq, Nat.le_refl, qfN0, qfN1, uX_16, vX_16, uX_19, vX_19, uX_27, vX_27, uX_30, vX_30, uX_39, vX_39, uX_41, vX_41, uX_43, vX_43, uX_46, vX_46, uX_50, vX_50, uX_53, vX_53, uX_30, vX_30, gX_30_2, m2, show ¬ n ≤ c by omega, gX_30_6, m6]
        · have e1 : capN lim (found + sumN N c) = found + sumN N c := by unfold capN; rw [if_pos (by omega)]
          have bt := iN_bit (m := used) (p := c) (by omega) (by omega)
          have skip : N c = 0 → capN lim (found + sumN N (c + 1)) = found + sumN N c := fun z => by rw [sc, z, Nat.add_zero]; exact e1
          by_cases ub : used.testBit c = true
          · have z0 : N c = 0 := by
              obtain ⟨e, he, er⟩ := (us c).mp ub
              rw [eN]
              refine used_no hd he O1 O2 ?_
              rw [upo c e he, updR_at, if_pos rfl]; exact er
            rw [ub, if_pos rfl] at bt
            obtain ⟨g', r', z'⟩ := ihw (c + 1) g1 (by omega) cg1 im1
            rw [skip z0] at r'
            refine ⟨g', fun R => ?_, z'⟩
            rw [e1, ← r' R, e56_18]
            simp (disch := first | assumption | omega) only [e56_0, e56_1, e56_2, e56_5, e56_8, e56_9, e56_10, e56_11, e56_12, e56_13, e56_15, e56_16, e56_20, e56_21, e56_24, e56_27, e56_29, e56_30, e56_33, e56_36, e56_37, e56_39, e56_40, e56_41, e56_42, e56_45, e56_46, e56_47, e56_49, e56_52, e56_55, e56_56, e56_57, e56_58, e56_59, e56_60, e56_61, e56_63, e56_64, e56_65, e56_67, e56_70, e56_72, e56_75, e56_78, e56_80, m56, ↓reduceIte, qg_0, qg_1, qg_2, qg_3, qg_4, qg_5, qg_6, qg_7, qg_8, qg_9, qg_10, qg_11, qg_12, qg_13, not_true_eq_false, not_false_eq_true, Nat.reduceBEq, Bool.false_eq_true, ex1, ex3, ex4, exF, qfit_i, qfit_l, qfit_r, qfit_n, qfit_b0, qfit_b1, qcat_i, qcat_r, qcat_n, qcat_l, qroom_0, qroom_c, List.map_cons, List.map_nil, List.sum_cons, List.sum_nil, Nat.reduceAdd, Nat.reduceMul, Nat.reduceLT, Nat.reduceLeDiff, Nat.reduceEqDiff, Nat.reduceSub, decide_true, true_and, and_true, and_self, if_true, if_false, Option.toList_some, Option.toList_none, List.cons_append, List.nil_append, qsL, qlong, List.length_cons, List.length_nil, iN_L, exI, iN_add, iN_mul, iN_le, iN_lt, iN_eq, Nat.le_refl, qfN0, qfN1, uX_16, vX_16, uX_19, vX_19, uX_27, vX_27, uX_30, vX_30, uX_39, vX_39, uX_41, vX_41, uX_43, vX_43, uX_46, vX_46, uX_50, vX_50, uX_53, vX_53, uX_30, vX_30, gX_30_2, m2, show ¬ n ≤ c by omega, gX_30_6, m6, show ¬ lim ≤ found + sumN N c by omega, bt]
          · rw [if_neg ub] at bt
            obtain ⟨g2, rf, c2, im2⟩ := x_fits (d := d + 2 + m) (r := r) (dd := dd) (c := c) s1 (v.ch cg1 s hg hx) O hA hg hx hd hcn (fun e he => ⟨im1 e he, (im e he).2⟩)
            have cg2 : ChX [35] [] 0 h g2 := cg1.trans0 c2
            have rf' : ∀ R, qMC (d + 6 + m) 57 [.ref 30, .int (iN dd), .int (iN c)] g1 R ↔ R = (some (.int (bB (tB (fitP A B o (updR r (o dd) c) st cp dd)))), g2) := fun R => by
              have := rf R
              rw [show d + 2 + m + 4 = d + 6 + m by omega] at this
              exact this
            by_cases F : fitP A B o (updR r (o dd) c) st cp dd
            · rw [tB_t F, bN_t] at rf'
              have im2' : ∀ e, e < dd + 1 → hi g2 35 (o e) = iN (updR r (o dd) c (o e)) ∧ updR r (o dd) c (o e) < n := fun e he => by
                refine ⟨im2 e he, ?_⟩
                rw [updR_at]
                split
                · exact hcn
                · rename_i ne
                  have : e < dd := by
                    rcases Nat.lt_or_ge e dd with y | y
                    · exact y
                    · rw [show e = dd by omega] at ne; exact absurd rfl ne
                  exact (im e this).2
              have ncl : ∀ e, e < dd → r (o e) ≠ c := fun e he z => ub ((us c).mpr ⟨e, he, z⟩)
              have inj' : ∀ a b, a < b → b < dd + 1 → updR r (o dd) c (o a) ≠ updR r (o dd) c (o b) := fun a b hab hb => by
                rw [upo c a (by omega)]
                by_cases y : b = dd
                · rw [y, updR_at, if_pos rfl]; exact ncl a (by omega)
                · rw [upo c b (by omega)]; exact inj a b hab (by omega)
              have us' : ∀ c', (used ||| 2 ^ c).testBit c' = true ↔ ∃ e, e < dd + 1 ∧ updR r (o dd) c (o e) = c' := fun c' => by
                rw [Nat.testBit_or, Bool.or_eq_true, us, Nat.testBit_two_pow, decide_eq_true_eq]
                constructor
                · rintro (⟨e, he, e2⟩ | z)
                  · exact ⟨e, by omega, by rw [upo c e he]; exact e2⟩
                  · exact ⟨dd, by omega, by rw [updR_at, if_pos rfl]; exact z⟩
                · rintro ⟨e, he, e2⟩
                  by_cases y : e = dd
                  · rw [y, updR_at, if_pos rfl] at e2; exact Or.inr e2
                  · rw [upo c e (by omega)] at e2; exact Or.inl ⟨e, by omega, e2⟩
              obtain ⟨g3, r3, c3, im3⟩ := ih (dd + 1) (by omega) (updR r (o dd) c) (used ||| 2 ^ c) (found + sumN N c) g2 cg2 im2' inj' us' (cmp_step O hd C F) (by omega)
              have r3' : ∀ R, qMC (d + 6 + m) 56 [.ref 30, .int (iN (dd + 1)), .int (iN (used ||| 2 ^ c)), .int (iN (found + sumN N c))] g2 R ↔ R = (some (.int (iN (capN lim (found + sumN N (c + 1))))), g3) := fun R => by
                rw [sc, ← Nat.add_assoc, eN]; rw [eN] at r3; exact r3 R
              have s3 := c3.sh
              obtain ⟨g', r', z'⟩ := ihw (c + 1) g3 (by omega) c3 (fun e he => by rw [im3 e (by omega), upo c e he])
              have sh := iN_shl1 c (by omega)
              have s2 := cg2.sh
              refine ⟨g', fun R => ?_, z'⟩
              rw [e1, ← r' R, e56_18]
              simp (disch := first | assumption | omega) only [e56_0, e56_1, e56_2, e56_5, e56_8, e56_9, e56_10, e56_11, e56_12, e56_13, e56_15, e56_16, e56_20, e56_21, e56_24, e56_27, e56_29, e56_30, e56_33, e56_36, e56_37, e56_39, e56_40, e56_41, e56_42, e56_45, e56_46, e56_47, e56_49, e56_52, e56_55, e56_56, e56_57, e56_58, e56_59, e56_60, e56_61, e56_63, e56_64, e56_65, e56_67, e56_70, e56_72, e56_75, e56_78, e56_80, m56, ↓reduceIte, qg_0, qg_1, qg_2, qg_3, qg_4, qg_5, qg_6, qg_7, qg_8, qg_9, qg_10, qg_11, qg_12, qg_13, not_true_eq_false, not_false_eq_true, Nat.reduceBEq, Bool.false_eq_true, ex1, ex3, ex4, exF, qfit_i, qfit_l, qfit_r, qfit_n, qfit_b0, qfit_b1, qcat_i, qcat_r, qcat_n, qcat_l, qroom_0, qroom_c, List.map_cons, List.map_nil, List.sum_cons, List.sum_nil, Nat.reduceAdd, Nat.reduceMul, Nat.reduceLT, Nat.reduceLeDiff, Nat.reduceEqDiff, Nat.reduceSub, decide_true, true_and, and_true, and_self, if_true, if_false, Option.toList_some, Option.toList_none, List.cons_append, List.nil_append, qsL, qlong, List.length_cons, List.length_nil, iN_L, exI, iN_add, iN_mul, iN_le, iN_lt, iN_eq, Nat.le_refl, qfN0, qfN1, uX_16, vX_16, uX_19, vX_19, uX_27, vX_27, uX_30, vX_30, uX_39, vX_39, uX_41, vX_41, uX_43, vX_43, uX_46, vX_46, uX_50, vX_50, uX_53, vX_53, uX_30, vX_30, gX_30_2, m2, show ¬ n ≤ c by omega, gX_30_6, m6, show ¬ lim ≤ found + sumN N c by omega, bt, rf', sh, iN_or, r3']
            · have z0 : N c = 0 := by rw [eN]; exact fit_no n16 hAn nd lB' O hd F
              rw [tB_f F, bN_f] at rf'
              have s2 := cg2.sh
              obtain ⟨g', r', z'⟩ := ihw (c + 1) g2 (by omega) cg2 (fun e he => by rw [im2 e (by omega), upo c e he])
              rw [skip z0] at r'
              refine ⟨g', fun R => ?_, z'⟩
              rw [e1, ← r' R, e56_18]
              simp (disch := first | assumption | omega) only [e56_0, e56_1, e56_2, e56_5, e56_8, e56_9, e56_10, e56_11, e56_12, e56_13, e56_15, e56_16, e56_20, e56_21, e56_24, e56_27, e56_29, e56_30, e56_33, e56_36, e56_37, e56_39, e56_40, e56_41, e56_42, e56_45, e56_46, e56_47, e56_49, e56_52, e56_55, e56_56, e56_57, e56_58, e56_59, e56_60, e56_61, e56_63, e56_64, e56_65, e56_67, e56_70, e56_72, e56_75, e56_78, e56_80, m56, ↓reduceIte, qg_0, qg_1, qg_2, qg_3, qg_4, qg_5, qg_6, qg_7, qg_8, qg_9, qg_10, qg_11, qg_12, qg_13, not_true_eq_false, not_false_eq_true, Nat.reduceBEq, Bool.false_eq_true, ex1, ex3, ex4, exF, qfit_i, qfit_l, qfit_r, qfit_n, qfit_b0, qfit_b1, qcat_i, qcat_r, qcat_n, qcat_l, qroom_0, qroom_c, List.map_cons, List.map_nil, List.sum_cons, List.sum_nil, Nat.reduceAdd, Nat.reduceMul, Nat.reduceLT, Nat.reduceLeDiff, Nat.reduceEqDiff, Nat.reduceSub, decide_true, true_and, and_true, and_self, if_true, if_false, Option.toList_some, Option.toList_none, List.cons_append, List.nil_append, qsL, qlong, List.length_cons, List.length_nil, iN_L, exI, iN_add, iN_mul, iN_le, iN_lt, iN_eq, Nat.le_refl, qfN0, qfN1, uX_16, vX_16, uX_19, vX_19, uX_27, vX_27, uX_30, vX_30, uX_39, vX_39, uX_41, vX_41, uX_43, vX_43, uX_46, vX_46, uX_50, vX_50, uX_53, vX_53, uX_30, vX_30, gX_30_2, m2, show ¬ n ≤ c by omega, gX_30_6, m6, show ¬ lim ≤ found + sumN N c by omega, bt, rf']
    obtain ⟨g', r', z'⟩ := loop n 0 g (Nat.zero_add _) cg (fun e he => (im e he).1)
    have sg := cg.sh
    have m2 : xi g 30 2 = iN n := (cg.xi (by decide) (by intro z; cases z)).trans v7
    have f0 : capN lim (found + sumN N 0) = found := by unfold capN; rw [show sumN N 0 = 0 from rfl, Nat.add_zero, if_pos fl]
    rw [f0] at r'
    refine ⟨g', fun R => ?_, z'⟩
    rw [tot, ← r' R, show d + 6 + (m + 1) = (d + 6 + m) + 1 from rfl]
    simp (disch := first | assumption | omega) only [e56_0, e56_1, e56_2, e56_5, e56_8, e56_9, e56_10, e56_11, e56_12, e56_13, e56_15, e56_16, e56_20, e56_21, e56_24, e56_27, e56_29, e56_30, e56_33, e56_36, e56_37, e56_39, e56_40, e56_41, e56_42, e56_45, e56_46, e56_47, e56_49, e56_52, e56_55, e56_56, e56_57, e56_58, e56_59, e56_60, e56_61, e56_63, e56_64, e56_65, e56_67, e56_70, e56_72, e56_75, e56_78, e56_80, m56, ↓reduceIte, qg_0, qg_1, qg_2, qg_3, qg_4, qg_5, qg_6, qg_7, qg_8, qg_9, qg_10, qg_11, qg_12, qg_13, not_true_eq_false, not_false_eq_true, Nat.reduceBEq, Bool.false_eq_true, ex1, ex3, ex4, exF, qfit_i, qfit_l, qfit_r, qfit_n, qfit_b0, qfit_b1, qcat_i, qcat_r, qcat_n, qcat_l, qroom_0, qroom_c, List.map_cons, List.map_nil, List.sum_cons, List.sum_nil, Nat.reduceAdd, Nat.reduceMul, Nat.reduceLT, Nat.reduceLeDiff, Nat.reduceEqDiff, Nat.reduceSub, decide_true, true_and, and_true, and_self, if_true, if_false, Option.toList_some, Option.toList_none, List.cons_append, List.nil_append, qsL, qlong, List.length_cons, List.length_nil, iN_L, exI, iN_add, iN_mul, iN_le, iN_lt, iN_eq, Nat.le_refl, qfN0, qfN1, uX_16, vX_16, uX_19, vX_19, uX_27, vX_27, uX_30, vX_30, uX_39, vX_39, uX_41, vX_41, uX_43, vX_43, uX_46, vX_46, uX_50, vX_50, uX_53, vX_53, uX_30, vX_30, gX_30_2, m2, show dd < n by omega]
end XEXTEND

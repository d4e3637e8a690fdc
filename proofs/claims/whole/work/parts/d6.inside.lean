/-! ===== THE REFERENCE: inside ===== -/
section INSIDE
variable {d : Nat} {h : qH} {bs : List bdy}
/-- the facets at a corner -/
noncomputable def atC (bs : List bdy) (j c : Nat) (e : Nat) : Bool := ((fct bs j).getD e 0).testBit c
noncomputable def dulL (bs : List bdy) (j : Nat) : List Nat := (List.range (cnr bs j).length).map fun c => mask (atC bs j c) (fct bs j).length
theorem dul_len {j : Nat} : (dulL bs j).length = (cnr bs j).length := by unfold dulL; rw [List.length_map, List.length_range]
theorem dul_at {j c : Nat} (hc : c < (cnr bs j).length) : (dulL bs j).getD c 0 = mask (atC bs j c) (fct bs j).length := by
  unfold dulL
  rw [List.getD_eq_getElem?_getD, List.getElem?_map, List.getElem?_range hc]
  rfl
theorem shl_bit {b : Bool} {p : Nat} (hp : p < 16) : iN (if b = true then 1 else 0) <<< (iN p &&& iN 31) = iN (if b = true then 2 ^ p else 0) := by
  cases b with
  | true => exact iN_shl1 p (by omega)
  | false =>
    have : ∀ p, p < 16 → iN 0 <<< (iN p &&& iN 31) = iN 0 := by decide +kernel
    exact this p hp
theorem upd_upd {f : Nat → Int32} {k : Nat} {x y : Int32} : upd (upd f k x) k y = upd f k y := by
  funext t
  rw [upd_at, upd_at, upd_at]
  by_cases e : t = k
  · rw [if_pos e, if_pos e]
  · rw [if_neg e, if_neg e, if_neg e]
set_option maxRecDepth 100000 in
set_option maxHeartbeats 16000000 in
theorem in_row {i j c : Nat} {x4 : Option Value} (s : ShM h) (B : BsM h bs) (hj' : j < bs.length) (h16 : (fct bs j).length ≤ 16) (hc : c < (cnr bs j).length) : ∃ x4', ∀ R, qEv (d + 3) 0 qk_251 72 [some (.ref 55), some (.int (iN i)), some (.int (iN j)), some (.int (iN c)), x4] [] h R ↔ qEv (d + 3) 0 qk_251 72 [some (.ref 55), some (.int (iN i)), some (.int (iN j)), some (.int (iN (c + 1))), x4'] [] (sI h 76 (upd (hi h 76) c (iN (mask (atC bs j c) (fct bs j).length)))) R := by
  have b24 := B.1
  have nj := (B.corn hj').1
  have lj := (B.corn hj').2.1
  have k76 := kM_76 s
  have cG : ∀ g, Ch [76] [] h (sI h 76 g) := fun g => Ch.rowI s k76 (by decide)
  have sG : ∀ g, ShM (sI h 76 g) := fun g => (cG g).sh
  have BG : ∀ g, BsM (sI h 76 g) bs := fun g => B.ch (cG g) (by decide) (by decide)
  refine ⟨some (.int (iN (fct bs j).length)), fun R => ?_⟩
  have r0 : qEv (d + 3) 0 qk_251 72 [some (.ref 55), some (.int (iN i)), some (.int (iN j)), some (.int (iN c)), x4] [] h R ↔ qEv (d + 3) 0 qk_251 92 [some (.ref 55), some (.int (iN i)), some (.int (iN j)), some (.int (iN c)), some (.int (iN 0))] [] (sI h 76 (upd (hi h 76) c (iN (mask (atC bs j c) 0)))) R := by
    rw [e251_72]
    simp (disch := first | assumption | omega) only [e251_0, e251_1, e251_2, e251_5, e251_8, e251_9, e251_10, e251_13, e251_16, e251_19, e251_20, e251_21, e251_24, e251_25, e251_26, e251_27, e251_30, e251_31, e251_32, e251_35, e251_36, e251_39, e251_40, e251_41, e251_42, e251_43, e251_46, e251_49, e251_50, e251_51, e251_54, e251_55, e251_58, e251_59, e251_60, e251_63, e251_64, e251_65, e251_66, e251_67, e251_70, e251_71, e251_73, e251_74, e251_77, e251_78, e251_79, e251_82, e251_83, e251_86, e251_87, e251_88, e251_89, e251_90, e251_94, e251_95, e251_96, e251_99, e251_102, e251_103, e251_106, e251_107, e251_108, e251_109, e251_110, e251_111, e251_113, e251_116, e251_117, e251_118, e251_119, e251_120, e251_122, e251_123, e251_124, e251_125, e251_128, e251_131, e251_134, e251_137, e251_138, e251_139, e251_142, m251, ↓reduceIte, qg_0, qg_1, qg_2, qg_3, qg_4, qg_5, qg_6, qg_7, qg_8, qg_9, qg_10, qg_11, qg_12, qg_13, not_true_eq_false, not_false_eq_true, Nat.reduceBEq, Bool.false_eq_true, ex1, ex3, ex4, exF, qfit_i, qfit_l, qfit_r, qfit_n, qfit_b0, qfit_b1, qcat_i, qcat_r, qcat_n, qcat_l, qroom_0, qroom_c, List.map_cons, List.map_nil, List.sum_cons, List.sum_nil, Nat.reduceAdd, Nat.reduceMul, Nat.reduceLT, Nat.reduceLeDiff, Nat.reduceEqDiff, Nat.reduceSub, decide_true, true_and, and_true, and_self, if_true, if_false, Option.toList_some, Option.toList_none, List.cons_append, List.nil_append, qsL, qlong, List.length_cons, List.length_nil, iN_L, vM1, vM2, exI, iN_add, iN_mul, iN_le, iN_lt, iN_eq, Nat.le_refl, qfN0, qfN1, gM_2, rM_57, nj, show ¬ (cnr bs j).length ≤ c by omega, gM_27, wM_76]
    exact Iff.rfl
  rw [r0]
  refine Iff.trans (loop_up (n := (fct bs j).length) (L := fun k => [some (.ref 55), some (.int (iN i)), some (.int (iN j)), some (.int (iN c)), some (.int (iN k))]) (H := fun k => sI h 76 (upd (hi h 76) c (iN (mask (atC bs j c) k)))) ?_) ?_
  · intro k hk
    try dsimp only
    have sk := sG (upd (hi h 76) c (iN (mask (atC bs j c) k)))
    obtain ⟨g, eg⟩ : ∃ g, g = sI h 76 (upd (hi h 76) c (iN (mask (atC bs j c) k))) := ⟨_, rfl⟩
    obtain ⟨g', eg'⟩ : ∃ g', g' = sI h 76 (upd (hi h 76) c (iN (mask (atC bs j c) (k + 1)))) := ⟨_, rfl⟩
    have Bg := BG (upd (hi h 76) c (iN (mask (atC bs j c) k)))
    rw [← eg] at sk Bg
    have sf : ∀ R, qMC (d + 3) 197 [.ref 55, .int (iN j)] g R ↔ R = (some (.int (iN (fct bs j).length)), g) := fun R => s_facetsC sk Bg hj'
    have sg : ∀ R, qMC (d + 3) 198 [.ref 55, .int (iN j), .int (iN k)] g R ↔ R = (some (.int (iN ((fct bs j).getD k 0))), g) := fun R => s_facetC sk Bg hj' hk
    have fb := fct_b B hj' hk
    have rd : hi g 76 c = iN (mask (atC bs j c) k) := by rw [eg, hi_sI, if_pos rfl, upd_at, if_pos rfl]
    have wk : qiast g 76 (iN c) (iN (mask (atC bs j c) k ||| (if atC bs j c k = true then 2 ^ k else 0))) = some g' := by
      rw [wM_76 sk (by omega), eg, hi_sI, if_pos rfl, sI_sI, upd_upd, eg']
      rfl
    have bt : iN ((fct bs j).getD k 0) >>> (iN c &&& iN 31) &&& iN 1 = iN (if atC bs j c k = true then 1 else 0) := iN_bit (by omega) (by omega)
    rw [← eg, ← eg', e251_92]
    simp (disch := first | assumption | omega) only [e251_0, e251_1, e251_2, e251_5, e251_8, e251_9, e251_10, e251_13, e251_16, e251_19, e251_20, e251_21, e251_24, e251_25, e251_26, e251_27, e251_30, e251_31, e251_32, e251_35, e251_36, e251_39, e251_40, e251_41, e251_42, e251_43, e251_46, e251_49, e251_50, e251_51, e251_54, e251_55, e251_58, e251_59, e251_60, e251_63, e251_64, e251_65, e251_66, e251_67, e251_70, e251_71, e251_72, e251_73, e251_74, e251_77, e251_78, e251_79, e251_82, e251_83, e251_86, e251_87, e251_88, e251_89, e251_90, e251_94, e251_95, e251_96, e251_99, e251_102, e251_103, e251_106, e251_107, e251_108, e251_109, e251_110, e251_111, e251_113, e251_116, e251_117, e251_118, e251_119, e251_120, e251_122, e251_123, e251_124, e251_125, e251_128, e251_131, e251_134, e251_137, e251_138, e251_139, e251_142, m251, ↓reduceIte, qg_0, qg_1, qg_2, qg_3, qg_4, qg_5, qg_6, qg_7, qg_8, qg_9, qg_10, qg_11, qg_12, qg_13, not_true_eq_false, not_false_eq_true, Nat.reduceBEq, Bool.false_eq_true, ex1, ex3, ex4, exF, qfit_i, qfit_l, qfit_r, qfit_n, qfit_b0, qfit_b1, qcat_i, qcat_r, qcat_n, qcat_l, qroom_0, qroom_c, List.map_cons, List.map_nil, List.sum_cons, List.sum_nil, Nat.reduceAdd, Nat.reduceMul, Nat.reduceLT, Nat.reduceLeDiff, Nat.reduceEqDiff, Nat.reduceSub, decide_true, true_and, and_true, and_self, if_true, if_false, Option.toList_some, Option.toList_none, List.cons_append, List.nil_append, qsL, qlong, List.length_cons, List.length_nil, iN_L, vM1, vM2, exI, iN_add, iN_mul, iN_le, iN_lt, iN_eq, Nat.le_refl, qfN0, qfN1, sf, show ¬ (fct bs j).length ≤ k by omega, gM_27, rM_76, rd, sg, bt, shl_bit, iN_or, wk]
  · try dsimp only
    have sk := sG (upd (hi h 76) c (iN (mask (atC bs j c) (fct bs j).length)))
    have Bg := BG (upd (hi h 76) c (iN (mask (atC bs j c) (fct bs j).length)))
    obtain ⟨g, eg⟩ : ∃ g, g = sI h 76 (upd (hi h 76) c (iN (mask (atC bs j c) (fct bs j).length))) := ⟨_, rfl⟩
    rw [← eg] at sk Bg ⊢
    have sf : ∀ R, qMC (d + 3) 197 [.ref 55, .int (iN j)] g R ↔ R = (some (.int (iN (fct bs j).length)), g) := fun R => s_facetsC sk Bg hj'
    rw [e251_92]
    simp (disch := first | assumption | omega) only [e251_0, e251_1, e251_2, e251_5, e251_8, e251_9, e251_10, e251_13, e251_16, e251_19, e251_20, e251_21, e251_24, e251_25, e251_26, e251_27, e251_30, e251_31, e251_32, e251_35, e251_36, e251_39, e251_40, e251_41, e251_42, e251_43, e251_46, e251_49, e251_50, e251_51, e251_54, e251_55, e251_58, e251_59, e251_60, e251_63, e251_64, e251_65, e251_66, e251_67, e251_70, e251_71, e251_73, e251_74, e251_77, e251_78, e251_79, e251_82, e251_83, e251_86, e251_87, e251_88, e251_89, e251_90, e251_94, e251_95, e251_96, e251_99, e251_102, e251_103, e251_106, e251_107, e251_108, e251_109, e251_110, e251_111, e251_113, e251_116, e251_117, e251_118, e251_119, e251_120, e251_122, e251_123, e251_124, e251_125, e251_128, e251_131, e251_134, e251_137, e251_138, e251_139, e251_142, m251, ↓reduceIte, qg_0, qg_1, qg_2, qg_3, qg_4, qg_5, qg_6, qg_7, qg_8, qg_9, qg_10, qg_11, qg_12, qg_13, not_true_eq_false, not_false_eq_true, Nat.reduceBEq, Bool.false_eq_true, ex1, ex3, ex4, exF, qfit_i, qfit_l, qfit_r, qfit_n, qfit_b0, qfit_b1, qcat_i, qcat_r, qcat_n, qcat_l, qroom_0, qroom_c, List.map_cons, List.map_nil, List.sum_cons, List.sum_nil, Nat.reduceAdd, Nat.reduceMul, Nat.reduceLT, Nat.reduceLeDiff, Nat.reduceEqDiff, Nat.reduceSub, decide_true, true_and, and_true, and_self, if_true, if_false, Option.toList_some, Option.toList_none, List.cons_append, List.nil_append, qsL, qlong, List.length_cons, List.length_nil, iN_L, vM1, vM2, exI, iN_add, iN_mul, iN_le, iN_lt, iN_eq, Nat.le_refl, qfN0, qfN1, sf]
set_option maxRecDepth 100000 in
set_option maxHeartbeats 16000000 in
theorem in_rows {i j : Nat} (s : ShM h) (B : BsM h bs) (hj' : j < bs.length) (h16 : (fct bs j).length ≤ 16) : ∀ (w c : Nat) (h1 : qH) (x4 : Option Value), c + w = (cnr bs j).length → Ch [76] [] h h1 → (∀ t, t < c → hi h1 76 t = iN ((dulL bs j).getD t 0)) → ∃ h' x4', (∀ R, qEv (d + 3) 0 qk_251 72 [some (.ref 55), some (.int (iN i)), some (.int (iN j)), some (.int (iN c)), x4] [] h1 R ↔ qEv (d + 3) 0 qk_251 72 [some (.ref 55), some (.int (iN i)), some (.int (iN j)), some (.int (iN ((cnr bs j).length))), x4'] [] h' R) ∧ Ch [76] [] h h' ∧ ∀ t, t < (cnr bs j).length → hi h' 76 t = iN ((dulL bs j).getD t 0) := by
  have lj := (B.corn hj').2.1
  intro w
  induction w with
  | zero =>
    intro c h1 x4 hw c1 v
    have e : c = (cnr bs j).length := by omega
    subst e
    exact ⟨h1, x4, fun R => Iff.rfl, c1, v⟩
  | succ w ih =>
    intro c h1 x4 hw c1 v
    have s1 := c1.sh
    obtain ⟨x4', r1⟩ := in_row (d := d) (i := i) (x4 := x4) s1 (B.ch c1 (by decide) (by decide)) hj' h16 (show c < (cnr bs j).length by omega)
    obtain ⟨h', x5, r2, c2, v2⟩ := ih (c + 1) (sI h1 76 (upd (hi h1 76) c (iN (mask (atC bs j c) (fct bs j).length)))) x4' (by omega) (c1.trans (Ch.rowI s1 (kM_76 s1) (by decide))) (fun t ht => by
      rw [hi_sI, if_pos rfl, upd_at]
      by_cases e : t = c
      · rw [if_pos e, e, dul_at (by omega)]
      · rw [if_neg e]; exact v t (by omega))
    exact ⟨h', x5, fun R => (r1 R).trans (r2 R), c2, v2⟩
noncomputable def dulI (bs : List bdy) (i j : Nat) : Int32 := if dmn bs i = dmn bs j ∧ (cnr bs i).length = (fct bs j).length ∧ (fct bs i).length = (cnr bs j).length then fitI (cnr bs i).length (fct bs i) (dulL bs j) else 0
set_option maxRecDepth 100000 in
set_option maxHeartbeats 16000000 in
theorem s_inside {x y : Int32} (s : ShM h) (B : BsM h bs) : ∃ h', (∀ R, qMC (d + 4) 251 [.ref 55, .int x, .int y] h R ↔ R = (some (.int (twoR bs (dulI bs) x y)), h')) ∧ Ch [75, 76, 77, 78, 79] [25, 28] h h' := by
  have b24 := B.1
  have n1 : ¬ (1 : Int32) = iN 0 := by decide
  by_cases hx : isB bs x
  · by_cases hy : isB bs y
    · have bx := fun R => s_isBody1 (d := d + 1) (R := R) s B hx
      have by' := fun R => s_isBody1 (d := d + 1) (R := R) s B hy
      obtain ⟨i, hi', rfl⟩ := hx
      obtain ⟨j, hj', rfl⟩ := hy
      rw [twoR_at B.1 hi' hj']
      have ni := (B.corn hi').1
      have nj := (B.corn hj').1
      have li := (B.corn hi').2.1
      have lj := (B.corn hj').2.1
      obtain ⟨di, di2, di4⟩ := B.dim hi'
      obtain ⟨dj, dj2, dj4⟩ := B.dim hj'
      have fi := fct_l B hi'
      have fj := fct_l B hj'
      have si : ∀ R, qMC (d + 3) 197 [.ref 55, .int (iN i)] h R ↔ R = (some (.int (iN (fct bs i).length)), h) := fun R => s_facetsC s B hi'
      have sj : ∀ R, qMC (d + 3) 197 [.ref 55, .int (iN j)] h R ↔ R = (some (.int (iN (fct bs j).length)), h) := fun R => s_facetsC s B hj'
      by_cases g1 : dmn bs i = dmn bs j
      · by_cases g2 : (cnr bs i).length = (fct bs j).length
        · by_cases g3 : (fct bs i).length = (cnr bs j).length
          · obtain ⟨h1, r1, c1, e25, e28, e75⟩ := s_takeOne (d := d) s B hi'
            have s1 := c1.sh
            have B1 : BsM h1 bs := B.ch c1 (by decide) (by decide)
            obtain ⟨h2, x4, r2, c2, e76⟩ := in_rows (d := d) (i := i) s1 B1 hj' (by omega) (cnr bs j).length 0 h1 none (by omega) (Ch.refl s1) (fun t ht => absurd ht (Nat.not_lt_zero t))
            have s2 := c2.sh
            have n2 : hi h2 57 j = iN (cnr bs j).length := by rw [c2.hi (by decide) (by decide), c1.hi (by decide) (by decide)]; exact nj
            have v := mtv_of (j := i) B hi' e25 e28 e75 c2 (by decide) (by decide) (by decide) (dul_len.trans g3.symm) (fun t ht => ⟨e76 t (by rw [dul_len] at ht; exact ht), by rw [dul_at (by rw [dul_len] at ht; exact ht)]; exact mask_16 (by omega)⟩)
            obtain ⟨h3, r3, c3⟩ := s_renamings (d := d) (most := 1) s2 v (oka_of B hi' (dul_len.trans g3.symm)) (by have := B.nc hi'; omega) (by decide) (by decide)
            refine ⟨h3, fun R => ?_, ((c1.mono (by decide) (by decide)).trans (c2.mono (by decide) (by decide))).trans (c3.mono (by decide) (by decide))⟩
            unfold dulI
            rw [if_pos ⟨g1, g2, g3⟩, ← fit1]
            have r0 : qMC (d + 4) 251 [.ref 55, .int (iN i), .int (iN j)] h R ↔ qEv (d + 3) 0 qk_251 72 [some (.ref 55), some (.int (iN i)), some (.int (iN j)), some (.int (iN 0)), none] [] h1 R := by
              simp (disch := first | assumption | omega) only [e251_0, e251_1, e251_2, e251_5, e251_8, e251_9, e251_10, e251_13, e251_16, e251_19, e251_20, e251_21, e251_24, e251_25, e251_26, e251_27, e251_30, e251_31, e251_32, e251_35, e251_36, e251_39, e251_40, e251_41, e251_42, e251_43, e251_46, e251_49, e251_50, e251_51, e251_54, e251_55, e251_58, e251_59, e251_60, e251_63, e251_64, e251_65, e251_66, e251_67, e251_70, e251_71, e251_73, e251_74, e251_77, e251_78, e251_79, e251_82, e251_83, e251_86, e251_87, e251_88, e251_89, e251_90, e251_92, e251_94, e251_95, e251_96, e251_99, e251_102, e251_103, e251_106, e251_107, e251_108, e251_109, e251_110, e251_111, e251_113, e251_116, e251_117, e251_118, e251_119, e251_120, e251_122, e251_123, e251_124, e251_125, e251_128, e251_131, e251_134, e251_137, e251_138, e251_139, e251_142, m251, ↓reduceIte, qg_0, qg_1, qg_2, qg_3, qg_4, qg_5, qg_6, qg_7, qg_8, qg_9, qg_10, qg_11, qg_12, qg_13, not_true_eq_false, not_false_eq_true, Nat.reduceBEq, Bool.false_eq_true, ex1, ex3, ex4, exF, qfit_i, qfit_l, qfit_r, qfit_n, qfit_b0, qfit_b1, qcat_i, qcat_r, qcat_n, qcat_l, qroom_0, qroom_c, List.map_cons, List.map_nil, List.sum_cons, List.sum_nil, Nat.reduceAdd, Nat.reduceMul, Nat.reduceLT, Nat.reduceLeDiff, Nat.reduceEqDiff, Nat.reduceSub, decide_true, true_and, and_true, and_self, if_true, if_false, Option.toList_some, Option.toList_none, List.cons_append, List.nil_append, qsL, qlong, List.length_cons, List.length_nil, iN_L, vM1, vM2, exI, iN_add, iN_mul, iN_le, iN_lt, iN_eq, Nat.le_refl, qfN0, qfN1, bx, by', iN10, gM_1, gM_2, rM_56, rM_57, di, dj, g1, ni, nj, si, sj, g2, g3, r1]
            rw [r0, r2 R, e251_72]
            simp (disch := first | assumption | omega) only [e251_0, e251_1, e251_2, e251_5, e251_8, e251_9, e251_10, e251_13, e251_16, e251_19, e251_20, e251_21, e251_24, e251_25, e251_26, e251_27, e251_30, e251_31, e251_32, e251_35, e251_36, e251_39, e251_40, e251_41, e251_42, e251_43, e251_46, e251_49, e251_50, e251_51, e251_54, e251_55, e251_58, e251_59, e251_60, e251_63, e251_64, e251_65, e251_66, e251_67, e251_70, e251_71, e251_73, e251_74, e251_77, e251_78, e251_79, e251_82, e251_83, e251_86, e251_87, e251_88, e251_89, e251_90, e251_92, e251_94, e251_95, e251_96, e251_99, e251_102, e251_103, e251_106, e251_107, e251_108, e251_109, e251_110, e251_111, e251_113, e251_116, e251_117, e251_118, e251_119, e251_120, e251_122, e251_123, e251_124, e251_125, e251_128, e251_131, e251_134, e251_137, e251_138, e251_139, e251_142, m251, ↓reduceIte, qg_0, qg_1, qg_2, qg_3, qg_4, qg_5, qg_6, qg_7, qg_8, qg_9, qg_10, qg_11, qg_12, qg_13, not_true_eq_false, not_false_eq_true, Nat.reduceBEq, Bool.false_eq_true, ex1, ex3, ex4, exF, qfit_i, qfit_l, qfit_r, qfit_n, qfit_b0, qfit_b1, qcat_i, qcat_r, qcat_n, qcat_l, qroom_0, qroom_c, List.map_cons, List.map_nil, List.sum_cons, List.sum_nil, Nat.reduceAdd, Nat.reduceMul, Nat.reduceLT, Nat.reduceLeDiff, Nat.reduceEqDiff, Nat.reduceSub, decide_true, true_and, and_true, and_self, if_true, if_false, Option.toList_some, Option.toList_none, List.cons_append, List.nil_append, qsL, qlong, List.length_cons, List.length_nil, iN_L, vM1, vM2, exI, iN_add, iN_mul, iN_le, iN_lt, iN_eq, Nat.le_refl, qfN0, qfN1, gM_2, rM_57, n2, r3]
          · refine ⟨h, fun R => ?_, Ch.refl s⟩
            unfold dulI
            rw [if_neg fun z => g3 z.2.2]
            simp (disch := first | assumption | omega) only [e251_0, e251_1, e251_2, e251_5, e251_8, e251_9, e251_10, e251_13, e251_16, e251_19, e251_20, e251_21, e251_24, e251_25, e251_26, e251_27, e251_30, e251_31, e251_32, e251_35, e251_36, e251_39, e251_40, e251_41, e251_42, e251_43, e251_46, e251_49, e251_50, e251_51, e251_54, e251_55, e251_58, e251_59, e251_60, e251_63, e251_64, e251_65, e251_66, e251_67, e251_70, e251_71, e251_73, e251_74, e251_77, e251_78, e251_79, e251_82, e251_83, e251_86, e251_87, e251_88, e251_89, e251_90, e251_92, e251_94, e251_95, e251_96, e251_99, e251_102, e251_103, e251_106, e251_107, e251_108, e251_109, e251_110, e251_111, e251_113, e251_116, e251_117, e251_118, e251_119, e251_120, e251_122, e251_123, e251_124, e251_125, e251_128, e251_131, e251_134, e251_137, e251_138, e251_139, e251_142, m251, ↓reduceIte, qg_0, qg_1, qg_2, qg_3, qg_4, qg_5, qg_6, qg_7, qg_8, qg_9, qg_10, qg_11, qg_12, qg_13, not_true_eq_false, not_false_eq_true, Nat.reduceBEq, Bool.false_eq_true, ex1, ex3, ex4, exF, qfit_i, qfit_l, qfit_r, qfit_n, qfit_b0, qfit_b1, qcat_i, qcat_r, qcat_n, qcat_l, qroom_0, qroom_c, List.map_cons, List.map_nil, List.sum_cons, List.sum_nil, Nat.reduceAdd, Nat.reduceMul, Nat.reduceLT, Nat.reduceLeDiff, Nat.reduceEqDiff, Nat.reduceSub, decide_true, true_and, and_true, and_self, if_true, if_false, Option.toList_some, Option.toList_none, List.cons_append, List.nil_append, qsL, qlong, List.length_cons, List.length_nil, iN_L, vM1, vM2, exI, iN_add, iN_mul, iN_le, iN_lt, iN_eq, Nat.le_refl, qfN0, qfN1, bx, by', iN10, gM_1, gM_2, rM_56, rM_57, di, dj, g1, ni, nj, si, sj, g2, g3]
        · refine ⟨h, fun R => ?_, Ch.refl s⟩
          unfold dulI
          rw [if_neg fun z => g2 z.2.1]
          simp (disch := first | assumption | omega) only [e251_0, e251_1, e251_2, e251_5, e251_8, e251_9, e251_10, e251_13, e251_16, e251_19, e251_20, e251_21, e251_24, e251_25, e251_26, e251_27, e251_30, e251_31, e251_32, e251_35, e251_36, e251_39, e251_40, e251_41, e251_42, e251_43, e251_46, e251_49, e251_50, e251_51, e251_54, e251_55, e251_58, e251_59, e251_60, e251_63, e251_64, e251_65, e251_66, e251_67, e251_70, e251_71, e251_73, e251_74, e251_77, e251_78, e251_79, e251_82, e251_83, e251_86, e251_87, e251_88, e251_89, e251_90, e251_92, e251_94, e251_95, e251_96, e251_99, e251_102, e251_103, e251_106, e251_107, e251_108, e251_109, e251_110, e251_111, e251_113, e251_116, e251_117, e251_118, e251_119, e251_120, e251_122, e251_123, e251_124, e251_125, e251_128, e251_131, e251_134, e251_137, e251_138, e251_139, e251_142, m251, ↓reduceIte, qg_0, qg_1, qg_2, qg_3, qg_4, qg_5, qg_6, qg_7, qg_8, qg_9, qg_10, qg_11, qg_12, qg_13, not_true_eq_false, not_false_eq_true, Nat.reduceBEq, Bool.false_eq_true, ex1, ex3, ex4, exF, qfit_i, qfit_l, qfit_r, qfit_n, qfit_b0, qfit_b1, qcat_i, qcat_r, qcat_n, qcat_l, qroom_0, qroom_c, List.map_cons, List.map_nil, List.sum_cons, List.sum_nil, Nat.reduceAdd, Nat.reduceMul, Nat.reduceLT, Nat.reduceLeDiff, Nat.reduceEqDiff, Nat.reduceSub, decide_true, true_and, and_true, and_self, if_true, if_false, Option.toList_some, Option.toList_none, List.cons_append, List.nil_append, qsL, qlong, List.length_cons, List.length_nil, iN_L, vM1, vM2, exI, iN_add, iN_mul, iN_le, iN_lt, iN_eq, Nat.le_refl, qfN0, qfN1, bx, by', iN10, gM_1, gM_2, rM_56, rM_57, di, dj, g1, ni, nj, si, sj, g2]
      · refine ⟨h, fun R => ?_, Ch.refl s⟩
        unfold dulI
        rw [if_neg fun z => g1 z.1]
        simp (disch := first | assumption | omega) only [e251_0, e251_1, e251_2, e251_5, e251_8, e251_9, e251_10, e251_13, e251_16, e251_19, e251_20, e251_21, e251_24, e251_25, e251_26, e251_27, e251_30, e251_31, e251_32, e251_35, e251_36, e251_39, e251_40, e251_41, e251_42, e251_43, e251_46, e251_49, e251_50, e251_51, e251_54, e251_55, e251_58, e251_59, e251_60, e251_63, e251_64, e251_65, e251_66, e251_67, e251_70, e251_71, e251_73, e251_74, e251_77, e251_78, e251_79, e251_82, e251_83, e251_86, e251_87, e251_88, e251_89, e251_90, e251_92, e251_94, e251_95, e251_96, e251_99, e251_102, e251_103, e251_106, e251_107, e251_108, e251_109, e251_110, e251_111, e251_113, e251_116, e251_117, e251_118, e251_119, e251_120, e251_122, e251_123, e251_124, e251_125, e251_128, e251_131, e251_134, e251_137, e251_138, e251_139, e251_142, m251, ↓reduceIte, qg_0, qg_1, qg_2, qg_3, qg_4, qg_5, qg_6, qg_7, qg_8, qg_9, qg_10, qg_11, qg_12, qg_13, not_true_eq_false, not_false_eq_true, Nat.reduceBEq, Bool.false_eq_true, ex1, ex3, ex4, exF, qfit_i, qfit_l, qfit_r, qfit_n, qfit_b0, qfit_b1, qcat_i, qcat_r, qcat_n, qcat_l, qroom_0, qroom_c, List.map_cons, List.map_nil, List.sum_cons, List.sum_nil, Nat.reduceAdd, Nat.reduceMul, Nat.reduceLT, Nat.reduceLeDiff, Nat.reduceEqDiff, Nat.reduceSub, decide_true, true_and, and_true, and_self, if_true, if_false, Option.toList_some, Option.toList_none, List.cons_append, List.nil_append, qsL, qlong, List.length_cons, List.length_nil, iN_L, vM1, vM2, exI, iN_add, iN_mul, iN_le, iN_lt, iN_eq, Nat.le_refl, qfN0, qfN1, bx, by', iN10, gM_1, gM_2, rM_56, rM_57, di, dj, g1]
    · refine ⟨h, fun R => ?_, Ch.refl s⟩
      rw [twoR_no fun z => hy z.2]
      simp (disch := first | assumption | omega) only [e251_0, e251_1, e251_2, e251_5, e251_8, e251_9, e251_10, e251_13, e251_16, e251_19, e251_20, e251_21, e251_24, e251_25, e251_26, e251_27, e251_30, e251_31, e251_32, e251_35, e251_36, e251_39, e251_40, e251_41, e251_42, e251_43, e251_46, e251_49, e251_50, e251_51, e251_54, e251_55, e251_58, e251_59, e251_60, e251_63, e251_64, e251_65, e251_66, e251_67, e251_70, e251_71, e251_73, e251_74, e251_77, e251_78, e251_79, e251_82, e251_83, e251_86, e251_87, e251_88, e251_89, e251_90, e251_92, e251_94, e251_95, e251_96, e251_99, e251_102, e251_103, e251_106, e251_107, e251_108, e251_109, e251_110, e251_111, e251_113, e251_116, e251_117, e251_118, e251_119, e251_120, e251_122, e251_123, e251_124, e251_125, e251_128, e251_131, e251_134, e251_137, e251_138, e251_139, e251_142, m251, ↓reduceIte, qg_0, qg_1, qg_2, qg_3, qg_4, qg_5, qg_6, qg_7, qg_8, qg_9, qg_10, qg_11, qg_12, qg_13, not_true_eq_false, not_false_eq_true, Nat.reduceBEq, Bool.false_eq_true, ex1, ex3, ex4, exF, qfit_i, qfit_l, qfit_r, qfit_n, qfit_b0, qfit_b1, qcat_i, qcat_r, qcat_n, qcat_l, qroom_0, qroom_c, List.map_cons, List.map_nil, List.sum_cons, List.sum_nil, Nat.reduceAdd, Nat.reduceMul, Nat.reduceLT, Nat.reduceLeDiff, Nat.reduceEqDiff, Nat.reduceSub, decide_true, true_and, and_true, and_self, if_true, if_false, Option.toList_some, Option.toList_none, List.cons_append, List.nil_append, qsL, qlong, List.length_cons, List.length_nil, iN_L, vM1, vM2, exI, iN_add, iN_mul, iN_le, iN_lt, iN_eq, Nat.le_refl, qfN0, qfN1, iN10, s_isBody1 (d := d + 1) s B hx, s_isBody0 (d := d + 1) s B hy]
  · refine ⟨h, fun R => ?_, Ch.refl s⟩
    rw [twoR_no fun z => hx z.1]
    simp (disch := first | assumption | omega) only [e251_0, e251_1, e251_2, e251_5, e251_8, e251_9, e251_10, e251_13, e251_16, e251_19, e251_20, e251_21, e251_24, e251_25, e251_26, e251_27, e251_30, e251_31, e251_32, e251_35, e251_36, e251_39, e251_40, e251_41, e251_42, e251_43, e251_46, e251_49, e251_50, e251_51, e251_54, e251_55, e251_58, e251_59, e251_60, e251_63, e251_64, e251_65, e251_66, e251_67, e251_70, e251_71, e251_73, e251_74, e251_77, e251_78, e251_79, e251_82, e251_83, e251_86, e251_87, e251_88, e251_89, e251_90, e251_92, e251_94, e251_95, e251_96, e251_99, e251_102, e251_103, e251_106, e251_107, e251_108, e251_109, e251_110, e251_111, e251_113, e251_116, e251_117, e251_118, e251_119, e251_120, e251_122, e251_123, e251_124, e251_125, e251_128, e251_131, e251_134, e251_137, e251_138, e251_139, e251_142, m251, ↓reduceIte, qg_0, qg_1, qg_2, qg_3, qg_4, qg_5, qg_6, qg_7, qg_8, qg_9, qg_10, qg_11, qg_12, qg_13, not_true_eq_false, not_false_eq_true, Nat.reduceBEq, Bool.false_eq_true, ex1, ex3, ex4, exF, qfit_i, qfit_l, qfit_r, qfit_n, qfit_b0, qfit_b1, qcat_i, qcat_r, qcat_n, qcat_l, qroom_0, qroom_c, List.map_cons, List.map_nil, List.sum_cons, List.sum_nil, Nat.reduceAdd, Nat.reduceMul, Nat.reduceLT, Nat.reduceLeDiff, Nat.reduceEqDiff, Nat.reduceSub, decide_true, true_and, and_true, and_self, if_true, if_false, Option.toList_some, Option.toList_none, List.cons_append, List.nil_append, qsL, qlong, List.length_cons, List.length_nil, iN_L, vM1, vM2, exI, iN_add, iN_mul, iN_le, iN_lt, iN_eq, Nat.le_refl, qfN0, qfN1, s_isBody0 (d := d + 1) s B hx]
end INSIDE

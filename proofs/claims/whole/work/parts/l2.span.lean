/-! ===== THE CLASS: spanPlane, setOnPlane ===== -/
section XSPAN
variable {d D : Nat} {h : qH} {R : qRes} {l : List pt4} {c0 c1 c2 c3 : Nat}
theorem d3_ext {u v w u' v' w' : Nat → Int} {a b c : Nat} (ha : a < 4) (hb : b < 4) (hc : c < 4) (h1 : ∀ k, k < 4 → u k = u' k) (h2 : ∀ k, k < 4 → v k = v' k) (h3 : ∀ k, k < 4 → w k = w' k) : d3 u v w a b c = d3 u' v' w' a b c := by
  unfold d3
  rw [h1 a ha, h1 b hb, h1 c hc, h2 a ha, h2 b hb, h2 c hc, h3 a ha, h3 b hb, h3 c hc]
theorem cu3_d3 (E : Nat → Nat → Int) (x y z : Nat) : cu3 E 0 1 2 x y z = d3 (E 0) (E 1) (E 2) x y z := rfl
/-- the plane of a choice as the class has it -/
def xpN (l : List pt4) (D c0 c1 c2 c3 : Nat) (t : Nat) : Int := if t = 4 then sumZ (fun k => rawN (lP l) D c0 c1 c2 c3 k * lP l c0 k) 4 else rawN (lP l) D c0 c1 c2 c3 t
theorem lP_sm (sm : smP l) {p k : Nat} (hk : k < 4) (hp : p < l.length) : -999 ≤ lP l p k ∧ lP l p k ≤ 999 := by
  unfold lP
  rw [lP_at hp]
  exact sm _ (List.getElem_mem hp) k hk
/-- the rows of a choice -/
def F3 (l : List pt4) (D c0 c1 c2 c3 : Nat) (a : Nat) : Nat → Int := if a = 0 then ap (lP l) c0 c1 else if a = 1 then dV (lP l) D c0 c2 else dW (lP l) D c0 c3
theorem F3_b (sm : smP l) (i : inc l.length D c0 c1 c2 c3) {a k : Nat} (hk : k < 4) : -1998 ≤ F3 l D c0 c1 c2 c3 a k ∧ F3 l D c0 c1 c2 c3 a k ≤ 1998 := by
  obtain ⟨l0, l1, l2, l3⟩ := i.lt
  have a0 := lP_sm sm hk l0
  have a1 := lP_sm sm hk l1
  unfold F3 dV dW
  by_cases z0 : a = 0
  · rw [if_pos z0]; unfold ap; omega
  · rw [if_neg z0]
    by_cases z1 : a = 1
    · rw [if_pos z1]
      by_cases z2 : 3 ≤ D
      · rw [if_pos z2]; have := lP_sm sm hk (l2 z2); unfold ap; omega
      · rw [if_neg z2]; try dsimp only
        split <;> omega
    · rw [if_neg z1]
      by_cases z2 : 4 ≤ D
      · rw [if_pos z2]; have := lP_sm sm hk (l3 z2); unfold ap; omega
      · rw [if_neg z2]; try dsimp only
        split <;> omega
theorem raw_F3 (hD : 2 ≤ D ∧ D ≤ 4) : rawN (lP l) D c0 c1 c2 c3 0 = cu3 (F3 l D c0 c1 c2 c3) 0 1 2 1 2 3 ∧ rawN (lP l) D c0 c1 c2 c3 1 = -cu3 (F3 l D c0 c1 c2 c3) 0 1 2 0 2 3 ∧ rawN (lP l) D c0 c1 c2 c3 2 = cu3 (F3 l D c0 c1 c2 c3) 0 1 2 0 1 3 ∧ rawN (lP l) D c0 c1 c2 c3 3 = -cu3 (F3 l D c0 c1 c2 c3) 0 1 2 0 1 2 := raw_cross hD
theorem raw_b (sm : smP l) (i : inc l.length D c0 c1 c2 c3) {k : Nat} (hk : k < 4) : -47856143952 ≤ rawN (lP l) D c0 c1 c2 c3 k ∧ rawN (lP l) D c0 c1 c2 c3 k ≤ 47856143952 := by
  obtain ⟨r0, r1, r2, r3⟩ := raw_F3 (l := l) (c0 := c0) (c1 := c1) (c2 := c2) (c3 := c3) i.1
  have key : ∀ x y z, x < 4 → y < 4 → z < 4 → -47856143952 ≤ cu3 (F3 l D c0 c1 c2 c3) 0 1 2 x y z ∧ cu3 (F3 l D c0 c1 c2 c3) 0 1 2 x y z ≤ 47856143952 := fun x y z hx hy hz => cu3_b (m := 3) (fun r k _ hk => F3_b sm i hk) (by decide) (by decide) (by decide) hx hy hz
  match k, hk with
  | 0, _ => rw [r0]; exact key 1 2 3 (by decide) (by decide) (by decide)
  | 1, _ => rw [r1]; have := key 0 2 3 (by decide) (by decide) (by decide); omega
  | 2, _ => rw [r2]; exact key 0 1 3 (by decide) (by decide) (by decide)
  | 3, _ => rw [r3]; have := key 0 1 2 (by decide) (by decide) (by decide); omega
set_option maxRecDepth 100000 in
set_option maxHeartbeats 32000000 in
theorem x_spanPlane (s : ShX h) (v : HtX h D l) (sm : smP l) (h16 : l.length ≤ 16) (i : inc l.length D c0 c1 c2 c3) : ∃ h', (∀ R, qMC (d + 4) 30 [.ref 19, .int (iN (stL (cl4 D c0 c1 c2 c3)))] h R ↔ R = (some (.int (bB (tB (∃ k, k < 4 ∧ rawN (lP l) D c0 c1 c2 c3 k ≠ 0)))), h')) ∧ ChX [23, 24] [] 0 h h' ∧ ∀ t, t < 5 → hl h' 24 t = lZ (xpN l D c0 c1 c2 c3 t) := by
  obtain ⟨E, P0, eh⟩ := H2_of s
  have hD := i.1
  obtain ⟨l0, l1, l2, l3⟩ := i.lt
  obtain ⟨cin, cn⟩ := cl4_in h16 i
  obtain ⟨x, ex⟩ : ∃ x, x = stL (cl4 D c0 c1 c2 c3) := ⟨_, rfl⟩
  have mx : mems x = cl4 D c0 c1 c2 c3 := by rw [ex]; exact mems_stL cin
  have x16 : x < 65536 := by rw [ex]; exact stL_lt cin
  have px : pop x 16 = D := by rw [pop_mems, mx, cl4_len hD]
  have xb : ∀ c, x.testBit c = true → c < l.length := fun c hc => cn c (by rw [← mx]; exact (mem_mems x16).mpr hc)
  have sp : spR h 20 l.length (lP l) := ⟨64, kX_20 s, by omega, h16, fun c hc k hk => ⟨by rw [show c * 4 + k = 4 * c + k by omega]; exact (v.2.2.2 c hc (by omega) k hk).1, lP_sm sm hk hc⟩⟩
  have rw' : ∀ R, qMC (d + 3) 29 [.ref 19, .int (iN x), .ref 20] h R ↔ R = (some (.int (iN (D - 1))), H2 h (rwE E x (lP l) 16) P0) := fun R => by
    have := x_rowsWithin (d := d) (E := E) (P := P0) (R := R) s sp x16 xb (by omega)
    rw [← eh, px] at this
    exact this
  have e0 : (mbr x 16).getD 0 0 = c0 := by
    show (mems x).getD 0 0 = c0
    rw [mx]; unfold cl4
    split
    · rfl
    · split <;> rfl
  have lo : ∀ h' R, qMC (d + 3) 178 [.int (iN x)] h' R ↔ R = (some (.int (iN c0)), h') := fun h' R => by
    have h1 : ∃ ms, cl4 D c0 c1 c2 c3 = c0 :: ms := by
      unfold cl4
      split
      · exact ⟨_, rfl⟩
      · split
        · exact ⟨_, rfl⟩
        · exact ⟨_, rfl⟩
    obtain ⟨ms, em⟩ := h1
    rw [em] at cin ex
    rw [ex]
    exact x_least cin
  obtain ⟨F0, eF0⟩ : ∃ F0, F0 = rwE E x (lP l) 16 := ⟨_, rfl⟩
  rw [← eF0] at rw'
  have f0 : ∀ a k, a < D - 1 → k < 4 → F0 a k = F3 l D c0 c1 c2 c3 a k := fun a k ha hk => by
    rw [eF0]
    unfold rwE
    rw [px, if_pos ⟨ha, hk⟩, e0]
    show lP l ((mems x).getD (a + 1) 0) k - _ = _
    rw [mx]
    have h3 : D = 2 ∨ D = 3 ∨ D = 4 := by omega
    rcases h3 with rfl | rfl | rfl
    · rw [show a = 0 by omega]; rfl
    · match a, ha with
      | 0, _ => rfl
      | 1, _ => rfl
    · match a, ha with
      | 0, _ => rfl
      | 1, _ => rfl
      | 2, _ => rfl
  obtain ⟨F, eF⟩ : ∃ F : Nat → Nat → Int, F = fun a k => if D - 1 ≤ a ∧ a < 3 ∧ k < 4 then (if k = a + 1 then 1 else 0) else F0 a k := ⟨_, rfl⟩
  have fl : ∀ a k, a < D - 1 → F a k = F0 a k := fun a k ha => by rw [eF]; exact if_neg (fun z => by omega)
  have fu : ∀ a k, D - 1 ≤ a → a < 3 → k < 4 → F a k = if k = a + 1 then 1 else 0 := fun a k h1 h2 h3 => by rw [eF]; exact if_pos ⟨h1, h2, h3⟩
  have fF : ∀ a k, a < 3 → k < 4 → F a k = F3 l D c0 c1 c2 c3 a k := fun a k ha hk => by
    rcases Nat.lt_or_ge a (D - 1) with z | z
    · rw [fl a k z, f0 a k z hk]
    · rw [fu a k z ha hk]
      show (if k = a + 1 then (1 : Int) else 0) = (if a = 0 then ap (lP l) c0 c1 else if a = 1 then dV (lP l) D c0 c2 else dW (lP l) D c0 c3) k
      rw [if_neg (show ¬ a = 0 by omega)]
      by_cases z1 : a = 1
      · rw [if_pos z1, z1]
        unfold dV
        rw [if_neg (show ¬ 3 ≤ D by omega)]
      · rw [if_neg z1, show a = 2 by omega]
        unfold dW
        rw [if_neg (show ¬ 4 ≤ D by omega)]
  have sH : ∀ E P, ShX (H2 h E P) := fun E P => (H2_ch s).sh
  have un : ∀ R, qMC (d + 4) 30 [.ref 19, .int (iN x)] h R ↔ qEv (d + 3) 3 qk_30 29 [some (.ref 19), some (.int (iN x)), some (.int (iN 3))] [] (H2 h F P0) R := by
    intro R
    have go : ∀ (w a : Nat), a + w = 3 → D - 1 ≤ a → (qEv (d + 3) 3 qk_30 10 [some (.ref 19), some (.int (iN x)), some (.int (iN a))] [] (H2 h (fun b k => if b < a then F b k else F0 b k) P0) R ↔ qEv (d + 3) 3 qk_30 29 [some (.ref 19), some (.int (iN x)), some (.int (iN 3))] [] (H2 h F P0) R) := by
      intro w
      induction w with
      | zero =>
        intro a ha hDa
        have e4 : a = 3 := by omega
        subst e4
        have e5 : (fun b k => if b < 3 then F b k else F0 b k) = F := by
          funext b k
          by_cases z : b < 3
          · rw [if_pos z]
          · rw [if_neg z, eF]; exact (if_neg (fun y => by omega)).symm
        rw [e5, e30_10]
        have s1 := sH F P0
        simp (disch := first | assumption | omega) only [e30_0, e30_1, e30_2, e30_3, e30_6, e30_9, e30_11, e30_12, e30_15, e30_16, e30_17, e30_18, e30_19, e30_20, e30_23, e30_26, e30_30, e30_33, e30_34, e30_37, e30_38, e30_39, e30_40, e30_41, e30_44, e30_45, e30_46, e30_49, e30_50, e30_51, e30_52, e30_55, e30_56, e30_57, e30_58, e30_59, e30_60, e30_63, e30_64, e30_65, e30_66, e30_69, e30_70, e30_71, e30_72, e30_73, e30_74, e30_75, e30_76, e30_77, e30_80, e30_81, e30_82, e30_83, e30_86, e30_87, e30_88, e30_89, e30_90, e30_91, e30_92, e30_93, e30_94, e30_97, e30_98, e30_99, e30_100, e30_103, e30_104, e30_105, e30_106, e30_107, e30_108, e30_109, e30_110, e30_111, e30_112, e30_115, e30_116, e30_117, e30_118, e30_119, e30_122, e30_123, e30_126, e30_127, e30_128, e30_129, e30_130, e30_133, e30_134, e30_137, e30_138, e30_139, e30_140, e30_141, e30_144, e30_145, e30_148, e30_149, e30_150, e30_151, e30_152, e30_155, e30_156, e30_159, e30_160, m30, ↓reduceIte, qg_0, qg_1, qg_2, qg_3, qg_4, qg_5, qg_6, qg_7, qg_8, qg_9, qg_10, qg_11, qg_12, qg_13, not_true_eq_false, not_false_eq_true, Nat.reduceBEq, Bool.false_eq_true, ex1, ex3, ex4, exF, qfit_i, qfit_l, qfit_r, qfit_n, qfit_b0, qfit_b1, qcat_i, qcat_r, qcat_n, qcat_l, qroom_0, qroom_c, List.map_cons, List.map_nil, List.sum_cons, List.sum_nil, Nat.reduceAdd, Nat.reduceMul, Nat.reduceLT, Nat.reduceLeDiff, Nat.reduceEqDiff, Nat.reduceSub, decide_true, true_and, and_true, and_self, if_true, if_false, Option.toList_some, Option.toList_none, List.cons_append, List.nil_append, qsL, qlong, List.length_cons, List.length_nil, iN_L, exI, iN_add, iN_mul, iN_le, iN_lt, iN_eq, Nat.le_refl, qfN0, qfN1, uX_16, vX_16, uX_19, vX_19, uX_27, vX_27, uX_30, vX_30, uX_39, vX_39, uX_41, vX_41, uX_43, vX_43, uX_46, vX_46, uX_50, vX_50, uX_53, vX_53]
      | succ w ih =>
        intro a ha hDa
        have s1 := sH (fun b k => if b < a then F b k else F0 b k) P0
        have ru : ∀ R, qMC (d + 3) 28 [.ref 19, .int (iN a), .int (iN (a + 1))] (H2 h (fun b k => if b < a then F b k else F0 b k) P0) R ↔ R = (none, H2 h (fun b k => if b < a + 1 then F b k else F0 b k) P0) := fun R => by
          rw [x_rowOfUnit s (by omega) (by omega)]
          have : updE (fun b k => if b < a then F b k else F0 b k) a (fun k => if k = a + 1 then 1 else 0) = (fun b k => if b < a + 1 then F b k else F0 b k) := by
            funext b k
            show (if b = a ∧ k < 4 then (if k = a + 1 then (1 : Int) else 0) else (if b < a then F b k else F0 b k)) = (if b < a + 1 then F b k else F0 b k)
            by_cases z : b = a
            · by_cases zk : k < 4
              · rw [if_pos ⟨z, zk⟩, if_pos (show b < a + 1 by omega), fu b k (by omega) (by omega) zk, z]
              · rw [if_neg (fun y => zk y.2), if_neg (show ¬ b < a by omega), if_pos (show b < a + 1 by omega), eF]
                exact (if_neg (fun y => zk y.2.2)).symm
            · rw [if_neg (fun y => z y.1)]
              by_cases z2 : b < a
              · rw [if_pos z2, if_pos (show b < a + 1 by omega)]
              · rw [if_neg z2, if_neg (show ¬ b < a + 1 by omega)]
          rw [this]
        rw [← ih (a + 1) (by omega) (by omega), e30_10]
        simp (disch := first | assumption | omega) only [e30_0, e30_1, e30_2, e30_3, e30_6, e30_9, e30_11, e30_12, e30_15, e30_16, e30_17, e30_18, e30_19, e30_20, e30_23, e30_26, e30_30, e30_33, e30_34, e30_37, e30_38, e30_39, e30_40, e30_41, e30_44, e30_45, e30_46, e30_49, e30_50, e30_51, e30_52, e30_55, e30_56, e30_57, e30_58, e30_59, e30_60, e30_63, e30_64, e30_65, e30_66, e30_69, e30_70, e30_71, e30_72, e30_73, e30_74, e30_75, e30_76, e30_77, e30_80, e30_81, e30_82, e30_83, e30_86, e30_87, e30_88, e30_89, e30_90, e30_91, e30_92, e30_93, e30_94, e30_97, e30_98, e30_99, e30_100, e30_103, e30_104, e30_105, e30_106, e30_107, e30_108, e30_109, e30_110, e30_111, e30_112, e30_115, e30_116, e30_117, e30_118, e30_119, e30_122, e30_123, e30_126, e30_127, e30_128, e30_129, e30_130, e30_133, e30_134, e30_137, e30_138, e30_139, e30_140, e30_141, e30_144, e30_145, e30_148, e30_149, e30_150, e30_151, e30_152, e30_155, e30_156, e30_159, e30_160, m30, ↓reduceIte, qg_0, qg_1, qg_2, qg_3, qg_4, qg_5, qg_6, qg_7, qg_8, qg_9, qg_10, qg_11, qg_12, qg_13, not_true_eq_false, not_false_eq_true, Nat.reduceBEq, Bool.false_eq_true, ex1, ex3, ex4, exF, qfit_i, qfit_l, qfit_r, qfit_n, qfit_b0, qfit_b1, qcat_i, qcat_r, qcat_n, qcat_l, qroom_0, qroom_c, List.map_cons, List.map_nil, List.sum_cons, List.sum_nil, Nat.reduceAdd, Nat.reduceMul, Nat.reduceLT, Nat.reduceLeDiff, Nat.reduceEqDiff, Nat.reduceSub, decide_true, true_and, and_true, and_self, if_true, if_false, Option.toList_some, Option.toList_none, List.cons_append, List.nil_append, qsL, qlong, List.length_cons, List.length_nil, iN_L, exI, iN_add, iN_mul, iN_le, iN_lt, iN_eq, Nat.le_refl, qfN0, qfN1, uX_16, vX_16, uX_19, vX_19, uX_27, vX_27, uX_30, vX_30, uX_39, vX_39, uX_41, vX_41, uX_43, vX_43, uX_46, vX_46, uX_50, vX_50, uX_53, vX_53, show ¬ 3 ≤ a by omega, ru]
    have e6 : (fun b k => if b < D - 1 then F b k else F0 b k) = F0 := by
      funext b k
      by_cases z : b < D - 1
      · rw [if_pos z, fl b k z]
      · rw [if_neg z]
    have := go (3 - (D - 1)) (D - 1) (by omega) (Nat.le_refl _)
    rw [e6] at this
    rw [← this]
    simp (disch := first | assumption | omega) only [e30_0, e30_1, e30_2, e30_3, e30_6, e30_9, e30_11, e30_12, e30_15, e30_16, e30_17, e30_18, e30_19, e30_20, e30_23, e30_26, e30_29, e30_30, e30_33, e30_34, e30_37, e30_38, e30_39, e30_40, e30_41, e30_44, e30_45, e30_46, e30_49, e30_50, e30_51, e30_52, e30_55, e30_56, e30_57, e30_58, e30_59, e30_60, e30_63, e30_64, e30_65, e30_66, e30_69, e30_70, e30_71, e30_72, e30_73, e30_74, e30_75, e30_76, e30_77, e30_80, e30_81, e30_82, e30_83, e30_86, e30_87, e30_88, e30_89, e30_90, e30_91, e30_92, e30_93, e30_94, e30_97, e30_98, e30_99, e30_100, e30_103, e30_104, e30_105, e30_106, e30_107, e30_108, e30_109, e30_110, e30_111, e30_112, e30_115, e30_116, e30_117, e30_118, e30_119, e30_122, e30_123, e30_126, e30_127, e30_128, e30_129, e30_130, e30_133, e30_134, e30_137, e30_138, e30_139, e30_140, e30_141, e30_144, e30_145, e30_148, e30_149, e30_150, e30_151, e30_152, e30_155, e30_156, e30_159, e30_160, m30, ↓reduceIte, qg_0, qg_1, qg_2, qg_3, qg_4, qg_5, qg_6, qg_7, qg_8, qg_9, qg_10, qg_11, qg_12, qg_13, not_true_eq_false, not_false_eq_true, Nat.reduceBEq, Bool.false_eq_true, ex1, ex3, ex4, exF, qfit_i, qfit_l, qfit_r, qfit_n, qfit_b0, qfit_b1, qcat_i, qcat_r, qcat_n, qcat_l, qroom_0, qroom_c, List.map_cons, List.map_nil, List.sum_cons, List.sum_nil, Nat.reduceAdd, Nat.reduceMul, Nat.reduceLT, Nat.reduceLeDiff, Nat.reduceEqDiff, Nat.reduceSub, decide_true, true_and, and_true, and_self, if_true, if_false, Option.toList_some, Option.toList_none, List.cons_append, List.nil_append, qsL, qlong, List.length_cons, List.length_nil, iN_L, exI, iN_add, iN_mul, iN_le, iN_lt, iN_eq, Nat.le_refl, qfN0, qfN1, uX_16, vX_16, uX_19, vX_19, uX_27, vX_27, uX_30, vX_30, uX_39, vX_39, uX_41, vX_41, uX_43, vX_43, uX_46, vX_46, uX_50, vX_50, uX_53, vX_53, gX_19_0, rw']
  have cr : ∀ R, qMC (d + 3) 31 [.ref 19] (H2 h F P0) R ↔ R = (none, H2 h F (crP F P0)) := fun R => x_cross s
  obtain ⟨N, eN⟩ : ∃ N, N = rawN (lP l) D c0 c1 c2 c3 := ⟨_, rfl⟩
  have cN' : ∀ k, k < 4 → crP F P0 k = N k := by
    obtain ⟨r0, r1, r2, r3⟩ := raw_F3 (l := l) (c0 := c0) (c1 := c1) (c2 := c2) (c3 := c3) hD
    have key : ∀ x y z, x < 4 → y < 4 → z < 4 → cu3 F 0 1 2 x y z = cu3 (F3 l D c0 c1 c2 c3) 0 1 2 x y z := fun x y z hx hy hz => by
      rw [cu3_d3, cu3_d3]
      exact d3_ext hx hy hz (fun k hk => fF 0 k (by decide) hk) (fun k hk => fF 1 k (by decide) hk) (fun k hk => fF 2 k (by decide) hk)
    intro k hk
    rw [eN]
    match k, hk with
    | 0, _ => rw [r0, ← key 1 2 3 (by decide) (by decide) (by decide)]; rfl
    | 1, _ => rw [r1, ← key 0 2 3 (by decide) (by decide) (by decide)]; rfl
    | 2, _ => rw [r2, ← key 0 1 3 (by decide) (by decide) (by decide)]; rfl
    | 3, _ => rw [r3, ← key 0 1 2 (by decide) (by decide) (by decide)]; rfl
  have s1 := sH F P0
  have s2 := sH F (crP F P0)
  have g24 : ∀ k, k < 4 → qlald (H2 h F (crP F P0)) 24 (iN k) = some (lZ (N k)) := fun k hk => by rw [H2_r24 s (by omega), cN' k hk]
  have a0 := g24 0 (by decide)
  have a1 := g24 1 (by decide)
  have a2 := g24 2 (by decide)
  have a3 := g24 3 (by decide)
  have rt : ∀ k, k < 4 → qiald (H2 h F (crP F P0)) 20 (iN (c0 * 4 + k)) = some (iZ (lP l c0 k)) := fun k hk => by
    rw [rdI (H2_kI s (kX_20 s)) (by omega), H2_hi s, show c0 * 4 + k = 4 * c0 + k by omega, (v.2.2.2 c0 l0 (by omega) k hk).1]
  have b0' : qiald (H2 h F (crP F P0)) 20 (iN (c0 * 4)) = some (iZ (lP l c0 0)) := rt 0 (by decide)
  have b1' := rt 1 (by decide)
  have b2' := rt 2 (by decide)
  have b3' := rt 3 (by decide)
  have ib : ∀ k, k < 4 → (iZ (lP l c0 k)).toInt64 = lZ (lP l c0 k) := fun k hk => iZ_long (by have := lP_sm sm hk l0; unfold iB; omega)
  have i0' := ib 0 (by decide)
  have i1' := ib 1 (by decide)
  have i2' := ib 2 (by decide)
  have i3' := ib 3 (by decide)
  obtain ⟨P', eP'⟩ : ∃ P' : Nat → Int, P' = fun b => if b = 4 then N 0 * lP l c0 0 + N 1 * lP l c0 1 + N 2 * lP l c0 2 + N 3 * lP l c0 3 else crP F P0 b := ⟨_, rfl⟩
  have w4 : qlast (H2 h F (crP F P0)) 24 (iN 4) (lZ (N 0 * lP l c0 0 + N 1 * lP l c0 1 + N 2 * lP l c0 2 + N 3 * lP l c0 3)) = some (H2 h F P') := by rw [H2_w24 s (by decide), eP']
  have s3 := sH F P'
  have g25 : ∀ k, k < 4 → qlald (H2 h F P') 24 (iN k) = some (lZ (N k)) := fun k hk => by
    rw [H2_r24 s (by omega), eP']
    show some (lZ (if k = 4 then _ else crP F P0 k)) = _
    rw [if_neg (by omega), cN' k hk]
  have u0 := g25 0 (by decide)
  have u1 := g25 1 (by decide)
  have u2 := g25 2 (by decide)
  have u3 := g25 3 (by decide)
  have z : ∀ k, k < 4 → (lZ (N k) = lZ 0 ↔ N k = 0) := fun k hk => lZ_eq (lB_of (by rw [eN]; exact raw_b sm i hk)) lB_0
  have z0 := z 0 (by decide)
  have z1 := z 1 (by decide)
  have z2 := z 2 (by decide)
  have z3 := z 3 (by decide)
  rw [← eN, ← ex]
  refine ⟨H2 h F P', fun R => ?_, H2_ch s, fun t ht => ?_⟩
  · rw [un R]
    by_cases n0 : N 0 = 0
    · by_cases n1 : N 1 = 0
      · by_cases n2 : N 2 = 0
        · by_cases n3 : N 3 = 0
          · rw [tB_f (fun ⟨k, hk, hne⟩ => by
              match k, hk with
              | 0, _ => exact hne n0
              | 1, _ => exact hne n1
              | 2, _ => exact hne n2
              | 3, _ => exact hne n3), bN_f]
            simp (disch := first | assumption | omega) only [e30_0, e30_1, e30_2, e30_3, e30_6, e30_9, e30_11, e30_12, e30_15, e30_16, e30_17, e30_18, e30_19, e30_20, e30_23, e30_26, e30_29, e30_30, e30_33, e30_34, e30_37, e30_38, e30_39, e30_40, e30_41, e30_44, e30_45, e30_46, e30_49, e30_50, e30_51, e30_52, e30_55, e30_56, e30_57, e30_58, e30_59, e30_60, e30_63, e30_64, e30_65, e30_66, e30_69, e30_70, e30_71, e30_72, e30_73, e30_74, e30_75, e30_76, e30_77, e30_80, e30_81, e30_82, e30_83, e30_86, e30_87, e30_88, e30_89, e30_90, e30_91, e30_92, e30_93, e30_94, e30_97, e30_98, e30_99, e30_100, e30_103, e30_104, e30_105, e30_106, e30_107, e30_108, e30_109, e30_110, e30_111, e30_112, e30_115, e30_116, e30_117, e30_118, e30_119, e30_122, e30_123, e30_126, e30_127, e30_128, e30_129, e30_130, e30_133, e30_134, e30_137, e30_138, e30_139, e30_140, e30_141, e30_144, e30_145, e30_148, e30_149, e30_150, e30_151, e30_152, e30_155, e30_156, e30_159, e30_160, m30, ↓reduceIte, qg_0, qg_1, qg_2, qg_3, qg_4, qg_5, qg_6, qg_7, qg_8, qg_9, qg_10, qg_11, qg_12, qg_13, not_true_eq_false, not_false_eq_true, Nat.reduceBEq, Bool.false_eq_true, ex1, ex3, ex4, exF, qfit_i, qfit_l, qfit_r, qfit_n, qfit_b0, qfit_b1, qcat_i, qcat_r, qcat_n, qcat_l, qroom_0, qroom_c, List.map_cons, List.map_nil, List.sum_cons, List.sum_nil, Nat.reduceAdd, Nat.reduceMul, Nat.reduceLT, Nat.reduceLeDiff, Nat.reduceEqDiff, Nat.reduceSub, decide_true, true_and, and_true, and_self, if_true, if_false, Option.toList_some, Option.toList_none, List.cons_append, List.nil_append, qsL, qlong, List.length_cons, List.length_nil, iN_L, exI, iN_add, iN_mul, iN_le, iN_lt, iN_eq, Nat.le_refl, qfN0, qfN1, uX_16, vX_16, uX_19, vX_19, uX_27, vX_27, uX_30, vX_30, uX_39, vX_39, uX_41, vX_41, uX_43, vX_43, uX_46, vX_46, uX_50, vX_50, uX_53, vX_53, cr, lo, gX_19_8, gX_19_0, a0, a1, a2, a3, b0', b1', b2', b3', i0', i1', i2', i3', lZ_mul, lZ_add, w4, u0, u1, u2, u3, lgN_eq, show (0 : Int64) = lZ 0 from rfl, eq_true (z0.mpr n0), eq_true (z1.mpr n1), eq_true (z2.mpr n2), eq_true (z3.mpr n3)]
          · rw [tB_t ⟨3, by decide, n3⟩, bN_t]
            simp (disch := first | assumption | omega) only [e30_0, e30_1, e30_2, e30_3, e30_6, e30_9, e30_11, e30_12, e30_15, e30_16, e30_17, e30_18, e30_19, e30_20, e30_23, e30_26, e30_29, e30_30, e30_33, e30_34, e30_37, e30_38, e30_39, e30_40, e30_41, e30_44, e30_45, e30_46, e30_49, e30_50, e30_51, e30_52, e30_55, e30_56, e30_57, e30_58, e30_59, e30_60, e30_63, e30_64, e30_65, e30_66, e30_69, e30_70, e30_71, e30_72, e30_73, e30_74, e30_75, e30_76, e30_77, e30_80, e30_81, e30_82, e30_83, e30_86, e30_87, e30_88, e30_89, e30_90, e30_91, e30_92, e30_93, e30_94, e30_97, e30_98, e30_99, e30_100, e30_103, e30_104, e30_105, e30_106, e30_107, e30_108, e30_109, e30_110, e30_111, e30_112, e30_115, e30_116, e30_117, e30_118, e30_119, e30_122, e30_123, e30_126, e30_127, e30_128, e30_129, e30_130, e30_133, e30_134, e30_137, e30_138, e30_139, e30_140, e30_141, e30_144, e30_145, e30_148, e30_149, e30_150, e30_151, e30_152, e30_155, e30_156, e30_159, e30_160, m30, ↓reduceIte, qg_0, qg_1, qg_2, qg_3, qg_4, qg_5, qg_6, qg_7, qg_8, qg_9, qg_10, qg_11, qg_12, qg_13, not_true_eq_false, not_false_eq_true, Nat.reduceBEq, Bool.false_eq_true, ex1, ex3, ex4, exF, qfit_i, qfit_l, qfit_r, qfit_n, qfit_b0, qfit_b1, qcat_i, qcat_r, qcat_n, qcat_l, qroom_0, qroom_c, List.map_cons, List.map_nil, List.sum_cons, List.sum_nil, Nat.reduceAdd, Nat.reduceMul, Nat.reduceLT, Nat.reduceLeDiff, Nat.reduceEqDiff, Nat.reduceSub, decide_true, true_and, and_true, and_self, if_true, if_false, Option.toList_some, Option.toList_none, List.cons_append, List.nil_append, qsL, qlong, List.length_cons, List.length_nil, iN_L, exI, iN_add, iN_mul, iN_le, iN_lt, iN_eq, Nat.le_refl, qfN0, qfN1, uX_16, vX_16, uX_19, vX_19, uX_27, vX_27, uX_30, vX_30, uX_39, vX_39, uX_41, vX_41, uX_43, vX_43, uX_46, vX_46, uX_50, vX_50, uX_53, vX_53, cr, lo, gX_19_8, gX_19_0, a0, a1, a2, a3, b0', b1', b2', b3', i0', i1', i2', i3', lZ_mul, lZ_add, w4, u0, u1, u2, u3, lgN_eq, show (0 : Int64) = lZ 0 from rfl, eq_true (z0.mpr n0), eq_true (z1.mpr n1), eq_true (z2.mpr n2), eq_false (fun w => n3 (z3.mp w))]
        · rw [tB_t ⟨2, by decide, n2⟩, bN_t]
          simp (disch := first | assumption | omega) only [e30_0, e30_1, e30_2, e30_3, e30_6, e30_9, e30_11, e30_12, e30_15, e30_16, e30_17, e30_18, e30_19, e30_20, e30_23, e30_26, e30_29, e30_30, e30_33, e30_34, e30_37, e30_38, e30_39, e30_40, e30_41, e30_44, e30_45, e30_46, e30_49, e30_50, e30_51, e30_52, e30_55, e30_56, e30_57, e30_58, e30_59, e30_60, e30_63, e30_64, e30_65, e30_66, e30_69, e30_70, e30_71, e30_72, e30_73, e30_74, e30_75, e30_76, e30_77, e30_80, e30_81, e30_82, e30_83, e30_86, e30_87, e30_88, e30_89, e30_90, e30_91, e30_92, e30_93, e30_94, e30_97, e30_98, e30_99, e30_100, e30_103, e30_104, e30_105, e30_106, e30_107, e30_108, e30_109, e30_110, e30_111, e30_112, e30_115, e30_116, e30_117, e30_118, e30_119, e30_122, e30_123, e30_126, e30_127, e30_128, e30_129, e30_130, e30_133, e30_134, e30_137, e30_138, e30_139, e30_140, e30_141, e30_144, e30_145, e30_148, e30_149, e30_150, e30_151, e30_152, e30_155, e30_156, e30_159, e30_160, m30, ↓reduceIte, qg_0, qg_1, qg_2, qg_3, qg_4, qg_5, qg_6, qg_7, qg_8, qg_9, qg_10, qg_11, qg_12, qg_13, not_true_eq_false, not_false_eq_true, Nat.reduceBEq, Bool.false_eq_true, ex1, ex3, ex4, exF, qfit_i, qfit_l, qfit_r, qfit_n, qfit_b0, qfit_b1, qcat_i, qcat_r, qcat_n, qcat_l, qroom_0, qroom_c, List.map_cons, List.map_nil, List.sum_cons, List.sum_nil, Nat.reduceAdd, Nat.reduceMul, Nat.reduceLT, Nat.reduceLeDiff, Nat.reduceEqDiff, Nat.reduceSub, decide_true, true_and, and_true, and_self, if_true, if_false, Option.toList_some, Option.toList_none, List.cons_append, List.nil_append, qsL, qlong, List.length_cons, List.length_nil, iN_L, exI, iN_add, iN_mul, iN_le, iN_lt, iN_eq, Nat.le_refl, qfN0, qfN1, uX_16, vX_16, uX_19, vX_19, uX_27, vX_27, uX_30, vX_30, uX_39, vX_39, uX_41, vX_41, uX_43, vX_43, uX_46, vX_46, uX_50, vX_50, uX_53, vX_53, cr, lo, gX_19_8, gX_19_0, a0, a1, a2, a3, b0', b1', b2', b3', i0', i1', i2', i3', lZ_mul, lZ_add, w4, u0, u1, u2, u3, lgN_eq, show (0 : Int64) = lZ 0 from rfl, eq_true (z0.mpr n0), eq_true (z1.mpr n1), eq_false (fun w => n2 (z2.mp w))]
      · rw [tB_t ⟨1, by decide, n1⟩, bN_t]
        simp (disch := first | assumption | omega) only [e30_0, e30_1, e30_2, e30_3, e30_6, e30_9, e30_11, e30_12, e30_15, e30_16, e30_17, e30_18, e30_19, e30_20, e30_23, e30_26, e30_29, e30_30, e30_33, e30_34, e30_37, e30_38, e30_39, e30_40, e30_41, e30_44, e30_45, e30_46, e30_49, e30_50, e30_51, e30_52, e30_55, e30_56, e30_57, e30_58, e30_59, e30_60, e30_63, e30_64, e30_65, e30_66, e30_69, e30_70, e30_71, e30_72, e30_73, e30_74, e30_75, e30_76, e30_77, e30_80, e30_81, e30_82, e30_83, e30_86, e30_87, e30_88, e30_89, e30_90, e30_91, e30_92, e30_93, e30_94, e30_97, e30_98, e30_99, e30_100, e30_103, e30_104, e30_105, e30_106, e30_107, e30_108, e30_109, e30_110, e30_111, e30_112, e30_115, e30_116, e30_117, e30_118, e30_119, e30_122, e30_123, e30_126, e30_127, e30_128, e30_129, e30_130, e30_133, e30_134, e30_137, e30_138, e30_139, e30_140, e30_141, e30_144, e30_145, e30_148, e30_149, e30_150, e30_151, e30_152, e30_155, e30_156, e30_159, e30_160, m30, ↓reduceIte, qg_0, qg_1, qg_2, qg_3, qg_4, qg_5, qg_6, qg_7, qg_8, qg_9, qg_10, qg_11, qg_12, qg_13, not_true_eq_false, not_false_eq_true, Nat.reduceBEq, Bool.false_eq_true, ex1, ex3, ex4, exF, qfit_i, qfit_l, qfit_r, qfit_n, qfit_b0, qfit_b1, qcat_i, qcat_r, qcat_n, qcat_l, qroom_0, qroom_c, List.map_cons, List.map_nil, List.sum_cons, List.sum_nil, Nat.reduceAdd, Nat.reduceMul, Nat.reduceLT, Nat.reduceLeDiff, Nat.reduceEqDiff, Nat.reduceSub, decide_true, true_and, and_true, and_self, if_true, if_false, Option.toList_some, Option.toList_none, List.cons_append, List.nil_append, qsL, qlong, List.length_cons, List.length_nil, iN_L, exI, iN_add, iN_mul, iN_le, iN_lt, iN_eq, Nat.le_refl, qfN0, qfN1, uX_16, vX_16, uX_19, vX_19, uX_27, vX_27, uX_30, vX_30, uX_39, vX_39, uX_41, vX_41, uX_43, vX_43, uX_46, vX_46, uX_50, vX_50, uX_53, vX_53, cr, lo, gX_19_8, gX_19_0, a0, a1, a2, a3, b0', b1', b2', b3', i0', i1', i2', i3', lZ_mul, lZ_add, w4, u0, u1, u2, u3, lgN_eq, show (0 : Int64) = lZ 0 from rfl, eq_true (z0.mpr n0), eq_false (fun w => n1 (z1.mp w))]
    · rw [tB_t ⟨0, by decide, n0⟩, bN_t]
      simp (disch := first | assumption | omega) only [e30_0, e30_1, e30_2, e30_3, e30_6, e30_9, e30_11, e30_12, e30_15, e30_16, e30_17, e30_18, e30_19, e30_20, e30_23, e30_26, e30_29, e30_30, e30_33, e30_34, e30_37, e30_38, e30_39, e30_40, e30_41, e30_44, e30_45, e30_46, e30_49, e30_50, e30_51, e30_52, e30_55, e30_56, e30_57, e30_58, e30_59, e30_60, e30_63, e30_64, e30_65, e30_66, e30_69, e30_70, e30_71, e30_72, e30_73, e30_74, e30_75, e30_76, e30_77, e30_80, e30_81, e30_82, e30_83, e30_86, e30_87, e30_88, e30_89, e30_90, e30_91, e30_92, e30_93, e30_94, e30_97, e30_98, e30_99, e30_100, e30_103, e30_104, e30_105, e30_106, e30_107, e30_108, e30_109, e30_110, e30_111, e30_112, e30_115, e30_116, e30_117, e30_118, e30_119, e30_122, e30_123, e30_126, e30_127, e30_128, e30_129, e30_130, e30_133, e30_134, e30_137, e30_138, e30_139, e30_140, e30_141, e30_144, e30_145, e30_148, e30_149, e30_150, e30_151, e30_152, e30_155, e30_156, e30_159, e30_160, m30, ↓reduceIte, qg_0, qg_1, qg_2, qg_3, qg_4, qg_5, qg_6, qg_7, qg_8, qg_9, qg_10, qg_11, qg_12, qg_13, not_true_eq_false, not_false_eq_true, Nat.reduceBEq, Bool.false_eq_true, ex1, ex3, ex4, exF, qfit_i, qfit_l, qfit_r, qfit_n, qfit_b0, qfit_b1, qcat_i, qcat_r, qcat_n, qcat_l, qroom_0, qroom_c, List.map_cons, List.map_nil, List.sum_cons, List.sum_nil, Nat.reduceAdd, Nat.reduceMul, Nat.reduceLT, Nat.reduceLeDiff, Nat.reduceEqDiff, Nat.reduceSub, decide_true, true_and, and_true, and_self, if_true, if_false, Option.toList_some, Option.toList_none, List.cons_append, List.nil_append, qsL, qlong, List.length_cons, List.length_nil, iN_L, exI, iN_add, iN_mul, iN_le, iN_lt, iN_eq, Nat.le_refl, qfN0, qfN1, uX_16, vX_16, uX_19, vX_19, uX_27, vX_27, uX_30, vX_30, uX_39, vX_39, uX_41, vX_41, uX_43, vX_43, uX_46, vX_46, uX_50, vX_50, uX_53, vX_53, cr, lo, gX_19_8, gX_19_0, a0, a1, a2, a3, b0', b1', b2', b3', i0', i1', i2', i3', lZ_mul, lZ_add, w4, u0, u1, u2, u3, lgN_eq, show (0 : Int64) = lZ 0 from rfl, eq_false (fun w => n0 (z0.mp w))]
  · rw [H2_24]
    unfold plR xpN
    rw [if_pos ht, eP', ← eN]
    show lZ (if t = 4 then _ else crP F P0 t) = _
    by_cases e4 : t = 4
    · rw [if_pos e4, if_pos e4]
      congr 1
      simp only [sumZ]
      omega
    · rw [if_neg e4, if_neg e4, cN' t (by omega)]
theorem lev4 (N : Nat → Int) (b : Int) (P : Nat → Nat → Int) (p : Nat) : lev N b P p = N 0 * P p 0 + N 1 * P p 1 + N 2 * P p 2 + N 3 * P p 3 - b := by
  unfold lev
  simp only [sumZ]
  omega
theorem cnt_0 {p : Nat → Bool} {n : Nat} : (0 < cntN p (n + 1)) ↔ (0 < cntN p n ∨ p n = true) := by
  rw [cntN]
  by_cases e : p n = true
  · rw [if_pos e]; exact ⟨fun _ => Or.inr e, fun _ => by omega⟩
  · rw [if_neg e]; exact ⟨fun z => Or.inl (by omega), fun z => z.elim (fun w => by omega) (fun w => absurd w e)⟩
set_option maxRecDepth 100000 in
set_option maxHeartbeats 32000000 in
theorem x_setOnPlane {P : Nat → Int} (s : ShX h) (v : HtX h D l) (sm : smP l) (h16 : l.length ≤ 16) (hP : ∀ t, t < 5 → hl h 24 t = lZ (P t)) (pb : plB P (P 4)) : (0 < cntN (upP P (P 4) (lP l)) l.length ∧ 0 < cntN (dnP P (P 4) (lP l)) l.length → ∀ R, qMC (d + 1) 32 [.ref 19] h R ↔ R = (some (.int (-iN 1)), h)) ∧ (¬ (0 < cntN (upP P (P 4) (lP l)) l.length ∧ 0 < cntN (dnP P (P 4) (lP l)) l.length) → ∃ h', (∀ R, qMC (d + 1) 32 [.ref 19] h R ↔ R = (some (.int (iN (mask (onP P (P 4) (lP l)) l.length))), h')) ∧ ChX [24] [] 0 h h' ∧ ∀ t, t < 5 → hl h' 24 t = lZ (if 0 < cntN (upP P (P 4) (lP l)) l.length then -P t else P t)) := by
  obtain ⟨v3, v1, v2, vp⟩ := v
  have em : (if l.length < 16 then l.length else 16) = l.length := by split <;> omega
  rw [em] at v1
  obtain ⟨n, en⟩ : ∃ n, n = l.length := ⟨_, rfl⟩
  obtain ⟨UP, eU⟩ : ∃ UP, UP = upP P (P 4) (lP l) := ⟨_, rfl⟩
  obtain ⟨DN, eDn⟩ : ∃ DN, DN = dnP P (P 4) (lP l) := ⟨_, rfl⟩
  obtain ⟨ON, eO⟩ : ∃ ON, ON = onP P (P 4) (lP l) := ⟨_, rfl⟩
  have UPi : ∀ p, UP p = true ↔ 0 < lev P (P 4) (lP l) p := fun p => by rw [eU]; exact decide_eq_true_iff
  have DNi : ∀ p, DN p = true ↔ lev P (P 4) (lP l) p < 0 := fun p => by rw [eDn]; exact decide_eq_true_iff
  have ONi : ∀ p, ON p = true ↔ lev P (P 4) (lP l) p = 0 := fun p => by rw [eO]; exact decide_eq_true_iff
  rw [← eU, ← eDn, ← eO, ← en]
  rw [← en] at v1 h16
  have rt : ∀ p k, p < n → k < 4 → qiald h 20 (iN (p * 4 + k)) = some (iZ (lP l p k)) ∧ (iZ (lP l p k)).toInt64 = lZ (lP l p k) := fun p k hp hk => by
    refine ⟨by rw [rX_20 s (by omega), show p * 4 + k = 4 * p + k by omega, (vp p (by omega) (by omega) k hk).1], iZ_long ?_⟩
    have := lP_sm sm hk (show p < l.length by omega)
    unfold iB; omega
  have rl : ∀ t, t < 5 → qlald h 24 (iN t) = some (lZ (P t)) := fun t ht => by rw [rX_24 s ht, hP t ht]
  have q0 := rl 0 (by decide)
  have q1 := rl 1 (by decide)
  have q2 := rl 2 (by decide)
  have q3 := rl 3 (by decide)
  have q4 := rl 4 (by decide)
  have lvb : ∀ p, p < n → lB (lev P (P 4) (lP l) p) := fun p hp => by
    rw [lev4]
    have m0 := mul_b (pb.1 0 (by decide)) (lP_sm sm (show 0 < 4 by decide) (show p < l.length by omega))
    have m1 := mul_b (pb.1 1 (by decide)) (lP_sm sm (show 1 < 4 by decide) (show p < l.length by omega))
    have m2 := mul_b (pb.1 2 (by decide)) (lP_sm sm (show 2 < 4 by decide) (show p < l.length by omega))
    have m3 := mul_b (pb.1 3 (by decide)) (lP_sm sm (show 3 < 4 by decide) (show p < l.length by omega))
    have := pb.2
    unfold lB
    omega
  -- one point
  have step : ∀ (p : Nat) (y z : Bool) (x5 x6 : Option Value), p < n → qlong x5 = false → ¬ (y = true ∧ z = true) → y = decide (0 < cntN DN p) → z = decide (0 < cntN UP p) → ∃ y' z' : Bool, y' = decide (0 < cntN DN (p + 1)) ∧ z' = decide (0 < cntN UP (p + 1)) ∧ ((y' = true ∧ z' = true) → ∀ R, qEv d 0 qk_32 9 [some (.ref 19), some (.int (iN (mask ON p))), some (.int (bB y)), some (.int (bB z)), some (.int (iN p)), x5, x6, none] [] h R ↔ R = (some (.int (-iN 1)), h)) ∧ (¬ (y' = true ∧ z' = true) → ∃ x5' x6', qlong x5' = false ∧ ∀ R, qEv d 0 qk_32 9 [some (.ref 19), some (.int (iN (mask ON p))), some (.int (bB y)), some (.int (bB z)), some (.int (iN p)), x5, x6, none] [] h R ↔ qEv d 0 qk_32 9 [some (.ref 19), some (.int (iN (mask ON (p + 1)))), some (.int (bB y')), some (.int (bB z')), some (.int (iN (p + 1))), x5', x6', none] [] h R) := by
    intro p y z x5 x6 hp h5 hyz ey ez
    obtain ⟨lv, elv⟩ : ∃ lv, lv = lev P (P 4) (lP l) p := ⟨_, rfl⟩
    obtain ⟨r0, i0'⟩ := rt p 0 hp (by decide)
    obtain ⟨r1, i1'⟩ := rt p 1 hp (by decide)
    obtain ⟨r2, i2'⟩ := rt p 2 hp (by decide)
    obtain ⟨r3, i3'⟩ := rt p 3 hp (by decide)
    rw [Nat.add_zero] at r0
    have el : P 0 * lP l p 0 + P 1 * lP l p 1 + P 2 * lP l p 2 + P 3 * lP l p 3 - P 4 = lv := by rw [elv, lev4]
    have lb := lvb p hp
    rw [← elv] at lb
    have zz : lZ lv = lZ 0 ↔ lv = 0 := lZ_eq lb lB_0
    have zl : lZ 0 ≤ lZ lv ↔ 0 ≤ lv := by rw [← Int64.not_lt, lZ_lt lb lB_0]; omega
    have ui := UPi p
    have di := DNi p
    have oi := ONi p
    rw [← elv] at ui di oi
    rcases Int.lt_trichotomy lv 0 with w | w | w
    · have mk : mask ON (p + 1) = mask ON p := by rw [mask, if_neg (fun q => by have := oi.mp q; omega)]; exact Nat.or_zero _
      have dy : true = decide (0 < cntN DN (p + 1)) := (decide_eq_true (cnt_0.mpr (Or.inr (di.mpr w)))).symm
      have dz : z = decide (0 < cntN UP (p + 1)) := by
        rw [ez]; refine decide_eq_decide.mpr ⟨fun q => cnt_0.mpr (Or.inl q), fun q => (cnt_0.mp q).resolve_right (fun q2 => by have := ui.mp q2; omega)⟩
      refine ⟨true, z, dy, dz, fun q R => ?_, fun q => ⟨some (.int (iN (p * 4))), some (.long (lZ lv)), rfl, fun R => ?_⟩⟩
      · have z1 : z = true := q.2
        subst z1
        rw [e32_9]
        cases y <;> simp (disch := first | assumption | omega) only [e32_0, e32_1, e32_2, e32_3, e32_4, e32_5, e32_6, e32_7, e32_11, e32_12, e32_15, e32_18, e32_20, e32_21, e32_22, e32_24, e32_25, e32_28, e32_29, e32_30, e32_31, e32_34, e32_36, e32_37, e32_38, e32_39, e32_40, e32_43, e32_44, e32_45, e32_46, e32_49, e32_51, e32_52, e32_53, e32_54, e32_55, e32_56, e32_57, e32_58, e32_61, e32_62, e32_63, e32_64, e32_67, e32_69, e32_70, e32_71, e32_72, e32_73, e32_74, e32_75, e32_76, e32_79, e32_80, e32_81, e32_82, e32_85, e32_87, e32_88, e32_89, e32_90, e32_91, e32_92, e32_93, e32_94, e32_97, e32_98, e32_99, e32_100, e32_102, e32_104, e32_105, e32_106, e32_109, e32_110, e32_111, e32_113, e32_114, e32_115, e32_116, e32_119, e32_121, e32_122, e32_123, e32_126, e32_127, e32_128, e32_131, e32_132, e32_133, e32_134, e32_137, e32_138, e32_141, e32_142, e32_143, e32_146, e32_149, e32_150, e32_153, e32_154, e32_156, e32_158, e32_159, e32_162, e32_163, e32_166, e32_168, e32_169, e32_172, e32_174, e32_175, e32_176, e32_177, e32_180, e32_183, e32_184, m32, ↓reduceIte, qg_0, qg_1, qg_2, qg_3, qg_4, qg_5, qg_6, qg_7, qg_8, qg_9, qg_10, qg_11, qg_12, qg_13, not_true_eq_false, not_false_eq_true, Nat.reduceBEq, Bool.false_eq_true, ex1, ex3, ex4, exF, qfit_i, qfit_l, qfit_r, qfit_n, qfit_b0, qfit_b1, qcat_i, qcat_r, qcat_n, qcat_l, qroom_0, qroom_c, List.map_cons, List.map_nil, List.sum_cons, List.sum_nil, Nat.reduceAdd, Nat.reduceMul, Nat.reduceLT, Nat.reduceLeDiff, Nat.reduceEqDiff, Nat.reduceSub, decide_true, true_and, and_true, and_self, if_true, if_false, Option.toList_some, Option.toList_none, List.cons_append, List.nil_append, qsL, qlong, List.length_cons, List.length_nil, iN_L, exI, iN_add, iN_mul, iN_le, iN_lt, iN_eq, Nat.le_refl, qfN0, qfN1, uX_16, vX_16, uX_19, vX_19, uX_27, vX_27, uX_30, vX_30, uX_39, vX_39, uX_41, vX_41, uX_43, vX_43, uX_46, vX_46, uX_50, vX_50, uX_53, vX_53, h5, gX_19_1, v1, show ¬ n ≤ p by omega, gX_19_8, gX_19_0, q0, q1, q2, q3, q4, r0, r1, r2, r3, i0', i1', i2', i3', lZ_mul, lZ_add, lZ_sub, el, lgN_eq, lgN_ge, show (0 : Int64) = lZ 0 from rfl, zz, zl, show ¬ lv = 0 by omega, show ¬ 0 ≤ lv by omega, bN_t, bN_f]
      · have z1 : z = false := by cases z with | false => rfl | true => exact absurd ⟨rfl, rfl⟩ q
        subst z1
        rw [e32_9, mk]
        cases y <;> simp (disch := first | assumption | omega) only [e32_0, e32_1, e32_2, e32_3, e32_4, e32_5, e32_6, e32_7, e32_11, e32_12, e32_15, e32_18, e32_20, e32_21, e32_22, e32_24, e32_25, e32_28, e32_29, e32_30, e32_31, e32_34, e32_36, e32_37, e32_38, e32_39, e32_40, e32_43, e32_44, e32_45, e32_46, e32_49, e32_51, e32_52, e32_53, e32_54, e32_55, e32_56, e32_57, e32_58, e32_61, e32_62, e32_63, e32_64, e32_67, e32_69, e32_70, e32_71, e32_72, e32_73, e32_74, e32_75, e32_76, e32_79, e32_80, e32_81, e32_82, e32_85, e32_87, e32_88, e32_89, e32_90, e32_91, e32_92, e32_93, e32_94, e32_97, e32_98, e32_99, e32_100, e32_102, e32_104, e32_105, e32_106, e32_109, e32_110, e32_111, e32_113, e32_114, e32_115, e32_116, e32_119, e32_121, e32_122, e32_123, e32_126, e32_127, e32_128, e32_131, e32_132, e32_133, e32_134, e32_137, e32_138, e32_141, e32_142, e32_143, e32_146, e32_149, e32_150, e32_153, e32_154, e32_156, e32_158, e32_159, e32_162, e32_163, e32_166, e32_168, e32_169, e32_172, e32_174, e32_175, e32_176, e32_177, e32_180, e32_183, e32_184, m32, ↓reduceIte, qg_0, qg_1, qg_2, qg_3, qg_4, qg_5, qg_6, qg_7, qg_8, qg_9, qg_10, qg_11, qg_12, qg_13, not_true_eq_false, not_false_eq_true, Nat.reduceBEq, Bool.false_eq_true, ex1, ex3, ex4, exF, qfit_i, qfit_l, qfit_r, qfit_n, qfit_b0, qfit_b1, qcat_i, qcat_r, qcat_n, qcat_l, qroom_0, qroom_c, List.map_cons, List.map_nil, List.sum_cons, List.sum_nil, Nat.reduceAdd, Nat.reduceMul, Nat.reduceLT, Nat.reduceLeDiff, Nat.reduceEqDiff, Nat.reduceSub, decide_true, true_and, and_true, and_self, if_true, if_false, Option.toList_some, Option.toList_none, List.cons_append, List.nil_append, qsL, qlong, List.length_cons, List.length_nil, iN_L, exI, iN_add, iN_mul, iN_le, iN_lt, iN_eq, Nat.le_refl, qfN0, qfN1, uX_16, vX_16, uX_19, vX_19, uX_27, vX_27, uX_30, vX_30, uX_39, vX_39, uX_41, vX_41, uX_43, vX_43, uX_46, vX_46, uX_50, vX_50, uX_53, vX_53, h5, gX_19_1, v1, show ¬ n ≤ p by omega, gX_19_8, gX_19_0, q0, q1, q2, q3, q4, r0, r1, r2, r3, i0', i1', i2', i3', lZ_mul, lZ_add, lZ_sub, el, lgN_eq, lgN_ge, show (0 : Int64) = lZ 0 from rfl, zz, zl, show ¬ lv = 0 by omega, show ¬ 0 ≤ lv by omega, bN_t, bN_f]
    · have mk : mask ON (p + 1) = mask ON p ||| 2 ^ p := by rw [mask, if_pos (oi.mpr w)]
      have dy : y = decide (0 < cntN DN (p + 1)) := by
        rw [ey]; refine decide_eq_decide.mpr ⟨fun q => cnt_0.mpr (Or.inl q), fun q => (cnt_0.mp q).resolve_right (fun q2 => by have := di.mp q2; omega)⟩
      have dz : z = decide (0 < cntN UP (p + 1)) := by
        rw [ez]; refine decide_eq_decide.mpr ⟨fun q => cnt_0.mpr (Or.inl q), fun q => (cnt_0.mp q).resolve_right (fun q2 => by have := ui.mp q2; omega)⟩
      refine ⟨y, z, dy, dz, fun q => absurd q hyz, fun q => ⟨some (.int (iN (p * 4))), some (.long (lZ lv)), rfl, fun R => ?_⟩⟩
      have sh := iN_shl1 p (by omega)
      rw [e32_9, mk]
      cases y <;> cases z
      · simp (disch := first | assumption | omega) only [e32_0, e32_1, e32_2, e32_3, e32_4, e32_5, e32_6, e32_7, e32_11, e32_12, e32_15, e32_18, e32_20, e32_21, e32_22, e32_24, e32_25, e32_28, e32_29, e32_30, e32_31, e32_34, e32_36, e32_37, e32_38, e32_39, e32_40, e32_43, e32_44, e32_45, e32_46, e32_49, e32_51, e32_52, e32_53, e32_54, e32_55, e32_56, e32_57, e32_58, e32_61, e32_62, e32_63, e32_64, e32_67, e32_69, e32_70, e32_71, e32_72, e32_73, e32_74, e32_75, e32_76, e32_79, e32_80, e32_81, e32_82, e32_85, e32_87, e32_88, e32_89, e32_90, e32_91, e32_92, e32_93, e32_94, e32_97, e32_98, e32_99, e32_100, e32_102, e32_104, e32_105, e32_106, e32_109, e32_110, e32_111, e32_113, e32_114, e32_115, e32_116, e32_119, e32_121, e32_122, e32_123, e32_126, e32_127, e32_128, e32_131, e32_132, e32_133, e32_134, e32_137, e32_138, e32_141, e32_142, e32_143, e32_146, e32_149, e32_150, e32_153, e32_154, e32_156, e32_158, e32_159, e32_162, e32_163, e32_166, e32_168, e32_169, e32_172, e32_174, e32_175, e32_176, e32_177, e32_180, e32_183, e32_184, m32, ↓reduceIte, qg_0, qg_1, qg_2, qg_3, qg_4, qg_5, qg_6, qg_7, qg_8, qg_9, qg_10, qg_11, qg_12, qg_13, not_true_eq_false, not_false_eq_true, Nat.reduceBEq, Bool.false_eq_true, ex1, ex3, ex4, exF, qfit_i, qfit_l, qfit_r, qfit_n, qfit_b0, qfit_b1, qcat_i, qcat_r, qcat_n, qcat_l, qroom_0, qroom_c, List.map_cons, List.map_nil, List.sum_cons, List.sum_nil, Nat.reduceAdd, Nat.reduceMul, Nat.reduceLT, Nat.reduceLeDiff, Nat.reduceEqDiff, Nat.reduceSub, decide_true, true_and, and_true, and_self, if_true, if_false, Option.toList_some, Option.toList_none, List.cons_append, List.nil_append, qsL, qlong, List.length_cons, List.length_nil, iN_L, exI, iN_add, iN_mul, iN_le, iN_lt, iN_eq, Nat.le_refl, qfN0, qfN1, uX_16, vX_16, uX_19, vX_19, uX_27, vX_27, uX_30, vX_30, uX_39, vX_39, uX_41, vX_41, uX_43, vX_43, uX_46, vX_46, uX_50, vX_50, uX_53, vX_53, h5, gX_19_1, v1, show ¬ n ≤ p by omega, gX_19_8, gX_19_0, q0, q1, q2, q3, q4, r0, r1, r2, r3, i0', i1', i2', i3', lZ_mul, lZ_add, lZ_sub, el, lgN_eq, lgN_ge, show (0 : Int64) = lZ 0 from rfl, zz, w, sh, iN_or, bN_t, bN_f]
      · simp (disch := first | assumption | omega) only [e32_0, e32_1, e32_2, e32_3, e32_4, e32_5, e32_6, e32_7, e32_11, e32_12, e32_15, e32_18, e32_20, e32_21, e32_22, e32_24, e32_25, e32_28, e32_29, e32_30, e32_31, e32_34, e32_36, e32_37, e32_38, e32_39, e32_40, e32_43, e32_44, e32_45, e32_46, e32_49, e32_51, e32_52, e32_53, e32_54, e32_55, e32_56, e32_57, e32_58, e32_61, e32_62, e32_63, e32_64, e32_67, e32_69, e32_70, e32_71, e32_72, e32_73, e32_74, e32_75, e32_76, e32_79, e32_80, e32_81, e32_82, e32_85, e32_87, e32_88, e32_89, e32_90, e32_91, e32_92, e32_93, e32_94, e32_97, e32_98, e32_99, e32_100, e32_102, e32_104, e32_105, e32_106, e32_109, e32_110, e32_111, e32_113, e32_114, e32_115, e32_116, e32_119, e32_121, e32_122, e32_123, e32_126, e32_127, e32_128, e32_131, e32_132, e32_133, e32_134, e32_137, e32_138, e32_141, e32_142, e32_143, e32_146, e32_149, e32_150, e32_153, e32_154, e32_156, e32_158, e32_159, e32_162, e32_163, e32_166, e32_168, e32_169, e32_172, e32_174, e32_175, e32_176, e32_177, e32_180, e32_183, e32_184, m32, ↓reduceIte, qg_0, qg_1, qg_2, qg_3, qg_4, qg_5, qg_6, qg_7, qg_8, qg_9, qg_10, qg_11, qg_12, qg_13, not_true_eq_false, not_false_eq_true, Nat.reduceBEq, Bool.false_eq_true, ex1, ex3, ex4, exF, qfit_i, qfit_l, qfit_r, qfit_n, qfit_b0, qfit_b1, qcat_i, qcat_r, qcat_n, qcat_l, qroom_0, qroom_c, List.map_cons, List.map_nil, List.sum_cons, List.sum_nil, Nat.reduceAdd, Nat.reduceMul, Nat.reduceLT, Nat.reduceLeDiff, Nat.reduceEqDiff, Nat.reduceSub, decide_true, true_and, and_true, and_self, if_true, if_false, Option.toList_some, Option.toList_none, List.cons_append, List.nil_append, qsL, qlong, List.length_cons, List.length_nil, iN_L, exI, iN_add, iN_mul, iN_le, iN_lt, iN_eq, Nat.le_refl, qfN0, qfN1, uX_16, vX_16, uX_19, vX_19, uX_27, vX_27, uX_30, vX_30, uX_39, vX_39, uX_41, vX_41, uX_43, vX_43, uX_46, vX_46, uX_50, vX_50, uX_53, vX_53, h5, gX_19_1, v1, show ¬ n ≤ p by omega, gX_19_8, gX_19_0, q0, q1, q2, q3, q4, r0, r1, r2, r3, i0', i1', i2', i3', lZ_mul, lZ_add, lZ_sub, el, lgN_eq, lgN_ge, show (0 : Int64) = lZ 0 from rfl, zz, w, sh, iN_or, bN_t, bN_f]
      · simp (disch := first | assumption | omega) only [e32_0, e32_1, e32_2, e32_3, e32_4, e32_5, e32_6, e32_7, e32_11, e32_12, e32_15, e32_18, e32_20, e32_21, e32_22, e32_24, e32_25, e32_28, e32_29, e32_30, e32_31, e32_34, e32_36, e32_37, e32_38, e32_39, e32_40, e32_43, e32_44, e32_45, e32_46, e32_49, e32_51, e32_52, e32_53, e32_54, e32_55, e32_56, e32_57, e32_58, e32_61, e32_62, e32_63, e32_64, e32_67, e32_69, e32_70, e32_71, e32_72, e32_73, e32_74, e32_75, e32_76, e32_79, e32_80, e32_81, e32_82, e32_85, e32_87, e32_88, e32_89, e32_90, e32_91, e32_92, e32_93, e32_94, e32_97, e32_98, e32_99, e32_100, e32_102, e32_104, e32_105, e32_106, e32_109, e32_110, e32_111, e32_113, e32_114, e32_115, e32_116, e32_119, e32_121, e32_122, e32_123, e32_126, e32_127, e32_128, e32_131, e32_132, e32_133, e32_134, e32_137, e32_138, e32_141, e32_142, e32_143, e32_146, e32_149, e32_150, e32_153, e32_154, e32_156, e32_158, e32_159, e32_162, e32_163, e32_166, e32_168, e32_169, e32_172, e32_174, e32_175, e32_176, e32_177, e32_180, e32_183, e32_184, m32, ↓reduceIte, qg_0, qg_1, qg_2, qg_3, qg_4, qg_5, qg_6, qg_7, qg_8, qg_9, qg_10, qg_11, qg_12, qg_13, not_true_eq_false, not_false_eq_true, Nat.reduceBEq, Bool.false_eq_true, ex1, ex3, ex4, exF, qfit_i, qfit_l, qfit_r, qfit_n, qfit_b0, qfit_b1, qcat_i, qcat_r, qcat_n, qcat_l, qroom_0, qroom_c, List.map_cons, List.map_nil, List.sum_cons, List.sum_nil, Nat.reduceAdd, Nat.reduceMul, Nat.reduceLT, Nat.reduceLeDiff, Nat.reduceEqDiff, Nat.reduceSub, decide_true, true_and, and_true, and_self, if_true, if_false, Option.toList_some, Option.toList_none, List.cons_append, List.nil_append, qsL, qlong, List.length_cons, List.length_nil, iN_L, exI, iN_add, iN_mul, iN_le, iN_lt, iN_eq, Nat.le_refl, qfN0, qfN1, uX_16, vX_16, uX_19, vX_19, uX_27, vX_27, uX_30, vX_30, uX_39, vX_39, uX_41, vX_41, uX_43, vX_43, uX_46, vX_46, uX_50, vX_50, uX_53, vX_53, h5, gX_19_1, v1, show ¬ n ≤ p by omega, gX_19_8, gX_19_0, q0, q1, q2, q3, q4, r0, r1, r2, r3, i0', i1', i2', i3', lZ_mul, lZ_add, lZ_sub, el, lgN_eq, lgN_ge, show (0 : Int64) = lZ 0 from rfl, zz, w, sh, iN_or, bN_t, bN_f]
      · exact absurd ⟨rfl, rfl⟩ hyz
    · have mk : mask ON (p + 1) = mask ON p := by rw [mask, if_neg (fun q => by have := oi.mp q; omega)]; exact Nat.or_zero _
      have dz : true = decide (0 < cntN UP (p + 1)) := (decide_eq_true (cnt_0.mpr (Or.inr (ui.mpr w)))).symm
      have dy : y = decide (0 < cntN DN (p + 1)) := by
        rw [ey]; refine decide_eq_decide.mpr ⟨fun q => cnt_0.mpr (Or.inl q), fun q => (cnt_0.mp q).resolve_right (fun q2 => by have := di.mp q2; omega)⟩
      refine ⟨y, true, dy, dz, fun q R => ?_, fun q => ⟨some (.int (iN (p * 4))), some (.long (lZ lv)), rfl, fun R => ?_⟩⟩
      · have z1 : y = true := q.1
        subst z1
        rw [e32_9]
        cases z <;> simp (disch := first | assumption | omega) only [e32_0, e32_1, e32_2, e32_3, e32_4, e32_5, e32_6, e32_7, e32_11, e32_12, e32_15, e32_18, e32_20, e32_21, e32_22, e32_24, e32_25, e32_28, e32_29, e32_30, e32_31, e32_34, e32_36, e32_37, e32_38, e32_39, e32_40, e32_43, e32_44, e32_45, e32_46, e32_49, e32_51, e32_52, e32_53, e32_54, e32_55, e32_56, e32_57, e32_58, e32_61, e32_62, e32_63, e32_64, e32_67, e32_69, e32_70, e32_71, e32_72, e32_73, e32_74, e32_75, e32_76, e32_79, e32_80, e32_81, e32_82, e32_85, e32_87, e32_88, e32_89, e32_90, e32_91, e32_92, e32_93, e32_94, e32_97, e32_98, e32_99, e32_100, e32_102, e32_104, e32_105, e32_106, e32_109, e32_110, e32_111, e32_113, e32_114, e32_115, e32_116, e32_119, e32_121, e32_122, e32_123, e32_126, e32_127, e32_128, e32_131, e32_132, e32_133, e32_134, e32_137, e32_138, e32_141, e32_142, e32_143, e32_146, e32_149, e32_150, e32_153, e32_154, e32_156, e32_158, e32_159, e32_162, e32_163, e32_166, e32_168, e32_169, e32_172, e32_174, e32_175, e32_176, e32_177, e32_180, e32_183, e32_184, m32, ↓reduceIte, qg_0, qg_1, qg_2, qg_3, qg_4, qg_5, qg_6, qg_7, qg_8, qg_9, qg_10, qg_11, qg_12, qg_13, not_true_eq_false, not_false_eq_true, Nat.reduceBEq, Bool.false_eq_true, ex1, ex3, ex4, exF, qfit_i, qfit_l, qfit_r, qfit_n, qfit_b0, qfit_b1, qcat_i, qcat_r, qcat_n, qcat_l, qroom_0, qroom_c, List.map_cons, List.map_nil, List.sum_cons, List.sum_nil, Nat.reduceAdd, Nat.reduceMul, Nat.reduceLT, Nat.reduceLeDiff, Nat.reduceEqDiff, Nat.reduceSub, decide_true, true_and, and_true, and_self, if_true, if_false, Option.toList_some, Option.toList_none, List.cons_append, List.nil_append, qsL, qlong, List.length_cons, List.length_nil, iN_L, exI, iN_add, iN_mul, iN_le, iN_lt, iN_eq, Nat.le_refl, qfN0, qfN1, uX_16, vX_16, uX_19, vX_19, uX_27, vX_27, uX_30, vX_30, uX_39, vX_39, uX_41, vX_41, uX_43, vX_43, uX_46, vX_46, uX_50, vX_50, uX_53, vX_53, h5, gX_19_1, v1, show ¬ n ≤ p by omega, gX_19_8, gX_19_0, q0, q1, q2, q3, q4, r0, r1, r2, r3, i0', i1', i2', i3', lZ_mul, lZ_add, lZ_sub, el, lgN_eq, lgN_ge, show (0 : Int64) = lZ 0 from rfl, zz, zl, show ¬ lv = 0 by omega, show 0 ≤ lv by omega, bN_t, bN_f]
      · have z1 : y = false := by cases y with | false => rfl | true => exact absurd ⟨rfl, rfl⟩ q
        subst z1
        rw [e32_9, mk]
        cases z <;> simp (disch := first | assumption | omega) only [e32_0, e32_1, e32_2, e32_3, e32_4, e32_5, e32_6, e32_7, e32_11, e32_12, e32_15, e32_18, e32_20, e32_21, e32_22, e32_24, e32_25, e32_28, e32_29, e32_30, e32_31, e32_34, e32_36, e32_37, e32_38, e32_39, e32_40, e32_43, e32_44, e32_45, e32_46, e32_49, e32_51, e32_52, e32_53, e32_54, e32_55, e32_56, e32_57, e32_58, e32_61, e32_62, e32_63, e32_64, e32_67, e32_69, e32_70, e32_71, e32_72, e32_73, e32_74, e32_75, e32_76, e32_79, e32_80, e32_81, e32_82, e32_85, e32_87, e32_88, e32_89, e32_90, e32_91, e32_92, e32_93, e32_94, e32_97, e32_98, e32_99, e32_100, e32_102, e32_104, e32_105, e32_106, e32_109, e32_110, e32_111, e32_113, e32_114, e32_115, e32_116, e32_119, e32_121, e32_122, e32_123, e32_126, e32_127, e32_128, e32_131, e32_132, e32_133, e32_134, e32_137, e32_138, e32_141, e32_142, e32_143, e32_146, e32_149, e32_150, e32_153, e32_154, e32_156, e32_158, e32_159, e32_162, e32_163, e32_166, e32_168, e32_169, e32_172, e32_174, e32_175, e32_176, e32_177, e32_180, e32_183, e32_184, m32, ↓reduceIte, qg_0, qg_1, qg_2, qg_3, qg_4, qg_5, qg_6, qg_7, qg_8, qg_9, qg_10, qg_11, qg_12, qg_13, not_true_eq_false, not_false_eq_true, Nat.reduceBEq, Bool.false_eq_true, ex1, ex3, ex4, exF, qfit_i, qfit_l, qfit_r, qfit_n, qfit_b0, qfit_b1, qcat_i, qcat_r, qcat_n, qcat_l, qroom_0, qroom_c, List.map_cons, List.map_nil, List.sum_cons, List.sum_nil, Nat.reduceAdd, Nat.reduceMul, Nat.reduceLT, Nat.reduceLeDiff, Nat.reduceEqDiff, Nat.reduceSub, decide_true, true_and, and_true, and_self, if_true, if_false, Option.toList_some, Option.toList_none, List.cons_append, List.nil_append, qsL, qlong, List.length_cons, List.length_nil, iN_L, exI, iN_add, iN_mul, iN_le, iN_lt, iN_eq, Nat.le_refl, qfN0, qfN1, uX_16, vX_16, uX_19, vX_19, uX_27, vX_27, uX_30, vX_30, uX_39, vX_39, uX_41, vX_41, uX_43, vX_43, uX_46, vX_46, uX_50, vX_50, uX_53, vX_53, h5, gX_19_1, v1, show ¬ n ≤ p by omega, gX_19_8, gX_19_0, q0, q1, q2, q3, q4, r0, r1, r2, r3, i0', i1', i2', i3', lZ_mul, lZ_add, lZ_sub, el, lgN_eq, lgN_ge, show (0 : Int64) = lZ 0 from rfl, zz, zl, show ¬ lv = 0 by omega, show 0 ≤ lv by omega, bN_t, bN_f]
  have mono : ∀ (F : Nat → Bool) (p : Nat), p ≤ n → 0 < cntN F p → 0 < cntN F n := fun F p hp h0 => Nat.lt_of_lt_of_le h0 (cntN_mono hp)
  have r0 : ∀ R, qMC (d + 1) 32 [.ref 19] h R ↔ qEv d 0 qk_32 9 [some (.ref 19), some (.int (iN (mask ON 0))), some (.int (bB false)), some (.int (bB false)), some (.int (iN 0)), none, none, none] [] h R := fun R => by
    rw [bN_f, show mask ON 0 = 0 from rfl]
    simp (disch := first | assumption | omega) only [e32_0, e32_1, e32_2, e32_3, e32_4, e32_5, e32_6, e32_7, e32_11, e32_12, e32_15, e32_18, e32_20, e32_21, e32_22, e32_24, e32_25, e32_28, e32_29, e32_30, e32_31, e32_34, e32_36, e32_37, e32_38, e32_39, e32_40, e32_43, e32_44, e32_45, e32_46, e32_49, e32_51, e32_52, e32_53, e32_54, e32_55, e32_56, e32_57, e32_58, e32_61, e32_62, e32_63, e32_64, e32_67, e32_69, e32_70, e32_71, e32_72, e32_73, e32_74, e32_75, e32_76, e32_79, e32_80, e32_81, e32_82, e32_85, e32_87, e32_88, e32_89, e32_90, e32_91, e32_92, e32_93, e32_94, e32_97, e32_98, e32_99, e32_100, e32_102, e32_104, e32_105, e32_106, e32_109, e32_110, e32_111, e32_113, e32_114, e32_115, e32_116, e32_119, e32_121, e32_122, e32_123, e32_126, e32_127, e32_128, e32_131, e32_132, e32_133, e32_134, e32_137, e32_138, e32_141, e32_142, e32_143, e32_146, e32_149, e32_150, e32_153, e32_154, e32_156, e32_158, e32_159, e32_162, e32_163, e32_166, e32_168, e32_169, e32_172, e32_174, e32_175, e32_176, e32_177, e32_180, e32_183, e32_184, m32, ↓reduceIte, qg_0, qg_1, qg_2, qg_3, qg_4, qg_5, qg_6, qg_7, qg_8, qg_9, qg_10, qg_11, qg_12, qg_13, not_true_eq_false, not_false_eq_true, Nat.reduceBEq, Bool.false_eq_true, ex1, ex3, ex4, exF, qfit_i, qfit_l, qfit_r, qfit_n, qfit_b0, qfit_b1, qcat_i, qcat_r, qcat_n, qcat_l, qroom_0, qroom_c, List.map_cons, List.map_nil, List.sum_cons, List.sum_nil, Nat.reduceAdd, Nat.reduceMul, Nat.reduceLT, Nat.reduceLeDiff, Nat.reduceEqDiff, Nat.reduceSub, decide_true, true_and, and_true, and_self, if_true, if_false, Option.toList_some, Option.toList_none, List.cons_append, List.nil_append, qsL, qlong, List.length_cons, List.length_nil, iN_L, exI, iN_add, iN_mul, iN_le, iN_lt, iN_eq, Nat.le_refl, qfN0, qfN1, uX_16, vX_16, uX_19, vX_19, uX_27, vX_27, uX_30, vX_30, uX_39, vX_39, uX_41, vX_41, uX_43, vX_43, uX_46, vX_46, uX_50, vX_50, uX_53, vX_53]
  -- both sides
  have both : (0 < cntN UP n ∧ 0 < cntN DN n) → ∀ (w p : Nat) (y z : Bool) (x5 x6 : Option Value), p + w = n → qlong x5 = false → ¬ (y = true ∧ z = true) → y = decide (0 < cntN DN p) → z = decide (0 < cntN UP p) → ∀ R, qEv d 0 qk_32 9 [some (.ref 19), some (.int (iN (mask ON p))), some (.int (bB y)), some (.int (bB z)), some (.int (iN p)), x5, x6, none] [] h R ↔ R = (some (.int (-iN 1)), h) := by
    intro hb w
    induction w with
    | zero =>
      intro p y z x5 x6 hp h5 hyz ey ez
      rw [show p = n by omega] at ey ez
      exact absurd ⟨by rw [ey]; exact decide_eq_true hb.2, by rw [ez]; exact decide_eq_true hb.1⟩ hyz
    | succ w ih =>
      intro p y z x5 x6 hp h5 hyz ey ez R
      obtain ⟨y', z', ey', ez', s1, s2⟩ := step p y z x5 x6 (by omega) h5 hyz ey ez
      by_cases q : y' = true ∧ z' = true
      · exact s1 q R
      · obtain ⟨x5', x6', h5', s3⟩ := s2 q
        exact (s3 R).trans (ih (p + 1) y' z' x5' x6' (by omega) h5' q ey' ez' R)
  have one : ¬ (0 < cntN UP n ∧ 0 < cntN DN n) → ∀ (w p : Nat) (y z : Bool) (x5 x6 : Option Value), p + w = n → qlong x5 = false → ¬ (y = true ∧ z = true) → y = decide (0 < cntN DN p) → z = decide (0 < cntN UP p) → ∃ (x5' x6' : Option Value) (y' : Bool), ∀ R, qEv d 0 qk_32 9 [some (.ref 19), some (.int (iN (mask ON p))), some (.int (bB y)), some (.int (bB z)), some (.int (iN p)), x5, x6, none] [] h R ↔ qEv d 0 qk_32 9 [some (.ref 19), some (.int (iN (mask ON n))), some (.int (bB y')), some (.int (bB (decide (0 < cntN UP n)))), some (.int (iN n)), x5', x6', none] [] h R := by
    intro hb w
    induction w with
    | zero =>
      intro p y z x5 x6 hp h5 hyz ey ez
      have ep : p = n := by omega
      subst ep
      exact ⟨x5, x6, y, fun R => by rw [ez]⟩
    | succ w ih =>
      intro p y z x5 x6 hp h5 hyz ey ez
      obtain ⟨y', z', ey', ez', s1, s2⟩ := step p y z x5 x6 (by omega) h5 hyz ey ez
      have q : ¬ (y' = true ∧ z' = true) := fun q => hb ⟨mono UP (p + 1) (by omega) (of_decide_eq_true (by rw [← ez']; exact q.2)), mono DN (p + 1) (by omega) (of_decide_eq_true (by rw [← ey']; exact q.1))⟩
      obtain ⟨x5', x6', h5', s3⟩ := s2 q
      obtain ⟨x5'', x6'', y'', s4⟩ := ih (p + 1) y' z' x5' x6' (by omega) h5' q ey' ez'
      exact ⟨x5'', x6'', y'', fun R => (s3 R).trans (s4 R)⟩
  have ff : ¬ (false = true ∧ false = true) := fun z => by cases z.1
  have d0 : false = decide (0 < cntN DN 0) := rfl
  have u0 : false = decide (0 < cntN UP 0) := rfl
  refine ⟨fun hb R => (r0 R).trans (both hb n 0 false false none none (by omega) rfl ff d0 u0 R), fun hb => ?_⟩
  obtain ⟨x5, x6, y, s1⟩ := one hb n 0 false false none none (by omega) rfl ff d0 u0
  by_cases hu : 0 < cntN UP n
  · rw [decide_eq_true hu, bN_t] at s1
    obtain ⟨G, eG⟩ : ∃ G : Nat → qH, G = fun k => sL h 24 (fun x => if x < k then lZ (-P x) else hl h 24 x) := ⟨_, rfl⟩
    have k24 := kX_24 s
    have sG : ∀ k, ShX (G k) := fun k => by rw [eG]; exact (ChX.rowL (A := [24]) (J := []) (k := 0) s k24 (by decide) (by decide)).sh
    have G0 : h = G 0 := by
      rw [eG]
      have : (fun x => if x < 0 then lZ (-P x) else hl h 24 x) = hl h 24 := by funext x; rw [if_neg (Nat.not_lt_zero x)]
      show h = sL h 24 (fun x => if x < 0 then lZ (-P x) else hl h 24 x)
      rw [this, sL_id k24]
    refine ⟨G 5, fun R => ?_, by rw [eG]; exact ChX.rowL s k24 (by decide) (by decide), fun t ht => by rw [if_pos hu, eG, hl_sL, if_pos rfl, if_pos ht]⟩
    rw [r0 R, s1 R, e32_9]
    have st : qEv d 0 qk_32 156 [some (.ref 19), some (.int (iN (mask ON n))), some (.int (bB y)), some (.int (iN 1)), some (.int (iN 0)), x5, x6, none] [] (G 0) R ↔ R = (some (.int (iN (mask ON n))), G 5) := by
      refine Iff.trans (loop_up (n := 5) (L := fun k => [some (.ref 19), some (.int (iN (mask ON n))), some (.int (bB y)), some (.int (iN 1)), some (.int (iN k)), x5, x6, none]) (H := G) ?_) ?_
      · intro k hk
        try dsimp only
        have sk := sG k
        have rk : qlald (G k) 24 (iN k) = some (lZ (P k)) := by
          rw [rX_24 sk hk, eG, hl_sL, if_pos rfl, if_neg (Nat.lt_irrefl k), hP k hk]
        have wk : qlast (G k) 24 (iN k) (lZ (-P k)) = some (G (k + 1)) := by
          rw [wX_24 sk hk, eG]
          show some (sL (sL h 24 _) 24 (vp_updL (hl (sL h 24 _) 24) k (lZ (-P k)))) = _
          rw [sL_sL, hl_sL, if_pos rfl]
          congr 2
          funext x
          show (if x = k then lZ (-P k) else (if x < k then lZ (-P x) else hl h 24 x)) = _
          by_cases e : x = k
          · rw [if_pos e, if_pos (by omega), e]
          · rw [if_neg e]
            by_cases e2 : x < k
            · rw [if_pos e2, if_pos (by omega)]
            · rw [if_neg e2, if_neg (by omega)]
        rw [e32_156]
        simp (disch := first | assumption | omega) only [e32_0, e32_1, e32_2, e32_3, e32_4, e32_5, e32_6, e32_7, e32_9, e32_11, e32_12, e32_15, e32_18, e32_20, e32_21, e32_22, e32_24, e32_25, e32_28, e32_29, e32_30, e32_31, e32_34, e32_36, e32_37, e32_38, e32_39, e32_40, e32_43, e32_44, e32_45, e32_46, e32_49, e32_51, e32_52, e32_53, e32_54, e32_55, e32_56, e32_57, e32_58, e32_61, e32_62, e32_63, e32_64, e32_67, e32_69, e32_70, e32_71, e32_72, e32_73, e32_74, e32_75, e32_76, e32_79, e32_80, e32_81, e32_82, e32_85, e32_87, e32_88, e32_89, e32_90, e32_91, e32_92, e32_93, e32_94, e32_97, e32_98, e32_99, e32_100, e32_102, e32_104, e32_105, e32_106, e32_109, e32_110, e32_111, e32_113, e32_114, e32_115, e32_116, e32_119, e32_121, e32_122, e32_123, e32_126, e32_127, e32_128, e32_131, e32_132, e32_133, e32_134, e32_137, e32_138, e32_141, e32_142, e32_143, e32_146, e32_149, e32_150, e32_153, e32_154, e32_158, e32_159, e32_162, e32_163, e32_166, e32_168, e32_169, e32_172, e32_174, e32_175, e32_176, e32_177, e32_180, e32_183, e32_184, m32, ↓reduceIte, qg_0, qg_1, qg_2, qg_3, qg_4, qg_5, qg_6, qg_7, qg_8, qg_9, qg_10, qg_11, qg_12, qg_13, not_true_eq_false, not_false_eq_true, Nat.reduceBEq, Bool.false_eq_true, ex1, ex3, ex4, exF, qfit_i, qfit_l, qfit_r, qfit_n, qfit_b0, qfit_b1, qcat_i, qcat_r, qcat_n, qcat_l, qroom_0, qroom_c, List.map_cons, List.map_nil, List.sum_cons, List.sum_nil, Nat.reduceAdd, Nat.reduceMul, Nat.reduceLT, Nat.reduceLeDiff, Nat.reduceEqDiff, Nat.reduceSub, decide_true, true_and, and_true, and_self, if_true, if_false, Option.toList_some, Option.toList_none, List.cons_append, List.nil_append, qsL, qlong, List.length_cons, List.length_nil, iN_L, exI, iN_add, iN_mul, iN_le, iN_lt, iN_eq, Nat.le_refl, qfN0, qfN1, uX_16, vX_16, uX_19, vX_19, uX_27, vX_27, uX_30, vX_30, uX_39, vX_39, uX_41, vX_41, uX_43, vX_43, uX_46, vX_46, uX_50, vX_50, uX_53, vX_53, gX_19_8, rk, wk, show ¬ 5 ≤ k by omega, lZ_neg]
      · try dsimp only
        have sk := sG 5
        rw [e32_156]
        simp (disch := first | assumption | omega) only [e32_0, e32_1, e32_2, e32_3, e32_4, e32_5, e32_6, e32_7, e32_9, e32_11, e32_12, e32_15, e32_18, e32_20, e32_21, e32_22, e32_24, e32_25, e32_28, e32_29, e32_30, e32_31, e32_34, e32_36, e32_37, e32_38, e32_39, e32_40, e32_43, e32_44, e32_45, e32_46, e32_49, e32_51, e32_52, e32_53, e32_54, e32_55, e32_56, e32_57, e32_58, e32_61, e32_62, e32_63, e32_64, e32_67, e32_69, e32_70, e32_71, e32_72, e32_73, e32_74, e32_75, e32_76, e32_79, e32_80, e32_81, e32_82, e32_85, e32_87, e32_88, e32_89, e32_90, e32_91, e32_92, e32_93, e32_94, e32_97, e32_98, e32_99, e32_100, e32_102, e32_104, e32_105, e32_106, e32_109, e32_110, e32_111, e32_113, e32_114, e32_115, e32_116, e32_119, e32_121, e32_122, e32_123, e32_126, e32_127, e32_128, e32_131, e32_132, e32_133, e32_134, e32_137, e32_138, e32_141, e32_142, e32_143, e32_146, e32_149, e32_150, e32_153, e32_154, e32_158, e32_159, e32_162, e32_163, e32_166, e32_168, e32_169, e32_172, e32_174, e32_175, e32_176, e32_177, e32_180, e32_183, e32_184, m32, ↓reduceIte, qg_0, qg_1, qg_2, qg_3, qg_4, qg_5, qg_6, qg_7, qg_8, qg_9, qg_10, qg_11, qg_12, qg_13, not_true_eq_false, not_false_eq_true, Nat.reduceBEq, Bool.false_eq_true, ex1, ex3, ex4, exF, qfit_i, qfit_l, qfit_r, qfit_n, qfit_b0, qfit_b1, qcat_i, qcat_r, qcat_n, qcat_l, qroom_0, qroom_c, List.map_cons, List.map_nil, List.sum_cons, List.sum_nil, Nat.reduceAdd, Nat.reduceMul, Nat.reduceLT, Nat.reduceLeDiff, Nat.reduceEqDiff, Nat.reduceSub, decide_true, true_and, and_true, and_self, if_true, if_false, Option.toList_some, Option.toList_none, List.cons_append, List.nil_append, qsL, qlong, List.length_cons, List.length_nil, iN_L, exI, iN_add, iN_mul, iN_le, iN_lt, iN_eq, Nat.le_refl, qfN0, qfN1, uX_16, vX_16, uX_19, vX_19, uX_27, vX_27, uX_30, vX_30, uX_39, vX_39, uX_41, vX_41, uX_43, vX_43, uX_46, vX_46, uX_50, vX_50, uX_53, vX_53]
    rw [← st, ← G0]
    simp (disch := first | assumption | omega) only [e32_0, e32_1, e32_2, e32_3, e32_4, e32_5, e32_6, e32_7, e32_11, e32_12, e32_15, e32_18, e32_20, e32_21, e32_22, e32_24, e32_25, e32_28, e32_29, e32_30, e32_31, e32_34, e32_36, e32_37, e32_38, e32_39, e32_40, e32_43, e32_44, e32_45, e32_46, e32_49, e32_51, e32_52, e32_53, e32_54, e32_55, e32_56, e32_57, e32_58, e32_61, e32_62, e32_63, e32_64, e32_67, e32_69, e32_70, e32_71, e32_72, e32_73, e32_74, e32_75, e32_76, e32_79, e32_80, e32_81, e32_82, e32_85, e32_87, e32_88, e32_89, e32_90, e32_91, e32_92, e32_93, e32_94, e32_97, e32_98, e32_99, e32_100, e32_102, e32_104, e32_105, e32_106, e32_109, e32_110, e32_111, e32_113, e32_114, e32_115, e32_116, e32_119, e32_121, e32_122, e32_123, e32_126, e32_127, e32_128, e32_131, e32_132, e32_133, e32_134, e32_137, e32_138, e32_141, e32_142, e32_143, e32_146, e32_149, e32_150, e32_153, e32_154, e32_158, e32_159, e32_162, e32_163, e32_166, e32_168, e32_169, e32_172, e32_174, e32_175, e32_176, e32_177, e32_180, e32_183, e32_184, m32, ↓reduceIte, qg_0, qg_1, qg_2, qg_3, qg_4, qg_5, qg_6, qg_7, qg_8, qg_9, qg_10, qg_11, qg_12, qg_13, not_true_eq_false, not_false_eq_true, Nat.reduceBEq, Bool.false_eq_true, ex1, ex3, ex4, exF, qfit_i, qfit_l, qfit_r, qfit_n, qfit_b0, qfit_b1, qcat_i, qcat_r, qcat_n, qcat_l, qroom_0, qroom_c, List.map_cons, List.map_nil, List.sum_cons, List.sum_nil, Nat.reduceAdd, Nat.reduceMul, Nat.reduceLT, Nat.reduceLeDiff, Nat.reduceEqDiff, Nat.reduceSub, decide_true, true_and, and_true, and_self, if_true, if_false, Option.toList_some, Option.toList_none, List.cons_append, List.nil_append, qsL, qlong, List.length_cons, List.length_nil, iN_L, exI, iN_add, iN_mul, iN_le, iN_lt, iN_eq, Nat.le_refl, qfN0, qfN1, uX_16, vX_16, uX_19, vX_19, uX_27, vX_27, uX_30, vX_30, uX_39, vX_39, uX_41, vX_41, uX_43, vX_43, uX_46, vX_46, uX_50, vX_50, uX_53, vX_53, gX_19_1, v1]
  · rw [decide_eq_false hu] at s1
    refine ⟨h, fun R => ?_, ChX.refl s, fun t ht => by rw [if_neg hu]; exact hP t ht⟩
    rw [r0 R, s1 R, bN_f, e32_9]
    simp (disch := first | assumption | omega) only [e32_0, e32_1, e32_2, e32_3, e32_4, e32_5, e32_6, e32_7, e32_11, e32_12, e32_15, e32_18, e32_20, e32_21, e32_22, e32_24, e32_25, e32_28, e32_29, e32_30, e32_31, e32_34, e32_36, e32_37, e32_38, e32_39, e32_40, e32_43, e32_44, e32_45, e32_46, e32_49, e32_51, e32_52, e32_53, e32_54, e32_55, e32_56, e32_57, e32_58, e32_61, e32_62, e32_63, e32_64, e32_67, e32_69, e32_70, e32_71, e32_72, e32_73, e32_74, e32_75, e32_76, e32_79, e32_80, e32_81, e32_82, e32_85, e32_87, e32_88, e32_89, e32_90, e32_91, e32_92, e32_93, e32_94, e32_97, e32_98, e32_99, e32_100, e32_102, e32_104, e32_105, e32_106, e32_109, e32_110, e32_111, e32_113, e32_114, e32_115, e32_116, e32_119, e32_121, e32_122, e32_123, e32_126, e32_127, e32_128, e32_131, e32_132, e32_133, e32_134, e32_137, e32_138, e32_141, e32_142, e32_143, e32_146, e32_149, e32_150, e32_153, e32_154, e32_158, e32_159, e32_162, e32_163, e32_166, e32_168, e32_169, e32_172, e32_174, e32_175, e32_176, e32_177, e32_180, e32_183, e32_184, m32, ↓reduceIte, qg_0, qg_1, qg_2, qg_3, qg_4, qg_5, qg_6, qg_7, qg_8, qg_9, qg_10, qg_11, qg_12, qg_13, not_true_eq_false, not_false_eq_true, Nat.reduceBEq, Bool.false_eq_true, ex1, ex3, ex4, exF, qfit_i, qfit_l, qfit_r, qfit_n, qfit_b0, qfit_b1, qcat_i, qcat_r, qcat_n, qcat_l, qroom_0, qroom_c, List.map_cons, List.map_nil, List.sum_cons, List.sum_nil, Nat.reduceAdd, Nat.reduceMul, Nat.reduceLT, Nat.reduceLeDiff, Nat.reduceEqDiff, Nat.reduceSub, decide_true, true_and, and_true, and_self, if_true, if_false, Option.toList_some, Option.toList_none, List.cons_append, List.nil_append, qsL, qlong, List.length_cons, List.length_nil, iN_L, exI, iN_add, iN_mul, iN_le, iN_lt, iN_eq, Nat.le_refl, qfN0, qfN1, uX_16, vX_16, uX_19, vX_19, uX_27, vX_27, uX_30, vX_30, uX_39, vX_39, uX_41, vX_41, uX_43, vX_43, uX_46, vX_46, uX_50, vX_50, uX_53, vX_53, gX_19_1, v1]
end XSPAN

/-! ===== THE TEXT: all clauses ===== -/
section READP
/-- a clause that can be done -/
def clG : cls4 → Prop
  | .inl (k, n, m) => shpG k n m
  | .inr c => (∀ b, c.1 = some b → b ≤ 99) ∧ c.2.1 ≤ 3 ∧ isSg c.2.2.1 = true ∧ c.2.2.2 ≤ 999
theorem keyW_l {l : List Nat} {k : Nat} (e : keyW l = some k) : 4 ≤ l.length ∧ k ≤ 4 ∧ (k = 4 → l.length = 5) := by
  unfold keyW at e
  split at e
  · rename_i z; cases e; rw [z]; exact ⟨by decide, by decide, fun w => by cases w⟩
  · split at e
    · rename_i z; cases e; rw [z]; exact ⟨by decide, by decide, fun w => by cases w⟩
    · split at e
      · rename_i z; cases e; rw [z]; exact ⟨by decide, by decide, fun w => by cases w⟩
      · split at e
        · rename_i z; cases e; rw [z]; exact ⟨by decide, by decide, fun w => by cases w⟩
        · split at e
          · rename_i z; cases e; rw [z]; exact ⟨by decide, by decide, fun _ => by decide⟩
          · cases e
variable {tx : List Nat}
theorem pWho_ok {a : Nat} {q : Nat × Option Nat} (ha : a ≤ tx.length) (e : pWho tx a = .inr q) : a ≤ q.1 ∧ q.1 ≤ tx.length ∧ ∀ b, q.2 = some b → b ≤ 99 := by
  unfold pWho at e
  split at e
  · obtain ⟨x, x1, x2⟩ := pB_ok e
    cases x2
    obtain ⟨h1, h2, h3, h4, h5⟩ := pNum_ok ha x1
    exact ⟨by show a ≤ x.1; omega, h2, fun b hb => by cases hb; exact h4⟩
  · obtain ⟨x, x1, x2⟩ := pB_ok e
    cases x2
    obtain ⟨h1, h2⟩ := pWrd_ok ha x1
    exact ⟨by show a ≤ x; omega, h2, fun b hb => by cases hb⟩
theorem pClm_ok {a : Nat} {q : Nat × clm} (ha : a ≤ tx.length) (e : pClm tx a = .inr q) : a ≤ q.1 ∧ q.1 ≤ tx.length ∧ clG (.inr q.2) := by
  unfold pClm at e
  obtain ⟨x1, w1, y1⟩ := pB_ok e
  obtain ⟨x2, w2, y2⟩ := pB_ok y1
  obtain ⟨x3, w3, y3⟩ := pB_ok y2
  obtain ⟨x4, w4, y4⟩ := pB_ok y3
  obtain ⟨x5, w5, y5⟩ := pB_ok y4
  cases y5
  obtain ⟨a1, a2, a3⟩ := pWho_ok ha w1
  obtain ⟨b1, b2⟩ := pWrd_ok a2 w2
  obtain ⟨c1, c2, c3, c4, c5⟩ := pNum_ok b2 w3
  obtain ⟨d1, d2, d3⟩ := pChr_ok w4
  obtain ⟨e1, e2, e3, e4, e5⟩ := pNum_ok d2 w5
  exact ⟨by show a ≤ x5.1; omega, e2, a3, c4, d3, e5⟩
theorem pShp_ok {a k : Nat} {q : Nat × Nat × Nat} (hk : k ≤ 3) (ha : a ≤ tx.length) (e : pShp tx a k = .inr q) : a + 1 ≤ q.1 ∧ q.1 ≤ tx.length ∧ shpG k q.2.1 q.2.2 := by
  unfold pShp at e
  obtain ⟨x1, w1, y1⟩ := pB_ok e
  obtain ⟨a1, a2, a3, a4, -⟩ := pNum_ok ha w1
  split at y1
  · obtain ⟨x2, w2, y2⟩ := pB_ok y1
    obtain ⟨x3, w3, y3⟩ := pB_ok y2
    cases y3
    obtain ⟨b1, b2⟩ := pWrd_ok a2 w2
    obtain ⟨c1, c2, c3, c4, -⟩ := pNum_ok b2 w3
    exact ⟨by show a + 1 ≤ x3.1; omega, c2, ⟨a3, a4⟩, hk, fun _ => ⟨c3, c4⟩⟩
  · rename_i z
    cases y1
    exact ⟨a1, a2, ⟨a3, a4⟩, hk, fun w => absurd w z⟩
theorem pCl0_ok {a c : Nat} {q : Nat × cls4} (ha : a ≤ tx.length) (h8 : c ≤ 8) (e : pCl0 tx a c = .inr q) : a + 5 ≤ q.1 ∧ q.1 ≤ tx.length ∧ clG q.2 ∧ c + isCm q.2 ≤ 8 := by
  have hs := skp_ge (tx := tx) (a := a)
  have hw : skp tx a + (wdE tx (skp tx a)).length ≤ tx.length := tk_le (skp_le ha)
  unfold pCl0 at e
  cases ek : keyW (wdE tx (skp tx a)) with
  | none => rw [ek] at e; cases e
  | some k =>
    rw [ek] at e
    obtain ⟨l4, k4, l5⟩ := keyW_l ek
    by_cases q4 : k = 4
    · subst q4
      have l5' := l5 rfl
      have e' : (if c = 8 then (.inl (3, skp tx a) : pFl ⊕ (Nat × cls4)) else pB (pClm tx (skp tx a + 5)) fun q => .inr (q.1, .inr q.2)) = .inr q := e
      split at e'
      · cases e'
      · rename_i c8
        obtain ⟨x, w, y⟩ := pB_ok e'
        cases y
        obtain ⟨h1, h2, h3⟩ := pClm_ok (by omega) w
        exact ⟨by show a + 5 ≤ x.1; omega, h2, h3, by show c + 1 ≤ 8; omega⟩
    · have e' : pB (pShp tx (skp tx a + (wdE tx (skp tx a)).length) k) (fun q => .inr (q.1, .inl (k, q.2.1, q.2.2))) = .inr q := by
        rcases (show k = 0 ∨ k = 1 ∨ k = 2 ∨ k = 3 by omega) with rfl | rfl | rfl | rfl <;> exact e
      obtain ⟨x, w, y⟩ := pB_ok e'
      cases y
      obtain ⟨h1, h2, h3⟩ := pShp_ok (by omega) hw w
      exact ⟨by show a + 5 ≤ x.1; omega, h2, h3, by show c + 0 ≤ 8; omega⟩
theorem pCls_ok {a c : Nat} {q : Nat × cls4} (ha : a ≤ tx.length) (h8 : c ≤ 8) (e : pCls tx a c = .inr q) : a + 6 ≤ q.1 ∧ q.1 ≤ tx.length ∧ clG q.2 ∧ c + isCm q.2 ≤ 8 := by
  unfold pCls at e
  obtain ⟨x, w, y⟩ := pB_ok e
  obtain ⟨x2, w2, y2⟩ := pB_ok y
  cases y2
  obtain ⟨h1, h2, h3, h4⟩ := pCl0_ok ha h8 w
  obtain ⟨g1, g2, g3⟩ := pChr_ok w2
  exact ⟨by show a + 6 ≤ x2.1; omega, g2, h3, h4⟩
/-- all clauses are good, and claims have room -/
theorem pAll_ok : ∀ (n a c : Nat) (l : List cls4), a ≤ tx.length → c ≤ 8 → pAll tx n a c = .inr l → (∀ x ∈ l, clG x) ∧ c + (l.flatMap clmOf).length ≤ 8 ∧ 6 * l.length ≤ tx.length - a
  | 0, a, c, l, ha, h8, e => by
    cases e
    exact ⟨fun x hx => absurd hx List.not_mem_nil, h8, by show 6 * 0 ≤ _; omega⟩
  | n + 1, a, c, l, ha, h8, e => by
    rw [pAll] at e
    split at e
    · cases e
      exact ⟨fun x hx => absurd hx List.not_mem_nil, h8, by show 6 * 0 ≤ _; omega⟩
    · obtain ⟨q, w, y⟩ := pB_ok e
      obtain ⟨l', w2, y2⟩ := pB_ok y
      cases y2
      obtain ⟨h1, h2, h3, h4⟩ := pCls_ok ha h8 w
      obtain ⟨g1, g2, g3⟩ := pAll_ok n q.1 (c + isCm q.2) l' h2 h4 w2
      refine ⟨fun x hx => ?_, ?_, by rw [List.length_cons]; omega⟩
      · rcases List.mem_cons.mp hx with z | z
        · rw [z]; exact h3
        · exact g1 x z
      · rw [List.flatMap_cons, List.length_append]
        have : (clmOf q.2).length = isCm q.2 := by cases q.2 <;> rfl
        omega
/-- clauses are done one by one -/
noncomputable def exRun : List cls4 → List bdy → List clm → Nat × List bdy × List clm
  | [], bs, cm => (0, bs, cm)
  | .inr c :: l, bs, cm => ((exRun l bs (cm ++ [c])).1 + 1, (exRun l bs (cm ++ [c])).2)
  | .inl (k, n, m) :: l, bs, cm => if bs.length = 24 then (0, bs, cm) else ((exRun l (bs ++ [(tellAll n [] (shp k n m), n, 1)]) cm).1 + 1, (exRun l (bs ++ [(tellAll n [] (shp k n m), n, 1)]) cm).2)
/-- what `read` answers and leaves -/
noncomputable def redR (tx : List Nat) (bs : List bdy) (cm : List clm) (v : Int32) (bs' : List bdy) (cm' : List clm) (ft : Int32) : Prop := match pAll tx (tx.length + 1) 0 cm.length with
  | .inl (k, p) => v = -iN 10 - iN k ∧ bs' = bs ∧ cm' = cm ∧ ft = iN p
  | .inr l => v = iN (exRun l bs cm).1 ∧ bs' = (exRun l bs cm).2.1 ∧ cm' = (exRun l bs cm).2.2 ∧ ft = -iN 1
end READP
/-! ===== THE REFERENCE: read, fault, claim ===== -/
section READR
variable {d : Nat} {h : qH} {tx : List Nat} {bs : List bdy} {cm : List clm}
def CmV (h : qH) (cm : List clm) : Prop := CmRow h 94 cm ∧ mi h 54 = iN cm.length
theorem CmV.ch {A J : List Nat} {h' : qH} (t : CmV h cm) (c : Ch A J h h') (hA : 94 ∉ A) (hJ : 54 ∉ J) : CmV h' cm := ⟨⟨t.1.1, fun k hk j hj => by rw [c.hi hA (by decide)]; exact t.1.2 k hk j hj⟩, by rw [c.mi hJ]; exact t.2⟩
def rdA : List Nat := [95, 96]
def rdJ : List Nat := [52, 53, 56, 58, 60, 61, 62]
set_option maxRecDepth 100000 in
set_option maxHeartbeats 16000000 in
theorem rd_loop {cn : Nat} {x2 x3 x4 x5 : Option Value} {h0 : qH} (t : TxV h0 tx) (m54 : mi h0 54 = iN cn) : ∀ (n a : Nat) (cs : List cls4) (fc : List clm) (h1 : qH), tx.length - a < n → a ≤ tx.length → Ch rdA rdJ h0 h1 → mi h1 53 = iN a → CcV h1 cs → FcV h1 fc → cn + fc.length ≤ 8 → 6 * cs.length ≤ a → ∃ h' f y1, (∀ R, qEv (d + 5) 0 qk_304 22 [some (.ref 55), some (.int (iN 0)), x2, x3, x4, x5] [] h1 R ↔ qEv (d + 5) 0 qk_304 41 [some (.ref 55), some (.int f), x2, x3, x4, x5] [] h' R) ∧ Ch rdA rdJ h0 h' ∧ y1 = f ∧ rdQ h1 h' f (pAll tx n a (cn + fc.length)) (fun l => CcV h' (cs ++ l) ∧ FcV h' (fc ++ l.flatMap clmOf)) := by
  have t160 := t.1
  intro n
  induction n with
  | zero => intro a cs fc h1 hn; omega
  | succ n ih =>
    intro a cs fc h1 hn ha c1 m53 vc vf h8 h6
    have s1 := c1.sh
    have t1 := t.ch c1 (by decide) (by decide)
    have hl := skp_le ha
    obtain ⟨g1, r1, c2, m1⟩ := s_here (d := d + 4) s1 t1 ha m53
    have s2 := c2.sh
    have c2' : Ch rdA rdJ h0 g1 := c1.trans (c2.mono (by decide) (by decide))
    have t2 := t.ch c2' (by decide) (by decide)
    have vc2 : CcV g1 cs := ⟨by rw [c2.mi (by decide)]; exact vc.1, fun k hk => (vc.2 k hk).keep fun j _ => by rw [c2.hi (by decide) (by decide)]⟩
    have vf2 : FcV g1 fc := vf.keep (c2.hi (by decide) (by decide)) (c2.mi (by decide))
    rw [pAll]
    by_cases q : tx.length ≤ skp tx a
    · have ev : hrV tx (skp tx a) = -iN 1 := by unfold hrV; rw [if_neg (by omega)]
      rw [ev] at r1
      rw [if_pos q]
      have lt : -iN 1 < iN 0 := by decide
      refine ⟨g1, iN 0, iN 0, fun R => ?_, c2', rfl, rfl, c2.mi (by decide), by rw [List.append_nil]; exact vc2, by rw [List.flatMap_nil, List.append_nil]; exact vf2⟩
      rw [e304_22]
      simp (disch := first | assumption | omega) only [e304_0, e304_1, e304_2, e304_5, e304_6, e304_7, e304_10, e304_11, e304_12, e304_15, e304_16, e304_17, e304_20, e304_21, e304_23, e304_26, e304_27, e304_30, e304_33, e304_34, e304_37, e304_38, e304_42, e304_43, e304_46, e304_47, e304_50, e304_52, e304_53, e304_54, e304_55, e304_56, e304_57, e304_58, e304_59, e304_60, e304_62, e304_64, e304_67, e304_68, e304_69, e304_72, e304_75, e304_76, e304_79, e304_80, e304_81, e304_82, e304_83, e304_84, e304_87, e304_88, e304_90, e304_92, e304_93, e304_96, e304_97, e304_100, e304_101, e304_102, e304_105, e304_106, e304_108, e304_109, e304_110, e304_113, e304_114, e304_115, e304_116, e304_118, e304_119, e304_120, e304_121, e304_124, e304_127, e304_128, e304_129, e304_132, e304_133, e304_134, e304_137, e304_140, e304_143, e304_144, e304_145, e304_148, e304_149, e304_150, e304_151, e304_152, e304_153, e304_156, e304_157, e304_158, e304_159, e304_160, e304_161, e304_162, e304_163, e304_166, e304_167, e304_168, e304_169, e304_170, e304_171, e304_172, e304_175, e304_177, e304_178, e304_180, e304_183, e304_184, e304_187, e304_188, e304_189, e304_190, e304_193, e304_194, m304, ↓reduceIte, qg_0, qg_1, qg_2, qg_3, qg_4, qg_5, qg_6, qg_7, qg_8, qg_9, qg_10, qg_11, qg_12, qg_13, not_true_eq_false, not_false_eq_true, Nat.reduceBEq, Bool.false_eq_true, ex1, ex3, ex4, exF, qfit_i, qfit_l, qfit_r, qfit_n, qfit_b0, qfit_b1, qcat_i, qcat_r, qcat_n, qcat_l, qroom_0, qroom_c, List.map_cons, List.map_nil, List.sum_cons, List.sum_nil, Nat.reduceAdd, Nat.reduceMul, Nat.reduceLT, Nat.reduceLeDiff, Nat.reduceEqDiff, Nat.reduceSub, decide_true, true_and, and_true, and_self, if_true, if_false, Option.toList_some, Option.toList_none, List.cons_append, List.nil_append, qsL, qlong, List.length_cons, List.length_nil, iN_L, vM1, vM2, exI, iN_add, iN_mul, iN_le, iN_lt, iN_eq, Nat.le_refl, qfN0, qfN1, r1, lt]
    · have ev : hrV tx (skp tx a) = iN (tx.getD (skp tx a) 0) := by unfold hrV; rw [if_pos (by omega)]
      rw [ev] at r1
      rw [if_neg q]
      obtain ⟨g2, r, r2, c3, z⟩ := s_readClause (d := d) (cn := cn) (fc := fc) (cs := cs) (a := skp tx a) s2 t2 hl m1 (by rw [c2'.mi (by decide)]; exact m54) vf2 h8 vc2 (by omega)
      have ep : pCls tx (skp tx a) (cn + fc.length) = pCls tx a (cn + fc.length) := by unfold pCls pCl0; rw [skp_skp ha]
      rw [ep] at z
      have c3' : Ch rdA rdJ h0 g2 := c2'.trans (c3.mono (by decide) (by decide))
      have v256 := (t.2.2 (skp tx a) (by omega)).2
      have st : ∀ R, qEv (d + 5) 0 qk_304 22 [some (.ref 55), some (.int (iN 0)), x2, x3, x4, x5] [] h1 R ↔ qEv (d + 5) 0 qk_304 22 [some (.ref 55), some (.int r), x2, x3, x4, x5] [] g2 R := by
        intro R
        rw [e304_22]
        simp (disch := first | assumption | omega) only [e304_0, e304_1, e304_2, e304_5, e304_6, e304_7, e304_10, e304_11, e304_12, e304_15, e304_16, e304_17, e304_20, e304_21, e304_23, e304_26, e304_27, e304_30, e304_33, e304_34, e304_37, e304_38, e304_42, e304_43, e304_46, e304_47, e304_50, e304_52, e304_53, e304_54, e304_55, e304_56, e304_57, e304_58, e304_59, e304_60, e304_62, e304_64, e304_67, e304_68, e304_69, e304_72, e304_75, e304_76, e304_79, e304_80, e304_81, e304_82, e304_83, e304_84, e304_87, e304_88, e304_90, e304_92, e304_93, e304_96, e304_97, e304_100, e304_101, e304_102, e304_105, e304_106, e304_108, e304_109, e304_110, e304_113, e304_114, e304_115, e304_116, e304_118, e304_119, e304_120, e304_121, e304_124, e304_127, e304_128, e304_129, e304_132, e304_133, e304_134, e304_137, e304_140, e304_143, e304_144, e304_145, e304_148, e304_149, e304_150, e304_151, e304_152, e304_153, e304_156, e304_157, e304_158, e304_159, e304_160, e304_161, e304_162, e304_163, e304_166, e304_167, e304_168, e304_169, e304_170, e304_171, e304_172, e304_175, e304_177, e304_178, e304_180, e304_183, e304_184, e304_187, e304_188, e304_189, e304_190, e304_193, e304_194, m304, ↓reduceIte, qg_0, qg_1, qg_2, qg_3, qg_4, qg_5, qg_6, qg_7, qg_8, qg_9, qg_10, qg_11, qg_12, qg_13, not_true_eq_false, not_false_eq_true, Nat.reduceBEq, Bool.false_eq_true, ex1, ex3, ex4, exF, qfit_i, qfit_l, qfit_r, qfit_n, qfit_b0, qfit_b1, qcat_i, qcat_r, qcat_n, qcat_l, qroom_0, qroom_c, List.map_cons, List.map_nil, List.sum_cons, List.sum_nil, Nat.reduceAdd, Nat.reduceMul, Nat.reduceLT, Nat.reduceLeDiff, Nat.reduceEqDiff, Nat.reduceSub, decide_true, true_and, and_true, and_self, if_true, if_false, Option.toList_some, Option.toList_none, List.cons_append, List.nil_append, qsL, qlong, List.length_cons, List.length_nil, iN_L, vM1, vM2, exI, iN_add, iN_mul, iN_le, iN_lt, iN_eq, Nat.le_refl, qfN0, qfN1, r1, show ¬ tx.getD (skp tx a) 0 < 0 by omega, r2]
      cases e : pCls tx a (cn + fc.length) with
      | inl f =>
        obtain ⟨z1, z2, z3⟩ := rdQ_l z e
        subst z1
        refine ⟨g2, iN f.1, iN f.1, fun R => ?_, c3', rfl, rfl, z2, z3⟩
        rw [st R, e304_22]
        simp (disch := first | assumption | omega) only [e304_0, e304_1, e304_2, e304_5, e304_6, e304_7, e304_10, e304_11, e304_12, e304_15, e304_16, e304_17, e304_20, e304_21, e304_23, e304_26, e304_27, e304_30, e304_33, e304_34, e304_37, e304_38, e304_42, e304_43, e304_46, e304_47, e304_50, e304_52, e304_53, e304_54, e304_55, e304_56, e304_57, e304_58, e304_59, e304_60, e304_62, e304_64, e304_67, e304_68, e304_69, e304_72, e304_75, e304_76, e304_79, e304_80, e304_81, e304_82, e304_83, e304_84, e304_87, e304_88, e304_90, e304_92, e304_93, e304_96, e304_97, e304_100, e304_101, e304_102, e304_105, e304_106, e304_108, e304_109, e304_110, e304_113, e304_114, e304_115, e304_116, e304_118, e304_119, e304_120, e304_121, e304_124, e304_127, e304_128, e304_129, e304_132, e304_133, e304_134, e304_137, e304_140, e304_143, e304_144, e304_145, e304_148, e304_149, e304_150, e304_151, e304_152, e304_153, e304_156, e304_157, e304_158, e304_159, e304_160, e304_161, e304_162, e304_163, e304_166, e304_167, e304_168, e304_169, e304_170, e304_171, e304_172, e304_175, e304_177, e304_178, e304_180, e304_183, e304_184, e304_187, e304_188, e304_189, e304_190, e304_193, e304_194, m304, ↓reduceIte, qg_0, qg_1, qg_2, qg_3, qg_4, qg_5, qg_6, qg_7, qg_8, qg_9, qg_10, qg_11, qg_12, qg_13, not_true_eq_false, not_false_eq_true, Nat.reduceBEq, Bool.false_eq_true, ex1, ex3, ex4, exF, qfit_i, qfit_l, qfit_r, qfit_n, qfit_b0, qfit_b1, qcat_i, qcat_r, qcat_n, qcat_l, qroom_0, qroom_c, List.map_cons, List.map_nil, List.sum_cons, List.sum_nil, Nat.reduceAdd, Nat.reduceMul, Nat.reduceLT, Nat.reduceLeDiff, Nat.reduceEqDiff, Nat.reduceSub, decide_true, true_and, and_true, and_self, if_true, if_false, Option.toList_some, Option.toList_none, List.cons_append, List.nil_append, qsL, qlong, List.length_cons, List.length_nil, iN_L, vM1, vM2, exI, iN_add, iN_mul, iN_le, iN_lt, iN_eq, Nat.le_refl, qfN0, qfN1, show ¬ f.1 = 0 by omega]
      | inr p =>
        obtain ⟨z1, z2, z3, z4, z5⟩ := rdQ_r z e
        subst z1
        obtain ⟨p1, p2, p3, p4⟩ := pCls_ok ha h8 e
        have el : (fc ++ clmOf p.2).length = fc.length + isCm p.2 := by
          rw [List.length_append]
          have : (clmOf p.2).length = isCm p.2 := by cases p.2 <;> rfl
          omega
        obtain ⟨h', f, y1, r', c', ey, z'⟩ := ih p.1 (cs ++ [p.2]) (fc ++ clmOf p.2) g2 (by omega) p2 c3' z3 z4 z5 (by rw [el]; omega) (by rw [List.length_append, List.length_singleton]; omega)
        refine ⟨h', f, y1, fun R => (st R).trans (r' R), c', ey, ?_⟩
        rw [el, ← Nat.add_assoc] at z'
        show rdQ h1 h' f (pB (pAll tx n p.1 (cn + fc.length + isCm p.2)) _) _
        cases e2 : pAll tx n p.1 (cn + fc.length + isCm p.2) with
        | inl f2 =>
          obtain ⟨x1, x2, x3⟩ := rdQ_l z' e2
          exact ⟨x1, x2, x3⟩
        | inr l =>
          obtain ⟨x1, x2, x3, x4⟩ := rdQ_r z' e2
          refine ⟨x1, by rw [x2, z2, c2.mi (by decide)], ?_, ?_⟩
          · rw [List.append_assoc] at x3; exact x3
          · rw [List.flatMap_cons, ← List.append_assoc]; exact x4
end READR

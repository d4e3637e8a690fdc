/-! ===== THE CLASS: the lattice's box ===== -/
section XAIM
variable {d : Nat} {h : qH} {R : qRes}
theorem four_b {t : Nat} (ht : 1 ≤ t ∧ t ≤ 4) {x : Int} (hx : -999 ≤ x ∧ x ≤ 999) : -3996 ≤ x * (t : Int) ∧ x * (t : Int) ≤ 3996 := by
  rcases (by omega : t = 1 ∨ t = 2 ∨ t = 3 ∨ t = 4) with rfl | rfl | rfl | rfl <;> omega
theorem four_lt {t : Nat} (ht : 1 ≤ t ∧ t ≤ 4) {x y : Int} : x * (t : Int) < y * (t : Int) ↔ x < y := by
  rcases (by omega : t = 1 ∨ t = 2 ∨ t = 3 ∨ t = 4) with rfl | rfl | rfl | rfl <;> omega
theorem mn_step {f : Nat → Int} {c t : Nat} (ht : 1 ≤ t ∧ t ≤ 4) : (if f c * (t : Int) < mnZ f c * (t : Int) then f c * (t : Int) else mnZ f c * (t : Int)) = mnZ f (c + 1) * (t : Int) := by
  rw [mnZ]
  by_cases z : f c < mnZ f c
  · rw [if_pos ((four_lt ht).mpr z), if_pos z]
  · rw [if_neg fun y => z ((four_lt ht).mp y), if_neg z]
theorem mx_step {f : Nat → Int} {c t : Nat} (ht : 1 ≤ t ∧ t ≤ 4) : (if mxZ f c * (t : Int) < f c * (t : Int) then f c * (t : Int) else mxZ f c * (t : Int)) = mxZ f (c + 1) * (t : Int) := by
  rw [mxZ]
  by_cases z : mxZ f c < f c
  · rw [if_pos ((four_lt ht).mpr z), if_pos z]
  · rw [if_neg fun y => z ((four_lt ht).mp y), if_neg z]
set_option maxRecDepth 100000 in
set_option maxHeartbeats 32000000 in
theorem x_aim {a D t z : Nat} {sc : Int32} {cs : List pt4} {C : Nat → List Nat} {p q w e : Nat} {B : Nat → Nat} (s : ShX h) (S : SoD h a D sc cs C p q w e B) (P : SoP D cs C) (ht : 1 ≤ t ∧ t ≤ 4) (hz : z ≤ 1) : ∃ h', (∀ R, qMC (d + 2) 44 [.ref 46, .ref a, .int (iN t), .int (iN z)] h R ↔ R = (none, h')) ∧ ChX [47, 48] [(46, 0), (46, 1), (46, 2)] 0 h h' ∧ (hf h' 46 0 = .ref a ∧ xi h' 46 1 = iN t ∧ xi h' 46 2 = iN z) ∧ ∀ k, k < 4 → hi h' 47 k = iZ (mnZ (fun c => lP cs c k) cs.length * (t : Int)) ∧ hi h' 48 k = iZ (mxZ (fun c => lP cs c k) cs.length * (t : Int)) := by
  have hD := P.1
  have n16 := P.2.1
  have kp : ∀ {A J k g}, ChX A J k h g → (∀ x ∈ A, x < 97) → SoD g a D sc cs C p q w e B := fun c hA => S.kp (kpS.of c hA) P
  obtain ⟨h1, e1⟩ : ∃ h1, h1 = xV h 46 0 (.ref a) := ⟨_, rfl⟩
  have c1 : ChX [47, 48] [(46, 0), (46, 1), (46, 2)] 0 h h1 := by rw [e1]; exact ChX.setR s (by decide) (by decide)
  have s1 := c1.sh
  have p1 : qput h 46 3 0 (.ref a) = some h1 := by rw [e1]; exact pX_46_0 s
  obtain ⟨h2, e2⟩ : ∃ h2, h2 = xV h1 46 1 (.int (iN t)) := ⟨_, rfl⟩
  have c2 : ChX [47, 48] [(46, 0), (46, 1), (46, 2)] 0 h h2 := c1.trans0 (by rw [e2]; exact ChX.setI s1 (by decide) (by decide))
  have s2 := c2.sh
  have p2 : qput h1 46 3 1 (.int (iN t)) = some h2 := by rw [e2]; exact pX_46_1 s1
  obtain ⟨h3, e3⟩ : ∃ h3, h3 = xV h2 46 2 (.int (iN z)) := ⟨_, rfl⟩
  have c3 : ChX [47, 48] [(46, 0), (46, 1), (46, 2)] 0 h h3 := c2.trans0 (by rw [e3]; exact ChX.setI s2 (by decide) (by decide))
  have s3 := c3.sh
  have p3 : qput h2 46 3 2 (.int (iN z)) = some h3 := by rw [e3]; exact pX_46_2 s2
  have f0 : hf h3 46 0 = .ref a := by rw [e3, hf_xV, if_neg (by decide), e2, hf_xV, if_neg (by decide), e1, hf_xV, if_pos ⟨rfl, rfl⟩]
  have f1 : xi h3 46 1 = iN t := by rw [e3, xi_xV, if_neg (by decide), e2, xi_xV, if_pos ⟨rfl, rfl⟩]
  have f2 : xi h3 46 2 = iN z := by rw [e3, xi_xV, if_pos ⟨rfl, rfl⟩]
  have ib : ∀ x : Int, (-3996 ≤ x ∧ x ≤ 3996) → iB x := fun x hx => by unfold iB; omega
  have inner : ∀ (k : Nat), k < 4 → ∀ (w' c : Nat) (g : qH), c + w' = cs.length → ChX [47, 48] [] 0 h3 g → hi g 47 k = iZ (mnZ (fun c => lP cs c k) c * (t : Int)) → hi g 48 k = iZ (mxZ (fun c => lP cs c k) c * (t : Int)) → ∃ g', (∀ R, qEv (d + 1) 4 qk_44 57 [some (.ref 46), some (.ref a), some (.int (iN t)), some (.int (iN z)), some (.int (iN k)), some (.int (iN c))] [] g R ↔ qEv (d + 1) 4 qk_44 126 [some (.ref 46), some (.ref a), some (.int (iN t)), some (.int (iN z)), some (.int (iN k)), some (.int (iN cs.length))] [] g' R) ∧ ChX [47, 48] [] 0 h3 g' ∧ hi g' 47 k = iZ (mnZ (fun c => lP cs c k) cs.length * (t : Int)) ∧ hi g' 48 k = iZ (mxZ (fun c => lP cs c k) cs.length * (t : Int)) ∧ ∀ k', k' ≠ k → hi g' 47 k' = hi g 47 k' ∧ hi g' 48 k' = hi g 48 k' := by
    intro k hk w'
    induction w' with
    | zero =>
      intro c g hc cg v1 v2
      have ec : c = cs.length := by omega
      subst ec
      have sg := cg.sh
      have g1 := (kp (c3.trans0 (cg.mono (by decide) (by intro _ z; cases z) (Nat.le_refl _))) (by decide)).obj.2.2.1
      refine ⟨g, fun R => ?_, cg, v1, v2, fun k' _ => ⟨rfl, rfl⟩⟩
      rw [e44_57]
      simp (disch := first | assumption | omega) only [e44_0, e44_1, e44_2, e44_5, e44_6, e44_7, e44_10, e44_11, e44_12, e44_15, e44_16, e44_20, e44_21, e44_24, e44_25, e44_28, e44_30, e44_31, e44_32, e44_34, e44_37, e44_38, e44_39, e44_40, e44_41, e44_44, e44_46, e44_47, e44_50, e44_52, e44_53, e44_54, e44_55, e44_59, e44_60, e44_63, e44_66, e44_67, e44_70, e44_72, e44_73, e44_76, e44_78, e44_79, e44_80, e44_82, e44_84, e44_87, e44_88, e44_89, e44_92, e44_93, e44_94, e44_97, e44_99, e44_100, e44_103, e44_105, e44_106, e44_107, e44_109, e44_111, e44_114, e44_115, e44_116, e44_119, e44_120, e44_123, e44_129, e44_132, m44, ↓reduceIte, qg_0, qg_1, qg_2, qg_3, qg_4, qg_5, qg_6, qg_7, qg_8, qg_9, qg_10, qg_11, qg_12, qg_13, not_true_eq_false, not_false_eq_true, Nat.reduceBEq, Bool.false_eq_true, ex1, ex3, ex4, exF, qfit_i, qfit_l, qfit_r, qfit_n, qfit_b0, qfit_b1, qcat_i, qcat_r, qcat_n, qcat_l, qroom_0, qroom_c, List.map_cons, List.map_nil, List.sum_cons, List.sum_nil, Nat.reduceAdd, Nat.reduceMul, Nat.reduceLT, Nat.reduceLeDiff, Nat.reduceEqDiff, Nat.reduceSub, decide_true, true_and, and_true, and_self, if_true, if_false, Option.toList_some, Option.toList_none, List.cons_append, List.nil_append, qsL, qlong, List.length_cons, List.length_nil, iN_L, exI, iN_add, iN_mul, iN_le, iN_lt, iN_eq, Nat.le_refl, qfN0, qfN1, uX_16, vX_16, uX_19, vX_19, uX_27, vX_27, uX_30, vX_30, uX_39, vX_39, uX_41, vX_41, uX_43, vX_43, uX_46, vX_46, uX_50, vX_50, uX_53, vX_53, g1]
    | succ w' ih =>
      intro c g hc cg v1 v2
      have hcn : c < cs.length := by omega
      have sg := cg.sh
      have Sg := kp (c3.trans0 (cg.mono (by decide) (by intro _ z; cases z) (Nat.le_refl _))) (by decide)
      obtain ⟨⟨u16, ult, uF⟩, -, g1, -⟩ := Sg.obj
      have bf : ∀ c, c < cs.length → -999 ≤ (fun c => lP cs c k) c ∧ (fun c => lP cs c k) c ≤ 999 := fun c hc => P.2.2.1 c hc k hk
      have mb := four_b ht (mnZ_b (bf 0 (by omega)) bf c (by omega))
      have xb := four_b ht (mxZ_b (bf 0 (by omega)) bf c (by omega))
      have lb := four_b ht (bf c hcn)
      have at' : ∀ R, qMC (d + 1) 104 [.ref a, .int (iN c), .int (iN k)] g R ↔ R = (some (.int (iZ (lP cs c k))), g) := fun R => x_at Sg hcn hk
      have mi : ∀ R, qMC (d + 1) 314 [.int (iZ (mnZ (fun c => lP cs c k) c * (t : Int))), .int (iZ (lP cs c k * (t : Int)))] g R ↔ R = (some (.int (iZ (mnZ (fun c => lP cs c k) (c + 1) * (t : Int)))), g) := fun R => by
        rw [x_minZ (ib _ mb) (ib _ lb), ← mn_step (f := fun c => lP cs c k) ht]
      obtain ⟨g1h, eg1⟩ : ∃ g1h, g1h = sI g 47 (upd (hi g 47) k (iZ (mnZ (fun c => lP cs c k) (c + 1) * (t : Int)))) := ⟨_, rfl⟩
      have w1 : qiast g 47 (iN k) (iZ (mnZ (fun c => lP cs c k) (c + 1) * (t : Int))) = some g1h := by rw [eg1]; exact wX_47 sg hk
      have cg1 : ChX [47, 48] [] 0 h3 g1h := cg.trans0 (by rw [eg1]; exact ChX.rowI sg (kX_47 sg) (by decide) (by decide))
      have sg1 := cg1.sh
      have Sg1 := kp (c3.trans0 (cg1.mono (by decide) (by intro _ z; cases z) (Nat.le_refl _))) (by decide)
      obtain ⟨⟨v16, vlt, vF⟩, -⟩ := Sg1.obj
      have at1 : ∀ R, qMC (d + 1) 104 [.ref a, .int (iN c), .int (iN k)] g1h R ↔ R = (some (.int (iZ (lP cs c k))), g1h) := fun R => x_at Sg1 hcn hk
      have v2' : hi g1h 48 k = iZ (mxZ (fun c => lP cs c k) c * (t : Int)) := by rw [eg1, hi_sI, if_neg (by decide)]; exact v2
      have mx : ∀ R, qMC (d + 1) 312 [.int (iZ (mxZ (fun c => lP cs c k) c * (t : Int))), .int (iZ (lP cs c k * (t : Int)))] g1h R ↔ R = (some (.int (iZ (mxZ (fun c => lP cs c k) (c + 1) * (t : Int)))), g1h) := fun R => by
        rw [x_maxZ (ib _ xb) (ib _ lb), ← mx_step (f := fun c => lP cs c k) ht]
      obtain ⟨g2h, eg2⟩ : ∃ g2h, g2h = sI g1h 48 (upd (hi g1h 48) k (iZ (mxZ (fun c => lP cs c k) (c + 1) * (t : Int)))) := ⟨_, rfl⟩
      have w2 : qiast g1h 48 (iN k) (iZ (mxZ (fun c => lP cs c k) (c + 1) * (t : Int))) = some g2h := by rw [eg2]; exact wX_48 sg1 hk
      have cg2 : ChX [47, 48] [] 0 h3 g2h := cg1.trans0 (by rw [eg2]; exact ChX.rowI sg1 (kX_48 sg1) (by decide) (by decide))
      have z47 : ∀ k', hi g2h 47 k' = if k' = k then iZ (mnZ (fun c => lP cs c k) (c + 1) * (t : Int)) else hi g 47 k' := fun k' => by rw [eg2, hi_sI, if_neg (by decide), eg1, hi_sI, if_pos rfl, upd_at]
      have z48 : ∀ k', hi g2h 48 k' = if k' = k then iZ (mxZ (fun c => lP cs c k) (c + 1) * (t : Int)) else hi g 48 k' := fun k' => by rw [eg2, hi_sI, if_pos rfl, upd_at, eg1, hi_sI, if_neg (show ¬ (48 : Nat) = 47 by decide)]
      obtain ⟨g', r', c', y1, y2, y3⟩ := ih (c + 1) g2h (by omega) cg2 (by rw [z47, if_pos rfl]) (by rw [z48, if_pos rfl])
      refine ⟨g', fun R => ?_, c', y1, y2, fun k' hk' => ⟨(y3 k' hk').1.trans (by rw [z47, if_neg hk']), (y3 k' hk').2.trans (by rw [z48, if_neg hk'])⟩⟩
      rw [← r' R, e44_57]
      simp (disch := first | assumption | omega) only [e44_0, e44_1, e44_2, e44_5, e44_6, e44_7, e44_10, e44_11, e44_12, e44_15, e44_16, e44_20, e44_21, e44_24, e44_25, e44_28, e44_30, e44_31, e44_32, e44_34, e44_37, e44_38, e44_39, e44_40, e44_41, e44_44, e44_46, e44_47, e44_50, e44_52, e44_53, e44_54, e44_55, e44_59, e44_60, e44_63, e44_66, e44_67, e44_70, e44_72, e44_73, e44_76, e44_78, e44_79, e44_80, e44_82, e44_84, e44_87, e44_88, e44_89, e44_92, e44_93, e44_94, e44_97, e44_99, e44_100, e44_103, e44_105, e44_106, e44_107, e44_109, e44_111, e44_114, e44_115, e44_116, e44_119, e44_120, e44_123, e44_129, e44_132, m44, ↓reduceIte, qg_0, qg_1, qg_2, qg_3, qg_4, qg_5, qg_6, qg_7, qg_8, qg_9, qg_10, qg_11, qg_12, qg_13, not_true_eq_false, not_false_eq_true, Nat.reduceBEq, Bool.false_eq_true, ex1, ex3, ex4, exF, qfit_i, qfit_l, qfit_r, qfit_n, qfit_b0, qfit_b1, qcat_i, qcat_r, qcat_n, qcat_l, qroom_0, qroom_c, List.map_cons, List.map_nil, List.sum_cons, List.sum_nil, Nat.reduceAdd, Nat.reduceMul, Nat.reduceLT, Nat.reduceLeDiff, Nat.reduceEqDiff, Nat.reduceSub, decide_true, true_and, and_true, and_self, if_true, if_false, Option.toList_some, Option.toList_none, List.cons_append, List.nil_append, qsL, qlong, List.length_cons, List.length_nil, iN_L, exI, iN_add, iN_mul, iN_le, iN_lt, iN_eq, Nat.le_refl, qfN0, qfN1, uX_16, vX_16, uX_19, vX_19, uX_27, vX_27, uX_30, vX_30, uX_39, vX_39, uX_41, vX_41, uX_43, vX_43, uX_46, vX_46, uX_50, vX_50, uX_53, vX_53, u16, ult, uF, v16, vlt, vF, g1, show ¬ cs.length ≤ c by omega, gX_46_3, gX_46_4, rX_47, rX_48, v1, v2', at', at1, iZ_mN, mi, mx, w1, w2]
  have outer : ∀ (w' k : Nat) (g : qH) (x5 : Option Value), k + w' = 4 → ChX [47, 48] [] 0 h3 g → (∀ k', k' < k → hi g 47 k' = iZ (mnZ (fun c => lP cs c k') cs.length * (t : Int)) ∧ hi g 48 k' = iZ (mxZ (fun c => lP cs c k') cs.length * (t : Int))) → ∃ h', (∀ R, qEv (d + 1) 4 qk_44 18 [some (.ref 46), some (.ref a), some (.int (iN t)), some (.int (iN z)), some (.int (iN k)), x5] [] g R ↔ R = (none, h')) ∧ ChX [47, 48] [] 0 h3 h' ∧ ∀ k', k' < 4 → hi h' 47 k' = iZ (mnZ (fun c => lP cs c k') cs.length * (t : Int)) ∧ hi h' 48 k' = iZ (mxZ (fun c => lP cs c k') cs.length * (t : Int)) := by
    intro w'
    induction w' with
    | zero =>
      intro k g x5 hk cg vg
      have ek : k = 4 := by omega
      subst ek
      refine ⟨g, fun R => ?_, cg, vg⟩
      rw [e44_18]
      simp (disch := first | assumption | omega) only [e44_0, e44_1, e44_2, e44_5, e44_6, e44_7, e44_10, e44_11, e44_12, e44_15, e44_16, e44_20, e44_21, e44_24, e44_25, e44_28, e44_30, e44_31, e44_32, e44_34, e44_37, e44_38, e44_39, e44_40, e44_41, e44_44, e44_46, e44_47, e44_50, e44_52, e44_53, e44_54, e44_55, e44_59, e44_60, e44_63, e44_66, e44_67, e44_70, e44_72, e44_73, e44_76, e44_78, e44_79, e44_80, e44_82, e44_84, e44_87, e44_88, e44_89, e44_92, e44_93, e44_94, e44_97, e44_99, e44_100, e44_103, e44_105, e44_106, e44_107, e44_109, e44_111, e44_114, e44_115, e44_116, e44_119, e44_120, e44_123, e44_129, e44_132, m44, ↓reduceIte, qg_0, qg_1, qg_2, qg_3, qg_4, qg_5, qg_6, qg_7, qg_8, qg_9, qg_10, qg_11, qg_12, qg_13, not_true_eq_false, not_false_eq_true, Nat.reduceBEq, Bool.false_eq_true, ex1, ex3, ex4, exF, qfit_i, qfit_l, qfit_r, qfit_n, qfit_b0, qfit_b1, qcat_i, qcat_r, qcat_n, qcat_l, qroom_0, qroom_c, List.map_cons, List.map_nil, List.sum_cons, List.sum_nil, Nat.reduceAdd, Nat.reduceMul, Nat.reduceLT, Nat.reduceLeDiff, Nat.reduceEqDiff, Nat.reduceSub, decide_true, true_and, and_true, and_self, if_true, if_false, Option.toList_some, Option.toList_none, List.cons_append, List.nil_append, qsL, qlong, List.length_cons, List.length_nil, iN_L, exI, iN_add, iN_mul, iN_le, iN_lt, iN_eq, Nat.le_refl, qfN0, qfN1, uX_16, vX_16, uX_19, vX_19, uX_27, vX_27, uX_30, vX_30, uX_39, vX_39, uX_41, vX_41, uX_43, vX_43, uX_46, vX_46, uX_50, vX_50, uX_53, vX_53]
    | succ w' ih =>
      intro k g x5 hk cg vg
      have hk4 : k < 4 := by omega
      have sg := cg.sh
      have Sg := kp (c3.trans0 (cg.mono (by decide) (by intro _ z; cases z) (Nat.le_refl _))) (by decide)
      obtain ⟨⟨u16, ult, uF⟩, -, g1, -⟩ := Sg.obj
      have at' : ∀ R, qMC (d + 1) 104 [.ref a, .int (iN 0), .int (iN k)] g R ↔ R = (some (.int (iZ (lP cs 0 k))), g) := fun R => x_at Sg (by omega) hk4
      obtain ⟨g1h, eg1⟩ : ∃ g1h, g1h = sI g 47 (upd (hi g 47) k (iZ (lP cs 0 k * (t : Int)))) := ⟨_, rfl⟩
      have w1 : qiast g 47 (iN k) (iZ (lP cs 0 k * (t : Int))) = some g1h := by rw [eg1]; exact wX_47 sg hk4
      have cg1 : ChX [47, 48] [] 0 h3 g1h := cg.trans0 (by rw [eg1]; exact ChX.rowI sg (kX_47 sg) (by decide) (by decide))
      have sg1 := cg1.sh
      have v1 : hi g1h 47 k = iZ (lP cs 0 k * (t : Int)) := by rw [eg1, hi_sI, if_pos rfl, upd_at, if_pos rfl]
      obtain ⟨g2h, eg2⟩ : ∃ g2h, g2h = sI g1h 48 (upd (hi g1h 48) k (iZ (lP cs 0 k * (t : Int)))) := ⟨_, rfl⟩
      have w2 : qiast g1h 48 (iN k) (iZ (lP cs 0 k * (t : Int))) = some g2h := by rw [eg2]; exact wX_48 sg1 hk4
      have cg2 : ChX [47, 48] [] 0 h3 g2h := cg1.trans0 (by rw [eg2]; exact ChX.rowI sg1 (kX_48 sg1) (by decide) (by decide))
      have z47 : ∀ k', hi g2h 47 k' = if k' = k then iZ (lP cs 0 k * (t : Int)) else hi g 47 k' := fun k' => by rw [eg2, hi_sI, if_neg (by decide), eg1, hi_sI, if_pos rfl, upd_at]
      have z48 : ∀ k', hi g2h 48 k' = if k' = k then iZ (lP cs 0 k * (t : Int)) else hi g 48 k' := fun k' => by rw [eg2, hi_sI, if_pos rfl, upd_at, eg1, hi_sI, if_neg (show ¬ (48 : Nat) = 47 by decide)]
      have m1 : mnZ (fun c => lP cs c k) 1 = lP cs 0 k := by rw [mnZ, mnZ]; split <;> rfl
      have m2 : mxZ (fun c => lP cs c k) 1 = lP cs 0 k := by rw [mxZ, mxZ]; split <;> rfl
      obtain ⟨g3, r3, cg3, y1, y2, y3⟩ := inner k hk4 (cs.length - 1) 1 g2h (by omega) cg2 (by rw [z47, if_pos rfl, m1]) (by rw [z48, if_pos rfl, m2])
      obtain ⟨h', r', z'⟩ := ih (k + 1) g3 (some (.int (iN cs.length))) (by omega) cg3 (fun k' hk' => by
        by_cases e : k' = k
        · rw [e]; exact ⟨y1, y2⟩
        · obtain ⟨a1, a2⟩ := y3 k' e
          rw [a1, a2, z47, z48, if_neg e, if_neg e]
          exact vg k' (by omega))
      refine ⟨h', fun R => ?_, z'⟩
      have r0 : qEv (d + 1) 4 qk_44 18 [some (.ref 46), some (.ref a), some (.int (iN t)), some (.int (iN z)), some (.int (iN k)), x5] [] g R ↔ qEv (d + 1) 4 qk_44 57 [some (.ref 46), some (.ref a), some (.int (iN t)), some (.int (iN z)), some (.int (iN k)), some (.int (iN 1))] [] g2h R := by
        rw [e44_18]
        simp (disch := first | assumption | omega) only [e44_0, e44_1, e44_2, e44_5, e44_6, e44_7, e44_10, e44_11, e44_12, e44_15, e44_16, e44_20, e44_21, e44_24, e44_25, e44_28, e44_30, e44_31, e44_32, e44_34, e44_37, e44_38, e44_39, e44_40, e44_41, e44_44, e44_46, e44_47, e44_50, e44_52, e44_53, e44_54, e44_55, e44_59, e44_60, e44_63, e44_66, e44_67, e44_70, e44_72, e44_73, e44_76, e44_78, e44_79, e44_80, e44_82, e44_84, e44_87, e44_88, e44_89, e44_92, e44_93, e44_94, e44_97, e44_99, e44_100, e44_103, e44_105, e44_106, e44_107, e44_109, e44_111, e44_114, e44_115, e44_116, e44_119, e44_120, e44_123, e44_129, e44_132, m44, ↓reduceIte, qg_0, qg_1, qg_2, qg_3, qg_4, qg_5, qg_6, qg_7, qg_8, qg_9, qg_10, qg_11, qg_12, qg_13, not_true_eq_false, not_false_eq_true, Nat.reduceBEq, Bool.false_eq_true, ex1, ex3, ex4, exF, qfit_i, qfit_l, qfit_r, qfit_n, qfit_b0, qfit_b1, qcat_i, qcat_r, qcat_n, qcat_l, qroom_0, qroom_c, List.map_cons, List.map_nil, List.sum_cons, List.sum_nil, Nat.reduceAdd, Nat.reduceMul, Nat.reduceLT, Nat.reduceLeDiff, Nat.reduceEqDiff, Nat.reduceSub, decide_true, true_and, and_true, and_self, if_true, if_false, Option.toList_some, Option.toList_none, List.cons_append, List.nil_append, qsL, qlong, List.length_cons, List.length_nil, iN_L, exI, iN_add, iN_mul, iN_le, iN_lt, iN_eq, Nat.le_refl, qfN0, qfN1, uX_16, vX_16, uX_19, vX_19, uX_27, vX_27, uX_30, vX_30, uX_39, vX_39, uX_41, vX_41, uX_43, vX_43, uX_46, vX_46, uX_50, vX_50, uX_53, vX_53, u16, ult, uF, g1, show ¬ 4 ≤ k by omega, gX_46_3, gX_46_4, rX_47, rX_48, v1, at', iZ_mN, w1, w2]
      rw [← r' R, r0, r3 R]
      simp (disch := first | assumption | omega) only [e44_0, e44_1, e44_2, e44_5, e44_6, e44_7, e44_10, e44_11, e44_12, e44_15, e44_16, e44_20, e44_21, e44_24, e44_25, e44_28, e44_30, e44_31, e44_32, e44_34, e44_37, e44_38, e44_39, e44_40, e44_41, e44_44, e44_46, e44_47, e44_50, e44_52, e44_53, e44_54, e44_55, e44_59, e44_60, e44_63, e44_66, e44_67, e44_70, e44_72, e44_73, e44_76, e44_78, e44_79, e44_80, e44_82, e44_84, e44_87, e44_88, e44_89, e44_92, e44_93, e44_94, e44_97, e44_99, e44_100, e44_103, e44_105, e44_106, e44_107, e44_109, e44_111, e44_114, e44_115, e44_116, e44_119, e44_120, e44_123, e44_126, e44_129, e44_132, m44, ↓reduceIte, qg_0, qg_1, qg_2, qg_3, qg_4, qg_5, qg_6, qg_7, qg_8, qg_9, qg_10, qg_11, qg_12, qg_13, not_true_eq_false, not_false_eq_true, Nat.reduceBEq, Bool.false_eq_true, ex1, ex3, ex4, exF, qfit_i, qfit_l, qfit_r, qfit_n, qfit_b0, qfit_b1, qcat_i, qcat_r, qcat_n, qcat_l, qroom_0, qroom_c, List.map_cons, List.map_nil, List.sum_cons, List.sum_nil, Nat.reduceAdd, Nat.reduceMul, Nat.reduceLT, Nat.reduceLeDiff, Nat.reduceEqDiff, Nat.reduceSub, decide_true, true_and, and_true, and_self, if_true, if_false, Option.toList_some, Option.toList_none, List.cons_append, List.nil_append, qsL, qlong, List.length_cons, List.length_nil, iN_L, exI, iN_add, iN_mul, iN_le, iN_lt, iN_eq, Nat.le_refl, qfN0, qfN1, uX_16, vX_16, uX_19, vX_19, uX_27, vX_27, uX_30, vX_30, uX_39, vX_39, uX_41, vX_41, uX_43, vX_43, uX_46, vX_46, uX_50, vX_50, uX_53, vX_53]
  obtain ⟨h', r', c', v'⟩ := outer 4 0 h3 none (by omega) (ChX.refl s3) (fun k' hk' => absurd hk' (Nat.not_lt_zero k'))
  refine ⟨h', fun R => ?_, c3.trans0 (c'.mono (by decide) (by intro _ z; cases z) (Nat.le_refl _)), ⟨(c'.hf (by decide) (by intro z; cases z)).trans f0, (c'.xi (by decide) (by intro z; cases z)).trans f1, (c'.xi (by decide) (by intro z; cases z)).trans f2⟩, v'⟩
  rw [← r' R]
  simp (disch := first | assumption | omega) only [e44_0, e44_1, e44_2, e44_5, e44_6, e44_7, e44_10, e44_11, e44_12, e44_15, e44_16, e44_20, e44_21, e44_24, e44_25, e44_28, e44_30, e44_31, e44_32, e44_34, e44_37, e44_38, e44_39, e44_40, e44_41, e44_44, e44_46, e44_47, e44_50, e44_52, e44_53, e44_54, e44_55, e44_59, e44_60, e44_63, e44_66, e44_67, e44_70, e44_72, e44_73, e44_76, e44_78, e44_79, e44_80, e44_82, e44_84, e44_87, e44_88, e44_89, e44_92, e44_93, e44_94, e44_97, e44_99, e44_100, e44_103, e44_105, e44_106, e44_107, e44_109, e44_111, e44_114, e44_115, e44_116, e44_119, e44_120, e44_123, e44_129, e44_132, m44, ↓reduceIte, qg_0, qg_1, qg_2, qg_3, qg_4, qg_5, qg_6, qg_7, qg_8, qg_9, qg_10, qg_11, qg_12, qg_13, not_true_eq_false, not_false_eq_true, Nat.reduceBEq, Bool.false_eq_true, ex1, ex3, ex4, exF, qfit_i, qfit_l, qfit_r, qfit_n, qfit_b0, qfit_b1, qcat_i, qcat_r, qcat_n, qcat_l, qroom_0, qroom_c, List.map_cons, List.map_nil, List.sum_cons, List.sum_nil, Nat.reduceAdd, Nat.reduceMul, Nat.reduceLT, Nat.reduceLeDiff, Nat.reduceEqDiff, Nat.reduceSub, decide_true, true_and, and_true, and_self, if_true, if_false, Option.toList_some, Option.toList_none, List.cons_append, List.nil_append, qsL, qlong, List.length_cons, List.length_nil, iN_L, exI, iN_add, iN_mul, iN_le, iN_lt, iN_eq, Nat.le_refl, qfN0, qfN1, uX_16, vX_16, uX_19, vX_19, uX_27, vX_27, uX_30, vX_30, uX_39, vX_39, uX_41, vX_41, uX_43, vX_43, uX_46, vX_46, uX_50, vX_50, uX_53, vX_53, p1, p2, p3]
/-- the lattice is aimed: times t, 1 of the planes are left out, from lo on W places an axis -/
def LtX (h : qH) (a t z : Nat) (lo : Nat → Int) (W : Nat → Nat) : Prop := (hf h 46 0 = .ref a ∧ xi h 46 1 = iN t ∧ xi h 46 2 = iN z) ∧ (∀ k, k < 4 → hi h 47 k = iZ (lo k) ∧ hi h 48 k = iZ (lo k + (W k : Int) - 1)) ∧ (∀ k, k < 4 → (-3996 ≤ lo k ∧ lo k ≤ 3996) ∧ 1 ≤ W k ∧ W k ≤ 7993) ∧ (1 ≤ t ∧ t ≤ 4) ∧ z ≤ 1
theorem LtX.ch {A : List Nat} {J : List (Nat × Nat)} {m a t z : Nat} {lo : Nat → Int} {W : Nat → Nat} {h' : qH} (v : LtX h a t z lo W) (c : ChX A J m h h') (s : ShX h) (h1 : 47 ∉ A) (h2 : 48 ∉ A) (j0 : (46, 0) ∉ J) (j1 : (46, 1) ∉ J) (j2 : (46, 2) ∉ J) : LtX h' a t z lo W := by
  obtain ⟨⟨v1, v2, v3⟩, v4, v5⟩ := v
  refine ⟨⟨(c.hf (by decide) j0).trans v1, (c.xi (by decide) j1).trans v2, (c.xi (by decide) j2).trans v3⟩, ?_, v5⟩
  rw [c.hi h1 (by decide) (s.lt (by decide)), c.hi h2 (by decide) (s.lt (by decide))]
  exact v4
set_option maxRecDepth 100000 in
theorem x_sideOf {a t z k : Nat} {lo : Nat → Int} {W : Nat → Nat} (s : ShX h) (v : LtX h a t z lo W) (hk : k < 4) : qMC (d + 1) 45 [.ref 46, .int (iN k)] h R ↔ R = (some (.int (iN (W k))), h) := by
  obtain ⟨v1, v2⟩ := v.2.1 k hk
  have e : iZ (lo k + (W k : Int) - 1) - iZ (lo k) + iN 1 = iN (W k) := by
    rw [iZ_sub, iZ_p1, ← iZ_nat]
    congr 1
    omega
  simp (disch := first | assumption | omega) only [e45_0, e45_1, e45_4, e45_5, e45_6, e45_7, e45_10, e45_11, e45_12, e45_13, e45_14, e45_15, m45, ↓reduceIte, qg_0, qg_1, qg_2, qg_3, qg_4, qg_5, qg_6, qg_7, qg_8, qg_9, qg_10, qg_11, qg_12, qg_13, not_true_eq_false, not_false_eq_true, Nat.reduceBEq, Bool.false_eq_true, ex1, ex3, ex4, exF, qfit_i, qfit_l, qfit_r, qfit_n, qfit_b0, qfit_b1, qcat_i, qcat_r, qcat_n, qcat_l, qroom_0, qroom_c, List.map_cons, List.map_nil, List.sum_cons, List.sum_nil, Nat.reduceAdd, Nat.reduceMul, Nat.reduceLT, Nat.reduceLeDiff, Nat.reduceEqDiff, Nat.reduceSub, decide_true, true_and, and_true, and_self, if_true, if_false, Option.toList_some, Option.toList_none, List.cons_append, List.nil_append, qsL, qlong, List.length_cons, List.length_nil, iN_L, exI, iN_add, iN_mul, iN_le, iN_lt, iN_eq, Nat.le_refl, qfN0, qfN1, uX_16, vX_16, uX_19, vX_19, uX_27, vX_27, uX_30, vX_30, uX_39, vX_39, uX_41, vX_41, uX_43, vX_43, uX_46, vX_46, uX_50, vX_50, uX_53, vX_53, gX_46_3, gX_46_4, rX_47, rX_48, v1, v2, e]
set_option maxRecDepth 100000 in
theorem x_boxPlaces {a t z : Nat} {lo : Nat → Int} {W : Nat → Nat} (s : ShX h) (v : LtX h a t z lo W) : qMC (d + 2) 46 [.ref 46] h R ↔ R = (some (.long (lZ ((W 0 : Int) * W 1 * W 2 * W 3))), h) := by
  have sd : ∀ k, k < 4 → ∀ R, qMC (d + 1) 45 [.ref 46, .int (iN k)] h R ↔ R = (some (.int (iN (W k))), h) := fun k hk R => x_sideOf s v hk
  have lg : ∀ k, k < 4 → (iN (W k)).toInt64 = lZ (W k) := fun k hk => by rw [← iZ_nat]; exact iZ_long (by have := (v.2.2.1 k hk).2; unfold iB; omega)
  have s0 := sd 0 (by decide)
  have s1 := sd 1 (by decide)
  have s2 := sd 2 (by decide)
  have s3 := sd 3 (by decide)
  have l0 := lg 0 (by decide)
  have l1 := lg 1 (by decide)
  have l2 := lg 2 (by decide)
  have l3 := lg 3 (by decide)
  simp (disch := first | assumption | omega) only [e46_0, e46_1, e46_2, e46_5, e46_6, e46_7, e46_8, e46_11, e46_12, e46_13, e46_14, e46_15, e46_18, e46_19, e46_20, e46_21, e46_22, e46_25, e46_26, e46_27, m46, ↓reduceIte, qg_0, qg_1, qg_2, qg_3, qg_4, qg_5, qg_6, qg_7, qg_8, qg_9, qg_10, qg_11, qg_12, qg_13, not_true_eq_false, not_false_eq_true, Nat.reduceBEq, Bool.false_eq_true, ex1, ex3, ex4, exF, qfit_i, qfit_l, qfit_r, qfit_n, qfit_b0, qfit_b1, qcat_i, qcat_r, qcat_n, qcat_l, qroom_0, qroom_c, List.map_cons, List.map_nil, List.sum_cons, List.sum_nil, Nat.reduceAdd, Nat.reduceMul, Nat.reduceLT, Nat.reduceLeDiff, Nat.reduceEqDiff, Nat.reduceSub, decide_true, true_and, and_true, and_self, if_true, if_false, Option.toList_some, Option.toList_none, List.cons_append, List.nil_append, qsL, qlong, List.length_cons, List.length_nil, iN_L, exI, iN_add, iN_mul, iN_le, iN_lt, iN_eq, Nat.le_refl, qfN0, qfN1, uX_16, vX_16, uX_19, vX_19, uX_27, vX_27, uX_30, vX_30, uX_39, vX_39, uX_41, vX_41, uX_43, vX_43, uX_46, vX_46, uX_50, vX_50, uX_53, vX_53, s0, s1, s2, s3, l0, l1, l2, l3, lZ_mul]
end XAIM

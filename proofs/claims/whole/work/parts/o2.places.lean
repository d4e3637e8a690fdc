/-! ===== THE CLASS: countPlaces ===== -/
section XPLACES
variable {d : Nat} {h : qH} {R : qRes}
def spF (a b c : Nat) (xa xb xc : Int) : Nat → Int := fun k' => if k' = a then xa else if k' = b then xb else if k' = c then xc else 0
/-- places on the line k through three spots -/
def pzN (Q : Nat → Nat → Int) (t z m : Nat) (lo : Nat → Int) (W : Nat → Nat) (k a b c : Nat) (xa xb xc : Int) : Nat := cntN (fun e => allN (fun j => lnB Q t z (sZ (spF a b c xa xb xc) k (lo k + (e : Int))) j) m) (W k)
def tpN (Q : Nat → Nat → Int) (t z m : Nat) (lo : Nat → Int) (W : Nat → Nat) (k a b c : Nat) : Nat := sumN (fun x => sumN (fun y => sumN (fun e => pzN Q t z m lo W k a b c (lo a + (x : Int)) (lo b + (y : Int)) (lo c + (e : Int))) (W c)) (W b)) (W a)
def oth (k a b c : Nat) : Prop := (k = 0 ∧ a = 1 ∧ b = 2 ∧ c = 3) ∨ (k = 1 ∧ a = 0 ∧ b = 2 ∧ c = 3) ∨ (k = 2 ∧ a = 0 ∧ b = 1 ∧ c = 3) ∨ (k = 3 ∧ a = 0 ∧ b = 1 ∧ c = 2)
theorem oth.of {k a b c : Nat} (o : oth k a b c) : (k < 4 ∧ a < 4 ∧ b < 4 ∧ c < 4) ∧ (a ≠ b ∧ a ≠ c ∧ b ≠ c) ∧ (a ≠ k ∧ b ≠ k ∧ c ≠ k) ∧ ∀ k', k' < 4 → k' ≠ k → k' = a ∨ k' = b ∨ k' = c := by
  rcases o with ⟨rfl, rfl, rfl, rfl⟩ | ⟨rfl, rfl, rfl, rfl⟩ | ⟨rfl, rfl, rfl, rfl⟩ | ⟨rfl, rfl, rfl, rfl⟩
  all_goals exact ⟨by omega, by omega, by omega, fun k' h1 h2 => by omega⟩
set_option maxRecDepth 100000 in
set_option maxHeartbeats 64000000 in
theorem x_places {al t z w D k a b c : Nat} {sc : Int32} {cs : List pt4} {C : Nat → List Nat} {p q e : Nat} {B : Nat → Nat} {l : List pt4} {fs : List Nat} {Q : Nat → Nat → Int} {lo : Nat → Int} {W : Nat → Nat} (s : ShX h) (v : LtX h al t z lo W) (S : SoD h al D sc cs C p q w e B) (P : SoP D cs C) (V : SoQ h w l D fs Q) (hm : fs.length ≤ 208) (o : oth k a b c) : ∃ g', (∀ R, qEv (d + 2) 0 qk_47 78 [some (.ref 46), some (.int (iN k)), some (.int (iN a)), some (.int (iN b)), some (.int (iN c)), some (.int (iN 0)), some (.int (iZ (lo a))), none, none] [] h R ↔ R = (some (.int (iN (tpN Q t z fs.length lo W k a b c))), g')) ∧ ChX [49] [] 0 h g' := by
  obtain ⟨⟨hk, ha, hb, hc⟩, ⟨nab, nac, nbc⟩, ⟨nak, nbk, nck⟩, cov⟩ := o.of
  have bd := v.2.2.1
  have sb : ∀ k', k' < 4 → ∀ u : Nat, u ≤ W k' → iB (lo k' + (u : Int)) ∧ -12000 ≤ lo k' + (u : Int) ∧ lo k' + (u : Int) ≤ 12000 := fun k' hk' u hu => by
    have := bd k' hk'
    unfold iB; omega
  have hb' : ∀ k', k' < 4 → iB (lo k' + (W k' : Int) - 1) := fun k' hk' => by have := bd k' hk'; unfold iB; omega
  have i48 : ∀ g, ChX [49] [] 0 h g → ∀ k', k' < 4 → qiald g 48 (iN k') = some (iZ (lo k' + (W k' : Int) - 1)) := fun g cg k' hk' => by
    rw [rX_48 cg.sh hk', cg.hi (by decide) (by decide) (s.lt (by decide)), (v.2.1 k' hk').2]
  have i47 : ∀ g, ChX [49] [] 0 h g → ∀ k', k' < 4 → qiald g 47 (iN k') = some (iZ (lo k')) := fun g cg k' hk' => by
    rw [rX_47 cg.sh hk', cg.hi (by decide) (by decide) (s.lt (by decide)), (v.2.1 k' hk').1]
  have i49 : ∀ g, ChX [49] [] 0 h g → ∀ k' x, k' < 4 → qiast g 49 (iN k') x = some (sI g 49 (upd (hi g 49) k' x)) := fun g cg k' x hk' => wX_49 cg.sh hk'
  have ch : ∀ g Z, ChX [49] [] 0 h g → ChX [49] [] 0 h (sI g 49 Z) := fun g Z cg => cg.trans0 (ChX.rowI cg.sh (kX_49 cg.sh) (by decide) (by decide))
  have cp : ∀ k', k' < 4 → ∀ u : Nat, u ≤ W k' → ((iZ (lo k' + (W k' : Int) - 1) < iZ (lo k' + (u : Int)) ↔ lo k' + (W k' : Int) - 1 < lo k' + (u : Int)) ∧ (iZ (lo k' + (u : Int)) ≤ iZ (lo k' + (W k' : Int) - 1) ↔ lo k' + (u : Int) ≤ lo k' + (W k' : Int) - 1)) := fun k' hk' u hu => ⟨iZ_lt (hb' k' hk') (sb k' hk' u hu).1, iZ_le (sb k' hk' u hu).1 (hb' k' hk')⟩
  have sx : ∀ (x u : Int), x + ((u.toNat + 1 : Nat) : Int) = x + (u.toNat : Int) + 1 := fun x u => by omega
  have e1 : ∀ (x : Int) (u : Nat), x + ((u + 1 : Nat) : Int) = x + (u : Int) + 1 := fun x u => by omega
  -- the innermost
  have inner : ∀ (x y T : Nat), x < W a → y < W b → ∀ (w' u : Nat) (g : qH), u + w' = W c → ChX [49] [] 0 h g → hi g 49 a = iZ (lo a + (x : Int)) → hi g 49 b = iZ (lo b + (y : Int)) → ∃ g', (∀ R, qEv (d + 2) 0 qk_47 133 [some (.ref 46), some (.int (iN k)), some (.int (iN a)), some (.int (iN b)), some (.int (iN c)), some (.int (iN (T + sumN (fun e => pzN Q t z fs.length lo W k a b c (lo a + (x : Int)) (lo b + (y : Int)) (lo c + (e : Int))) u))), some (.int (iZ (lo a + (x : Int)))), some (.int (iZ (lo b + (y : Int)))), some (.int (iZ (lo c + (u : Int))))] [] g R ↔ qEv (d + 2) 0 qk_47 170 [some (.ref 46), some (.int (iN k)), some (.int (iN a)), some (.int (iN b)), some (.int (iN c)), some (.int (iN (T + sumN (fun e => pzN Q t z fs.length lo W k a b c (lo a + (x : Int)) (lo b + (y : Int)) (lo c + (e : Int))) (W c)))), some (.int (iZ (lo a + (x : Int)))), some (.int (iZ (lo b + (y : Int)))), some (.int (iZ (lo c + (W c : Int))))] [] g' R) ∧ ChX [49] [] 0 h g' ∧ hi g' 49 a = iZ (lo a + (x : Int)) ∧ hi g' 49 b = iZ (lo b + (y : Int)) := by
    intro x y T hx hy w'
    induction w' with
    | zero =>
      intro u g hu cg va vb
      have eu : u = W c := by omega
      subst eu
      have sg := cg.sh
      have r8 := i48 g cg c hc
      obtain ⟨p1, p2⟩ := cp c hc (W c) (Nat.le_refl _)
      refine ⟨g, fun R => ?_, cg, va, vb⟩
      rw [e47_133]
      simp (disch := first | assumption | omega) only [e47_0, e47_1, e47_2, e47_3, e47_5, e47_6, e47_9, e47_10, e47_11, e47_14, e47_15, e47_16, e47_19, e47_22, e47_23, e47_26, e47_27, e47_28, e47_31, e47_34, e47_35, e47_38, e47_39, e47_42, e47_43, e47_44, e47_45, e47_46, e47_49, e47_50, e47_53, e47_54, e47_55, e47_56, e47_57, e47_60, e47_61, e47_64, e47_65, e47_67, e47_68, e47_70, e47_71, e47_74, e47_75, e47_76, e47_80, e47_81, e47_84, e47_85, e47_86, e47_89, e47_90, e47_93, e47_94, e47_96, e47_97, e47_98, e47_101, e47_102, e47_103, e47_107, e47_108, e47_111, e47_112, e47_113, e47_116, e47_117, e47_120, e47_121, e47_123, e47_124, e47_125, e47_128, e47_130, e47_131, e47_135, e47_136, e47_139, e47_141, e47_142, e47_145, e47_146, e47_149, e47_151, e47_153, e47_154, e47_156, e47_157, e47_158, e47_161, e47_162, e47_164, e47_167, e47_173, e47_179, e47_184, m47, ↓reduceIte, qg_0, qg_1, qg_2, qg_3, qg_4, qg_5, qg_6, qg_7, qg_8, qg_9, qg_10, qg_11, qg_12, qg_13, not_true_eq_false, not_false_eq_true, Nat.reduceBEq, Bool.false_eq_true, ex1, ex3, ex4, exF, qfit_i, qfit_l, qfit_r, qfit_n, qfit_b0, qfit_b1, qcat_i, qcat_r, qcat_n, qcat_l, qroom_0, qroom_c, List.map_cons, List.map_nil, List.sum_cons, List.sum_nil, Nat.reduceAdd, Nat.reduceMul, Nat.reduceLT, Nat.reduceLeDiff, Nat.reduceEqDiff, Nat.reduceSub, decide_true, true_and, and_true, and_self, if_true, if_false, Option.toList_some, Option.toList_none, List.cons_append, List.nil_append, qsL, qlong, List.length_cons, List.length_nil, iN_L, exI, iN_add, iN_mul, iN_le, iN_lt, iN_eq, Nat.le_refl, qfN0, qfN1, uX_16, vX_16, uX_19, vX_19, uX_27, vX_27, uX_30, vX_30, uX_39, vX_39, uX_41, vX_41, uX_43, vX_43, uX_46, vX_46, uX_50, vX_50, uX_53, vX_53, gX_46_4, r8, p1, p2, show lo c + (W c : Int) - 1 < lo c + (W c : Int) by omega, show ¬ lo c + (W c : Int) ≤ lo c + (W c : Int) - 1 by omega]
    | succ w' ih =>
      intro u g hu cg va vb
      have huc : u < W c := by omega
      have sg := cg.sh
      have r8 := i48 g cg c hc
      obtain ⟨p1, p2⟩ := cp c hc u (by omega)
      obtain ⟨g1, eg1⟩ : ∃ g1, g1 = sI g 49 (upd (hi g 49) c (iZ (lo c + (u : Int)))) := ⟨_, rfl⟩
      have w1 : qiast g 49 (iN c) (iZ (lo c + (u : Int))) = some g1 := by rw [eg1]; exact i49 g cg c _ hc
      have c1 : ChX [49] [] 0 h g1 := by rw [eg1]; exact ch g _ cg
      have s1 := c1.sh
      have z1 : ∀ k', hi g1 49 k' = if k' = c then iZ (lo c + (u : Int)) else hi g 49 k' := fun k' => by rw [eg1, hi_sI, if_pos rfl, upd_at]
      have ks := kpS.of c1 (by decide)
      have hs : ∀ k', k' < 4 → k' ≠ k → hi g1 49 k' = iZ (spF a b c (lo a + (x : Int)) (lo b + (y : Int)) (lo c + (u : Int)) k') ∧ -12000 ≤ spF a b c (lo a + (x : Int)) (lo b + (y : Int)) (lo c + (u : Int)) k' ∧ spF a b c (lo a + (x : Int)) (lo b + (y : Int)) (lo c + (u : Int)) k' ≤ 12000 := fun k' h1 h2 => by
        unfold spF
        rcases cov k' h1 h2 with rfl | rfl | rfl
        · rw [if_pos rfl, z1, if_neg nac]; exact ⟨va, (sb k' h1 x (by omega)).2⟩
        · rw [if_neg (Ne.symm nab), if_pos rfl, z1, if_neg nbc]; exact ⟨vb, (sb k' h1 y (by omega)).2⟩
        · rw [if_neg (Ne.symm nac), if_neg (Ne.symm nbc), if_pos rfl, z1, if_pos rfl]; exact ⟨rfl, (sb k' h1 u (by omega)).2⟩
      have ln : ∀ R, qMC (d + 2) 48 [.ref 46, .int (iN k)] g1 R ↔ R = (some (.int (iN (pzN Q t z fs.length lo W k a b c (lo a + (x : Int)) (lo b + (y : Int)) (lo c + (u : Int))))), sI g1 49 (upd (hi g1 49) k (iN 0))) := fun R => x_line s1 (v.ch c1 s (by decide) (by decide) (by intro z; cases z) (by intro z; cases z) (by intro z; cases z)) (S.kp ks P) P (V.kp ks) hm hk hs
      obtain ⟨g2, eg2⟩ : ∃ g2, g2 = sI g1 49 (upd (hi g1 49) k (iN 0)) := ⟨_, rfl⟩
      rw [← eg2] at ln
      have c2 : ChX [49] [] 0 h g2 := by rw [eg2]; exact ch g1 _ c1
      have z2 : ∀ k', k' ≠ k → k' ≠ c → hi g2 49 k' = hi g 49 k' := fun k' h1 h2 => by rw [eg2, hi_sI, if_pos rfl, upd_at, if_neg h1, z1, if_neg h2]
      obtain ⟨g', r', z'⟩ := ih (u + 1) g2 (by omega) c2 ((z2 a nak nac).trans va) ((z2 b nbk nbc).trans vb)
      refine ⟨g', fun R => ?_, z'⟩
      rw [← r' R, e47_133, sumN, ← Nat.add_assoc, e1]
      simp (disch := first | assumption | omega) only [e47_0, e47_1, e47_2, e47_3, e47_5, e47_6, e47_9, e47_10, e47_11, e47_14, e47_15, e47_16, e47_19, e47_22, e47_23, e47_26, e47_27, e47_28, e47_31, e47_34, e47_35, e47_38, e47_39, e47_42, e47_43, e47_44, e47_45, e47_46, e47_49, e47_50, e47_53, e47_54, e47_55, e47_56, e47_57, e47_60, e47_61, e47_64, e47_65, e47_67, e47_68, e47_70, e47_71, e47_74, e47_75, e47_76, e47_80, e47_81, e47_84, e47_85, e47_86, e47_89, e47_90, e47_93, e47_94, e47_96, e47_97, e47_98, e47_101, e47_102, e47_103, e47_107, e47_108, e47_111, e47_112, e47_113, e47_116, e47_117, e47_120, e47_121, e47_123, e47_124, e47_125, e47_128, e47_130, e47_131, e47_135, e47_136, e47_139, e47_141, e47_142, e47_145, e47_146, e47_149, e47_151, e47_153, e47_154, e47_156, e47_157, e47_158, e47_161, e47_162, e47_164, e47_167, e47_173, e47_179, e47_184, m47, ↓reduceIte, qg_0, qg_1, qg_2, qg_3, qg_4, qg_5, qg_6, qg_7, qg_8, qg_9, qg_10, qg_11, qg_12, qg_13, not_true_eq_false, not_false_eq_true, Nat.reduceBEq, Bool.false_eq_true, ex1, ex3, ex4, exF, qfit_i, qfit_l, qfit_r, qfit_n, qfit_b0, qfit_b1, qcat_i, qcat_r, qcat_n, qcat_l, qroom_0, qroom_c, List.map_cons, List.map_nil, List.sum_cons, List.sum_nil, Nat.reduceAdd, Nat.reduceMul, Nat.reduceLT, Nat.reduceLeDiff, Nat.reduceEqDiff, Nat.reduceSub, decide_true, true_and, and_true, and_self, if_true, if_false, Option.toList_some, Option.toList_none, List.cons_append, List.nil_append, qsL, qlong, List.length_cons, List.length_nil, iN_L, exI, iN_add, iN_mul, iN_le, iN_lt, iN_eq, Nat.le_refl, qfN0, qfN1, uX_16, vX_16, uX_19, vX_19, uX_27, vX_27, uX_30, vX_30, uX_39, vX_39, uX_41, vX_41, uX_43, vX_43, uX_46, vX_46, uX_50, vX_50, uX_53, vX_53, gX_46_4, gX_46_5, r8, p1, p2, show ¬ lo c + (W c : Int) - 1 < lo c + (u : Int) by omega, show lo c + (u : Int) ≤ lo c + (W c : Int) - 1 by omega, w1, ln, iZ_p1]
  -- the middle
  have middle : ∀ (x T : Nat), x < W a → ∀ (w' y : Nat) (g : qH) (x8 : Option Value), y + w' = W b → ChX [49] [] 0 h g → hi g 49 a = iZ (lo a + (x : Int)) → ∃ g' y8, (∀ R, qEv (d + 2) 0 qk_47 105 [some (.ref 46), some (.int (iN k)), some (.int (iN a)), some (.int (iN b)), some (.int (iN c)), some (.int (iN (T + sumN (fun y => sumN (fun e => pzN Q t z fs.length lo W k a b c (lo a + (x : Int)) (lo b + (y : Int)) (lo c + (e : Int))) (W c)) y))), some (.int (iZ (lo a + (x : Int)))), some (.int (iZ (lo b + (y : Int)))), x8] [] g R ↔ qEv (d + 2) 0 qk_47 176 [some (.ref 46), some (.int (iN k)), some (.int (iN a)), some (.int (iN b)), some (.int (iN c)), some (.int (iN (T + sumN (fun y => sumN (fun e => pzN Q t z fs.length lo W k a b c (lo a + (x : Int)) (lo b + (y : Int)) (lo c + (e : Int))) (W c)) (W b)))), some (.int (iZ (lo a + (x : Int)))), some (.int (iZ (lo b + (W b : Int)))), y8] [] g' R) ∧ ChX [49] [] 0 h g' := by
    intro x T hx w'
    induction w' with
    | zero =>
      intro y g x8 hy cg va
      have ey : y = W b := by omega
      subst ey
      have sg := cg.sh
      have r8 := i48 g cg b hb
      obtain ⟨p1, p2⟩ := cp b hb (W b) (Nat.le_refl _)
      refine ⟨g, x8, fun R => ?_, cg⟩
      rw [e47_105]
      simp (disch := first | assumption | omega) only [e47_0, e47_1, e47_2, e47_3, e47_5, e47_6, e47_9, e47_10, e47_11, e47_14, e47_15, e47_16, e47_19, e47_22, e47_23, e47_26, e47_27, e47_28, e47_31, e47_34, e47_35, e47_38, e47_39, e47_42, e47_43, e47_44, e47_45, e47_46, e47_49, e47_50, e47_53, e47_54, e47_55, e47_56, e47_57, e47_60, e47_61, e47_64, e47_65, e47_67, e47_68, e47_70, e47_71, e47_74, e47_75, e47_76, e47_80, e47_81, e47_84, e47_85, e47_86, e47_89, e47_90, e47_93, e47_94, e47_96, e47_97, e47_98, e47_101, e47_102, e47_103, e47_107, e47_108, e47_111, e47_112, e47_113, e47_116, e47_117, e47_120, e47_121, e47_123, e47_124, e47_125, e47_128, e47_130, e47_131, e47_135, e47_136, e47_139, e47_141, e47_142, e47_145, e47_146, e47_149, e47_151, e47_153, e47_154, e47_156, e47_157, e47_158, e47_161, e47_162, e47_164, e47_167, e47_173, e47_179, e47_184, m47, ↓reduceIte, qg_0, qg_1, qg_2, qg_3, qg_4, qg_5, qg_6, qg_7, qg_8, qg_9, qg_10, qg_11, qg_12, qg_13, not_true_eq_false, not_false_eq_true, Nat.reduceBEq, Bool.false_eq_true, ex1, ex3, ex4, exF, qfit_i, qfit_l, qfit_r, qfit_n, qfit_b0, qfit_b1, qcat_i, qcat_r, qcat_n, qcat_l, qroom_0, qroom_c, List.map_cons, List.map_nil, List.sum_cons, List.sum_nil, Nat.reduceAdd, Nat.reduceMul, Nat.reduceLT, Nat.reduceLeDiff, Nat.reduceEqDiff, Nat.reduceSub, decide_true, true_and, and_true, and_self, if_true, if_false, Option.toList_some, Option.toList_none, List.cons_append, List.nil_append, qsL, qlong, List.length_cons, List.length_nil, iN_L, exI, iN_add, iN_mul, iN_le, iN_lt, iN_eq, Nat.le_refl, qfN0, qfN1, uX_16, vX_16, uX_19, vX_19, uX_27, vX_27, uX_30, vX_30, uX_39, vX_39, uX_41, vX_41, uX_43, vX_43, uX_46, vX_46, uX_50, vX_50, uX_53, vX_53, gX_46_4, r8, p1, p2, show lo b + (W b : Int) - 1 < lo b + (W b : Int) by omega, show ¬ lo b + (W b : Int) ≤ lo b + (W b : Int) - 1 by omega]
    | succ w' ih =>
      intro y g x8 hy cg va
      have hyb : y < W b := by omega
      have sg := cg.sh
      have r8 := i48 g cg b hb
      obtain ⟨p1, p2⟩ := cp b hb y (by omega)
      obtain ⟨g1, eg1⟩ : ∃ g1, g1 = sI g 49 (upd (hi g 49) b (iZ (lo b + (y : Int)))) := ⟨_, rfl⟩
      have w1 : qiast g 49 (iN b) (iZ (lo b + (y : Int))) = some g1 := by rw [eg1]; exact i49 g cg b _ hb
      have c1 : ChX [49] [] 0 h g1 := by rw [eg1]; exact ch g _ cg
      have s1 := c1.sh
      have r7 := i47 g1 c1 c hc
      have z1 : ∀ k', hi g1 49 k' = if k' = b then iZ (lo b + (y : Int)) else hi g 49 k' := fun k' => by rw [eg1, hi_sI, if_pos rfl, upd_at]
      obtain ⟨g2, r2, c2, va2, -⟩ := inner x y (T + sumN (fun y => sumN (fun e => pzN Q t z fs.length lo W k a b c (lo a + (x : Int)) (lo b + (y : Int)) (lo c + (e : Int))) (W c)) y) hx hyb (W c) 0 g1 (by omega) c1 (by rw [z1, if_neg nab]; exact va) (by rw [z1, if_pos rfl])
      rw [show sumN (fun e => pzN Q t z fs.length lo W k a b c (lo a + (x : Int)) (lo b + (y : Int)) (lo c + (e : Int))) 0 = 0 from rfl, show lo c + ((0 : Nat) : Int) = lo c by omega] at r2
      simp only [Nat.add_zero] at r2
      obtain ⟨g', y8, r', z'⟩ := ih (y + 1) g2 (some (.int (iZ (lo c + (W c : Int))))) (by omega) c2 va2
      refine ⟨g', y8, fun R => ?_, z'⟩
      have r0 : qEv (d + 2) 0 qk_47 105 [some (.ref 46), some (.int (iN k)), some (.int (iN a)), some (.int (iN b)), some (.int (iN c)), some (.int (iN (T + sumN (fun y => sumN (fun e => pzN Q t z fs.length lo W k a b c (lo a + (x : Int)) (lo b + (y : Int)) (lo c + (e : Int))) (W c)) y))), some (.int (iZ (lo a + (x : Int)))), some (.int (iZ (lo b + (y : Int)))), x8] [] g R ↔ qEv (d + 2) 0 qk_47 133 [some (.ref 46), some (.int (iN k)), some (.int (iN a)), some (.int (iN b)), some (.int (iN c)), some (.int (iN (T + sumN (fun y => sumN (fun e => pzN Q t z fs.length lo W k a b c (lo a + (x : Int)) (lo b + (y : Int)) (lo c + (e : Int))) (W c)) y))), some (.int (iZ (lo a + (x : Int)))), some (.int (iZ (lo b + (y : Int)))), some (.int (iZ (lo c)))] [] g1 R := by
        rw [e47_105]
        simp (disch := first | assumption | omega) only [e47_0, e47_1, e47_2, e47_3, e47_5, e47_6, e47_9, e47_10, e47_11, e47_14, e47_15, e47_16, e47_19, e47_22, e47_23, e47_26, e47_27, e47_28, e47_31, e47_34, e47_35, e47_38, e47_39, e47_42, e47_43, e47_44, e47_45, e47_46, e47_49, e47_50, e47_53, e47_54, e47_55, e47_56, e47_57, e47_60, e47_61, e47_64, e47_65, e47_67, e47_68, e47_70, e47_71, e47_74, e47_75, e47_76, e47_80, e47_81, e47_84, e47_85, e47_86, e47_89, e47_90, e47_93, e47_94, e47_96, e47_97, e47_98, e47_101, e47_102, e47_103, e47_107, e47_108, e47_111, e47_112, e47_113, e47_116, e47_117, e47_120, e47_121, e47_123, e47_124, e47_125, e47_128, e47_130, e47_131, e47_135, e47_136, e47_139, e47_141, e47_142, e47_145, e47_146, e47_149, e47_151, e47_153, e47_154, e47_156, e47_157, e47_158, e47_161, e47_162, e47_164, e47_167, e47_173, e47_179, e47_184, m47, ↓reduceIte, qg_0, qg_1, qg_2, qg_3, qg_4, qg_5, qg_6, qg_7, qg_8, qg_9, qg_10, qg_11, qg_12, qg_13, not_true_eq_false, not_false_eq_true, Nat.reduceBEq, Bool.false_eq_true, ex1, ex3, ex4, exF, qfit_i, qfit_l, qfit_r, qfit_n, qfit_b0, qfit_b1, qcat_i, qcat_r, qcat_n, qcat_l, qroom_0, qroom_c, List.map_cons, List.map_nil, List.sum_cons, List.sum_nil, Nat.reduceAdd, Nat.reduceMul, Nat.reduceLT, Nat.reduceLeDiff, Nat.reduceEqDiff, Nat.reduceSub, decide_true, true_and, and_true, and_self, if_true, if_false, Option.toList_some, Option.toList_none, List.cons_append, List.nil_append, qsL, qlong, List.length_cons, List.length_nil, iN_L, exI, iN_add, iN_mul, iN_le, iN_lt, iN_eq, Nat.le_refl, qfN0, qfN1, uX_16, vX_16, uX_19, vX_19, uX_27, vX_27, uX_30, vX_30, uX_39, vX_39, uX_41, vX_41, uX_43, vX_43, uX_46, vX_46, uX_50, vX_50, uX_53, vX_53, gX_46_4, gX_46_5, gX_46_3, r8, p1, p2, show ¬ lo b + (W b : Int) - 1 < lo b + (y : Int) by omega, show lo b + (y : Int) ≤ lo b + (W b : Int) - 1 by omega, w1, r7]
      rw [← r' R, r0, r2 R, e47_170, sumN, ← Nat.add_assoc, e1]
      simp (disch := first | assumption | omega) only [e47_0, e47_1, e47_2, e47_3, e47_5, e47_6, e47_9, e47_10, e47_11, e47_14, e47_15, e47_16, e47_19, e47_22, e47_23, e47_26, e47_27, e47_28, e47_31, e47_34, e47_35, e47_38, e47_39, e47_42, e47_43, e47_44, e47_45, e47_46, e47_49, e47_50, e47_53, e47_54, e47_55, e47_56, e47_57, e47_60, e47_61, e47_64, e47_65, e47_67, e47_68, e47_70, e47_71, e47_74, e47_75, e47_76, e47_80, e47_81, e47_84, e47_85, e47_86, e47_89, e47_90, e47_93, e47_94, e47_96, e47_97, e47_98, e47_101, e47_102, e47_103, e47_107, e47_108, e47_111, e47_112, e47_113, e47_116, e47_117, e47_120, e47_121, e47_123, e47_124, e47_125, e47_128, e47_130, e47_131, e47_135, e47_136, e47_139, e47_141, e47_142, e47_145, e47_146, e47_149, e47_151, e47_153, e47_154, e47_156, e47_157, e47_158, e47_161, e47_162, e47_164, e47_167, e47_173, e47_179, e47_184, m47, ↓reduceIte, qg_0, qg_1, qg_2, qg_3, qg_4, qg_5, qg_6, qg_7, qg_8, qg_9, qg_10, qg_11, qg_12, qg_13, not_true_eq_false, not_false_eq_true, Nat.reduceBEq, Bool.false_eq_true, ex1, ex3, ex4, exF, qfit_i, qfit_l, qfit_r, qfit_n, qfit_b0, qfit_b1, qcat_i, qcat_r, qcat_n, qcat_l, qroom_0, qroom_c, List.map_cons, List.map_nil, List.sum_cons, List.sum_nil, Nat.reduceAdd, Nat.reduceMul, Nat.reduceLT, Nat.reduceLeDiff, Nat.reduceEqDiff, Nat.reduceSub, decide_true, true_and, and_true, and_self, if_true, if_false, Option.toList_some, Option.toList_none, List.cons_append, List.nil_append, qsL, qlong, List.length_cons, List.length_nil, iN_L, exI, iN_add, iN_mul, iN_le, iN_lt, iN_eq, Nat.le_refl, qfN0, qfN1, uX_16, vX_16, uX_19, vX_19, uX_27, vX_27, uX_30, vX_30, uX_39, vX_39, uX_41, vX_41, uX_43, vX_43, uX_46, vX_46, uX_50, vX_50, uX_53, vX_53, iZ_p1]
  -- the outermost
  have outer : ∀ (w' x : Nat) (g : qH) (x7 x8 : Option Value), x + w' = W a → ChX [49] [] 0 h g → ∃ g', (∀ R, qEv (d + 2) 0 qk_47 78 [some (.ref 46), some (.int (iN k)), some (.int (iN a)), some (.int (iN b)), some (.int (iN c)), some (.int (iN (sumN (fun x => sumN (fun y => sumN (fun e => pzN Q t z fs.length lo W k a b c (lo a + (x : Int)) (lo b + (y : Int)) (lo c + (e : Int))) (W c)) (W b)) x))), some (.int (iZ (lo a + (x : Int)))), x7, x8] [] g R ↔ R = (some (.int (iN (tpN Q t z fs.length lo W k a b c))), g')) ∧ ChX [49] [] 0 h g' := by
    intro w'
    induction w' with
    | zero =>
      intro x g x7 x8 hx cg
      have ex : x = W a := by omega
      subst ex
      have sg := cg.sh
      have r8 := i48 g cg a ha
      obtain ⟨p1, p2⟩ := cp a ha (W a) (Nat.le_refl _)
      refine ⟨g, fun R => ?_, cg⟩
      unfold tpN
      rw [e47_78]
      simp (disch := first | assumption | omega) only [e47_0, e47_1, e47_2, e47_3, e47_5, e47_6, e47_9, e47_10, e47_11, e47_14, e47_15, e47_16, e47_19, e47_22, e47_23, e47_26, e47_27, e47_28, e47_31, e47_34, e47_35, e47_38, e47_39, e47_42, e47_43, e47_44, e47_45, e47_46, e47_49, e47_50, e47_53, e47_54, e47_55, e47_56, e47_57, e47_60, e47_61, e47_64, e47_65, e47_67, e47_68, e47_70, e47_71, e47_74, e47_75, e47_76, e47_80, e47_81, e47_84, e47_85, e47_86, e47_89, e47_90, e47_93, e47_94, e47_96, e47_97, e47_98, e47_101, e47_102, e47_103, e47_107, e47_108, e47_111, e47_112, e47_113, e47_116, e47_117, e47_120, e47_121, e47_123, e47_124, e47_125, e47_128, e47_130, e47_131, e47_135, e47_136, e47_139, e47_141, e47_142, e47_145, e47_146, e47_149, e47_151, e47_153, e47_154, e47_156, e47_157, e47_158, e47_161, e47_162, e47_164, e47_167, e47_173, e47_179, e47_182, e47_184, m47, ↓reduceIte, qg_0, qg_1, qg_2, qg_3, qg_4, qg_5, qg_6, qg_7, qg_8, qg_9, qg_10, qg_11, qg_12, qg_13, not_true_eq_false, not_false_eq_true, Nat.reduceBEq, Bool.false_eq_true, ex1, ex3, ex4, exF, qfit_i, qfit_l, qfit_r, qfit_n, qfit_b0, qfit_b1, qcat_i, qcat_r, qcat_n, qcat_l, qroom_0, qroom_c, List.map_cons, List.map_nil, List.sum_cons, List.sum_nil, Nat.reduceAdd, Nat.reduceMul, Nat.reduceLT, Nat.reduceLeDiff, Nat.reduceEqDiff, Nat.reduceSub, decide_true, true_and, and_true, and_self, if_true, if_false, Option.toList_some, Option.toList_none, List.cons_append, List.nil_append, qsL, qlong, List.length_cons, List.length_nil, iN_L, exI, iN_add, iN_mul, iN_le, iN_lt, iN_eq, Nat.le_refl, qfN0, qfN1, uX_16, vX_16, uX_19, vX_19, uX_27, vX_27, uX_30, vX_30, uX_39, vX_39, uX_41, vX_41, uX_43, vX_43, uX_46, vX_46, uX_50, vX_50, uX_53, vX_53, gX_46_4, r8, p1, p2, show lo a + (W a : Int) - 1 < lo a + (W a : Int) by omega, show ¬ lo a + (W a : Int) ≤ lo a + (W a : Int) - 1 by omega]
    | succ w' ih =>
      intro x g x7 x8 hx cg
      have hxa : x < W a := by omega
      have sg := cg.sh
      have r8 := i48 g cg a ha
      obtain ⟨p1, p2⟩ := cp a ha x (by omega)
      obtain ⟨g1, eg1⟩ : ∃ g1, g1 = sI g 49 (upd (hi g 49) a (iZ (lo a + (x : Int)))) := ⟨_, rfl⟩
      have w1 : qiast g 49 (iN a) (iZ (lo a + (x : Int))) = some g1 := by rw [eg1]; exact i49 g cg a _ ha
      have c1 : ChX [49] [] 0 h g1 := by rw [eg1]; exact ch g _ cg
      have s1 := c1.sh
      have r7 := i47 g1 c1 b hb
      obtain ⟨g2, y8, r2, c2⟩ := middle x (sumN (fun x => sumN (fun y => sumN (fun e => pzN Q t z fs.length lo W k a b c (lo a + (x : Int)) (lo b + (y : Int)) (lo c + (e : Int))) (W c)) (W b)) x) hxa (W b) 0 g1 x8 (by omega) c1 (by rw [eg1, hi_sI, if_pos rfl, upd_at, if_pos rfl])
      rw [show sumN (fun y => sumN (fun e => pzN Q t z fs.length lo W k a b c (lo a + (x : Int)) (lo b + (y : Int)) (lo c + (e : Int))) (W c)) 0 = 0 from rfl, show lo b + ((0 : Nat) : Int) = lo b by omega] at r2
      simp only [Nat.add_zero] at r2
      obtain ⟨g', r', z'⟩ := ih (x + 1) g2 (some (.int (iZ (lo b + (W b : Int))))) y8 (by omega) c2
      refine ⟨g', fun R => ?_, z'⟩
      have r0 : qEv (d + 2) 0 qk_47 78 [some (.ref 46), some (.int (iN k)), some (.int (iN a)), some (.int (iN b)), some (.int (iN c)), some (.int (iN (sumN (fun x => sumN (fun y => sumN (fun e => pzN Q t z fs.length lo W k a b c (lo a + (x : Int)) (lo b + (y : Int)) (lo c + (e : Int))) (W c)) (W b)) x))), some (.int (iZ (lo a + (x : Int)))), x7, x8] [] g R ↔ qEv (d + 2) 0 qk_47 105 [some (.ref 46), some (.int (iN k)), some (.int (iN a)), some (.int (iN b)), some (.int (iN c)), some (.int (iN (sumN (fun x => sumN (fun y => sumN (fun e => pzN Q t z fs.length lo W k a b c (lo a + (x : Int)) (lo b + (y : Int)) (lo c + (e : Int))) (W c)) (W b)) x))), some (.int (iZ (lo a + (x : Int)))), some (.int (iZ (lo b))), x8] [] g1 R := by
        rw [e47_78]
        simp (disch := first | assumption | omega) only [e47_0, e47_1, e47_2, e47_3, e47_5, e47_6, e47_9, e47_10, e47_11, e47_14, e47_15, e47_16, e47_19, e47_22, e47_23, e47_26, e47_27, e47_28, e47_31, e47_34, e47_35, e47_38, e47_39, e47_42, e47_43, e47_44, e47_45, e47_46, e47_49, e47_50, e47_53, e47_54, e47_55, e47_56, e47_57, e47_60, e47_61, e47_64, e47_65, e47_67, e47_68, e47_70, e47_71, e47_74, e47_75, e47_76, e47_80, e47_81, e47_84, e47_85, e47_86, e47_89, e47_90, e47_93, e47_94, e47_96, e47_97, e47_98, e47_101, e47_102, e47_103, e47_107, e47_108, e47_111, e47_112, e47_113, e47_116, e47_117, e47_120, e47_121, e47_123, e47_124, e47_125, e47_128, e47_130, e47_131, e47_135, e47_136, e47_139, e47_141, e47_142, e47_145, e47_146, e47_149, e47_151, e47_153, e47_154, e47_156, e47_157, e47_158, e47_161, e47_162, e47_164, e47_167, e47_173, e47_179, e47_184, m47, ↓reduceIte, qg_0, qg_1, qg_2, qg_3, qg_4, qg_5, qg_6, qg_7, qg_8, qg_9, qg_10, qg_11, qg_12, qg_13, not_true_eq_false, not_false_eq_true, Nat.reduceBEq, Bool.false_eq_true, ex1, ex3, ex4, exF, qfit_i, qfit_l, qfit_r, qfit_n, qfit_b0, qfit_b1, qcat_i, qcat_r, qcat_n, qcat_l, qroom_0, qroom_c, List.map_cons, List.map_nil, List.sum_cons, List.sum_nil, Nat.reduceAdd, Nat.reduceMul, Nat.reduceLT, Nat.reduceLeDiff, Nat.reduceEqDiff, Nat.reduceSub, decide_true, true_and, and_true, and_self, if_true, if_false, Option.toList_some, Option.toList_none, List.cons_append, List.nil_append, qsL, qlong, List.length_cons, List.length_nil, iN_L, exI, iN_add, iN_mul, iN_le, iN_lt, iN_eq, Nat.le_refl, qfN0, qfN1, uX_16, vX_16, uX_19, vX_19, uX_27, vX_27, uX_30, vX_30, uX_39, vX_39, uX_41, vX_41, uX_43, vX_43, uX_46, vX_46, uX_50, vX_50, uX_53, vX_53, gX_46_4, gX_46_5, gX_46_3, r8, p1, p2, show ¬ lo a + (W a : Int) - 1 < lo a + (x : Int) by omega, show lo a + (x : Int) ≤ lo a + (W a : Int) - 1 by omega, w1, r7]
      rw [← r' R, r0, r2 R, e47_176, sumN, e1]
      simp (disch := first | assumption | omega) only [e47_0, e47_1, e47_2, e47_3, e47_5, e47_6, e47_9, e47_10, e47_11, e47_14, e47_15, e47_16, e47_19, e47_22, e47_23, e47_26, e47_27, e47_28, e47_31, e47_34, e47_35, e47_38, e47_39, e47_42, e47_43, e47_44, e47_45, e47_46, e47_49, e47_50, e47_53, e47_54, e47_55, e47_56, e47_57, e47_60, e47_61, e47_64, e47_65, e47_67, e47_68, e47_70, e47_71, e47_74, e47_75, e47_76, e47_80, e47_81, e47_84, e47_85, e47_86, e47_89, e47_90, e47_93, e47_94, e47_96, e47_97, e47_98, e47_101, e47_102, e47_103, e47_107, e47_108, e47_111, e47_112, e47_113, e47_116, e47_117, e47_120, e47_121, e47_123, e47_124, e47_125, e47_128, e47_130, e47_131, e47_135, e47_136, e47_139, e47_141, e47_142, e47_145, e47_146, e47_149, e47_151, e47_153, e47_154, e47_156, e47_157, e47_158, e47_161, e47_162, e47_164, e47_167, e47_173, e47_179, e47_184, m47, ↓reduceIte, qg_0, qg_1, qg_2, qg_3, qg_4, qg_5, qg_6, qg_7, qg_8, qg_9, qg_10, qg_11, qg_12, qg_13, not_true_eq_false, not_false_eq_true, Nat.reduceBEq, Bool.false_eq_true, ex1, ex3, ex4, exF, qfit_i, qfit_l, qfit_r, qfit_n, qfit_b0, qfit_b1, qcat_i, qcat_r, qcat_n, qcat_l, qroom_0, qroom_c, List.map_cons, List.map_nil, List.sum_cons, List.sum_nil, Nat.reduceAdd, Nat.reduceMul, Nat.reduceLT, Nat.reduceLeDiff, Nat.reduceEqDiff, Nat.reduceSub, decide_true, true_and, and_true, and_self, if_true, if_false, Option.toList_some, Option.toList_none, List.cons_append, List.nil_append, qsL, qlong, List.length_cons, List.length_nil, iN_L, exI, iN_add, iN_mul, iN_le, iN_lt, iN_eq, Nat.le_refl, qfN0, qfN1, uX_16, vX_16, uX_19, vX_19, uX_27, vX_27, uX_30, vX_30, uX_39, vX_39, uX_41, vX_41, uX_43, vX_43, uX_46, vX_46, uX_50, vX_50, uX_53, vX_53, iZ_p1]
  obtain ⟨g', r', c'⟩ := outer (W a) 0 h none none (by omega) (ChX.refl s)
  refine ⟨g', fun R => ?_, c'⟩
  rw [← r' R, show lo a + ((0 : Nat) : Int) = lo a by omega]
  exact Iff.rfl
end XPLACES

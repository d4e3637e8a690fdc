/-! ===== WHAT A METHOD OF THE REFERENCE CHANGES; keepPlane ===== -/
/-- rows A and fields J of the reference may change, nothing else -/
def Ch (A J : List Nat) (h h' : qH) : Prop := (h'.2 = h.2 ∧ ShM h') ∧ (∀ b, b ∉ A → b ≠ 55 → h'.1 b = h.1 b) ∧ ∀ j, j ∉ J → hf h' 55 j = hf h 55 j
section CH
variable {A J : List Nat} {h h' h2 : qH}
theorem Ch.refl (s : ShM h) : Ch A J h h := ⟨⟨rfl, s⟩, fun _ _ _ => rfl, fun _ _ => rfl⟩
theorem Ch.trans (a : Ch A J h h') (b : Ch A J h' h2) : Ch A J h h2 := ⟨⟨b.1.1.trans a.1.1, b.1.2⟩, fun x h1 h2 => (b.2.1 x h1 h2).trans (a.2.1 x h1 h2), fun j hj => (b.2.2 j hj).trans (a.2.2 j hj)⟩
theorem Ch.mono {A' J' : List Nat} (a : Ch A J h h') (hA : ∀ x ∈ A, x ∈ A') (hJ : ∀ x ∈ J, x ∈ J') : Ch A' J' h h' := ⟨a.1, fun x h1 h2 => a.2.1 x (fun z => h1 (hA x z)) h2, fun j hj => a.2.2 j (fun z => hj (hJ j z))⟩
theorem Ch.sh (a : Ch A J h h') : ShM h' := a.1.2
theorem Ch.hi {b : Nat} (a : Ch A J h h') (hb : b ∉ A) (h5 : b ≠ 55) : hi h' b = hi h b := by
  show (match h'.1 b with | .inl (_, _, .inl f) => f | _ => fun _ => 0) = (match h.1 b with | .inl (_, _, .inl f) => f | _ => fun _ => 0)
  rw [a.2.1 b hb h5]
theorem Ch.hl {b : Nat} (a : Ch A J h h') (hb : b ∉ A) (h5 : b ≠ 55) : hl h' b = hl h b := by
  show (match h'.1 b with | .inl (_, _, .inr (.inl f)) => f | _ => fun _ => 0) = (match h.1 b with | .inl (_, _, .inr (.inl f)) => f | _ => fun _ => 0)
  rw [a.2.1 b hb h5]
theorem Ch.mi {j : Nat} (a : Ch A J h h') (hj : j ∉ J) : mi h' j = mi h j := by
  show vI (hf h' 55 j) = vI (hf h 55 j)
  rw [a.2.2 j hj]
theorem Ch.rowI {a n : Nat} {g : Nat → Int32} (s : ShM h) (k : kI h a n) (ha : a ∈ A) : Ch A J h (sI h a g) := by
  refine ⟨⟨rfl, s.rowI k⟩, fun b h1 h2 => ?_, fun j hj => ?_⟩
  · rw [at_sI, if_neg (fun (e : b = a) => h1 (e ▸ ha))]
  · rw [hf_sI k]
theorem Ch.rowL {a n : Nat} {g : Nat → Int64} (s : ShM h) (k : kL h a n) (ha : a ∈ A) : Ch A J h (sL h a g) := by
  refine ⟨⟨rfl, s.rowL k⟩, fun b h1 h2 => ?_, fun j hj => ?_⟩
  · rw [at_sL, if_neg (fun (e : b = a) => h1 (e ▸ ha))]
  · rw [hf_sL k]
theorem Ch.setI {j : Nat} {x : Int32} (s : ShM h) (hm : j ∈ MJs) (hj : j ∈ J) : Ch A J h (mI h j x) := by
  refine ⟨⟨rfl, s.setI hm⟩, fun b h1 h2 => ?_, fun i hi' => ?_⟩
  · show (if b = 55 then _ else _) = _
    rw [if_neg h2]
  · unfold mI
    rw [hf_sF, if_pos rfl]
    show (if i = j then _ else _) = _
    rw [if_neg (fun (e : i = j) => hi' (e ▸ hj))]
theorem Ch.setW {x : Int64} (s : ShM h) (hj : 60 ∈ J) : Ch A J h (mW h x) := by
  refine ⟨⟨rfl, s.setW⟩, fun b h1 h2 => ?_, fun i hi' => ?_⟩
  · show (if b = 55 then _ else _) = _
    rw [if_neg h2]
  · unfold mW
    rw [hf_sF, if_pos rfl]
    show (if i = 60 then _ else _) = _
    rw [if_neg (fun (e : i = 60) => hi' (e ▸ hj))]
theorem Ch.atz {n : Nat} {P : Nat → Nat → Int} (a : Ch A J h h') (hb : 63 ∉ A) (z : AtZ h n P) : AtZ h' n P := z.same (a.hi hb (by decide))
end CH
/-- the planes found so far -/
def FdP (h : qH) (f : Nat) (S : Nat → Nat) (Q : Nat → Nat → Int) : Prop := mi h 11 = iN f ∧ ∀ j, j < f → (hi h 64 j = iN (S j) ∧ S j < 65536) ∧ ∀ k, k < 5 → hl h 65 (5 * j + k) = lZ (Q j k)
def plN (N : Nat → Int) (b : Int) (k : Nat) : Int := if k = 4 then b else N k
section KEPT
variable {d n f : Nat} {P : Nat → Nat → Int} {h : qH} {N : Nat → Int} {b : Int}
set_option maxRecDepth 100000 in
set_option maxHeartbeats 16000000 in
theorem kp_D {m u w : Nat} {x5 : Option Value} (s : ShM h) (hf : mi h 11 = iN f) (hf2 : f < 2000) (hN : ∀ k, k < 5 → hl h 66 k = lZ (plN N b k)) (hu : u < 65536) (R : qRes) : qEv (d + 1) 4 qk_207 125 [some (.ref 55), some (.int (iN m)), some (.int (iN u)), some (.int (iN w)), some (.int (iN f)), x5, none] [] h R ↔
    R = (none, mI (sL (sI h 64 (upd (hi h 64) f (iN m))) 65 (fun j => if 5 * f ≤ j ∧ j < 5 * f + 5 then lZ (if 0 < u then -plN N b (j - 5 * f) else plN N b (j - 5 * f)) else hl h 65 j)) 11 (iN (f + 1))) := by
  obtain ⟨h1, eh1⟩ : ∃ h1, h1 = sI h 64 (upd (hi h 64) f (iN m)) := ⟨_, rfl⟩
  have s1 : ShM h1 := by rw [eh1]; exact s.rowI (kM_64 s)
  have m1 : mi h1 11 = iN f := by rw [eh1, mi_sI (kM_64 s)]; exact hf
  have l65 : hl h1 65 = hl h 65 := by rw [eh1, hl_sI (kM_64 s)]
  have l66 : hl h1 66 = hl h 66 := by rw [eh1, hl_sI (kM_64 s)]
  have sh : ∀ G, ShM (sL h1 65 G) := fun G => s1.rowL (kM_65 s1)
  rw [← l65, ← eh1]
  have A : qEv (d + 1) 4 qk_207 125 [some (.ref 55), some (.int (iN m)), some (.int (iN u)), some (.int (iN w)), some (.int (iN f)), x5, none] [] h R ↔ qEv (d + 1) 4 qk_207 138 [some (.ref 55), some (.int (iN m)), some (.int (iN u)), some (.int (iN w)), some (.int (iN 0)), x5, none] [] h1 R := by
    simp (disch := first | assumption | omega) only [e207_0, e207_1, e207_2, e207_3, e207_4, e207_5, e207_6, e207_7, e207_9, e207_11, e207_12, e207_15, e207_18, e207_19, e207_21, e207_24, e207_26, e207_27, e207_29, e207_30, e207_31, e207_34, e207_35, e207_37, e207_38, e207_41, e207_42, e207_43, e207_44, e207_45, e207_47, e207_48, e207_49, e207_52, e207_53, e207_56, e207_57, e207_58, e207_59, e207_60, e207_62, e207_63, e207_64, e207_67, e207_68, e207_71, e207_72, e207_73, e207_74, e207_77, e207_80, e207_81, e207_84, e207_85, e207_88, e207_89, e207_90, e207_91, e207_94, e207_95, e207_96, e207_100, e207_101, e207_104, e207_107, e207_108, e207_111, e207_113, e207_114, e207_115, e207_118, e207_119, e207_122, e207_125, e207_126, e207_129, e207_130, e207_133, e207_134, e207_135, e207_136, e207_140, e207_141, e207_144, e207_145, e207_148, e207_149, e207_150, e207_153, e207_154, e207_156, e207_157, e207_158, e207_161, e207_162, e207_165, e207_167, e207_168, e207_169, e207_172, e207_173, e207_176, e207_178, e207_179, e207_180, e207_183, e207_186, e207_187, e207_188, e207_191, e207_192, e207_193, e207_196, m207, ↓reduceIte, qg_0, qg_1, qg_2, qg_3, qg_4, qg_5, qg_6, qg_7, qg_8, qg_9, qg_10, qg_11, qg_12, qg_13, not_true_eq_false, not_false_eq_true, Nat.reduceBEq, Bool.false_eq_true, ex1, ex3, ex4, exF, qfit_i, qfit_l, qfit_r, qfit_n, qfit_b0, qfit_b1, qcat_i, qcat_r, qcat_n, qcat_l, qroom_0, qroom_c, List.map_cons, List.map_nil, List.sum_cons, List.sum_nil, Nat.reduceAdd, Nat.reduceMul, Nat.reduceLT, Nat.reduceLeDiff, Nat.reduceEqDiff, Nat.reduceSub, decide_true, true_and, and_true, and_self, if_true, if_false, Option.toList_some, Option.toList_none, List.cons_append, List.nil_append, qsL, qlong, List.length_cons, List.length_nil, gM_11, gM_12, hf, iN_L, wM_64, ← eh1]
  rw [A]
  have H0 : h1 = sL h1 65 (fun j => if 5 * f ≤ j ∧ j < 5 * f + 0 then lZ (if 0 < u then -plN N b (j - 5 * f) else plN N b (j - 5 * f)) else hl h1 65 j) := by
    have : (fun j => if 5 * f ≤ j ∧ j < 5 * f + 0 then lZ (if 0 < u then -plN N b (j - 5 * f) else plN N b (j - 5 * f)) else hl h1 65 j) = hl h1 65 := by
      funext j
      rw [if_neg (by omega)]
    rw [this, sL_id (kM_65 s1)]
  have B : qEv (d + 1) 4 qk_207 138 [some (.ref 55), some (.int (iN m)), some (.int (iN u)), some (.int (iN w)), some (.int (iN 0)), x5, none] [] h1 R ↔ qEv (d + 1) 4 qk_207 138 [some (.ref 55), some (.int (iN m)), some (.int (iN u)), some (.int (iN w)), some (.int (iN 0)), x5, none] [] (sL h1 65 (fun j => if 5 * f ≤ j ∧ j < 5 * f + 0 then lZ (if 0 < u then -plN N b (j - 5 * f) else plN N b (j - 5 * f)) else hl h1 65 j)) R := by rw [← H0]
  rw [B]
  refine Iff.trans (loop_up (n := 5) (L := fun k => [some (.ref 55), some (.int (iN m)), some (.int (iN u)), some (.int (iN w)), some (.int (iN k)), x5, none]) (H := fun k => sL h1 65 (fun j => if 5 * f ≤ j ∧ j < 5 * f + k then lZ (if 0 < u then -plN N b (j - 5 * f) else plN N b (j - 5 * f)) else hl h1 65 j)) ?_) ?_
  · intro k hk
    try dsimp only
    rw [e207_138]
    have eq1 : ∀ v, v = lZ (if 0 < u then -plN N b k else plN N b k) → vp_updL (fun j => if 5 * f ≤ j ∧ j < 5 * f + k then lZ (if 0 < u then -plN N b (j - 5 * f) else plN N b (j - 5 * f)) else hl h1 65 j) (5 * f + k) v = fun j => if 5 * f ≤ j ∧ j < 5 * f + (k + 1) then lZ (if 0 < u then -plN N b (j - 5 * f) else plN N b (j - 5 * f)) else hl h1 65 j := by
      intro v hv
      funext j
      show (if j = 5 * f + k then v else if _ then _ else _) = _
      by_cases h1 : j = 5 * f + k
      · subst h1; rw [if_pos rfl, if_pos (by omega), hv, show 5 * f + k - 5 * f = k by omega]
      · rw [if_neg h1]
        by_cases h2 : 5 * f ≤ j ∧ j < 5 * f + k
        · rw [if_pos h2, if_pos (show 5 * f ≤ j ∧ j < 5 * f + (k + 1) by omega)]
        · rw [if_neg h2, if_neg (show ¬ (5 * f ≤ j ∧ j < 5 * f + (k + 1)) by omega)]
    by_cases hu0 : 0 < u
    · simp (disch := first | assumption | omega | exact sh _) only [e207_0, e207_1, e207_2, e207_3, e207_4, e207_5, e207_6, e207_7, e207_9, e207_11, e207_12, e207_15, e207_18, e207_19, e207_21, e207_24, e207_26, e207_27, e207_29, e207_30, e207_31, e207_34, e207_35, e207_37, e207_38, e207_41, e207_42, e207_43, e207_44, e207_45, e207_47, e207_48, e207_49, e207_52, e207_53, e207_56, e207_57, e207_58, e207_59, e207_60, e207_62, e207_63, e207_64, e207_67, e207_68, e207_71, e207_72, e207_73, e207_74, e207_77, e207_80, e207_81, e207_84, e207_85, e207_88, e207_89, e207_90, e207_91, e207_94, e207_95, e207_96, e207_100, e207_101, e207_104, e207_107, e207_108, e207_111, e207_113, e207_114, e207_115, e207_118, e207_119, e207_122, e207_125, e207_126, e207_129, e207_130, e207_133, e207_134, e207_135, e207_136, e207_140, e207_141, e207_144, e207_145, e207_148, e207_149, e207_150, e207_153, e207_154, e207_156, e207_157, e207_158, e207_161, e207_162, e207_165, e207_167, e207_168, e207_169, e207_172, e207_173, e207_176, e207_178, e207_179, e207_180, e207_183, e207_186, e207_187, e207_188, e207_191, e207_192, e207_193, e207_196, m207, ↓reduceIte, qg_0, qg_1, qg_2, qg_3, qg_4, qg_5, qg_6, qg_7, qg_8, qg_9, qg_10, qg_11, qg_12, qg_13, not_true_eq_false, not_false_eq_true, Nat.reduceBEq, Bool.false_eq_true, ex1, ex3, ex4, exF, qfit_i, qfit_l, qfit_r, qfit_n, qfit_b0, qfit_b1, qcat_i, qcat_r, qcat_n, qcat_l, qroom_0, qroom_c, List.map_cons, List.map_nil, List.sum_cons, List.sum_nil, Nat.reduceAdd, Nat.reduceMul, Nat.reduceLT, Nat.reduceLeDiff, Nat.reduceEqDiff, Nat.reduceSub, decide_true, true_and, and_true, and_self, if_true, if_false, Option.toList_some, Option.toList_none, List.cons_append, List.nil_append, qsL, qlong, List.length_cons, List.length_nil, gM_11, gM_13, gM_14, iN_L, iN_le, show ¬ 5 ≤ k by omega, show ¬ u ≤ 0 by omega, mi_sL (kM_65 s1), m1, iN_mul, iN_add, rM_66, hl_sL, l66, hN k hk, lZ_neg, wM_65, sL_sL, exI]
      rw [eq1 _ (by rw [if_pos hu0])]
    · simp (disch := first | assumption | omega | exact sh _) only [e207_0, e207_1, e207_2, e207_3, e207_4, e207_5, e207_6, e207_7, e207_9, e207_11, e207_12, e207_15, e207_18, e207_19, e207_21, e207_24, e207_26, e207_27, e207_29, e207_30, e207_31, e207_34, e207_35, e207_37, e207_38, e207_41, e207_42, e207_43, e207_44, e207_45, e207_47, e207_48, e207_49, e207_52, e207_53, e207_56, e207_57, e207_58, e207_59, e207_60, e207_62, e207_63, e207_64, e207_67, e207_68, e207_71, e207_72, e207_73, e207_74, e207_77, e207_80, e207_81, e207_84, e207_85, e207_88, e207_89, e207_90, e207_91, e207_94, e207_95, e207_96, e207_100, e207_101, e207_104, e207_107, e207_108, e207_111, e207_113, e207_114, e207_115, e207_118, e207_119, e207_122, e207_125, e207_126, e207_129, e207_130, e207_133, e207_134, e207_135, e207_136, e207_140, e207_141, e207_144, e207_145, e207_148, e207_149, e207_150, e207_153, e207_154, e207_156, e207_157, e207_158, e207_161, e207_162, e207_165, e207_167, e207_168, e207_169, e207_172, e207_173, e207_176, e207_178, e207_179, e207_180, e207_183, e207_186, e207_187, e207_188, e207_191, e207_192, e207_193, e207_196, m207, ↓reduceIte, qg_0, qg_1, qg_2, qg_3, qg_4, qg_5, qg_6, qg_7, qg_8, qg_9, qg_10, qg_11, qg_12, qg_13, not_true_eq_false, not_false_eq_true, Nat.reduceBEq, Bool.false_eq_true, ex1, ex3, ex4, exF, qfit_i, qfit_l, qfit_r, qfit_n, qfit_b0, qfit_b1, qcat_i, qcat_r, qcat_n, qcat_l, qroom_0, qroom_c, List.map_cons, List.map_nil, List.sum_cons, List.sum_nil, Nat.reduceAdd, Nat.reduceMul, Nat.reduceLT, Nat.reduceLeDiff, Nat.reduceEqDiff, Nat.reduceSub, decide_true, true_and, and_true, and_self, if_true, if_false, Option.toList_some, Option.toList_none, List.cons_append, List.nil_append, qsL, qlong, List.length_cons, List.length_nil, gM_11, gM_13, gM_14, iN_L, iN_le, show ¬ 5 ≤ k by omega, show u ≤ 0 by omega, mi_sL (kM_65 s1), m1, iN_mul, iN_add, rM_66, hl_sL, l66, hN k hk, wM_65, sL_sL, exI]
      rw [eq1 _ (by rw [if_neg hu0])]
  · try dsimp only
    rw [e207_138]
    simp (disch := first | assumption | omega | exact sh _) only [e207_0, e207_1, e207_2, e207_3, e207_4, e207_5, e207_6, e207_7, e207_9, e207_11, e207_12, e207_15, e207_18, e207_19, e207_21, e207_24, e207_26, e207_27, e207_29, e207_30, e207_31, e207_34, e207_35, e207_37, e207_38, e207_41, e207_42, e207_43, e207_44, e207_45, e207_47, e207_48, e207_49, e207_52, e207_53, e207_56, e207_57, e207_58, e207_59, e207_60, e207_62, e207_63, e207_64, e207_67, e207_68, e207_71, e207_72, e207_73, e207_74, e207_77, e207_80, e207_81, e207_84, e207_85, e207_88, e207_89, e207_90, e207_91, e207_94, e207_95, e207_96, e207_100, e207_101, e207_104, e207_107, e207_108, e207_111, e207_113, e207_114, e207_115, e207_118, e207_119, e207_122, e207_125, e207_126, e207_129, e207_130, e207_133, e207_134, e207_135, e207_136, e207_140, e207_141, e207_144, e207_145, e207_148, e207_149, e207_150, e207_153, e207_154, e207_156, e207_157, e207_158, e207_161, e207_162, e207_165, e207_167, e207_168, e207_169, e207_172, e207_173, e207_176, e207_178, e207_179, e207_180, e207_183, e207_186, e207_187, e207_188, e207_191, e207_192, e207_193, e207_196, m207, ↓reduceIte, qg_0, qg_1, qg_2, qg_3, qg_4, qg_5, qg_6, qg_7, qg_8, qg_9, qg_10, qg_11, qg_12, qg_13, not_true_eq_false, not_false_eq_true, Nat.reduceBEq, Bool.false_eq_true, ex1, ex3, ex4, exF, qfit_i, qfit_l, qfit_r, qfit_n, qfit_b0, qfit_b1, qcat_i, qcat_r, qcat_n, qcat_l, qroom_0, qroom_c, List.map_cons, List.map_nil, List.sum_cons, List.sum_nil, Nat.reduceAdd, Nat.reduceMul, Nat.reduceLT, Nat.reduceLeDiff, Nat.reduceEqDiff, Nat.reduceSub, decide_true, true_and, and_true, and_self, if_true, if_false, Option.toList_some, Option.toList_none, List.cons_append, List.nil_append, qsL, qlong, List.length_cons, List.length_nil, gM_11, pM_11, iN_L, iN_le, mi_sL (kM_65 s1), m1, iN_add]
/-- what keepPlane does with what was found -/
def kpQ (N : Nat → Int) (b : Int) (P : Nat → Nat → Int) (n k : Nat) : Int := if 0 < cntN (upP N b P) n then -plN N b k else plN N b k
theorem s_keepPlane {S : Nat → Nat} {Q : Nat → Nat → Int} (s : ShM h) (a : AtZ h n P) (hn : mi h 9 = iN n) (h16 : n ≤ 16) (hN : ∀ k, k < 4 → hl h 66 k = lZ (N k)) (hb : hl h 66 4 = lZ b) (hp : plB N b) (fd : FdP h f S Q) (hf2 : f < 2000) :
    ∃ h', (∀ R, qMC (d + 2) 207 [.ref 55] h R ↔ R = (none, h')) ∧ Ch [64, 65] [11] h h' ∧
      ((¬ sup N b P n ∨ ∃ j, j < f ∧ S j = mask (onP N b P) n) ∧ h' = h ∨
       (sup N b P n ∧ ∀ j, j < f → S j ≠ mask (onP N b P) n) ∧ FdP h' (f + 1) (fun j => if j = f then mask (onP N b P) n else S j) (fun j k => if j = f then kpQ N b P n k else Q j k)) := by
  have hm : mask (onP N b P) n < 65536 := Nat.lt_of_lt_of_le (mask_lt _ n) (show 2 ^ n ≤ 2 ^ 16 from Nat.pow_le_pow_right (by decide) h16)
  have hu : cntN (upP N b P) n < 65536 := Nat.lt_of_le_of_lt cntN_le (by omega)
  by_cases hs : sup N b P n
  · by_cases hin : ∃ j, j < f ∧ S j = mask (onP N b P) n
    · refine ⟨h, fun R => ?_, Ch.refl s, Or.inl ⟨Or.inr hin, rfl⟩⟩
      rw [kp_A s a hn h16 hN hb hp R, kp_B2 h16 hs R]
      exact kp_C1 s fd.1 (by omega) (fun j hj => (fd.2 j hj).1.1) (fun j hj => (fd.2 j hj).1.2) hm hin R
    · have hin' : ∀ j, j < f → S j ≠ mask (onP N b P) n := fun j hj e => hin ⟨j, hj, e⟩
      have hN5 : ∀ k, k < 5 → hl h 66 k = lZ (plN N b k) := by
        intro k hk
        unfold plN
        by_cases h4 : k = 4
        · rw [if_pos h4, h4]; exact hb
        · rw [if_neg h4]; exact hN k (by omega)
      refine ⟨_, fun R => (kp_A s a hn h16 hN hb hp R).trans ((kp_B2 h16 hs R).trans ((kp_C2 s fd.1 (by omega) (fun j hj => (fd.2 j hj).1.1) (fun j hj => (fd.2 j hj).1.2) hm hin' R).trans (kp_D s fd.1 hf2 hN5 hu R))), ?_, Or.inr ⟨⟨hs, hin'⟩, ?_⟩⟩
      · have s1 : ShM (sI h 64 (upd (hi h 64) f (iN (mask (onP N b P) n)))) := s.rowI (kM_64 s)
        exact ((Ch.rowI s (kM_64 s) (by decide)).trans (Ch.rowL s1 (kM_65 s1) (by decide))).trans (Ch.setI (s1.rowL (kM_65 s1)) (by decide) (by decide))
      · have s1 : ShM (sI h 64 (upd (hi h 64) f (iN (mask (onP N b P) n)))) := s.rowI (kM_64 s)
        have s2 : ∀ G, ShM (sL (sI h 64 (upd (hi h 64) f (iN (mask (onP N b P) n)))) 65 G) := fun G => s1.rowL (kM_65 s1)
        refine ⟨by rw [mi_mI, if_pos rfl], fun j hj => ?_⟩
        rw [hi_mI (s2 _), hl_mI (s2 _), hi_sL (kM_65 s1), hl_sL, if_pos rfl, hi_sI, if_pos rfl]
        constructor
        · show upd (hi h 64) f _ j = iN (if j = f then _ else _) ∧ (if j = f then _ else _) < 65536
          rw [upd_at]
          by_cases e : j = f
          · rw [if_pos e, if_pos e]; exact ⟨rfl, hm⟩
          · rw [if_neg e, if_neg e]; exact (fd.2 j (by omega)).1
        · intro k hk
          show (if 5 * f ≤ 5 * j + k ∧ 5 * j + k < 5 * f + 5 then _ else _) = lZ (if j = f then _ else _)
          by_cases e : j = f
          · subst e
            rw [if_pos (show 5 * j ≤ 5 * j + k ∧ 5 * j + k < 5 * j + 5 by omega), if_pos rfl, show 5 * j + k - 5 * j = k by omega]; rfl
          · rw [if_neg (show ¬ (5 * f ≤ 5 * j + k ∧ 5 * j + k < 5 * f + 5) by omega), if_neg e]; exact (fd.2 j (by omega)).2 k hk
  · refine ⟨h, fun R => ?_, Ch.refl s, Or.inl ⟨Or.inl hs, rfl⟩⟩
    rw [kp_A s a hn h16 hN hb hp R]
    exact kp_B1 h16 hs R
end KEPT

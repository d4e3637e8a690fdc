/-! ===== THE CLASS: tellTo, keepSection ===== -/
section XTOLD
variable {d D : Nat} {h : qH} {R : qRes} {bs : List bdy} {sa : Nat → Nat} {l : List pt4} {w : Nat}
theorem kpL_split {cs : List pt4} {kp : Nat → Bool} {c : Nat} : ∀ {n : Nat}, c ≤ n → ∃ r, kpL cs kp n = kpL cs kp c ++ r
  | 0, h => ⟨[], by rw [show c = 0 by omega]; rfl⟩
  | n + 1, h => by
    rcases Nat.lt_or_ge n c with z | z
    · rw [show c = n + 1 by omega]; exact ⟨[], (List.append_nil _).symm⟩
    · obtain ⟨r, e⟩ := kpL_split (cs := cs) (kp := kp) z
      exact ⟨r ++ (if kp n then [(cs.getD n z4, 1)] else []), by rw [kpL, e, List.append_assoc]⟩
theorem kp_at {i : Nat} {lv : Nat → Int} {kp : Nat → Bool} {c : Nat} (hc : c < (cnr bs i).length) (hk : kp c = true) : (kpL (cnr bs i) kp c).length < (cutP bs i lv kp).length ∧ (cutP bs i lv kp).getD (kpL (cnr bs i) kp c).length f0 = ((cnr bs i).getD c z4, 1) ∧ (kpL (cnr bs i) kp (c + 1)).length = (kpL (cnr bs i) kp c).length + 1 := by
  obtain ⟨r, e⟩ := kpL_split (cs := cnr bs i) (kp := kp) (c := c + 1) (n := (cnr bs i).length) (by omega)
  have e1 : kpL (cnr bs i) kp (c + 1) = kpL (cnr bs i) kp c ++ [((cnr bs i).getD c z4, 1)] := by rw [kpL, if_pos hk]
  unfold cutP
  rw [e, e1]
  refine ⟨by rw [List.length_append, List.length_append, List.length_append]; show _ < _ + 1 + _ + _; omega, ?_, by rw [List.length_append]; rfl⟩
  rw [List.append_assoc, List.append_assoc]
  have := getD_appR (L := kpL (cnr bs i) kp c) (M := [((cnr bs i).getD c z4, (1 : Int))] ++ (r ++ edL bs i lv (cel bs i 1))) (k := 0) (z := f0)
  exact this.trans rfl
theorem kp_not {cs : List pt4} {kp : Nat → Bool} {c : Nat} (hk : ¬ kp c = true) : kpL cs kp (c + 1) = kpL cs kp c := by
  rw [kpL, if_neg hk]; exact List.append_nil _
/-- one part is told -/
theorem x_part {i q : Nat} {lv : Nat → Int} {ps : List frac} {S : Nat} {V : Nat → Int} (s : ShX h) (v : SeX h bs sa i lv w) (hD : D < 1000) (hq : q < ps.length) (t : HtX h D (tellAll D [] ((whL ps w S).take q))) (hV : ∀ k, k < 4 → hl h 29 k = lZ (V k) ∧ lB (V k)) (eV : ∀ k, k < 4 → k ≠ w → V k = vlW ps S q k) : ∃ h', ChX [20, 29] [(19, 1), (19, 2)] 0 h h' ∧ (badV w (vlW ps S q) → ∀ R, qMC (d + 2) 100 [.ref 27, .ref 19] h R ↔ R = (some (.int (iN 0)), h')) ∧ (¬ badV w (vlW ps S q) → (∀ R, qMC (d + 2) 100 [.ref 27, .ref 19] h R ↔ R = (some (.int (iN 1)), h')) ∧ HtX h' D (tellAll D [] ((whL ps w S).take (q + 1)))) := by
  obtain ⟨h', c, b1, b2⟩ := x_tellSpot (d := d) s v t hD hV
  have er : rwP w V = rwP w (vlW ps S q) := rwP_ext v.2.2.1 eV
  have eb : badV w V ↔ badV w (vlW ps S q) := by unfold badV; rw [er]
  refine ⟨h', c, fun z => b1 (eb.mpr z), fun z => ?_⟩
  obtain ⟨z1, z2⟩ := b2 (fun y => z (eb.mp y))
  refine ⟨z1, ?_⟩
  rw [tellAll_take (by rw [whL_len]; exact hq), whL_get hq, ← er]
  exact z2
set_option maxRecDepth 100000 in
set_option maxHeartbeats 64000000 in
theorem x_tellTo {i S : Nat} {lv : Nat → Int} {ps : List frac} (s : ShX h) (X : BsX h bs sa) (hi' : i < bs.length) (v : SeX h bs sa i lv w) (g : lvG bs i lv) (eps : ps = cutP bs i lv (kpW lv w)) (eS : S = lcF ps w (4 * ps.length)) (hS : S ≤ 71928000) (xS : xw h = lZ S) (eD : D = if w = 4 then dmn bs i else dmn bs i - 1) : ∃ h', ChX [20, 29] [(19, 1), (19, 2), (19, 3)] 0 h h' ∧ ((∃ q, q < ps.length ∧ badV w (vlW ps S q)) → ∀ R, qMC (d + 5) 99 [.ref 27, .ref 19] h R ↔ R = (some (.int (iN 0)), h')) ∧ ((∀ q, q < ps.length → ¬ badV w (vlW ps S q)) → (∀ R, qMC (d + 5) 99 [.ref 27, .ref 19] h R ↔ R = (some (.int (iN 1)), h')) ∧ HtX h' D (tellAll D [] (whL ps w S))) := by
  obtain ⟨p, q, w', e, B, Sd, P⟩ := X.at hi'
  have n16 := P.2.1.2
  have hD := P.1
  have w4 := v.2.2.1
  have fr27 : ∀ {A : List Nat} {J : List (Nat × Nat)} {g' : qH}, ChX A J 0 h g' → True := fun _ => trivial
  obtain ⟨b8, pb⟩ := P.2.2.2.2.1 1 (by decide)
  have frb : frB ps := by rw [eps]; exact cut_frB P g
  have D4 : D < 1000 := by rw [eD]; split <;> omega
  obtain ⟨A, eA⟩ : ∃ A : List Nat, A = [20, 29] := ⟨_, rfl⟩
  obtain ⟨J, eJ⟩ : ∃ J : List (Nat × Nat), J = [(19, 1), (19, 2), (19, 3)] := ⟨_, rfl⟩
  rw [← eA, ← eJ]
  have hand : ∀ g', ChX A J 0 h g' → ShX g' ∧ BsX g' bs sa ∧ SeX g' bs sa i lv w ∧ xw g' = lZ S := fun g' c => ⟨c.sh, X.ch s c (by rw [eA]; decide) (by rw [eA]; decide) (by rw [eJ]; decide), v.ch c s (by rw [eA]; decide) (by rw [eJ]; decide) (by rw [eJ]; decide), by unfold xw; rw [c.hf (by decide) (by rw [eJ]; decide)]; exact xS⟩
  have bd : ∀ {g'}, ChX A J 0 h g' → ∃ p q w' e, SoD g' (sa i) (dmn bs i) (scl bs i) (cnr bs i) (cel bs i) p q w' e B := fun {g'} c => by
    obtain ⟨p', q', w'', e', B', S', -⟩ := (hand g' c).2.1.at hi'
    have a97 := Sd.1.2
    have nA : ∀ x, 97 ≤ x → x ∉ A := fun x hx z => by rw [eA] at z; simp at z; omega
    have o := c.at (b := sa i) (nA _ a97) (no_XO a97) Sd.1.1.1.2
    have f4 : hf g' (sa i) 4 = .ref q := by rw [hf_at o]; exact Sd.2.1.2.2.2.2.1
    have eq' : q' = q := by
      have := S'.2.1.2.2.2.2.1
      rw [f4] at this
      injection this with this
      exact this.symm
    subst eq'
    obtain ⟨a1, a2, a3, ⟨q97, kq, hq⟩, a5⟩ := S'
    have oq := c.at (b := q') (nA _ q97) (no_XO q97) Sd.2.2.2.1.2.1.1.2.2
    refine ⟨p', q', w'', e', a1, a2, a3, ⟨q97, kq, fun K hK => ?_⟩, a5⟩
    obtain ⟨r1, r2⟩ := hq K hK
    have r3 := (Sd.2.2.2.1.2.2 K hK).1
    rw [← hr_at oq, r1] at r3
    have : B' K = B K := Option.some.inj r3
    rw [← this]
    exact ⟨r1, r2⟩
  have S0 : 0 < S := by rw [eS]; exact lcF_pos frb _ (Nat.le_refl _)
  -- a spot is written, coordinate by coordinate: V
  obtain ⟨Gw, eG⟩ : ∃ Gw : qH → (Nat → Int) → Nat → qH, Gw = fun g' V a => sL g' 29 (fun x => if x < a then lZ (V x) else hl g' 29 x) := ⟨_, rfl⟩
  have cG : ∀ g' V a, ChX A J 0 h g' → ChX A J 0 h (Gw g' V a) ∧ ChX [29] [] 0 g' (Gw g' V a) := fun g' V a c => by
    have k29 := kX_29 c.sh
    rw [eG]
    exact ⟨c.trans0 (ChX.rowL c.sh k29 (by rw [eA]; decide) (by decide)), ChX.rowL c.sh k29 (by decide) (by decide)⟩
  have G0 : ∀ g' V, ChX A J 0 h g' → g' = Gw g' V 0 := fun g' V c => by
    have k29 := kX_29 c.sh
    rw [eG]
    have : (fun x => if x < 0 then lZ (V x) else hl g' 29 x) = hl g' 29 := by funext x; rw [if_neg (Nat.not_lt_zero x)]
    show g' = sL g' 29 (fun x => if x < 0 then lZ (V x) else hl g' 29 x)
    rw [this, sL_id k29]
  have wG : ∀ g' V a, ChX A J 0 h g' → a < 4 → qlast (Gw g' V a) 29 (iN a) (lZ (V a)) = some (Gw g' V (a + 1)) := fun g' V a c ha => by
    rw [wX_29 (cG g' V a c).1.sh ha, eG]
    show some (sL (sL g' 29 _) 29 (vp_updL (hl (sL g' 29 _) 29) a _)) = some (sL g' 29 _)
    rw [sL_sL, hl_sL, if_pos rfl]
    congr 2
    funext x
    show (if x = a then lZ (V a) else (if x < a then lZ (V x) else hl g' 29 x)) = (if x < a + 1 then lZ (V x) else hl g' 29 x)
    by_cases y : x = a
    · rw [if_pos y, if_pos (by omega), y]
    · rw [if_neg y]
      by_cases y2 : x < a
      · rw [if_pos y2, if_pos (by omega)]
      · rw [if_neg y2, if_neg (by omega)]
  have rG : ∀ g' V, ∀ k, k < 4 → hl (Gw g' V 4) 29 k = lZ (V k) := fun g' V k hk => by
    rw [eG]
    show hl (sL g' 29 _) 29 k = _
    rw [hl_sL, if_pos rfl, if_pos hk]
  -- after a place beyond: the end
  have stop2 : ∀ (g' : qH) (t : Nat) (x5 : Option Value), ChX A J 0 h g' → t ≤ (cel bs i 1).length → ∀ R, qEv (d + 4) 3 qk_99 121 [some (.ref 27), some (.ref 19), some (.int (iN 0)), some (.ref (B 1)), some (.int (iN t)), x5] [] g' R ↔ R = (some (.int (iN 0)), g') := fun g' t x5 c ht R => by
    have sg := c.sh
    obtain ⟨p2, q2, w2, e2, S2⟩ := bd c
    have l1 := S2.cl (K := 1) (by decide)
    rw [e99_121]
    by_cases z : (cel bs i 1).length ≤ t
    · simp (disch := first | assumption | omega) only [e99_0, e99_1, e99_2, e99_5, e99_6, e99_9, e99_10, e99_13, e99_16, e99_19, e99_20, e99_23, e99_26, e99_27, e99_28, e99_31, e99_32, e99_33, e99_34, e99_36, e99_37, e99_40, e99_43, e99_46, e99_47, e99_50, e99_51, e99_52, e99_55, e99_58, e99_59, e99_63, e99_64, e99_67, e99_68, e99_71, e99_73, e99_74, e99_77, e99_78, e99_80, e99_83, e99_84, e99_85, e99_88, e99_89, e99_90, e99_93, e99_96, e99_97, e99_98, e99_101, e99_102, e99_105, e99_108, e99_109, e99_112, e99_115, e99_116, e99_117, e99_118, e99_119, e99_123, e99_124, e99_125, e99_128, e99_129, e99_132, e99_133, e99_134, e99_136, e99_137, e99_140, e99_143, e99_144, e99_148, e99_149, e99_152, e99_153, e99_156, e99_158, e99_159, e99_160, e99_162, e99_163, e99_165, e99_168, e99_169, e99_172, e99_173, e99_174, e99_175, e99_177, e99_178, e99_181, e99_184, e99_185, e99_188, e99_191, e99_192, e99_193, e99_196, e99_197, e99_200, e99_203, e99_204, m99, ↓reduceIte, qg_0, qg_1, qg_2, qg_3, qg_4, qg_5, qg_6, qg_7, qg_8, qg_9, qg_10, qg_11, qg_12, qg_13, not_true_eq_false, not_false_eq_true, Nat.reduceBEq, Bool.false_eq_true, ex1, ex3, ex4, exF, qfit_i, qfit_l, qfit_r, qfit_n, qfit_b0, qfit_b1, qcat_i, qcat_r, qcat_n, qcat_l, qroom_0, qroom_c, List.map_cons, List.map_nil, List.sum_cons, List.sum_nil, Nat.reduceAdd, Nat.reduceMul, Nat.reduceLT, Nat.reduceLeDiff, Nat.reduceEqDiff, Nat.reduceSub, decide_true, true_and, and_true, and_self, if_true, if_false, Option.toList_some, Option.toList_none, List.cons_append, List.nil_append, qsL, qlong, List.length_cons, List.length_nil, iN_L, exI, iN_add, iN_mul, iN_le, iN_lt, iN_eq, Nat.le_refl, qfN0, qfN1, uX_16, vX_16, uX_19, vX_19, uX_27, vX_27, uX_30, vX_30, uX_39, vX_39, uX_41, vX_41, uX_43, vX_43, uX_46, vX_46, uX_50, vX_50, uX_53, vX_53, l1, z]
    · simp (disch := first | assumption | omega) only [e99_0, e99_1, e99_2, e99_5, e99_6, e99_9, e99_10, e99_13, e99_16, e99_19, e99_20, e99_23, e99_26, e99_27, e99_28, e99_31, e99_32, e99_33, e99_34, e99_36, e99_37, e99_40, e99_43, e99_46, e99_47, e99_50, e99_51, e99_52, e99_55, e99_58, e99_59, e99_63, e99_64, e99_67, e99_68, e99_71, e99_73, e99_74, e99_77, e99_78, e99_80, e99_83, e99_84, e99_85, e99_88, e99_89, e99_90, e99_93, e99_96, e99_97, e99_98, e99_101, e99_102, e99_105, e99_108, e99_109, e99_112, e99_115, e99_116, e99_117, e99_118, e99_119, e99_123, e99_124, e99_125, e99_128, e99_129, e99_132, e99_133, e99_134, e99_136, e99_137, e99_140, e99_143, e99_144, e99_148, e99_149, e99_152, e99_153, e99_156, e99_158, e99_159, e99_160, e99_162, e99_163, e99_165, e99_168, e99_169, e99_172, e99_173, e99_174, e99_175, e99_177, e99_178, e99_181, e99_184, e99_185, e99_188, e99_191, e99_192, e99_193, e99_196, e99_197, e99_200, e99_203, e99_204, m99, ↓reduceIte, qg_0, qg_1, qg_2, qg_3, qg_4, qg_5, qg_6, qg_7, qg_8, qg_9, qg_10, qg_11, qg_12, qg_13, not_true_eq_false, not_false_eq_true, Nat.reduceBEq, Bool.false_eq_true, ex1, ex3, ex4, exF, qfit_i, qfit_l, qfit_r, qfit_n, qfit_b0, qfit_b1, qcat_i, qcat_r, qcat_n, qcat_l, qroom_0, qroom_c, List.map_cons, List.map_nil, List.sum_cons, List.sum_nil, Nat.reduceAdd, Nat.reduceMul, Nat.reduceLT, Nat.reduceLeDiff, Nat.reduceEqDiff, Nat.reduceSub, decide_true, true_and, and_true, and_self, if_true, if_false, Option.toList_some, Option.toList_none, List.cons_append, List.nil_append, qsL, qlong, List.length_cons, List.length_nil, iN_L, exI, iN_add, iN_mul, iN_le, iN_lt, iN_eq, Nat.le_refl, qfN0, qfN1, uX_16, vX_16, uX_19, vX_19, uX_27, vX_27, uX_30, vX_30, uX_39, vX_39, uX_41, vX_41, uX_43, vX_43, uX_46, vX_46, uX_50, vX_50, uX_53, vX_53, l1, z]
  have to2 : ∀ (g' : qH) (f c : Nat) (x4 x5 : Option Value), ChX A J 0 h g' → f ≤ 1 → ∀ R, qEv (d + 4) 3 qk_99 108 [some (.ref 27), some (.ref 19), some (.int (iN f)), some (.int (iN c)), x4, x5] [] g' R ↔ qEv (d + 4) 3 qk_99 121 [some (.ref 27), some (.ref 19), some (.int (iN f)), some (.ref (B 1)), some (.int (iN 0)), x5] [] g' R := fun g' f c x4 x5 cc hf R => by
    obtain ⟨sg, Xg, vg, xg⟩ := hand g' cc
    obtain ⟨p2, q2, w2, e2, S2⟩ := bd cc
    obtain ⟨⟨u16, ult, uF⟩, g0, g1, g2, g3, g4, g5, g6⟩ := S2.obj
    have fr := vg.from sg
    have c1 := S2.ce (K := 1) (by decide)
    rw [e99_108]
    simp (disch := first | assumption | omega) only [e99_0, e99_1, e99_2, e99_5, e99_6, e99_9, e99_10, e99_13, e99_16, e99_19, e99_20, e99_23, e99_26, e99_27, e99_28, e99_31, e99_32, e99_33, e99_34, e99_36, e99_37, e99_40, e99_43, e99_46, e99_47, e99_50, e99_51, e99_52, e99_55, e99_58, e99_59, e99_63, e99_64, e99_67, e99_68, e99_71, e99_73, e99_74, e99_77, e99_78, e99_80, e99_83, e99_84, e99_85, e99_88, e99_89, e99_90, e99_93, e99_96, e99_97, e99_98, e99_101, e99_102, e99_105, e99_109, e99_112, e99_115, e99_116, e99_117, e99_118, e99_119, e99_123, e99_124, e99_125, e99_128, e99_129, e99_132, e99_133, e99_134, e99_136, e99_137, e99_140, e99_143, e99_144, e99_148, e99_149, e99_152, e99_153, e99_156, e99_158, e99_159, e99_160, e99_162, e99_163, e99_165, e99_168, e99_169, e99_172, e99_173, e99_174, e99_175, e99_177, e99_178, e99_181, e99_184, e99_185, e99_188, e99_191, e99_192, e99_193, e99_196, e99_197, e99_200, e99_203, e99_204, m99, ↓reduceIte, qg_0, qg_1, qg_2, qg_3, qg_4, qg_5, qg_6, qg_7, qg_8, qg_9, qg_10, qg_11, qg_12, qg_13, not_true_eq_false, not_false_eq_true, Nat.reduceBEq, Bool.false_eq_true, ex1, ex3, ex4, exF, qfit_i, qfit_l, qfit_r, qfit_n, qfit_b0, qfit_b1, qcat_i, qcat_r, qcat_n, qcat_l, qroom_0, qroom_c, List.map_cons, List.map_nil, List.sum_cons, List.sum_nil, Nat.reduceAdd, Nat.reduceMul, Nat.reduceLT, Nat.reduceLeDiff, Nat.reduceEqDiff, Nat.reduceSub, decide_true, true_and, and_true, and_self, if_true, if_false, Option.toList_some, Option.toList_none, List.cons_append, List.nil_append, qsL, qlong, List.length_cons, List.length_nil, iN_L, exI, iN_add, iN_mul, iN_le, iN_lt, iN_eq, Nat.le_refl, qfN0, qfN1, uX_16, vX_16, uX_19, vX_19, uX_27, vX_27, uX_30, vX_30, uX_39, vX_39, uX_41, vX_41, uX_43, vX_43, uX_46, vX_46, uX_50, vX_50, uX_53, vX_53, uX_27, vX_27, fr, u16, ult, uF, g0, g1, g2, g3, g4, g5, g6, c1, rf_some]
  have stop1 : ∀ (g' : qH) (c : Nat) (x4 x5 : Option Value), ChX A J 0 h g' → c ≤ (cnr bs i).length → ∀ R, qEv (d + 4) 3 qk_99 35 [some (.ref 27), some (.ref 19), some (.int (iN 0)), some (.int (iN c)), x4, x5] [] g' R ↔ R = (some (.int (iN 0)), g') := fun g' c x4 x5 cc hc R => by
    obtain ⟨sg, Xg, vg, xg⟩ := hand g' cc
    obtain ⟨p2, q2, w2, e2, S2⟩ := bd cc
    obtain ⟨⟨u16, ult, uF⟩, g0, g1, g2, g3, g4, g5, g6⟩ := S2.obj
    have fr := vg.from sg
    rw [← stop2 g' 0 x5 cc (Nat.zero_le _) R, ← to2 g' 0 c x4 x5 cc (by decide) R, e99_35]
    by_cases z : (cnr bs i).length ≤ c
    · simp (disch := first | assumption | omega) only [e99_0, e99_1, e99_2, e99_5, e99_6, e99_9, e99_10, e99_13, e99_16, e99_19, e99_20, e99_23, e99_26, e99_27, e99_28, e99_31, e99_32, e99_33, e99_34, e99_36, e99_37, e99_40, e99_43, e99_46, e99_47, e99_50, e99_51, e99_52, e99_55, e99_58, e99_59, e99_63, e99_64, e99_67, e99_68, e99_71, e99_73, e99_74, e99_77, e99_78, e99_80, e99_83, e99_84, e99_85, e99_88, e99_89, e99_90, e99_93, e99_96, e99_97, e99_98, e99_101, e99_102, e99_105, e99_109, e99_112, e99_115, e99_116, e99_117, e99_118, e99_119, e99_123, e99_124, e99_125, e99_128, e99_129, e99_132, e99_133, e99_134, e99_136, e99_137, e99_140, e99_143, e99_144, e99_148, e99_149, e99_152, e99_153, e99_156, e99_158, e99_159, e99_160, e99_162, e99_163, e99_165, e99_168, e99_169, e99_172, e99_173, e99_174, e99_175, e99_177, e99_178, e99_181, e99_184, e99_185, e99_188, e99_191, e99_192, e99_193, e99_196, e99_197, e99_200, e99_203, e99_204, m99, ↓reduceIte, qg_0, qg_1, qg_2, qg_3, qg_4, qg_5, qg_6, qg_7, qg_8, qg_9, qg_10, qg_11, qg_12, qg_13, not_true_eq_false, not_false_eq_true, Nat.reduceBEq, Bool.false_eq_true, ex1, ex3, ex4, exF, qfit_i, qfit_l, qfit_r, qfit_n, qfit_b0, qfit_b1, qcat_i, qcat_r, qcat_n, qcat_l, qroom_0, qroom_c, List.map_cons, List.map_nil, List.sum_cons, List.sum_nil, Nat.reduceAdd, Nat.reduceMul, Nat.reduceLT, Nat.reduceLeDiff, Nat.reduceEqDiff, Nat.reduceSub, decide_true, true_and, and_true, and_self, if_true, if_false, Option.toList_some, Option.toList_none, List.cons_append, List.nil_append, qsL, qlong, List.length_cons, List.length_nil, iN_L, exI, iN_add, iN_mul, iN_le, iN_lt, iN_eq, Nat.le_refl, qfN0, qfN1, uX_16, vX_16, uX_19, vX_19, uX_27, vX_27, uX_30, vX_30, uX_39, vX_39, uX_41, vX_41, uX_43, vX_43, uX_46, vX_46, uX_50, vX_50, uX_53, vX_53, uX_27, vX_27, fr, u16, ult, uF, g0, g1, g2, g3, g4, g5, g6, z]
    · simp (disch := first | assumption | omega) only [e99_0, e99_1, e99_2, e99_5, e99_6, e99_9, e99_10, e99_13, e99_16, e99_19, e99_20, e99_23, e99_26, e99_27, e99_28, e99_31, e99_32, e99_33, e99_34, e99_36, e99_37, e99_40, e99_43, e99_46, e99_47, e99_50, e99_51, e99_52, e99_55, e99_58, e99_59, e99_63, e99_64, e99_67, e99_68, e99_71, e99_73, e99_74, e99_77, e99_78, e99_80, e99_83, e99_84, e99_85, e99_88, e99_89, e99_90, e99_93, e99_96, e99_97, e99_98, e99_101, e99_102, e99_105, e99_109, e99_112, e99_115, e99_116, e99_117, e99_118, e99_119, e99_123, e99_124, e99_125, e99_128, e99_129, e99_132, e99_133, e99_134, e99_136, e99_137, e99_140, e99_143, e99_144, e99_148, e99_149, e99_152, e99_153, e99_156, e99_158, e99_159, e99_160, e99_162, e99_163, e99_165, e99_168, e99_169, e99_172, e99_173, e99_174, e99_175, e99_177, e99_178, e99_181, e99_184, e99_185, e99_188, e99_191, e99_192, e99_193, e99_196, e99_197, e99_200, e99_203, e99_204, m99, ↓reduceIte, qg_0, qg_1, qg_2, qg_3, qg_4, qg_5, qg_6, qg_7, qg_8, qg_9, qg_10, qg_11, qg_12, qg_13, not_true_eq_false, not_false_eq_true, Nat.reduceBEq, Bool.false_eq_true, ex1, ex3, ex4, exF, qfit_i, qfit_l, qfit_r, qfit_n, qfit_b0, qfit_b1, qcat_i, qcat_r, qcat_n, qcat_l, qroom_0, qroom_c, List.map_cons, List.map_nil, List.sum_cons, List.sum_nil, Nat.reduceAdd, Nat.reduceMul, Nat.reduceLT, Nat.reduceLeDiff, Nat.reduceEqDiff, Nat.reduceSub, decide_true, true_and, and_true, and_self, if_true, if_false, Option.toList_some, Option.toList_none, List.cons_append, List.nil_append, qsL, qlong, List.length_cons, List.length_nil, iN_L, exI, iN_add, iN_mul, iN_le, iN_lt, iN_eq, Nat.le_refl, qfN0, qfN1, uX_16, vX_16, uX_19, vX_19, uX_27, vX_27, uX_30, vX_30, uX_39, vX_39, uX_41, vX_41, uX_43, vX_43, uX_46, vX_46, uX_50, vX_50, uX_53, vX_53, uX_27, vX_27, fr, u16, ult, uF, g0, g1, g2, g3, g4, g5, g6, z]
  -- the edges
  have edges : ∀ (m t : Nat) (g' : qH) (x5 : Option Value), t + m = (cel bs i 1).length → ChX A J 0 h g' → HtX g' D (tellAll D [] ((whL ps w S).take ((kpL (cnr bs i) (kpW lv w) (cnr bs i).length).length + (edL bs i lv ((cel bs i 1).take t)).length))) → ∃ h', ChX A J 0 h h' ∧ ((∃ q, (kpL (cnr bs i) (kpW lv w) (cnr bs i).length).length + (edL bs i lv ((cel bs i 1).take t)).length ≤ q ∧ q < ps.length ∧ badV w (vlW ps S q)) → ∀ R, qEv (d + 4) 3 qk_99 121 [some (.ref 27), some (.ref 19), some (.int (iN 1)), some (.ref (B 1)), some (.int (iN t)), x5] [] g' R ↔ R = (some (.int (iN 0)), h')) ∧ ((∀ q, (kpL (cnr bs i) (kpW lv w) (cnr bs i).length).length + (edL bs i lv ((cel bs i 1).take t)).length ≤ q → q < ps.length → ¬ badV w (vlW ps S q)) → (∀ R, qEv (d + 4) 3 qk_99 121 [some (.ref 27), some (.ref 19), some (.int (iN 1)), some (.ref (B 1)), some (.int (iN t)), x5] [] g' R ↔ R = (some (.int (iN 1)), h')) ∧ HtX h' D (tellAll D [] (whL ps w S))) := by
    intro m
    induction m with
    | zero =>
      intro t g' x5 ht cc tt
      have et : t = (cel bs i 1).length := by omega
      subst et
      have lq : (kpL (cnr bs i) (kpW lv w) (cnr bs i).length).length + (edL bs i lv ((cel bs i 1).take (cel bs i 1).length)).length = ps.length := by
        rw [List.take_length, eps]; unfold cutP; rw [List.length_append]
      rw [lq] at tt ⊢
      rw [List.take_of_length_le (by rw [whL_len]; exact Nat.le_refl _)] at tt
      obtain ⟨p2, q2, w2, e2, S2⟩ := bd cc
      have l1 := S2.cl (K := 1) (by decide)
      have sg := cc.sh
      refine ⟨g', cc, fun ⟨q, h1, h2, _⟩ => by omega, fun _ => ⟨fun R => ?_, tt⟩⟩
      rw [e99_121]
      simp (disch := first | assumption | omega) only [e99_0, e99_1, e99_2, e99_5, e99_6, e99_9, e99_10, e99_13, e99_16, e99_19, e99_20, e99_23, e99_26, e99_27, e99_28, e99_31, e99_32, e99_33, e99_34, e99_36, e99_37, e99_40, e99_43, e99_46, e99_47, e99_50, e99_51, e99_52, e99_55, e99_58, e99_59, e99_63, e99_64, e99_67, e99_68, e99_71, e99_73, e99_74, e99_77, e99_78, e99_80, e99_83, e99_84, e99_85, e99_88, e99_89, e99_90, e99_93, e99_96, e99_97, e99_98, e99_101, e99_102, e99_105, e99_108, e99_109, e99_112, e99_115, e99_116, e99_117, e99_118, e99_119, e99_123, e99_124, e99_125, e99_128, e99_129, e99_132, e99_133, e99_134, e99_136, e99_137, e99_140, e99_143, e99_144, e99_148, e99_149, e99_152, e99_153, e99_156, e99_158, e99_159, e99_160, e99_162, e99_163, e99_165, e99_168, e99_169, e99_172, e99_173, e99_174, e99_175, e99_177, e99_178, e99_181, e99_184, e99_185, e99_188, e99_191, e99_192, e99_193, e99_196, e99_197, e99_200, e99_203, e99_204, m99, ↓reduceIte, qg_0, qg_1, qg_2, qg_3, qg_4, qg_5, qg_6, qg_7, qg_8, qg_9, qg_10, qg_11, qg_12, qg_13, not_true_eq_false, not_false_eq_true, Nat.reduceBEq, Bool.false_eq_true, ex1, ex3, ex4, exF, qfit_i, qfit_l, qfit_r, qfit_n, qfit_b0, qfit_b1, qcat_i, qcat_r, qcat_n, qcat_l, qroom_0, qroom_c, List.map_cons, List.map_nil, List.sum_cons, List.sum_nil, Nat.reduceAdd, Nat.reduceMul, Nat.reduceLT, Nat.reduceLeDiff, Nat.reduceEqDiff, Nat.reduceSub, decide_true, true_and, and_true, and_self, if_true, if_false, Option.toList_some, Option.toList_none, List.cons_append, List.nil_append, qsL, qlong, List.length_cons, List.length_nil, iN_L, exI, iN_add, iN_mul, iN_le, iN_lt, iN_eq, Nat.le_refl, qfN0, qfN1, uX_16, vX_16, uX_19, vX_19, uX_27, vX_27, uX_30, vX_30, uX_39, vX_39, uX_41, vX_41, uX_43, vX_43, uX_46, vX_46, uX_50, vX_50, uX_53, vX_53, l1]
    | succ m ih =>
      intro t g' x5 ht cc tt
      have ht' : t < (cel bs i 1).length := by omega
      obtain ⟨sg, Xg, vg, xg⟩ := hand g' cc
      obtain ⟨p2, q2, w2, e2, S2⟩ := bd cc
      obtain ⟨⟨u16, ult, uF⟩, g0, g1, g2, g3, g4, g5, g6⟩ := S2.obj
      have l1 := S2.cl (K := 1) (by decide)
      obtain ⟨a, c, hac, hc, ey⟩ := P.edge ht'
      have ry := S2.ck (K := 1) (by decide) ht'
      rw [ey] at ry
      have ic : ∀ R, qMC (d + 4) 92 [.ref 27, .int (iN (2 ^ a ||| 2 ^ c))] g' R ↔ R = (some (.int (bB (tB (crs lv (2 ^ a ||| 2 ^ c))))), g') := fun R => x_isCrossed (d := d + 1) sg vg n16 hac hc
      obtain ⟨Qt, eQt⟩ : ∃ Qt, Qt = (kpL (cnr bs i) (kpW lv w) (cnr bs i).length).length + (edL bs i lv ((cel bs i 1).take t)).length := ⟨_, rfl⟩
      rw [← eQt] at tt ⊢
      by_cases cr : crs lv (2 ^ a ||| 2 ^ c)
      · rw [tB_t cr, bN_t] at ic
        obtain ⟨q1, q2', q3'⟩ := cut_at (kp := kpW lv w) ht' hac (show c < 16 by omega) ey cr
        rw [← eps, ← eQt] at q1 q2'
        have eQs : (kpL (cnr bs i) (kpW lv w) (cnr bs i).length).length + (edL bs i lv ((cel bs i 1).take (t + 1))).length = Qt + 1 := by rw [q3', eQt]; omega
        have ba := (v.2.2.2 a (by omega)).2
        have bc := (v.2.2.2 c hc).2
        obtain ⟨L, eL⟩ : ∃ L : Nat, L = (lv c - lv a).natAbs := ⟨_, rfl⟩
        have efL : fL ps Qt = (L : Int) := by unfold fL; rw [q2', eL]; rfl
        have L0' : 0 < L := by have := (frb Qt q1).1; omega
        have Lb : L ≤ 72000 := by rw [eL]; exact g a c (by omega) hc
        obtain ⟨V, eV⟩ : ∃ V : Nat → Int, V = fun k => (fU ps Qt k * (S : Int)).tdiv (L : Int) := ⟨_, rfl⟩
        have Ub : ∀ k, k < 4 → -100000000 ≤ fU ps Qt k ∧ fU ps Qt k ≤ 100000000 := fun k hk => by
          have xa := P.2.2.1 a (by omega) k hk
          have xc := P.2.2.1 c hc k hk
          unfold fU
          rw [q2', btw_co _ _ _ _ k hk]
          have m1 := mul_b (x := lP (cnr bs i) a k) (y := lv c) (A := 999) (B := 50000) (by omega) (by omega)
          have m2 := mul_b (x := lP (cnr bs i) c k) (y := lv a) (A := 999) (B := 50000) (by omega) (by omega)
          have e1 : co ((cnr bs i).getD a z4) k = lP (cnr bs i) a k := rfl
          have e2 : co ((cnr bs i).getD c z4) k = lP (cnr bs i) c k := rfl
          rw [e1, e2]
          split <;> omega
        have Um : ∀ k, k < 4 → -(100000000 * 71928000) ≤ fU ps Qt k * (S : Int) ∧ fU ps Qt k * (S : Int) ≤ 100000000 * 71928000 := fun k hk => mul_b (Ub k hk) (by omega)
        have Vb : ∀ k, k < 4 → lB (V k) := fun k hk => by
          have h1 := Um k hk
          have h2 := Int.natAbs_tdiv_le_natAbs (fU ps Qt k * (S : Int)) (L : Int)
          rw [eV]
          unfold lB
          show _ ≤ (fU ps Qt k * (S : Int)).tdiv (L : Int) ∧ (fU ps Qt k * (S : Int)).tdiv (L : Int) ≤ _
          omega
        have Veq : ∀ k, k < 4 → k ≠ w → V k = vlW ps S Qt k := fun k hk hne => by
          rw [← vlW_div (by omega) (by rw [eS]; exact dnm_dvd hk hne (by omega)), efL, eV]
        -- the four coordinates
        have r1 : ∀ R, qEv (d + 4) 3 qk_99 121 [some (.ref 27), some (.ref 19), some (.int (iN 1)), some (.ref (B 1)), some (.int (iN t)), x5] [] g' R ↔ qEv (d + 4) 3 qk_99 191 [some (.ref 27), some (.ref 19), some (.int (iN 1)), some (.ref (B 1)), some (.int (iN t)), some (.int (iN 4))] [] (Gw g' V 4) R := fun R => by
          have a0 : qEv (d + 4) 3 qk_99 121 [some (.ref 27), some (.ref 19), some (.int (iN 1)), some (.ref (B 1)), some (.int (iN t)), x5] [] g' R ↔ qEv (d + 4) 3 qk_99 146 [some (.ref 27), some (.ref 19), some (.int (iN 1)), some (.ref (B 1)), some (.int (iN t)), some (.int (iN 0))] [] (Gw g' V 0) R := by
            rw [← G0 g' V cc, e99_121]
            simp (disch := first | assumption | omega) only [e99_0, e99_1, e99_2, e99_5, e99_6, e99_9, e99_10, e99_13, e99_16, e99_19, e99_20, e99_23, e99_26, e99_27, e99_28, e99_31, e99_32, e99_33, e99_34, e99_36, e99_37, e99_40, e99_43, e99_46, e99_47, e99_50, e99_51, e99_52, e99_55, e99_58, e99_59, e99_63, e99_64, e99_67, e99_68, e99_71, e99_73, e99_74, e99_77, e99_78, e99_80, e99_83, e99_84, e99_85, e99_88, e99_89, e99_90, e99_93, e99_96, e99_97, e99_98, e99_101, e99_102, e99_105, e99_108, e99_109, e99_112, e99_115, e99_116, e99_117, e99_118, e99_119, e99_123, e99_124, e99_125, e99_128, e99_129, e99_132, e99_133, e99_134, e99_136, e99_137, e99_140, e99_143, e99_144, e99_148, e99_149, e99_152, e99_153, e99_156, e99_158, e99_159, e99_160, e99_162, e99_163, e99_165, e99_168, e99_169, e99_172, e99_173, e99_174, e99_175, e99_177, e99_178, e99_181, e99_184, e99_185, e99_188, e99_191, e99_192, e99_193, e99_196, e99_197, e99_200, e99_203, e99_204, m99, ↓reduceIte, qg_0, qg_1, qg_2, qg_3, qg_4, qg_5, qg_6, qg_7, qg_8, qg_9, qg_10, qg_11, qg_12, qg_13, not_true_eq_false, not_false_eq_true, Nat.reduceBEq, Bool.false_eq_true, ex1, ex3, ex4, exF, qfit_i, qfit_l, qfit_r, qfit_n, qfit_b0, qfit_b1, qcat_i, qcat_r, qcat_n, qcat_l, qroom_0, qroom_c, List.map_cons, List.map_nil, List.sum_cons, List.sum_nil, Nat.reduceAdd, Nat.reduceMul, Nat.reduceLT, Nat.reduceLeDiff, Nat.reduceEqDiff, Nat.reduceSub, decide_true, true_and, and_true, and_self, if_true, if_false, Option.toList_some, Option.toList_none, List.cons_append, List.nil_append, qsL, qlong, List.length_cons, List.length_nil, iN_L, exI, iN_add, iN_mul, iN_le, iN_lt, iN_eq, Nat.le_refl, qfN0, qfN1, uX_16, vX_16, uX_19, vX_19, uX_27, vX_27, uX_30, vX_30, uX_39, vX_39, uX_41, vX_41, uX_43, vX_43, uX_46, vX_46, uX_50, vX_50, uX_53, vX_53, l1, show ¬ (cel bs i 1).length ≤ t by omega, ry, ic]
          rw [a0]
          refine Iff.trans (loop_up (n := 4) (L := fun k => [some (.ref 27), some (.ref 19), some (.int (iN 1)), some (.ref (B 1)), some (.int (iN t)), some (.int (iN k))]) (H := fun k => Gw g' V k) ?_) ?_
          · intro k hk
            try dsimp only
            obtain ⟨ck, ck'⟩ := cG g' V k cc
            obtain ⟨sk, Xk, vk, xk⟩ := hand _ ck
            obtain ⟨p3, q3, w3, e3, S3⟩ := bd ck
            have ry3 := S3.ck (K := 1) (by decide) ht'
            rw [ey] at ry3
            have crx : ∀ R, qMC (d + 4) 95 [.ref 27, .int (iN (2 ^ a ||| 2 ^ c)), .int (iN k)] (Gw g' V k) R ↔ R = (some (.long (lZ (fU ps Qt k))), Gw g' V k) := fun R => by
              have := x_crossing (d := d + 1) (k := k) (R := R) sk Xk hi' vk hac hc hk cr
              unfold fU
              rw [q2']; exact this
            have sp : ∀ R, qMC (d + 4) 94 [.ref 27, .int (iN (2 ^ a ||| 2 ^ c))] (Gw g' V k) R ↔ R = (some (.long (lZ (L : Int))), Gw g' V k) := fun R => by rw [eL]; exact x_span (d := d + 1) sk vk n16 hac hc
            have mm := Um k hk
            have dvz : ∀ R, qMC (d + 4) 97 [.long (lZ (fU ps Qt k * (S : Int))), .long (lZ ((L : Int)))] (Gw g' V k) R ↔ R = (some (.long (lZ (V k))), Gw g' V k) := fun R => by
              rw [eV]
              exact x_dividedZ (d := d + 3) (by unfold lB; omega) (by unfold lB; omega) (by omega)
            have wk := wG g' V k cc hk
            rw [e99_146]
            simp (disch := first | assumption | omega) only [e99_0, e99_1, e99_2, e99_5, e99_6, e99_9, e99_10, e99_13, e99_16, e99_19, e99_20, e99_23, e99_26, e99_27, e99_28, e99_31, e99_32, e99_33, e99_34, e99_36, e99_37, e99_40, e99_43, e99_46, e99_47, e99_50, e99_51, e99_52, e99_55, e99_58, e99_59, e99_63, e99_64, e99_67, e99_68, e99_71, e99_73, e99_74, e99_77, e99_78, e99_80, e99_83, e99_84, e99_85, e99_88, e99_89, e99_90, e99_93, e99_96, e99_97, e99_98, e99_101, e99_102, e99_105, e99_108, e99_109, e99_112, e99_115, e99_116, e99_117, e99_118, e99_119, e99_123, e99_124, e99_125, e99_128, e99_129, e99_132, e99_133, e99_134, e99_136, e99_137, e99_140, e99_143, e99_144, e99_148, e99_149, e99_152, e99_153, e99_156, e99_158, e99_159, e99_160, e99_162, e99_163, e99_165, e99_168, e99_169, e99_172, e99_173, e99_174, e99_175, e99_177, e99_178, e99_181, e99_184, e99_185, e99_188, e99_192, e99_193, e99_196, e99_197, e99_200, e99_203, e99_204, m99, ↓reduceIte, qg_0, qg_1, qg_2, qg_3, qg_4, qg_5, qg_6, qg_7, qg_8, qg_9, qg_10, qg_11, qg_12, qg_13, not_true_eq_false, not_false_eq_true, Nat.reduceBEq, Bool.false_eq_true, ex1, ex3, ex4, exF, qfit_i, qfit_l, qfit_r, qfit_n, qfit_b0, qfit_b1, qcat_i, qcat_r, qcat_n, qcat_l, qroom_0, qroom_c, List.map_cons, List.map_nil, List.sum_cons, List.sum_nil, Nat.reduceAdd, Nat.reduceMul, Nat.reduceLT, Nat.reduceLeDiff, Nat.reduceEqDiff, Nat.reduceSub, decide_true, true_and, and_true, and_self, if_true, if_false, Option.toList_some, Option.toList_none, List.cons_append, List.nil_append, qsL, qlong, List.length_cons, List.length_nil, iN_L, exI, iN_add, iN_mul, iN_le, iN_lt, iN_eq, Nat.le_refl, qfN0, qfN1, uX_16, vX_16, uX_19, vX_19, uX_27, vX_27, uX_30, vX_30, uX_39, vX_39, uX_41, vX_41, uX_43, vX_43, uX_46, vX_46, uX_50, vX_50, uX_53, vX_53, uX_27, vX_27, show ¬ 4 ≤ k by omega, gX_27_4, ry3, crx, gX_27_3, xk, lZ_mul, sp, dvz, wk]
          · try dsimp only
            have s4 := (cG g' V 4 cc).1.sh
            rw [e99_146]
            simp (disch := first | assumption | omega) only [e99_0, e99_1, e99_2, e99_5, e99_6, e99_9, e99_10, e99_13, e99_16, e99_19, e99_20, e99_23, e99_26, e99_27, e99_28, e99_31, e99_32, e99_33, e99_34, e99_36, e99_37, e99_40, e99_43, e99_46, e99_47, e99_50, e99_51, e99_52, e99_55, e99_58, e99_59, e99_63, e99_64, e99_67, e99_68, e99_71, e99_73, e99_74, e99_77, e99_78, e99_80, e99_83, e99_84, e99_85, e99_88, e99_89, e99_90, e99_93, e99_96, e99_97, e99_98, e99_101, e99_102, e99_105, e99_108, e99_109, e99_112, e99_115, e99_116, e99_117, e99_118, e99_119, e99_123, e99_124, e99_125, e99_128, e99_129, e99_132, e99_133, e99_134, e99_136, e99_137, e99_140, e99_143, e99_144, e99_148, e99_149, e99_152, e99_153, e99_156, e99_158, e99_159, e99_160, e99_162, e99_163, e99_165, e99_168, e99_169, e99_172, e99_173, e99_174, e99_175, e99_177, e99_178, e99_181, e99_184, e99_185, e99_188, e99_192, e99_193, e99_196, e99_197, e99_200, e99_203, e99_204, m99, ↓reduceIte, qg_0, qg_1, qg_2, qg_3, qg_4, qg_5, qg_6, qg_7, qg_8, qg_9, qg_10, qg_11, qg_12, qg_13, not_true_eq_false, not_false_eq_true, Nat.reduceBEq, Bool.false_eq_true, ex1, ex3, ex4, exF, qfit_i, qfit_l, qfit_r, qfit_n, qfit_b0, qfit_b1, qcat_i, qcat_r, qcat_n, qcat_l, qroom_0, qroom_c, List.map_cons, List.map_nil, List.sum_cons, List.sum_nil, Nat.reduceAdd, Nat.reduceMul, Nat.reduceLT, Nat.reduceLeDiff, Nat.reduceEqDiff, Nat.reduceSub, decide_true, true_and, and_true, and_self, if_true, if_false, Option.toList_some, Option.toList_none, List.cons_append, List.nil_append, qsL, qlong, List.length_cons, List.length_nil, iN_L, exI, iN_add, iN_mul, iN_le, iN_lt, iN_eq, Nat.le_refl, qfN0, qfN1, uX_16, vX_16, uX_19, vX_19, uX_27, vX_27, uX_30, vX_30, uX_39, vX_39, uX_41, vX_41, uX_43, vX_43, uX_46, vX_46, uX_50, vX_50, uX_53, vX_53]
        obtain ⟨c4, c4'⟩ := cG g' V 4 cc
        obtain ⟨s4, X4, v4, x4⟩ := hand _ c4
        have t4 := tt.ch c4' sg (by decide) (by decide) (by decide) (by decide)
        obtain ⟨g5x, c5, b1, b2⟩ := x_part (d := d + 2) s4 v4 D4 q1 t4 (fun k hk => ⟨rG g' V k hk, Vb k hk⟩) Veq
        have c5' : ChX A J 0 h g5x := c4.trans0 (c5.mono (by rw [eA]; exact fun _ z => z) (by rw [eJ]; decide) (Nat.le_refl _))
        have s5 := c5'.sh
        by_cases bad : badV w (vlW ps S Qt)
        · have rb := b1 bad
          refine ⟨g5x, c5', fun _ R => ?_, fun z => absurd bad (z Qt (Nat.le_refl _) q1)⟩
          rw [← stop2 g5x (t + 1) (some (.int (iN 4))) c5' (by omega) R, r1 R, e99_191]
          simp (disch := first | assumption | omega) only [e99_0, e99_1, e99_2, e99_5, e99_6, e99_9, e99_10, e99_13, e99_16, e99_19, e99_20, e99_23, e99_26, e99_27, e99_28, e99_31, e99_32, e99_33, e99_34, e99_36, e99_37, e99_40, e99_43, e99_46, e99_47, e99_50, e99_51, e99_52, e99_55, e99_58, e99_59, e99_63, e99_64, e99_67, e99_68, e99_71, e99_73, e99_74, e99_77, e99_78, e99_80, e99_83, e99_84, e99_85, e99_88, e99_89, e99_90, e99_93, e99_96, e99_97, e99_98, e99_101, e99_102, e99_105, e99_108, e99_109, e99_112, e99_115, e99_116, e99_117, e99_118, e99_119, e99_123, e99_124, e99_125, e99_128, e99_129, e99_132, e99_133, e99_134, e99_136, e99_137, e99_140, e99_143, e99_144, e99_148, e99_149, e99_152, e99_153, e99_156, e99_158, e99_159, e99_160, e99_162, e99_163, e99_165, e99_168, e99_169, e99_172, e99_173, e99_174, e99_175, e99_177, e99_178, e99_181, e99_184, e99_185, e99_188, e99_192, e99_193, e99_196, e99_197, e99_200, e99_203, e99_204, m99, ↓reduceIte, qg_0, qg_1, qg_2, qg_3, qg_4, qg_5, qg_6, qg_7, qg_8, qg_9, qg_10, qg_11, qg_12, qg_13, not_true_eq_false, not_false_eq_true, Nat.reduceBEq, Bool.false_eq_true, ex1, ex3, ex4, exF, qfit_i, qfit_l, qfit_r, qfit_n, qfit_b0, qfit_b1, qcat_i, qcat_r, qcat_n, qcat_l, qroom_0, qroom_c, List.map_cons, List.map_nil, List.sum_cons, List.sum_nil, Nat.reduceAdd, Nat.reduceMul, Nat.reduceLT, Nat.reduceLeDiff, Nat.reduceEqDiff, Nat.reduceSub, decide_true, true_and, and_true, and_self, if_true, if_false, Option.toList_some, Option.toList_none, List.cons_append, List.nil_append, qsL, qlong, List.length_cons, List.length_nil, iN_L, exI, iN_add, iN_mul, iN_le, iN_lt, iN_eq, Nat.le_refl, qfN0, qfN1, uX_16, vX_16, uX_19, vX_19, uX_27, vX_27, uX_30, vX_30, uX_39, vX_39, uX_41, vX_41, uX_43, vX_43, uX_46, vX_46, uX_50, vX_50, uX_53, vX_53, rb]
        · obtain ⟨rg, t5⟩ := b2 bad
          obtain ⟨g6x, c6, d1, d2⟩ := ih (t + 1) g5x (some (.int (iN 4))) (by omega) c5' (by rw [eQs]; exact t5)
          rw [eQs] at d1 d2
          have r2 : ∀ R, qEv (d + 4) 3 qk_99 121 [some (.ref 27), some (.ref 19), some (.int (iN 1)), some (.ref (B 1)), some (.int (iN t)), x5] [] g' R ↔ qEv (d + 4) 3 qk_99 121 [some (.ref 27), some (.ref 19), some (.int (iN 1)), some (.ref (B 1)), some (.int (iN (t + 1))), some (.int (iN 4))] [] g5x R := fun R => by
            rw [r1 R, e99_191]
            simp (disch := first | assumption | omega) only [e99_0, e99_1, e99_2, e99_5, e99_6, e99_9, e99_10, e99_13, e99_16, e99_19, e99_20, e99_23, e99_26, e99_27, e99_28, e99_31, e99_32, e99_33, e99_34, e99_36, e99_37, e99_40, e99_43, e99_46, e99_47, e99_50, e99_51, e99_52, e99_55, e99_58, e99_59, e99_63, e99_64, e99_67, e99_68, e99_71, e99_73, e99_74, e99_77, e99_78, e99_80, e99_83, e99_84, e99_85, e99_88, e99_89, e99_90, e99_93, e99_96, e99_97, e99_98, e99_101, e99_102, e99_105, e99_108, e99_109, e99_112, e99_115, e99_116, e99_117, e99_118, e99_119, e99_123, e99_124, e99_125, e99_128, e99_129, e99_132, e99_133, e99_134, e99_136, e99_137, e99_140, e99_143, e99_144, e99_148, e99_149, e99_152, e99_153, e99_156, e99_158, e99_159, e99_160, e99_162, e99_163, e99_165, e99_168, e99_169, e99_172, e99_173, e99_174, e99_175, e99_177, e99_178, e99_181, e99_184, e99_185, e99_188, e99_192, e99_193, e99_196, e99_197, e99_200, e99_203, e99_204, m99, ↓reduceIte, qg_0, qg_1, qg_2, qg_3, qg_4, qg_5, qg_6, qg_7, qg_8, qg_9, qg_10, qg_11, qg_12, qg_13, not_true_eq_false, not_false_eq_true, Nat.reduceBEq, Bool.false_eq_true, ex1, ex3, ex4, exF, qfit_i, qfit_l, qfit_r, qfit_n, qfit_b0, qfit_b1, qcat_i, qcat_r, qcat_n, qcat_l, qroom_0, qroom_c, List.map_cons, List.map_nil, List.sum_cons, List.sum_nil, Nat.reduceAdd, Nat.reduceMul, Nat.reduceLT, Nat.reduceLeDiff, Nat.reduceEqDiff, Nat.reduceSub, decide_true, true_and, and_true, and_self, if_true, if_false, Option.toList_some, Option.toList_none, List.cons_append, List.nil_append, qsL, qlong, List.length_cons, List.length_nil, iN_L, exI, iN_add, iN_mul, iN_le, iN_lt, iN_eq, Nat.le_refl, qfN0, qfN1, uX_16, vX_16, uX_19, vX_19, uX_27, vX_27, uX_30, vX_30, uX_39, vX_39, uX_41, vX_41, uX_43, vX_43, uX_46, vX_46, uX_50, vX_50, uX_53, vX_53, rg]
          refine ⟨g6x, c6, fun ⟨q, h1, h2, h3⟩ R => (r2 R).trans (d1 ⟨q, ?_, h2, h3⟩ R), fun z => ?_⟩
          · rcases Nat.lt_or_ge Qt q with y | y
            · exact y
            · rw [show q = Qt by omega] at h3; exact absurd h3 bad
          · obtain ⟨z1, z2⟩ := d2 (fun q h1 h2 => z q (by omega) h2)
            exact ⟨fun R => (r2 R).trans (z1 R), z2⟩
      · rw [tB_f cr, bN_f] at ic
        have eQs : (kpL (cnr bs i) (kpW lv w) (cnr bs i).length).length + (edL bs i lv ((cel bs i 1).take (t + 1))).length = Qt := by rw [cut_no ht' (by rw [ey]; exact cr), eQt]
        obtain ⟨g6x, c6, d1, d2⟩ := ih (t + 1) g' x5 (by omega) cc (by rw [eQs]; exact tt)
        rw [eQs] at d1 d2
        have r2 : ∀ R, qEv (d + 4) 3 qk_99 121 [some (.ref 27), some (.ref 19), some (.int (iN 1)), some (.ref (B 1)), some (.int (iN t)), x5] [] g' R ↔ qEv (d + 4) 3 qk_99 121 [some (.ref 27), some (.ref 19), some (.int (iN 1)), some (.ref (B 1)), some (.int (iN (t + 1))), x5] [] g' R := fun R => by
          rw [e99_121]
          simp (disch := first | assumption | omega) only [e99_0, e99_1, e99_2, e99_5, e99_6, e99_9, e99_10, e99_13, e99_16, e99_19, e99_20, e99_23, e99_26, e99_27, e99_28, e99_31, e99_32, e99_33, e99_34, e99_36, e99_37, e99_40, e99_43, e99_46, e99_47, e99_50, e99_51, e99_52, e99_55, e99_58, e99_59, e99_63, e99_64, e99_67, e99_68, e99_71, e99_73, e99_74, e99_77, e99_78, e99_80, e99_83, e99_84, e99_85, e99_88, e99_89, e99_90, e99_93, e99_96, e99_97, e99_98, e99_101, e99_102, e99_105, e99_108, e99_109, e99_112, e99_115, e99_116, e99_117, e99_118, e99_119, e99_123, e99_124, e99_125, e99_128, e99_129, e99_132, e99_133, e99_134, e99_136, e99_137, e99_140, e99_143, e99_144, e99_148, e99_149, e99_152, e99_153, e99_156, e99_158, e99_159, e99_160, e99_162, e99_163, e99_165, e99_168, e99_169, e99_172, e99_173, e99_174, e99_175, e99_177, e99_178, e99_181, e99_184, e99_185, e99_188, e99_192, e99_193, e99_196, e99_197, e99_200, e99_203, e99_204, m99, ↓reduceIte, qg_0, qg_1, qg_2, qg_3, qg_4, qg_5, qg_6, qg_7, qg_8, qg_9, qg_10, qg_11, qg_12, qg_13, not_true_eq_false, not_false_eq_true, Nat.reduceBEq, Bool.false_eq_true, ex1, ex3, ex4, exF, qfit_i, qfit_l, qfit_r, qfit_n, qfit_b0, qfit_b1, qcat_i, qcat_r, qcat_n, qcat_l, qroom_0, qroom_c, List.map_cons, List.map_nil, List.sum_cons, List.sum_nil, Nat.reduceAdd, Nat.reduceMul, Nat.reduceLT, Nat.reduceLeDiff, Nat.reduceEqDiff, Nat.reduceSub, decide_true, true_and, and_true, and_self, if_true, if_false, Option.toList_some, Option.toList_none, List.cons_append, List.nil_append, qsL, qlong, List.length_cons, List.length_nil, iN_L, exI, iN_add, iN_mul, iN_le, iN_lt, iN_eq, Nat.le_refl, qfN0, qfN1, uX_16, vX_16, uX_19, vX_19, uX_27, vX_27, uX_30, vX_30, uX_39, vX_39, uX_41, vX_41, uX_43, vX_43, uX_46, vX_46, uX_50, vX_50, uX_53, vX_53, l1, show ¬ (cel bs i 1).length ≤ t by omega, ry, ic]
        exact ⟨g6x, c6, fun z R => (r2 R).trans (d1 z R), fun z => ⟨fun R => (r2 R).trans ((d2 z).1 R), (d2 z).2⟩⟩
  have corners : ∀ (m c : Nat) (g' : qH) (x4 : Option Value), c + m = (cnr bs i).length → ChX A J 0 h g' → HtX g' D (tellAll D [] ((whL ps w S).take (kpL (cnr bs i) (kpW lv w) c).length)) → ∃ h', ChX A J 0 h h' ∧ ((∃ q, (kpL (cnr bs i) (kpW lv w) c).length ≤ q ∧ q < ps.length ∧ badV w (vlW ps S q)) → ∀ R, qEv (d + 4) 3 qk_99 35 [some (.ref 27), some (.ref 19), some (.int (iN 1)), some (.int (iN c)), x4, none] [] g' R ↔ R = (some (.int (iN 0)), h')) ∧ ((∀ q, (kpL (cnr bs i) (kpW lv w) c).length ≤ q → q < ps.length → ¬ badV w (vlW ps S q)) → (∀ R, qEv (d + 4) 3 qk_99 35 [some (.ref 27), some (.ref 19), some (.int (iN 1)), some (.int (iN c)), x4, none] [] g' R ↔ R = (some (.int (iN 1)), h')) ∧ HtX h' D (tellAll D [] (whL ps w S))) := by
    intro m
    induction m with
    | zero =>
      intro c g' x4 hc cc tt
      have ec : c = (cnr bs i).length := by omega
      subst ec
      obtain ⟨sg, Xg, vg, xg⟩ := hand g' cc
      obtain ⟨p2, q2, w2, e2, S2⟩ := bd cc
      obtain ⟨⟨u16, ult, uF⟩, g0, g1, g2, g3, g4, g5, g6⟩ := S2.obj
      have fr := vg.from sg
      have l0 : (kpL (cnr bs i) (kpW lv w) (cnr bs i).length).length + (edL bs i lv ((cel bs i 1).take 0)).length = (kpL (cnr bs i) (kpW lv w) (cnr bs i).length).length := rfl
      obtain ⟨g6x, c6, d1, d2⟩ := edges (cel bs i 1).length 0 g' none (Nat.zero_add _) cc (by rw [l0]; exact tt)
      rw [l0] at d1 d2
      have r2 : ∀ R, qEv (d + 4) 3 qk_99 35 [some (.ref 27), some (.ref 19), some (.int (iN 1)), some (.int (iN ((cnr bs i).length))), x4, none] [] g' R ↔ qEv (d + 4) 3 qk_99 121 [some (.ref 27), some (.ref 19), some (.int (iN 1)), some (.ref (B 1)), some (.int (iN 0)), none] [] g' R := fun R => by
        rw [← to2 g' 1 (cnr bs i).length x4 none cc (Nat.le_refl _) R, e99_35]
        simp (disch := first | assumption | omega) only [e99_0, e99_1, e99_2, e99_5, e99_6, e99_9, e99_10, e99_13, e99_16, e99_19, e99_20, e99_23, e99_26, e99_27, e99_28, e99_31, e99_32, e99_33, e99_34, e99_36, e99_37, e99_40, e99_43, e99_46, e99_47, e99_50, e99_51, e99_52, e99_55, e99_58, e99_59, e99_63, e99_64, e99_67, e99_68, e99_71, e99_73, e99_74, e99_77, e99_78, e99_80, e99_83, e99_84, e99_85, e99_88, e99_89, e99_90, e99_93, e99_96, e99_97, e99_98, e99_101, e99_102, e99_105, e99_109, e99_112, e99_115, e99_116, e99_117, e99_118, e99_119, e99_123, e99_124, e99_125, e99_128, e99_129, e99_132, e99_133, e99_134, e99_136, e99_137, e99_140, e99_143, e99_144, e99_148, e99_149, e99_152, e99_153, e99_156, e99_158, e99_159, e99_160, e99_162, e99_163, e99_165, e99_168, e99_169, e99_172, e99_173, e99_174, e99_175, e99_177, e99_178, e99_181, e99_184, e99_185, e99_188, e99_191, e99_192, e99_193, e99_196, e99_197, e99_200, e99_203, e99_204, m99, ↓reduceIte, qg_0, qg_1, qg_2, qg_3, qg_4, qg_5, qg_6, qg_7, qg_8, qg_9, qg_10, qg_11, qg_12, qg_13, not_true_eq_false, not_false_eq_true, Nat.reduceBEq, Bool.false_eq_true, ex1, ex3, ex4, exF, qfit_i, qfit_l, qfit_r, qfit_n, qfit_b0, qfit_b1, qcat_i, qcat_r, qcat_n, qcat_l, qroom_0, qroom_c, List.map_cons, List.map_nil, List.sum_cons, List.sum_nil, Nat.reduceAdd, Nat.reduceMul, Nat.reduceLT, Nat.reduceLeDiff, Nat.reduceEqDiff, Nat.reduceSub, decide_true, true_and, and_true, and_self, if_true, if_false, Option.toList_some, Option.toList_none, List.cons_append, List.nil_append, qsL, qlong, List.length_cons, List.length_nil, iN_L, exI, iN_add, iN_mul, iN_le, iN_lt, iN_eq, Nat.le_refl, qfN0, qfN1, uX_16, vX_16, uX_19, vX_19, uX_27, vX_27, uX_30, vX_30, uX_39, vX_39, uX_41, vX_41, uX_43, vX_43, uX_46, vX_46, uX_50, vX_50, uX_53, vX_53, uX_27, vX_27, fr, u16, ult, uF, g0, g1, g2, g3, g4, g5, g6]
      exact ⟨g6x, c6, fun z R => (r2 R).trans (d1 z R), fun z => ⟨fun R => (r2 R).trans ((d2 z).1 R), (d2 z).2⟩⟩
    | succ m ih =>
      intro c g' x4 hc cc tt
      have hc' : c < (cnr bs i).length := by omega
      obtain ⟨sg, Xg, vg, xg⟩ := hand g' cc
      obtain ⟨p2, q2, w2, e2, S2⟩ := bd cc
      obtain ⟨⟨u16, ult, uF⟩, g0, g1, g2, g3, g4, g5, g6⟩ := S2.obj
      have fr := vg.from sg
      have ik : ∀ R, qMC (d + 4) 91 [.ref 27, .int (iN c)] g' R ↔ R = (some (.int (bB (kpW lv w c))), g') := fun R => x_isKept (d := d + 3) sg vg n16 hc'
      by_cases kp : kpW lv w c = true
      · rw [kp, bN_t] at ik
        obtain ⟨q1, q2', q3'⟩ := kp_at (lv := lv) hc' kp
        rw [← eps] at q1 q2'
        obtain ⟨Qt, eQt⟩ : ∃ Qt, Qt = (kpL (cnr bs i) (kpW lv w) c).length := ⟨_, rfl⟩
        rw [← eQt] at q1 q2' q3' tt ⊢
        have efL : fL ps Qt = 1 := by unfold fL; rw [q2']
        obtain ⟨V, eV⟩ : ∃ V : Nat → Int, V = fun k => lP (cnr bs i) c k * (S : Int) := ⟨_, rfl⟩
        have Vm : ∀ k, k < 4 → -(999 * 71928000) ≤ lP (cnr bs i) c k * (S : Int) ∧ lP (cnr bs i) c k * (S : Int) ≤ 999 * 71928000 := fun k hk => mul_b (P.2.2.1 c hc' k hk) (by omega)
        have Vb : ∀ k, k < 4 → lB (V k) := fun k hk => by have := Vm k hk; rw [eV]; unfold lB; show _ ≤ lP (cnr bs i) c k * (S : Int) ∧ lP (cnr bs i) c k * (S : Int) ≤ _; omega
        have Veq : ∀ k, k < 4 → k ≠ w → V k = vlW ps S Qt k := fun k hk hne => by
          have ef : fU ps Qt k = lP (cnr bs i) c k := by unfold fU; rw [q2']; rfl
          rw [← vlW_div (by omega) (by rw [eS]; exact dnm_dvd hk hne (by omega)), efL, Int.tdiv_one, ef, eV]
        have r1 : ∀ R, qEv (d + 4) 3 qk_99 35 [some (.ref 27), some (.ref 19), some (.int (iN 1)), some (.int (iN c)), x4, none] [] g' R ↔ qEv (d + 4) 3 qk_99 96 [some (.ref 27), some (.ref 19), some (.int (iN 1)), some (.int (iN c)), some (.int (iN 4)), none] [] (Gw g' V 4) R := fun R => by
          have a0 : qEv (d + 4) 3 qk_99 35 [some (.ref 27), some (.ref 19), some (.int (iN 1)), some (.int (iN c)), x4, none] [] g' R ↔ qEv (d + 4) 3 qk_99 61 [some (.ref 27), some (.ref 19), some (.int (iN 1)), some (.int (iN c)), some (.int (iN 0)), none] [] (Gw g' V 0) R := by
            rw [← G0 g' V cc, e99_35]
            simp (disch := first | assumption | omega) only [e99_0, e99_1, e99_2, e99_5, e99_6, e99_9, e99_10, e99_13, e99_16, e99_19, e99_20, e99_23, e99_26, e99_27, e99_28, e99_31, e99_32, e99_33, e99_34, e99_36, e99_37, e99_40, e99_43, e99_46, e99_47, e99_50, e99_51, e99_52, e99_55, e99_58, e99_59, e99_63, e99_64, e99_67, e99_68, e99_71, e99_73, e99_74, e99_77, e99_78, e99_80, e99_83, e99_84, e99_85, e99_88, e99_89, e99_90, e99_93, e99_96, e99_97, e99_98, e99_101, e99_102, e99_105, e99_108, e99_109, e99_112, e99_115, e99_116, e99_117, e99_118, e99_119, e99_123, e99_124, e99_125, e99_128, e99_129, e99_132, e99_133, e99_134, e99_136, e99_137, e99_140, e99_143, e99_144, e99_148, e99_149, e99_152, e99_153, e99_156, e99_158, e99_159, e99_160, e99_162, e99_163, e99_165, e99_168, e99_169, e99_172, e99_173, e99_174, e99_175, e99_177, e99_178, e99_181, e99_184, e99_185, e99_188, e99_191, e99_192, e99_193, e99_196, e99_197, e99_200, e99_203, e99_204, m99, ↓reduceIte, qg_0, qg_1, qg_2, qg_3, qg_4, qg_5, qg_6, qg_7, qg_8, qg_9, qg_10, qg_11, qg_12, qg_13, not_true_eq_false, not_false_eq_true, Nat.reduceBEq, Bool.false_eq_true, ex1, ex3, ex4, exF, qfit_i, qfit_l, qfit_r, qfit_n, qfit_b0, qfit_b1, qcat_i, qcat_r, qcat_n, qcat_l, qroom_0, qroom_c, List.map_cons, List.map_nil, List.sum_cons, List.sum_nil, Nat.reduceAdd, Nat.reduceMul, Nat.reduceLT, Nat.reduceLeDiff, Nat.reduceEqDiff, Nat.reduceSub, decide_true, true_and, and_true, and_self, if_true, if_false, Option.toList_some, Option.toList_none, List.cons_append, List.nil_append, qsL, qlong, List.length_cons, List.length_nil, iN_L, exI, iN_add, iN_mul, iN_le, iN_lt, iN_eq, Nat.le_refl, qfN0, qfN1, uX_16, vX_16, uX_19, vX_19, uX_27, vX_27, uX_30, vX_30, uX_39, vX_39, uX_41, vX_41, uX_43, vX_43, uX_46, vX_46, uX_50, vX_50, uX_53, vX_53, uX_27, vX_27, fr, u16, ult, uF, g0, g1, g2, g3, g4, g5, g6, show ¬ (cnr bs i).length ≤ c by omega, ik]
          rw [a0]
          refine Iff.trans (loop_up (n := 4) (L := fun k => [some (.ref 27), some (.ref 19), some (.int (iN 1)), some (.int (iN c)), some (.int (iN k)), none]) (H := fun k => Gw g' V k) ?_) ?_
          · intro k hk
            try dsimp only
            obtain ⟨ck, ck'⟩ := cG g' V k cc
            obtain ⟨sk, Xk, vk, xk⟩ := hand _ ck
            obtain ⟨p3, q3, w3, e3, S3⟩ := bd ck
            obtain ⟨⟨u16, ult, uF⟩, g0, g1, g2, g3, g4, g5, g6⟩ := S3.obj
            have frk := vk.from sk
            have ta : ∀ R, qMC (d + 4) 104 [.ref (sa i), .int (iN c), .int (iN k)] (Gw g' V k) R ↔ R = (some (.int (iZ (lP (cnr bs i) c k))), Gw g' V k) := fun R => x_at S3 hc' hk
            have il := iZ_long (z := lP (cnr bs i) c k) (by have := P.2.2.1 c hc' k hk; unfold iB; omega)
            have mm : lZ (lP (cnr bs i) c k) * lZ (S : Int) = lZ (V k) := by rw [lZ_mul, eV]
            have wk := wG g' V k cc hk
            rw [e99_61]
            simp (disch := first | assumption | omega) only [e99_0, e99_1, e99_2, e99_5, e99_6, e99_9, e99_10, e99_13, e99_16, e99_19, e99_20, e99_23, e99_26, e99_27, e99_28, e99_31, e99_32, e99_33, e99_34, e99_36, e99_37, e99_40, e99_43, e99_46, e99_47, e99_50, e99_51, e99_52, e99_55, e99_58, e99_59, e99_63, e99_64, e99_67, e99_68, e99_71, e99_73, e99_74, e99_77, e99_78, e99_80, e99_83, e99_84, e99_85, e99_88, e99_89, e99_90, e99_93, e99_97, e99_98, e99_101, e99_102, e99_105, e99_108, e99_109, e99_112, e99_115, e99_116, e99_117, e99_118, e99_119, e99_123, e99_124, e99_125, e99_128, e99_129, e99_132, e99_133, e99_134, e99_136, e99_137, e99_140, e99_143, e99_144, e99_148, e99_149, e99_152, e99_153, e99_156, e99_158, e99_159, e99_160, e99_162, e99_163, e99_165, e99_168, e99_169, e99_172, e99_173, e99_174, e99_175, e99_177, e99_178, e99_181, e99_184, e99_185, e99_188, e99_191, e99_192, e99_193, e99_196, e99_197, e99_200, e99_203, e99_204, m99, ↓reduceIte, qg_0, qg_1, qg_2, qg_3, qg_4, qg_5, qg_6, qg_7, qg_8, qg_9, qg_10, qg_11, qg_12, qg_13, not_true_eq_false, not_false_eq_true, Nat.reduceBEq, Bool.false_eq_true, ex1, ex3, ex4, exF, qfit_i, qfit_l, qfit_r, qfit_n, qfit_b0, qfit_b1, qcat_i, qcat_r, qcat_n, qcat_l, qroom_0, qroom_c, List.map_cons, List.map_nil, List.sum_cons, List.sum_nil, Nat.reduceAdd, Nat.reduceMul, Nat.reduceLT, Nat.reduceLeDiff, Nat.reduceEqDiff, Nat.reduceSub, decide_true, true_and, and_true, and_self, if_true, if_false, Option.toList_some, Option.toList_none, List.cons_append, List.nil_append, qsL, qlong, List.length_cons, List.length_nil, iN_L, exI, iN_add, iN_mul, iN_le, iN_lt, iN_eq, Nat.le_refl, qfN0, qfN1, uX_16, vX_16, uX_19, vX_19, uX_27, vX_27, uX_30, vX_30, uX_39, vX_39, uX_41, vX_41, uX_43, vX_43, uX_46, vX_46, uX_50, vX_50, uX_53, vX_53, uX_27, vX_27, show ¬ 4 ≤ k by omega, gX_27_4, frk, u16, ult, uF, g0, g1, g2, g3, g4, g5, g6, ta, il, gX_27_3, xk, mm, wk]
          · try dsimp only
            have s4 := (cG g' V 4 cc).1.sh
            rw [e99_61]
            simp (disch := first | assumption | omega) only [e99_0, e99_1, e99_2, e99_5, e99_6, e99_9, e99_10, e99_13, e99_16, e99_19, e99_20, e99_23, e99_26, e99_27, e99_28, e99_31, e99_32, e99_33, e99_34, e99_36, e99_37, e99_40, e99_43, e99_46, e99_47, e99_50, e99_51, e99_52, e99_55, e99_58, e99_59, e99_63, e99_64, e99_67, e99_68, e99_71, e99_73, e99_74, e99_77, e99_78, e99_80, e99_83, e99_84, e99_85, e99_88, e99_89, e99_90, e99_93, e99_97, e99_98, e99_101, e99_102, e99_105, e99_108, e99_109, e99_112, e99_115, e99_116, e99_117, e99_118, e99_119, e99_123, e99_124, e99_125, e99_128, e99_129, e99_132, e99_133, e99_134, e99_136, e99_137, e99_140, e99_143, e99_144, e99_148, e99_149, e99_152, e99_153, e99_156, e99_158, e99_159, e99_160, e99_162, e99_163, e99_165, e99_168, e99_169, e99_172, e99_173, e99_174, e99_175, e99_177, e99_178, e99_181, e99_184, e99_185, e99_188, e99_191, e99_192, e99_193, e99_196, e99_197, e99_200, e99_203, e99_204, m99, ↓reduceIte, qg_0, qg_1, qg_2, qg_3, qg_4, qg_5, qg_6, qg_7, qg_8, qg_9, qg_10, qg_11, qg_12, qg_13, not_true_eq_false, not_false_eq_true, Nat.reduceBEq, Bool.false_eq_true, ex1, ex3, ex4, exF, qfit_i, qfit_l, qfit_r, qfit_n, qfit_b0, qfit_b1, qcat_i, qcat_r, qcat_n, qcat_l, qroom_0, qroom_c, List.map_cons, List.map_nil, List.sum_cons, List.sum_nil, Nat.reduceAdd, Nat.reduceMul, Nat.reduceLT, Nat.reduceLeDiff, Nat.reduceEqDiff, Nat.reduceSub, decide_true, true_and, and_true, and_self, if_true, if_false, Option.toList_some, Option.toList_none, List.cons_append, List.nil_append, qsL, qlong, List.length_cons, List.length_nil, iN_L, exI, iN_add, iN_mul, iN_le, iN_lt, iN_eq, Nat.le_refl, qfN0, qfN1, uX_16, vX_16, uX_19, vX_19, uX_27, vX_27, uX_30, vX_30, uX_39, vX_39, uX_41, vX_41, uX_43, vX_43, uX_46, vX_46, uX_50, vX_50, uX_53, vX_53]
        obtain ⟨c4, c4'⟩ := cG g' V 4 cc
        obtain ⟨s4, X4, v4, x4'⟩ := hand _ c4
        have t4 := tt.ch c4' sg (by decide) (by decide) (by decide) (by decide)
        obtain ⟨g5x, c5, b1, b2⟩ := x_part (d := d + 2) s4 v4 D4 q1 t4 (fun k hk => ⟨rG g' V k hk, Vb k hk⟩) Veq
        have c5' : ChX A J 0 h g5x := c4.trans0 (c5.mono (by rw [eA]; exact fun _ z => z) (by rw [eJ]; decide) (Nat.le_refl _))
        have s5 := c5'.sh
        by_cases bad : badV w (vlW ps S Qt)
        · have rb := b1 bad
          refine ⟨g5x, c5', fun _ R => ?_, fun z => absurd bad (z Qt (Nat.le_refl _) q1)⟩
          rw [← stop1 g5x (c + 1) (some (.int (iN 4))) none c5' (by omega) R, r1 R, e99_96]
          simp (disch := first | assumption | omega) only [e99_0, e99_1, e99_2, e99_5, e99_6, e99_9, e99_10, e99_13, e99_16, e99_19, e99_20, e99_23, e99_26, e99_27, e99_28, e99_31, e99_32, e99_33, e99_34, e99_36, e99_37, e99_40, e99_43, e99_46, e99_47, e99_50, e99_51, e99_52, e99_55, e99_58, e99_59, e99_63, e99_64, e99_67, e99_68, e99_71, e99_73, e99_74, e99_77, e99_78, e99_80, e99_83, e99_84, e99_85, e99_88, e99_89, e99_90, e99_93, e99_97, e99_98, e99_101, e99_102, e99_105, e99_108, e99_109, e99_112, e99_115, e99_116, e99_117, e99_118, e99_119, e99_123, e99_124, e99_125, e99_128, e99_129, e99_132, e99_133, e99_134, e99_136, e99_137, e99_140, e99_143, e99_144, e99_148, e99_149, e99_152, e99_153, e99_156, e99_158, e99_159, e99_160, e99_162, e99_163, e99_165, e99_168, e99_169, e99_172, e99_173, e99_174, e99_175, e99_177, e99_178, e99_181, e99_184, e99_185, e99_188, e99_191, e99_192, e99_193, e99_196, e99_197, e99_200, e99_203, e99_204, m99, ↓reduceIte, qg_0, qg_1, qg_2, qg_3, qg_4, qg_5, qg_6, qg_7, qg_8, qg_9, qg_10, qg_11, qg_12, qg_13, not_true_eq_false, not_false_eq_true, Nat.reduceBEq, Bool.false_eq_true, ex1, ex3, ex4, exF, qfit_i, qfit_l, qfit_r, qfit_n, qfit_b0, qfit_b1, qcat_i, qcat_r, qcat_n, qcat_l, qroom_0, qroom_c, List.map_cons, List.map_nil, List.sum_cons, List.sum_nil, Nat.reduceAdd, Nat.reduceMul, Nat.reduceLT, Nat.reduceLeDiff, Nat.reduceEqDiff, Nat.reduceSub, decide_true, true_and, and_true, and_self, if_true, if_false, Option.toList_some, Option.toList_none, List.cons_append, List.nil_append, qsL, qlong, List.length_cons, List.length_nil, iN_L, exI, iN_add, iN_mul, iN_le, iN_lt, iN_eq, Nat.le_refl, qfN0, qfN1, uX_16, vX_16, uX_19, vX_19, uX_27, vX_27, uX_30, vX_30, uX_39, vX_39, uX_41, vX_41, uX_43, vX_43, uX_46, vX_46, uX_50, vX_50, uX_53, vX_53, rb]
        · obtain ⟨rg, t5⟩ := b2 bad
          obtain ⟨g6x, c6, d1, d2⟩ := ih (c + 1) g5x (some (.int (iN 4))) (by omega) c5' (by rw [q3']; exact t5)
          rw [q3'] at d1 d2
          have r2 : ∀ R, qEv (d + 4) 3 qk_99 35 [some (.ref 27), some (.ref 19), some (.int (iN 1)), some (.int (iN c)), x4, none] [] g' R ↔ qEv (d + 4) 3 qk_99 35 [some (.ref 27), some (.ref 19), some (.int (iN 1)), some (.int (iN (c + 1))), some (.int (iN 4)), none] [] g5x R := fun R => by
            rw [r1 R, e99_96]
            simp (disch := first | assumption | omega) only [e99_0, e99_1, e99_2, e99_5, e99_6, e99_9, e99_10, e99_13, e99_16, e99_19, e99_20, e99_23, e99_26, e99_27, e99_28, e99_31, e99_32, e99_33, e99_34, e99_36, e99_37, e99_40, e99_43, e99_46, e99_47, e99_50, e99_51, e99_52, e99_55, e99_58, e99_59, e99_63, e99_64, e99_67, e99_68, e99_71, e99_73, e99_74, e99_77, e99_78, e99_80, e99_83, e99_84, e99_85, e99_88, e99_89, e99_90, e99_93, e99_97, e99_98, e99_101, e99_102, e99_105, e99_108, e99_109, e99_112, e99_115, e99_116, e99_117, e99_118, e99_119, e99_123, e99_124, e99_125, e99_128, e99_129, e99_132, e99_133, e99_134, e99_136, e99_137, e99_140, e99_143, e99_144, e99_148, e99_149, e99_152, e99_153, e99_156, e99_158, e99_159, e99_160, e99_162, e99_163, e99_165, e99_168, e99_169, e99_172, e99_173, e99_174, e99_175, e99_177, e99_178, e99_181, e99_184, e99_185, e99_188, e99_191, e99_192, e99_193, e99_196, e99_197, e99_200, e99_203, e99_204, m99, ↓reduceIte, qg_0, qg_1, qg_2, qg_3, qg_4, qg_5, qg_6, qg_7, qg_8, qg_9, qg_10, qg_11, qg_12, qg_13, not_true_eq_false, not_false_eq_true, Nat.reduceBEq, Bool.false_eq_true, ex1, ex3, ex4, exF, qfit_i, qfit_l, qfit_r, qfit_n, qfit_b0, qfit_b1, qcat_i, qcat_r, qcat_n, qcat_l, qroom_0, qroom_c, List.map_cons, List.map_nil, List.sum_cons, List.sum_nil, Nat.reduceAdd, Nat.reduceMul, Nat.reduceLT, Nat.reduceLeDiff, Nat.reduceEqDiff, Nat.reduceSub, decide_true, true_and, and_true, and_self, if_true, if_false, Option.toList_some, Option.toList_none, List.cons_append, List.nil_append, qsL, qlong, List.length_cons, List.length_nil, iN_L, exI, iN_add, iN_mul, iN_le, iN_lt, iN_eq, Nat.le_refl, qfN0, qfN1, uX_16, vX_16, uX_19, vX_19, uX_27, vX_27, uX_30, vX_30, uX_39, vX_39, uX_41, vX_41, uX_43, vX_43, uX_46, vX_46, uX_50, vX_50, uX_53, vX_53, rg]
          refine ⟨g6x, c6, fun ⟨q, h1, h2, h3⟩ R => (r2 R).trans (d1 ⟨q, ?_, h2, h3⟩ R), fun z => ?_⟩
          · rcases Nat.lt_or_ge Qt q with y | y
            · exact y
            · rw [show q = Qt by omega] at h3; exact absurd h3 bad
          · obtain ⟨z1, z2⟩ := d2 (fun q h1 h2 => z q (by omega) h2)
            exact ⟨fun R => (r2 R).trans (z1 R), z2⟩
      · have kp' : kpW lv w c = false := by cases z : kpW lv w c with | false => rfl | true => exact absurd z kp
        rw [kp', bN_f] at ik
        have eQs := kp_not (cs := cnr bs i) kp
        obtain ⟨g6x, c6, d1, d2⟩ := ih (c + 1) g' x4 (by omega) cc (by rw [eQs]; exact tt)
        rw [eQs] at d1 d2
        have r2 : ∀ R, qEv (d + 4) 3 qk_99 35 [some (.ref 27), some (.ref 19), some (.int (iN 1)), some (.int (iN c)), x4, none] [] g' R ↔ qEv (d + 4) 3 qk_99 35 [some (.ref 27), some (.ref 19), some (.int (iN 1)), some (.int (iN (c + 1))), x4, none] [] g' R := fun R => by
          rw [e99_35]
          simp (disch := first | assumption | omega) only [e99_0, e99_1, e99_2, e99_5, e99_6, e99_9, e99_10, e99_13, e99_16, e99_19, e99_20, e99_23, e99_26, e99_27, e99_28, e99_31, e99_32, e99_33, e99_34, e99_36, e99_37, e99_40, e99_43, e99_46, e99_47, e99_50, e99_51, e99_52, e99_55, e99_58, e99_59, e99_63, e99_64, e99_67, e99_68, e99_71, e99_73, e99_74, e99_77, e99_78, e99_80, e99_83, e99_84, e99_85, e99_88, e99_89, e99_90, e99_93, e99_97, e99_98, e99_101, e99_102, e99_105, e99_108, e99_109, e99_112, e99_115, e99_116, e99_117, e99_118, e99_119, e99_123, e99_124, e99_125, e99_128, e99_129, e99_132, e99_133, e99_134, e99_136, e99_137, e99_140, e99_143, e99_144, e99_148, e99_149, e99_152, e99_153, e99_156, e99_158, e99_159, e99_160, e99_162, e99_163, e99_165, e99_168, e99_169, e99_172, e99_173, e99_174, e99_175, e99_177, e99_178, e99_181, e99_184, e99_185, e99_188, e99_191, e99_192, e99_193, e99_196, e99_197, e99_200, e99_203, e99_204, m99, ↓reduceIte, qg_0, qg_1, qg_2, qg_3, qg_4, qg_5, qg_6, qg_7, qg_8, qg_9, qg_10, qg_11, qg_12, qg_13, not_true_eq_false, not_false_eq_true, Nat.reduceBEq, Bool.false_eq_true, ex1, ex3, ex4, exF, qfit_i, qfit_l, qfit_r, qfit_n, qfit_b0, qfit_b1, qcat_i, qcat_r, qcat_n, qcat_l, qroom_0, qroom_c, List.map_cons, List.map_nil, List.sum_cons, List.sum_nil, Nat.reduceAdd, Nat.reduceMul, Nat.reduceLT, Nat.reduceLeDiff, Nat.reduceEqDiff, Nat.reduceSub, decide_true, true_and, and_true, and_self, if_true, if_false, Option.toList_some, Option.toList_none, List.cons_append, List.nil_append, qsL, qlong, List.length_cons, List.length_nil, iN_L, exI, iN_add, iN_mul, iN_le, iN_lt, iN_eq, Nat.le_refl, qfN0, qfN1, uX_16, vX_16, uX_19, vX_19, uX_27, vX_27, uX_30, vX_30, uX_39, vX_39, uX_41, vX_41, uX_43, vX_43, uX_46, vX_46, uX_50, vX_50, uX_53, vX_53, uX_27, vX_27, fr, u16, ult, uF, g0, g1, g2, g3, g4, g5, g6, show ¬ (cnr bs i).length ≤ c by omega, ik]
        exact ⟨g6x, c6, fun z R => (r2 R).trans (d1 z R), fun z => ⟨fun R => (r2 R).trans ((d2 z).1 R), (d2 z).2⟩⟩
  -- the beginning
  obtain ⟨h1, r1, c1, t1⟩ := x_begin (d := d + 3) s (iN D) rfl
  have c1' : ChX A J 0 h h1 := c1.mono (by rw [eA]; decide) (by rw [eJ]; exact fun _ z => z) (Nat.le_refl _)
  obtain ⟨h2, c2, b1, b2⟩ := corners (cnr bs i).length 0 h1 none (Nat.zero_add _) c1' (by show HtX h1 D (tellAll D [] ((whL ps w S).take 0)); rw [List.take_zero]; exact t1)
  obtain ⟨⟨u16, ult, uF⟩, g0, g1, g2, g3, g4, g5, g6⟩ := Sd.obj
  have fr := v.from s
  have v2 := v.2.1
  have r0 : ∀ R, qMC (d + 5) 99 [.ref 27, .ref 19] h R ↔ qEv (d + 4) 3 qk_99 35 [some (.ref 27), some (.ref 19), some (.int (iN 1)), some (.int (iN 0)), none, none] [] h1 R := fun R => by
    by_cases z : w = 4
    · rw [if_pos z] at v2 eD
      rw [eD] at r1
      simp (disch := first | assumption | omega) only [e99_0, e99_1, e99_2, e99_5, e99_6, e99_9, e99_10, e99_13, e99_16, e99_19, e99_20, e99_23, e99_26, e99_27, e99_28, e99_31, e99_32, e99_33, e99_34, e99_36, e99_37, e99_40, e99_43, e99_46, e99_47, e99_50, e99_51, e99_52, e99_55, e99_58, e99_59, e99_61, e99_63, e99_64, e99_67, e99_68, e99_71, e99_73, e99_74, e99_77, e99_78, e99_80, e99_83, e99_84, e99_85, e99_88, e99_89, e99_90, e99_93, e99_96, e99_97, e99_98, e99_101, e99_102, e99_105, e99_108, e99_109, e99_112, e99_115, e99_116, e99_117, e99_118, e99_119, e99_121, e99_123, e99_124, e99_125, e99_128, e99_129, e99_132, e99_133, e99_134, e99_136, e99_137, e99_140, e99_143, e99_144, e99_146, e99_148, e99_149, e99_152, e99_153, e99_156, e99_158, e99_159, e99_160, e99_162, e99_163, e99_165, e99_168, e99_169, e99_172, e99_173, e99_174, e99_175, e99_177, e99_178, e99_181, e99_184, e99_185, e99_188, e99_191, e99_192, e99_193, e99_196, e99_197, e99_200, e99_203, e99_204, m99, ↓reduceIte, qg_0, qg_1, qg_2, qg_3, qg_4, qg_5, qg_6, qg_7, qg_8, qg_9, qg_10, qg_11, qg_12, qg_13, not_true_eq_false, not_false_eq_true, Nat.reduceBEq, Bool.false_eq_true, ex1, ex3, ex4, exF, qfit_i, qfit_l, qfit_r, qfit_n, qfit_b0, qfit_b1, qcat_i, qcat_r, qcat_n, qcat_l, qroom_0, qroom_c, List.map_cons, List.map_nil, List.sum_cons, List.sum_nil, Nat.reduceAdd, Nat.reduceMul, Nat.reduceLT, Nat.reduceLeDiff, Nat.reduceEqDiff, Nat.reduceSub, decide_true, true_and, and_true, and_self, if_true, if_false, Option.toList_some, Option.toList_none, List.cons_append, List.nil_append, qsL, qlong, List.length_cons, List.length_nil, iN_L, exI, iN_add, iN_mul, iN_le, iN_lt, iN_eq, Nat.le_refl, qfN0, qfN1, uX_16, vX_16, uX_19, vX_19, uX_27, vX_27, uX_30, vX_30, uX_39, vX_39, uX_41, vX_41, uX_43, vX_43, uX_46, vX_46, uX_50, vX_50, uX_53, vX_53, uX_27, vX_27, gX_27_2, v2, fr, u16, ult, uF, g0, g1, g2, g3, g4, g5, g6, r1]
    · rw [if_neg z] at v2 eD
      rw [eD] at r1
      have nw : ¬ iN w = -iN 1 := fun y => by
        have : iN w < iN 0 := by rw [y]; decide
        rw [iN_lt (by omega) (by omega)] at this; omega
      have ed : iN (dmn bs i) - iN 1 = iN (dmn bs i - 1) := iN_sub (by omega)
      simp (disch := first | assumption | omega) only [e99_0, e99_1, e99_2, e99_5, e99_6, e99_9, e99_10, e99_13, e99_16, e99_19, e99_20, e99_23, e99_26, e99_27, e99_28, e99_31, e99_32, e99_33, e99_34, e99_36, e99_37, e99_40, e99_43, e99_46, e99_47, e99_50, e99_51, e99_52, e99_55, e99_58, e99_59, e99_61, e99_63, e99_64, e99_67, e99_68, e99_71, e99_73, e99_74, e99_77, e99_78, e99_80, e99_83, e99_84, e99_85, e99_88, e99_89, e99_90, e99_93, e99_96, e99_97, e99_98, e99_101, e99_102, e99_105, e99_108, e99_109, e99_112, e99_115, e99_116, e99_117, e99_118, e99_119, e99_121, e99_123, e99_124, e99_125, e99_128, e99_129, e99_132, e99_133, e99_134, e99_136, e99_137, e99_140, e99_143, e99_144, e99_146, e99_148, e99_149, e99_152, e99_153, e99_156, e99_158, e99_159, e99_160, e99_162, e99_163, e99_165, e99_168, e99_169, e99_172, e99_173, e99_174, e99_175, e99_177, e99_178, e99_181, e99_184, e99_185, e99_188, e99_191, e99_192, e99_193, e99_196, e99_197, e99_200, e99_203, e99_204, m99, ↓reduceIte, qg_0, qg_1, qg_2, qg_3, qg_4, qg_5, qg_6, qg_7, qg_8, qg_9, qg_10, qg_11, qg_12, qg_13, not_true_eq_false, not_false_eq_true, Nat.reduceBEq, Bool.false_eq_true, ex1, ex3, ex4, exF, qfit_i, qfit_l, qfit_r, qfit_n, qfit_b0, qfit_b1, qcat_i, qcat_r, qcat_n, qcat_l, qroom_0, qroom_c, List.map_cons, List.map_nil, List.sum_cons, List.sum_nil, Nat.reduceAdd, Nat.reduceMul, Nat.reduceLT, Nat.reduceLeDiff, Nat.reduceEqDiff, Nat.reduceSub, decide_true, true_and, and_true, and_self, if_true, if_false, Option.toList_some, Option.toList_none, List.cons_append, List.nil_append, qsL, qlong, List.length_cons, List.length_nil, iN_L, exI, iN_add, iN_mul, iN_le, iN_lt, iN_eq, Nat.le_refl, qfN0, qfN1, uX_16, vX_16, uX_19, vX_19, uX_27, vX_27, uX_30, vX_30, uX_39, vX_39, uX_41, vX_41, uX_43, vX_43, uX_46, vX_46, uX_50, vX_50, uX_53, vX_53, uX_27, vX_27, gX_27_2, v2, nw, fr, u16, ult, uF, g0, g1, g2, g3, g4, g5, g6, ed, r1]
  refine ⟨h2, c2, fun ⟨q, h1, h2⟩ R => (r0 R).trans (b1 ⟨q, Nat.zero_le _, h1, h2⟩ R), fun z => ?_⟩
  obtain ⟨z1, z2⟩ := b2 (fun q _ h2 => z q h2)
  exact ⟨fun R => (r0 R).trans (z1 R), z2⟩
end XTOLD

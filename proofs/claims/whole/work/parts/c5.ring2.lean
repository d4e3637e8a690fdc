/-! ===== THE REFERENCE: rings, the search ===== -/
section RING2
variable {d : Nat} {h : qH} {bs : List bdy} {adj : Nat → Nat → Bool} {n : Nat}
def updR (r : Nat → Nat) (k c : Nat) : Nat → Nat := fun j => if j = k then c else r j
theorem inR_upd {r : Nat → Nat} {k c b : Nat} : inR (updR r k c) (k + 1) b = (inR r k b || decide (c = b)) := by
  rw [Bool.eq_iff_iff, Bool.or_eq_true, inR_iff, inR_iff, decide_eq_true_eq]
  constructor
  · rintro ⟨j, hj, e⟩
    unfold updR at e
    by_cases q : j = k
    · rw [if_pos q] at e; exact Or.inr e
    · rw [if_neg q] at e; exact Or.inl ⟨j, by omega, e⟩
  · rintro (⟨j, hj, e⟩ | e)
    · exact ⟨j, by omega, by unfold updR; rw [if_neg (by omega)]; exact e⟩
    · exact ⟨k, by omega, by unfold updR; rw [if_pos rfl]; exact e⟩
theorem vpR_upd {r : Nat → Nat} {k c : Nat} (hk : 1 ≤ k) (hc : c < n) (h : vpR adj n r k) (ho : okN adj r k c = true) : vpR adj n (updR r k c) (k + 1) := by
  obtain ⟨h0, h1, h2, h3⟩ := h
  unfold okN at ho
  rw [Bool.and_eq_true, Bool.not_eq_true'] at ho
  have ne : ∀ j, j < k → r j ≠ c := fun j hj e => by
    have := inR_iff.mpr ⟨j, hj, e⟩
    rw [ho.1] at this
    cases this
  unfold updR
  refine ⟨by dsimp only; rw [if_neg (by omega)]; exact h0, fun j hj => ?_, fun i j hij hj => ?_, fun j hj => ?_⟩
  · dsimp only
    by_cases q : j = k
    · rw [if_pos q]; exact hc
    · rw [if_neg q]; exact h1 j (by omega)
  · dsimp only
    rw [if_neg (by omega)]
    by_cases q : j = k
    · rw [if_pos q]; exact ne i (by omega)
    · rw [if_neg q]; exact h2 i j hij (by omega)
  · dsimp only
    rw [if_neg (by omega)]
    by_cases q : j + 1 = k
    · rw [if_pos q]
      have : j = k - 1 := by omega
      rw [this]; exact ho.2
    · rw [if_neg q]; exact h3 j (by omega)
/-- what the search from place k on comes to -/
def rgO (d : Nat) (h : qH) (adj : Nat → Nat → Bool) (n i : Nat) (r : Nat → Nat) (k s : Nat) (g : Nat → Int32) (x5 x6 : Option Value) : Prop :=
  (∃ q g', hamR adj n q ∧ (∀ j, j < k → q j = r j) ∧ s ≤ q k ∧ lfR adj n q k s ∧ (∀ j, j < n → g' j = iN (q j)) ∧ ∀ R, qEv d 3 qk_276 26 [some (.ref 55), some (.int (iN i)), some (.int (iN n)), some (.int (iN (mask (usR r k s) n))), some (.int (iN k)), x5, x6] [] (sI h 85 g) R ↔ R = (some (.int (iN 1)), sI h 85 g')) ∨
  (∃ g' y5 y6, (∀ c, s ≤ c → c < n → noR adj n r k c) ∧ (∀ j, j < k → g' j = iN (r j)) ∧ ∀ R, qEv d 3 qk_276 26 [some (.ref 55), some (.int (iN i)), some (.int (iN n)), some (.int (iN (mask (usR r k s) n))), some (.int (iN k)), x5, x6] [] (sI h 85 g) R ↔ qEv d 3 qk_276 26 [some (.ref 55), some (.int (iN i)), some (.int (iN n)), some (.int (iN (mask (inR r k) n))), some (.int (iN (k - 1))), y5, y6] [] (sI h 85 g') R)
set_option maxRecDepth 100000 in
set_option maxHeartbeats 16000000 in
theorem rg_dfs {i : Nat} (sh : ShM h) (h16 : n ≤ 16) (v : BeV h n adj) : ∀ (m k : Nat), k + m = n → 1 ≤ k → k < n → ∀ (w s : Nat), s + w = n → ∀ (r : Nat → Nat) (g : Nat → Int32) (x5 x6 : Option Value), vpR adj n r k → (∀ j, j < k → g j = iN (r j)) → g k = kv s → (0 < s → inR r k (s - 1) = false) → rgO d h adj n i r k s g x5 x6 := by
  have m16 : ∀ f, mask f n < 2147483648 := fun f => Nat.lt_trans (mask_16 h16) (by decide)
  have bitv : ∀ (f : Nat → Bool) k, k < n → (mask f n).testBit k = f k := fun f k hk => by rw [mask_bit, decide_eq_true hk, Bool.true_and]
  have k85 := kM_85 sh
  have sG : ∀ g, ShM (sI h 85 g) := fun g => sh.rowI k85
  intro m
  induction m with
  | zero => intro k hk h1 h2; omega
  | succ m ihm =>
    intro k hkm hk1 hkn w
    induction w using Nat.strongRecOn with
    | ind w ihw =>
      intro s hsw r g x5 x6 hv hg hgk hn
      have hh := rg_head (d := d) (i := i) (x5 := x5) (x6 := x6) sh h16 hk1 hkn (by omega) hgk hn
      obtain ⟨c, ⟨c1, c2'⟩, c3', c4, c5⟩ := rg_scan (d := d) (i := i) (x5 := kv s) sh h16 v hk1 hkn hv.2.1 hg w s hsw
      have sg := sG g
      by_cases hcn : c = n
      · -- none: back
        right
        refine ⟨g, some (.int (kv s)), some (.int (iN n)), fun b h1 h2 => noR_not hk1 hkn (c3' b h1 (by omega)), hg, fun R => ?_⟩
        rw [hh R, c5 R, hcn]
        simp (disch := first | assumption | omega) only [e276_0, e276_1, e276_4, e276_5, e276_6, e276_7, e276_8, e276_11, e276_12, e276_13, e276_14, e276_15, e276_16, e276_17, e276_19, e276_20, e276_23, e276_24, e276_25, e276_28, e276_31, e276_32, e276_35, e276_37, e276_38, e276_40, e276_41, e276_43, e276_46, e276_47, e276_49, e276_50, e276_51, e276_52, e276_55, e276_56, e276_57, e276_58, e276_60, e276_61, e276_62, e276_66, e276_67, e276_70, e276_71, e276_73, e276_74, e276_75, e276_76, e276_77, e276_80, e276_81, e276_84, e276_85, e276_88, e276_90, e276_91, e276_92, e276_93, e276_94, e276_96, e276_97, e276_98, e276_99, e276_102, e276_105, e276_108, e276_110, e276_111, e276_114, e276_117, e276_120, e276_121, e276_124, e276_126, e276_128, e276_129, e276_130, e276_131, e276_133, e276_134, e276_135, e276_136, e276_138, e276_139, e276_140, e276_141, e276_144, e276_145, e276_148, e276_150, e276_151, e276_152, e276_153, e276_154, e276_157, e276_158, e276_159, e276_162, e276_163, e276_166, e276_168, e276_169, e276_170, e276_173, e276_174, m276, ↓reduceIte, qg_0, qg_1, qg_2, qg_3, qg_4, qg_5, qg_6, qg_7, qg_8, qg_9, qg_10, qg_11, qg_12, qg_13, not_true_eq_false, not_false_eq_true, Nat.reduceBEq, Bool.false_eq_true, ex1, ex3, ex4, exF, qfit_i, qfit_l, qfit_r, qfit_n, qfit_b0, qfit_b1, qcat_i, qcat_r, qcat_n, qcat_l, qroom_0, qroom_c, List.map_cons, List.map_nil, List.sum_cons, List.sum_nil, Nat.reduceAdd, Nat.reduceMul, Nat.reduceLT, Nat.reduceLeDiff, Nat.reduceEqDiff, Nat.reduceSub, decide_true, true_and, and_true, and_self, if_true, if_false, Option.toList_some, Option.toList_none, List.cons_append, List.nil_append, qsL, qlong, List.length_cons, List.length_nil, iN_L, vM1, vM2, exI, iN_add, iN_mul, iN_le, iN_lt, iN_eq, Nat.le_refl, qfN0, qfN1, kv_dec', show ∀ k, kv (k + 1) = iN k from fun _ => rfl]
        rw [show kv k = iN (k - 1) by match k, hk1 with | k + 1, _ => rfl]
      · have hcl : c < n := by omega
        have ho := c4 hcl
        have vp' := vpR_upd hk1 hcl hv ho
        obtain ⟨g1, eg1⟩ : ∃ g1, g1 = upd g k (iN c) := ⟨_, rfl⟩
        have sg1 := sG g1
        have g1v : ∀ j, j < k + 1 → g1 j = iN (updR r k c j) := fun j hj => by
          rw [eg1, upd_at]
          unfold updR
          by_cases q : j = k
          · rw [if_pos q, if_pos q]
          · rw [if_neg q, if_neg q]; exact hg j (by omega)
        have mU : mask (inR r k) n ||| 2 ^ c = mask (inR (updR r k c) (k + 1)) n := by
          rw [pow_mask hcl, mask_or]
          exact mask_ext fun b _ => by rw [inR_upd]; congr 1; exact decide_eq_decide.mpr ⟨Eq.symm, Eq.symm⟩
        have mS : mask (usR r k (c + 1)) n = mask (inR (updR r k c) (k + 1)) n := mask_ext fun b _ => by
          rw [inR_upd]; unfold usR; congr 1; exact decide_eq_decide.mpr ⟨fun e => by omega, fun e => by omega⟩
        have nin : inR r k c = false := by
          unfold okN at ho
          rw [Bool.and_eq_true, Bool.not_eq_true'] at ho
          exact ho.1
        have low : ∀ b, s ≤ b → b < c → noR adj n r k b := fun b h1 h2 => noR_not hk1 hkn (c3' b h1 h2)
        have ext : ∀ j, j < k → updR r k c j = r j := fun j hj => by unfold updR; rw [if_neg (by omega)]
        -- going on with c + 1
        have cont : noR adj n r k c → ∀ (g2 : Nat → Int32) (y5 y6 : Option Value), (∀ j, j < k → g2 j = iN (r j)) → g2 k = iN c → (∀ R, qEv d 3 qk_276 26 [some (.ref 55), some (.int (iN i)), some (.int (iN n)), some (.int (iN (mask (usR r k s) n))), some (.int (iN k)), x5, x6] [] (sI h 85 g) R ↔ qEv d 3 qk_276 26 [some (.ref 55), some (.int (iN i)), some (.int (iN n)), some (.int (iN (mask (usR r k (c + 1)) n))), some (.int (iN k)), y5, y6] [] (sI h 85 g2) R) → rgO d h adj n i r k s g x5 x6 := by
          intro hno g2 y5 y6 hg2 hg2k hrun
          rcases ihw (n - (c + 1)) (by omega) (c + 1) (by omega) r g2 y5 y6 hv hg2 hg2k (fun _ => nin) with ⟨q, g', q1, q2, q3, q4, q5, q6⟩ | ⟨g', z5, z6, q1, q2, q3⟩
          · refine Or.inl ⟨q, g', q1, q2, by omega, fun j hj1 hj2 b hb hs => ?_, q5, fun R => (hrun R).trans (q6 R)⟩
            by_cases e : j = k
            · subst e
              have hsb := hs rfl
              have ex : ∀ i, i < j → q i = r i := q2
              rcases Nat.lt_trichotomy b c with w1 | w1 | w1
              · exact (noR_ext ex).mpr (low b hsb w1)
              · rw [w1]; exact (noR_ext ex).mpr hno
              · exact q4 j (Nat.le_refl _) hj2 b hb (fun _ => by omega)
            · exact q4 j hj1 hj2 b hb (fun z => absurd z e)
          · refine Or.inr ⟨g', z5, z6, fun b h1 h2 => ?_, q2, fun R => (hrun R).trans (q3 R)⟩
            rcases Nat.lt_trichotomy b c with w1 | w1 | w1
            · exact low b h1 w1
            · rw [w1]; exact hno
            · exact q1 b (by omega) h2
        by_cases hlast : k = n - 1
        · by_cases h0 : adj c 0 = true
          · -- a ring
            left
            have b1 : iN (mask (adj c) n) &&& iN 1 = iN 1 := by
              rw [iN_and, Nat.and_one_is_mod]
              have := bitv (adj c) 0 (by omega)
              rw [h0, Nat.testBit_zero, decide_eq_true_eq] at this
              rw [this]
            have vc : hi (sI h 85 g1) 82 c = iN (mask (adj c) n) := by rw [hi_sI, if_neg (by decide)]; exact v c hcl
            have ek : k + 1 = n := by omega
            rw [ek] at vp'
            refine ⟨updR r k c, g1, ⟨vp', ?_⟩, ext, ?_, fun j hj1 hj2 b hb hs => ?_, fun j hj => g1v j (by omega), fun R => ?_⟩
            · rw [← hlast]; unfold updR; rw [if_pos rfl]; exact h0
            · unfold updR; rw [if_pos rfl]; exact c1
            · have e : j = k := by omega
              subst e
              unfold updR at hb
              rw [if_pos rfl] at hb
              exact (noR_ext ext).mpr (low b (hs rfl) hb)
            · rw [hh R, c5 R]
              simp (disch := first | assumption | omega) only [e276_0, e276_1, e276_4, e276_5, e276_6, e276_7, e276_8, e276_11, e276_12, e276_13, e276_14, e276_15, e276_16, e276_17, e276_19, e276_20, e276_23, e276_24, e276_25, e276_28, e276_31, e276_32, e276_35, e276_37, e276_38, e276_40, e276_41, e276_43, e276_46, e276_47, e276_49, e276_50, e276_51, e276_52, e276_55, e276_56, e276_57, e276_58, e276_60, e276_61, e276_62, e276_66, e276_67, e276_70, e276_71, e276_73, e276_74, e276_75, e276_76, e276_77, e276_80, e276_81, e276_84, e276_85, e276_88, e276_90, e276_91, e276_92, e276_93, e276_94, e276_96, e276_97, e276_98, e276_99, e276_102, e276_105, e276_108, e276_110, e276_111, e276_114, e276_117, e276_120, e276_121, e276_124, e276_126, e276_128, e276_129, e276_130, e276_131, e276_133, e276_134, e276_135, e276_136, e276_138, e276_139, e276_140, e276_141, e276_144, e276_145, e276_148, e276_150, e276_151, e276_152, e276_153, e276_154, e276_157, e276_158, e276_159, e276_162, e276_163, e276_166, e276_168, e276_169, e276_170, e276_173, e276_174, m276, ↓reduceIte, qg_0, qg_1, qg_2, qg_3, qg_4, qg_5, qg_6, qg_7, qg_8, qg_9, qg_10, qg_11, qg_12, qg_13, not_true_eq_false, not_false_eq_true, Nat.reduceBEq, Bool.false_eq_true, ex1, ex3, ex4, exF, qfit_i, qfit_l, qfit_r, qfit_n, qfit_b0, qfit_b1, qcat_i, qcat_r, qcat_n, qcat_l, qroom_0, qroom_c, List.map_cons, List.map_nil, List.sum_cons, List.sum_nil, Nat.reduceAdd, Nat.reduceMul, Nat.reduceLT, Nat.reduceLeDiff, Nat.reduceEqDiff, Nat.reduceSub, decide_true, true_and, and_true, and_self, if_true, if_false, Option.toList_some, Option.toList_none, List.cons_append, List.nil_append, qsL, qlong, List.length_cons, List.length_nil, iN_L, vM1, vM2, exI, iN_add, iN_mul, iN_le, iN_lt, iN_eq, Nat.le_refl, qfN0, qfN1, hcn, gM_40, wM_85, hi_sI, sI_sI, ← eg1, iN_sub, hlast.symm, gM_37, rM_82, vc, b1]
          · have hno : noR adj n r k c := by
              rintro ⟨q, ⟨-, q2⟩, -, q4⟩
              rw [← hlast, q4] at q2
              exact h0 q2
            have b0 : iN (mask (adj c) n) &&& iN 1 = iN 0 := by
              rw [iN_and, Nat.and_one_is_mod]
              have := bitv (adj c) 0 (by omega)
              rw [show adj c 0 = false by cases e : adj c 0 with | false => rfl | true => exact absurd e h0, Nat.testBit_zero, decide_eq_false_iff_not] at this
              rw [show mask (adj c) n % 2 = 0 by omega]
            have vc : hi (sI h 85 g1) 82 c = iN (mask (adj c) n) := by rw [hi_sI, if_neg (by decide)]; exact v c hcl
            refine cont hno g1 (some (.int (kv s))) (some (.int (iN c))) (fun j hj => by rw [g1v j (by omega), ext j hj]) (by rw [g1v k (by omega)]; unfold updR; rw [if_pos rfl]) fun R => ?_
            rw [hh R, c5 R, mS]
            simp (disch := first | assumption | omega) only [e276_0, e276_1, e276_4, e276_5, e276_6, e276_7, e276_8, e276_11, e276_12, e276_13, e276_14, e276_15, e276_16, e276_17, e276_19, e276_20, e276_23, e276_24, e276_25, e276_28, e276_31, e276_32, e276_35, e276_37, e276_38, e276_40, e276_41, e276_43, e276_46, e276_47, e276_49, e276_50, e276_51, e276_52, e276_55, e276_56, e276_57, e276_58, e276_60, e276_61, e276_62, e276_66, e276_67, e276_70, e276_71, e276_73, e276_74, e276_75, e276_76, e276_77, e276_80, e276_81, e276_84, e276_85, e276_88, e276_90, e276_91, e276_92, e276_93, e276_94, e276_96, e276_97, e276_98, e276_99, e276_102, e276_105, e276_108, e276_110, e276_111, e276_114, e276_117, e276_120, e276_121, e276_124, e276_126, e276_128, e276_129, e276_130, e276_131, e276_133, e276_134, e276_135, e276_136, e276_138, e276_139, e276_140, e276_141, e276_144, e276_145, e276_148, e276_150, e276_151, e276_152, e276_153, e276_154, e276_157, e276_158, e276_159, e276_162, e276_163, e276_166, e276_168, e276_169, e276_170, e276_173, e276_174, m276, ↓reduceIte, qg_0, qg_1, qg_2, qg_3, qg_4, qg_5, qg_6, qg_7, qg_8, qg_9, qg_10, qg_11, qg_12, qg_13, not_true_eq_false, not_false_eq_true, Nat.reduceBEq, Bool.false_eq_true, ex1, ex3, ex4, exF, qfit_i, qfit_l, qfit_r, qfit_n, qfit_b0, qfit_b1, qcat_i, qcat_r, qcat_n, qcat_l, qroom_0, qroom_c, List.map_cons, List.map_nil, List.sum_cons, List.sum_nil, Nat.reduceAdd, Nat.reduceMul, Nat.reduceLT, Nat.reduceLeDiff, Nat.reduceEqDiff, Nat.reduceSub, decide_true, true_and, and_true, and_self, if_true, if_false, Option.toList_some, Option.toList_none, List.cons_append, List.nil_append, qsL, qlong, List.length_cons, List.length_nil, iN_L, vM1, vM2, exI, iN_add, iN_mul, iN_le, iN_lt, iN_eq, Nat.le_refl, qfN0, qfN1, hcn, gM_40, wM_85, hi_sI, sI_sI, ← eg1, iN_shl1, iN_or, mU, iN_sub, hlast.symm, gM_37, rM_82, vc, b0, show ¬ iN 0 = iN 1 by decide]
        · -- a place farther
          obtain ⟨g2, eg2⟩ : ∃ g2, g2 = upd g1 (k + 1) (-iN 1) := ⟨_, rfl⟩
          have sg2 := sG g2
          have g2v : ∀ j, j < k + 1 → g2 j = iN (updR r k c j) := fun j hj => by rw [eg2, upd_at, if_neg (by omega)]; exact g1v j hj
          have u0 : mask (usR (updR r k c) (k + 1) 0) n = mask (inR (updR r k c) (k + 1)) n := mask_ext fun b _ => by unfold usR; rw [decide_eq_false (by omega), Bool.or_false]
          have push : ∀ R, qEv d 3 qk_276 26 [some (.ref 55), some (.int (iN i)), some (.int (iN n)), some (.int (iN (mask (usR r k s) n))), some (.int (iN k)), x5, x6] [] (sI h 85 g) R ↔ qEv d 3 qk_276 26 [some (.ref 55), some (.int (iN i)), some (.int (iN n)), some (.int (iN (mask (usR (updR r k c) (k + 1) 0) n))), some (.int (iN (k + 1))), some (.int (kv s)), some (.int (iN c))] [] (sI h 85 g2) R := by
            intro R
            rw [hh R, c5 R, u0]
            simp (disch := first | assumption | omega) only [e276_0, e276_1, e276_4, e276_5, e276_6, e276_7, e276_8, e276_11, e276_12, e276_13, e276_14, e276_15, e276_16, e276_17, e276_19, e276_20, e276_23, e276_24, e276_25, e276_28, e276_31, e276_32, e276_35, e276_37, e276_38, e276_40, e276_41, e276_43, e276_46, e276_47, e276_49, e276_50, e276_51, e276_52, e276_55, e276_56, e276_57, e276_58, e276_60, e276_61, e276_62, e276_66, e276_67, e276_70, e276_71, e276_73, e276_74, e276_75, e276_76, e276_77, e276_80, e276_81, e276_84, e276_85, e276_88, e276_90, e276_91, e276_92, e276_93, e276_94, e276_96, e276_97, e276_98, e276_99, e276_102, e276_105, e276_108, e276_110, e276_111, e276_114, e276_117, e276_120, e276_121, e276_124, e276_126, e276_128, e276_129, e276_130, e276_131, e276_133, e276_134, e276_135, e276_136, e276_138, e276_139, e276_140, e276_141, e276_144, e276_145, e276_148, e276_150, e276_151, e276_152, e276_153, e276_154, e276_157, e276_158, e276_159, e276_162, e276_163, e276_166, e276_168, e276_169, e276_170, e276_173, e276_174, m276, ↓reduceIte, qg_0, qg_1, qg_2, qg_3, qg_4, qg_5, qg_6, qg_7, qg_8, qg_9, qg_10, qg_11, qg_12, qg_13, not_true_eq_false, not_false_eq_true, Nat.reduceBEq, Bool.false_eq_true, ex1, ex3, ex4, exF, qfit_i, qfit_l, qfit_r, qfit_n, qfit_b0, qfit_b1, qcat_i, qcat_r, qcat_n, qcat_l, qroom_0, qroom_c, List.map_cons, List.map_nil, List.sum_cons, List.sum_nil, Nat.reduceAdd, Nat.reduceMul, Nat.reduceLT, Nat.reduceLeDiff, Nat.reduceEqDiff, Nat.reduceSub, decide_true, true_and, and_true, and_self, if_true, if_false, Option.toList_some, Option.toList_none, List.cons_append, List.nil_append, qsL, qlong, List.length_cons, List.length_nil, iN_L, vM1, vM2, exI, iN_add, iN_mul, iN_le, iN_lt, iN_eq, Nat.le_refl, qfN0, qfN1, hcn, gM_40, wM_85, hi_sI, sI_sI, ← eg1, iN_shl1, iN_or, mU, iN_sub, hlast, ← eg2]
          rcases ihm (k + 1) (by omega) (by omega) (by omega) n 0 (by omega) (updR r k c) g2 (some (.int (kv s))) (some (.int (iN c))) vp' g2v (by rw [eg2, upd_at, if_pos rfl]; rfl) (fun z => absurd z (Nat.lt_irrefl 0)) with ⟨q, g', q1, q2, q3, q4, q5, q6⟩ | ⟨g', z5, z6, q1, q2, q3⟩
          · have ek : q k = c := by rw [q2 k (by omega)]; unfold updR; rw [if_pos rfl]
            have ex : ∀ j, j < k → q j = r j := fun j hj => (q2 j (by omega)).trans (ext j hj)
            refine Or.inl ⟨q, g', q1, ex, by omega, fun j hj1 hj2 b hb hs => ?_, q5, fun R => (push R).trans (q6 R)⟩
            by_cases e : j = k
            · subst e
              rw [ek] at hb
              exact (noR_ext ex).mpr (low b (hs rfl) hb)
            · exact q4 j (by omega) hj2 b hb (fun _ => Nat.zero_le _)
          · have hno : noR adj n r k c := by
              rintro ⟨q, q4, q5, q6⟩
              refine q1 (q (k + 1)) (Nat.zero_le _) (q4.1.2.1 (k + 1) (by omega)) ⟨q, q4, fun j hj => ?_, rfl⟩
              unfold updR
              by_cases e : j = k
              · rw [if_pos e, e]; exact q6
              · rw [if_neg e]; exact q5 j (by omega)
            refine cont hno g' z5 z6 (fun j hj => by rw [q2 j (by omega), ext j hj]) (by rw [q2 k (by omega)]; unfold updR; rw [if_pos rfl]) fun R => ?_
            rw [push R, q3 R, mS, show k + 1 - 1 = k by omega]
set_option maxRecDepth 100000 in
set_option maxHeartbeats 16000000 in
theorem s_findRing {i : Nat} (s : ShM h) (hi' : i < 24) (hn : hi h 57 i = iN n) (h16 : n ≤ 16) (h2 : 2 ≤ n) (v : BeV h n adj) : ∃ b h', (∀ R, qMC (d + 1) 276 [.ref 55, .int (iN i)] h R ↔ R = (some (.int (bB b)), h')) ∧ Ch [85] [] h h' ∧ ((b = true ∧ ∃ q, fstR adj n q ∧ ∀ j, j < n → hi h' 85 j = iN (q j)) ∨ (b = false ∧ ¬ ∃ q, hamR adj n q)) := by
  have k85 := kM_85 s
  have sG : ∀ g, ShM (sI h 85 g) := fun g => s.rowI k85
  obtain ⟨g, eg⟩ : ∃ g, g = upd (upd (hi h 85) 0 (iN 0)) 1 (-iN 1) := ⟨_, rfl⟩
  have r0 : ∀ R, qMC (d + 1) 276 [.ref 55, .int (iN i)] h R ↔ qEv d 3 qk_276 26 [some (.ref 55), some (.int (iN i)), some (.int (iN n)), some (.int (iN (mask (usR (fun _ => 0) 1 0) n))), some (.int (iN 1)), none, none] [] (sI h 85 g) R := by
    intro R
    have m0 : mask (usR (fun _ => 0) 1 0) n = 1 := by
      have : mask (usR (fun _ => 0) 1 0) n = 2 ^ 0 := by
        rw [pow_mask (show 0 < n by omega)]
        refine mask_ext fun c _ => ?_
        show (inR (fun _ => 0) 1 c || decide (c + 1 = 0)) = _
        rw [decide_eq_false (show ¬ c + 1 = 0 by omega), Bool.or_false, Bool.eq_iff_iff, inR_iff, decide_eq_true_eq]
        exact ⟨fun ⟨_, _, e⟩ => e.symm, fun e => ⟨0, by decide, e.symm⟩⟩
      exact this
    have s1 := sG (upd (hi h 85) 0 (iN 0))
    rw [m0]
    simp (disch := first | assumption | omega) only [e276_0, e276_1, e276_4, e276_5, e276_6, e276_7, e276_8, e276_11, e276_12, e276_13, e276_14, e276_15, e276_16, e276_17, e276_19, e276_20, e276_23, e276_24, e276_25, e276_28, e276_31, e276_32, e276_35, e276_37, e276_38, e276_40, e276_41, e276_43, e276_46, e276_47, e276_49, e276_50, e276_51, e276_52, e276_55, e276_56, e276_57, e276_58, e276_60, e276_61, e276_62, e276_64, e276_66, e276_67, e276_70, e276_71, e276_73, e276_74, e276_75, e276_76, e276_77, e276_80, e276_81, e276_84, e276_85, e276_88, e276_90, e276_91, e276_92, e276_93, e276_94, e276_96, e276_97, e276_98, e276_99, e276_102, e276_105, e276_108, e276_110, e276_111, e276_114, e276_117, e276_120, e276_121, e276_124, e276_126, e276_128, e276_129, e276_130, e276_131, e276_133, e276_134, e276_135, e276_136, e276_138, e276_139, e276_140, e276_141, e276_144, e276_145, e276_148, e276_150, e276_151, e276_152, e276_153, e276_154, e276_157, e276_158, e276_159, e276_162, e276_163, e276_166, e276_168, e276_169, e276_170, e276_173, e276_174, m276, ↓reduceIte, qg_0, qg_1, qg_2, qg_3, qg_4, qg_5, qg_6, qg_7, qg_8, qg_9, qg_10, qg_11, qg_12, qg_13, not_true_eq_false, not_false_eq_true, Nat.reduceBEq, Bool.false_eq_true, ex1, ex3, ex4, exF, qfit_i, qfit_l, qfit_r, qfit_n, qfit_b0, qfit_b1, qcat_i, qcat_r, qcat_n, qcat_l, qroom_0, qroom_c, List.map_cons, List.map_nil, List.sum_cons, List.sum_nil, Nat.reduceAdd, Nat.reduceMul, Nat.reduceLT, Nat.reduceLeDiff, Nat.reduceEqDiff, Nat.reduceSub, decide_true, true_and, and_true, and_self, if_true, if_false, Option.toList_some, Option.toList_none, List.cons_append, List.nil_append, qsL, qlong, List.length_cons, List.length_nil, iN_L, vM1, vM2, exI, iN_add, iN_mul, iN_le, iN_lt, iN_eq, Nat.le_refl, qfN0, qfN1, gM_2, rM_57, hn, gM_40, wM_85, hi_sI, sI_sI, ← eg]
  have vp : vpR adj n (fun _ => 0) 1 := ⟨rfl, fun j hj => (show 0 < n by omega), fun a b h1 h2 => by omega, fun j hj => by omega⟩
  rcases rg_dfs (d := d) (i := i) s h16 v (n - 1) 1 (by omega) (Nat.le_refl _) (by omega) n 0 (by omega) (fun _ => 0) g none none vp (fun j hj => by rw [eg, upd_at, if_neg (by omega), upd_at, if_pos (by omega)]) (by rw [eg, upd_at, if_pos rfl]; rfl) (fun z => absurd z (Nat.lt_irrefl 0)) with ⟨q, g', q1, q2, q3, q4, q5, q6⟩ | ⟨g', z5, z6, q1, q2, q3⟩
  · exact ⟨true, sI h 85 g', fun R => (r0 R).trans (q6 R), Ch.rowI s k85 (by decide), Or.inl ⟨rfl, q, ⟨q1, q4⟩, fun j hj => by rw [hi_sI, if_pos rfl]; exact q5 j hj⟩⟩
  · refine ⟨false, sI h 85 g', fun R => ?_, Ch.rowI s k85 (by decide), Or.inr ⟨rfl, ?_⟩⟩
    · rw [r0 R, q3 R, e276_26]
      simp (disch := first | assumption | omega) only [e276_0, e276_1, e276_4, e276_5, e276_6, e276_7, e276_8, e276_11, e276_12, e276_13, e276_14, e276_15, e276_16, e276_17, e276_19, e276_20, e276_23, e276_24, e276_25, e276_28, e276_31, e276_32, e276_35, e276_37, e276_38, e276_40, e276_41, e276_43, e276_46, e276_47, e276_49, e276_50, e276_51, e276_52, e276_55, e276_56, e276_57, e276_58, e276_60, e276_61, e276_62, e276_64, e276_66, e276_67, e276_70, e276_71, e276_73, e276_74, e276_75, e276_76, e276_77, e276_80, e276_81, e276_84, e276_85, e276_88, e276_90, e276_91, e276_92, e276_93, e276_94, e276_96, e276_97, e276_98, e276_99, e276_102, e276_105, e276_108, e276_110, e276_111, e276_114, e276_117, e276_120, e276_121, e276_124, e276_126, e276_128, e276_129, e276_130, e276_131, e276_133, e276_134, e276_135, e276_136, e276_138, e276_139, e276_140, e276_141, e276_144, e276_145, e276_148, e276_150, e276_151, e276_152, e276_153, e276_154, e276_157, e276_158, e276_159, e276_162, e276_163, e276_166, e276_168, e276_169, e276_170, e276_173, e276_174, m276, ↓reduceIte, qg_0, qg_1, qg_2, qg_3, qg_4, qg_5, qg_6, qg_7, qg_8, qg_9, qg_10, qg_11, qg_12, qg_13, not_true_eq_false, not_false_eq_true, Nat.reduceBEq, Bool.false_eq_true, ex1, ex3, ex4, exF, qfit_i, qfit_l, qfit_r, qfit_n, qfit_b0, qfit_b1, qcat_i, qcat_r, qcat_n, qcat_l, qroom_0, qroom_c, List.map_cons, List.map_nil, List.sum_cons, List.sum_nil, Nat.reduceAdd, Nat.reduceMul, Nat.reduceLT, Nat.reduceLeDiff, Nat.reduceEqDiff, Nat.reduceSub, decide_true, true_and, and_true, and_self, if_true, if_false, Option.toList_some, Option.toList_none, List.cons_append, List.nil_append, qsL, qlong, List.length_cons, List.length_nil, iN_L, vM1, vM2, exI, iN_add, iN_mul, iN_le, iN_lt, iN_eq, Nat.le_refl, qfN0, qfN1, show 1 - 1 ≤ 0 by omega, bB_f]
    · rintro ⟨q, hq⟩
      refine q1 (q 1) (Nat.zero_le _) (hq.1.2.1 1 (by omega)) ⟨q, hq, fun j hj => ?_, rfl⟩
      rw [show j = 0 by omega]; exact hq.1.1
noncomputable def rngR (bs : List bdy) (x y v : Int32) : Prop := ((¬ ∃ i, i < bs.length ∧ x = iN i) ∧ v = -1001) ∨ ∃ i, (i < bs.length ∧ x = iN i) ∧ ((y < 0 ∧ v = -1002) ∨ (¬ y < 0 ∧ 12 < (cnr bs i).length ∧ v = -1005) ∨ (¬ y < 0 ∧ (cnr bs i).length ≤ 12 ∧
  (((¬ ∃ q, hamR (adjB (cel bs i 1)) (cnr bs i).length q) ∧ v = -1) ∨ ∃ q, fstR (adjB (cel bs i 1)) (cnr bs i).length q ∧ ((∃ k, k < (cnr bs i).length ∧ y = iN k ∧ v = iN (q k)) ∨ ((¬ ∃ k, k < (cnr bs i).length ∧ y = iN k) ∧ v = -1)))))
theorem BsM.nc {i : Nat} (B : BsM h bs) (hi' : i < bs.length) : 3 ≤ (cnr bs i).length := by
  obtain ⟨m, S, G, b⟩ := B.G hi'
  have h1 := b.nc
  have h2 := (B.2.2 i hi').1.2.2.2.2
  have hl : (cnr bs i).length = ncr (bs.getD i b0).1 (bs.getD i b0).2.1 := crn_len _ _
  omega
set_option maxRecDepth 100000 in
set_option maxHeartbeats 16000000 in
theorem s_ring (s : ShM h) (B : BsM h bs) (x y : Int32) : ∃ v h', (∀ R, qMC (d + 4) 277 [.ref 55, .int x, .int y] h R ↔ R = (some (.int v), h')) ∧ Ch [82, 85] [] h h' ∧ rngR bs x y v := by
  have n1 : ¬ (1 : Int32) = iN 0 := by decide
  by_cases hx : ∃ i, i < bs.length ∧ x = iN i
  · obtain ⟨i, hi', rfl⟩ := id hx
    have b24 := B.1
    have cv := B.corn hi'
    have cl := cv.2.1
    have n3 := B.nc hi'
    by_cases hy : y < 0
    · have hy' : ¬ iN 0 ≤ y := Int32.not_le.mpr hy
      refine ⟨-1002, h, fun R => ?_, Ch.refl s, Or.inr ⟨i, ⟨hi', rfl⟩, Or.inl ⟨hy, rfl⟩⟩⟩
      simp (disch := first | assumption | omega) only [e277_0, e277_1, e277_2, e277_5, e277_8, e277_11, e277_12, e277_13, e277_16, e277_19, e277_20, e277_21, e277_24, e277_25, e277_26, e277_28, e277_31, e277_34, e277_35, e277_36, e277_37, e277_40, e277_41, e277_42, e277_45, e277_48, e277_49, e277_50, e277_53, e277_54, e277_55, e277_58, e277_59, e277_62, e277_63, e277_64, e277_67, e277_68, m277, ↓reduceIte, qg_0, qg_1, qg_2, qg_3, qg_4, qg_5, qg_6, qg_7, qg_8, qg_9, qg_10, qg_11, qg_12, qg_13, not_true_eq_false, not_false_eq_true, Nat.reduceBEq, Bool.false_eq_true, ex1, ex3, ex4, exF, qfit_i, qfit_l, qfit_r, qfit_n, qfit_b0, qfit_b1, qcat_i, qcat_r, qcat_n, qcat_l, qroom_0, qroom_c, List.map_cons, List.map_nil, List.sum_cons, List.sum_nil, Nat.reduceAdd, Nat.reduceMul, Nat.reduceLT, Nat.reduceLeDiff, Nat.reduceEqDiff, Nat.reduceSub, decide_true, true_and, and_true, and_self, if_true, if_false, Option.toList_some, Option.toList_none, List.cons_append, List.nil_append, qsL, qlong, List.length_cons, List.length_nil, iN_L, vM1, vM2, exI, iN_add, iN_mul, iN_le, iN_lt, iN_eq, Nat.le_refl, qfN0, qfN1, s_isBody1 (d := d + 1) s B hx, n1, hy']
    · have hy' : iN 0 ≤ y := Int32.not_lt.mp hy
      by_cases h12 : (cnr bs i).length ≤ 12
      · obtain ⟨h1, r1, c1, v1⟩ := s_findBeside (d := d) s B hi'
        have s1 := c1.sh
        have B1 : BsM h1 bs := B.ch c1 (by decide) (by decide)
        obtain ⟨b, h2, r2, c2', hc⟩ := s_findRing (d := d + 2) s1 (by omega) (B1.corn hi').1 cl (by omega) v1
        have s2 := c2'.sh
        have B2 : BsM h2 bs := B1.ch c2' (by decide) (by decide)
        have c57 := (B2.corn hi').1
        have cc : Ch [82, 85] [] h h2 := (c1.mono (by decide) (by decide)).trans (c2'.mono (by decide) (by decide))
        rcases hc with ⟨rfl, q, fq, hq⟩ | ⟨rfl, hno⟩
        · by_cases hk : ∃ k, k < (cnr bs i).length ∧ y = iN k
          · obtain ⟨k, hk, rfl⟩ := hk
            refine ⟨iN (q k), h2, fun R => ?_, cc, Or.inr ⟨i, ⟨hi', rfl⟩, Or.inr (Or.inr ⟨hy, h12, Or.inr ⟨q, fq, Or.inl ⟨k, hk, rfl, rfl⟩⟩⟩)⟩⟩
            have hqk := hq k hk
            simp (disch := first | assumption | omega) only [e277_0, e277_1, e277_2, e277_5, e277_8, e277_11, e277_12, e277_13, e277_16, e277_19, e277_20, e277_21, e277_24, e277_25, e277_26, e277_28, e277_31, e277_34, e277_35, e277_36, e277_37, e277_40, e277_41, e277_42, e277_45, e277_48, e277_49, e277_50, e277_53, e277_54, e277_55, e277_58, e277_59, e277_62, e277_63, e277_64, e277_67, e277_68, m277, ↓reduceIte, qg_0, qg_1, qg_2, qg_3, qg_4, qg_5, qg_6, qg_7, qg_8, qg_9, qg_10, qg_11, qg_12, qg_13, not_true_eq_false, not_false_eq_true, Nat.reduceBEq, Bool.false_eq_true, ex1, ex3, ex4, exF, qfit_i, qfit_l, qfit_r, qfit_n, qfit_b0, qfit_b1, qcat_i, qcat_r, qcat_n, qcat_l, qroom_0, qroom_c, List.map_cons, List.map_nil, List.sum_cons, List.sum_nil, Nat.reduceAdd, Nat.reduceMul, Nat.reduceLT, Nat.reduceLeDiff, Nat.reduceEqDiff, Nat.reduceSub, decide_true, true_and, and_true, and_self, if_true, if_false, Option.toList_some, Option.toList_none, List.cons_append, List.nil_append, qsL, qlong, List.length_cons, List.length_nil, iN_L, vM1, vM2, exI, iN_add, iN_mul, iN_le, iN_lt, iN_eq, Nat.le_refl, qfN0, qfN1, s_isBody1 (d := d + 1) s B hx, n1, hy', gM_2, rM_57, cv.1, h12, r1, r2, bB_t, iN10, c57, show ¬ (cnr bs i).length ≤ k by omega, gM_40, rM_85, hqk, Nat.zero_le]
          · refine ⟨-1, h2, fun R => ?_, cc, Or.inr ⟨i, ⟨hi', rfl⟩, Or.inr (Or.inr ⟨hy, h12, Or.inr ⟨q, fq, Or.inr ⟨hk, rfl⟩⟩⟩)⟩⟩
            have hge : iN (cnr bs i).length ≤ y := by
              refine Int32.not_lt.mp fun z => hk ?_
              obtain ⟨k, hk1, rfl⟩ := iN_of hy'
              exact ⟨k, (iN_lt (by omega) (by omega)).mp z, rfl⟩
            simp (disch := first | assumption | omega) only [e277_0, e277_1, e277_2, e277_5, e277_8, e277_11, e277_12, e277_13, e277_16, e277_19, e277_20, e277_21, e277_24, e277_25, e277_26, e277_28, e277_31, e277_34, e277_35, e277_36, e277_37, e277_40, e277_41, e277_42, e277_45, e277_48, e277_49, e277_50, e277_53, e277_54, e277_55, e277_58, e277_59, e277_62, e277_63, e277_64, e277_67, e277_68, m277, ↓reduceIte, qg_0, qg_1, qg_2, qg_3, qg_4, qg_5, qg_6, qg_7, qg_8, qg_9, qg_10, qg_11, qg_12, qg_13, not_true_eq_false, not_false_eq_true, Nat.reduceBEq, Bool.false_eq_true, ex1, ex3, ex4, exF, qfit_i, qfit_l, qfit_r, qfit_n, qfit_b0, qfit_b1, qcat_i, qcat_r, qcat_n, qcat_l, qroom_0, qroom_c, List.map_cons, List.map_nil, List.sum_cons, List.sum_nil, Nat.reduceAdd, Nat.reduceMul, Nat.reduceLT, Nat.reduceLeDiff, Nat.reduceEqDiff, Nat.reduceSub, decide_true, true_and, and_true, and_self, if_true, if_false, Option.toList_some, Option.toList_none, List.cons_append, List.nil_append, qsL, qlong, List.length_cons, List.length_nil, iN_L, vM1, vM2, exI, iN_add, iN_mul, iN_le, iN_lt, iN_eq, Nat.le_refl, qfN0, qfN1, s_isBody1 (d := d + 1) s B hx, n1, hy', gM_2, rM_57, cv.1, h12, r1, r2, bB_t, iN10, c57, hge]
        · refine ⟨-1, h2, fun R => ?_, cc, Or.inr ⟨i, ⟨hi', rfl⟩, Or.inr (Or.inr ⟨hy, h12, Or.inl ⟨hno, rfl⟩⟩)⟩⟩
          simp (disch := first | assumption | omega) only [e277_0, e277_1, e277_2, e277_5, e277_8, e277_11, e277_12, e277_13, e277_16, e277_19, e277_20, e277_21, e277_24, e277_25, e277_26, e277_28, e277_31, e277_34, e277_35, e277_36, e277_37, e277_40, e277_41, e277_42, e277_45, e277_48, e277_49, e277_50, e277_53, e277_54, e277_55, e277_58, e277_59, e277_62, e277_63, e277_64, e277_67, e277_68, m277, ↓reduceIte, qg_0, qg_1, qg_2, qg_3, qg_4, qg_5, qg_6, qg_7, qg_8, qg_9, qg_10, qg_11, qg_12, qg_13, not_true_eq_false, not_false_eq_true, Nat.reduceBEq, Bool.false_eq_true, ex1, ex3, ex4, exF, qfit_i, qfit_l, qfit_r, qfit_n, qfit_b0, qfit_b1, qcat_i, qcat_r, qcat_n, qcat_l, qroom_0, qroom_c, List.map_cons, List.map_nil, List.sum_cons, List.sum_nil, Nat.reduceAdd, Nat.reduceMul, Nat.reduceLT, Nat.reduceLeDiff, Nat.reduceEqDiff, Nat.reduceSub, decide_true, true_and, and_true, and_self, if_true, if_false, Option.toList_some, Option.toList_none, List.cons_append, List.nil_append, qsL, qlong, List.length_cons, List.length_nil, iN_L, vM1, vM2, exI, iN_add, iN_mul, iN_le, iN_lt, iN_eq, Nat.le_refl, qfN0, qfN1, s_isBody1 (d := d + 1) s B hx, n1, hy', gM_2, rM_57, cv.1, h12, r1, r2, bB_f]
      · refine ⟨-1005, h, fun R => ?_, Ch.refl s, Or.inr ⟨i, ⟨hi', rfl⟩, Or.inr (Or.inl ⟨hy, by omega, rfl⟩)⟩⟩
        simp (disch := first | assumption | omega) only [e277_0, e277_1, e277_2, e277_5, e277_8, e277_11, e277_12, e277_13, e277_16, e277_19, e277_20, e277_21, e277_24, e277_25, e277_26, e277_28, e277_31, e277_34, e277_35, e277_36, e277_37, e277_40, e277_41, e277_42, e277_45, e277_48, e277_49, e277_50, e277_53, e277_54, e277_55, e277_58, e277_59, e277_62, e277_63, e277_64, e277_67, e277_68, m277, ↓reduceIte, qg_0, qg_1, qg_2, qg_3, qg_4, qg_5, qg_6, qg_7, qg_8, qg_9, qg_10, qg_11, qg_12, qg_13, not_true_eq_false, not_false_eq_true, Nat.reduceBEq, Bool.false_eq_true, ex1, ex3, ex4, exF, qfit_i, qfit_l, qfit_r, qfit_n, qfit_b0, qfit_b1, qcat_i, qcat_r, qcat_n, qcat_l, qroom_0, qroom_c, List.map_cons, List.map_nil, List.sum_cons, List.sum_nil, Nat.reduceAdd, Nat.reduceMul, Nat.reduceLT, Nat.reduceLeDiff, Nat.reduceEqDiff, Nat.reduceSub, decide_true, true_and, and_true, and_self, if_true, if_false, Option.toList_some, Option.toList_none, List.cons_append, List.nil_append, qsL, qlong, List.length_cons, List.length_nil, iN_L, vM1, vM2, exI, iN_add, iN_mul, iN_le, iN_lt, iN_eq, Nat.le_refl, qfN0, qfN1, s_isBody1 (d := d + 1) s B hx, n1, hy', gM_2, rM_57, cv.1, h12]
  · refine ⟨-1001, h, fun R => ?_, Ch.refl s, Or.inl ⟨hx, rfl⟩⟩
    simp (disch := first | assumption | omega) only [e277_0, e277_1, e277_2, e277_5, e277_8, e277_11, e277_12, e277_13, e277_16, e277_19, e277_20, e277_21, e277_24, e277_25, e277_26, e277_28, e277_31, e277_34, e277_35, e277_36, e277_37, e277_40, e277_41, e277_42, e277_45, e277_48, e277_49, e277_50, e277_53, e277_54, e277_55, e277_58, e277_59, e277_62, e277_63, e277_64, e277_67, e277_68, m277, ↓reduceIte, qg_0, qg_1, qg_2, qg_3, qg_4, qg_5, qg_6, qg_7, qg_8, qg_9, qg_10, qg_11, qg_12, qg_13, not_true_eq_false, not_false_eq_true, Nat.reduceBEq, Bool.false_eq_true, ex1, ex3, ex4, exF, qfit_i, qfit_l, qfit_r, qfit_n, qfit_b0, qfit_b1, qcat_i, qcat_r, qcat_n, qcat_l, qroom_0, qroom_c, List.map_cons, List.map_nil, List.sum_cons, List.sum_nil, Nat.reduceAdd, Nat.reduceMul, Nat.reduceLT, Nat.reduceLeDiff, Nat.reduceEqDiff, Nat.reduceSub, decide_true, true_and, and_true, and_self, if_true, if_false, Option.toList_some, Option.toList_none, List.cons_append, List.nil_append, qsL, qlong, List.length_cons, List.length_nil, iN_L, vM1, vM2, exI, iN_add, iN_mul, iN_le, iN_lt, iN_eq, Nat.le_refl, qfN0, qfN1, s_isBody0 (d := d + 1) s B hx]
end RING2

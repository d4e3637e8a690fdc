/-! ===== THE REFERENCE: rings ===== -/
section RING
variable {d : Nat} {h : qH} {bs : List bdy} {adj : Nat → Nat → Bool} {n : Nat}
/-- a way along edges from 0 on, k places -/
def vpR (adj : Nat → Nat → Bool) (n : Nat) (r : Nat → Nat) (k : Nat) : Prop := r 0 = 0 ∧ (∀ j, j < k → r j < n) ∧ (∀ i j, i < j → j < k → r i ≠ r j) ∧ ∀ j, j + 1 < k → adj (r j) (r (j + 1)) = true
/-- a ring -/
def hamR (adj : Nat → Nat → Bool) (n : Nat) (r : Nat → Nat) : Prop := vpR adj n r n ∧ adj (r (n - 1)) 0 = true
/-- no ring goes so and then to c -/
def noR (adj : Nat → Nat → Bool) (n : Nat) (r : Nat → Nat) (k c : Nat) : Prop := ¬ ∃ q, hamR adj n q ∧ (∀ j, j < k → q j = r j) ∧ q k = c
def lfR (adj : Nat → Nat → Bool) (n : Nat) (q : Nat → Nat) (k s : Nat) : Prop := ∀ j, k ≤ j → j < n → ∀ c, c < q j → (j = k → s ≤ c) → noR adj n q j c
theorem noR_ext {r r' : Nat → Nat} {k c : Nat} (h : ∀ j, j < k → r j = r' j) : noR adj n r k c ↔ noR adj n r' k c := by
  unfold noR
  constructor
  · rintro hn ⟨q, q1, q2, q3⟩; exact hn ⟨q, q1, fun j hj => (q2 j hj).trans (h j hj).symm, q3⟩
  · rintro hn ⟨q, q1, q2, q3⟩; exact hn ⟨q, q1, fun j hj => (q2 j hj).trans (h j hj), q3⟩
/-- the first ring -/
def fstR (adj : Nat → Nat → Bool) (n : Nat) (q : Nat → Nat) : Prop := hamR adj n q ∧ lfR adj n q 1 0
theorem fstR_one {q q' : Nat → Nat} (h1 : fstR adj n q) (h2 : fstR adj n q') : ∀ j, j < n → q j = q' j := by
  intro j
  induction j using Nat.strongRecOn with
  | ind j ih =>
    intro hj
    rcases Nat.eq_zero_or_pos j with e | e
    · rw [e, h1.1.1.1, h2.1.1.1]
    · rcases Nat.lt_trichotomy (q j) (q' j) with w | w | w
      · exact absurd ⟨q, h1.1, fun i hi' => ih i hi' (by omega), rfl⟩ (h2.2 j e hj (q j) w (fun _ => Nat.zero_le _))
      · exact w
      · exact absurd ⟨q', h2.1, fun i hi' => (ih i hi' (by omega)).symm, rfl⟩ (h1.2 j e hj (q' j) w (fun _ => Nat.zero_le _))
def inR (r : Nat → Nat) (k c : Nat) : Bool := anyN (fun j => decide (r j = c)) k
theorem inR_iff {r : Nat → Nat} {k c : Nat} : inR r k c = true ↔ ∃ j, j < k ∧ r j = c := by
  unfold inR
  rw [anyN_iff]
  exact ⟨fun ⟨j, h1, h2⟩ => ⟨j, h1, of_decide_eq_true h2⟩, fun ⟨j, h1, h2⟩ => ⟨j, h1, decide_eq_true h2⟩⟩
/-- c can come next -/
def okN (adj : Nat → Nat → Bool) (r : Nat → Nat) (k c : Nat) : Bool := !inR r k c && adj (r (k - 1)) c
theorem noR_not {r : Nat → Nat} {k c : Nat} (hk : 1 ≤ k) (hkn : k < n) (hc : okN adj r k c = false) : noR adj n r k c := by
  rintro ⟨q, ⟨⟨-, q2, q3, q4⟩, -⟩, q5, rfl⟩
  have h1 : inR r k (q k) = false := by
    cases e : inR r k (q k) with
    | false => rfl
    | true =>
      obtain ⟨j, hj, ej⟩ := inR_iff.mp e
      exact absurd ((q5 j hj).trans ej) (q3 j k hj hkn)
  have h2 := q4 (k - 1) (by omega)
  rw [show k - 1 + 1 = k by omega, q5 (k - 1) (by omega)] at h2
  unfold okN at hc
  rw [h1, h2] at hc
  cases hc
theorem kv_up (s : Nat) : kv s + iN 1 = iN s := by
  cases s with
  | zero => rfl
  | succ s => exact iN_add s 1
theorem and_m1 (x : Int32) : x &&& -iN 1 = x := by
  apply Int32.toBitVec_inj.mp
  rw [Int32.toBitVec_and]
  show _ &&& BitVec.allOnes 32 = _
  exact BitVec.and_allOnes
theorem kv_lt {s : Nat} (h : s < 2147483648) : (kv s < iN 0) ↔ s = 0 := by
  cases s with
  | zero => exact ⟨fun _ => rfl, fun _ => by decide⟩
  | succ s =>
    show iN s < iN 0 ↔ _
    rw [iN_lt (by omega) (by omega)]
    omega
/-- those in use, with the one that was there -/
def usR (r : Nat → Nat) (k s c : Nat) : Bool := inR r k c || decide (c + 1 = s)
set_option maxRecDepth 100000 in
set_option maxHeartbeats 16000000 in
/-- the scan for one that can come next -/
theorem rg_scan {i k : Nat} {r : Nat → Nat} {g : Nat → Int32} {x5 : Int32} (s : ShM h) (h16 : n ≤ 16) (v : BeV h n adj) (hk : 1 ≤ k) (hkn : k < n) (hr : ∀ j, j < k → r j < n) (hg : ∀ j, j < k → g j = iN (r j)) : ∀ (m c : Nat), c + m = n → ∃ c', (c ≤ c' ∧ c' ≤ n) ∧ (∀ b, c ≤ b → b < c' → okN adj r k b = false) ∧ (c' < n → okN adj r k c' = true) ∧ ∀ R, qEv d 3 qk_276 64 [some (.ref 55), some (.int (iN i)), some (.int (iN n)), some (.int (iN (mask (inR r k) n))), some (.int (iN k)), some (.int x5), some (.int (iN c))] [] (sI h 85 g) R ↔ qEv d 3 qk_276 108 [some (.ref 55), some (.int (iN i)), some (.int (iN n)), some (.int (iN (mask (inR r k) n))), some (.int (iN k)), some (.int x5), some (.int (iN c'))] [] (sI h 85 g) R := by
  have m16 : ∀ f, mask f n < 2147483648 := fun f => Nat.lt_trans (mask_16 h16) (by decide)
  have bitv : ∀ (f : Nat → Bool) k, k < n → (mask f n).testBit k = f k := fun f k hk => by rw [mask_bit, decide_eq_true hk, Bool.true_and]
  have k85 := kM_85 s
  have sg : ShM (sI h 85 g) := s.rowI k85
  have ph : hi (sI h 85 g) 85 (k - 1) = iN (r (k - 1)) := by rw [hi_sI, if_pos rfl]; exact hg (k - 1) (by omega)
  have pb := hr (k - 1) (by omega)
  have vb : hi (sI h 85 g) 82 (r (k - 1)) = iN (mask (adj (r (k - 1))) n) := by rw [hi_sI, if_neg (by decide)]; exact v _ pb
  intro m
  induction m with
  | zero =>
    intro c hc
    have e : c = n := by omega
    subst e
    refine ⟨c, ⟨Nat.le_refl _, Nat.le_refl _⟩, fun b h1 h2 => by omega, fun z => by omega, fun R => ?_⟩
    rw [e276_64]
    simp (disch := first | assumption | omega) only [e276_0, e276_1, e276_4, e276_5, e276_6, e276_7, e276_8, e276_11, e276_12, e276_13, e276_14, e276_15, e276_16, e276_17, e276_19, e276_20, e276_23, e276_24, e276_25, e276_26, e276_28, e276_31, e276_32, e276_35, e276_37, e276_38, e276_40, e276_41, e276_43, e276_46, e276_47, e276_49, e276_50, e276_51, e276_52, e276_55, e276_56, e276_57, e276_58, e276_60, e276_61, e276_62, e276_66, e276_67, e276_70, e276_71, e276_73, e276_74, e276_75, e276_76, e276_77, e276_80, e276_81, e276_84, e276_85, e276_88, e276_90, e276_91, e276_92, e276_93, e276_94, e276_96, e276_97, e276_98, e276_99, e276_102, e276_105, e276_110, e276_111, e276_114, e276_117, e276_120, e276_121, e276_124, e276_126, e276_128, e276_129, e276_130, e276_131, e276_133, e276_134, e276_135, e276_136, e276_138, e276_139, e276_140, e276_141, e276_144, e276_145, e276_148, e276_150, e276_151, e276_152, e276_153, e276_154, e276_157, e276_158, e276_159, e276_162, e276_163, e276_166, e276_168, e276_169, e276_170, e276_173, e276_174, m276, ↓reduceIte, qg_0, qg_1, qg_2, qg_3, qg_4, qg_5, qg_6, qg_7, qg_8, qg_9, qg_10, qg_11, qg_12, qg_13, not_true_eq_false, not_false_eq_true, Nat.reduceBEq, Bool.false_eq_true, ex1, ex3, ex4, exF, qfit_i, qfit_l, qfit_r, qfit_n, qfit_b0, qfit_b1, qcat_i, qcat_r, qcat_n, qcat_l, qroom_0, qroom_c, List.map_cons, List.map_nil, List.sum_cons, List.sum_nil, Nat.reduceAdd, Nat.reduceMul, Nat.reduceLT, Nat.reduceLeDiff, Nat.reduceEqDiff, Nat.reduceSub, decide_true, true_and, and_true, and_self, if_true, if_false, Option.toList_some, Option.toList_none, List.cons_append, List.nil_append, qsL, qlong, List.length_cons, List.length_nil, iN_L, vM1, vM2, exI, iN_add, iN_mul, iN_le, iN_lt, iN_eq, Nat.le_refl, qfN0, qfN1]
  | succ m ih =>
    intro c hc
    have hcn : c < n := by omega
    by_cases q : okN adj r k c = true
    · refine ⟨c, ⟨Nat.le_refl _, by omega⟩, fun b h1 h2 => by omega, fun _ => q, fun R => ?_⟩
      unfold okN at q
      rw [Bool.and_eq_true, Bool.not_eq_true'] at q
      have b0 := bit0 (m := mask (inR r k) n) (p := c) (m16 _) (by omega) (by rw [bitv _ c hcn]; exact q.1)
      have b1 := bit1 (m := mask (adj (r (k - 1))) n) (p := c) (m16 _) (by omega) (by rw [bitv _ c hcn]; exact q.2)
      rw [e276_64]
      simp (disch := first | assumption | omega) only [e276_0, e276_1, e276_4, e276_5, e276_6, e276_7, e276_8, e276_11, e276_12, e276_13, e276_14, e276_15, e276_16, e276_17, e276_19, e276_20, e276_23, e276_24, e276_25, e276_26, e276_28, e276_31, e276_32, e276_35, e276_37, e276_38, e276_40, e276_41, e276_43, e276_46, e276_47, e276_49, e276_50, e276_51, e276_52, e276_55, e276_56, e276_57, e276_58, e276_60, e276_61, e276_62, e276_66, e276_67, e276_70, e276_71, e276_73, e276_74, e276_75, e276_76, e276_77, e276_80, e276_81, e276_84, e276_85, e276_88, e276_90, e276_91, e276_92, e276_93, e276_94, e276_96, e276_97, e276_98, e276_99, e276_102, e276_105, e276_110, e276_111, e276_114, e276_117, e276_120, e276_121, e276_124, e276_126, e276_128, e276_129, e276_130, e276_131, e276_133, e276_134, e276_135, e276_136, e276_138, e276_139, e276_140, e276_141, e276_144, e276_145, e276_148, e276_150, e276_151, e276_152, e276_153, e276_154, e276_157, e276_158, e276_159, e276_162, e276_163, e276_166, e276_168, e276_169, e276_170, e276_173, e276_174, m276, ↓reduceIte, qg_0, qg_1, qg_2, qg_3, qg_4, qg_5, qg_6, qg_7, qg_8, qg_9, qg_10, qg_11, qg_12, qg_13, not_true_eq_false, not_false_eq_true, Nat.reduceBEq, Bool.false_eq_true, ex1, ex3, ex4, exF, qfit_i, qfit_l, qfit_r, qfit_n, qfit_b0, qfit_b1, qcat_i, qcat_r, qcat_n, qcat_l, qroom_0, qroom_c, List.map_cons, List.map_nil, List.sum_cons, List.sum_nil, Nat.reduceAdd, Nat.reduceMul, Nat.reduceLT, Nat.reduceLeDiff, Nat.reduceEqDiff, Nat.reduceSub, decide_true, true_and, and_true, and_self, if_true, if_false, Option.toList_some, Option.toList_none, List.cons_append, List.nil_append, qsL, qlong, List.length_cons, List.length_nil, iN_L, vM1, vM2, exI, iN_add, iN_mul, iN_le, iN_lt, iN_eq, Nat.le_refl, qfN0, qfN1, show ¬ n ≤ c by omega, b0, show ¬ iN 0 = iN 1 by decide, gM_37, gM_40, iN_sub, rM_85, ph, rM_82, vb, b1, iN10]
    · obtain ⟨c', ⟨a1, a2⟩, a3, a4, a5⟩ := ih (c + 1) (by omega)
      refine ⟨c', ⟨by omega, a2⟩, fun b h1 h2 => ?_, a4, fun R => ?_⟩
      · by_cases e : b = c
        · rw [e]; cases w : okN adj r k c with | false => rfl | true => exact absurd w q
        · exact a3 b (by omega) h2
      · rw [← a5 R, e276_64]
        cases u : inR r k c with
        | true =>
          have b1 := bit1 (m := mask (inR r k) n) (p := c) (m16 _) (by omega) (by rw [bitv _ c hcn]; exact u)
          simp (disch := first | assumption | omega) only [e276_0, e276_1, e276_4, e276_5, e276_6, e276_7, e276_8, e276_11, e276_12, e276_13, e276_14, e276_15, e276_16, e276_17, e276_19, e276_20, e276_23, e276_24, e276_25, e276_26, e276_28, e276_31, e276_32, e276_35, e276_37, e276_38, e276_40, e276_41, e276_43, e276_46, e276_47, e276_49, e276_50, e276_51, e276_52, e276_55, e276_56, e276_57, e276_58, e276_60, e276_61, e276_62, e276_66, e276_67, e276_70, e276_71, e276_73, e276_74, e276_75, e276_76, e276_77, e276_80, e276_81, e276_84, e276_85, e276_88, e276_90, e276_91, e276_92, e276_93, e276_94, e276_96, e276_97, e276_98, e276_99, e276_102, e276_105, e276_110, e276_111, e276_114, e276_117, e276_120, e276_121, e276_124, e276_126, e276_128, e276_129, e276_130, e276_131, e276_133, e276_134, e276_135, e276_136, e276_138, e276_139, e276_140, e276_141, e276_144, e276_145, e276_148, e276_150, e276_151, e276_152, e276_153, e276_154, e276_157, e276_158, e276_159, e276_162, e276_163, e276_166, e276_168, e276_169, e276_170, e276_173, e276_174, m276, ↓reduceIte, qg_0, qg_1, qg_2, qg_3, qg_4, qg_5, qg_6, qg_7, qg_8, qg_9, qg_10, qg_11, qg_12, qg_13, not_true_eq_false, not_false_eq_true, Nat.reduceBEq, Bool.false_eq_true, ex1, ex3, ex4, exF, qfit_i, qfit_l, qfit_r, qfit_n, qfit_b0, qfit_b1, qcat_i, qcat_r, qcat_n, qcat_l, qroom_0, qroom_c, List.map_cons, List.map_nil, List.sum_cons, List.sum_nil, Nat.reduceAdd, Nat.reduceMul, Nat.reduceLT, Nat.reduceLeDiff, Nat.reduceEqDiff, Nat.reduceSub, decide_true, true_and, and_true, and_self, if_true, if_false, Option.toList_some, Option.toList_none, List.cons_append, List.nil_append, qsL, qlong, List.length_cons, List.length_nil, iN_L, vM1, vM2, exI, iN_add, iN_mul, iN_le, iN_lt, iN_eq, Nat.le_refl, qfN0, qfN1, show ¬ n ≤ c by omega, b1]
        | false =>
          have b0 := bit0 (m := mask (inR r k) n) (p := c) (m16 _) (by omega) (by rw [bitv _ c hcn]; exact u)
          have w : adj (r (k - 1)) c = false := by
            cases w : adj (r (k - 1)) c with
            | false => rfl
            | true => exact absurd (show okN adj r k c = true by unfold okN; rw [u, w]; rfl) q
          have b2 := bit0 (m := mask (adj (r (k - 1))) n) (p := c) (m16 _) (by omega) (by rw [bitv _ c hcn]; exact w)
          simp (disch := first | assumption | omega) only [e276_0, e276_1, e276_4, e276_5, e276_6, e276_7, e276_8, e276_11, e276_12, e276_13, e276_14, e276_15, e276_16, e276_17, e276_19, e276_20, e276_23, e276_24, e276_25, e276_26, e276_28, e276_31, e276_32, e276_35, e276_37, e276_38, e276_40, e276_41, e276_43, e276_46, e276_47, e276_49, e276_50, e276_51, e276_52, e276_55, e276_56, e276_57, e276_58, e276_60, e276_61, e276_62, e276_66, e276_67, e276_70, e276_71, e276_73, e276_74, e276_75, e276_76, e276_77, e276_80, e276_81, e276_84, e276_85, e276_88, e276_90, e276_91, e276_92, e276_93, e276_94, e276_96, e276_97, e276_98, e276_99, e276_102, e276_105, e276_110, e276_111, e276_114, e276_117, e276_120, e276_121, e276_124, e276_126, e276_128, e276_129, e276_130, e276_131, e276_133, e276_134, e276_135, e276_136, e276_138, e276_139, e276_140, e276_141, e276_144, e276_145, e276_148, e276_150, e276_151, e276_152, e276_153, e276_154, e276_157, e276_158, e276_159, e276_162, e276_163, e276_166, e276_168, e276_169, e276_170, e276_173, e276_174, m276, ↓reduceIte, qg_0, qg_1, qg_2, qg_3, qg_4, qg_5, qg_6, qg_7, qg_8, qg_9, qg_10, qg_11, qg_12, qg_13, not_true_eq_false, not_false_eq_true, Nat.reduceBEq, Bool.false_eq_true, ex1, ex3, ex4, exF, qfit_i, qfit_l, qfit_r, qfit_n, qfit_b0, qfit_b1, qcat_i, qcat_r, qcat_n, qcat_l, qroom_0, qroom_c, List.map_cons, List.map_nil, List.sum_cons, List.sum_nil, Nat.reduceAdd, Nat.reduceMul, Nat.reduceLT, Nat.reduceLeDiff, Nat.reduceEqDiff, Nat.reduceSub, decide_true, true_and, and_true, and_self, if_true, if_false, Option.toList_some, Option.toList_none, List.cons_append, List.nil_append, qsL, qlong, List.length_cons, List.length_nil, iN_L, vM1, vM2, exI, iN_add, iN_mul, iN_le, iN_lt, iN_eq, Nat.le_refl, qfN0, qfN1, show ¬ n ≤ c by omega, b0, show ¬ iN 0 = iN 1 by decide, gM_37, gM_40, iN_sub, rM_85, ph, rM_82, vb, b2]
set_option maxRecDepth 100000 in
set_option maxHeartbeats 16000000 in
/-- up to the scan -/
theorem rg_head {i k s : Nat} {r : Nat → Nat} {g : Nat → Int32} {x5 x6 : Option Value} (sh : ShM h) (h16 : n ≤ 16) (hk : 1 ≤ k) (hkn : k < n) (hs : s ≤ n) (hg : g k = kv s) (hn : 0 < s → inR r k (s - 1) = false) (R : qRes) : qEv d 3 qk_276 26 [some (.ref 55), some (.int (iN i)), some (.int (iN n)), some (.int (iN (mask (usR r k s) n))), some (.int (iN k)), x5, x6] [] (sI h 85 g) R ↔ qEv d 3 qk_276 64 [some (.ref 55), some (.int (iN i)), some (.int (iN n)), some (.int (iN (mask (inR r k) n))), some (.int (iN k)), some (.int (kv s)), some (.int (iN s))] [] (sI h 85 g) R := by
  have m16 : ∀ f, mask f n < 2147483648 := fun f => Nat.lt_trans (mask_16 h16) (by decide)
  have k85 := kM_85 sh
  have sg : ShM (sI h 85 g) := sh.rowI k85
  have ph : hi (sI h 85 g) 85 k = kv s := by rw [hi_sI, if_pos rfl]; exact hg
  rw [e276_26]
  rcases Nat.eq_zero_or_pos s with e | e
  · have em : mask (usR r k s) n = mask (inR r k) n := mask_ext fun c _ => by unfold usR; rw [e, decide_eq_false (by omega), Bool.or_false]
    have lt : kv s < iN 0 := (kv_lt (by omega)).mpr e
    rw [em]
    simp (disch := first | assumption | omega) only [e276_0, e276_1, e276_4, e276_5, e276_6, e276_7, e276_8, e276_11, e276_12, e276_13, e276_14, e276_15, e276_16, e276_17, e276_19, e276_20, e276_23, e276_24, e276_25, e276_28, e276_31, e276_32, e276_35, e276_37, e276_38, e276_40, e276_41, e276_43, e276_46, e276_47, e276_49, e276_50, e276_51, e276_52, e276_55, e276_56, e276_57, e276_58, e276_60, e276_61, e276_62, e276_66, e276_67, e276_70, e276_71, e276_73, e276_74, e276_75, e276_76, e276_77, e276_80, e276_81, e276_84, e276_85, e276_88, e276_90, e276_91, e276_92, e276_93, e276_94, e276_96, e276_97, e276_98, e276_99, e276_102, e276_105, e276_108, e276_110, e276_111, e276_114, e276_117, e276_120, e276_121, e276_124, e276_126, e276_128, e276_129, e276_130, e276_131, e276_133, e276_134, e276_135, e276_136, e276_138, e276_139, e276_140, e276_141, e276_144, e276_145, e276_148, e276_150, e276_151, e276_152, e276_153, e276_154, e276_157, e276_158, e276_159, e276_162, e276_163, e276_166, e276_168, e276_169, e276_170, e276_173, e276_174, m276, ↓reduceIte, qg_0, qg_1, qg_2, qg_3, qg_4, qg_5, qg_6, qg_7, qg_8, qg_9, qg_10, qg_11, qg_12, qg_13, not_true_eq_false, not_false_eq_true, Nat.reduceBEq, Bool.false_eq_true, ex1, ex3, ex4, exF, qfit_i, qfit_l, qfit_r, qfit_n, qfit_b0, qfit_b1, qcat_i, qcat_r, qcat_n, qcat_l, qroom_0, qroom_c, List.map_cons, List.map_nil, List.sum_cons, List.sum_nil, Nat.reduceAdd, Nat.reduceMul, Nat.reduceLT, Nat.reduceLeDiff, Nat.reduceEqDiff, Nat.reduceSub, decide_true, true_and, and_true, and_self, if_true, if_false, Option.toList_some, Option.toList_none, List.cons_append, List.nil_append, qsL, qlong, List.length_cons, List.length_nil, iN_L, vM1, vM2, exI, iN_add, iN_mul, iN_le, iN_lt, iN_eq, Nat.le_refl, qfN0, qfN1, show ¬ k ≤ 0 by omega, gM_40, rM_85, ph, lt, and_m1, kv_up]
  · have lt : ¬ kv s < iN 0 := fun z => by have := (kv_lt (by omega)).mp z; omega
    have ek : kv s = iN (s - 1) := by
      match s, e with
      | s + 1, _ => rfl
    have em : wo (mask (usR r k s) n) (2 ^ (s - 1)) = mask (inR r k) n := by
      refine Nat.eq_of_testBit_eq fun c => ?_
      rw [wo_bit, mask_bit, mask_bit, Nat.testBit_two_pow]
      unfold usR
      by_cases q : s - 1 = c
      · rw [decide_eq_true q, ← q, hn e]; simp
      · rw [decide_eq_false q, decide_eq_false (show ¬ c + 1 = s by omega)]; simp
    have sh1 : iN 1 <<< (iN (s - 1) &&& iN 31) = iN (2 ^ (s - 1)) := iN_shl1 _ (by omega)
    rw [ek] at lt ph ⊢
    have up1 : iN (s - 1) + iN 1 = iN s := by rw [iN_add, show s - 1 + 1 = s by omega]
    simp (disch := first | assumption | omega) only [e276_0, e276_1, e276_4, e276_5, e276_6, e276_7, e276_8, e276_11, e276_12, e276_13, e276_14, e276_15, e276_16, e276_17, e276_19, e276_20, e276_23, e276_24, e276_25, e276_28, e276_31, e276_32, e276_35, e276_37, e276_38, e276_40, e276_41, e276_43, e276_46, e276_47, e276_49, e276_50, e276_51, e276_52, e276_55, e276_56, e276_57, e276_58, e276_60, e276_61, e276_62, e276_66, e276_67, e276_70, e276_71, e276_73, e276_74, e276_75, e276_76, e276_77, e276_80, e276_81, e276_84, e276_85, e276_88, e276_90, e276_91, e276_92, e276_93, e276_94, e276_96, e276_97, e276_98, e276_99, e276_102, e276_105, e276_108, e276_110, e276_111, e276_114, e276_117, e276_120, e276_121, e276_124, e276_126, e276_128, e276_129, e276_130, e276_131, e276_133, e276_134, e276_135, e276_136, e276_138, e276_139, e276_140, e276_141, e276_144, e276_145, e276_148, e276_150, e276_151, e276_152, e276_153, e276_154, e276_157, e276_158, e276_159, e276_162, e276_163, e276_166, e276_168, e276_169, e276_170, e276_173, e276_174, m276, ↓reduceIte, qg_0, qg_1, qg_2, qg_3, qg_4, qg_5, qg_6, qg_7, qg_8, qg_9, qg_10, qg_11, qg_12, qg_13, not_true_eq_false, not_false_eq_true, Nat.reduceBEq, Bool.false_eq_true, ex1, ex3, ex4, exF, qfit_i, qfit_l, qfit_r, qfit_n, qfit_b0, qfit_b1, qcat_i, qcat_r, qcat_n, qcat_l, qroom_0, qroom_c, List.map_cons, List.map_nil, List.sum_cons, List.sum_nil, Nat.reduceAdd, Nat.reduceMul, Nat.reduceLT, Nat.reduceLeDiff, Nat.reduceEqDiff, Nat.reduceSub, decide_true, true_and, and_true, and_self, if_true, if_false, Option.toList_some, Option.toList_none, List.cons_append, List.nil_append, qsL, qlong, List.length_cons, List.length_nil, iN_L, vM1, vM2, iN_le, show ¬ k ≤ 0 by omega, gM_40, rM_85, ph, lt, sh1, iN_wo', em, up1]
end RING

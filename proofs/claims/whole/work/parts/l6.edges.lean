/-! ===== THE CLASS: edges, ridges ===== -/
section XEDGES
variable {d D : Nat} {h : qH} {R : qRes} {l : List pt4}
theorem ChX.drop {A : List Nat} {J : List (Nat × Nat)} {k a : Nat} {h' : qH} (c : ChX (a :: A) J k h h') (ha : h.2.1 ≤ a) : ChX A J k h h' := ⟨c.1, fun b h1 h2 h3 => c.2.1 b (fun z => by
  rcases List.mem_cons.mp z with z | z
  · omega
  · exact h1 z) h2 h3, c.2.2⟩
theorem ChX.eq0 {A : List Nat} {J : List (Nat × Nat)} {h' : qH} (c : ChX A J 0 h h') : h'.2.1 = h.2.1 := by
  have := c.1.2.1
  have := c.1.2.2.1
  omega
/-- pairs of a kind, the greater ahead *-/
def edT (P : Nat → Nat → Bool) : Nat → List Nat
  | 0 => []
  | n + 1 => edT P n ++ (pickN (P n) n).map fun lo => 2 ^ n ||| 2 ^ lo
theorem edT_mem {P : Nat → Nat → Bool} {x : Nat} : ∀ {n : Nat}, x ∈ edT P n ↔ ∃ hi lo, lo < hi ∧ hi < n ∧ P hi lo = true ∧ x = 2 ^ hi ||| 2 ^ lo
  | 0 => ⟨fun z => (by cases z), fun ⟨_, _, _, z, _⟩ => absurd z (Nat.not_lt_zero _)⟩
  | n + 1 => by
    rw [edT, List.mem_append, edT_mem (n := n), List.mem_map]
    constructor
    · rintro (⟨a, b, h1, h2, h3, h4⟩ | ⟨lo, h1, h2⟩)
      · exact ⟨a, b, h1, by omega, h3, h4⟩
      · obtain ⟨h3, h4⟩ := pickN_mem.mp h1
        exact ⟨n, lo, h3, by omega, h4, h2.symm⟩
    · rintro ⟨a, b, h1, h2, h3, h4⟩
      by_cases e : a = n
      · subst e; exact Or.inr ⟨b, pickN_mem.mpr ⟨h1, h3⟩, h4.symm⟩
      · exact Or.inl ⟨a, b, h1, by omega, h3, h4⟩
theorem pr_add {n lo : Nat} (h : lo < n) : 2 ^ n ||| 2 ^ lo = 2 ^ n + 2 ^ lo := by
  have := Nat.two_pow_add_eq_or_of_lt (Nat.pow_lt_pow_right (show 1 < 2 by decide) h) 1
  rw [Nat.mul_one] at this
  exact this.symm
theorem edT_lt {P : Nat → Nat → Bool} {x n : Nat} (h : x ∈ edT P n) : x < 2 ^ n := by
  obtain ⟨a, b, h1, h2, -, h4⟩ := edT_mem.mp h
  rw [h4, pr_add h1]
  have e1 : 2 ^ (a + 1) = 2 ^ a + 2 ^ a := by rw [Nat.pow_succ]; omega
  have e2 : 2 ^ b < 2 ^ a := Nat.pow_lt_pow_right (by decide) h1
  have e3 : 2 ^ (a + 1) ≤ 2 ^ n := Nat.pow_le_pow_right (by decide) (by omega)
  omega
theorem edT_srt (P : Nat → Nat → Bool) : ∀ n, (edT P n).Pairwise (· < ·)
  | 0 => List.Pairwise.nil
  | n + 1 => by
    rw [edT, List.pairwise_append]
    refine ⟨edT_srt P n, ?_, fun a ha b hb => ?_⟩
    · rw [List.pairwise_map]
      refine List.Pairwise.imp_of_mem ?_ (pickN_srt (P n) n)
      intro a b ha hb hab
      have h1 := (pickN_mem.mp ha).1
      have h2 := (pickN_mem.mp hb).1
      rw [pr_add h1, pr_add h2]
      have : 2 ^ a < 2 ^ b := Nat.pow_lt_pow_right (by decide) hab
      omega
    · obtain ⟨lo, h1, h2⟩ := List.mem_map.mp hb
      have h3 := edT_lt ha
      have h4 : 2 ^ n ≤ b := by rw [← h2]; exact Nat.left_le_or
      omega
theorem edT_len (P : Nat → Nat → Bool) : ∀ n, 2 * (edT P n).length ≤ n * n
  | 0 => Nat.le_refl _
  | n + 1 => by
    have h1 := edT_len P n
    have h2 := cntN_le (p := P n) (n := n)
    rw [edT, List.length_append, List.length_map, pickN_len, Nat.mul_add, show (n + 1) * (n + 1) = n * n + 2 * n + 1 by grind]
    omega
/-- the row of what was found -/
def FoL (h : qH) (L : List Nat) : Prop := ∀ k, k < L.length → hi h 26 k = iN (L.getD k 0)
theorem fo_add {L : List Nat} {x : Nat} (s : ShX h) (v : FoL h L) (hl : L.length < 208) : ∃ h', qiast h 26 (iN L.length) (iN x) = some h' ∧ ChX [26] [] 0 h h' ∧ FoL h' (L ++ [x]) := by
  refine ⟨_, wX_26 s hl, ChX.rowI s (kX_26 s) (by decide) (by decide), fun k hk => ?_⟩
  rw [List.length_append] at hk
  have hk' : k < L.length + 1 := hk
  rw [hi_sI, if_pos rfl, getD_snoc hk']
  show (if k = L.length then iN x else hi h 26 k) = _
  by_cases e : k = L.length
  · rw [if_pos e, if_pos e]
  · rw [if_neg e, if_neg e]; exact v k (by omega)
/-- a new row of ints that is a list -/
def NwL (h' : qH) (e : Nat) (L : List Nat) : Prop := 97 ≤ e ∧ kI h' e L.length ∧ ∀ k, k < L.length → hi h' e k = iN (L.getD k 0)
set_option maxRecDepth 100000 in
set_option maxHeartbeats 16000000 in
theorem x_edges {r m nc : Nat} {F : Nat → Nat} (s : ShX h) (kr : kI h r m) (r26 : r ≠ 26) (rX : r ∉ XO) (hm : m < 100000) (hnc : nc ≤ 16) (h1n : 1 ≤ nc) (hF : ∀ j, j < m → hi h r j = iN (F j) ∧ F j < 65536) : ∃ h' e, (∀ R, qMC (d + 3) 40 [.ref 19, .int (iN nc), .ref r] h R ↔ R = (some (.ref e), h')) ∧ ChX [26] [] 2 h h' ∧ h.2.1 ≤ e ∧ NwL h' e (edT (fun hi lo => decide (cmS F (2 ^ hi ||| 2 ^ lo) m = some (2 ^ hi ||| 2 ^ lo))) nc) := by
  obtain ⟨P, eP⟩ : ∃ P : Nat → Nat → Bool, P = fun hi lo => decide (cmS F (2 ^ hi ||| 2 ^ lo) m = some (2 ^ hi ||| 2 ^ lo)) := ⟨_, rfl⟩
  rw [← eP]
  have inner : ∀ (hg w lo : Nat) (L : List Nat) (h1 : qH) (x6 : Option Value), hg < nc → lo + w = hg → L = edT P hg ++ (pickN (P hg) lo).map (fun lo => 2 ^ hg ||| 2 ^ lo) → ChX [26] [] 0 h h1 → FoL h1 L → ∃ h2 x6', (∀ R, qEv (d + 2) 2 qk_40 14 [some (.ref 19), some (.int (iN nc)), some (.ref r), some (.int (iN L.length)), some (.int (iN hg)), some (.int (iN lo)), x6] [] h1 R ↔ qEv (d + 2) 2 qk_40 5 [some (.ref 19), some (.int (iN nc)), some (.ref r), some (.int (iN ((edT P (hg + 1)).length))), some (.int (iN (hg + 1))), some (.int (iN hg)), x6'] [] h2 R) ∧ ChX [26] [] 0 h h2 ∧ FoL h2 (edT P (hg + 1)) := by
    intro hg w
    induction w with
    | zero =>
      intro lo L h1 x6 hh hlo eL ch1 fo
      have e : lo = hg := by omega
      subst e
      have eL' : L = edT P (lo + 1) := eL
      have s1 := ch1.sh
      refine ⟨h1, x6, fun R => ?_, ch1, by rw [← eL']; exact fo⟩
      rw [← eL', e40_14]
      simp (disch := first | assumption | omega) only [e40_0, e40_1, e40_2, e40_3, e40_7, e40_8, e40_11, e40_12, e40_16, e40_18, e40_21, e40_22, e40_24, e40_25, e40_26, e40_28, e40_29, e40_30, e40_32, e40_34, e40_35, e40_36, e40_37, e40_40, e40_42, e40_45, e40_46, e40_47, e40_50, e40_51, e40_54, e40_55, e40_58, e40_59, e40_61, e40_62, e40_65, e40_68, e40_71, e40_74, e40_77, e40_78, e40_81, e40_82, e40_85, e40_85N, m40, ↓reduceIte, qg_0, qg_1, qg_2, qg_3, qg_4, qg_5, qg_6, qg_7, qg_8, qg_9, qg_10, qg_11, qg_12, qg_13, not_true_eq_false, not_false_eq_true, Nat.reduceBEq, Bool.false_eq_true, ex1, ex3, ex4, exF, qfit_i, qfit_l, qfit_r, qfit_n, qfit_b0, qfit_b1, qcat_i, qcat_r, qcat_n, qcat_l, qroom_0, qroom_c, List.map_cons, List.map_nil, List.sum_cons, List.sum_nil, Nat.reduceAdd, Nat.reduceMul, Nat.reduceLT, Nat.reduceLeDiff, Nat.reduceEqDiff, Nat.reduceSub, decide_true, true_and, and_true, and_self, if_true, if_false, Option.toList_some, Option.toList_none, List.cons_append, List.nil_append, qsL, qlong, List.length_cons, List.length_nil, iN_L, exI, iN_add, iN_mul, iN_le, iN_lt, iN_eq, Nat.le_refl, qfN0, qfN1, uX_16, vX_16, uX_19, vX_19, uX_27, vX_27, uX_30, vX_30, uX_39, vX_39, uX_41, vX_41, uX_43, vX_43, uX_46, vX_46, uX_50, vX_50, uX_53, vX_53]
    | succ w ih =>
      intro lo L h1 x6 hh hlo eL ch1 fo
      have s1 := ch1.sh
      obtain ⟨kr1, hr1⟩ := chI ch1 kr (fun z => r26 (List.mem_singleton.mp z)) s
      obtain ⟨pr, epr⟩ : ∃ pr, pr = 2 ^ hg ||| 2 ^ lo := ⟨_, rfl⟩
      have p16 : pr < 65536 := by rw [epr]; exact Nat.or_lt_two_pow (n := 16) (Nat.pow_lt_pow_right (by decide) (by omega)) (Nat.pow_lt_pow_right (by decide) (by omega))
      have sh1 := iN_shl1 hg (by omega)
      have sh2 := iN_shl1 lo (by omega)
      have ln := lnI kr1
      have hF1 : ∀ j, j < m → hi h1 r j = iN (F j) ∧ F j < 65536 := fun j hj => by rw [hr1]; exact hF j hj
      have cm : ∀ R, qMC (d + 2) 36 [.int (iN pr), .ref r, .int (iN m)] h1 R ↔ R = (some (.int (cmE (cmS F pr m))), h1) := fun R => x_commonTo s1 kr1 (Nat.le_refl _) hm p16 hF1
      have ce := cmE_eq (F := F) (m := m) p16 fun j hj => (hF j hj).2
      have eo : 2 ^ hg ||| 2 ^ lo = pr := epr.symm
      have Ll : 2 * L.length ≤ 256 := by
        have q1 := edT_len P hg
        have q2 := cntN_le (p := P hg) (n := lo)
        have q3 : hg * hg ≤ 15 * 15 := Nat.mul_le_mul (by omega) (by omega)
        rw [eL, List.length_append, List.length_map, pickN_len]
        omega
      have ln26 : qalen h1 26 = some (iN 208) := lnI (kX_26 s1)
      by_cases q : cmS F pr m = some pr
      · have pq : P hg lo = true := by rw [eP, epr] at *; exact decide_eq_true q
        obtain ⟨h2, w2, c2, fo2⟩ := fo_add (x := pr) s1 fo (by omega)
        have e1 := ce.mpr q
        have eL2 : L ++ [pr] = edT P hg ++ (pickN (P hg) (lo + 1)).map (fun lo => 2 ^ hg ||| 2 ^ lo) := by
          rw [pickN, if_pos pq, List.map_append, ← List.append_assoc, ← eL, epr]; rfl
        obtain ⟨h3, x6', r3, c3, fo3⟩ := ih (lo + 1) (L ++ [pr]) h2 (some (.int (iN pr))) hh (by omega) eL2 (ch1.trans0 c2) fo2
        refine ⟨h3, x6', fun R => ?_, c3, fo3⟩
        have ll : (L ++ [pr]).length = L.length + 1 := by rw [List.length_append]; rfl
        rw [ll] at r3
        rw [← r3 R, e40_14]
        simp (disch := first | assumption | omega) only [e40_0, e40_1, e40_2, e40_3, e40_7, e40_8, e40_11, e40_12, e40_16, e40_18, e40_21, e40_22, e40_24, e40_25, e40_26, e40_28, e40_29, e40_30, e40_32, e40_34, e40_35, e40_36, e40_37, e40_40, e40_42, e40_45, e40_46, e40_47, e40_50, e40_51, e40_54, e40_55, e40_58, e40_59, e40_61, e40_62, e40_65, e40_68, e40_71, e40_74, e40_77, e40_78, e40_81, e40_82, e40_85, e40_85N, m40, ↓reduceIte, qg_0, qg_1, qg_2, qg_3, qg_4, qg_5, qg_6, qg_7, qg_8, qg_9, qg_10, qg_11, qg_12, qg_13, not_true_eq_false, not_false_eq_true, Nat.reduceBEq, Bool.false_eq_true, ex1, ex3, ex4, exF, qfit_i, qfit_l, qfit_r, qfit_n, qfit_b0, qfit_b1, qcat_i, qcat_r, qcat_n, qcat_l, qroom_0, qroom_c, List.map_cons, List.map_nil, List.sum_cons, List.sum_nil, Nat.reduceAdd, Nat.reduceMul, Nat.reduceLT, Nat.reduceLeDiff, Nat.reduceEqDiff, Nat.reduceSub, decide_true, true_and, and_true, and_self, if_true, if_false, Option.toList_some, Option.toList_none, List.cons_append, List.nil_append, qsL, qlong, List.length_cons, List.length_nil, iN_L, exI, iN_add, iN_mul, iN_le, iN_lt, iN_eq, Nat.le_refl, qfN0, qfN1, uX_16, vX_16, uX_19, vX_19, uX_27, vX_27, uX_30, vX_30, uX_39, vX_39, uX_41, vX_41, uX_43, vX_43, uX_46, vX_46, uX_50, vX_50, uX_53, vX_53, show ¬ hg ≤ lo by omega, sh1, sh2, iN_or, eo, ln, cm, e1, gX_19_10, ln26, show ¬ 208 ≤ L.length by omega, w2]
      · have pq : P hg lo = false := by rw [eP, epr] at *; exact decide_eq_false q
        have e1 : ¬ cmE (cmS F pr m) = iN pr := fun z => q (ce.mp z)
        have eL2 : L = edT P hg ++ (pickN (P hg) (lo + 1)).map (fun lo => 2 ^ hg ||| 2 ^ lo) := by
          rw [pickN, pq, if_neg Bool.false_ne_true]; exact eL
        obtain ⟨h3, x6', r3, c3, fo3⟩ := ih (lo + 1) L h1 (some (.int (iN pr))) hh (by omega) eL2 ch1 fo
        refine ⟨h3, x6', fun R => ?_, c3, fo3⟩
        rw [← r3 R, e40_14]
        simp (disch := first | assumption | omega) only [e40_0, e40_1, e40_2, e40_3, e40_7, e40_8, e40_11, e40_12, e40_16, e40_18, e40_21, e40_22, e40_24, e40_25, e40_26, e40_28, e40_29, e40_30, e40_32, e40_34, e40_35, e40_36, e40_37, e40_40, e40_42, e40_45, e40_46, e40_47, e40_50, e40_51, e40_54, e40_55, e40_58, e40_59, e40_61, e40_62, e40_65, e40_68, e40_71, e40_74, e40_77, e40_78, e40_81, e40_82, e40_85, e40_85N, m40, ↓reduceIte, qg_0, qg_1, qg_2, qg_3, qg_4, qg_5, qg_6, qg_7, qg_8, qg_9, qg_10, qg_11, qg_12, qg_13, not_true_eq_false, not_false_eq_true, Nat.reduceBEq, Bool.false_eq_true, ex1, ex3, ex4, exF, qfit_i, qfit_l, qfit_r, qfit_n, qfit_b0, qfit_b1, qcat_i, qcat_r, qcat_n, qcat_l, qroom_0, qroom_c, List.map_cons, List.map_nil, List.sum_cons, List.sum_nil, Nat.reduceAdd, Nat.reduceMul, Nat.reduceLT, Nat.reduceLeDiff, Nat.reduceEqDiff, Nat.reduceSub, decide_true, true_and, and_true, and_self, if_true, if_false, Option.toList_some, Option.toList_none, List.cons_append, List.nil_append, qsL, qlong, List.length_cons, List.length_nil, iN_L, exI, iN_add, iN_mul, iN_le, iN_lt, iN_eq, Nat.le_refl, qfN0, qfN1, uX_16, vX_16, uX_19, vX_19, uX_27, vX_27, uX_30, vX_30, uX_39, vX_39, uX_41, vX_41, uX_43, vX_43, uX_46, vX_46, uX_50, vX_50, uX_53, vX_53, show ¬ hg ≤ lo by omega, sh1, sh2, iN_or, eo, ln, cm, e1]
  have outer : ∀ (w hg : Nat) (h1 : qH) (x5 x6 : Option Value), hg + w = nc → ChX [26] [] 0 h h1 → FoL h1 (edT P hg) → ∃ h2 x5' x6', (∀ R, qEv (d + 2) 2 qk_40 5 [some (.ref 19), some (.int (iN nc)), some (.ref r), some (.int (iN ((edT P hg).length))), some (.int (iN hg)), x5, x6] [] h1 R ↔ qEv (d + 2) 2 qk_40 5 [some (.ref 19), some (.int (iN nc)), some (.ref r), some (.int (iN ((edT P nc).length))), some (.int (iN nc)), x5', x6'] [] h2 R) ∧ ChX [26] [] 0 h h2 ∧ FoL h2 (edT P nc) := by
    intro w
    induction w with
    | zero =>
      intro hg h1 x5 x6 hw ch1 fo
      have e : hg = nc := by omega
      subst e
      exact ⟨h1, x5, x6, fun R => Iff.rfl, ch1, fo⟩
    | succ w ih =>
      intro hg h1 x5 x6 hw ch1 fo
      have s1 := ch1.sh
      obtain ⟨h2, x6', r2, c2, fo2⟩ := inner hg hg 0 (edT P hg) h1 x6 (by omega) (by omega) (by show _ = edT P hg ++ []; rw [List.append_nil]) ch1 fo
      obtain ⟨h3, x5', x6'', r3, c3, fo3⟩ := ih (hg + 1) h2 (some (.int (iN hg))) x6' (by omega) c2 fo2
      refine ⟨h3, x5', x6'', fun R => ?_, c3, fo3⟩
      rw [← r3 R, ← r2 R, e40_5]
      simp (disch := first | assumption | omega) only [e40_0, e40_1, e40_2, e40_3, e40_7, e40_8, e40_11, e40_12, e40_16, e40_18, e40_21, e40_22, e40_24, e40_25, e40_26, e40_28, e40_29, e40_30, e40_32, e40_34, e40_35, e40_36, e40_37, e40_40, e40_42, e40_45, e40_46, e40_47, e40_50, e40_51, e40_54, e40_55, e40_58, e40_59, e40_61, e40_62, e40_65, e40_68, e40_71, e40_74, e40_77, e40_78, e40_81, e40_82, e40_85, e40_85N, m40, ↓reduceIte, qg_0, qg_1, qg_2, qg_3, qg_4, qg_5, qg_6, qg_7, qg_8, qg_9, qg_10, qg_11, qg_12, qg_13, not_true_eq_false, not_false_eq_true, Nat.reduceBEq, Bool.false_eq_true, ex1, ex3, ex4, exF, qfit_i, qfit_l, qfit_r, qfit_n, qfit_b0, qfit_b1, qcat_i, qcat_r, qcat_n, qcat_l, qroom_0, qroom_c, List.map_cons, List.map_nil, List.sum_cons, List.sum_nil, Nat.reduceAdd, Nat.reduceMul, Nat.reduceLT, Nat.reduceLeDiff, Nat.reduceEqDiff, Nat.reduceSub, decide_true, true_and, and_true, and_self, if_true, if_false, Option.toList_some, Option.toList_none, List.cons_append, List.nil_append, qsL, qlong, List.length_cons, List.length_nil, iN_L, exI, iN_add, iN_mul, iN_le, iN_lt, iN_eq, Nat.le_refl, qfN0, qfN1, uX_16, vX_16, uX_19, vX_19, uX_27, vX_27, uX_30, vX_30, uX_39, vX_39, uX_41, vX_41, uX_43, vX_43, uX_46, vX_46, uX_50, vX_50, uX_53, vX_53, show ¬ nc ≤ hg by omega]
  have e1 : edT P 1 = [] := rfl
  obtain ⟨h1, x5, x6, r1, c1, fo1⟩ := outer (nc - 1) 1 h none none (by omega) (ChX.refl s) (fun k hk => by rw [e1] at hk; exact absurd hk (Nat.not_lt_zero k))
  have s1 := c1.sh
  have len := edT_len P nc
  have q3 : nc * nc ≤ 16 * 16 := Nat.mul_le_mul hnc hnc
  obtain ⟨h2, e, r2, c2, ee, ke, he⟩ := x_copyOf (d := d) (n := (edT P nc).length) s1 (kX_26 s1) (by omega) (by decide)
  have l1 := c1.eq0
  refine ⟨h2, e, fun R => ?_, ?_, by omega, by rw [ee]; exact ge97 s1, ke, fun k hk => by rw [he k hk]; exact fo1 k hk⟩
  · have r0 : qMC (d + 3) 40 [.ref 19, .int (iN nc), .ref r] h R ↔ qEv (d + 2) 2 qk_40 5 [some (.ref 19), some (.int (iN nc)), some (.ref r), some (.int (iN ((edT P 1).length))), some (.int (iN 1)), none, none] [] h R := by
      rw [e1]
      simp (disch := first | assumption | omega) only [e40_0, e40_1, e40_2, e40_3, e40_7, e40_8, e40_11, e40_12, e40_14, e40_16, e40_18, e40_21, e40_22, e40_24, e40_25, e40_26, e40_28, e40_29, e40_30, e40_32, e40_34, e40_35, e40_36, e40_37, e40_40, e40_42, e40_45, e40_46, e40_47, e40_50, e40_51, e40_54, e40_55, e40_58, e40_59, e40_61, e40_62, e40_65, e40_68, e40_71, e40_74, e40_77, e40_78, e40_81, e40_82, e40_85, e40_85N, m40, ↓reduceIte, qg_0, qg_1, qg_2, qg_3, qg_4, qg_5, qg_6, qg_7, qg_8, qg_9, qg_10, qg_11, qg_12, qg_13, not_true_eq_false, not_false_eq_true, Nat.reduceBEq, Bool.false_eq_true, ex1, ex3, ex4, exF, qfit_i, qfit_l, qfit_r, qfit_n, qfit_b0, qfit_b1, qcat_i, qcat_r, qcat_n, qcat_l, qroom_0, qroom_c, List.map_cons, List.map_nil, List.sum_cons, List.sum_nil, Nat.reduceAdd, Nat.reduceMul, Nat.reduceLT, Nat.reduceLeDiff, Nat.reduceEqDiff, Nat.reduceSub, decide_true, true_and, and_true, and_self, if_true, if_false, Option.toList_some, Option.toList_none, List.cons_append, List.nil_append, qsL, qlong, List.length_cons, List.length_nil, iN_L, exI, iN_add, iN_mul, iN_le, iN_lt, iN_eq, Nat.le_refl, qfN0, qfN1, uX_16, vX_16, uX_19, vX_19, uX_27, vX_27, uX_30, vX_30, uX_39, vX_39, uX_41, vX_41, uX_43, vX_43, uX_46, vX_46, uX_50, vX_50, uX_53, vX_53]
    rw [r0, r1 R, e40_5]
    simp (disch := first | assumption | omega) only [e40_0, e40_1, e40_2, e40_3, e40_7, e40_8, e40_11, e40_12, e40_16, e40_18, e40_21, e40_22, e40_24, e40_25, e40_26, e40_28, e40_29, e40_30, e40_32, e40_34, e40_35, e40_36, e40_37, e40_40, e40_42, e40_45, e40_46, e40_47, e40_50, e40_51, e40_54, e40_55, e40_58, e40_59, e40_61, e40_62, e40_65, e40_68, e40_71, e40_74, e40_77, e40_78, e40_81, e40_82, e40_85, e40_85N, m40, ↓reduceIte, qg_0, qg_1, qg_2, qg_3, qg_4, qg_5, qg_6, qg_7, qg_8, qg_9, qg_10, qg_11, qg_12, qg_13, not_true_eq_false, not_false_eq_true, Nat.reduceBEq, Bool.false_eq_true, ex1, ex3, ex4, exF, qfit_i, qfit_l, qfit_r, qfit_n, qfit_b0, qfit_b1, qcat_i, qcat_r, qcat_n, qcat_l, qroom_0, qroom_c, List.map_cons, List.map_nil, List.sum_cons, List.sum_nil, Nat.reduceAdd, Nat.reduceMul, Nat.reduceLT, Nat.reduceLeDiff, Nat.reduceEqDiff, Nat.reduceSub, decide_true, true_and, and_true, and_self, if_true, if_false, Option.toList_some, Option.toList_none, List.cons_append, List.nil_append, qsL, qlong, List.length_cons, List.length_nil, iN_L, exI, iN_add, iN_mul, iN_le, iN_lt, iN_eq, Nat.le_refl, qfN0, qfN1, uX_16, vX_16, uX_19, vX_19, uX_27, vX_27, uX_30, vX_30, uX_39, vX_39, uX_41, vX_41, uX_43, vX_43, uX_46, vX_46, uX_50, vX_50, uX_53, vX_53, gX_19_10, r2]
  · exact (c1.trans ((c2.drop (by omega)).mono (A' := [26]) (by intro x hx; cases hx) (fun _ z => z) (Nat.le_refl _))).mono (fun _ z => z) (fun _ z => z) (by omega)
set_option maxRecDepth 100000 in
set_option maxHeartbeats 16000000 in
theorem x_insertFound {m x : Nat} {T : Nat → Nat} (s : ShX h) (hm : m < 208) (hx : x < 65536) (hT : ∀ k, k < m → hi h 26 k = iN (T k) ∧ T k < 65536) : ∃ h', (∀ R, qMC (d + 1) 42 [.ref 19, .int (iN x), .int (iN m)] h R ↔ R = (none, h')) ∧ ChX [26] [] 0 h h' ∧ ∀ k, k < m + 1 → hi h' 26 k = iN (insN T x m k) := by
  obtain ⟨g0, eg0⟩ : ∃ g0, g0 = hi h 26 := ⟨_, rfl⟩
  obtain ⟨Hh, eH⟩ : ∃ Hh : Nat → qH, Hh = fun t => sI h 26 (fun k => if t < k ∧ k ≤ m then g0 (k - 1) else g0 k) := ⟨_, rfl⟩
  have k26 := kX_26 s
  have cH : ∀ t, ChX [26] [] 0 h (Hh t) := fun t => by rw [eH]; exact ChX.rowI s k26 (by decide) (by decide)
  have sH : ∀ t, ShX (Hh t) := fun t => (cH t).sh
  have Hm : h = Hh m := by
    rw [eH]
    have : (fun k => if m < k ∧ k ≤ m then g0 (k - 1) else g0 k) = hi h 26 := by funext k; rw [if_neg (by omega), eg0]
    show h = sI h 26 (fun k => if m < k ∧ k ≤ m then g0 (k - 1) else g0 k)
    rw [this, sI_id k26]
  have h26 : ∀ t k, k < t → t ≤ m → qiald (Hh t) 26 (iN k) = some (iN (T k)) := fun t k hk ht => by
    rw [rX_26 (sH t) (by omega), eH]
    show some (hi (sI h 26 _) 26 k) = _
    rw [hi_sI, if_pos rfl, if_neg (by omega), eg0, (hT k (by omega)).1]
  have down : ∀ t, t ≤ m → posI T x m = posI T x t → ∀ R, qEv d 4 qk_42 2 [some (.ref 19), some (.int (iN x)), some (.int (iN m)), some (.int (iN t))] [] (Hh t) R ↔ qEv d 4 qk_42 38 [some (.ref 19), some (.int (iN x)), some (.int (iN m)), some (.int (iN (posI T x m)))] [] (Hh (posI T x m)) R := by
    intro t
    induction t with
    | zero =>
      intro ht hp R
      have st := sH 0
      have e0 : posI T x m = 0 := hp
      rw [e0, e42_2]
      simp (disch := first | assumption | omega) only [e42_0, e42_1, e42_3, e42_6, e42_7, e42_10, e42_11, e42_12, e42_13, e42_14, e42_15, e42_18, e42_19, e42_22, e42_23, e42_24, e42_27, e42_28, e42_29, e42_30, e42_31, e42_32, e42_35, e42_39, e42_42, e42_43, e42_44, e42_45, m42, ↓reduceIte, qg_0, qg_1, qg_2, qg_3, qg_4, qg_5, qg_6, qg_7, qg_8, qg_9, qg_10, qg_11, qg_12, qg_13, not_true_eq_false, not_false_eq_true, Nat.reduceBEq, Bool.false_eq_true, ex1, ex3, ex4, exF, qfit_i, qfit_l, qfit_r, qfit_n, qfit_b0, qfit_b1, qcat_i, qcat_r, qcat_n, qcat_l, qroom_0, qroom_c, List.map_cons, List.map_nil, List.sum_cons, List.sum_nil, Nat.reduceAdd, Nat.reduceMul, Nat.reduceLT, Nat.reduceLeDiff, Nat.reduceEqDiff, Nat.reduceSub, decide_true, true_and, and_true, and_self, if_true, if_false, Option.toList_some, Option.toList_none, List.cons_append, List.nil_append, qsL, qlong, List.length_cons, List.length_nil, iN_L, exI, iN_add, iN_mul, iN_le, iN_lt, iN_eq, Nat.le_refl, qfN0, qfN1, uX_16, vX_16, uX_19, vX_19, uX_27, vX_27, uX_30, vX_30, uX_39, vX_39, uX_41, vX_41, uX_43, vX_43, uX_46, vX_46, uX_50, vX_50, uX_53, vX_53]
    | succ t ih =>
      intro ht hp R
      have st := sH (t + 1)
      have q1 := h26 (t + 1) t (by omega) ht
      have b1 := (hT t (by omega)).2
      have es : iN (t + 1) - iN 1 = iN t := by rw [iN_sub (by omega)]; rfl
      rw [posI] at hp
      by_cases z : T t ≤ x
      · rw [if_pos z] at hp
        rw [hp, e42_2]
        simp (disch := first | assumption | omega) only [e42_0, e42_1, e42_3, e42_6, e42_7, e42_10, e42_11, e42_12, e42_13, e42_14, e42_15, e42_18, e42_19, e42_22, e42_23, e42_24, e42_27, e42_28, e42_29, e42_30, e42_31, e42_32, e42_35, e42_39, e42_42, e42_43, e42_44, e42_45, m42, ↓reduceIte, qg_0, qg_1, qg_2, qg_3, qg_4, qg_5, qg_6, qg_7, qg_8, qg_9, qg_10, qg_11, qg_12, qg_13, not_true_eq_false, not_false_eq_true, Nat.reduceBEq, Bool.false_eq_true, ex1, ex3, ex4, exF, qfit_i, qfit_l, qfit_r, qfit_n, qfit_b0, qfit_b1, qcat_i, qcat_r, qcat_n, qcat_l, qroom_0, qroom_c, List.map_cons, List.map_nil, List.sum_cons, List.sum_nil, Nat.reduceAdd, Nat.reduceMul, Nat.reduceLT, Nat.reduceLeDiff, Nat.reduceEqDiff, Nat.reduceSub, decide_true, true_and, and_true, and_self, if_true, if_false, Option.toList_some, Option.toList_none, List.cons_append, List.nil_append, qsL, qlong, List.length_cons, List.length_nil, iN_L, exI, iN_add, iN_mul, iN_le, iN_lt, iN_eq, Nat.le_refl, qfN0, qfN1, uX_16, vX_16, uX_19, vX_19, uX_27, vX_27, uX_30, vX_30, uX_39, vX_39, uX_41, vX_41, uX_43, vX_43, uX_46, vX_46, uX_50, vX_50, uX_53, vX_53, show ¬ t + 1 ≤ 0 by omega, gX_19_10, es, q1, z]
      · rw [if_neg z] at hp
        have w1 : qiast (Hh (t + 1)) 26 (iN (t + 1)) (iN (T t)) = some (Hh t) := by
          rw [wX_26 st (by omega), eH]
          show some (sI (sI h 26 _) 26 (upd (hi (sI h 26 _) 26) (t + 1) (iN (T t)))) = _
          rw [sI_sI, hi_sI, if_pos rfl]
          congr 2
          funext k
          show (if k = t + 1 then iN (T t) else (if t + 1 < k ∧ k ≤ m then g0 (k - 1) else g0 k)) = _
          by_cases e : k = t + 1
          · rw [if_pos e, if_pos (by omega), e, eg0, show t + 1 - 1 = t by omega, (hT t (by omega)).1]
          · rw [if_neg e]
            by_cases e2 : t + 1 < k ∧ k ≤ m
            · rw [if_pos e2, if_pos (by omega)]
            · rw [if_neg e2, if_neg (by omega)]
        have dc : iN (t + 1) + -iN 1 = iN t := by rw [kv_dec']; rfl
        rw [← ih (by omega) hp R, e42_2]
        simp (disch := first | assumption | omega) only [e42_0, e42_1, e42_3, e42_6, e42_7, e42_10, e42_11, e42_12, e42_13, e42_14, e42_15, e42_18, e42_19, e42_22, e42_23, e42_24, e42_27, e42_28, e42_29, e42_30, e42_31, e42_32, e42_35, e42_39, e42_42, e42_43, e42_44, e42_45, m42, ↓reduceIte, qg_0, qg_1, qg_2, qg_3, qg_4, qg_5, qg_6, qg_7, qg_8, qg_9, qg_10, qg_11, qg_12, qg_13, not_true_eq_false, not_false_eq_true, Nat.reduceBEq, Bool.false_eq_true, ex1, ex3, ex4, exF, qfit_i, qfit_l, qfit_r, qfit_n, qfit_b0, qfit_b1, qcat_i, qcat_r, qcat_n, qcat_l, qroom_0, qroom_c, List.map_cons, List.map_nil, List.sum_cons, List.sum_nil, Nat.reduceAdd, Nat.reduceMul, Nat.reduceLT, Nat.reduceLeDiff, Nat.reduceEqDiff, Nat.reduceSub, decide_true, true_and, and_true, and_self, if_true, if_false, Option.toList_some, Option.toList_none, List.cons_append, List.nil_append, qsL, qlong, List.length_cons, List.length_nil, iN_L, exI, iN_add, iN_mul, iN_le, iN_lt, iN_eq, Nat.le_refl, qfN0, qfN1, uX_16, vX_16, uX_19, vX_19, uX_27, vX_27, uX_30, vX_30, uX_39, vX_39, uX_41, vX_41, uX_43, vX_43, uX_46, vX_46, uX_50, vX_50, uX_53, vX_53, show ¬ t + 1 ≤ 0 by omega, gX_19_10, es, q1, z, w1, dc]
  have pl := posI_le T x m
  have sp := sH (posI T x m)
  obtain ⟨h2, e2⟩ : ∃ h2, h2 = sI (Hh (posI T x m)) 26 (upd (hi (Hh (posI T x m)) 26) (posI T x m) (iN x)) := ⟨_, rfl⟩
  have w2 : qiast (Hh (posI T x m)) 26 (iN (posI T x m)) (iN x) = some h2 := by rw [e2]; exact wX_26 sp (by omega)
  refine ⟨h2, fun R => ?_, (cH _).trans0 (by rw [e2]; exact ChX.rowI sp (kX_26 sp) (by decide) (by decide)), fun k hk => ?_⟩
  · have r0 : qMC (d + 1) 42 [.ref 19, .int (iN x), .int (iN m)] h R ↔ qEv d 4 qk_42 2 [some (.ref 19), some (.int (iN x)), some (.int (iN m)), some (.int (iN m))] [] (Hh m) R := by
      rw [← Hm]
      simp (disch := first | assumption | omega) only [e42_0, e42_1, e42_3, e42_6, e42_7, e42_10, e42_11, e42_12, e42_13, e42_14, e42_15, e42_18, e42_19, e42_22, e42_23, e42_24, e42_27, e42_28, e42_29, e42_30, e42_31, e42_32, e42_35, e42_39, e42_42, e42_43, e42_44, e42_45, m42, ↓reduceIte, qg_0, qg_1, qg_2, qg_3, qg_4, qg_5, qg_6, qg_7, qg_8, qg_9, qg_10, qg_11, qg_12, qg_13, not_true_eq_false, not_false_eq_true, Nat.reduceBEq, Bool.false_eq_true, ex1, ex3, ex4, exF, qfit_i, qfit_l, qfit_r, qfit_n, qfit_b0, qfit_b1, qcat_i, qcat_r, qcat_n, qcat_l, qroom_0, qroom_c, List.map_cons, List.map_nil, List.sum_cons, List.sum_nil, Nat.reduceAdd, Nat.reduceMul, Nat.reduceLT, Nat.reduceLeDiff, Nat.reduceEqDiff, Nat.reduceSub, decide_true, true_and, and_true, and_self, if_true, if_false, Option.toList_some, Option.toList_none, List.cons_append, List.nil_append, qsL, qlong, List.length_cons, List.length_nil, iN_L, exI, iN_add, iN_mul, iN_le, iN_lt, iN_eq, Nat.le_refl, qfN0, qfN1, uX_16, vX_16, uX_19, vX_19, uX_27, vX_27, uX_30, vX_30, uX_39, vX_39, uX_41, vX_41, uX_43, vX_43, uX_46, vX_46, uX_50, vX_50, uX_53, vX_53]
    rw [r0, down m (Nat.le_refl _) rfl R, e42_38]
    simp (disch := first | assumption | omega) only [e42_0, e42_1, e42_3, e42_6, e42_7, e42_10, e42_11, e42_12, e42_13, e42_14, e42_15, e42_18, e42_19, e42_22, e42_23, e42_24, e42_27, e42_28, e42_29, e42_30, e42_31, e42_32, e42_35, e42_39, e42_42, e42_43, e42_44, e42_45, m42, ↓reduceIte, qg_0, qg_1, qg_2, qg_3, qg_4, qg_5, qg_6, qg_7, qg_8, qg_9, qg_10, qg_11, qg_12, qg_13, not_true_eq_false, not_false_eq_true, Nat.reduceBEq, Bool.false_eq_true, ex1, ex3, ex4, exF, qfit_i, qfit_l, qfit_r, qfit_n, qfit_b0, qfit_b1, qcat_i, qcat_r, qcat_n, qcat_l, qroom_0, qroom_c, List.map_cons, List.map_nil, List.sum_cons, List.sum_nil, Nat.reduceAdd, Nat.reduceMul, Nat.reduceLT, Nat.reduceLeDiff, Nat.reduceEqDiff, Nat.reduceSub, decide_true, true_and, and_true, and_self, if_true, if_false, Option.toList_some, Option.toList_none, List.cons_append, List.nil_append, qsL, qlong, List.length_cons, List.length_nil, iN_L, exI, iN_add, iN_mul, iN_le, iN_lt, iN_eq, Nat.le_refl, qfN0, qfN1, uX_16, vX_16, uX_19, vX_19, uX_27, vX_27, uX_30, vX_30, uX_39, vX_39, uX_41, vX_41, uX_43, vX_43, uX_46, vX_46, uX_50, vX_50, uX_53, vX_53, gX_19_10, w2]
  · rw [e2, hi_sI, if_pos rfl]
    show (if k = posI T x m then iN x else hi (Hh (posI T x m)) 26 k) = _
    unfold insN
    rw [eH]
    show (if k = posI T x m then iN x else hi (sI h 26 _) 26 k) = _
    rw [hi_sI, if_pos rfl]
    by_cases z1 : k < posI T x m
    · rw [if_neg (by omega), if_pos z1, if_neg (by omega), eg0, (hT k (by omega)).1]
    · rw [if_neg z1]
      by_cases z2 : k = posI T x m
      · rw [if_pos z2, if_pos z2]
      · rw [if_neg z2, if_neg z2, if_pos (by omega), eg0, (hT (k - 1) (by omega)).1]
/-- the meets of pairs of facets so far -/
def rdP (l : List pt4) (S : Nat → Nat) (m f g y : Nat) : Prop := ∃ a b, b < a ∧ a < m ∧ (a < f ∨ a = f ∧ b < g) ∧ y = fcs l 4 S a &&& fcs l 4 S b ∧ 3 ≤ pop y 24
set_option maxRecDepth 100000 in
set_option maxHeartbeats 16000000 in
theorem x_ridges {r m : Nat} {S : Nat → Nat} {G : Nat → Nat → Int} (s : ShX h) (b : bdG l 4 m S G) (kr : kI h r m) (r26 : r ≠ 26) (hm : m ≤ 104) (hF : ∀ j, j < m → hi h r j = iN (fcs l 4 S j) ∧ fcs l 4 S j < 65536) : ∃ h' e, (∀ R, qMC (d + 3) 41 [.ref 19, .ref r] h R ↔ R = (some (.ref e), h')) ∧ ChX [26] [] 2 h h' ∧ h.2.1 ≤ e ∧ NwL h' e (cls l 4 2) := by
  have few : ∀ (L : Nat) (T : Nat → Nat), srt T L → (∀ k, k < L → isCl l 4 2 (T k)) → L ≤ 208 := fun L T st hT => mt_208 b.2.1 (by decide) (K := 2) st fun k hk => by
    rcases hT k hk with ⟨h, -⟩ | ⟨-, h2, h3, h4⟩
    · omega
    · exact ⟨b.mt.mpr h2, fun a ha z => h3 (b.fcI.mpr ⟨a, ha, z⟩), h4⟩
  have toC : ∀ {f g y}, rdP l S m f g y → isCl l 4 2 y := fun ⟨a, c, h1, h2, _, h4, h5⟩ => b.cl2.mpr ⟨a, c, h2, by omega, by omega, h4, h5⟩
  have inner : ∀ (f w g L : Nat) (T : Nat → Nat) (h1 : qH) (x5 : Option Value), f < m → g + w = f → srt T L → (∀ y, (∃ k, k < L ∧ T k = y) ↔ rdP l S m f g y) → (∀ k, k < L → hi h1 26 k = iN (T k)) → ChX [26] [] 0 h h1 → ∃ h2 L' T' x5', (∀ R, qEv (d + 2) 2 qk_41 13 [some (.ref 19), some (.ref r), some (.int (iN L)), some (.int (iN f)), some (.int (iN g)), x5] [] h1 R ↔ qEv (d + 2) 2 qk_41 4 [some (.ref 19), some (.ref r), some (.int (iN L')), some (.int (iN (f + 1))), some (.int (iN f)), x5'] [] h2 R) ∧ ChX [26] [] 0 h h2 ∧ srt T' L' ∧ (∀ y, (∃ k, k < L' ∧ T' k = y) ↔ rdP l S m (f + 1) 0 y) ∧ ∀ k, k < L' → hi h2 26 k = iN (T' k) := by
    intro f w
    induction w with
    | zero =>
      intro g L T h1 x5 hf hg st mem hT ch1
      have e : g = f := by omega
      subst e
      have s1 := ch1.sh
      refine ⟨h1, L, T, x5, fun R => ?_, ch1, st, fun y => ?_, hT⟩
      · rw [e41_13]
        simp (disch := first | assumption | omega) only [e41_0, e41_1, e41_2, e41_3, e41_5, e41_6, e41_7, e41_10, e41_11, e41_15, e41_16, e41_19, e41_20, e41_21, e41_22, e41_23, e41_25, e41_26, e41_27, e41_29, e41_31, e41_34, e41_35, e41_38, e41_39, e41_40, e41_43, e41_44, e41_47, e41_48, e41_50, e41_51, e41_54, e41_57, e41_60, e41_63, e41_66, e41_69, e41_70, e41_73, e41_74, e41_77, e41_77N, m41, ↓reduceIte, qg_0, qg_1, qg_2, qg_3, qg_4, qg_5, qg_6, qg_7, qg_8, qg_9, qg_10, qg_11, qg_12, qg_13, not_true_eq_false, not_false_eq_true, Nat.reduceBEq, Bool.false_eq_true, ex1, ex3, ex4, exF, qfit_i, qfit_l, qfit_r, qfit_n, qfit_b0, qfit_b1, qcat_i, qcat_r, qcat_n, qcat_l, qroom_0, qroom_c, List.map_cons, List.map_nil, List.sum_cons, List.sum_nil, Nat.reduceAdd, Nat.reduceMul, Nat.reduceLT, Nat.reduceLeDiff, Nat.reduceEqDiff, Nat.reduceSub, decide_true, true_and, and_true, and_self, if_true, if_false, Option.toList_some, Option.toList_none, List.cons_append, List.nil_append, qsL, qlong, List.length_cons, List.length_nil, iN_L, exI, iN_add, iN_mul, iN_le, iN_lt, iN_eq, Nat.le_refl, qfN0, qfN1, uX_16, vX_16, uX_19, vX_19, uX_27, vX_27, uX_30, vX_30, uX_39, vX_39, uX_41, vX_41, uX_43, vX_43, uX_46, vX_46, uX_50, vX_50, uX_53, vX_53]
      · rw [mem]
        constructor
        · rintro ⟨a, c, q1, q2, q3, q4⟩; exact ⟨a, c, q1, q2, by omega, q4⟩
        · rintro ⟨a, c, q1, q2, q3, q4⟩; exact ⟨a, c, q1, q2, by omega, q4⟩
    | succ w ih =>
      intro g L T h1 x5 hf hg st mem hT ch1
      have s1 := ch1.sh
      obtain ⟨kr1, hr1⟩ := chI ch1 kr (fun z => r26 (List.mem_singleton.mp z)) s
      obtain ⟨y, ey⟩ : ∃ y, y = fcs l 4 S f &&& fcs l 4 S g := ⟨_, rfl⟩
      have y16 : y < 65536 := by rw [ey]; exact Nat.lt_of_le_of_lt Nat.and_le_left (hF f hf).2
      have q1 : qiald h1 r (iN f) = some (iN (fcs l 4 S f)) := by rw [rdI kr1 hf, hr1, (hF f hf).1]
      have q2 : qiald h1 r (iN g) = some (iN (fcs l 4 S g)) := by rw [rdI kr1 (by omega), hr1, (hF g (by omega)).1]
      have an : iN (fcs l 4 S f) &&& iN (fcs l 4 S g) = iN y := by rw [iN_and, ey]
      have sb : ∀ R, qMC (d + 2) 308 [.int (iN y)] h1 R ↔ R = (some (.int (iN (pop y 24))), h1) := fun R => x_bitCount y16
      have pl := pop_le y 24
      have ln26 : qalen h1 26 = some (iN 208) := lnI (kX_26 s1)
      by_cases z : 3 ≤ pop y 24
      · have yC : isCl l 4 2 y := b.cl2.mpr ⟨f, g, hf, by omega, by omega, ey, z⟩
        have new : ∀ k, k < L → T k ≠ y := fun k hk e => by
          obtain ⟨a, c, w1, w2, w3, w4, w5⟩ := (mem y).mp ⟨k, hk, e⟩
          have := b.ridge_un hf (by omega) (show g < f by omega) w2 (by omega) w1 (by rw [← ey]; exact z) (by rw [← ey]; exact w4)
          omega
        have st' := insN_srt st new
        have mem' : ∀ y', (∃ k, k < L + 1 ∧ insN T y L k = y') ↔ rdP l S m f (g + 1) y' := fun y' => by
          rw [insN_mem, mem]
          constructor
          · rintro (rfl | ⟨a, c, w1, w2, w3, w4⟩)
            · exact ⟨f, g, by omega, hf, by omega, ey, z⟩
            · exact ⟨a, c, w1, w2, by omega, w4⟩
          · rintro ⟨a, c, w1, w2, w3, w4, w5⟩
            by_cases e : a = f ∧ c = g
            · left; rw [w4, e.1, e.2, ey]
            · exact Or.inr ⟨a, c, w1, w2, by omega, w4, w5⟩
        have L208 : L + 1 ≤ 208 := few (L + 1) _ st' fun k hk => toC ((mem' _).mp ⟨k, hk, rfl⟩)
        obtain ⟨h2, r2, c2, T2⟩ := x_insertFound (d := d + 1) s1 (show L < 208 by omega) y16 (fun k hk => ⟨hT k hk, b.cl_16 (toC ((mem _).mp ⟨k, hk, rfl⟩))⟩)
        obtain ⟨h3, L', T', x5', r3, c3, z3⟩ := ih (g + 1) (L + 1) (insN T y L) h2 (some (.int (iN y))) hf (by omega) st' mem' T2 (ch1.trans0 c2)
        refine ⟨h3, L', T', x5', fun R => ?_, c3, z3⟩
        rw [← r3 R, e41_13]
        simp (disch := first | assumption | omega) only [e41_0, e41_1, e41_2, e41_3, e41_5, e41_6, e41_7, e41_10, e41_11, e41_15, e41_16, e41_19, e41_20, e41_21, e41_22, e41_23, e41_25, e41_26, e41_27, e41_29, e41_31, e41_34, e41_35, e41_38, e41_39, e41_40, e41_43, e41_44, e41_47, e41_48, e41_50, e41_51, e41_54, e41_57, e41_60, e41_63, e41_66, e41_69, e41_70, e41_73, e41_74, e41_77, e41_77N, m41, ↓reduceIte, qg_0, qg_1, qg_2, qg_3, qg_4, qg_5, qg_6, qg_7, qg_8, qg_9, qg_10, qg_11, qg_12, qg_13, not_true_eq_false, not_false_eq_true, Nat.reduceBEq, Bool.false_eq_true, ex1, ex3, ex4, exF, qfit_i, qfit_l, qfit_r, qfit_n, qfit_b0, qfit_b1, qcat_i, qcat_r, qcat_n, qcat_l, qroom_0, qroom_c, List.map_cons, List.map_nil, List.sum_cons, List.sum_nil, Nat.reduceAdd, Nat.reduceMul, Nat.reduceLT, Nat.reduceLeDiff, Nat.reduceEqDiff, Nat.reduceSub, decide_true, true_and, and_true, and_self, if_true, if_false, Option.toList_some, Option.toList_none, List.cons_append, List.nil_append, qsL, qlong, List.length_cons, List.length_nil, iN_L, exI, iN_add, iN_mul, iN_le, iN_lt, iN_eq, Nat.le_refl, qfN0, qfN1, uX_16, vX_16, uX_19, vX_19, uX_27, vX_27, uX_30, vX_30, uX_39, vX_39, uX_41, vX_41, uX_43, vX_43, uX_46, vX_46, uX_50, vX_50, uX_53, vX_53, show ¬ f ≤ g by omega, q1, q2, an, sb, show ¬ pop y 24 < 3 by omega, gX_19_10, ln26, show ¬ 208 ≤ L by omega, r2]
      · have mem' : ∀ y', (∃ k, k < L ∧ T k = y') ↔ rdP l S m f (g + 1) y' := fun y' => by
          rw [mem]
          constructor
          · rintro ⟨a, c, w1, w2, w3, w4⟩; exact ⟨a, c, w1, w2, by omega, w4⟩
          · rintro ⟨a, c, w1, w2, w3, w4, w5⟩
            by_cases e : a = f ∧ c = g
            · exfalso
              rw [w4, e.1, e.2, ← ey] at w5
              exact z w5
            · exact ⟨a, c, w1, w2, by omega, w4, w5⟩
        obtain ⟨h3, L', T', x5', r3, c3, z3⟩ := ih (g + 1) L T h1 (some (.int (iN y))) hf (by omega) st mem' hT ch1
        refine ⟨h3, L', T', x5', fun R => ?_, c3, z3⟩
        rw [← r3 R, e41_13]
        simp (disch := first | assumption | omega) only [e41_0, e41_1, e41_2, e41_3, e41_5, e41_6, e41_7, e41_10, e41_11, e41_15, e41_16, e41_19, e41_20, e41_21, e41_22, e41_23, e41_25, e41_26, e41_27, e41_29, e41_31, e41_34, e41_35, e41_38, e41_39, e41_40, e41_43, e41_44, e41_47, e41_48, e41_50, e41_51, e41_54, e41_57, e41_60, e41_63, e41_66, e41_69, e41_70, e41_73, e41_74, e41_77, e41_77N, m41, ↓reduceIte, qg_0, qg_1, qg_2, qg_3, qg_4, qg_5, qg_6, qg_7, qg_8, qg_9, qg_10, qg_11, qg_12, qg_13, not_true_eq_false, not_false_eq_true, Nat.reduceBEq, Bool.false_eq_true, ex1, ex3, ex4, exF, qfit_i, qfit_l, qfit_r, qfit_n, qfit_b0, qfit_b1, qcat_i, qcat_r, qcat_n, qcat_l, qroom_0, qroom_c, List.map_cons, List.map_nil, List.sum_cons, List.sum_nil, Nat.reduceAdd, Nat.reduceMul, Nat.reduceLT, Nat.reduceLeDiff, Nat.reduceEqDiff, Nat.reduceSub, decide_true, true_and, and_true, and_self, if_true, if_false, Option.toList_some, Option.toList_none, List.cons_append, List.nil_append, qsL, qlong, List.length_cons, List.length_nil, iN_L, exI, iN_add, iN_mul, iN_le, iN_lt, iN_eq, Nat.le_refl, qfN0, qfN1, uX_16, vX_16, uX_19, vX_19, uX_27, vX_27, uX_30, vX_30, uX_39, vX_39, uX_41, vX_41, uX_43, vX_43, uX_46, vX_46, uX_50, vX_50, uX_53, vX_53, show ¬ f ≤ g by omega, q1, q2, an, sb, show pop y 24 < 3 by omega]
  have outer : ∀ (w f L : Nat) (T : Nat → Nat) (h1 : qH) (x4 x5 : Option Value), f + w = m → srt T L → (∀ y, (∃ k, k < L ∧ T k = y) ↔ rdP l S m f 0 y) → (∀ k, k < L → hi h1 26 k = iN (T k)) → ChX [26] [] 0 h h1 → ∃ h2 L' T' x4' x5', (∀ R, qEv (d + 2) 2 qk_41 4 [some (.ref 19), some (.ref r), some (.int (iN L)), some (.int (iN f)), x4, x5] [] h1 R ↔ qEv (d + 2) 2 qk_41 4 [some (.ref 19), some (.ref r), some (.int (iN L')), some (.int (iN m)), x4', x5'] [] h2 R) ∧ ChX [26] [] 0 h h2 ∧ srt T' L' ∧ (∀ y, (∃ k, k < L' ∧ T' k = y) ↔ rdP l S m m 0 y) ∧ ∀ k, k < L' → hi h2 26 k = iN (T' k) := by
    intro w
    induction w with
    | zero =>
      intro f L T h1 x4 x5 hw st mem hT ch1
      have e : f = m := by omega
      subst e
      exact ⟨h1, L, T, x4, x5, fun R => Iff.rfl, ch1, st, mem, hT⟩
    | succ w ih =>
      intro f L T h1 x4 x5 hw st mem hT ch1
      have s1 := ch1.sh
      obtain ⟨kr1, hr1⟩ := chI ch1 kr (fun z => r26 (List.mem_singleton.mp z)) s
      have ln := lnI kr1
      obtain ⟨h2, L2, T2, x5', r2, c2, st2, mem2, hT2⟩ := inner f f 0 L T h1 x5 (by omega) (by omega) st mem hT ch1
      obtain ⟨h3, L', T', x4', x5'', r3, z3⟩ := ih (f + 1) L2 T2 h2 (some (.int (iN f))) x5' (by omega) st2 mem2 hT2 c2
      refine ⟨h3, L', T', x4', x5'', fun R => ?_, z3⟩
      rw [← r3 R, ← r2 R, e41_4]
      simp (disch := first | assumption | omega) only [e41_0, e41_1, e41_2, e41_3, e41_5, e41_6, e41_7, e41_10, e41_11, e41_15, e41_16, e41_19, e41_20, e41_21, e41_22, e41_23, e41_25, e41_26, e41_27, e41_29, e41_31, e41_34, e41_35, e41_38, e41_39, e41_40, e41_43, e41_44, e41_47, e41_48, e41_50, e41_51, e41_54, e41_57, e41_60, e41_63, e41_66, e41_69, e41_70, e41_73, e41_74, e41_77, e41_77N, m41, ↓reduceIte, qg_0, qg_1, qg_2, qg_3, qg_4, qg_5, qg_6, qg_7, qg_8, qg_9, qg_10, qg_11, qg_12, qg_13, not_true_eq_false, not_false_eq_true, Nat.reduceBEq, Bool.false_eq_true, ex1, ex3, ex4, exF, qfit_i, qfit_l, qfit_r, qfit_n, qfit_b0, qfit_b1, qcat_i, qcat_r, qcat_n, qcat_l, qroom_0, qroom_c, List.map_cons, List.map_nil, List.sum_cons, List.sum_nil, Nat.reduceAdd, Nat.reduceMul, Nat.reduceLT, Nat.reduceLeDiff, Nat.reduceEqDiff, Nat.reduceSub, decide_true, true_and, and_true, and_self, if_true, if_false, Option.toList_some, Option.toList_none, List.cons_append, List.nil_append, qsL, qlong, List.length_cons, List.length_nil, iN_L, exI, iN_add, iN_mul, iN_le, iN_lt, iN_eq, Nat.le_refl, qfN0, qfN1, uX_16, vX_16, uX_19, vX_19, uX_27, vX_27, uX_30, vX_30, uX_39, vX_39, uX_41, vX_41, uX_43, vX_43, uX_46, vX_46, uX_50, vX_50, uX_53, vX_53, ln, show ¬ m ≤ f by omega]
  obtain ⟨h1, L, T, x4, x5, r1, c1, st, mem, hT⟩ := outer (m - 1) 1 0 (fun _ => 0) h none none (by have := b.1; omega) (fun a b _ hb => absurd hb (Nat.not_lt_zero b)) (fun y => ⟨fun ⟨k, hk, _⟩ => absurd hk (Nat.not_lt_zero k), fun ⟨a, c, w1, w2, w3, _⟩ => by omega⟩) (fun k hk => absurd hk (Nat.not_lt_zero k)) (ChX.refl s)
  have s1 := c1.sh
  have memC : ∀ y, (∃ k, k < L ∧ T k = y) ↔ y < 65536 ∧ tB (isCl l 4 2 y) = true := fun y => by
    rw [mem, tB_iff]
    constructor
    · exact fun z => ⟨b.cl_16 (toC z), toC z⟩
    · rintro ⟨-, z⟩
      obtain ⟨f, g, w1, w2, w3, w4, w5⟩ := b.cl2.mp z
      rcases Nat.lt_or_gt_of_ne w3 with q | q
      · exact ⟨g, f, q, w2, by omega, by rw [w4, Nat.and_comm], w5⟩
      · exact ⟨f, g, q, w1, by omega, w4, w5⟩
  obtain ⟨eL, eT⟩ := srt_pick (p := fun x => tB (isCl l 4 2 x)) (n := 65536) st memC
  have eL' : L = (cls l 4 2).length := eL
  have L208 : L ≤ 208 := few L T st fun k hk => toC ((mem _).mp ⟨k, hk, rfl⟩)
  obtain ⟨h2, e, r2, c2, ee, ke, he⟩ := x_copyOf (d := d) (n := L) s1 (kX_26 s1) (by omega) (by decide)
  have l1 := c1.eq0
  obtain ⟨kr1, hr1⟩ := chI c1 kr (fun z => r26 (List.mem_singleton.mp z)) s
  have ln := lnI kr1
  refine ⟨h2, e, fun R => ?_, ?_, by omega, by rw [ee]; exact ge97 s1, by rw [← eL']; exact ke, fun k hk => ?_⟩
  · have r0 : qMC (d + 3) 41 [.ref 19, .ref r] h R ↔ qEv (d + 2) 2 qk_41 4 [some (.ref 19), some (.ref r), some (.int (iN 0)), some (.int (iN 1)), none, none] [] h R := by
      simp (disch := first | assumption | omega) only [e41_0, e41_1, e41_2, e41_3, e41_5, e41_6, e41_7, e41_10, e41_11, e41_13, e41_15, e41_16, e41_19, e41_20, e41_21, e41_22, e41_23, e41_25, e41_26, e41_27, e41_29, e41_31, e41_34, e41_35, e41_38, e41_39, e41_40, e41_43, e41_44, e41_47, e41_48, e41_50, e41_51, e41_54, e41_57, e41_60, e41_63, e41_66, e41_69, e41_70, e41_73, e41_74, e41_77, e41_77N, m41, ↓reduceIte, qg_0, qg_1, qg_2, qg_3, qg_4, qg_5, qg_6, qg_7, qg_8, qg_9, qg_10, qg_11, qg_12, qg_13, not_true_eq_false, not_false_eq_true, Nat.reduceBEq, Bool.false_eq_true, ex1, ex3, ex4, exF, qfit_i, qfit_l, qfit_r, qfit_n, qfit_b0, qfit_b1, qcat_i, qcat_r, qcat_n, qcat_l, qroom_0, qroom_c, List.map_cons, List.map_nil, List.sum_cons, List.sum_nil, Nat.reduceAdd, Nat.reduceMul, Nat.reduceLT, Nat.reduceLeDiff, Nat.reduceEqDiff, Nat.reduceSub, decide_true, true_and, and_true, and_self, if_true, if_false, Option.toList_some, Option.toList_none, List.cons_append, List.nil_append, qsL, qlong, List.length_cons, List.length_nil, iN_L, exI, iN_add, iN_mul, iN_le, iN_lt, iN_eq, Nat.le_refl, qfN0, qfN1, uX_16, vX_16, uX_19, vX_19, uX_27, vX_27, uX_30, vX_30, uX_39, vX_39, uX_41, vX_41, uX_43, vX_43, uX_46, vX_46, uX_50, vX_50, uX_53, vX_53]
    rw [r0, r1 R, e41_4]
    simp (disch := first | assumption | omega) only [e41_0, e41_1, e41_2, e41_3, e41_5, e41_6, e41_7, e41_10, e41_11, e41_15, e41_16, e41_19, e41_20, e41_21, e41_22, e41_23, e41_25, e41_26, e41_27, e41_29, e41_31, e41_34, e41_35, e41_38, e41_39, e41_40, e41_43, e41_44, e41_47, e41_48, e41_50, e41_51, e41_54, e41_57, e41_60, e41_63, e41_66, e41_69, e41_70, e41_73, e41_74, e41_77, e41_77N, m41, ↓reduceIte, qg_0, qg_1, qg_2, qg_3, qg_4, qg_5, qg_6, qg_7, qg_8, qg_9, qg_10, qg_11, qg_12, qg_13, not_true_eq_false, not_false_eq_true, Nat.reduceBEq, Bool.false_eq_true, ex1, ex3, ex4, exF, qfit_i, qfit_l, qfit_r, qfit_n, qfit_b0, qfit_b1, qcat_i, qcat_r, qcat_n, qcat_l, qroom_0, qroom_c, List.map_cons, List.map_nil, List.sum_cons, List.sum_nil, Nat.reduceAdd, Nat.reduceMul, Nat.reduceLT, Nat.reduceLeDiff, Nat.reduceEqDiff, Nat.reduceSub, decide_true, true_and, and_true, and_self, if_true, if_false, Option.toList_some, Option.toList_none, List.cons_append, List.nil_append, qsL, qlong, List.length_cons, List.length_nil, iN_L, exI, iN_add, iN_mul, iN_le, iN_lt, iN_eq, Nat.le_refl, qfN0, qfN1, uX_16, vX_16, uX_19, vX_19, uX_27, vX_27, uX_30, vX_30, uX_39, vX_39, uX_41, vX_41, uX_43, vX_43, uX_46, vX_46, uX_50, vX_50, uX_53, vX_53, gX_19_10, r2, ln]
  · exact (c1.trans ((c2.drop (by omega)).mono (A' := [26]) (by intro x hx; cases hx) (fun _ z => z) (Nat.le_refl _))).mono (fun _ z => z) (fun _ z => z) (by omega)
  · rw [← eL'] at hk
    rw [he k hk, hT k hk]
    have : (cls l 4 2).getD k 0 = T k := eT k hk
    rw [this]
end XEDGES

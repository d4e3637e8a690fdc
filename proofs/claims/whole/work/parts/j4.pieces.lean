/-! ===== THE CLASS: copies of rows; pieces, size ===== -/
section XPIECES
variable {d : Nat} {h : qH} {bs : List bdy} {sa : Nat → Nat} {R : qRes}
/-- Arrays.copyOf, no longer than the row -/
theorem cpI {h : qH} {a b na nb n : Nat} (ka : kI h a na) (kb : kI h b nb) (h1 : n ≤ na) (h2 : n ≤ nb) : qcopy h a (iN 0) b (iN 0) (iN n) = some (sI h b (fun x => if x < n then hi h a x else hi h b x)) := by
  have z0 : ∀ m, m < 2147483648 → ¬ iN m < 0 := fun m hm => by rw [show (0 : Int32) = iN 0 from rfl, iN_lt hm (by decide)]; omega
  have a1 := ka.1.1
  have ea := ka.val
  have eb := kb.val
  unfold qcopy
  rw [if_pos ⟨⟨⟨ka.1.2.1, ka.1.2.2⟩, ⟨kb.1.2.1, kb.1.2.2⟩⟩, z0 0 (by decide), z0 0 (by decide), z0 n (by omega)⟩, ea, eb]
  show (if (iN 0).toNatClampNeg + (iN n).toNatClampNeg ≤ na ∧ (iN 0).toNatClampNeg + (iN n).toNatClampNeg ≤ nb then some (qup h.1 b (.inl (0, nb, .inl (va_cpy (hi h a) (hi h b) (iN 0).toNatClampNeg (iN 0).toNatClampNeg (iN n).toNatClampNeg))), h.2) else none) = _
  rw [iN_nat (show 0 < 2147483648 by decide), iN_nat (show n < 2147483648 by omega), if_pos ⟨by omega, by omega⟩]
  have el : hlen h b = nb := by unfold hlen; rw [eb]
  unfold sI
  rw [el]
  have ef : va_cpy (hi h a) (hi h b) 0 0 n = fun x => if x < n then hi h a x else hi h b x := by
    funext x
    unfold va_cpy
    by_cases z : x < n
    · rw [if_pos ⟨Nat.zero_le _, by omega⟩, if_pos z]
      congr 1
      omega
    · rw [if_neg (fun y => z (by omega)), if_neg z]
  rw [ef]
set_option maxRecDepth 100000 in
set_option maxHeartbeats 16000000 in
theorem x_copyOf {a na n : Nat} (s : ShX h) (ka : kI h a na) (hn : n ≤ na) (n1 : na < 1000) : ∃ (h' : qH) (r : Nat), (∀ R, qMC (d + 2) 318 [.ref a, .int (iN n)] h R ↔ R = (some (.ref r), h')) ∧ ChX [r] [] 2 h h' ∧ r = h.2.1 ∧ kI h' r n ∧ ∀ x, x < n → hi h' r x = hi h a x := by
  have la := lnI ka
  have al := ka.1.2.2
  by_cases e : n = na
  · subst e
    obtain ⟨h1, e1⟩ : ∃ h1, h1 = qnew h (.inl (0, n, .inl (hi h a))) n := ⟨_, rfl⟩
    obtain ⟨k1, k2⟩ := kI_new (h := h) (n := n) (m := n) (g := hi h a) (by omega) s
    rw [← e1] at k1 k2
    have c1 : ChX [h.2.1] [] 2 h h1 := by rw [e1]; exact ChX.new s (by decide) (by omega)
    have q1 : qints h a = some (n, hi h a) := by
      unfold qints
      rw [if_pos ⟨ka.1.2.1, al⟩, ka.val]
      rfl
    have q2 : qints h1 h.2.1 = some (n, hi h a) := by
      unfold qints
      rw [if_pos ⟨k1.1.2.1, k1.1.2.2⟩, k1.val, k2]
      rfl
    refine ⟨h1, h.2.1, fun R => ?_, c1, rfl, k1, fun x _ => by rw [k2]⟩
    simp (disch := first | assumption | omega) only [e318_0, e318_1, e318_2, e318_3, e318_6, e318_7, e318_10, e318_13, e318_13N, e318_14, e318_15, e318_17, e318_18, e318_19, e318_20, e318_21, e318_22, e318_23, e318_24, e318_25, e318_28, e318_31, e318_32, e318_32N, m318, ↓reduceIte, qg_0, qg_1, qg_2, qg_3, qg_4, qg_5, qg_6, qg_7, qg_8, qg_9, qg_10, qg_11, qg_12, qg_13, not_true_eq_false, not_false_eq_true, Nat.reduceBEq, Bool.false_eq_true, ex1, ex3, ex4, exF, qfit_i, qfit_l, qfit_r, qfit_n, qfit_b0, qfit_b1, qcat_i, qcat_r, qcat_n, qcat_l, qroom_0, qroom_c, List.map_cons, List.map_nil, List.sum_cons, List.sum_nil, Nat.reduceAdd, Nat.reduceMul, Nat.reduceLT, Nat.reduceLeDiff, Nat.reduceEqDiff, Nat.reduceSub, decide_true, true_and, and_true, and_self, if_true, if_false, Option.toList_some, Option.toList_none, List.cons_append, List.nil_append, qsL, qlong, List.length_cons, List.length_nil, iN_L, exI, iN_add, iN_mul, iN_le, iN_lt, iN_eq, Nat.le_refl, qfN0, qfN1, uX_16, vX_16, uX_19, vX_19, uX_27, vX_27, uX_30, vX_30, uX_39, vX_39, uX_41, vX_41, uX_43, vX_43, uX_46, vX_46, uX_50, vX_50, uX_53, vX_53, la, q1, ← e1, q2]
  · obtain ⟨z1, z2⟩ := nN n (by omega)
    obtain ⟨h1, e1⟩ : ∃ h1, h1 = qnew h (.inl (0, n, .inl (fun _ => iN 0))) n := ⟨_, rfl⟩
    obtain ⟨k1, k2⟩ := kI_new (h := h) (n := n) (m := n) (g := fun _ => iN 0) (by omega) s
    rw [← e1] at k1 k2
    have c1 : ChX [h.2.1] [] 2 h h1 := by rw [e1]; exact ChX.new s (by decide) (by omega)
    have s1 := c1.sh
    have ka1 : kI h1 a na := ka.sm c1.1.2.1 (by rw [e1]; exact nw_old al)
    have la1 := lnI ka1
    have hia : hi h1 a = hi h a := hi_at (by rw [e1]; exact nw_old al)
    have mn : ∀ R, qMC (d + 1) 314 [.int (iN na), .int (iN n)] h1 R ↔ R = (some (.int (iN n)), h1) := fun R => by
      simp (disch := first | assumption | omega) only [e314_0, e314_1, e314_2, e314_5, e314_6, e314_9, e314_10, m314, ↓reduceIte, qg_0, qg_1, qg_2, qg_3, qg_4, qg_5, qg_6, qg_7, qg_8, qg_9, qg_10, qg_11, qg_12, qg_13, not_true_eq_false, not_false_eq_true, Nat.reduceBEq, Bool.false_eq_true, ex1, ex3, ex4, exF, qfit_i, qfit_l, qfit_r, qfit_n, qfit_b0, qfit_b1, qcat_i, qcat_r, qcat_n, qcat_l, qroom_0, qroom_c, List.map_cons, List.map_nil, List.sum_cons, List.sum_nil, Nat.reduceAdd, Nat.reduceMul, Nat.reduceLT, Nat.reduceLeDiff, Nat.reduceEqDiff, Nat.reduceSub, decide_true, true_and, and_true, and_self, if_true, if_false, Option.toList_some, Option.toList_none, List.cons_append, List.nil_append, qsL, qlong, List.length_cons, List.length_nil, iN_L, exI, iN_add, iN_mul, iN_le, iN_lt, iN_eq, Nat.le_refl, qfN0, qfN1, uX_16, vX_16, uX_19, vX_19, uX_27, vX_27, uX_30, vX_30, uX_39, vX_39, uX_41, vX_41, uX_43, vX_43, uX_46, vX_46, uX_50, vX_50, uX_53, vX_53, show n < na by omega]
    have cp := cpI (n := n) ka1 k1 (by omega) (Nat.le_refl _)
    obtain ⟨h2, e2⟩ : ∃ h2, h2 = sI h1 h.2.1 (fun x => if x < n then hi h1 a x else hi h1 h.2.1 x) := ⟨_, rfl⟩
    rw [← e2] at cp
    have c2 : ChX [h.2.1] [] 2 h h2 := c1.trans (m := 0) (by rw [e2]; exact ChX.rowI s1 k1 (by simp) (by have := ge97 s; omega))
    refine ⟨h2, h.2.1, fun R => ?_, c2, rfl, by rw [e2]; exact (hKd_sI k1).2.1 _ _ k1, fun x hx => by rw [e2, hi_sI, if_pos rfl, if_pos hx, hia]⟩
    simp (disch := first | assumption | omega) only [e318_0, e318_1, e318_2, e318_3, e318_6, e318_7, e318_10, e318_13, e318_13N, e318_14, e318_15, e318_17, e318_18, e318_19, e318_20, e318_21, e318_22, e318_23, e318_24, e318_25, e318_28, e318_31, e318_32, e318_32N, m318, ↓reduceIte, qg_0, qg_1, qg_2, qg_3, qg_4, qg_5, qg_6, qg_7, qg_8, qg_9, qg_10, qg_11, qg_12, qg_13, not_true_eq_false, not_false_eq_true, Nat.reduceBEq, Bool.false_eq_true, ex1, ex3, ex4, exF, qfit_i, qfit_l, qfit_r, qfit_n, qfit_b0, qfit_b1, qcat_i, qcat_r, qcat_n, qcat_l, qroom_0, qroom_c, List.map_cons, List.map_nil, List.sum_cons, List.sum_nil, Nat.reduceAdd, Nat.reduceMul, Nat.reduceLT, Nat.reduceLeDiff, Nat.reduceEqDiff, Nat.reduceSub, decide_true, true_and, and_true, and_self, if_true, if_false, Option.toList_some, Option.toList_none, List.cons_append, List.nil_append, qsL, qlong, List.length_cons, List.length_nil, iN_L, exI, iN_add, iN_mul, iN_le, iN_lt, iN_eq, Nat.le_refl, qfN0, qfN1, uX_16, vX_16, uX_19, vX_19, uX_27, vX_27, uX_30, vX_30, uX_39, vX_39, uX_41, vX_41, uX_43, vX_43, uX_46, vX_46, uX_50, vX_50, uX_53, vX_53, la, e, z1, z2, or_self, show ¬ (n < 0 ∨ 1000000 < n) by omega, ← e1, la1, mn, cp]
/-- a body gets a late field, all else stays -/
theorem kpS.late {A : List Nat} {J : List (Nat × Nat)} {k a : Nat} {h' : qH} (c : ChX A J k h h') (hA : ∀ x ∈ A, 97 ≤ x ∧ (x < h.2.1 → x = a)) (ka : kO h a 8) (ko : kO h' a 8) (hf' : ∀ j, j < 7 → hf h' a j = hf h a j) : kpS h h' := ⟨c.1.2.1, fun b hb hl => by
  by_cases e : b = a
  · rw [e]; exact Or.inr (Or.inl ⟨ka, ko, hf'⟩)
  · exact Or.inl (c.at (fun z => e ((hA b z).2 hl)) (fun z => by have := (by decide : ∀ x ∈ XO, x < 97) _ z; omega) hl)⟩
theorem BsX.late {A : List Nat} {J : List (Nat × Nat)} {k i : Nat} {h' : qH} (X : BsX h bs sa) (s : ShX h) (c : ChX A J k h h') (hi' : i < bs.length) (hA : ∀ x ∈ A, 97 ≤ x ∧ (x < h.2.1 → x = sa i)) (j1 : (16, 1) ∉ J) (ko : kO h' (sa i) 8) (hf' : ∀ j, j < 7 → hf h' (sa i) j = hf h (sa i) j) (sl : SoL h' (sa i) bs i) : BsX h' bs sa := by
  have ka : kO h (sa i) 8 := by obtain ⟨p, q, w, e, B, S, -⟩ := X.at hi'; exact S.1.1
  have ks := kpS.late c hA ka ko hf'
  refine X.kp ks (c.hr (fun z => absurd (hA _ z).1 (by decide)) (by decide) (s.lt (by decide))) (c.xi (by decide) j1) fun j hj => ?_
  by_cases ej : j = i
  · rw [ej]; exact sl
  · obtain ⟨-, -, -, ⟨p', q', w', e', B', S', -⟩, sl'⟩ := X.2.2.2 j hj
    refine sl'.kp ks fun t _ => ?_
    have nj : sa j ≠ sa i := by
      rcases Nat.lt_trichotomy j i with z | z | z
      · exact X.2.2.1 j i z hi'
      · exact absurd z ej
      · exact (X.2.2.1 i j z hj).symm
    rw [hf_at]
    exact c.at (fun z => nj ((hA _ z).2 S'.1.1.1.2)) (fun z => by have := (by decide : ∀ x ∈ XO, x < 97) _ z; have := S'.1.2; omega) S'.1.1.1.2
theorem FnX.ch {A : List Nat} {J : List (Nat × Nat)} {k : Nat} {h' : qH} (fn : FnX h) (c : ChX A J k h h') (j4 : (43, 4) ∉ J) (hA : ∀ x ∈ A, x < h.2.1 → ¬ kI h x 2048) : FnX h' := by
  have e := c.hf (b := 43) (j := 4) (by decide) j4
  rcases fn with z | ⟨f, f1, f2, f3⟩
  · exact Or.inl (e.trans z)
  · exact Or.inr ⟨f, e.trans f1, f2, f3.sm c.1.2.1 (c.at (fun z => hA f z f3.1.2.2 f3) (fun z => by have := (by decide : ∀ x ∈ XO, x < 97) _ z; omega) f3.1.2.2)⟩
theorem kO_kI {a n ci : Nat} (k : kO h a ci) (k' : kI h a n) : False := by
  obtain ⟨f, e⟩ := k.2; obtain ⟨g, e'⟩ := k'.2; rw [e] at e'; cases e'
set_option maxRecDepth 100000 in
set_option maxHeartbeats 16000000 in
theorem x_piecesOf {i : Nat} (s : ShX h) (X : BsX h bs sa) (fn : FnX h) (hi' : i < bs.length) (hp : (pcL bs i).length ≤ 256) : ∃ (h' : qH) (r : Nat) (A : List Nat), (∀ R, qMC (d + 8) 119 [.ref (sa i)] h R ↔ R = (some (.ref r), h')) ∧ (∀ x ∈ A, 97 ≤ x) ∧ ChX A [] 4 h h' ∧ BsX h' bs sa ∧ FnX h' ∧ kI h' r (pcL bs i).length ∧ ∀ k, k < (pcL bs i).length → hi h' r k = iN ((pcL bs i).getD k 0) := by
  obtain ⟨-, -, P, ⟨p, q, w, e, B, S, QQ⟩, sl⟩ := X.2.2.2 i hi'
  obtain ⟨⟨u16, ult, uF⟩, g0, g1, g2, g3, g4, g5, g6⟩ := S.obj
  have ka := S.1.1
  have a97 := S.1.2
  have hD := P.1
  have n16 := P.2.1.2
  obtain ⟨sl1, sl2, l0, sl3, sl4⟩ := id sl
  rcases sl2 with hn | ⟨r, r1, r2, r3, r4⟩
  rotate_left
  · have g8 : qget h (sa i) 8 8 = some (.ref r) := by rw [gSol ka (by decide), r1]
    refine ⟨h, r, [], fun R => ?_, fun x hx => (by cases hx), ChX.refl s, X, fn, r3, r4⟩
    simp (disch := first | assumption | omega) only [e119_0, e119_1, e119_4, e119_4N, e119_7, e119_10, e119_12, e119_13, e119_14, e119_15, e119_18, e119_19, e119_22, e119_23, e119_24, e119_25, e119_28, e119_29, e119_30, e119_31, e119_32, e119_35, e119_38, e119_39, e119_42, e119_42N, m119, ↓reduceIte, qg_0, qg_1, qg_2, qg_3, qg_4, qg_5, qg_6, qg_7, qg_8, qg_9, qg_10, qg_11, qg_12, qg_13, not_true_eq_false, not_false_eq_true, Nat.reduceBEq, Bool.false_eq_true, ex1, ex3, ex4, exF, qfit_i, qfit_l, qfit_r, qfit_n, qfit_b0, qfit_b1, qcat_i, qcat_r, qcat_n, qcat_l, qroom_0, qroom_c, List.map_cons, List.map_nil, List.sum_cons, List.sum_nil, Nat.reduceAdd, Nat.reduceMul, Nat.reduceLT, Nat.reduceLeDiff, Nat.reduceEqDiff, Nat.reduceSub, decide_true, true_and, and_true, and_self, if_true, if_false, Option.toList_some, Option.toList_none, List.cons_append, List.nil_append, qsL, qlong, List.length_cons, List.length_nil, iN_L, exI, iN_add, iN_mul, iN_le, iN_lt, iN_eq, Nat.le_refl, qfN0, qfN1, uX_16, vX_16, uX_19, vX_19, uX_27, vX_27, uX_30, vX_30, uX_39, vX_39, uX_41, vX_41, uX_43, vX_43, uX_46, vX_46, uX_50, vX_50, uX_53, vX_53, g8]
  have g8 : qget h (sa i) 8 8 = some .null := by rw [gSol ka (by decide), hn]
  obtain ⟨z1, z2⟩ := nN 256 (by omega)
  obtain ⟨f, ef⟩ : ∃ f, f = h.2.1 := ⟨_, rfl⟩
  obtain ⟨h1, e1⟩ : ∃ h1, h1 = qnew h (.inl (0, 256, .inl (fun _ => iN 0))) 256 := ⟨_, rfl⟩
  obtain ⟨kf, hf1⟩ := kI_new (h := h) (n := 256) (m := 256) (g := fun _ => iN 0) (by decide) s
  rw [← e1, ← ef] at kf hf1
  have f97 : 97 ≤ f := by rw [ef]; exact ge97 s
  have l1 : h1.2.1 = f + 1 := by rw [e1, ef]; rfl
  obtain ⟨A, eA⟩ : ∃ A, A = [f, f + 1, sa i] := ⟨_, rfl⟩
  have hA : ∀ x ∈ A, 97 ≤ x ∧ (x < h.2.1 → x = sa i) := by
    rw [eA]
    intro x hx
    simp only [List.mem_cons, List.not_mem_nil, or_false] at hx
    rcases hx with rfl | rfl | rfl
    · exact ⟨f97, fun z => absurd z (by rw [ef]; exact Nat.lt_irrefl _)⟩
    · exact ⟨Nat.le_succ_of_le f97, fun z => absurd z (by rw [ef]; exact Nat.not_lt.mpr (Nat.le_succ _))⟩
    · exact ⟨a97, fun _ => rfl⟩
  have fA : f ∈ A := by rw [eA]; simp
  have rA : f + 1 ∈ A := by rw [eA]; simp
  have aA : sa i ∈ A := by rw [eA]; simp
  have f0 : f ≠ 0 := fun z => absurd (z ▸ f97 : 97 ≤ 0) (by decide)
  have c1 : ChX A [] 1 h h1 := by rw [e1]; exact ChX.new s (Nat.le_refl _) (by decide)
  have s1 := c1.sh
  have cz : ∀ Z, ChX A [] 1 h (sI h1 f Z) := fun Z => c1.trans (m := 0) (ChX.rowI s1 kf fA f0)
  have o1 : h1.1 (sa i) = h.1 (sa i) := by rw [e1]; exact nw_old ult
  have oz : ∀ Z, (sI h1 f Z).1 (sa i) = h.1 (sa i) := fun Z => by rw [at_sI, if_neg (by omega)]; exact o1
  have koz : ∀ Z, kO (sI h1 f Z) (sa i) 8 := fun Z => ka.sm (cz Z).1.2.1 (oz Z)
  have hfz : ∀ Z j, hf (sI h1 f Z) (sa i) j = hf h (sa i) j := fun Z j => by rw [hf_at (oz Z)]
  have Sz : ∀ Z, SoD (sI h1 f Z) (sa i) (dmn bs i) (scl bs i) (cnr bs i) (cel bs i) p q w e B := fun Z => S.kp (kpS.late (cz Z) hA ka (koz Z) (fun j _ => hfz Z j)) P
  have pp := Nat.two_pow_pos (cnr bs i).length
  have pn : 2 ^ (cnr bs i).length ≤ 65536 := show _ ≤ 2 ^ 16 from Nat.pow_le_pow_right (by decide) n16
  have p2 : 2 ≤ 2 ^ (cnr bs i).length := show 2 ^ 1 ≤ _ from Nat.pow_le_pow_right (by decide) (by have := P.2.1.1; omega)
  obtain ⟨Z, rc, vz⟩ := x_cutCell (h := h1) (f := f) P kf Sz (dmn bs i) hD.2 (d + (5 - dmn bs i)) (2 ^ (cnr bs i).length - 1) 0 [] (hi h1 f) (by omega) (by omega) (by decide) (by rw [List.nil_append]; exact hp) (fun t ht => absurd ht (Nat.not_lt_zero t))
  rw [List.nil_append] at vz
  have rc' : ∀ R, qMC (d + 7) 120 [.ref (sa i), .int (iN (dmn bs i)), .int (iN (2 ^ (cnr bs i).length - 1)), .int (iN 0), .ref f, .int (iN 0)] h1 R ↔ R = (some (.int (iN (pcL bs i).length)), sI h1 f Z) := fun R => by
    have := rc R
    rw [show d + (5 - dmn bs i) + dmn bs i + 2 = d + 7 by omega, sI_id kf] at this
    exact this
  obtain ⟨h2, e2⟩ : ∃ h2, h2 = sI h1 f Z := ⟨_, rfl⟩
  have c2 : ChX A [] 1 h h2 := by rw [e2]; exact cz Z
  have s2 := c2.sh
  have kf2 : kI h2 f 256 := by rw [e2]; exact (hKd_sI kf).2.1 _ _ kf
  obtain ⟨h3, r, cp, c3, er, kr, vr⟩ := x_copyOf (d := d + 5) s2 kf2 hp (by decide)
  have er' : r = f + 1 := by rw [er, e2]; exact l1
  have c3' : ChX A [] 3 h h3 := c2.trans (m := 2) (c3.mono (fun x hx => by rw [List.mem_singleton] at hx; rw [hx, er']; exact rA) (fun _ z => z) (Nat.le_refl _))
  have s3 := c3'.sh
  have al2 : sa i < h2.2.1 := by rw [e2]; show sa i < h1.2.1; omega
  have o3 : h3.1 (sa i) = h2.1 (sa i) := c3.at (fun z => by rw [List.mem_singleton] at z; omega) (fun z => by have := (by decide : ∀ x ∈ XO, x < 97) _ z; omega) al2
  have ka3 : kO h3 (sa i) 8 := by
    have : kO h2 (sa i) 8 := by rw [e2]; exact koz Z
    exact this.sm c3.1.2.1 o3
  have hf3 : ∀ j, hf h3 (sa i) j = hf h (sa i) j := fun j => by rw [hf_at o3, e2]; exact hfz Z j
  obtain ⟨h4, e4⟩ : ∃ h4, h4 = xV h3 (sa i) 8 (.ref r) := ⟨_, rfl⟩
  have c4 : ChX A [] 3 h h4 := c3'.trans (m := 0) (by rw [e4]; exact ChX.sol s3 ka3 a97 aA)
  have p4 : qput h3 (sa i) 8 8 (.ref r) = some h4 := by rw [e4]; exact pSol ka3 (by decide)
  have ka4 : kO h4 (sa i) 8 := by rw [e4]; exact kO_xV ka3 ka3
  have hf4 : ∀ j, j ≠ 8 → hf h4 (sa i) j = hf h (sa i) j := fun j hj => by rw [e4, hf_xV, if_neg (fun z => hj z.2)]; exact hf3 j
  have hf8 : hf h4 (sa i) 8 = .ref r := by rw [e4, hf_xV, if_pos ⟨rfl, rfl⟩]
  have kr4 : kI h4 r (pcL bs i).length := by rw [e4]; exact kI_xV kr ka3
  have hr4 : ∀ k, k < (pcL bs i).length → hi h4 r k = iN ((pcL bs i).getD k 0) := fun k hk => by rw [e4, hi_xV ka3, vr k hk, e2, hi_sI, if_pos rfl]; exact vz k hk
  have ks4 := kpS.late c4 hA ka ka4 (fun j hj => hf4 j (by omega))
  have sl' : SoL h4 (sa i) bs i := ⟨by rw [hf4 7 (by decide)]; exact sl1, Or.inr ⟨r, hf8, ⟨by rw [er']; exact Nat.le_succ_of_le f97, by omega⟩, kr4, hr4⟩, l0, by rw [hf4 9 (by decide)]; exact sl3, by rw [hf4 9 (by decide)]; exact sl4.kp ks4⟩
  have g84 : qget h4 (sa i) 8 8 = some (.ref r) := by rw [gSol ka4 (by decide), hf8]
  have ev : ∀ R, qMC (d + 7) 103 [.ref (sa i)] h1 R ↔ R = (some (.int (iN (2 ^ (cnr bs i).length - 1))), h1) := fun R => by
    have := x_every (d := d + 6) (R := R) (Sz (hi h1 f)) n16
    rw [sI_id kf] at this
    exact this
  have ob := (Sz (hi h1 f)).obj
  rw [sI_id kf] at ob
  obtain ⟨⟨v16, vlt, vF⟩, w0, -⟩ := ob
  refine ⟨h4, r, A, fun R => ?_, fun x hx => (hA x hx).1, c4.mono (fun _ z => z) (fun _ z => z) (by decide), X.late s c4 hi' hA (by decide) ka4 (fun j hj => hf4 j (by omega)) sl', fn.ch c4 (by decide) (fun x hx hl k => by rw [(hA x hx).2 hl] at k; exact kO_kI ka k), kr4, hr4⟩
  rw [e2] at cp
  simp (disch := first | assumption | omega) only [e119_0, e119_1, e119_4, e119_4N, e119_7, e119_10, e119_12, e119_13, e119_14, e119_15, e119_18, e119_19, e119_22, e119_23, e119_24, e119_25, e119_28, e119_29, e119_30, e119_31, e119_32, e119_35, e119_38, e119_39, e119_42, e119_42N, m119, ↓reduceIte, qg_0, qg_1, qg_2, qg_3, qg_4, qg_5, qg_6, qg_7, qg_8, qg_9, qg_10, qg_11, qg_12, qg_13, not_true_eq_false, not_false_eq_true, Nat.reduceBEq, Bool.false_eq_true, ex1, ex3, ex4, exF, qfit_i, qfit_l, qfit_r, qfit_n, qfit_b0, qfit_b1, qcat_i, qcat_r, qcat_n, qcat_l, qroom_0, qroom_c, List.map_cons, List.map_nil, List.sum_cons, List.sum_nil, Nat.reduceAdd, Nat.reduceMul, Nat.reduceLT, Nat.reduceLeDiff, Nat.reduceEqDiff, Nat.reduceSub, decide_true, true_and, and_true, and_self, if_true, if_false, Option.toList_some, Option.toList_none, List.cons_append, List.nil_append, qsL, qlong, List.length_cons, List.length_nil, iN_L, exI, iN_add, iN_mul, iN_le, iN_lt, iN_eq, Nat.le_refl, qfN0, qfN1, uX_16, vX_16, uX_19, vX_19, uX_27, vX_27, uX_30, vX_30, uX_39, vX_39, uX_41, vX_41, uX_43, vX_43, uX_46, vX_46, uX_50, vX_50, uX_53, vX_53, g8, z1, z2, or_self, ← e1, ← ef, v16, vlt, vF, w0, ev, rc', cp, p4, g84]
end XPIECES

/-! ===== THE CLASS: ringOf, ring ===== -/
section XRING3
variable {d : Nat} {h : qH} {bs : List bdy} {sa : Nat → Nat} {R : qRes}
def rngL (q : Nat → Nat) (n : Nat) : List Nat := (List.range n).map q
theorem rngL_len {q : Nat → Nat} {n : Nat} : (rngL q n).length = n := by unfold rngL; rw [List.length_map, List.length_range]
theorem rngL_at {q : Nat → Nat} {n k : Nat} (hk : k < n) : (rngL q n).getD k 0 = q k := by
  unfold rngL
  rw [List.getD_eq_getElem?_getD, List.getElem?_map, List.getElem?_range hk]; rfl
set_option maxRecDepth 100000 in
set_option maxHeartbeats 16000000 in
theorem x_ringOf {i : Nat} (s : ShX h) (X : BsX h bs sa) (fn : FnX h) (hi' : i < bs.length) (n12 : (cnr bs i).length ≤ 12) : ∃ h' r l A, (∀ R, qMC (d + 4) 129 [.ref 43, .ref (sa i)] h R ↔ R = (some (.ref r), h')) ∧ (∀ x ∈ A, 97 ≤ x) ∧ ChX A [(43, 4)] 8 h h' ∧ BsX h' bs sa ∧ FnX h' ∧ kI h' r l.length ∧ (∀ k, k < l.length → hi h' r k = iN (l.getD k 0)) ∧ rgL (adjB (cel bs i 1)) (cnr bs i).length l := by
  obtain ⟨-, -, P, ⟨p, q, w, e, B, S, QQ⟩, sl⟩ := X.2.2.2 i hi'
  obtain ⟨⟨u16, ult, uF⟩, g0, g1, g2, g3, g4, g5, g6⟩ := S.obj
  have ka := S.1.1
  have a97 := S.1.2
  obtain ⟨sl1, sl2, l0, sl3, sl4⟩ := id sl
  rcases sl4 with hn | ⟨r, r1, r2, r3, r4⟩
  rotate_left
  · have g9 : qget h (sa i) 8 9 = some (.ref r) := by rw [gSol ka (by decide), r1]
    refine ⟨h, r, l0, [], fun R => ?_, fun x hx => (by cases hx), ChX.refl s, X, fn, r3, r4, sl3 (by rw [r1]; exact fun z => by cases z)⟩
    simp (disch := first | assumption | omega) only [e129_0, e129_1, e129_4, e129_4N, e129_7, e129_8, e129_9, e129_12, e129_13, e129_16, e129_17, e129_18, e129_19, e129_20, e129_23, e129_24, e129_27, e129_28, e129_29, e129_30, e129_31, e129_34, e129_35, e129_38, e129_41, e129_42, e129_44, e129_47, e129_48, e129_49, e129_50, e129_52, e129_53, e129_55, e129_57, e129_58, e129_61, e129_62, e129_65, e129_66, e129_67, e129_68, e129_70, e129_73, e129_76, e129_77, e129_79, e129_80, e129_81, e129_82, e129_83, e129_85, e129_86, e129_89, e129_91, e129_92, e129_93, e129_96, e129_99, e129_100, e129_103, e129_103N, m129, ↓reduceIte, qg_0, qg_1, qg_2, qg_3, qg_4, qg_5, qg_6, qg_7, qg_8, qg_9, qg_10, qg_11, qg_12, qg_13, not_true_eq_false, not_false_eq_true, Nat.reduceBEq, Bool.false_eq_true, ex1, ex3, ex4, exF, qfit_i, qfit_l, qfit_r, qfit_n, qfit_b0, qfit_b1, qcat_i, qcat_r, qcat_n, qcat_l, qroom_0, qroom_c, List.map_cons, List.map_nil, List.sum_cons, List.sum_nil, Nat.reduceAdd, Nat.reduceMul, Nat.reduceLT, Nat.reduceLeDiff, Nat.reduceEqDiff, Nat.reduceSub, decide_true, true_and, and_true, and_self, if_true, if_false, Option.toList_some, Option.toList_none, List.cons_append, List.nil_append, qsL, qlong, List.length_cons, List.length_nil, iN_L, exI, iN_add, iN_mul, iN_le, iN_lt, iN_eq, Nat.le_refl, qfN0, qfN1, uX_16, vX_16, uX_19, vX_19, uX_27, vX_27, uX_30, vX_30, uX_39, vX_39, uX_41, vX_41, uX_43, vX_43, uX_46, vX_46, uX_50, vX_50, uX_53, vX_53, g9]
  have n3 : 3 ≤ (cnr bs i).length := by have := P.2.1.1; have := P.1; omega
  have n16 := P.2.1.2
  have p12 := pw_12 n12
  have g9 : qget h (sa i) 8 9 = some .null := by rw [gSol ka (by decide), hn]
  obtain ⟨h1, f, rn, c1, f4, kf, f97, fo⟩ := ff_new (d := d) (a := sa i) s fn
  have fq : ∀ b, b < h.2.1 → b = f → kI h f 2048 := fun b hb e => fo (e ▸ hb)
  clear fo
  have s1 := c1.sh
  have X1 := X.ch s c1 (fun x hx => (by cases hx)) (fun z => (by cases z)) (by decide)
  obtain ⟨G, tb, ra⟩ := ff_all (d := d) s1 X1 hi' n12 f4 kf f97
  obtain ⟨h2, e2⟩ : ∃ h2, h2 = sI h1 f G := ⟨_, rfl⟩
  have rf : ∀ R, qMC (d + 3) 130 [.ref 43, .ref (sa i)] h R ↔ R = (none, h2) := fun R => by rw [rn R, ra R, e2]
  have kf2 : kI h2 f 2048 := by rw [e2]; exact (hKd_sI kf).2.1 _ _ kf
  have hf2 : ∀ b, hf h2 b = hf h1 b := fun b => by rw [e2, hf_sI kf]
  have hi2 : hi h2 f = G := by rw [e2, hi_sI, if_pos rfl]
  have f42 : hf h2 43 4 = .ref f := by rw [hf2]; exact f4
  obtain ⟨r, er⟩ : ∃ r, r = h2.2.1 := ⟨_, rfl⟩
  have fr : f < r := by rw [er]; exact kf2.1.2.2
  have l12 : h.2.1 ≤ h1.2.1 := c1.1.2.1
  have l2 : h2.2.1 = h1.2.1 := by rw [e2]; rfl
  have ar : sa i < r := by omega
  have r97 : 97 ≤ r := by omega
  obtain ⟨A, eA⟩ : ∃ A, A = [f, sa i, r] := ⟨_, rfl⟩
  have hA : ∀ x ∈ A, 97 ≤ x := by
    rw [eA]
    intro x hx
    simp only [List.mem_cons, List.not_mem_nil, or_false] at hx
    rcases hx with rfl | rfl | rfl <;> assumption
  have fA : f ∈ A := by rw [eA]; simp
  have aA : sa i ∈ A := by rw [eA]; simp
  have rA : r ∈ A := by rw [eA]; simp
  have c2 : ChX A [(43, 4)] 5 h h2 := (c1.mono (fun _ z => by cases z) (fun _ z => z) (Nat.le_refl _)).trans (m := 0) (by rw [e2]; exact ChX.rowI s1 kf fA (fun z => absurd (z ▸ f97 : 97 ≤ 0) (by decide)))
  have s2 := c2.sh
  obtain ⟨m, m1, m2, -, m3⟩ := tb 1 rfl (Nat.le_refl _) (by have := Nat.one_lt_two_pow (n := (cnr bs i).length) (by omega); omega)
  have m4 := m3 rfl
  have gf2 : qget h2 43 9 4 = some (.ref f) := by rw [gX_43_4 s2, f42]
  have rd0 : qiald h2 f (iN 0) = some (iN m) := by rw [rdI kf2 (by decide), hi2]; exact congrArg some m2
  have S2o : (16 ≤ sa i ∧ sa i < h2.2.1 ∧ ∃ F, h2.1 (sa i) = .inr (8, F)) ∧ qget h2 (sa i) 8 1 = some (.int (iN (cnr bs i).length)) ∧ kO h2 (sa i) 8 ∧ ∀ j, hf h2 (sa i) j = hf h (sa i) j := by
    have e1 : h1.1 (sa i) = h.1 (sa i) := c1.at (fun z => by cases z) (fun z => by have := (by decide : ∀ x ∈ XO, x < 97) _ z; omega) ult
    have k1 : kO h1 (sa i) 8 := ka.sm l12 e1
    have k2 : kO h2 (sa i) 8 := by rw [e2]; exact (hKd_sI kf).2.2.2.2 _ _ k1
    have hh : ∀ j, hf h2 (sa i) j = hf h (sa i) j := fun j => by rw [hf2, hf_at e1]
    refine ⟨⟨by omega, by omega, k2.2⟩, ?_, k2, hh⟩
    rw [gSol k2 (by decide), hh, S.2.1.2.1]
  obtain ⟨⟨v16, vlt, vF⟩, v1, ka2, hfa2⟩ := S2o
  obtain ⟨len, el⟩ : ∃ len, len = if finB (adjB (cel bs i 1)) (cnr bs i).length ((cnr bs i).length - 1) 1 0 = true then (cnr bs i).length else 0 := ⟨_, rfl⟩
  have len16 : len ≤ 16 := by rw [el]; split <;> omega
  obtain ⟨h3, e3⟩ : ∃ h3, h3 = qnew h2 (.inl (0, len, .inl (fun _ => iN 0))) len := ⟨_, rfl⟩
  have c3 : ChX A [(43, 4)] 6 h h3 := c2.trans (m := 1) (by rw [e3]; exact ChX.new s2 (Nat.le_refl _) (by omega))
  have s3 := c3.sh
  obtain ⟨kr3, hr3⟩ := kI_new (h := h2) (n := len) (m := len) (g := fun _ => iN 0) (by omega) s2
  rw [← e3, ← er] at kr3 hr3
  have o3 : ∀ b, b < r → h3.1 b = h2.1 b := fun b hb => by rw [e3]; exact nw_old (by omega)
  have l3 : h3.2.1 = r + 1 := by rw [e3, er]; rfl
  have ka3 : kO h3 (sa i) 8 := ka2.sm (by omega) (o3 _ ar)
  obtain ⟨h4, e4⟩ : ∃ h4, h4 = xV h3 (sa i) 9 (.ref r) := ⟨_, rfl⟩
  have c4 : ChX A [(43, 4)] 6 h h4 := c3.trans (m := 0) (by rw [e4]; exact ChX.sol s3 ka3 a97 aA)
  have s4 := c4.sh
  have p4 : qput h3 (sa i) 8 9 (.ref r) = some h4 := by rw [e4]; exact pSol ka3 (by decide)
  have kr4 : kI h4 r len := by rw [e4]; exact kI_xV kr3 ka3
  have hr4 : hi h4 r = fun _ => iN 0 := by rw [e4, hi_xV ka3]; exact hr3
  have ka4 : kO h4 (sa i) 8 := by rw [e4]; exact kO_xV ka3 ka3
  have l4 : h4.2.1 = r + 1 := by rw [e4]; exact l3
  have kf4 : kI h4 f 2048 := by rw [e4]; exact kI_xV (kf2.sm (by omega) (o3 _ fr)) ka3
  have hif4 : hi h4 f = G := by rw [e4, hi_xV ka3, hi_at (o3 _ fr)]; exact hi2
  have hfa4 : ∀ j, j ≠ 9 → hf h4 (sa i) j = hf h (sa i) j := fun j hj => by rw [e4, hf_xV, if_neg (fun z => hj z.2), hf_at (o3 _ ar)]; exact hfa2 j
  have hf94 : hf h4 (sa i) 9 = .ref r := by rw [e4, hf_xV, if_pos ⟨rfl, rfl⟩]
  have f44 : hf h4 43 4 = .ref f := by rw [e4, hf_xV, if_neg (fun z => by omega), hf_at (o3 43 (by omega))]; exact f42
  -- heaps with the row filled in part
  have cz : ∀ Z, ChX A [(43, 4)] 6 h (sI h4 r Z) := fun Z => c4.trans (m := 0) (ChX.rowI s4 kr4 rA (by omega))
  have kz : ∀ Z, kpS h (sI h4 r Z) := fun Z => ⟨(cz Z).1.2.1, fun b hb hl => by
    by_cases b1 : b = f
    · rw [b1]; exact Or.inr (Or.inr (fq b hl b1))
    · by_cases b2 : b = sa i
      · rw [b2]
        exact Or.inr (Or.inl ⟨ka, (hKd_sI kr4).2.2.2.2 _ _ ka4, fun j hj => by rw [hf_sI kr4]; exact hfa4 j (by omega)⟩)
      · refine Or.inl ((cz Z).at (fun z => ?_) (fun z => by have := (by decide : ∀ x ∈ XO, x < 97) _ z; omega) hl)
        rw [eA] at z
        simp only [List.mem_cons, List.not_mem_nil, or_false] at z
        rcases z with z | z | z
        · exact b1 z
        · exact b2 z
        · omega⟩
  have Sz : ∀ Z, SoD (sI h4 r Z) (sa i) (dmn bs i) (scl bs i) (cnr bs i) (cel bs i) p q w e B := fun Z => S.kp (kz Z) P
  have hfz : ∀ Z b, hf (sI h4 r Z) b = hf h4 b := fun Z b => hf_sI kr4
  have krz : ∀ Z, kI (sI h4 r Z) r len := fun Z => (hKd_sI kr4).2.1 _ _ kr4
  have kfz : ∀ Z, kI (sI h4 r Z) f 2048 := fun Z => (hKd_sI kr4).2.1 _ _ kf4
  have hifz : ∀ Z, hi (sI h4 r Z) f = G := fun Z => by rw [hi_sI, if_neg (Nat.ne_of_lt fr)]; exact hif4
  have hirz : ∀ Z, hi (sI h4 r Z) r = Z := fun Z => by rw [hi_sI, if_pos rfl]
  have g9z : ∀ Z, qget (sI h4 r Z) (sa i) 8 9 = some (.ref r) := fun Z => by rw [gSol (Sz Z).1.1 (by decide), hfz, hf94]
  have lnz : ∀ Z, qalen (sI h4 r Z) r = some (iN len) := fun Z => lnI (krz Z)
  -- what is left to say of a row
  have fin : ∀ (Z : Nat → Int32) (l : List Nat), l.length = len → (∀ k, k < l.length → Z k = iN (l.getD k 0)) → rgL (adjB (cel bs i 1)) (cnr bs i).length l → (∀ R, qMC (d + 4) 129 [.ref 43, .ref (sa i)] h R ↔ R = (some (.ref r), sI h4 r Z)) → ∃ h' r l A, (∀ R, qMC (d + 4) 129 [.ref 43, .ref (sa i)] h R ↔ R = (some (.ref r), h')) ∧ (∀ x ∈ A, 97 ≤ x) ∧ ChX A [(43, 4)] 8 h h' ∧ BsX h' bs sa ∧ FnX h' ∧ kI h' r l.length ∧ (∀ k, k < l.length → hi h' r k = iN (l.getD k 0)) ∧ rgL (adjB (cel bs i 1)) (cnr bs i).length l := by
    intro Z l ll lz rg rr
    refine ⟨sI h4 r Z, r, l, A, rr, hA, (cz Z).mono (fun _ z => z) (fun _ z => z) (by decide), X.kp (kz Z) ?_ ?_ (fun j hj => ?_), Or.inr ⟨f, by rw [hfz]; exact f44, f97, kfz Z⟩, by rw [ll]; exact krz Z, fun k hk => by rw [hirz]; exact lz k hk, rg⟩
    · exact (cz Z).hr (fun z => absurd (hA _ z) (by decide)) (by decide) (s.lt (by decide))
    · exact (cz Z).xi (by decide) (by decide)
    · obtain ⟨-, -, -, ⟨p', q', w', e', B', S', -⟩, sl'⟩ := X.2.2.2 j hj
      by_cases ej : j = i
      · subst ej
        refine ⟨by rw [hfz, hfa4 7 (by decide)]; exact sl1, by rw [hfz, hfa4 8 (by decide)]; exact sl2.kp (kz Z), l, fun _ => rg, Or.inr ⟨r, by rw [hfz]; exact hf94, ⟨r97, by omega⟩, by rw [ll]; exact krz Z, fun k hk => by rw [hirz]; exact lz k hk⟩⟩
      · refine sl'.kp (kz Z) fun t _ => ?_
        have nj : sa j ≠ sa i := by
          rcases Nat.lt_trichotomy j i with z | z | z
          · exact X.2.2.1 j i z hi'
          · exact absurd z ej
          · exact (X.2.2.1 i j z hj).symm
        rw [hf_at]
        refine (cz Z).at (fun z => ?_) (fun z => by have := (by decide : ∀ x ∈ XO, x < 97) _ z; have := S'.1.2; omega) S'.1.1.1.2
        rw [eA] at z
        simp only [List.mem_cons, List.not_mem_nil, or_false] at z
        rcases z with z | z | z
        · have kj := S'.1.1
          have := fq _ kj.1.2 z
          obtain ⟨x1, y1⟩ := kj.2
          obtain ⟨x2, y2⟩ := this.2
          rw [z, y2] at y1; cases y1
        · exact nj z
        · have := S'.1.1.1.2
          omega
  obtain ⟨z1, z2⟩ := nN len (by omega)
  have g94 : qget h4 (sa i) 8 9 = some (.ref r) := by rw [gSol ka4 (by decide), hf94]
  have ln4 : qalen h4 r = some (iN len) := lnI kr4
  have mo : m.testBit 0 = decide (m % 2 = 1) := Nat.testBit_zero m
  cases hfin : finB (adjB (cel bs i 1)) (cnr bs i).length ((cnr bs i).length - 1) 1 0 with
  | false =>
    have e0 : len = 0 := by rw [el, hfin]; rfl
    have m0 : m % 2 = 0 := by
      rw [m4, hfin] at mo
      have := of_decide_eq_false mo.symm
      omega
    refine fin (hi h4 r) [] (by rw [e0]; rfl) (fun k hk => absurd hk (Nat.not_lt_zero k)) (Or.inl ⟨fun z => (by rw [rp_0 (by omega), hfin] at z; cases z), rfl⟩) (fun R => ?_)
    rw [sI_id kr4]
    rw [e0] at z1 z2 ln4 e3
    simp (disch := first | assumption | omega) only [e129_0, e129_1, e129_4, e129_4N, e129_7, e129_8, e129_9, e129_12, e129_13, e129_16, e129_17, e129_18, e129_19, e129_20, e129_23, e129_24, e129_27, e129_28, e129_29, e129_30, e129_31, e129_34, e129_35, e129_38, e129_41, e129_42, e129_44, e129_47, e129_48, e129_49, e129_50, e129_52, e129_53, e129_55, e129_57, e129_58, e129_61, e129_62, e129_65, e129_66, e129_67, e129_68, e129_70, e129_73, e129_76, e129_77, e129_79, e129_80, e129_81, e129_82, e129_83, e129_85, e129_86, e129_89, e129_91, e129_92, e129_93, e129_96, e129_99, e129_100, e129_103, e129_103N, m129, ↓reduceIte, qg_0, qg_1, qg_2, qg_3, qg_4, qg_5, qg_6, qg_7, qg_8, qg_9, qg_10, qg_11, qg_12, qg_13, not_true_eq_false, not_false_eq_true, Nat.reduceBEq, Bool.false_eq_true, ex1, ex3, ex4, exF, qfit_i, qfit_l, qfit_r, qfit_n, qfit_b0, qfit_b1, qcat_i, qcat_r, qcat_n, qcat_l, qroom_0, qroom_c, List.map_cons, List.map_nil, List.sum_cons, List.sum_nil, Nat.reduceAdd, Nat.reduceMul, Nat.reduceLT, Nat.reduceLeDiff, Nat.reduceEqDiff, Nat.reduceSub, decide_true, true_and, and_true, and_self, if_true, if_false, Option.toList_some, Option.toList_none, List.cons_append, List.nil_append, qsL, qlong, List.length_cons, List.length_nil, iN_L, exI, iN_add, iN_mul, iN_le, iN_lt, iN_eq, Nat.le_refl, qfN0, qfN1, uX_16, vX_16, uX_19, vX_19, uX_27, vX_27, uX_30, vX_30, uX_39, vX_39, uX_41, vX_41, uX_43, vX_43, uX_46, vX_46, uX_50, vX_50, uX_53, vX_53, g9, rf, gf2, rd0, iN_one, m0, z1, z2, or_self, ← er, ← e3, p4, g94, ln4]
  | true =>
    have en : len = (cnr bs i).length := by rw [el, hfin]; rfl
    have m0 : m % 2 = 1 := by
      rw [m4, hfin] at mo
      exact of_decide_eq_true mo.symm
    obtain ⟨n, enn⟩ : ∃ n, n = (cnr bs i).length := ⟨_, rfl⟩
    obtain ⟨adj, ea⟩ : ∃ adj, adj = adjB (cel bs i 1) := ⟨_, rfl⟩
    have gd : ∀ Z l S, l < n → S % 2 = 1 → S < 2 ^ n → ∀ R, qMC (d + 3) 131 [.ref 43, .ref (sa i), .int (iN l), .int (iN S)] (sI h4 r Z) R ↔ R = (some (.int (iN (gnM adj n S l))), sI h4 r Z) := by
      intro Z l S hl s1 s2 R
      rw [enn] at hl s2 ⊢
      rw [ea]
      exact x_good (cz Z).sh (Sz Z) n12 hl s1 s2 (by rw [hfz]; exact f44) (kfz Z) (by rw [hifz]; exact fun T t1 t2 t3 => tb T t1 (by omega) t3)
    rw [← enn, ← ea] at fin hfin ⊢
    rw [← enn] at en n3 n12 n16
    have ml : ∀ f, mask f n < 65536 := fun f => mask_16 n16
    have go : ∀ (w' k : Nat) (q : Nat → Nat) (Z : Nat → Int32), k + w' = n → 1 ≤ k → rpS adj n q k → (∀ j, j < k → Z j = iN (q j)) → ∃ q' Z', fstR adj n q' ∧ (∀ j, j < n → Z' j = iN (q' j)) ∧ ∀ R, qEv (d + 3) 2 qk_129 55 [some (.ref 43), some (.ref (sa i)), some (.int (iN 1)), some (.int (iN (q (k - 1)))), some (.int (iN (mask (inR q k) n))), some (.int (iN k))] [] (sI h4 r Z) R ↔ R = (some (.ref r), sI h4 r Z') := by
      intro w'
      induction w' with
      | zero =>
        intro k q Z hk k1 rp zq
        have ek : k = n := by omega
        subst ek
        have ob := (Sz Z).obj.1
        have gz := g9z Z
        have lz := lnz Z
        rw [en] at lz
        refine ⟨q, Z, rp_end (by omega) rp, zq, fun R => ?_⟩
        rw [e129_55]
        simp (disch := first | assumption | omega) only [e129_0, e129_1, e129_4, e129_4N, e129_7, e129_8, e129_9, e129_12, e129_13, e129_16, e129_17, e129_18, e129_19, e129_20, e129_23, e129_24, e129_27, e129_28, e129_29, e129_30, e129_31, e129_34, e129_35, e129_38, e129_41, e129_42, e129_44, e129_47, e129_48, e129_49, e129_50, e129_52, e129_53, e129_57, e129_58, e129_61, e129_62, e129_65, e129_66, e129_67, e129_68, e129_70, e129_73, e129_76, e129_77, e129_79, e129_80, e129_81, e129_82, e129_83, e129_85, e129_86, e129_89, e129_91, e129_92, e129_93, e129_96, e129_99, e129_100, e129_103, e129_103N, m129, ↓reduceIte, qg_0, qg_1, qg_2, qg_3, qg_4, qg_5, qg_6, qg_7, qg_8, qg_9, qg_10, qg_11, qg_12, qg_13, not_true_eq_false, not_false_eq_true, Nat.reduceBEq, Bool.false_eq_true, ex1, ex3, ex4, exF, qfit_i, qfit_l, qfit_r, qfit_n, qfit_b0, qfit_b1, qcat_i, qcat_r, qcat_n, qcat_l, qroom_0, qroom_c, List.map_cons, List.map_nil, List.sum_cons, List.sum_nil, Nat.reduceAdd, Nat.reduceMul, Nat.reduceLT, Nat.reduceLeDiff, Nat.reduceEqDiff, Nat.reduceSub, decide_true, true_and, and_true, and_self, if_true, if_false, Option.toList_some, Option.toList_none, List.cons_append, List.nil_append, qsL, qlong, List.length_cons, List.length_nil, iN_L, exI, iN_add, iN_mul, iN_le, iN_lt, iN_eq, Nat.le_refl, qfN0, qfN1, uX_16, vX_16, uX_19, vX_19, uX_27, vX_27, uX_30, vX_30, uX_39, vX_39, uX_41, vX_41, uX_43, vX_43, uX_46, vX_46, uX_50, vX_50, uX_53, vX_53, gz, lz]
      | succ w' ih =>
        intro k q Z hk k1 rp zq
        obtain ⟨c, cn, c1, c2, rp', cs⟩ := rp_step k1 (by omega) rp
        obtain ⟨⟨o1, o2, o3⟩, -⟩ := (Sz Z).obj
        have szz := (cz Z).sh
        have gz := g9z Z
        have lz := lnz Z
        rw [en] at lz
        have ql := rp.1.2.1 (k - 1) (by omega)
        have odd : (mask (inR q k) n) % 2 = 1 := by
          have : (mask (inR q k) n).testBit 0 = true := by
            rw [mask_bit, decide_eq_true (by omega), Bool.true_and]
            exact inR_iff.mpr ⟨0, by omega, rp.1.1⟩
          rw [Nat.testBit_zero] at this
          exact of_decide_eq_true this
        have gg := gd Z (q (k - 1)) (mask (inR q k) n) ql odd (mask_lt _ n)
        have ll : ∀ R, qMC (d + 3) 178 [.int (iN (gnM adj n (mask (inR q k) n) (q (k - 1))))] (sI h4 r Z) R ↔ R = (some (.int (iN c)), sI h4 r Z) := fun R => x_leastOf (ml _) c1 c2
        have sh : iN 1 <<< (iN c &&& iN 31) = iN (2 ^ c) := iN_shl1 c (by omega)
        have wr : qiast (sI h4 r Z) r (iN k) (iN c) = some (sI h4 r (upd Z k (iN c))) := by rw [wrI (krz Z) (by omega), sI_sI, hirz]
        obtain ⟨q', Z', f1, f2, f3⟩ := ih (k + 1) (updR q k c) (upd Z k (iN c)) (by omega) (by omega) rp' (fun j hj => by
          rw [upd_at]
          unfold updR
          by_cases z : j = k
          · rw [if_pos z, if_pos z]
          · rw [if_neg z, if_neg z]; exact zq j (by omega))
        refine ⟨q', Z', f1, f2, fun R => ?_⟩
        rw [← f3 R, show k + 1 - 1 = k by omega, show updR q k c k = c from if_pos rfl, ← inM_upd, if_pos cn, e129_55]
        simp (disch := first | assumption | omega) only [e129_0, e129_1, e129_4, e129_4N, e129_7, e129_8, e129_9, e129_12, e129_13, e129_16, e129_17, e129_18, e129_19, e129_20, e129_23, e129_24, e129_27, e129_28, e129_29, e129_30, e129_31, e129_34, e129_35, e129_38, e129_41, e129_42, e129_44, e129_47, e129_48, e129_49, e129_50, e129_52, e129_53, e129_57, e129_58, e129_61, e129_62, e129_65, e129_66, e129_67, e129_68, e129_70, e129_73, e129_76, e129_77, e129_79, e129_80, e129_81, e129_82, e129_83, e129_85, e129_86, e129_89, e129_91, e129_92, e129_93, e129_96, e129_99, e129_100, e129_103, e129_103N, m129, ↓reduceIte, qg_0, qg_1, qg_2, qg_3, qg_4, qg_5, qg_6, qg_7, qg_8, qg_9, qg_10, qg_11, qg_12, qg_13, not_true_eq_false, not_false_eq_true, Nat.reduceBEq, Bool.false_eq_true, ex1, ex3, ex4, exF, qfit_i, qfit_l, qfit_r, qfit_n, qfit_b0, qfit_b1, qcat_i, qcat_r, qcat_n, qcat_l, qroom_0, qroom_c, List.map_cons, List.map_nil, List.sum_cons, List.sum_nil, Nat.reduceAdd, Nat.reduceMul, Nat.reduceLT, Nat.reduceLeDiff, Nat.reduceEqDiff, Nat.reduceSub, decide_true, true_and, and_true, and_self, if_true, if_false, Option.toList_some, Option.toList_none, List.cons_append, List.nil_append, qsL, qlong, List.length_cons, List.length_nil, iN_L, exI, iN_add, iN_mul, iN_le, iN_lt, iN_eq, Nat.le_refl, qfN0, qfN1, uX_16, vX_16, uX_19, vX_19, uX_27, vX_27, uX_30, vX_30, uX_39, vX_39, uX_41, vX_41, uX_43, vX_43, uX_46, vX_46, uX_50, vX_50, uX_53, vX_53, gz, lz, show ¬ n ≤ k by omega, o1, o2, o3, gg, ll, sh, iN_or (mask (inR q k) n), wr]
    have rp1 : rpS adj n (fun _ => 0) 1 := ⟨⟨rfl, fun j _ => by show 0 < n; omega, fun i j hij hj => by omega, fun j hj => by omega⟩, by rw [inR_0 (adj := adj) (by omega) rfl]; exact hfin, fun j h1 h2 => by omega⟩
    obtain ⟨q', Z', f1, f2, f3⟩ := go (n - 1) 1 (fun _ => 0) (hi h4 r) (by omega) (Nat.le_refl _) rp1 (fun j _ => by rw [hr4])
    refine fin Z' (rngL q' n) (by rw [rngL_len, en]) (fun k hk => by rw [rngL_len] at hk; rw [rngL_at hk]; exact f2 k hk) (Or.inr ⟨q', f1, rngL_len, fun k hk => rngL_at hk⟩) (fun R => ?_)
    rw [← f3 R, inR_0 (adj := adj) (show 1 ≤ n by omega) rfl, sI_id kr4]
    rw [en] at z1 z2 e3
    rw [← enn] at v1
    simp (disch := first | assumption | omega) only [e129_0, e129_1, e129_4, e129_4N, e129_7, e129_8, e129_9, e129_12, e129_13, e129_16, e129_17, e129_18, e129_19, e129_20, e129_23, e129_24, e129_27, e129_28, e129_29, e129_30, e129_31, e129_34, e129_35, e129_38, e129_41, e129_42, e129_44, e129_47, e129_48, e129_49, e129_50, e129_52, e129_53, e129_57, e129_58, e129_61, e129_62, e129_65, e129_66, e129_67, e129_68, e129_70, e129_73, e129_76, e129_77, e129_79, e129_80, e129_81, e129_82, e129_83, e129_85, e129_86, e129_89, e129_91, e129_92, e129_93, e129_96, e129_99, e129_100, e129_103, e129_103N, m129, ↓reduceIte, qg_0, qg_1, qg_2, qg_3, qg_4, qg_5, qg_6, qg_7, qg_8, qg_9, qg_10, qg_11, qg_12, qg_13, not_true_eq_false, not_false_eq_true, Nat.reduceBEq, Bool.false_eq_true, ex1, ex3, ex4, exF, qfit_i, qfit_l, qfit_r, qfit_n, qfit_b0, qfit_b1, qcat_i, qcat_r, qcat_n, qcat_l, qroom_0, qroom_c, List.map_cons, List.map_nil, List.sum_cons, List.sum_nil, Nat.reduceAdd, Nat.reduceMul, Nat.reduceLT, Nat.reduceLeDiff, Nat.reduceEqDiff, Nat.reduceSub, decide_true, true_and, and_true, and_self, if_true, if_false, Option.toList_some, Option.toList_none, List.cons_append, List.nil_append, qsL, qlong, List.length_cons, List.length_nil, iN_L, exI, iN_add, iN_mul, iN_le, iN_lt, iN_eq, Nat.le_refl, qfN0, qfN1, uX_16, vX_16, uX_19, vX_19, uX_27, vX_27, uX_30, vX_30, uX_39, vX_39, uX_41, vX_41, uX_43, vX_43, uX_46, vX_46, uX_50, vX_50, uX_53, vX_53, g9, rf, gf2, rd0, iN_one, m0, iN10, v16, vlt, vF, v1, z1, z2, show ¬ (n < 0 ∨ 1000000 < n) by omega, ← er, ← e3, p4]
set_option maxRecDepth 100000 in
set_option maxHeartbeats 16000000 in
theorem x_ring {x y v : Int32} (s : ShX h) (X : BsX h bs sa) (fn : FnX h) (hv : rngR bs x y v) : ∃ h' A, (∀ R, qMC (d + 5) 164 [.ref 16, .int x, .int y] h R ↔ R = (some (.int v), h')) ∧ (∀ x ∈ A, 97 ≤ x) ∧ ChX A [(43, 4)] 8 h h' ∧ BsX h' bs sa ∧ FnX h' := by
  rcases hv with ⟨hx, rfl⟩ | ⟨i, ⟨hi', rfl⟩, hv⟩
  · have b : ∀ R, qMC (d + 4) 179 [.ref 16, .int x] h R ↔ R = (some .null, h) := fun R => x_bodyAt0 s X hx
    refine ⟨h, [], fun R => ?_, fun x hx => (by cases hx), ChX.refl s, X, fn⟩
    simp (disch := first | assumption | omega) only [e164_0, e164_1, e164_2, e164_5, e164_6, e164_7, e164_7N, e164_10, e164_13, e164_14, e164_15, e164_18, e164_21, e164_22, e164_23, e164_26, e164_28, e164_31, e164_34, e164_35, e164_36, e164_39, e164_40, e164_43, e164_45, e164_46, e164_48, e164_49, e164_52, e164_54, e164_55, e164_56, e164_59, e164_60, m164, ↓reduceIte, qg_0, qg_1, qg_2, qg_3, qg_4, qg_5, qg_6, qg_7, qg_8, qg_9, qg_10, qg_11, qg_12, qg_13, not_true_eq_false, not_false_eq_true, Nat.reduceBEq, Bool.false_eq_true, ex1, ex3, ex4, exF, qfit_i, qfit_l, qfit_r, qfit_n, qfit_b0, qfit_b1, qcat_i, qcat_r, qcat_n, qcat_l, qroom_0, qroom_c, List.map_cons, List.map_nil, List.sum_cons, List.sum_nil, Nat.reduceAdd, Nat.reduceMul, Nat.reduceLT, Nat.reduceLeDiff, Nat.reduceEqDiff, Nat.reduceSub, decide_true, true_and, and_true, and_self, if_true, if_false, Option.toList_some, Option.toList_none, List.cons_append, List.nil_append, qsL, qlong, List.length_cons, List.length_nil, iN_L, exI, iN_add, iN_mul, iN_le, iN_lt, iN_eq, Nat.le_refl, qfN0, qfN1, uX_16, vX_16, uX_19, vX_19, uX_27, vX_27, uX_30, vX_30, uX_39, vX_39, uX_41, vX_41, uX_43, vX_43, uX_46, vX_46, uX_50, vX_50, uX_53, vX_53, b]
  · have b : ∀ R, qMC (d + 4) 179 [.ref 16, .int (iN i)] h R ↔ R = (some (.ref (sa i)), h) := fun R => x_bodyAt1 s X hi'
    obtain ⟨p, q, w, e, B, S, P⟩ := X.at hi'
    obtain ⟨⟨u16, ult, uF⟩, g0, g1, g2, g3, g4, g5, g6⟩ := S.obj
    have n16 := P.2.1.2
    rcases hv with ⟨hy, rfl⟩ | ⟨hy, hn, rfl⟩ | ⟨hy, hn, hv⟩
    · have q1 : ¬ iN 0 ≤ y := Int32.not_le.mpr hy
      refine ⟨h, [], fun R => ?_, fun x hx => (by cases hx), ChX.refl s, X, fn⟩
      simp (disch := first | assumption | omega) only [e164_0, e164_1, e164_2, e164_5, e164_6, e164_7, e164_7N, e164_10, e164_13, e164_14, e164_15, e164_18, e164_21, e164_22, e164_23, e164_26, e164_28, e164_31, e164_34, e164_35, e164_36, e164_39, e164_40, e164_43, e164_45, e164_46, e164_48, e164_49, e164_52, e164_54, e164_55, e164_56, e164_59, e164_60, m164, ↓reduceIte, qg_0, qg_1, qg_2, qg_3, qg_4, qg_5, qg_6, qg_7, qg_8, qg_9, qg_10, qg_11, qg_12, qg_13, not_true_eq_false, not_false_eq_true, Nat.reduceBEq, Bool.false_eq_true, ex1, ex3, ex4, exF, qfit_i, qfit_l, qfit_r, qfit_n, qfit_b0, qfit_b1, qcat_i, qcat_r, qcat_n, qcat_l, qroom_0, qroom_c, List.map_cons, List.map_nil, List.sum_cons, List.sum_nil, Nat.reduceAdd, Nat.reduceMul, Nat.reduceLT, Nat.reduceLeDiff, Nat.reduceEqDiff, Nat.reduceSub, decide_true, true_and, and_true, and_self, if_true, if_false, Option.toList_some, Option.toList_none, List.cons_append, List.nil_append, qsL, qlong, List.length_cons, List.length_nil, iN_L, exI, iN_add, iN_mul, iN_le, iN_lt, iN_eq, Nat.le_refl, qfN0, qfN1, uX_16, vX_16, uX_19, vX_19, uX_27, vX_27, uX_30, vX_30, uX_39, vX_39, uX_41, vX_41, uX_43, vX_43, uX_46, vX_46, uX_50, vX_50, uX_53, vX_53, b, q1]
    · have q1 : iN 0 ≤ y := Int32.not_lt.mp hy
      refine ⟨h, [], fun R => ?_, fun x hx => (by cases hx), ChX.refl s, X, fn⟩
      simp (disch := first | assumption | omega) only [e164_0, e164_1, e164_2, e164_5, e164_6, e164_7, e164_7N, e164_10, e164_13, e164_14, e164_15, e164_18, e164_21, e164_22, e164_23, e164_26, e164_28, e164_31, e164_34, e164_35, e164_36, e164_39, e164_40, e164_43, e164_45, e164_46, e164_48, e164_49, e164_52, e164_54, e164_55, e164_56, e164_59, e164_60, m164, ↓reduceIte, qg_0, qg_1, qg_2, qg_3, qg_4, qg_5, qg_6, qg_7, qg_8, qg_9, qg_10, qg_11, qg_12, qg_13, not_true_eq_false, not_false_eq_true, Nat.reduceBEq, Bool.false_eq_true, ex1, ex3, ex4, exF, qfit_i, qfit_l, qfit_r, qfit_n, qfit_b0, qfit_b1, qcat_i, qcat_r, qcat_n, qcat_l, qroom_0, qroom_c, List.map_cons, List.map_nil, List.sum_cons, List.sum_nil, Nat.reduceAdd, Nat.reduceMul, Nat.reduceLT, Nat.reduceLeDiff, Nat.reduceEqDiff, Nat.reduceSub, decide_true, true_and, and_true, and_self, if_true, if_false, Option.toList_some, Option.toList_none, List.cons_append, List.nil_append, qsL, qlong, List.length_cons, List.length_nil, iN_L, exI, iN_add, iN_mul, iN_le, iN_lt, iN_eq, Nat.le_refl, qfN0, qfN1, uX_16, vX_16, uX_19, vX_19, uX_27, vX_27, uX_30, vX_30, uX_39, vX_39, uX_41, vX_41, uX_43, vX_43, uX_46, vX_46, uX_50, vX_50, uX_53, vX_53, b, q1, u16, ult, uF, g0, g1, g2, g3, g4, g5, g6, show ¬ (cnr bs i).length ≤ 12 by omega]
    · have q1 : iN 0 ≤ y := Int32.not_lt.mp hy
      obtain ⟨h', r, l, A, r1, hA, c1, X1, fn1, k1, k2, rg⟩ := x_ringOf (d := d) s X fn hi' hn
      have ln := lnI k1
      have ll : l.length ≤ 16 := by
        rcases rg with ⟨-, rfl⟩ | ⟨g, -, g1, -⟩
        · exact Nat.zero_le _
        · omega
      refine ⟨h', A, fun R => ?_, hA, c1, X1, fn1⟩
      have key : (∀ k, k < l.length → y = iN k → v = iN (l.getD k 0)) ∧ ((¬ ∃ k, k < l.length ∧ y = iN k) → v = -1) := by
        rcases hv with ⟨z1, rfl⟩ | ⟨g, z1, z2⟩
        · rcases rg with ⟨-, rfl⟩ | ⟨g', g1, -⟩
          · exact ⟨fun k hk => absurd hk (Nat.not_lt_zero k), fun _ => rfl⟩
          · exact absurd ⟨g', g1.1⟩ z1
        · rcases rg with ⟨y1, -⟩ | ⟨g', g1, g2, g3⟩
          · exact absurd ⟨g, z1.1⟩ y1
          · have eg := fstR_one z1 g1
            rcases z2 with ⟨k, hk, rfl, rfl⟩ | ⟨hk, rfl⟩
            · refine ⟨fun k' hk' e => ?_, fun z => absurd ⟨k, by omega, rfl⟩ z⟩
              have ek : k = k' := iN_inj (by omega) (by omega) e
              rw [← ek, g3 k hk, eg k hk]
            · exact ⟨fun k' hk' e => absurd ⟨k', by omega, e⟩ hk, fun _ => rfl⟩
      by_cases hk : ∃ k, k < l.length ∧ y = iN k
      · obtain ⟨k, hk1, rfl⟩ := hk
        have rd : qiald h' r (iN k) = some (iN (l.getD k 0)) := by rw [rdI k1 hk1, k2 k hk1]
        rw [key.1 k hk1 rfl]
        simp (disch := first | assumption | omega) only [e164_0, e164_1, e164_2, e164_5, e164_6, e164_7, e164_7N, e164_10, e164_13, e164_14, e164_15, e164_18, e164_21, e164_22, e164_23, e164_26, e164_28, e164_31, e164_34, e164_35, e164_36, e164_39, e164_40, e164_43, e164_45, e164_46, e164_48, e164_49, e164_52, e164_54, e164_55, e164_56, e164_59, e164_60, m164, ↓reduceIte, qg_0, qg_1, qg_2, qg_3, qg_4, qg_5, qg_6, qg_7, qg_8, qg_9, qg_10, qg_11, qg_12, qg_13, not_true_eq_false, not_false_eq_true, Nat.reduceBEq, Bool.false_eq_true, ex1, ex3, ex4, exF, qfit_i, qfit_l, qfit_r, qfit_n, qfit_b0, qfit_b1, qcat_i, qcat_r, qcat_n, qcat_l, qroom_0, qroom_c, List.map_cons, List.map_nil, List.sum_cons, List.sum_nil, Nat.reduceAdd, Nat.reduceMul, Nat.reduceLT, Nat.reduceLeDiff, Nat.reduceEqDiff, Nat.reduceSub, decide_true, true_and, and_true, and_self, if_true, if_false, Option.toList_some, Option.toList_none, List.cons_append, List.nil_append, qsL, qlong, List.length_cons, List.length_nil, iN_L, exI, iN_add, iN_mul, iN_le, iN_lt, iN_eq, Nat.le_refl, qfN0, qfN1, uX_16, vX_16, uX_19, vX_19, uX_27, vX_27, uX_30, vX_30, uX_39, vX_39, uX_41, vX_41, uX_43, vX_43, uX_46, vX_46, uX_50, vX_50, uX_53, vX_53, b, q1, u16, ult, uF, g0, g1, g2, g3, g4, g5, g6, hn, gX_16_9, r1, ln, show ¬ l.length ≤ k by omega, rd]
      · rw [key.2 hk]
        have q2 : iN l.length ≤ y := by
          rw [lt_cnt (by omega)] at hk
          exact Classical.byContradiction fun z => hk ⟨Int32.not_lt.mpr q1, z⟩
        simp (disch := first | assumption | omega) only [e164_0, e164_1, e164_2, e164_5, e164_6, e164_7, e164_7N, e164_10, e164_13, e164_14, e164_15, e164_18, e164_21, e164_22, e164_23, e164_26, e164_28, e164_31, e164_34, e164_35, e164_36, e164_39, e164_40, e164_43, e164_45, e164_46, e164_48, e164_49, e164_52, e164_54, e164_55, e164_56, e164_59, e164_60, m164, ↓reduceIte, qg_0, qg_1, qg_2, qg_3, qg_4, qg_5, qg_6, qg_7, qg_8, qg_9, qg_10, qg_11, qg_12, qg_13, not_true_eq_false, not_false_eq_true, Nat.reduceBEq, Bool.false_eq_true, ex1, ex3, ex4, exF, qfit_i, qfit_l, qfit_r, qfit_n, qfit_b0, qfit_b1, qcat_i, qcat_r, qcat_n, qcat_l, qroom_0, qroom_c, List.map_cons, List.map_nil, List.sum_cons, List.sum_nil, Nat.reduceAdd, Nat.reduceMul, Nat.reduceLT, Nat.reduceLeDiff, Nat.reduceEqDiff, Nat.reduceSub, decide_true, true_and, and_true, and_self, if_true, if_false, Option.toList_some, Option.toList_none, List.cons_append, List.nil_append, qsL, qlong, List.length_cons, List.length_nil, iN_L, exI, iN_add, iN_mul, iN_le, iN_lt, iN_eq, Nat.le_refl, qfN0, qfN1, uX_16, vX_16, uX_19, vX_19, uX_27, vX_27, uX_30, vX_30, uX_39, vX_39, uX_41, vX_41, uX_43, vX_43, uX_46, vX_46, uX_50, vX_50, uX_53, vX_53, b, q1, u16, ult, uF, g0, g1, g2, g3, g4, g5, g6, hn, gX_16_9, r1, ln, q2]
end XRING3

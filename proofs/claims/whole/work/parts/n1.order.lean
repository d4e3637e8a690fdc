/-! ===== THE CLASS: chooseOrder ===== -/
section XORDER
variable {d n : Nat} {h : qH} {R : qRes} {A : List Nat}
def inPl (A : List Nat) (P s : Nat) : Bool := decide (wo (A.getD s 0) P = 0)
def nwPl (A : List Nat) (P b s : Nat) : Bool := (A.getD s 0).testBit b && decide (wo (A.getD s 0) P = 0)
theorem cnt_add {p q : Nat → Bool} : ∀ {n : Nat}, (∀ k, k < n → ¬ (p k = true ∧ q k = true)) → cntN (fun k => p k || q k) n = cntN p n + cntN q n
  | 0, _ => rfl
  | n + 1, h => by
    have h1 := cnt_add (n := n) fun k hk => h k (by omega)
    have h2 := h n (by omega)
    rw [cntN, cntN, cntN, h1]
    cases hp : p n <;> cases hq : q n
    · rfl
    · simp only [Bool.false_or, if_true, Bool.false_eq_true, if_false]; omega
    · simp only [Bool.or_false, if_true, Bool.false_eq_true, if_false]; omega
    · exact absurd ⟨hp, hq⟩ h2
/-- so far: d marks are placed -/
def odI (h : qH) (n : Nat) (A : List Nat) (d P f : Nat) (o st cp : Nat → Nat) (g : qH) : Prop := ChX [34, 36, 37, 38] [] 0 h g ∧ (∀ e, e < d → o e < n ∧ hi g 34 e = iN (o e)) ∧ (∀ a b, a < b → b < d → o a ≠ o b) ∧ (∀ c, P.testBit c = true ↔ ∃ e, e < d ∧ o e = c) ∧ (f = cntN (inPl A P) A.length ∧ f = st d) ∧ (∀ e, e < d → hi g 37 e = iN (st e)) ∧ (∀ t, t < f → hi g 36 t = iN (cp t)) ∧ (∀ e, e < d → st e ≤ st (e + 1) ∧ (∀ t, st e ≤ t → t < st (e + 1) → cp t ∈ A ∧ ∀ c, (cp t).testBit c = true → ∃ e', e' ≤ e ∧ c = o e') ∧ ∀ x, x ∈ A → x.testBit (o e) = true → (∀ c, x.testBit c = true → ∃ e', e' ≤ e ∧ c = o e') → ∃ t, st e ≤ t ∧ t < st (e + 1) ∧ cp t = x)
theorem odI.lt {dd P f : Nat} {o st cp : Nat → Nat} {g : qH} (I : odI h n A dd P f o st cp g) : P < 2 ^ n := Nat.lt_pow_two_of_testBit _ fun j hj => by
  cases q : P.testBit j with
  | false => rfl
  | true =>
    obtain ⟨e, he, e2⟩ := (I.2.2.2.1 j).mp q
    have := (I.2.1 e he).1
    omega
theorem odI.mono {dd P f : Nat} {o st cp : Nat → Nat} {g : qH} (I : odI h n A dd P f o st cp g) {e : Nat} : ∀ {e' : Nat}, e ≤ e' → e' ≤ dd → st e ≤ st e'
  | 0, h1, _ => by rw [show e = 0 by omega]; exact Nat.le_refl _
  | e' + 1, h1, h2 => by
    rcases Nat.lt_or_ge e' e with z | z
    · rw [show e = e' + 1 by omega]; exact Nat.le_refl _
    · have h3 := I.mono z (by omega)
      have h4 := (I.2.2.2.2.2.2.2 e' (by omega)).1
      omega
set_option maxRecDepth 100000 in
set_option maxHeartbeats 32000000 in
theorem x_chooseOrder (s : ShX h) (v : MaX h n A) (h0 : ∀ x, x ∈ A → 0 < x) : ∃ h' o st cp, (∀ R, qMC (d + 4) 54 [.ref 30] h R ↔ R = (none, h')) ∧ ChX [34, 36, 37, 38] [] 0 h h' ∧ ordP n A o st cp ∧ (∀ e, e < n → hi h' 34 e = iN (o e)) ∧ (∀ e, e ≤ n → hi h' 37 e = iN (st e)) ∧ ∀ t, t < st n → hi h' 36 t = iN (cp t) := by
  obtain ⟨⟨n16, l104⟩, v1, v2, v3⟩ := id v
  have A16 : ∀ t, t < A.length → A.getD t 0 < 65536 := fun t ht => Nat.lt_of_lt_of_le (v3 t ht).2 (Nat.pow_le_pow_right (by decide) n16)
  have one : ∀ (dd P f : Nat) (o st cp : Nat → Nat) (g : qH) (x4 x5 : Option Value), dd < n → odI h n A dd P f o st cp g → ∃ P' f' o' st' cp' g' x4' x5', odI h n A (dd + 1) P' f' o' st' cp' g' ∧ ∀ R, qEv (d + 3) 4 qk_54 6 [some (.ref 30), some (.int (iN P)), some (.int (iN f)), some (.int (iN dd)), x4, x5] [] g R ↔ qEv (d + 3) 4 qk_54 6 [some (.ref 30), some (.int (iN P')), some (.int (iN f')), some (.int (iN (dd + 1))), x4', x5'] [] g' R := by
    intro dd P f o st cp g x4 x5 hd I
    obtain ⟨i1, i2, i3, i4, ⟨i5, i5'⟩, i6, i7, i8⟩ := id I
    have sg := i1.sh
    have vg := v.ch i1 s (by decide) (by decide) (by decide)
    have hP := I.lt
    have hne : P ≠ 2 ^ n - 1 := fun z => by
      have all : ∀ j, j < n → ∃ e, e < dd ∧ o e = j := fun j hj => (i4 j).mp (by rw [z, Nat.testBit_two_pow_sub_one]; exact decide_eq_true hj)
      have : ∀ j, ∃ e, j < n → e < dd ∧ o e = j := fun j => by
        by_cases hj : j < n
        · obtain ⟨e, w⟩ := all j hj; exact ⟨e, fun _ => w⟩
        · exact ⟨0, fun w => absurd w hj⟩
      obtain ⟨F, hF⟩ := Classical.axiomOfChoice this
      have := inj_le (n := n) (m := dd) (f := F) (fun a ha => (hF a ha).1) fun a b hab hb e => by
        have h1 := (hF a (by omega)).2
        have h2 := (hF b hb).2
        rw [e, h2] at h1
        omega
      omega
    obtain ⟨b, g1, hb, bP, rb, c1⟩ := x_best (d := d) sg vg hP hne
    have cg1 : ChX [34, 36, 37, 38] [] 0 h g1 := i1.trans0 (c1.mono (by decide) (fun _ z => z) (Nat.le_refl _))
    have s1 := cg1.sh
    have nb : ∀ e, e < dd → o e ≠ b := fun e he z => by
      have := (i4 b).mpr ⟨e, he, z⟩
      rw [bP] at this; cases this
    obtain ⟨P', eP'⟩ : ∃ P', P' = P ||| 2 ^ b := ⟨_, rfl⟩
    have P'bit : ∀ c, P'.testBit c = true ↔ (P.testBit c = true ∨ c = b) := fun c => by
      rw [eP', Nat.testBit_or, Bool.or_eq_true, Nat.testBit_two_pow, decide_eq_true_eq]
      exact or_congr_right eq_comm
    have P'16 : P' < 65536 := by
      rw [eP']
      exact Nat.or_lt_two_pow (n := 16) (Nat.lt_of_lt_of_le hP (Nat.pow_le_pow_right (by decide) n16)) (Nat.pow_lt_pow_right (by decide) (by omega))
    obtain ⟨o', eo'⟩ : ∃ o' : Nat → Nat, o' = fun e => if e = dd then b else o e := ⟨_, rfl⟩
    have o'lo : ∀ e, e < dd → o' e = o e := fun e he => by rw [eo']; exact if_neg (by omega)
    have o'dd : o' dd = b := by rw [eo']; exact if_pos rfl
    -- order, starts
    obtain ⟨g2, e2⟩ : ∃ g2, g2 = sI g1 34 (upd (hi g1 34) dd (iN b)) := ⟨_, rfl⟩
    have w2 : qiast g1 34 (iN dd) (iN b) = some g2 := by rw [e2]; exact wX_34 s1 (by omega)
    have c2 : ChX [34, 36, 37, 38] [] 0 g1 g2 := by rw [e2]; exact ChX.rowI s1 (kX_34 s1) (by decide) (by decide)
    have s2 := c2.sh
    obtain ⟨g3, e3⟩ : ∃ g3, g3 = sI g2 37 (upd (hi g2 37) dd (iN f)) := ⟨_, rfl⟩
    have w3 : qiast g2 37 (iN dd) (iN f) = some g3 := by rw [e3]; exact wX_37 s2 (by omega)
    have c3 : ChX [34, 36, 37, 38] [] 0 g2 g3 := by rw [e3]; exact ChX.rowI s2 (kX_37 s2) (by decide) (by decide)
    have cg3 : ChX [34, 36, 37, 38] [] 0 h g3 := (cg1.trans0 c2).trans0 c3
    have hi34 : ∀ e, hi g3 34 e = if e = dd then iN b else hi g 34 e := fun e => by
      rw [e3, hi_sI, if_neg (by decide), e2, hi_sI, if_pos rfl, upd_at, c1.hi (by decide) (by decide) (sg.lt (by decide))]
    have hi37 : ∀ e, hi g3 37 e = if e = dd then iN f else hi g 37 e := fun e => by
      rw [e3, hi_sI, if_pos rfl, upd_at, e2, hi_sI, if_neg (show ¬ (37 : Nat) = 34 by decide), c1.hi (by decide) (by decide) (sg.lt (by decide))]
    have hi36 : hi g3 36 = hi g 36 := by rw [e3, hi_sI, if_neg (by decide), e2, hi_sI, if_neg (by decide), c1.hi (by decide) (by decide) (sg.lt (by decide))]
    have sh := iN_shl1 b (by omega)
    have r0 : ∀ R, qEv (d + 3) 4 qk_54 6 [some (.ref 30), some (.int (iN P)), some (.int (iN f)), some (.int (iN dd)), x4, x5] [] g R ↔ qEv (d + 3) 4 qk_54 46 [some (.ref 30), some (.int (iN P')), some (.int (iN (f + cntN (nwPl A P' b) 0))), some (.int (iN dd)), some (.int (iN b)), some (.int (iN 0))] [] g3 R := fun R => by
      have m0 : xi g 30 2 = iN n := vg.2.1
      rw [show cntN (nwPl A P' b) 0 = 0 from rfl, Nat.add_zero f, eP', e54_6]
      simp (disch := first | assumption | omega) only [e54_0, e54_1, e54_2, e54_3, e54_4, e54_5, e54_7, e54_8, e54_11, e54_14, e54_15, e54_16, e54_19, e54_21, e54_22, e54_23, e54_25, e54_26, e54_27, e54_28, e54_29, e54_32, e54_33, e54_35, e54_36, e54_37, e54_40, e54_41, e54_42, e54_43, e54_44, e54_48, e54_49, e54_52, e54_55, e54_56, e54_59, e54_61, e54_62, e54_64, e54_65, e54_66, e54_67, e54_70, e54_71, e54_74, e54_76, e54_77, e54_78, e54_79, e54_80, e54_81, e54_84, e54_85, e54_87, e54_90, e54_91, e54_94, e54_95, e54_96, e54_99, e54_101, e54_102, e54_103, e54_106, e54_109, e54_112, e54_115, e54_118, e54_119, e54_122, e54_123, e54_126, e54_127, e54_128, m54, ↓reduceIte, qg_0, qg_1, qg_2, qg_3, qg_4, qg_5, qg_6, qg_7, qg_8, qg_9, qg_10, qg_11, qg_12, qg_13, not_true_eq_false, not_false_eq_true, Nat.reduceBEq, Bool.false_eq_true, ex1, ex3, ex4, exF, qfit_i, qfit_l, qfit_r, qfit_n, qfit_b0, qfit_b1, qcat_i, qcat_r, qcat_n, qcat_l, qroom_0, qroom_c, List.map_cons, List.map_nil, List.sum_cons, List.sum_nil, Nat.reduceAdd, Nat.reduceMul, Nat.reduceLT, Nat.reduceLeDiff, Nat.reduceEqDiff, Nat.reduceSub, decide_true, true_and, and_true, and_self, if_true, if_false, Option.toList_some, Option.toList_none, List.cons_append, List.nil_append, qsL, qlong, List.length_cons, List.length_nil, iN_L, exI, iN_add, iN_mul, iN_le, iN_lt, iN_eq, Nat.le_refl, qfN0, qfN1, uX_16, vX_16, uX_19, vX_19, uX_27, vX_27, uX_30, vX_30, uX_39, vX_39, uX_41, vX_41, uX_43, vX_43, uX_46, vX_46, uX_50, vX_50, uX_53, vX_53, gX_30_2, m0, show ¬ n ≤ dd by omega, rb, sh, iN_or, gX_30_7, w2, gX_30_10, w3]
    -- no set is counted twice
    have dis : ∀ k, k < A.length → ¬ (inPl A P k = true ∧ nwPl A P' b k = true) := fun k _ ⟨z1, z2⟩ => by
      unfold nwPl at z2
      rw [Bool.and_eq_true] at z2
      have := wo_0i.mp (of_decide_eq_true z1) b z2.1
      rw [bP] at this; cases this
    have room := cntN_or dis
    have inner : ∀ (w sx : Nat) (cp1 : Nat → Nat) (g4 : qH), sx + w = A.length → ChX [34, 36, 37, 38] [] 0 h g4 → hi g4 34 = hi g3 34 → hi g4 37 = hi g3 37 → (∀ t, t < f → cp1 t = cp t) → (∀ t, t < f + cntN (nwPl A P' b) sx → hi g4 36 t = iN (cp1 t)) → (∀ t, f ≤ t → t < f + cntN (nwPl A P' b) sx → cp1 t ∈ A ∧ wo (cp1 t) P' = 0) → (∀ k, k < sx → nwPl A P' b k = true → ∃ t, f ≤ t ∧ t < f + cntN (nwPl A P' b) sx ∧ cp1 t = A.getD k 0) → ∃ (cp2 : Nat → Nat) (g5 : qH), (∀ R, qEv (d + 3) 4 qk_54 46 [some (.ref 30), some (.int (iN P')), some (.int (iN (f + cntN (nwPl A P' b) sx))), some (.int (iN dd)), some (.int (iN b)), some (.int (iN sx))] [] g4 R ↔ qEv (d + 3) 4 qk_54 112 [some (.ref 30), some (.int (iN P')), some (.int (iN (f + cntN (nwPl A P' b) A.length))), some (.int (iN dd)), some (.int (iN b)), some (.int (iN A.length))] [] g5 R) ∧ ChX [34, 36, 37, 38] [] 0 h g5 ∧ hi g5 34 = hi g3 34 ∧ hi g5 37 = hi g3 37 ∧ (∀ t, t < f → cp2 t = cp t) ∧ (∀ t, t < f + cntN (nwPl A P' b) A.length → hi g5 36 t = iN (cp2 t)) ∧ (∀ t, f ≤ t → t < f + cntN (nwPl A P' b) A.length → cp2 t ∈ A ∧ wo (cp2 t) P' = 0) ∧ ∀ k, k < A.length → nwPl A P' b k = true → ∃ t, f ≤ t ∧ t < f + cntN (nwPl A P' b) A.length ∧ cp2 t = A.getD k 0 := by
      intro w
      induction w with
      | zero =>
        intro sx cp1 g4 hs cg4 q34 q37 z1 z2 z3 z4
        have es : sx = A.length := by omega
        subst es
        have s4 := cg4.sh
        have m1 : xi g4 30 1 = iN A.length := (cg4.xi (by decide) (by decide)).trans v2
        refine ⟨cp1, g4, fun R => ?_, cg4, q34, q37, z1, z2, z3, z4⟩
        rw [e54_46]
        simp (disch := first | assumption | omega) only [e54_0, e54_1, e54_2, e54_3, e54_4, e54_5, e54_7, e54_8, e54_11, e54_14, e54_15, e54_16, e54_19, e54_21, e54_22, e54_23, e54_25, e54_26, e54_27, e54_28, e54_29, e54_32, e54_33, e54_35, e54_36, e54_37, e54_40, e54_41, e54_42, e54_43, e54_44, e54_48, e54_49, e54_52, e54_55, e54_56, e54_59, e54_61, e54_62, e54_64, e54_65, e54_66, e54_67, e54_70, e54_71, e54_74, e54_76, e54_77, e54_78, e54_79, e54_80, e54_81, e54_84, e54_85, e54_87, e54_90, e54_91, e54_94, e54_95, e54_96, e54_99, e54_101, e54_102, e54_103, e54_106, e54_109, e54_115, e54_118, e54_119, e54_122, e54_123, e54_126, e54_127, e54_128, m54, ↓reduceIte, qg_0, qg_1, qg_2, qg_3, qg_4, qg_5, qg_6, qg_7, qg_8, qg_9, qg_10, qg_11, qg_12, qg_13, not_true_eq_false, not_false_eq_true, Nat.reduceBEq, Bool.false_eq_true, ex1, ex3, ex4, exF, qfit_i, qfit_l, qfit_r, qfit_n, qfit_b0, qfit_b1, qcat_i, qcat_r, qcat_n, qcat_l, qroom_0, qroom_c, List.map_cons, List.map_nil, List.sum_cons, List.sum_nil, Nat.reduceAdd, Nat.reduceMul, Nat.reduceLT, Nat.reduceLeDiff, Nat.reduceEqDiff, Nat.reduceSub, decide_true, true_and, and_true, and_self, if_true, if_false, Option.toList_some, Option.toList_none, List.cons_append, List.nil_append, qsL, qlong, List.length_cons, List.length_nil, iN_L, exI, iN_add, iN_mul, iN_le, iN_lt, iN_eq, Nat.le_refl, qfN0, qfN1, uX_16, vX_16, uX_19, vX_19, uX_27, vX_27, uX_30, vX_30, uX_39, vX_39, uX_41, vX_41, uX_43, vX_43, uX_46, vX_46, uX_50, vX_50, uX_53, vX_53, gX_30_1, m1]
      | succ w ih =>
        intro sx cp1 g4 hs cg4 q34 q37 z1 z2 z3 z4
        have hs' : sx < A.length := by omega
        have s4 := cg4.sh
        have m1 : xi g4 30 1 = iN A.length := (cg4.xi (by decide) (by decide)).trans v2
        have rs : qiald g4 31 (iN sx) = some (iN (A.getD sx 0)) := by rw [rX_31 s4 (by omega), cg4.hi (by decide) (by decide) (s.lt (by decide)), (v3 sx hs').1]
        have x16 := A16 sx hs'
        have bt := iN_bit (m := A.getD sx 0) (p := b) (by omega) (by omega)
        have wl := wo_le (A.getD sx 0) P'
        have dec : nwPl A P' b sx = ((A.getD sx 0).testBit b && decide (wo (A.getD sx 0) P' = 0)) := rfl
        by_cases nw : nwPl A P' b sx = true
        · have ec : cntN (nwPl A P' b) (sx + 1) = cntN (nwPl A P' b) sx + 1 := by rw [cntN, if_pos nw]
          rw [dec, Bool.and_eq_true, decide_eq_true_eq] at nw
          obtain ⟨nw1, nw2⟩ := nw
          have nwT : nwPl A P' b sx = true := by rw [dec, nw1, nw2]; rfl
          have lt := cntN_lt (p := nwPl A P' b) hs' nwT
          rw [nw1, if_pos rfl] at bt
          obtain ⟨g5, e5⟩ : ∃ g5, g5 = sI g4 36 (upd (hi g4 36) (f + cntN (nwPl A P' b) sx) (iN (A.getD sx 0))) := ⟨_, rfl⟩
          have w5 : qiast g4 36 (iN (f + cntN (nwPl A P' b) sx)) (iN (A.getD sx 0)) = some g5 := by rw [e5]; exact wX_36 s4 (by omega)
          have c5 : ChX [34, 36, 37, 38] [] 0 g4 g5 := by rw [e5]; exact ChX.rowI s4 (kX_36 s4) (by decide) (by decide)
          obtain ⟨cp2, g6, r6, z6⟩ := ih (sx + 1) (fun t => if t = f + cntN (nwPl A P' b) sx then A.getD sx 0 else cp1 t) g5 (by omega) (cg4.trans0 c5) (by rw [e5, hi_sI, if_neg (by decide)]; exact q34) (by rw [e5, hi_sI, if_neg (by decide)]; exact q37) (fun t ht => by
              show (if t = _ then _ else cp1 t) = cp t
              rw [if_neg (by omega)]; exact z1 t ht) (fun t ht => by
              rw [ec] at ht
              rw [e5, hi_sI, if_pos rfl, upd_at]
              show _ = iN (if t = _ then _ else cp1 t)
              by_cases y : t = f + cntN (nwPl A P' b) sx
              · rw [if_pos y, if_pos y]
              · rw [if_neg y, if_neg y]; exact z2 t (by omega)) (fun t h1 h2 => by
              rw [ec] at h2
              show (if t = _ then _ else cp1 t) ∈ A ∧ wo (if t = _ then _ else cp1 t) P' = 0
              by_cases y : t = f + cntN (nwPl A P' b) sx
              · rw [if_pos y]; exact ⟨getD_mem0 hs', nw2⟩
              · rw [if_neg y]; exact z3 t h1 (by omega)) (fun k hk hk2 => by
              rw [ec]
              rcases Nat.lt_or_ge k sx with y | y
              · obtain ⟨t, t1, t2, t3⟩ := z4 k y hk2
                refine ⟨t, t1, by omega, ?_⟩
                show (if t = _ then _ else cp1 t) = _
                rw [if_neg (by omega)]; exact t3
              · refine ⟨f + cntN (nwPl A P' b) sx, by omega, by omega, ?_⟩
                show (if _ = _ then _ else cp1 _) = _
                rw [if_pos rfl, show k = sx by omega])
          refine ⟨cp2, g6, fun R => ?_, z6⟩
          rw [ec] at r6
          rw [← r6 R, e54_46]
          simp (disch := first | assumption | omega) only [e54_0, e54_1, e54_2, e54_3, e54_4, e54_5, e54_7, e54_8, e54_11, e54_14, e54_15, e54_16, e54_19, e54_21, e54_22, e54_23, e54_25, e54_26, e54_27, e54_28, e54_29, e54_32, e54_33, e54_35, e54_36, e54_37, e54_40, e54_41, e54_42, e54_43, e54_44, e54_48, e54_49, e54_52, e54_55, e54_56, e54_59, e54_61, e54_62, e54_64, e54_65, e54_66, e54_67, e54_70, e54_71, e54_74, e54_76, e54_77, e54_78, e54_79, e54_80, e54_81, e54_84, e54_85, e54_87, e54_90, e54_91, e54_94, e54_95, e54_96, e54_99, e54_101, e54_102, e54_103, e54_106, e54_109, e54_115, e54_118, e54_119, e54_122, e54_123, e54_126, e54_127, e54_128, m54, ↓reduceIte, qg_0, qg_1, qg_2, qg_3, qg_4, qg_5, qg_6, qg_7, qg_8, qg_9, qg_10, qg_11, qg_12, qg_13, not_true_eq_false, not_false_eq_true, Nat.reduceBEq, Bool.false_eq_true, ex1, ex3, ex4, exF, qfit_i, qfit_l, qfit_r, qfit_n, qfit_b0, qfit_b1, qcat_i, qcat_r, qcat_n, qcat_l, qroom_0, qroom_c, List.map_cons, List.map_nil, List.sum_cons, List.sum_nil, Nat.reduceAdd, Nat.reduceMul, Nat.reduceLT, Nat.reduceLeDiff, Nat.reduceEqDiff, Nat.reduceSub, decide_true, true_and, and_true, and_self, if_true, if_false, Option.toList_some, Option.toList_none, List.cons_append, List.nil_append, qsL, qlong, List.length_cons, List.length_nil, iN_L, exI, iN_add, iN_mul, iN_le, iN_lt, iN_eq, Nat.le_refl, qfN0, qfN1, uX_16, vX_16, uX_19, vX_19, uX_27, vX_27, uX_30, vX_30, uX_39, vX_39, uX_41, vX_41, uX_43, vX_43, uX_46, vX_46, uX_50, vX_50, uX_53, vX_53, gX_30_1, m1, show ¬ A.length ≤ sx by omega, gX_30_0, rs, bt, iN_wo', nw2, show ¬ 104 ≤ f + cntN (nwPl A P' b) sx by omega, gX_30_9, w5]
          exact Iff.rfl
        · have nwF : nwPl A P' b sx = false := by cases q : nwPl A P' b sx with | false => rfl | true => exact absurd q nw
          have ec : cntN (nwPl A P' b) (sx + 1) = cntN (nwPl A P' b) sx := by rw [cntN, if_neg nw]; rfl
          obtain ⟨cp2, g6, r6, z6⟩ := ih (sx + 1) cp1 g4 (by omega) cg4 q34 q37 z1 (by rw [ec]; exact z2) (by rw [ec]; exact z3) (by
            rw [ec]
            intro k hk hk2
            rcases Nat.lt_or_ge k sx with y | y
            · exact z4 k y hk2
            · rw [show k = sx by omega] at hk2; exact absurd hk2 nw)
          rw [ec] at r6
          refine ⟨cp2, g6, fun R => ?_, z6⟩
          rw [← r6 R, e54_46]
          cases q : (A.getD sx 0).testBit b with
          | false =>
            rw [q, if_neg Bool.false_ne_true] at bt
            simp (disch := first | assumption | omega) only [e54_0, e54_1, e54_2, e54_3, e54_4, e54_5, e54_7, e54_8, e54_11, e54_14, e54_15, e54_16, e54_19, e54_21, e54_22, e54_23, e54_25, e54_26, e54_27, e54_28, e54_29, e54_32, e54_33, e54_35, e54_36, e54_37, e54_40, e54_41, e54_42, e54_43, e54_44, e54_48, e54_49, e54_52, e54_55, e54_56, e54_59, e54_61, e54_62, e54_64, e54_65, e54_66, e54_67, e54_70, e54_71, e54_74, e54_76, e54_77, e54_78, e54_79, e54_80, e54_81, e54_84, e54_85, e54_87, e54_90, e54_91, e54_94, e54_95, e54_96, e54_99, e54_101, e54_102, e54_103, e54_106, e54_109, e54_115, e54_118, e54_119, e54_122, e54_123, e54_126, e54_127, e54_128, m54, ↓reduceIte, qg_0, qg_1, qg_2, qg_3, qg_4, qg_5, qg_6, qg_7, qg_8, qg_9, qg_10, qg_11, qg_12, qg_13, not_true_eq_false, not_false_eq_true, Nat.reduceBEq, Bool.false_eq_true, ex1, ex3, ex4, exF, qfit_i, qfit_l, qfit_r, qfit_n, qfit_b0, qfit_b1, qcat_i, qcat_r, qcat_n, qcat_l, qroom_0, qroom_c, List.map_cons, List.map_nil, List.sum_cons, List.sum_nil, Nat.reduceAdd, Nat.reduceMul, Nat.reduceLT, Nat.reduceLeDiff, Nat.reduceEqDiff, Nat.reduceSub, decide_true, true_and, and_true, and_self, if_true, if_false, Option.toList_some, Option.toList_none, List.cons_append, List.nil_append, qsL, qlong, List.length_cons, List.length_nil, iN_L, exI, iN_add, iN_mul, iN_le, iN_lt, iN_eq, Nat.le_refl, qfN0, qfN1, uX_16, vX_16, uX_19, vX_19, uX_27, vX_27, uX_30, vX_30, uX_39, vX_39, uX_41, vX_41, uX_43, vX_43, uX_46, vX_46, uX_50, vX_50, uX_53, vX_53, gX_30_1, m1, show ¬ A.length ≤ sx by omega, gX_30_0, rs, bt]
          | true =>
            rw [q, if_pos rfl] at bt
            have nz : ¬ wo (A.getD sx 0) P' = 0 := fun y => by rw [dec, q, y] at nwF; cases nwF
            simp (disch := first | assumption | omega) only [e54_0, e54_1, e54_2, e54_3, e54_4, e54_5, e54_7, e54_8, e54_11, e54_14, e54_15, e54_16, e54_19, e54_21, e54_22, e54_23, e54_25, e54_26, e54_27, e54_28, e54_29, e54_32, e54_33, e54_35, e54_36, e54_37, e54_40, e54_41, e54_42, e54_43, e54_44, e54_48, e54_49, e54_52, e54_55, e54_56, e54_59, e54_61, e54_62, e54_64, e54_65, e54_66, e54_67, e54_70, e54_71, e54_74, e54_76, e54_77, e54_78, e54_79, e54_80, e54_81, e54_84, e54_85, e54_87, e54_90, e54_91, e54_94, e54_95, e54_96, e54_99, e54_101, e54_102, e54_103, e54_106, e54_109, e54_115, e54_118, e54_119, e54_122, e54_123, e54_126, e54_127, e54_128, m54, ↓reduceIte, qg_0, qg_1, qg_2, qg_3, qg_4, qg_5, qg_6, qg_7, qg_8, qg_9, qg_10, qg_11, qg_12, qg_13, not_true_eq_false, not_false_eq_true, Nat.reduceBEq, Bool.false_eq_true, ex1, ex3, ex4, exF, qfit_i, qfit_l, qfit_r, qfit_n, qfit_b0, qfit_b1, qcat_i, qcat_r, qcat_n, qcat_l, qroom_0, qroom_c, List.map_cons, List.map_nil, List.sum_cons, List.sum_nil, Nat.reduceAdd, Nat.reduceMul, Nat.reduceLT, Nat.reduceLeDiff, Nat.reduceEqDiff, Nat.reduceSub, decide_true, true_and, and_true, and_self, if_true, if_false, Option.toList_some, Option.toList_none, List.cons_append, List.nil_append, qsL, qlong, List.length_cons, List.length_nil, iN_L, exI, iN_add, iN_mul, iN_le, iN_lt, iN_eq, Nat.le_refl, qfN0, qfN1, uX_16, vX_16, uX_19, vX_19, uX_27, vX_27, uX_30, vX_30, uX_39, vX_39, uX_41, vX_41, uX_43, vX_43, uX_46, vX_46, uX_50, vX_50, uX_53, vX_53, gX_30_1, m1, show ¬ A.length ≤ sx by omega, gX_30_0, rs, bt, iN_wo', nz]
    obtain ⟨cp2, g5, r5, cg5, q34, q37, y1, y2, y3, y4⟩ := inner A.length 0 cp g3 (by omega) cg3 rfl rfl (fun _ _ => rfl) (fun t ht => by rw [hi36]; exact i7 t (by have : cntN (nwPl A P' b) 0 = 0 := rfl; omega)) (fun t h1 h2 => by have : cntN (nwPl A P' b) 0 = 0 := rfl; omega) (fun k hk => absurd hk (Nat.not_lt_zero k))
    have f'e : f + cntN (nwPl A P' b) A.length = cntN (inPl A P') A.length := by
      rw [i5, ← cnt_add dis]
      refine cntN_ext fun k hk => ?_
      rw [Bool.eq_iff_iff, Bool.or_eq_true]
      unfold inPl nwPl
      rw [decide_eq_true_eq, Bool.and_eq_true, decide_eq_true_eq, wo_0i, wo_0i]
      constructor
      · rintro (z | z)
        · exact fun j hj => (P'bit j).mpr (Or.inl (z j hj))
        · exact z.2
      · intro z
        by_cases q : (A.getD k 0).testBit b = true
        · exact Or.inr ⟨q, z⟩
        · refine Or.inl fun j hj => ?_
          rcases (P'bit j).mp (z j hj) with y | y
          · exact y
          · rw [y] at hj; exact absurd hj q
    have s5 := cg5.sh
    refine ⟨P', f + cntN (nwPl A P' b) A.length, o', fun e => if e = dd + 1 then f + cntN (nwPl A P' b) A.length else st e, cp2, g5, some (.int (iN b)), some (.int (iN A.length)), ⟨cg5, fun e he => ?_, fun a c hac hc => ?_, fun c => ?_, ⟨f'e, by show _ = (if dd + 1 = dd + 1 then _ else _); rw [if_pos rfl]⟩, fun e he => ?_, y2, fun e he => ?_⟩, fun R => ?_⟩
    · rw [q34, hi34]
      by_cases z : e = dd
      · rw [if_pos z, z, o'dd]; exact ⟨hb, rfl⟩
      · rw [if_neg z, o'lo e (by omega)]; exact i2 e (by omega)
    · by_cases z : c = dd
      · rw [z, o'dd, o'lo a (by omega)]; exact nb a (by omega)
      · rw [o'lo a (by omega), o'lo c (by omega)]; exact i3 a c hac (by omega)
    · rw [P'bit, i4]
      constructor
      · rintro (⟨e, h1, h2⟩ | z)
        · exact ⟨e, by omega, by rw [o'lo e h1]; exact h2⟩
        · exact ⟨dd, by omega, by rw [o'dd, z]⟩
      · rintro ⟨e, h1, h2⟩
        by_cases z : e = dd
        · rw [z, o'dd] at h2; exact Or.inr h2.symm
        · rw [o'lo e (by omega)] at h2; exact Or.inl ⟨e, by omega, h2⟩
    · show hi g5 37 e = iN (if e = dd + 1 then _ else st e)
      rw [if_neg (by omega), q37, hi37]
      by_cases z : e = dd
      · rw [if_pos z, i5', z]
      · rw [if_neg z]; exact i6 e (by omega)
    · show (if e = dd + 1 then _ else st e) ≤ (if e + 1 = dd + 1 then _ else st (e + 1)) ∧ (∀ t, (if e = dd + 1 then _ else st e) ≤ t → t < (if e + 1 = dd + 1 then _ else st (e + 1)) → _) ∧ ∀ x, x ∈ A → x.testBit (o' e) = true → _ → ∃ t, (if e = dd + 1 then _ else st e) ≤ t ∧ t < (if e + 1 = dd + 1 then _ else st (e + 1)) ∧ cp2 t = x
      rw [if_neg (show ¬ e = dd + 1 by omega)]
      by_cases z : e = dd
      · subst z
        rw [if_pos rfl, ← i5', o'dd]
        refine ⟨by omega, fun t h1 h2 => ⟨(y3 t h1 h2).1, fun c hc => ?_⟩, fun x hx hxb hxc => ?_⟩
        · have := wo_0i.mp (y3 t h1 h2).2 c hc
          rcases (P'bit c).mp this with w | w
          · obtain ⟨e', h3, h4⟩ := (i4 c).mp w
            exact ⟨e', by omega, by rw [o'lo e' h3]; exact h4.symm⟩
          · exact ⟨e, Nat.le_refl _, by rw [o'dd]; exact w⟩
        · obtain ⟨k, hk, ek⟩ := mem_getD0 hx
          obtain ⟨t, t1, t2, t3⟩ := y4 k hk (by
            unfold nwPl
            rw [ek, hxb, Bool.true_and]
            refine decide_eq_true (wo_0i.mpr fun c hc => ?_)
            obtain ⟨e', h3, h4⟩ := hxc c hc
            refine (P'bit c).mpr ?_
            by_cases w : e' = e
            · rw [w, o'dd] at h4; exact Or.inr h4
            · rw [o'lo e' (by omega)] at h4
              exact Or.inl ((i4 c).mpr ⟨e', by omega, h4.symm⟩))
          exact ⟨t, t1, t2, t3.trans ek⟩
      · rw [if_neg (show ¬ e + 1 = dd + 1 by omega), o'lo e (by omega)]
        obtain ⟨a1, a2, a3⟩ := i8 e (by omega)
        have mn : st (e + 1) ≤ f := by rw [i5']; exact I.mono (show e + 1 ≤ dd by omega) (Nat.le_refl _)
        refine ⟨a1, fun t h1 h2 => ?_, fun x hx hxb hxc => ?_⟩
        · rw [y1 t (by omega)]
          obtain ⟨b1, b2⟩ := a2 t h1 h2
          exact ⟨b1, fun c hc => by
            obtain ⟨e', h3, h4⟩ := b2 c hc
            exact ⟨e', h3, by rw [o'lo e' (by omega)]; exact h4⟩⟩
        · obtain ⟨t, t1, t2, t3⟩ := a3 x hx hxb fun c hc => by
            obtain ⟨e', h3, h4⟩ := hxc c hc
            exact ⟨e', h3, by rw [o'lo e' (by omega)] at h4; exact h4⟩
          exact ⟨t, t1, t2, by rw [y1 t (by omega)]; exact t3⟩
    · rw [r0 R, r5 R, e54_112]
      simp (disch := first | assumption | omega) only [e54_0, e54_1, e54_2, e54_3, e54_4, e54_5, e54_7, e54_8, e54_11, e54_14, e54_15, e54_16, e54_19, e54_21, e54_22, e54_23, e54_25, e54_26, e54_27, e54_28, e54_29, e54_32, e54_33, e54_35, e54_36, e54_37, e54_40, e54_41, e54_42, e54_43, e54_44, e54_48, e54_49, e54_52, e54_55, e54_56, e54_59, e54_61, e54_62, e54_64, e54_65, e54_66, e54_67, e54_70, e54_71, e54_74, e54_76, e54_77, e54_78, e54_79, e54_80, e54_81, e54_84, e54_85, e54_87, e54_90, e54_91, e54_94, e54_95, e54_96, e54_99, e54_101, e54_102, e54_103, e54_106, e54_109, e54_115, e54_118, e54_119, e54_122, e54_123, e54_126, e54_127, e54_128, m54, ↓reduceIte, qg_0, qg_1, qg_2, qg_3, qg_4, qg_5, qg_6, qg_7, qg_8, qg_9, qg_10, qg_11, qg_12, qg_13, not_true_eq_false, not_false_eq_true, Nat.reduceBEq, Bool.false_eq_true, ex1, ex3, ex4, exF, qfit_i, qfit_l, qfit_r, qfit_n, qfit_b0, qfit_b1, qcat_i, qcat_r, qcat_n, qcat_l, qroom_0, qroom_c, List.map_cons, List.map_nil, List.sum_cons, List.sum_nil, Nat.reduceAdd, Nat.reduceMul, Nat.reduceLT, Nat.reduceLeDiff, Nat.reduceEqDiff, Nat.reduceSub, decide_true, true_and, and_true, and_self, if_true, if_false, Option.toList_some, Option.toList_none, List.cons_append, List.nil_append, qsL, qlong, List.length_cons, List.length_nil, iN_L, exI, iN_add, iN_mul, iN_le, iN_lt, iN_eq, Nat.le_refl, qfN0, qfN1, uX_16, vX_16, uX_19, vX_19, uX_27, vX_27, uX_30, vX_30, uX_39, vX_39, uX_41, vX_41, uX_43, vX_43, uX_46, vX_46, uX_50, vX_50, uX_53, vX_53]
  have all : ∀ (w dd P f : Nat) (o st cp : Nat → Nat) (g : qH) (x4 x5 : Option Value), dd + w = n → odI h n A dd P f o st cp g → ∃ P' f' o' st' cp' g' x4' x5', odI h n A n P' f' o' st' cp' g' ∧ ∀ R, qEv (d + 3) 4 qk_54 6 [some (.ref 30), some (.int (iN P)), some (.int (iN f)), some (.int (iN dd)), x4, x5] [] g R ↔ qEv (d + 3) 4 qk_54 6 [some (.ref 30), some (.int (iN P')), some (.int (iN f')), some (.int (iN n)), x4', x5'] [] g' R := by
    intro w
    induction w with
    | zero =>
      intro dd P f o st cp g x4 x5 hd I
      have e : dd = n := by omega
      subst e
      exact ⟨P, f, o, st, cp, g, x4, x5, I, fun R => Iff.rfl⟩
    | succ w ih =>
      intro dd P f o st cp g x4 x5 hd I
      obtain ⟨P1, f1, o1, st1, cp1, g1, x41, x51, I1, r1⟩ := one dd P f o st cp g x4 x5 (by omega) I
      obtain ⟨P2, f2, o2, st2, cp2, g2, x42, x52, I2, r2⟩ := ih (dd + 1) P1 f1 o1 st1 cp1 g1 x41 x51 (by omega) I1
      exact ⟨P2, f2, o2, st2, cp2, g2, x42, x52, I2, fun R => (r1 R).trans (r2 R)⟩
  have z0 : cntN (inPl A 0) A.length = 0 := cntN_0 fun k hk z => by
    have w0 := of_decide_eq_true z
    obtain ⟨c, h1, -, -⟩ := low_spec (h0 _ (getD_mem0 hk)) (A16 k hk)
    have := wo_0i.mp w0 c h1
    rw [Nat.zero_testBit] at this; cases this
  obtain ⟨P, f, o, st, cp, g, x4, x5, I, r⟩ := all n 0 0 0 (fun _ => 0) (fun _ => 0) (fun _ => 0) h none none (by omega) ⟨ChX.refl s, fun e he => absurd he (Nat.not_lt_zero e), fun a b _ hb => absurd hb (Nat.not_lt_zero b), fun c => ⟨fun z => (by rw [Nat.zero_testBit] at z; cases z), fun ⟨e, he, _⟩ => absurd he (Nat.not_lt_zero e)⟩, ⟨z0.symm, rfl⟩, fun e he => absurd he (Nat.not_lt_zero e), fun t ht => absurd ht (Nat.not_lt_zero t), fun e he => absurd he (Nat.not_lt_zero e)⟩
  have mono : ∀ {e e'}, e ≤ e' → e' ≤ n → st e ≤ st e' := fun {e e'} h1 h2 => I.mono h1 h2
  obtain ⟨i1, i2, i3, i4, ⟨i5, i5'⟩, i6, i7, i8⟩ := I
  have sg := i1.sh
  have f104 : f ≤ 104 := by rw [i5]; have := cntN_le (p := inPl A P) (n := A.length); omega
  obtain ⟨g2, e2⟩ : ∃ g2, g2 = sI g 37 (upd (hi g 37) n (iN f)) := ⟨_, rfl⟩
  have w2 : qiast g 37 (iN n) (iN f) = some g2 := by rw [e2]; exact wX_37 sg (by omega)
  have m2 : xi g 30 2 = iN n := (i1.xi (by decide) (by decide)).trans v1
  refine ⟨g2, o, st, cp, fun R => ?_, i1.trans0 (by rw [e2]; exact ChX.rowI sg (kX_37 sg) (by decide) (by decide)), ⟨fun e he => (i2 e he).1, i3, fun e he => by have := mono he (Nat.le_refl n); omega, fun e he => (i8 e he).1, fun e t he => (i8 e he).2.1 t, fun e x he => (i8 e he).2.2 x⟩, fun e he => ?_, fun e he => ?_, fun t ht => ?_⟩
  · have r0 : qMC (d + 4) 54 [.ref 30] h R ↔ qEv (d + 3) 4 qk_54 6 [some (.ref 30), some (.int (iN 0)), some (.int (iN 0)), some (.int (iN 0)), none, none] [] h R := by
      simp (disch := first | assumption | omega) only [e54_0, e54_1, e54_2, e54_3, e54_4, e54_5, e54_7, e54_8, e54_11, e54_14, e54_15, e54_16, e54_19, e54_21, e54_22, e54_23, e54_25, e54_26, e54_27, e54_28, e54_29, e54_32, e54_33, e54_35, e54_36, e54_37, e54_40, e54_41, e54_42, e54_43, e54_44, e54_46, e54_48, e54_49, e54_52, e54_55, e54_56, e54_59, e54_61, e54_62, e54_64, e54_65, e54_66, e54_67, e54_70, e54_71, e54_74, e54_76, e54_77, e54_78, e54_79, e54_80, e54_81, e54_84, e54_85, e54_87, e54_90, e54_91, e54_94, e54_95, e54_96, e54_99, e54_101, e54_102, e54_103, e54_106, e54_109, e54_112, e54_115, e54_118, e54_119, e54_122, e54_123, e54_126, e54_127, e54_128, m54, ↓reduceIte, qg_0, qg_1, qg_2, qg_3, qg_4, qg_5, qg_6, qg_7, qg_8, qg_9, qg_10, qg_11, qg_12, qg_13, not_true_eq_false, not_false_eq_true, Nat.reduceBEq, Bool.false_eq_true, ex1, ex3, ex4, exF, qfit_i, qfit_l, qfit_r, qfit_n, qfit_b0, qfit_b1, qcat_i, qcat_r, qcat_n, qcat_l, qroom_0, qroom_c, List.map_cons, List.map_nil, List.sum_cons, List.sum_nil, Nat.reduceAdd, Nat.reduceMul, Nat.reduceLT, Nat.reduceLeDiff, Nat.reduceEqDiff, Nat.reduceSub, decide_true, true_and, and_true, and_self, if_true, if_false, Option.toList_some, Option.toList_none, List.cons_append, List.nil_append, qsL, qlong, List.length_cons, List.length_nil, iN_L, exI, iN_add, iN_mul, iN_le, iN_lt, iN_eq, Nat.le_refl, qfN0, qfN1, uX_16, vX_16, uX_19, vX_19, uX_27, vX_27, uX_30, vX_30, uX_39, vX_39, uX_41, vX_41, uX_43, vX_43, uX_46, vX_46, uX_50, vX_50, uX_53, vX_53]
    rw [r0, r R, e54_6]
    simp (disch := first | assumption | omega) only [e54_0, e54_1, e54_2, e54_3, e54_4, e54_5, e54_7, e54_8, e54_11, e54_14, e54_15, e54_16, e54_19, e54_21, e54_22, e54_23, e54_25, e54_26, e54_27, e54_28, e54_29, e54_32, e54_33, e54_35, e54_36, e54_37, e54_40, e54_41, e54_42, e54_43, e54_44, e54_46, e54_48, e54_49, e54_52, e54_55, e54_56, e54_59, e54_61, e54_62, e54_64, e54_65, e54_66, e54_67, e54_70, e54_71, e54_74, e54_76, e54_77, e54_78, e54_79, e54_80, e54_81, e54_84, e54_85, e54_87, e54_90, e54_91, e54_94, e54_95, e54_96, e54_99, e54_101, e54_102, e54_103, e54_106, e54_109, e54_112, e54_115, e54_118, e54_119, e54_122, e54_123, e54_126, e54_127, e54_128, m54, ↓reduceIte, qg_0, qg_1, qg_2, qg_3, qg_4, qg_5, qg_6, qg_7, qg_8, qg_9, qg_10, qg_11, qg_12, qg_13, not_true_eq_false, not_false_eq_true, Nat.reduceBEq, Bool.false_eq_true, ex1, ex3, ex4, exF, qfit_i, qfit_l, qfit_r, qfit_n, qfit_b0, qfit_b1, qcat_i, qcat_r, qcat_n, qcat_l, qroom_0, qroom_c, List.map_cons, List.map_nil, List.sum_cons, List.sum_nil, Nat.reduceAdd, Nat.reduceMul, Nat.reduceLT, Nat.reduceLeDiff, Nat.reduceEqDiff, Nat.reduceSub, decide_true, true_and, and_true, and_self, if_true, if_false, Option.toList_some, Option.toList_none, List.cons_append, List.nil_append, qsL, qlong, List.length_cons, List.length_nil, iN_L, exI, iN_add, iN_mul, iN_le, iN_lt, iN_eq, Nat.le_refl, qfN0, qfN1, uX_16, vX_16, uX_19, vX_19, uX_27, vX_27, uX_30, vX_30, uX_39, vX_39, uX_41, vX_41, uX_43, vX_43, uX_46, vX_46, uX_50, vX_50, uX_53, vX_53, gX_30_2, m2, gX_30_10, w2]
  · rw [e2, hi_sI, if_neg (by decide)]; exact (i2 e he).2
  · rw [e2, hi_sI, if_pos rfl, upd_at]
    by_cases z : e = n
    · rw [if_pos z, z, i5']
    · rw [if_neg z]; exact i6 e (by omega)
  · rw [e2, hi_sI, if_neg (by decide)]; exact i7 t (by omega)
end XORDER

/-! ===== THE CLASS: share ===== -/
section XSHARE
variable {d : Nat} {h : qH} {R : qRes}
def wtN (x : Nat) : Nat := 1000 + pop x 24 * pop x 24
/-- how two marks share sets, of the first t -/
def shN (L : List Nat) (a b : Nat) : Nat → Nat
  | 0 => 0
  | t + 1 => shN L a b t + if (L.getD t 0).testBit a = true ∧ (L.getD t 0).testBit b = true then wtN (L.getD t 0) else 0
def shR (h : qH) (q : Nat) (F : Nat → Nat → Nat) : Nat → Int32 := fun x => if x < 256 then iN (F (x / 16) (x % 16)) else hi h q x
def adF (w o m : Nat) (F : Nat → Nat → Nat) : Nat → Nat → Nat := fun a b => if a = o ∧ b = m then F a b + w else F a b
def inF' (w o : Nat) (p : Nat → Bool) (k : Nat) (F : Nat → Nat → Nat) : Nat → Nat → Nat := fun a b => if a = o ∧ b < k ∧ p b = true then F a b + w else F a b
theorem in_fold {w o : Nat} {p : Nat → Bool} {F : Nat → Nat → Nat} : ∀ k, (pickN p k).foldl (fun F m => adF w o m F) F = inF' w o p k F
  | 0 => by funext a b; exact (if_neg (fun z => absurd z.2.1 (Nat.not_lt_zero b))).symm
  | k + 1 => by
    rw [foldl_pick, in_fold k]
    funext a b
    unfold adF inF'
    by_cases q : p k = true
    · rw [if_pos q]
      try dsimp only
      by_cases e : a = o ∧ b = k
      · rw [if_pos e, if_neg (fun z => by omega), if_pos ⟨e.1, by omega, by rw [e.2]; exact q⟩]
      · rw [if_neg e]
        by_cases e2 : a = o ∧ b < k ∧ p b = true
        · rw [if_pos e2, if_pos ⟨e2.1, by omega, e2.2.2⟩]
        · rw [if_neg e2, if_neg (fun z => by
            rcases Nat.lt_or_ge b k with y | y
            · exact e2 ⟨z.1, y, z.2.2⟩
            · exact e ⟨z.1, by omega⟩)]
    · rw [if_neg q]
      by_cases e2 : a = o ∧ b < k ∧ p b = true
      · rw [if_pos e2, if_pos ⟨e2.1, by omega, e2.2.2⟩]
      · rw [if_neg e2, if_neg (fun z => by
          rcases Nat.lt_or_ge b k with y | y
          · exact e2 ⟨z.1, y, z.2.2⟩
          · exact q (by rw [show k = b by omega]; exact z.2.2))]
def ouF (w : Nat) (p : Nat → Bool) (k : Nat) (F : Nat → Nat → Nat) : Nat → Nat → Nat := fun a b => if a < k ∧ p a = true ∧ b < 16 ∧ p b = true then F a b + w else F a b
theorem ou_fold {w : Nat} {p : Nat → Bool} {F : Nat → Nat → Nat} : ∀ k, (pickN p k).foldl (fun F o => inF' w o p 16 F) F = ouF w p k F
  | 0 => by funext a b; exact (if_neg (fun z => absurd z.1 (Nat.not_lt_zero a))).symm
  | k + 1 => by
    rw [foldl_pick, ou_fold k]
    funext a b
    unfold inF' ouF
    by_cases q : p k = true
    · rw [if_pos q]
      try dsimp only
      by_cases e : a = k ∧ b < 16 ∧ p b = true
      · rw [if_pos e, if_neg (fun z => by omega), if_pos ⟨by omega, by rw [e.1]; exact q, e.2⟩]
      · rw [if_neg e]
        by_cases e2 : a < k ∧ p a = true ∧ b < 16 ∧ p b = true
        · rw [if_pos e2, if_pos ⟨by omega, e2.2⟩]
        · rw [if_neg e2, if_neg (fun z => by
            rcases Nat.lt_or_ge a k with y | y
            · exact e2 ⟨y, z.2⟩
            · exact e ⟨by omega, z.2.2⟩)]
    · rw [if_neg q]
      by_cases e2 : a < k ∧ p a = true ∧ b < 16 ∧ p b = true
      · rw [if_pos e2, if_pos ⟨by omega, e2.2⟩]
      · rw [if_neg e2, if_neg (fun z => by
          rcases Nat.lt_or_ge a k with y | y
          · exact e2 ⟨y, z.2⟩
          · exact q (by rw [show k = a by omega]; exact z.2.1))]
set_option maxRecDepth 100000 in
set_option maxHeartbeats 32000000 in
theorem x_share {q fr nf : Nat} {L : List Nat} (s : ShX h) (kq : kI h q 256) (q0 : q ≠ 0) (qn : q ∉ XO) (kf : kI h fr nf) (hne : fr ≠ q) (hl : L.length ≤ nf ∧ L.length ≤ 208) (m1' : xi h 30 1 = iN L.length) (va : ∀ t, t < L.length → hi h fr t = iN (L.getD t 0) ∧ L.getD t 0 < 65536) : ∃ G, (∀ R, qMC (d + 3) 53 [.ref 30, .ref fr, .ref q] h R ↔ R = (none, sI h q G)) ∧ ∀ a b, a < 16 → b < 16 → G (a * 16 + b) = iN (shN L a b L.length) := by
  have cG : ∀ G, ChX [q] [] 0 h (sI h q G) := fun G => ChX.rowI s kq (by simp) q0
  have sG : ∀ G, ShX (sI h q G) := fun G => (cG G).sh
  have x1 : ∀ G, xi (sI h q G) 30 1 = iN L.length := fun G => by unfold xi; rw [hf_sI kq]; exact m1'
  have kz : ∀ G, kI (sI h q G) q 256 := fun G => (hKd_sI kq).2.1 _ _ kq
  have kfz : ∀ G, kI (sI h q G) fr nf := fun G => (hKd_sI kq).2.1 _ _ kf
  have ra : ∀ G t, t < L.length → qiald (sI h q G) fr (iN t) = some (iN (L.getD t 0)) := fun G t ht => by rw [rdI (kfz G) (by omega), hi_sI, if_neg hne, (va t ht).1]
  have rs : ∀ F a b, a < 16 → b < 16 → qiald (sI h q (shR h q F)) q (iN (a * 16 + b)) = some (iN (F a b)) := fun F a b ha hb => by
    rw [rdI (kz _) (by omega), hi_sI, if_pos rfl]
    unfold shR
    rw [if_pos (by omega), show (a * 16 + b) / 16 = a by omega, show (a * 16 + b) % 16 = b by omega]
  have ws : ∀ F w a b, a < 16 → b < 16 → qiast (sI h q (shR h q F)) q (iN (a * 16 + b)) (iN (F a b + w)) = some (sI h q (shR h q (adF w a b F))) := fun F w a b ha hb => by
    rw [wrI (kz _) (by omega), sI_sI, hi_sI, if_pos rfl]
    congr 2
    funext x
    rw [upd_at]
    unfold shR adF
    try dsimp only
    by_cases e : x = a * 16 + b
    · rw [if_pos e, if_pos (by omega), if_pos ⟨by omega, by omega⟩, show x / 16 = a by omega, show x % 16 = b by omega]
    · rw [if_neg e]
      by_cases e2 : x < 256
      · rw [if_pos e2, if_pos e2, if_neg (fun z => e (by omega))]
      · rw [if_neg e2, if_neg e2]
  have row : ∀ (t : Nat) (F : Nat → Nat → Nat) (y4 y5 y6 y7 y8 : Option Value), t < L.length → ∃ z4 z5 z6 z7 z8, ∀ R, qEv (d + 2) 4 qk_53 7 [some (.ref 30), some (.ref fr), some (.ref q), some (.int (iN t)), y4, y5, y6, y7, y8] [] (sI h q (shR h q F)) R ↔ qEv (d + 2) 4 qk_53 7 [some (.ref 30), some (.ref fr), some (.ref q), some (.int (iN (t + 1))), z4, z5, z6, z7, z8] [] (sI h q (shR h q (ouF (wtN (L.getD t 0)) (fun c => (L.getD t 0).testBit c) 16 F))) R := by
    intro t F y4 y5 y6 y7 y8 ht
    obtain ⟨x, ex⟩ : ∃ x, x = L.getD t 0 := ⟨_, rfl⟩
    have hx : x < 65536 := by rw [ex]; exact (va t ht).2
    have ra' : ∀ G, qiald (sI h q G) fr (iN t) = some (iN x) := fun G => by rw [ex]; exact ra G t ht
    rw [← ex]
    obtain ⟨w, ew⟩ : ∃ w, w = wtN x := ⟨_, rfl⟩
    obtain ⟨z, ez⟩ : ∃ z, z = pop x 24 := ⟨_, rfl⟩
    have ew' : w = 1000 + z * z := by rw [ew, ez]; rfl
    rw [← ew]
    have inner : ∀ (o lf : Nat) (F : Nat → Nat → Nat) (y8 : Option Value), o < 16 → ∀ R, qEv (d + 2) 4 qk_53 56 [some (.ref 30), some (.ref fr), some (.ref q), some (.int (iN t)), some (.int (iN z)), some (.int (iN w)), some (.int (iN lf)), some (.int (iN o)), some (.int (iN x))] [] (sI h q (shR h q F)) R ↔ qEv (d + 2) 4 qk_53 56 [some (.ref 30), some (.ref fr), some (.ref q), some (.int (iN t)), some (.int (iN z)), some (.int (iN w)), some (.int (iN lf)), some (.int (iN o)), some (.int (iN (stL [])))] [] (sI h q (shR h q (inF' w o (fun c => x.testBit c) 16 F))) R := by
      intro o lf F y8 ho R
      have lp := (loop_mem (d := d + 2) (rt := 4) (K := qk_53) (pc := 56) (R := R) (α := Nat → Nat → Nat) (L := fun rest _ => [some (.ref 30), some (.ref fr), some (.ref q), some (.int (iN t)), some (.int (iN z)), some (.int (iN w)), some (.int (iN lf)), some (.int (iN o)), some (.int (iN rest))]) (H := fun F => sI h q (shR h q F)) (f := fun F m => adF w o m F) (I := fun _ => True) (P := fun m => m < 16) (fun m ms F hin hm _ => by
        have sl : ∀ R, qMC (d + 2) 178 [.int (iN (stL (m :: ms)))] (sI h q (shR h q F)) R ↔ R = (some (.int (iN m)), sI h q (shR h q F)) := fun R => x_least hin
        have sd := stL_drop hin
        have sn := stL_ne hin
        have r1 := rs F o m ho hm
        have w1 := ws F w o m ho hm
        have sg' := sG (shR h q F)
        refine ⟨trivial, ?_⟩
        try dsimp only
        rw [e53_56]
        simp (disch := first | assumption | omega) only [e53_0, e53_1, e53_2, e53_5, e53_6, e53_7, e53_8, e53_9, e53_12, e53_15, e53_16, e53_17, e53_18, e53_21, e53_23, e53_26, e53_28, e53_30, e53_31, e53_32, e53_34, e53_35, e53_36, e53_37, e53_39, e53_41, e53_44, e53_46, e53_49, e53_51, e53_52, e53_53, e53_54, e53_58, e53_61, e53_62, e53_64, e53_66, e53_67, e53_69, e53_72, e53_73, e53_74, e53_75, e53_77, e53_78, e53_79, e53_81, e53_83, e53_84, e53_85, e53_86, e53_88, e53_91, e53_93, e53_95, e53_96, e53_97, e53_98, e53_100, e53_103, e53_106, e53_109, m53, ↓reduceIte, qg_0, qg_1, qg_2, qg_3, qg_4, qg_5, qg_6, qg_7, qg_8, qg_9, qg_10, qg_11, qg_12, qg_13, not_true_eq_false, not_false_eq_true, Nat.reduceBEq, Bool.false_eq_true, ex1, ex3, ex4, exF, qfit_i, qfit_l, qfit_r, qfit_n, qfit_b0, qfit_b1, qcat_i, qcat_r, qcat_n, qcat_l, qroom_0, qroom_c, List.map_cons, List.map_nil, List.sum_cons, List.sum_nil, Nat.reduceAdd, Nat.reduceMul, Nat.reduceLT, Nat.reduceLeDiff, Nat.reduceEqDiff, Nat.reduceSub, decide_true, true_and, and_true, and_self, if_true, if_false, Option.toList_some, Option.toList_none, List.cons_append, List.nil_append, qsL, qlong, List.length_cons, List.length_nil, iN_L, exI, iN_add, iN_mul, iN_le, iN_lt, iN_eq, Nat.le_refl, qfN0, qfN1, uX_16, vX_16, uX_19, vX_19, uX_27, vX_27, uX_30, vX_30, uX_39, vX_39, uX_41, vX_41, uX_43, vX_43, uX_46, vX_46, uX_50, vX_50, uX_53, vX_53, sn, sl, r1, w1, sd]) (mems x) F (mems_in x) (fun m hm => (mems_in x).2 m hm) trivial).2
      try dsimp only at lp
      rw [show (mems x).foldl (fun F m => adF w o m F) F = inF' w o (fun c => x.testBit c) 16 F from in_fold 16, stL_mems hx] at lp
      exact lp
    have outer := fun R => (loop_mem (d := d + 2) (rt := 4) (K := qk_53) (pc := 39) (R := R) (α := (Nat → Nat → Nat) × Option Value × Option Value) (L := fun rest m => [some (.ref 30), some (.ref fr), some (.ref q), some (.int (iN t)), some (.int (iN z)), some (.int (iN w)), some (.int (iN rest)), m.2.1, m.2.2]) (H := fun m => sI h q (shR h q m.1)) (f := fun m o => (inF' w o (fun c => x.testBit c) 16 m.1, some (.int (iN o)), some (.int (iN (stL []))))) (I := fun _ => True) (P := fun o => o < 16) (fun o ms m hin ho _ => by
      have sl : ∀ R, qMC (d + 2) 178 [.int (iN (stL (o :: ms)))] (sI h q (shR h q m.1)) R ↔ R = (some (.int (iN o)), sI h q (shR h q m.1)) := fun R => x_least hin
      have sd := stL_drop hin
      have sn := stL_ne hin
      have r1 := ra' (shR h q m.1)
      have sg' := sG (shR h q m.1)
      refine ⟨trivial, ?_⟩
      try dsimp only
      have st : qEv (d + 2) 4 qk_53 39 [some (.ref 30), some (.ref fr), some (.ref q), some (.int (iN t)), some (.int (iN z)), some (.int (iN w)), some (.int (iN (stL (o :: ms)))), m.2.1, m.2.2] [] (sI h q (shR h q m.1)) R ↔ qEv (d + 2) 4 qk_53 56 [some (.ref 30), some (.ref fr), some (.ref q), some (.int (iN t)), some (.int (iN z)), some (.int (iN w)), some (.int (iN (stL (o :: ms)))), some (.int (iN o)), some (.int (iN x))] [] (sI h q (shR h q m.1)) R := by
        rw [e53_39]
        simp (disch := first | assumption | omega) only [e53_0, e53_1, e53_2, e53_5, e53_6, e53_7, e53_8, e53_9, e53_12, e53_15, e53_16, e53_17, e53_18, e53_21, e53_23, e53_26, e53_28, e53_30, e53_31, e53_32, e53_34, e53_35, e53_36, e53_37, e53_41, e53_44, e53_46, e53_49, e53_51, e53_52, e53_53, e53_54, e53_58, e53_61, e53_62, e53_64, e53_66, e53_67, e53_69, e53_72, e53_73, e53_74, e53_75, e53_77, e53_78, e53_79, e53_81, e53_83, e53_84, e53_85, e53_86, e53_88, e53_91, e53_93, e53_95, e53_96, e53_97, e53_98, e53_100, e53_103, e53_106, e53_109, m53, ↓reduceIte, qg_0, qg_1, qg_2, qg_3, qg_4, qg_5, qg_6, qg_7, qg_8, qg_9, qg_10, qg_11, qg_12, qg_13, not_true_eq_false, not_false_eq_true, Nat.reduceBEq, Bool.false_eq_true, ex1, ex3, ex4, exF, qfit_i, qfit_l, qfit_r, qfit_n, qfit_b0, qfit_b1, qcat_i, qcat_r, qcat_n, qcat_l, qroom_0, qroom_c, List.map_cons, List.map_nil, List.sum_cons, List.sum_nil, Nat.reduceAdd, Nat.reduceMul, Nat.reduceLT, Nat.reduceLeDiff, Nat.reduceEqDiff, Nat.reduceSub, decide_true, true_and, and_true, and_self, if_true, if_false, Option.toList_some, Option.toList_none, List.cons_append, List.nil_append, qsL, qlong, List.length_cons, List.length_nil, iN_L, exI, iN_add, iN_mul, iN_le, iN_lt, iN_eq, Nat.le_refl, qfN0, qfN1, uX_16, vX_16, uX_19, vX_19, uX_27, vX_27, uX_30, vX_30, uX_39, vX_39, uX_41, vX_41, uX_43, vX_43, uX_46, vX_46, uX_50, vX_50, uX_53, vX_53, sn, sl, r1]
      rw [st, inner o (stL (o :: ms)) m.1 none ho R, e53_56]
      simp (disch := first | assumption | omega) only [e53_0, e53_1, e53_2, e53_5, e53_6, e53_7, e53_8, e53_9, e53_12, e53_15, e53_16, e53_17, e53_18, e53_21, e53_23, e53_26, e53_28, e53_30, e53_31, e53_32, e53_34, e53_35, e53_36, e53_37, e53_41, e53_44, e53_46, e53_49, e53_51, e53_52, e53_53, e53_54, e53_58, e53_61, e53_62, e53_64, e53_66, e53_67, e53_69, e53_72, e53_73, e53_74, e53_75, e53_77, e53_78, e53_79, e53_81, e53_83, e53_84, e53_85, e53_86, e53_88, e53_91, e53_93, e53_95, e53_96, e53_97, e53_98, e53_100, e53_103, e53_106, e53_109, m53, ↓reduceIte, qg_0, qg_1, qg_2, qg_3, qg_4, qg_5, qg_6, qg_7, qg_8, qg_9, qg_10, qg_11, qg_12, qg_13, not_true_eq_false, not_false_eq_true, Nat.reduceBEq, Bool.false_eq_true, ex1, ex3, ex4, exF, qfit_i, qfit_l, qfit_r, qfit_n, qfit_b0, qfit_b1, qcat_i, qcat_r, qcat_n, qcat_l, qroom_0, qroom_c, List.map_cons, List.map_nil, List.sum_cons, List.sum_nil, Nat.reduceAdd, Nat.reduceMul, Nat.reduceLT, Nat.reduceLeDiff, Nat.reduceEqDiff, Nat.reduceSub, decide_true, true_and, and_true, and_self, if_true, if_false, Option.toList_some, Option.toList_none, List.cons_append, List.nil_append, qsL, qlong, List.length_cons, List.length_nil, iN_L, exI, iN_add, iN_mul, iN_le, iN_lt, iN_eq, Nat.le_refl, qfN0, qfN1, uX_16, vX_16, uX_19, vX_19, uX_27, vX_27, uX_30, vX_30, uX_39, vX_39, uX_41, vX_41, uX_43, vX_43, uX_46, vX_46, uX_50, vX_50, uX_53, vX_53, stL_nil, sd]) (mems x) (F, y7, y8) (mems_in x) (fun m hm => (mems_in x).2 m hm) trivial).2
    try dsimp only at outer
    have f1 : ∀ (ms : List Nat) (m : (Nat → Nat → Nat) × Option Value × Option Value), (ms.foldl (fun (m : (Nat → Nat → Nat) × Option Value × Option Value) o => (inF' w o (fun c => x.testBit c) 16 m.1, some (Value.int (iN o)), some (Value.int (iN (stL []))))) m).1 = ms.foldl (fun F o => inF' w o (fun c => x.testBit c) 16 F) m.1 := by
      intro ms
      induction ms with
      | nil => exact fun _ => rfl
      | cons o ms ih => exact fun m => ih _
    rw [f1, show (mems x).foldl (fun F o => inF' w o (fun c => x.testBit c) 16 F) F = ouF w (fun c => x.testBit c) 16 F from ou_fold 16, stL_mems hx] at outer
    obtain ⟨fin, efin⟩ : ∃ fin, fin = (mems x).foldl (fun (m : (Nat → Nat → Nat) × Option Value × Option Value) o => (inF' w o (fun c => x.testBit c) 16 m.1, some (Value.int (iN o)), some (Value.int (iN (stL []))))) (F, y7, y8) := ⟨_, rfl⟩
    rw [← efin] at outer
    have r1 := ra' (shR h q F)
    have sg' := sG (shR h q F)
    have xg := x1 (shR h q F)
    have sb : ∀ R, qMC (d + 2) 308 [.int (iN x)] (sI h q (shR h q F)) R ↔ R = (some (.int (iN z)), sI h q (shR h q F)) := fun R => by rw [ez]; exact x_bitCount hx
    refine ⟨some (.int (iN z)), some (.int (iN w)), some (.int (iN (stL []))), fin.2.1, fin.2.2, fun R => ?_⟩
    have st : qEv (d + 2) 4 qk_53 7 [some (.ref 30), some (.ref fr), some (.ref q), some (.int (iN t)), y4, y5, y6, y7, y8] [] (sI h q (shR h q F)) R ↔ qEv (d + 2) 4 qk_53 39 [some (.ref 30), some (.ref fr), some (.ref q), some (.int (iN t)), some (.int (iN z)), some (.int (iN w)), some (.int (iN x)), y7, y8] [] (sI h q (shR h q F)) R := by
      rw [e53_7, ew']
      simp (disch := first | assumption | omega) only [e53_0, e53_1, e53_2, e53_5, e53_6, e53_8, e53_9, e53_12, e53_15, e53_16, e53_17, e53_18, e53_21, e53_23, e53_26, e53_28, e53_30, e53_31, e53_32, e53_34, e53_35, e53_36, e53_37, e53_41, e53_44, e53_46, e53_49, e53_51, e53_52, e53_53, e53_54, e53_56, e53_58, e53_61, e53_62, e53_64, e53_66, e53_67, e53_69, e53_72, e53_73, e53_74, e53_75, e53_77, e53_78, e53_79, e53_81, e53_83, e53_84, e53_85, e53_86, e53_88, e53_91, e53_93, e53_95, e53_96, e53_97, e53_98, e53_100, e53_103, e53_106, e53_109, m53, ↓reduceIte, qg_0, qg_1, qg_2, qg_3, qg_4, qg_5, qg_6, qg_7, qg_8, qg_9, qg_10, qg_11, qg_12, qg_13, not_true_eq_false, not_false_eq_true, Nat.reduceBEq, Bool.false_eq_true, ex1, ex3, ex4, exF, qfit_i, qfit_l, qfit_r, qfit_n, qfit_b0, qfit_b1, qcat_i, qcat_r, qcat_n, qcat_l, qroom_0, qroom_c, List.map_cons, List.map_nil, List.sum_cons, List.sum_nil, Nat.reduceAdd, Nat.reduceMul, Nat.reduceLT, Nat.reduceLeDiff, Nat.reduceEqDiff, Nat.reduceSub, decide_true, true_and, and_true, and_self, if_true, if_false, Option.toList_some, Option.toList_none, List.cons_append, List.nil_append, qsL, qlong, List.length_cons, List.length_nil, iN_L, exI, iN_add, iN_mul, iN_le, iN_lt, iN_eq, Nat.le_refl, qfN0, qfN1, uX_16, vX_16, uX_19, vX_19, uX_27, vX_27, uX_30, vX_30, uX_39, vX_39, uX_41, vX_41, uX_43, vX_43, uX_46, vX_46, uX_50, vX_50, uX_53, vX_53, gX_30_1, xg, show ¬ L.length ≤ t by omega, r1, sb]
    rw [st, outer R, e53_39]
    simp (disch := first | assumption | omega) only [e53_0, e53_1, e53_2, e53_5, e53_6, e53_8, e53_9, e53_12, e53_15, e53_16, e53_17, e53_18, e53_21, e53_23, e53_26, e53_28, e53_30, e53_31, e53_32, e53_34, e53_35, e53_36, e53_37, e53_41, e53_44, e53_46, e53_49, e53_51, e53_52, e53_53, e53_54, e53_56, e53_58, e53_61, e53_62, e53_64, e53_66, e53_67, e53_69, e53_72, e53_73, e53_74, e53_75, e53_77, e53_78, e53_79, e53_81, e53_83, e53_84, e53_85, e53_86, e53_88, e53_91, e53_93, e53_95, e53_96, e53_97, e53_98, e53_100, e53_103, e53_106, e53_109, m53, ↓reduceIte, qg_0, qg_1, qg_2, qg_3, qg_4, qg_5, qg_6, qg_7, qg_8, qg_9, qg_10, qg_11, qg_12, qg_13, not_true_eq_false, not_false_eq_true, Nat.reduceBEq, Bool.false_eq_true, ex1, ex3, ex4, exF, qfit_i, qfit_l, qfit_r, qfit_n, qfit_b0, qfit_b1, qcat_i, qcat_r, qcat_n, qcat_l, qroom_0, qroom_c, List.map_cons, List.map_nil, List.sum_cons, List.sum_nil, Nat.reduceAdd, Nat.reduceMul, Nat.reduceLT, Nat.reduceLeDiff, Nat.reduceEqDiff, Nat.reduceSub, decide_true, true_and, and_true, and_self, if_true, if_false, Option.toList_some, Option.toList_none, List.cons_append, List.nil_append, qsL, qlong, List.length_cons, List.length_nil, iN_L, exI, iN_add, iN_mul, iN_le, iN_lt, iN_eq, Nat.le_refl, qfN0, qfN1, uX_16, vX_16, uX_19, vX_19, uX_27, vX_27, uX_30, vX_30, uX_39, vX_39, uX_41, vX_41, uX_43, vX_43, uX_46, vX_46, uX_50, vX_50, uX_53, vX_53, stL_nil]
    try exact Iff.rfl
  have rows : ∀ (w t : Nat) (F : Nat → Nat → Nat) (y4 y5 y6 y7 y8 : Option Value), t + w = L.length → (∀ a b, a < 16 → b < 16 → F a b = shN L a b t) → ∃ F', (∀ a b, a < 16 → b < 16 → F' a b = shN L a b L.length) ∧ ∀ R, qEv (d + 2) 4 qk_53 7 [some (.ref 30), some (.ref fr), some (.ref q), some (.int (iN t)), y4, y5, y6, y7, y8] [] (sI h q (shR h q F)) R ↔ R = (none, sI h q (shR h q F')) := by
    intro w
    induction w with
    | zero =>
      intro t F y4 y5 y6 y7 y8 ht hF
      have et : t = L.length := by omega
      subst et
      have sg' := sG (shR h q F)
      have xg := x1 (shR h q F)
      refine ⟨F, hF, fun R => ?_⟩
      rw [e53_7]
      simp (disch := first | assumption | omega) only [e53_0, e53_1, e53_2, e53_5, e53_6, e53_8, e53_9, e53_12, e53_15, e53_16, e53_17, e53_18, e53_21, e53_23, e53_26, e53_28, e53_30, e53_31, e53_32, e53_34, e53_35, e53_36, e53_37, e53_39, e53_41, e53_44, e53_46, e53_49, e53_51, e53_52, e53_53, e53_54, e53_56, e53_58, e53_61, e53_62, e53_64, e53_66, e53_67, e53_69, e53_72, e53_73, e53_74, e53_75, e53_77, e53_78, e53_79, e53_81, e53_83, e53_84, e53_85, e53_86, e53_88, e53_91, e53_93, e53_95, e53_96, e53_97, e53_98, e53_100, e53_103, e53_106, e53_109, m53, ↓reduceIte, qg_0, qg_1, qg_2, qg_3, qg_4, qg_5, qg_6, qg_7, qg_8, qg_9, qg_10, qg_11, qg_12, qg_13, not_true_eq_false, not_false_eq_true, Nat.reduceBEq, Bool.false_eq_true, ex1, ex3, ex4, exF, qfit_i, qfit_l, qfit_r, qfit_n, qfit_b0, qfit_b1, qcat_i, qcat_r, qcat_n, qcat_l, qroom_0, qroom_c, List.map_cons, List.map_nil, List.sum_cons, List.sum_nil, Nat.reduceAdd, Nat.reduceMul, Nat.reduceLT, Nat.reduceLeDiff, Nat.reduceEqDiff, Nat.reduceSub, decide_true, true_and, and_true, and_self, if_true, if_false, Option.toList_some, Option.toList_none, List.cons_append, List.nil_append, qsL, qlong, List.length_cons, List.length_nil, iN_L, exI, iN_add, iN_mul, iN_le, iN_lt, iN_eq, Nat.le_refl, qfN0, qfN1, uX_16, vX_16, uX_19, vX_19, uX_27, vX_27, uX_30, vX_30, uX_39, vX_39, uX_41, vX_41, uX_43, vX_43, uX_46, vX_46, uX_50, vX_50, uX_53, vX_53, gX_30_1, xg]
    | succ w ih =>
      intro t F y4 y5 y6 y7 y8 ht hF
      obtain ⟨z4', z5, z6, z7, z8, r1⟩ := row t F y4 y5 y6 y7 y8 (by omega)
      obtain ⟨F', hF', r2⟩ := ih (t + 1) (ouF (wtN (L.getD t 0)) (fun c => (L.getD t 0).testBit c) 16 F) z4' z5 z6 z7 z8 (by omega) (fun a b ha hb => by
        unfold ouF
        rw [shN, hF a b ha hb]
        by_cases e : (L.getD t 0).testBit a = true ∧ (L.getD t 0).testBit b = true
        · rw [if_pos ⟨ha, e.1, hb, e.2⟩, if_pos e]
        · rw [if_neg (fun y => e ⟨y.2.1, y.2.2.2⟩), if_neg e, Nat.add_zero])
      exact ⟨F', hF', fun R => (r1 R).trans (r2 R)⟩
  obtain ⟨F', hF', r'⟩ := rows L.length 0 (fun _ _ => 0) none none none none none (by omega) (fun _ _ _ _ => rfl)
  have fl : ∀ R, qMC (d + 2) 317 [.ref q, .int (iN 0)] h R ↔ R = (none, sI h q (shR h q (fun _ _ => 0))) := fun R => x_fillI kq
  refine ⟨shR h q F', fun R => ?_, fun a b ha hb => ?_⟩
  · rw [← r' R]
    simp (disch := first | assumption | omega) only [e53_0, e53_1, e53_2, e53_5, e53_6, e53_8, e53_9, e53_12, e53_15, e53_16, e53_17, e53_18, e53_21, e53_23, e53_26, e53_28, e53_30, e53_31, e53_32, e53_34, e53_35, e53_36, e53_37, e53_39, e53_41, e53_44, e53_46, e53_49, e53_51, e53_52, e53_53, e53_54, e53_56, e53_58, e53_61, e53_62, e53_64, e53_66, e53_67, e53_69, e53_72, e53_73, e53_74, e53_75, e53_77, e53_78, e53_79, e53_81, e53_83, e53_84, e53_85, e53_86, e53_88, e53_91, e53_93, e53_95, e53_96, e53_97, e53_98, e53_100, e53_103, e53_106, e53_109, m53, ↓reduceIte, qg_0, qg_1, qg_2, qg_3, qg_4, qg_5, qg_6, qg_7, qg_8, qg_9, qg_10, qg_11, qg_12, qg_13, not_true_eq_false, not_false_eq_true, Nat.reduceBEq, Bool.false_eq_true, ex1, ex3, ex4, exF, qfit_i, qfit_l, qfit_r, qfit_n, qfit_b0, qfit_b1, qcat_i, qcat_r, qcat_n, qcat_l, qroom_0, qroom_c, List.map_cons, List.map_nil, List.sum_cons, List.sum_nil, Nat.reduceAdd, Nat.reduceMul, Nat.reduceLT, Nat.reduceLeDiff, Nat.reduceEqDiff, Nat.reduceSub, decide_true, true_and, and_true, and_self, if_true, if_false, Option.toList_some, Option.toList_none, List.cons_append, List.nil_append, qsL, qlong, List.length_cons, List.length_nil, iN_L, exI, iN_add, iN_mul, iN_le, iN_lt, iN_eq, Nat.le_refl, qfN0, qfN1, uX_16, vX_16, uX_19, vX_19, uX_27, vX_27, uX_30, vX_30, uX_39, vX_39, uX_41, vX_41, uX_43, vX_43, uX_46, vX_46, uX_50, vX_50, uX_53, vX_53, fl]
  · unfold shR
    rw [if_pos (by omega), show (a * 16 + b) / 16 = a by omega, show (a * 16 + b) % 16 = b by omega, hF' a b ha hb]
end XSHARE

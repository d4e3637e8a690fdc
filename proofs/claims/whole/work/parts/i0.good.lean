/-! ===== THE CLASS: rings, goodNext ===== -/
section XGOOD
variable {d : Nat} {h : qH} {bs : List bdy} {sa : Nat → Nat} {R : qRes}
/-- the table is right for the sets from S0 on -/
def tbO (g : Nat → Int32) (adj : Nat → Nat → Bool) (n S0 : Nat) : Prop := ∀ S, S % 2 = 1 → S0 ≤ S → S < 2 ^ n → ∃ m, m < 65536 ∧ g (S / 2) = iN m ∧ (∀ l, l < n → l ≠ 0 → S.testBit l = true → m.testBit l = finB adj n (n - pop S n) S l) ∧ (S = 1 → m.testBit 0 = finB adj n (n - 1) 1 0)
theorem or_fold {p t : Nat → Bool} : ∀ k, (pickN p k).foldl (fun g c => g ||| (if t c = true then 2 ^ c else 0)) 0 = mask (fun c => p c && t c) k
  | 0 => rfl
  | k + 1 => by
    rw [foldl_pick, or_fold k, mask]
    cases p k <;> simp
theorem wo_mask {p : Nat → Bool} {n S : Nat} : wo (mask p n) S = mask (fun c => p c && !S.testBit c) n := by
  apply Nat.eq_of_testBit_eq
  intro k
  rw [wo_bit, mask_bit, mask_bit, Bool.and_assoc]
theorem and_pow (m c : Nat) : m &&& 2 ^ c = if m.testBit c = true then 2 ^ c else 0 := by
  apply Nat.eq_of_testBit_eq
  intro i
  rw [Nat.testBit_and, Nat.testBit_two_pow]
  by_cases e : c = i
  · subst e
    cases q : m.testBit c with
    | true => rw [if_pos rfl, decide_eq_true rfl, Nat.testBit_two_pow_self]; rfl
    | false => rw [if_neg Bool.false_ne_true, Nat.zero_testBit]; rfl
  · rw [decide_eq_false e, Bool.and_false]
    split
    · rw [Nat.testBit_two_pow, decide_eq_false e]
    · rw [Nat.zero_testBit]
theorem pop_add {S c n : Nat} (hc : c < n) (hs : S.testBit c = false) : pop (S ||| 2 ^ c) n = pop S n + 1 := by
  rw [pop_or (fun b hb => by
    rw [Nat.testBit_two_pow] at hb
    have e := of_decide_eq_true hb.2
    rw [← e, hs] at hb; cases hb.1), pop_one hc]
theorem or_odd {S c : Nat} (h1 : S % 2 = 1) : (S ||| 2 ^ c) % 2 = 1 := by
  have h2 : (S ||| 2 ^ c).testBit 0 = true := by rw [Nat.testBit_or, Nat.testBit_zero, decide_eq_true h1]; rfl
  rw [Nat.testBit_zero] at h2
  exact of_decide_eq_true h2
theorem or_gt {S c : Nat} (hs : S.testBit c = false) : S < S ||| 2 ^ c := by
  have : S ≤ S ||| 2 ^ c := Nat.left_le_or
  rcases Nat.lt_or_ge S (S ||| 2 ^ c) with z | z
  · exact z
  · have e : S ||| 2 ^ c = S := by omega
    have h2 : (S ||| 2 ^ c).testBit c = true := by rw [Nat.testBit_or, Nat.testBit_two_pow_self, Bool.or_true]
    rw [e, hs] at h2; cases h2
theorem pw_12 {n : Nat} (h : n ≤ 12) : 2 ^ n ≤ 4096 := show 2 ^ n ≤ 2 ^ 12 from Nat.pow_le_pow_right (by decide) h
/-- who can come next, and be ended -/
def gnM (adj : Nat → Nat → Bool) (n S l : Nat) : Nat := mask (fun c => (adj l c && !S.testBit c) && finB adj n (n - pop S n - 1) (S ||| 2 ^ c) c) n
theorem shr1 (m : Nat) : m >>> 1 = m / 2 := by rw [Nat.shiftRight_eq_div_pow]
set_option maxRecDepth 100000 in
set_option maxHeartbeats 16000000 in
theorem x_good {i l S f p q w e : Nat} {B : Nat → Nat} (s : ShX h) (S' : SoD h (sa i) (dmn bs i) (scl bs i) (cnr bs i) (cel bs i) p q w e B) (n12 : (cnr bs i).length ≤ 12) (hl : l < (cnr bs i).length) (so : S % 2 = 1) (sn : S < 2 ^ (cnr bs i).length) (h4 : hf h 43 4 = .ref f) (kf : kI h f 2048) (tb : tbO (hi h f) (adjB (cel bs i 1)) (cnr bs i).length (S + 1)) : qMC (d + 1) 131 [.ref 43, .ref (sa i), .int (iN l), .int (iN S)] h R ↔ R = (some (.int (iN (gnM (adjB (cel bs i 1)) (cnr bs i).length S l))), h) := by
  obtain ⟨⟨u16, ult, uF⟩, g0, g1, g2, g3, g4, g5, g6⟩ := S'.obj
  have nb := S'.ne hl
  have gf : qget h 43 9 4 = some (.ref f) := by rw [gX_43_4 s, h4]
  obtain ⟨n, en⟩ : ∃ n, n = (cnr bs i).length := ⟨_, rfl⟩
  obtain ⟨adj, ea⟩ : ∃ adj, adj = adjB (cel bs i 1) := ⟨_, rfl⟩
  rw [← en, ← ea] at nb tb
  rw [← en] at n12 hl sn
  rw [← en, ← ea]
  have p12 := pw_12 n12
  have n16 : n ≤ 16 := by omega
  have ml : ∀ f, mask f n < 65536 := fun f => mask_16 n16
  have lp := (loop_mem (d := d) (rt := 0) (K := qk_131) (pc := 15) (R := R) (α := Nat × Option Value) (L := fun rest m => [some (.ref 43), some (.ref (sa i)), some (.int (iN l)), some (.int (iN S)), some (.int (iN m.1)), some (.int (iN rest)), m.2]) (H := fun _ => h) (f := fun b c => (b.1 ||| (if finB adj n (n - pop S n - 1) (S ||| 2 ^ c) c = true then 2 ^ c else 0), some (.int (iN (2 ^ c))))) (I := fun _ => True) (P := fun c => c < n ∧ S.testBit c = false) (fun c ms b hin hc _ => by
    obtain ⟨c1, c2⟩ := hc
    have sl := stL_low hin
    have sd := stL_drop hin
    have snn := stL_ne hin
    have o1 := or_odd (c := c) so
    have o2 := or_gt c2
    have o3 : S ||| 2 ^ c < 2 ^ n := Nat.or_lt_two_pow sn (Nat.pow_lt_pow_right (by decide) c1)
    obtain ⟨m, m1, m2, m3, -⟩ := tb (S ||| 2 ^ c) o1 (by omega) o3
    have cne : c ≠ 0 := fun e => by rw [e, Nat.testBit_zero, decide_eq_true so] at c2; cases c2
    have m4 := m3 c c1 cne (by rw [Nat.testBit_or, Nat.testBit_two_pow_self, Bool.or_true])
    rw [pop_add c1 c2, show n - (pop S n + 1) = n - pop S n - 1 by omega] at m4
    have rd : qiald h f (iN ((S ||| 2 ^ c) / 2)) = some (iN m) := by rw [rdI kf (by omega), m2]
    have sh : iN (S ||| 2 ^ c) >>> (iN 1 &&& iN 31) = iN ((S ||| 2 ^ c) / 2) := by rw [iN_shr (by omega) (by omega), shr1]
    have ma : iN m &&& iN (2 ^ c) = iN (if finB adj n (n - pop S n - 1) (S ||| 2 ^ c) c = true then 2 ^ c else 0) := by rw [iN_and, and_pow, m4]
    refine ⟨trivial, ?_⟩
    try dsimp only
    rw [e131_15]
    simp (disch := first | assumption | omega) only [e131_0, e131_1, e131_3, e131_4, e131_7, e131_8, e131_9, e131_10, e131_11, e131_12, e131_13, e131_17, e131_20, e131_22, e131_24, e131_25, e131_26, e131_28, e131_30, e131_31, e131_34, e131_35, e131_37, e131_38, e131_39, e131_40, e131_41, e131_43, e131_44, e131_45, e131_47, e131_49, e131_51, e131_52, e131_53, e131_54, e131_56, e131_59, e131_61, m131, ↓reduceIte, qg_0, qg_1, qg_2, qg_3, qg_4, qg_5, qg_6, qg_7, qg_8, qg_9, qg_10, qg_11, qg_12, qg_13, not_true_eq_false, not_false_eq_true, Nat.reduceBEq, Bool.false_eq_true, ex1, ex3, ex4, exF, qfit_i, qfit_l, qfit_r, qfit_n, qfit_b0, qfit_b1, qcat_i, qcat_r, qcat_n, qcat_l, qroom_0, qroom_c, List.map_cons, List.map_nil, List.sum_cons, List.sum_nil, Nat.reduceAdd, Nat.reduceMul, Nat.reduceLT, Nat.reduceLeDiff, Nat.reduceEqDiff, Nat.reduceSub, decide_true, true_and, and_true, and_self, if_true, if_false, Option.toList_some, Option.toList_none, List.cons_append, List.nil_append, qsL, qlong, List.length_cons, List.length_nil, iN_L, exI, iN_add, iN_mul, iN_le, iN_lt, iN_eq, Nat.le_refl, qfN0, qfN1, uX_16, vX_16, uX_19, vX_19, uX_27, vX_27, uX_30, vX_30, uX_39, vX_39, uX_41, vX_41, uX_43, vX_43, uX_46, vX_46, uX_50, vX_50, uX_53, vX_53, snn, sl, gf, iN_or S (2 ^ c), sh, rd, ma, iN_or b.1, sd]) (pickN (fun c => adj l c && !S.testBit c) n) (0, none) (pickN_inL n n16) (fun c hc => by
      obtain ⟨h1, h2⟩ := pickN_mem.mp hc
      rw [Bool.and_eq_true] at h2
      refine ⟨h1, ?_⟩
      cases z : S.testBit c with
      | false => rfl
      | true => rw [z] at h2; cases h2.2) trivial).2
  have f1 : ∀ (ms : List Nat) (b : Nat × Option Value), (ms.foldl (fun (b : Nat × Option Value) c => (b.1 ||| (if finB adj n (n - pop S n - 1) (S ||| 2 ^ c) c = true then 2 ^ c else 0), some (Value.int (iN (2 ^ c))))) b).1 = ms.foldl (fun g c => g ||| (if finB adj n (n - pop S n - 1) (S ||| 2 ^ c) c = true then 2 ^ c else 0)) b.1 := by
    intro ms
    induction ms with
    | nil => exact fun _ => rfl
    | cons m ms ih => exact fun b => ih _
  try dsimp only at lp
  rw [f1, or_fold n, ← mems_mask n16, stL_mems (ml _)] at lp
  have r0 : qMC (d + 1) 131 [.ref 43, .ref (sa i), .int (iN l), .int (iN S)] h R ↔ qEv d 0 qk_131 15 [some (.ref 43), some (.ref (sa i)), some (.int (iN l)), some (.int (iN S)), some (.int (iN 0)), some (.int (iN (mask (fun c => adj l c && !S.testBit c) n))), none] [] h R := by
    simp (disch := first | assumption | omega) only [e131_0, e131_1, e131_3, e131_4, e131_7, e131_8, e131_9, e131_10, e131_11, e131_12, e131_13, e131_17, e131_20, e131_22, e131_24, e131_25, e131_26, e131_28, e131_30, e131_31, e131_34, e131_35, e131_37, e131_38, e131_39, e131_40, e131_41, e131_43, e131_44, e131_45, e131_47, e131_49, e131_51, e131_52, e131_53, e131_54, e131_56, e131_59, e131_61, m131, ↓reduceIte, qg_0, qg_1, qg_2, qg_3, qg_4, qg_5, qg_6, qg_7, qg_8, qg_9, qg_10, qg_11, qg_12, qg_13, not_true_eq_false, not_false_eq_true, Nat.reduceBEq, Bool.false_eq_true, ex1, ex3, ex4, exF, qfit_i, qfit_l, qfit_r, qfit_n, qfit_b0, qfit_b1, qcat_i, qcat_r, qcat_n, qcat_l, qroom_0, qroom_c, List.map_cons, List.map_nil, List.sum_cons, List.sum_nil, Nat.reduceAdd, Nat.reduceMul, Nat.reduceLT, Nat.reduceLeDiff, Nat.reduceEqDiff, Nat.reduceSub, decide_true, true_and, and_true, and_self, if_true, if_false, Option.toList_some, Option.toList_none, List.cons_append, List.nil_append, qsL, qlong, List.length_cons, List.length_nil, iN_L, exI, iN_add, iN_mul, iN_le, iN_lt, iN_eq, Nat.le_refl, qfN0, qfN1, uX_16, vX_16, uX_19, vX_19, uX_27, vX_27, uX_30, vX_30, uX_39, vX_39, uX_41, vX_41, uX_43, vX_43, uX_46, vX_46, uX_50, vX_50, uX_53, vX_53, u16, ult, uF, g0, g1, g2, g3, g4, g5, g6, nb, iN_wo', wo_mask]
  rw [r0, lp, e131_15]
  simp (disch := first | assumption | omega) only [e131_0, e131_1, e131_3, e131_4, e131_7, e131_8, e131_9, e131_10, e131_11, e131_12, e131_13, e131_17, e131_20, e131_22, e131_24, e131_25, e131_26, e131_28, e131_30, e131_31, e131_34, e131_35, e131_37, e131_38, e131_39, e131_40, e131_41, e131_43, e131_44, e131_45, e131_47, e131_49, e131_51, e131_52, e131_53, e131_54, e131_56, e131_59, e131_61, m131, ↓reduceIte, qg_0, qg_1, qg_2, qg_3, qg_4, qg_5, qg_6, qg_7, qg_8, qg_9, qg_10, qg_11, qg_12, qg_13, not_true_eq_false, not_false_eq_true, Nat.reduceBEq, Bool.false_eq_true, ex1, ex3, ex4, exF, qfit_i, qfit_l, qfit_r, qfit_n, qfit_b0, qfit_b1, qcat_i, qcat_r, qcat_n, qcat_l, qroom_0, qroom_c, List.map_cons, List.map_nil, List.sum_cons, List.sum_nil, Nat.reduceAdd, Nat.reduceMul, Nat.reduceLT, Nat.reduceLeDiff, Nat.reduceEqDiff, Nat.reduceSub, decide_true, true_and, and_true, and_self, if_true, if_false, Option.toList_some, Option.toList_none, List.cons_append, List.nil_append, qsL, qlong, List.length_cons, List.length_nil, iN_L, exI, iN_add, iN_mul, iN_le, iN_lt, iN_eq, Nat.le_refl, qfN0, qfN1, uX_16, vX_16, uX_19, vX_19, uX_27, vX_27, uX_30, vX_30, uX_39, vX_39, uX_41, vX_41, uX_43, vX_43, uX_46, vX_46, uX_50, vX_50, uX_53, vX_53, stL_nil]
  exact Iff.rfl
/-- some can come next, if it can be ended -/
theorem gn_some {adj : Nat → Nat → Bool} {n S l : Nat} (hp : pop S n < n) : gnM adj n S l ≠ 0 ↔ finB adj n (n - pop S n) S l = true := by
  unfold gnM
  rw [show n - pop S n = (n - pop S n - 1) + 1 by omega]
  show _ ↔ anyN _ n = true
  rw [anyN_iff, show n - pop S n - 1 + 1 - 1 = n - pop S n - 1 by omega]
  constructor
  · intro z
    apply Classical.byContradiction
    intro w
    refine z (Nat.eq_of_testBit_eq fun b => ?_)
    rw [mask_bit, Nat.zero_testBit]
    by_cases hb : b < n
    · rw [decide_eq_true hb, Bool.true_and]
      cases q : (adj l b && !S.testBit b) && finB adj n (n - pop S n - 1) (S ||| 2 ^ b) b with
      | false => rfl
      | true => exact absurd ⟨b, hb, by rw [Bool.and_comm (!S.testBit b)]; exact q⟩ w
    · rw [decide_eq_false hb]; rfl
  · rintro ⟨c, hc, q⟩ z
    have : (mask (fun c => (adj l c && !S.testBit c) && finB adj n (n - pop S n - 1) (S ||| 2 ^ c) c) n).testBit c = true := by
      rw [mask_bit, decide_eq_true hc, Bool.true_and, Bool.and_comm (adj l c)]; exact q
    rw [z, Nat.zero_testBit] at this
    cases this
end XGOOD

/-! ===== THE REFERENCE: renamings ===== -/
section RENAM
variable {d : Nat} {h : qH} {n : Nat} {A B : List Nat}
/-- renamings with place k at s or more -/
def tlE (n : Nat) (A B : List Nat) (r : Nat → Nat) (k s : Nat) : Nat := sumN (fun c => if s ≤ c then rnE n A B (updR r k c) (k + 1) else 0) n
theorem tlE_n {r : Nat → Nat} {k : Nat} : tlE n A B r k n = 0 := sumN_0 fun c hc => if_neg (by omega)
theorem tlE_0 {r : Nat → Nat} {k : Nat} (hk : k < n) : tlE n A B r k 0 = rnE n A B r k := by
  rw [rnE_step hk]
  exact sumN_ext fun c _ => if_pos (Nat.zero_le _)
theorem tlE_s {r : Nat → Nat} {k s : Nat} (hs : s < n) : tlE n A B r k s = rnE n A B (updR r k s) (k + 1) + tlE n A B r k (s + 1) := by
  unfold tlE
  have e : ∀ c, c < n → (if s ≤ c then rnE n A B (updR r k c) (k + 1) else 0) = (if c = s then 1 else 0) * rnE n A B (updR r k s) (k + 1) + (if s + 1 ≤ c then rnE n A B (updR r k c) (k + 1) else 0) := by
    intro c _
    rcases Nat.lt_trichotomy c s with w | w | w
    · rw [if_neg (by omega), if_neg (by omega), if_neg (by omega)]; omega
    · rw [w, if_pos (Nat.le_refl _), if_pos rfl, if_neg (by omega)]; omega
    · rw [if_pos (by omega), if_neg (by omega), if_pos (by omega)]; omega
  rw [sumN_ext e, sumN_add]
  congr 1
  have e2 : ∀ c, c < n → (if c = s then 1 else 0) * rnE n A B (updR r k s) (k + 1) = rnE n A B (updR r k s) (k + 1) * (if c = s then 1 else 0) := fun c _ => Nat.mul_comm _ _
  rw [sumN_ext e2, sumN_mul, sumN_one hs, Nat.mul_one]
/-- what is known of the sets -/
def okAB (n : Nat) (A B : List Nat) : Prop := (∀ x, x ∈ A → ∀ c, x.testBit c = true → c < n) ∧ A.Nodup ∧ B.length = A.length
def rnO (d : Nat) (h : qH) (n : Nat) (A B : List Nat) (most : Nat) (r : Nat → Nat) (k s cnt : Nat) (g : Nat → Int32) : Prop :=
  (most ≤ cnt + tlE n A B r k s ∧ ∃ g', ∀ R, qEv d 0 qk_246 15 [some (.ref 55), some (.int (iN most)), some (.int (iN cnt)), some (.int (iN k))] [] (sI h 79 g) R ↔ R = (some (.int (iN most)), sI h 79 g')) ∨
  (cnt + tlE n A B r k s < most ∧ ∃ g', (∀ j, j < k → g' j = iN (r j)) ∧ ∀ R, qEv d 0 qk_246 15 [some (.ref 55), some (.int (iN most)), some (.int (iN cnt)), some (.int (iN k))] [] (sI h 79 g) R ↔ qEv d 0 qk_246 15 [some (.ref 55), some (.int (iN most)), some (.int (iN (cnt + tlE n A B r k s))), some (.int (kv k))] [] (sI h 79 g') R)
set_option maxRecDepth 100000 in
set_option maxHeartbeats 16000000 in
theorem rn_dfs {most : Nat} (sh : ShM h) (v : MtV h n A B) (t : Th3 h n A B) (ok : okAB n A B) (hm : most < 2147483648) : ∀ (m k : Nat), k + m = n → k < n → ∀ (w s : Nat), s + w = n → ∀ (r : Nat → Nat) (g : Nat → Int32) (cnt : Nat), (∀ j, j < k → r j < n) → (∀ i j, i < j → j < k → r i ≠ r j) → (∀ j, j < k → g j = iN (r j)) → g k = kv s → cnt < most → rnO (d + 1) h n A B most r k s cnt g := by
  have h16 := v.1.1
  have k79 := kM_79 sh
  have sG : ∀ g, ShM (sI h 79 g) := fun g => sh.rowI k79
  have cG : ∀ g, Ch [79] [] h (sI h 79 g) := fun g => Ch.rowI sh k79 (by decide)
  have vG : ∀ g, MtV (sI h 79 g) n A B := fun g => v.ch (cG g) (by decide) (by decide) (by decide) (by decide)
  have tG : ∀ g, Th3 (sI h 79 g) n A B := fun g x y z hx hy hz => by rw [hi_sI, if_neg (by decide), hi_sI, if_neg (by decide)]; exact t x y z hx hy hz
  have m25 : ∀ g, mi (sI h 79 g) 25 = iN n := fun g => by rw [mi_sI k79]; exact v.2.1
  intro m
  induction m with
  | zero => intro k hk h1; omega
  | succ m ihm =>
    intro k hkm hkn w
    induction w using Nat.strongRecOn with
    | ind w ihw =>
      intro s hsw r g cnt hr hinj hg hgk hcnt
      obtain ⟨g1, eg1⟩ : ∃ g1, g1 = upd g k (iN s) := ⟨_, rfl⟩
      have sg := sG g
      have sg1 := sG g1
      have m1 := m25 g1
      have rk : hi (sI h 79 g) 79 k = kv s := by rw [hi_sI, if_pos rfl]; exact hgk
      have rk1 : hi (sI h 79 g1) 79 k = iN s := by rw [hi_sI, if_pos rfl, eg1, upd_at, if_pos rfl]
      have wk : qiast (sI h 79 g) 79 (iN k) (iN s) = some (sI h 79 g1) := by
        rw [wM_79 sg (by omega), hi_sI, if_pos rfl, sI_sI, ← eg1]
      rcases Nat.eq_or_lt_of_le (show s ≤ n by omega) with hsn | hsn
      · -- no more here: back
        right
        rw [hsn, tlE_n, Nat.add_zero]
        refine ⟨hcnt, g1, fun j hj => by rw [eg1, upd_at, if_neg (by omega)]; exact hg j hj, fun R => ?_⟩
        rw [hsn] at rk rk1 wk
        rw [e246_15]
        simp (disch := first | assumption | omega) only [e246_0, e246_1, e246_4, e246_5, e246_6, e246_7, e246_8, e246_9, e246_12, e246_13, e246_14, e246_16, e246_19, e246_20, e246_21, e246_24, e246_25, e246_28, e246_29, e246_30, e246_31, e246_32, e246_33, e246_34, e246_35, e246_38, e246_39, e246_40, e246_41, e246_44, e246_47, e246_50, e246_53, e246_54, e246_55, e246_58, e246_61, e246_62, e246_63, e246_66, e246_67, e246_68, e246_71, e246_72, e246_73, e246_76, e246_79, e246_80, e246_83, e246_84, e246_85, e246_86, e246_89, e246_92, e246_93, e246_96, e246_97, e246_98, e246_99, e246_102, e246_103, m246, ↓reduceIte, qg_0, qg_1, qg_2, qg_3, qg_4, qg_5, qg_6, qg_7, qg_8, qg_9, qg_10, qg_11, qg_12, qg_13, not_true_eq_false, not_false_eq_true, Nat.reduceBEq, Bool.false_eq_true, ex1, ex3, ex4, exF, qfit_i, qfit_l, qfit_r, qfit_n, qfit_b0, qfit_b1, qcat_i, qcat_r, qcat_n, qcat_l, qroom_0, qroom_c, List.map_cons, List.map_nil, List.sum_cons, List.sum_nil, Nat.reduceAdd, Nat.reduceMul, Nat.reduceLT, Nat.reduceLeDiff, Nat.reduceEqDiff, Nat.reduceSub, decide_true, true_and, and_true, and_self, if_true, if_false, Option.toList_some, Option.toList_none, List.cons_append, List.nil_append, qsL, qlong, List.length_cons, List.length_nil, iN_L, vM1, vM2, iN_lt, iN_le, show ¬ k < 0 by omega, show ¬ most ≤ cnt by omega, gM_31, gM_25, rM_79, rk, kv_up, wk, rk1, m1, exI, kv_dec']
      · have es := tlE_s (A := A) (B := B) (r := r) (k := k) hsn
        have g1v : ∀ j, j < k + 1 → g1 j = iN (updR r k s j) := fun j hj => by
          rw [eg1, upd_at]
          unfold updR
          by_cases q : j = k
          · rw [if_pos q, if_pos q]
          · rw [if_neg q, if_neg q]; exact hg j (by omega)
        have hr' : ∀ j, j < k + 1 → updR r k s j < n := fun j hj => by
          unfold updR
          by_cases q : j = k
          · rw [if_pos q]; exact hsn
          · rw [if_neg q]; exact hr j (by omega)
        have ug : ∀ j, j < k → g1 j = iN (r j) := fun j hj => by rw [g1v j (by omega)]; unfold updR; rw [if_neg (by omega)]
        have ugk : g1 k = kv (s + 1) := by rw [g1v k (by omega)]; unfold updR; rw [if_pos rfl]; rfl
        have gs : ∀ R, qMC (d + 1) 244 [.ref 55, .int (iN k)] (sI h 79 g1) R ↔ R = (some (.int (bB (goB A B (updR r k s) k))), sI h 79 g1) := fun R => s_goes (d := d) sg1 (vG g1) (tG g1) hkn (fun j hj => hr' j (by omega)) (fun j hj => by rw [hi_sI, if_pos rfl]; exact g1v j (by omega)) R
        -- going on behind s
        have cont : ∀ (e : Nat) (g2 : Nat → Int32), rnE n A B (updR r k s) (k + 1) = e → cnt + e < most → (∀ j, j < k → g2 j = iN (r j)) → g2 k = iN s → (∀ R, qEv (d + 1) 0 qk_246 15 [some (.ref 55), some (.int (iN most)), some (.int (iN cnt)), some (.int (iN k))] [] (sI h 79 g) R ↔ qEv (d + 1) 0 qk_246 15 [some (.ref 55), some (.int (iN most)), some (.int (iN (cnt + e))), some (.int (iN k))] [] (sI h 79 g2) R) → rnO (d + 1) h n A B most r k s cnt g := by
          intro e g2 he hlt q1 q2 run
          rcases ihw (n - (s + 1)) (by omega) (s + 1) (by omega) r g2 (cnt + e) hr hinj q1 q2 hlt with ⟨a1, g', a2⟩ | ⟨a1, g', a2, a3⟩
          · exact Or.inl ⟨by rw [es, he]; omega, g', fun R => (run R).trans (a2 R)⟩
          · refine Or.inr ⟨by rw [es, he]; omega, g', a2, fun R => ?_⟩
            rw [run R, a3 R, es, he, Nat.add_assoc]
        cases q : goB A B (updR r k s) k with
        | false =>
          have e0 : rnE n A B (updR r k s) (k + 1) = 0 := rnE_none (goB_no ok.1 ok.2.1 ok.2.2 hkn q)
          rw [q] at gs
          refine cont 0 g1 e0 (by omega) ug ugk fun R => ?_
          rw [e246_15]
          simp (disch := first | assumption | omega) only [e246_0, e246_1, e246_4, e246_5, e246_6, e246_7, e246_8, e246_9, e246_12, e246_13, e246_14, e246_16, e246_19, e246_20, e246_21, e246_24, e246_25, e246_28, e246_29, e246_30, e246_31, e246_32, e246_33, e246_34, e246_35, e246_38, e246_39, e246_40, e246_41, e246_44, e246_47, e246_50, e246_53, e246_54, e246_55, e246_58, e246_61, e246_62, e246_63, e246_66, e246_67, e246_68, e246_71, e246_72, e246_73, e246_76, e246_79, e246_80, e246_83, e246_84, e246_85, e246_86, e246_89, e246_92, e246_93, e246_96, e246_97, e246_98, e246_99, e246_102, e246_103, m246, ↓reduceIte, qg_0, qg_1, qg_2, qg_3, qg_4, qg_5, qg_6, qg_7, qg_8, qg_9, qg_10, qg_11, qg_12, qg_13, not_true_eq_false, not_false_eq_true, Nat.reduceBEq, Bool.false_eq_true, ex1, ex3, ex4, exF, qfit_i, qfit_l, qfit_r, qfit_n, qfit_b0, qfit_b1, qcat_i, qcat_r, qcat_n, qcat_l, qroom_0, qroom_c, List.map_cons, List.map_nil, List.sum_cons, List.sum_nil, Nat.reduceAdd, Nat.reduceMul, Nat.reduceLT, Nat.reduceLeDiff, Nat.reduceEqDiff, Nat.reduceSub, decide_true, true_and, and_true, and_self, if_true, if_false, Option.toList_some, Option.toList_none, List.cons_append, List.nil_append, qsL, qlong, List.length_cons, List.length_nil, iN_L, vM1, vM2, iN_lt, iN_le, iN_eq, show ¬ k < 0 by omega, show ¬ most ≤ cnt by omega, show ¬ s = n by omega, gM_31, gM_25, rM_79, rk, kv_up, wk, rk1, m1, exI, gs, bB_f]
          exact Iff.rfl
        | true =>
          rw [q] at gs
          have hinj' : ∀ i j, i < j → j < k + 1 → updR r k s i ≠ updR r k s j := fun i j hij hj => by
            by_cases e : j = k
            · rw [e]; exact goB_inj q i (by omega)
            · unfold updR
              rw [if_neg (by omega), if_neg e]; exact hinj i j hij (by omega)
          by_cases hlast : k = n - 1
          · have ek : k + 1 = n := by omega
            have ir : ∀ R, qMC (d + 1) 245 [.ref 55] (sI h 79 g1) R ↔ R = (some (.int (bB (imB n A B (updR r k s) A.length))), sI h 79 g1) := fun R => s_isRenamed (d := d) sg1 (vG g1) (fun j hj => hr' j (by omega)) (fun j hj => by rw [hi_sI, if_pos rfl]; exact g1v j (by omega)) R
            have hE : rnE n A B (updR r k s) (k + 1) = if imB n A B (updR r k s) A.length then 1 else 0 := by
              rw [ek, rnE_n (fun j hj => hr' j (by omega))]
              have : rnB n A B (updR r k s) = imB n A B (updR r k s) A.length := by
                unfold rnB
                rw [show allN (fun j => allN (fun i => decide (updR r k s i ≠ updR r k s j)) j) n = true from allN_iff.mpr fun j hj => allN_iff.mpr fun i hi' => decide_eq_true (hinj' i j hi' (by omega)), Bool.true_and]
                rfl
              rw [this]
            cases q2 : imB n A B (updR r k s) A.length with
            | false =>
              rw [q2] at ir hE
              refine cont 0 g1 hE (by omega) ug ugk fun R => ?_
              rw [e246_15]
              simp (disch := first | assumption | omega) only [e246_0, e246_1, e246_4, e246_5, e246_6, e246_7, e246_8, e246_9, e246_12, e246_13, e246_14, e246_16, e246_19, e246_20, e246_21, e246_24, e246_25, e246_28, e246_29, e246_30, e246_31, e246_32, e246_33, e246_34, e246_35, e246_38, e246_39, e246_40, e246_41, e246_44, e246_47, e246_50, e246_53, e246_54, e246_55, e246_58, e246_61, e246_62, e246_63, e246_66, e246_67, e246_68, e246_71, e246_72, e246_73, e246_76, e246_79, e246_80, e246_83, e246_84, e246_85, e246_86, e246_89, e246_92, e246_93, e246_96, e246_97, e246_98, e246_99, e246_102, e246_103, m246, ↓reduceIte, qg_0, qg_1, qg_2, qg_3, qg_4, qg_5, qg_6, qg_7, qg_8, qg_9, qg_10, qg_11, qg_12, qg_13, not_true_eq_false, not_false_eq_true, Nat.reduceBEq, Bool.false_eq_true, ex1, ex3, ex4, exF, qfit_i, qfit_l, qfit_r, qfit_n, qfit_b0, qfit_b1, qcat_i, qcat_r, qcat_n, qcat_l, qroom_0, qroom_c, List.map_cons, List.map_nil, List.sum_cons, List.sum_nil, Nat.reduceAdd, Nat.reduceMul, Nat.reduceLT, Nat.reduceLeDiff, Nat.reduceEqDiff, Nat.reduceSub, decide_true, true_and, and_true, and_self, if_true, if_false, Option.toList_some, Option.toList_none, List.cons_append, List.nil_append, qsL, qlong, List.length_cons, List.length_nil, iN_L, vM1, vM2, iN_lt, iN_le, iN_eq, iN_sub, show ¬ k < 0 by omega, show ¬ most ≤ cnt by omega, show ¬ s = n by omega, hlast.symm, gM_31, gM_25, rM_79, rk, kv_up, wk, rk1, m1, exI, gs, bB_t, iN10, ir, bB_f, show ∀ z, iN z + iN 0 = iN z from fun z => iN_add z 0]
              exact Iff.rfl
            | true =>
              rw [q2] at ir hE
              have step : ∀ R, qEv (d + 1) 0 qk_246 15 [some (.ref 55), some (.int (iN most)), some (.int (iN cnt)), some (.int (iN k))] [] (sI h 79 g) R ↔ qEv (d + 1) 0 qk_246 15 [some (.ref 55), some (.int (iN most)), some (.int (iN (cnt + 1))), some (.int (iN k))] [] (sI h 79 g1) R := by
                intro R
                rw [e246_15]
                simp (disch := first | assumption | omega) only [e246_0, e246_1, e246_4, e246_5, e246_6, e246_7, e246_8, e246_9, e246_12, e246_13, e246_14, e246_16, e246_19, e246_20, e246_21, e246_24, e246_25, e246_28, e246_29, e246_30, e246_31, e246_32, e246_33, e246_34, e246_35, e246_38, e246_39, e246_40, e246_41, e246_44, e246_47, e246_50, e246_53, e246_54, e246_55, e246_58, e246_61, e246_62, e246_63, e246_66, e246_67, e246_68, e246_71, e246_72, e246_73, e246_76, e246_79, e246_80, e246_83, e246_84, e246_85, e246_86, e246_89, e246_92, e246_93, e246_96, e246_97, e246_98, e246_99, e246_102, e246_103, m246, ↓reduceIte, qg_0, qg_1, qg_2, qg_3, qg_4, qg_5, qg_6, qg_7, qg_8, qg_9, qg_10, qg_11, qg_12, qg_13, not_true_eq_false, not_false_eq_true, Nat.reduceBEq, Bool.false_eq_true, ex1, ex3, ex4, exF, qfit_i, qfit_l, qfit_r, qfit_n, qfit_b0, qfit_b1, qcat_i, qcat_r, qcat_n, qcat_l, qroom_0, qroom_c, List.map_cons, List.map_nil, List.sum_cons, List.sum_nil, Nat.reduceAdd, Nat.reduceMul, Nat.reduceLT, Nat.reduceLeDiff, Nat.reduceEqDiff, Nat.reduceSub, decide_true, true_and, and_true, and_self, if_true, if_false, Option.toList_some, Option.toList_none, List.cons_append, List.nil_append, qsL, qlong, List.length_cons, List.length_nil, iN_L, vM1, vM2, iN_lt, iN_le, iN_eq, iN_sub, iN_add, show ¬ k < 0 by omega, show ¬ most ≤ cnt by omega, show ¬ s = n by omega, hlast.symm, gM_31, gM_25, rM_79, rk, kv_up, wk, rk1, m1, exI, gs, bB_t, iN10, ir]
              by_cases hfull : cnt + 1 = most
              · left
                refine ⟨by rw [es, hE, if_pos rfl]; omega, g1, fun R => ?_⟩
                rw [step R, hfull, e246_15]
                simp (disch := first | assumption | omega) only [e246_0, e246_1, e246_4, e246_5, e246_6, e246_7, e246_8, e246_9, e246_12, e246_13, e246_14, e246_16, e246_19, e246_20, e246_21, e246_24, e246_25, e246_28, e246_29, e246_30, e246_31, e246_32, e246_33, e246_34, e246_35, e246_38, e246_39, e246_40, e246_41, e246_44, e246_47, e246_50, e246_53, e246_54, e246_55, e246_58, e246_61, e246_62, e246_63, e246_66, e246_67, e246_68, e246_71, e246_72, e246_73, e246_76, e246_79, e246_80, e246_83, e246_84, e246_85, e246_86, e246_89, e246_92, e246_93, e246_96, e246_97, e246_98, e246_99, e246_102, e246_103, m246, ↓reduceIte, qg_0, qg_1, qg_2, qg_3, qg_4, qg_5, qg_6, qg_7, qg_8, qg_9, qg_10, qg_11, qg_12, qg_13, not_true_eq_false, not_false_eq_true, Nat.reduceBEq, Bool.false_eq_true, ex1, ex3, ex4, exF, qfit_i, qfit_l, qfit_r, qfit_n, qfit_b0, qfit_b1, qcat_i, qcat_r, qcat_n, qcat_l, qroom_0, qroom_c, List.map_cons, List.map_nil, List.sum_cons, List.sum_nil, Nat.reduceAdd, Nat.reduceMul, Nat.reduceLT, Nat.reduceLeDiff, Nat.reduceEqDiff, Nat.reduceSub, decide_true, true_and, and_true, and_self, if_true, if_false, Option.toList_some, Option.toList_none, List.cons_append, List.nil_append, qsL, qlong, List.length_cons, List.length_nil, iN_L, vM1, vM2, iN_lt, iN_le, show ¬ k < 0 by omega, Nat.le_refl]
              · exact cont 1 g1 hE (by omega) ug ugk step
          · obtain ⟨g2, eg2⟩ : ∃ g2, g2 = upd g1 (k + 1) (-iN 1) := ⟨_, rfl⟩
            have wk2 : qiast (sI h 79 g1) 79 (iN (k + 1)) (-iN 1) = some (sI h 79 g2) := by
              rw [wM_79 sg1 (by omega), hi_sI, if_pos rfl, sI_sI, ← eg2]
            have push : ∀ R, qEv (d + 1) 0 qk_246 15 [some (.ref 55), some (.int (iN most)), some (.int (iN cnt)), some (.int (iN k))] [] (sI h 79 g) R ↔ qEv (d + 1) 0 qk_246 15 [some (.ref 55), some (.int (iN most)), some (.int (iN cnt)), some (.int (iN (k + 1)))] [] (sI h 79 g2) R := by
              intro R
              rw [e246_15]
              simp (disch := first | assumption | omega) only [e246_0, e246_1, e246_4, e246_5, e246_6, e246_7, e246_8, e246_9, e246_12, e246_13, e246_14, e246_16, e246_19, e246_20, e246_21, e246_24, e246_25, e246_28, e246_29, e246_30, e246_31, e246_32, e246_33, e246_34, e246_35, e246_38, e246_39, e246_40, e246_41, e246_44, e246_47, e246_50, e246_53, e246_54, e246_55, e246_58, e246_61, e246_62, e246_63, e246_66, e246_67, e246_68, e246_71, e246_72, e246_73, e246_76, e246_79, e246_80, e246_83, e246_84, e246_85, e246_86, e246_89, e246_92, e246_93, e246_96, e246_97, e246_98, e246_99, e246_102, e246_103, m246, ↓reduceIte, qg_0, qg_1, qg_2, qg_3, qg_4, qg_5, qg_6, qg_7, qg_8, qg_9, qg_10, qg_11, qg_12, qg_13, not_true_eq_false, not_false_eq_true, Nat.reduceBEq, Bool.false_eq_true, ex1, ex3, ex4, exF, qfit_i, qfit_l, qfit_r, qfit_n, qfit_b0, qfit_b1, qcat_i, qcat_r, qcat_n, qcat_l, qroom_0, qroom_c, List.map_cons, List.map_nil, List.sum_cons, List.sum_nil, Nat.reduceAdd, Nat.reduceMul, Nat.reduceLT, Nat.reduceLeDiff, Nat.reduceEqDiff, Nat.reduceSub, decide_true, true_and, and_true, and_self, if_true, if_false, Option.toList_some, Option.toList_none, List.cons_append, List.nil_append, qsL, qlong, List.length_cons, List.length_nil, iN_L, vM1, vM2, iN_lt, iN_le, iN_eq, iN_sub, iN_add, show ¬ k < 0 by omega, show ¬ most ≤ cnt by omega, show ¬ s = n by omega, hlast, gM_31, gM_25, rM_79, rk, kv_up, wk, rk1, m1, exI, gs, bB_t, iN10, wk2]
            have e1 := tlE_0 (A := A) (B := B) (r := updR r k s) (show k + 1 < n by omega)
            rcases ihm (k + 1) (by omega) (by omega) n 0 (by omega) (updR r k s) g2 cnt hr' hinj' (fun j hj => by rw [eg2, upd_at, if_neg (by omega)]; exact g1v j hj) (by rw [eg2, upd_at, if_pos rfl]; rfl) hcnt with ⟨a1, g', a2⟩ | ⟨a1, g', a2, a3⟩
            · rw [e1] at a1
              exact Or.inl ⟨by rw [es]; omega, g', fun R => (push R).trans (a2 R)⟩
            · rw [e1] at a1 a3
              refine cont (rnE n A B (updR r k s) (k + 1)) g' rfl a1 (fun j hj => by rw [a2 j (by omega)]; unfold updR; rw [if_neg (by omega)]) (by rw [a2 k (by omega)]; unfold updR; rw [if_pos rfl]) fun R => ?_
              rw [push R, a3 R]
              exact Iff.rfl
set_option maxRecDepth 100000 in
set_option maxHeartbeats 16000000 in
theorem s_renamings {most : Nat} (s : ShM h) (v : MtV h n A B) (ok : okAB n A B) (hn : 1 ≤ n) (hm : most < 2147483648) (h1 : 1 ≤ most) : ∃ h', (∀ R, qMC (d + 3) 246 [.ref 55, .int (iN most)] h R ↔ R = (some (.int (iN (if rnT n A B < most then rnT n A B else most))), h')) ∧ Ch [77, 78, 79] [] h h' := by
  obtain ⟨h1', r1, c1, t1⟩ := s_countThrees (d := d + 1) s v
  have s1 := c1.sh
  have v1 := v.ch c1 (by decide) (by decide) (by decide) (by decide)
  have k79 := kM_79 s1
  obtain ⟨g, eg⟩ : ∃ g, g = upd (hi h1' 79) 0 (-iN 1) := ⟨_, rfl⟩
  have r0 : ∀ R, qMC (d + 3) 246 [.ref 55, .int (iN most)] h R ↔ qEv (d + 2) 0 qk_246 15 [some (.ref 55), some (.int (iN most)), some (.int (iN 0)), some (.int (iN 0))] [] (sI h1' 79 g) R := by
    intro R
    simp (disch := first | assumption | omega) only [e246_0, e246_1, e246_4, e246_5, e246_6, e246_7, e246_8, e246_9, e246_12, e246_13, e246_14, e246_16, e246_19, e246_20, e246_21, e246_24, e246_25, e246_28, e246_29, e246_30, e246_31, e246_32, e246_33, e246_34, e246_35, e246_38, e246_39, e246_40, e246_41, e246_44, e246_47, e246_50, e246_53, e246_54, e246_55, e246_58, e246_61, e246_62, e246_63, e246_66, e246_67, e246_68, e246_71, e246_72, e246_73, e246_76, e246_79, e246_80, e246_83, e246_84, e246_85, e246_86, e246_89, e246_92, e246_93, e246_96, e246_97, e246_98, e246_99, e246_102, e246_103, m246, ↓reduceIte, qg_0, qg_1, qg_2, qg_3, qg_4, qg_5, qg_6, qg_7, qg_8, qg_9, qg_10, qg_11, qg_12, qg_13, not_true_eq_false, not_false_eq_true, Nat.reduceBEq, Bool.false_eq_true, ex1, ex3, ex4, exF, qfit_i, qfit_l, qfit_r, qfit_n, qfit_b0, qfit_b1, qcat_i, qcat_r, qcat_n, qcat_l, qroom_0, qroom_c, List.map_cons, List.map_nil, List.sum_cons, List.sum_nil, Nat.reduceAdd, Nat.reduceMul, Nat.reduceLT, Nat.reduceLeDiff, Nat.reduceEqDiff, Nat.reduceSub, decide_true, true_and, and_true, and_self, if_true, if_false, Option.toList_some, Option.toList_none, List.cons_append, List.nil_append, qsL, qlong, List.length_cons, List.length_nil, iN_L, vM1, vM2, exI, iN_add, iN_mul, iN_le, iN_lt, iN_eq, Nat.le_refl, qfN0, qfN1, r1, gM_31, wM_79, ← eg]
  have cg : ∀ g, Ch [77, 78, 79] [] h (sI h1' 79 g) := fun g => (c1.mono (by decide) (by decide)).trans (Ch.rowI s1 k79 (by decide))
  have e0 : 0 + tlE n A B (fun _ => 0) 0 0 = rnT n A B := by rw [tlE_0 (by omega), rnE_0]; omega
  rcases rn_dfs (d := d + 1) (most := most) s1 v1 t1 ok hm n 0 (by omega) (by omega) n 0 (by omega) (fun _ => 0) g 0 (fun j hj => absurd hj (Nat.not_lt_zero j)) (fun i j _ hj => absurd hj (Nat.not_lt_zero j)) (fun j hj => absurd hj (Nat.not_lt_zero j)) (by rw [eg, upd_at, if_pos rfl]; rfl) (by omega) with ⟨a1, g', a2⟩ | ⟨a1, g', -, a3⟩
  · rw [e0] at a1
    exact ⟨sI h1' 79 g', fun R => by rw [if_neg (by omega)]; exact (r0 R).trans (a2 R), cg g'⟩
  · rw [e0] at a1 a3
    have sg := (cg g').sh
    refine ⟨sI h1' 79 g', fun R => ?_, cg g'⟩
    rw [if_pos a1, r0 R, a3 R, e246_15]
    simp (disch := first | assumption | omega) only [e246_0, e246_1, e246_4, e246_5, e246_6, e246_7, e246_8, e246_9, e246_12, e246_13, e246_14, e246_16, e246_19, e246_20, e246_21, e246_24, e246_25, e246_28, e246_29, e246_30, e246_31, e246_32, e246_33, e246_34, e246_35, e246_38, e246_39, e246_40, e246_41, e246_44, e246_47, e246_50, e246_53, e246_54, e246_55, e246_58, e246_61, e246_62, e246_63, e246_66, e246_67, e246_68, e246_71, e246_72, e246_73, e246_76, e246_79, e246_80, e246_83, e246_84, e246_85, e246_86, e246_89, e246_92, e246_93, e246_96, e246_97, e246_98, e246_99, e246_102, e246_103, m246, ↓reduceIte, qg_0, qg_1, qg_2, qg_3, qg_4, qg_5, qg_6, qg_7, qg_8, qg_9, qg_10, qg_11, qg_12, qg_13, not_true_eq_false, not_false_eq_true, Nat.reduceBEq, Bool.false_eq_true, ex1, ex3, ex4, exF, qfit_i, qfit_l, qfit_r, qfit_n, qfit_b0, qfit_b1, qcat_i, qcat_r, qcat_n, qcat_l, qroom_0, qroom_c, List.map_cons, List.map_nil, List.sum_cons, List.sum_nil, Nat.reduceAdd, Nat.reduceMul, Nat.reduceLT, Nat.reduceLeDiff, Nat.reduceEqDiff, Nat.reduceSub, decide_true, true_and, and_true, and_self, if_true, if_false, Option.toList_some, Option.toList_none, List.cons_append, List.nil_append, qsL, qlong, List.length_cons, List.length_nil, iN_L, vM1, vM2, exI, iN_add, iN_mul, iN_le, iN_lt, iN_eq, Nat.le_refl, qfN0, qfN1, show kv 0 < iN 0 by decide]
end RENAM

/-! ===== THE CLASS: a body is kept ===== -/
section XKEEP
variable {d : Nat} {h : qH} {R : qRes} {bs : List bdy} {sa : Nat → Nat}
section APP
variable {b : bdy} {i : Nat}
theorem app_get (hi' : i < bs.length) : (bs ++ [b]).getD i b0 = bs.getD i b0 := by rw [getD_last (by omega), if_neg (by omega)]
theorem dmn_app (hi' : i < bs.length) : dmn (bs ++ [b]) i = dmn bs i := by unfold dmn; rw [app_get hi']
theorem scl_app (hi' : i < bs.length) : scl (bs ++ [b]) i = scl bs i := by unfold scl; rw [app_get hi']
theorem cnr_app (hi' : i < bs.length) : cnr (bs ++ [b]) i = cnr bs i := by unfold cnr; rw [app_get hi']
theorem cel_app (hi' : i < bs.length) : cel (bs ++ [b]) i = cel bs i := by funext K; unfold cel; rw [app_get hi']
theorem fct_app (hi' : i < bs.length) : fct (bs ++ [b]) i = fct bs i := by unfold fct; rw [cel_app hi', dmn_app hi']
theorem pcs_app (hi' : i < bs.length) : ∀ k x u, pcs (bs ++ [b]) i k x u = pcs bs i k x u
  | 0, x, u => rfl
  | k + 1, x, u => by
    rw [pcs, pcs, cel_app hi']
    congr 1
    exact congrArg (fun f => List.flatMap f ((cel bs i k).filter (blwB x))) (funext fun y => pcs_app hi' k y _)
theorem pcL_app (hi' : i < bs.length) : pcL (bs ++ [b]) i = pcL bs i := by unfold pcL; rw [dmn_app hi', cnr_app hi', pcs_app hi']
theorem trn_app (hi' : i < bs.length) : trnR (bs ++ [b]) i = trnR bs i := by unfold trnR trnN; rw [cnr_app hi', fct_app hi']
theorem SoX.app {a : Nat} (hi' : i < bs.length) (S : SoX h a bs i) : SoX h a (bs ++ [b]) i := by
  obtain ⟨sp, ⟨p, q, w, e, B, S', Q, SQ⟩, s1, s2, l, s3, s4⟩ := S
  refine ⟨by rw [dmn_app hi', cnr_app hi', cel_app hi']; exact sp, ⟨p, q, w, e, B, by rw [dmn_app hi', scl_app hi', cnr_app hi', cel_app hi']; exact S', Q, by rw [app_get hi', dmn_app hi', fct_app hi']; exact SQ⟩, by rw [trn_app hi']; exact s1, by rw [pcL_app hi']; exact s2, l, by rw [cel_app hi', cnr_app hi']; exact s3, s4⟩
end APP
def sR (h : qH) (g : Nat → Option Nat) : qH := (qup h.1 17 (.inl (2, 24, .inr (.inr g))), h.2)
theorem at_sR {g : Nat → Option Nat} {x : Nat} : (sR h g).1 x = if x = 17 then .inl (2, 24, .inr (.inr g)) else h.1 x := rfl
theorem kR.val {h : qH} {t a n : Nat} (k : kR h t a n) : h.1 a = .inl (t, n, .inr (.inr (hr h a))) := by
  obtain ⟨-, f, e⟩ := k; unfold hr; rw [e]
theorem wrR {a i : Nat} (k : kR h 2 17 24) (ko : kO h a 8) (hi' : i < 24) : qaast h 17 (iN i) a = some (sR h (va_up (hr h 17) i (some a))) := by
  have e1 := k.val
  have e2 := ko.val
  unfold qaast
  rw [if_pos ⟨⟨by decide, k.1.2.2⟩, ⟨ko.1.1, ko.1.2⟩⟩, e1, e2]
  show (if iN i < 0 ∨ 24 ≤ (iN i).toNatClampNeg then none else some (qup h.1 17 (.inl (2, 24, .inr (.inr (va_up (hr h 17) (iN i).toNatClampNeg (some a))))), h.2)) = _
  rw [iN_nat (by omega), if_neg (fun z => by
    rcases z with z | z
    · rw [show (0 : Int32) = iN 0 from rfl, iN_lt (by omega) (by omega)] at z; omega
    · omega)]
  rfl
theorem sR_ch {g : Nat → Option Nat} {J : List (Nat × Nat)} (s : ShX h) : ChX [17] J 0 h (sR h g) := by
  have o : ∀ x, x ≠ 17 → (sR h g).1 x = h.1 x := fun x hx => by rw [at_sR, if_neg hx]
  have l : h.2.1 ≤ (sR h g).2.1 := Nat.le_refl _
  have k17 := s.2.2.2.1
  refine ⟨⟨?_, l, Nat.le_refl _, Nat.le_refl _⟩, fun b hb _ _ => o b (fun e => hb (by rw [e]; exact List.mem_singleton.mpr rfl)), o 0 (by decide), fun a ha j _ => by rw [hf_at (o a (fun e => by rw [e] at ha; exact absurd ha (by decide)))]⟩
  obtain ⟨s1, s2, s3, s4, s5, s6, s7, s8⟩ := s
  refine ⟨fun q hq => (s1 q hq).sm l (o _ ((by decide : ∀ q ∈ XOs, q.1 ≠ 17) q hq)), fun q hq => (s2 q hq).sm l (o _ ((by decide : ∀ q ∈ XIs, q.1 ≠ 17) q hq)), fun q hq => (s3 q hq).sm l (o _ ((by decide : ∀ q ∈ XLs, q.1 ≠ 17) q hq)), ⟨k17.1, g, by rw [at_sR, if_pos rfl]⟩, fun q hq => ?_, fun q hq => ?_, ?_, s8⟩
  · rw [hf_at (o _ ((by decide : ∀ q ∈ XFs, q.1 ≠ 17) q hq))]; exact s5 q hq
  · rw [hf_at (o _ ((by decide : ∀ q ∈ XJs, q.1 ≠ 17) q hq))]; exact s6 q hq
  · rw [hf_at (o 27 (by decide))]; exact s7
set_option maxRecDepth 100000 in
set_option maxHeartbeats 16000000 in
theorem x_keep {a : Nat} {b : bdy} (s : ShX h) (X : BsX h bs sa) (hl : bs.length < 24) (ok : okP b.1 b.2.1 ∧ solid b.1 b.2.1) (S : SoX h a (bs ++ [b]) bs.length) (na : ∀ i, i < bs.length → sa i ≠ a) : ∃ h' sa', (∀ R, qMC (d + 1) 182 [.ref 16, .ref a] h R ↔ R = (some (.int (iN bs.length)), h')) ∧ ChX [17] [(16, 1)] 0 h h' ∧ BsX h' (bs ++ [b]) sa' := by
  obtain ⟨x1, x2, x3, x4⟩ := id X
  have ka : kO h a 8 := by obtain ⟨-, ⟨p, q, w, e, B, S', -⟩, -⟩ := S; exact S'.1.1
  have a97 : 97 ≤ a := by obtain ⟨-, ⟨p, q, w, e, B, S', -⟩, -⟩ := S; exact S'.1.2
  have k17 := s.2.2.2.1
  have wr := wrR k17 ka hl
  obtain ⟨h1, e1⟩ : ∃ h1, h1 = sR h (va_up (hr h 17) bs.length (some a)) := ⟨_, rfl⟩
  rw [← e1] at wr
  have c1 : ChX [17] [(16, 1)] 0 h h1 := by rw [e1]; exact sR_ch s
  have s1 := c1.sh
  have m1 : xi h1 16 1 = iN bs.length := by
    rw [← x2, e1]
    unfold xi
    rw [hf_at (h := h) (h' := sR h (va_up (hr h 17) bs.length (some a))) (by rw [at_sR, if_neg (by decide)])]
  obtain ⟨h2, e2⟩ : ∃ h2, h2 = xV h1 16 1 (.int (iN (bs.length + 1))) := ⟨_, rfl⟩
  have c2 : ChX [17] [(16, 1)] 0 h h2 := c1.trans0 (by rw [e2]; exact ChX.setI s1 (by decide) (by decide))
  have s2 := c2.sh
  have p2 : qput h1 16 10 1 (.int (iN (bs.length + 1))) = some h2 := by rw [e2]; exact pX_16_1 s1
  have m2 : xi h2 16 1 = iN (bs.length + 1) := by rw [e2, xi_xV, if_pos ⟨rfl, rfl⟩]
  have ks := kpS.of c2 (by decide)
  have o2 : ∀ x, 97 ≤ x → x < h.2.1 → h2.1 x = h.1 x := fun x hx hlx => c2.at (fun z => by rw [List.mem_singleton] at z; omega) (fun z => by have := (by decide : ∀ x ∈ XO, x < 97) _ z; omega) hlx
  have hr2 : hr h2 17 = va_up (hr h 17) bs.length (some a) := by
    rw [e2]
    unfold hr
    rw [show (xV h1 16 1 (.int (iN (bs.length + 1)))).1 17 = h1.1 17 from by show (sF h1 16 _).1 17 = _; rw [at_sF, if_neg (by decide)], e1, at_sR, if_pos rfl]
    rfl
  have l24 := lnR k17 (by decide)
  refine ⟨h2, fun i => if i < bs.length then sa i else a, fun R => ?_, c2, by rw [List.length_append]; show bs.length + 1 ≤ 24; omega, by rw [m2, List.length_append]; rfl, fun i j hij hj => ?_, fun i hi' => ?_⟩
  · have e3 : iN (bs.length + 1) - iN 1 = iN bs.length := by rw [iN_sub (by omega)]; rfl
    simp (disch := first | assumption | omega) only [e182_0, e182_1, e182_4, e182_5, e182_8, e182_9, e182_12, e182_15, e182_16, e182_17, e182_20, e182_21, e182_24, e182_25, e182_26, e182_27, e182_28, e182_31, e182_32, e182_33, e182_36, e182_37, e182_40, e182_41, e182_42, m182, ↓reduceIte, qg_0, qg_1, qg_2, qg_3, qg_4, qg_5, qg_6, qg_7, qg_8, qg_9, qg_10, qg_11, qg_12, qg_13, not_true_eq_false, not_false_eq_true, Nat.reduceBEq, Bool.false_eq_true, ex1, ex3, ex4, exF, qfit_i, qfit_l, qfit_r, qfit_n, qfit_b0, qfit_b1, qcat_i, qcat_r, qcat_n, qcat_l, qroom_0, qroom_c, List.map_cons, List.map_nil, List.sum_cons, List.sum_nil, Nat.reduceAdd, Nat.reduceMul, Nat.reduceLT, Nat.reduceLeDiff, Nat.reduceEqDiff, Nat.reduceSub, decide_true, true_and, and_true, and_self, if_true, if_false, Option.toList_some, Option.toList_none, List.cons_append, List.nil_append, qsL, qlong, List.length_cons, List.length_nil, iN_L, exI, iN_add, iN_mul, iN_le, iN_lt, iN_eq, Nat.le_refl, qfN0, qfN1, uX_16, vX_16, uX_19, vX_19, uX_27, vX_27, uX_30, vX_30, uX_39, vX_39, uX_41, vX_41, uX_43, vX_43, uX_46, vX_46, uX_50, vX_50, uX_53, vX_53, gX_16_1, gX_16_0, x2, l24, hl, wr, m1, p2, m2, e3]
  · rw [List.length_append] at hj
    have hj' : j < bs.length + 1 := hj
    show (if i < bs.length then sa i else a) ≠ (if j < bs.length then sa j else a)
    rw [if_pos (by omega)]
    by_cases z : j < bs.length
    · rw [if_pos z]; exact x3 i j hij z
    · rw [if_neg z]; exact na i (by omega)
  · rw [List.length_append] at hi'
    have hi2 : i < bs.length + 1 := hi'
    have up : ∀ i', va_up (hr h 17) bs.length (some a) i' = if i' = bs.length then some a else hr h 17 i' := fun i' => rfl
    have lift : ∀ a', SoX h a' (bs ++ [b]) i → SoX h2 a' (bs ++ [b]) i := fun a' S0 => by
      obtain ⟨sp, ⟨p, q, w, e, B, S', Q, SQ⟩, sl⟩ := S0
      exact ⟨sp, ⟨p, q, w, e, B, S'.kp ks sp, Q, SQ.kp ks⟩, sl.kp ks fun j _ => by rw [hf_at (o2 a' S'.1.2 S'.1.1.1.2)]⟩
    show (okP ((bs ++ [b]).getD i b0).1 (dmn (bs ++ [b]) i) ∧ solid ((bs ++ [b]).getD i b0).1 (dmn (bs ++ [b]) i)) ∧ hr h2 17 i = some (if i < bs.length then sa i else a) ∧ SoX h2 (if i < bs.length then sa i else a) (bs ++ [b]) i
    by_cases z : i < bs.length
    · obtain ⟨y1, y2, y3⟩ := x4 i z
      rw [if_pos z, dmn_app z, app_get z]
      exact ⟨y1, by rw [hr2, up, if_neg (by omega)]; exact y2, lift _ (y3.app z)⟩
    · have ei : i = bs.length := by omega
      subst ei
      rw [if_neg z]
      have eg : (bs ++ [b]).getD bs.length b0 = b := by rw [getD_last (by omega), if_pos rfl]
      refine ⟨by unfold dmn; rw [eg]; exact ok, by rw [hr2, up, if_pos rfl], lift _ S⟩
end XKEEP

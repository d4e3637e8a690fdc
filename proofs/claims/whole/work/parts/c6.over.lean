/-! ===== THE REFERENCE: planes of facets, places beyond them ===== -/
section OVER
variable {d : Nat} {h : qH} {bs : List bdy} {l : List pt4} {D : Nat}
/-- numbers of a plane of facet x -/
def isPl (l : List pt4) (D x : Nat) (q : Nat → Int) : Prop := ∃ p0 p1 p2 p3, inc l.length D p0 p1 p2 p3 ∧ chG (lP l) l.length D p0 p1 p2 p3 ∧ x = sqP l D (chM (lP l) l.length D p0 p1 p2 p3) l.length ∧ ∀ t, t < 5 → q t = chQ (lP l) l.length D p0 p1 p2 p3 t
theorem atz_ex (ok : okP l D) : ∃ h : qH, AtZ h l.length (lP l) := by
  refine ⟨(fun a => if a = 63 then .inl (0, 1024, .inl (fun x => iZ (lP l (x / 4) (x % 4)))) else .inl (0, 0, .inl (fun _ => 0)), 0, 0), by have := ok.2.2.1; omega, fun p k hp hk => ⟨?_, ?_⟩⟩
  · show iZ (lP l ((4 * p + k) / 4) ((4 * p + k) % 4)) = _
    rw [show (4 * p + k) / 4 = p by omega, show (4 * p + k) % 4 = k by omega]
  · unfold lP
    rw [lP_at hp]
    exact ok.1 _ (List.getElem_mem hp) k hk
theorem isPl.b {x : Nat} {q : Nat → Int} (ok : okP l D) (hp : isPl l D x q) : (∀ k, k < 4 → -47856143952 ≤ q k ∧ q k ≤ 47856143952) ∧ -191233151232192 ≤ q 4 ∧ q 4 ≤ 191233151232192 := by
  obtain ⟨p0, p1, p2, p3, i, g, -, e⟩ := hp
  obtain ⟨h, a⟩ := atz_ex ok
  obtain ⟨b1, b2⟩ := ch_plB a i
  refine ⟨fun k hk => ?_, ?_⟩
  · rw [e k (by omega), chQ_eq]
    unfold plN
    rw [if_neg (show ¬ k = 4 by omega)]
    have := b1 k hk
    split <;> omega
  · rw [e 4 (by decide), chQ_eq]
    unfold plN
    rw [if_pos rfl]
    split <;> omega
theorem BodyM.pl {i : Nat} {sc : Int32} (ok : okP l D) (b : BodyM h i l D sc) : ∃ Qv : Nat → Nat → Int, ∀ j, j < (cls l D (D - 1)).length → isPl l D ((cls l D (D - 1)).getD j 0) (Qv j) ∧ ∀ t, t < 5 → hl h 62 (520 * i + 5 * j + t) = lZ (Qv j t) := by
  have hc := b.cells ok
  have hD := ok.2.2.2.2
  obtain ⟨f, S, Q, M, T, O, h0, h1, h2, -, -, h5, h6, -, h8, -, -⟩ := b
  obtain ⟨c1, -, c3⟩ := hc (D - 1) (by omega)
  have hlen : (cls l D (D - 1)).length = f := by
    have v1 := (h5 (D - 1) (by omega)).1
    rw [c1] at v1
    have hf := h2.1
    have := (hc (D - 1) (by omega)).2.1
    have := iN_inj (by omega) (by rw [h6.1]; omega) v1
    rw [this, h6.1]
  refine ⟨fun j => Q (O j), fun j hj => ?_⟩
  rw [hlen] at hj
  obtain ⟨e1, e2, e3⟩ := h8 j hj
  have eT : (cls l D (D - 1)).getD j 0 = T (D - 1) j := by
    have v1 := ((h5 (D - 1) (by omega)).2.2 j (by rw [h6.1]; exact hj))
    have v2 := (c3 j (by rw [hlen]; exact hj))
    rw [v2.1] at v1
    exact iN_inj (by omega) (by omega) v1.1
  obtain ⟨p0, p1, p2, p3, i, g, es, eq⟩ := h1.1.1 (O j) e2
  refine ⟨⟨p0, p1, p2, p3, i, g, ?_, fun t _ => eq t⟩, e3⟩
  rw [eT, e1, sqz_sqP h1 _ (Nat.le_refl _), es]
/-- planes of all facets of body i -/
def PlV (h : qH) (bs : List bdy) (i : Nat) (Qv : Nat → Nat → Int) : Prop := ∀ j, j < (fct bs i).length → isPl (bs.getD i b0).1 (bs.getD i b0).2.1 ((fct bs i).getD j 0) (Qv j) ∧ ∀ t, t < 5 → hl h 62 (520 * i + 5 * j + t) = lZ (Qv j t)
theorem BsM.pl {i : Nat} (B : BsM h bs) (hi' : i < bs.length) : ∃ Qv, PlV h bs i Qv := (B.2.2 i hi').2.2.pl (B.2.2 i hi').1
/-- how far beyond a plane -/
def ovZ (q : Nat → Int) (D : Nat) (p : pt4) (s : Int) : Int := q 0 * p.1 + q 1 * p.2.1 - q 4 * s + (if 2 < D then q 2 * p.2.2.1 else 0) + (if 3 < D then q 3 * p.2.2.2 else 0)
/-- small numbers -/
def smN8 (p : pt4) : Prop := ∀ k, k < 4 → -8000 ≤ co p k ∧ co p k ≤ 8000
theorem ovZ_b {q : Nat → Int} {p : pt4} {s : Int} {x : Nat} (ok : okP l D) (hq : isPl l D x q) (hp : smN8 p) (hs : 0 ≤ s ∧ s ≤ 4) : lB (ovZ q D p s) := by
  obtain ⟨b1, b2⟩ := hq.b ok
  have m0 := mul_b (A := 47856143952) (B := 8000) (b1 0 (by decide)) (hp 0 (by decide))
  have m1 := mul_b (A := 47856143952) (B := 8000) (b1 1 (by decide)) (hp 1 (by decide))
  have m2 := mul_b (A := 47856143952) (B := 8000) (b1 2 (by decide)) (hp 2 (by decide))
  have m3 := mul_b (A := 47856143952) (B := 8000) (b1 3 (by decide)) (hp 3 (by decide))
  have m4 := mul_b (x := q 4) (y := s) (A := 191233151232192) (B := 4) b2 (by omega)
  unfold lB ovZ
  have e0 : co p 0 = p.1 := rfl
  have e1 : co p 1 = p.2.1 := rfl
  have e2 : co p 2 = p.2.2.1 := rfl
  have e3 : co p 3 = p.2.2.2 := rfl
  rw [e0] at m0
  rw [e1] at m1
  rw [e2] at m2
  rw [e3] at m3
  split <;> split <;> omega
set_option maxRecDepth 100000 in
set_option maxHeartbeats 16000000 in
theorem s_over {i j s : Nat} {p : pt4} {Qv : Nat → Nat → Int} (sh : ShM h) (B : BsM h bs) (hi' : i < bs.length) (v : PlV h bs i Qv) (hj : j < (fct bs i).length) (hp : ptB p) (hs : s ≤ 4) (R : qRes) : qMC (d + 1) 278 [.ref 55, .int (iN i), .int (iN j), .int (iZ p.1), .int (iZ p.2.1), .int (iZ p.2.2.1), .int (iZ p.2.2.2), .int (iN s)] h R ↔ R = (some (.long (lZ (ovZ (Qv j) (dmn bs i) p s))), h) := by
  have b24 := B.1
  obtain ⟨di, d2, d4⟩ := B.dim hi'
  have fl : (fct bs i).length ≤ 104 := by
    obtain ⟨m, S, G, b⟩ := B.G hi'
    obtain ⟨-, -, b3⟩ := B.2.2 i hi'
    obtain ⟨f, S, Q, M, T, O, h0, h1, h2, -, -, h5, h6, -⟩ := b3
    have c1 := (B.cells hi' (dmn bs i - 1) (by omega)).1
    have c2 := (B.cells hi' (dmn bs i - 1) (by omega)).2.1
    have v1 := (h5 (dmn bs i - 1) (by omega)).1
    rw [c1] at v1
    have h6' : M (dmn bs i - 1) = f := h6.1
    have := iN_inj (by omega) (by rw [h6']; have := h2.1; omega) v1
    have h21 := h2.1
    show (cel bs i (dmn bs i - 1)).length ≤ 104
    rw [this, h6']; exact h21
  obtain ⟨-, e⟩ := v j hj
  have e0 := e 0 (by decide)
  have e1 := e 1 (by decide)
  have e2 := e 2 (by decide)
  have e3 := e 3 (by decide)
  have e4 := e 4 (by decide)
  rw [Nat.add_zero] at e0
  have p0 : (iZ p.1).toInt64 = lZ p.1 := iZ_long (hp 0 (by decide))
  have p1 : (iZ p.2.1).toInt64 = lZ p.2.1 := iZ_long (hp 1 (by decide))
  have p2 : (iZ p.2.2.1).toInt64 = lZ p.2.2.1 := iZ_long (hp 2 (by decide))
  have p3 : (iZ p.2.2.2).toInt64 = lZ p.2.2.2 := iZ_long (hp 3 (by decide))
  have ps : (iN s).toInt64 = lZ (s : Int) := by rw [← iZ_nat]; exact iZ_long (by unfold iB; omega)
  unfold ovZ
  have h3 : dmn bs i = 2 ∨ dmn bs i = 3 ∨ dmn bs i = 4 := by omega
  rcases h3 with q | q | q
  · rw [q] at di ⊢
    simp (disch := first | assumption | omega) only [e278_0, e278_3, e278_4, e278_5, e278_6, e278_7, e278_8, e278_9, e278_11, e278_12, e278_15, e278_17, e278_18, e278_19, e278_20, e278_21, e278_22, e278_25, e278_27, e278_28, e278_29, e278_30, e278_32, e278_33, e278_34, e278_35, e278_36, e278_39, e278_41, e278_42, e278_43, e278_44, e278_46, e278_47, e278_48, e278_49, e278_51, e278_53, e278_54, e278_57, e278_58, e278_59, e278_60, e278_63, e278_64, e278_67, e278_69, e278_70, e278_71, e278_72, e278_74, e278_75, e278_76, e278_79, e278_80, e278_81, e278_83, e278_85, e278_86, e278_89, e278_90, e278_91, e278_92, e278_95, e278_96, e278_99, e278_101, e278_102, e278_103, e278_104, e278_106, e278_107, e278_108, e278_111, e278_112, e278_113, m278, ↓reduceIte, qg_0, qg_1, qg_2, qg_3, qg_4, qg_5, qg_6, qg_7, qg_8, qg_9, qg_10, qg_11, qg_12, qg_13, not_true_eq_false, not_false_eq_true, Nat.reduceBEq, Bool.false_eq_true, ex1, ex3, ex4, exF, qfit_i, qfit_l, qfit_r, qfit_n, qfit_b0, qfit_b1, qcat_i, qcat_r, qcat_n, qcat_l, qroom_0, qroom_c, List.map_cons, List.map_nil, List.sum_cons, List.sum_nil, Nat.reduceAdd, Nat.reduceMul, Nat.reduceLT, Nat.reduceLeDiff, Nat.reduceEqDiff, Nat.reduceSub, decide_true, true_and, and_true, and_self, if_true, if_false, Option.toList_some, Option.toList_none, List.cons_append, List.nil_append, qsL, qlong, List.length_cons, List.length_nil, iN_L, vM1, vM2, exI, iN_add, iN_mul, iN_le, iN_lt, iN_eq, Nat.le_refl, qfN0, qfN1, gM_1, gM_7, rM_56, rM_62, di, e0, e1, e4, p0, p1, ps, lZ_mul, lZ_add, lZ_sub, show (0 : Int64) = lZ 0 from rfl, Nat.reduceLT, Nat.lt_irrefl]
  · rw [q] at di ⊢
    simp (disch := first | assumption | omega) only [e278_0, e278_3, e278_4, e278_5, e278_6, e278_7, e278_8, e278_9, e278_11, e278_12, e278_15, e278_17, e278_18, e278_19, e278_20, e278_21, e278_22, e278_25, e278_27, e278_28, e278_29, e278_30, e278_32, e278_33, e278_34, e278_35, e278_36, e278_39, e278_41, e278_42, e278_43, e278_44, e278_46, e278_47, e278_48, e278_49, e278_51, e278_53, e278_54, e278_57, e278_58, e278_59, e278_60, e278_63, e278_64, e278_67, e278_69, e278_70, e278_71, e278_72, e278_74, e278_75, e278_76, e278_79, e278_80, e278_81, e278_83, e278_85, e278_86, e278_89, e278_90, e278_91, e278_92, e278_95, e278_96, e278_99, e278_101, e278_102, e278_103, e278_104, e278_106, e278_107, e278_108, e278_111, e278_112, e278_113, m278, ↓reduceIte, qg_0, qg_1, qg_2, qg_3, qg_4, qg_5, qg_6, qg_7, qg_8, qg_9, qg_10, qg_11, qg_12, qg_13, not_true_eq_false, not_false_eq_true, Nat.reduceBEq, Bool.false_eq_true, ex1, ex3, ex4, exF, qfit_i, qfit_l, qfit_r, qfit_n, qfit_b0, qfit_b1, qcat_i, qcat_r, qcat_n, qcat_l, qroom_0, qroom_c, List.map_cons, List.map_nil, List.sum_cons, List.sum_nil, Nat.reduceAdd, Nat.reduceMul, Nat.reduceLT, Nat.reduceLeDiff, Nat.reduceEqDiff, Nat.reduceSub, decide_true, true_and, and_true, and_self, if_true, if_false, Option.toList_some, Option.toList_none, List.cons_append, List.nil_append, qsL, qlong, List.length_cons, List.length_nil, iN_L, vM1, vM2, exI, iN_add, iN_mul, iN_le, iN_lt, iN_eq, Nat.le_refl, qfN0, qfN1, gM_1, gM_7, rM_56, rM_62, di, e0, e1, e2, e4, p0, p1, p2, ps, lZ_mul, lZ_add, lZ_sub, show (0 : Int64) = lZ 0 from rfl, Nat.reduceLT, Nat.lt_irrefl]
  · rw [q] at di ⊢
    simp (disch := first | assumption | omega) only [e278_0, e278_3, e278_4, e278_5, e278_6, e278_7, e278_8, e278_9, e278_11, e278_12, e278_15, e278_17, e278_18, e278_19, e278_20, e278_21, e278_22, e278_25, e278_27, e278_28, e278_29, e278_30, e278_32, e278_33, e278_34, e278_35, e278_36, e278_39, e278_41, e278_42, e278_43, e278_44, e278_46, e278_47, e278_48, e278_49, e278_51, e278_53, e278_54, e278_57, e278_58, e278_59, e278_60, e278_63, e278_64, e278_67, e278_69, e278_70, e278_71, e278_72, e278_74, e278_75, e278_76, e278_79, e278_80, e278_81, e278_83, e278_85, e278_86, e278_89, e278_90, e278_91, e278_92, e278_95, e278_96, e278_99, e278_101, e278_102, e278_103, e278_104, e278_106, e278_107, e278_108, e278_111, e278_112, e278_113, m278, ↓reduceIte, qg_0, qg_1, qg_2, qg_3, qg_4, qg_5, qg_6, qg_7, qg_8, qg_9, qg_10, qg_11, qg_12, qg_13, not_true_eq_false, not_false_eq_true, Nat.reduceBEq, Bool.false_eq_true, ex1, ex3, ex4, exF, qfit_i, qfit_l, qfit_r, qfit_n, qfit_b0, qfit_b1, qcat_i, qcat_r, qcat_n, qcat_l, qroom_0, qroom_c, List.map_cons, List.map_nil, List.sum_cons, List.sum_nil, Nat.reduceAdd, Nat.reduceMul, Nat.reduceLT, Nat.reduceLeDiff, Nat.reduceEqDiff, Nat.reduceSub, decide_true, true_and, and_true, and_self, if_true, if_false, Option.toList_some, Option.toList_none, List.cons_append, List.nil_append, qsL, qlong, List.length_cons, List.length_nil, iN_L, vM1, vM2, exI, iN_add, iN_mul, iN_le, iN_lt, iN_eq, Nat.le_refl, qfN0, qfN1, gM_1, gM_7, rM_56, rM_62, di, e0, e1, e2, e3, e4, p0, p1, p2, p3, ps, lZ_mul, lZ_add, lZ_sub, show (0 : Int64) = lZ 0 from rfl, Nat.reduceLT, Nat.lt_irrefl]
/-- a place with a 1 behind -/
def pX (p : pt4) (D : Nat) : Nat → Int := fun k => if k = D then 1 else co p k
theorem ov_dt {q : Nat → Int} {p : pt4} (hD : 2 ≤ D ∧ D ≤ 4) : ovZ q D p 1 = dt (D + 1) (oF D q) (pX p D) := by
  have h3 : D = 2 ∨ D = 3 ∨ D = 4 := by omega
  unfold ovZ
  rcases h3 with rfl | rfl | rfl
  · simp [dt, sumZ, oF, pF, pX, co]; omega
  · simp [dt, sumZ, oF, pF, pX, co]; omega
  · simp [dt, sumZ, oF, pF, pX, co]; omega
end OVER

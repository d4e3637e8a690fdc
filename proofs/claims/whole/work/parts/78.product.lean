/-! ===== THE REFERENCE: product ===== -/
section PRODUCT
variable {d : Nat} {h : qH} {bs : List bdy}
/-- corner a of the one with each of the other -/
def rowP (p : pt4) (cs : List pt4) : List pt4 := cs.map fun q => (p.1, p.2.1, q.1, q.2.1)
/-- the points of the product -/
def prdL (as cs : List pt4) : List pt4 := as.flatMap fun p => rowP p cs
theorem tellAll_app (D : Nat) (l xs ys : List pt4) : tellAll D l (xs ++ ys) = tellAll D (tellAll D l xs) ys := by unfold tellAll; rw [List.foldl_append]
theorem rowP_len (p : pt4) (cs : List pt4) : (rowP p cs).length = cs.length := List.length_map ..
theorem rowP_get {p : pt4} {cs : List pt4} {k : Nat} (hk : k < cs.length) : (rowP p cs).getD k z4 = (p.1, p.2.1, lP cs k 0, lP cs k 1) := by
  unfold rowP
  rw [List.getD_eq_getElem?_getD, List.getElem?_map, List.getElem?_eq_getElem hk]
  unfold lP
  rw [lP_at hk]; rfl
theorem prdL_take {as cs : List pt4} {k : Nat} (hk : k < as.length) : prdL (as.take (k + 1)) cs = prdL (as.take k) cs ++ rowP (as.getD k z4) cs := by
  unfold prdL
  rw [List.take_succ, List.getElem?_eq_getElem hk, List.flatMap_append, lP_at hk]
  simp
theorem prdL_len (as cs : List pt4) : (prdL as cs).length = as.length * cs.length := by
  induction as with
  | nil => simp [prdL]
  | cons a as ih =>
    have : prdL (a :: as) cs = rowP a cs ++ prdL as cs := rfl
    rw [this, List.length_append, rowP_len, ih, List.length_cons, Nat.add_mul, Nat.one_mul, Nat.add_comm]
noncomputable def prdP (bs : List bdy) (i j : Nat) : List pt4 := tellAll 4 [] (prdL (cnr bs i) (cnr bs j))
def prdR (bs : List bdy) (x y v : Int32) (bs' : List bdy) : Prop :=
  (¬ ((∃ i, i < bs.length ∧ x = iN i) ∧ ∃ j, j < bs.length ∧ y = iN j) ∧ v = -1001 ∧ bs' = bs) ∨ ∃ i j, (i < bs.length ∧ x = iN i) ∧ (j < bs.length ∧ y = iN j) ∧ ((¬ (dmn bs i = 2 ∧ dmn bs j = 2) ∧ v = -1002 ∧ bs' = bs) ∨ ((dmn bs i = 2 ∧ dmn bs j = 2) ∧ newB bs (prdP bs i j) 4 1 v bs'))
set_option maxRecDepth 100000 in
set_option maxHeartbeats 16000000 in
theorem pd_row {i j a : Nat} {h1 : qH} {l : List pt4} {x4 : Option Value} (B : BsM h bs) (hi' : i < bs.length) (hj : j < bs.length) (ha : a < (cnr bs i).length) (c : Ch [63] [8, 9] h h1) (d1 : mi h1 8 = iN 4) (v1 : PtV h1 l) (hl' : l.length + (cnr bs j).length ≤ 256) : ∃ h2, (∀ R, qEv (d + 7) 0 qk_228 51 [some (.ref 55), some (.int (iN i)), some (.int (iN j)), some (.int (iN a)), x4] [] h1 R ↔ qEv (d + 7) 0 qk_228 51 [some (.ref 55), some (.int (iN i)), some (.int (iN j)), some (.int (iN (a + 1))), some (.int (iN (cnr bs j).length))] [] h2 R) ∧ Ch [63] [8, 9] h h2 ∧ mi h2 8 = iN 4 ∧ PtV h2 (tellAll 4 l (rowP ((cnr bs i).getD a z4) (cnr bs j))) := by
  have b24 := B.1
  have cl := (B.corn hj).2.1
  have cli := (B.corn hi').2.1
  have s0 := c.sh
  have B0 : BsM h1 bs := B.ch c (by decide) (by decide)
  have r0 : ∀ R, qEv (d + 7) 0 qk_228 51 [some (.ref 55), some (.int (iN i)), some (.int (iN j)), some (.int (iN a)), x4] [] h1 R ↔ qEv (d + 7) 0 qk_228 64 [some (.ref 55), some (.int (iN i)), some (.int (iN j)), some (.int (iN a)), some (.int (iN 0))] [] h1 R := by
    intro R
    rw [e228_51]
    simp (disch := first | assumption | omega) only [e228_0, e228_1, e228_2, e228_5, e228_8, e228_9, e228_10, e228_13, e228_16, e228_19, e228_20, e228_21, e228_24, e228_25, e228_26, e228_27, e228_30, e228_31, e228_34, e228_35, e228_36, e228_37, e228_40, e228_43, e228_44, e228_45, e228_46, e228_49, e228_50, e228_52, e228_53, e228_56, e228_57, e228_58, e228_61, e228_62, e228_66, e228_67, e228_70, e228_71, e228_72, e228_75, e228_76, e228_77, e228_78, e228_79, e228_80, e228_83, e228_84, e228_85, e228_86, e228_87, e228_90, e228_91, e228_92, e228_94, e228_95, e228_98, e228_99, e228_100, e228_102, e228_103, e228_106, e228_109, e228_112, e228_115, e228_118, e228_121, e228_122, e228_125, m228, ↓reduceIte, qg_0, qg_1, qg_2, qg_3, qg_4, qg_5, qg_6, qg_7, qg_8, qg_9, qg_10, qg_11, qg_12, qg_13, not_true_eq_false, not_false_eq_true, Nat.reduceBEq, Bool.false_eq_true, ex1, ex3, ex4, exF, qfit_i, qfit_l, qfit_r, qfit_n, qfit_b0, qfit_b1, qcat_i, qcat_r, qcat_n, qcat_l, qroom_0, qroom_c, List.map_cons, List.map_nil, List.sum_cons, List.sum_nil, Nat.reduceAdd, Nat.reduceMul, Nat.reduceLT, Nat.reduceLeDiff, Nat.reduceEqDiff, Nat.reduceSub, decide_true, true_and, and_true, and_self, if_true, if_false, Option.toList_some, Option.toList_none, List.cons_append, List.nil_append, qsL, qlong, List.length_cons, List.length_nil, iN_L, gM_2, rM_57, (B0.corn hi').1, iN_le, show ¬ (cnr bs i).length ≤ a by omega]
  have rl := rowP_len ((cnr bs i).getD a z4) (cnr bs j)
  obtain ⟨L2, h2, ⟨rfl, c2', d2, v2⟩, r1⟩ := loop_inv (d := d + 7) (rt := 0) (K := qk_228) (pc := 64) (P := tlP h 4 l (rowP ((cnr bs i).getD a z4) (cnr bs j)) (fun k => [some (.ref 55), some (.int (iN i)), some (.int (iN j)), some (.int (iN a)), some (.int (iN k))])) (n := (cnr bs j).length) (fun k L h1 hk hP => by
    obtain ⟨rfl, c, d1, v1⟩ := hP
    have s1 := c.sh
    have B1 : BsM h1 bs := B.ch c (by decide) (by decide)
    have cv := B1.corn hj
    have cu := B1.corn hi'
    have hlt : (tellAll 4 l ((rowP ((cnr bs i).getD a z4) (cnr bs j)).take k)).length < 256 := by
      have := tellAll_len 4 ((rowP ((cnr bs i).getD a z4) (cnr bs j)).take k) l
      rw [List.length_take] at this
      omega
    have hq : ptB ((rowP ((cnr bs i).getD a z4) (cnr bs j)).getD k z4) := by
      rw [rowP_get hk]
      intro t ht
      have p := cu.ptB ha
      have q := cv.ptB hk
      match t, ht with
      | 0, _ => exact p 0 (by decide)
      | 1, _ => exact p 1 (by decide)
      | 2, _ => exact q 0 (by decide)
      | 3, _ => exact q 1 (by decide)
    obtain ⟨h3, r3, c3', v3⟩ := s_tell (d := d + 5) s1 d1 (by omega) v1 hlt hq
    refine ⟨_, h3, ⟨rfl, c.trans (c3'.mono (by decide) (by decide)), (c3'.mi (by decide)).trans d1, by rw [tellAll_take (by rw [rl]; exact hk)]; exact v3⟩, fun R => ?_⟩
    rw [e228_64]
    rw [rowP_get hk] at r3
    have r3' : ∀ R, qMC (d + 7) 201 [.ref 55, .int (iZ (lP (cnr bs i) a 0)), .int (iZ (lP (cnr bs i) a 1)), .int (iZ (lP (cnr bs j) k 0)), .int (iZ (lP (cnr bs j) k 1))] h1 R ↔ R = (none, h3) := r3
    simp (disch := first | assumption | omega) only [e228_0, e228_1, e228_2, e228_5, e228_8, e228_9, e228_10, e228_13, e228_16, e228_19, e228_20, e228_21, e228_24, e228_25, e228_26, e228_27, e228_30, e228_31, e228_34, e228_35, e228_36, e228_37, e228_40, e228_43, e228_44, e228_45, e228_46, e228_49, e228_50, e228_52, e228_53, e228_56, e228_57, e228_58, e228_61, e228_62, e228_66, e228_67, e228_70, e228_71, e228_72, e228_75, e228_76, e228_77, e228_78, e228_79, e228_80, e228_83, e228_84, e228_85, e228_86, e228_87, e228_90, e228_91, e228_92, e228_94, e228_95, e228_98, e228_99, e228_100, e228_102, e228_103, e228_106, e228_109, e228_112, e228_115, e228_118, e228_121, e228_122, e228_125, m228, ↓reduceIte, qg_0, qg_1, qg_2, qg_3, qg_4, qg_5, qg_6, qg_7, qg_8, qg_9, qg_10, qg_11, qg_12, qg_13, not_true_eq_false, not_false_eq_true, Nat.reduceBEq, Bool.false_eq_true, ex1, ex3, ex4, exF, qfit_i, qfit_l, qfit_r, qfit_n, qfit_b0, qfit_b1, qcat_i, qcat_r, qcat_n, qcat_l, qroom_0, qroom_c, List.map_cons, List.map_nil, List.sum_cons, List.sum_nil, Nat.reduceAdd, Nat.reduceMul, Nat.reduceLT, Nat.reduceLeDiff, Nat.reduceEqDiff, Nat.reduceSub, decide_true, true_and, and_true, and_self, if_true, if_false, Option.toList_some, Option.toList_none, List.cons_append, List.nil_append, qsL, qlong, List.length_cons, List.length_nil, iN_L, gM_2, rM_57, cv.1, iN_le, show ¬ (cnr bs j).length ≤ k by omega, vM1, vM2, s_x s1, cv.at hk (show 0 < 4 by omega), cv.at hk (show 1 < 4 by omega), cu.at ha (show 0 < 4 by omega), cu.at ha (show 1 < 4 by omega), r3', exI, iN_add]) (L := [some (.ref 55), some (.int (iN i)), some (.int (iN j)), some (.int (iN a)), some (.int (iN 0))]) (h := h1) ⟨rfl, c, d1, v1⟩
  rw [show (rowP ((cnr bs i).getD a z4) (cnr bs j)).take (cnr bs j).length = rowP ((cnr bs i).getD a z4) (cnr bs j) by rw [← rl]; exact List.take_length] at v2
  have s2 := c2'.sh
  have B2 : BsM h2 bs := B.ch c2' (by decide) (by decide)
  refine ⟨h2, fun R => ?_, c2', d2, v2⟩
  rw [r0 R, r1 R, e228_64]
  simp (disch := first | assumption | omega) only [e228_0, e228_1, e228_2, e228_5, e228_8, e228_9, e228_10, e228_13, e228_16, e228_19, e228_20, e228_21, e228_24, e228_25, e228_26, e228_27, e228_30, e228_31, e228_34, e228_35, e228_36, e228_37, e228_40, e228_43, e228_44, e228_45, e228_46, e228_49, e228_50, e228_52, e228_53, e228_56, e228_57, e228_58, e228_61, e228_62, e228_66, e228_67, e228_70, e228_71, e228_72, e228_75, e228_76, e228_77, e228_78, e228_79, e228_80, e228_83, e228_84, e228_85, e228_86, e228_87, e228_90, e228_91, e228_92, e228_94, e228_95, e228_98, e228_99, e228_100, e228_102, e228_103, e228_106, e228_109, e228_112, e228_115, e228_118, e228_121, e228_122, e228_125, m228, ↓reduceIte, qg_0, qg_1, qg_2, qg_3, qg_4, qg_5, qg_6, qg_7, qg_8, qg_9, qg_10, qg_11, qg_12, qg_13, not_true_eq_false, not_false_eq_true, Nat.reduceBEq, Bool.false_eq_true, ex1, ex3, ex4, exF, qfit_i, qfit_l, qfit_r, qfit_n, qfit_b0, qfit_b1, qcat_i, qcat_r, qcat_n, qcat_l, qroom_0, qroom_c, List.map_cons, List.map_nil, List.sum_cons, List.sum_nil, Nat.reduceAdd, Nat.reduceMul, Nat.reduceLT, Nat.reduceLeDiff, Nat.reduceEqDiff, Nat.reduceSub, decide_true, true_and, and_true, and_self, if_true, if_false, Option.toList_some, Option.toList_none, List.cons_append, List.nil_append, qsL, qlong, List.length_cons, List.length_nil, iN_L, gM_2, rM_57, (B2.corn hj).1, iN_le, Nat.le_refl, exI, iN_add]
def pdP (h : qH) (bs : List bdy) (i j : Nat) : Nat → qL → qH → Prop := fun a L h' => ∃ x4, L = [some (.ref 55), some (.int (iN i)), some (.int (iN j)), some (.int (iN a)), x4] ∧ Ch [63] [8, 9] h h' ∧ mi h' 8 = iN 4 ∧ PtV h' (tellAll 4 [] (prdL ((cnr bs i).take a) (cnr bs j)))
set_option maxRecDepth 100000 in
set_option maxHeartbeats 16000000 in
theorem s_product (gg : geo) (s : ShM h) (B : BsM h bs) (x y : Int32) : ∃ v h' bs', (∀ R, qMC (d + 8) 228 [.ref 55, .int x, .int y] h R ↔ R = (some (.int v), h')) ∧ Ch ([56, 57, 58, 59, 60, 61, 62] ++ scrA) [0, 8, 9, 11] h h' ∧ BsM h' bs' ∧ prdR bs x y v bs' := by
  by_cases hx : ∃ i, i < bs.length ∧ x = iN i
  · by_cases hy : ∃ j, j < bs.length ∧ y = iN j
    · obtain ⟨i, hi', rfl⟩ := id hx
      obtain ⟨j, hj, rfl⟩ := id hy
      have b24 := B.1
      obtain ⟨di, di2, di4⟩ := B.dim hi'
      obtain ⟨dj, dj2, dj4⟩ := B.dim hj
      by_cases he : dmn bs i = 2 ∧ dmn bs j = 2
      · obtain ⟨h1, eh1⟩ : ∃ h1, h1 = mI (mI h 8 4) 9 0 := ⟨_, rfl⟩
        have c1 : Ch [63] [8, 9] h h1 := by rw [eh1]; exact (Ch.setI s (by decide) (by decide)).trans (Ch.setI (s.setI (by decide)) (by decide) (by decide))
        have d1 : mi h1 8 = iN 4 := by rw [eh1, mi_mI, if_neg (by decide), mi_mI, if_pos rfl]; rfl
        have v1 : PtV h1 [] := ⟨by rw [eh1, mi_mI, if_pos rfl]; rfl, fun p hp => absurd hp (Nat.not_lt_zero p)⟩
        have ci := (B.corn hi').2.1
        have cj := (B.corn hj).2.1
        have e0 : ([] : List pt4).length = 0 := rfl
        have bnd : ∀ a, a < (cnr bs i).length → (tellAll 4 [] (prdL ((cnr bs i).take a) (cnr bs j))).length ≤ 240 := by
          intro a ha
          have h5 := tellAll_len 4 (prdL ((cnr bs i).take a) (cnr bs j)) []
          rw [prdL_len, List.length_take] at h5
          have h6 : min a (cnr bs i).length * (cnr bs j).length ≤ 15 * 16 := Nat.mul_le_mul (by omega) cj
          omega
        obtain ⟨L2, h2, ⟨x4, rfl, c2', d2, v2⟩, r2⟩ := loop_inv (d := d + 7) (rt := 0) (K := qk_228) (pc := 51) (P := pdP h bs i j) (n := (cnr bs i).length) (fun a L h1 ha hP => by
          obtain ⟨x4, rfl, c, d1, v1⟩ := hP
          obtain ⟨h3, r3, c3', d3, v3⟩ := pd_row (d := d) (x4 := x4) B hi' hj ha c d1 v1 (by have := bnd a ha; omega)
          refine ⟨_, h3, ⟨some (.int (iN (cnr bs j).length)), rfl, c3', d3, ?_⟩, r3⟩
          rw [prdL_take ha, tellAll_app]; exact v3) (L := [some (.ref 55), some (.int (iN i)), some (.int (iN j)), some (.int (iN 0)), none]) (h := h1) ⟨none, rfl, c1, d1, v1⟩
        rw [List.take_length] at v2
        have s2 := c2'.sh
        have B2 : BsM h2 bs := B.ch c2' (by decide) (by decide)
        have l2 := tellAll_len 4 (prdL (cnr bs i) (cnr bs j)) []
        rw [prdL_len] at l2
        have l3 : (cnr bs i).length * (cnr bs j).length ≤ 16 * 16 := Nat.mul_le_mul ci cj
        have o1 := okT0 4 (prdL (cnr bs i) (cnr bs j)) [] (okNil _)
        obtain ⟨v', h4, bs', r4, c4', nb, B4⟩ := s_makeOne (d := d) gg s2 B2 v2 (by omega) o1.1 o1.2 (by decide) d2
        refine ⟨v', h4, bs', fun R => ?_, (c2'.mono (by decide) (by decide)).trans (c4'.mono (by decide) (by decide)), B4, Or.inr ⟨i, j, ⟨hi', rfl⟩, ⟨hj, rfl⟩, Or.inr ⟨he, nb⟩⟩⟩
        have A : qMC (d + 8) 228 [.ref 55, .int (iN i), .int (iN j)] h R ↔ qEv (d + 7) 0 qk_228 51 [some (.ref 55), some (.int (iN i)), some (.int (iN j)), some (.int (iN 0)), none] [] h1 R := by
          have di' : hi h 56 i = 2 := by rw [di, he.1]; rfl
          have dj' : hi h 56 j = 2 := by rw [dj, he.2]; rfl
          simp (disch := first | assumption | omega) only [e228_0, e228_1, e228_2, e228_5, e228_8, e228_9, e228_10, e228_13, e228_16, e228_19, e228_20, e228_21, e228_24, e228_25, e228_26, e228_27, e228_30, e228_31, e228_34, e228_35, e228_36, e228_37, e228_40, e228_43, e228_44, e228_45, e228_46, e228_49, e228_50, e228_52, e228_53, e228_56, e228_57, e228_58, e228_61, e228_62, e228_64, e228_66, e228_67, e228_70, e228_71, e228_72, e228_75, e228_76, e228_77, e228_78, e228_79, e228_80, e228_83, e228_84, e228_85, e228_86, e228_87, e228_90, e228_91, e228_92, e228_94, e228_95, e228_98, e228_99, e228_100, e228_102, e228_103, e228_106, e228_109, e228_112, e228_115, e228_118, e228_121, e228_122, e228_125, m228, ↓reduceIte, qg_0, qg_1, qg_2, qg_3, qg_4, qg_5, qg_6, qg_7, qg_8, qg_9, qg_10, qg_11, qg_12, qg_13, not_true_eq_false, not_false_eq_true, Nat.reduceBEq, Bool.false_eq_true, ex1, ex3, ex4, exF, qfit_i, qfit_l, qfit_r, qfit_n, qfit_b0, qfit_b1, qcat_i, qcat_r, qcat_n, qcat_l, qroom_0, qroom_c, List.map_cons, List.map_nil, List.sum_cons, List.sum_nil, Nat.reduceAdd, Nat.reduceMul, Nat.reduceLT, Nat.reduceLeDiff, Nat.reduceEqDiff, Nat.reduceSub, decide_true, true_and, and_true, and_self, if_true, if_false, Option.toList_some, Option.toList_none, List.cons_append, List.nil_append, qsL, qlong, List.length_cons, List.length_nil, vM1, vM2, s_isBody1 (d := d + 5) s B hx, s_isBody1 (d := d + 5) s B hy, show ¬ (1 : Int32) = 0 by decide, gM_1, rM_56, di', dj', s_begin (d := d + 6) s, ← eh1]
          exact Iff.rfl
        rw [A, r2 R, e228_51]
        have r4' : ∀ R, qMC (d + 7) 224 [.ref 55] h2 R ↔ R = (some (.int v'), h4) := r4
        simp (disch := first | assumption | omega) only [e228_0, e228_1, e228_2, e228_5, e228_8, e228_9, e228_10, e228_13, e228_16, e228_19, e228_20, e228_21, e228_24, e228_25, e228_26, e228_27, e228_30, e228_31, e228_34, e228_35, e228_36, e228_37, e228_40, e228_43, e228_44, e228_45, e228_46, e228_49, e228_50, e228_52, e228_53, e228_56, e228_57, e228_58, e228_61, e228_62, e228_64, e228_66, e228_67, e228_70, e228_71, e228_72, e228_75, e228_76, e228_77, e228_78, e228_79, e228_80, e228_83, e228_84, e228_85, e228_86, e228_87, e228_90, e228_91, e228_92, e228_94, e228_95, e228_98, e228_99, e228_100, e228_102, e228_103, e228_106, e228_109, e228_112, e228_115, e228_118, e228_121, e228_122, e228_125, m228, ↓reduceIte, qg_0, qg_1, qg_2, qg_3, qg_4, qg_5, qg_6, qg_7, qg_8, qg_9, qg_10, qg_11, qg_12, qg_13, not_true_eq_false, not_false_eq_true, Nat.reduceBEq, Bool.false_eq_true, ex1, ex3, ex4, exF, qfit_i, qfit_l, qfit_r, qfit_n, qfit_b0, qfit_b1, qcat_i, qcat_r, qcat_n, qcat_l, qroom_0, qroom_c, List.map_cons, List.map_nil, List.sum_cons, List.sum_nil, Nat.reduceAdd, Nat.reduceMul, Nat.reduceLT, Nat.reduceLeDiff, Nat.reduceEqDiff, Nat.reduceSub, decide_true, true_and, and_true, and_self, if_true, if_false, Option.toList_some, Option.toList_none, List.cons_append, List.nil_append, qsL, qlong, List.length_cons, List.length_nil, gM_2, rM_57, (B2.corn hi').1, iN_le, Nat.le_refl, vM1, vM2, r4']
      · refine ⟨-1002, h, bs, fun R => ?_, Ch.refl s, B, Or.inr ⟨i, j, ⟨hi', rfl⟩, ⟨hj, rfl⟩, Or.inl ⟨he, rfl, rfl⟩⟩⟩
        by_cases h2 : dmn bs i = 2
        · have h3 : ¬ dmn bs j = 2 := fun z => he ⟨h2, z⟩
          simp (disch := first | assumption | omega) only [e228_0, e228_1, e228_2, e228_5, e228_8, e228_9, e228_10, e228_13, e228_16, e228_19, e228_20, e228_21, e228_24, e228_25, e228_26, e228_27, e228_30, e228_31, e228_34, e228_35, e228_36, e228_37, e228_40, e228_43, e228_44, e228_45, e228_46, e228_49, e228_50, e228_52, e228_53, e228_56, e228_57, e228_58, e228_61, e228_62, e228_64, e228_66, e228_67, e228_70, e228_71, e228_72, e228_75, e228_76, e228_77, e228_78, e228_79, e228_80, e228_83, e228_84, e228_85, e228_86, e228_87, e228_90, e228_91, e228_92, e228_94, e228_95, e228_98, e228_99, e228_100, e228_102, e228_103, e228_106, e228_109, e228_112, e228_115, e228_118, e228_121, e228_122, e228_125, m228, ↓reduceIte, qg_0, qg_1, qg_2, qg_3, qg_4, qg_5, qg_6, qg_7, qg_8, qg_9, qg_10, qg_11, qg_12, qg_13, not_true_eq_false, not_false_eq_true, Nat.reduceBEq, Bool.false_eq_true, ex1, ex3, ex4, exF, qfit_i, qfit_l, qfit_r, qfit_n, qfit_b0, qfit_b1, qcat_i, qcat_r, qcat_n, qcat_l, qroom_0, qroom_c, List.map_cons, List.map_nil, List.sum_cons, List.sum_nil, Nat.reduceAdd, Nat.reduceMul, Nat.reduceLT, Nat.reduceLeDiff, Nat.reduceEqDiff, Nat.reduceSub, decide_true, true_and, and_true, and_self, if_true, if_false, Option.toList_some, Option.toList_none, List.cons_append, List.nil_append, qsL, qlong, List.length_cons, List.length_nil, iN_L, vM1, vM2, s_isBody1 (d := d + 5) s B hx, s_isBody1 (d := d + 5) s B hy, iN_eq, Nat.one_ne_zero, gM_1, rM_56, di, dj, h2, h3]
        · simp (disch := first | assumption | omega) only [e228_0, e228_1, e228_2, e228_5, e228_8, e228_9, e228_10, e228_13, e228_16, e228_19, e228_20, e228_21, e228_24, e228_25, e228_26, e228_27, e228_30, e228_31, e228_34, e228_35, e228_36, e228_37, e228_40, e228_43, e228_44, e228_45, e228_46, e228_49, e228_50, e228_52, e228_53, e228_56, e228_57, e228_58, e228_61, e228_62, e228_64, e228_66, e228_67, e228_70, e228_71, e228_72, e228_75, e228_76, e228_77, e228_78, e228_79, e228_80, e228_83, e228_84, e228_85, e228_86, e228_87, e228_90, e228_91, e228_92, e228_94, e228_95, e228_98, e228_99, e228_100, e228_102, e228_103, e228_106, e228_109, e228_112, e228_115, e228_118, e228_121, e228_122, e228_125, m228, ↓reduceIte, qg_0, qg_1, qg_2, qg_3, qg_4, qg_5, qg_6, qg_7, qg_8, qg_9, qg_10, qg_11, qg_12, qg_13, not_true_eq_false, not_false_eq_true, Nat.reduceBEq, Bool.false_eq_true, ex1, ex3, ex4, exF, qfit_i, qfit_l, qfit_r, qfit_n, qfit_b0, qfit_b1, qcat_i, qcat_r, qcat_n, qcat_l, qroom_0, qroom_c, List.map_cons, List.map_nil, List.sum_cons, List.sum_nil, Nat.reduceAdd, Nat.reduceMul, Nat.reduceLT, Nat.reduceLeDiff, Nat.reduceEqDiff, Nat.reduceSub, decide_true, true_and, and_true, and_self, if_true, if_false, Option.toList_some, Option.toList_none, List.cons_append, List.nil_append, qsL, qlong, List.length_cons, List.length_nil, iN_L, vM1, vM2, s_isBody1 (d := d + 5) s B hx, s_isBody1 (d := d + 5) s B hy, iN_eq, Nat.one_ne_zero, gM_1, rM_56, di, dj, h2]
    · refine ⟨-1001, h, bs, fun R => ?_, Ch.refl s, B, Or.inl ⟨fun z => hy z.2, rfl, rfl⟩⟩
      simp (disch := first | assumption | omega) only [e228_0, e228_1, e228_2, e228_5, e228_8, e228_9, e228_10, e228_13, e228_16, e228_19, e228_20, e228_21, e228_24, e228_25, e228_26, e228_27, e228_30, e228_31, e228_34, e228_35, e228_36, e228_37, e228_40, e228_43, e228_44, e228_45, e228_46, e228_49, e228_50, e228_52, e228_53, e228_56, e228_57, e228_58, e228_61, e228_62, e228_64, e228_66, e228_67, e228_70, e228_71, e228_72, e228_75, e228_76, e228_77, e228_78, e228_79, e228_80, e228_83, e228_84, e228_85, e228_86, e228_87, e228_90, e228_91, e228_92, e228_94, e228_95, e228_98, e228_99, e228_100, e228_102, e228_103, e228_106, e228_109, e228_112, e228_115, e228_118, e228_121, e228_122, e228_125, m228, ↓reduceIte, qg_0, qg_1, qg_2, qg_3, qg_4, qg_5, qg_6, qg_7, qg_8, qg_9, qg_10, qg_11, qg_12, qg_13, not_true_eq_false, not_false_eq_true, Nat.reduceBEq, Bool.false_eq_true, ex1, ex3, ex4, exF, qfit_i, qfit_l, qfit_r, qfit_n, qfit_b0, qfit_b1, qcat_i, qcat_r, qcat_n, qcat_l, qroom_0, qroom_c, List.map_cons, List.map_nil, List.sum_cons, List.sum_nil, Nat.reduceAdd, Nat.reduceMul, Nat.reduceLT, Nat.reduceLeDiff, Nat.reduceEqDiff, Nat.reduceSub, decide_true, true_and, and_true, and_self, if_true, if_false, Option.toList_some, Option.toList_none, List.cons_append, List.nil_append, qsL, qlong, List.length_cons, List.length_nil, vM1, vM2, s_isBody1 (d := d + 5) s B hx, s_isBody0 (d := d + 5) s B hy, show ¬ (1 : Int32) = 0 by decide]
  · refine ⟨-1001, h, bs, fun R => ?_, Ch.refl s, B, Or.inl ⟨fun z => hx z.1, rfl, rfl⟩⟩
    simp (disch := first | assumption | omega) only [e228_0, e228_1, e228_2, e228_5, e228_8, e228_9, e228_10, e228_13, e228_16, e228_19, e228_20, e228_21, e228_24, e228_25, e228_26, e228_27, e228_30, e228_31, e228_34, e228_35, e228_36, e228_37, e228_40, e228_43, e228_44, e228_45, e228_46, e228_49, e228_50, e228_52, e228_53, e228_56, e228_57, e228_58, e228_61, e228_62, e228_64, e228_66, e228_67, e228_70, e228_71, e228_72, e228_75, e228_76, e228_77, e228_78, e228_79, e228_80, e228_83, e228_84, e228_85, e228_86, e228_87, e228_90, e228_91, e228_92, e228_94, e228_95, e228_98, e228_99, e228_100, e228_102, e228_103, e228_106, e228_109, e228_112, e228_115, e228_118, e228_121, e228_122, e228_125, m228, ↓reduceIte, qg_0, qg_1, qg_2, qg_3, qg_4, qg_5, qg_6, qg_7, qg_8, qg_9, qg_10, qg_11, qg_12, qg_13, not_true_eq_false, not_false_eq_true, Nat.reduceBEq, Bool.false_eq_true, ex1, ex3, ex4, exF, qfit_i, qfit_l, qfit_r, qfit_n, qfit_b0, qfit_b1, qcat_i, qcat_r, qcat_n, qcat_l, qroom_0, qroom_c, List.map_cons, List.map_nil, List.sum_cons, List.sum_nil, Nat.reduceAdd, Nat.reduceMul, Nat.reduceLT, Nat.reduceLeDiff, Nat.reduceEqDiff, Nat.reduceSub, decide_true, true_and, and_true, and_self, if_true, if_false, Option.toList_some, Option.toList_none, List.cons_append, List.nil_append, qsL, qlong, List.length_cons, List.length_nil, vM1, vM2, s_isBody0 (d := d + 5) s B hx]
end PRODUCT

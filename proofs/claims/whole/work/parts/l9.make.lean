/-! ===== THE CLASS: make ===== -/
section XMAKE
variable {d D : Nat} {h h' : qH} {R : qRes} {l : List pt4} {J : List (Nat × Nat)} {k : Nat}
/-- ints are copied -/
theorem cpI2 {h : qH} {a b na nb n sp dp : Nat} (ka : kI h a na) (kb : kI h b nb) (h1 : sp + n ≤ na) (h2 : dp + n ≤ nb) : qcopy h a (iN sp) b (iN dp) (iN n) = some (sI h b (fun x => if dp ≤ x ∧ x < dp + n then hi h a (sp + (x - dp)) else hi h b x)) := by
  have z0 : ∀ m, m < 2147483648 → ¬ iN m < 0 := fun m hm => by rw [show (0 : Int32) = iN 0 from rfl, iN_lt hm (by decide)]; omega
  have a1 := ka.1.1
  have a2 := kb.1.1
  have ea := ka.val
  have eb := kb.val
  unfold qcopy
  rw [if_pos ⟨⟨⟨ka.1.2.1, ka.1.2.2⟩, ⟨kb.1.2.1, kb.1.2.2⟩⟩, z0 sp (by omega), z0 dp (by omega), z0 n (by omega)⟩, ea, eb]
  show (if (iN sp).toNatClampNeg + (iN n).toNatClampNeg ≤ na ∧ (iN dp).toNatClampNeg + (iN n).toNatClampNeg ≤ nb then some (qup h.1 b (.inl (0, nb, .inl (va_cpy (hi h a) (hi h b) (iN sp).toNatClampNeg (iN dp).toNatClampNeg (iN n).toNatClampNeg))), h.2) else none) = _
  rw [iN_nat (show sp < 2147483648 by omega), iN_nat (show dp < 2147483648 by omega), iN_nat (show n < 2147483648 by omega), if_pos ⟨h1, h2⟩]
  have el : hlen h b = nb := by unfold hlen; rw [eb]
  unfold sI
  rw [el]
  rfl
theorem crn_get {c : Nat} (hc : c < ncr l D) : (crn l D).getD c z4 = l.getD (kap l D c) z4 := by
  have hl : c < (pickN (fun p => tB (corP l D p)) l.length).length := by rw [pickN_len]; exact hc
  unfold crn kap
  rw [List.getD_eq_getElem?_getD, List.getElem?_map, List.getElem?_eq_getElem hl, List.getD_eq_getElem?_getD (l := pickN _ _), List.getElem?_eq_getElem hl]
  rfl
theorem crn_lP {c t : Nat} (hc : c < ncr l D) : lP (crn l D) c t = lP l (kap l D c) t := by unfold lP; rw [crn_get hc]
theorem kL_new {n m : Nat} {g : Nat → Int64} (hn : n < 2147483648) (s : ShX h) : kL (qnew h (.inl (1, n, .inr (.inl g))) m) h.2.1 n ∧ hl (qnew h (.inl (1, n, .inr (.inl g))) m) h.2.1 = g := by
  have e : (qnew h (.inl (1, n, .inr (.inl g))) m).1 h.2.1 = .inl (1, n, .inr (.inl g)) := by rw [at_new, if_pos rfl]
  refine ⟨⟨⟨hn, by have := s.lt (show 96 < 97 by decide); omega, by show h.2.1 < h.2.1 + 1; omega⟩, g, e⟩, ?_⟩
  unfold hl; rw [e]
theorem kO_new {m : Nat} {F : Nat → Value} (s : ShX h) : kO (qnew h (.inr (8, F)) m) h.2.1 8 ∧ hf (qnew h (.inr (8, F)) m) h.2.1 = F := by
  have e : (qnew h (.inr (8, F)) m).1 h.2.1 = .inr (8, F) := by rw [at_new, if_pos rfl]
  refine ⟨⟨⟨by have := s.lt (show 96 < 97 by decide); omega, by show h.2.1 < h.2.1 + 1; omega⟩, F, e⟩, ?_⟩
  unfold hf; rw [e]
theorem pop_mask (f : Nat → Bool) {n : Nat} (hn : n ≤ 16) : pop (mask f n) 24 = cntN f n := by
  have e1 : pop (mask f n) 24 = cntN (fun k => (mask f n).testBit k) n := cntN_cut (by omega) fun k h1 _ h3 => by rw [mask_bit, decide_eq_false (by omega)] at h3; cases h3
  rw [e1]
  exact cntN_ext fun k hk => by rw [mask_bit, decide_eq_true hk, Bool.true_and]
/-- facets in another order -/
theorem facL_rk {f : Nat} {S rk : Nat → Nat} {Q : Nat → Nat → Int} {V : Nat → Nat} (fl : facL l D f S Q) (r : rkL V f rk) : facL l D f (fun j => S (rk j)) (fun j => Q (rk j)) := by
  obtain ⟨⟨f1, f2⟩, f3⟩ := fl
  obtain ⟨r1, r2, r3⟩ := r
  refine ⟨⟨fun j hj => f1 (rk j) (r1 j hj), fun i j hij hj e => ?_⟩, fun c0 c1 c2 c3 i g => ?_⟩
  · have hlt := r2 i j hij hj
    rcases Nat.lt_trichotomy (rk i) (rk j) with z | z | z
    · exact f2 _ _ z (r1 j hj) e
    · rw [z] at hlt; omega
    · exact f2 _ _ z (r1 i (by omega)) e.symm
  · obtain ⟨j, hj, e⟩ := f3 c0 c1 c2 c3 i g
    obtain ⟨a, ha, ea⟩ := r3 j hj
    exact ⟨a, ha, by show S (rk a) = _; rw [ea]; exact e⟩
theorem SoP.of {m : Nat} {S : Nat → Nat} {G : Nat → Nat → Int} (ok : okP l D) (b : bdG l D m S G) (m104 : m ≤ 104) : SoP D (crn l D) (cls l D) := by
  obtain ⟨sm, nd, h16, pj, hD⟩ := id ok
  have n16 := b.n16
  have nc := b.nc
  have ln := crn_len l D
  refine ⟨hD, by rw [ln]; exact ⟨nc, n16⟩, fun c hc t ht => ?_, fun c t h1 h2 => ?_, fun K hK => ⟨b.cls_208 ok m104 K, fun t ht => ?_⟩, fun K hK => b.cls_hi hD.1 hK, fun y hy => ?_, fun K hK t ht => ?_⟩
  · rw [ln] at hc
    rw [crn_lP hc]
    exact lP_sm sm ht (kap_spec hc).1
  · rcases Nat.lt_or_ge c (ncr l D) with z | z
    · rw [crn_lP z]; exact ok_0 ok (kap_spec z).1 h1 h2
    · unfold lP
      rw [List.getD_eq_getElem?_getD, List.getElem?_eq_none (by omega)]
      match t, h2 with
      | 0, _ => rfl
      | 1, _ => rfl
      | 2, _ => rfl
      | 3, _ => rfl
  · have hc := b.cls_mem.mp (getD_mem0 ht)
    exact ⟨b.cl_0 hD.1 hc, b.cl_16 hc⟩
  · obtain ⟨a, c, h1, h2, h3⟩ := b.edge2 ok (b.cls_mem.mp hy)
    exact ⟨a, c, h1, by rw [ln]; exact h2, h3⟩
  · rw [ln]; exact b.cl_lt (b.cls_mem.mp (getD_mem0 ht))
theorem NwI {h h' : qH} {A : List Nat} {J : List (Nat × Nat)} {k a n : Nat} (c : ChX A J k h h') (ka : kI h a n) (hA : a ∉ A) (h97 : 97 ≤ a) : kI h' a n ∧ hi h' a = hi h a := by
  have e := c.at hA (no_XO h97) ka.1.2.2
  exact ⟨ka.sm c.1.2.1 e, hi_at e⟩
theorem NwLg {h h' : qH} {A : List Nat} {J : List (Nat × Nat)} {k a n : Nat} (c : ChX A J k h h') (ka : kL h a n) (hA : a ∉ A) (h97 : 97 ≤ a) : kL h' a n ∧ hl h' a = hl h a := by
  have e := c.at hA (no_XO h97) ka.1.2.2
  exact ⟨ka.sm c.1.2.1 e, hl_at e⟩
set_option maxRecDepth 100000 in
set_option maxHeartbeats 64000000 in
theorem x_make {f : Nat} {S : Nat → Nat} {Q Q' : Nat → Nat → Int} {sc : Int32} (s : ShX h) (v : HtX h D l) (ok : okP l D) (h0f : 0 < f) (hfx : HfX h f S Q) (fl : facL l D f S Q') (pq : ∀ j, j < f → plBd D (Q j) ∧ ∃ v : Int, 0 < v ∧ ∀ t, t < 5 → Q j t = v * Q' j t) : ∃ h' a, (∀ R, qMC (d + 6) 34 [.ref 19, .int sc] h R ↔ R = (some (.ref a), h')) ∧ ChX [21, 25, 26] [] 16 h h' ∧ h.2.1 ≤ a ∧ ∀ bs : List bdy, SoX h' a (bs ++ [(l, D, sc)]) bs.length := by
  obtain ⟨sm, nd, h16, pj, hD⟩ := id ok
  obtain ⟨w1, f104, w3⟩ := id hfx
  obtain ⟨v3, v1, v2, vp⟩ := id v
  rw [show (if l.length < 16 then l.length else 16) = l.length by split <;> omega] at v1
  obtain ⟨G0, gg0⟩ := fcG_of ok fl.1 h0f
  have b0' : bdG l D f S G0 := ⟨h0f, gg0, fun x => facL_iff fl⟩
  have n16 := b0'.n16
  have ncD := b0'.nc
  obtain ⟨nc, enc⟩ : ∃ nc, nc = ncr l D := ⟨_, rfl⟩
  rw [← enc] at n16 ncD
  obtain ⟨ke, eke⟩ : ∃ ke, ke = mask (fun p => tB (corP l D p)) l.length := ⟨_, rfl⟩
  have ke16 : ke < 65536 := by rw [eke]; exact mask_16 h16
  have cs : ∀ R, qMC (d + 5) 35 [.ref 19] h R ↔ R = (some (.int (iN ke)), h) := fun R => by rw [eke]; exact x_cornerSet s v ok hfx fl
  have bc : ∀ R, qMC (d + 5) 308 [.int (iN ke)] h R ↔ R = (some (.int (iN nc)), h) := fun R => by
    rw [x_bitCount ke16, eke, pop_mask _ h16, enc]; exact Iff.rfl
  -- places
  obtain ⟨pl, epl⟩ : ∃ pl, pl = h.2.1 := ⟨_, rfl⟩
  have pl97 : 97 ≤ pl := by rw [epl]; exact ge97 s
  obtain ⟨h1, e1⟩ : ∃ h1, h1 = qnew h (.inl (0, nc * 4, .inl fun _ => iN 0)) (nc * 4) := ⟨_, rfl⟩
  obtain ⟨kp1, hp1⟩ := kI_new (h := h) (n := nc * 4) (m := nc * 4) (g := fun _ => iN 0) (by omega) s
  rw [← e1, ← epl] at kp1 hp1
  have c1 : ChX [] [] 1 h h1 := by rw [e1]; exact ChX.new s (Nat.le_refl _) (by omega)
  have cA : ∀ {g : qH}, ChX [pl] [] 0 h1 g → ChX [] [] 1 h g := fun {g} cg => ((c1.up (A' := [pl]) (fun x hx => by cases hx) (Nat.le_refl _)).trans cg).drop (by omega)
  have s1 := c1.sh
  obtain ⟨z1, z2⟩ := nN (nc * 4) (by omega)
  have r0 : ∀ R, qMC (d + 6) 34 [.ref 19, .int sc] h R ↔ qEv (d + 5) 2 qk_34 23 [some (.ref 19), some (.int sc), some (.int (iN ke)), some (.int (iN nc)), some (.ref pl), some (.int (iN (cntN (fun p => tB (corP l D p)) 0))), some (.int (iN 0)), none, none] [] h1 R := fun R => by
    rw [show cntN (fun p => tB (corP l D p)) 0 = 0 from rfl]
    simp (disch := first | assumption | omega) only [e34_0, e34_1, e34_4, e34_5, e34_6, e34_9, e34_10, e34_11, e34_12, e34_13, e34_15, e34_17, e34_18, e34_20, e34_21, e34_25, e34_26, e34_29, e34_32, e34_33, e34_35, e34_36, e34_37, e34_38, e34_41, e34_42, e34_45, e34_47, e34_48, e34_49, e34_51, e34_53, e34_54, e34_55, e34_56, e34_59, e34_62, e34_65, e34_68, e34_69, e34_71, e34_73, e34_74, e34_77, e34_80, e34_81, e34_84, e34_86, e34_87, e34_90, e34_92, e34_93, e34_94, e34_97, e34_98, e34_101, e34_104, e34_105, e34_108, e34_109, e34_112, e34_114, e34_116, e34_117, e34_120, e34_121, e34_122, e34_124, e34_126, e34_127, e34_129, e34_131, e34_132, e34_135, e34_138, e34_140, e34_142, e34_143, e34_146, e34_147, e34_150, e34_152, e34_153, e34_154, e34_155, e34_156, e34_159, e34_160, e34_163, e34_165, e34_166, e34_167, e34_168, e34_170, e34_172, e34_173, e34_174, e34_175, e34_178, e34_181, e34_184, e34_187, e34_188, e34_189, e34_192, e34_193, e34_195, e34_196, e34_197, e34_199, e34_202, e34_204, e34_207, e34_207N, m34, ↓reduceIte, qg_0, qg_1, qg_2, qg_3, qg_4, qg_5, qg_6, qg_7, qg_8, qg_9, qg_10, qg_11, qg_12, qg_13, not_true_eq_false, not_false_eq_true, Nat.reduceBEq, Bool.false_eq_true, ex1, ex3, ex4, exF, qfit_i, qfit_l, qfit_r, qfit_n, qfit_b0, qfit_b1, qcat_i, qcat_r, qcat_n, qcat_l, qroom_0, qroom_c, List.map_cons, List.map_nil, List.sum_cons, List.sum_nil, Nat.reduceAdd, Nat.reduceMul, Nat.reduceLT, Nat.reduceLeDiff, Nat.reduceEqDiff, Nat.reduceSub, decide_true, true_and, and_true, and_self, if_true, if_false, Option.toList_some, Option.toList_none, List.cons_append, List.nil_append, qsL, qlong, List.length_cons, List.length_nil, iN_L, exI, iN_add, iN_mul, iN_le, iN_lt, iN_eq, Nat.le_refl, qfN0, qfN1, uX_16, vX_16, uX_19, vX_19, uX_27, vX_27, uX_30, vX_30, uX_39, vX_39, uX_41, vX_41, uX_43, vX_43, uX_46, vX_46, uX_50, vX_50, uX_53, vX_53, cs, bc, z1, z2, ← epl, ← e1, show 19 < pl by omega, or_self, or_false, false_or, show ¬ nc * 4 < 0 by omega, show ¬ 1000000 < nc * 4 by omega]
  have cle : ∀ q, q ≤ l.length → cntN (fun p => tB (corP l D p)) q ≤ nc := fun q hq => by rw [enc]; exact cntN_mono hq
  have lp1 : ∀ (w q : Nat) (g : qH), q + w = l.length → ChX [pl] [] 0 h1 g → kI g pl (nc * 4) → (∀ c, c < cntN (fun p => tB (corP l D p)) q → ∀ t, t < 4 → hi g pl (c * 4 + t) = iZ (lP (crn l D) c t)) → ∃ g', (∀ R, qEv (d + 5) 2 qk_34 23 [some (.ref 19), some (.int sc), some (.int (iN ke)), some (.int (iN nc)), some (.ref pl), some (.int (iN (cntN (fun p => tB (corP l D p)) q))), some (.int (iN q)), none, none] [] g R ↔ qEv (d + 5) 2 qk_34 68 [some (.ref 19), some (.int sc), some (.int (iN ke)), some (.int (iN nc)), some (.ref pl), some (.int (iN nc)), some (.int (iN l.length)), none, none] [] g' R) ∧ ChX [pl] [] 0 h1 g' ∧ kI g' pl (nc * 4) ∧ ∀ c, c < nc → ∀ t, t < 4 → hi g' pl (c * 4 + t) = iZ (lP (crn l D) c t) := by
    intro w
    induction w with
    | zero =>
      intro q g hq cg kpg hg
      have e : q = l.length := by omega
      subst e
      have sg := cg.sh
      have m1 : xi g 19 1 = iN l.length := ((cA cg).xi (by decide) (by decide)).trans v1
      have en : cntN (fun p => tB (corP l D p)) l.length = nc := by rw [enc]; rfl
      refine ⟨g, fun R => ?_, cg, kpg, by rw [← en]; exact hg⟩
      rw [en, e34_23]
      simp (disch := first | assumption | omega) only [e34_0, e34_1, e34_4, e34_5, e34_6, e34_9, e34_10, e34_11, e34_12, e34_13, e34_15, e34_17, e34_18, e34_20, e34_21, e34_25, e34_26, e34_29, e34_32, e34_33, e34_35, e34_36, e34_37, e34_38, e34_41, e34_42, e34_45, e34_47, e34_48, e34_49, e34_51, e34_53, e34_54, e34_55, e34_56, e34_59, e34_62, e34_65, e34_69, e34_71, e34_73, e34_74, e34_77, e34_80, e34_81, e34_84, e34_86, e34_87, e34_90, e34_92, e34_93, e34_94, e34_97, e34_98, e34_101, e34_104, e34_105, e34_108, e34_109, e34_112, e34_114, e34_116, e34_117, e34_120, e34_121, e34_122, e34_124, e34_126, e34_127, e34_129, e34_131, e34_132, e34_135, e34_138, e34_140, e34_142, e34_143, e34_146, e34_147, e34_150, e34_152, e34_153, e34_154, e34_155, e34_156, e34_159, e34_160, e34_163, e34_165, e34_166, e34_167, e34_168, e34_170, e34_172, e34_173, e34_174, e34_175, e34_178, e34_181, e34_184, e34_187, e34_188, e34_189, e34_192, e34_193, e34_195, e34_196, e34_197, e34_199, e34_202, e34_204, e34_207, e34_207N, m34, ↓reduceIte, qg_0, qg_1, qg_2, qg_3, qg_4, qg_5, qg_6, qg_7, qg_8, qg_9, qg_10, qg_11, qg_12, qg_13, not_true_eq_false, not_false_eq_true, Nat.reduceBEq, Bool.false_eq_true, ex1, ex3, ex4, exF, qfit_i, qfit_l, qfit_r, qfit_n, qfit_b0, qfit_b1, qcat_i, qcat_r, qcat_n, qcat_l, qroom_0, qroom_c, List.map_cons, List.map_nil, List.sum_cons, List.sum_nil, Nat.reduceAdd, Nat.reduceMul, Nat.reduceLT, Nat.reduceLeDiff, Nat.reduceEqDiff, Nat.reduceSub, decide_true, true_and, and_true, and_self, if_true, if_false, Option.toList_some, Option.toList_none, List.cons_append, List.nil_append, qsL, qlong, List.length_cons, List.length_nil, iN_L, exI, iN_add, iN_mul, iN_le, iN_lt, iN_eq, Nat.le_refl, qfN0, qfN1, uX_16, vX_16, uX_19, vX_19, uX_27, vX_27, uX_30, vX_30, uX_39, vX_39, uX_41, vX_41, uX_43, vX_43, uX_46, vX_46, uX_50, vX_50, uX_53, vX_53, gX_19_1, m1]
    | succ w ih =>
      intro q g hq cg kpg hg
      have sg := cg.sh
      have m1 : xi g 19 1 = iN l.length := ((cA cg).xi (by decide) (by decide)).trans v1
      have bt := iN_bit (m := ke) (p := q) (by omega) (by omega)
      have bk : ke.testBit q = tB (corP l D q) := by rw [eke, mask_bit, decide_eq_true (show q < l.length by omega), Bool.true_and]
      by_cases qc : corP l D q
      · have ec : cntN (fun p => tB (corP l D p)) (q + 1) = cntN (fun p => tB (corP l D p)) q + 1 := by rw [cntN, if_pos (tB_t qc)]
        obtain ⟨kn1, kn2⟩ := kap_of (l := l) (D := D) (show q < l.length by omega) qc
        obtain ⟨cq, ecq⟩ : ∃ cq, cq = cntN (fun p => tB (corP l D p)) q := ⟨_, rfl⟩
        rw [← ecq] at kn1 kn2 hg ec
        have cp := cpI2 (sp := q * 4) (dp := cq * 4) (n := 4) (kX_20 sg) kpg (by omega) (by omega)
        obtain ⟨g2, eg2⟩ : ∃ g2, g2 = sI g pl (fun x => if cq * 4 ≤ x ∧ x < cq * 4 + 4 then hi g 20 (q * 4 + (x - cq * 4)) else hi g pl x) := ⟨_, rfl⟩
        rw [← eg2] at cp
        have cg2 : ChX [pl] [] 0 h1 g2 := cg.trans0 (by rw [eg2]; exact ChX.rowI sg kpg (List.mem_singleton.mpr rfl) (by omega))
        have kpg2 : kI g2 pl (nc * 4) := by rw [eg2]; exact (hKd_sI kpg).2.1 _ _ kpg
        have h20 : hi g 20 = hi h 20 := (cA cg).hi (by decide) (by decide) (s.lt (by decide))
        obtain ⟨g', r', z'⟩ := ih (q + 1) g2 (by omega) cg2 kpg2 (by
          rw [ec]
          intro c hc t ht
          rw [eg2, hi_sI, if_pos rfl]
          by_cases e : c = cq
          · rw [if_pos (by omega), h20, show q * 4 + (c * 4 + t - cq * 4) = 4 * q + t by omega, (vp q (by omega) (by omega) t ht).1, crn_lP (by rw [e]; exact kn1), e, kn2]
          · rw [if_neg (by omega)]; exact hg c (by omega) t ht)
        rw [ec] at r'
        rw [bk, tB_t qc, if_pos rfl] at bt
        refine ⟨g', fun R => ?_, z'⟩
        rw [← ecq, ← r' R, e34_23]
        simp (disch := first | assumption | omega) only [e34_0, e34_1, e34_4, e34_5, e34_6, e34_9, e34_10, e34_11, e34_12, e34_13, e34_15, e34_17, e34_18, e34_20, e34_21, e34_25, e34_26, e34_29, e34_32, e34_33, e34_35, e34_36, e34_37, e34_38, e34_41, e34_42, e34_45, e34_47, e34_48, e34_49, e34_51, e34_53, e34_54, e34_55, e34_56, e34_59, e34_62, e34_65, e34_69, e34_71, e34_73, e34_74, e34_77, e34_80, e34_81, e34_84, e34_86, e34_87, e34_90, e34_92, e34_93, e34_94, e34_97, e34_98, e34_101, e34_104, e34_105, e34_108, e34_109, e34_112, e34_114, e34_116, e34_117, e34_120, e34_121, e34_122, e34_124, e34_126, e34_127, e34_129, e34_131, e34_132, e34_135, e34_138, e34_140, e34_142, e34_143, e34_146, e34_147, e34_150, e34_152, e34_153, e34_154, e34_155, e34_156, e34_159, e34_160, e34_163, e34_165, e34_166, e34_167, e34_168, e34_170, e34_172, e34_173, e34_174, e34_175, e34_178, e34_181, e34_184, e34_187, e34_188, e34_189, e34_192, e34_193, e34_195, e34_196, e34_197, e34_199, e34_202, e34_204, e34_207, e34_207N, m34, ↓reduceIte, qg_0, qg_1, qg_2, qg_3, qg_4, qg_5, qg_6, qg_7, qg_8, qg_9, qg_10, qg_11, qg_12, qg_13, not_true_eq_false, not_false_eq_true, Nat.reduceBEq, Bool.false_eq_true, ex1, ex3, ex4, exF, qfit_i, qfit_l, qfit_r, qfit_n, qfit_b0, qfit_b1, qcat_i, qcat_r, qcat_n, qcat_l, qroom_0, qroom_c, List.map_cons, List.map_nil, List.sum_cons, List.sum_nil, Nat.reduceAdd, Nat.reduceMul, Nat.reduceLT, Nat.reduceLeDiff, Nat.reduceEqDiff, Nat.reduceSub, decide_true, true_and, and_true, and_self, if_true, if_false, Option.toList_some, Option.toList_none, List.cons_append, List.nil_append, qsL, qlong, List.length_cons, List.length_nil, iN_L, exI, iN_add, iN_mul, iN_le, iN_lt, iN_eq, Nat.le_refl, qfN0, qfN1, uX_16, vX_16, uX_19, vX_19, uX_27, vX_27, uX_30, vX_30, uX_39, vX_39, uX_41, vX_41, uX_43, vX_43, uX_46, vX_46, uX_50, vX_50, uX_53, vX_53, gX_19_1, m1, show ¬ l.length ≤ q by omega, bt, gX_19_0, cp]
      · have ec : cntN (fun p => tB (corP l D p)) (q + 1) = cntN (fun p => tB (corP l D p)) q := by rw [cntN, if_neg (fun z => qc (tB_iff.mp z)), Nat.add_zero]
        obtain ⟨g', r', z'⟩ := ih (q + 1) g (by omega) cg kpg (by rw [ec]; exact hg)
        rw [ec] at r'
        rw [bk, tB_f qc, if_neg Bool.false_ne_true] at bt
        refine ⟨g', fun R => ?_, z'⟩
        rw [← r' R, e34_23]
        simp (disch := first | assumption | omega) only [e34_0, e34_1, e34_4, e34_5, e34_6, e34_9, e34_10, e34_11, e34_12, e34_13, e34_15, e34_17, e34_18, e34_20, e34_21, e34_25, e34_26, e34_29, e34_32, e34_33, e34_35, e34_36, e34_37, e34_38, e34_41, e34_42, e34_45, e34_47, e34_48, e34_49, e34_51, e34_53, e34_54, e34_55, e34_56, e34_59, e34_62, e34_65, e34_69, e34_71, e34_73, e34_74, e34_77, e34_80, e34_81, e34_84, e34_86, e34_87, e34_90, e34_92, e34_93, e34_94, e34_97, e34_98, e34_101, e34_104, e34_105, e34_108, e34_109, e34_112, e34_114, e34_116, e34_117, e34_120, e34_121, e34_122, e34_124, e34_126, e34_127, e34_129, e34_131, e34_132, e34_135, e34_138, e34_140, e34_142, e34_143, e34_146, e34_147, e34_150, e34_152, e34_153, e34_154, e34_155, e34_156, e34_159, e34_160, e34_163, e34_165, e34_166, e34_167, e34_168, e34_170, e34_172, e34_173, e34_174, e34_175, e34_178, e34_181, e34_184, e34_187, e34_188, e34_189, e34_192, e34_193, e34_195, e34_196, e34_197, e34_199, e34_202, e34_204, e34_207, e34_207N, m34, ↓reduceIte, qg_0, qg_1, qg_2, qg_3, qg_4, qg_5, qg_6, qg_7, qg_8, qg_9, qg_10, qg_11, qg_12, qg_13, not_true_eq_false, not_false_eq_true, Nat.reduceBEq, Bool.false_eq_true, ex1, ex3, ex4, exF, qfit_i, qfit_l, qfit_r, qfit_n, qfit_b0, qfit_b1, qcat_i, qcat_r, qcat_n, qcat_l, qroom_0, qroom_c, List.map_cons, List.map_nil, List.sum_cons, List.sum_nil, Nat.reduceAdd, Nat.reduceMul, Nat.reduceLT, Nat.reduceLeDiff, Nat.reduceEqDiff, Nat.reduceSub, decide_true, true_and, and_true, and_self, if_true, if_false, Option.toList_some, Option.toList_none, List.cons_append, List.nil_append, qsL, qlong, List.length_cons, List.length_nil, iN_L, exI, iN_add, iN_mul, iN_le, iN_lt, iN_eq, Nat.le_refl, qfN0, qfN1, uX_16, vX_16, uX_19, vX_19, uX_27, vX_27, uX_30, vX_30, uX_39, vX_39, uX_41, vX_41, uX_43, vX_43, uX_46, vX_46, uX_50, vX_50, uX_53, vX_53, gX_19_1, m1, show ¬ l.length ≤ q by omega, bt]
  obtain ⟨h2, r2, c2', kp2, hp2⟩ := lp1 l.length 0 h1 (by omega) (ChX.refl s1) kp1 (fun c hc => absurd hc (Nat.not_lt_zero c))
  have c2 : ChX [] [] 1 h h2 := cA c2'
  have s2 := c2.sh
  -- facets by their corners
  obtain ⟨V, eV⟩ : ∃ V : Nat → Nat, V = fun j => fcs l D S j := ⟨_, rfl⟩
  have V16 : ∀ j, j < f → V j < 65536 := fun j hj => by rw [eV]; exact b0'.cl_16 (K := D - 1) (Or.inl ⟨rfl, b0'.fcI.mpr ⟨j, hj, rfl⟩⟩)
  have r21 : ∀ j, j < f → hi h2 21 j = iN (S j) := fun j hj => by rw [c2.hi (by decide) (by decide) (s.lt (by decide))]; exact (w3 j hj).1.1
  have k21 := kX_21 s2
  obtain ⟨H, eH⟩ : ∃ H : Nat → qH, H = fun t => sI h2 21 (fun j => if j < t then iN (V j) else hi h2 21 j) := ⟨_, rfl⟩
  have cH : ∀ t, ChX [21] [] 0 h2 (H t) := fun t => by rw [eH]; exact ChX.rowI s2 k21 (by decide) (by decide)
  have H0 : h2 = H 0 := by
    rw [eH]
    have : (fun j => if j < 0 then iN (V j) else hi h2 21 j) = hi h2 21 := by funext j; rw [if_neg (Nat.not_lt_zero j)]
    show h2 = sI h2 21 (fun j => if j < 0 then iN (V j) else hi h2 21 j)
    rw [this, sI_id k21]
  have r3 : ∀ R, qEv (d + 5) 2 qk_34 68 [some (.ref 19), some (.int sc), some (.int (iN ke)), some (.int (iN nc)), some (.ref pl), some (.int (iN nc)), some (.int (iN l.length)), none, none] [] h2 R ↔ qEv (d + 5) 2 qk_34 104 [some (.ref 19), some (.int sc), some (.int (iN ke)), some (.int (iN nc)), some (.ref pl), some (.int (iN nc)), some (.int (iN f)), none, none] [] (H f) R := fun R => by
    have m2 : xi h2 19 6 = iN f := (c2.xi (by decide) (by decide)).trans w1
    have a1 : qEv (d + 5) 2 qk_34 68 [some (.ref 19), some (.int sc), some (.int (iN ke)), some (.int (iN nc)), some (.ref pl), some (.int (iN nc)), some (.int (iN l.length)), none, none] [] h2 R ↔ qEv (d + 5) 2 qk_34 71 [some (.ref 19), some (.int sc), some (.int (iN ke)), some (.int (iN nc)), some (.ref pl), some (.int (iN nc)), some (.int (iN 0)), none, none] [] (H 0) R := by
      rw [← H0, e34_68]
      simp (disch := first | assumption | omega) only [e34_0, e34_1, e34_4, e34_5, e34_6, e34_9, e34_10, e34_11, e34_12, e34_13, e34_15, e34_17, e34_18, e34_20, e34_21, e34_23, e34_25, e34_26, e34_29, e34_32, e34_33, e34_35, e34_36, e34_37, e34_38, e34_41, e34_42, e34_45, e34_47, e34_48, e34_49, e34_51, e34_53, e34_54, e34_55, e34_56, e34_59, e34_62, e34_65, e34_69, e34_73, e34_74, e34_77, e34_80, e34_81, e34_84, e34_86, e34_87, e34_90, e34_92, e34_93, e34_94, e34_97, e34_98, e34_101, e34_104, e34_105, e34_108, e34_109, e34_112, e34_114, e34_116, e34_117, e34_120, e34_121, e34_122, e34_124, e34_126, e34_127, e34_129, e34_131, e34_132, e34_135, e34_138, e34_140, e34_142, e34_143, e34_146, e34_147, e34_150, e34_152, e34_153, e34_154, e34_155, e34_156, e34_159, e34_160, e34_163, e34_165, e34_166, e34_167, e34_168, e34_170, e34_172, e34_173, e34_174, e34_175, e34_178, e34_181, e34_184, e34_187, e34_188, e34_189, e34_192, e34_193, e34_195, e34_196, e34_197, e34_199, e34_202, e34_204, e34_207, e34_207N, m34, ↓reduceIte, qg_0, qg_1, qg_2, qg_3, qg_4, qg_5, qg_6, qg_7, qg_8, qg_9, qg_10, qg_11, qg_12, qg_13, not_true_eq_false, not_false_eq_true, Nat.reduceBEq, Bool.false_eq_true, ex1, ex3, ex4, exF, qfit_i, qfit_l, qfit_r, qfit_n, qfit_b0, qfit_b1, qcat_i, qcat_r, qcat_n, qcat_l, qroom_0, qroom_c, List.map_cons, List.map_nil, List.sum_cons, List.sum_nil, Nat.reduceAdd, Nat.reduceMul, Nat.reduceLT, Nat.reduceLeDiff, Nat.reduceEqDiff, Nat.reduceSub, decide_true, true_and, and_true, and_self, if_true, if_false, Option.toList_some, Option.toList_none, List.cons_append, List.nil_append, qsL, qlong, List.length_cons, List.length_nil, iN_L, exI, iN_add, iN_mul, iN_le, iN_lt, iN_eq, Nat.le_refl, qfN0, qfN1, uX_16, vX_16, uX_19, vX_19, uX_27, vX_27, uX_30, vX_30, uX_39, vX_39, uX_41, vX_41, uX_43, vX_43, uX_46, vX_46, uX_50, vX_50, uX_53, vX_53]
    rw [a1]
    refine Iff.trans (loop_up (n := f) (L := fun t => [some (.ref 19), some (.int sc), some (.int (iN ke)), some (.int (iN nc)), some (.ref pl), some (.int (iN nc)), some (.int (iN t)), none, none]) (H := H) ?_) ?_
    · intro t ht
      try dsimp only
      have st := (cH t).sh
      have mt : xi (H t) 19 6 = iN f := ((cH t).xi (by decide) (by decide)).trans m2
      have rt : qiald (H t) 21 (iN t) = some (iN (S t)) := by
        rw [rX_21 st (by omega), eH]
        show some (hi (sI h2 21 _) 21 t) = _
        rw [hi_sI, if_pos rfl, if_neg (Nat.lt_irrefl t), r21 t ht]
      have sq : ∀ R, qMC (d + 5) 37 [.int (iN (S t)), .int (iN ke)] (H t) R ↔ R = (some (.int (iN (V t))), H t) := fun R => by
        rw [eke, eV]
        exact x_squeeze2 ok (w3 t ht).1.2
      have wt : qiast (H t) 21 (iN t) (iN (V t)) = some (H (t + 1)) := by
        rw [wX_21 st (by omega), eH]
        show some (sI (sI h2 21 _) 21 (upd (hi (sI h2 21 _) 21) t (iN (V t)))) = _
        rw [sI_sI, hi_sI, if_pos rfl]
        congr 2
        funext j
        show (if j = t then iN (V t) else (if j < t then iN (V j) else hi h2 21 j)) = _
        by_cases e : j = t
        · rw [if_pos e, if_pos (by omega), e]
        · rw [if_neg e]
          by_cases e2 : j < t
          · rw [if_pos e2, if_pos (by omega)]
          · rw [if_neg e2, if_neg (by omega)]
      rw [e34_71]
      simp (disch := first | assumption | omega) only [e34_0, e34_1, e34_4, e34_5, e34_6, e34_9, e34_10, e34_11, e34_12, e34_13, e34_15, e34_17, e34_18, e34_20, e34_21, e34_23, e34_25, e34_26, e34_29, e34_32, e34_33, e34_35, e34_36, e34_37, e34_38, e34_41, e34_42, e34_45, e34_47, e34_48, e34_49, e34_51, e34_53, e34_54, e34_55, e34_56, e34_59, e34_62, e34_65, e34_68, e34_69, e34_73, e34_74, e34_77, e34_80, e34_81, e34_84, e34_86, e34_87, e34_90, e34_92, e34_93, e34_94, e34_97, e34_98, e34_101, e34_105, e34_108, e34_109, e34_112, e34_114, e34_116, e34_117, e34_120, e34_121, e34_122, e34_124, e34_126, e34_127, e34_129, e34_131, e34_132, e34_135, e34_138, e34_140, e34_142, e34_143, e34_146, e34_147, e34_150, e34_152, e34_153, e34_154, e34_155, e34_156, e34_159, e34_160, e34_163, e34_165, e34_166, e34_167, e34_168, e34_170, e34_172, e34_173, e34_174, e34_175, e34_178, e34_181, e34_184, e34_187, e34_188, e34_189, e34_192, e34_193, e34_195, e34_196, e34_197, e34_199, e34_202, e34_204, e34_207, e34_207N, m34, ↓reduceIte, qg_0, qg_1, qg_2, qg_3, qg_4, qg_5, qg_6, qg_7, qg_8, qg_9, qg_10, qg_11, qg_12, qg_13, not_true_eq_false, not_false_eq_true, Nat.reduceBEq, Bool.false_eq_true, ex1, ex3, ex4, exF, qfit_i, qfit_l, qfit_r, qfit_n, qfit_b0, qfit_b1, qcat_i, qcat_r, qcat_n, qcat_l, qroom_0, qroom_c, List.map_cons, List.map_nil, List.sum_cons, List.sum_nil, Nat.reduceAdd, Nat.reduceMul, Nat.reduceLT, Nat.reduceLeDiff, Nat.reduceEqDiff, Nat.reduceSub, decide_true, true_and, and_true, and_self, if_true, if_false, Option.toList_some, Option.toList_none, List.cons_append, List.nil_append, qsL, qlong, List.length_cons, List.length_nil, iN_L, exI, iN_add, iN_mul, iN_le, iN_lt, iN_eq, Nat.le_refl, qfN0, qfN1, uX_16, vX_16, uX_19, vX_19, uX_27, vX_27, uX_30, vX_30, uX_39, vX_39, uX_41, vX_41, uX_43, vX_43, uX_46, vX_46, uX_50, vX_50, uX_53, vX_53, gX_19_6, mt, show ¬ f ≤ t by omega, gX_19_4, rt, sq, wt]
    · try dsimp only
      have st := (cH f).sh
      have mt : xi (H f) 19 6 = iN f := ((cH f).xi (by decide) (by decide)).trans m2
      rw [e34_71]
      simp (disch := first | assumption | omega) only [e34_0, e34_1, e34_4, e34_5, e34_6, e34_9, e34_10, e34_11, e34_12, e34_13, e34_15, e34_17, e34_18, e34_20, e34_21, e34_23, e34_25, e34_26, e34_29, e34_32, e34_33, e34_35, e34_36, e34_37, e34_38, e34_41, e34_42, e34_45, e34_47, e34_48, e34_49, e34_51, e34_53, e34_54, e34_55, e34_56, e34_59, e34_62, e34_65, e34_68, e34_69, e34_73, e34_74, e34_77, e34_80, e34_81, e34_84, e34_86, e34_87, e34_90, e34_92, e34_93, e34_94, e34_97, e34_98, e34_101, e34_105, e34_108, e34_109, e34_112, e34_114, e34_116, e34_117, e34_120, e34_121, e34_122, e34_124, e34_126, e34_127, e34_129, e34_131, e34_132, e34_135, e34_138, e34_140, e34_142, e34_143, e34_146, e34_147, e34_150, e34_152, e34_153, e34_154, e34_155, e34_156, e34_159, e34_160, e34_163, e34_165, e34_166, e34_167, e34_168, e34_170, e34_172, e34_173, e34_174, e34_175, e34_178, e34_181, e34_184, e34_187, e34_188, e34_189, e34_192, e34_193, e34_195, e34_196, e34_197, e34_199, e34_202, e34_204, e34_207, e34_207N, m34, ↓reduceIte, qg_0, qg_1, qg_2, qg_3, qg_4, qg_5, qg_6, qg_7, qg_8, qg_9, qg_10, qg_11, qg_12, qg_13, not_true_eq_false, not_false_eq_true, Nat.reduceBEq, Bool.false_eq_true, ex1, ex3, ex4, exF, qfit_i, qfit_l, qfit_r, qfit_n, qfit_b0, qfit_b1, qcat_i, qcat_r, qcat_n, qcat_l, qroom_0, qroom_c, List.map_cons, List.map_nil, List.sum_cons, List.sum_nil, Nat.reduceAdd, Nat.reduceMul, Nat.reduceLT, Nat.reduceLeDiff, Nat.reduceEqDiff, Nat.reduceSub, decide_true, true_and, and_true, and_self, if_true, if_false, Option.toList_some, Option.toList_none, List.cons_append, List.nil_append, qsL, qlong, List.length_cons, List.length_nil, iN_L, exI, iN_add, iN_mul, iN_le, iN_lt, iN_eq, Nat.le_refl, qfN0, qfN1, uX_16, vX_16, uX_19, vX_19, uX_27, vX_27, uX_30, vX_30, uX_39, vX_39, uX_41, vX_41, uX_43, vX_43, uX_46, vX_46, uX_50, vX_50, uX_53, vX_53, gX_19_6, mt]
  obtain ⟨h3, e3⟩ : ∃ h3, h3 = H f := ⟨_, rfl⟩
  rw [← e3] at r3
  have c3 : ChX [21] [] 1 h h3 := (c2.up (A' := [21]) (fun x hx => by cases hx) (Nat.le_refl _)).trans (by rw [e3]; exact cH f : ChX [21] [] 0 h2 h3)
  have s3 := c3.sh
  have v21 : ∀ j, j < f → hi h3 21 j = iN (V j) ∧ V j < 65536 := fun j hj => ⟨by rw [e3, eH]; show hi (sI h2 21 _) 21 j = _; rw [hi_sI, if_pos rfl, if_pos hj], V16 j hj⟩
  have Vne : ∀ a b, a < b → b < f → V a ≠ V b := fun a b hab hb e => by
    rw [eV] at e
    have e' : fcs l D S a = fcs l D S b := e
    have := fcs_sub gg0 (show a < f by omega) hb fun c hc => by rw [← e']; exact hc
    omega
  obtain ⟨h4, rk, r4, c4', rl, hrk⟩ := x_rankFacets (d := d + 4) (m := f) (V := V) s3 ((c3.xi (by decide) (by decide)).trans w1) f104 v21 Vne
  have c4 : ChX [21, 25] [] 1 h h4 := (c3.up (A' := [21, 25]) (fun x hx => by simp at hx; simp [hx]) (Nat.le_refl _)).trans (c4'.up (A' := [21, 25]) (fun x hx => by simp at hx; simp [hx]) (Nat.le_refl 0))
  have s4 := c4.sh
  have m4 : xi h4 19 6 = iN f := (c4.xi (by decide) (by decide)).trans w1
  have v21' : ∀ j, j < f → hi h4 21 j = iN (V j) := fun j hj => by rw [c4'.hi (by decide) (by decide) (s3.lt (by decide))]; exact (v21 j hj).1
  have v22 : ∀ j, j < f → ∀ t, t < 5 → hl h4 22 (j * 5 + t) = lZ (Q j t) := fun j hj t ht => by rw [c4.hl (by decide) (by decide) (s.lt (by decide))]; exact (w3 j hj).2 t ht
  -- new rows for facets and planes
  obtain ⟨fr, efr⟩ : ∃ fr, fr = h4.2.1 := ⟨_, rfl⟩
  obtain ⟨h5, e5⟩ : ∃ h5, h5 = qnew h4 (.inl (0, f, .inl fun _ => iN 0)) f := ⟨_, rfl⟩
  obtain ⟨kf5, -⟩ := kI_new (h := h4) (n := f) (m := f) (g := fun _ => iN 0) (by omega) s4
  rw [← e5, ← efr] at kf5
  have c5 : ChX [21, 25] [] 2 h h5 := c4.trans (m := 1) (by rw [e5]; exact ChX.new s4 (Nat.le_refl _) (by omega))
  have s5 := c5.sh
  obtain ⟨pw, epw⟩ : ∃ pw, pw = h5.2.1 := ⟨_, rfl⟩
  obtain ⟨h6, e6⟩ : ∃ h6, h6 = qnew h5 (.inl (1, f * 5, .inr (.inl fun _ => 0))) (f * 5) := ⟨_, rfl⟩
  obtain ⟨kw6, -⟩ := kL_new (h := h5) (n := f * 5) (m := f * 5) (g := fun _ => 0) (by omega) s5
  rw [← e6, ← epw] at kw6
  have c56 : ChX [] [] 1 h5 h6 := by rw [e6]; exact ChX.new s5 (Nat.le_refl _) (by omega)
  have c6 : ChX [21, 25] [] 3 h h6 := c5.trans (c56.up (A' := [21, 25]) (fun x hx => by cases hx) (Nat.le_refl _))
  have s6 := c6.sh
  have fr97 : 97 ≤ fr := by rw [efr]; exact ge97 s4
  have pw97 : 97 ≤ pw := by rw [epw]; exact ge97 s5
  have frw : fr < pw := by rw [epw]; exact kf5.1.2.2
  have plf : pl < fr := by rw [efr]; exact Nat.lt_of_lt_of_le kp2.1.2.2 (Nat.le_trans (show h2.2.1 ≤ h3.2.1 by rw [e3]; exact (cH f).1.2.1) c4'.1.2.1)
  have kf6 : kI h6 fr f := (NwI c56 kf5 (by intro z; cases z) fr97).1
  have c46 : ChX [] [] 2 h4 h6 := (show ChX [] [] 1 h4 h5 by rw [e5]; exact ChX.new s4 (Nat.le_refl _) (by omega)).trans c56
  have u21 : ∀ j, j < f → hi h6 21 j = iN (V j) := fun j hj => by rw [c46.hi (by decide) (by decide) (s4.lt (by decide))]; exact v21' j hj
  have u22 : ∀ j, j < f → ∀ t, t < 5 → hl h6 22 (j * 5 + t) = lZ (Q j t) := fun j hj t ht => by rw [c46.hl (by decide) (by decide) (s4.lt (by decide))]; exact v22 j hj t ht
  have u25 : ∀ j, j < f → hi h6 25 j = iN (rk j) := fun j hj => by rw [c46.hi (by decide) (by decide) (s4.lt (by decide))]; exact hrk j hj
  obtain ⟨gi, egi⟩ : ∃ gi : Nat → Nat → Int32, gi = fun t j => if j < t then iN (V (rk j)) else hi h6 fr j := ⟨_, rfl⟩
  obtain ⟨gl, egl⟩ : ∃ gl : Nat → Nat → Int64, gl = fun t x => if x < t * 5 then lZ (Q (rk (x / 5)) (x % 5)) else hl h6 pw x := ⟨_, rfl⟩
  obtain ⟨T, eT⟩ : ∃ T : Nat → qH, T = fun t => sL (sI h6 fr (gi t)) pw (gl t) := ⟨_, rfl⟩
  have kwI : ∀ t, kL (sI h6 fr (gi t)) pw (f * 5) := fun t => (hKd_sI kf6).2.2.1 _ _ kw6
  have cT : ∀ t, ChX [fr, pw] [] 0 h6 (T t) := fun t => by
    have a1 : ChX [fr, pw] [] 0 h6 (sI h6 fr (gi t)) := ChX.rowI s6 kf6 (by simp) (by omega)
    rw [eT]
    exact a1.trans0 (ChX.rowL a1.sh (kwI t) (by simp) (by omega))
  have nT : ∀ x, x < 97 → x ∉ [fr, pw] := fun x hx z => by
    simp at z
    omega
  have T0 : h6 = T 0 := by
    have q1 : gi 0 = hi h6 fr := by rw [egi]; funext j; exact if_neg (Nat.not_lt_zero j)
    have q2 : gl 0 = hl h6 pw := by rw [egl]; funext x; exact if_neg (by omega)
    rw [eT]
    show h6 = sL (sI h6 fr (gi 0)) pw (gl 0)
    rw [q1, q2, sI_id kf6, sL_id kw6]
  obtain ⟨y1, y2⟩ := nN f (by omega)
  obtain ⟨y3, y4⟩ := nN (f * 5) (by omega)
  have r5 : ∀ R, qEv (d + 5) 2 qk_34 104 [some (.ref 19), some (.int sc), some (.int (iN ke)), some (.int (iN nc)), some (.ref pl), some (.int (iN nc)), some (.int (iN f)), none, none] [] h3 R ↔ qEv (d + 5) 2 qk_34 129 [some (.ref 19), some (.int sc), some (.int (iN ke)), some (.int (iN nc)), some (.ref pl), some (.int (iN nc)), some (.ref fr), some (.ref pw), some (.int (iN 0))] [] (T 0) R := fun R => by
    have m5 : xi h5 19 6 = iN f := (c5.xi (by decide) (by decide)).trans w1
    rw [← T0, e34_104]
    simp (disch := first | assumption | omega) only [e34_0, e34_1, e34_4, e34_5, e34_6, e34_9, e34_10, e34_11, e34_12, e34_13, e34_15, e34_17, e34_18, e34_20, e34_21, e34_23, e34_25, e34_26, e34_29, e34_32, e34_33, e34_35, e34_36, e34_37, e34_38, e34_41, e34_42, e34_45, e34_47, e34_48, e34_49, e34_51, e34_53, e34_54, e34_55, e34_56, e34_59, e34_62, e34_65, e34_68, e34_69, e34_71, e34_73, e34_74, e34_77, e34_80, e34_81, e34_84, e34_86, e34_87, e34_90, e34_92, e34_93, e34_94, e34_97, e34_98, e34_101, e34_105, e34_108, e34_109, e34_112, e34_114, e34_116, e34_117, e34_120, e34_121, e34_122, e34_124, e34_126, e34_127, e34_131, e34_132, e34_135, e34_138, e34_140, e34_142, e34_143, e34_146, e34_147, e34_150, e34_152, e34_153, e34_154, e34_155, e34_156, e34_159, e34_160, e34_163, e34_165, e34_166, e34_167, e34_168, e34_170, e34_172, e34_173, e34_174, e34_175, e34_178, e34_181, e34_184, e34_187, e34_188, e34_189, e34_192, e34_193, e34_195, e34_196, e34_197, e34_199, e34_202, e34_204, e34_207, e34_207N, m34, ↓reduceIte, qg_0, qg_1, qg_2, qg_3, qg_4, qg_5, qg_6, qg_7, qg_8, qg_9, qg_10, qg_11, qg_12, qg_13, not_true_eq_false, not_false_eq_true, Nat.reduceBEq, Bool.false_eq_true, ex1, ex3, ex4, exF, qfit_i, qfit_l, qfit_r, qfit_n, qfit_b0, qfit_b1, qcat_i, qcat_r, qcat_n, qcat_l, qroom_0, qroom_c, List.map_cons, List.map_nil, List.sum_cons, List.sum_nil, Nat.reduceAdd, Nat.reduceMul, Nat.reduceLT, Nat.reduceLeDiff, Nat.reduceEqDiff, Nat.reduceSub, decide_true, true_and, and_true, and_self, if_true, if_false, Option.toList_some, Option.toList_none, List.cons_append, List.nil_append, qsL, qlong, List.length_cons, List.length_nil, iN_L, exI, iN_add, iN_mul, iN_le, iN_lt, iN_eq, Nat.le_refl, qfN0, qfN1, uX_16, vX_16, uX_19, vX_19, uX_27, vX_27, uX_30, vX_30, uX_39, vX_39, uX_41, vX_41, uX_43, vX_43, uX_46, vX_46, uX_50, vX_50, uX_53, vX_53, r4, gX_19_6, m4, y1, y2, ← efr, ← e5, m5, y3, y4, ← epw, ← e6, show 19 < fr by omega, show 19 < pw by omega, or_self, or_false, false_or, show ¬ f < 0 by omega, show ¬ 1000000 < f by omega, show ¬ f * 5 < 0 by omega, show ¬ 1000000 < f * 5 by omega]
  have r6 : ∀ R, qEv (d + 5) 2 qk_34 129 [some (.ref 19), some (.int sc), some (.int (iN ke)), some (.int (iN nc)), some (.ref pl), some (.int (iN nc)), some (.ref fr), some (.ref pw), some (.int (iN 0))] [] (T 0) R ↔ qEv (d + 5) 2 qk_34 184 [some (.ref 19), some (.int sc), some (.int (iN ke)), some (.int (iN nc)), some (.ref pl), some (.int (iN nc)), some (.ref fr), some (.ref pw), some (.int (iN f))] [] (T f) R := fun R => by
    refine Iff.trans (loop_up (n := f) (L := fun t => [some (.ref 19), some (.int sc), some (.int (iN ke)), some (.int (iN nc)), some (.ref pl), some (.int (iN nc)), some (.ref fr), some (.ref pw), some (.int (iN t))]) (H := T) ?_) ?_
    · intro t ht
      try dsimp only
      have st := (cT t).sh
      have mt : xi (T t) 19 6 = iN f := ((cT t).xi (by decide) (by decide)).trans ((c6.xi (by decide) (by decide)).trans w1)
      have rt := rl.1 t ht
      have q1 : qiald (T t) 25 (iN t) = some (iN (rk t)) := by rw [rX_25 st (by omega), (cT t).hi (nT 25 (by decide)) (by decide) (s6.lt (by decide)), u25 t ht]
      have q2 : qiald (T t) 21 (iN (rk t)) = some (iN (V (rk t))) := by rw [rX_21 st (by omega), (cT t).hi (nT 21 (by decide)) (by decide) (s6.lt (by decide)), u21 _ rt]
      have kft : kI (T t) fr f := by rw [eT]; exact (hKd_sL (kwI t)).2.1 _ _ ((hKd_sI kf6).2.1 _ _ kf6)
      obtain ⟨T1, eT1⟩ : ∃ T1, T1 = sL (sI h6 fr (gi (t + 1))) pw (gl t) := ⟨_, rfl⟩
      have frpw : fr ≠ pw := by omega
      have comm : ∀ (g : Nat → Int32) (g' : Nat → Int32) (gl' : Nat → Int64), sI (sL (sI h6 fr g) pw gl') fr g' = sL (sI h6 fr g') pw gl' := fun g g' gl' => by
        have e1 : hlen (sI h6 fr g) pw = hlen h6 pw := by unfold hlen; rw [at_sI, if_neg (Ne.symm frpw)]
        have e2 : hlen (sI h6 fr g') pw = hlen h6 pw := by unfold hlen; rw [at_sI, if_neg (Ne.symm frpw)]
        have e3 : hlen (sL (sI h6 fr g) pw gl') fr = hlen h6 fr := by
          unfold hlen; rw [at_sL, if_neg frpw, at_sI, if_pos rfl]
          rw [kf6.val]
          unfold hlen
          rw [kf6.val]
        refine Prod.ext (funext fun x => ?_) rfl
        rw [at_sI, at_sL, at_sL, at_sI, at_sI, e1, e2, e3]
        by_cases xa : x = fr
        · rw [if_pos xa, if_neg (fun z => frpw (xa.symm.trans z)), if_pos xa]
        · rw [if_neg xa, if_neg xa, if_neg xa]
      have hft : hi (T t) fr = gi t := by
        rw [eT]
        show hi (sL (sI h6 fr (gi t)) pw (gl t)) fr = _
        rw [hi_sL (kwI t), hi_sI, if_pos rfl]
      have w1' : qiast (T t) fr (iN t) (iN (V (rk t))) = some T1 := by
        rw [wrI kft ht, hft, eT1, eT]
        show some (sI (sL (sI h6 fr (gi t)) pw (gl t)) fr (upd (gi t) t (iN (V (rk t))))) = _
        rw [comm]
        congr 3
        rw [egi]
        funext j
        show (if j = t then iN (V (rk t)) else (if j < t then iN (V (rk j)) else hi h6 fr j)) = (if j < t + 1 then iN (V (rk j)) else hi h6 fr j)
        by_cases e : j = t
        · rw [if_pos e, if_pos (by omega), e]
        · rw [if_neg e]
          by_cases e2 : j < t
          · rw [if_pos e2, if_pos (by omega)]
          · rw [if_neg e2, if_neg (by omega)]
      have cT1 : ChX [fr, pw] [] 0 h6 T1 := by
        have a1 : ChX [fr, pw] [] 0 h6 (sI h6 fr (gi (t + 1))) := ChX.rowI s6 kf6 (by simp) (by omega)
        rw [eT1]
        exact a1.trans0 (ChX.rowL a1.sh (kwI (t + 1)) (by simp) (by omega))
      have st1 := cT1.sh
      have q3 : qiald T1 25 (iN t) = some (iN (rk t)) := by rw [rX_25 st1 (by omega), cT1.hi (nT 25 (by decide)) (by decide) (s6.lt (by decide)), u25 t ht]
      have kwt : kL T1 pw (f * 5) := by rw [eT1]; exact (hKd_sL (kwI (t + 1))).2.2.1 _ _ (kwI (t + 1))
      have cp := cpL (sp := rk t * 5) (dp := t * 5) (n := 5) (kX_22 st1) kwt (by omega) (by omega)
      have e22 : hl T1 22 = hl h6 22 := cT1.hl (nT 22 (by decide)) (by decide) (s6.lt (by decide))
      have epw' : hl T1 pw = gl t := by rw [eT1, hl_sL, if_pos rfl]
      have cp' : qcopy T1 22 (iN (rk t * 5)) pw (iN (t * 5)) (iN 5) = some (T (t + 1)) := by
        rw [cp, e22, epw', eT1, eT]
        show some (sL (sL (sI h6 fr (gi (t + 1))) pw (gl t)) pw _) = some (sL (sI h6 fr (gi (t + 1))) pw (gl (t + 1)))
        rw [sL_sL]
        congr 2
        rw [egl]
        funext x
        show (if t * 5 ≤ x ∧ x < t * 5 + 5 then hl h6 22 (rk t * 5 + (x - t * 5)) else (if x < t * 5 then lZ (Q (rk (x / 5)) (x % 5)) else hl h6 pw x)) = (if x < (t + 1) * 5 then lZ (Q (rk (x / 5)) (x % 5)) else hl h6 pw x)
        by_cases e : t * 5 ≤ x ∧ x < t * 5 + 5
        · rw [if_pos e, if_pos (by omega), u22 _ rt _ (by omega), show x / 5 = t by omega, show x % 5 = x - t * 5 by omega]
        · rw [if_neg e]
          by_cases e2 : x < t * 5
          · rw [if_pos e2, if_pos (by omega)]
          · rw [if_neg e2, if_neg (by omega)]
      rw [e34_129]
      simp (disch := first | assumption | omega) only [e34_0, e34_1, e34_4, e34_5, e34_6, e34_9, e34_10, e34_11, e34_12, e34_13, e34_15, e34_17, e34_18, e34_20, e34_21, e34_23, e34_25, e34_26, e34_29, e34_32, e34_33, e34_35, e34_36, e34_37, e34_38, e34_41, e34_42, e34_45, e34_47, e34_48, e34_49, e34_51, e34_53, e34_54, e34_55, e34_56, e34_59, e34_62, e34_65, e34_68, e34_69, e34_71, e34_73, e34_74, e34_77, e34_80, e34_81, e34_84, e34_86, e34_87, e34_90, e34_92, e34_93, e34_94, e34_97, e34_98, e34_101, e34_104, e34_105, e34_108, e34_109, e34_112, e34_114, e34_116, e34_117, e34_120, e34_121, e34_122, e34_124, e34_126, e34_127, e34_131, e34_132, e34_135, e34_138, e34_140, e34_142, e34_143, e34_146, e34_147, e34_150, e34_152, e34_153, e34_154, e34_155, e34_156, e34_159, e34_160, e34_163, e34_165, e34_166, e34_167, e34_168, e34_170, e34_172, e34_173, e34_174, e34_175, e34_178, e34_181, e34_187, e34_188, e34_189, e34_192, e34_193, e34_195, e34_196, e34_197, e34_199, e34_202, e34_204, e34_207, e34_207N, m34, ↓reduceIte, qg_0, qg_1, qg_2, qg_3, qg_4, qg_5, qg_6, qg_7, qg_8, qg_9, qg_10, qg_11, qg_12, qg_13, not_true_eq_false, not_false_eq_true, Nat.reduceBEq, Bool.false_eq_true, ex1, ex3, ex4, exF, qfit_i, qfit_l, qfit_r, qfit_n, qfit_b0, qfit_b1, qcat_i, qcat_r, qcat_n, qcat_l, qroom_0, qroom_c, List.map_cons, List.map_nil, List.sum_cons, List.sum_nil, Nat.reduceAdd, Nat.reduceMul, Nat.reduceLT, Nat.reduceLeDiff, Nat.reduceEqDiff, Nat.reduceSub, decide_true, true_and, and_true, and_self, if_true, if_false, Option.toList_some, Option.toList_none, List.cons_append, List.nil_append, qsL, qlong, List.length_cons, List.length_nil, iN_L, exI, iN_add, iN_mul, iN_le, iN_lt, iN_eq, Nat.le_refl, qfN0, qfN1, uX_16, vX_16, uX_19, vX_19, uX_27, vX_27, uX_30, vX_30, uX_39, vX_39, uX_41, vX_41, uX_43, vX_43, uX_46, vX_46, uX_50, vX_50, uX_53, vX_53, gX_19_6, mt, show ¬ f ≤ t by omega, gX_19_4, gX_19_9, q1, q2, w1', gX_19_5, q3, cp']
    · try dsimp only
      have st := (cT f).sh
      have mt : xi (T f) 19 6 = iN f := ((cT f).xi (by decide) (by decide)).trans ((c6.xi (by decide) (by decide)).trans w1)
      rw [e34_129]
      simp (disch := first | assumption | omega) only [e34_0, e34_1, e34_4, e34_5, e34_6, e34_9, e34_10, e34_11, e34_12, e34_13, e34_15, e34_17, e34_18, e34_20, e34_21, e34_23, e34_25, e34_26, e34_29, e34_32, e34_33, e34_35, e34_36, e34_37, e34_38, e34_41, e34_42, e34_45, e34_47, e34_48, e34_49, e34_51, e34_53, e34_54, e34_55, e34_56, e34_59, e34_62, e34_65, e34_68, e34_69, e34_71, e34_73, e34_74, e34_77, e34_80, e34_81, e34_84, e34_86, e34_87, e34_90, e34_92, e34_93, e34_94, e34_97, e34_98, e34_101, e34_104, e34_105, e34_108, e34_109, e34_112, e34_114, e34_116, e34_117, e34_120, e34_121, e34_122, e34_124, e34_126, e34_127, e34_131, e34_132, e34_135, e34_138, e34_140, e34_142, e34_143, e34_146, e34_147, e34_150, e34_152, e34_153, e34_154, e34_155, e34_156, e34_159, e34_160, e34_163, e34_165, e34_166, e34_167, e34_168, e34_170, e34_172, e34_173, e34_174, e34_175, e34_178, e34_181, e34_187, e34_188, e34_189, e34_192, e34_193, e34_195, e34_196, e34_197, e34_199, e34_202, e34_204, e34_207, e34_207N, m34, ↓reduceIte, qg_0, qg_1, qg_2, qg_3, qg_4, qg_5, qg_6, qg_7, qg_8, qg_9, qg_10, qg_11, qg_12, qg_13, not_true_eq_false, not_false_eq_true, Nat.reduceBEq, Bool.false_eq_true, ex1, ex3, ex4, exF, qfit_i, qfit_l, qfit_r, qfit_n, qfit_b0, qfit_b1, qcat_i, qcat_r, qcat_n, qcat_l, qroom_0, qroom_c, List.map_cons, List.map_nil, List.sum_cons, List.sum_nil, Nat.reduceAdd, Nat.reduceMul, Nat.reduceLT, Nat.reduceLeDiff, Nat.reduceEqDiff, Nat.reduceSub, decide_true, true_and, and_true, and_self, if_true, if_false, Option.toList_some, Option.toList_none, List.cons_append, List.nil_append, qsL, qlong, List.length_cons, List.length_nil, iN_L, exI, iN_add, iN_mul, iN_le, iN_lt, iN_eq, Nat.le_refl, qfN0, qfN1, uX_16, vX_16, uX_19, vX_19, uX_27, vX_27, uX_30, vX_30, uX_39, vX_39, uX_41, vX_41, uX_43, vX_43, uX_46, vX_46, uX_50, vX_50, uX_53, vX_53, gX_19_6, mt]
  obtain ⟨h7, e7⟩ : ∃ h7, h7 = T f := ⟨_, rfl⟩
  rw [← e7] at r6
  have cT7 : ChX [fr, pw] [] 0 h6 h7 := by rw [e7]; exact cT f
  have s7 := cT7.sh
  have kf7 : kI h7 fr f := by rw [e7, eT]; exact (hKd_sL (kwI f)).2.1 _ _ ((hKd_sI kf6).2.1 _ _ kf6)
  have kw7 : kL h7 pw (f * 5) := by rw [e7, eT]; exact (hKd_sL (kwI f)).2.2.1 _ _ (kwI f)
  have hf7 : ∀ j, j < f → hi h7 fr j = iN (V (rk j)) := fun j hj => by
    rw [e7, eT]
    show hi (sL (sI h6 fr (gi f)) pw (gl f)) fr j = _
    rw [hi_sL (kwI f), hi_sI, if_pos rfl, egi]
    exact if_pos hj
  have hw7 : ∀ j, j < f → ∀ t, t < 5 → hl h7 pw (j * 5 + t) = lZ (Q (rk j) t) := fun j hj t ht => by
    rw [e7, eT]
    show hl (sL (sI h6 fr (gi f)) pw (gl f)) pw (j * 5 + t) = _
    rw [hl_sL, if_pos rfl, egl]
    show (if j * 5 + t < f * 5 then lZ (Q (rk ((j * 5 + t) / 5)) ((j * 5 + t) % 5)) else _) = _
    rw [if_pos (by omega), show (j * 5 + t) / 5 = j by omega, show (j * 5 + t) % 5 = t by omega]
  have hfr : h.2.1 ≤ fr := by rw [efr]; exact c4.1.2.1
  have c7 : ChX [21, 25] [] 3 h h7 := by
    have a1 : ChX [fr, pw, 21, 25] [] 3 h h7 := (c6.up (A' := [fr, pw, 21, 25]) (fun x hx => List.mem_cons_of_mem _ (List.mem_cons_of_mem _ hx)) (Nat.le_refl _)).trans (cT7.up (A' := [fr, pw, 21, 25]) (fun x hx => by simp at hx; rcases hx with rfl | rfl <;> simp) (Nat.le_refl 0))
    exact (ChX.drop (a := pw) (ChX.drop (a := fr) a1 hfr) (by omega))
  -- the object
  obtain ⟨a, ea⟩ : ∃ a, a = h7.2.1 := ⟨_, rfl⟩
  obtain ⟨h8, e8⟩ : ∃ h8, h8 = qnew h7 (.inr (8, qdef 8)) 10 := ⟨_, rfl⟩
  obtain ⟨ka8, hfa8⟩ := kO_new (h := h7) (m := 10) (F := qdef 8) s7
  rw [← e8, ← ea] at ka8 hfa8
  have c78 : ChX [] [] 1 h7 h8 := by rw [e8]; exact ChX.new s7 (Nat.le_refl _) (by omega)
  have s8 := c78.sh
  have a97 : 97 ≤ a := by rw [ea]; exact ge97 s7
  have c8 : ChX [21, 25] [] 4 h h8 := c7.trans (c78.up (A' := [21, 25]) (fun x hx => by cases hx) (Nat.le_refl _))
  have fl1 := facL_rk fl rl
  obtain ⟨G1, gg1⟩ := fcG_of ok fl1.1 h0f
  have b1 : bdG l D f (fun j => S (rk j)) G1 := ⟨h0f, gg1, fun x => facL_iff fl1⟩
  have fcV : ∀ j, fcs l D (fun j => S (rk j)) j = V (rk j) := fun j => by rw [eV]; rfl
  have lenf : ((List.range f).map (fcs l D fun j => S (rk j))).length = f := by rw [List.length_map, List.length_range]
  obtain ⟨kf8, hf8⟩ := NwI c78 kf7 (by intro z; cases z) fr97
  have nw8 : NwL h8 fr ((List.range f).map (fcs l D fun j => S (rk j))) := ⟨fr97, by rw [lenf]; exact kf8, fun j hj => by
    rw [lenf] at hj
    rw [hf8, rng_at hj, fcV, hf7 j hj]⟩
  have srt8 : ((List.range f).map (fcs l D fun j => S (rk j))).Pairwise (· < ·) := by
    rw [List.pairwise_map]
    refine List.Pairwise.imp_of_mem ?_ List.pairwise_lt_range
    intro x y hx hy hxy
    rw [fcV, fcV]
    exact rl.2.1 x y hxy (List.mem_range.mp hy)
  have d8 : xi h8 19 3 = iN D := (c8.xi (by decide) (by decide)).trans v3
  obtain ⟨h9, q, r9, c89, leq, ac9⟩ := x_allCells (d := d + 1) s8 ok b1 d8 f104 nw8 srt8
  have s9 := c89.sh
  have ka9 : kO h9 a 8 := ka8.sm c89.1.2.1 (c89.at (fun z => by have := List.mem_singleton.mp z; omega) (no_XO a97) ka8.1.2)
  have hfa9 : hf h9 a = qdef 8 := by rw [hf_at (c89.at (fun z => by have := List.mem_singleton.mp z; omega) (no_XO a97) ka8.1.2)]; exact hfa8
  have P := SoP.of ok b1 f104
  obtain ⟨h10, e, r10, c910, ka10, ⟨g0, g1, g2, g3, g4, g5, g6⟩, ⟨g7, g8, g9⟩, e97, lee, kie, hie⟩ := x_initS (d := d + 1) (D := D) (p := pl) (w := pw) (sc := sc) (nc := nc) s9 ka9 a97 ac9 (by rw [b1.cls0 ok, List.length_map, List.length_range, enc]) n16 (fun y hy => by
    obtain ⟨x, z, h1, h2, h3⟩ := b1.edge2 ok (b1.cls_mem.mp hy)
    exact ⟨x, z, h1, by rw [enc]; exact h2, h3⟩) (P.2.2.2.2.1 1 (by decide)).1
  have lea : h.2.1 ≤ a := by rw [ea]; exact c7.1.2.1
  have ac10 := ac9.chO c910 ka9
  refine ⟨h10, a, fun R => ?_, ?_, lea, fun bs => ?_⟩
  · have dm7 : xi h8 19 3 = iN D := d8
    rw [← enc] at r9
    rw [r0 R, r2 R, r3 R, r5 R, r6 R, e34_184]
    simp (disch := first | assumption | omega) only [e34_0, e34_1, e34_4, e34_5, e34_6, e34_9, e34_10, e34_11, e34_12, e34_13, e34_15, e34_17, e34_18, e34_20, e34_21, e34_23, e34_25, e34_26, e34_29, e34_32, e34_33, e34_35, e34_36, e34_37, e34_38, e34_41, e34_42, e34_45, e34_47, e34_48, e34_49, e34_51, e34_53, e34_54, e34_55, e34_56, e34_59, e34_62, e34_65, e34_68, e34_69, e34_71, e34_73, e34_74, e34_77, e34_80, e34_81, e34_84, e34_86, e34_87, e34_90, e34_92, e34_93, e34_94, e34_97, e34_98, e34_101, e34_104, e34_105, e34_108, e34_109, e34_112, e34_114, e34_116, e34_117, e34_120, e34_121, e34_122, e34_124, e34_126, e34_127, e34_129, e34_131, e34_132, e34_135, e34_138, e34_140, e34_142, e34_143, e34_146, e34_147, e34_150, e34_152, e34_153, e34_154, e34_155, e34_156, e34_159, e34_160, e34_163, e34_165, e34_166, e34_167, e34_168, e34_170, e34_172, e34_173, e34_174, e34_175, e34_178, e34_181, e34_187, e34_188, e34_189, e34_192, e34_193, e34_195, e34_196, e34_197, e34_199, e34_202, e34_204, e34_207, e34_207N, m34, ↓reduceIte, qg_0, qg_1, qg_2, qg_3, qg_4, qg_5, qg_6, qg_7, qg_8, qg_9, qg_10, qg_11, qg_12, qg_13, not_true_eq_false, not_false_eq_true, Nat.reduceBEq, Bool.false_eq_true, ex1, ex3, ex4, exF, qfit_i, qfit_l, qfit_r, qfit_n, qfit_b0, qfit_b1, qcat_i, qcat_r, qcat_n, qcat_l, qroom_0, qroom_c, List.map_cons, List.map_nil, List.sum_cons, List.sum_nil, Nat.reduceAdd, Nat.reduceMul, Nat.reduceLT, Nat.reduceLeDiff, Nat.reduceEqDiff, Nat.reduceSub, decide_true, true_and, and_true, and_self, if_true, if_false, Option.toList_some, Option.toList_none, List.cons_append, List.nil_append, qsL, qlong, List.length_cons, List.length_nil, iN_L, exI, iN_add, iN_mul, iN_le, iN_lt, iN_eq, Nat.le_refl, qfN0, qfN1, uX_16, vX_16, uX_19, vX_19, uX_27, vX_27, uX_30, vX_30, uX_39, vX_39, uX_41, vX_41, uX_43, vX_43, uX_46, vX_46, uX_50, vX_50, uX_53, vX_53, ← ea, ← e8, show 19 < a by omega, show ∀ x, (Value.ref x).category = 1 from fun _ => rfl, gX_19_3, dm7, r9, r10]
  · have c810 : ChX [a, 26] [] 9 h8 h10 := (c89.up (A' := [a, 26]) (fun x hx => List.mem_cons_of_mem _ hx) (Nat.le_refl _)).trans (c910.up (A' := [a, 26]) (fun x hx => by rw [List.mem_singleton.mp hx]; exact List.mem_cons_self) (Nat.le_refl 1))
    have c10 : ChX [a, 21, 25, 26] [] 13 h h10 := (c8.up (A' := [a, 21, 25, 26]) (fun x hx => by simp at hx; rcases hx with rfl | rfl <;> simp) (Nat.le_refl _)).trans (c810.up (A' := [a, 21, 25, 26]) (fun x hx => by simp at hx; rcases hx with rfl | rfl <;> simp) (Nat.le_refl _))
    exact (c10.drop lea).up (fun _ z => z) (by decide)
  · have gB : (bs ++ [(l, D, sc)]).getD bs.length b0 = (l, D, sc) := by rw [getD_last (by omega), if_pos rfl]
    have eD : dmn (bs ++ [(l, D, sc)]) bs.length = D := by unfold dmn; rw [gB]
    have eS : scl (bs ++ [(l, D, sc)]) bs.length = sc := by unfold scl; rw [gB]
    have eC : cnr (bs ++ [(l, D, sc)]) bs.length = crn l D := by unfold cnr; rw [gB]
    have eK : cel (bs ++ [(l, D, sc)]) bs.length = cls l D := by funext K; unfold cel; rw [gB]
    have eF : fct (bs ++ [(l, D, sc)]) bs.length = cls l D (D - 1) := by unfold fct; rw [eK, eD]
    have ln := crn_len l D
    have eFq : cls l D (D - 1) = (List.range f).map (fcs l D fun j => S (rk j)) := b1.cls_eq srt8 fun x => by
      rw [List.mem_map]
      constructor
      · rintro ⟨j, hj, rfl⟩; exact Or.inl ⟨rfl, b1.fcI.mpr ⟨j, List.mem_range.mp hj, rfl⟩⟩
      · rintro (⟨-, z⟩ | ⟨z, -⟩)
        · obtain ⟨j, hj, e⟩ := b1.fcI.mp z; exact ⟨j, List.mem_range.mpr hj, e.symm⟩
        · omega
    have lenF : (cls l D (D - 1)).length = f := by rw [eFq]; exact lenf
    have getF : ∀ j, j < f → (cls l D (D - 1)).getD j 0 = sqP l D (S (rk j)) l.length := fun j hj => by rw [eFq, rng_at hj]; rfl
    -- what has not changed since
    have k26p : kI h6 pl (nc * 4) ∧ hi h6 pl = hi h2 pl := by
      have a1 : ChX [21, 25] [] 2 h2 h6 := (((by rw [e3]; exact cH f : ChX [21] [] 0 h2 h3).up (A' := [21, 25]) (k2 := 0) (fun x hx => by simp at hx; simp [hx]) (Nat.le_refl _)).trans (c4'.up (A' := [21, 25]) (k2 := 0) (fun x hx => by simp at hx; simp [hx]) (Nat.le_refl _))).trans (c46.up (A' := [21, 25]) (k2 := 2) (fun x hx => by cases hx) (Nat.le_refl _))
      exact NwI a1 kp2 (by simp; omega) pl97
    obtain ⟨k6p, q6p⟩ := k26p
    have pA : pl ∉ [fr, pw] := by simp; omega
    obtain ⟨k7p, q7p⟩ := NwI cT7 k6p pA pl97
    have apl : pl ≠ a := by have := k7p.1.2.2; omega
    have apw : pw ≠ a := by have := kw7.1.2.2; omega
    have c710 : ChX [a, 26] [] 10 h7 h10 := ((c78.up (A' := [a, 26]) (k2 := 1) (fun x hx => by cases hx) (Nat.le_refl _)).trans (c89.up (A' := [a, 26]) (k2 := 8) (fun x hx => List.mem_cons_of_mem _ hx) (Nat.le_refl _))).trans (c910.up (A' := [a, 26]) (k2 := 1) (fun x hx => by rw [List.mem_singleton.mp hx]; exact List.mem_cons_self) (Nat.le_refl _))
    obtain ⟨k10p, q10p⟩ := NwI c710 k7p (by simp; omega) pl97
    obtain ⟨k10w, q10w⟩ := NwLg c710 kw7 (by simp; omega) pw97
    obtain ⟨x0, x1, x2⟩ := ac10
    obtain ⟨B, hB⟩ : ∃ B : Nat → Nat, ∀ K, K < 4 → hr h10 q K = some (B K) ∧ NwL h10 (B K) (cls l D K) := by
      have : ∀ K, ∃ e, K < 4 → hr h10 q K = some e ∧ NwL h10 e (cls l D K) := fun K => by
        by_cases hK : K < 4
        · obtain ⟨e, w⟩ := x2 K hK; exact ⟨e, fun _ => w⟩
        · exact ⟨0, fun z => absurd z hK⟩
      obtain ⟨B, hB⟩ := Classical.axiomOfChoice this
      exact ⟨B, hB⟩
    unfold SoX
    rw [eD, eS, eC, eK, eF, gB]
    have lnc : (crn l D).length = nc := by rw [ln, enc]
    refine ⟨P, ⟨pl, q, pw, e, B, ⟨⟨ka10, a97⟩, ⟨g0, by rw [lnc]; exact g1, g2, g3, g4, g5, g6⟩, ⟨pl97, by rw [lnc, Nat.mul_comm]; exact k10p, fun c hc t ht => ?_⟩, ⟨x0, x1, fun K hK => ⟨(hB K hK).1, (hB K hK).2.1, (hB K hK).2.2.1, (hB K hK).2.2.2⟩⟩, ⟨e97, by rw [lnc]; exact kie, fun c hc => ?_⟩⟩, fun j => Q (rk j), ⟨pw97, ?_⟩, fun j hj => ⟨⟨?_, ?_⟩, fun t ht => ?_⟩⟩, ?_⟩
    · rw [lnc] at hc
      rw [q10p, q7p, q6p]
      exact hp2 c hc t ht
    · rw [lnc] at hc
      rw [lnc]; exact hie c hc
    · rw [lenF, Nat.mul_comm]; exact k10w
    · rw [lenF] at hj
      obtain ⟨p0, p1, p2, p3, i, g, eS', eQ⟩ := fl.1.1 (rk j) (rl.1 j hj)
      obtain ⟨-, u, hu, hq⟩ := pq (rk j) (rl.1 j hj)
      refine ⟨Q' (rk j), 1, u, ⟨p0, p1, p2, p3, i, g, by rw [getF j hj, eS'], fun t _ => eQ t⟩, ⟨by decide, hu⟩, fun t ht => by rw [Int.one_mul]; exact hq t ht⟩
    · rw [lenF] at hj
      exact (pq (rk j) (rl.1 j hj)).1
    · rw [lenF] at hj
      rw [q10w]; exact hw7 j hj t ht
    · refine ⟨Or.inl g7, Or.inl (by rw [g8, hfa9]; rfl), [], fun z => absurd (by rw [g9, hfa9]; rfl) z, Or.inl (by rw [g9, hfa9]; rfl)⟩
end XMAKE

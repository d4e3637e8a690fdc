/-! ===== THE REFERENCE: bodies and THE DRAFT; body ===== -/
abbrev bdy : Type := List pt4 × Nat × Int32
def b0 : bdy := ([], 2, 0)
/-- the bodies of the reference -/
def BsM (h : qH) (bs : List bdy) : Prop := bs.length ≤ 24 ∧ mi h 0 = iN bs.length ∧ ∀ i, i < bs.length → okP (bs.getD i b0).1 (bs.getD i b0).2.1 ∧ solid (bs.getD i b0).1 (bs.getD i b0).2.1 ∧ BodyM h i (bs.getD i b0).1 (bs.getD i b0).2.1 (bs.getD i b0).2.2
theorem BsM.ch {A J : List Nat} {h h' : qH} {bs : List bdy} (c : Ch A J h h') (hA : ∀ x, x ∈ [56, 57, 58, 59, 60, 61, 62] → x ∉ A) (h0 : 0 ∉ J) (b : BsM h bs) : BsM h' bs := by
  refine ⟨b.1, (c.mi h0).trans b.2.1, fun i hi' => ?_⟩
  obtain ⟨o, q, m⟩ := b.2.2 i hi'
  exact ⟨o, q, m.same o.2.2.1 o.2.2.2.2 (sameB.of c hA)⟩
theorem getD_last {bs : List bdy} {b : bdy} {i : Nat} (hi' : i < bs.length + 1) : (bs ++ [b]).getD i b0 = if i = bs.length then b else bs.getD i b0 := by
  rw [List.getD_eq_getElem?_getD, List.getD_eq_getElem?_getD]
  by_cases e : i = bs.length
  · rw [if_pos e, e, List.getElem?_append_right (Nat.le_refl _), Nat.sub_self]; rfl
  · rw [if_neg e, List.getElem?_append_left (by omega)]
theorem BsM.push {h h1 h2 : qH} {bs : List bdy} {l : List pt4} {D : Nat} {sc : Int32} (b : BsM h1 bs) (hn : bs.length < 24) (ok : okP l D) (so : solid l D) (m : mi h2 0 = iN (bs.length + 1)) (bm : BodyM h2 bs.length l D sc) (sm : ∀ j, j ≠ bs.length → sameB h1 h2 j) : BsM h2 (bs ++ [(l, D, sc)]) := by
  refine ⟨by rw [List.length_append]; exact hn, by rw [m, List.length_append]; rfl, fun i hi' => ?_⟩
  rw [List.length_append] at hi'
  have hi2 : i < bs.length + 1 := hi'
  rw [getD_last hi2]
  by_cases e : i = bs.length
  · rw [if_pos e, e]; exact ⟨ok, so, bm⟩
  · rw [if_neg e]
    obtain ⟨o, q, m⟩ := b.2.2 i (by omega)
    exact ⟨o, q, m.same o.2.2.1 o.2.2.2.2 (sm i e)⟩
theorem addP_nd {l : List pt4} {q : pt4} (h : l.Nodup) : (addP l q).Nodup := by
  unfold addP
  split
  · exact h
  · rename_i hq
    rw [List.nodup_append]
    refine ⟨h, List.nodup_cons.mpr ⟨List.not_mem_nil, List.nodup_nil⟩, fun a ha b hb e => ?_⟩
    rw [List.mem_singleton.mp hb] at e
    exact hq (e ▸ ha)
theorem prj_prj (D : Nat) (q : pt4) : prj D (prj D q) = prj D q := by
  unfold prj
  by_cases h2 : 2 < D <;> by_cases h3 : 3 < D <;> simp [h2, h3]
theorem addP_pj {D : Nat} {l : List pt4} {q : pt4} (h : ∀ r, r ∈ l → prj D r = r) (hq : prj D q = q) : ∀ r, r ∈ addP l q → prj D r = r := by
  unfold addP
  split
  · exact h
  · intro r hr
    rcases List.mem_append.mp hr with hr | hr
    · exact h r hr
    · rw [List.mem_singleton.mp hr]; exact hq
theorem tellAll_ok {D : Nat} : ∀ (qs l : List pt4), l.Nodup → (∀ r, r ∈ l → prj D r = r) → smP l → smP qs → (tellAll D l qs).Nodup ∧ (∀ r, r ∈ tellAll D l qs → prj D r = r) ∧ smP (tellAll D l qs)
  | [], l, h1, h2, h3, _ => ⟨h1, h2, h3⟩
  | q :: qs, l, h1, h2, h3, h4 => by
    show (tellAll D (addP l (prj D q)) qs).Nodup ∧ (∀ r, r ∈ tellAll D (addP l (prj D q)) qs → prj D r = r) ∧ smP (tellAll D (addP l (prj D q)) qs)
    exact tellAll_ok qs _ (addP_nd h1) (addP_pj h2 (prj_prj D q)) (addP_sm h3 (prj_sm (h4 q List.mem_cons_self))) (fun r hr => h4 r (List.mem_cons_of_mem _ hr))
theorem DrV.sm {h : qH} {dr : List pt4} (v : DrV h dr) : smP dr := by
  intro q hq k hk
  obtain ⟨p, hp, e⟩ := List.getElem_of_mem hq
  have := (v.2.2 p hp k hk).2
  unfold lP at this
  rw [lP_at hp, e] at this
  exact this
section BODY
variable {d D : Nat} {h : qH} {bs : List bdy} {dr : List pt4}
/-- rows and fields that calls of the reference use between them -/
def scrA : List Nat := [63, 64, 65, 66, 67, 68, 69, 71, 72, 73, 74]
def bdP (h : qH) (D : Nat) (dr : List pt4) (x : Int32) : Nat → qL → qH → Prop := fun k L h' => L = [some (.ref 55), some (.int x), some (.int (iN k))] ∧ Ch [63] [8, 9] h h' ∧ mi h' 8 = iN D ∧ PtV h' (tellAll D [] (dr.take k))
theorem in_dim {x : Int32} : ((2 : Int64) ≤ x.toInt64 ∧ x.toInt64 ≤ 4) ↔ ∃ D : Nat, (2 ≤ D ∧ D ≤ 4) ∧ x = iN D := by
  rw [show (2 : Int64) = (2 : Int32).toInt64 from rfl, show (4 : Int64) = (4 : Int32).toInt64 from rfl, i64_le, i64_le]
  constructor
  · rintro ⟨h1, h2⟩
    obtain ⟨D, hD, rfl⟩ := iN_of (Int32.le_trans (show (0 : Int32) ≤ 2 by decide) h1)
    rw [show (2 : Int32) = iN 2 from rfl, iN_le (by omega) hD] at h1
    rw [show (4 : Int32) = iN 4 from rfl, iN_le hD (by omega)] at h2
    exact ⟨D, ⟨h1, h2⟩, rfl⟩
  · rintro ⟨D, hD, rfl⟩
    rw [show (2 : Int32) = iN 2 from rfl, show (4 : Int32) = iN 4 from rfl, iN_le (by omega) (by omega), iN_le (by omega) (by omega)]
    exact hD
set_option maxRecDepth 100000 in
set_option maxHeartbeats 16000000 in
theorem s_body (gg : geo) (s : ShM h) (B : BsM h bs) (dv : DrV h dr) (x : Int32) :
    ((¬ ∃ D : Nat, (2 ≤ D ∧ D ≤ 4) ∧ x = iN D) → ∀ R, qMC (d + 6) 216 [.ref 55, .int x] h R ↔ R = (some (.int (-1002)), h)) ∧
    ∀ D : Nat, 2 ≤ D ∧ D ≤ 4 → x = iN D → ∃ v h', (∀ R, qMC (d + 6) 216 [.ref 55, .int x] h R ↔ R = (some (.int v), h')) ∧ Ch ([56, 57, 58, 59, 60, 61, 62] ++ scrA) [0, 8, 9, 11, 18] h h' ∧
      ((¬ solid (tellAll D [] dr) D ∧ v = -1003 ∧ BsM h' bs ∧ DrV h' dr) ∨ (solid (tellAll D [] dr) D ∧ bs.length = 24 ∧ v = -1004 ∧ BsM h' bs ∧ DrV h' dr) ∨ (solid (tellAll D [] dr) D ∧ bs.length < 24 ∧ v = iN bs.length ∧ BsM h' (bs ++ [(tellAll D [] dr, D, 1)]) ∧ DrV h' [])) := by
  constructor
  · intro hx R
    have hb : bI ((2 : Int64) ≤ x.toInt64 ∧ x.toInt64 ≤ 4) = 0 := if_neg (fun z => hx (in_dim.mp z))
    simp (disch := first | assumption | omega) only [e216_0, e216_1, e216_2, e216_5, e216_8, e216_11, e216_14, e216_17, e216_18, e216_19, e216_20, e216_23, e216_24, e216_26, e216_27, e216_30, e216_33, e216_34, e216_35, e216_38, e216_39, e216_40, e216_41, e216_42, e216_43, e216_46, e216_47, e216_48, e216_49, e216_50, e216_51, e216_52, e216_53, e216_56, e216_57, e216_58, e216_59, e216_60, e216_61, e216_62, e216_63, e216_66, e216_67, e216_68, e216_69, e216_70, e216_71, e216_72, e216_75, e216_78, e216_81, e216_82, e216_85, e216_88, e216_91, e216_92, e216_93, e216_96, e216_98, e216_101, e216_104, e216_105, e216_106, e216_107, e216_110, e216_111, e216_112, e216_115, m216, ↓reduceIte, qg_0, qg_1, qg_2, qg_3, qg_4, qg_5, qg_6, qg_7, qg_8, qg_9, qg_10, qg_11, qg_12, qg_13, not_true_eq_false, not_false_eq_true, Nat.reduceBEq, Bool.false_eq_true, ex1, ex3, ex4, exF, qfit_i, qfit_l, qfit_r, qfit_n, qfit_b0, qfit_b1, qcat_i, qcat_r, qcat_n, qcat_l, qroom_0, qroom_c, List.map_cons, List.map_nil, List.sum_cons, List.sum_nil, Nat.reduceAdd, Nat.reduceMul, Nat.reduceLT, Nat.reduceLeDiff, Nat.reduceEqDiff, Nat.reduceSub, decide_true, true_and, and_true, and_self, if_true, if_false, Option.toList_some, Option.toList_none, List.cons_append, List.nil_append, qsL, qlong, List.length_cons, List.length_nil, s_in, hb]
  · intro D hD hx
    have hb : bI ((2 : Int64) ≤ x.toInt64 ∧ x.toInt64 ≤ 4) = 1 := if_pos (in_dim.mpr ⟨D, hD, hx⟩)
    obtain ⟨h1, eh1⟩ : ∃ h1, h1 = mI (mI h 8 x) 9 0 := ⟨_, rfl⟩
    have c1 : Ch [63] [8, 9] h h1 := by rw [eh1]; exact (Ch.setI s (by decide) (by decide)).trans (Ch.setI (s.setI (by decide)) (by decide) (by decide))
    have r0 : ∀ R, qMC (d + 6) 216 [.ref 55, .int x] h R ↔ qEv (d + 5) 0 qk_216 25 [some (.ref 55), some (.int x), some (.int (iN 0))] [] h1 R := by
      intro R
      simp (disch := first | assumption | omega) only [e216_0, e216_1, e216_2, e216_5, e216_8, e216_11, e216_14, e216_17, e216_18, e216_19, e216_20, e216_23, e216_24, e216_26, e216_27, e216_30, e216_33, e216_34, e216_35, e216_38, e216_39, e216_40, e216_41, e216_42, e216_43, e216_46, e216_47, e216_48, e216_49, e216_50, e216_51, e216_52, e216_53, e216_56, e216_57, e216_58, e216_59, e216_60, e216_61, e216_62, e216_63, e216_66, e216_67, e216_68, e216_69, e216_70, e216_71, e216_72, e216_75, e216_78, e216_81, e216_82, e216_85, e216_88, e216_91, e216_92, e216_93, e216_96, e216_98, e216_101, e216_104, e216_105, e216_106, e216_107, e216_110, e216_111, e216_112, e216_115, m216, ↓reduceIte, qg_0, qg_1, qg_2, qg_3, qg_4, qg_5, qg_6, qg_7, qg_8, qg_9, qg_10, qg_11, qg_12, qg_13, not_true_eq_false, not_false_eq_true, Nat.reduceBEq, Bool.false_eq_true, ex1, ex3, ex4, exF, qfit_i, qfit_l, qfit_r, qfit_n, qfit_b0, qfit_b1, qcat_i, qcat_r, qcat_n, qcat_l, qroom_0, qroom_c, List.map_cons, List.map_nil, List.sum_cons, List.sum_nil, Nat.reduceAdd, Nat.reduceMul, Nat.reduceLT, Nat.reduceLeDiff, Nat.reduceEqDiff, Nat.reduceSub, decide_true, true_and, and_true, and_self, if_true, if_false, Option.toList_some, Option.toList_none, List.cons_append, List.nil_append, qsL, qlong, List.length_cons, List.length_nil, s_in, hb, show ¬ (1 : Int32) = 0 by decide, vM1, vM2, s_begin s, ← eh1]
      exact Iff.rfl
    have I0 : bdP h D dr x 0 [some (.ref 55), some (.int x), some (.int (iN 0))] h1 := by
      refine ⟨rfl, c1, ?_, ?_, fun p hp => absurd hp (Nat.not_lt_zero p)⟩
      · rw [eh1, mi_mI, if_neg (by decide), mi_mI, if_pos rfl]; exact hx
      · rw [eh1, mi_mI, if_pos rfl]; rfl
    obtain ⟨L2, h2, ⟨rfl, c2', d2, v2⟩, r1⟩ := loop_inv (d := d + 5) (rt := 0) (K := qk_216) (pc := 25) (P := bdP h D dr x) (n := dr.length) (fun k L h1 hk hP => by
      obtain ⟨rfl, c, d1, v1⟩ := hP
      have s1 := c.sh
      have dv1 : DrV h1 dr := dv.ch c (by decide) (by decide)
      have hl := tellAll_len D (dr.take k) []
      have hlt : (tellAll D [] (dr.take k)).length < 256 := by
        have := dv.1
        rw [List.length_take] at hl
        have : ([] : List pt4).length = 0 := rfl
        omega
      have d16 := dv.1
      obtain ⟨h3, r3, c3', v3⟩ := s_tell (d := d + 3) s1 d1 (by omega) v1 hlt (dv1.ptB hk)
      have q0 := (dv1.2.2 k hk 0 (by decide)).1
      have q1 := (dv1.2.2 k hk 1 (by decide)).1
      have q2 := (dv1.2.2 k hk 2 (by decide)).1
      have q3 := (dv1.2.2 k hk 3 (by decide)).1
      rw [Nat.add_zero] at q0
      refine ⟨_, h3, ⟨rfl, c.trans (c3'.mono (by decide) (by decide)), (c3'.mi (by decide)).trans d1, by rw [tellAll_take hk]; exact v3⟩, fun R => ?_⟩
      rw [e216_25]
      have r3' : ∀ R, qMC (d + 5) 201 [.ref 55, .int (iZ (lP dr k 0)), .int (iZ (lP dr k 1)), .int (iZ (lP dr k 2)), .int (iZ (lP dr k 3))] h1 R ↔ R = (none, h3) := r3
      simp (disch := first | assumption | omega) only [e216_0, e216_1, e216_2, e216_5, e216_8, e216_11, e216_14, e216_17, e216_18, e216_19, e216_20, e216_23, e216_24, e216_26, e216_27, e216_30, e216_33, e216_34, e216_35, e216_38, e216_39, e216_40, e216_41, e216_42, e216_43, e216_46, e216_47, e216_48, e216_49, e216_50, e216_51, e216_52, e216_53, e216_56, e216_57, e216_58, e216_59, e216_60, e216_61, e216_62, e216_63, e216_66, e216_67, e216_68, e216_69, e216_70, e216_71, e216_72, e216_75, e216_78, e216_81, e216_82, e216_85, e216_88, e216_91, e216_92, e216_93, e216_96, e216_98, e216_101, e216_104, e216_105, e216_106, e216_107, e216_110, e216_111, e216_112, e216_115, m216, ↓reduceIte, qg_0, qg_1, qg_2, qg_3, qg_4, qg_5, qg_6, qg_7, qg_8, qg_9, qg_10, qg_11, qg_12, qg_13, not_true_eq_false, not_false_eq_true, Nat.reduceBEq, Bool.false_eq_true, ex1, ex3, ex4, exF, qfit_i, qfit_l, qfit_r, qfit_n, qfit_b0, qfit_b1, qcat_i, qcat_r, qcat_n, qcat_l, qroom_0, qroom_c, List.map_cons, List.map_nil, List.sum_cons, List.sum_nil, Nat.reduceAdd, Nat.reduceMul, Nat.reduceLT, Nat.reduceLeDiff, Nat.reduceEqDiff, Nat.reduceSub, decide_true, true_and, and_true, and_self, if_true, if_false, Option.toList_some, Option.toList_none, List.cons_append, List.nil_append, qsL, qlong, List.length_cons, List.length_nil, iN_L, gM_18, gM_19, dv1.2.1, iN_le, show ¬ dr.length ≤ k by omega, iN_mul, iN_add, rM_70, q0, q1, q2, q3, vM1, vM2, r3', exI]) (L := [some (.ref 55), some (.int x), some (.int (iN 0))]) (h := h1) I0
    rw [List.take_length] at v2
    have s2 := c2'.sh
    have dv2 : DrV h2 dr := dv.ch c2' (by decide) (by decide)
    have B2 : BsM h2 bs := B.ch c2' (by decide) (by decide)
    have ok : okP (tellAll D [] dr) D := by
      obtain ⟨t1, t2, t3⟩ := tellAll_ok (D := D) dr [] List.nodup_nil (fun r hr => absurd hr List.not_mem_nil) (fun r hr => absurd hr List.not_mem_nil) dv.sm
      refine ⟨t3, t1, ?_, t2, hD⟩
      have := tellAll_len D dr []
      have := dv.1
      have : ([] : List pt4).length = 0 := rfl
      omega
    obtain ⟨h3, r3, c3', fin⟩ := s_finish (d := d) gg s2 v2 ok d2
    have s3 := c3'.sh
    have dv3 : DrV h3 dr := dv2.ch c3' (by decide) (by decide)
    have B3 : BsM h3 bs := B2.ch c3' (by decide) (by decide)
    have c03 : Ch ([56, 57, 58, 59, 60, 61, 62] ++ scrA) [0, 8, 9, 11, 18] h h3 := (c2'.mono (by decide) (by decide)).trans (c3'.mono (by decide) (by decide))
    have d16 := dv.1
    by_cases hs : solid (tellAll D [] dr) D
    · rw [tB_t hs] at r3
      by_cases hf : bs.length = 24
      · refine ⟨-1004, h3, fun R => ?_, c03, Or.inr (Or.inl ⟨hs, hf, rfl, B3, dv3⟩)⟩
        have b3 : mi h3 0 = iN 24 := by rw [B3.2.1, hf]
        rw [r0 R, r1 R, e216_25]
        simp (disch := first | assumption | omega) only [e216_0, e216_1, e216_2, e216_5, e216_8, e216_11, e216_14, e216_17, e216_18, e216_19, e216_20, e216_23, e216_24, e216_26, e216_27, e216_30, e216_33, e216_34, e216_35, e216_38, e216_39, e216_40, e216_41, e216_42, e216_43, e216_46, e216_47, e216_48, e216_49, e216_50, e216_51, e216_52, e216_53, e216_56, e216_57, e216_58, e216_59, e216_60, e216_61, e216_62, e216_63, e216_66, e216_67, e216_68, e216_69, e216_70, e216_71, e216_72, e216_75, e216_78, e216_81, e216_82, e216_85, e216_88, e216_91, e216_92, e216_93, e216_96, e216_98, e216_101, e216_104, e216_105, e216_106, e216_107, e216_110, e216_111, e216_112, e216_115, m216, ↓reduceIte, qg_0, qg_1, qg_2, qg_3, qg_4, qg_5, qg_6, qg_7, qg_8, qg_9, qg_10, qg_11, qg_12, qg_13, not_true_eq_false, not_false_eq_true, Nat.reduceBEq, Bool.false_eq_true, ex1, ex3, ex4, exF, qfit_i, qfit_l, qfit_r, qfit_n, qfit_b0, qfit_b1, qcat_i, qcat_r, qcat_n, qcat_l, qroom_0, qroom_c, List.map_cons, List.map_nil, List.sum_cons, List.sum_nil, Nat.reduceAdd, Nat.reduceMul, Nat.reduceLT, Nat.reduceLeDiff, Nat.reduceEqDiff, Nat.reduceSub, decide_true, true_and, and_true, and_self, if_true, if_false, Option.toList_some, Option.toList_none, List.cons_append, List.nil_append, qsL, qlong, List.length_cons, List.length_nil, gM_18, dv2.2.1, iN_le, Nat.le_refl, vM1, vM2, r3, bB_t, show ¬ (1 : Int32) = 0 by decide, gM_0, b3, show (24 : Int32) = iN 24 from rfl]
      · have hlt : bs.length < 24 := by have := B.1; omega
        obtain ⟨h4, eh4⟩ : ∃ h4, h4 = mI h3 18 0 := ⟨_, rfl⟩
        have c4' : Ch [] [18] h3 h4 := by rw [eh4]; exact Ch.setI s3 (by decide) (by decide)
        obtain ⟨h5, r5, c5, m5, bm, sm⟩ := fin hs bs.length 1 ((B2.2.1)) hlt h4 (c4'.mono (by decide) (by decide))
        have s4 := c4'.sh
        have B4 : BsM h4 bs := B3.ch c4' (by decide) (by decide)
        refine ⟨iN bs.length, h5, fun R => ?_, (c03.trans (c4'.mono (by decide) (by decide))).trans (c5.mono (by decide) (by decide)), Or.inr (Or.inr ⟨hs, hlt, rfl, B4.push (h := h) hlt ok hs m5 bm sm, ?_⟩)⟩
        · rw [r0 R, r1 R, e216_25]
          have hne : ¬ iN bs.length = iN 24 := by rw [iN_eq (by omega) (by omega)]; omega
          simp (disch := first | assumption | omega) only [e216_0, e216_1, e216_2, e216_5, e216_8, e216_11, e216_14, e216_17, e216_18, e216_19, e216_20, e216_23, e216_24, e216_26, e216_27, e216_30, e216_33, e216_34, e216_35, e216_38, e216_39, e216_40, e216_41, e216_42, e216_43, e216_46, e216_47, e216_48, e216_49, e216_50, e216_51, e216_52, e216_53, e216_56, e216_57, e216_58, e216_59, e216_60, e216_61, e216_62, e216_63, e216_66, e216_67, e216_68, e216_69, e216_70, e216_71, e216_72, e216_75, e216_78, e216_81, e216_82, e216_85, e216_88, e216_91, e216_92, e216_93, e216_96, e216_98, e216_101, e216_104, e216_105, e216_106, e216_107, e216_110, e216_111, e216_112, e216_115, m216, ↓reduceIte, qg_0, qg_1, qg_2, qg_3, qg_4, qg_5, qg_6, qg_7, qg_8, qg_9, qg_10, qg_11, qg_12, qg_13, not_true_eq_false, not_false_eq_true, Nat.reduceBEq, Bool.false_eq_true, ex1, ex3, ex4, exF, qfit_i, qfit_l, qfit_r, qfit_n, qfit_b0, qfit_b1, qcat_i, qcat_r, qcat_n, qcat_l, qroom_0, qroom_c, List.map_cons, List.map_nil, List.sum_cons, List.sum_nil, Nat.reduceAdd, Nat.reduceMul, Nat.reduceLT, Nat.reduceLeDiff, Nat.reduceEqDiff, Nat.reduceSub, decide_true, true_and, and_true, and_self, if_true, if_false, Option.toList_some, Option.toList_none, List.cons_append, List.nil_append, qsL, qlong, List.length_cons, List.length_nil, gM_18, dv2.2.1, iN_le, Nat.le_refl, vM1, vM2, r3, bB_t, show ¬ (1 : Int32) = 0 by decide, gM_0, B3.2.1, show (24 : Int32) = iN 24 from rfl, hne, pM_18, ← eh4, r5]
        · refine ⟨Nat.zero_le _, ?_, fun p hp => absurd hp (Nat.not_lt_zero p)⟩
          rw [c5.mi (by decide), eh4, mi_mI, if_pos rfl]; rfl
    · rw [tB_f hs] at r3
      refine ⟨-1003, h3, fun R => ?_, c03, Or.inl ⟨hs, rfl, B3, dv3⟩⟩
      rw [r0 R, r1 R, e216_25]
      simp (disch := first | assumption | omega) only [e216_0, e216_1, e216_2, e216_5, e216_8, e216_11, e216_14, e216_17, e216_18, e216_19, e216_20, e216_23, e216_24, e216_26, e216_27, e216_30, e216_33, e216_34, e216_35, e216_38, e216_39, e216_40, e216_41, e216_42, e216_43, e216_46, e216_47, e216_48, e216_49, e216_50, e216_51, e216_52, e216_53, e216_56, e216_57, e216_58, e216_59, e216_60, e216_61, e216_62, e216_63, e216_66, e216_67, e216_68, e216_69, e216_70, e216_71, e216_72, e216_75, e216_78, e216_81, e216_82, e216_85, e216_88, e216_91, e216_92, e216_93, e216_96, e216_98, e216_101, e216_104, e216_105, e216_106, e216_107, e216_110, e216_111, e216_112, e216_115, m216, ↓reduceIte, qg_0, qg_1, qg_2, qg_3, qg_4, qg_5, qg_6, qg_7, qg_8, qg_9, qg_10, qg_11, qg_12, qg_13, not_true_eq_false, not_false_eq_true, Nat.reduceBEq, Bool.false_eq_true, ex1, ex3, ex4, exF, qfit_i, qfit_l, qfit_r, qfit_n, qfit_b0, qfit_b1, qcat_i, qcat_r, qcat_n, qcat_l, qroom_0, qroom_c, List.map_cons, List.map_nil, List.sum_cons, List.sum_nil, Nat.reduceAdd, Nat.reduceMul, Nat.reduceLT, Nat.reduceLeDiff, Nat.reduceEqDiff, Nat.reduceSub, decide_true, true_and, and_true, and_self, if_true, if_false, Option.toList_some, Option.toList_none, List.cons_append, List.nil_append, qsL, qlong, List.length_cons, List.length_nil, gM_18, dv2.2.1, iN_le, Nat.le_refl, vM1, vM2, r3, bB_f]
end BODY

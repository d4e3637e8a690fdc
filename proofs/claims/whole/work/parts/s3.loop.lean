/-! ===== THE LAW: its loop (by program: wip/gen/mks3.py) ===== -/
section LAWLOOP
variable {h : qH} {s : lwT} {L i : Nat} {xs : Nat → Int32}
theorem and63 (x : Int32) : ∃ k, k < 64 ∧ x &&& iN 63 = iN k := by
  refine ⟨(x.toBitVec &&& 63#32).toNat, ?_, ?_⟩
  · rw [BitVec.toNat_and]; exact Nat.lt_of_le_of_lt Nat.and_le_right (by decide)
  · refine Int32.toBitVec_inj.mp ?_
    rw [Int32.toBitVec_and]
    show x.toBitVec &&& 63#32 = BitVec.ofNat 32 (x.toBitVec &&& 63#32).toNat
    rw [BitVec.ofNat_toNat, BitVec.setWidth_eq]
theorem sw_in {k : Nat} {A : Prop} {t : Array Int} {P : Int → Prop} {o : Int} (hz : k ≤ 41) (ho : t[k]? = some o) : (if (iN k).toInt < 0 ∨ 41 < (iN k).toInt then A else ∃ off, t[((iN k).toInt - 0).toNat]? = some off ∧ P off) ↔ P o := by
  rw [iN_int (show k < 2147483648 by omega), if_neg (by omega), show ((k : Int) - 0).toNat = k by omega, ho]
  exact ⟨fun ⟨o', h1, h2⟩ => by cases h1; exact h2, fun h => ⟨o, rfl, h⟩⟩
theorem sw_no {k : Nat} {A B : Prop} (hk : k < 64) (hz : ¬ k ≤ 41) : (if (iN k).toInt < 0 ∨ 41 < (iN k).toInt then A else B) ↔ A := by
  rw [iN_int (show k < 2147483648 by omega), if_pos (by omega)]
theorem law_sw (h0 : h.1 0 = .inl (0, L, .inl xs)) (hL : L ≤ 3584) (hi' : i < L) {k : Nat} (ek : xs i &&& iN 63 = iN k) (R : qRes) : qEv 1000 3 qk_319 27 [some (.ref 0), some (.ref 16), some (.ref 55), some (.int (iN i))] [] h R ↔ if (iN k).toInt < 0 ∨ 41 < (iN k).toInt then qEv 1000 3 qk_319 1617 [some (.ref 0), some (.ref 16), some (.ref 55), some (.int (iN i))] [] h R else ∃ off, (#[183, 236, 249, 272, 347, 390, 423, 466, 499, 532, 565, 608, 631, 664, 707, 760, 793, 816, 849, 882, 905, 928, 951, 974, 987, 1010, 1043, 1086, 1109, 1162, 1205, 1249, 1282, 1305, 1328, 1361, 1385, 1429, 1472, 1535, 1548, 1561] : Array Int)[((iN k).toInt - 0).toNat]? = some off ∧ qEv 1000 3 qk_319 (qtgt 33 off) [some (.ref 0), some (.ref 16), some (.ref 55), some (.int (iN i))] [] h R := by
  have a0 := rd_xs h0 hL hi'
  rw [← e319_33]
  simp (disch := first | assumption | omega) only [e319_27, e319_28, e319_29, e319_30, e319_32, ↓reduceIte, qg_0, qg_1, qg_2, qg_3, qg_4, qg_5, qg_6, qg_7, qg_8, qg_9, qg_10, qg_11, qg_12, qg_13, not_true_eq_false, not_false_eq_true, Nat.reduceBEq, Bool.false_eq_true, ex1, ex3, ex4, exF, qfit_i, qfit_l, qfit_r, qfit_n, qfit_b0, qfit_b1, qcat_i, qcat_r, qcat_n, qcat_l, qroom_0, qroom_c, List.map_cons, List.map_nil, List.sum_cons, List.sum_nil, Nat.reduceAdd, Nat.reduceMul, Nat.reduceLT, Nat.reduceLeDiff, Nat.reduceEqDiff, Nat.reduceSub, decide_true, true_and, and_true, and_self, if_true, if_false, Option.toList_some, Option.toList_none, List.cons_append, List.nil_append, qsL, qlong, List.length_cons, List.length_nil, a0, iN_L, ek]
theorem cs_any (g2 : geo2) (X : LXs h s) (M : LMs h s) (P : LPs s) (h0 : h.1 0 = .inl (0, L, .inl xs)) (hL : L ≤ 3584) (hi' : i + 7 ≤ L) : csP h s i 27 := by
  obtain ⟨k, hk, ek⟩ := and63 (xs i)
  have sw := law_sw h0 hL (show i < L by omega) ek
  by_cases k41 : k ≤ 41
  · have via : ∀ {pc : Nat} {o : Int}, (#[183, 236, 249, 272, 347, 390, 423, 466, 499, 532, 565, 608, 631, 664, 707, 760, 793, 816, 849, 882, 905, 928, 951, 974, 987, 1010, 1043, 1086, 1109, 1162, 1205, 1249, 1282, 1305, 1328, 1361, 1385, 1429, 1472, 1535, 1548, 1561] : Array Int)[k]? = some o → qtgt 33 o = pc → csP h s i pc → csP h s i 27 := fun {pc o} ho hp ⟨h2, s', r, rest⟩ => ⟨h2, s', fun R => (sw R).trans ((sw_in k41 ho).trans (by rw [hp]; exact r R)), rest⟩
    have hk2 : k = 0 ∨ k = 1 ∨ k = 2 ∨ k = 3 ∨ k = 4 ∨ k = 5 ∨ k = 6 ∨ k = 7 ∨ k = 8 ∨ k = 9 ∨ k = 10 ∨ k = 11 ∨ k = 12 ∨ k = 13 ∨ k = 14 ∨ k = 15 ∨ k = 16 ∨ k = 17 ∨ k = 18 ∨ k = 19 ∨ k = 20 ∨ k = 21 ∨ k = 22 ∨ k = 23 ∨ k = 24 ∨ k = 25 ∨ k = 26 ∨ k = 27 ∨ k = 28 ∨ k = 29 ∨ k = 30 ∨ k = 31 ∨ k = 32 ∨ k = 33 ∨ k = 34 ∨ k = 35 ∨ k = 36 ∨ k = 37 ∨ k = 38 ∨ k = 39 ∨ k = 40 ∨ k = 41 := by omega
    rcases hk2 with rfl | rfl | rfl | rfl | rfl | rfl | rfl | rfl | rfl | rfl | rfl | rfl | rfl | rfl | rfl | rfl | rfl | rfl | rfl | rfl | rfl | rfl | rfl | rfl | rfl | rfl | rfl | rfl | rfl | rfl | rfl | rfl | rfl | rfl | rfl | rfl | rfl | rfl | rfl | rfl | rfl | rfl
    · exact via (o := 183) rfl rfl (cs_point X M P h0 hL hi')
    · exact via (o := 236) rfl rfl (cs_wipe X M P h0 hL hi')
    · exact via (o := 249) rfl rfl (cs_body X M P h0 hL hi')
    · exact via (o := 272) rfl rfl (cs_cut X M P h0 hL hi')
    · exact via (o := 347) rfl rfl (cs_slice X M P h0 hL hi')
    · exact via (o := 390) rfl rfl (cs_shadow X M P h0 hL hi')
    · exact via (o := 423) rfl rfl (cs_raise X M P h0 hL hi')
    · exact via (o := 466) rfl rfl (cs_product X M P h0 hL hi')
    · exact via (o := 499) rfl rfl (cs_both X M P h0 hL hi')
    · exact via (o := 532) rfl rfl (cs_about g2 X M P h0 hL hi')
    · exact via (o := 565) rfl rfl (cs_corner X M P h0 hL hi')
    · exact via (o := 608) rfl rfl (cs_count X M P h0 hL hi')
    · exact via (o := 631) rfl rfl (cs_faces X M P h0 hL hi')
    · exact via (o := 664) rfl rfl (cs_face X M P h0 hL hi')
    · exact via (o := 707) rfl rfl (cs_lies X M P h0 hL hi')
    · exact via (o := 760) rfl rfl (cs_h X M P h0 hL hi')
    · exact via (o := 793) rfl rfl (cs_sum X M P h0 hL hi')
    · exact via (o := 816) rfl rfl (cs_same X M P h0 hL hi')
    · exact via (o := 849) rfl rfl (cs_inside X M P h0 hL hi')
    · exact via (o := 882) rfl rfl (cs_pattern X M P h0 hL hi')
    · exact via (o := 905) rfl rfl (cs_set X M P h0 hL hi')
    · exact via (o := 928) rfl rfl (cs_place X M P h0 hL hi')
    · exact via (o := 951) rfl rfl (cs_row X M P h0 hL hi')
    · exact via (o := 974) rfl rfl (cs_clear X M P h0 hL hi')
    · exact via (o := 987) rfl rfl (cs_meets X M P h0 hL hi')
    · exact via (o := 1010) rfl rfl (cs_fresh X M P h0 hL hi')
    · exact via (o := 1043) rfl rfl (cs_walk X M P h0 hL hi')
    · exact via (o := 1086) rfl rfl (cs_far X M P h0 hL hi')
    · exact via (o := 1109) rfl rfl (cs_tilt X M P h0 hL hi')
    · exact via (o := 1162) rfl rfl (cs_up X M P h0 hL hi')
    · exact via (o := 1205) rfl rfl (cs_ups X M P h0 hL hi')
    · exact via (o := 1249) rfl rfl (cs_ring X M P h0 hL hi')
    · exact via (o := 1282) rfl rfl (cs_where X M P h0 hL hi')
    · exact via (o := 1305) rfl rfl (cs_parted X M P h0 hL hi')
    · exact via (o := 1328) rfl rfl (cs_holds X M P h0 hL hi')
    · exact via (o := 1361) rfl rfl (cs_size g2 X M P h0 hL hi')
    · exact via (o := 1385) rfl rfl (cs_piece g2 X M P h0 hL hi')
    · exact via (o := 1429) rfl rfl (cs_whole X M P h0 hL hi')
    · exact via (o := 1472) rfl rfl (cs_feed X M P h0 hL hi')
    · exact via (o := 1535) rfl rfl (cs_read X M P h0 hL hi')
    · exact via (o := 1548) rfl rfl (cs_fault X M P h0 hL hi')
    · exact via (o := 1561) rfl rfl (cs_claim X M P h0 hL hi')
  · exact ⟨h, s, fun R => (sw R).trans (sw_no hk k41), ⟨X, M, P⟩, rfl, Nat.le_refl _, by omega, by omega⟩
theorem ale_h (h0 : h.1 0 = .inl (0, L, .inl xs)) : qalen h 0 = some (iN L) := by
  unfold qalen
  rw [if_pos (Or.inl rfl), h0]
  rfl
theorem lt7 (hL : L ≤ 3584) (hi' : i ≤ 4000) : iN L - iN 7 < iN i ↔ L < i + 7 := by
  by_cases h7 : 7 ≤ L
  · rw [iN_sub h7, iN_lt (by omega) (by omega)]; omega
  · rw [Int32.lt_iff_toInt_lt, iN_int (show i < 2147483648 by omega)]
    have : (iN L - iN 7).toInt = (L : Int) - 7 := by
      rcases (show L = 0 ∨ L = 1 ∨ L = 2 ∨ L = 3 ∨ L = 4 ∨ L = 5 ∨ L = 6 by omega) with rfl | rfl | rfl | rfl | rfl | rfl | rfl <;> decide
    rw [this]; omega
theorem law_hd (h0 : h.1 0 = .inl (0, L, .inl xs)) (hL : L ≤ 3584) (hi' : i ≤ 4000) (R : qRes) : qEv 1000 3 qk_319 18 [some (.ref 0), some (.ref 16), some (.ref 55), some (.int (iN i))] [] h R ↔ if L < i + 7 then R = (some (.int 1), h) else qEv 1000 3 qk_319 27 [some (.ref 0), some (.ref 16), some (.ref 55), some (.int (iN i))] [] h R := by
  have a0 := ale_h h0
  have c := lt7 (i := i) hL hi'
  simp (disch := first | assumption | omega) only [e319_18, e319_19, e319_20, e319_21, e319_23, e319_24, e319_1623, e319_1624, ↓reduceIte, qg_0, qg_1, qg_2, qg_3, qg_4, qg_5, qg_6, qg_7, qg_8, qg_9, qg_10, qg_11, qg_12, qg_13, not_true_eq_false, not_false_eq_true, Nat.reduceBEq, Bool.false_eq_true, ex1, ex3, ex4, exF, qfit_i, qfit_l, qfit_r, qfit_n, qfit_b0, qfit_b1, qcat_i, qcat_r, qcat_n, qcat_l, qroom_0, qroom_c, List.map_cons, List.map_nil, List.sum_cons, List.sum_nil, Nat.reduceAdd, Nat.reduceMul, Nat.reduceLT, Nat.reduceLeDiff, Nat.reduceEqDiff, Nat.reduceSub, decide_true, true_and, and_true, and_self, if_true, if_false, Option.toList_some, Option.toList_none, List.cons_append, List.nil_append, qsL, qlong, List.length_cons, List.length_nil, a0, iN_L, qfN0, qfN1, c]
theorem law_it (R : qRes) : qEv 1000 3 qk_319 1617 [some (.ref 0), some (.ref 16), some (.ref 55), some (.int (iN i))] [] h R ↔ qEv 1000 3 qk_319 18 [some (.ref 0), some (.ref 16), some (.ref 55), some (.int (iN (i + 7)))] [] h R := by
  simp (disch := first | assumption | omega) only [e319_1617, e319_1620, ↓reduceIte, qg_0, qg_1, qg_2, qg_3, qg_4, qg_5, qg_6, qg_7, qg_8, qg_9, qg_10, qg_11, qg_12, qg_13, not_true_eq_false, not_false_eq_true, Nat.reduceBEq, Bool.false_eq_true, ex1, ex3, ex4, exF, qfit_i, qfit_l, qfit_r, qfit_n, qfit_b0, qfit_b1, qcat_i, qcat_r, qcat_n, qcat_l, qroom_0, qroom_c, List.map_cons, List.map_nil, List.sum_cons, List.sum_nil, Nat.reduceAdd, Nat.reduceMul, Nat.reduceLT, Nat.reduceLeDiff, Nat.reduceEqDiff, Nat.reduceSub, decide_true, true_and, and_true, and_self, if_true, if_false, Option.toList_some, Option.toList_none, List.cons_append, List.nil_append, qsL, qlong, List.length_cons, List.length_nil, exI, iN_L, iN_add]
/-- all calls to the end: the law answers 1, within its room -/
theorem law_loop (g2 : geo2) (hL : L ≤ 3584) : ∀ (w i : Nat) (h : qH) (s : lwT), LXs h s → LMs h s → LPs s → h.1 0 = .inl (0, L, .inl xs) → i ≤ 4000 → L < i + 7 * (w + 1) → ∃ h' : qH, qEv 1000 3 qk_319 18 [some (.ref 0), some (.ref 16), some (.ref 55), some (.int (iN i))] [] h (some (.int 1), h') ∧ h'.2.1 + 16 * s.1.length ≤ h.2.1 + 16 * w + 384 ∧ h'.2.2 + 9600 * s.1.length ≤ h.2.2 + 9600 * w + 230400 := by
  intro w
  induction w with
  | zero =>
    intro i h s X M P h0 hi' hw
    obtain ⟨sa, Xb⟩ := X.2.1
    have := Xb.1
    exact ⟨h, (law_hd h0 hL hi' _).mpr (by rw [if_pos (by omega)]), by omega, by omega⟩
  | succ w ih =>
    intro i h s X M P h0 hi' hw
    by_cases e : L < i + 7
    · obtain ⟨sa, Xb⟩ := X.2.1
      have := Xb.1
      exact ⟨h, (law_hd h0 hL hi' _).mpr (by rw [if_pos e]), by omega, by omega⟩
    · obtain ⟨h2, s', r, ⟨X2, M2, P2⟩, z0, le, c1, c2⟩ := cs_any (i := i) g2 X M P h0 hL (by omega)
      obtain ⟨h', r', d1, d2⟩ := ih (i + 7) h2 s' X2 M2 P2 (z0.trans h0) (by omega) (by omega)
      refine ⟨h', (law_hd h0 hL hi' _).mpr ?_, by omega, by omega⟩
      rw [if_neg e]
      exact (r _).mpr ((law_it _).mpr r')
end LAWLOOP
/-! ===== THE LAW: its start ===== -/
section LAWSTART
variable {f : Nat → qC} {k : Nat}
set_option maxRecDepth 100000 in
theorem st_ShX : ShX (hF f, 97, k) := ⟨List.forall_mem_cons.mpr ⟨⟨⟨by decide, show 16 < 97 by decide⟩, _, hF_16 (f := f)⟩, List.forall_mem_cons.mpr ⟨⟨⟨by decide, show 19 < 97 by decide⟩, _, hF_19 (f := f)⟩, List.forall_mem_cons.mpr ⟨⟨⟨by decide, show 27 < 97 by decide⟩, _, hF_27 (f := f)⟩, List.forall_mem_cons.mpr ⟨⟨⟨by decide, show 30 < 97 by decide⟩, _, hF_30 (f := f)⟩, List.forall_mem_cons.mpr ⟨⟨⟨by decide, show 39 < 97 by decide⟩, _, hF_39 (f := f)⟩, List.forall_mem_cons.mpr ⟨⟨⟨by decide, show 41 < 97 by decide⟩, _, hF_41 (f := f)⟩, List.forall_mem_cons.mpr ⟨⟨⟨by decide, show 43 < 97 by decide⟩, _, hF_43 (f := f)⟩, List.forall_mem_cons.mpr ⟨⟨⟨by decide, show 46 < 97 by decide⟩, _, hF_46 (f := f)⟩, List.forall_mem_cons.mpr ⟨⟨⟨by decide, show 50 < 97 by decide⟩, _, hF_50 (f := f)⟩, List.forall_mem_cons.mpr ⟨⟨⟨by decide, show 53 < 97 by decide⟩, _, hF_53 (f := f)⟩, List.forall_mem_nil _⟩⟩⟩⟩⟩⟩⟩⟩⟩⟩, List.forall_mem_cons.mpr ⟨⟨⟨by decide, by decide, show 18 < 97 by decide⟩, _, hF_18 (f := f)⟩, List.forall_mem_cons.mpr ⟨⟨⟨by decide, by decide, show 20 < 97 by decide⟩, _, hF_20 (f := f)⟩, List.forall_mem_cons.mpr ⟨⟨⟨by decide, by decide, show 21 < 97 by decide⟩, _, hF_21 (f := f)⟩, List.forall_mem_cons.mpr ⟨⟨⟨by decide, by decide, show 25 < 97 by decide⟩, _, hF_25 (f := f)⟩, List.forall_mem_cons.mpr ⟨⟨⟨by decide, by decide, show 26 < 97 by decide⟩, _, hF_26 (f := f)⟩, List.forall_mem_cons.mpr ⟨⟨⟨by decide, by decide, show 28 < 97 by decide⟩, _, hF_28 (f := f)⟩, List.forall_mem_cons.mpr ⟨⟨⟨by decide, by decide, show 31 < 97 by decide⟩, _, hF_31 (f := f)⟩, List.forall_mem_cons.mpr ⟨⟨⟨by decide, by decide, show 32 < 97 by decide⟩, _, hF_32 (f := f)⟩, List.forall_mem_cons.mpr ⟨⟨⟨by decide, by decide, show 33 < 97 by decide⟩, _, hF_33 (f := f)⟩, List.forall_mem_cons.mpr ⟨⟨⟨by decide, by decide, show 34 < 97 by decide⟩, _, hF_34 (f := f)⟩, List.forall_mem_cons.mpr ⟨⟨⟨by decide, by decide, show 35 < 97 by decide⟩, _, hF_35 (f := f)⟩, List.forall_mem_cons.mpr ⟨⟨⟨by decide, by decide, show 36 < 97 by decide⟩, _, hF_36 (f := f)⟩, List.forall_mem_cons.mpr ⟨⟨⟨by decide, by decide, show 37 < 97 by decide⟩, _, hF_37 (f := f)⟩, List.forall_mem_cons.mpr ⟨⟨⟨by decide, by decide, show 38 < 97 by decide⟩, _, hF_38 (f := f)⟩, List.forall_mem_cons.mpr ⟨⟨⟨by decide, by decide, show 40 < 97 by decide⟩, _, hF_40 (f := f)⟩, List.forall_mem_cons.mpr ⟨⟨⟨by decide, by decide, show 42 < 97 by decide⟩, _, hF_42 (f := f)⟩, List.forall_mem_cons.mpr ⟨⟨⟨by decide, by decide, show 44 < 97 by decide⟩, _, hF_44 (f := f)⟩, List.forall_mem_cons.mpr ⟨⟨⟨by decide, by decide, show 47 < 97 by decide⟩, _, hF_47 (f := f)⟩, List.forall_mem_cons.mpr ⟨⟨⟨by decide, by decide, show 48 < 97 by decide⟩, _, hF_48 (f := f)⟩, List.forall_mem_cons.mpr ⟨⟨⟨by decide, by decide, show 49 < 97 by decide⟩, _, hF_49 (f := f)⟩, List.forall_mem_cons.mpr ⟨⟨⟨by decide, by decide, show 51 < 97 by decide⟩, _, hF_51 (f := f)⟩, List.forall_mem_cons.mpr ⟨⟨⟨by decide, by decide, show 52 < 97 by decide⟩, _, hF_52 (f := f)⟩, List.forall_mem_cons.mpr ⟨⟨⟨by decide, by decide, show 54 < 97 by decide⟩, _, hF_54 (f := f)⟩, List.forall_mem_nil _⟩⟩⟩⟩⟩⟩⟩⟩⟩⟩⟩⟩⟩⟩⟩⟩⟩⟩⟩⟩⟩⟩⟩, List.forall_mem_cons.mpr ⟨⟨⟨by decide, by decide, show 22 < 97 by decide⟩, _, hF_22 (f := f)⟩, List.forall_mem_cons.mpr ⟨⟨⟨by decide, by decide, show 23 < 97 by decide⟩, _, hF_23 (f := f)⟩, List.forall_mem_cons.mpr ⟨⟨⟨by decide, by decide, show 24 < 97 by decide⟩, _, hF_24 (f := f)⟩, List.forall_mem_cons.mpr ⟨⟨⟨by decide, by decide, show 29 < 97 by decide⟩, _, hF_29 (f := f)⟩, List.forall_mem_cons.mpr ⟨⟨⟨by decide, by decide, show 45 < 97 by decide⟩, _, hF_45 (f := f)⟩, List.forall_mem_nil _⟩⟩⟩⟩⟩, ⟨⟨by decide, by decide, show 17 < 97 by decide⟩, _, hF_17 (f := f)⟩, List.forall_mem_cons.mpr ⟨rfl, List.forall_mem_cons.mpr ⟨rfl, List.forall_mem_cons.mpr ⟨rfl, List.forall_mem_cons.mpr ⟨rfl, List.forall_mem_cons.mpr ⟨rfl, List.forall_mem_cons.mpr ⟨rfl, List.forall_mem_cons.mpr ⟨rfl, List.forall_mem_cons.mpr ⟨rfl, List.forall_mem_cons.mpr ⟨rfl, List.forall_mem_cons.mpr ⟨rfl, List.forall_mem_cons.mpr ⟨rfl, List.forall_mem_cons.mpr ⟨rfl, List.forall_mem_cons.mpr ⟨rfl, List.forall_mem_cons.mpr ⟨rfl, List.forall_mem_cons.mpr ⟨rfl, List.forall_mem_cons.mpr ⟨rfl, List.forall_mem_cons.mpr ⟨rfl, List.forall_mem_cons.mpr ⟨rfl, List.forall_mem_cons.mpr ⟨rfl, List.forall_mem_cons.mpr ⟨rfl, List.forall_mem_cons.mpr ⟨rfl, List.forall_mem_cons.mpr ⟨rfl, List.forall_mem_cons.mpr ⟨rfl, List.forall_mem_cons.mpr ⟨rfl, List.forall_mem_cons.mpr ⟨rfl, List.forall_mem_cons.mpr ⟨rfl, List.forall_mem_cons.mpr ⟨rfl, List.forall_mem_cons.mpr ⟨rfl, List.forall_mem_cons.mpr ⟨rfl, List.forall_mem_cons.mpr ⟨rfl, List.forall_mem_cons.mpr ⟨rfl, List.forall_mem_cons.mpr ⟨rfl, List.forall_mem_cons.mpr ⟨rfl, List.forall_mem_cons.mpr ⟨rfl, List.forall_mem_cons.mpr ⟨rfl, List.forall_mem_cons.mpr ⟨rfl, List.forall_mem_cons.mpr ⟨rfl, List.forall_mem_cons.mpr ⟨rfl, List.forall_mem_nil _⟩⟩⟩⟩⟩⟩⟩⟩⟩⟩⟩⟩⟩⟩⟩⟩⟩⟩⟩⟩⟩⟩⟩⟩⟩⟩⟩⟩⟩⟩⟩⟩⟩⟩⟩⟩⟩⟩, List.forall_mem_cons.mpr ⟨⟨_, rfl⟩, List.forall_mem_cons.mpr ⟨⟨_, rfl⟩, List.forall_mem_cons.mpr ⟨⟨_, rfl⟩, List.forall_mem_cons.mpr ⟨⟨_, rfl⟩, List.forall_mem_cons.mpr ⟨⟨_, rfl⟩, List.forall_mem_cons.mpr ⟨⟨_, rfl⟩, List.forall_mem_cons.mpr ⟨⟨_, rfl⟩, List.forall_mem_cons.mpr ⟨⟨_, rfl⟩, List.forall_mem_cons.mpr ⟨⟨_, rfl⟩, List.forall_mem_cons.mpr ⟨⟨_, rfl⟩, List.forall_mem_cons.mpr ⟨⟨_, rfl⟩, List.forall_mem_cons.mpr ⟨⟨_, rfl⟩, List.forall_mem_cons.mpr ⟨⟨_, rfl⟩, List.forall_mem_cons.mpr ⟨⟨_, rfl⟩, List.forall_mem_cons.mpr ⟨⟨_, rfl⟩, List.forall_mem_cons.mpr ⟨⟨_, rfl⟩, List.forall_mem_cons.mpr ⟨⟨_, rfl⟩, List.forall_mem_cons.mpr ⟨⟨_, rfl⟩, List.forall_mem_cons.mpr ⟨⟨_, rfl⟩, List.forall_mem_cons.mpr ⟨⟨_, rfl⟩, List.forall_mem_cons.mpr ⟨⟨_, rfl⟩, List.forall_mem_cons.mpr ⟨⟨_, rfl⟩, List.forall_mem_cons.mpr ⟨⟨_, rfl⟩, List.forall_mem_cons.mpr ⟨⟨_, rfl⟩, List.forall_mem_nil _⟩⟩⟩⟩⟩⟩⟩⟩⟩⟩⟩⟩⟩⟩⟩⟩⟩⟩⟩⟩⟩⟩⟩⟩, ⟨_, rfl⟩, show 97 ≤ 97 by decide⟩
set_option maxRecDepth 100000 in
theorem st_ShM : ShM (hF f, 97, k) := ⟨⟨⟨by decide, show 55 < 97 by decide⟩, _, hF_55 (f := f)⟩, List.forall_mem_cons.mpr ⟨⟨⟨by decide, by decide, show 56 < 97 by decide⟩, _, hF_56 (f := f)⟩, List.forall_mem_cons.mpr ⟨⟨⟨by decide, by decide, show 57 < 97 by decide⟩, _, hF_57 (f := f)⟩, List.forall_mem_cons.mpr ⟨⟨⟨by decide, by decide, show 58 < 97 by decide⟩, _, hF_58 (f := f)⟩, List.forall_mem_cons.mpr ⟨⟨⟨by decide, by decide, show 59 < 97 by decide⟩, _, hF_59 (f := f)⟩, List.forall_mem_cons.mpr ⟨⟨⟨by decide, by decide, show 60 < 97 by decide⟩, _, hF_60 (f := f)⟩, List.forall_mem_cons.mpr ⟨⟨⟨by decide, by decide, show 61 < 97 by decide⟩, _, hF_61 (f := f)⟩, List.forall_mem_cons.mpr ⟨⟨⟨by decide, by decide, show 63 < 97 by decide⟩, _, hF_63 (f := f)⟩, List.forall_mem_cons.mpr ⟨⟨⟨by decide, by decide, show 64 < 97 by decide⟩, _, hF_64 (f := f)⟩, List.forall_mem_cons.mpr ⟨⟨⟨by decide, by decide, show 67 < 97 by decide⟩, _, hF_67 (f := f)⟩, List.forall_mem_cons.mpr ⟨⟨⟨by decide, by decide, show 68 < 97 by decide⟩, _, hF_68 (f := f)⟩, List.forall_mem_cons.mpr ⟨⟨⟨by decide, by decide, show 69 < 97 by decide⟩, _, hF_69 (f := f)⟩, List.forall_mem_cons.mpr ⟨⟨⟨by decide, by decide, show 70 < 97 by decide⟩, _, hF_70 (f := f)⟩, List.forall_mem_cons.mpr ⟨⟨⟨by decide, by decide, show 73 < 97 by decide⟩, _, hF_73 (f := f)⟩, List.forall_mem_cons.mpr ⟨⟨⟨by decide, by decide, show 75 < 97 by decide⟩, _, hF_75 (f := f)⟩, List.forall_mem_cons.mpr ⟨⟨⟨by decide, by decide, show 76 < 97 by decide⟩, _, hF_76 (f := f)⟩, List.forall_mem_cons.mpr ⟨⟨⟨by decide, by decide, show 77 < 97 by decide⟩, _, hF_77 (f := f)⟩, List.forall_mem_cons.mpr ⟨⟨⟨by decide, by decide, show 78 < 97 by decide⟩, _, hF_78 (f := f)⟩, List.forall_mem_cons.mpr ⟨⟨⟨by decide, by decide, show 79 < 97 by decide⟩, _, hF_79 (f := f)⟩, List.forall_mem_cons.mpr ⟨⟨⟨by decide, by decide, show 80 < 97 by decide⟩, _, hF_80 (f := f)⟩, List.forall_mem_cons.mpr ⟨⟨⟨by decide, by decide, show 81 < 97 by decide⟩, _, hF_81 (f := f)⟩, List.forall_mem_cons.mpr ⟨⟨⟨by decide, by decide, show 82 < 97 by decide⟩, _, hF_82 (f := f)⟩, List.forall_mem_cons.mpr ⟨⟨⟨by decide, by decide, show 83 < 97 by decide⟩, _, hF_83 (f := f)⟩, List.forall_mem_cons.mpr ⟨⟨⟨by decide, by decide, show 85 < 97 by decide⟩, _, hF_85 (f := f)⟩, List.forall_mem_cons.mpr ⟨⟨⟨by decide, by decide, show 86 < 97 by decide⟩, _, hF_86 (f := f)⟩, List.forall_mem_cons.mpr ⟨⟨⟨by decide, by decide, show 87 < 97 by decide⟩, _, hF_87 (f := f)⟩, List.forall_mem_cons.mpr ⟨⟨⟨by decide, by decide, show 88 < 97 by decide⟩, _, hF_88 (f := f)⟩, List.forall_mem_cons.mpr ⟨⟨⟨by decide, by decide, show 89 < 97 by decide⟩, _, hF_89 (f := f)⟩, List.forall_mem_cons.mpr ⟨⟨⟨by decide, by decide, show 91 < 97 by decide⟩, _, hF_91 (f := f)⟩, List.forall_mem_cons.mpr ⟨⟨⟨by decide, by decide, show 92 < 97 by decide⟩, _, hF_92 (f := f)⟩, List.forall_mem_cons.mpr ⟨⟨⟨by decide, by decide, show 93 < 97 by decide⟩, _, hF_93 (f := f)⟩, List.forall_mem_cons.mpr ⟨⟨⟨by decide, by decide, show 94 < 97 by decide⟩, _, hF_94 (f := f)⟩, List.forall_mem_cons.mpr ⟨⟨⟨by decide, by decide, show 95 < 97 by decide⟩, _, hF_95 (f := f)⟩, List.forall_mem_cons.mpr ⟨⟨⟨by decide, by decide, show 96 < 97 by decide⟩, _, hF_96 (f := f)⟩, List.forall_mem_nil _⟩⟩⟩⟩⟩⟩⟩⟩⟩⟩⟩⟩⟩⟩⟩⟩⟩⟩⟩⟩⟩⟩⟩⟩⟩⟩⟩⟩⟩⟩⟩⟩⟩, List.forall_mem_cons.mpr ⟨⟨⟨by decide, by decide, show 62 < 97 by decide⟩, _, hF_62 (f := f)⟩, List.forall_mem_cons.mpr ⟨⟨⟨by decide, by decide, show 65 < 97 by decide⟩, _, hF_65 (f := f)⟩, List.forall_mem_cons.mpr ⟨⟨⟨by decide, by decide, show 66 < 97 by decide⟩, _, hF_66 (f := f)⟩, List.forall_mem_cons.mpr ⟨⟨⟨by decide, by decide, show 71 < 97 by decide⟩, _, hF_71 (f := f)⟩, List.forall_mem_cons.mpr ⟨⟨⟨by decide, by decide, show 72 < 97 by decide⟩, _, hF_72 (f := f)⟩, List.forall_mem_cons.mpr ⟨⟨⟨by decide, by decide, show 74 < 97 by decide⟩, _, hF_74 (f := f)⟩, List.forall_mem_cons.mpr ⟨⟨⟨by decide, by decide, show 84 < 97 by decide⟩, _, hF_84 (f := f)⟩, List.forall_mem_cons.mpr ⟨⟨⟨by decide, by decide, show 90 < 97 by decide⟩, _, hF_90 (f := f)⟩, List.forall_mem_nil _⟩⟩⟩⟩⟩⟩⟩⟩, List.forall_mem_cons.mpr ⟨rfl, List.forall_mem_cons.mpr ⟨rfl, List.forall_mem_cons.mpr ⟨rfl, List.forall_mem_cons.mpr ⟨rfl, List.forall_mem_cons.mpr ⟨rfl, List.forall_mem_cons.mpr ⟨rfl, List.forall_mem_cons.mpr ⟨rfl, List.forall_mem_cons.mpr ⟨rfl, List.forall_mem_cons.mpr ⟨rfl, List.forall_mem_cons.mpr ⟨rfl, List.forall_mem_cons.mpr ⟨rfl, List.forall_mem_cons.mpr ⟨rfl, List.forall_mem_cons.mpr ⟨rfl, List.forall_mem_cons.mpr ⟨rfl, List.forall_mem_cons.mpr ⟨rfl, List.forall_mem_cons.mpr ⟨rfl, List.forall_mem_cons.mpr ⟨rfl, List.forall_mem_cons.mpr ⟨rfl, List.forall_mem_cons.mpr ⟨rfl, List.forall_mem_cons.mpr ⟨rfl, List.forall_mem_cons.mpr ⟨rfl, List.forall_mem_cons.mpr ⟨rfl, List.forall_mem_cons.mpr ⟨rfl, List.forall_mem_cons.mpr ⟨rfl, List.forall_mem_cons.mpr ⟨rfl, List.forall_mem_cons.mpr ⟨rfl, List.forall_mem_cons.mpr ⟨rfl, List.forall_mem_cons.mpr ⟨rfl, List.forall_mem_cons.mpr ⟨rfl, List.forall_mem_cons.mpr ⟨rfl, List.forall_mem_cons.mpr ⟨rfl, List.forall_mem_cons.mpr ⟨rfl, List.forall_mem_cons.mpr ⟨rfl, List.forall_mem_cons.mpr ⟨rfl, List.forall_mem_cons.mpr ⟨rfl, List.forall_mem_cons.mpr ⟨rfl, List.forall_mem_cons.mpr ⟨rfl, List.forall_mem_cons.mpr ⟨rfl, List.forall_mem_cons.mpr ⟨rfl, List.forall_mem_cons.mpr ⟨rfl, List.forall_mem_cons.mpr ⟨rfl, List.forall_mem_nil _⟩⟩⟩⟩⟩⟩⟩⟩⟩⟩⟩⟩⟩⟩⟩⟩⟩⟩⟩⟩⟩⟩⟩⟩⟩⟩⟩⟩⟩⟩⟩⟩⟩⟩⟩⟩⟩⟩⟩⟩⟩, List.forall_mem_cons.mpr ⟨⟨_, rfl⟩, List.forall_mem_cons.mpr ⟨⟨_, rfl⟩, List.forall_mem_cons.mpr ⟨⟨_, rfl⟩, List.forall_mem_cons.mpr ⟨⟨_, rfl⟩, List.forall_mem_cons.mpr ⟨⟨_, rfl⟩, List.forall_mem_cons.mpr ⟨⟨_, rfl⟩, List.forall_mem_cons.mpr ⟨⟨_, rfl⟩, List.forall_mem_cons.mpr ⟨⟨_, rfl⟩, List.forall_mem_cons.mpr ⟨⟨_, rfl⟩, List.forall_mem_cons.mpr ⟨⟨_, rfl⟩, List.forall_mem_cons.mpr ⟨⟨_, rfl⟩, List.forall_mem_cons.mpr ⟨⟨_, rfl⟩, List.forall_mem_cons.mpr ⟨⟨_, rfl⟩, List.forall_mem_cons.mpr ⟨⟨_, rfl⟩, List.forall_mem_cons.mpr ⟨⟨_, rfl⟩, List.forall_mem_cons.mpr ⟨⟨_, rfl⟩, List.forall_mem_cons.mpr ⟨⟨_, rfl⟩, List.forall_mem_cons.mpr ⟨⟨_, rfl⟩, List.forall_mem_cons.mpr ⟨⟨_, rfl⟩, List.forall_mem_cons.mpr ⟨⟨_, rfl⟩, List.forall_mem_cons.mpr ⟨⟨_, rfl⟩, List.forall_mem_nil _⟩⟩⟩⟩⟩⟩⟩⟩⟩⟩⟩⟩⟩⟩⟩⟩⟩⟩⟩⟩⟩, ⟨_, rfl⟩⟩
def sw0 : lwT := ([], ([], (0, 0, 0, 0)), ([], 3, []), [], [], -1)
theorem co_0 : ∀ k, co (0, 0, 0, 0) k = 0 := fun k => by
  unfold co
  repeat' split
  all_goals rfl
theorem st_LX : LXs (hF f, 97, k) sw0 := ⟨st_ShX, ⟨fun _ => 0, by decide, rfl, fun i j _ hj => absurd hj (Nat.not_lt_zero j), fun i hi' => absurd hi' (Nat.not_lt_zero i)⟩, ⟨⟨by decide, rfl, fun p hp => absurd hp (Nat.not_lt_zero p)⟩, fun k _ => by
  show (0 : Int32) = iZ (co (0, 0, 0, 0) k) ∧ -99 ≤ co (0, 0, 0, 0) k ∧ co (0, 0, 0, 0) k ≤ 99
  rw [co_0]; decide⟩, ⟨⟨by decide, rfl, fun p hp => absurd hp (Nat.not_lt_zero p)⟩, ⟨by decide, by decide⟩, by decide, rfl, rfl, fun p hp => absurd hp (Nat.not_lt_zero p)⟩, ⟨⟨⟨by decide, fun p hp => absurd hp (Nat.not_lt_zero p)⟩, rfl⟩, by decide, rfl, fun p hp => absurd hp (Nat.not_lt_zero p)⟩, rfl, Or.inl rfl⟩
theorem st_LM : LMs (hF f, 97, k) sw0 := ⟨st_ShM, ⟨by decide, rfl, fun i hi' => absurd hi' (Nat.not_lt_zero i)⟩, ⟨⟨by decide, rfl, fun p hp => absurd hp (Nat.not_lt_zero p)⟩, fun k _ => by
  show (0 : Int32) = iZ (co (0, 0, 0, 0) k) ∧ -99 ≤ co (0, 0, 0, 0) k ∧ co (0, 0, 0, 0) k ≤ 99
  rw [co_0]; decide⟩, ⟨⟨by decide, rfl, fun p hp => absurd hp (Nat.not_lt_zero p)⟩, ⟨by decide, by decide⟩, by decide, rfl, rfl, fun p hp => absurd hp (Nat.not_lt_zero p)⟩, ⟨⟨⟨by decide, fun p hp => absurd hp (Nat.not_lt_zero p)⟩, rfl⟩, by decide, rfl, fun p hp => absurd hp (Nat.not_lt_zero p)⟩, rfl⟩
theorem st_LP : LPs sw0 := ⟨List.nodup_nil, List.nodup_nil, fun c hc => by cases hc⟩
theorem hF_lo {a : Nat} (h : a < 16) : hF f a = f a := (hM_lt (by omega)).trans (hX_lt h)
set_option maxRecDepth 100000 in
set_option maxHeartbeats 8000000 in
theorem law_begin {f0 : Nat → qC} {R : qRes} (hR : qEv 1000 3 qk_319 18 [some (.ref 0), some (.ref 16), some (.ref 55), some (.int (iN 0))] [] (hF f0, 97, 78870) R) : qEv 1000 3 qk_319 0 [some (.ref 0), none, none, none] [] (f0, 16, 0) R := by
  have e1 : qMC 1000 132 [.ref 16] (qup f0 16 (.inr (10, qdef 10)), 17, 13) (none, (hX f0, 55, 2468)) := by
    have := new_X (d := 998) (k := 0) (f := f0)
    simp only [qnew_mk, Nat.reduceAdd] at this
    exact this
  have e2 : qMC 1000 188 [.ref 55] (qup (hX f0) 55 (.inr (11, qdef 11)), 56, 2531) (none, (hF f0, 97, 78870)) := by
    have := new_M (d := 999) (k := 2468) (f := hX f0)
    simp only [qnew_mk, Nat.reduceAdd] at this
    exact this
  simp only [e319_0, e319_3, e319_4, e319_7, e319_8, e319_11, e319_12, e319_15, e319_16, e319_17, qnew_mk, qMC_det e1, qMC_det e2, ↓reduceIte, qg_0, qg_1, qg_2, qg_3, qg_4, qg_5, qg_6, qg_7, qg_8, qg_9, qg_10, qg_11, qg_12, qg_13, not_true_eq_false, not_false_eq_true, Nat.reduceBEq, Bool.false_eq_true, ex1, ex3, ex4, exF, qfit_i, qfit_l, qfit_r, qfit_n, qfit_b0, qfit_b1, qcat_i, qcat_r, qcat_n, qcat_l, qroom_0, qroom_c, List.map_cons, List.map_nil, List.sum_cons, List.sum_nil, Nat.reduceAdd, Nat.reduceMul, Nat.reduceLT, Nat.reduceLeDiff, Nat.reduceEqDiff, Nat.reduceSub, decide_true, true_and, and_true, and_self, if_true, if_false, Option.toList_some, Option.toList_none, List.cons_append, List.nil_append, qsL, qlong, List.length_cons, List.length_nil]
  exact hR
theorem st_0 {L : Nat} {xs : Nat → Int32} {k : Nat} : ((hF (qh0 L xs).1, 97, k) : qH).1 0 = .inl (0, L, .inl xs) := by
  show hF (qh0 L xs).1 0 = _
  rw [hF_lo (by decide)]
  rfl
theorem st_h {L : Nat} {xs : Nat → Int32} : (((qh0 L xs).1, 16, 0) : qH) = qh0 L xs := rfl
/-- the law's run, if pieces and turns are few -/
theorem law_all (g2 : geo2) (L : Nat) (xs : Nat → Int32) (hL : L ≤ 3584) : qLaw L xs := by
  obtain ⟨k, ek⟩ : ∃ k, k = 78870 := ⟨_, rfl⟩
  obtain ⟨w, ew⟩ : ∃ w, w = 512 := ⟨_, rfl⟩
  obtain ⟨h', r, c1, c2⟩ := law_loop (xs := xs) g2 hL w 0 (hF (qh0 L xs).1, 97, k) sw0 st_LX st_LM st_LP st_0 (by omega) (by omega)
  rw [ek] at r
  obtain ⟨N, n, r⟩ := law_begin r
  rw [st_h] at r
  have e0 : sw0.1.length = 0 := rfl
  rw [e0] at c1 c2
  have d1 : h'.2.1 ≤ 97 + 16 * w + 384 := c1
  have d2 : h'.2.2 ≤ k + 9600 * w + 230400 := c2
  clear c1 c2
  exact ⟨N, n, h', r, by omega, by omega⟩
end LAWSTART

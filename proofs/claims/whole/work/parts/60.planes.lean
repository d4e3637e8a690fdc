/-! ===== THE REFERENCE: findPlanes ===== -/
section PLANES
variable {d n D f : Nat} {P : Nat → Nat → Int} {h : qH} {S : Nat → Nat} {Q : Nat → Nat → Int}
/-- what was found are planes of choices, no two alike -/
def FLs (P : Nat → Nat → Int) (n D f : Nat) (S : Nat → Nat) (Q : Nat → Nat → Int) : Prop :=
  (∀ j, j < f → ∃ c0 c1 c2 c3, inc n D c0 c1 c2 c3 ∧ chG P n D c0 c1 c2 c3 ∧ S j = chM P n D c0 c1 c2 c3 ∧ ∀ k, Q j k = chQ P n D c0 c1 c2 c3 k) ∧ ∀ i j, i < j → j < f → S i ≠ S j
/-- never too many -/
def FLb (P : Nat → Nat → Int) (n D : Nat) : Prop := ∀ f S Q, FLs P n D f S Q → f < 2000
theorem FLs.grow {c0 c1 c2 c3 : Nat} (fl : FLs P n D f S Q) (i : inc n D c0 c1 c2 c3) (g : chG P n D c0 c1 c2 c3) (hne : ∀ j, j < f → S j ≠ chM P n D c0 c1 c2 c3) : FLs P n D (f + 1) (fun j => if j = f then chM P n D c0 c1 c2 c3 else S j) (fun j k => if j = f then chQ P n D c0 c1 c2 c3 k else Q j k) := by
  refine ⟨fun j hj => ?_, fun i' j h1 h2 => ?_⟩
  · by_cases e : j = f
    · refine ⟨c0, c1, c2, c3, i, g, ?_, fun k => ?_⟩
      · show (if j = f then _ else _) = _
        rw [if_pos e]
      · show (if j = f then _ else _) = _
        rw [if_pos e]
    · obtain ⟨e0, e1, e2, e3, a1, a2, a3, a4⟩ := fl.1 j (by omega)
      refine ⟨e0, e1, e2, e3, a1, a2, ?_, fun k => ?_⟩
      · show (if j = f then _ else _) = _
        rw [if_neg e]; exact a3
      · show (if j = f then _ else _) = _
        rw [if_neg e]; exact a4 k
  · show (if i' = f then _ else _) ≠ (if j = f then _ else _)
    rw [if_neg (by omega)]
    by_cases e : j = f
    · rw [if_pos e]; exact hne i' (by omega)
    · rw [if_neg e]; exact fl.2 i' j h1 (by omega)
/-- at the loop's head -/
def fpI (P : Nat → Nat → Int) (n D : Nat) (h0 : qH) : Option (Nat × Nat × Nat × Nat) → qL → qH → Prop := fun x L h' => ∃ f S Q x2 x3, L = [some (.ref 55), some (.int (iN (if x.isSome then 1 else 0))), x2, x3] ∧ Ch [64, 65, 66, 67] [11] h0 h' ∧ FdP h' f S Q ∧ FLs P n D f S Q ∧
  match x with
  | some (c0, c1, c2, c3) => inc n D c0 c1 c2 c3 ∧ pk h' D c0 c1 c2 c3 ∧ ∀ e0 e1 e2 e3, inc n D e0 e1 e2 e3 → Vc e0 e1 e2 e3 < Vc c0 c1 c2 c3 → chG P n D e0 e1 e2 e3 → ∃ j, j < f ∧ S j = chM P n D e0 e1 e2 e3
  | none => ∀ e0 e1 e2 e3, inc n D e0 e1 e2 e3 → chG P n D e0 e1 e2 e3 → ∃ j, j < f ∧ S j = chM P n D e0 e1 e2 e3
theorem Vc_inj {c0 c1 c2 c3 e0 e1 e2 e3 : Nat} (h16 : n ≤ 16) (i : inc n D c0 c1 c2 c3) (j : inc n D e0 e1 e2 e3) (hv : Vc e0 e1 e2 e3 = Vc c0 c1 c2 c3) : e0 = c0 ∧ e1 = c1 ∧ e2 = c2 ∧ e3 = c3 := by
  obtain ⟨hD, i1, i2⟩ := i
  obtain ⟨-, j1, j2⟩ := j
  have b : c0 < 16 ∧ c1 < 16 ∧ c2 < 16 ∧ c3 < 16 ∧ e0 < 16 ∧ e1 < 16 ∧ e2 < 16 ∧ e3 < 16 := by
    have h3 : D = 2 ∨ D = 3 ∨ D = 4 := by omega
    rcases h3 with rfl | rfl | rfl
    all_goals
      simp only [if_true, if_false, Nat.reduceEqDiff] at i2 j2
      omega
  unfold Vc at hv
  omega
theorem Vc_lt {c0 c1 c2 c3 : Nat} (h16 : n ≤ 16) (i : inc n D c0 c1 c2 c3) : Vc c0 c1 c2 c3 < 100000 := by
  obtain ⟨hD, i1, i2⟩ := i
  have h3 : D = 2 ∨ D = 3 ∨ D = 4 := by omega
  unfold Vc
  rcases h3 with rfl | rfl | rfl
  all_goals
    simp only [if_true, if_false, Nat.reduceEqDiff] at i2
    omega
theorem pk_c {c0 c1 c2 c3 : Nat} (i : inc n D c0 c1 c2 c3) (p : pk h D c0 c1 c2 c3) : ∀ k, k < D → hi h 67 k = iN (cf c0 c1 c2 c3 k) ∧ cf c0 c1 c2 c3 k < n := by
  obtain ⟨l0, l1, l2, l3⟩ := i.lt
  have hD := i.1
  intro k hk
  match k, hk with
  | 0, _ => exact ⟨p.1, l0⟩
  | 1, _ => exact ⟨p.2.1, l1⟩
  | 2, hk => exact ⟨p.2.2.1 (by omega), l2 (by omega)⟩
  | 3, hk => exact ⟨p.2.2.2 (by omega), l3 (by omega)⟩
  | k + 4, hk => omega
set_option maxRecDepth 100000 in
set_option maxHeartbeats 16000000 in
theorem fp_step (a : AtZ h n P) (hd : mi h 8 = iN D) (hn : mi h 9 = iN n) (h16 : n ≤ 16) (hD : D < n) (hD4 : 2 ≤ D ∧ D ≤ 4) (hB : FLb P n D) : ∀ (x : Option (Nat × Nat × Nat × Nat)) (L : qL) (h1 : qH), fpI P n D h x L h1 → ¬ x = none → ∃ x' L' h', fpI P n D h x' L' h' ∧ (match x' with | some c => 100000 - Vc c.1 c.2.1 c.2.2.1 c.2.2.2 | none => 0) < (match x with | some c => 100000 - Vc c.1 c.2.1 c.2.2.1 c.2.2.2 | none => 0) ∧ ∀ R, qEv (d + 4) 3 qk_208 45 L [] h1 R ↔ qEv (d + 4) 3 qk_208 45 L' [] h' R := by
  intro x L h1 hx hne
  match x, hne with
  | some (c0, c1, c2, c3), _ =>
  obtain ⟨f, S, Q, x2, x3, rfl, ch, fd, fl, i, p, cov⟩ := hx
  have s1 := ch.sh
  have a1 := ch.atz (by decide) a
  have d1 : mi h1 8 = iN D := (ch.mi (by decide)).trans hd
  have n1 : mi h1 9 = iN n := (ch.mi (by decide)).trans hn
  have hf := hB f S Q fl
  have hV := Vc_lt h16 i
  obtain ⟨h2, r2, c2', hcase⟩ := fp_P (d := d) (x1 := some (.int (iN 1))) (x2 := x2) (x3 := x3) s1 a1 d1 n1 h16 i p fd hf
  have r1 : ∀ R, qEv (d + 4) 3 qk_208 45 [some (.ref 55), some (.int (iN 1)), x2, x3] [] h1 R ↔ qEv (d + 4) 3 qk_208 101 [some (.ref 55), some (.int (iN 1)), x2, x3] [] h2 R := by
    intro R
    rw [← r2 R, e208_45]
    simp (disch := first | assumption | omega) only [e208_46, ↓reduceIte, qg_0, qg_1, qg_2, qg_3, qg_4, qg_5, qg_6, qg_7, qg_8, qg_9, qg_10, qg_11, qg_12, qg_13, not_true_eq_false, not_false_eq_true, Nat.reduceBEq, Bool.false_eq_true, ex1, ex3, ex4, exF, qfit_i, qfit_l, qfit_r, qfit_n, qfit_b0, qfit_b1, qcat_i, qcat_r, qcat_n, qcat_l, qroom_0, qroom_c, List.map_cons, List.map_nil, List.sum_cons, List.sum_nil, Nat.reduceAdd, Nat.reduceMul, Nat.reduceLT, Nat.reduceLeDiff, Nat.reduceEqDiff, Nat.reduceSub, decide_true, true_and, and_true, and_self, if_true, if_false, Option.toList_some, Option.toList_none, List.cons_append, List.nil_append, qsL, qlong, List.length_cons, List.length_nil, iN_L, iN_eq]
  have s2 := c2'.sh
  have ch2 : Ch [64, 65, 66, 67] [11] h h2 := ch.trans (c2'.mono (by decide) (by decide))
  have d2 : mi h2 8 = iN D := (ch2.mi (by decide)).trans hd
  have n2 : mi h2 9 = iN n := (ch2.mi (by decide)).trans hn
  have p2 : pk h2 D c0 c1 c2 c3 := by unfold pk; rw [c2'.hi (by decide) (by decide)]; exact p
  have hfl : ∃ f' S' Q', FdP h2 f' S' Q' ∧ FLs P n D f' S' Q' ∧ ∀ e0 e1 e2 e3, inc n D e0 e1 e2 e3 → Vc e0 e1 e2 e3 ≤ Vc c0 c1 c2 c3 → chG P n D e0 e1 e2 e3 → ∃ j, j < f' ∧ S' j = chM P n D e0 e1 e2 e3 := by
    rcases hcase with ⟨hc, fd2⟩ | ⟨hc, fd2⟩
    · refine ⟨f, S, Q, fd2, fl, fun e0 e1 e2 e3 ie hv g => ?_⟩
      rcases Nat.lt_or_eq_of_le hv with hv | hv
      · exact cov e0 e1 e2 e3 ie hv g
      · obtain ⟨rfl, rfl, rfl, rfl⟩ := Vc_inj h16 i ie hv
        rcases hc with hc | hc
        · exact absurd g hc
        · exact hc
    · refine ⟨_, _, _, fd2, fl.grow i hc.1 hc.2, fun e0 e1 e2 e3 ie hv g => ?_⟩
      rcases Nat.lt_or_eq_of_le hv with hv | hv
      · obtain ⟨j, hj, e⟩ := cov e0 e1 e2 e3 ie hv g
        refine ⟨j, by omega, ?_⟩
        show (if j = f then _ else _) = _
        rw [if_neg (by omega)]; exact e
      · obtain ⟨rfl, rfl, rfl, rfl⟩ := Vc_inj h16 i ie hv
        refine ⟨f, by omega, ?_⟩
        show (if f = f then _ else _) = _
        rw [if_pos rfl]
  obtain ⟨f', S', Q', fd', fl', cov'⟩ := hfl
  cases ht : topK n D (cf c0 c1 c2 c3) D with
  | zero =>
    refine ⟨none, _, h2, ⟨f', S', Q', some (.int (kv 0)), x3, rfl, ch2, fd', fl', fun e0 e1 e2 e3 ie g => cov' e0 e1 e2 e3 ie (nx_end h16 hD i ht ie) g⟩, by show 0 < 100000 - Vc c0 c1 c2 c3; omega, fun R => ?_⟩
    exact (r1 R).trans (fp_E s2 d2 n2 h16 hD hD4 (pk_c i p2) ht R)
  | succ K =>
    obtain ⟨g, r3, hg⟩ := fp_N (d := d) (y1 := iN 1) (x2 := x2) (x3 := x3) s2 d2 n2 h16 hD hD4 (pk_c i p2) ht
    obtain ⟨i', v1, v2⟩ := nx_next h16 hD i ht
    have k67 := kM_67 s2
    refine ⟨some (nxC D K (cf c0 c1 c2 c3) 0, nxC D K (cf c0 c1 c2 c3) 1, nxC D K (cf c0 c1 c2 c3) 2, nxC D K (cf c0 c1 c2 c3) 3), _, sI h2 67 g, ⟨f', S', Q', some (.int (iN K)), some (.int (iN D)), rfl, ch2.trans (Ch.rowI s2 k67 (by decide)), ?_, fl', i', ?_, ?_⟩, ?_, fun R => (r1 R).trans (r3 R)⟩
    · refine ⟨by rw [mi_sI k67]; exact fd'.1, fun j hj => ?_⟩
      rw [hi_sI, if_neg (by decide), hl_sI k67]
      exact fd'.2 j hj
    · unfold pk
      rw [hi_sI, if_pos rfl]
      exact ⟨hg 0 (by omega), hg 1 (by omega), fun z => hg 2 (by omega), fun z => hg 3 (by omega)⟩
    · intro e0 e1 e2 e3 ie hv gg
      exact cov' e0 e1 e2 e3 ie (v2 e0 e1 e2 e3 ie hv) gg
    · show 100000 - Vc (nxC D K (cf c0 c1 c2 c3) 0) (nxC D K (cf c0 c1 c2 c3) 1) (nxC D K (cf c0 c1 c2 c3) 2) (nxC D K (cf c0 c1 c2 c3) 3) < 100000 - Vc c0 c1 c2 c3
      omega
set_option maxRecDepth 100000 in
set_option maxHeartbeats 16000000 in
theorem s_findPlanes (s : ShM h) (a : AtZ h n P) (hd : mi h 8 = iN D) (hn : mi h 9 = iN n) (h16 : n ≤ 16) (hD4 : 2 ≤ D ∧ D ≤ 4) (hB : FLb P n D) :
    ∃ h' f S Q, (∀ R, qMC (d + 5) 208 [.ref 55] h R ↔ R = (some (.int (bB (decide (0 < f)))), h')) ∧ Ch [64, 65, 66, 67] [11] h h' ∧ FdP h' f S Q ∧ FLs P n D f S Q ∧ (D < n → ∀ e0 e1 e2 e3, inc n D e0 e1 e2 e3 → chG P n D e0 e1 e2 e3 → ∃ j, j < f ∧ S j = chM P n D e0 e1 e2 e3) ∧ (n ≤ D → f = 0) := by
  obtain ⟨h0, eh0⟩ : ∃ h0, h0 = mI h 11 (iN 0) := ⟨_, rfl⟩
  have s0 : ShM h0 := by rw [eh0]; exact s.setI (by decide)
  have ch0 : Ch [64, 65, 66, 67] [11] h h0 := by rw [eh0]; exact Ch.setI s (by decide) (by decide)
  have d0 : mi h0 8 = iN D := (ch0.mi (by decide)).trans hd
  have n0 : mi h0 9 = iN n := (ch0.mi (by decide)).trans hn
  have k67 := kM_67 s0
  have sh : ∀ G, ShM (sI h0 67 G) := fun G => s0.rowI k67
  have r0 : ∀ R, qMC (d + 5) 208 [.ref 55] h R ↔ qEv (d + 4) 3 qk_208 45 [some (.ref 55), some (.int (iN (if n ≤ D then 0 else 1))), none, none] [] (sI h0 67 (fun k => if k < D then iN k else hi h0 67 k)) R := by
    intro R
    simp (disch := first | assumption | omega) only [e208_0, e208_1, e208_2, e208_5, e208_6, e208_8, e208_9, e208_12, e208_15, e208_16, e208_19, e208_20, e208_21, e208_22, e208_25, e208_28, e208_29, e208_32, e208_33, e208_36, e208_39, e208_40, e208_43, e208_44, e208_46, e208_49, e208_50, e208_53, e208_54, e208_57, e208_58, e208_59, e208_60, e208_61, e208_64, e208_65, e208_68, e208_69, e208_70, e208_71, e208_72, e208_75, e208_76, e208_79, e208_80, e208_81, e208_82, e208_83, e208_86, e208_87, e208_90, e208_91, e208_92, e208_93, e208_94, e208_97, e208_98, e208_101, e208_102, e208_105, e208_106, e208_107, e208_108, e208_109, e208_112, e208_113, e208_116, e208_117, e208_118, e208_119, e208_122, e208_123, e208_126, e208_127, e208_128, e208_129, e208_132, e208_135, e208_138, e208_139, e208_142, e208_143, e208_146, e208_147, e208_148, e208_149, e208_152, e208_153, e208_156, e208_157, e208_158, e208_159, e208_160, e208_161, e208_162, e208_163, e208_164, e208_165, e208_166, e208_167, e208_168, e208_171, e208_174, e208_175, e208_178, e208_179, e208_180, e208_183, e208_184, e208_185, e208_186, e208_187, e208_188, e208_189, e208_190, e208_193, e208_196, e208_199, e208_200, e208_203, e208_206, e208_207, e208_210, e208_211, m208, ↓reduceIte, qg_0, qg_1, qg_2, qg_3, qg_4, qg_5, qg_6, qg_7, qg_8, qg_9, qg_10, qg_11, qg_12, qg_13, not_true_eq_false, not_false_eq_true, Nat.reduceBEq, Bool.false_eq_true, ex1, ex3, ex4, exF, qfit_i, qfit_l, qfit_r, qfit_n, qfit_b0, qfit_b1, qcat_i, qcat_r, qcat_n, qcat_l, qroom_0, qroom_c, List.map_cons, List.map_nil, List.sum_cons, List.sum_nil, Nat.reduceAdd, Nat.reduceMul, Nat.reduceLT, Nat.reduceLeDiff, Nat.reduceEqDiff, Nat.reduceSub, decide_true, true_and, and_true, and_self, if_true, if_false, Option.toList_some, Option.toList_none, List.cons_append, List.nil_append, qsL, qlong, List.length_cons, List.length_nil, iN_L, pM_11, ← eh0]
    have H0 : h0 = sI h0 67 (fun k => if k < 0 then iN k else hi h0 67 k) := by
      have : (fun k => if k < 0 then iN k else hi h0 67 k) = hi h0 67 := by funext k; rw [if_neg (by omega)]
      rw [this, sI_id k67]
    rw [show qEv (d + 4) 3 qk_208 7 [some (.ref 55), some (.int (iN 0)), none, none] [] h0 R ↔ qEv (d + 4) 3 qk_208 7 [some (.ref 55), some (.int (iN 0)), none, none] [] (sI h0 67 (fun k => if k < 0 then iN k else hi h0 67 k)) R by rw [← H0]]
    refine Iff.trans (loop_up (n := D) (L := fun k => [some (.ref 55), some (.int (iN k)), none, none]) (H := fun m => sI h0 67 (fun k => if k < m then iN k else hi h0 67 k)) ?_) ?_
    · intro m hm
      try dsimp only
      rw [e208_7]
      have eq1 : upd (fun k => if k < m then iN k else hi h0 67 k) m (iN m) = fun k => if k < m + 1 then iN k else hi h0 67 k := by
        funext k
        rw [upd_at]
        by_cases h1 : k = m
        · subst h1; rw [if_pos rfl, if_pos (by omega)]
        · rw [if_neg h1]
          by_cases h2 : k < m
          · rw [if_pos h2, if_pos (by omega)]
          · rw [if_neg h2, if_neg (by omega)]
      simp (disch := first | assumption | omega | exact sh _) only [e208_0, e208_1, e208_2, e208_5, e208_6, e208_8, e208_9, e208_12, e208_15, e208_16, e208_19, e208_20, e208_21, e208_22, e208_25, e208_28, e208_29, e208_32, e208_33, e208_36, e208_39, e208_40, e208_43, e208_44, e208_46, e208_49, e208_50, e208_53, e208_54, e208_57, e208_58, e208_59, e208_60, e208_61, e208_64, e208_65, e208_68, e208_69, e208_70, e208_71, e208_72, e208_75, e208_76, e208_79, e208_80, e208_81, e208_82, e208_83, e208_86, e208_87, e208_90, e208_91, e208_92, e208_93, e208_94, e208_97, e208_98, e208_101, e208_102, e208_105, e208_106, e208_107, e208_108, e208_109, e208_112, e208_113, e208_116, e208_117, e208_118, e208_119, e208_122, e208_123, e208_126, e208_127, e208_128, e208_129, e208_132, e208_135, e208_138, e208_139, e208_142, e208_143, e208_146, e208_147, e208_148, e208_149, e208_152, e208_153, e208_156, e208_157, e208_158, e208_159, e208_160, e208_161, e208_162, e208_163, e208_164, e208_165, e208_166, e208_167, e208_168, e208_171, e208_174, e208_175, e208_178, e208_179, e208_180, e208_183, e208_184, e208_185, e208_186, e208_187, e208_188, e208_189, e208_190, e208_193, e208_196, e208_199, e208_200, e208_203, e208_206, e208_207, e208_210, e208_211, m208, ↓reduceIte, qg_0, qg_1, qg_2, qg_3, qg_4, qg_5, qg_6, qg_7, qg_8, qg_9, qg_10, qg_11, qg_12, qg_13, not_true_eq_false, not_false_eq_true, Nat.reduceBEq, Bool.false_eq_true, ex1, ex3, ex4, exF, qfit_i, qfit_l, qfit_r, qfit_n, qfit_b0, qfit_b1, qcat_i, qcat_r, qcat_n, qcat_l, qroom_0, qroom_c, List.map_cons, List.map_nil, List.sum_cons, List.sum_nil, Nat.reduceAdd, Nat.reduceMul, Nat.reduceLT, Nat.reduceLeDiff, Nat.reduceEqDiff, Nat.reduceSub, decide_true, true_and, and_true, and_self, if_true, if_false, Option.toList_some, Option.toList_none, List.cons_append, List.nil_append, qsL, qlong, List.length_cons, List.length_nil, iN_L, gM_8, gM_15, mi_sI k67, d0, iN_le, show ¬ D ≤ m by omega, wM_67, hi_sI, sI_sI, eq1, exI, iN_add]
    · try dsimp only
      rw [e208_7]
      by_cases hnD : n ≤ D
      · simp (disch := first | assumption | omega | exact sh _) only [e208_0, e208_1, e208_2, e208_5, e208_6, e208_8, e208_9, e208_12, e208_15, e208_16, e208_19, e208_20, e208_21, e208_22, e208_25, e208_28, e208_29, e208_32, e208_33, e208_36, e208_39, e208_40, e208_43, e208_44, e208_46, e208_49, e208_50, e208_53, e208_54, e208_57, e208_58, e208_59, e208_60, e208_61, e208_64, e208_65, e208_68, e208_69, e208_70, e208_71, e208_72, e208_75, e208_76, e208_79, e208_80, e208_81, e208_82, e208_83, e208_86, e208_87, e208_90, e208_91, e208_92, e208_93, e208_94, e208_97, e208_98, e208_101, e208_102, e208_105, e208_106, e208_107, e208_108, e208_109, e208_112, e208_113, e208_116, e208_117, e208_118, e208_119, e208_122, e208_123, e208_126, e208_127, e208_128, e208_129, e208_132, e208_135, e208_138, e208_139, e208_142, e208_143, e208_146, e208_147, e208_148, e208_149, e208_152, e208_153, e208_156, e208_157, e208_158, e208_159, e208_160, e208_161, e208_162, e208_163, e208_164, e208_165, e208_166, e208_167, e208_168, e208_171, e208_174, e208_175, e208_178, e208_179, e208_180, e208_183, e208_184, e208_185, e208_186, e208_187, e208_188, e208_189, e208_190, e208_193, e208_196, e208_199, e208_200, e208_203, e208_206, e208_207, e208_210, e208_211, m208, ↓reduceIte, qg_0, qg_1, qg_2, qg_3, qg_4, qg_5, qg_6, qg_7, qg_8, qg_9, qg_10, qg_11, qg_12, qg_13, not_true_eq_false, not_false_eq_true, Nat.reduceBEq, Bool.false_eq_true, ex1, ex3, ex4, exF, qfit_i, qfit_l, qfit_r, qfit_n, qfit_b0, qfit_b1, qcat_i, qcat_r, qcat_n, qcat_l, qroom_0, qroom_c, List.map_cons, List.map_nil, List.sum_cons, List.sum_nil, Nat.reduceAdd, Nat.reduceMul, Nat.reduceLT, Nat.reduceLeDiff, Nat.reduceEqDiff, Nat.reduceSub, decide_true, true_and, and_true, and_self, if_true, if_false, Option.toList_some, Option.toList_none, List.cons_append, List.nil_append, qsL, qlong, List.length_cons, List.length_nil, iN_L, gM_8, gM_9, mi_sI k67, d0, n0, iN_le, Nat.le_refl, hnD]
      · simp (disch := first | assumption | omega | exact sh _) only [e208_0, e208_1, e208_2, e208_5, e208_6, e208_8, e208_9, e208_12, e208_15, e208_16, e208_19, e208_20, e208_21, e208_22, e208_25, e208_28, e208_29, e208_32, e208_33, e208_36, e208_39, e208_40, e208_43, e208_44, e208_46, e208_49, e208_50, e208_53, e208_54, e208_57, e208_58, e208_59, e208_60, e208_61, e208_64, e208_65, e208_68, e208_69, e208_70, e208_71, e208_72, e208_75, e208_76, e208_79, e208_80, e208_81, e208_82, e208_83, e208_86, e208_87, e208_90, e208_91, e208_92, e208_93, e208_94, e208_97, e208_98, e208_101, e208_102, e208_105, e208_106, e208_107, e208_108, e208_109, e208_112, e208_113, e208_116, e208_117, e208_118, e208_119, e208_122, e208_123, e208_126, e208_127, e208_128, e208_129, e208_132, e208_135, e208_138, e208_139, e208_142, e208_143, e208_146, e208_147, e208_148, e208_149, e208_152, e208_153, e208_156, e208_157, e208_158, e208_159, e208_160, e208_161, e208_162, e208_163, e208_164, e208_165, e208_166, e208_167, e208_168, e208_171, e208_174, e208_175, e208_178, e208_179, e208_180, e208_183, e208_184, e208_185, e208_186, e208_187, e208_188, e208_189, e208_190, e208_193, e208_196, e208_199, e208_200, e208_203, e208_206, e208_207, e208_210, e208_211, m208, ↓reduceIte, qg_0, qg_1, qg_2, qg_3, qg_4, qg_5, qg_6, qg_7, qg_8, qg_9, qg_10, qg_11, qg_12, qg_13, not_true_eq_false, not_false_eq_true, Nat.reduceBEq, Bool.false_eq_true, ex1, ex3, ex4, exF, qfit_i, qfit_l, qfit_r, qfit_n, qfit_b0, qfit_b1, qcat_i, qcat_r, qcat_n, qcat_l, qroom_0, qroom_c, List.map_cons, List.map_nil, List.sum_cons, List.sum_nil, Nat.reduceAdd, Nat.reduceMul, Nat.reduceLT, Nat.reduceLeDiff, Nat.reduceEqDiff, Nat.reduceSub, decide_true, true_and, and_true, and_self, if_true, if_false, Option.toList_some, Option.toList_none, List.cons_append, List.nil_append, qsL, qlong, List.length_cons, List.length_nil, iN_L, gM_8, gM_9, mi_sI k67, d0, n0, iN_le, Nat.le_refl, hnD]
  obtain ⟨h1, eh1⟩ : ∃ h1, h1 = sI h0 67 (fun k => if k < D then iN k else hi h0 67 k) := ⟨_, rfl⟩
  rw [← eh1] at r0
  have ch1 : Ch [64, 65, 66, 67] [11] h h1 := by rw [eh1]; exact ch0.trans (Ch.rowI s0 k67 (by decide))
  have fd1 : FdP h1 0 (fun _ => 0) (fun _ _ => 0) := by
    refine ⟨?_, fun j hj => absurd hj (Nat.not_lt_zero j)⟩
    rw [eh1, mi_sI k67, eh0, mi_mI, if_pos rfl]
  have fl1 : FLs P n D 0 (fun _ => 0) (fun _ _ => 0) := ⟨fun j hj => absurd hj (Nat.not_lt_zero j), fun i j _ hj => absurd hj (Nat.not_lt_zero j)⟩
  have fin : ∀ (f : Nat) (h2 : qH) (x2 x3 : Option Value) (S : Nat → Nat) (Q : Nat → Nat → Int), ShM h2 → FdP h2 f S Q → f < 2000 → ∀ R, qEv (d + 4) 3 qk_208 45 [some (.ref 55), some (.int (iN 0)), x2, x3] [] h2 R ↔ R = (some (.int (bB (decide (0 < f)))), h2) := by
    intro f h2 x2 x3 S Q s2 fd hf R
    rw [e208_45]
    by_cases hz : f = 0
    · subst hz
      have m0 : mi h2 11 = iN 0 := fd.1
      simp (disch := first | assumption | omega) only [e208_0, e208_1, e208_2, e208_5, e208_6, e208_7, e208_8, e208_9, e208_12, e208_15, e208_16, e208_19, e208_20, e208_21, e208_22, e208_25, e208_28, e208_29, e208_32, e208_33, e208_36, e208_39, e208_40, e208_43, e208_44, e208_46, e208_49, e208_50, e208_53, e208_54, e208_57, e208_58, e208_59, e208_60, e208_61, e208_64, e208_65, e208_68, e208_69, e208_70, e208_71, e208_72, e208_75, e208_76, e208_79, e208_80, e208_81, e208_82, e208_83, e208_86, e208_87, e208_90, e208_91, e208_92, e208_93, e208_94, e208_97, e208_98, e208_101, e208_102, e208_105, e208_106, e208_107, e208_108, e208_109, e208_112, e208_113, e208_116, e208_117, e208_118, e208_119, e208_122, e208_123, e208_126, e208_127, e208_128, e208_129, e208_132, e208_135, e208_138, e208_139, e208_142, e208_143, e208_146, e208_147, e208_148, e208_149, e208_152, e208_153, e208_156, e208_157, e208_158, e208_159, e208_160, e208_161, e208_162, e208_163, e208_164, e208_165, e208_166, e208_167, e208_168, e208_171, e208_174, e208_175, e208_178, e208_179, e208_180, e208_183, e208_184, e208_185, e208_186, e208_187, e208_188, e208_189, e208_190, e208_193, e208_196, e208_199, e208_200, e208_203, e208_206, e208_207, e208_210, e208_211, m208, ↓reduceIte, qg_0, qg_1, qg_2, qg_3, qg_4, qg_5, qg_6, qg_7, qg_8, qg_9, qg_10, qg_11, qg_12, qg_13, not_true_eq_false, not_false_eq_true, Nat.reduceBEq, Bool.false_eq_true, ex1, ex3, ex4, exF, qfit_i, qfit_l, qfit_r, qfit_n, qfit_b0, qfit_b1, qcat_i, qcat_r, qcat_n, qcat_l, qroom_0, qroom_c, List.map_cons, List.map_nil, List.sum_cons, List.sum_nil, Nat.reduceAdd, Nat.reduceMul, Nat.reduceLT, Nat.reduceLeDiff, Nat.reduceEqDiff, Nat.reduceSub, decide_true, true_and, and_true, and_self, if_true, if_false, Option.toList_some, Option.toList_none, List.cons_append, List.nil_append, qsL, qlong, List.length_cons, List.length_nil, iN_L, iN_eq, gM_11, m0, iN_le, Nat.le_refl, qfit_N0, Nat.lt_irrefl, decide_false, bB_f]
    · simp (disch := first | assumption | omega) only [e208_0, e208_1, e208_2, e208_5, e208_6, e208_7, e208_8, e208_9, e208_12, e208_15, e208_16, e208_19, e208_20, e208_21, e208_22, e208_25, e208_28, e208_29, e208_32, e208_33, e208_36, e208_39, e208_40, e208_43, e208_44, e208_46, e208_49, e208_50, e208_53, e208_54, e208_57, e208_58, e208_59, e208_60, e208_61, e208_64, e208_65, e208_68, e208_69, e208_70, e208_71, e208_72, e208_75, e208_76, e208_79, e208_80, e208_81, e208_82, e208_83, e208_86, e208_87, e208_90, e208_91, e208_92, e208_93, e208_94, e208_97, e208_98, e208_101, e208_102, e208_105, e208_106, e208_107, e208_108, e208_109, e208_112, e208_113, e208_116, e208_117, e208_118, e208_119, e208_122, e208_123, e208_126, e208_127, e208_128, e208_129, e208_132, e208_135, e208_138, e208_139, e208_142, e208_143, e208_146, e208_147, e208_148, e208_149, e208_152, e208_153, e208_156, e208_157, e208_158, e208_159, e208_160, e208_161, e208_162, e208_163, e208_164, e208_165, e208_166, e208_167, e208_168, e208_171, e208_174, e208_175, e208_178, e208_179, e208_180, e208_183, e208_184, e208_185, e208_186, e208_187, e208_188, e208_189, e208_190, e208_193, e208_196, e208_199, e208_200, e208_203, e208_206, e208_207, e208_210, e208_211, m208, ↓reduceIte, qg_0, qg_1, qg_2, qg_3, qg_4, qg_5, qg_6, qg_7, qg_8, qg_9, qg_10, qg_11, qg_12, qg_13, not_true_eq_false, not_false_eq_true, Nat.reduceBEq, Bool.false_eq_true, ex1, ex3, ex4, exF, qfit_i, qfit_l, qfit_r, qfit_n, qfit_b0, qfit_b1, qcat_i, qcat_r, qcat_n, qcat_l, qroom_0, qroom_c, List.map_cons, List.map_nil, List.sum_cons, List.sum_nil, Nat.reduceAdd, Nat.reduceMul, Nat.reduceLT, Nat.reduceLeDiff, Nat.reduceEqDiff, Nat.reduceSub, decide_true, true_and, and_true, and_self, if_true, if_false, Option.toList_some, Option.toList_none, List.cons_append, List.nil_append, qsL, qlong, List.length_cons, List.length_nil, iN_L, iN_eq, gM_11, fd.1, iN_le, show ¬ f ≤ 0 by omega, qfit_N1, show 0 < f by omega, decide_true, bB_t]
  by_cases hnD : n ≤ D
  · rw [if_pos hnD] at r0
    exact ⟨h1, 0, fun _ => 0, fun _ _ => 0, fun R => (r0 R).trans (fin 0 h1 none none _ _ ch1.sh fd1 (by omega) R), ch1, fd1, fl1, fun z => by omega, fun _ => rfl⟩
  · rw [if_neg hnD] at r0
    have i0 : inc n D 0 1 (if 3 ≤ D then 2 else 0) (if 4 ≤ D then 3 else 0) := by
      have h3 : D = 2 ∨ D = 3 ∨ D = 4 := by omega
      rcases h3 with rfl | rfl | rfl <;> simp [inc] <;> omega
    have p0 : pk h1 D 0 1 (if 3 ≤ D then 2 else 0) (if 4 ≤ D then 3 else 0) := by
      unfold pk
      rw [eh1, hi_sI, if_pos rfl]
      refine ⟨if_pos (by omega), if_pos (by omega), fun z => ?_, fun z => ?_⟩
      · rw [if_pos z]; exact if_pos (by omega)
      · rw [if_pos z]; exact if_pos (by omega)
    have hI : fpI P n D h (some (0, 1, (if 3 ≤ D then 2 else 0), (if 4 ≤ D then 3 else 0))) [some (.ref 55), some (.int (iN 1)), none, none] h1 := by
      refine ⟨0, fun _ => 0, fun _ _ => 0, none, none, rfl, ch1, fd1, fl1, i0, p0, fun e0 e1 e2 e3 ie hv g => ?_⟩
      exfalso
      obtain ⟨-, j1, j2⟩ := ie
      have h3 : D = 2 ∨ D = 3 ∨ D = 4 := by omega
      unfold Vc at hv
      rcases h3 with rfl | rfl | rfl
      all_goals
        simp only [if_true, if_false, Nat.reduceEqDiff, Nat.reduceLeDiff] at j2 hv
        omega
    obtain ⟨x', L', h2, hI', hx', r2⟩ := loop_wf (d := d + 4) (rt := 3) (K := qk_208) (pc := 45) (fun x : Option (Nat × Nat × Nat × Nat) => match x with | some c => 100000 - Vc c.1 c.2.1 c.2.2.1 c.2.2.2 | none => 0) (P := fpI P n D h) (D := fun x => x = none) (fp_step a hd hn h16 (by omega) hD4 hB) _ _ _ _ (Nat.le_refl _) hI
    subst hx'
    obtain ⟨f, S, Q, x2, x3, rfl, ch, fd, fl, cov⟩ := hI'
    exact ⟨h2, f, S, Q, fun R => ((r0 R).trans (r2 R)).trans (fin f h2 x2 x3 S Q ch.sh fd (hB f S Q fl) R), ch, fd, fl, fun _ => cov, fun z => by omega⟩
end PLANES

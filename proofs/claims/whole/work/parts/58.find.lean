/-! ===== THE REFERENCE: findPlanes, one choice of points ===== -/
section FIND
variable {d n f D c0 c1 : Nat} {P : Nat → Nat → Int} {h : qH}
/-- the plane of a choice of points -/
def chN (P : Nat → Nat → Int) (D c0 c1 c2 c3 : Nat) : Nat → Int := smN (rawN P D c0 c1 c2 c3)
def chB (P : Nat → Nat → Int) (D c0 c1 c2 c3 : Nat) : Int := sumZ (fun k => chN P D c0 c1 c2 c3 k * P c0 k) 4
def chM (P : Nat → Nat → Int) (n D c0 c1 c2 c3 : Nat) : Nat := mask (onP (chN P D c0 c1 c2 c3) (chB P D c0 c1 c2 c3) P) n
/-- it is a plane, with all points on one side -/
def chG (P : Nat → Nat → Int) (n D c0 c1 c2 c3 : Nat) : Prop := (∃ k, k < 4 ∧ chN P D c0 c1 c2 c3 k ≠ 0) ∧ sup (chN P D c0 c1 c2 c3) (chB P D c0 c1 c2 c3) P n
def chQ (P : Nat → Nat → Int) (n D c0 c1 c2 c3 k : Nat) : Int := kpQ (chN P D c0 c1 c2 c3) (chB P D c0 c1 c2 c3) P n k
/-- a choice of D points, the lesser first -/
def inc (n D c0 c1 c2 c3 : Nat) : Prop := (2 ≤ D ∧ D ≤ 4) ∧ c0 < c1 ∧ (if D = 2 then c1 < n ∧ c2 = 0 ∧ c3 = 0 else if D = 3 then c1 < c2 ∧ c2 < n ∧ c3 = 0 else c1 < c2 ∧ c2 < c3 ∧ c3 < n)
theorem inc.lt {c2 c3 : Nat} (i : inc n D c0 c1 c2 c3) : c0 < n ∧ c1 < n ∧ (3 ≤ D → c2 < n) ∧ (4 ≤ D → c3 < n) := by
  obtain ⟨hD, h1, h2⟩ := i
  by_cases e2 : D = 2
  · rw [if_pos e2] at h2; omega
  · rw [if_neg e2] at h2
    by_cases e3 : D = 3
    · rw [if_pos e3] at h2; omega
    · rw [if_neg e3] at h2; omega
theorem ch_plB {c2 c3 : Nat} (a : AtZ h n P) (i : inc n D c0 c1 c2 c3) : plB (chN P D c0 c1 c2 c3) (chB P D c0 c1 c2 c3) := by
  obtain ⟨l0, l1, l2, l3⟩ := i.lt
  have hN : ∀ k, k < 4 → -47856143952 ≤ chN P D c0 c1 c2 c3 k ∧ chN P D c0 c1 c2 c3 k ≤ 47856143952 := fun k _ => smN_b (rawN_b a l0 l1 l2 l3 i.1 k)
  have h2 : -((4 : Nat) * (47856143952 * 999 : Int)) ≤ chB P D c0 c1 c2 c3 ∧ chB P D c0 c1 c2 c3 ≤ (4 : Nat) * (47856143952 * 999 : Int) := sumZ_b fun k hk => mul_b (hN k hk) (a.2 c0 k l0 hk).2
  exact ⟨hN, by omega, by omega⟩
/-- the points picked stand in their row -/
def pk (h : qH) (D c0 c1 c2 c3 : Nat) : Prop := hi h 67 0 = iN c0 ∧ hi h 67 1 = iN c1 ∧ (3 ≤ D → hi h 67 2 = iN c2) ∧ (4 ≤ D → hi h 67 3 = iN c3)
set_option maxRecDepth 100000 in
set_option maxHeartbeats 16000000 in
theorem fp_P {c2 c3 : Nat} {S : Nat → Nat} {Q : Nat → Nat → Int} {x1 x2 x3 : Option Value} (s : ShM h) (a : AtZ h n P) (hd : mi h 8 = iN D) (hn : mi h 9 = iN n) (h16 : n ≤ 16) (i : inc n D c0 c1 c2 c3) (hp : pk h D c0 c1 c2 c3) (fd : FdP h f S Q) (hf2 : f < 2000) :
    ∃ h', (∀ R, qEv (d + 4) 3 qk_208 49 [some (.ref 55), x1, x2, x3] [] h R ↔ qEv (d + 4) 3 qk_208 101 [some (.ref 55), x1, x2, x3] [] h' R) ∧ Ch [64, 65, 66] [11] h h' ∧
      ((¬ chG P n D c0 c1 c2 c3 ∨ ∃ j, j < f ∧ S j = chM P n D c0 c1 c2 c3) ∧ FdP h' f S Q ∨
       (chG P n D c0 c1 c2 c3 ∧ ∀ j, j < f → S j ≠ chM P n D c0 c1 c2 c3) ∧ FdP h' (f + 1) (fun j => if j = f then chM P n D c0 c1 c2 c3 else S j) (fun j k => if j = f then chQ P n D c0 c1 c2 c3 k else Q j k)) := by
  obtain ⟨l0, l1, l2, l3⟩ := i.lt
  obtain ⟨p0, p1, p2, p3⟩ := hp
  obtain ⟨G, r1, hG, hG4⟩ := s_findNormal (d := d) s a hd i.1 l0 l1 p0 p1 (fun z => ⟨l2 z, p2 z⟩) (fun z => ⟨l3 z, p3 z⟩)
  have hpl := ch_plB a i
  have k66 := kM_66 s
  have sG : ShM (sL h 66 G) := s.rowL k66
  have aG : AtZ (sL h 66 G) n P := a.same (hi_sL k66)
  have chG1 : Ch [64, 65, 66] [11] h (sL h 66 G) := Ch.rowL s k66 (by decide)
  have fdG : FdP (sL h 66 G) f S Q := by
    refine ⟨by rw [mi_sL k66]; exact fd.1, fun j hj => ?_⟩
    rw [hi_sL k66, hl_sL, if_neg (by decide)]
    exact fd.2 j hj
  have eG : ∀ k, k < 4 → hl (sL h 66 G) 66 k = lZ (chN P D c0 c1 c2 c3 k) := fun k hk => by rw [hl_sL, if_pos rfl]; exact hG k hk
  have eG4 : hl (sL h 66 G) 66 4 = lZ (chB P D c0 c1 c2 c3) := by rw [hl_sL, if_pos rfl]; exact hG4
  have nG : mi (sL h 66 G) 9 = iN n := by rw [mi_sL k66]; exact hn
  have z : ∀ k, k < 4 → (lZ (chN P D c0 c1 c2 c3 k) = lZ 0 ↔ chN P D c0 c1 c2 c3 k = 0) := fun k hk => lZ_eq (lB_of (hpl.1 k hk)) lB_0
  by_cases hz : ∃ k, k < 4 ∧ chN P D c0 c1 c2 c3 k ≠ 0
  · obtain ⟨h', r2, c2', hc⟩ := s_keepPlane (d := d + 2) sG aG nG h16 eG eG4 hpl fdG hf2
    refine ⟨h', fun R => ?_, chG1.trans (c2'.mono (by decide) (by decide)), ?_⟩
    · have r2' : ∀ R, qMC (d + 4) 207 [.ref 55] (sL h 66 G) R ↔ R = (none, h') := r2
      simp (disch := first | assumption | omega) only [e208_0, e208_1, e208_2, e208_5, e208_6, e208_7, e208_8, e208_9, e208_12, e208_15, e208_16, e208_19, e208_20, e208_21, e208_22, e208_25, e208_28, e208_29, e208_32, e208_33, e208_36, e208_39, e208_40, e208_43, e208_44, e208_46, e208_50, e208_53, e208_54, e208_57, e208_58, e208_59, e208_60, e208_61, e208_64, e208_65, e208_68, e208_69, e208_70, e208_71, e208_72, e208_75, e208_76, e208_79, e208_80, e208_81, e208_82, e208_83, e208_86, e208_87, e208_90, e208_91, e208_92, e208_93, e208_94, e208_97, e208_98, e208_102, e208_105, e208_106, e208_107, e208_108, e208_109, e208_112, e208_113, e208_116, e208_117, e208_118, e208_119, e208_122, e208_123, e208_126, e208_127, e208_128, e208_129, e208_132, e208_135, e208_138, e208_139, e208_142, e208_143, e208_146, e208_147, e208_148, e208_149, e208_152, e208_153, e208_156, e208_157, e208_158, e208_159, e208_160, e208_161, e208_162, e208_163, e208_164, e208_165, e208_166, e208_167, e208_168, e208_171, e208_174, e208_175, e208_178, e208_179, e208_180, e208_183, e208_184, e208_185, e208_186, e208_187, e208_188, e208_189, e208_190, e208_193, e208_196, e208_199, e208_200, e208_203, e208_206, e208_207, e208_210, e208_211, m208, ↓reduceIte, qg_0, qg_1, qg_2, qg_3, qg_4, qg_5, qg_6, qg_7, qg_8, qg_9, qg_10, qg_11, qg_12, qg_13, not_true_eq_false, not_false_eq_true, Nat.reduceBEq, Bool.false_eq_true, ex1, ex3, ex4, exF, qfit_i, qfit_l, qfit_r, qfit_n, qfit_b0, qfit_b1, qcat_i, qcat_r, qcat_n, qcat_l, qroom_0, qroom_c, List.map_cons, List.map_nil, List.sum_cons, List.sum_nil, Nat.reduceAdd, Nat.reduceMul, Nat.reduceLT, Nat.reduceLeDiff, Nat.reduceEqDiff, Nat.reduceSub, decide_true, true_and, and_true, and_self, if_true, if_false, Option.toList_some, Option.toList_none, List.cons_append, List.nil_append, qsL, qlong, List.length_cons, List.length_nil, e208_49, vM1, vM2, r1, gM_14, iN_L, rM_66, eG 0 (by decide), eG 1 (by decide), eG 2 (by decide), eG 3 (by decide), lgN_eq, show (0 : Int64) = lZ 0 from rfl, z 0 (by decide), z 1 (by decide), z 2 (by decide), z 3 (by decide), r2']
      by_cases z0 : chN P D c0 c1 c2 c3 0 = 0
      · by_cases z1 : chN P D c0 c1 c2 c3 1 = 0
        · by_cases z2 : chN P D c0 c1 c2 c3 2 = 0
          · by_cases z3 : chN P D c0 c1 c2 c3 3 = 0
            · obtain ⟨k, hk, hne⟩ := hz
              match k, hk with
              | 0, _ => exact absurd z0 hne
              | 1, _ => exact absurd z1 hne
              | 2, _ => exact absurd z2 hne
              | 3, _ => exact absurd z3 hne
            · simp only [z0, z1, z2, z3, not_true_eq_false, not_false_eq_true, if_true, if_false]
          · simp only [z0, z1, z2, not_true_eq_false, not_false_eq_true, if_true, if_false]
        · simp only [z0, z1, not_true_eq_false, not_false_eq_true, if_true, if_false]
      · simp only [z0, not_true_eq_false, not_false_eq_true, if_true, if_false]
    · rcases hc with ⟨h1, h2⟩ | ⟨h1, h2⟩
      · left
        refine ⟨?_, by rw [h2]; exact fdG⟩
        rcases h1 with h1 | h1
        · exact Or.inl fun g => h1 g.2
        · exact Or.inr h1
      · right
        exact ⟨⟨⟨hz, h1.1⟩, h1.2⟩, h2⟩
  · have hz' : ∀ k, k < 4 → chN P D c0 c1 c2 c3 k = 0 := fun k hk => Classical.byContradiction fun e => hz ⟨k, hk, e⟩
    refine ⟨sL h 66 G, fun R => ?_, chG1, Or.inl ⟨Or.inl fun g => hz g.1, fdG⟩⟩
    simp (disch := first | assumption | omega) only [e208_0, e208_1, e208_2, e208_5, e208_6, e208_7, e208_8, e208_9, e208_12, e208_15, e208_16, e208_19, e208_20, e208_21, e208_22, e208_25, e208_28, e208_29, e208_32, e208_33, e208_36, e208_39, e208_40, e208_43, e208_44, e208_46, e208_50, e208_53, e208_54, e208_57, e208_58, e208_59, e208_60, e208_61, e208_64, e208_65, e208_68, e208_69, e208_70, e208_71, e208_72, e208_75, e208_76, e208_79, e208_80, e208_81, e208_82, e208_83, e208_86, e208_87, e208_90, e208_91, e208_92, e208_93, e208_94, e208_97, e208_98, e208_102, e208_105, e208_106, e208_107, e208_108, e208_109, e208_112, e208_113, e208_116, e208_117, e208_118, e208_119, e208_122, e208_123, e208_126, e208_127, e208_128, e208_129, e208_132, e208_135, e208_138, e208_139, e208_142, e208_143, e208_146, e208_147, e208_148, e208_149, e208_152, e208_153, e208_156, e208_157, e208_158, e208_159, e208_160, e208_161, e208_162, e208_163, e208_164, e208_165, e208_166, e208_167, e208_168, e208_171, e208_174, e208_175, e208_178, e208_179, e208_180, e208_183, e208_184, e208_185, e208_186, e208_187, e208_188, e208_189, e208_190, e208_193, e208_196, e208_199, e208_200, e208_203, e208_206, e208_207, e208_210, e208_211, m208, ↓reduceIte, qg_0, qg_1, qg_2, qg_3, qg_4, qg_5, qg_6, qg_7, qg_8, qg_9, qg_10, qg_11, qg_12, qg_13, not_true_eq_false, not_false_eq_true, Nat.reduceBEq, Bool.false_eq_true, ex1, ex3, ex4, exF, qfit_i, qfit_l, qfit_r, qfit_n, qfit_b0, qfit_b1, qcat_i, qcat_r, qcat_n, qcat_l, qroom_0, qroom_c, List.map_cons, List.map_nil, List.sum_cons, List.sum_nil, Nat.reduceAdd, Nat.reduceMul, Nat.reduceLT, Nat.reduceLeDiff, Nat.reduceEqDiff, Nat.reduceSub, decide_true, true_and, and_true, and_self, if_true, if_false, Option.toList_some, Option.toList_none, List.cons_append, List.nil_append, qsL, qlong, List.length_cons, List.length_nil, e208_49, vM1, vM2, r1, gM_14, iN_L, rM_66, eG 0 (by decide), eG 1 (by decide), eG 2 (by decide), eG 3 (by decide), lgN_eq, show (0 : Int64) = lZ 0 from rfl, hz' 0 (by decide), hz' 1 (by decide), hz' 2 (by decide), hz' 3 (by decide)]
end FIND

/-! ===== THE CLASS: findFacets ===== -/
section XFIND
variable {d D : Nat} {h : qH} {R : qRes} {l : List pt4} {c0 c1 c2 c3 : Nat}
theorem HtX.ch {A : List Nat} {J : List (Nat × Nat)} {k : Nat} {h' : qH} (v : HtX h D l) (c : ChX A J k h h') (s : ShX h) (h1 : 20 ∉ A) (h2 : (19, 1) ∉ J) (h3 : (19, 2) ∉ J) (h4 : (19, 3) ∉ J) : HtX h' D l := by
  obtain ⟨v1, v2, v3, v4⟩ := v
  refine ⟨(c.xi (by decide) h4).trans v1, (c.xi (by decide) h2).trans v2, (c.xi (by decide) h3).trans v3, fun p hp h5 k hk => ?_⟩
  rw [c.hi h1 (by decide) (s.lt (by decide))]
  exact v4 p hp h5 k hk
theorem mask_full {f : Nat → Bool} {n : Nat} : mask f n = 2 ^ n - 1 ↔ ∀ k, k < n → f k = true := by
  constructor
  · intro z k hk
    have := mask_bit f n k
    rw [z, Nat.testBit_two_pow_sub_one, decide_eq_true hk, Bool.true_and] at this
    exact this.symm
  · intro z
    apply Nat.eq_of_testBit_eq
    intro k
    rw [mask_bit, Nat.testBit_two_pow_sub_one]
    by_cases hk : k < n
    · rw [z k hk, Bool.and_true]
    · rw [decide_eq_false hk, Bool.false_and]
/-- the same plane, by the points picked -/
theorem ch_same (hD : 2 ≤ D ∧ D ≤ 4) (hz : ∃ k, k < 4 ∧ chN (lP l) D c0 c1 c2 c3 k ≠ 0) {m : Nat → Int} (hn : gnz (D + 1) m) (m0 : dt (D + 1) m (vX l D c0) = 0) (m1 : dt (D + 1) m (vX l D c1) = 0) (m2 : 3 ≤ D → dt (D + 1) m (vX l D c2) = 0) (m3 : 4 ≤ D → dt (D + 1) m (vX l D c3) = 0) (p : Nat) : dt (D + 1) m (vX l D p) = 0 ↔ lev (chN (lP l) D c0 c1 c2 c3) (chB (lP l) D c0 c1 c2 c3) (lP l) p = 0 := by
  have g := pick_gpr hD hz m0 m1 m2 m3
  have e : dt (D + 1) (pF D (chN (lP l) D c0 c1 c2 c3) (chB (lP l) D c0 c1 c2 c3)) (vX l D p) = lev (chN (lP l) D c0 c1 c2 c3) (chB (lP l) D c0 c1 c2 c3) (lP l) p := pF_dt hD.2 fun k h1 h2 => chN_0 hD.1 h1 h2
  constructor
  · intro z
    obtain ⟨j, hj, nz⟩ := hn
    have := gpr_dt g (x := vX l D p) hj
    rw [z, Int.zero_mul, e] at this
    exact (Int.mul_eq_zero.mp this.symm).resolve_left nz
  · intro z
    obtain ⟨k, hk, nz⟩ := hz
    have kD : k < D := by
      rcases Nat.lt_or_ge k D with w | w
      · exact w
      · exact absurd (chN_0 hD.1 w hk) nz
    have := gpr_dt g (x := vX l D p) (show k < D + 1 by omega)
    rw [e, z, Int.mul_zero] at this
    refine (Int.mul_eq_zero.mp this).resolve_right ?_
    unfold pF
    rw [if_neg (by omega)]
    exact nz
theorem xpN_ch (hz : ∃ k, k < 4 ∧ rawN (lP l) D c0 c1 c2 c3 k ≠ 0) : ∃ g : Int, 0 < g ∧ ∀ t, t < 5 → xpN l D c0 c1 c2 c3 t = g * plN (chN (lP l) D c0 c1 c2 c3) (chB (lP l) D c0 c1 c2 c3) t := by
  obtain ⟨g, hg, hr⟩ := raw_ch hz
  refine ⟨g, hg, fun t ht => ?_⟩
  unfold xpN plN
  by_cases e : t = 4
  · rw [if_pos e, if_pos e]
    unfold chB
    rw [← sumZ_mul]
    exact sumZ_ext fun k hk => by rw [hr k hk, Int.mul_assoc]
  · rw [if_neg e, if_neg e]
    exact hr t (by omega)
theorem xpN_lev {g : Int} (hg : ∀ t, t < 5 → xpN l D c0 c1 c2 c3 t = g * plN (chN (lP l) D c0 c1 c2 c3) (chB (lP l) D c0 c1 c2 c3) t) (p : Nat) : lev (xpN l D c0 c1 c2 c3) (xpN l D c0 c1 c2 c3 4) (lP l) p = g * lev (chN (lP l) D c0 c1 c2 c3) (chB (lP l) D c0 c1 c2 c3) (lP l) p := by
  unfold lev
  rw [Int.mul_sub, ← sumZ_mul, hg 4 (by decide)]
  congr 1
  exact sumZ_ext fun k hk => by
    rw [hg k (by omega), Int.mul_assoc]
    unfold plN
    rw [if_neg (by omega)]
theorem mul_sg {g a : Int} (hg : 0 < g) : (0 < g * a ↔ 0 < a) ∧ (g * a < 0 ↔ a < 0) ∧ (g * a = 0 ↔ a = 0) := by
  rcases Int.lt_trichotomy a 0 with z | z | z
  · have := Int.mul_neg_of_pos_of_neg hg z
    omega
  · subst z; rw [Int.mul_zero]; omega
  · have := Int.mul_pos hg z
    omega
theorem xpN_b (sm : smP l) (i : inc l.length D c0 c1 c2 c3) : plB (xpN l D c0 c1 c2 c3) (xpN l D c0 c1 c2 c3 4) := by
  have a : ∀ k, k < 4 → -47856143952 ≤ xpN l D c0 c1 c2 c3 k ∧ xpN l D c0 c1 c2 c3 k ≤ 47856143952 := fun k hk => by
    unfold xpN
    rw [if_neg (by omega)]
    exact raw_b sm i hk
  refine ⟨a, ?_⟩
  have e : xpN l D c0 c1 c2 c3 4 = sumZ (fun k => rawN (lP l) D c0 c1 c2 c3 k * lP l c0 k) 4 := if_pos rfl
  have := sumZ_b (m := 4) (f := fun k => rawN (lP l) D c0 c1 c2 c3 k * lP l c0 k) (B := 47856143952 * 999) fun k hk => mul_b (raw_b sm i hk) (lP_sm sm hk i.lt.1)
  rw [e]
  omega
/-- what has been found, up to the choice y -/
def ffX (h0 : qH) (l : List pt4) (D y : Nat) (h' : qH) : Prop := ∃ f S Q Q', ChX [21, 22, 23, 24] [(19, 6)] 0 h0 h' ∧ HfX h' f S Q ∧ FLs (lP l) l.length D f S Q' ∧ (∀ j, j < f → plBd D (Q j) ∧ ∃ v : Int, 0 < v ∧ ∀ t, t < 5 → Q j t = v * Q' j t) ∧ ∀ c0 c1 c2 c3, inc l.length D c0 c1 c2 c3 → stL (cl4 D c0 c1 c2 c3) < y → chG (lP l) l.length D c0 c1 c2 c3 → ∃ j, j < f ∧ S j = chM (lP l) l.length D c0 c1 c2 c3
theorem cl4_0 (hD : 2 ≤ D) : c0 ∈ cl4 D c0 c1 c2 c3 ∧ c1 ∈ cl4 D c0 c1 c2 c3 ∧ (3 ≤ D → c2 ∈ cl4 D c0 c1 c2 c3) ∧ (4 ≤ D → c3 ∈ cl4 D c0 c1 c2 c3) := by
  unfold cl4
  by_cases e : D = 2
  · rw [if_pos e]; refine ⟨?_, ?_, fun z => ?_, fun z => ?_⟩ <;> first | omega | simp
  · rw [if_neg e]
    by_cases e2 : D = 3
    · rw [if_pos e2]; refine ⟨?_, ?_, fun z => ?_, fun z => ?_⟩ <;> first | omega | simp
    · rw [if_neg e2]; refine ⟨?_, ?_, fun z => ?_, fun z => ?_⟩ <;> simp
theorem cl4_inj {n e0 e1 e2 e3 : Nat} (i : inc n D c0 c1 c2 c3) (j : inc n D e0 e1 e2 e3) (em : cl4 D e0 e1 e2 e3 = cl4 D c0 c1 c2 c3) : e0 = c0 ∧ e1 = c1 ∧ e2 = c2 ∧ e3 = c3 := by
  obtain ⟨hD, i1, i2⟩ := i
  obtain ⟨-, j1, j2⟩ := j
  have h3 : D = 2 ∨ D = 3 ∨ D = 4 := by omega
  rcases h3 with rfl | rfl | rfl
  · simp only [if_true] at i2 j2
    simp [cl4] at em
    omega
  · simp only [if_true, if_false, Nat.reduceEqDiff] at i2 j2
    simp [cl4] at em
    omega
  · simp only [if_true, if_false, Nat.reduceEqDiff] at i2 j2
    simp [cl4] at em
    omega
/-- the coverage goes on to the next choice -/
theorem cov_next {n y : Nat} {T : Nat → Nat → Nat → Nat → Prop} (h16 : n ≤ 16) (hD : 2 ≤ D ∧ D ≤ 4) (hy : y < 65536) (hp : pop y 16 = D) (ic : inc n D c0 c1 c2 c3) (ey : mems y = cl4 D c0 c1 c2 c3) (hc : T c0 c1 c2 c3) (cov : ∀ e0 e1 e2 e3, inc n D e0 e1 e2 e3 → stL (cl4 D e0 e1 e2 e3) < y → T e0 e1 e2 e3) : ∀ e0 e1 e2 e3, inc n D e0 e1 e2 e3 → stL (cl4 D e0 e1 e2 e3) < gNx y → T e0 e1 e2 e3 := by
  intro e0 e1 e2 e3 ie hlt
  obtain ⟨ein, -⟩ := cl4_in h16 ie
  have z16 := stL_lt ein
  have zp : pop (stL (cl4 D e0 e1 e2 e3)) 16 = D := by rw [pop_mems, mems_stL ein, cl4_len hD]
  rcases Nat.lt_trichotomy (stL (cl4 D e0 e1 e2 e3)) y with w | w | w
  · exact cov e0 e1 e2 e3 ie w
  · have em : cl4 D e0 e1 e2 e3 = cl4 D c0 c1 c2 c3 := by rw [← ey, ← w, mems_stL ein]
    obtain ⟨rfl, rfl, rfl, rfl⟩ := cl4_inj ic ie em
    exact hc
  · have := (gos hD).2 y _ w z16 hp zp
    omega
set_option maxRecDepth 100000 in
set_option maxHeartbeats 32000000 in
/-- one choice -/
theorem ff_one {y k : Nat} {x4 : Option Value} {h1 : qH} (s : ShX h) (v : HtX h D l) (ok : okP l D) (hy : y < 2 ^ l.length) (hp : pop y 16 = D) (hk : k < 1820) (I : ffX h l D y h1) :
    (¬ solid l D ∧ ∃ h2, (∀ R, qEv (d + 5) 3 qk_23 23 [some (.ref 19), some (.int (iN (2 ^ l.length))), some (.int (iN y)), some (.int (iN k)), x4] [] h1 R ↔ R = (some (.int (iN 0)), h2)) ∧ ChX [21, 22, 23, 24] [(19, 6)] 0 h h2) ∨
    (∃ h2 x4', (∀ R, qEv (d + 5) 3 qk_23 23 [some (.ref 19), some (.int (iN (2 ^ l.length))), some (.int (iN y)), some (.int (iN k)), x4] [] h1 R ↔ qEv (d + 5) 3 qk_23 23 [some (.ref 19), some (.int (iN (2 ^ l.length))), some (.int (iN (gNx y))), some (.int (iN (k + 1))), x4'] [] h2 R) ∧ ffX h l D (gNx y) h2) := by
  obtain ⟨f, S, Q, Q', ch, hfx, fl, pq, cov⟩ := I
  obtain ⟨sm, nd, h16, pj, hD⟩ := id ok
  obtain ⟨c0, c1, c2, c3, i, em⟩ := cl4_of h16 hD hy hp
  have y16 : y < 65536 := Nat.lt_of_lt_of_le hy (Nat.pow_le_pow_right (by decide) h16)
  have n16 : 2 ^ l.length ≤ 65536 := Nat.pow_le_pow_right (show 0 < 2 by decide) h16
  have ey : y = stL (cl4 D c0 c1 c2 c3) := by rw [← em, stL_mems y16]
  obtain ⟨m0, m1, m2, m3⟩ := cl4_0 (c0 := c0) (c1 := c1) (c2 := c2) (c3 := c3) hD.1
  have mb : ∀ c, c ∈ cl4 D c0 c1 c2 c3 → y.testBit c = true := fun c hc => (mem_mems y16).mp (by rw [em]; exact hc)
  have cin := (cl4_in h16 i).1
  obtain ⟨l0, l1, l2, l3⟩ := i.lt
  have s1 := ch.sh
  have v1 := v.ch ch s (by decide) (by decide) (by decide) (by decide)
  have g := (gos hD).1 y y16 hp
  have nx : ∀ h' R, qMC (d + 5) 24 [.int (iN y)] h' R ↔ R = (some (.int (iN (gNx y))), h') := fun h' R => by
    have h1 : ∃ c ms, cl4 D c0 c1 c2 c3 = c :: ms := by
      unfold cl4
      split
      · exact ⟨_, _, rfl⟩
      · split
        · exact ⟨_, _, rfl⟩
        · exact ⟨_, _, rfl⟩
    obtain ⟨c, ms, e⟩ := h1
    rw [e] at cin ey
    rw [ey]
    exact x_nextChoice (stL_lt cin) stL_hd (stL_lo cin)
  have inF : ∀ R, qMC (d + 5) 25 [.ref 19, .int (iN y)] h1 R ↔ R = (some (.int (bB (anyN (fun j => decide (wo y (S j) = 0)) f))), h1) := fun R => x_isInFacet s1 hfx y16
  have lt1 : ¬ 1820 ≤ k := by omega
  have lt2 : ¬ 2 ^ l.length ≤ y := by omega
  by_cases hin : anyN (fun j => decide (wo y (S j) = 0)) f = true
  · right
    rw [hin, bN_t] at inF
    obtain ⟨j, hj, e⟩ := anyN_iff.mp hin
    have sub := wo_0i.mp (of_decide_eq_true e)
    refine ⟨h1, x4, fun R => ?_, f, S, Q, Q', ch, hfx, fl, pq, cov_next h16 hD y16 hp i em (fun g => ⟨j, hj, ?_⟩) cov⟩
    · rw [e23_23]
      simp (disch := first | assumption | omega) only [e23_0, e23_1, e23_2, e23_5, e23_6, e23_7, e23_10, e23_11, e23_12, e23_13, e23_14, e23_17, e23_18, e23_19, e23_20, e23_21, e23_22, e23_24, e23_27, e23_30, e23_31, e23_32, e23_35, e23_36, e23_37, e23_40, e23_43, e23_44, e23_45, e23_48, e23_51, e23_52, e23_55, e23_57, e23_59, e23_60, e23_61, e23_62, e23_65, e23_66, e23_67, e23_70, e23_71, e23_72, e23_74, e23_75, e23_78, e23_79, e23_81, e23_84, e23_85, e23_88, e23_89, e23_92, e23_95, e23_96, e23_99, e23_100, e23_103, e23_106, e23_107, e23_110, e23_111, m23, ↓reduceIte, qg_0, qg_1, qg_2, qg_3, qg_4, qg_5, qg_6, qg_7, qg_8, qg_9, qg_10, qg_11, qg_12, qg_13, not_true_eq_false, not_false_eq_true, Nat.reduceBEq, Bool.false_eq_true, ex1, ex3, ex4, exF, qfit_i, qfit_l, qfit_r, qfit_n, qfit_b0, qfit_b1, qcat_i, qcat_r, qcat_n, qcat_l, qroom_0, qroom_c, List.map_cons, List.map_nil, List.sum_cons, List.sum_nil, Nat.reduceAdd, Nat.reduceMul, Nat.reduceLT, Nat.reduceLeDiff, Nat.reduceEqDiff, Nat.reduceSub, decide_true, true_and, and_true, and_self, if_true, if_false, Option.toList_some, Option.toList_none, List.cons_append, List.nil_append, qsL, qlong, List.length_cons, List.length_nil, iN_L, exI, iN_add, iN_mul, iN_le, iN_lt, iN_eq, Nat.le_refl, qfN0, qfN1, uX_16, vX_16, uX_19, vX_19, uX_27, vX_27, uX_30, vX_30, uX_39, vX_39, uX_41, vX_41, uX_43, vX_43, uX_46, vX_46, uX_50, vX_50, uX_53, vX_53, lt1, lt2, inF, nx]
    · obtain ⟨e0, e1, e2, e3, ie, ge, eS, -⟩ := fl.1 j hj
      rw [eS, ch_zM ie, ch_zM i]
      rw [eS, ch_zM ie] at sub
      have fc := ch_fc ie ge
      have on : ∀ c, c ∈ cl4 D c0 c1 c2 c3 → dt (D + 1) (oF D (chQ (lP l) l.length D e0 e1 e2 e3)) (vX l D c) = 0 := fun c hc => by
        have hb := sub c (mb c hc)
        exact (zM_bit ((cl4_in h16 i).2 c hc)).mp hb
      unfold zM
      refine mask_ext fun p hp => decide_eq_decide.mpr ?_
      rw [ch_same hD g.1 fc.1.2 (on c0 m0) (on c1 m1) (fun z => on c2 (m2 z)) (fun z => on c3 (m3 z)) p, chQ_dt hD, ch_0]
  · have hin' : anyN (fun j => decide (wo y (S j) = 0)) f = false := by cases q : anyN (fun j => decide (wo y (S j) = 0)) f with | false => rfl | true => exact absurd q hin
    rw [hin', bN_f] at inF
    obtain ⟨h2, sp, c2', P2⟩ := x_spanPlane (d := d + 1) s1 v1 sm h16 i
    rw [← ey] at sp
    have ch2 : ChX [21, 22, 23, 24] [(19, 6)] 0 h h2 := ch.trans0 (c2'.mono (by decide) (by decide) (Nat.le_refl _))
    have s2 := ch2.sh
    have hfx2 := hfx.ch c2' s1 (by decide) (by decide) (by decide)
    by_cases hz : ∃ k, k < 4 ∧ rawN (lP l) D c0 c1 c2 c3 k ≠ 0
    · rw [tB_t hz, bN_t] at sp
      obtain ⟨gg, gp, gr⟩ := xpN_ch hz
      have lv := xpN_lev gr
      have hz' : ∃ k, k < 4 ∧ chN (lP l) D c0 c1 c2 c3 k ≠ 0 := by
        obtain ⟨t, ht, hne⟩ := hz
        refine ⟨t, ht, fun z => hne ?_⟩
        have := gr t (by omega)
        unfold xpN plN at this
        rw [if_neg (by omega), if_neg (by omega), z, Int.mul_zero] at this
        exact this
      have eU : upP (xpN l D c0 c1 c2 c3) (xpN l D c0 c1 c2 c3 4) (lP l) = upP (chN (lP l) D c0 c1 c2 c3) (chB (lP l) D c0 c1 c2 c3) (lP l) := funext fun p => decide_eq_decide.mpr (by rw [lv]; exact (mul_sg gp).1)
      have eDn : dnP (xpN l D c0 c1 c2 c3) (xpN l D c0 c1 c2 c3 4) (lP l) = dnP (chN (lP l) D c0 c1 c2 c3) (chB (lP l) D c0 c1 c2 c3) (lP l) := funext fun p => decide_eq_decide.mpr (by rw [lv]; exact (mul_sg gp).2.1)
      have eO : onP (xpN l D c0 c1 c2 c3) (xpN l D c0 c1 c2 c3 4) (lP l) = onP (chN (lP l) D c0 c1 c2 c3) (chB (lP l) D c0 c1 c2 c3) (lP l) := funext fun p => decide_eq_decide.mpr (by rw [lv]; exact (mul_sg gp).2.2)
      have v2 := v1.ch c2' s1 (by decide) (by decide) (by decide) (by decide)
      obtain ⟨so1, so2⟩ := x_setOnPlane (d := d + 4) s2 v2 sm h16 P2 (xpN_b sm i)
      rw [eU, eDn] at so1 so2
      rw [eO] at so2
      by_cases hb : 0 < cntN (upP (chN (lP l) D c0 c1 c2 c3) (chB (lP l) D c0 c1 c2 c3) (lP l)) l.length ∧ 0 < cntN (dnP (chN (lP l) D c0 c1 c2 c3) (chB (lP l) D c0 c1 c2 c3) (lP l)) l.length
      · right
        have so := so1 hb
        refine ⟨h2, some (.int (-iN 1)), fun R => ?_, f, S, Q, Q', ch2, hfx2, fl, pq, cov_next h16 hD y16 hp i em (fun g => absurd hb g.2.1) cov⟩
        have ne1 : ¬ (-iN 1 : Int32) = iN (2 ^ l.length - 1) := fun z => by
          have : iN (2 ^ l.length - 1) < iN 0 := by rw [← z]; decide
          rw [iN_lt (by omega) (by omega)] at this
          omega
        have e1 : iN (2 ^ l.length) - iN 1 = iN (2 ^ l.length - 1) := iN_sub (Nat.two_pow_pos _)
        rw [e23_23]
        simp (disch := first | assumption | omega) only [e23_0, e23_1, e23_2, e23_5, e23_6, e23_7, e23_10, e23_11, e23_12, e23_13, e23_14, e23_17, e23_18, e23_19, e23_20, e23_21, e23_22, e23_24, e23_27, e23_30, e23_31, e23_32, e23_35, e23_36, e23_37, e23_40, e23_43, e23_44, e23_45, e23_48, e23_51, e23_52, e23_55, e23_57, e23_59, e23_60, e23_61, e23_62, e23_65, e23_66, e23_67, e23_70, e23_71, e23_72, e23_74, e23_75, e23_78, e23_79, e23_81, e23_84, e23_85, e23_88, e23_89, e23_92, e23_95, e23_96, e23_99, e23_100, e23_103, e23_106, e23_107, e23_110, e23_111, m23, ↓reduceIte, qg_0, qg_1, qg_2, qg_3, qg_4, qg_5, qg_6, qg_7, qg_8, qg_9, qg_10, qg_11, qg_12, qg_13, not_true_eq_false, not_false_eq_true, Nat.reduceBEq, Bool.false_eq_true, ex1, ex3, ex4, exF, qfit_i, qfit_l, qfit_r, qfit_n, qfit_b0, qfit_b1, qcat_i, qcat_r, qcat_n, qcat_l, qroom_0, qroom_c, List.map_cons, List.map_nil, List.sum_cons, List.sum_nil, Nat.reduceAdd, Nat.reduceMul, Nat.reduceLT, Nat.reduceLeDiff, Nat.reduceEqDiff, Nat.reduceSub, decide_true, true_and, and_true, and_self, if_true, if_false, Option.toList_some, Option.toList_none, List.cons_append, List.nil_append, qsL, qlong, List.length_cons, List.length_nil, iN_L, exI, iN_add, iN_mul, iN_le, iN_lt, iN_eq, Nat.le_refl, qfN0, qfN1, uX_16, vX_16, uX_19, vX_19, uX_27, vX_27, uX_30, vX_30, uX_39, vX_39, uX_41, vX_41, uX_43, vX_43, uX_46, vX_46, uX_50, vX_50, uX_53, vX_53, lt1, lt2, inF, sp, so, e1, ne1, nx]
      · obtain ⟨h3, so, c3', P3⟩ := so2 hb
        have ch3 : ChX [21, 22, 23, 24] [(19, 6)] 0 h h3 := ch2.trans0 (c3'.mono (by decide) (by decide) (Nat.le_refl _))
        have s3 := ch3.sh
        have hfx3 := hfx2.ch c3' s2 (by decide) (by decide) (by decide)
        have e1 : iN (2 ^ l.length) - iN 1 = iN (2 ^ l.length - 1) := iN_sub (Nat.two_pow_pos _)
        obtain ⟨x, ex⟩ : ∃ x, x = chM (lP l) l.length D c0 c1 c2 c3 := ⟨_, rfl⟩
        have ex' : mask (onP (chN (lP l) D c0 c1 c2 c3) (chB (lP l) D c0 c1 c2 c3) (lP l)) l.length = x := by rw [ex]; rfl
        have x16 : x < 65536 := by rw [← ex']; exact mask_16 h16
        rw [ex'] at so
        by_cases hall : x = 2 ^ l.length - 1
        · left
          have al : ∀ p, p < l.length → lev (chN (lP l) D c0 c1 c2 c3) (chB (lP l) D c0 c1 c2 c3) (lP l) p = 0 := fun p hp => of_decide_eq_true (mask_full.mp (ex'.trans hall) p hp)
          refine ⟨fun so => ?_, ?_⟩
          · obtain ⟨-, e0, e1, e2, e3, ie, ge⟩ := so
            have fu := ch_ful ie ge
            obtain ⟨t, ht, hne⟩ := hz'
            have kD : t < D := by
              rcases Nat.lt_or_ge t D with w | w
              · exact w
              · exact absurd (chN_0 hD.1 w ht) hne
            have := fu (pF D (chN (lP l) D c0 c1 c2 c3) (chB (lP l) D c0 c1 c2 c3)) (fun p hp => by
              rw [pF_dt hD.2 fun k h1 h2 => chN_0 hD.1 h1 h2]; exact al p hp) t (by omega)
            unfold pF at this
            rw [if_neg (by omega)] at this
            exact hne this
          · obtain ⟨h4, e4⟩ : ∃ h4, h4 = xV h3 19 6 (.int (iN 0)) := ⟨_, rfl⟩
            have p4 : qput h3 19 2 6 (.int (iN 0)) = some h4 := by rw [e4]; exact pX_19_6 s3
            refine ⟨h4, fun R => ?_, ch3.trans0 (by rw [e4]; exact ChX.setI s3 (by decide) (by decide))⟩
            rw [hall] at so
            rw [e23_23]
            simp (disch := first | assumption | omega) only [e23_0, e23_1, e23_2, e23_5, e23_6, e23_7, e23_10, e23_11, e23_12, e23_13, e23_14, e23_17, e23_18, e23_19, e23_20, e23_21, e23_22, e23_24, e23_27, e23_30, e23_31, e23_32, e23_35, e23_36, e23_37, e23_40, e23_43, e23_44, e23_45, e23_48, e23_51, e23_52, e23_55, e23_57, e23_59, e23_60, e23_61, e23_62, e23_65, e23_66, e23_67, e23_70, e23_71, e23_72, e23_74, e23_75, e23_78, e23_79, e23_81, e23_84, e23_85, e23_88, e23_89, e23_92, e23_95, e23_96, e23_99, e23_100, e23_103, e23_106, e23_107, e23_110, e23_111, m23, ↓reduceIte, qg_0, qg_1, qg_2, qg_3, qg_4, qg_5, qg_6, qg_7, qg_8, qg_9, qg_10, qg_11, qg_12, qg_13, not_true_eq_false, not_false_eq_true, Nat.reduceBEq, Bool.false_eq_true, ex1, ex3, ex4, exF, qfit_i, qfit_l, qfit_r, qfit_n, qfit_b0, qfit_b1, qcat_i, qcat_r, qcat_n, qcat_l, qroom_0, qroom_c, List.map_cons, List.map_nil, List.sum_cons, List.sum_nil, Nat.reduceAdd, Nat.reduceMul, Nat.reduceLT, Nat.reduceLeDiff, Nat.reduceEqDiff, Nat.reduceSub, decide_true, true_and, and_true, and_self, if_true, if_false, Option.toList_some, Option.toList_none, List.cons_append, List.nil_append, qsL, qlong, List.length_cons, List.length_nil, iN_L, exI, iN_add, iN_mul, iN_le, iN_lt, iN_eq, Nat.le_refl, qfN0, qfN1, uX_16, vX_16, uX_19, vX_19, uX_27, vX_27, uX_30, vX_30, uX_39, vX_39, uX_41, vX_41, uX_43, vX_43, uX_46, vX_46, uX_50, vX_50, uX_53, vX_53, lt1, lt2, inF, sp, so, e1, p4]
        · right
          have gg' : chG (lP l) l.length D c0 c1 c2 c3 := by
            refine ⟨hz', hb, fun z => hall ?_⟩
            rw [← ex']
            refine mask_full.mpr fun p hp => decide_eq_true ?_
            have u0 : ¬ 0 < lev (chN (lP l) D c0 c1 c2 c3) (chB (lP l) D c0 c1 c2 c3) (lP l) p := fun w => by
              have := cntN_pos.mpr ⟨p, hp, show upP (chN (lP l) D c0 c1 c2 c3) (chB (lP l) D c0 c1 c2 c3) (lP l) p = true from decide_eq_true w⟩
              omega
            have d0 : ¬ lev (chN (lP l) D c0 c1 c2 c3) (chB (lP l) D c0 c1 c2 c3) (lP l) p < 0 := fun w => by
              have := cntN_pos.mpr ⟨p, hp, show dnP (chN (lP l) D c0 c1 c2 c3) (chB (lP l) D c0 c1 c2 c3) (lP l) p = true from decide_eq_true w⟩
              omega
            omega
          have new : ∀ j, j < f → S j ≠ chM (lP l) l.length D c0 c1 c2 c3 := fun j hj e => hin (anyN_iff.mpr ⟨j, hj, decide_eq_true (wo_0i.mpr fun c hc => by
            rw [e]
            have hc' : c ∈ cl4 D c0 c1 c2 c3 := by rw [← em]; exact (mem_mems y16).mpr hc
            have hcl := (cl4_in h16 i).2 c hc'
            unfold chM
            rw [mask_bit, decide_eq_true hcl, Bool.true_and]
            obtain ⟨o0, o1, o2, o3⟩ := pick_on hD hz'
            refine decide_eq_true ?_
            unfold cl4 at hc'
            by_cases w2 : D = 2
            · rw [if_pos w2] at hc'
              rcases List.mem_cons.mp hc' with rfl | hc'
              · exact o0
              · rw [List.mem_singleton.mp hc']; exact o1
            · rw [if_neg w2] at hc'
              by_cases w3 : D = 3
              · rw [if_pos w3] at hc'
                rcases List.mem_cons.mp hc' with rfl | hc'
                · exact o0
                · rcases List.mem_cons.mp hc' with rfl | hc'
                  · exact o1
                  · rw [List.mem_singleton.mp hc']; exact o2 (by omega)
              · rw [if_neg w3] at hc'
                rcases List.mem_cons.mp hc' with rfl | hc'
                · exact o0
                · rcases List.mem_cons.mp hc' with rfl | hc'
                  · exact o1
                  · rcases List.mem_cons.mp hc' with rfl | hc'
                    · exact o2 (by omega)
                    · rw [List.mem_singleton.mp hc']; exact o3 (by omega))⟩)
          have fl' := fl.grow i gg' new
          have f104 := geo_104 ok fl'
          obtain ⟨P, eP⟩ : ∃ P : Nat → Int, P = fun t => if 0 < cntN (upP (chN (lP l) D c0 c1 c2 c3) (chB (lP l) D c0 c1 c2 c3) (lP l)) l.length then -xpN l D c0 c1 c2 c3 t else xpN l D c0 c1 c2 c3 t := ⟨_, rfl⟩
          obtain ⟨h4, kf, c4', hfx4⟩ := x_keepFacet (d := d + 4) (P := P) s3 hfx3 (by omega) x16 (fun t ht => by rw [P3 t ht, eP])
          have nm : ¬ iN x = -iN 1 := fun z => by
            have : iN x < iN 0 := by rw [z]; decide
            rw [iN_lt (by omega) (by omega)] at this
            omega
          have na : ¬ iN x = iN (2 ^ l.length - 1) := by rw [iN_eq (by omega) (by omega)]; exact hall
          refine ⟨h4, some (.int (iN x)), fun R => ?_, f + 1, (fun j => if j = f then x else S j), (fun j t => if j = f then P t else Q j t), (fun j k => if j = f then chQ (lP l) l.length D c0 c1 c2 c3 k else Q' j k), ch3.trans0 (c4'.mono (by decide) (by decide) (Nat.le_refl _)), hfx4, ?_, fun j hj => ?_, cov_next h16 hD y16 hp i em (fun g => ⟨f, by omega, ?_⟩) (fun e0 e1 e2 e3 ie w ge => ?_)⟩
          · rw [e23_23]
            simp (disch := first | assumption | omega) only [e23_0, e23_1, e23_2, e23_5, e23_6, e23_7, e23_10, e23_11, e23_12, e23_13, e23_14, e23_17, e23_18, e23_19, e23_20, e23_21, e23_22, e23_24, e23_27, e23_30, e23_31, e23_32, e23_35, e23_36, e23_37, e23_40, e23_43, e23_44, e23_45, e23_48, e23_51, e23_52, e23_55, e23_57, e23_59, e23_60, e23_61, e23_62, e23_65, e23_66, e23_67, e23_70, e23_71, e23_72, e23_74, e23_75, e23_78, e23_79, e23_81, e23_84, e23_85, e23_88, e23_89, e23_92, e23_95, e23_96, e23_99, e23_100, e23_103, e23_106, e23_107, e23_110, e23_111, m23, ↓reduceIte, qg_0, qg_1, qg_2, qg_3, qg_4, qg_5, qg_6, qg_7, qg_8, qg_9, qg_10, qg_11, qg_12, qg_13, not_true_eq_false, not_false_eq_true, Nat.reduceBEq, Bool.false_eq_true, ex1, ex3, ex4, exF, qfit_i, qfit_l, qfit_r, qfit_n, qfit_b0, qfit_b1, qcat_i, qcat_r, qcat_n, qcat_l, qroom_0, qroom_c, List.map_cons, List.map_nil, List.sum_cons, List.sum_nil, Nat.reduceAdd, Nat.reduceMul, Nat.reduceLT, Nat.reduceLeDiff, Nat.reduceEqDiff, Nat.reduceSub, decide_true, true_and, and_true, and_self, if_true, if_false, Option.toList_some, Option.toList_none, List.cons_append, List.nil_append, qsL, qlong, List.length_cons, List.length_nil, iN_L, exI, iN_add, iN_mul, iN_le, iN_lt, iN_eq, Nat.le_refl, qfN0, qfN1, uX_16, vX_16, uX_19, vX_19, uX_27, vX_27, uX_30, vX_30, uX_39, vX_39, uX_41, vX_41, uX_43, vX_43, uX_46, vX_46, uX_50, vX_50, uX_53, vX_53, lt1, lt2, inF, sp, so, e1, na, nm, kf, nx]
          · rw [ex]; exact fl'
          · show plBd D (fun t => if j = f then P t else Q j t) ∧ ∃ v : Int, 0 < v ∧ ∀ t, t < 5 → (if j = f then P t else Q j t) = v * (if j = f then chQ (lP l) l.length D c0 c1 c2 c3 t else Q' j t)
            by_cases e : j = f
            · have pb := xpN_b sm i
              have pz : ∀ t, D ≤ t → t < 4 → xpN l D c0 c1 c2 c3 t = 0 := fun t h1 h2 => by
                unfold xpN
                rw [if_neg (by omega)]
                exact rawN_0 hD.1 h1 h2
              have fe : (fun t => if j = f then P t else Q j t) = P := by funext t; rw [if_pos e]
              rw [fe]
              refine ⟨⟨fun t ht => ?_, ?_, fun t h1 h2 => ?_⟩, gg, gp, fun t ht => ?_⟩
              · have := pb.1 t ht
                rw [eP]; try dsimp only
                split <;> omega
              · have := pb.2
                rw [eP]; try dsimp only
                split <;> omega
              · rw [eP]; try dsimp only
                rw [pz t h1 h2]
                split <;> omega
              · rw [if_pos e, if_pos e, chQ_eq, eP]
                try dsimp only
                rw [gr t ht]
                split
                · rw [Int.neg_mul, Int.one_mul, Int.mul_neg]
                · rw [Int.one_mul]
            · have fe : (fun t => if j = f then P t else Q j t) = Q j := by funext t; rw [if_neg e]
              rw [fe]
              obtain ⟨a1, u, a2, a3⟩ := pq j (by omega)
              exact ⟨a1, u, a2, fun t ht => by rw [if_neg e, if_neg e]; exact a3 t ht⟩
          · show (if f = f then x else S f) = _
            rw [if_pos rfl, ex]
          · obtain ⟨j, hj, e⟩ := cov e0 e1 e2 e3 ie w ge
            refine ⟨j, by omega, ?_⟩
            show (if j = f then x else S j) = _
            rw [if_neg (by omega)]; exact e
    · rw [tB_f hz, bN_f] at sp
      right
      refine ⟨h2, x4, fun R => ?_, f, S, Q, Q', ch2, hfx2, fl, pq, cov_next h16 hD y16 hp i em (fun g => absurd (ch_raw g.1) hz) cov⟩
      rw [e23_23]
      simp (disch := first | assumption | omega) only [e23_0, e23_1, e23_2, e23_5, e23_6, e23_7, e23_10, e23_11, e23_12, e23_13, e23_14, e23_17, e23_18, e23_19, e23_20, e23_21, e23_22, e23_24, e23_27, e23_30, e23_31, e23_32, e23_35, e23_36, e23_37, e23_40, e23_43, e23_44, e23_45, e23_48, e23_51, e23_52, e23_55, e23_57, e23_59, e23_60, e23_61, e23_62, e23_65, e23_66, e23_67, e23_70, e23_71, e23_72, e23_74, e23_75, e23_78, e23_79, e23_81, e23_84, e23_85, e23_88, e23_89, e23_92, e23_95, e23_96, e23_99, e23_100, e23_103, e23_106, e23_107, e23_110, e23_111, m23, ↓reduceIte, qg_0, qg_1, qg_2, qg_3, qg_4, qg_5, qg_6, qg_7, qg_8, qg_9, qg_10, qg_11, qg_12, qg_13, not_true_eq_false, not_false_eq_true, Nat.reduceBEq, Bool.false_eq_true, ex1, ex3, ex4, exF, qfit_i, qfit_l, qfit_r, qfit_n, qfit_b0, qfit_b1, qcat_i, qcat_r, qcat_n, qcat_l, qroom_0, qroom_c, List.map_cons, List.map_nil, List.sum_cons, List.sum_nil, Nat.reduceAdd, Nat.reduceMul, Nat.reduceLT, Nat.reduceLeDiff, Nat.reduceEqDiff, Nat.reduceSub, decide_true, true_and, and_true, and_self, if_true, if_false, Option.toList_some, Option.toList_none, List.cons_append, List.nil_append, qsL, qlong, List.length_cons, List.length_nil, iN_L, exI, iN_add, iN_mul, iN_le, iN_lt, iN_eq, Nat.le_refl, qfN0, qfN1, uX_16, vX_16, uX_19, vX_19, uX_27, vX_27, uX_30, vX_30, uX_39, vX_39, uX_41, vX_41, uX_43, vX_43, uX_46, vX_46, uX_50, vX_50, uX_53, vX_53, lt1, lt2, inF, sp, nx]
set_option maxRecDepth 100000 in
set_option maxHeartbeats 16000000 in
theorem x_findFacets (s : ShX h) (v : HtX h D l) (ok : okP l D) : ∃ h', (∀ R, qMC (d + 6) 23 [.ref 19] h R ↔ R = (some (.int (bB (tB (solid l D)))), h')) ∧ ChX [21, 22, 23, 24] [(19, 6)] 0 h h' ∧ (solid l D → ∃ f S Q Q', 0 < f ∧ HfX h' f S Q ∧ facL l D f S Q' ∧ ∀ j, j < f → plBd D (Q j) ∧ ∃ v : Int, 0 < v ∧ ∀ t, t < 5 → Q j t = v * Q' j t) := by
  obtain ⟨sm, nd, h16, pj, hD⟩ := id ok
  have n16 : 2 ^ l.length ≤ 65536 := Nat.pow_le_pow_right (show 0 < 2 by decide) h16
  have d16 : 4 ≤ 2 ^ D ∧ 2 ^ D ≤ 16 := ⟨Nat.pow_le_pow_right (show 0 < 2 by decide) hD.1, Nat.pow_le_pow_right (show 0 < 2 by decide) hD.2⟩
  obtain ⟨v3, v1, v2, vp⟩ := id v
  rw [show (if l.length < 16 then l.length else 16) = l.length by split <;> omega] at v1
  obtain ⟨h0, e0⟩ : ∃ h0, h0 = xV h 19 6 (.int (iN 0)) := ⟨_, rfl⟩
  have c0' : ChX [21, 22, 23, 24] [(19, 6)] 0 h h0 := by rw [e0]; exact ChX.setI s (by decide) (by decide)
  have s0 := c0'.sh
  have p0 : qput h 19 2 6 (.int (iN 0)) = some h0 := by rw [e0]; exact pX_19_6 s
  have v0 := v.ch c0' s (by decide) (by decide) (by decide) (by decide)
  have w1 : xi h0 19 1 = iN l.length := (c0'.xi (by decide) (by decide)).trans v1
  have w3 : xi h0 19 3 = iN D := (c0'.xi (by decide) (by decide)).trans v3
  have sh1 := iN_shl1 l.length (by omega)
  have sh2 := iN_shl1 D (by omega)
  have e1 : iN (2 ^ D) - iN 1 = iN (2 ^ D - 1) := iN_sub (Nat.two_pow_pos _)
  have r0 : ∀ R, qMC (d + 6) 23 [.ref 19] h R ↔ qEv (d + 5) 3 qk_23 23 [some (.ref 19), some (.int (iN (2 ^ l.length))), some (.int (iN (2 ^ D - 1))), some (.int (iN 0)), none] [] h0 R := fun R => by
    simp (disch := first | assumption | omega) only [e23_0, e23_1, e23_2, e23_5, e23_6, e23_7, e23_10, e23_11, e23_12, e23_13, e23_14, e23_17, e23_18, e23_19, e23_20, e23_21, e23_22, e23_24, e23_27, e23_30, e23_31, e23_32, e23_35, e23_36, e23_37, e23_40, e23_43, e23_44, e23_45, e23_48, e23_51, e23_52, e23_55, e23_57, e23_59, e23_60, e23_61, e23_62, e23_65, e23_66, e23_67, e23_70, e23_71, e23_72, e23_74, e23_75, e23_78, e23_79, e23_81, e23_84, e23_85, e23_88, e23_89, e23_92, e23_95, e23_96, e23_99, e23_100, e23_103, e23_106, e23_107, e23_110, e23_111, m23, ↓reduceIte, qg_0, qg_1, qg_2, qg_3, qg_4, qg_5, qg_6, qg_7, qg_8, qg_9, qg_10, qg_11, qg_12, qg_13, not_true_eq_false, not_false_eq_true, Nat.reduceBEq, Bool.false_eq_true, ex1, ex3, ex4, exF, qfit_i, qfit_l, qfit_r, qfit_n, qfit_b0, qfit_b1, qcat_i, qcat_r, qcat_n, qcat_l, qroom_0, qroom_c, List.map_cons, List.map_nil, List.sum_cons, List.sum_nil, Nat.reduceAdd, Nat.reduceMul, Nat.reduceLT, Nat.reduceLeDiff, Nat.reduceEqDiff, Nat.reduceSub, decide_true, true_and, and_true, and_self, if_true, if_false, Option.toList_some, Option.toList_none, List.cons_append, List.nil_append, qsL, qlong, List.length_cons, List.length_nil, iN_L, exI, iN_add, iN_mul, iN_le, iN_lt, iN_eq, Nat.le_refl, qfN0, qfN1, uX_16, vX_16, uX_19, vX_19, uX_27, vX_27, uX_30, vX_30, uX_39, vX_39, uX_41, vX_41, uX_43, vX_43, uX_46, vX_46, uX_50, vX_50, uX_53, vX_53, p0, gX_19_1, gX_19_3, w1, w3, sh1, sh2, e1]
  have I0 : ffX h l D (2 ^ D - 1) h0 := by
    refine ⟨0, fun _ => 0, fun _ _ => 0, fun _ _ => 0, c0', ⟨by rw [e0, xi_xV, if_pos ⟨rfl, rfl⟩], by omega, fun j hj => absurd hj (Nat.not_lt_zero j)⟩, ⟨fun j hj => absurd hj (Nat.not_lt_zero j), fun i j _ hj => absurd hj (Nat.not_lt_zero j)⟩, fun j hj => absurd hj (Nat.not_lt_zero j), fun a b c e i hlt => ?_⟩
    obtain ⟨cin, -⟩ := cl4_in h16 i
    have := (gos hD).1 _ (stL_lt cin) (by rw [pop_mems, mems_stL cin, cl4_len hD])
    omega
  -- the end
  have fin : ∀ (y k : Nat) (x4 : Option Value) (h1 : qH), 2 ^ l.length ≤ y → y ≤ 131072 → k ≤ 131072 → ffX h l D y h1 → (∀ R, qEv (d + 5) 3 qk_23 23 [some (.ref 19), some (.int (iN (2 ^ l.length))), some (.int (iN y)), some (.int (iN k)), x4] [] h1 R ↔ R = (some (.int (bB (tB (solid l D)))), h1)) ∧ ChX [21, 22, 23, 24] [(19, 6)] 0 h h1 ∧ (solid l D → ∃ f S Q Q', 0 < f ∧ HfX h1 f S Q ∧ facL l D f S Q' ∧ ∀ j, j < f → plBd D (Q j) ∧ ∃ v : Int, 0 < v ∧ ∀ t, t < 5 → Q j t = v * Q' j t) := by
    intro y k x4 h1 hy hy2 hk2 I
    obtain ⟨f, S, Q, Q', ch, hfx, fl, pq, cov⟩ := I
    have s1 := ch.sh
    have f1 := hfx.1
    have f104 := hfx.2.1
    have d1 : xi h1 19 3 = iN D := (ch.xi (by decide) (by decide)).trans v3
    have fa : facL l D f S Q' := ⟨fl, fun a b c e i g => by
      obtain ⟨cin, cn⟩ := cl4_in h16 i
      refine cov a b c e i ?_ g
      have : stL (cl4 D a b c e) < 2 ^ l.length := Nat.lt_pow_two_of_testBit _ fun j hj => by
        cases q : (stL (cl4 D a b c e)).testBit j with
        | false => rfl
        | true => have := cn j (stL_bit.mp q); omega
      omega⟩
    have sol : solid l D ↔ D < f := by
      constructor
      · rintro ⟨-, a, b, c, e, i, g⟩
        obtain ⟨j, hj, -⟩ := fa.2 a b c e i g
        obtain ⟨G, gg⟩ := fcG_of ok fl (show 0 < f by omega)
        have b : bdG l D f S G := ⟨by omega, gg, fun x => facL_iff fa⟩
        exact b.many ok
      · intro hf
        obtain ⟨a, b, c, e, i, g, -⟩ := fl.1 0 (by omega)
        obtain ⟨G, gg⟩ := fcG_of ok fl (show 0 < f by omega)
        have b' : bdG l D f S G := ⟨by omega, gg, fun x => facL_iff fa⟩
        have := b'.nc
        have := ncr_le (l := l) (D := D)
        exact ⟨by omega, a, b, c, e, i, g⟩
    refine ⟨fun R => ?_, ch, fun so => ⟨f, S, Q, Q', by have := sol.mp so; omega, hfx, fa, pq⟩⟩
    have end1 : qEv (d + 5) 3 qk_23 23 [some (.ref 19), some (.int (iN (2 ^ l.length))), some (.int (iN y)), some (.int (iN k)), x4] [] h1 R ↔ qEv (d + 5) 3 qk_23 95 [some (.ref 19), some (.int (iN (2 ^ l.length))), some (.int (iN y)), some (.int (iN k)), x4] [] h1 R := by
      rw [e23_23]
      by_cases q : 1820 ≤ k
      · simp (disch := first | assumption | omega) only [e23_0, e23_1, e23_2, e23_5, e23_6, e23_7, e23_10, e23_11, e23_12, e23_13, e23_14, e23_17, e23_18, e23_19, e23_20, e23_21, e23_22, e23_24, e23_27, e23_30, e23_31, e23_32, e23_35, e23_36, e23_37, e23_40, e23_43, e23_44, e23_45, e23_48, e23_51, e23_52, e23_55, e23_57, e23_59, e23_60, e23_61, e23_62, e23_65, e23_66, e23_67, e23_70, e23_71, e23_72, e23_74, e23_75, e23_78, e23_79, e23_81, e23_84, e23_85, e23_88, e23_89, e23_92, e23_96, e23_99, e23_100, e23_103, e23_106, e23_107, e23_110, e23_111, m23, ↓reduceIte, qg_0, qg_1, qg_2, qg_3, qg_4, qg_5, qg_6, qg_7, qg_8, qg_9, qg_10, qg_11, qg_12, qg_13, not_true_eq_false, not_false_eq_true, Nat.reduceBEq, Bool.false_eq_true, ex1, ex3, ex4, exF, qfit_i, qfit_l, qfit_r, qfit_n, qfit_b0, qfit_b1, qcat_i, qcat_r, qcat_n, qcat_l, qroom_0, qroom_c, List.map_cons, List.map_nil, List.sum_cons, List.sum_nil, Nat.reduceAdd, Nat.reduceMul, Nat.reduceLT, Nat.reduceLeDiff, Nat.reduceEqDiff, Nat.reduceSub, decide_true, true_and, and_true, and_self, if_true, if_false, Option.toList_some, Option.toList_none, List.cons_append, List.nil_append, qsL, qlong, List.length_cons, List.length_nil, iN_L, exI, iN_add, iN_mul, iN_le, iN_lt, iN_eq, Nat.le_refl, qfN0, qfN1, uX_16, vX_16, uX_19, vX_19, uX_27, vX_27, uX_30, vX_30, uX_39, vX_39, uX_41, vX_41, uX_43, vX_43, uX_46, vX_46, uX_50, vX_50, uX_53, vX_53, q]
      · simp (disch := first | assumption | omega) only [e23_0, e23_1, e23_2, e23_5, e23_6, e23_7, e23_10, e23_11, e23_12, e23_13, e23_14, e23_17, e23_18, e23_19, e23_20, e23_21, e23_22, e23_24, e23_27, e23_30, e23_31, e23_32, e23_35, e23_36, e23_37, e23_40, e23_43, e23_44, e23_45, e23_48, e23_51, e23_52, e23_55, e23_57, e23_59, e23_60, e23_61, e23_62, e23_65, e23_66, e23_67, e23_70, e23_71, e23_72, e23_74, e23_75, e23_78, e23_79, e23_81, e23_84, e23_85, e23_88, e23_89, e23_92, e23_96, e23_99, e23_100, e23_103, e23_106, e23_107, e23_110, e23_111, m23, ↓reduceIte, qg_0, qg_1, qg_2, qg_3, qg_4, qg_5, qg_6, qg_7, qg_8, qg_9, qg_10, qg_11, qg_12, qg_13, not_true_eq_false, not_false_eq_true, Nat.reduceBEq, Bool.false_eq_true, ex1, ex3, ex4, exF, qfit_i, qfit_l, qfit_r, qfit_n, qfit_b0, qfit_b1, qcat_i, qcat_r, qcat_n, qcat_l, qroom_0, qroom_c, List.map_cons, List.map_nil, List.sum_cons, List.sum_nil, Nat.reduceAdd, Nat.reduceMul, Nat.reduceLT, Nat.reduceLeDiff, Nat.reduceEqDiff, Nat.reduceSub, decide_true, true_and, and_true, and_self, if_true, if_false, Option.toList_some, Option.toList_none, List.cons_append, List.nil_append, qsL, qlong, List.length_cons, List.length_nil, iN_L, exI, iN_add, iN_mul, iN_le, iN_lt, iN_eq, Nat.le_refl, qfN0, qfN1, uX_16, vX_16, uX_19, vX_19, uX_27, vX_27, uX_30, vX_30, uX_39, vX_39, uX_41, vX_41, uX_43, vX_43, uX_46, vX_46, uX_50, vX_50, uX_53, vX_53, q, hy]
    rw [end1, e23_95]
    by_cases q : D < f
    · rw [tB_t (sol.mpr q), bN_t]
      simp (disch := first | assumption | omega) only [e23_0, e23_1, e23_2, e23_5, e23_6, e23_7, e23_10, e23_11, e23_12, e23_13, e23_14, e23_17, e23_18, e23_19, e23_20, e23_21, e23_22, e23_24, e23_27, e23_30, e23_31, e23_32, e23_35, e23_36, e23_37, e23_40, e23_43, e23_44, e23_45, e23_48, e23_51, e23_52, e23_55, e23_57, e23_59, e23_60, e23_61, e23_62, e23_65, e23_66, e23_67, e23_70, e23_71, e23_72, e23_74, e23_75, e23_78, e23_79, e23_81, e23_84, e23_85, e23_88, e23_89, e23_92, e23_96, e23_99, e23_100, e23_103, e23_106, e23_107, e23_110, e23_111, m23, ↓reduceIte, qg_0, qg_1, qg_2, qg_3, qg_4, qg_5, qg_6, qg_7, qg_8, qg_9, qg_10, qg_11, qg_12, qg_13, not_true_eq_false, not_false_eq_true, Nat.reduceBEq, Bool.false_eq_true, ex1, ex3, ex4, exF, qfit_i, qfit_l, qfit_r, qfit_n, qfit_b0, qfit_b1, qcat_i, qcat_r, qcat_n, qcat_l, qroom_0, qroom_c, List.map_cons, List.map_nil, List.sum_cons, List.sum_nil, Nat.reduceAdd, Nat.reduceMul, Nat.reduceLT, Nat.reduceLeDiff, Nat.reduceEqDiff, Nat.reduceSub, decide_true, true_and, and_true, and_self, if_true, if_false, Option.toList_some, Option.toList_none, List.cons_append, List.nil_append, qsL, qlong, List.length_cons, List.length_nil, iN_L, exI, iN_add, iN_mul, iN_le, iN_lt, iN_eq, Nat.le_refl, qfN0, qfN1, uX_16, vX_16, uX_19, vX_19, uX_27, vX_27, uX_30, vX_30, uX_39, vX_39, uX_41, vX_41, uX_43, vX_43, uX_46, vX_46, uX_50, vX_50, uX_53, vX_53, gX_19_6, gX_19_3, f1, d1, show ¬ f ≤ D by omega]
    · rw [tB_f (fun z => q (sol.mp z)), bN_f]
      simp (disch := first | assumption | omega) only [e23_0, e23_1, e23_2, e23_5, e23_6, e23_7, e23_10, e23_11, e23_12, e23_13, e23_14, e23_17, e23_18, e23_19, e23_20, e23_21, e23_22, e23_24, e23_27, e23_30, e23_31, e23_32, e23_35, e23_36, e23_37, e23_40, e23_43, e23_44, e23_45, e23_48, e23_51, e23_52, e23_55, e23_57, e23_59, e23_60, e23_61, e23_62, e23_65, e23_66, e23_67, e23_70, e23_71, e23_72, e23_74, e23_75, e23_78, e23_79, e23_81, e23_84, e23_85, e23_88, e23_89, e23_92, e23_96, e23_99, e23_100, e23_103, e23_106, e23_107, e23_110, e23_111, m23, ↓reduceIte, qg_0, qg_1, qg_2, qg_3, qg_4, qg_5, qg_6, qg_7, qg_8, qg_9, qg_10, qg_11, qg_12, qg_13, not_true_eq_false, not_false_eq_true, Nat.reduceBEq, Bool.false_eq_true, ex1, ex3, ex4, exF, qfit_i, qfit_l, qfit_r, qfit_n, qfit_b0, qfit_b1, qcat_i, qcat_r, qcat_n, qcat_l, qroom_0, qroom_c, List.map_cons, List.map_nil, List.sum_cons, List.sum_nil, Nat.reduceAdd, Nat.reduceMul, Nat.reduceLT, Nat.reduceLeDiff, Nat.reduceEqDiff, Nat.reduceSub, decide_true, true_and, and_true, and_self, if_true, if_false, Option.toList_some, Option.toList_none, List.cons_append, List.nil_append, qsL, qlong, List.length_cons, List.length_nil, iN_L, exI, iN_add, iN_mul, iN_le, iN_lt, iN_eq, Nat.le_refl, qfN0, qfN1, uX_16, vX_16, uX_19, vX_19, uX_27, vX_27, uX_30, vX_30, uX_39, vX_39, uX_41, vX_41, uX_43, vX_43, uX_46, vX_46, uX_50, vX_50, uX_53, vX_53, gX_19_6, gX_19_3, f1, d1, show f ≤ D by omega]
  have go : ∀ (w y k : Nat) (x4 : Option Value) (h1 : qH), 131073 - y ≤ w → y ≤ 131072 → (y < 65536 → pop y 16 = D) → k ≤ cntN (gIs D) y → ffX h l D y h1 → ∃ h', (∀ R, qEv (d + 5) 3 qk_23 23 [some (.ref 19), some (.int (iN (2 ^ l.length))), some (.int (iN y)), some (.int (iN k)), x4] [] h1 R ↔ R = (some (.int (bB (tB (solid l D)))), h')) ∧ ChX [21, 22, 23, 24] [(19, 6)] 0 h h' ∧ (solid l D → ∃ f S Q Q', 0 < f ∧ HfX h' f S Q ∧ facL l D f S Q' ∧ ∀ j, j < f → plBd D (Q j) ∧ ∃ v : Int, 0 < v ∧ ∀ t, t < 5 → Q j t = v * Q' j t) := by
    intro w
    induction w with
    | zero => intro y k x4 h1 hw hy; omega
    | succ w ih =>
      intro y k x4 h1 hw hy hp hk I
      rcases Nat.lt_or_ge y (2 ^ l.length) with q | q
      · have y16 : y < 65536 := by omega
        have hpy := hp y16
        obtain ⟨g1, g2, g3, g4⟩ := (gos hD).1 y y16 hpy
        have k18 := g_few hD y16 hpy
        rcases ff_one (d := d) (k := k) (x4 := x4) s v ok q hpy (by omega) I with ⟨ns, h2, r2, ch2⟩ | ⟨h2, x4', r2, I2⟩
        · exact ⟨h2, fun R => by rw [r2 R, tB_f ns, bN_f], ch2, fun so => absurd so ns⟩
        · obtain ⟨h', r3, c3, z3⟩ := ih (gNx y) (k + 1) x4' h2 (by omega) g3 g4 (by have := cntN_lt (p := gIs D) g2 (decide_eq_true hpy); omega) I2
          exact ⟨h', fun R => (r2 R).trans (r3 R), c3, z3⟩
      · have : cntN (gIs D) y ≤ y := cntN_le
        exact ⟨h1, fin y k x4 h1 q hy (by omega) I⟩
  obtain ⟨h', r1, c1, z1⟩ := go 131073 (2 ^ D - 1) 0 none h0 (by omega) (by omega) (fun _ => by
    have h3 : D = 2 ∨ D = 3 ∨ D = 4 := by omega
    rcases h3 with rfl | rfl | rfl <;> decide +kernel) (Nat.zero_le _) I0
  exact ⟨h', fun R => (r0 R).trans (r1 R), c1, z1⟩
end XFIND

/-! ===== THE CLASS: findScale ===== -/
section XSCALE
variable {d D : Nat} {h : qH} {R : qRes} {bs : List bdy} {sa : Nat → Nat} {ps : List frac} {w : Nat}
theorem lcF_pos (hb : frB ps) : ∀ j, j ≤ 4 * ps.length → 0 < lcF ps w j
  | 0, _ => Nat.one_pos
  | j + 1, hj => by
    rw [lcF]
    split
    · exact lcF_pos hb j (by omega)
    · exact Nat.lcm_pos (lcF_pos hb j (by omega)) (dnm_pos hb (show j / 4 < ps.length by omega)).1
theorem lcF_dvd {j : Nat} : ∀ {m : Nat}, j ≤ m → lcF ps w j ∣ lcF ps w m
  | 0, h => by rw [show j = 0 by omega]; exact Nat.dvd_refl _
  | m + 1, h => by
    rcases Nat.lt_or_ge m j with z | z
    · rw [show j = m + 1 by omega]; exact Nat.dvd_refl _
    · refine Nat.dvd_trans (lcF_dvd z) ?_
      rw [lcF]
      split
      · exact Nat.dvd_refl _
      · exact Nat.dvd_lcm_left _ _
theorem lcF_le (hb : frB ps) {j m : Nat} (h1 : j ≤ m) (h2 : m ≤ 4 * ps.length) : lcF ps w j ≤ lcF ps w m := Nat.le_of_dvd (lcF_pos hb m h2) (lcF_dvd h1)
theorem dnm_dvd {p k m : Nat} (hk : k < 4) (hw : k ≠ w) (hm : 4 * p + k < m) : dnm ps p k ∣ lcF ps w m := by
  refine Nat.dvd_trans ?_ (lcF_dvd (j := 4 * p + k + 1) (by omega))
  rw [lcF, show (4 * p + k) % 4 = k by omega, show (4 * p + k) / 4 = p by omega, if_neg hw]
  exact Nat.dvd_lcm_right _ _
/-- parts that are whole do not count -/
theorem lcF_one {m : Nat} (h : ∀ j, j < m → dnm ps (j / 4) (j % 4) = 1) : lcF ps w m = 1 := by
  induction m with
  | zero => rfl
  | succ m ih =>
    rw [lcF, ih fun j hj => h j (by omega), h m (by omega)]
    split
    · rfl
    · exact Nat.lcm_self 1
/-- some part counts, if the scale is above 1 -/
theorem lcF_some {m : Nat} (h : 1 < lcF ps w m) : ∃ j, j < m ∧ j % 4 ≠ w ∧ 1 < dnm ps (j / 4) (j % 4) ∨ ∃ j, j < m ∧ j % 4 ≠ w ∧ dnm ps (j / 4) (j % 4) = 0 := by
  induction m with
  | zero => exact absurd h (by show ¬ 1 < 1; omega)
  | succ m ih =>
    rw [lcF] at h
    by_cases z : m % 4 = w
    · rw [if_pos z] at h
      obtain ⟨j, hj⟩ := ih h
      rcases hj with ⟨h1, h2⟩ | ⟨j', h1, h2⟩
      · exact ⟨j, Or.inl ⟨by omega, h2⟩⟩
      · exact ⟨j, Or.inr ⟨j', by omega, h2⟩⟩
    · rw [if_neg z] at h
      by_cases q : 1 < dnm ps (m / 4) (m % 4)
      · exact ⟨m, Or.inl ⟨by omega, z, q⟩⟩
      · by_cases q0 : dnm ps (m / 4) (m % 4) = 0
        · exact ⟨m, Or.inr ⟨m, by omega, z, q0⟩⟩
        · rw [show dnm ps (m / 4) (m % 4) = 1 by omega, Nat.lcm_one_right] at h
          obtain ⟨j, hj⟩ := ih h
          rcases hj with ⟨h1, h2⟩ | ⟨j', h1, h2⟩
          · exact ⟨j, Or.inl ⟨by omega, h2⟩⟩
          · exact ⟨j, Or.inr ⟨j', by omega, h2⟩⟩
theorem getD_appL {α : Type} {L M : List α} {k : Nat} {z : α} (h : k < L.length) : (L ++ M).getD k z = L.getD k z := by
  rw [List.getD_eq_getElem?_getD, List.getElem?_append_left h, List.getD_eq_getElem?_getD]
theorem getD_appR {α : Type} {L M : List α} {k : Nat} {z : α} : (L ++ M).getD (L.length + k) z = M.getD k z := by
  rw [List.getD_eq_getElem?_getD, List.getElem?_append_right (by omega), List.getD_eq_getElem?_getD, Nat.add_sub_cancel_left]
theorem edL_app {i : Nat} {lv : Nat → Int} (as cs : List Nat) : edL bs i lv (as ++ cs) = edL bs i lv as ++ edL bs i lv cs := List.filterMap_append ..
/-- the part of a crossed edge -/
theorem cut_at {i : Nat} {lv : Nat → Int} {kp : Nat → Bool} {t a c : Nat} (ht : t < (cel bs i 1).length) (hac : a < c) (hc : c < 16) (ey : (cel bs i 1).getD t 0 = 2 ^ a ||| 2 ^ c) (cr : crs lv (2 ^ a ||| 2 ^ c)) : (kpL (cnr bs i) kp (cnr bs i).length).length + (edL bs i lv ((cel bs i 1).take t)).length < (cutP bs i lv kp).length ∧ (cutP bs i lv kp).getD ((kpL (cnr bs i) kp (cnr bs i).length).length + (edL bs i lv ((cel bs i 1).take t)).length) f0 = btw ((cnr bs i).getD a z4) ((cnr bs i).getD c z4) (lv a) (lv c) ∧ (edL bs i lv ((cel bs i 1).take (t + 1))).length = (edL bs i lv ((cel bs i 1).take t)).length + 1 := by
  obtain ⟨o1, o2⟩ := lo_pair hac hc
  have e1 : edP bs i lv (2 ^ a ||| 2 ^ c) = some (btw ((cnr bs i).getD a z4) ((cnr bs i).getD c z4) (lv a) (lv c)) := by
    unfold edP
    rw [if_pos (tB_t cr), o1, o2]
  have e2 : edL bs i lv ((cel bs i 1).take (t + 1)) = edL bs i lv ((cel bs i 1).take t) ++ [btw ((cnr bs i).getD a z4) ((cnr bs i).getD c z4) (lv a) (lv c)] := by
    rw [edL_take ht, ey, e1]; rfl
  have e3 : edL bs i lv (cel bs i 1) = edL bs i lv ((cel bs i 1).take t) ++ ([btw ((cnr bs i).getD a z4) ((cnr bs i).getD c z4) (lv a) (lv c)] ++ edL bs i lv ((cel bs i 1).drop (t + 1))) := by
    rw [← List.append_assoc, ← e2, ← edL_app, List.take_append_drop]
  unfold cutP
  rw [e3]
  refine ⟨by rw [List.length_append, List.length_append, List.length_append]; show _ < _ + (_ + (1 + _)); omega, ?_, by rw [e2, List.length_append]; rfl⟩
  rw [getD_appR]
  have := getD_appR (L := edL bs i lv ((cel bs i 1).take t)) (M := [btw ((cnr bs i).getD a z4) ((cnr bs i).getD c z4) (lv a) (lv c)] ++ edL bs i lv ((cel bs i 1).drop (t + 1))) (k := 0) (z := f0)
  exact this.trans rfl
theorem cut_no {i : Nat} {lv : Nat → Int} {t : Nat} (ht : t < (cel bs i 1).length) (cr : ¬ crs lv ((cel bs i 1).getD t 0)) : edL bs i lv ((cel bs i 1).take (t + 1)) = edL bs i lv ((cel bs i 1).take t) := by
  rw [edL_take ht]
  unfold edP
  rw [if_neg (fun z => cr (tB_iff.mp z))]
  exact List.append_nil _
/-- the parts of kept corners -/
theorem kpL_mem {cs : List pt4} {kp : Nat → Bool} {x : frac} : ∀ {k : Nat}, x ∈ kpL cs kp k → ∃ c, c < k ∧ kp c = true ∧ x = (cs.getD c z4, 1)
  | 0, h => by cases h
  | k + 1, h => by
    rw [kpL] at h
    rcases List.mem_append.mp h with h | h
    · obtain ⟨c, h1, h2⟩ := kpL_mem h
      exact ⟨c, by omega, h2⟩
    · by_cases z : kp k = true
      · rw [if_pos z] at h
        exact ⟨k, by omega, z, List.mem_singleton.mp h⟩
      · rw [if_neg z] at h; cases h
theorem getD_memF {L : List frac} {k : Nat} (hk : k < L.length) : L.getD k f0 ∈ L := by
  rw [List.getD_eq_getElem?_getD, List.getElem?_eq_getElem hk]; exact List.getElem_mem hk
/-- what is known of the levels -/
def lvG (bs : List bdy) (i : Nat) (lv : Nat → Int) : Prop := ∀ a c, a < (cnr bs i).length → c < (cnr bs i).length → (lv c - lv a).natAbs ≤ 72000
theorem cut_fr {i : Nat} {lv : Nat → Int} {kp : Nat → Bool} (P : SoP D (cnr bs i) (cel bs i)) (g : lvG bs i lv) : ∀ p, p < (cutP bs i lv kp).length → 1 ≤ fL (cutP bs i lv kp) p ∧ fL (cutP bs i lv kp) p ≤ 72000 := by
  intro p hp
  unfold fL
  have hm := getD_memF hp
  generalize (cutP bs i lv kp).getD p f0 = x at hm
  unfold cutP at hm
  rcases List.mem_append.mp hm with h | h
  · obtain ⟨c, -, -, rfl⟩ := kpL_mem h
    show (1 : Int) ≤ 1 ∧ (1 : Int) ≤ 72000
    decide
  · obtain ⟨y, hy, e⟩ := List.mem_filterMap.mp h
    obtain ⟨a, c, hac, hc, rfl⟩ := P.2.2.2.2.2.2.1 y hy
    have n16 := P.2.1.2
    obtain ⟨o1, o2⟩ := lo_pair hac (show c < 16 by omega)
    unfold edP at e
    by_cases cr : crs lv (2 ^ a ||| 2 ^ c)
    · rw [if_pos (tB_t cr), o1, o2] at e
      rw [← Option.some.inj e]
      show 1 ≤ ((lv c - lv a).natAbs : Int) ∧ ((lv c - lv a).natAbs : Int) ≤ 72000
      have := g a c (by omega) hc
      have cr' : (lv a < 0 ∧ 0 < lv c) ∨ (0 < lv a ∧ lv c < 0) := by unfold crs at cr; rw [o1, o2] at cr; exact cr
      omega
    · rw [if_neg (fun z => cr (tB_iff.mp z))] at e; cases e
theorem cut_frB {i : Nat} {lv : Nat → Int} {kp : Nat → Bool} (P : SoP D (cnr bs i) (cel bs i)) (g : lvG bs i lv) : frB (cutP bs i lv kp) := fun p hp => by have := cut_fr P g p hp; omega
theorem dnm_1 {p k : Nat} (h : fL ps p = 1) : dnm ps p k = 1 := by
  unfold dnm
  rw [h]
  show 1 / Nat.gcd _ 1 = 1
  rw [Nat.gcd_one_right]
theorem dnm_z {p k : Nat} (h1 : 1 ≤ fL ps p) (h : fU ps p k = 0) : dnm ps p k = 1 := by
  unfold dnm
  rw [h]
  show (fL ps p).natAbs / Nat.gcd 0 _ = 1
  rw [Nat.gcd_zero_left]
  exact Nat.div_self (by omega)
theorem kp_fL {i : Nat} {lv : Nat → Int} {kp : Nat → Bool} {p : Nat} (hp : p < (kpL (cnr bs i) kp (cnr bs i).length).length) : fL (cutP bs i lv kp) p = 1 := by
  unfold fL cutP
  rw [getD_appL hp]
  obtain ⟨c, -, -, e⟩ := kpL_mem (getD_memF hp)
  rw [e]
theorem lcF_kp {i : Nat} {lv : Nat → Int} {kp : Nat → Bool} : lcF (cutP bs i lv kp) w (4 * (kpL (cnr bs i) kp (cnr bs i).length).length) = 1 := lcF_one fun j hj => dnm_1 (kp_fL (by omega))
set_option maxRecDepth 100000 in
set_option maxHeartbeats 32000000 in
theorem x_findScale {i : Nat} {lv : Nat → Int} {kp : Nat → Bool} (s : ShX h) (X : BsX h bs sa) (hi' : i < bs.length) (v : SeX h bs sa i lv w) (g : lvG bs i lv) : ∃ h', ChX [] [(27, 3)] 0 h h' ∧ (lcF (cutP bs i lv kp) w (4 * (cutP bs i lv kp).length) ≤ 71928000 → (∀ R, qMC (d + 5) 96 [.ref 27] h R ↔ R = (some (.int (iN 1)), h')) ∧ xw h' = lZ (lcF (cutP bs i lv kp) w (4 * (cutP bs i lv kp).length))) ∧ (¬ lcF (cutP bs i lv kp) w (4 * (cutP bs i lv kp).length) ≤ 71928000 → ∀ R, qMC (d + 5) 96 [.ref 27] h R ↔ R = (some (.int (iN 0)), h')) := by
  obtain ⟨p, q, w', e, B, S, P⟩ := X.at hi'
  have n16 := P.2.1.2
  have hD := P.1
  have w4 := v.2.2.1
  obtain ⟨b8, pb⟩ := P.2.2.2.2.1 1 (by decide)
  obtain ⟨ps, eps⟩ : ∃ ps, ps = cutP bs i lv kp := ⟨_, rfl⟩
  have hb : frB ps := by rw [eps]; exact cut_frB P g
  obtain ⟨n1, en1⟩ : ∃ n1, n1 = (kpL (cnr bs i) kp (cnr bs i).length).length := ⟨_, rfl⟩
  obtain ⟨Q, eQ⟩ : ∃ Q : Nat → Nat, Q = fun t => n1 + (edL bs i lv ((cel bs i 1).take t)).length := ⟨_, rfl⟩
  have Q0 : Q 0 = n1 := by rw [eQ]; rfl
  have Qn : Q (cel bs i 1).length = ps.length := by
    rw [eQ, eps]
    show n1 + (edL bs i lv ((cel bs i 1).take (cel bs i 1).length)).length = _
    rw [List.take_length, en1]
    unfold cutP
    rw [List.length_append]
  have L0 : lcF ps w (4 * n1) = 1 := by rw [eps, en1]; exact lcF_kp
  rw [← eps]
  obtain ⟨dv, edv⟩ : ∃ dv : Int32, dv = if w = 4 then -iN 1 else iN w := ⟨_, rfl⟩
  have hdv : ∀ k, k < 4 → (iN k = dv ↔ k = w) := fun k hk => by
    rw [edv]
    by_cases z : w = 4
    · rw [if_pos z]
      refine ⟨fun y => ?_, fun y => by omega⟩
      have : iN k < iN 0 := by rw [y]; decide
      rw [iN_lt (by omega) (by omega)] at this; omega
    · rw [if_neg z, iN_eq (by omega) (by omega)]
  have cap : ∀ x : Nat, x ≤ 200000000000000 → (lZ x ≤ lZ 71928000 ↔ x ≤ 71928000) := fun x hx => by
    rw [lZ_le (by unfold lB; omega) (by unfold lB; omega)]
    omega
  -- what is at hand in each heap
  have hand : ∀ g', ChX [] [(27, 3)] 0 h g' → ShX g' ∧ BsX g' bs sa ∧ SeX g' bs sa i lv w := fun g' c => ⟨c.sh, X.ch s c (by intro y hy; cases hy) (by intro z; cases z) (by decide), v.ch c s (by intro z; cases z) (by decide) (by decide)⟩
  have bd : ∀ {g'}, ChX [] [(27, 3)] 0 h g' → ∃ p q w' e, SoD g' (sa i) (dmn bs i) (scl bs i) (cnr bs i) (cel bs i) p q w' e B := fun {g'} c => by
    obtain ⟨p', q', w'', e', B', S', -⟩ := (hand g' c).2.1.at hi'
    have a97 := S.1.2
    have o := c.at (b := sa i) (by intro z; cases z) (no_XO a97) S.1.1.1.2
    have f4 : hf g' (sa i) 4 = .ref q := by rw [hf_at o]; exact S.2.1.2.2.2.2.1
    have eq' : q' = q := by
      have := S'.2.1.2.2.2.2.1
      rw [f4] at this
      injection this with this
      exact this.symm
    subst eq'
    obtain ⟨a1, a2, a3, ⟨q97, kq, hq⟩, a5⟩ := S'
    have oq := c.at (b := q') (by intro z; cases z) (no_XO q97) S.2.2.2.1.2.1.1.2.2
    refine ⟨p', q', w'', e', a1, a2, a3, ⟨q97, kq, fun K hK => ?_⟩, a5⟩
    obtain ⟨r1, r2⟩ := hq K hK
    have r3 := (S.2.2.2.1.2.2 K hK).1
    rw [← hr_at oq, r1] at r3
    have : B' K = B K := Option.some.inj r3
    rw [← this]
    exact ⟨r1, r2⟩
  -- one axis
  have axis : ∀ (t a c q m k : Nat) (g' : qH) (x4 x6 : Option Value), t < (cel bs i 1).length → a < c → c < (cnr bs i).length → (cel bs i 1).getD t 0 = 2 ^ a ||| 2 ^ c → crs lv (2 ^ a ||| 2 ^ c) → q < ps.length → ps.getD q f0 = btw ((cnr bs i).getD a z4) ((cnr bs i).getD c z4) (lv a) (lv c) → k + m = dmn bs i → ChX [] [(27, 3)] 0 h g' → xw g' = lZ (lcF ps w (4 * q + k)) → lcF ps w (4 * q + k) ≤ 71928000 →
      (∃ g2, ChX [] [(27, 3)] 0 h g2 ∧ ¬ lcF ps w (4 * q + dmn bs i) ≤ 71928000 ∧ ∀ R, qEv (d + 4) 3 qk_96 25 [some (.ref 27), some (.ref (B 1)), some (.int (iN t)), some (.int (iN k)), x4, none, x6, none] [] g' R ↔ R = (some (.int (iN 0)), g2)) ∨
      (∃ g2 y4 y6, ChX [] [(27, 3)] 0 h g2 ∧ lcF ps w (4 * q + dmn bs i) ≤ 71928000 ∧ xw g2 = lZ (lcF ps w (4 * q + dmn bs i)) ∧ ∀ R, qEv (d + 4) 3 qk_96 25 [some (.ref 27), some (.ref (B 1)), some (.int (iN t)), some (.int (iN k)), x4, none, x6, none] [] g' R ↔ qEv (d + 4) 3 qk_96 125 [some (.ref 27), some (.ref (B 1)), some (.int (iN t)), some (.int (iN (dmn bs i))), y4, none, y6, none] [] g2 R) := by
    intro t a c q m
    induction m with
    | zero =>
      intro k g' x4 x6 ht hac hc ey cr hq ebt hk cg xg le
      have ek : k = dmn bs i := by omega
      subst ek
      obtain ⟨sg, Xg, vg⟩ := hand g' cg
      obtain ⟨p2, q2, w2, e2, S2⟩ := bd cg
      obtain ⟨⟨u16, ult, uF⟩, g0, g1, g2, g3, g4, g5, g6⟩ := S2.obj
      have fr := vg.from sg
      refine Or.inr ⟨g', x4, x6, cg, le, xg, fun R => ?_⟩
      rw [e96_25]
      simp (disch := first | assumption | omega) only [e96_0, e96_1, e96_2, e96_5, e96_6, e96_9, e96_12, e96_13, e96_14, e96_15, e96_16, e96_17, e96_18, e96_19, e96_20, e96_23, e96_24, e96_26, e96_27, e96_30, e96_33, e96_36, e96_37, e96_38, e96_39, e96_40, e96_43, e96_46, e96_47, e96_48, e96_51, e96_54, e96_55, e96_56, e96_57, e96_58, e96_61, e96_63, e96_65, e96_66, e96_67, e96_68, e96_69, e96_70, e96_73, e96_75, e96_78, e96_81, e96_83, e96_84, e96_85, e96_88, e96_89, e96_92, e96_94, e96_97, e96_100, e96_102, e96_103, e96_106, e96_107, e96_110, e96_113, e96_114, e96_117, e96_118, e96_119, e96_122, e96_128, e96_131, e96_132, m96, ↓reduceIte, qg_0, qg_1, qg_2, qg_3, qg_4, qg_5, qg_6, qg_7, qg_8, qg_9, qg_10, qg_11, qg_12, qg_13, not_true_eq_false, not_false_eq_true, Nat.reduceBEq, Bool.false_eq_true, ex1, ex3, ex4, exF, qfit_i, qfit_l, qfit_r, qfit_n, qfit_b0, qfit_b1, qcat_i, qcat_r, qcat_n, qcat_l, qroom_0, qroom_c, List.map_cons, List.map_nil, List.sum_cons, List.sum_nil, Nat.reduceAdd, Nat.reduceMul, Nat.reduceLT, Nat.reduceLeDiff, Nat.reduceEqDiff, Nat.reduceSub, decide_true, true_and, and_true, and_self, if_true, if_false, Option.toList_some, Option.toList_none, List.cons_append, List.nil_append, qsL, qlong, List.length_cons, List.length_nil, iN_L, exI, iN_add, iN_mul, iN_le, iN_lt, iN_eq, Nat.le_refl, qfN0, qfN1, uX_16, vX_16, uX_19, vX_19, uX_27, vX_27, uX_30, vX_30, uX_39, vX_39, uX_41, vX_41, uX_43, vX_43, uX_46, vX_46, uX_50, vX_50, uX_53, vX_53, uX_27, vX_27, fr, u16, ult, uF, g0, g1, g2, g3, g4, g5, g6]
    | succ m ih =>
      intro k g' x4 x6 ht hac hc ey cr hq ebt hk cg xg le
      obtain ⟨sg, Xg, vg⟩ := hand g' cg
      obtain ⟨p2, q2, w2, e2, S2⟩ := bd cg
      obtain ⟨⟨u16, ult, uF⟩, g0, g1, g2, g3, g4, g5, g6⟩ := S2.obj
      have fr := vg.from sg
      have v2 : xi g' 27 2 = dv := by rw [edv]; exact vg.2.1
      have hk' : ¬ dmn bs i ≤ k := by omega
      have ic : ∀ R, qMC (d + 4) 92 [.ref 27, .int (iN (2 ^ a ||| 2 ^ c))] g' R ↔ R = (some (.int (iN 1)), g') := fun R => by
        have := x_isCrossed (d := d + 1) (R := R) sg vg n16 hac hc
        rw [tB_t cr, bN_t] at this; exact this
      have ry := S2.ck (K := 1) (by decide) ht
      rw [ey] at ry
      have lcs : lcF ps w (4 * q + (k + 1)) = if k = w then lcF ps w (4 * q + k) else Nat.lcm (lcF ps w (4 * q + k)) (dnm ps q k) := by
        rw [show 4 * q + (k + 1) = (4 * q + k) + 1 from rfl, lcF, show (4 * q + k) % 4 = k by omega, show (4 * q + k) / 4 = q by omega]
      have g3' := gX_27_3 sg
      by_cases kw : k = w
      · rw [if_pos kw] at lcs
        have y1 : iN k = dv := (hdv k (by omega)).mpr kw
        have le' := (cap _ (by omega)).mpr le
        rcases ih (k + 1) g' x4 x6 ht hac hc ey cr hq ebt (by omega) cg (by rw [lcs]; exact xg) (by rw [lcs]; exact le) with ⟨g2', z1, z2, z3⟩ | ⟨g2', y4, y6, z1, z2, z3, z4⟩
        · refine Or.inl ⟨g2', z1, z2, fun R => ?_⟩
          rw [← z3 R, e96_25]
          simp (disch := first | assumption | omega) only [e96_0, e96_1, e96_2, e96_5, e96_6, e96_9, e96_12, e96_13, e96_14, e96_15, e96_16, e96_17, e96_18, e96_19, e96_20, e96_23, e96_24, e96_26, e96_27, e96_30, e96_33, e96_36, e96_37, e96_38, e96_39, e96_40, e96_43, e96_46, e96_47, e96_48, e96_51, e96_54, e96_55, e96_56, e96_57, e96_58, e96_61, e96_63, e96_65, e96_66, e96_67, e96_68, e96_69, e96_70, e96_73, e96_75, e96_78, e96_81, e96_83, e96_84, e96_85, e96_88, e96_89, e96_92, e96_94, e96_97, e96_100, e96_102, e96_103, e96_106, e96_107, e96_110, e96_113, e96_114, e96_117, e96_118, e96_119, e96_122, e96_128, e96_131, e96_132, m96, ↓reduceIte, qg_0, qg_1, qg_2, qg_3, qg_4, qg_5, qg_6, qg_7, qg_8, qg_9, qg_10, qg_11, qg_12, qg_13, not_true_eq_false, not_false_eq_true, Nat.reduceBEq, Bool.false_eq_true, ex1, ex3, ex4, exF, qfit_i, qfit_l, qfit_r, qfit_n, qfit_b0, qfit_b1, qcat_i, qcat_r, qcat_n, qcat_l, qroom_0, qroom_c, List.map_cons, List.map_nil, List.sum_cons, List.sum_nil, Nat.reduceAdd, Nat.reduceMul, Nat.reduceLT, Nat.reduceLeDiff, Nat.reduceEqDiff, Nat.reduceSub, decide_true, true_and, and_true, and_self, if_true, if_false, Option.toList_some, Option.toList_none, List.cons_append, List.nil_append, qsL, qlong, List.length_cons, List.length_nil, iN_L, exI, iN_add, iN_mul, iN_le, iN_lt, iN_eq, Nat.le_refl, qfN0, qfN1, uX_16, vX_16, uX_19, vX_19, uX_27, vX_27, uX_30, vX_30, uX_39, vX_39, uX_41, vX_41, uX_43, vX_43, uX_46, vX_46, uX_50, vX_50, uX_53, vX_53, uX_27, vX_27, fr, u16, ult, uF, g0, g1, g2, g3, g4, g5, g6, hk', ry, ic, gX_27_2, v2, eq_true y1, gX_27_3, xg, lgN_le, show (71928000 : Int64) = lZ 71928000 from rfl, le']
        · refine Or.inr ⟨g2', y4, y6, z1, z2, z3, fun R => ?_⟩
          rw [← z4 R, e96_25]
          simp (disch := first | assumption | omega) only [e96_0, e96_1, e96_2, e96_5, e96_6, e96_9, e96_12, e96_13, e96_14, e96_15, e96_16, e96_17, e96_18, e96_19, e96_20, e96_23, e96_24, e96_26, e96_27, e96_30, e96_33, e96_36, e96_37, e96_38, e96_39, e96_40, e96_43, e96_46, e96_47, e96_48, e96_51, e96_54, e96_55, e96_56, e96_57, e96_58, e96_61, e96_63, e96_65, e96_66, e96_67, e96_68, e96_69, e96_70, e96_73, e96_75, e96_78, e96_81, e96_83, e96_84, e96_85, e96_88, e96_89, e96_92, e96_94, e96_97, e96_100, e96_102, e96_103, e96_106, e96_107, e96_110, e96_113, e96_114, e96_117, e96_118, e96_119, e96_122, e96_128, e96_131, e96_132, m96, ↓reduceIte, qg_0, qg_1, qg_2, qg_3, qg_4, qg_5, qg_6, qg_7, qg_8, qg_9, qg_10, qg_11, qg_12, qg_13, not_true_eq_false, not_false_eq_true, Nat.reduceBEq, Bool.false_eq_true, ex1, ex3, ex4, exF, qfit_i, qfit_l, qfit_r, qfit_n, qfit_b0, qfit_b1, qcat_i, qcat_r, qcat_n, qcat_l, qroom_0, qroom_c, List.map_cons, List.map_nil, List.sum_cons, List.sum_nil, Nat.reduceAdd, Nat.reduceMul, Nat.reduceLT, Nat.reduceLeDiff, Nat.reduceEqDiff, Nat.reduceSub, decide_true, true_and, and_true, and_self, if_true, if_false, Option.toList_some, Option.toList_none, List.cons_append, List.nil_append, qsL, qlong, List.length_cons, List.length_nil, iN_L, exI, iN_add, iN_mul, iN_le, iN_lt, iN_eq, Nat.le_refl, qfN0, qfN1, uX_16, vX_16, uX_19, vX_19, uX_27, vX_27, uX_30, vX_30, uX_39, vX_39, uX_41, vX_41, uX_43, vX_43, uX_46, vX_46, uX_50, vX_50, uX_53, vX_53, uX_27, vX_27, fr, u16, ult, uF, g0, g1, g2, g3, g4, g5, g6, hk', ry, ic, gX_27_2, v2, eq_true y1, gX_27_3, xg, lgN_le, show (71928000 : Int64) = lZ 71928000 from rfl, le']
      · rw [if_neg kw] at lcs
        have y1 : ¬ iN k = dv := fun z => kw ((hdv k (by omega)).mp z)
        have ba := (v.2.2.2 a (by omega)).2
        have bc := (v.2.2.2 c hc).2
        obtain ⟨L, eL⟩ : ∃ L : Nat, L = (lv c - lv a).natAbs := ⟨_, rfl⟩
        have efL : fL ps q = (L : Int) := by unfold fL; rw [ebt, eL]; rfl
        obtain ⟨U, eU⟩ : ∃ U, U = fU ps q k := ⟨_, rfl⟩
        have eU' : U = co (btw ((cnr bs i).getD a z4) ((cnr bs i).getD c z4) (lv a) (lv c)).1 k := by rw [eU]; unfold fU; rw [ebt]
        have L0' : 0 < L := by have := (hb q hq).1; omega
        have Lb : L ≤ 72000 := by rw [eL]; exact g a c (by omega) hc
        have xa := P.2.2.1 a (by omega) k (by omega)
        have xc := P.2.2.1 c hc k (by omega)
        have Ub : lB U := by
          rw [eU', btw_co _ _ _ _ k (by omega)]
          have m1 := mul_b (x := lP (cnr bs i) a k) (y := lv c) (A := 999) (B := 50000) (by omega) (by omega)
          have m2 := mul_b (x := lP (cnr bs i) c k) (y := lv a) (A := 999) (B := 50000) (by omega) (by omega)
          have e1 : co ((cnr bs i).getD a z4) k = lP (cnr bs i) a k := rfl
          have e2 : co ((cnr bs i).getD c z4) k = lP (cnr bs i) c k := rfl
          rw [e1, e2]
          unfold lB
          split <;> omega
        have sp : ∀ R, qMC (d + 4) 94 [.ref 27, .int (iN (2 ^ a ||| 2 ^ c))] g' R ↔ R = (some (.long (lZ (L : Int))), g') := fun R => by rw [eL]; exact x_span sg vg n16 hac hc
        have crx : ∀ R, qMC (d + 4) 95 [.ref 27, .int (iN (2 ^ a ||| 2 ^ c)), .int (iN k)] g' R ↔ R = (some (.long (lZ U)), g') := fun R => by rw [eU']; exact x_crossing sg Xg hi' vg hac hc (by omega) cr
        have lL : lB (L : Int) := by unfold lB; omega
        have gc : ∀ R, qMC (d + 4) 98 [.long (lZ U), .long (lZ ((L : Int)))] g' R ↔ R = (some (.long (lZ ((Nat.gcd U.natAbs L : Nat) : Int))), g') := fun R => x_common (d := d + 2) Ub lL (by show L < 2 ^ 40; omega)
        have gpos : 0 < Nat.gcd U.natAbs L := Nat.gcd_pos_of_pos_right _ L0'
        have gle : Nat.gcd U.natAbs L ≤ L := Nat.gcd_le_right _ L0'
        have dvd1 : ∀ R, qMC (d + 4) 97 [.long (lZ ((L : Int))), .long (lZ (((Nat.gcd U.natAbs L : Nat) : Int)))] g' R ↔ R = (some (.long (lZ ((L / Nat.gcd U.natAbs L : Nat) : Int))), g') := fun R => x_divided (d := d + 3) lL (by unfold lB; omega) gpos
        obtain ⟨N, eN⟩ : ∃ N, N = dnm ps q k := ⟨_, rfl⟩
        have eN' : L / Nat.gcd U.natAbs L = N := by rw [eN]; unfold dnm; rw [efL, ← eU]; rfl
        rw [eN'] at dvd1
        obtain ⟨N0, Nb⟩ := dnm_pos hb (k := k) hq
        rw [← eN] at N0 Nb lcs
        obtain ⟨Y, eY⟩ : ∃ Y, Y = lcF ps w (4 * q + k) := ⟨_, rfl⟩
        rw [← eY] at xg le lcs
        have Y0 : 0 < Y := by rw [eY]; exact lcF_pos hb _ (by omega)
        have lY : lB (Y : Int) := by unfold lB; omega
        have lN : lB (N : Int) := by unfold lB; omega
        have gc2 : ∀ R, qMC (d + 4) 98 [.long (lZ ((Y : Int))), .long (lZ ((N : Int)))] g' R ↔ R = (some (.long (lZ ((Nat.gcd Y N : Nat) : Int))), g') := fun R => x_common (d := d + 2) lY lN (by show N < 2 ^ 40; omega)
        have gp2 : 0 < Nat.gcd Y N := Nat.gcd_pos_of_pos_right _ N0
        have gl2 : Nat.gcd Y N ≤ N := Nat.gcd_le_right _ N0
        have dvd2 : ∀ R, qMC (d + 4) 97 [.long (lZ ((Y : Int))), .long (lZ (((Nat.gcd Y N : Nat) : Int)))] g' R ↔ R = (some (.long (lZ ((Y / Nat.gcd Y N : Nat) : Int))), g') := fun R => x_divided (d := d + 3) lY (by unfold lB; omega) gp2
        have mm : lZ ((Y / Nat.gcd Y N : Nat) : Int) * lZ (N : Int) = lZ ((Nat.lcm Y N : Nat) : Int) := by rw [lZ_mul, ← lcm_div, Int.natCast_mul]
        obtain ⟨g2x, eg2⟩ : ∃ g2x, g2x = xV g' 27 3 (.long (lZ ((Nat.lcm Y N : Nat) : Int))) := ⟨_, rfl⟩
        have p3 : qput g' 27 7 3 (.long (lZ ((Nat.lcm Y N : Nat) : Int))) = some g2x := by rw [eg2]; exact pX_27_3 sg
        have cg2 : ChX [] [(27, 3)] 0 h g2x := cg.trans0 (by rw [eg2]; exact ChX.setS sg (by decide))
        have sg2 := cg2.sh
        have xg2 : xw g2x = lZ ((Nat.lcm Y N : Nat) : Int) := by rw [eg2]; unfold xw; rw [hf_xV, if_pos ⟨rfl, rfl⟩]; rfl
        have lcle : Nat.lcm Y N ≤ 200000000000000 := by
          have h1 : Nat.lcm Y N ≤ Y * N := Nat.le_of_dvd (Nat.mul_pos Y0 N0) (Nat.lcm_dvd (Nat.dvd_mul_right _ _) (Nat.dvd_mul_left _ _))
          have h2 : Y * N ≤ 71928000 * 100000 := Nat.mul_le_mul le Nb
          omega
        have cp := cap _ lcle
        by_cases over : Nat.lcm Y N ≤ 71928000
        · have le' := cp.mpr over
          rcases ih (k + 1) g2x (some (.long (lZ (L : Int)))) (some (.long (lZ (N : Int)))) ht hac hc ey cr hq ebt (by omega) cg2 (by rw [lcs]; exact xg2) (by rw [lcs]; exact over) with ⟨g2', z1, z2, z3⟩ | ⟨g2', y4, y6, z1, z2, z3, z4⟩
          · refine Or.inl ⟨g2', z1, z2, fun R => ?_⟩
            rw [← z3 R, e96_25]
            simp (disch := first | assumption | omega) only [e96_0, e96_1, e96_2, e96_5, e96_6, e96_9, e96_12, e96_13, e96_14, e96_15, e96_16, e96_17, e96_18, e96_19, e96_20, e96_23, e96_24, e96_26, e96_27, e96_30, e96_33, e96_36, e96_37, e96_38, e96_39, e96_40, e96_43, e96_46, e96_47, e96_48, e96_51, e96_54, e96_55, e96_56, e96_57, e96_58, e96_61, e96_63, e96_65, e96_66, e96_67, e96_68, e96_69, e96_70, e96_73, e96_75, e96_78, e96_81, e96_83, e96_84, e96_85, e96_88, e96_89, e96_92, e96_94, e96_97, e96_100, e96_102, e96_103, e96_106, e96_107, e96_110, e96_113, e96_114, e96_117, e96_118, e96_119, e96_122, e96_128, e96_131, e96_132, m96, ↓reduceIte, qg_0, qg_1, qg_2, qg_3, qg_4, qg_5, qg_6, qg_7, qg_8, qg_9, qg_10, qg_11, qg_12, qg_13, not_true_eq_false, not_false_eq_true, Nat.reduceBEq, Bool.false_eq_true, ex1, ex3, ex4, exF, qfit_i, qfit_l, qfit_r, qfit_n, qfit_b0, qfit_b1, qcat_i, qcat_r, qcat_n, qcat_l, qroom_0, qroom_c, List.map_cons, List.map_nil, List.sum_cons, List.sum_nil, Nat.reduceAdd, Nat.reduceMul, Nat.reduceLT, Nat.reduceLeDiff, Nat.reduceEqDiff, Nat.reduceSub, decide_true, true_and, and_true, and_self, if_true, if_false, Option.toList_some, Option.toList_none, List.cons_append, List.nil_append, qsL, qlong, List.length_cons, List.length_nil, iN_L, exI, iN_add, iN_mul, iN_le, iN_lt, iN_eq, Nat.le_refl, qfN0, qfN1, uX_16, vX_16, uX_19, vX_19, uX_27, vX_27, uX_30, vX_30, uX_39, vX_39, uX_41, vX_41, uX_43, vX_43, uX_46, vX_46, uX_50, vX_50, uX_53, vX_53, uX_27, vX_27, fr, u16, ult, uF, g0, g1, g2, g3, g4, g5, g6, hk', ry, ic, gX_27_2, v2, y1, sp, crx, gc, dvd1, gX_27_3, xg, gc2, dvd2, mm, p3, xg2, lgN_le, show (71928000 : Int64) = lZ 71928000 from rfl, le']
          · refine Or.inr ⟨g2', y4, y6, z1, z2, z3, fun R => ?_⟩
            rw [← z4 R, e96_25]
            simp (disch := first | assumption | omega) only [e96_0, e96_1, e96_2, e96_5, e96_6, e96_9, e96_12, e96_13, e96_14, e96_15, e96_16, e96_17, e96_18, e96_19, e96_20, e96_23, e96_24, e96_26, e96_27, e96_30, e96_33, e96_36, e96_37, e96_38, e96_39, e96_40, e96_43, e96_46, e96_47, e96_48, e96_51, e96_54, e96_55, e96_56, e96_57, e96_58, e96_61, e96_63, e96_65, e96_66, e96_67, e96_68, e96_69, e96_70, e96_73, e96_75, e96_78, e96_81, e96_83, e96_84, e96_85, e96_88, e96_89, e96_92, e96_94, e96_97, e96_100, e96_102, e96_103, e96_106, e96_107, e96_110, e96_113, e96_114, e96_117, e96_118, e96_119, e96_122, e96_128, e96_131, e96_132, m96, ↓reduceIte, qg_0, qg_1, qg_2, qg_3, qg_4, qg_5, qg_6, qg_7, qg_8, qg_9, qg_10, qg_11, qg_12, qg_13, not_true_eq_false, not_false_eq_true, Nat.reduceBEq, Bool.false_eq_true, ex1, ex3, ex4, exF, qfit_i, qfit_l, qfit_r, qfit_n, qfit_b0, qfit_b1, qcat_i, qcat_r, qcat_n, qcat_l, qroom_0, qroom_c, List.map_cons, List.map_nil, List.sum_cons, List.sum_nil, Nat.reduceAdd, Nat.reduceMul, Nat.reduceLT, Nat.reduceLeDiff, Nat.reduceEqDiff, Nat.reduceSub, decide_true, true_and, and_true, and_self, if_true, if_false, Option.toList_some, Option.toList_none, List.cons_append, List.nil_append, qsL, qlong, List.length_cons, List.length_nil, iN_L, exI, iN_add, iN_mul, iN_le, iN_lt, iN_eq, Nat.le_refl, qfN0, qfN1, uX_16, vX_16, uX_19, vX_19, uX_27, vX_27, uX_30, vX_30, uX_39, vX_39, uX_41, vX_41, uX_43, vX_43, uX_46, vX_46, uX_50, vX_50, uX_53, vX_53, uX_27, vX_27, fr, u16, ult, uF, g0, g1, g2, g3, g4, g5, g6, hk', ry, ic, gX_27_2, v2, y1, sp, crx, gc, dvd1, gX_27_3, xg, gc2, dvd2, mm, p3, xg2, lgN_le, show (71928000 : Int64) = lZ 71928000 from rfl, le']
        · have le' : ¬ lZ ((Nat.lcm Y N : Nat) : Int) ≤ lZ 71928000 := fun z => over (cp.mp z)
          refine Or.inl ⟨g2x, cg2, fun z => ?_, fun R => ?_⟩
          · have := lcF_le hb (w := w) (show 4 * q + (k + 1) ≤ 4 * q + dmn bs i by omega) (by omega)
            rw [lcs] at this
            omega
          · rw [e96_25]
            simp (disch := first | assumption | omega) only [e96_0, e96_1, e96_2, e96_5, e96_6, e96_9, e96_12, e96_13, e96_14, e96_15, e96_16, e96_17, e96_18, e96_19, e96_20, e96_23, e96_24, e96_26, e96_27, e96_30, e96_33, e96_36, e96_37, e96_38, e96_39, e96_40, e96_43, e96_46, e96_47, e96_48, e96_51, e96_54, e96_55, e96_56, e96_57, e96_58, e96_61, e96_63, e96_65, e96_66, e96_67, e96_68, e96_69, e96_70, e96_73, e96_75, e96_78, e96_81, e96_83, e96_84, e96_85, e96_88, e96_89, e96_92, e96_94, e96_97, e96_100, e96_102, e96_103, e96_106, e96_107, e96_110, e96_113, e96_114, e96_117, e96_118, e96_119, e96_122, e96_128, e96_131, e96_132, m96, ↓reduceIte, qg_0, qg_1, qg_2, qg_3, qg_4, qg_5, qg_6, qg_7, qg_8, qg_9, qg_10, qg_11, qg_12, qg_13, not_true_eq_false, not_false_eq_true, Nat.reduceBEq, Bool.false_eq_true, ex1, ex3, ex4, exF, qfit_i, qfit_l, qfit_r, qfit_n, qfit_b0, qfit_b1, qcat_i, qcat_r, qcat_n, qcat_l, qroom_0, qroom_c, List.map_cons, List.map_nil, List.sum_cons, List.sum_nil, Nat.reduceAdd, Nat.reduceMul, Nat.reduceLT, Nat.reduceLeDiff, Nat.reduceEqDiff, Nat.reduceSub, decide_true, true_and, and_true, and_self, if_true, if_false, Option.toList_some, Option.toList_none, List.cons_append, List.nil_append, qsL, qlong, List.length_cons, List.length_nil, iN_L, exI, iN_add, iN_mul, iN_le, iN_lt, iN_eq, Nat.le_refl, qfN0, qfN1, uX_16, vX_16, uX_19, vX_19, uX_27, vX_27, uX_30, vX_30, uX_39, vX_39, uX_41, vX_41, uX_43, vX_43, uX_46, vX_46, uX_50, vX_50, uX_53, vX_53, uX_27, vX_27, fr, u16, ult, uF, g0, g1, g2, g3, g4, g5, g6, hk', ry, ic, gX_27_2, v2, y1, sp, crx, gc, dvd1, gX_27_3, xg, gc2, dvd2, mm, p3, xg2, lgN_le, show (71928000 : Int64) = lZ 71928000 from rfl, le']
  -- beyond the dimension nothing counts
  have tail : ∀ q a c, a < (cnr bs i).length → c < (cnr bs i).length → q < ps.length → ps.getD q f0 = btw ((cnr bs i).getD a z4) ((cnr bs i).getD c z4) (lv a) (lv c) → lcF ps w (4 * (q + 1)) = lcF ps w (4 * q + dmn bs i) := fun q a c ha hc hq ebt => by
    have one : ∀ k, dmn bs i ≤ k → k < 4 → lcF ps w (4 * q + (k + 1)) = lcF ps w (4 * q + k) := fun k h1 h2 => by
      rw [show 4 * q + (k + 1) = (4 * q + k) + 1 from rfl, lcF, show (4 * q + k) % 4 = k by omega, show (4 * q + k) / 4 = q by omega]
      split
      · rfl
      · rw [dnm_z (hb q hq).1, Nat.lcm_one_right]
        unfold fU
        rw [ebt, btw_co _ _ _ _ k h2]
        have e1 : co ((cnr bs i).getD a z4) k = 0 := P.2.2.2.1 a k h1 h2
        have e2 : co ((cnr bs i).getD c z4) k = 0 := P.2.2.2.1 c k h1 h2
        rw [e1, e2]
        split <;> omega
    have h3 : dmn bs i = 2 ∨ dmn bs i = 3 ∨ dmn bs i = 4 := by omega
    rcases h3 with z | z | z
    · rw [show 4 * (q + 1) = 4 * q + (3 + 1) by omega, one 3 (by omega) (by decide), show 4 * q + 3 = 4 * q + (2 + 1) by omega, one 2 (by omega) (by decide), z]
    · rw [show 4 * (q + 1) = 4 * q + (3 + 1) by omega, one 3 (by omega) (by decide), z]
    · rw [z, show 4 * (q + 1) = 4 * q + 4 by omega]
  have edges : ∀ (m t : Nat) (g' : qH) (x3 x4 x6 : Option Value), t + m = (cel bs i 1).length → qlong x3 = false → ChX [] [(27, 3)] 0 h g' → xw g' = lZ (lcF ps w (4 * Q t)) → lcF ps w (4 * Q t) ≤ 71928000 →
      ∃ g2, ChX [] [(27, 3)] 0 h g2 ∧ (lcF ps w (4 * ps.length) ≤ 71928000 → (∀ R, qEv (d + 4) 3 qk_96 17 [some (.ref 27), some (.ref (B 1)), some (.int (iN t)), x3, x4, none, x6, none] [] g' R ↔ R = (some (.int (iN 1)), g2)) ∧ xw g2 = lZ (lcF ps w (4 * ps.length))) ∧ (¬ lcF ps w (4 * ps.length) ≤ 71928000 → ∀ R, qEv (d + 4) 3 qk_96 17 [some (.ref 27), some (.ref (B 1)), some (.int (iN t)), x3, x4, none, x6, none] [] g' R ↔ R = (some (.int (iN 0)), g2)) := by
    intro m
    induction m with
    | zero =>
      intro t g' x3 x4 x6 ht q3 cg xg le
      have et : t = (cel bs i 1).length := by omega
      rw [et, Qn] at xg le
      obtain ⟨p2, q2, w2, e2, S2⟩ := bd cg
      have l1 := S2.cl (K := 1) (by decide)
      have sg := cg.sh
      refine ⟨g', cg, fun _ => ⟨fun R => ?_, xg⟩, fun z => absurd le z⟩
      rw [e96_17, et]
      simp (disch := first | assumption | omega) only [e96_0, e96_1, e96_2, e96_5, e96_6, e96_9, e96_12, e96_13, e96_14, e96_15, e96_16, e96_18, e96_19, e96_20, e96_23, e96_24, e96_26, e96_27, e96_30, e96_33, e96_36, e96_37, e96_38, e96_39, e96_40, e96_43, e96_46, e96_47, e96_48, e96_51, e96_54, e96_55, e96_56, e96_57, e96_58, e96_61, e96_63, e96_65, e96_66, e96_67, e96_68, e96_69, e96_70, e96_73, e96_75, e96_78, e96_81, e96_83, e96_84, e96_85, e96_88, e96_89, e96_92, e96_94, e96_97, e96_100, e96_102, e96_103, e96_106, e96_107, e96_110, e96_113, e96_114, e96_117, e96_118, e96_119, e96_122, e96_125, e96_128, e96_131, e96_132, m96, ↓reduceIte, qg_0, qg_1, qg_2, qg_3, qg_4, qg_5, qg_6, qg_7, qg_8, qg_9, qg_10, qg_11, qg_12, qg_13, not_true_eq_false, not_false_eq_true, Nat.reduceBEq, Bool.false_eq_true, ex1, ex3, ex4, exF, qfit_i, qfit_l, qfit_r, qfit_n, qfit_b0, qfit_b1, qcat_i, qcat_r, qcat_n, qcat_l, qroom_0, qroom_c, List.map_cons, List.map_nil, List.sum_cons, List.sum_nil, Nat.reduceAdd, Nat.reduceMul, Nat.reduceLT, Nat.reduceLeDiff, Nat.reduceEqDiff, Nat.reduceSub, decide_true, true_and, and_true, and_self, if_true, if_false, Option.toList_some, Option.toList_none, List.cons_append, List.nil_append, qsL, qlong, List.length_cons, List.length_nil, iN_L, exI, iN_add, iN_mul, iN_le, iN_lt, iN_eq, Nat.le_refl, qfN0, qfN1, uX_16, vX_16, uX_19, vX_19, uX_27, vX_27, uX_30, vX_30, uX_39, vX_39, uX_41, vX_41, uX_43, vX_43, uX_46, vX_46, uX_50, vX_50, uX_53, vX_53, uX_27, vX_27, l1]
    | succ m ih =>
      intro t g' x3 x4 x6 ht q3 cg xg le
      have ht' : t < (cel bs i 1).length := by omega
      obtain ⟨sg, Xg, vg⟩ := hand g' cg
      obtain ⟨p2, q2, w2, e2, S2⟩ := bd cg
      obtain ⟨⟨u16, ult, uF⟩, g0, g1, g2, g3, g4, g5, g6⟩ := S2.obj
      have l1 := S2.cl (K := 1) (by decide)
      have fr := vg.from sg
      obtain ⟨a, c, hac, hc, ey⟩ := P.edge ht'
      have ry := S2.ck (K := 1) (by decide) ht'
      rw [ey] at ry
      have r1 : ∀ R, qEv (d + 4) 3 qk_96 17 [some (.ref 27), some (.ref (B 1)), some (.int (iN t)), x3, x4, none, x6, none] [] g' R ↔ qEv (d + 4) 3 qk_96 25 [some (.ref 27), some (.ref (B 1)), some (.int (iN t)), some (.int (iN 0)), x4, none, x6, none] [] g' R := fun R => by
        rw [e96_17]
        simp (disch := first | assumption | omega) only [e96_0, e96_1, e96_2, e96_5, e96_6, e96_9, e96_12, e96_13, e96_14, e96_15, e96_16, e96_18, e96_19, e96_20, e96_23, e96_24, e96_26, e96_27, e96_30, e96_33, e96_36, e96_37, e96_38, e96_39, e96_40, e96_43, e96_46, e96_47, e96_48, e96_51, e96_54, e96_55, e96_56, e96_57, e96_58, e96_61, e96_63, e96_65, e96_66, e96_67, e96_68, e96_69, e96_70, e96_73, e96_75, e96_78, e96_81, e96_83, e96_84, e96_85, e96_88, e96_89, e96_92, e96_94, e96_97, e96_100, e96_102, e96_103, e96_106, e96_107, e96_110, e96_113, e96_114, e96_117, e96_118, e96_119, e96_122, e96_125, e96_128, e96_131, e96_132, m96, ↓reduceIte, qg_0, qg_1, qg_2, qg_3, qg_4, qg_5, qg_6, qg_7, qg_8, qg_9, qg_10, qg_11, qg_12, qg_13, not_true_eq_false, not_false_eq_true, Nat.reduceBEq, Bool.false_eq_true, ex1, ex3, ex4, exF, qfit_i, qfit_l, qfit_r, qfit_n, qfit_b0, qfit_b1, qcat_i, qcat_r, qcat_n, qcat_l, qroom_0, qroom_c, List.map_cons, List.map_nil, List.sum_cons, List.sum_nil, Nat.reduceAdd, Nat.reduceMul, Nat.reduceLT, Nat.reduceLeDiff, Nat.reduceEqDiff, Nat.reduceSub, decide_true, true_and, and_true, and_self, if_true, if_false, Option.toList_some, Option.toList_none, List.cons_append, List.nil_append, qsL, qlong, List.length_cons, List.length_nil, iN_L, exI, iN_add, iN_mul, iN_le, iN_lt, iN_eq, Nat.le_refl, qfN0, qfN1, uX_16, vX_16, uX_19, vX_19, uX_27, vX_27, uX_30, vX_30, uX_39, vX_39, uX_41, vX_41, uX_43, vX_43, uX_46, vX_46, uX_50, vX_50, uX_53, vX_53, uX_27, vX_27, l1, show ¬ (cel bs i 1).length ≤ t by omega, q3]
      by_cases cr : crs lv (2 ^ a ||| 2 ^ c)
      · obtain ⟨q1, q2', q3'⟩ := cut_at (kp := kp) ht' hac (show c < 16 by omega) ey cr
        rw [← eps, ← en1] at q1 q2'
        have eQt : Q t = n1 + (edL bs i lv ((cel bs i 1).take t)).length := by rw [eQ]
        have eQs : Q (t + 1) = Q t + 1 := by rw [eQ]; show n1 + _ = n1 + _ + 1; rw [q3']; omega
        rw [← eQt] at q1 q2'
        have tl := tail (Q t) a c (by omega) hc q1 q2'
        rcases axis t a c (Q t) (dmn bs i) 0 g' x4 x6 ht' hac hc ey cr q1 q2' (Nat.zero_add _) cg (by rw [Nat.add_zero]; exact xg) (by rw [Nat.add_zero]; exact le) with ⟨g2', z1, z2, z3⟩ | ⟨g2', y4, y6, z1, z2, z3, z4⟩
        · refine ⟨g2', z1, fun y => ?_, fun _ R => (r1 R).trans (z3 R)⟩
          have := lcF_le hb (w := w) (show 4 * Q t + dmn bs i ≤ 4 * ps.length by omega) (Nat.le_refl _)
          omega
        · obtain ⟨g3x, b1, b2, b3⟩ := ih (t + 1) g2' (some (.int (iN (dmn bs i)))) y4 y6 (by omega) rfl z1 (by rw [eQs, tl]; exact z3) (by rw [eQs, tl]; exact z2)
          have s2 := z1.sh
          have r2 : ∀ R, qEv (d + 4) 3 qk_96 125 [some (.ref 27), some (.ref (B 1)), some (.int (iN t)), some (.int (iN (dmn bs i))), y4, none, y6, none] [] g2' R ↔ qEv (d + 4) 3 qk_96 17 [some (.ref 27), some (.ref (B 1)), some (.int (iN (t + 1))), some (.int (iN (dmn bs i))), y4, none, y6, none] [] g2' R := fun R => by
            rw [e96_125]
            simp (disch := first | assumption | omega) only [e96_0, e96_1, e96_2, e96_5, e96_6, e96_9, e96_12, e96_13, e96_14, e96_15, e96_16, e96_18, e96_19, e96_20, e96_23, e96_24, e96_26, e96_27, e96_30, e96_33, e96_36, e96_37, e96_38, e96_39, e96_40, e96_43, e96_46, e96_47, e96_48, e96_51, e96_54, e96_55, e96_56, e96_57, e96_58, e96_61, e96_63, e96_65, e96_66, e96_67, e96_68, e96_69, e96_70, e96_73, e96_75, e96_78, e96_81, e96_83, e96_84, e96_85, e96_88, e96_89, e96_92, e96_94, e96_97, e96_100, e96_102, e96_103, e96_106, e96_107, e96_110, e96_113, e96_114, e96_117, e96_118, e96_119, e96_122, e96_128, e96_131, e96_132, m96, ↓reduceIte, qg_0, qg_1, qg_2, qg_3, qg_4, qg_5, qg_6, qg_7, qg_8, qg_9, qg_10, qg_11, qg_12, qg_13, not_true_eq_false, not_false_eq_true, Nat.reduceBEq, Bool.false_eq_true, ex1, ex3, ex4, exF, qfit_i, qfit_l, qfit_r, qfit_n, qfit_b0, qfit_b1, qcat_i, qcat_r, qcat_n, qcat_l, qroom_0, qroom_c, List.map_cons, List.map_nil, List.sum_cons, List.sum_nil, Nat.reduceAdd, Nat.reduceMul, Nat.reduceLT, Nat.reduceLeDiff, Nat.reduceEqDiff, Nat.reduceSub, decide_true, true_and, and_true, and_self, if_true, if_false, Option.toList_some, Option.toList_none, List.cons_append, List.nil_append, qsL, qlong, List.length_cons, List.length_nil, iN_L, exI, iN_add, iN_mul, iN_le, iN_lt, iN_eq, Nat.le_refl, qfN0, qfN1, uX_16, vX_16, uX_19, vX_19, uX_27, vX_27, uX_30, vX_30, uX_39, vX_39, uX_41, vX_41, uX_43, vX_43, uX_46, vX_46, uX_50, vX_50, uX_53, vX_53]
          exact ⟨g3x, b1, fun y => ⟨fun R => ((r1 R).trans (z4 R)).trans ((r2 R).trans ((b2 y).1 R)), (b2 y).2⟩, fun y R => ((r1 R).trans (z4 R)).trans ((r2 R).trans (b3 y R))⟩
      · have eQs : Q (t + 1) = Q t := by rw [eQ]; show n1 + _ = n1 + _; rw [cut_no ht' (by rw [ey]; exact cr)]
        obtain ⟨g3x, b1, b2, b3⟩ := ih (t + 1) g' (some (.int (iN 0))) x4 x6 (by omega) rfl cg (by rw [eQs]; exact xg) (by rw [eQs]; exact le)
        have ic : ∀ R, qMC (d + 4) 92 [.ref 27, .int (iN (2 ^ a ||| 2 ^ c))] g' R ↔ R = (some (.int (iN 0)), g') := fun R => by
          have := x_isCrossed (d := d + 1) (R := R) sg vg n16 hac hc
          rw [tB_f cr, bN_f] at this; exact this
        have r2 : ∀ R, qEv (d + 4) 3 qk_96 25 [some (.ref 27), some (.ref (B 1)), some (.int (iN t)), some (.int (iN 0)), x4, none, x6, none] [] g' R ↔ qEv (d + 4) 3 qk_96 17 [some (.ref 27), some (.ref (B 1)), some (.int (iN (t + 1))), some (.int (iN 0)), x4, none, x6, none] [] g' R := fun R => by
          rw [e96_25]
          simp (disch := first | assumption | omega) only [e96_0, e96_1, e96_2, e96_5, e96_6, e96_9, e96_12, e96_13, e96_14, e96_15, e96_16, e96_18, e96_19, e96_20, e96_23, e96_24, e96_26, e96_27, e96_30, e96_33, e96_36, e96_37, e96_38, e96_39, e96_40, e96_43, e96_46, e96_47, e96_48, e96_51, e96_54, e96_55, e96_56, e96_57, e96_58, e96_61, e96_63, e96_65, e96_66, e96_67, e96_68, e96_69, e96_70, e96_73, e96_75, e96_78, e96_81, e96_83, e96_84, e96_85, e96_88, e96_89, e96_92, e96_94, e96_97, e96_100, e96_102, e96_103, e96_106, e96_107, e96_110, e96_113, e96_114, e96_117, e96_118, e96_119, e96_122, e96_125, e96_128, e96_131, e96_132, m96, ↓reduceIte, qg_0, qg_1, qg_2, qg_3, qg_4, qg_5, qg_6, qg_7, qg_8, qg_9, qg_10, qg_11, qg_12, qg_13, not_true_eq_false, not_false_eq_true, Nat.reduceBEq, Bool.false_eq_true, ex1, ex3, ex4, exF, qfit_i, qfit_l, qfit_r, qfit_n, qfit_b0, qfit_b1, qcat_i, qcat_r, qcat_n, qcat_l, qroom_0, qroom_c, List.map_cons, List.map_nil, List.sum_cons, List.sum_nil, Nat.reduceAdd, Nat.reduceMul, Nat.reduceLT, Nat.reduceLeDiff, Nat.reduceEqDiff, Nat.reduceSub, decide_true, true_and, and_true, and_self, if_true, if_false, Option.toList_some, Option.toList_none, List.cons_append, List.nil_append, qsL, qlong, List.length_cons, List.length_nil, iN_L, exI, iN_add, iN_mul, iN_le, iN_lt, iN_eq, Nat.le_refl, qfN0, qfN1, uX_16, vX_16, uX_19, vX_19, uX_27, vX_27, uX_30, vX_30, uX_39, vX_39, uX_41, vX_41, uX_43, vX_43, uX_46, vX_46, uX_50, vX_50, uX_53, vX_53, uX_27, vX_27, fr, u16, ult, uF, g0, g1, g2, g3, g4, g5, g6, show ¬ dmn bs i ≤ 0 by omega, ry, ic]
        exact ⟨g3x, b1, fun y => ⟨fun R => (r1 R).trans ((r2 R).trans ((b2 y).1 R)), (b2 y).2⟩, fun y R => (r1 R).trans ((r2 R).trans (b3 y R))⟩
  obtain ⟨⟨u16, ult, uF⟩, g0, g1, g2, g3, g4, g5, g6⟩ := S.obj
  have fr := v.from s
  have cc := S.ce (K := 1) (by decide)
  obtain ⟨h0, e0⟩ : ∃ h0, h0 = xV h 27 3 (.long (lZ 1)) := ⟨_, rfl⟩
  have p0 : qput h 27 7 3 (.long (lZ 1)) = some h0 := by rw [e0]; exact pX_27_3 s
  have c0 : ChX [] [(27, 3)] 0 h h0 := by rw [e0]; exact ChX.setS s (by decide)
  have x0 : xw h0 = lZ 1 := by rw [e0]; unfold xw; rw [hf_xV, if_pos ⟨rfl, rfl⟩]; rfl
  obtain ⟨s0, X0, v0⟩ := hand h0 c0
  obtain ⟨p2, q2, w2, e2, S2⟩ := bd c0
  obtain ⟨⟨u16', ult', uF'⟩, g0', g1', g2', g3', g4', g5', g6'⟩ := S2.obj
  have fr0 := v0.from s0
  have cc0 := S2.ce (K := 1) (by decide)
  obtain ⟨h1, b1, b2, b3⟩ := edges (cel bs i 1).length 0 h0 none none none (Nat.zero_add _) rfl c0 (by rw [Q0, L0]; exact x0) (by rw [Q0, L0]; decide)
  have r0 : ∀ R, qMC (d + 5) 96 [.ref 27] h R ↔ qEv (d + 4) 3 qk_96 17 [some (.ref 27), some (.ref (B 1)), some (.int (iN 0)), none, none, none, none, none] [] h0 R := fun R => by
    simp (disch := first | assumption | omega) only [e96_0, e96_1, e96_2, e96_5, e96_6, e96_9, e96_12, e96_13, e96_14, e96_15, e96_16, e96_18, e96_19, e96_20, e96_23, e96_24, e96_25, e96_26, e96_27, e96_30, e96_33, e96_36, e96_37, e96_38, e96_39, e96_40, e96_43, e96_46, e96_47, e96_48, e96_51, e96_54, e96_55, e96_56, e96_57, e96_58, e96_61, e96_63, e96_65, e96_66, e96_67, e96_68, e96_69, e96_70, e96_73, e96_75, e96_78, e96_81, e96_83, e96_84, e96_85, e96_88, e96_89, e96_92, e96_94, e96_97, e96_100, e96_102, e96_103, e96_106, e96_107, e96_110, e96_113, e96_114, e96_117, e96_118, e96_119, e96_122, e96_125, e96_128, e96_131, e96_132, m96, ↓reduceIte, qg_0, qg_1, qg_2, qg_3, qg_4, qg_5, qg_6, qg_7, qg_8, qg_9, qg_10, qg_11, qg_12, qg_13, not_true_eq_false, not_false_eq_true, Nat.reduceBEq, Bool.false_eq_true, ex1, ex3, ex4, exF, qfit_i, qfit_l, qfit_r, qfit_n, qfit_b0, qfit_b1, qcat_i, qcat_r, qcat_n, qcat_l, qroom_0, qroom_c, List.map_cons, List.map_nil, List.sum_cons, List.sum_nil, Nat.reduceAdd, Nat.reduceMul, Nat.reduceLT, Nat.reduceLeDiff, Nat.reduceEqDiff, Nat.reduceSub, decide_true, true_and, and_true, and_self, if_true, if_false, Option.toList_some, Option.toList_none, List.cons_append, List.nil_append, qsL, qlong, List.length_cons, List.length_nil, iN_L, exI, iN_add, iN_mul, iN_le, iN_lt, iN_eq, Nat.le_refl, qfN0, qfN1, uX_16, vX_16, uX_19, vX_19, uX_27, vX_27, uX_30, vX_30, uX_39, vX_39, uX_41, vX_41, uX_43, vX_43, uX_46, vX_46, uX_50, vX_50, uX_53, vX_53, uX_27, vX_27, show (1 : Int64) = lZ 1 from rfl, p0, fr0, u16', ult', uF', g0', g1', g2', g3', g4', g5', g6', cc0, rf_some]
  exact ⟨h1, b1, fun y => ⟨fun R => (r0 R).trans ((b2 y).1 R), (b2 y).2⟩, fun y R => (r0 R).trans (b3 y R)⟩
end XSCALE

/-! ===== THE CLASS: all cells of a new body ===== -/
section XALL
variable {d D : Nat} {h h' : qH} {R : qRes} {l : List pt4} {A : List Nat} {J : List (Nat × Nat)} {k : Nat}
theorem no_XO {a : Nat} (ha : 97 ≤ a) : a ∉ XO := fun z => by have := (by decide : ∀ x ∈ XO, x < 97) a z; omega
theorem NwL.ch {e : Nat} {L : List Nat} (v : NwL h e L) (c : ChX A J k h h') (he : e ∉ A) : NwL h' e L := by
  obtain ⟨v1, v2, v3⟩ := v
  have e1 := c.at he (no_XO v1) v2.1.2.2
  exact ⟨v1, v2.sm c.1.2.1 e1, fun t ht => by rw [hi_at e1]; exact v3 t ht⟩
/-- cells below K stand in row q -/
def AcP (h : qH) (q : Nat) (C : Nat → List Nat) (K : Nat) : Prop := 97 ≤ q ∧ kR h 3 q 4 ∧ ∀ t, t < K → ∃ e, hr h q t = some e ∧ NwL h e (C t)
theorem kR_kI {a t n m : Nat} (k1 : kR h t a n) (k2 : kI h a m) : False := by
  obtain ⟨f, e⟩ := k1.2; obtain ⟨g, e'⟩ := k2.2; rw [e] at e'; cases e'
theorem AcP.ch {q K : Nat} {C : Nat → List Nat} (v : AcP h q C K) (c : ChX A J k h h') (hA : ∀ x ∈ A, x < 97) : AcP h' q C K := by
  obtain ⟨v1, v2, v3⟩ := v
  have nA : ∀ x, 97 ≤ x → x ∉ A := fun x hx z => by have := hA x z; omega
  have e1 := c.at (nA q v1) (no_XO v1) v2.1.2.2
  refine ⟨v1, v2.sm c.1.2.1 e1, fun t ht => ?_⟩
  obtain ⟨e, w1, w2⟩ := v3 t ht
  exact ⟨e, by rw [hr_at e1]; exact w1, w2.ch c (nA e w2.1)⟩
/-- a cell behind the class's own gets new contents -/
theorem ChX.cell {a : Nat} {c : qC} (s : ShX h) (ha : 97 ≤ a) (hA : a ∈ A) : ChX A J k h (qup h.1 a c, h.2) := by
  have o : ∀ x, x < 97 → (qup h.1 a c) x = h.1 x := fun x hx => by show (if x = a then c else h.1 x) = _; rw [if_neg (by omega)]
  have l : h.2.1 ≤ ((qup h.1 a c, h.2) : qH).2.1 := Nat.le_refl _
  refine ⟨⟨?_, l, by show h.2.1 ≤ _; omega, by show h.2.2 ≤ _; omega⟩, fun b hb _ _ => ?_, o 0 (by decide), fun b hb j _ => ?_⟩
  · obtain ⟨s1, s2, s3, s4, s5, s6, s7, s8⟩ := s
    refine ⟨fun q hq => (s1 q hq).sm l (o _ ((by decide : ∀ q ∈ XOs, q.1 < 97) q hq)), fun q hq => (s2 q hq).sm l (o _ ((by decide : ∀ q ∈ XIs, q.1 < 97) q hq)), fun q hq => (s3 q hq).sm l (o _ ((by decide : ∀ q ∈ XLs, q.1 < 97) q hq)), s4.sm l (o _ (by decide)), fun q hq => ?_, fun q hq => ?_, ?_, s8⟩
    · rw [hf_at (h := h) (h' := (qup h.1 a c, h.2)) (o _ ((by decide : ∀ q ∈ XFs, q.1 < 97) q hq))]; exact s5 q hq
    · rw [hf_at (h := h) (h' := (qup h.1 a c, h.2)) (o _ ((by decide : ∀ q ∈ XJs, q.1 < 97) q hq))]; exact s6 q hq
    · rw [hf_at (h := h) (h' := (qup h.1 a c, h.2)) (o 27 (by decide))]; exact s7
  · show (if b = a then c else h.1 b) = _
    rw [if_neg (fun e => hb (by rw [e]; exact hA))]
  · rw [hf_at (h := h) (h' := (qup h.1 a c, h.2)) (o b ((by decide : ∀ x ∈ XO, x < 97) b hb))]
theorem hr_of {h : qH} {q t n : Nat} {g : Nat → Option Nat} (e : h.1 q = .inl (t, n, .inr (.inr g))) : hr h q = g := by unfold hr; rw [e]
/-- a row of ints is put into the row of rows -/
theorem AcP.put {q K e : Nat} {C : Nat → List Nat} (s : ShX h) (v : AcP h q C K) (hK : K < 4) (w : NwL h e (C K)) : ∃ h', qaast h q (iN K) e = some h' ∧ ChX [q] [] 0 h h' ∧ AcP h' q C (K + 1) := by
  obtain ⟨v1, v2, v3⟩ := v
  obtain ⟨h', eh⟩ : ∃ h' : qH, h' = (qup h.1 q (.inl (3, 4, .inr (.inr (va_up (hr h q) K (some e))))), h.2) := ⟨_, rfl⟩
  have c : ChX [q] [] 0 h h' := by rw [eh]; exact ChX.cell s v1 (List.mem_singleton.mpr rfl)
  have run : qaast h q (iN K) e = some h' := by
    have e1 := v2.val
    obtain ⟨g, e2⟩ := w.2.1.2
    unfold qaast
    rw [if_pos ⟨⟨v2.1.2.1, v2.1.2.2⟩, ⟨w.2.1.1.2.1, w.2.1.1.2.2⟩⟩, e1, e2]
    show (if iN K < 0 ∨ 4 ≤ (iN K).toNatClampNeg then none else some (qup h.1 q (.inl (3, 4, .inr (.inr (va_up (hr h q) (iN K).toNatClampNeg (some e))))), h.2)) = _
    rw [iN_nat (by omega), if_neg (fun z => by
      rcases z with z | z
      · rw [show (0 : Int32) = iN 0 from rfl, iN_lt (by omega) (by omega)] at z; omega
      · omega), eh]
  have at' : h'.1 q = .inl (3, 4, .inr (.inr (va_up (hr h q) K (some e)))) := by rw [eh]; show (if q = q then _ else _) = _; rw [if_pos rfl]
  have hr' : hr h' q = va_up (hr h q) K (some e) := hr_of at'
  have kr' : kR h' 3 q 4 := ⟨⟨v2.1.1, v2.1.2.1, by rw [eh]; exact v2.1.2.2⟩, _, at'⟩
  have nq : ∀ x n, kI h x n → x ∉ [q] := fun x n kx z => by rw [List.mem_singleton.mp z] at kx; exact kR_kI v2 kx
  refine ⟨h', run, c, v1, kr', fun t ht => ?_⟩
  rw [hr']
  have eu : va_up (hr h q) K (some e) t = if t = K then some e else hr h q t := rfl
  rw [eu]
  by_cases z : t = K
  · rw [if_pos z, z]
    exact ⟨e, rfl, w.ch c (nq e _ w.2.1)⟩
  · rw [if_neg z]
    obtain ⟨e', w1, w2⟩ := v3 t (by omega)
    exact ⟨e', w1, w2.ch c (nq e' _ w2.2.1)⟩
theorem AcP.get {q K t : Nat} {C : Nat → List Nat} (v : AcP h q C K) (ht : t < K) (hK : K ≤ 4) : ∃ e, qaald h q (iN t) = some (some e) ∧ NwL h e (C t) := by
  obtain ⟨v1, v2, v3⟩ := v
  obtain ⟨e, w1, w2⟩ := v3 t ht
  exact ⟨e, by rw [rdR v2 (Or.inr rfl) (by omega), w1], w2⟩
theorem kR_new {n m : Nat} {g : Nat → Option Nat} (hn : n < 2147483648) (s : ShX h) : kR (qnew h (.inl (3, n, .inr (.inr g))) m) 3 h.2.1 n ∧ hr (qnew h (.inl (3, n, .inr (.inr g))) m) h.2.1 = g := by
  have e : (qnew h (.inl (3, n, .inr (.inr g))) m).1 h.2.1 = .inl (3, n, .inr (.inr g)) := by rw [at_new, if_pos rfl]
  refine ⟨⟨⟨hn, by have := s.lt (show 96 < 97 by decide); omega, by show h.2.1 < h.2.1 + 1; omega⟩, g, e⟩, ?_⟩
  unfold hr; rw [e]
/-- new ints, all 0, none -/
theorem NwL.empty (s : ShX h) : NwL (qnew h (.inl (0, 0, .inl fun _ => iN 0)) 0) h.2.1 [] ∧ ChX A J 1 h (qnew h (.inl (0, 0, .inl fun _ => iN 0)) 0) := by
  obtain ⟨k1, k2⟩ := kI_new (h := h) (n := 0) (m := 0) (g := fun _ => iN 0) (by decide) s
  exact ⟨⟨ge97 s, k1, fun t ht => absurd ht (Nat.not_lt_zero t)⟩, ChX.new s (Nat.le_refl _) (by decide)⟩
theorem ChX.up {k2 : Nat} {A' : List Nat} (c : ChX A J k h h') (hA : ∀ x ∈ A, x ∈ A') (hk : k ≤ k2) : ChX A' J k2 h h' := c.mono hA (fun _ z => z) hk
set_option maxRecDepth 100000 in
set_option maxHeartbeats 32000000 in
theorem x_allCells {r m : Nat} {S : Nat → Nat} {G : Nat → Nat → Int} (s : ShX h) (ok : okP l D) (b : bdG l D m S G) (hd : xi h 19 3 = iN D) (m104 : m ≤ 104) (w : NwL h r ((List.range m).map (fcs l D S))) (so : ((List.range m).map (fcs l D S)).Pairwise (· < ·)) : ∃ h' q, (∀ R, qMC (d + 4) 39 [.ref 19, .int (iN (ncr l D)), .ref r] h R ↔ R = (some (.ref q), h')) ∧ ChX [26] [] 8 h h' ∧ h.2.1 ≤ q ∧ AcP h' q (cls l D) 4 := by
  have hD := ok.2.2.2.2
  have h16 := b.n16
  have nc := b.nc
  have fm : ∀ j, j < m → ((List.range m).map (fcs l D S)).getD j 0 = fcs l D S j := fun j hj => rng_at hj
  have lenm : ((List.range m).map (fcs l D S)).length = m := by rw [List.length_map, List.length_range]
  have eF : cls l D (D - 1) = (List.range m).map (fcs l D S) := b.cls_eq so fun x => by
    rw [List.mem_map]
    constructor
    · rintro ⟨j, hj, rfl⟩; exact Or.inl ⟨rfl, b.fcI.mpr ⟨j, List.mem_range.mp hj, rfl⟩⟩
    · rintro (⟨-, z⟩ | ⟨z, -⟩)
      · obtain ⟨j, hj, e⟩ := b.fcI.mp z; exact ⟨j, List.mem_range.mpr hj, e.symm⟩
      · omega
  have f16 : ∀ a, a < m → fcs l D S a < 65536 := fun a ha => b.cl_16 (K := D - 1) (Or.inl ⟨rfl, b.fcI.mpr ⟨a, ha, rfl⟩⟩)
  -- the row of rows, the corners
  obtain ⟨q, eq⟩ : ∃ q, q = h.2.1 := ⟨_, rfl⟩
  obtain ⟨h1, e1⟩ : ∃ h1, h1 = qnew h (.inl (3, 4, .inr (.inr fun _ => none))) 4 := ⟨_, rfl⟩
  obtain ⟨kq1, hq1⟩ := kR_new (h := h) (n := 4) (m := 4) (g := fun _ => none) (by decide) s
  rw [← e1] at kq1 hq1
  have c1 : ChX [26] [] 1 h h1 := by rw [e1]; exact ChX.new s (Nat.le_refl _) (by decide)
  have s1 := c1.sh
  have v1 : AcP h1 q (cls l D) 0 := ⟨by rw [eq]; exact ge97 s, by rw [eq]; exact kq1, fun t ht => absurd ht (Nat.not_lt_zero t)⟩
  obtain ⟨p, ep⟩ : ∃ p, p = h1.2.1 := ⟨_, rfl⟩
  obtain ⟨h2, e2⟩ : ∃ h2, h2 = qnew h1 (.inl (0, ncr l D, .inl fun _ => iN 0)) (ncr l D) := ⟨_, rfl⟩
  obtain ⟨kp2, hp2⟩ := kI_new (h := h1) (n := ncr l D) (m := ncr l D) (g := fun _ => iN 0) (by omega) s1
  rw [← e2, ← ep] at kp2 hp2
  have c2' : ChX [26] [] 1 h1 h2 := by rw [e2]; exact ChX.new s1 (Nat.le_refl _) (by omega)
  have s2 := c2'.sh
  have qp : q < p := by rw [eq, ep, e1]; show h.2.1 < h.2.1 + 1; omega
  -- stored, then filled: as if filled first
  have e0 := b.cls0 ok
  have l0 : (cls l D 0).length = ncr l D := by rw [e0, List.length_map, List.length_range]
  have a0 : ∀ c, c < ncr l D → (cls l D 0).getD c 0 = 2 ^ c := fun c hc => by rw [e0]; exact rng_at hc
  have v2 : AcP h2 q (cls l D) 0 := v1.ch c2' (by decide)
  -- put a row that is not filled yet: the relation without contents
  obtain ⟨h3, e3⟩ : ∃ h3 : qH, h3 = (qup h2.1 q (.inl (3, 4, .inr (.inr (va_up (hr h2 q) 0 (some p))))), h2.2) := ⟨_, rfl⟩
  have st3 : qaast h2 q (iN 0) p = some h3 := by
    have q1 := v2.2.1.val
    obtain ⟨g, q2⟩ := kp2.2
    unfold qaast
    rw [if_pos ⟨⟨v2.2.1.1.2.1, v2.2.1.1.2.2⟩, ⟨kp2.1.2.1, kp2.1.2.2⟩⟩, q1, q2]
    show (if iN 0 < 0 ∨ 4 ≤ (iN 0).toNatClampNeg then none else some (qup h2.1 q (.inl (3, 4, .inr (.inr (va_up (hr h2 q) (iN 0).toNatClampNeg (some p))))), h2.2)) = _
    rw [iN_nat (by omega), if_neg (fun z => by
      rcases z with z | z
      · rw [show (0 : Int32) = iN 0 from rfl, iN_lt (by omega) (by omega)] at z; omega
      · omega), e3]
  have c3' : ChX [q] [] 0 h2 h3 := by rw [e3]; exact ChX.cell s2 v2.1 (List.mem_singleton.mpr rfl)
  have s3 := c3'.sh
  have p97 : 97 ≤ p := by have := v2.1; omega
  have kp3 : kI h3 p (ncr l D) := kp2.sm c3'.1.2.1 (c3'.at (fun z => by have := List.mem_singleton.mp z; omega) (no_XO p97) kp2.1.2.2)
  have at3 : h3.1 q = .inl (3, 4, .inr (.inr (va_up (hr h2 q) 0 (some p)))) := by rw [e3]; show (if q = q then _ else _) = _; rw [if_pos rfl]
  have kq3 : kR h3 3 q 4 := ⟨⟨v2.2.1.1.1, v2.2.1.1.2.1, by rw [e3]; exact v2.2.1.1.2.2⟩, _, at3⟩
  have hq3 : hr h3 q 0 = some p := by rw [hr_of at3]; rfl
  obtain ⟨Hc, eH⟩ : ∃ Hc : Nat → qH, Hc = fun c => sI h3 p (fun t => if t < c then iN (2 ^ t) else hi h3 p t) := ⟨_, rfl⟩
  have cH : ∀ c, ChX [p] [] 0 h3 (Hc c) := fun c => by rw [eH]; exact ChX.rowI s3 kp3 (List.mem_singleton.mpr rfl) (by omega)
  have sH : ∀ c, ShX (Hc c) := fun c => (cH c).sh
  have H0 : h3 = Hc 0 := by
    rw [eH]
    have : (fun t => if t < 0 then iN (2 ^ t) else hi h3 p t) = hi h3 p := by funext t; rw [if_neg (Nat.not_lt_zero t)]
    show h3 = sI h3 p (fun t => if t < 0 then iN (2 ^ t) else hi h3 p t)
    rw [this, sI_id kp3]
  have kpc : ∀ c, kI (Hc c) p (ncr l D) := fun c => by rw [eH]; exact (hKd_sI kp3).2.1 _ _ kp3
  have kqc : ∀ c, kR (Hc c) 3 q 4 ∧ hr (Hc c) q = hr h3 q := fun c => by
    have ea := (cH c).at (b := q) (fun z => by have := List.mem_singleton.mp z; omega) (no_XO v2.1) kq3.1.2.2
    exact ⟨kq3.sm (cH c).1.2.1 ea, hr_at ea⟩
  have r0 : ∀ R, qMC (d + 4) 39 [.ref 19, .int (iN (ncr l D)), .ref r] h R ↔ qEv (d + 3) 2 qk_39 14 [some (.ref 19), some (.int (iN (ncr l D))), some (.ref r), some (.ref q), some (.int (iN 0))] [] (Hc 0) R := fun R => by
    obtain ⟨z1, z2⟩ := nN 4 (by decide)
    obtain ⟨z3, z4⟩ := nN (ncr l D) (by omega)
    rw [← H0]
    simp (disch := first | assumption | omega) only [e39_0, e39_1, e39_4, e39_5, e39_6, e39_7, e39_8, e39_10, e39_11, e39_12, e39_16, e39_17, e39_20, e39_21, e39_22, e39_23, e39_25, e39_26, e39_28, e39_29, e39_30, e39_33, e39_36, e39_37, e39_38, e39_39, e39_42, e39_43, e39_46, e39_47, e39_50, e39_51, e39_52, e39_53, e39_56, e39_57, e39_58, e39_59, e39_60, e39_63, e39_64, e39_67, e39_68, e39_71, e39_72, e39_75, e39_76, e39_79, e39_80, e39_81, e39_84, e39_87, e39_88, e39_90, e39_91, e39_92, e39_93, e39_94, e39_97, e39_98, e39_101, e39_102, e39_105, e39_106, e39_108, e39_109, e39_110, e39_110N, m39, ↓reduceIte, qg_0, qg_1, qg_2, qg_3, qg_4, qg_5, qg_6, qg_7, qg_8, qg_9, qg_10, qg_11, qg_12, qg_13, not_true_eq_false, not_false_eq_true, Nat.reduceBEq, Bool.false_eq_true, ex1, ex3, ex4, exF, qfit_i, qfit_l, qfit_r, qfit_n, qfit_b0, qfit_b1, qcat_i, qcat_r, qcat_n, qcat_l, qroom_0, qroom_c, List.map_cons, List.map_nil, List.sum_cons, List.sum_nil, Nat.reduceAdd, Nat.reduceMul, Nat.reduceLT, Nat.reduceLeDiff, Nat.reduceEqDiff, Nat.reduceSub, decide_true, true_and, and_true, and_self, if_true, if_false, Option.toList_some, Option.toList_none, List.cons_append, List.nil_append, qsL, qlong, List.length_cons, List.length_nil, iN_L, exI, iN_add, iN_mul, iN_le, iN_lt, iN_eq, Nat.le_refl, qfN0, qfN1, uX_16, vX_16, uX_19, vX_19, uX_27, vX_27, uX_30, vX_30, uX_39, vX_39, uX_41, vX_41, uX_43, vX_43, uX_46, vX_46, uX_50, vX_50, uX_53, vX_53, z1, z2, ← eq, ← e1, z3, z4, ← ep, ← e2, st3, or_self, or_false, false_or, show ¬ ncr l D < 0 by omega, show ¬ 1000000 < ncr l D by omega]
  have r1 : ∀ R, qMC (d + 4) 39 [.ref 19, .int (iN (ncr l D)), .ref r] h R ↔ qEv (d + 3) 2 qk_39 36 [some (.ref 19), some (.int (iN (ncr l D))), some (.ref r), some (.ref q), some (.int (iN (ncr l D)))] [] (Hc (ncr l D)) R := fun R => by
    rw [r0 R]
    refine Iff.trans (loop_up (n := ncr l D) (L := fun c => [some (.ref 19), some (.int (iN (ncr l D))), some (.ref r), some (.ref q), some (.int (iN c))]) (H := Hc) ?_) ?_
    · intro c hc
      try dsimp only
      have sc := sH c
      have rq : qaald (Hc c) q (iN 0) = some (some p) := by rw [rdR (kqc c).1 (Or.inr rfl) (by decide), (kqc c).2, hq3]
      have sh := iN_shl1 c (by omega)
      have wc : qiast (Hc c) p (iN c) (iN (2 ^ c)) = some (Hc (c + 1)) := by
        rw [wrI (kpc c) hc, eH]
        show some (sI (sI h3 p _) p (upd (hi (sI h3 p _) p) c (iN (2 ^ c)))) = _
        rw [sI_sI, hi_sI, if_pos rfl]
        congr 2
        funext t
        show (if t = c then iN (2 ^ c) else (if t < c then iN (2 ^ t) else hi h3 p t)) = _
        by_cases e : t = c
        · rw [if_pos e, if_pos (by omega), e]
        · rw [if_neg e]
          by_cases e2 : t < c
          · rw [if_pos e2, if_pos (by omega)]
          · rw [if_neg e2, if_neg (by omega)]
      rw [e39_14]
      simp (disch := first | assumption | omega) only [e39_0, e39_1, e39_4, e39_5, e39_6, e39_7, e39_8, e39_10, e39_11, e39_12, e39_16, e39_17, e39_20, e39_21, e39_22, e39_23, e39_25, e39_26, e39_28, e39_29, e39_30, e39_33, e39_37, e39_38, e39_39, e39_42, e39_43, e39_46, e39_47, e39_50, e39_51, e39_52, e39_53, e39_56, e39_57, e39_58, e39_59, e39_60, e39_63, e39_64, e39_67, e39_68, e39_71, e39_72, e39_75, e39_76, e39_79, e39_80, e39_81, e39_84, e39_87, e39_88, e39_90, e39_91, e39_92, e39_93, e39_94, e39_97, e39_98, e39_101, e39_102, e39_105, e39_106, e39_108, e39_109, e39_110, e39_110N, m39, ↓reduceIte, qg_0, qg_1, qg_2, qg_3, qg_4, qg_5, qg_6, qg_7, qg_8, qg_9, qg_10, qg_11, qg_12, qg_13, not_true_eq_false, not_false_eq_true, Nat.reduceBEq, Bool.false_eq_true, ex1, ex3, ex4, exF, qfit_i, qfit_l, qfit_r, qfit_n, qfit_b0, qfit_b1, qcat_i, qcat_r, qcat_n, qcat_l, qroom_0, qroom_c, List.map_cons, List.map_nil, List.sum_cons, List.sum_nil, Nat.reduceAdd, Nat.reduceMul, Nat.reduceLT, Nat.reduceLeDiff, Nat.reduceEqDiff, Nat.reduceSub, decide_true, true_and, and_true, and_self, if_true, if_false, Option.toList_some, Option.toList_none, List.cons_append, List.nil_append, qsL, qlong, List.length_cons, List.length_nil, iN_L, exI, iN_add, iN_mul, iN_le, iN_lt, iN_eq, Nat.le_refl, qfN0, qfN1, uX_16, vX_16, uX_19, vX_19, uX_27, vX_27, uX_30, vX_30, uX_39, vX_39, uX_41, vX_41, uX_43, vX_43, uX_46, vX_46, uX_50, vX_50, uX_53, vX_53, show ¬ ncr l D ≤ c by omega, rq, rf_some, sh, wc]
    · try dsimp only
      have sc := sH (ncr l D)
      rw [e39_14]
      simp (disch := first | assumption | omega) only [e39_0, e39_1, e39_4, e39_5, e39_6, e39_7, e39_8, e39_10, e39_11, e39_12, e39_16, e39_17, e39_20, e39_21, e39_22, e39_23, e39_25, e39_26, e39_28, e39_29, e39_30, e39_33, e39_37, e39_38, e39_39, e39_42, e39_43, e39_46, e39_47, e39_50, e39_51, e39_52, e39_53, e39_56, e39_57, e39_58, e39_59, e39_60, e39_63, e39_64, e39_67, e39_68, e39_71, e39_72, e39_75, e39_76, e39_79, e39_80, e39_81, e39_84, e39_87, e39_88, e39_90, e39_91, e39_92, e39_93, e39_94, e39_97, e39_98, e39_101, e39_102, e39_105, e39_106, e39_108, e39_109, e39_110, e39_110N, m39, ↓reduceIte, qg_0, qg_1, qg_2, qg_3, qg_4, qg_5, qg_6, qg_7, qg_8, qg_9, qg_10, qg_11, qg_12, qg_13, not_true_eq_false, not_false_eq_true, Nat.reduceBEq, Bool.false_eq_true, ex1, ex3, ex4, exF, qfit_i, qfit_l, qfit_r, qfit_n, qfit_b0, qfit_b1, qcat_i, qcat_r, qcat_n, qcat_l, qroom_0, qroom_c, List.map_cons, List.map_nil, List.sum_cons, List.sum_nil, Nat.reduceAdd, Nat.reduceMul, Nat.reduceLT, Nat.reduceLeDiff, Nat.reduceEqDiff, Nat.reduceSub, decide_true, true_and, and_true, and_self, if_true, if_false, Option.toList_some, Option.toList_none, List.cons_append, List.nil_append, qsL, qlong, List.length_cons, List.length_nil, iN_L, exI, iN_add, iN_mul, iN_le, iN_lt, iN_eq, Nat.le_refl, qfN0, qfN1, uX_16, vX_16, uX_19, vX_19, uX_27, vX_27, uX_30, vX_30, uX_39, vX_39, uX_41, vX_41, uX_43, vX_43, uX_46, vX_46, uX_50, vX_50, uX_53, vX_53]
  obtain ⟨h4, e4⟩ : ∃ h4, h4 = Hc (ncr l D) := ⟨_, rfl⟩
  rw [← e4] at r1
  have c4 : ChX [26] [] 2 h h4 := by
    have c3 : ChX [q, 26] [] 2 h h3 := ((c1.trans c2').up (A' := [q, 26]) (fun x hx => List.mem_cons_of_mem _ hx) (Nat.le_refl _)).trans (c3'.up (A' := [q, 26]) (fun x hx => by rw [List.mem_singleton.mp hx]; exact List.mem_cons_self) (Nat.le_refl 0))
    have c4' : ChX [p, q, 26] [] 2 h h4 := (c3.up (A' := [p, q, 26]) (fun x hx => List.mem_cons_of_mem _ hx) (Nat.le_refl _)).trans ((by rw [e4]; exact cH _ : ChX [p] [] 0 h3 h4).up (A' := [p, q, 26]) (fun x hx => by rw [List.mem_singleton.mp hx]; exact List.mem_cons_self) (Nat.le_refl 0))
    exact (c4'.drop (by omega)).drop (by omega)
  have s4 := c4.sh
  have v4 : AcP h4 q (cls l D) 1 := by
    refine ⟨v2.1, by rw [e4]; exact (kqc _).1, fun t ht => ?_⟩
    rw [show t = 0 by omega, e4, (kqc _).2, hq3]
    refine ⟨p, rfl, p97, by rw [l0]; exact kpc _, fun c hc => ?_⟩
    rw [l0] at hc
    rw [a0 c hc, eH]
    show hi (sI h3 p _) p c = _
    rw [hi_sI, if_pos rfl, if_pos hc]
  have w4 := w.ch c4 (fun z => by have := List.mem_singleton.mp z; have := w.1; omega)
  have d4 : xi h4 19 3 = iN D := (c4.xi (by decide) (by decide)).trans hd
  have hF4 : ∀ j, j < m → hi h4 r j = iN (fcs l D S j) ∧ fcs l D S j < 65536 := fun j hj => by
    have := w4.2.2 j (by rw [lenm]; exact hj)
    rw [fm j hj] at this
    exact ⟨this, f16 j hj⟩
  have kr4 : kI h4 r m := by have := w4.2.1; rw [lenm] at this; exact this
  have r26 : r ≠ 26 := by have := w.1; omega
  -- cells of 1
  have step1 : ∃ h5 x, (∀ R, qEv (d + 3) 2 qk_39 36 [some (.ref 19), some (.int (iN (ncr l D))), some (.ref r), some (.ref q), some (.int (iN (ncr l D)))] [] h4 R ↔ qEv (d + 3) 2 qk_39 57 [some (.ref 19), some (.int (iN (ncr l D))), some (.ref r), some (.ref q), some (.int (iN (ncr l D)))] [] h5 R) ∧ ChX [26] [] x h h5 ∧ x ≤ 4 ∧ AcP h5 q (cls l D) 2 := by
    by_cases d2 : D = 2
    · have w4' : NwL h4 r (cls l D 1) := by
        have : cls l D 1 = cls l D (D - 1) := by rw [d2]
        rw [this, eF]; exact w4
      obtain ⟨h5, p5, c5, v5⟩ := v4.put s4 (by decide) w4'
      refine ⟨h5, 2, fun R => ?_, (((c4.up (A' := [q, 26]) (fun x hx => List.mem_cons_of_mem _ hx) (Nat.le_refl _)).trans (c5.up (A' := [q, 26]) (fun x hx => by rw [List.mem_singleton.mp hx]; exact List.mem_cons_self) (Nat.le_refl 0))).drop (by omega)), by decide, v5⟩
      rw [e39_36]
      simp (disch := first | assumption | omega) only [e39_0, e39_1, e39_4, e39_5, e39_6, e39_7, e39_8, e39_10, e39_11, e39_12, e39_14, e39_16, e39_17, e39_20, e39_21, e39_22, e39_23, e39_25, e39_26, e39_28, e39_29, e39_30, e39_33, e39_36, e39_37, e39_38, e39_39, e39_42, e39_43, e39_46, e39_47, e39_50, e39_51, e39_52, e39_53, e39_56, e39_58, e39_59, e39_60, e39_63, e39_64, e39_67, e39_68, e39_71, e39_72, e39_75, e39_76, e39_79, e39_80, e39_81, e39_84, e39_87, e39_88, e39_90, e39_91, e39_92, e39_93, e39_94, e39_97, e39_98, e39_101, e39_102, e39_105, e39_106, e39_108, e39_109, e39_110, e39_110N, m39, ↓reduceIte, qg_0, qg_1, qg_2, qg_3, qg_4, qg_5, qg_6, qg_7, qg_8, qg_9, qg_10, qg_11, qg_12, qg_13, not_true_eq_false, not_false_eq_true, Nat.reduceBEq, Bool.false_eq_true, ex1, ex3, ex4, exF, qfit_i, qfit_l, qfit_r, qfit_n, qfit_b0, qfit_b1, qcat_i, qcat_r, qcat_n, qcat_l, qroom_0, qroom_c, List.map_cons, List.map_nil, List.sum_cons, List.sum_nil, Nat.reduceAdd, Nat.reduceMul, Nat.reduceLT, Nat.reduceLeDiff, Nat.reduceEqDiff, Nat.reduceSub, decide_true, true_and, and_true, and_self, if_true, if_false, Option.toList_some, Option.toList_none, List.cons_append, List.nil_append, qsL, qlong, List.length_cons, List.length_nil, iN_L, exI, iN_add, iN_mul, iN_le, iN_lt, iN_eq, Nat.le_refl, qfN0, qfN1, uX_16, vX_16, uX_19, vX_19, uX_27, vX_27, uX_30, vX_30, uX_39, vX_39, uX_41, vX_41, uX_43, vX_43, uX_46, vX_46, uX_50, vX_50, uX_53, vX_53, gX_19_3, d4, d2, p5]
    · obtain ⟨h5, e, r5, c5, le5, w5⟩ := x_edges (d := d) (nc := ncr l D) (F := fcs l D S) s4 kr4 r26 (no_XO w.1) (by omega) h16 (by omega) hF4
      have ed : edT (fun hi lo => decide (cmS (fcs l D S) (2 ^ hi ||| 2 ^ lo) m = some (2 ^ hi ||| 2 ^ lo))) (ncr l D) = cls l D 1 := by
        refine (b.cls_eq (edT_srt _ _) fun x => ?_).symm
        rw [edT_mem, b.cl1 ok (by omega)]
        have key : ∀ a c, a < c → c < ncr l D → (cmS (fcs l D S) (2 ^ c ||| 2 ^ a) m = some (2 ^ c ||| 2 ^ a) ↔ MeetP (isFc l D) (2 ^ a ||| 2 ^ c)) := fun a c h1 h2 => by
          rw [Nat.or_comm (2 ^ c), cmS_iff, ← b.mt]
          unfold mtF subF
          constructor
          · rintro ⟨⟨j, hj, hw⟩, hall⟩
            refine ⟨fun z => ?_, ⟨j, hj, wo_0i.mp hw⟩, fun t _ ht => hall t fun j' hj' hw' => ht j' hj' (wo_0i.mp hw')⟩
            have := pair_bit (a := a) (c := c) (x := a)
            rw [z, Nat.zero_testBit] at this
            exact Bool.false_ne_true (this.mpr (Or.inl rfl))
          · rintro ⟨-, ⟨j, hj, hs⟩, hall⟩
            refine ⟨⟨j, hj, wo_0i.mpr hs⟩, fun t ht => ?_⟩
            have ht' := ht j hj (wo_0i.mpr hs)
            exact hall t (bit16 (f16 j hj) ht') fun j' hj' hs' => ht j' hj' (wo_0i.mpr hs')
        constructor
        · rintro ⟨hg, lo, h1, h2, h3, h4⟩
          refine ⟨lo, hg, h1, h2, by rw [h4, Nat.or_comm], ?_⟩
          rw [h4, Nat.or_comm]
          exact (key lo hg h1 h2).mp (of_decide_eq_true h3)
        · rintro ⟨a, c, h1, h2, h3, h4⟩
          rw [h3] at h4
          exact ⟨c, a, h1, h2, decide_eq_true ((key a c h1 h2).mpr h4), by rw [h3, Nat.or_comm]⟩
      rw [ed] at w5
      have s5 := c5.sh
      have v5 := v4.ch c5 (by decide)
      obtain ⟨h6, p6, c6, v6⟩ := v5.put s5 (by decide) w5
      refine ⟨h6, 4, fun R => ?_, ((((c4.trans c5).up (A' := [q, 26]) (k2 := 4) (fun x hx => List.mem_cons_of_mem _ hx) (Nat.le_refl _)).trans (c6.up (A' := [q, 26]) (fun x hx => by rw [List.mem_singleton.mp hx]; exact List.mem_cons_self) (Nat.le_refl 0))).drop (by omega)), by decide, v6⟩
      rw [e39_36]
      simp (disch := first | assumption | omega) only [e39_0, e39_1, e39_4, e39_5, e39_6, e39_7, e39_8, e39_10, e39_11, e39_12, e39_14, e39_16, e39_17, e39_20, e39_21, e39_22, e39_23, e39_25, e39_26, e39_28, e39_29, e39_30, e39_33, e39_36, e39_37, e39_38, e39_39, e39_42, e39_43, e39_46, e39_47, e39_50, e39_51, e39_52, e39_53, e39_56, e39_58, e39_59, e39_60, e39_63, e39_64, e39_67, e39_68, e39_71, e39_72, e39_75, e39_76, e39_79, e39_80, e39_81, e39_84, e39_87, e39_88, e39_90, e39_91, e39_92, e39_93, e39_94, e39_97, e39_98, e39_101, e39_102, e39_105, e39_106, e39_108, e39_109, e39_110, e39_110N, m39, ↓reduceIte, qg_0, qg_1, qg_2, qg_3, qg_4, qg_5, qg_6, qg_7, qg_8, qg_9, qg_10, qg_11, qg_12, qg_13, not_true_eq_false, not_false_eq_true, Nat.reduceBEq, Bool.false_eq_true, ex1, ex3, ex4, exF, qfit_i, qfit_l, qfit_r, qfit_n, qfit_b0, qfit_b1, qcat_i, qcat_r, qcat_n, qcat_l, qroom_0, qroom_c, List.map_cons, List.map_nil, List.sum_cons, List.sum_nil, Nat.reduceAdd, Nat.reduceMul, Nat.reduceLT, Nat.reduceLeDiff, Nat.reduceEqDiff, Nat.reduceSub, decide_true, true_and, and_true, and_self, if_true, if_false, Option.toList_some, Option.toList_none, List.cons_append, List.nil_append, qsL, qlong, List.length_cons, List.length_nil, iN_L, exI, iN_add, iN_mul, iN_le, iN_lt, iN_eq, Nat.le_refl, qfN0, qfN1, uX_16, vX_16, uX_19, vX_19, uX_27, vX_27, uX_30, vX_30, uX_39, vX_39, uX_41, vX_41, uX_43, vX_43, uX_46, vX_46, uX_50, vX_50, uX_53, vX_53, gX_19_3, d4, d2, r5, p6]
  obtain ⟨h5, x5, r5, c5, x54, v5⟩ := step1
  have s5 := c5.sh
  have w5 := w.ch c5 (fun z => by have := List.mem_singleton.mp z; have := w.1; omega)
  have d5 : xi h5 19 3 = iN D := (c5.xi (by decide) (by decide)).trans hd
  have step2 : ∃ h6 x, (∀ R, qEv (d + 3) 2 qk_39 57 [some (.ref 19), some (.int (iN (ncr l D))), some (.ref r), some (.ref q), some (.int (iN (ncr l D)))] [] h5 R ↔ qEv (d + 3) 2 qk_39 91 [some (.ref 19), some (.int (iN (ncr l D))), some (.ref r), some (.ref q), some (.int (iN (ncr l D)))] [] h6 R) ∧ ChX [26] [] x h h6 ∧ x ≤ 6 ∧ AcP h6 q (cls l D) 3 := by
    have dc : D = 2 ∨ D = 3 ∨ D = 4 := by omega
    rcases dc with d2 | d2 | d2
    · obtain ⟨nw, cn⟩ := NwL.empty (A := [26]) (J := []) s5
      obtain ⟨h6, e6⟩ : ∃ h6, h6 = qnew h5 (.inl (0, 0, .inl fun _ => iN 0)) 0 := ⟨_, rfl⟩
      rw [← e6] at nw cn
      have ec : cls l D 2 = [] := b.cls_hi hD.1 (by omega)
      rw [← ec] at nw
      obtain ⟨h7, p7, c7, v7⟩ := (v5.ch cn (by decide)).put cn.sh (by decide) nw
      obtain ⟨z1, z2⟩ := nN 0 (by decide)
      refine ⟨h7, x5 + 1, fun R => ?_, ((((c5.trans cn).up (A' := [q, 26]) (k2 := x5 + 1) (fun x hx => List.mem_cons_of_mem _ hx) (Nat.le_refl _)).trans (c7.up (A' := [q, 26]) (fun x hx => by rw [List.mem_singleton.mp hx]; exact List.mem_cons_self) (Nat.le_refl 0))).drop (by omega)), by omega, v7⟩
      rw [e39_57]
      simp (disch := first | assumption | omega) only [e39_0, e39_1, e39_4, e39_5, e39_6, e39_7, e39_8, e39_10, e39_11, e39_12, e39_14, e39_16, e39_17, e39_20, e39_21, e39_22, e39_23, e39_25, e39_26, e39_28, e39_29, e39_30, e39_33, e39_36, e39_37, e39_38, e39_39, e39_42, e39_43, e39_46, e39_47, e39_50, e39_51, e39_52, e39_53, e39_56, e39_58, e39_59, e39_60, e39_63, e39_64, e39_67, e39_68, e39_71, e39_72, e39_75, e39_76, e39_79, e39_80, e39_81, e39_84, e39_87, e39_88, e39_90, e39_92, e39_93, e39_94, e39_97, e39_98, e39_101, e39_102, e39_105, e39_106, e39_108, e39_109, e39_110, e39_110N, m39, ↓reduceIte, qg_0, qg_1, qg_2, qg_3, qg_4, qg_5, qg_6, qg_7, qg_8, qg_9, qg_10, qg_11, qg_12, qg_13, not_true_eq_false, not_false_eq_true, Nat.reduceBEq, Bool.false_eq_true, ex1, ex3, ex4, exF, qfit_i, qfit_l, qfit_r, qfit_n, qfit_b0, qfit_b1, qcat_i, qcat_r, qcat_n, qcat_l, qroom_0, qroom_c, List.map_cons, List.map_nil, List.sum_cons, List.sum_nil, Nat.reduceAdd, Nat.reduceMul, Nat.reduceLT, Nat.reduceLeDiff, Nat.reduceEqDiff, Nat.reduceSub, decide_true, true_and, and_true, and_self, if_true, if_false, Option.toList_some, Option.toList_none, List.cons_append, List.nil_append, qsL, qlong, List.length_cons, List.length_nil, iN_L, exI, iN_add, iN_mul, iN_le, iN_lt, iN_eq, Nat.le_refl, qfN0, qfN1, uX_16, vX_16, uX_19, vX_19, uX_27, vX_27, uX_30, vX_30, uX_39, vX_39, uX_41, vX_41, uX_43, vX_43, uX_46, vX_46, uX_50, vX_50, uX_53, vX_53, gX_19_3, d5, d2, z1, z2, ← e6, p7, or_self]
    · have w5' : NwL h5 r (cls l D 2) := by
        have : cls l D 2 = cls l D (D - 1) := by rw [d2]
        rw [this, eF]; exact w5
      obtain ⟨h7, p7, c7, v7⟩ := v5.put s5 (by decide) w5'
      refine ⟨h7, x5, fun R => ?_, (((c5.up (A' := [q, 26]) (fun x hx => List.mem_cons_of_mem _ hx) (Nat.le_refl _)).trans (c7.up (A' := [q, 26]) (fun x hx => by rw [List.mem_singleton.mp hx]; exact List.mem_cons_self) (Nat.le_refl 0))).drop (by omega)), by omega, v7⟩
      rw [e39_57]
      simp (disch := first | assumption | omega) only [e39_0, e39_1, e39_4, e39_5, e39_6, e39_7, e39_8, e39_10, e39_11, e39_12, e39_14, e39_16, e39_17, e39_20, e39_21, e39_22, e39_23, e39_25, e39_26, e39_28, e39_29, e39_30, e39_33, e39_36, e39_37, e39_38, e39_39, e39_42, e39_43, e39_46, e39_47, e39_50, e39_51, e39_52, e39_53, e39_56, e39_58, e39_59, e39_60, e39_63, e39_64, e39_67, e39_68, e39_71, e39_72, e39_75, e39_76, e39_79, e39_80, e39_81, e39_84, e39_87, e39_88, e39_90, e39_92, e39_93, e39_94, e39_97, e39_98, e39_101, e39_102, e39_105, e39_106, e39_108, e39_109, e39_110, e39_110N, m39, ↓reduceIte, qg_0, qg_1, qg_2, qg_3, qg_4, qg_5, qg_6, qg_7, qg_8, qg_9, qg_10, qg_11, qg_12, qg_13, not_true_eq_false, not_false_eq_true, Nat.reduceBEq, Bool.false_eq_true, ex1, ex3, ex4, exF, qfit_i, qfit_l, qfit_r, qfit_n, qfit_b0, qfit_b1, qcat_i, qcat_r, qcat_n, qcat_l, qroom_0, qroom_c, List.map_cons, List.map_nil, List.sum_cons, List.sum_nil, Nat.reduceAdd, Nat.reduceMul, Nat.reduceLT, Nat.reduceLeDiff, Nat.reduceEqDiff, Nat.reduceSub, decide_true, true_and, and_true, and_self, if_true, if_false, Option.toList_some, Option.toList_none, List.cons_append, List.nil_append, qsL, qlong, List.length_cons, List.length_nil, iN_L, exI, iN_add, iN_mul, iN_le, iN_lt, iN_eq, Nat.le_refl, qfN0, qfN1, uX_16, vX_16, uX_19, vX_19, uX_27, vX_27, uX_30, vX_30, uX_39, vX_39, uX_41, vX_41, uX_43, vX_43, uX_46, vX_46, uX_50, vX_50, uX_53, vX_53, gX_19_3, d5, d2, p7]
    · subst d2
      have kr5 : kI h5 r m := by have := w5.2.1; rw [lenm] at this; exact this
      have hF5 : ∀ j, j < m → hi h5 r j = iN (fcs l 4 S j) ∧ fcs l 4 S j < 65536 := fun j hj => by
        have := w5.2.2 j (by rw [lenm]; exact hj)
        rw [fm j hj] at this
        exact ⟨this, f16 j hj⟩
      obtain ⟨h6, e, r6, c6, le6, w6⟩ := x_ridges (d := d) s5 b kr5 r26 m104 hF5
      obtain ⟨h7, p7, c7, v7⟩ := (v5.ch c6 (by decide)).put c6.sh (by decide) w6
      refine ⟨h7, x5 + 2, fun R => ?_, ((((c5.trans c6).up (A' := [q, 26]) (k2 := x5 + 2) (fun x hx => List.mem_cons_of_mem _ hx) (Nat.le_refl _)).trans (c7.up (A' := [q, 26]) (fun x hx => by rw [List.mem_singleton.mp hx]; exact List.mem_cons_self) (Nat.le_refl 0))).drop (by omega)), by omega, v7⟩
      rw [e39_57]
      simp (disch := first | assumption | omega) only [e39_0, e39_1, e39_4, e39_5, e39_6, e39_7, e39_8, e39_10, e39_11, e39_12, e39_14, e39_16, e39_17, e39_20, e39_21, e39_22, e39_23, e39_25, e39_26, e39_28, e39_29, e39_30, e39_33, e39_36, e39_37, e39_38, e39_39, e39_42, e39_43, e39_46, e39_47, e39_50, e39_51, e39_52, e39_53, e39_56, e39_58, e39_59, e39_60, e39_63, e39_64, e39_67, e39_68, e39_71, e39_72, e39_75, e39_76, e39_79, e39_80, e39_81, e39_84, e39_87, e39_88, e39_90, e39_92, e39_93, e39_94, e39_97, e39_98, e39_101, e39_102, e39_105, e39_106, e39_108, e39_109, e39_110, e39_110N, m39, ↓reduceIte, qg_0, qg_1, qg_2, qg_3, qg_4, qg_5, qg_6, qg_7, qg_8, qg_9, qg_10, qg_11, qg_12, qg_13, not_true_eq_false, not_false_eq_true, Nat.reduceBEq, Bool.false_eq_true, ex1, ex3, ex4, exF, qfit_i, qfit_l, qfit_r, qfit_n, qfit_b0, qfit_b1, qcat_i, qcat_r, qcat_n, qcat_l, qroom_0, qroom_c, List.map_cons, List.map_nil, List.sum_cons, List.sum_nil, Nat.reduceAdd, Nat.reduceMul, Nat.reduceLT, Nat.reduceLeDiff, Nat.reduceEqDiff, Nat.reduceSub, decide_true, true_and, and_true, and_self, if_true, if_false, Option.toList_some, Option.toList_none, List.cons_append, List.nil_append, qsL, qlong, List.length_cons, List.length_nil, iN_L, exI, iN_add, iN_mul, iN_le, iN_lt, iN_eq, Nat.le_refl, qfN0, qfN1, uX_16, vX_16, uX_19, vX_19, uX_27, vX_27, uX_30, vX_30, uX_39, vX_39, uX_41, vX_41, uX_43, vX_43, uX_46, vX_46, uX_50, vX_50, uX_53, vX_53, gX_19_3, d5, r6, p7]
  obtain ⟨h6, x6, r6, c6, x66, v6⟩ := step2
  have s6 := c6.sh
  have w6 := w.ch c6 (fun z => by have := List.mem_singleton.mp z; have := w.1; omega)
  have d6 : xi h6 19 3 = iN D := (c6.xi (by decide) (by decide)).trans hd
  by_cases d4' : D = 4
  · have w6' : NwL h6 r (cls l D 3) := by
      have : cls l D 3 = cls l D (D - 1) := by rw [d4']
      rw [this, eF]; exact w6
    obtain ⟨h7, p7, c7, v7⟩ := v6.put s6 (by decide) w6'
    refine ⟨h7, q, fun R => ?_, (((c6.up (A' := [q, 26]) (k2 := 8) (fun x hx => List.mem_cons_of_mem _ hx) (by omega)).trans (c7.up (A' := [q, 26]) (fun x hx => by rw [List.mem_singleton.mp hx]; exact List.mem_cons_self) (Nat.le_refl 0))).drop (by omega)), by omega, v7⟩
    rw [r1 R, r5 R, r6 R, e39_91]
    simp (disch := first | assumption | omega) only [e39_0, e39_1, e39_4, e39_5, e39_6, e39_7, e39_8, e39_10, e39_11, e39_12, e39_14, e39_16, e39_17, e39_20, e39_21, e39_22, e39_23, e39_25, e39_26, e39_28, e39_29, e39_30, e39_33, e39_36, e39_37, e39_38, e39_39, e39_42, e39_43, e39_46, e39_47, e39_50, e39_51, e39_52, e39_53, e39_56, e39_58, e39_59, e39_60, e39_63, e39_64, e39_67, e39_68, e39_71, e39_72, e39_75, e39_76, e39_79, e39_80, e39_81, e39_84, e39_87, e39_88, e39_90, e39_92, e39_93, e39_94, e39_97, e39_98, e39_101, e39_102, e39_105, e39_106, e39_108, e39_109, e39_110, e39_110N, m39, ↓reduceIte, qg_0, qg_1, qg_2, qg_3, qg_4, qg_5, qg_6, qg_7, qg_8, qg_9, qg_10, qg_11, qg_12, qg_13, not_true_eq_false, not_false_eq_true, Nat.reduceBEq, Bool.false_eq_true, ex1, ex3, ex4, exF, qfit_i, qfit_l, qfit_r, qfit_n, qfit_b0, qfit_b1, qcat_i, qcat_r, qcat_n, qcat_l, qroom_0, qroom_c, List.map_cons, List.map_nil, List.sum_cons, List.sum_nil, Nat.reduceAdd, Nat.reduceMul, Nat.reduceLT, Nat.reduceLeDiff, Nat.reduceEqDiff, Nat.reduceSub, decide_true, true_and, and_true, and_self, if_true, if_false, Option.toList_some, Option.toList_none, List.cons_append, List.nil_append, qsL, qlong, List.length_cons, List.length_nil, iN_L, exI, iN_add, iN_mul, iN_le, iN_lt, iN_eq, Nat.le_refl, qfN0, qfN1, uX_16, vX_16, uX_19, vX_19, uX_27, vX_27, uX_30, vX_30, uX_39, vX_39, uX_41, vX_41, uX_43, vX_43, uX_46, vX_46, uX_50, vX_50, uX_53, vX_53, gX_19_3, d6, d4', p7]
  · obtain ⟨nw, cn⟩ := NwL.empty (A := [26]) (J := []) s6
    obtain ⟨h7, e7⟩ : ∃ h7, h7 = qnew h6 (.inl (0, 0, .inl fun _ => iN 0)) 0 := ⟨_, rfl⟩
    rw [← e7] at nw cn
    have ec : cls l D 3 = [] := b.cls_hi hD.1 (by omega)
    rw [← ec] at nw
    obtain ⟨h8, p8, c8, v8⟩ := (v6.ch cn (by decide)).put cn.sh (by decide) nw
    obtain ⟨z1, z2⟩ := nN 0 (by decide)
    refine ⟨h8, q, fun R => ?_, ((((c6.trans cn).up (A' := [q, 26]) (k2 := 8) (fun x hx => List.mem_cons_of_mem _ hx) (by omega)).trans (c8.up (A' := [q, 26]) (fun x hx => by rw [List.mem_singleton.mp hx]; exact List.mem_cons_self) (Nat.le_refl 0))).drop (by omega)), by omega, v8⟩
    rw [r1 R, r5 R, r6 R, e39_91]
    simp (disch := first | assumption | omega) only [e39_0, e39_1, e39_4, e39_5, e39_6, e39_7, e39_8, e39_10, e39_11, e39_12, e39_14, e39_16, e39_17, e39_20, e39_21, e39_22, e39_23, e39_25, e39_26, e39_28, e39_29, e39_30, e39_33, e39_36, e39_37, e39_38, e39_39, e39_42, e39_43, e39_46, e39_47, e39_50, e39_51, e39_52, e39_53, e39_56, e39_58, e39_59, e39_60, e39_63, e39_64, e39_67, e39_68, e39_71, e39_72, e39_75, e39_76, e39_79, e39_80, e39_81, e39_84, e39_87, e39_88, e39_90, e39_92, e39_93, e39_94, e39_97, e39_98, e39_101, e39_102, e39_105, e39_106, e39_108, e39_109, e39_110, e39_110N, m39, ↓reduceIte, qg_0, qg_1, qg_2, qg_3, qg_4, qg_5, qg_6, qg_7, qg_8, qg_9, qg_10, qg_11, qg_12, qg_13, not_true_eq_false, not_false_eq_true, Nat.reduceBEq, Bool.false_eq_true, ex1, ex3, ex4, exF, qfit_i, qfit_l, qfit_r, qfit_n, qfit_b0, qfit_b1, qcat_i, qcat_r, qcat_n, qcat_l, qroom_0, qroom_c, List.map_cons, List.map_nil, List.sum_cons, List.sum_nil, Nat.reduceAdd, Nat.reduceMul, Nat.reduceLT, Nat.reduceLeDiff, Nat.reduceEqDiff, Nat.reduceSub, decide_true, true_and, and_true, and_self, if_true, if_false, Option.toList_some, Option.toList_none, List.cons_append, List.nil_append, qsL, qlong, List.length_cons, List.length_nil, iN_L, exI, iN_add, iN_mul, iN_le, iN_lt, iN_eq, Nat.le_refl, qfN0, qfN1, uX_16, vX_16, uX_19, vX_19, uX_27, vX_27, uX_30, vX_30, uX_39, vX_39, uX_41, vX_41, uX_43, vX_43, uX_46, vX_46, uX_50, vX_50, uX_53, vX_53, gX_19_3, d6, d4', z1, z2, ← e7, p8, or_self]
end XALL

/-! ===== THE CLASS: a new body's object ===== -/
section XINIT
variable {d D : Nat} {h h' : qH} {R : qRes} {J : List (Nat × Nat)} {k : Nat}
theorem kO_kR {h : qH} {a t n : Nat} (k1 : kR h t a n) (k2 : kO h a 8) : False := by
  obtain ⟨f, e⟩ := k1.2; obtain ⟨g, e'⟩ := k2.2; rw [e] at e'; cases e'
theorem NwL.chO {e a : Nat} {L : List Nat} (v : NwL h e L) (c : ChX [a] J k h h') (ka : kO h a 8) : NwL h' e L := v.ch c fun z => by
  rw [List.mem_singleton.mp z] at v
  exact kO_kI ka v.2.1
theorem AcP.chO {q K a : Nat} {C : Nat → List Nat} (v : AcP h q C K) (c : ChX [a] J k h h') (ka : kO h a 8) : AcP h' q C K := by
  obtain ⟨v1, v2, v3⟩ := v
  have e1 := c.at (b := q) (fun z => by rw [List.mem_singleton.mp z] at v2; exact kO_kR v2 ka) (no_XO v1) v2.1.2.2
  refine ⟨v1, v2.sm c.1.2.1 e1, fun t ht => ?_⟩
  obtain ⟨e, w1, w2⟩ := v3 t ht
  exact ⟨e, by rw [hr_at e1]; exact w1, w2.chO c ka⟩
theorem sol_put {a j : Nat} {v : Value} (s : ShX h) (ka : kO h a 8) (a97 : 97 ≤ a) (hj : j < 10) : ∃ h', qput h a 8 j v = some h' ∧ ChX [a] [] 0 h h' ∧ kO h' a 8 ∧ ∀ i, hf h' a i = if i = j then v else hf h a i := by
  refine ⟨xV h a j v, pSol ka hj, ChX.sol s ka a97 (List.mem_singleton.mpr rfl), kO_xV ka ka, fun i => ?_⟩
  rw [hf_xV]
  by_cases e : i = j
  · rw [if_pos ⟨rfl, e⟩, if_pos e]
  · rw [if_neg (fun z => e z.2), if_neg e]
theorem adjB_snoc {L : List Nat} {y c u : Nat} : adjB (L ++ [y]) c u = (adjB L c u || decide (2 ^ c ||| 2 ^ u = y ∧ c ≠ u)) := by
  rw [Bool.eq_iff_iff, Bool.or_eq_true, adjB_iff, adjB_iff, decide_eq_true_eq, List.mem_append, List.mem_singleton]
  constructor
  · rintro ⟨z | z, w⟩
    · exact Or.inl ⟨z, w⟩
    · exact Or.inr ⟨z, w⟩
  · rintro (⟨z, w⟩ | ⟨z, w⟩)
    · exact ⟨Or.inl z, w⟩
    · exact ⟨Or.inr z, w⟩
theorem pair_un {a b x z : Nat} (hab : a ≠ b) (hxz : x ≠ z) (e : 2 ^ a ||| 2 ^ b = 2 ^ x ||| 2 ^ z) : (a = x ∧ b = z) ∨ (a = z ∧ b = x) := by
  have h1 := pair_bit (a := a) (c := b) (x := a)
  have h2 := pair_bit (a := a) (c := b) (x := b)
  rw [e, pair_bit] at h1 h2
  have q1 := h1.mpr (Or.inl rfl)
  have q2 := h2.mpr (Or.inr rfl)
  omega
theorem adj_mask {L : List Nat} {x z n c : Nat} (hxz : x < z) (hz : z < n) (hc : c < n) : mask (adjB (L ++ [2 ^ x ||| 2 ^ z]) c) n = if c = z then mask (adjB L c) n ||| 2 ^ x else if c = x then mask (adjB L c) n ||| 2 ^ z else mask (adjB L c) n := by
  apply Nat.eq_of_testBit_eq
  intro u
  rw [mask_bit, adjB_snoc]
  have key : ∀ u, decide (2 ^ c ||| 2 ^ u = 2 ^ x ||| 2 ^ z ∧ c ≠ u) = true ↔ (c = x ∧ u = z) ∨ (c = z ∧ u = x) := fun u => by
    rw [decide_eq_true_eq]
    constructor
    · rintro ⟨e, ne⟩; exact pair_un ne (by omega) e
    · rintro (⟨rfl, rfl⟩ | ⟨rfl, rfl⟩)
      · exact ⟨rfl, by omega⟩
      · exact ⟨Nat.or_comm _ _, by omega⟩
  rw [Bool.eq_iff_iff, Bool.and_eq_true, Bool.or_eq_true, key, decide_eq_true_eq]
  by_cases e1 : c = z
  · rw [if_pos e1, Nat.testBit_or, Bool.or_eq_true, mask_bit, Bool.and_eq_true, Nat.testBit_two_pow, decide_eq_true_eq, decide_eq_true_eq]
    grind
  · rw [if_neg e1]
    by_cases e2 : c = x
    · rw [if_pos e2, Nat.testBit_or, Bool.or_eq_true, mask_bit, Bool.and_eq_true, Nat.testBit_two_pow, decide_eq_true_eq, decide_eq_true_eq]
      grind
    · rw [if_neg e2, mask_bit, Bool.and_eq_true, decide_eq_true_eq]
      grind
theorem take_snoc {L : List Nat} {k : Nat} (hk : k < L.length) : L.take (k + 1) = L.take k ++ [L.getD k 0] := by
  rw [List.take_succ, List.getD_eq_getElem?_getD, List.getElem?_eq_getElem hk]
  rfl
set_option maxRecDepth 100000 in
set_option maxHeartbeats 32000000 in
theorem x_initS {a p q w nc : Nat} {sc : Int32} {C : Nat → List Nat} (s : ShX h) (ka : kO h a 8) (a97 : 97 ≤ a) (v : AcP h q C 4) (C0 : (C 0).length = nc) (n16 : nc ≤ 16) (hC1 : ∀ y, y ∈ C 1 → ∃ x z, x < z ∧ z < nc ∧ y = 2 ^ x ||| 2 ^ z) (l208 : (C 1).length ≤ 208) : ∃ h' e, (∀ R, qMC (d + 4) 101 [.ref a, .int (iN D), .int sc, .ref p, .ref q, .ref w] h R ↔ R = (none, h')) ∧ ChX [a] [] 1 h h' ∧ kO h' a 8 ∧ (hf h' a 0 = .int (iN D) ∧ hf h' a 1 = .int (iN nc) ∧ hf h' a 2 = .int sc ∧ hf h' a 3 = .ref p ∧ hf h' a 4 = .ref q ∧ hf h' a 5 = .ref w ∧ hf h' a 6 = .ref e) ∧ (hf h' a 7 = .int (-iN 1) ∧ hf h' a 8 = hf h a 8 ∧ hf h' a 9 = hf h a 9) ∧ 97 ≤ e ∧ h.2.1 ≤ e ∧ kI h' e nc ∧ ∀ c, c < nc → hi h' e c = iN (mask (adjB (C 1) c) nc) := by
  obtain ⟨h1, p1, c1, k1, f1⟩ := sol_put (v := .int (-iN 1)) s ka a97 (show 7 < 10 by decide)
  obtain ⟨h2, p2, c2, k2, f2⟩ := sol_put (v := .int (iN D)) c1.sh k1 a97 (show 0 < 10 by decide)
  obtain ⟨h3, p3, c3, k3, f3⟩ := sol_put (v := .int sc) c2.sh k2 a97 (show 2 < 10 by decide)
  obtain ⟨h4, p4, c4, k4, f4⟩ := sol_put (v := .ref p) c3.sh k3 a97 (show 3 < 10 by decide)
  obtain ⟨h5, p5, c5, k5, f5⟩ := sol_put (v := .ref q) c4.sh k4 a97 (show 4 < 10 by decide)
  obtain ⟨h6, p6, c6, k6, f6⟩ := sol_put (v := .ref w) c5.sh k5 a97 (show 5 < 10 by decide)
  have ch6 : ChX [a] [] 0 h h6 := ((((c1.trans0 c2).trans0 c3).trans0 c4).trans0 c5).trans0 c6
  have v6 := v.chO ch6 ka
  obtain ⟨e0, g0, w0⟩ := v6.get (show 0 < 4 by decide) (Nat.le_refl 4)
  have l0 : qalen h6 e0 = some (iN nc) := by rw [← C0]; exact lnI w0.2.1
  obtain ⟨h7, p7, c7, k7, f7⟩ := sol_put (v := .int (iN nc)) c6.sh k6 a97 (show 1 < 10 by decide)
  have s7 := c7.sh
  have gn7 : qget h7 a 8 1 = some (.int (iN nc)) := by rw [gSol k7 (by decide), f7, if_pos rfl]
  obtain ⟨e, ee⟩ : ∃ e, e = h7.2.1 := ⟨_, rfl⟩
  obtain ⟨h8, e8⟩ : ∃ h8, h8 = qnew h7 (.inl (0, nc, .inl fun _ => iN 0)) nc := ⟨_, rfl⟩
  obtain ⟨ke8, he8⟩ := kI_new (h := h7) (n := nc) (m := nc) (g := fun _ => iN 0) (by omega) s7
  rw [← e8, ← ee] at ke8 he8
  have c8 : ChX [a] [] 1 h7 h8 := by rw [e8]; exact ChX.new s7 (Nat.le_refl _) (by omega)
  have ae : a < e := by rw [ee]; exact k7.1.2
  have e97 : 97 ≤ e := by omega
  have o8 : h8.1 a = h7.1 a := by rw [e8]; exact nw_old k7.1.2
  have k8 : kO h8 a 8 := k7.sm c8.1.2.1 o8
  obtain ⟨h9, p9, c9, k9, f9⟩ := sol_put (v := .ref e) c8.sh k8 a97 (show 6 < 10 by decide)
  have s9 := c9.sh
  have ch9 : ChX [a] [] 1 h h9 := ((ch6.trans0 c7).trans c8).trans c9
  have le9 : h.2.1 ≤ e := by rw [ee]; exact (ch6.trans0 c7).1.2.1
  have ke9 : kI h9 e nc := ke8.sm c9.1.2.1 (c9.at (fun z => by have := List.mem_singleton.mp z; omega) (no_XO e97) ke8.1.2.2)
  have he9 : hi h9 e = fun _ => iN 0 := by rw [hi_at (c9.at (fun z => by have := List.mem_singleton.mp z; omega) (no_XO e97) ke8.1.2.2)]; exact he8
  have v9 := (v6.chO (c7.trans (c8.trans c9)) k6)
  have ff : ∀ i, hf h9 a i = if i = 6 then .ref e else if i = 1 then .int (iN nc) else if i = 5 then .ref w else if i = 4 then .ref q else if i = 3 then .ref p else if i = 2 then .int sc else if i = 0 then .int (iN D) else if i = 7 then .int (-iN 1) else hf h a i := fun i => by
    rw [f9, hf_at o8, f7, f6, f5, f4, f3, f2, f1]
  obtain ⟨G, eG⟩ : ∃ G : Nat → Nat → Int32, G = fun t c => if c < nc then iN (mask (adjB ((C 1).take t) c) nc) else iN 0 := ⟨_, rfl⟩
  obtain ⟨H, eH⟩ : ∃ H : Nat → qH, H = fun t => sI h9 e (G t) := ⟨_, rfl⟩
  have cH : ∀ t, ChX [e] [] 0 h9 (H t) := fun t => by rw [eH]; exact ChX.rowI s9 ke9 (List.mem_singleton.mpr rfl) (by omega)
  have sH : ∀ t, ShX (H t) := fun t => (cH t).sh
  have keH : ∀ t, kI (H t) e nc := fun t => by rw [eH]; exact (hKd_sI ke9).2.1 _ _ ke9
  have ne : ∀ {x : Nat} {L : List Nat}, NwL h9 x L → x < h7.2.1 → x ∉ [e] := fun _ hx z => by have := List.mem_singleton.mp z; omega
  obtain ⟨e1, g1, w1⟩ := (v6.chO c7 k6).get (show 1 < 4 by decide) (Nat.le_refl 4)
  have g1' := (v6.chO c7 k6)
  have e1lt : e1 < h7.2.1 := w1.2.1.1.2.2
  have qlt : q < h7.2.1 := g1'.2.1.1.2.2
  have oH : ∀ t x, x < h7.2.1 → x ≠ a → 97 ≤ x → (H t).1 x = h7.1 x := fun t x hx hxa h97 => by
    rw [(cH t).at (fun z => by have := List.mem_singleton.mp z; omega) (no_XO h97) (by have := c8.1.2.1; have := c9.1.2.1; omega), c9.at (fun z => hxa (List.mem_singleton.mp z)) (no_XO h97) (by have := c8.1.2.1; omega), c8.at (fun z => hxa (List.mem_singleton.mp z)) (no_XO h97) hx]
  have qa : q ≠ a := fun z => by have kq := g1'.2.1; rw [z] at kq; exact kO_kR kq k7
  have e1a : e1 ≠ a := fun z => by have kq := w1.2.1; rw [z] at kq; exact kO_kI k7 kq
  have lH : ∀ t, h7.2.1 ≤ (H t).2.1 := fun t => Nat.le_trans (Nat.le_trans c8.1.2.1 c9.1.2.1) (cH t).1.2.1
  have rq : ∀ t, qaald (H t) q (iN 1) = some (some e1) := fun t => by
    have kq : kR (H t) 3 q 4 := g1'.2.1.sm (lH t) (oH t q qlt qa g1'.1)
    rw [rdR kq (Or.inr rfl) (by decide), hr_at (oH t q qlt qa g1'.1)]
    have := g1
    rw [rdR g1'.2.1 (Or.inr rfl) (by decide)] at this
    exact this
  have ke1 : ∀ t, kI (H t) e1 (C 1).length := fun t => w1.2.1.sm (lH t) (oH t e1 e1lt e1a w1.1)
  have le1 : ∀ t, qalen (H t) e1 = some (iN (C 1).length) := fun t => lnI (ke1 t)
  have re1 : ∀ t i, i < (C 1).length → qiald (H t) e1 (iN i) = some (iN ((C 1).getD i 0)) := fun t i hi' => by
    rw [rdI (ke1 t) hi', hi_at (oH t e1 e1lt e1a w1.1), w1.2.2 i hi']
  have kaH : ∀ t, kO (H t) a 8 ∧ hf (H t) a = hf h9 a := fun t => by
    have o := (cH t).at (b := a) (fun z => by have := List.mem_singleton.mp z; omega) (no_XO a97) k9.1.2
    exact ⟨k9.sm (cH t).1.2.1 o, hf_at o⟩
  have g6H : ∀ t, qget (H t) a 8 6 = some (.ref e) := fun t => by rw [gSol (kaH t).1 (by decide), (kaH t).2, ff, if_pos rfl]
  have H0 : h9 = H 0 := by
    rw [eH, eG]
    have : (fun c => if c < nc then iN (mask (adjB ((C 1).take 0) c) nc) else iN 0) = hi h9 e := by
      rw [he9]
      funext c
      have : mask (adjB [] c) nc = 0 := Nat.eq_of_testBit_eq fun u => by
        rw [mask_bit, Nat.zero_testBit, show adjB [] c u = false from rfl, Bool.and_false]
      rw [List.take_zero, this]
      split <;> rfl
    show h9 = sI h9 e (fun c => if c < nc then iN (mask (adjB ((C 1).take 0) c) nc) else iN 0)
    rw [this, sI_id ke9]
  obtain ⟨z1, z2⟩ := nN nc (by omega)
  have g0' : qaald h6 q (iN 0) = some (some e0) := g0
  have r0 : ∀ R, qMC (d + 4) 101 [.ref a, .int (iN D), .int sc, .ref p, .ref q, .ref w] h R ↔ qEv (d + 3) 4 qk_101 58 [some (.ref a), some (.int (iN D)), some (.int sc), some (.ref p), some (.ref q), some (.ref w), some (.int (iN 0)), none, none] [] (H 0) R := fun R => by
    rw [← H0]
    simp (disch := first | assumption | omega) only [e101_0, e101_1, e101_4, e101_5, e101_6, e101_9, e101_10, e101_11, e101_14, e101_15, e101_16, e101_19, e101_20, e101_21, e101_24, e101_25, e101_27, e101_30, e101_31, e101_33, e101_36, e101_37, e101_39, e101_40, e101_41, e101_42, e101_45, e101_46, e101_47, e101_50, e101_52, e101_55, e101_56, e101_60, e101_62, e101_63, e101_64, e101_65, e101_68, e101_70, e101_71, e101_72, e101_74, e101_75, e101_78, e101_80, e101_82, e101_83, e101_84, e101_86, e101_87, e101_88, e101_90, e101_91, e101_92, e101_93, e101_94, e101_97, e101_99, e101_100, e101_103, e101_105, e101_106, e101_107, e101_108, e101_110, e101_111, e101_112, e101_113, e101_114, e101_117, e101_119, e101_120, e101_121, e101_122, e101_124, e101_125, e101_126, e101_127, e101_130, e101_133, m101, ↓reduceIte, qg_0, qg_1, qg_2, qg_3, qg_4, qg_5, qg_6, qg_7, qg_8, qg_9, qg_10, qg_11, qg_12, qg_13, not_true_eq_false, not_false_eq_true, Nat.reduceBEq, Bool.false_eq_true, ex1, ex3, ex4, exF, qfit_i, qfit_l, qfit_r, qfit_n, qfit_b0, qfit_b1, qcat_i, qcat_r, qcat_n, qcat_l, qroom_0, qroom_c, List.map_cons, List.map_nil, List.sum_cons, List.sum_nil, Nat.reduceAdd, Nat.reduceMul, Nat.reduceLT, Nat.reduceLeDiff, Nat.reduceEqDiff, Nat.reduceSub, decide_true, true_and, and_true, and_self, if_true, if_false, Option.toList_some, Option.toList_none, List.cons_append, List.nil_append, qsL, qlong, List.length_cons, List.length_nil, iN_L, exI, iN_add, iN_mul, iN_le, iN_lt, iN_eq, Nat.le_refl, qfN0, qfN1, uX_16, vX_16, uX_19, vX_19, uX_27, vX_27, uX_30, vX_30, uX_39, vX_39, uX_41, vX_41, uX_43, vX_43, uX_46, vX_46, uX_50, vX_50, uX_53, vX_53, p1, p2, p3, p4, p5, p6, g0', rf_some, l0, p7, gn7, z1, z2, ← ee, ← e8, p9, or_self, or_false, false_or, show ¬ nc < 0 by omega, show ¬ 1000000 < nc by omega]
  have step : ∀ t (x7 x8 : Option Value), t < (C 1).length → ∃ x7' x8', ∀ R, qEv (d + 3) 4 qk_101 58 [some (.ref a), some (.int (iN D)), some (.int sc), some (.ref p), some (.ref q), some (.ref w), some (.int (iN t)), x7, x8] [] (H t) R ↔ qEv (d + 3) 4 qk_101 58 [some (.ref a), some (.int (iN D)), some (.int sc), some (.ref p), some (.ref q), some (.ref w), some (.int (iN (t + 1))), x7', x8'] [] (H (t + 1)) R := by
    intro t x7 x8 ht
    obtain ⟨x, z, hxz, hz, ey⟩ := hC1 _ (getD_mem0 ht)
    refine ⟨some (.int (iN x)), some (.int (iN z)), fun R => ?_⟩
    have st := sH t
    have y16 : 2 ^ x ||| 2 ^ z < 65536 := Nat.or_lt_two_pow (n := 16) (Nat.pow_lt_pow_right (by decide) (by omega)) (Nat.pow_lt_pow_right (by decide) (by omega))
    have z16 : 2 ^ z < 65536 := show 2 ^ z < 2 ^ 16 from Nat.pow_lt_pow_right (by decide) (by omega)
    have ry := re1 t t ht
    rw [ey] at ry
    have lo1 : ∀ h' R, qMC (d + 3) 178 [.int (iN (2 ^ x ||| 2 ^ z))] h' R ↔ R = (some (.int (iN x)), h') := fun h' R => x_leastOf y16 (pair_bit.mpr (Or.inl rfl)) fun j hj => by
      cases q' : (2 ^ x ||| 2 ^ z).testBit j with
      | false => rfl
      | true => have := pair_bit.mp q'; omega
    have lo2 : ∀ h' R, qMC (d + 3) 178 [.int (iN (2 ^ z))] h' R ↔ R = (some (.int (iN z)), h') := fun h' R => x_leastOf z16 (by rw [Nat.testBit_two_pow]; exact decide_eq_true rfl) fun j hj => by rw [Nat.testBit_two_pow]; exact decide_eq_false (by omega)
    have ew : wo (2 ^ x ||| 2 ^ z) (2 ^ x) = 2 ^ z := Nat.eq_of_testBit_eq fun u => by
      rw [wo_bit, Bool.eq_iff_iff, Bool.and_eq_true, pair_bit, Nat.testBit_two_pow, Nat.testBit_two_pow, decide_eq_true_eq, Bool.not_eq_true', decide_eq_false_iff_not]
      omega
    have wo1 : iN (2 ^ x ||| 2 ^ z) &&& (iN (2 ^ x) ^^^ -iN 1) = iN (2 ^ z) := by rw [iN_wo', ew]
    have sh1 := iN_shl1 x (by omega)
    have sh2 := iN_shl1 z (by omega)
    have gx : G t x = iN (mask (adjB ((C 1).take t) x) nc) := by rw [eG]; exact if_pos (by omega)
    have gz : G t z = iN (mask (adjB ((C 1).take t) z) nc) := by rw [eG]; exact if_pos hz
    have rx : qiald (H t) e (iN x) = some (iN (mask (adjB ((C 1).take t) x) nc)) := by rw [rdI (keH t) (by omega), eH]; show some (hi (sI h9 e (G t)) e x) = _; rw [hi_sI, if_pos rfl, gx]
    obtain ⟨G2, eG2⟩ : ∃ G2, G2 = upd (G t) x (iN (mask (adjB ((C 1).take t) x) nc ||| 2 ^ z)) := ⟨_, rfl⟩
    obtain ⟨h2', e2'⟩ : ∃ h2', h2' = sI h9 e G2 := ⟨_, rfl⟩
    have wx : qiast (H t) e (iN x) (iN (mask (adjB ((C 1).take t) x) nc ||| 2 ^ z)) = some h2' := by
      rw [wrI (keH t) (by omega), e2', eG2, eH]
      show some (sI (sI h9 e (G t)) e (upd (hi (sI h9 e (G t)) e) x _)) = _
      rw [sI_sI, hi_sI, if_pos rfl]
    have ke2 : kI h2' e nc := by rw [e2']; exact (hKd_sI ke9).2.1 _ _ ke9
    have c2' : ChX [e] [] 0 h9 h2' := by rw [e2']; exact ChX.rowI s9 ke9 (List.mem_singleton.mpr rfl) (by omega)
    have s2' := c2'.sh
    have ka2 : kO h2' a 8 ∧ hf h2' a = hf h9 a := by
      have o := c2'.at (b := a) (fun z => by have := List.mem_singleton.mp z; omega) (no_XO a97) k9.1.2
      exact ⟨k9.sm c2'.1.2.1 o, hf_at o⟩
    have g62 : qget h2' a 8 6 = some (.ref e) := by rw [gSol ka2.1 (by decide), ka2.2, ff, if_pos rfl]
    have rz : qiald h2' e (iN z) = some (iN (mask (adjB ((C 1).take t) z) nc)) := by
      rw [rdI ke2 hz, e2', hi_sI, if_pos rfl, eG2]
      show some (if z = x then _ else G t z) = _
      rw [if_neg (by omega), gz]
    have wz : qiast h2' e (iN z) (iN (mask (adjB ((C 1).take t) z) nc ||| 2 ^ x)) = some (H (t + 1)) := by
      rw [wrI ke2 hz, e2', eH]
      show some (sI (sI h9 e G2) e (upd (hi (sI h9 e G2) e) z _)) = _
      rw [sI_sI, hi_sI, if_pos rfl]
      congr 2
      funext c
      show (if c = z then iN (mask (adjB ((C 1).take t) z) nc ||| 2 ^ x) else G2 c) = G (t + 1) c
      rw [eG2, eG]
      show (if c = z then iN (mask (adjB ((C 1).take t) z) nc ||| 2 ^ x) else (if c = x then iN (mask (adjB ((C 1).take t) x) nc ||| 2 ^ z) else (if c < nc then iN (mask (adjB ((C 1).take t) c) nc) else iN 0))) = (if c < nc then iN (mask (adjB ((C 1).take (t + 1)) c) nc) else iN 0)
      by_cases hc : c < nc
      · rw [take_snoc ht, ey, if_pos hc, if_pos hc, adj_mask hxz hz hc]
        by_cases q1 : c = z
        · rw [if_pos q1, if_pos q1, q1]
        · rw [if_neg q1, if_neg q1]
          by_cases q2 : c = x
          · rw [if_pos q2, if_pos q2, q2]
          · rw [if_neg q2, if_neg q2]
      · rw [if_neg (show ¬ c = z by omega), if_neg (show ¬ c = x by omega), if_neg hc, if_neg hc]
    rw [e101_58]
    simp (disch := first | assumption | omega) only [e101_0, e101_1, e101_4, e101_5, e101_6, e101_9, e101_10, e101_11, e101_14, e101_15, e101_16, e101_19, e101_20, e101_21, e101_24, e101_25, e101_27, e101_30, e101_31, e101_33, e101_36, e101_37, e101_39, e101_40, e101_41, e101_42, e101_45, e101_46, e101_47, e101_50, e101_52, e101_55, e101_56, e101_60, e101_62, e101_63, e101_64, e101_65, e101_68, e101_70, e101_71, e101_72, e101_74, e101_75, e101_78, e101_80, e101_82, e101_83, e101_84, e101_86, e101_87, e101_88, e101_90, e101_91, e101_92, e101_93, e101_94, e101_97, e101_99, e101_100, e101_103, e101_105, e101_106, e101_107, e101_108, e101_110, e101_111, e101_112, e101_113, e101_114, e101_117, e101_119, e101_120, e101_121, e101_122, e101_124, e101_125, e101_126, e101_127, e101_130, e101_133, m101, ↓reduceIte, qg_0, qg_1, qg_2, qg_3, qg_4, qg_5, qg_6, qg_7, qg_8, qg_9, qg_10, qg_11, qg_12, qg_13, not_true_eq_false, not_false_eq_true, Nat.reduceBEq, Bool.false_eq_true, ex1, ex3, ex4, exF, qfit_i, qfit_l, qfit_r, qfit_n, qfit_b0, qfit_b1, qcat_i, qcat_r, qcat_n, qcat_l, qroom_0, qroom_c, List.map_cons, List.map_nil, List.sum_cons, List.sum_nil, Nat.reduceAdd, Nat.reduceMul, Nat.reduceLT, Nat.reduceLeDiff, Nat.reduceEqDiff, Nat.reduceSub, decide_true, true_and, and_true, and_self, if_true, if_false, Option.toList_some, Option.toList_none, List.cons_append, List.nil_append, qsL, qlong, List.length_cons, List.length_nil, iN_L, exI, iN_add, iN_mul, iN_le, iN_lt, iN_eq, Nat.le_refl, qfN0, qfN1, uX_16, vX_16, uX_19, vX_19, uX_27, vX_27, uX_30, vX_30, uX_39, vX_39, uX_41, vX_41, uX_43, vX_43, uX_46, vX_46, uX_50, vX_50, uX_53, vX_53, rq, rf_some, le1, show ¬ (C 1).length ≤ t by omega, ry, lo1, sh1, wo1, lo2, g6H, rx, sh2, iN_or, wx, g62, rz, wz]
  have go : ∀ (w' t : Nat) (x7 x8 : Option Value), t + w' = (C 1).length → ∀ R, (qEv (d + 3) 4 qk_101 58 [some (.ref a), some (.int (iN D)), some (.int sc), some (.ref p), some (.ref q), some (.ref w), some (.int (iN t)), x7, x8] [] (H t) R ↔ R = (none, H (C 1).length)) := by
    intro w'
    induction w' with
    | zero =>
      intro t x7 x8 ht R
      have et : t = (C 1).length := by omega
      subst et
      have st := sH (C 1).length
      rw [e101_58]
      simp (disch := first | assumption | omega) only [e101_0, e101_1, e101_4, e101_5, e101_6, e101_9, e101_10, e101_11, e101_14, e101_15, e101_16, e101_19, e101_20, e101_21, e101_24, e101_25, e101_27, e101_30, e101_31, e101_33, e101_36, e101_37, e101_39, e101_40, e101_41, e101_42, e101_45, e101_46, e101_47, e101_50, e101_52, e101_55, e101_56, e101_60, e101_62, e101_63, e101_64, e101_65, e101_68, e101_70, e101_71, e101_72, e101_74, e101_75, e101_78, e101_80, e101_82, e101_83, e101_84, e101_86, e101_87, e101_88, e101_90, e101_91, e101_92, e101_93, e101_94, e101_97, e101_99, e101_100, e101_103, e101_105, e101_106, e101_107, e101_108, e101_110, e101_111, e101_112, e101_113, e101_114, e101_117, e101_119, e101_120, e101_121, e101_122, e101_124, e101_125, e101_126, e101_127, e101_130, e101_133, m101, ↓reduceIte, qg_0, qg_1, qg_2, qg_3, qg_4, qg_5, qg_6, qg_7, qg_8, qg_9, qg_10, qg_11, qg_12, qg_13, not_true_eq_false, not_false_eq_true, Nat.reduceBEq, Bool.false_eq_true, ex1, ex3, ex4, exF, qfit_i, qfit_l, qfit_r, qfit_n, qfit_b0, qfit_b1, qcat_i, qcat_r, qcat_n, qcat_l, qroom_0, qroom_c, List.map_cons, List.map_nil, List.sum_cons, List.sum_nil, Nat.reduceAdd, Nat.reduceMul, Nat.reduceLT, Nat.reduceLeDiff, Nat.reduceEqDiff, Nat.reduceSub, decide_true, true_and, and_true, and_self, if_true, if_false, Option.toList_some, Option.toList_none, List.cons_append, List.nil_append, qsL, qlong, List.length_cons, List.length_nil, iN_L, exI, iN_add, iN_mul, iN_le, iN_lt, iN_eq, Nat.le_refl, qfN0, qfN1, uX_16, vX_16, uX_19, vX_19, uX_27, vX_27, uX_30, vX_30, uX_39, vX_39, uX_41, vX_41, uX_43, vX_43, uX_46, vX_46, uX_50, vX_50, uX_53, vX_53, rq, rf_some, le1]
    | succ w' ih =>
      intro t x7 x8 ht R
      obtain ⟨x7', x8', r⟩ := step t x7 x8 (by omega)
      exact (r R).trans (ih (t + 1) x7' x8' (by omega) R)
  refine ⟨H (C 1).length, e, fun R => (r0 R).trans (go (C 1).length 0 none none (Nat.zero_add _) R), ?_, (kaH _).1, ?_, ?_, e97, le9, keH _, fun c hc => ?_⟩
  · have c10 : ChX [e, a] [] 1 h (H (C 1).length) := (ch9.up (A' := [e, a]) (fun x hx => List.mem_cons_of_mem _ hx) (Nat.le_refl _)).trans ((cH _).up (A' := [e, a]) (fun x hx => by rw [List.mem_singleton.mp hx]; exact List.mem_cons_self) (Nat.le_refl 0))
    exact c10.drop le9
  · rw [(kaH _).2]
    refine ⟨?_, ?_, ?_, ?_, ?_, ?_, ?_⟩ <;> rw [ff] <;> rfl
  · rw [(kaH _).2]
    refine ⟨?_, ?_, ?_⟩ <;> rw [ff] <;> rfl
  · rw [eH]
    show hi (sI h9 e (G (C 1).length)) e c = _
    rw [hi_sI, if_pos rfl, eG]
    show (if c < nc then iN (mask (adjB ((C 1).take (C 1).length) c) nc) else iN 0) = _
    rw [if_pos hc, List.take_length]
end XINIT

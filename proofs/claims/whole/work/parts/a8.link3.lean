/-! ===== GEOMETRY: each facet is found by a choice ===== -/
section LINK3
variable {l : List pt4} {D p0 p1 p2 p3 : Nat} {f : Nat → Int}
theorem inc_lt {n : Nat} (i : inc n D p0 p1 p2 p3) : p0 < p1 ∧ (3 ≤ D → p1 < p2) ∧ (4 ≤ D → p2 < p3) := by
  obtain ⟨hD, h1, h2⟩ := i
  refine ⟨h1, fun z => ?_, fun z => ?_⟩
  · rw [if_neg (by omega)] at h2
    by_cases e3 : D = 3
    · rw [if_pos e3] at h2; omega
    · rw [if_neg e3] at h2; omega
  · rw [if_neg (by omega), if_neg (by omega)] at h2; omega
theorem inc_p23 {n : Nat} (i : inc n D p0 p1 p2 p3) : p2 < n ∧ p3 < n := by
  obtain ⟨hD, h1, h2⟩ := i
  by_cases e2 : D = 2
  · rw [if_pos e2] at h2; omega
  · rw [if_neg e2] at h2
    by_cases e3 : D = 3
    · rw [if_pos e3] at h2; omega
    · rw [if_neg e3] at h2; omega
theorem raw_ne (ok : okP l D) {A : Nat → Bool} (hA : indA (D + 1) l.length (vX l D) A) (i : inc l.length D p0 p1 p2 p3) (a0 : A p0 = true) (a1 : A p1 = true) (a2 : 3 ≤ D → A p2 = true) (a3 : 4 ≤ D → A p3 = true) : ∃ k, k < 4 ∧ rawN (lP l) D p0 p1 p2 p3 k ≠ 0 := by
  refine Classical.byContradiction fun z => ?_
  have hD := i.1
  have z0 : ∀ k, k < 4 → rawN (lP l) D p0 p1 p2 p3 k = 0 := fun k hk => Classical.byContradiction fun w => z ⟨k, hk, w⟩
  obtain ⟨r0, r1, r2, r3⟩ := raw_cross (P := lP l) (p0 := p0) (p1 := p1) (p2 := p2) (p3 := p3) hD
  rw [z0 0 (by decide)] at r0
  rw [z0 1 (by decide)] at r1
  rw [z0 2 (by decide)] at r2
  rw [z0 3 (by decide)] at r3
  have r1' : d3 (ap (lP l) p0 p1) (dV (lP l) D p0 p2) (dW (lP l) D p0 p3) 0 2 3 = 0 := by omega
  have r3' : d3 (ap (lP l) p0 p1) (dV (lP l) D p0 p2) (dW (lP l) D p0 p3) 0 1 2 = 0 := by omega
  obtain ⟨a, b, c, hne, e0, e1, e2, e3⟩ := gdep (u0 := ap (lP l) p0 p1 0) (u1 := ap (lP l) p0 p1 1) (u2 := ap (lP l) p0 p1 2) (u3 := ap (lP l) p0 p1 3) (v0 := dV (lP l) D p0 p2 0) (v1 := dV (lP l) D p0 p2 1) (v2 := dV (lP l) D p0 p2 2) (v3 := dV (lP l) D p0 p2 3) (w0 := dW (lP l) D p0 p3 0) (w1 := dW (lP l) D p0 p3 1) (w2 := dW (lP l) D p0 p3 2) (w3 := dW (lP l) D p0 p3 3) r0.symm r1' r2.symm r3'
  obtain ⟨l0, l1, l2, l3⟩ := inc_pts i
  obtain ⟨i1, i2, i3⟩ := inc_lt i
  obtain ⟨q2, q3⟩ := inc_p23 i
  have apz : ∀ p k, p < l.length → D ≤ k → k < 4 → ap (lP l) p0 p k = 0 := fun p k hp h1 h2 => by unfold ap; rw [ok_0 ok hp h1 h2, ok_0 ok l0 h1 h2]; rfl
  have hc : ¬ 4 ≤ D → c = 0 := by
    intro h4
    have h1 : dW (lP l) D p0 p3 3 = 1 := by unfold dW; rw [if_neg h4]; rfl
    have h2 : dV (lP l) D p0 p2 3 = 0 := by
      unfold dV
      by_cases h3 : 3 ≤ D
      · rw [if_pos h3]; exact apz p2 3 q2 (by omega) (by decide)
      · rw [if_neg h3]; rfl
    rw [apz p1 3 l1 (by omega) (by decide), h1, h2] at e3
    omega
  have hb : ¬ 3 ≤ D → b = 0 := by
    intro h3
    have h1 : dV (lP l) D p0 p2 2 = 1 := by unfold dV; rw [if_neg h3]; rfl
    rw [apz p1 2 l1 (by omega) (by decide), h1, hc (by omega)] at e2
    omega
  have eV : ∀ j, b * dV (lP l) D p0 p2 j = b * ap (lP l) p0 p2 j := by
    intro j
    by_cases h3 : 3 ≤ D
    · unfold dV; rw [if_pos h3]
    · rw [hb h3, Int.zero_mul, Int.zero_mul]
  have eW : ∀ j, c * dW (lP l) D p0 p3 j = c * ap (lP l) p0 p3 j := by
    intro j
    by_cases h4 : 4 ≤ D
    · unfold dW; rw [if_pos h4]
    · rw [hc h4, Int.zero_mul, Int.zero_mul]
  rw [eV, eW] at e0 e1 e2 e3
  have ee : ∀ j, j < 4 → a * ap (lP l) p0 p1 j + b * ap (lP l) p0 p2 j + c * ap (lP l) p0 p3 j = 0 := by
    intro j hj
    match j, hj with
    | 0, _ => exact e0
    | 1, _ => exact e1
    | 2, _ => exact e2
    | 3, _ => exact e3
  have hall := hA (fun p => (if p = p1 then a else 0) + ((if p = p2 then b else 0) + ((if p = p3 then c else 0) + (if p = p0 then -(a + b + c) else 0)))) (fun p hp hn => by
    have n0 : ¬ p = p0 := fun e => hn (e ▸ a0)
    have n1 : ¬ p = p1 := fun e => hn (e ▸ a1)
    have n2 : (if p = p2 then b else 0) = 0 := by
      by_cases h3 : 3 ≤ D
      · exact if_neg (fun (e : p = p2) => hn (e ▸ a2 h3))
      · rw [hb h3]; split <;> rfl
    have n3 : (if p = p3 then c else 0) = 0 := by
      by_cases h4 : 4 ≤ D
      · exact if_neg (fun (e : p = p3) => hn (e ▸ a3 h4))
      · rw [hc h4]; split <;> rfl
    try dsimp only
    rw [if_neg n1, if_neg n0, n2, n3]; rfl) (fun j hj => by
    have es : sumZ (fun p => ((if p = p1 then a else 0) + ((if p = p2 then b else 0) + ((if p = p3 then c else 0) + (if p = p0 then -(a + b + c) else 0)))) * vX l D p j) l.length = a * vX l D p1 j + (b * vX l D p2 j + (c * vX l D p3 j + -(a + b + c) * vX l D p0 j)) := by
      rw [← sumZ_pt (a := a) (x := fun p => vX l D p j) l1, ← sumZ_pt (a := b) (x := fun p => vX l D p j) q2, ← sumZ_pt (a := c) (x := fun p => vX l D p j) q3, ← sumZ_pt (a := -(a + b + c)) (x := fun p => vX l D p j) l0, ← sumZ_add, ← sumZ_add, ← sumZ_add]
      exact sumZ_ext fun p _ => by rw [Int.add_mul, Int.add_mul, Int.add_mul]
    rw [es]
    unfold vX
    by_cases ej : j = D
    · rw [if_pos ej, if_pos ej, if_pos ej, if_pos ej]; omega
    · rw [if_neg ej, if_neg ej, if_neg ej, if_neg ej]
      have := ee j (by omega)
      unfold ap at this
      grind)
  have v1 := hall p1 l1
  try dsimp only at v1
  have t2 : (if p1 = p2 then b else 0) = 0 := by
    by_cases h3 : 3 ≤ D
    · exact if_neg (by have := i2 h3; omega)
    · rw [hb h3]; split <;> rfl
  have t3 : (if p1 = p3 then c else 0) = 0 := by
    by_cases h4 : 4 ≤ D
    · exact if_neg (by have := i2 (by omega); have := i3 h4; omega)
    · rw [hc h4]; split <;> rfl
  rw [if_pos rfl, t2, t3, if_neg (by omega)] at v1
  have za : a = 0 := by omega
  have zb : b = 0 := by
    by_cases h3 : 3 ≤ D
    · have v2 := hall p2 q2
      try dsimp only at v2
      have t3 : (if p2 = p3 then c else 0) = 0 := by
        by_cases h4 : 4 ≤ D
        · exact if_neg (by have := i3 h4; omega)
        · rw [hc h4]; split <;> rfl
      rw [if_neg (by have := i2 h3; omega), if_pos rfl, t3, if_neg (by have := i2 h3; omega)] at v2
      omega
    · exact hb h3
  have zc : c = 0 := by
    by_cases h4 : 4 ≤ D
    · have v3 := hall p3 q3
      try dsimp only at v3
      rw [if_neg (by have := i2 (by omega); have := i3 h4; omega), if_neg (by have := i3 h4; omega), if_pos rfl, if_neg (by have := i2 (by omega); have := i3 h4; omega)] at v3
      omega
    · exact hc h4
  omega
theorem fc_ch (ok : okP l D) (hF : gful (D + 1) l.length (vX l D)) (hf : gfc (D + 1) l.length (vX l D) f) : ∃ p0 p1 p2 p3, inc l.length D p0 p1 p2 p3 ∧ chG (lP l) l.length D p0 p1 p2 p3 ∧ chM (lP l) l.length D p0 p1 p2 p3 = zM l D f := by
  have hD := ok.2.2.2.2
  obtain ⟨A, hA, cA, zA⟩ := grow hF hf D (by omega)
  obtain ⟨p0, p1, p2, p3, i, a0, a1, a2, a3⟩ : ∃ p0 p1 p2 p3, inc l.length D p0 p1 p2 p3 ∧ A p0 = true ∧ A p1 = true ∧ (3 ≤ D → A p2 = true) ∧ (4 ≤ D → A p3 = true) := by
    have h3 : D = 2 ∨ D = 3 ∨ D = 4 := by omega
    rcases h3 with rfl | rfl | rfl
    · obtain ⟨q1, b1, c1, e1⟩ := cnt_last cA
      obtain ⟨q0, b0, c0, -⟩ := cnt_last e1
      exact ⟨q0, q1, 0, 0, ⟨by omega, b0, by rw [if_pos rfl]; omega⟩, c0, c1, by omega, by omega⟩
    · obtain ⟨q2, b2, c2', e2⟩ := cnt_last cA
      obtain ⟨q1, b1, c1, e1⟩ := cnt_last e2
      obtain ⟨q0, b0, c0, -⟩ := cnt_last e1
      exact ⟨q0, q1, q2, 0, ⟨by omega, b0, by rw [if_neg (by decide), if_pos rfl]; omega⟩, c0, c1, fun _ => c2', by omega⟩
    · obtain ⟨q3, b3, c3', e3⟩ := cnt_last cA
      obtain ⟨q2, b2, c2', e2⟩ := cnt_last e3
      obtain ⟨q1, b1, c1, e1⟩ := cnt_last e2
      obtain ⟨q0, b0, c0, -⟩ := cnt_last e1
      exact ⟨q0, q1, q2, q3, ⟨by omega, b0, by rw [if_neg (by decide), if_neg (by decide)]; omega⟩, c0, c1, fun _ => c2', fun _ => c3'⟩
  obtain ⟨l0, l1, l2, l3⟩ := inc_pts i
  have hr := raw_ne ok hA i a0 a1 a2 a3
  obtain ⟨g, hg, er⟩ := raw_ch hr
  have hz : ∃ k, k < 4 ∧ chN (lP l) D p0 p1 p2 p3 k ≠ 0 := by
    obtain ⟨k, hk, hne⟩ := hr
    exact ⟨k, hk, fun e => hne (by rw [er k hk, e, Int.mul_zero])⟩
  have hp := pick_gpr hD hz (zA _ l0 a0) (zA _ l1 a1) (fun z => zA _ (l2 z) (a2 z)) (fun z => zA _ (l3 z) (a3 z))
  obtain ⟨k, hk, hne⟩ := hz
  have hkD : k < D := by
    rcases Nat.lt_or_ge k D with z | z
    · exact z
    · exact absurd (chN_0 hD.1 z hk) hne
  have Fk : pF D (chN (lP l) D p0 p1 p2 p3) (chB (lP l) D p0 p1 p2 p3) k ≠ 0 := by unfold pF; rw [if_neg (by omega)]; exact hne
  have fk : f k ≠ 0 := by
    intro e
    obtain ⟨j, hj, hj2⟩ := hf.1.2
    have := hp j k hj (by omega)
    rw [e, Int.zero_mul] at this
    rcases Int.mul_eq_zero.mp this with w | w
    · exact hj2 w
    · exact Fk w
  have rel : ∀ p, dt (D + 1) f (vX l D p) * pF D (chN (lP l) D p0 p1 p2 p3) (chB (lP l) D p0 p1 p2 p3) k = f k * lev (chN (lP l) D p0 p1 p2 p3) (chB (lP l) D p0 p1 p2 p3) (lP l) p := by
    intro p
    have := gpr_dt hp (x := vX l D p) (j := k) (by omega)
    rw [pF_dt hD.2 (fun k h1 h2 => chN_0 hD.1 h1 h2)] at this
    exact this
  have zer : ∀ p, dt (D + 1) f (vX l D p) = 0 ↔ lev (chN (lP l) D p0 p1 p2 p3) (chB (lP l) D p0 p1 p2 p3) (lP l) p = 0 := by
    intro p
    have := rel p
    constructor
    · intro e
      rw [e, Int.zero_mul] at this
      exact (Int.mul_eq_zero.mp this.symm).resolve_left fk
    · intro e
      rw [e, Int.mul_zero] at this
      exact (Int.mul_eq_zero.mp this).resolve_right Fk
  refine ⟨p0, p1, p2, p3, i, ⟨⟨k, hk, hne⟩, ?_, ?_⟩, ?_⟩
  · rintro ⟨u1, u2⟩
    obtain ⟨x, hx, x1⟩ := cntN_pos.mp u1
    obtain ⟨y, hy, y1⟩ := cntN_pos.mp u2
    have x2 := of_decide_eq_true x1
    have y2 := of_decide_eq_true y1
    have fx : dt (D + 1) f (vX l D x) < 0 := by
      have h1 := hf.1.1 x hx
      have h2 : dt (D + 1) f (vX l D x) ≠ 0 := fun e => by have := (zer x).mp e; omega
      omega
    have fy : dt (D + 1) f (vX l D y) < 0 := by
      have h1 := hf.1.1 y hy
      have h2 : dt (D + 1) f (vX l D y) ≠ 0 := fun e => by have := (zer y).mp e; omega
      omega
    have r1 := rel x
    have r2 := rel y
    rcases Int.lt_or_gt_of_ne Fk with w | w
    · rcases Int.lt_or_gt_of_ne fk with w2 | w2
      · have h1 := Int.mul_pos_of_neg_of_neg fx w
        have h2 := Int.mul_neg_of_neg_of_pos w2 x2
        omega
      · have h1 := Int.mul_pos_of_neg_of_neg fy w
        have h2 := Int.mul_neg_of_pos_of_neg w2 y2
        omega
    · rcases Int.lt_or_gt_of_ne fk with w2 | w2
      · have h1 := Int.mul_neg_of_neg_of_pos fy w
        have h2 := Int.mul_pos_of_neg_of_neg w2 y2
        omega
      · have h1 := Int.mul_neg_of_neg_of_pos fx w
        have h2 := Int.mul_pos w2 x2
        omega
  · intro e
    obtain ⟨x, hx, hxn⟩ := gnz_pt hF hf.1.2
    have h0 : lev (chN (lP l) D p0 p1 p2 p3) (chB (lP l) D p0 p1 p2 p3) (lP l) x ≠ 0 := fun w => hxn ((zer x).mpr w)
    rcases Int.lt_or_gt_of_ne h0 with w | w
    · have : 0 < cntN (dnP (chN (lP l) D p0 p1 p2 p3) (chB (lP l) D p0 p1 p2 p3) (lP l)) l.length := cntN_pos.mpr ⟨x, hx, decide_eq_true w⟩
      omega
    · have : 0 < cntN (upP (chN (lP l) D p0 p1 p2 p3) (chB (lP l) D p0 p1 p2 p3) (lP l)) l.length := cntN_pos.mpr ⟨x, hx, decide_eq_true w⟩
      omega
  · unfold chM zM
    refine mask_ext fun p hp => ?_
    unfold onP
    rw [decide_eq_decide]; exact (zer p).symm
/-- facets as sets of points: where facets' functionals are nothing -/
theorem isFac_iff (ok : okP l D) (hF : gful (D + 1) l.length (vX l D)) {x : Nat} : isFac l D x ↔ ∃ f, gfc (D + 1) l.length (vX l D) f ∧ x = zM l D f := by
  constructor
  · rintro ⟨p0, p1, p2, p3, i, g, rfl⟩
    exact ⟨_, ch_fc i g, ch_zM i⟩
  · rintro ⟨f, hf, rfl⟩
    obtain ⟨p0, p1, p2, p3, i, g, e⟩ := fc_ch ok hF hf
    exact ⟨p0, p1, p2, p3, i, g, e.symm⟩
theorem isFac_ful {x : Nat} (h : isFac l D x) : gful (D + 1) l.length (vX l D) := by
  obtain ⟨p0, p1, p2, p3, i, g, -⟩ := h
  exact ch_ful i g
theorem zM_bit {p : Nat} (hp : p < l.length) : (zM l D f).testBit p = true ↔ dt (D + 1) f (vX l D p) = 0 := by
  unfold zM
  rw [mask_bit, decide_eq_true hp, Bool.true_and, decide_eq_true_eq]
theorem vX_one : gone (D + 1) l.length (vX l D) := ⟨by omega, fun p _ => by
  show (if D + 1 - 1 = D then 1 else _) = 1
  rw [if_pos (by omega)]⟩
/-- some functional parts all points -/
theorem vX_inj (ok : okP l D) (h2 : 2 ≤ l.length) : ginj (D + 1) l.length (vX l D) := by
  have hD := ok.2.2.2.2
  refine ⟨h2, fun k => if k = 0 then 64000000000 else if k = 1 then 16000000 else if k = 2 then 4000 else 1, fun p q hp hq he => ?_⟩
  have pw := List.pairwise_iff_getElem.mp ok.2.1
  have eq : ∀ k, k < 4 → lP l p k = lP l q k := by
    have sm : ∀ r, r < l.length → ∀ k, k < 4 → -999 ≤ lP l r k ∧ lP l r k ≤ 999 := by
      intro r hr k hk
      unfold lP
      rw [lP_at hr]
      exact ok.1 _ (List.getElem_mem hr) k hk
    have p0 := sm p hp 0 (by decide)
    have p1 := sm p hp 1 (by decide)
    have p2 := sm p hp 2 (by decide)
    have p3 := sm p hp 3 (by decide)
    have q0 := sm q hq 0 (by decide)
    have q1 := sm q hq 1 (by decide)
    have q2 := sm q hq 2 (by decide)
    have q3 := sm q hq 3 (by decide)
    rw [dt4 hD, dt4 hD] at he
    have h3 : D = 2 ∨ D = 3 ∨ D = 4 := by omega
    have z : ∀ r k, r < l.length → D ≤ k → k < 4 → lP l r k = 0 := fun r k hr => ok_0 ok hr
    rcases h3 with rfl | rfl | rfl
    · simp [mD] at he
      have a2 := z p 2 hp (by omega) (by omega)
      have a3 := z p 3 hp (by omega) (by omega)
      have b2 := z q 2 hq (by omega) (by omega)
      have b3 := z q 3 hq (by omega) (by omega)
      intro k hk
      match k, hk with
      | 0, _ => omega
      | 1, _ => omega
      | 2, _ => omega
      | 3, _ => omega
    · simp [mD] at he
      have a3 := z p 3 hp (by omega) (by omega)
      have b3 := z q 3 hq (by omega) (by omega)
      intro k hk
      match k, hk with
      | 0, _ => omega
      | 1, _ => omega
      | 2, _ => omega
      | 3, _ => omega
    · simp [mD] at he
      intro k hk
      match k, hk with
      | 0, _ => omega
      | 1, _ => omega
      | 2, _ => omega
      | 3, _ => omega
  have e4 : l[p] = l[q] := by
    have g : ∀ k, k < 4 → co l[p] k = co l[q] k := by
      intro k hk
      have := eq k hk
      unfold lP at this
      rw [lP_at hp, lP_at hq] at this
      exact this
    exact Prod.ext (g 0 (by decide)) (Prod.ext (g 1 (by decide)) (Prod.ext (g 2 (by decide)) (g 3 (by decide))))
  rcases Nat.lt_trichotomy p q with w | w | w
  · exact absurd e4 (pw p q hp hq w)
  · exact w
  · exact absurd e4.symm (pw q p hq hp w)
end LINK3

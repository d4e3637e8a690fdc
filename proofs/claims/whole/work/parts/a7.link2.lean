/-! ===== GEOMETRY: facets are what the choices of points find ===== -/
section LINK2
variable {l : List pt4} {D p0 p1 p2 p3 : Nat}
def cN (u v w : Nat → Int) (k : Nat) : Int := if k = 0 then d3 u v w 1 2 3 else if k = 1 then -d3 u v w 0 2 3 else if k = 2 then d3 u v w 0 1 3 else -d3 u v w 0 1 2
theorem cr_pr {u v w M : Nat → Int} (A : M 0 * u 0 + M 1 * u 1 + M 2 * u 2 + M 3 * u 3 = 0) (B : M 0 * v 0 + M 1 * v 1 + M 2 * v 2 + M 3 * v 3 = 0) (C : M 0 * w 0 + M 1 * w 1 + M 2 * w 2 + M 3 * w 3 = 0) : ∀ i j, i < 4 → j < 4 → M i * cN u v w j = M j * cN u v w i := by
  obtain ⟨h01, h02, h03, h12, h13, h23⟩ := gcross A B C
  intro i j hi' hj
  match i, hi', j, hj with
  | 0, _, 0, _ => rfl
  | 0, _, 1, _ => exact h01
  | 0, _, 2, _ => exact h02
  | 0, _, 3, _ => exact h03
  | 1, _, 0, _ => exact h01.symm
  | 1, _, 1, _ => rfl
  | 1, _, 2, _ => exact h12
  | 1, _, 3, _ => exact h13
  | 2, _, 0, _ => exact h02.symm
  | 2, _, 1, _ => exact h12.symm
  | 2, _, 2, _ => rfl
  | 2, _, 3, _ => exact h23
  | 3, _, 0, _ => exact h03.symm
  | 3, _, 1, _ => exact h13.symm
  | 3, _, 2, _ => exact h23.symm
  | 3, _, 3, _ => rfl
theorem raw_cN {P : Nat → Nat → Int} (hD : 2 ≤ D ∧ D ≤ 4) {k : Nat} (hk : k < 4) : rawN P D p0 p1 p2 p3 k = cN (ap P p0 p1) (dV P D p0 p2) (dW P D p0 p3) k := by
  obtain ⟨h0, h1, h2, h3⟩ := raw_cross (P := P) (p0 := p0) (p1 := p1) (p2 := p2) (p3 := p3) hD
  match k, hk with
  | 0, _ => exact h0
  | 1, _ => exact h1
  | 2, _ => exact h2
  | 3, _ => exact h3
/-- the numbers of a functional that count -/
def mD (D : Nat) (m : Nat → Int) (k : Nat) : Int := if k < D then m k else 0
theorem dt4 (hD : 2 ≤ D ∧ D ≤ 4) {m : Nat → Int} {p : Nat} : dt (D + 1) m (vX l D p) = mD D m 0 * lP l p 0 + mD D m 1 * lP l p 1 + mD D m 2 * lP l p 2 + mD D m 3 * lP l p 3 + m D := by
  have h3 : D = 2 ∨ D = 3 ∨ D = 4 := by omega
  rcases h3 with rfl | rfl | rfl
  · simp [dt, sumZ, vX, mD]
  · simp [dt, sumZ, vX, mD]
  · simp [dt, sumZ, vX, mD]
/-- a functional that is nothing at the points picked -/
theorem pick_pr (hD : 2 ≤ D ∧ D ≤ 4) {m : Nat → Int} (m0 : dt (D + 1) m (vX l D p0) = 0) (m1 : dt (D + 1) m (vX l D p1) = 0) (m2 : 3 ≤ D → dt (D + 1) m (vX l D p2) = 0) (m3 : 4 ≤ D → dt (D + 1) m (vX l D p3) = 0) : ∀ i j, i < 4 → j < 4 → mD D m i * rawN (lP l) D p0 p1 p2 p3 j = mD D m j * rawN (lP l) D p0 p1 p2 p3 i := by
  rw [dt4 hD] at m0 m1
  have A : mD D m 0 * ap (lP l) p0 p1 0 + mD D m 1 * ap (lP l) p0 p1 1 + mD D m 2 * ap (lP l) p0 p1 2 + mD D m 3 * ap (lP l) p0 p1 3 = 0 := by unfold ap; grind
  have B : mD D m 0 * dV (lP l) D p0 p2 0 + mD D m 1 * dV (lP l) D p0 p2 1 + mD D m 2 * dV (lP l) D p0 p2 2 + mD D m 3 * dV (lP l) D p0 p2 3 = 0 := by
    by_cases h3 : 3 ≤ D
    · have := m2 h3
      rw [dt4 hD] at this
      unfold dV
      rw [if_pos h3]
      unfold ap; grind
    · unfold dV
      rw [if_neg h3]
      have : mD D m 2 = 0 := if_neg (by omega)
      simp [this]
  have C : mD D m 0 * dW (lP l) D p0 p3 0 + mD D m 1 * dW (lP l) D p0 p3 1 + mD D m 2 * dW (lP l) D p0 p3 2 + mD D m 3 * dW (lP l) D p0 p3 3 = 0 := by
    by_cases h4 : 4 ≤ D
    · have := m3 h4
      rw [dt4 hD] at this
      unfold dW
      rw [if_pos h4]
      unfold ap; grind
    · unfold dW
      rw [if_neg h4]
      have : mD D m 3 = 0 := if_neg (by omega)
      simp [this]
  intro i j hi' hj
  rw [raw_cN hD hi', raw_cN hD hj]
  exact cr_pr A B C i j hi' hj
theorem cr_0 {u v w : Nat → Int} : (cN u v w 0 * u 0 + cN u v w 1 * u 1 + cN u v w 2 * u 2 + cN u v w 3 * u 3 = 0) ∧ (cN u v w 0 * v 0 + cN u v w 1 * v 1 + cN u v w 2 * v 2 + cN u v w 3 * v 3 = 0) ∧ (cN u v w 0 * w 0 + cN u v w 1 * w 1 + cN u v w 2 * w 2 + cN u v w 3 * w 3 = 0) := by
  have e0 : cN u v w 0 = d3 u v w 1 2 3 := rfl
  have e1 : cN u v w 1 = -d3 u v w 0 2 3 := rfl
  have e2 : cN u v w 2 = d3 u v w 0 1 3 := rfl
  have e3 : cN u v w 3 = -d3 u v w 0 1 2 := rfl
  rw [e0, e1, e2, e3]
  unfold d3
  refine ⟨by grind, by grind, by grind⟩
/-- the points picked lie in their plane -/
theorem pick_on (hD : 2 ≤ D ∧ D ≤ 4) (hz : ∃ k, k < 4 ∧ chN (lP l) D p0 p1 p2 p3 k ≠ 0) : lev (chN (lP l) D p0 p1 p2 p3) (chB (lP l) D p0 p1 p2 p3) (lP l) p0 = 0 ∧ lev (chN (lP l) D p0 p1 p2 p3) (chB (lP l) D p0 p1 p2 p3) (lP l) p1 = 0 ∧ (3 ≤ D → lev (chN (lP l) D p0 p1 p2 p3) (chB (lP l) D p0 p1 p2 p3) (lP l) p2 = 0) ∧ (4 ≤ D → lev (chN (lP l) D p0 p1 p2 p3) (chB (lP l) D p0 p1 p2 p3) (lP l) p3 = 0) := by
  obtain ⟨g, hg, hr⟩ := raw_ch (ch_raw hz)
  have ev : ∀ p, lev (chN (lP l) D p0 p1 p2 p3) (chB (lP l) D p0 p1 p2 p3) (lP l) p = chN (lP l) D p0 p1 p2 p3 0 * ap (lP l) p0 p 0 + chN (lP l) D p0 p1 p2 p3 1 * ap (lP l) p0 p 1 + chN (lP l) D p0 p1 p2 p3 2 * ap (lP l) p0 p 2 + chN (lP l) D p0 p1 p2 p3 3 * ap (lP l) p0 p 3 := by
    intro p
    unfold lev chB ap
    simp only [sumZ]
    grind
  have fin : ∀ u : Nat → Int, rawN (lP l) D p0 p1 p2 p3 0 * u 0 + rawN (lP l) D p0 p1 p2 p3 1 * u 1 + rawN (lP l) D p0 p1 p2 p3 2 * u 2 + rawN (lP l) D p0 p1 p2 p3 3 * u 3 = 0 → chN (lP l) D p0 p1 p2 p3 0 * u 0 + chN (lP l) D p0 p1 p2 p3 1 * u 1 + chN (lP l) D p0 p1 p2 p3 2 * u 2 + chN (lP l) D p0 p1 p2 p3 3 * u 3 = 0 := by
    intro u hu
    rw [hr 0 (by decide), hr 1 (by decide), hr 2 (by decide), hr 3 (by decide)] at hu
    have : g * (chN (lP l) D p0 p1 p2 p3 0 * u 0 + chN (lP l) D p0 p1 p2 p3 1 * u 1 + chN (lP l) D p0 p1 p2 p3 2 * u 2 + chN (lP l) D p0 p1 p2 p3 3 * u 3) = 0 := by grind
    exact (Int.mul_eq_zero.mp this).resolve_left (by omega)
  obtain ⟨q1, q2, q3⟩ := cr_0 (u := ap (lP l) p0 p1) (v := dV (lP l) D p0 p2) (w := dW (lP l) D p0 p3)
  rw [← raw_cN hD (by decide), ← raw_cN hD (by decide), ← raw_cN hD (by decide), ← raw_cN hD (by decide)] at q1 q2 q3
  refine ⟨?_, ?_, fun h3 => ?_, fun h4 => ?_⟩
  · rw [ev]; unfold ap; grind
  · rw [ev]; exact fin _ q1
  · rw [ev]
    have := fin _ q2
    unfold dV at this
    rw [if_pos h3] at this; exact this
  · rw [ev]
    have := fin _ q3
    unfold dW at this
    rw [if_pos h4] at this; exact this
/-- all functionals that are nothing at the points picked go with the plane's -/
theorem pick_gpr (hD : 2 ≤ D ∧ D ≤ 4) (hz : ∃ k, k < 4 ∧ chN (lP l) D p0 p1 p2 p3 k ≠ 0) {m : Nat → Int} (m0 : dt (D + 1) m (vX l D p0) = 0) (m1 : dt (D + 1) m (vX l D p1) = 0) (m2 : 3 ≤ D → dt (D + 1) m (vX l D p2) = 0) (m3 : 4 ≤ D → dt (D + 1) m (vX l D p3) = 0) : gpr (D + 1) m (pF D (chN (lP l) D p0 p1 p2 p3) (chB (lP l) D p0 p1 p2 p3)) := by
  obtain ⟨g, hg, hr⟩ := raw_ch (ch_raw hz)
  have h1 := pick_pr hD m0 m1 m2 m3
  have key : ∀ i j, i < 4 → j < 4 → mD D m i * chN (lP l) D p0 p1 p2 p3 j = mD D m j * chN (lP l) D p0 p1 p2 p3 i := by
    intro i j hi' hj
    have h2 := h1 i j hi' hj
    rw [hr i hi', hr j hj] at h2
    have : g * (mD D m i * chN (lP l) D p0 p1 p2 p3 j - mD D m j * chN (lP l) D p0 p1 p2 p3 i) = 0 := by grind
    have := (Int.mul_eq_zero.mp this).resolve_left (by omega)
    omega
  have mm : ∀ i, i < D → mD D m i = m i := fun i hi' => if_pos hi'
  rw [dt4 hD] at m0
  have last : ∀ j, j < D → m D * chN (lP l) D p0 p1 p2 p3 j = m j * -chB (lP l) D p0 p1 p2 p3 := by
    intro j hj
    have k0 := key 0 j (by decide) (by omega)
    have k1 := key 1 j (by decide) (by omega)
    have k2 := key 2 j (by decide) (by omega)
    have k3 := key 3 j (by decide) (by omega)
    rw [mm j hj] at k0 k1 k2 k3
    have eb : chB (lP l) D p0 p1 p2 p3 = chN (lP l) D p0 p1 p2 p3 0 * lP l p0 0 + chN (lP l) D p0 p1 p2 p3 1 * lP l p0 1 + chN (lP l) D p0 p1 p2 p3 2 * lP l p0 2 + chN (lP l) D p0 p1 p2 p3 3 * lP l p0 3 := by
      unfold chB
      simp only [sumZ]
      omega
    rw [eb]
    grind
  intro i j hi' hj
  unfold pF
  by_cases ei : i = D
  · by_cases ej : j = D
    · rw [ei, ej]
    · rw [ei, if_pos rfl, if_neg ej]; exact last j (by omega)
  · by_cases ej : j = D
    · rw [ej, if_pos rfl, if_neg ei]; exact (last i (by omega)).symm
    · rw [if_neg ei, if_neg ej, ← mm i (by omega), ← mm j (by omega)]
      exact key i j (by omega) (by omega)
/-- the functional of a plane that was found -/
def oF (D : Nat) (Q : Nat → Int) : Nat → Int := pF D Q (Q 4)
theorem chQ_eq {n k : Nat} : chQ (lP l) n D p0 p1 p2 p3 k = (if 0 < cntN (upP (chN (lP l) D p0 p1 p2 p3) (chB (lP l) D p0 p1 p2 p3) (lP l)) n then -1 else 1) * plN (chN (lP l) D p0 p1 p2 p3) (chB (lP l) D p0 p1 p2 p3) k := by
  unfold chQ kpQ
  split <;> omega
theorem chQ_lev {n p : Nat} : lev (chQ (lP l) n D p0 p1 p2 p3) (chQ (lP l) n D p0 p1 p2 p3 4) (lP l) p = (if 0 < cntN (upP (chN (lP l) D p0 p1 p2 p3) (chB (lP l) D p0 p1 p2 p3) (lP l)) n then -1 else 1) * lev (chN (lP l) D p0 p1 p2 p3) (chB (lP l) D p0 p1 p2 p3) (lP l) p := by
  unfold lev
  rw [Int.mul_sub, ← sumZ_mul]
  congr 1
  · refine sumZ_ext fun k hk => ?_
    rw [chQ_eq]
    unfold plN
    rw [if_neg (show ¬ k = 4 by omega), Int.mul_assoc]
  · rw [chQ_eq]; rfl
theorem chQ_dt (hD : 2 ≤ D ∧ D ≤ 4) {n p : Nat} : dt (D + 1) (oF D (chQ (lP l) n D p0 p1 p2 p3)) (vX l D p) = lev (chQ (lP l) n D p0 p1 p2 p3) (chQ (lP l) n D p0 p1 p2 p3 4) (lP l) p := by
  refine pF_dt hD.2 fun k h1 h2 => ?_
  rw [chQ_eq]
  unfold plN
  rw [if_neg (show ¬ k = 4 by omega), chN_0 hD.1 h1 h2, Int.mul_zero]
/-- what a choice finds: no points are beyond, some are not on it -/
theorem ch_val {n : Nat} (g : chG (lP l) n D p0 p1 p2 p3) : (∀ p, p < n → lev (chQ (lP l) n D p0 p1 p2 p3) (chQ (lP l) n D p0 p1 p2 p3 4) (lP l) p ≤ 0) ∧ ∃ p, p < n ∧ lev (chN (lP l) D p0 p1 p2 p3) (chB (lP l) D p0 p1 p2 p3) (lP l) p ≠ 0 := by
  obtain ⟨hz, s1, s2⟩ := g
  constructor
  · intro p hp
    rw [chQ_lev]
    by_cases hu : 0 < cntN (upP (chN (lP l) D p0 p1 p2 p3) (chB (lP l) D p0 p1 p2 p3) (lP l)) n
    · rw [if_pos hu]
      have : ¬ lev (chN (lP l) D p0 p1 p2 p3) (chB (lP l) D p0 p1 p2 p3) (lP l) p < 0 := fun z => s1 ⟨hu, cntN_pos.mpr ⟨p, hp, decide_eq_true z⟩⟩
      omega
    · rw [if_neg hu]
      have : ¬ 0 < lev (chN (lP l) D p0 p1 p2 p3) (chB (lP l) D p0 p1 p2 p3) (lP l) p := fun z => hu (cntN_pos.mpr ⟨p, hp, decide_eq_true z⟩)
      omega
  · refine Classical.byContradiction fun z => s2 ?_
    have h0 : ∀ p, p < n → lev (chN (lP l) D p0 p1 p2 p3) (chB (lP l) D p0 p1 p2 p3) (lP l) p = 0 := fun p hp => Classical.byContradiction fun w => z ⟨p, hp, w⟩
    rw [cntN_0 fun k hk hk2 => by have := of_decide_eq_true hk2; have := h0 k hk; omega, cntN_0 fun k hk hk2 => by have := of_decide_eq_true hk2; have := h0 k hk; omega]
theorem ch_0 {n p : Nat} : lev (chQ (lP l) n D p0 p1 p2 p3) (chQ (lP l) n D p0 p1 p2 p3 4) (lP l) p = 0 ↔ lev (chN (lP l) D p0 p1 p2 p3) (chB (lP l) D p0 p1 p2 p3) (lP l) p = 0 := by
  rw [chQ_lev]
  split <;> omega
theorem inc_pts {n : Nat} (i : inc n D p0 p1 p2 p3) : p0 < n ∧ p1 < n ∧ (3 ≤ D → p2 < n) ∧ (4 ≤ D → p3 < n) := i.lt
theorem ch_ful (i : inc l.length D p0 p1 p2 p3) (g : chG (lP l) l.length D p0 p1 p2 p3) : gful (D + 1) l.length (vX l D) := by
  intro m hm
  obtain ⟨l0, l1, l2, l3⟩ := inc_pts i
  have h1 := pick_gpr i.1 g.1 (hm _ l0) (hm _ l1) (fun z => hm _ (l2 z)) (fun z => hm _ (l3 z))
  obtain ⟨p, hp, hne⟩ := (ch_val g).2
  intro j hj
  have h2 := gpr_dt h1 (x := vX l D p) hj
  rw [hm p hp, Int.zero_mul, pF_dt i.1.2 (fun k h1 h2 => chN_0 i.1.1 h1 h2)] at h2
  exact (Int.mul_eq_zero.mp h2.symm).resolve_right hne
theorem ch_fc (i : inc l.length D p0 p1 p2 p3) (g : chG (lP l) l.length D p0 p1 p2 p3) : gfc (D + 1) l.length (vX l D) (oF D (chQ (lP l) l.length D p0 p1 p2 p3)) := by
  obtain ⟨l0, l1, l2, l3⟩ := inc_pts i
  obtain ⟨o0, o1, o2, o3⟩ := pick_on i.1 g.1
  obtain ⟨v1, p, hp, hne⟩ := ch_val g
  refine ⟨⟨fun p hp => by rw [chQ_dt i.1]; exact v1 p hp, gnz_of (x := vX l D p) (by rw [chQ_dt i.1]; exact fun z => hne (ch_0.mp z))⟩, fun m hm => ?_⟩
  have on : ∀ p, p < l.length → lev (chN (lP l) D p0 p1 p2 p3) (chB (lP l) D p0 p1 p2 p3) (lP l) p = 0 → dt (D + 1) m (vX l D p) = 0 := fun p hp h0 => hm p hp (by rw [chQ_dt i.1]; exact ch_0.mpr h0)
  have h1 := pick_gpr i.1 g.1 (on _ l0 o0) (on _ l1 o1) (fun z => on _ (l2 z) (o2 z)) (fun z => on _ (l3 z) (o3 z))
  have e : ∀ j, j < D + 1 → oF D (chQ (lP l) l.length D p0 p1 p2 p3) j = (if 0 < cntN (upP (chN (lP l) D p0 p1 p2 p3) (chB (lP l) D p0 p1 p2 p3) (lP l)) l.length then -1 else 1) * pF D (chN (lP l) D p0 p1 p2 p3) (chB (lP l) D p0 p1 p2 p3) j := by
    intro j hj
    have := i.1
    unfold oF pF
    by_cases ej : j = D
    · rw [if_pos ej, if_pos ej, chQ_eq]
      show -(_ * plN _ _ 4) = _ * -(_)
      rw [Int.mul_neg]; rfl
    · rw [if_neg ej, if_neg ej, chQ_eq]
      unfold plN
      rw [if_neg (show ¬ j = 4 by omega)]
  intro a b ha hb
  rw [e a ha, e b hb, Int.mul_left_comm, h1 a b ha hb, Int.mul_left_comm]
/-- the set where a functional is nothing -/
def zM (l : List pt4) (D : Nat) (f : Nat → Int) : Nat := mask (fun p => decide (dt (D + 1) f (vX l D p) = 0)) l.length
theorem ch_zM (i : inc l.length D p0 p1 p2 p3) : chM (lP l) l.length D p0 p1 p2 p3 = zM l D (oF D (chQ (lP l) l.length D p0 p1 p2 p3)) := by
  unfold chM zM
  refine mask_ext fun p hp => ?_
  unfold onP
  rw [decide_eq_decide, chQ_dt i.1]; exact ch_0.symm
end LINK2

/-! ===== GEOMETRY: a body of points, its facets, faces and edges ===== -/
section BDY
variable {l : List pt4} {D m : Nat} {S : Nat → Nat} {G : Nat → Nat → Int}
theorem isFac_lt (ok : okP l D) {x : Nat} (h : isFac l D x) : x < 65536 := by
  obtain ⟨p0, p1, p2, p3, i, g, rfl⟩ := h
  exact Nat.lt_of_lt_of_le (mask_lt _ _) (show 2 ^ l.length ≤ 2 ^ 16 from Nat.pow_le_pow_right (by decide) ok.2.2.1)
theorem cntN_at {p : Nat → Bool} {a b : Nat} (ha : p a = true) (hb : p b = true) (e : cntN p a = cntN p b) : a = b := by
  rcases Nat.lt_trichotomy a b with w | w | w
  · have := cntN_lt (p := p) w ha; omega
  · exact w
  · have := cntN_lt (p := p) w hb; omega
theorem facL_ex (ok : okP l D) (so : solid l D) : ∃ f S Q, 0 < f ∧ facL l D f S Q := by
  obtain ⟨P, eP⟩ : ∃ P : Nat → Bool, P = fun x => tB (isFac l D x) := ⟨_, rfl⟩
  have hP : ∀ x, P x = true ↔ isFac l D x := fun x => by rw [eP]; exact tB_iff
  obtain ⟨f, ef⟩ : ∃ f, f = cntN P 65536 := ⟨_, rfl⟩
  obtain ⟨S, hS⟩ : ∃ S : Nat → Nat, ∀ j, j < f → S j < 65536 ∧ P (S j) = true ∧ cntN P (S j) = j := by
    have : ∀ j, ∃ x, j < f → x < 65536 ∧ P x = true ∧ cntN P x = j := by
      intro j
      by_cases hj : j < f
      · rw [ef] at hj
        obtain ⟨k, h1, h2, h3, -⟩ := pickN_get P hj
        exact ⟨k, fun _ => ⟨h1, h2, h3⟩⟩
      · exact ⟨0, fun z => absurd z hj⟩
    exact Classical.axiomOfChoice this
  obtain ⟨Q, hQ⟩ : ∃ Q : Nat → Nat → Int, ∀ j, j < f → ∃ c0 c1 c2 c3, inc l.length D c0 c1 c2 c3 ∧ chG (lP l) l.length D c0 c1 c2 c3 ∧ S j = chM (lP l) l.length D c0 c1 c2 c3 ∧ ∀ k, Q j k = chQ (lP l) l.length D c0 c1 c2 c3 k := by
    have : ∀ j, ∃ q : Nat → Int, j < f → ∃ c0 c1 c2 c3, inc l.length D c0 c1 c2 c3 ∧ chG (lP l) l.length D c0 c1 c2 c3 ∧ S j = chM (lP l) l.length D c0 c1 c2 c3 ∧ ∀ k, q k = chQ (lP l) l.length D c0 c1 c2 c3 k := by
      intro j
      by_cases hj : j < f
      · obtain ⟨p0, p1, p2, p3, i, g, e⟩ := (hP _).mp (hS j hj).2.1
        exact ⟨chQ (lP l) l.length D p0 p1 p2 p3, fun _ => ⟨p0, p1, p2, p3, i, g, e, fun _ => rfl⟩⟩
      · exact ⟨fun _ => 0, fun z => absurd z hj⟩
    exact Classical.axiomOfChoice this
  have cov : ∀ x, isFac l D x → ∃ j, j < f ∧ S j = x := by
    intro x hx
    have h1 := isFac_lt ok hx
    have h2 : cntN P x < f := by rw [ef]; exact cntN_lt h1 ((hP x).mpr hx)
    refine ⟨cntN P x, h2, ?_⟩
    obtain ⟨-, a, b⟩ := hS _ h2
    exact cntN_at a ((hP x).mpr hx) b
  refine ⟨f, S, Q, ?_, ⟨hQ, fun i j h1 h2 e => ?_⟩, fun c0 c1 c2 c3 i g => cov _ ⟨c0, c1, c2, c3, i, g, rfl⟩⟩
  · obtain ⟨-, p0, p1, p2, p3, i, g⟩ := so
    obtain ⟨j, hj, -⟩ := cov _ ⟨p0, p1, p2, p3, i, g, rfl⟩
    omega
  · have a := (hS i (by omega)).2.2
    have b := (hS j h2).2.2
    rw [e] at a
    omega
/-- a body's facets, all of them -/
def bdG (l : List pt4) (D m : Nat) (S : Nat → Nat) (G : Nat → Nat → Int) : Prop := 0 < m ∧ fcG l D m S G ∧ ∀ x, isFac l D x ↔ ∃ j, j < m ∧ S j = x
theorem bdG_ex (ok : okP l D) (so : solid l D) : ∃ m S G, bdG l D m S G := by
  obtain ⟨f, S, Q, h0, fl⟩ := facL_ex ok so
  obtain ⟨G, g⟩ := fcG_of ok fl.1 h0
  exact ⟨f, S, G, h0, g, fun x => facL_iff fl⟩
theorem bdG.fcI (b : bdG l D m S G) {x : Nat} : isFc l D x ↔ ∃ j, j < m ∧ x = fcs l D S j := by
  constructor
  · rintro ⟨y, hy, rfl⟩
    obtain ⟨j, hj, e⟩ := (b.2.2 y).mp hy
    exact ⟨j, hj, by unfold fcs; rw [e]⟩
  · rintro ⟨j, hj, rfl⟩
    exact ⟨S j, (b.2.2 _).mpr ⟨j, hj, rfl⟩, rfl⟩
theorem bdG.all (ok : okP l D) (b : bdG l D m S G) {f : Nat → Int} (hf : gfc (D + 1) (ncr l D) (cX l D) f) : ∃ j, j < m ∧ gzi (D + 1) (ncr l D) (cX l D) f (G j) ∧ gzi (D + 1) (ncr l D) (cX l D) (G j) f := by
  obtain ⟨-, ⟨⟨hF, h2, hG⟩, -⟩, hc⟩ := b
  have hk := geo_cr ok hF
  have hf' := (gcr_fc vX_one (vX_inj ok h2) hk).mp hf
  obtain ⟨j, hj, e⟩ := (hc _).mp ((isFac_iff ok hF).mpr ⟨f, hf', rfl⟩)
  refine ⟨j, hj, fun c hc h0 => ?_, fun c hc h0 => ?_⟩
  · have hp := (kap_spec hc).1
    have : (S j).testBit (kap l D c) = true := by rw [e]; exact (zM_bit hp).mpr h0
    rw [(hG j hj).2] at this
    exact (zM_bit hp).mp this
  · have hp := (kap_spec hc).1
    have : (S j).testBit (kap l D c) = true := by rw [(hG j hj).2]; exact (zM_bit hp).mpr h0
    rw [e] at this
    exact (zM_bit hp).mp this
theorem bdG.P (b : bdG l D m S G) : gP (D + 1) (ncr l D) (cX l D) := b.2.1.2.1
theorem bdG.fm (b : bdG l D m S G) : fam (D + 1) (ncr l D) (cX l D) m G := b.2.1.2.2.1
theorem bdG.n16 (b : bdG l D m S G) : ncr l D ≤ 16 := b.2.1.2.2.2
theorem bdG.bit (b : bdG l D m S G) {a c : Nat} (ha : a < m) : (fcs l D S a).testBit c = true ↔ c < ncr l D ∧ dt (D + 1) (G a) (cX l D c) = 0 := fcs_bit b.2.1 ha
/-- each facet has D corners at least, a body D and 1 -/
theorem bdG.card (b : bdG l D m S G) {a : Nat} (ha : a < m) : D ≤ pop (fcs l D S a) 16 := by
  have h1 := b.fm.card b.P ha
  rw [(pop_16 b.2.1 ha (fun c h => h)).2, cntN_ext (q := fun v => gIn (D + 1) (cX l D) G a v) fun c hc => by
    rw [Bool.eq_iff_iff, b.bit ha, gIn_iff]; exact ⟨fun z => z.2, fun z => ⟨hc, z⟩⟩]
  omega
theorem bdG.nc (b : bdG l D m S G) : D < ncr l D := by
  have h1 := fct_card b.P.1 (b.fm.1 0 b.1)
  obtain ⟨w, hw, hne⟩ := gnz_pt b.P.1 (b.fm.1 0 b.1).1.2
  have h2 := cntN_ltq (n := ncr l D) (p := fun p => decide (dt (D + 1) (G 0) (cX l D p) = 0)) (q := fun _ => true) (fun _ _ _ => rfl) ⟨w, hw, rfl, fun z => hne (of_decide_eq_true z)⟩
  have h3 := cntN_le (p := fun _ => true) (n := ncr l D)
  omega
/-- where a functional is greatest is a meet -/
theorem bdG.meet (ok : okP l D) (b : bdG l D m S G) {f : Nat → Int} (hv : gval (D + 1) (ncr l D) (cX l D) f) (hn : gnz (D + 1) f) {y : Nat} (hy : ∀ c, y.testBit c = true ↔ c < ncr l D ∧ dt (D + 1) f (cX l D c) = 0) (h0 : y ≠ 0) : MeetP (isFc l D) y := by
  have sub : ∀ {j}, gzi (D + 1) (ncr l D) (cX l D) f (G j) → j < m → y &&& fcs l D S j = y := fun {j} hz hj => sub_iff.mpr fun c hc => (b.bit hj).mpr ⟨((hy c).mp hc).1, hz c ((hy c).mp hc).1 ((hy c).mp hc).2⟩
  have far : ∀ x : Nat, x < ncr l D → dt (D + 1) f (cX l D x) ≠ 0 → ∃ j, j < m ∧ gzi (D + 1) (ncr l D) (cX l D) f (G j) ∧ dt (D + 1) (G j) (cX l D x) ≠ 0 := by
    intro x hx hne
    obtain ⟨g, g1, g2, g3⟩ := facet_neg b.P.1 hv hn (show dt (D + 1) f (cX l D x) < 0 by have := hv x hx; omega)
    obtain ⟨j, hj, z1, z2⟩ := b.all ok g1
    exact ⟨j, hj, fun p hp h => z1 p hp (g2 p hp h), fun h => by have := z2 x hx h; omega⟩
  refine ⟨h0, ?_, fun c hc hall => ?_⟩
  · obtain ⟨x, hx, hne⟩ := gnz_pt b.P.1 hn
    obtain ⟨j, hj, hz, -⟩ := far x hx hne
    exact ⟨fcs l D S j, b.fcI.mpr ⟨j, hj, rfl⟩, sub hz hj⟩
  · obtain ⟨x0, hx0, hn0⟩ := gnz_pt b.P.1 hn
    obtain ⟨j0, hj0, hz0, -⟩ := far x0 hx0 hn0
    have hlt := ((b.bit hj0).mp (hall _ (b.fcI.mpr ⟨j0, hj0, rfl⟩) (sub hz0 hj0))).1
    refine (hy c).mpr ⟨hlt, Classical.byContradiction fun hne => ?_⟩
    obtain ⟨j, hj, hz, h1⟩ := far c hlt hne
    exact h1 ((b.bit hj).mp (hall _ (b.fcI.mpr ⟨j, hj, rfl⟩) (sub hz hj))).2
/-- a meet is where some functional is greatest -/
theorem bdG.val (b : bdG l D m S G) {y : Nat} (hy : MeetP (isFc l D) y) : ∃ f, gval (D + 1) (ncr l D) (cX l D) f ∧ gnz (D + 1) f ∧ ∀ c, y.testBit c = true ↔ c < ncr l D ∧ dt (D + 1) f (cX l D c) = 0 := by
  obtain ⟨h0, ⟨x, hx, hxy⟩, hall⟩ := hy
  obtain ⟨j0, hj0, rfl⟩ := b.fcI.mp hx
  have h16 := b.n16
  obtain ⟨f, ef⟩ : ∃ f : Nat → Int, f = fun k => sumZ (fun j => (if y &&& fcs l D S j = y then 1 else 0) * G j k) m := ⟨_, rfl⟩
  have fd : ∀ z, dt (D + 1) f z = sumZ (fun j => (if y &&& fcs l D S j = y then 1 else 0) * dt (D + 1) (G j) z) m := fun z => by rw [ef]; exact dt_sumL
  have le : ∀ c, c < ncr l D → ∀ j, j < m → (if y &&& fcs l D S j = y then 1 else 0) * dt (D + 1) (G j) (cX l D c) ≤ 0 := by
    intro c hc j hj
    have := (b.fm.1 j hj).1.1 c hc
    split <;> omega
  have neg : ∀ c, c < ncr l D → ∀ j, j < m → y &&& fcs l D S j = y → dt (D + 1) (G j) (cX l D c) ≠ 0 → dt (D + 1) f (cX l D c) < 0 := by
    intro c hc j hj hs hne
    rw [fd]
    refine sumZ_neg (le c hc) ⟨j, hj, ?_⟩
    have := (b.fm.1 j hj).1.1 c hc
    rw [if_pos hs]; omega
  refine ⟨f, fun c hc => ?_, ?_, fun c => ⟨fun hc => ?_, fun hc => ?_⟩⟩
  · rw [fd]
    have : ∀ k, k ≤ m → sumZ (fun j => (if y &&& fcs l D S j = y then 1 else 0) * dt (D + 1) (G j) (cX l D c)) k ≤ 0 := by
      intro k
      induction k with
      | zero => intro _; exact Int.le_refl _
      | succ k ih => intro hk; have h1 := ih (by omega); have h2 := le c hc k (by omega); rw [sumZ]; omega
    exact this m (Nat.le_refl _)
  · obtain ⟨w, hw, hne⟩ := gnz_pt b.P.1 (b.fm.1 j0 hj0).1.2
    have := neg w hw j0 hj0 hxy hne
    exact gnz_of (x := cX l D w) (by omega)
  · have h1 := (b.bit hj0).mp (sub_iff.mp hxy c hc)
    refine ⟨h1.1, ?_⟩
    rw [fd]
    refine sumZ_0 fun j hj => ?_
    by_cases hs : y &&& fcs l D S j = y
    · rw [((b.bit hj).mp (sub_iff.mp hs c hc)).2, Int.mul_zero]
    · rw [if_neg hs, Int.zero_mul]
  · refine hall c (by omega) fun x hx hs => ?_
    obtain ⟨j, hj, rfl⟩ := b.fcI.mp hx
    refine (b.bit hj).mpr ⟨hc.1, Classical.byContradiction fun hne => ?_⟩
    have := neg c hc.1 j hj hs hne
    omega
/-- in the plane a facet has two corners -/
theorem bdG.two (b : bdG l 2 m S G) {a : Nat} (ha : a < m) : pop (fcs l 2 S a) 16 = 2 := by
  have h1 := b.card ha
  rcases Nat.lt_or_ge 2 (pop (fcs l 2 S a) 16) with z | z
  · exfalso
    rw [(pop_16 b.2.1 ha (fun c h => h)).2] at z
    obtain ⟨v, u, w, h1, h2, h3, h4, h5, h6, h7, h8, h9⟩ := three_of (show 3 ≤ cntN (fun c => (fcs l 2 S a).testBit c) (ncr l 2) by omega)
    obtain ⟨c, ⟨i, hi', hne⟩, hx⟩ := dimL (s := 1) (g := fun _ => G a) (b.P.i3 h1 h2 h3 h4 h5 h6) (by decide) (fun i j hi' hj => tw3 ((b.bit ha).mp h7).2 ((b.bit ha).mp h8).2 ((b.bit ha).mp h9).2 j hj)
    obtain ⟨y, hy, hyn⟩ := gnz_pt b.P.1 (b.fm.1 a ha).1.2
    have := hx (cX l 2 y)
    rw [sumZ, sumZ, Int.zero_add] at this
    have e : i = 0 := by omega
    rw [e] at hne
    rcases Int.mul_eq_zero.mp this with w | w
    · exact hne w
    · exact hyn w
  · omega
/-- two corners as a set -/
theorem pair_bit {a c x : Nat} : (2 ^ a ||| 2 ^ c).testBit x = true ↔ x = a ∨ x = c := by
  rw [Nat.testBit_or, Bool.or_eq_true, Nat.testBit_two_pow, Nat.testBit_two_pow, decide_eq_true_eq, decide_eq_true_eq]
  exact ⟨fun h => h.imp Eq.symm Eq.symm, fun h => h.imp Eq.symm Eq.symm⟩
theorem pair_pop {a c : Nat} (ha : a < 16) (hc : c < 16) (h : a ≠ c) : pop (2 ^ a ||| 2 ^ c) 16 = 2 := by
  have h1 : 2 ≤ pop (2 ^ a ||| 2 ^ c) 16 := by
    have q1 : cntN (fun x => decide (x = a)) 16 < pop (2 ^ a ||| 2 ^ c) 16 := cntN_ltq (fun k _ hk => pair_bit.mpr (Or.inl (of_decide_eq_true hk))) ⟨c, hc, pair_bit.mpr (Or.inr rfl), fun z => h (of_decide_eq_true z).symm⟩
    have q2 : 0 < cntN (fun x => decide (x = a)) 16 := cntN_pos.mpr ⟨a, ha, decide_eq_true rfl⟩
    omega
  have h2 : pop (2 ^ a ||| 2 ^ c) 16 ≤ 2 := cntN_le2 fun i j k q1 q2 q3 q4 => by
    have w1 := pair_bit.mp q4.1
    have w2 := pair_bit.mp q4.2.1
    have w3 := pair_bit.mp q4.2.2
    omega
  omega
/-- edges of the graph are cells of 1 -/
theorem bdG.edge (ok : okP l D) (b : bdG l D m S G) {a c : Nat} (ha : a < ncr l D) (hc : c < ncr l D) (hac : a ≠ c) : gE (D + 1) (ncr l D) (cX l D) a c ↔ isCl l D 1 (2 ^ a ||| 2 ^ c) := by
  have hD := ok.2.2.2.2
  have h16 := b.n16
  have hnc := b.nc
  have hp := pair_pop (show a < 16 by omega) (show c < 16 by omega) hac
  have hp24 : pop (2 ^ a ||| 2 ^ c) 24 = 2 := by
    have : pop (2 ^ a ||| 2 ^ c) 24 = pop (2 ^ a ||| 2 ^ c) 16 := cntN_cut (by decide) fun k h1 _ h3 => by have := pair_bit.mp h3; omega
    omega
  have h0 : 2 ^ a ||| 2 ^ c ≠ 0 := fun e => by rw [e] at hp; exact absurd hp (by decide)
  constructor
  · rintro ⟨e, e1, e2⟩
    have bits : ∀ x, (2 ^ a ||| 2 ^ c).testBit x = true ↔ x < ncr l D ∧ dt (D + 1) e (cX l D x) = 0 := by
      intro x
      rw [pair_bit]
      constructor
      · intro h
        have hx : x < ncr l D := by omega
        exact ⟨hx, (e2 x hx).mpr h⟩
      · rintro ⟨h1, h2⟩; exact (e2 x h1).mp h2
    have nz : gnz (D + 1) e := by
      obtain ⟨w, w1, w2, w3, w4⟩ := cntN_ex2 (p := fun _ => true) (n := ncr l D) (by
        have : cntN (fun _ => true) (ncr l D) = ncr l D := by
          have : ∀ n, cntN (fun _ => true) n = n := by
            intro n
            induction n with
            | zero => rfl
            | succ n ih => rw [cntN, ih]; rfl
          exact this _
        omega) a c
      exact gnz_of (x := cX l D w) fun h => by rcases (e2 w w1).mp h with h | h; exact w3 h; exact w4 h
    have mt := b.meet ok e1 nz bits h0
    by_cases e2' : D = 2
    · subst e2'
      refine Or.inl ⟨rfl, ?_⟩
      have fc : gfc 3 (ncr l 2) (cX l 2) e := by
        refine ⟨⟨e1, nz⟩, fun m' hm => ?_⟩
        obtain ⟨y, hy, hyn⟩ := gnz_pt b.P.1 nz
        have z : ∀ x : Nat → Int, dt 3 e (cX l 2 y) * dt 3 m' x = dt 3 m' (cX l 2 y) * dt 3 e x := by
          obtain ⟨k, ⟨i, hi', hne⟩, hx⟩ := dimL (s := 2) (g := t2 e m') (b.P.i2 ha hc hac) (by decide) (fun i j hi' hj => by
            match i, hi' with
            | 0, _ => exact tw2 ((bits a).mp (pair_bit.mpr (Or.inl rfl))).2 ((bits c).mp (pair_bit.mpr (Or.inr rfl))).2 j hj
            | 1, _ => exact tw2 (hm a ha ((bits a).mp (pair_bit.mpr (Or.inl rfl))).2) (hm c hc ((bits c).mp (pair_bit.mpr (Or.inr rfl))).2) j hj)
          have ev : ∀ x, k 0 * dt 3 e x + k 1 * dt 3 m' x = 0 := fun x => by simpa [sumZ, t2] using hx x
          have k1 : k 1 ≠ 0 := by
            intro z1
            have h1 := ev (cX l 2 y)
            rw [z1, Int.zero_mul, Int.add_zero] at h1
            have k0 : k 0 = 0 := (Int.mul_eq_zero.mp h1).resolve_right hyn
            match i, hi' with
            | 0, _ => exact hne k0
            | 1, _ => exact hne z1
          intro x
          have h1 := ev x
          have h2 := ev (cX l 2 y)
          have : k 1 * (dt 3 e (cX l 2 y) * dt 3 m' x - dt 3 m' (cX l 2 y) * dt 3 e x) = 0 := by grind
          have := (Int.mul_eq_zero.mp this).resolve_left k1
          omega
        intro i j hi' hj
        have zi := z (fun k => if k = i then 1 else 0)
        have zj := z (fun k => if k = j then 1 else 0)
        rw [dt_unit hi', dt_unit hi'] at zi
        rw [dt_unit hj, dt_unit hj] at zj
        have : dt 3 e (cX l 2 y) * (m' i * e j - m' j * e i) = 0 := by grind
        have := (Int.mul_eq_zero.mp this).resolve_left hyn
        omega
      obtain ⟨j, hj, z1, z2⟩ := b.all ok fc
      refine b.fcI.mpr ⟨j, hj, Nat.eq_of_testBit_eq fun x => ?_⟩
      rw [Bool.eq_iff_iff, bits, b.bit hj]
      exact ⟨fun h => ⟨h.1, z1 x h.1 h.2⟩, fun h => ⟨h.1, z2 x h.1 h.2⟩⟩
    · refine Or.inr ⟨by omega, mt, fun h => ?_, ?_⟩
      · obtain ⟨j, hj, e⟩ := b.fcI.mp h
        have := b.card hj
        rw [← e] at this
        omega
      · unfold kindOf
        rw [hp24]; rfl
  · intro h
    have mt : MeetP (isFc l D) (2 ^ a ||| 2 ^ c) := by
      rcases h with h | h
      · obtain ⟨j, hj, e⟩ := b.fcI.mp h.2
        exact b.meet ok (b.fm.1 j hj).1.1 (b.fm.1 j hj).1.2 (fun x => by rw [e]; exact b.bit hj) h0
      · exact h.2.1
    obtain ⟨f, f1, f2, f3⟩ := b.val mt
    refine ⟨f, f1, fun x hx => ?_⟩
    rw [← pair_bit, f3]
    exact ⟨fun h => ⟨hx, h⟩, fun h => h.2⟩
/-- a cell of 1 has two corners -/
theorem bdG.edge2 (ok : okP l D) (b : bdG l D m S G) {y : Nat} (hy : isCl l D 1 y) : ∃ a c, a < c ∧ c < ncr l D ∧ y = 2 ^ a ||| 2 ^ c := by
  have hD := ok.2.2.2.2
  have h16 := b.n16
  obtain ⟨j, hj, hs, h2⟩ : ∃ j, j < m ∧ (∀ c, y.testBit c = true → (fcs l D S j).testBit c = true) ∧ pop y 16 = 2 := by
    rcases hy with ⟨e, h⟩ | ⟨h1, mt, -, hk⟩
    · have eD : D = 2 := by omega
      subst eD
      obtain ⟨j, hj, e⟩ := b.fcI.mp h
      exact ⟨j, hj, fun c hc => by rw [← e]; exact hc, by rw [e]; exact b.two hj⟩
    · obtain ⟨x, hx, hs⟩ := mt.2.1
      obtain ⟨j, hj, rfl⟩ := b.fcI.mp hx
      have hsub := sub_iff.mp hs
      have hp := (pop_16 b.2.1 hj hsub).1
      refine ⟨j, hj, hsub, ?_⟩
      unfold kindOf at hk
      rw [hp] at hk
      split at hk <;> omega
  rw [(pop_16 b.2.1 hj hs).2] at h2
  obtain ⟨v, u, h3, h4, h5, h6, h7⟩ := two_of (show 2 ≤ cntN (fun c => y.testBit c) (ncr l D) by omega)
  have key : ∀ {v u}, v < ncr l D → u < ncr l D → v ≠ u → y.testBit v = true → y.testBit u = true → y = 2 ^ v ||| 2 ^ u := by
    intro v u h3 h4 h5 h6 h7
    refine Nat.eq_of_testBit_eq fun x => ?_
    rw [Bool.eq_iff_iff, pair_bit]
    constructor
    · intro hx
      refine Classical.byContradiction fun hne => ?_
      have hxn := ((b.bit hj).mp (hs x hx)).1
      have := cntN_3 (n := ncr l D) h3 h4 hxn h5 (fun z => hne (Or.inl z.symm)) (fun z => hne (Or.inr z.symm))
      have h8 := cntN_leq (n := ncr l D) (p := fun z => decide (z = v ∨ z = u ∨ z = x)) (q := fun c => y.testBit c) fun k _ hk => by
        rcases of_decide_eq_true hk with w | w | w
        · rw [w]; exact h6
        · rw [w]; exact h7
        · rw [w]; exact hx
      omega
    · rintro (rfl | rfl)
      · exact h6
      · exact h7
  rcases Nat.lt_or_gt_of_ne h5 with w | w
  · exact ⟨v, u, w, h4, key h3 h4 h5 h6 h7⟩
  · exact ⟨u, v, w, h3, key h4 h3 (by omega) h7 h6⟩
/-- edges lead from each corner to each -/
theorem bdG.conn (ok : okP l D) (b : bdG l D m S G) {R : Nat → Prop} {a : Nat} (ha : a < ncr l D) (hR : R a) (hcl : ∀ c u, c < ncr l D → u < ncr l D → u ≠ c → R c → isCl l D 1 (2 ^ c ||| 2 ^ u) → R u) {x : Nat} (hx : x < ncr l D) : R x :=
  gconn b.P ha hR (fun c u hc hu hne hR hE => hcl c u hc hu hne hR ((b.edge ok hc hu (fun z => hne z.symm)).mp hE)) hx
/-- more facets than dimensions -/
theorem bdG.many (ok : okP l D) (b : bdG l D m S G) : D < m := by
  have := many_f b.P (fun f hf => by obtain ⟨j, hj, h1, -⟩ := b.all ok hf; exact ⟨j, hj, h1⟩) b.fm.1
  omega
end BDY

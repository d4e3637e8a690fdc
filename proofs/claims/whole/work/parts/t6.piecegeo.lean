/-! ===== GEOMETRY: a body has 256 pieces at most ===== -/
section PIECEG
variable {l : List pt4} {D m : Nat} {S : Nat → Nat} {G : Nat → Nat → Int}
theorem bdG.mtF' (b : bdG l D m S G) {x : Nat} (h : MeetP (isFc l D) x) : mtF l D m S x := by
  obtain ⟨h0, ⟨y, hy, hs⟩, hall⟩ := h
  refine ⟨h0, ?_, fun c hc hc2 => hall c hc fun x hx hs => ?_⟩
  · obtain ⟨j, hj, rfl⟩ := b.fcI.mp hy
    exact ⟨j, hj, sub_iff.mp hs⟩
  · obtain ⟨j, hj, rfl⟩ := b.fcI.mp hx
    exact hc2 j hj (sub_iff.mp hs)
theorem bdG.z (b : bdG l D m S G) {a c : Nat} (ha : a < m) (h : (fcs l D S a).testBit c = true) : dt (D + 1) (G a) (cX l D c) = 0 := ((b.bit ha).mp h).2
theorem bdG.lt (b : bdG l D m S G) {a c : Nat} (ha : a < m) (h : (fcs l D S a).testBit c = true) : c < ncr l D := ((b.bit ha).mp h).1
/-- edges as lists of two -/
theorem bdG.edgP (ok : okP l D) (b : bdG l D m S G) : edgP (cls l D 1) := ⟨(cls_srt 1).imp fun h => Nat.ne_of_lt h, fun e he => by
  obtain ⟨a, c, h1, h2, h3⟩ := b.edge2 ok (b.cls_mem.mp he)
  have := b.n16
  exact ⟨a, c, h1, by omega, h3⟩⟩
theorem bdG.pos (ok : okP l D) (b : bdG l D m S G) {K x : Nat} (h : x ∈ cls l D K) : 0 < x ∧ x < 65536 := ⟨b.cl_0 ok.2.2.2.2.1 (b.cls_mem.mp h), b.cl_16 (b.cls_mem.mp h)⟩
/-- three edges from one corner, no two with the same end -/
theorem bdG.spoke (ok : okP l D) (b : bdG l D m S G) {e x : Nat} (he : e ∈ cls l D 1) (hx : e.testBit x = true) : ∃ y f, (y < ncr l D ∧ y ≠ x ∧ e.testBit y = true) ∧ (gval (D + 1) (ncr l D) (cX l D) f ∧ dt (D + 1) f (cX l D x) = 0 ∧ dt (D + 1) f (cX l D y) = 0) ∧ e = 2 ^ x ||| 2 ^ y ∧ ∀ c, c < ncr l D → c ≠ x → c ≠ y → dt (D + 1) f (cX l D c) < 0 := by
  have hcl := b.cls_mem.mp he
  obtain ⟨a, c, h1, h2, h3⟩ := b.edge2 ok hcl
  obtain ⟨f, f1, f2⟩ := (b.edge ok (show a < ncr l D by omega) h2 (by omega)).mpr (by rw [← h3]; exact hcl)
  have hx' := hx
  rw [h3, pair_bit] at hx'
  have neg : ∀ q, q < ncr l D → q ≠ a → q ≠ c → dt (D + 1) f (cX l D q) < 0 := fun q hq n1 n2 => by
    have v := f1 q hq
    have : dt (D + 1) f (cX l D q) ≠ 0 := fun e => by rcases (f2 q hq).mp e with w | w; exact n1 w; exact n2 w
    omega
  rcases hx' with rfl | rfl
  · exact ⟨c, f, ⟨h2, by omega, by rw [h3]; exact pair_bit.mpr (Or.inr rfl)⟩, ⟨f1, (f2 x (by omega)).mpr (Or.inl rfl), (f2 c h2).mpr (Or.inr rfl)⟩, h3, fun q hq n1 n2 => neg q hq n1 n2⟩
  · exact ⟨a, f, ⟨by omega, by omega, by rw [h3]; exact pair_bit.mpr (Or.inl rfl)⟩, ⟨f1, (f2 x h2).mpr (Or.inr rfl), (f2 a (by omega)).mpr (Or.inl rfl)⟩, by rw [h3, Nat.or_comm], fun q hq n1 n2 => neg q hq n2 n1⟩
/-- what three facets have in common -/
theorem bdG.tri3 (b : bdG l 4 m S G) {i j k x y z : Nat} (hi' : i < m) (hj : j < m) (hk : k < m) (hij : i ≠ j) (hik : i ≠ k) (hjk : j ≠ k) (h1 : x ≠ y) (h2 : x ≠ z) (h3 : y ≠ z) (a1 : (fcs l 4 S i).testBit x = true ∧ (fcs l 4 S i).testBit y = true ∧ (fcs l 4 S i).testBit z = true) (a2 : (fcs l 4 S j).testBit x = true ∧ (fcs l 4 S j).testBit y = true ∧ (fcs l 4 S j).testBit z = true) (a3 : (fcs l 4 S k).testBit x = true ∧ (fcs l 4 S k).testBit y = true ∧ (fcs l 4 S k).testBit z = true) : False :=
  b.fm.tri (b.P.i3 (b.lt hi' a1.1) (b.lt hi' a1.2.1) (b.lt hi' a1.2.2) h1 h2 h3) (by decide) hi' hj hk hij hik hjk (tw3 (b.z hi' a1.1) (b.z hi' a1.2.1) (b.z hi' a1.2.2)) (tw3 (b.z hj a2.1) (b.z hj a2.2.1) (b.z hj a2.2.2)) (tw3 (b.z hk a3.1) (b.z hk a3.2.1) (b.z hk a3.2.2))
theorem bdG.tri2 (b : bdG l 3 m S G) {i j k x y : Nat} (hi' : i < m) (hj : j < m) (hk : k < m) (hij : i ≠ j) (hik : i ≠ k) (hjk : j ≠ k) (h1 : x ≠ y) (a1 : (fcs l 3 S i).testBit x = true ∧ (fcs l 3 S i).testBit y = true) (a2 : (fcs l 3 S j).testBit x = true ∧ (fcs l 3 S j).testBit y = true) (a3 : (fcs l 3 S k).testBit x = true ∧ (fcs l 3 S k).testBit y = true) : False :=
  b.fm.tri (b.P.i2 (b.lt hi' a1.1) (b.lt hi' a1.2) h1) (by decide) hi' hj hk hij hik hjk (tw2 (b.z hi' a1.1) (b.z hi' a1.2)) (tw2 (b.z hj a2.1) (b.z hj a2.2)) (tw2 (b.z hk a3.1) (b.z hk a3.2))
/-- a cell of 2 in four dimensions: two facets' common corners -/
theorem bdG.rdgC (b : bdG l 4 m S G) {R : Nat} (hR : R ∈ cls l 4 2) {a : Nat} (ha : a < m) (sa : subF l 4 S R a) : ∃ c, c < m ∧ c ≠ a ∧ (∀ k, k < m → subF l 4 S R k → k = a ∨ k = c) ∧ ∀ q, R.testBit q = true ↔ (fcs l 4 S a).testBit q = true ∧ (fcs l 4 S c).testBit q = true := by
  rcases b.cls_mem.mp hR with ⟨h, -⟩ | ⟨-, mt, nf, hk⟩
  · omega
  · have mt := b.mtF' mt
    obtain ⟨i, j, hi', hj, hij, si, sj⟩ := mt_two b.2.1 mt fun a ha e => nf (b.fcI.mpr ⟨a, ha, e⟩)
    have p3 : 3 ≤ pop R 16 := by
      have := (pop_16 b.2.1 hi' si).1
      unfold kindOf at hk
      split at hk <;> omega
    obtain ⟨only, -⟩ := mt_ridge b.2.1 mt p3 hi' hj hij si sj
    rcases only a ha sa with e | e
    · exact ⟨j, hj, by omega, by rw [e]; exact only, by rw [e]; exact (mt_ridge b.2.1 mt p3 hi' hj hij si sj).2⟩
    · exact ⟨i, hi', by omega, fun k hk sk => by rcases only k hk sk with w | w <;> omega, fun q => by rw [e]; exact ((mt_ridge b.2.1 mt p3 hi' hj hij si sj).2 q).trans And.comm⟩
theorem bdG.rdgA (b : bdG l 4 m S G) {R : Nat} (hR : R ∈ cls l 4 2) : ∃ a, a < m ∧ subF l 4 S R a := by
  obtain ⟨j, hj, h⟩ := b.cl_sub (b.cls_mem.mp hR)
  exact ⟨j, hj, h⟩
/-- the place in the middle of a cell of 2 -/
theorem mid2 {N n : Nat} {X : Nat → Nat → Int} {f g h : Nat → Int} (vf : gval N n X f) (vg : gval N n X g) : dt N f (sV N n X (fun k => 1 * f k + 1 * g k)) = 0 ∧ dt N g (sV N n X (fun k => 1 * f k + 1 * g k)) = 0 ∧ (gval N n X h → (∃ p, p < n ∧ dt N f (X p) = 0 ∧ dt N g (X p) = 0 ∧ dt N h (X p) ≠ 0) → dt N h (sV N n X (fun k => 1 * f k + 1 * g k)) < 0) := by
  have ev : ∀ p, dt N (fun k => 1 * f k + 1 * g k) (X p) = dt N f (X p) + dt N g (X p) := fun p => by rw [dt_lin]; omega
  refine ⟨?_, ?_, fun vh ⟨p, hp, pf, pg, ph⟩ => sV_neg vh fun w => ph (w p hp (by rw [ev, pf, pg]; rfl))⟩
  · rw [sV_dt]
    refine sumZ_0 fun p hp => ?_
    have h1 := vf p hp
    have h2 := vg p hp
    split
    · rename_i q
      rw [ev] at q
      rw [show dt N f (X p) = 0 by omega, Int.mul_zero]
    · rw [Int.zero_mul]
  · rw [sV_dt]
    refine sumZ_0 fun p hp => ?_
    have h1 := vf p hp
    have h2 := vg p hp
    split
    · rename_i q
      rw [ev] at q
      rw [show dt N g (X p) = 0 by omega, Int.mul_zero]
    · rw [Int.zero_mul]
/-- not all of a cell of 2 lies in a third facet -/
theorem bdG.out3 (b : bdG l 4 m S G) {R a c k : Nat} (only : ∀ k, k < m → subF l 4 S R k → k = a ∨ k = c) (eq : ∀ q, R.testBit q = true ↔ (fcs l 4 S a).testBit q = true ∧ (fcs l 4 S c).testBit q = true) (ha : a < m) (hc : c < m) (hk : k < m) (h1 : k ≠ a) (h2 : k ≠ c) : ∃ p, p < ncr l 4 ∧ dt 5 (G a) (cX l 4 p) = 0 ∧ dt 5 (G c) (cX l 4 p) = 0 ∧ dt 5 (G k) (cX l 4 p) ≠ 0 := Classical.byContradiction fun z => by
  have : subF l 4 S R k := fun q hq => by
    obtain ⟨q1, q2⟩ := (eq q).mp hq
    exact (b.bit hk).mpr ⟨b.lt ha q1, Classical.byContradiction fun w => z ⟨q, b.lt ha q1, b.z ha q1, b.z hc q2, w⟩⟩
  rcases only k hk this with w | w
  · exact h1 w
  · exact h2 w
theorem bdG.fcP (ok : okP l 4) (b : bdG l 4 m S G) {F : Nat} (hF : F ∈ cls l 4 3) : fcP (cls l 4) F := by
  have h16 := b.n16
  obtain ⟨a, ha, rfl⟩ : ∃ a, a < m ∧ F = fcs l 4 S a := by
    rcases b.cls_mem.mp hF with ⟨-, h⟩ | ⟨h, -⟩
    · exact b.fcI.mp h
    · omega
  refine ⟨fun R R' x y z hR hR' s s' ne h1 h2 h3 hh => ?_, fun R1 R2 R3 x y m1 m2 m3 s1 s2 s3 n1 n2 n3 hxy hh => ?_, fun R1 R2 x y m1 m2 s1 s2 ne hxy c1 c2 => ?_⟩
  · obtain ⟨i, hi', ni, -, ei⟩ := b.rdgC hR ha s
    obtain ⟨j, hj, nj, -, ej⟩ := b.rdgC hR' ha s'
    have hij : i ≠ j := fun e => ne (Nat.eq_of_testBit_eq fun q => by rw [Bool.eq_iff_iff, ei, ej, e])
    exact b.tri3 ha hi' hj (by omega) (by omega) hij h1 h2 h3 ⟨((ei _).mp hh.1.1).1, ((ei _).mp hh.1.2.1).1, ((ei _).mp hh.1.2.2).1⟩ ⟨((ei _).mp hh.1.1).2, ((ei _).mp hh.1.2.1).2, ((ei _).mp hh.1.2.2).2⟩ ⟨((ej _).mp hh.2.1).2, ((ej _).mp hh.2.2.1).2, ((ej _).mp hh.2.2.2).2⟩
  · obtain ⟨i1, hi1, ni1, o1, e1⟩ := b.rdgC m1 ha s1
    obtain ⟨i2, hi2, ni2, o2, e2⟩ := b.rdgC m2 ha s2
    obtain ⟨i3, hi3, ni3, o3, e3⟩ := b.rdgC m3 ha s3
    have d12 : i1 ≠ i2 := fun e => n1 (Nat.eq_of_testBit_eq fun q => by rw [Bool.eq_iff_iff, e1, e2, e])
    have d13 : i1 ≠ i3 := fun e => n2 (Nat.eq_of_testBit_eq fun q => by rw [Bool.eq_iff_iff, e1, e3, e])
    have d23 : i2 ≠ i3 := fun e => n3 (Nat.eq_of_testBit_eq fun q => by rw [Bool.eq_iff_iff, e2, e3, e])
    obtain ⟨w, hw, hwn⟩ := gnz_pt b.P.1 (b.fm.1 a ha).1.2
    have v : ∀ {j}, j < m → gval 5 (ncr l 4) (cX l 4) (G j) := fun hj => (b.fm.1 _ hj).1.1
    obtain ⟨k1, p11, -⟩ := mid2 (h := G a) (v ha) (v hi1)
    obtain ⟨k2, p22, -⟩ := mid2 (h := G a) (v ha) (v hi2)
    obtain ⟨k3, p33, -⟩ := mid2 (h := G a) (v ha) (v hi3)
    have zz : ∀ {i q}, i < m → (fcs l 4 S i).testBit q = true → dt 5 (G i) (cX l 4 q) = 0 := fun hi' h => b.z hi' h
    exact part4 (b.P.i2 (b.lt ha ((e1 x).mp hh.1.1).1) (b.lt ha ((e1 y).mp hh.1.2).1) hxy) (by decide)
      (tw2 (zz hi1 ((e1 x).mp hh.1.1).2) (zz hi1 ((e1 y).mp hh.1.2).2)) (tw2 (zz hi2 ((e2 x).mp hh.2.1.1).2) (zz hi2 ((e2 y).mp hh.2.1.2).2)) (tw2 (zz hi3 ((e3 x).mp hh.2.2.1).2) (zz hi3 ((e3 y).mp hh.2.2.2).2)) (tw2 (zz ha ((e1 x).mp hh.1.1).1) (zz ha ((e1 y).mp hh.1.2).1)) hwn k1 k2 k3
      p11 ((mid2 (v ha) (v hi2)).2.2 (v hi1) (b.out3 o2 e2 ha hi2 hi1 ni1 d12)) ((mid2 (v ha) (v hi3)).2.2 (v hi1) (b.out3 o3 e3 ha hi3 hi1 ni1 d13))
      ((mid2 (v ha) (v hi1)).2.2 (v hi2) (b.out3 o1 e1 ha hi1 hi2 ni2 (Ne.symm d12))) p22 ((mid2 (v ha) (v hi3)).2.2 (v hi2) (b.out3 o3 e3 ha hi3 hi2 ni2 d23))
      ((mid2 (v ha) (v hi1)).2.2 (v hi3) (b.out3 o1 e1 ha hi1 hi3 ni3 (Ne.symm d13))) ((mid2 (v ha) (v hi2)).2.2 (v hi3) (b.out3 o2 e2 ha hi2 hi3 ni3 (Ne.symm d23))) p33
  · obtain ⟨i, hi', ni, -, ei⟩ := b.rdgC m1 ha s1
    obtain ⟨j, hj, nj, -, ej⟩ := b.rdgC m2 ha s2
    have hij : i ≠ j := fun e => ne (Nat.eq_of_testBit_eq fun q => by rw [Bool.eq_iff_iff, ei, ej, e])
    have x1 := (ei x).mp c1.1
    have y1 := (ei y).mp c1.2
    have x2 := ((ej x).mp c2.1).2
    have y2 := ((ej y).mp c2.2).2
    have xl := b.lt ha x1.1
    have yl := b.lt ha y1.1
    have sub : ∀ {q}, (fcs l 4 S q).testBit x = true → (fcs l 4 S q).testBit y = true → (2 ^ x ||| 2 ^ y) &&& fcs l 4 S q = 2 ^ x ||| 2 ^ y := fun h1 h2 => sub_iff.mpr fun c hc => by
      rcases pair_bit.mp hc with rfl | rfl
      · exact h1
      · exact h2
    have p16 := pair_pop (show x < 16 by omega) (show y < 16 by omega) hxy
    have p24 : pop (2 ^ x ||| 2 ^ y) 24 = 2 := by
      have : pop (2 ^ x ||| 2 ^ y) 24 = pop (2 ^ x ||| 2 ^ y) 16 := cntN_cut (by decide) fun k h1 _ h3 => by have := pair_bit.mp h3; omega
      omega
    refine b.cls_mem.mpr (Or.inr ⟨by decide, ⟨fun e => by rw [e] at p16; exact absurd p16 (by decide), ⟨_, b.fcI.mpr ⟨a, ha, rfl⟩, sub x1.1 y1.1⟩, fun c hc hall => ?_⟩, fun h => ?_, by unfold kindOf; rw [p24]; rfl⟩)
    · refine pair_bit.mpr (Classical.byContradiction fun w => ?_)
      have q1 := hall _ (b.fcI.mpr ⟨a, ha, rfl⟩) (sub x1.1 y1.1)
      have q2 := hall _ (b.fcI.mpr ⟨i, hi', rfl⟩) (sub x1.2 y1.2)
      have q3 := hall _ (b.fcI.mpr ⟨j, hj, rfl⟩) (sub x2 y2)
      exact b.tri3 (z := c) ha hi' hj (by omega) (by omega) hij hxy (fun e => w (Or.inl e.symm)) (fun e => w (Or.inr e.symm)) ⟨x1.1, y1.1, q1⟩ ⟨x1.2, y1.2, q2⟩ ⟨x2, y2, q3⟩
    · obtain ⟨q, hq, e⟩ := b.fcI.mp h
      have := b.card hq
      rw [← e] at this
      omega
theorem bdG.pol4 (ok : okP l 4) (b : bdG l 4 m S G) {R : Nat} (hR : R ∈ cls l 4 2) : polP (cls l 4 1) R := by
  intro e1 e2 e3 x m1 m2 m3 n12 n13 n23 s1 s2 s3 hh
  obtain ⟨a, ha, sa⟩ := b.rdgA hR
  obtain ⟨c, hc, nc, -, eq⟩ := b.rdgC hR ha sa
  obtain ⟨y1, f1, ⟨l1, x1, t1⟩, ⟨v1, fx1, fy1⟩, q1, g1⟩ := b.spoke ok m1 hh.1
  obtain ⟨y2, f2, ⟨l2, x2, t2⟩, ⟨v2, fx2, fy2⟩, q2, g2⟩ := b.spoke ok m2 hh.2.1
  obtain ⟨y3, f3, ⟨l3, x3, t3⟩, ⟨v3, fx3, fy3⟩, q3, g3⟩ := b.spoke ok m3 hh.2.2
  have d12 : y1 ≠ y2 := fun e => n12 (by rw [q1, q2, e])
  have d13 : y1 ≠ y3 := fun e => n13 (by rw [q1, q3, e])
  have d23 : y2 ≠ y3 := fun e => n23 (by rw [q2, q3, e])
  have bx := (eq x).mp (s1 x hh.1)
  have b1 := (eq y1).mp (s1 y1 t1)
  have b2 := (eq y2).mp (s2 y2 t2)
  have b3 := (eq y3).mp (s3 y3 t3)
  obtain ⟨w, hw, w0, wn⟩ : ∃ w, w < ncr l 4 ∧ dt 5 (G c) (cX l 4 w) = 0 ∧ dt 5 (G a) (cX l 4 w) ≠ 0 := Classical.byContradiction fun z => b.fm.2 c a hc ha nc fun p hp h0 => Classical.byContradiction fun w => z ⟨p, hp, h0, w⟩
  obtain ⟨w', hw', wn'⟩ := gnz_pt b.P.1 (b.fm.1 c hc).1.2
  have o : ∀ {f : Nat → Int}, dt 5 f (cX l 4 x) = 0 → ∀ j, j < 1 → dt 5 f ((fun _ => cX l 4 x) j) = 0 := fun h _ _ => h
  exact part5 (b.P.i1 (b.lt ha bx.1)) (by decide) (o fx1) (o fx2) (o fx3) (o (b.z ha bx.1)) (o (b.z hc bx.2)) wn w0 wn' (b.z ha b1.1) (b.z ha b2.1) (b.z ha b3.1) (b.z hc b1.2) (b.z hc b2.2) (b.z hc b3.2)
    fy1 (g1 _ l2 x2 (Ne.symm d12)) (g1 _ l3 x3 (Ne.symm d13)) (g2 _ l1 x1 d12) fy2 (g2 _ l3 x3 (Ne.symm d23)) (g3 _ l1 x1 d13) (g3 _ l2 x2 d23) fy3
theorem bdG.pol3 (ok : okP l 3) (b : bdG l 3 m S G) {R : Nat} (hR : R ∈ cls l 3 2) : polP (cls l 3 1) R := by
  intro e1 e2 e3 x m1 m2 m3 n12 n13 n23 s1 s2 s3 hh
  obtain ⟨a, ha, rfl⟩ : ∃ a, a < m ∧ R = fcs l 3 S a := by
    rcases b.cls_mem.mp hR with ⟨-, h⟩ | ⟨h, -⟩
    · exact b.fcI.mp h
    · omega
  obtain ⟨y1, f1, ⟨l1, x1, t1⟩, ⟨v1, fx1, fy1⟩, q1, g1⟩ := b.spoke ok m1 hh.1
  obtain ⟨y2, f2, ⟨l2, x2, t2⟩, ⟨v2, fx2, fy2⟩, q2, g2⟩ := b.spoke ok m2 hh.2.1
  obtain ⟨y3, f3, ⟨l3, x3, t3⟩, ⟨v3, fx3, fy3⟩, q3, g3⟩ := b.spoke ok m3 hh.2.2
  have d12 : y1 ≠ y2 := fun e => n12 (by rw [q1, q2, e])
  have d13 : y1 ≠ y3 := fun e => n13 (by rw [q1, q3, e])
  have d23 : y2 ≠ y3 := fun e => n23 (by rw [q2, q3, e])
  have bx := s1 x hh.1
  have b1 := s1 y1 t1
  have b2 := s2 y2 t2
  have b3 := s3 y3 t3
  obtain ⟨w, hw, wn⟩ := gnz_pt b.P.1 (b.fm.1 a ha).1.2
  have o : ∀ {f : Nat → Int}, dt 4 f (cX l 3 x) = 0 → ∀ j, j < 1 → dt 4 f ((fun _ => cX l 3 x) j) = 0 := fun h _ _ => h
  exact part4 (b.P.i1 (b.lt ha bx)) (by decide) (o fx1) (o fx2) (o fx3) (o (b.z ha bx)) wn (b.z ha b1) (b.z ha b2) (b.z ha b3)
    fy1 (g1 _ l2 x2 (Ne.symm d12)) (g1 _ l3 x3 (Ne.symm d13)) (g2 _ l1 x1 d12) fy2 (g2 _ l3 x3 (Ne.symm d23)) (g3 _ l1 x1 d13) (g3 _ l2 x2 d23) fy3
theorem bdG.fc3 (b : bdG l D m S G) {F : Nat} (hF : F ∈ cls l D (D - 1)) : ∃ a, a < m ∧ F = fcs l D S a := by
  rcases b.cls_mem.mp hF with ⟨-, h⟩ | ⟨h, -⟩
  · exact b.fcI.mp h
  · omega
variable {bs : List bdy} {i : Nat}
theorem pcs_pcg : ∀ (k x u : Nat), pcs bs i k x u = pcg (cel bs i) k x u
  | 0, _, _ => rfl
  | k + 1, x, u => by
    rw [pcs, pcg]
    split
    · rfl
    · congr 1
      funext y
      exact pcs_pcg k y _
theorem pcL_256 (ok : okP (bs.getD i b0).1 (dmn bs i)) (so : solid (bs.getD i b0).1 (dmn bs i)) : (pcL bs i).length ≤ 256 := by
  obtain ⟨m, S, G, b⟩ := bdG_ex ok so
  have hD := ok.2.2.2.2
  have nc := b.nc
  have n16 := b.n16
  have ln : (cnr bs i).length = ncr (bs.getD i b0).1 (dmn bs i) := crn_len _ _
  have ec : cel bs i = cls (bs.getD i b0).1 (dmn bs i) := rfl
  obtain ⟨n, en⟩ : ∃ n, n = (cnr bs i).length := ⟨_, rfl⟩
  have p16 : 2 ^ n ≤ 2 ^ 16 := Nat.pow_le_pow_right (by decide) (by omega)
  have p1 : 2 ^ 1 ≤ 2 ^ n := Nat.pow_le_pow_right (by decide) (by omega)
  have hX : 0 < 2 ^ n - 1 ∧ 2 ^ n - 1 < 65536 := by omega
  have x0 : (2 ^ n - 1).testBit 0 = true := by rw [Nat.testBit_two_pow_sub_one]; exact decide_eq_true (by omega)
  have ed := b.edgP ok
  have pp : ∀ t, t ∈ pcL bs i → t < 65536 ∧ pop t 24 = dmn bs i + 1 := fun t ht => by
    unfold pcL at ht
    obtain ⟨k, ek⟩ : ∃ k, dmn bs i = k + 1 := ⟨dmn bs i - 1, by omega⟩
    rw [ek, ← en] at ht
    obtain ⟨h1, h2⟩ := pcs_pop (bs := bs) (i := i) (fun k y hy => b.pos ok (by rw [← ec]; exact hy)) (fun y hy => ed_pop ed (by rw [← ec]; exact hy)) k (2 ^ n - 1) 0 hX.1 hX.2 (by decide) (fun c hc => by rw [Nat.zero_testBit] at hc; exact Bool.false_ne_true hc.2) (by omega) t ht
    refine ⟨?_, by rw [h1, show pop 0 24 = 0 by decide]; omega⟩
    show t < 2 ^ 16
    refine Nat.lt_pow_two_of_testBit t fun c hc => ?_
    cases e : t.testBit c with
    | false => rfl
    | true =>
      rcases h2 c e with w | w
      · rw [Nat.testBit_two_pow_sub_one] at w
        have := of_decide_eq_true w
        omega
      · rw [Nat.zero_testBit] at w; cases w
  have nd : ∀ K, (cls (bs.getD i b0).1 (dmn bs i) K).Nodup := fun K => (cls_srt K).imp fun h => Nat.ne_of_lt h
  have eL : pcL bs i = pcg (cls (bs.getD i b0).1 (dmn bs i)) (dmn bs i) (2 ^ n - 1) 0 := by unfold pcL; rw [pcs_pcg, ec, en]
  rcases (show dmn bs i = 2 ∨ dmn bs i = 3 ∨ dmn bs i = 4 by omega) with e | e | e
  · rw [eL, e, ← e]
    generalize hl : (bs.getD i b0).1 = l at *
    generalize dmn bs i = D at *
    subst e
    rw [pcg_R ed hX]
    have := cls_104 ok so
    split
    · rw [List.length_singleton]; decide
    · rw [List.length_map]
      have h1 := List.length_filter_le (blwB (2 ^ n - 1)) (cls l 2 1)
      have h2 : (cls l 2 1).length ≤ 104 := this
      omega
  · rw [eL] at pp ⊢
    generalize hl : (bs.getD i b0).1 = l at *
    generalize dmn bs i = D at *
    subst e
    refine Nat.le_trans (all_2 (fun i j h0 h1 => ?_) pp) (by decide)
    have K : clP (cls l 3) := ⟨ed, nd 2, fun R hR => b.pos ok hR, fun R hR => b.pol3 ok hR⟩
    refine pc3_2 K (fun F1 F2 F3 x y m1 m2 m3 n12 n13 n23 hxy hh => ?_) hX x0 h0 h1
    obtain ⟨a1, ha1, rfl⟩ := b.fc3 (D := 3) m1
    obtain ⟨a2, ha2, rfl⟩ := b.fc3 (D := 3) m2
    obtain ⟨a3, ha3, rfl⟩ := b.fc3 (D := 3) m3
    exact b.tri2 ha1 ha2 ha3 (fun e => n12 (by rw [e])) (fun e => n13 (by rw [e])) (fun e => n23 (by rw [e])) hxy hh.1 hh.2.1 hh.2.2
  · rw [eL] at pp ⊢
    generalize hl : (bs.getD i b0).1 = l at *
    generalize dmn bs i = D at *
    subst e
    refine Nat.le_trans (all_3 (fun i j k h0 h1 h2 => ?_) pp) (by decide)
    have K : clP (cls l 4) := ⟨ed, nd 2, fun R hR => b.pos ok hR, fun R hR => b.pol4 ok hR⟩
    refine pc4_3 K (nd 3) (fun F hF => b.pos ok hF) (fun F hF => b.fcP ok hF) (fun F1 F2 F3 x y z m1 m2 m3 n12 n13 n23 hxy hxz hyz hh => ?_) (fun F1 F2 x y z m1 m2 ne hxy hxz hyz c1 c2 => ?_) hX x0 h0 h1 h2
    · obtain ⟨a1, ha1, rfl⟩ := b.fc3 (D := 4) m1
      obtain ⟨a2, ha2, rfl⟩ := b.fc3 (D := 4) m2
      obtain ⟨a3, ha3, rfl⟩ := b.fc3 (D := 4) m3
      exact b.tri3 ha1 ha2 ha3 (fun e => n12 (by rw [e])) (fun e => n13 (by rw [e])) (fun e => n23 (by rw [e])) hxy hxz hyz hh.1 hh.2.1 hh.2.2
    · obtain ⟨a1, ha1, rfl⟩ := b.fc3 (D := 4) m1
      obtain ⟨a2, ha2, rfl⟩ := b.fc3 (D := 4) m2
      have n12 : a1 ≠ a2 := fun e => ne (by rw [e])
      have bt : ∀ c, (fcs l 4 S a1 &&& fcs l 4 S a2).testBit c = true ↔ (fcs l 4 S a1).testBit c = true ∧ (fcs l 4 S a2).testBit c = true := fun c => by rw [Nat.testBit_and, Bool.and_eq_true]
      have s1 : (fcs l 4 S a1 &&& fcs l 4 S a2) &&& fcs l 4 S a1 = fcs l 4 S a1 &&& fcs l 4 S a2 := sub_iff.mpr fun c hc => ((bt c).mp hc).1
      have s2 : (fcs l 4 S a1 &&& fcs l 4 S a2) &&& fcs l 4 S a2 = fcs l 4 S a1 &&& fcs l 4 S a2 := sub_iff.mpr fun c hc => ((bt c).mp hc).2
      have bx := (bt x).mpr ⟨c1.1, c2.1⟩
      have by' := (bt y).mpr ⟨c1.2.1, c2.2.1⟩
      have bz := (bt z).mpr ⟨c1.2.2, c2.2.2⟩
      have p3 : 3 ≤ pop (fcs l 4 S a1 &&& fcs l 4 S a2) 24 := by
        have h1 := cntN_3 (n := 24) (show x < 24 by have := b.lt ha1 c1.1; omega) (show y < 24 by have := b.lt ha1 c1.2.1; omega) (show z < 24 by have := b.lt ha1 c1.2.2; omega) hxy hxz hyz
        have h2 := cntN_leq (n := 24) (p := fun q => decide (q = x ∨ q = y ∨ q = z)) (q := fun c => (fcs l 4 S a1 &&& fcs l 4 S a2).testBit c) fun k _ hk => by
          rcases of_decide_eq_true hk with w | w | w
          · rw [w]; exact bx
          · rw [w]; exact by'
          · rw [w]; exact bz
        exact Nat.le_trans h1 h2
      refine b.cls_mem.mpr (Or.inr ⟨by decide, ⟨fun e => (by rw [e, Nat.zero_testBit] at bx; cases bx), ⟨_, b.fcI.mpr ⟨a1, ha1, rfl⟩, s1⟩, fun c hc hall => (bt c).mpr ⟨hall _ (b.fcI.mpr ⟨a1, ha1, rfl⟩) s1, hall _ (b.fcI.mpr ⟨a2, ha2, rfl⟩) s2⟩⟩, fun h => ?_, by unfold kindOf; rw [if_neg (by omega)]⟩)
      obtain ⟨q, hq, e⟩ := b.fcI.mp h
      have e1 := fcs_sub b.2.1 hq ha1 fun c hc => by rw [← e] at hc; exact ((bt c).mp hc).1
      have e2 := fcs_sub b.2.1 hq ha2 fun c hc => by rw [← e] at hc; exact ((bt c).mp hc).2
      omega
end PIECEG

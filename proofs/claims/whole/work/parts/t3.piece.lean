/-! ===== PIECES, PURE: how many there can be ===== -/
section PIECEC
theorem sum_le0 {f : Nat → Nat} : ∀ {L : List Nat}, (∀ x, x ∈ L → f x = 0) → (L.map f).sum = 0
  | [], _ => rfl
  | a :: L, h => by rw [List.map_cons, List.sum_cons, h a List.mem_cons_self, sum_le0 fun x hx => h x (List.mem_cons_of_mem _ hx)]
theorem sum_le1 {f : Nat → Nat} {c : Nat} : ∀ {L : List Nat}, L.Nodup → (∀ x, x ∈ L → f x ≤ c) → (∀ x y, x ∈ L → y ∈ L → x ≠ y → f x = 0 ∨ f y = 0) → (L.map f).sum ≤ c
  | [], _, _, _ => Nat.zero_le _
  | a :: L, nd, h, h1 => by
    rw [List.map_cons, List.sum_cons]
    obtain ⟨na, nd'⟩ := List.nodup_cons.mp nd
    by_cases e : f a = 0
    · rw [e, Nat.zero_add]
      exact sum_le1 nd' (fun x hx => h x (List.mem_cons_of_mem _ hx)) fun x y hx hy => h1 x y (List.mem_cons_of_mem _ hx) (List.mem_cons_of_mem _ hy)
    · rw [sum_le0 fun x hx => (h1 a x List.mem_cons_self (List.mem_cons_of_mem _ hx) fun w => na (by rw [w]; exact hx)).resolve_left e]
      exact h a List.mem_cons_self
theorem sum_le2 {f : Nat → Nat} {c : Nat} : ∀ {L : List Nat}, L.Nodup → (∀ x, x ∈ L → f x ≤ c) → (∀ x y z, x ∈ L → y ∈ L → z ∈ L → x ≠ y → x ≠ z → y ≠ z → f x = 0 ∨ f y = 0 ∨ f z = 0) → (L.map f).sum ≤ 2 * c
  | [], _, _, _ => Nat.zero_le _
  | a :: L, nd, h, h1 => by
    rw [List.map_cons, List.sum_cons]
    obtain ⟨na, nd'⟩ := List.nodup_cons.mp nd
    by_cases e : f a = 0
    · rw [e, Nat.zero_add]
      exact sum_le2 nd' (fun x hx => h x (List.mem_cons_of_mem _ hx)) fun x y z hx hy hz => h1 x y z (List.mem_cons_of_mem _ hx) (List.mem_cons_of_mem _ hy) (List.mem_cons_of_mem _ hz)
    · have h2 := h a List.mem_cons_self
      have h3 := sum_le1 (f := f) (c := c) nd' (fun x hx => h x (List.mem_cons_of_mem _ hx)) fun x y hx hy hne => (h1 a x y List.mem_cons_self (List.mem_cons_of_mem _ hx) (List.mem_cons_of_mem _ hy) (fun w => na (by rw [w]; exact hx)) (fun w => na (by rw [w]; exact hy)) hne).resolve_left e
      omega
/-- the pieces below a face, for any lists of cells -/
def pcg (C : Nat → List Nat) : Nat → Nat → Nat → List Nat
  | 0, x, u => [x ||| u]
  | k + 1, x, u => if pop x 24 = k + 2 then [x ||| u] else ((C k).filter (blwB x)).flatMap fun y => pcg C k y (u ||| low x)
def q2 (i j x : Nat) : Bool := x.testBit i && x.testBit j
def q3 (i j k x : Nat) : Bool := x.testBit i && (x.testBit j && x.testBit k)
theorem q2_iff {i j x : Nat} : q2 i j x = true ↔ x.testBit i = true ∧ x.testBit j = true := by unfold q2; rw [Bool.and_eq_true]
theorem q3_iff {i j k x : Nat} : q3 i j k x = true ↔ x.testBit i = true ∧ x.testBit j = true ∧ x.testBit k = true := by unfold q3; rw [Bool.and_eq_true, Bool.and_eq_true]
variable {C : Nat → List Nat}
theorem blw_iff {x y w : Nat} (hw : low x = 2 ^ w) : blwB x y = true ↔ (∀ b, y.testBit b = true → x.testBit b = true) ∧ y.testBit w = false := by
  unfold blwB
  rw [Bool.and_eq_true, decide_eq_true_eq, decide_eq_true_eq, hw]
  constructor
  · rintro ⟨h1, h2⟩
    refine ⟨fun b hb => ?_, ?_⟩
    · have := wo_bit y x b
      rw [h1, Nat.zero_testBit, hb] at this
      cases e : x.testBit b with
      | true => rfl
      | false => rw [e] at this; cases this
    · cases e : y.testBit w with
      | false => rfl
      | true =>
        have : (y &&& 2 ^ w).testBit w = true := by rw [Nat.testBit_and, e, Nat.testBit_two_pow_self]; rfl
        rw [h2, Nat.zero_testBit] at this
        cases this
  · rintro ⟨h1, h2⟩
    refine ⟨Nat.eq_of_testBit_eq fun b => ?_, Nat.eq_of_testBit_eq fun b => ?_⟩
    · rw [wo_bit, Nat.zero_testBit]
      cases e : y.testBit b with
      | false => rfl
      | true => rw [h1 b e]; rfl
    · rw [Nat.testBit_and, Nat.zero_testBit, Nat.testBit_two_pow]
      by_cases e : w = b
      · rw [← e, h2]; rfl
      · rw [decide_eq_false e, Bool.and_false]
theorem cnt_flat {p : Nat → Bool} {L : List Nat} {f : Nat → List Nat} : (L.flatMap f).countP p = (L.map fun x => (f x).countP p).sum := by
  rw [List.countP_flatMap]; rfl
theorem cnt_one {p : Nat → Bool} {a : Nat} : [a].countP p ≤ 1 := List.countP_le_length
theorem cnt_ext {p q : Nat → Bool} {L : List Nat} (h : ∀ x, x ∈ L → p x = q x) : L.countP p = L.countP q := List.countP_congr fun x hx => by rw [h x hx]
/-- edges: lists of two -/
def edgP (L : List Nat) : Prop := L.Nodup ∧ ∀ e, e ∈ L → ∃ a c, a < c ∧ c < 16 ∧ e = 2 ^ a ||| 2 ^ c
theorem ed_pop {L : List Nat} (h : edgP L) {e : Nat} (he : e ∈ L) : pop e 24 = 2 := by
  obtain ⟨a, c, hac, hc, rfl⟩ := h.2 e he
  have h1 := pair_pop (show a < 16 by omega) hc (by omega)
  have : pop (2 ^ a ||| 2 ^ c) 24 = pop (2 ^ a ||| 2 ^ c) 16 := cntN_cut (by decide) fun k h1 _ h3 => by have := pair_bit.mp h3; omega
  omega
theorem ed_eq {L : List Nat} (h : edgP L) {e x y : Nat} (he : e ∈ L) (hxy : x ≠ y) (hx : e.testBit x = true) (hy : e.testBit y = true) : e = 2 ^ x ||| 2 ^ y := by
  obtain ⟨a, c, hac, hc, rfl⟩ := h.2 e he
  rw [pair_bit] at hx hy
  refine Nat.eq_of_testBit_eq fun b => ?_
  rw [Bool.eq_iff_iff, pair_bit, pair_bit]
  omega
section R
variable {R u x y z : Nat}
theorem pcg_R (hE : edgP (C 1)) (hR : 0 < R ∧ R < 65536) : pcg C 2 R u = if pop R 24 = 3 then [R ||| u] else ((C 1).filter (blwB R)).map fun e => e ||| (u ||| low R) := by
  rw [pcg]
  split
  · rfl
  · generalize hL : (C 1).filter (blwB R) = L
    have hs : ∀ e, e ∈ L → e ∈ C 1 := fun e he => by rw [← hL] at he; exact (List.mem_filter.mp he).1
    clear hL
    induction L with
    | nil => rfl
    | cons e L ih =>
      rw [List.flatMap_cons, List.map_cons, ih fun e he => hs e (List.mem_cons_of_mem _ he), pcg, if_pos (ed_pop hE (hs e List.mem_cons_self))]
      rfl
/-- at most two edges of R have a corner -/
def polP (C1 : List Nat) (R : Nat) : Prop := ∀ e1 e2 e3 x, e1 ∈ C1 → e2 ∈ C1 → e3 ∈ C1 → e1 ≠ e2 → e1 ≠ e3 → e2 ≠ e3 → (∀ b, e1.testBit b = true → R.testBit b = true) → (∀ b, e2.testBit b = true → R.testBit b = true) → (∀ b, e3.testBit b = true → R.testBit b = true) → ¬ (e1.testBit x = true ∧ e2.testBit x = true ∧ e3.testBit x = true)
theorem cnt_map {p : Nat → Bool} {L : List Nat} {f : Nat → Nat} : (L.map f).countP p = (L.map fun x => if p (f x) then 1 else 0).sum := by
  induction L with
  | nil => rfl
  | cons a L ih => rw [List.map_cons, List.countP_cons, List.map_cons, List.sum_cons, ih, Nat.add_comm]
theorem if10 {b : Bool} : (if b then 1 else 0) ≤ (1 : Nat) := by cases b <;> decide
theorem if0 {b : Bool} (h : ¬ b = true) : (if b then 1 else 0) = (0 : Nat) := by rw [if_neg h]
/-- what a piece of R has -/
theorem pcR_bit (hE : edgP (C 1)) (hR : 0 < R ∧ R < 65536) {w b : Nat} {e : Nat} (hw : low R = 2 ^ w) (hu : u.testBit b = false) : (e ||| (u ||| low R)).testBit b = true ↔ e.testBit b = true ∨ b = w := by
  rw [Nat.testBit_or, Nat.testBit_or, hw, hu, Bool.false_or, Bool.or_eq_true, Nat.testBit_two_pow, decide_eq_true_eq]
  exact ⟨fun h => h.imp id Eq.symm, fun h => h.imp id Eq.symm⟩
theorem pcR_sub (hE : edgP (C 1)) (hR : 0 < R ∧ R < 65536) {t : Nat} (ht : t ∈ pcg C 2 R u) {b : Nat} (hb : t.testBit b = true) : R.testBit b = true ∨ u.testBit b = true := by
  rw [pcg_R hE hR] at ht
  obtain ⟨w, w1, -, hw⟩ := low_spec hR.1 hR.2
  split at ht
  · rw [List.mem_singleton] at ht
    rw [ht, Nat.testBit_or, Bool.or_eq_true] at hb
    exact hb
  · obtain ⟨e, he, rfl⟩ := List.mem_map.mp ht
    have h1 := (blw_iff hw).mp (List.mem_filter.mp he).2
    rw [Nat.testBit_or, Nat.testBit_or, Bool.or_eq_true, Bool.or_eq_true] at hb
    rcases hb with h | h | h
    · exact Or.inl (h1.1 b h)
    · exact Or.inr h
    · rw [hw, Nat.testBit_two_pow, decide_eq_true_eq] at h
      rw [← h]; exact Or.inl w1
theorem pcR_0 (hE : edgP (C 1)) (hR : 0 < R ∧ R < 65536) {p : Nat → Bool} {b : Nat} (hb : R.testBit b = false) (hu : u.testBit b = false) (hp : ∀ t, p t = true → t.testBit b = true) : (pcg C 2 R u).countP p = 0 := List.countP_eq_zero.mpr fun t ht hpt => by
  rcases pcR_sub hE hR ht (hp t hpt) with h | h
  · rw [hb] at h; cases h
  · rw [hu] at h; cases h
theorem pcR_3 (hE : edgP (C 1)) (hR : 0 < R ∧ R < 65536) (hx : u.testBit x = false) (hy : u.testBit y = false) (hz : u.testBit z = false) (h1 : x ≠ y) (h2 : x ≠ z) (h3 : y ≠ z) : (pcg C 2 R u).countP (q3 x y z) ≤ 1 := by
  rw [pcg_R hE hR]
  obtain ⟨w, w1, -, hw⟩ := low_spec hR.1 hR.2
  split
  · exact cnt_one
  · rw [cnt_map]
    refine sum_le1 (hE.1.filter _) (fun e _ => if10) fun e e' he he' hne => Classical.byContradiction fun hn => hne ?_
    have a1 : q3 x y z (e ||| (u ||| low R)) = true := Classical.byContradiction fun q => hn (Or.inl (if0 q))
    have a2 : q3 x y z (e' ||| (u ||| low R)) = true := Classical.byContradiction fun q => hn (Or.inr (if0 q))
    rw [q3_iff, pcR_bit hE hR hw hx, pcR_bit hE hR hw hy, pcR_bit hE hR hw hz] at a1 a2
    obtain ⟨m1, b1⟩ := List.mem_filter.mp he
    obtain ⟨m2, b2⟩ := List.mem_filter.mp he'
    have b1 := ((blw_iff hw).mp b1).2
    have b2 := ((blw_iff hw).mp b2).2
    have nw : ∀ {e b : Nat}, e.testBit w = false → (e.testBit b = true ∨ b = w) → b ≠ w → e.testBit b = true := fun _ h hne => h.resolve_right hne
    have key : ∀ {p q : Nat}, p ≠ q → p ≠ w → q ≠ w → (e.testBit p = true ∨ p = w) → (e.testBit q = true ∨ q = w) → (e'.testBit p = true ∨ p = w) → (e'.testBit q = true ∨ q = w) → e = e' := fun hpq hp hq c1 c2 c3 c4 => by
      rw [ed_eq hE m1 hpq (c1.resolve_right hp) (c2.resolve_right hq), ed_eq hE m2 hpq (c3.resolve_right hp) (c4.resolve_right hq)]
    by_cases ex : x = w
    · exact key h3 (by omega) (by omega) a1.2.1 a1.2.2 a2.2.1 a2.2.2
    · by_cases ey : y = w
      · exact key h2 ex (by omega) a1.1 a1.2.2 a2.1 a2.2.2
      · exact key h1 ex ey a1.1 a1.2.1 a2.1 a2.2.1
theorem pcR_2w (hE : edgP (C 1)) (hR : 0 < R ∧ R < 65536) (hp : polP (C 1) R) (hx : u.testBit x = false) (hy : u.testBit y = false) (h1 : x ≠ y) (hw : low R = 2 ^ x) (c : Nat) (hc : c = 2 ∨ (c = 1 ∧ (2 ^ x ||| 2 ^ y) ∈ C 1)) (w1 : R.testBit x = true) : ((((C 1).filter (blwB R)).map fun e => e ||| (u ||| low R)).countP (q2 x y)) ≤ c := by
  rw [cnt_map]
  have un : ∀ {e}, e ∈ (C 1).filter (blwB R) → (if q2 x y (e ||| (u ||| low R)) then 1 else 0) ≠ (0 : Nat) → (e ∈ C 1 ∧ (∀ b, e.testBit b = true → R.testBit b = true)) ∧ e.testBit y = true ∧ e.testBit x = false := fun {e} he hn => by
    have a1 : q2 x y (e ||| (u ||| low R)) = true := Classical.byContradiction fun q => hn (if0 q)
    rw [q2_iff, pcR_bit hE hR hw hx, pcR_bit hE hR hw hy] at a1
    obtain ⟨m1, b1⟩ := List.mem_filter.mp he
    have b1 := (blw_iff hw).mp b1
    exact ⟨⟨m1, b1.1⟩, a1.2.resolve_right (by omega), b1.2⟩
  rcases hc with rfl | ⟨rfl, hm⟩
  · refine sum_le2 (c := 1) (hE.1.filter _) (fun e _ => if10) fun e1 e2 e3 he1 he2 he3 n1 n2 n3 => Classical.byContradiction fun hn => ?_
    obtain ⟨⟨m1, s1⟩, y1, -⟩ := un he1 fun q => hn (Or.inl q)
    obtain ⟨⟨m2, s2⟩, y2, -⟩ := un he2 fun q => hn (Or.inr (Or.inl q))
    obtain ⟨⟨m3, s3⟩, y3, -⟩ := un he3 fun q => hn (Or.inr (Or.inr q))
    exact hp e1 e2 e3 y m1 m2 m3 n1 n2 n3 s1 s2 s3 ⟨y1, y2, y3⟩
  · refine sum_le1 (hE.1.filter _) (fun e _ => if10) fun e1 e2 he1 he2 n1 => Classical.byContradiction fun hn => ?_
    obtain ⟨⟨m1, s1⟩, y1, x1⟩ := un he1 fun q => hn (Or.inl q)
    obtain ⟨⟨m2, s2⟩, y2, x2⟩ := un he2 fun q => hn (Or.inr q)
    have px : (2 ^ x ||| 2 ^ y).testBit x = true := pair_bit.mpr (Or.inl rfl)
    have py : (2 ^ x ||| 2 ^ y).testBit y = true := pair_bit.mpr (Or.inr rfl)
    refine hp e1 e2 _ y m1 m2 hm n1 (fun q => ?_) (fun q => ?_) s1 s2 (fun b hb => ?_) ⟨y1, y2, py⟩
    · rw [q, px] at x1; cases x1
    · rw [q, px] at x2; cases x2
    · rcases pair_bit.mp hb with rfl | rfl
      · exact w1
      · exact s1 _ y1
theorem pcR_2 (hE : edgP (C 1)) (hR : 0 < R ∧ R < 65536) (hp : polP (C 1) R) (hx : u.testBit x = false) (hy : u.testBit y = false) (h1 : x ≠ y) (c : Nat) (hc : c = 2 ∨ (c = 1 ∧ (2 ^ x ||| 2 ^ y) ∈ C 1)) : (pcg C 2 R u).countP (q2 x y) ≤ c := by
  rw [pcg_R hE hR]
  obtain ⟨w, w1, -, hw⟩ := low_spec hR.1 hR.2
  have c1 : 1 ≤ c := by omega
  split
  · exact Nat.le_trans cnt_one c1
  · by_cases ex : x = w
    · rw [← ex] at hw w1
      exact pcR_2w hE hR hp hx hy h1 hw c hc w1
    · by_cases ey : y = w
      · rw [← ey] at hw w1
        rw [cnt_ext (q := q2 y x) fun t _ => by unfold q2; rw [Bool.and_comm]]
        exact pcR_2w hE hR hp hy hx (fun e => h1 e.symm) hw c (by rw [Nat.or_comm (2 ^ y)]; exact hc) w1
      · refine Nat.le_trans ?_ c1
        rw [cnt_map]
        refine sum_le1 (hE.1.filter _) (fun e _ => if10) fun e e' he he' hne => Classical.byContradiction fun hn => hne ?_
        have a1 : q2 x y (e ||| (u ||| low R)) = true := Classical.byContradiction fun q => hn (Or.inl (if0 q))
        have a2 : q2 x y (e' ||| (u ||| low R)) = true := Classical.byContradiction fun q => hn (Or.inr (if0 q))
        rw [q2_iff, pcR_bit hE hR hw hx, pcR_bit hE hR hw hy] at a1 a2
        rw [ed_eq hE (List.mem_filter.mp he).1 h1 (a1.1.resolve_right ex) (a1.2.resolve_right ey), ed_eq hE (List.mem_filter.mp he').1 h1 (a2.1.resolve_right ex) (a2.2.resolve_right ey)]
end R
end PIECEC

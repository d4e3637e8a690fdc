/-! ===== GEOMETRY: how many facets and ridges there can be ===== -/
section UBT
variable {N n m v : Nat} {X F : Nat → Nat → Int} {φ h : Nat → Int}
/-- facets, no two alike -/
def fam (N n : Nat) (X : Nat → Nat → Int) (m : Nat) (F : Nat → Nat → Int) : Prop := (∀ j, j < m → gfc N n X (F j)) ∧ ∀ i j, i < m → j < m → i ≠ j → ¬ gzi N n X (F i) (F j)
/-- place v lies in facet j -/
def gIn (N : Nat) (X F : Nat → Nat → Int) (j v : Nat) : Bool := decide (dt N (F j) (X v) = 0)
theorem gIn_iff {j : Nat} : gIn N X F j v = true ↔ dt N (F j) (X v) = 0 := by unfold gIn; rw [decide_eq_true_eq]
noncomputable def btB (n : Nat) (X : Nat → Nat → Int) (v : Nat) (φ h : Nat → Int) (F : Nat → Nat → Int) (j u : Nat) : Bool := tB (dt 5 (F j) (X v) = 0 ∧ bwn 5 n X v φ h (F j) u)
theorem btB_all (P : gP 5 n X) (h16 : n ≤ 16) (fm : fam 5 n X m F) (hv : v < n) (H : hgt 5 n X v φ h) : sumN (fun j => cntN (fun u => btB n X v φ h F j u) n) m ≤ 26 := by
  rw [cntN_swap]
  by_cases hex : ∃ j u, j < m ∧ btB n X v φ h F j u = true
  · obtain ⟨j0, u0, hj0, hb0⟩ := hex
    obtain ⟨-, ⟨hu0, huv0, -, -⟩, ⟨a0, la0, -, ka0⟩, b0, lb0, -, kb0⟩ := tB_iff.mp hb0
    obtain ⟨T, T1, T2, -, Tm⟩ := top_of H (A := fun _ => True) ⟨u0, hu0, huv0, trivial⟩
    obtain ⟨B, B1, B2, -, Bm⟩ := bot_of H (A := fun _ => True) ⟨u0, hu0, huv0, trivial⟩
    have TB : T ≠ B := by
      intro e
      have same : ∀ x, x < n → x ≠ v → x = T := by
        intro x hx hxv
        refine Classical.byContradiction fun z => ?_
        have h1 := Tm x hx hxv trivial
        have h2 := Bm x hx hxv trivial
        rw [← e] at h2
        exact kf_ne H hx T1 hxv T2 z (by omega)
      have av : a0 ≠ v := fun z => by rw [z, kf_v H] at ka0; omega
      have := same a0 la0 av
      have h3 := same u0 hu0 huv0
      rw [show a0 = u0 by omega, kf_u] at ka0
      omega
    have al : ∀ j u, btB n X v φ h F j u = true → u ≠ v ∧ u ≠ T ∧ u ≠ B := by
      intro j u hb
      obtain ⟨-, ⟨hu, huv, -, -⟩, ⟨a, la, -, ka⟩, b, lb, -, kb⟩ := tB_iff.mp hb
      have av : a ≠ v := fun z => by rw [z, kf_v H] at ka; omega
      have bv : b ≠ v := fun z => by rw [z, kf_v H] at kb; omega
      refine ⟨huv, fun e => ?_, fun e => ?_⟩
      · have := Tm b lb bv trivial
        rw [← e] at this; omega
      · have := Bm a la av trivial
        rw [← e] at this; omega
    have col : ∀ u, u < n → cntN (fun j => btB n X v φ h F j u) m ≤ 2 * (if decide (u ≠ v ∧ u ≠ T ∧ u ≠ B) = true then 1 else 0) := by
      intro u hu
      by_cases ha : u ≠ v ∧ u ≠ T ∧ u ≠ B
      · rw [if_pos (decide_eq_true ha)]
        refine cntN_le2 fun i j k h1 h2 h3 h4 => ?_
        obtain ⟨z1, q1⟩ := tB_iff.mp h4.1
        obtain ⟨z2, q2⟩ := tB_iff.mp h4.2.1
        obtain ⟨z3, q3⟩ := tB_iff.mp h4.2.2
        have d := fm.2
        exact bwn_2 P H hv (fm.1 i (by omega)) (fm.1 j (by omega)) (fm.1 k h3) z1 z2 z3 (d i j (by omega) (by omega) (by omega)) (d i k (by omega) (by omega) (by omega)) (d j i (by omega) (by omega) (by omega)) (d j k (by omega) (by omega) (by omega)) (d k i (by omega) (by omega) (by omega)) (d k j (by omega) (by omega) (by omega)) q1 q2 q3
      · rw [if_neg (fun z => ha (of_decide_eq_true z)), cntN_0 fun j hj hj2 => ha (al j u hj2)]
        exact Nat.zero_le _
    have h1 := sumN_le col
    rw [sumN_mul, ← cntN_sum] at h1
    have h2 := cntN_or (n := n) (p := fun u => decide (u ≠ v ∧ u ≠ T ∧ u ≠ B)) (q := fun x => decide (x = v ∨ x = T ∨ x = B)) fun k _ hk => by
      have a := of_decide_eq_true hk.1
      have b := of_decide_eq_true hk.2
      rcases b with b | b | b
      · exact a.1 b
      · exact a.2.1 b
      · exact a.2.2 b
    have h3 := cntN_3 hv T1 B1 (fun z => T2 z.symm) (fun z => B2 z.symm) TB
    omega
  · rw [sumN_0]
    · omega
    · intro u _
      exact cntN_0 fun j hj hj2 => hex ⟨j, u, hj, hj2⟩
theorem deg26 (P : gP 5 n X) (h16 : n ≤ 16) (fm : fam 5 n X m F) (hv : v < n) : cntN (fun j => gIn 5 X F j v) m ≤ 26 := by
  obtain ⟨φ, h, H⟩ := P.gen hv
  refine Nat.le_trans ?_ (btB_all P h16 fm hv H)
  rw [cntN_sum]
  refine sumN_le fun j hj => ?_
  by_cases hi' : gIn 5 X F j v = true
  · rw [if_pos hi']
    obtain ⟨u, hu⟩ := bwn_ex P H hv (fm.1 j hj) (gIn_iff.mp hi')
    exact cntN_pos.mpr ⟨u, hu.1.1, tB_t ⟨gIn_iff.mp hi', hu⟩⟩
  · rw [if_neg hi']; exact Nat.zero_le _
theorem cntN_minus {p : Nat → Bool} {n v : Nat} : cntN p n ≤ cntN (fun u => p u && decide (u ≠ v)) n + 1 := by
  have h1 : ∀ n, cntN p n ≤ cntN (fun u => p u && decide (u ≠ v)) n + if v < n then 1 else 0 := by
    intro n
    induction n with
    | zero => exact Nat.zero_le _
    | succ n ih =>
      rw [cntN, cntN]
      by_cases hp : p n = true
      · rw [if_pos hp]
        by_cases e : n = v
        · subst e
          rw [if_neg (Nat.lt_irrefl n)] at ih
          rw [if_pos (Nat.lt_succ_self n)]; omega
        · rw [if_pos (show (p n && decide (n ≠ v)) = true by rw [hp, decide_eq_true e]; rfl)]
          by_cases hn : v < n
          · rw [if_pos hn] at ih; rw [if_pos (by omega)]; omega
          · rw [if_neg hn] at ih; omega
      · rw [if_neg hp, if_neg (show ¬ (p n && decide (n ≠ v)) = true from fun z => hp (Bool.and_eq_true_iff.mp z).1)]
        by_cases hn : v < n
        · rw [if_pos hn] at ih; rw [if_pos (by omega)]; omega
        · rw [if_neg hn] at ih; omega
  have := h1 n
  split at this <;> omega
theorem fam.card (P : gP N n X) (fm : fam N n X m F) {j : Nat} (hj : j < m) : N - 1 ≤ cntN (fun v => gIn N X F j v) n := by
  have h1 := fct_card P.1 (fm.1 j hj)
  have h2 : cntN (fun p => decide (dt N (F j) (X p) = 0)) n = cntN (fun v => gIn N X F j v) n := rfl
  omega
/-- three facets of a family -/
theorem fam.tri {r i j k : Nat} {b : Nat → Nat → Int} (fm : fam N n X m F) (h : ind N r b) (hs : N < r + 3) (hi' : i < m) (hj : j < m) (hk : k < m) (hij : i ≠ j) (hik : i ≠ k) (hjk : j ≠ k) (h1 : ∀ t, t < r → dt N (F i) (b t) = 0) (h2 : ∀ t, t < r → dt N (F j) (b t) = 0) (h3 : ∀ t, t < r → dt N (F k) (b t) = 0) : False :=
  gP.tri h hs (fm.1 i hi').1.1 (fm.1 j hj).1.1 (fm.1 k hk).1.1 h1 h2 h3 (fm.2 i j hi' hj hij) (fm.2 i k hi' hk hik) (fm.2 j i hj hi' (fun z => hij z.symm)) (fm.2 j k hj hk hjk) (fm.2 k i hk hi' (fun z => hik z.symm)) (fm.2 k j hk hj (fun z => hjk z.symm))
theorem deg15 (P : gP 4 n X) (h16 : n ≤ 16) (fm : fam 4 n X m F) (hv : v < n) : cntN (fun j => gIn 4 X F j v) m ≤ 15 := by
  have h1 : 2 * cntN (fun j => gIn 4 X F j v) m ≤ sumN (fun j => cntN (fun u => gIn 4 X F j v && (gIn 4 X F j u && decide (u ≠ v))) n) m := by
    rw [cntN_sum, ← sumN_mul]
    refine sumN_le fun j hj => ?_
    by_cases hi' : gIn 4 X F j v = true
    · rw [if_pos hi']
      have a := fm.card P hj
      have b := cntN_minus (p := fun u => gIn 4 X F j u) (n := n) (v := v)
      have c : cntN (fun u => gIn 4 X F j v && (gIn 4 X F j u && decide (u ≠ v))) n = cntN (fun u => gIn 4 X F j u && decide (u ≠ v)) n := cntN_ext fun k _ => by rw [hi']; rfl
      omega
    · rw [if_neg hi']; exact Nat.zero_le _
  rw [cntN_swap] at h1
  have h2 : sumN (fun u => cntN (fun j => gIn 4 X F j v && (gIn 4 X F j u && decide (u ≠ v))) m) n ≤ sumN (fun u => 2 * (if decide (u ≠ v) = true then 1 else 0)) n := by
    refine sumN_le fun u hu => ?_
    by_cases e : u = v
    · rw [if_neg (show ¬ decide (u ≠ v) = true from fun z => of_decide_eq_true z e), cntN_0]
      · exact Nat.zero_le _
      · intro j _ hj2
        have := (Bool.and_eq_true_iff.mp (Bool.and_eq_true_iff.mp hj2).2).2
        exact of_decide_eq_true this e
    · rw [if_pos (decide_eq_true e)]
      refine cntN_le2 fun i j k q1 q2 q3 q4 => ?_
      have g : ∀ {j}, (gIn 4 X F j v && (gIn 4 X F j u && decide (u ≠ v))) = true → ∀ t, t < 2 → dt 4 (F j) (t2 (X v) (X u) t) = 0 := by
        intro j hj t ht
        have a := Bool.and_eq_true_iff.mp hj
        have b := Bool.and_eq_true_iff.mp a.2
        match t, ht with
        | 0, _ => exact gIn_iff.mp a.1
        | 1, _ => exact gIn_iff.mp b.1
      exact fm.tri (P.i2 hv hu (fun z => e z.symm)) (by decide) (by omega) (by omega) q3 (by omega) (by omega) (by omega) (g q4.1) (g q4.2.1) (g q4.2.2)
  rw [sumN_mul, ← cntN_sum] at h2
  have h3 := cntN_or (n := n) (p := fun u => decide (u ≠ v)) (q := fun u => decide (u = v)) fun k _ hk => of_decide_eq_true hk.1 (of_decide_eq_true hk.2)
  have h4 : 0 < cntN (fun u => decide (u = v)) n := cntN_pos.mpr ⟨v, hv, decide_eq_true rfl⟩
  omega
theorem deg2 (P : gP 3 n X) (fm : fam 3 n X m F) (hv : v < n) : cntN (fun j => gIn 3 X F j v) m ≤ 2 :=
  cntN_le2 fun i j k q1 q2 q3 q4 => fm.tri (P.i1 hv) (by decide) (by omega) (by omega) q3 (by omega) (by omega) (by omega) (fun _ _ => gIn_iff.mp q4.1) (fun _ _ => gIn_iff.mp q4.2.1) (fun _ _ => gIn_iff.mp q4.2.2)
theorem fam.count {c d : Nat} (P : gP N n X) (h16 : n ≤ 16) (fm : fam N n X m F) (hc : c + 1 = N) (hd : ∀ v, v < n → cntN (fun j => gIn N X F j v) m ≤ d) : m * c ≤ 16 * d := by
  have h1 : sumN (fun _ => c) m ≤ sumN (fun j => cntN (fun v => gIn N X F j v) n) m := sumN_le fun j hj => by have := fm.card P hj; omega
  have h2 := sumN_le hd
  rw [cntN_swap] at h1
  rw [sumN_c] at h1 h2
  have h3 : n * d ≤ 16 * d := Nat.mul_le_mul_right d h16
  omega
theorem ubt (P : gP N n X) (h16 : n ≤ 16) (hN : 3 ≤ N ∧ N ≤ 5) (fm : fam N n X m F) : m ≤ 104 := by
  have h3 : N = 3 ∨ N = 4 ∨ N = 5 := by omega
  rcases h3 with rfl | rfl | rfl
  · have := fm.count (c := 2) P h16 rfl fun v hv => deg2 P fm hv
    omega
  · have := fm.count (c := 3) P h16 rfl fun v hv => deg15 P h16 fm hv
    omega
  · have := fm.count (c := 4) P h16 rfl fun v hv => deg26 P h16 fm hv
    omega
/-- ridges: each two facets' common places, three at least, no two alike -/
def rdg (n : Nat) (X F : Nat → Nat → Int) (m L : Nat) (a b : Nat → Nat) : Prop := (∀ k, k < L → a k < m ∧ b k < m ∧ a k ≠ b k ∧ 3 ≤ cntN (fun v => gIn 5 X F (a k) v && gIn 5 X F (b k) v) n) ∧ ∀ k k', k < L → k' < L → k ≠ k' → ∃ v, v < n ∧ (gIn 5 X F (a k) v && gIn 5 X F (b k) v) ≠ (gIn 5 X F (a k') v && gIn 5 X F (b k') v)
theorem rdg39 {L : Nat} {a b : Nat → Nat} (P : gP 5 n X) (h16 : n ≤ 16) (fm : fam 5 n X m F) (rd : rdg n X F m L a b) (hv : v < n) : cntN (fun k => gIn 5 X F (a k) v && gIn 5 X F (b k) v) L ≤ 39 := by
  obtain ⟨φ, h, H⟩ := P.gen hv
  obtain ⟨Y, eY⟩ : ∃ Y : Nat → Nat → Bool, Y = fun k v => gIn 5 X F (a k) v && gIn 5 X F (b k) v := ⟨_, rfl⟩
  have Yi : ∀ {k x}, Y k x = true ↔ dt 5 (F (a k)) (X x) = 0 ∧ dt 5 (F (b k)) (X x) = 0 := by
    intro k x
    rw [eY]
    show (gIn 5 X F (a k) x && gIn 5 X F (b k) x) = true ↔ _
    rw [Bool.and_eq_true, gIn_iff, gIn_iff]
  have r1 : ∀ k, k < L → a k < m ∧ b k < m ∧ a k ≠ b k ∧ 3 ≤ cntN (Y k) n := by rw [eY]; exact rd.1
  have r2 : ∀ k k', k < L → k' < L → k ≠ k' → ∃ v, v < n ∧ Y k v ≠ Y k' v := by rw [eY]; exact rd.2
  show cntN (fun k => gIn 5 X F (a k) v && gIn 5 X F (b k) v) L ≤ 39
  rw [show (fun k => gIn 5 X F (a k) v && gIn 5 X F (b k) v) = fun k => Y k v by rw [eY]]
  -- the other facet
  obtain ⟨o, eo⟩ : ∃ o : Nat → Nat → Nat, o = fun j k => if j = a k then b k else a k := ⟨_, rfl⟩
  have oo : ∀ {j k}, k < L → (j = a k ∨ j = b k) → (o j k < m ∧ o j k ≠ j) ∧ ∀ x, Y k x = true ↔ dt 5 (F j) (X x) = 0 ∧ dt 5 (F (o j k)) (X x) = 0 := by
    intro j k hk hj
    obtain ⟨q1, q2, q3, -⟩ := r1 k hk
    rw [eo]
    by_cases e : j = a k
    · show ((if j = a k then b k else a k) < m ∧ (if j = a k then b k else a k) ≠ j) ∧ ∀ x, Y k x = true ↔ dt 5 (F j) (X x) = 0 ∧ dt 5 (F (if j = a k then b k else a k)) (X x) = 0
      rw [if_pos e, e]
      exact ⟨⟨q2, fun z => q3 z.symm⟩, fun x => Yi⟩
    · show ((if j = a k then b k else a k) < m ∧ (if j = a k then b k else a k) ≠ j) ∧ ∀ x, Y k x = true ↔ dt 5 (F j) (X x) = 0 ∧ dt 5 (F (if j = a k then b k else a k)) (X x) = 0
      have e2 := hj.resolve_left e
      rw [if_neg e]
      refine ⟨⟨q1, fun z => e z.symm⟩, fun x => ?_⟩
      rw [Yi, e2]; exact And.comm
  -- three places of a ridge are in no third facet
  have third : ∀ {j k i u y}, j < m → k < L → (j = a k ∨ j = b k) → i < m → i ≠ j → i ≠ o j k → u < n → y < n → u ≠ v → y ≠ v → y ≠ u → Y k v = true → Y k u = true → Y k y = true → dt 5 (F i) (X v) = 0 → dt 5 (F i) (X u) = 0 → dt 5 (F i) (X y) = 0 → False := by
    intro j k i u y hj hk hjk hi' hij hio hu hy huv hyv hyu Yv Yu Yy iv iu iy
    obtain ⟨⟨o1, o2⟩, o3⟩ := oo hk hjk
    have t : ∀ {f : Nat → Int}, dt 5 f (X v) = 0 → dt 5 f (X u) = 0 → dt 5 f (X y) = 0 → ∀ t, t < 3 → dt 5 f (t3 (X v) (X u) (X y) t) = 0 := by
      intro f w1 w2 w3 t ht
      match t, ht with
      | 0, _ => exact w1
      | 1, _ => exact w2
      | 2, _ => exact w3
    have yv := (o3 v).mp Yv
    have yu := (o3 u).mp Yu
    have yy := (o3 y).mp Yy
    exact fm.tri (P.i3 hv hu hy (fun z => huv z.symm) (fun z => hyv z.symm) (fun z => hyu z.symm)) (by decide) hi' hj o1 hij hio (fun z => o2 z.symm) (t iv iu iy) (t yv.1 yu.1 yy.1) (t yv.2 yu.2 yy.2)
  -- the top of each ridge at v
  obtain ⟨U, hU⟩ : ∃ U : Nat → Nat, ∀ k, k < L → Y k v = true → (U k < n ∧ U k ≠ v ∧ Y k (U k) = true ∧ gE 5 n X v (U k)) ∧ ∀ x, x < n → x ≠ v → Y k x = true → x ≠ U k → dt 5 (kf 5 X φ h (U k)) (X x) < 0 := by
    have : ∀ k, ∃ u, k < L → Y k v = true → (u < n ∧ u ≠ v ∧ Y k u = true ∧ gE 5 n X v u) ∧ ∀ x, x < n → x ≠ v → Y k x = true → x ≠ u → dt 5 (kf 5 X φ h u) (X x) < 0 := by
      intro k
      by_cases hk : k < L ∧ Y k v = true
      · obtain ⟨q1, q2, -, q4⟩ := r1 k hk.1
        have va := (fm.1 _ q1).1.1
        have vb := (fm.1 _ q2).1.1
        have ev : ∀ x, dt 5 (fun t => 1 * F (a k) t + 1 * F (b k) t) x = dt 5 (F (a k)) x + dt 5 (F (b k)) x := fun x => by rw [dt_lin]; omega
        have ez : ∀ x, x < n → (dt 5 (fun t => 1 * F (a k) t + 1 * F (b k) t) (X x) = 0 ↔ Y k x = true) := by
          intro x hx
          have w1 := va x hx
          have w2 := vb x hx
          rw [ev, Yi]; omega
        obtain ⟨x0, l0, y0, n0⟩ := cntN_ex (p := Y k) (n := n) (by omega) v
        obtain ⟨u, u1, u2, u3, u4, u5⟩ := top_edge P H hv (l := fun t => 1 * F (a k) t + 1 * F (b k) t) (fun x hx => by have w1 := va x hx; have w2 := vb x hx; rw [ev]; omega) ((ez v hv).mpr hk.2) ⟨x0, l0, n0, (ez x0 l0).mpr y0⟩
        exact ⟨u, fun _ _ => ⟨⟨u1, u2, (ez u u1).mp u3, u4⟩, fun x hx hxv hY => u5 x hx hxv ((ez x hx).mpr hY)⟩⟩
      · exact ⟨0, fun w1 w2 => absurd ⟨w1, w2⟩ hk⟩
    exact Classical.axiomOfChoice this
  have low : ∀ k, k < L → Y k v = true → ∃ y, y < n ∧ y ≠ v ∧ y ≠ U k ∧ Y k y = true ∧ dt 5 (kf 5 X φ h (U k)) (X y) < 0 := by
    intro k hk hY
    obtain ⟨y, y1, y2, y3, y4⟩ := cntN_ex2 (p := Y k) (n := n) (r1 k hk).2.2.2 v (U k)
    exact ⟨y, y1, y3, y4, y2, (hU k hk hY).2 y y1 y3 y2 y4⟩
  have diffO : ∀ {j k k'}, k < L → k' < L → k ≠ k' → (j = a k ∨ j = b k) → (j = a k' ∨ j = b k') → o j k ≠ o j k' := by
    intro j k k' hk hk' hne h1 h2 e
    obtain ⟨x, hx, hxn⟩ := r2 k k' hk hk' hne
    apply hxn
    rw [Bool.eq_iff_iff, (oo hk h1).2, (oo hk' h2).2, e]
  -- ridges of one facet
  have row : ∀ j, j < m → cntN (fun k => Y k v && decide (j = a k ∨ j = b k)) L ≤ 2 * (if gIn 5 X F j v = true then 1 else 0) + cntN (fun u => btB n X v φ h F j u) n := by
    intro j hj
    by_cases hjv : gIn 5 X F j v = true
    · rw [if_pos hjv]
      have jv := gIn_iff.mp hjv
      have cj := fm.card P hj
      obtain ⟨x0, l0, y0, n0⟩ := cntN_ex (p := fun v => gIn 5 X F j v) (n := n) (by omega) v
      obtain ⟨t, t1, t2', t3', -, t5'⟩ := top_edge P H hv (fm.1 j hj).1.1 jv ⟨x0, l0, n0, gIn_iff.mp y0⟩
      rw [cntN_fib (U := U) (n := n) fun k hk hp => (hU k hk (Bool.and_eq_true_iff.mp hp).1).1.1]
      have each : ∀ u, u < n → cntN (fun k => (Y k v && decide (j = a k ∨ j = b k)) && decide (U k = u)) L ≤ 2 * (if u = t then 1 else 0) + (if btB n X v φ h F j u = true then 1 else 0) := by
        intro u hu
        have un : ∀ {k}, ((Y k v && decide (j = a k ∨ j = b k)) && decide (U k = u)) = true → Y k v = true ∧ (j = a k ∨ j = b k) ∧ U k = u := by
          intro k hk
          have w := Bool.and_eq_true_iff.mp hk
          have w2 := Bool.and_eq_true_iff.mp w.1
          exact ⟨w2.1, of_decide_eq_true w2.2, of_decide_eq_true w.2⟩
        by_cases e : u = t
        · rw [if_pos e]
          refine Nat.le_trans (cntN_le2 fun k1 k2 k3 q1 q2 q3 q4 => ?_) (Nat.le_add_right _ _)
          obtain ⟨Y1, j1, e1⟩ := un q4.1
          obtain ⟨Y2, j2, e2⟩ := un q4.2.1
          obtain ⟨Y3, j3, e3⟩ := un q4.2.2
          obtain ⟨⟨u1, u2, Yu1, -⟩, -⟩ := hU k1 (by omega) Y1
          obtain ⟨⟨-, -, Yu2, -⟩, -⟩ := hU k2 (by omega) Y2
          obtain ⟨⟨-, -, Yu3, -⟩, -⟩ := hU k3 (by omega) Y3
          obtain ⟨y1, l1, n1, m1, Z1, -⟩ := low k1 (by omega) Y1
          obtain ⟨y2, l2, n2, m2, Z2, -⟩ := low k2 (by omega) Y2
          obtain ⟨y3, l3, n3, m3, Z3, -⟩ := low k3 (by omega) Y3
          rw [e1] at u1 u2 Yu1 m1
          rw [e2] at Yu2 m2
          rw [e3] at Yu3 m3
          obtain ⟨⟨o1, p1⟩, s1⟩ := oo (show k1 < L by omega) j1
          obtain ⟨⟨o2, p2⟩, s2⟩ := oo (show k2 < L by omega) j2
          obtain ⟨⟨o3, p3⟩, s3⟩ := oo (show k3 < L by omega) j3
          have d12 := diffO (show k1 < L by omega) (show k2 < L by omega) (by omega) j1 j2
          have d13 := diffO (show k1 < L by omega) (show k3 < L by omega) (by omega) j1 j3
          have d23 := diffO (show k2 < L by omega) (show k3 < L by omega) (by omega) j2 j3
          have ng : ∀ {i y : Nat}, i < m → y < n → ¬ dt 5 (F i) (X y) = 0 → dt 5 (F i) (X y) < 0 := by
            intro i y hi' hy hne
            have := (fm.1 i hi').1.1 y hy; omega
          have two : ∀ {f : Nat → Int}, dt 5 f (X v) = 0 → dt 5 f (X u) = 0 → ∀ t, t < 2 → dt 5 f (t2 (X v) (X u) t) = 0 := by
            intro f w1 w2 t ht
            match t, ht with
            | 0, _ => exact w1
            | 1, _ => exact w2
          obtain ⟨w, lw, hw⟩ := gnz_pt P.1 (fm.1 j hj).1.2
          exact part4 (P.i2 hv hu (fun z => u2 z.symm)) (by decide) (f1 := F (o j k1)) (f2 := F (o j k2)) (f3 := F (o j k3)) (k := F j) (x1 := X y1) (x2 := X y2) (x3 := X y3) (w := X w)
            (two ((s1 v).mp Y1).2 ((s1 u).mp Yu1).2) (two ((s2 v).mp Y2).2 ((s2 u).mp Yu2).2) (two ((s3 v).mp Y3).2 ((s3 u).mp Yu3).2) (two jv ((s1 u).mp Yu1).1) hw ((s1 y1).mp Z1).1 ((s2 y2).mp Z2).1 ((s3 y3).mp Z3).1
            ((s1 y1).mp Z1).2 (ng o1 l2 fun z => third hj (show k2 < L by omega) j2 o1 p1 d12 hu l2 u2 n2 m2 Y2 Yu2 Z2 ((s1 v).mp Y1).2 ((s1 u).mp Yu1).2 z) (ng o1 l3 fun z => third hj (show k3 < L by omega) j3 o1 p1 d13 hu l3 u2 n3 m3 Y3 Yu3 Z3 ((s1 v).mp Y1).2 ((s1 u).mp Yu1).2 z)
            (ng o2 l1 fun z => third hj (show k1 < L by omega) j1 o2 p2 (fun q => d12 q.symm) hu l1 u2 n1 m1 Y1 Yu1 Z1 ((s2 v).mp Y2).2 ((s2 u).mp Yu2).2 z) ((s2 y2).mp Z2).2 (ng o2 l3 fun z => third hj (show k3 < L by omega) j3 o2 p2 d23 hu l3 u2 n3 m3 Y3 Yu3 Z3 ((s2 v).mp Y2).2 ((s2 u).mp Yu2).2 z)
            (ng o3 l1 fun z => third hj (show k1 < L by omega) j1 o3 p3 (fun q => d13 q.symm) hu l1 u2 n1 m1 Y1 Yu1 Z1 ((s3 v).mp Y3).2 ((s3 u).mp Yu3).2 z) (ng o3 l2 fun z => third hj (show k2 < L by omega) j2 o3 p3 (fun q => d23 q.symm) hu l2 u2 n2 m2 Y2 Yu2 Z2 ((s3 v).mp Y3).2 ((s3 u).mp Yu3).2 z) ((s3 y3).mp Z3).2
        · rw [if_neg e]
          by_cases hex : ∃ k, k < L ∧ ((Y k v && decide (j = a k ∨ j = b k)) && decide (U k = u)) = true
          · obtain ⟨k0, hk0, hp0⟩ := hex
            obtain ⟨Y0, j0, e0⟩ := un hp0
            obtain ⟨⟨u1, u2, Yu0, uE⟩, -⟩ := hU k0 hk0 Y0
            obtain ⟨y0, ly0, ny0, my0, Z0, ky0⟩ := low k0 hk0 Y0
            rw [e0] at u1 u2 Yu0 uE my0 ky0
            obtain ⟨⟨o0, p0⟩, s0⟩ := oo hk0 j0
            have fu := ((s0 u).mp Yu0).1
            have kt : 0 < dt 5 (kf 5 X φ h u) (X t) := by
              have := t5' u hu u2 fu e
              rw [kf_anti] at this; omega
            have hb : btB n X v φ h F j u = true := tB_t ⟨jv, ⟨hu, u2, fu, uE⟩, ⟨y0, ly0, ((s0 y0).mp Z0).1, ky0⟩, t, t1, t3', kt⟩
            rw [if_pos hb]
            refine Nat.le_trans (cntN_le1 fun k1 k2 q1 q2 q4 => ?_) (Nat.le_add_left _ _)
            obtain ⟨Y1, j1, e1⟩ := un q4.1
            obtain ⟨Y2, j2, e2⟩ := un q4.2
            obtain ⟨⟨-, -, Yu1, -⟩, -⟩ := hU k1 (by omega) Y1
            obtain ⟨⟨-, -, Yu2, -⟩, -⟩ := hU k2 (by omega) Y2
            obtain ⟨y1, l1, n1, m1, Z1, ky1⟩ := low k1 (by omega) Y1
            obtain ⟨y2, l2, n2, m2, Z2, ky2⟩ := low k2 (by omega) Y2
            rw [e1] at Yu1 m1 ky1
            rw [e2] at Yu2 m2 ky2
            obtain ⟨⟨o1, p1⟩, s1⟩ := oo (show k1 < L by omega) j1
            obtain ⟨⟨o2, p2⟩, s2⟩ := oo (show k2 < L by omega) j2
            have d12 := diffO (show k1 < L by omega) (show k2 < L by omega) (by omega) j1 j2
            have ng : ∀ {i y : Nat}, i < m → y < n → ¬ dt 5 (F i) (X y) = 0 → dt 5 (F i) (X y) < 0 := by
              intro i y hi' hy hne
              have := (fm.1 i hi').1.1 y hy; omega
            have two : ∀ {f : Nat → Int}, dt 5 f (X v) = 0 → dt 5 f (X u) = 0 → ∀ t, t < 2 → dt 5 f (t2 (X v) (X u) t) = 0 := by
              intro f w1 w2 t ht
              match t, ht with
              | 0, _ => exact w1
              | 1, _ => exact w2
            obtain ⟨w, lw, hw⟩ := gnz_pt P.1 (fm.1 j hj).1.2
            exact part4t (P.i2 hv hu (fun z => u2 z.symm)) (by decide) (f := F j) (f1 := F (o j k1)) (f2 := F (o j k2)) (k := kf 5 X φ h u) (x1 := X y1) (x2 := X y2) (t := X t) (w := X w)
              (two ((s1 v).mp Y1).2 ((s1 u).mp Yu1).2) (two ((s2 v).mp Y2).2 ((s2 u).mp Yu2).2) (two (kf_v H) kf_u) (two jv fu) hw ((s1 y1).mp Z1).1 ((s2 y2).mp Z2).1 t3'
              ((s1 y1).mp Z1).2 (ng o1 l2 fun z => third hj (show k2 < L by omega) j2 o1 p1 d12 hu l2 u2 n2 m2 Y2 Yu2 Z2 ((s1 v).mp Y1).2 ((s1 u).mp Yu1).2 z) ((fm.1 _ o1).1.1 t t1)
              (ng o2 l1 fun z => third hj (show k1 < L by omega) j1 o2 p2 (fun q => d12 q.symm) hu l1 u2 n1 m1 Y1 Yu1 Z1 ((s2 v).mp Y2).2 ((s2 u).mp Yu2).2 z) ((s2 y2).mp Z2).2 ((fm.1 _ o2).1.1 t t1) ky1 ky2 kt
          · rw [cntN_0 fun k hk hp => hex ⟨k, hk, hp⟩]; exact Nat.zero_le _
      refine Nat.le_trans (sumN_le each) ?_
      rw [sumN_add, sumN_mul, sumN_one t1, ← cntN_sum]
      exact Nat.le_refl _
    · rw [cntN_0]
      · exact Nat.zero_le _
      · intro k hk hp
        have w := Bool.and_eq_true_iff.mp hp
        exact hjv (gIn_iff.mpr (((oo hk (of_decide_eq_true w.2)).2 v).mp w.1).1)
  have tot := sumN_le row
  rw [sumN_add, sumN_mul, ← cntN_sum, cntN_swap] at tot
  have d26 := deg26 P h16 fm hv
  have b26 := btB_all P h16 fm hv H
  have two : 2 * cntN (fun k => Y k v) L ≤ sumN (fun k => cntN (fun j => Y k v && decide (j = a k ∨ j = b k)) m) L := by
    rw [cntN_sum, ← sumN_mul]
    refine sumN_le fun k hk => ?_
    by_cases hY : Y k v = true
    · rw [if_pos hY]
      obtain ⟨q1, q2, q3, -⟩ := r1 k hk
      have e1 : cntN (fun j => Y k v && decide (j = a k ∨ j = b k)) m = cntN (fun j => decide (j = a k ∨ j = b k)) m := cntN_ext fun j _ => by rw [hY]; rfl
      have h1 : cntN (fun j => decide (j = a k)) m < cntN (fun j => decide (j = a k ∨ j = b k)) m := cntN_ltq (fun i _ hh => decide_eq_true (Or.inl (of_decide_eq_true hh))) ⟨b k, q2, decide_eq_true (Or.inr rfl), fun z => q3 (of_decide_eq_true z).symm⟩
      have h3 : 0 < cntN (fun j => decide (j = a k)) m := cntN_pos.mpr ⟨a k, q1, decide_eq_true rfl⟩
      omega
    · rw [if_neg hY]; exact Nat.zero_le _
  omega
theorem rdg208 {L : Nat} {a b : Nat → Nat} (P : gP 5 n X) (h16 : n ≤ 16) (fm : fam 5 n X m F) (rd : rdg n X F m L a b) : L ≤ 208 := by
  have h1 : sumN (fun _ => 3) L ≤ sumN (fun k => cntN (fun v => gIn 5 X F (a k) v && gIn 5 X F (b k) v) n) L := sumN_le fun k hk => (rd.1 k hk).2.2.2
  have h2 := sumN_le (n := n) fun v hv => rdg39 P h16 fm rd hv
  rw [cntN_swap] at h1
  rw [sumN_c] at h1 h2
  omega
end UBT

/-! ===== PIECES, PURE: below a facet; of a body ===== -/
section PIECEF
variable {C : Nat → List Nat} {F u i j k : Nat}
def subB (x y : Nat) : Prop := ∀ b, x.testBit b = true → y.testBit b = true
/-- what is known of the faces of a facet F -/
def fcP (C : Nat → List Nat) (F : Nat) : Prop := (∀ R R' x y z, R ∈ C 2 → R' ∈ C 2 → subB R F → subB R' F → R ≠ R' → x ≠ y → x ≠ z → y ≠ z → ¬ ((R.testBit x = true ∧ R.testBit y = true ∧ R.testBit z = true) ∧ R'.testBit x = true ∧ R'.testBit y = true ∧ R'.testBit z = true)) ∧
  (∀ R1 R2 R3 x y, R1 ∈ C 2 → R2 ∈ C 2 → R3 ∈ C 2 → subB R1 F → subB R2 F → subB R3 F → R1 ≠ R2 → R1 ≠ R3 → R2 ≠ R3 → x ≠ y → ¬ ((R1.testBit x = true ∧ R1.testBit y = true) ∧ (R2.testBit x = true ∧ R2.testBit y = true) ∧ R3.testBit x = true ∧ R3.testBit y = true)) ∧
  ∀ R1 R2 x y, R1 ∈ C 2 → R2 ∈ C 2 → subB R1 F → subB R2 F → R1 ≠ R2 → x ≠ y → (R1.testBit x = true ∧ R1.testBit y = true) → (R2.testBit x = true ∧ R2.testBit y = true) → (2 ^ x ||| 2 ^ y) ∈ C 1
/-- what is known of the faces -/
def clP (C : Nat → List Nat) : Prop := edgP (C 1) ∧ ((C 2).Nodup ∧ (∀ R, R ∈ C 2 → 0 < R ∧ R < 65536) ∧ ∀ R, R ∈ C 2 → polP (C 1) R)
theorem pcR_u {R u t b : Nat} (K : clP C) (hR : R ∈ C 2) (ht : t ∈ pcg C 2 R u) (hb : u.testBit b = true) : t.testBit b = true := by
  rw [pcg_R K.1 (K.2.2.1 R hR)] at ht
  split at ht
  · rw [List.mem_singleton.mp ht, Nat.testBit_or, hb, Bool.or_true]
  · obtain ⟨e, he, rfl⟩ := List.mem_map.mp ht
    rw [Nat.testBit_or, Nat.testBit_or, hb, Bool.true_or, Bool.or_true]
theorem pcR_in {R u : Nat} (K : clP C) (hR : R ∈ C 2) {p : Nat → Bool} {b : Nat} (hu : u.testBit b = false) (hp : ∀ t, p t = true → t.testBit b = true) (hn : (pcg C 2 R u).countP p ≠ 0) : R.testBit b = true := by
  cases e : R.testBit b with
  | true => rfl
  | false => exact absurd (pcR_0 K.1 (K.2.2.1 R hR) e hu hp) hn
theorem q3_i {t : Nat} (h : q3 i j k t = true) : t.testBit i = true := (q3_iff.mp h).1
theorem q3_j {t : Nat} (h : q3 i j k t = true) : t.testBit j = true := (q3_iff.mp h).2.1
theorem q3_k {t : Nat} (h : q3 i j k t = true) : t.testBit k = true := (q3_iff.mp h).2.2
theorem q2_i {t : Nat} (h : q2 i j t = true) : t.testBit i = true := (q2_iff.mp h).1
theorem q2_j {t : Nat} (h : q2 i j t = true) : t.testBit j = true := (q2_iff.mp h).2
section
theorem pcF_sub (K : clP C) (hF : 0 < F ∧ F < 65536) {t : Nat} (ht : t ∈ pcg C 3 F u) {b : Nat} (hb : t.testBit b = true) : F.testBit b = true ∨ u.testBit b = true := by
  obtain ⟨v, v1, -, hv⟩ := low_spec hF.1 hF.2
  rw [pcg] at ht
  split at ht
  · rw [List.mem_singleton.mp ht, Nat.testBit_or, Bool.or_eq_true] at hb
    exact hb
  · obtain ⟨R, hR, ht⟩ := List.mem_flatMap.mp ht
    obtain ⟨m1, b1⟩ := List.mem_filter.mp hR
    rcases pcR_sub K.1 (K.2.2.1 R m1) ht hb with h | h
    · exact Or.inl (((blw_iff hv).mp b1).1 b h)
    · rw [Nat.testBit_or, Bool.or_eq_true, hv, Nat.testBit_two_pow, decide_eq_true_eq] at h
      rcases h with h | h
      · exact Or.inr h
      · rw [← h]; exact Or.inl v1
theorem pcF_0 (K : clP C) (hF : 0 < F ∧ F < 65536) {p : Nat → Bool} {b : Nat} (hb : F.testBit b = false) (hu : u.testBit b = false) (hp : ∀ t, p t = true → t.testBit b = true) : (pcg C 3 F u).countP p = 0 := List.countP_eq_zero.mpr fun t ht hpt => by
  rcases pcF_sub K hF ht (hp t hpt) with h | h
  · rw [hb] at h; cases h
  · rw [hu] at h; cases h
theorem pcF_3 (K : clP C) (hF : 0 < F ∧ F < 65536) (hP : fcP C F) (hi : u.testBit i = false) (hj : u.testBit j = false) (hk : u.testBit k = false) (h1 : i < j) (h2 : j < k) (c : Nat) (hc : c = 2 ∨ (c = 1 ∧ ∃ R0, R0 ∈ C 2 ∧ subB R0 F ∧ R0.testBit i = true ∧ R0.testBit j = true ∧ R0.testBit k = true)) : (pcg C 3 F u).countP (q3 i j k) ≤ c := by
  have c1 : 1 ≤ c := by omega
  obtain ⟨v, v1, v2, hv⟩ := low_spec hF.1 hF.2
  rw [pcg]
  split
  · exact Nat.le_trans cnt_one c1
  · rw [cnt_flat]
    have sb : ∀ {R}, R ∈ (C 2).filter (blwB F) → R ∈ C 2 ∧ subB R F ∧ R.testBit v = false := fun {R} hR => by
      obtain ⟨m1, b1⟩ := List.mem_filter.mp hR
      have := (blw_iff hv).mp b1
      exact ⟨m1, this.1, this.2⟩
    have nd := K.2.1.filter (blwB F)
    have ul : ∀ {b}, u.testBit b = false → b ≠ v → (u ||| low F).testBit b = false := fun {b} hb hne => by
      rw [Nat.testBit_or, hb, Bool.false_or, hv, Nat.testBit_two_pow]; exact decide_eq_false fun e => hne e.symm
    by_cases ei : i = v
    · -- the lowest
      have eq : ∀ R, R ∈ (C 2).filter (blwB F) → (pcg C 2 R (u ||| low F)).countP (q3 i j k) = (pcg C 2 R (u ||| low F)).countP (q2 j k) := fun R hR => cnt_ext fun t ht => by
        unfold q3 q2
        rw [pcR_u K (sb hR).1 ht (by rw [Nat.testBit_or, hv, ei, Nat.testBit_two_pow_self, Bool.or_true]), Bool.true_and]
      have in2 : ∀ {R}, R ∈ (C 2).filter (blwB F) → (pcg C 2 R (u ||| low F)).countP (q3 i j k) ≠ 0 → R.testBit j = true ∧ R.testBit k = true := fun {R} hR hn =>
        ⟨pcR_in K (sb hR).1 (ul hj (by omega)) (fun _ => q3_j) hn, pcR_in K (sb hR).1 (ul hk (by omega)) (fun _ => q3_k) hn⟩
      have one : ∀ R, R ∈ (C 2).filter (blwB F) → (2 ^ j ||| 2 ^ k) ∈ C 1 → (pcg C 2 R (u ||| low F)).countP (q3 i j k) ≤ 1 := fun R hR he => by
        rw [eq R hR]
        exact pcR_2 K.1 (K.2.2.1 R (sb hR).1) (K.2.2.2 R (sb hR).1) (ul hj (by omega)) (ul hk (by omega)) (by omega) 1 (Or.inr ⟨rfl, he⟩)
      rcases hc with rfl | ⟨rfl, R0, m0, s0, z1, z2, z3⟩
      · by_cases ex : ∃ R1 R2, R1 ∈ (C 2).filter (blwB F) ∧ R2 ∈ (C 2).filter (blwB F) ∧ R1 ≠ R2 ∧ (pcg C 2 R1 (u ||| low F)).countP (q3 i j k) ≠ 0 ∧ (pcg C 2 R2 (u ||| low F)).countP (q3 i j k) ≠ 0
        · obtain ⟨R1, R2, m1, m2, ne, n1, n2⟩ := ex
          have he := hP.2.2 R1 R2 j k (sb m1).1 (sb m2).1 (sb m1).2.1 (sb m2).2.1 ne (by omega) (in2 m1 n1) (in2 m2 n2)
          refine sum_le2 (c := 1) nd (fun R hR => one R hR he) fun A B D a1 a2 a3 e1 e2 e3 => Classical.byContradiction fun hn => ?_
          exact hP.2.1 A B D j k (sb a1).1 (sb a2).1 (sb a3).1 (sb a1).2.1 (sb a2).2.1 (sb a3).2.1 e1 e2 e3 (by omega) ⟨in2 a1 fun q => hn (Or.inl q), in2 a2 fun q => hn (Or.inr (Or.inl q)), in2 a3 fun q => hn (Or.inr (Or.inr q))⟩
        · refine sum_le1 nd (fun R hR => ?_) fun A B a1 a2 ne => Classical.byContradiction fun hn => ex ⟨A, B, a1, a2, ne, fun q => hn (Or.inl q), fun q => hn (Or.inr q)⟩
          rw [eq R hR]
          exact pcR_2 K.1 (K.2.2.1 R (sb hR).1) (K.2.2.2 R (sb hR).1) (ul hj (by omega)) (ul hk (by omega)) (by omega) 2 (Or.inl rfl)
      · have ne0 : ∀ {R}, R ∈ (C 2).filter (blwB F) → R0 ≠ R := fun {R} hR e => by
          have := (sb hR).2.2
          rw [← e, ← ei, z1] at this
          cases this
        refine sum_le1 nd (fun R hR => ?_) fun A B a1 a2 ne => Classical.byContradiction fun hn => ?_
        · by_cases hn : (pcg C 2 R (u ||| low F)).countP (q3 i j k) = 0
          · omega
          · exact one R hR (hP.2.2 R0 R j k m0 (sb hR).1 s0 (sb hR).2.1 (ne0 hR) (by omega) ⟨z2, z3⟩ (in2 hR hn))
        · exact hP.2.1 R0 A B j k m0 (sb a1).1 (sb a2).1 s0 (sb a1).2.1 (sb a2).2.1 (ne0 a1) (ne0 a2) ne (by omega) ⟨⟨z2, z3⟩, in2 a1 fun q => hn (Or.inl q), in2 a2 fun q => hn (Or.inr q)⟩
    · by_cases ev : j = v ∨ k = v
      · -- i isn't in F
        have hi0 : F.testBit i = false := v2 i (by omega)
        refine Nat.le_trans (Nat.le_of_eq (sum_le0 fun R hR => ?_)) (Nat.zero_le _)
        exact Classical.byContradiction fun hn => by
          have := (sb hR).2.1 i (pcR_in K (sb hR).1 (ul hi ei) (fun _ => q3_i) hn)
          rw [hi0] at this
          cases this
      · have nj : j ≠ v := fun e => ev (Or.inl e)
        have nk : k ≠ v := fun e => ev (Or.inr e)
        refine Nat.le_trans (sum_le1 (c := 1) nd (fun R hR => pcR_3 K.1 (K.2.2.1 R (sb hR).1) (ul hi ei) (ul hj nj) (ul hk nk) (by omega) (by omega) (by omega)) fun A B a1 a2 ne => Classical.byContradiction fun hn => ?_) c1
        have in3 : ∀ {R}, R ∈ (C 2).filter (blwB F) → (pcg C 2 R (u ||| low F)).countP (q3 i j k) ≠ 0 → R.testBit i = true ∧ R.testBit j = true ∧ R.testBit k = true := fun {R} hR hn =>
          ⟨pcR_in K (sb hR).1 (ul hi ei) (fun _ => q3_i) hn, pcR_in K (sb hR).1 (ul hj nj) (fun _ => q3_j) hn, pcR_in K (sb hR).1 (ul hk nk) (fun _ => q3_k) hn⟩
        exact hP.1 A B i j k (sb a1).1 (sb a2).1 (sb a1).2.1 (sb a2).2.1 ne (by omega) (by omega) (by omega) ⟨in3 a1 fun q => hn (Or.inl q), in3 a2 fun q => hn (Or.inr q)⟩
end
/-- a body of four dimensions: three corners but 0 are in two pieces at most -/
theorem pc4_3 (K : clP C) (nd : (C 3).Nodup) (hF : ∀ F, F ∈ C 3 → 0 < F ∧ F < 65536) (hP : ∀ F, F ∈ C 3 → fcP C F) (h3 : ∀ F1 F2 F3 x y z, F1 ∈ C 3 → F2 ∈ C 3 → F3 ∈ C 3 → F1 ≠ F2 → F1 ≠ F3 → F2 ≠ F3 → x ≠ y → x ≠ z → y ≠ z → ¬ ((F1.testBit x = true ∧ F1.testBit y = true ∧ F1.testBit z = true) ∧ (F2.testBit x = true ∧ F2.testBit y = true ∧ F2.testBit z = true) ∧ F3.testBit x = true ∧ F3.testBit y = true ∧ F3.testBit z = true)) (hm : ∀ F1 F2 x y z, F1 ∈ C 3 → F2 ∈ C 3 → F1 ≠ F2 → x ≠ y → x ≠ z → y ≠ z → (F1.testBit x = true ∧ F1.testBit y = true ∧ F1.testBit z = true) → (F2.testBit x = true ∧ F2.testBit y = true ∧ F2.testBit z = true) → F1 &&& F2 ∈ C 2) {X : Nat} (hX : 0 < X ∧ X < 65536) (x0 : X.testBit 0 = true) (h0 : 0 < i) (h1 : i < j) (h2 : j < k) : (pcg C 4 X 0).countP (q3 i j k) ≤ 2 := by
  obtain ⟨v, v1, v2, hv⟩ := low_spec hX.1 hX.2
  have ev : v = 0 := Classical.byContradiction fun e => by have := v2 0 (by omega); rw [x0] at this; cases this
  rw [pcg]
  split
  · exact Nat.le_trans cnt_one (by decide)
  · rw [cnt_flat]
    have nd' := nd.filter (blwB X)
    have ul : ∀ {b}, 0 < b → (0 ||| low X).testBit b = false := fun {b} hb => by
      rw [hv, ev, Nat.zero_or, Nat.testBit_two_pow]; exact decide_eq_false (by omega)
    have mm : ∀ {F}, F ∈ (C 3).filter (blwB X) → F ∈ C 3 := fun h => (List.mem_filter.mp h).1
    have in3 : ∀ {F}, F ∈ (C 3).filter (blwB X) → (pcg C 3 F (0 ||| low X)).countP (q3 i j k) ≠ 0 → F.testBit i = true ∧ F.testBit j = true ∧ F.testBit k = true := fun {F} hFm hn => by
      have key : ∀ b, 0 < b → (∀ t, q3 i j k t = true → t.testBit b = true) → F.testBit b = true := fun b hb hp => by
        cases e : F.testBit b with
        | true => rfl
        | false => exact absurd (pcF_0 K (hF F (mm hFm)) e (ul hb) hp) hn
      exact ⟨key i h0 fun _ => q3_i, key j (by omega) fun _ => q3_j, key k (by omega) fun _ => q3_k⟩
    by_cases ex : ∃ F1 F2, F1 ∈ (C 3).filter (blwB X) ∧ F2 ∈ (C 3).filter (blwB X) ∧ F1 ≠ F2 ∧ (pcg C 3 F1 (0 ||| low X)).countP (q3 i j k) ≠ 0 ∧ (pcg C 3 F2 (0 ||| low X)).countP (q3 i j k) ≠ 0
    · obtain ⟨F1, F2, m1, m2, ne, n1, n2⟩ := ex
      have b1 := in3 m1 n1
      have b2 := in3 m2 n2
      have hR := hm F1 F2 i j k (mm m1) (mm m2) ne (by omega) (by omega) (by omega) b1 b2
      have bR : ∀ {b}, F1.testBit b = true → F2.testBit b = true → (F1 &&& F2).testBit b = true := fun h1 h2 => by rw [Nat.testBit_and, h1, h2]; rfl
      refine sum_le2 (c := 1) nd' (fun F hFm => ?_) fun A B D a1 a2 a3 e1 e2 e3 => Classical.byContradiction fun hn => ?_
      · by_cases hn : (pcg C 3 F (0 ||| low X)).countP (q3 i j k) = 0
        · omega
        · have hor : F = F1 ∨ F = F2 := Classical.byContradiction fun w => h3 F F1 F2 i j k (mm hFm) (mm m1) (mm m2) (fun q => w (Or.inl q)) (fun q => w (Or.inr q)) ne (by omega) (by omega) (by omega) ⟨in3 hFm hn, b1, b2⟩
          refine pcF_3 K (hF F (mm hFm)) (hP F (mm hFm)) (ul h0) (ul (by omega)) (ul (by omega)) h1 h2 1 (Or.inr ⟨rfl, F1 &&& F2, hR, fun b hb => ?_, bR b1.1 b2.1, bR b1.2.1 b2.2.1, bR b1.2.2 b2.2.2⟩)
          rw [Nat.testBit_and, Bool.and_eq_true] at hb
          rcases hor with e | e
          · rw [e]; exact hb.1
          · rw [e]; exact hb.2
      · exact h3 A B D i j k (mm a1) (mm a2) (mm a3) e1 e2 e3 (by omega) (by omega) (by omega) ⟨in3 a1 fun q => hn (Or.inl q), in3 a2 fun q => hn (Or.inr (Or.inl q)), in3 a3 fun q => hn (Or.inr (Or.inr q))⟩
    · exact sum_le1 nd' (fun F hFm => pcF_3 K (hF F (mm hFm)) (hP F (mm hFm)) (ul h0) (ul (by omega)) (ul (by omega)) h1 h2 2 (Or.inl rfl)) fun A B a1 a2 ne => Classical.byContradiction fun hn => ex ⟨A, B, a1, a2, ne, fun q => hn (Or.inl q), fun q => hn (Or.inr q)⟩
/-- a body of three dimensions: two corners but 0 are in four pieces at most -/
theorem pc3_2 (K : clP C) (h3 : ∀ F1 F2 F3 x y, F1 ∈ C 2 → F2 ∈ C 2 → F3 ∈ C 2 → F1 ≠ F2 → F1 ≠ F3 → F2 ≠ F3 → x ≠ y → ¬ ((F1.testBit x = true ∧ F1.testBit y = true) ∧ (F2.testBit x = true ∧ F2.testBit y = true) ∧ F3.testBit x = true ∧ F3.testBit y = true)) {X : Nat} (hX : 0 < X ∧ X < 65536) (x0 : X.testBit 0 = true) (h0 : 0 < i) (h1 : i < j) : (pcg C 3 X 0).countP (q2 i j) ≤ 4 := by
  obtain ⟨v, v1, v2, hv⟩ := low_spec hX.1 hX.2
  have ev : v = 0 := Classical.byContradiction fun e => by have := v2 0 (by omega); rw [x0] at this; cases this
  rw [pcg]
  split
  · exact Nat.le_trans cnt_one (by decide)
  · rw [cnt_flat]
    have ul : ∀ {b}, 0 < b → (0 ||| low X).testBit b = false := fun {b} hb => by
      rw [hv, ev, Nat.zero_or, Nat.testBit_two_pow]; exact decide_eq_false (by omega)
    have mm : ∀ {F}, F ∈ (C 2).filter (blwB X) → F ∈ C 2 := fun h => (List.mem_filter.mp h).1
    have in2 : ∀ {F}, F ∈ (C 2).filter (blwB X) → (pcg C 2 F (0 ||| low X)).countP (q2 i j) ≠ 0 → F.testBit i = true ∧ F.testBit j = true := fun {F} hFm hn =>
      ⟨pcR_in K (mm hFm) (ul h0) (fun _ => q2_i) hn, pcR_in K (mm hFm) (ul (by omega)) (fun _ => q2_j) hn⟩
    refine sum_le2 (c := 2) (K.2.1.filter _) (fun F hFm => pcR_2 K.1 (K.2.2.1 F (mm hFm)) (K.2.2.2 F (mm hFm)) (ul h0) (ul (by omega)) (by omega) 2 (Or.inl rfl)) fun A B D a1 a2 a3 e1 e2 e3 => Classical.byContradiction fun hn => ?_
    exact h3 A B D i j (mm a1) (mm a2) (mm a3) e1 e2 e3 (by omega) ⟨in2 a1 fun q => hn (Or.inl q), in2 a2 fun q => hn (Or.inr (Or.inl q)), in2 a3 fun q => hn (Or.inr (Or.inr q))⟩
end PIECEF

/-! ===== GEOMETRY: what the programs need of it ===== -/
section GEO
variable {l : List pt4} {D : Nat} {f : Nat → Int}
/-- corners' places among the points; how many -/
noncomputable def kap (l : List pt4) (D c : Nat) : Nat := (pickN (fun p => tB (corP l D p)) l.length).getD c 0
noncomputable def ncr (l : List pt4) (D : Nat) : Nat := cntN (fun p => tB (corP l D p)) l.length
theorem kap_spec {c : Nat} (hc : c < ncr l D) : kap l D c < l.length ∧ corP l D (kap l D c) ∧ cntN (fun p => tB (corP l D p)) (kap l D c) = c := by
  obtain ⟨k, h1, h2, h3, h4⟩ := pickN_get (fun p => tB (corP l D p)) hc
  have e : kap l D c = k := h4
  rw [e]
  exact ⟨h1, tB_iff.mp h2, h3⟩
theorem kap_of {p : Nat} (hp : p < l.length) (h : corP l D p) : cntN (fun p => tB (corP l D p)) p < ncr l D ∧ kap l D (cntN (fun p => tB (corP l D p)) p) = p := by
  have h1 : cntN (fun p => tB (corP l D p)) p < ncr l D := cntN_lt hp (tB_t h)
  refine ⟨h1, ?_⟩
  obtain ⟨a, b, c⟩ := kap_spec h1
  rcases Nat.lt_trichotomy (kap l D (cntN (fun p => tB (corP l D p)) p)) p with w | w | w
  · have := cntN_lt (p := fun p => tB (corP l D p)) w (tB_t b); omega
  · exact w
  · have := cntN_lt (p := fun p => tB (corP l D p)) w (tB_t h); omega
theorem kap_inj {a b : Nat} (ha : a < ncr l D) (hb : b < ncr l D) (e : kap l D a = kap l D b) : a = b := by
  have h1 := (kap_spec ha).2.2
  have h2 := (kap_spec hb).2.2
  rw [e] at h1
  omega
theorem ncr_le : ncr l D ≤ l.length := cntN_le
theorem fac_2 (ok : okP l D) (hF : gful (D + 1) l.length (vX l D)) (hf : gfc (D + 1) l.length (vX l D) f) : 2 ≤ l.length ∧ ∃ p, p < l.length ∧ dt (D + 1) f (vX l D p) = 0 := by
  have hc := fct_card hF hf
  have hD := ok.2.2.2.2
  have h1 := cntN_le (p := fun p => decide (dt (D + 1) f (vX l D p) = 0)) (n := l.length)
  refine ⟨by omega, ?_⟩
  obtain ⟨p, hp, h2⟩ := cntN_pos.mp (show 0 < cntN (fun p => decide (dt (D + 1) f (vX l D p) = 0)) l.length by omega)
  exact ⟨p, hp, of_decide_eq_true h2⟩
theorem cor_gco (ok : okP l D) (hF : gful (D + 1) l.length (vX l D)) {p : Nat} (hp : p < l.length) : corP l D p ↔ gco (D + 1) l.length (vX l D) p := by
  constructor
  · rintro ⟨⟨x, hx, hb⟩, hu⟩
    obtain ⟨f, hf, rfl⟩ := (isFac_iff ok hF).mp hx
    refine cor_of hF hp ⟨f, hf, (zM_bit hp).mp hb⟩ fun y hy hne => ?_
    refine Classical.byContradiction fun z => hne (hu y hy fun x hx hxp => ?_)
    obtain ⟨g, hg, rfl⟩ := (isFac_iff ok hF).mp hx
    rw [zM_bit hp] at hxp
    rw [zM_bit hy]
    exact Classical.byContradiction fun w => z ⟨g, hg, hxp, w⟩
  · intro h
    obtain ⟨⟨f, hf, f0⟩, hx⟩ := cor_facets hF h
    refine ⟨⟨zM l D f, (isFac_iff ok hF).mpr ⟨f, hf, rfl⟩, (zM_bit hp).mpr f0⟩, fun b hb hall => ?_⟩
    refine Classical.byContradiction fun hne => ?_
    obtain ⟨g, hg, g0, g1⟩ := hx b hb hne
    have := (zM_bit hb).mp (hall (zM l D g) ((isFac_iff ok hF).mpr ⟨g, hg, rfl⟩) ((zM_bit hp).mpr g0))
    omega
/-- the corners, with a 1 behind -/
noncomputable def cX (l : List pt4) (D : Nat) : Nat → Nat → Int := fun c => vX l D (kap l D c)
theorem geo_cr (ok : okP l D) (hF : gful (D + 1) l.length (vX l D)) : gcr (D + 1) l.length (vX l D) (ncr l D) (kap l D) := by
  refine ⟨fun p => ⟨fun h => ?_, fun h => ?_⟩, fun a b ha hb => kap_inj ha hb⟩
  · have h2 := kap_of h.1 ((cor_gco ok hF h.1).mpr h)
    exact ⟨_, h2.1, h2.2⟩
  · obtain ⟨c, hc, rfl⟩ := h
    have h2 := kap_spec hc
    exact (cor_gco ok hF h2.1).mp h2.2.1
theorem geo_P (ok : okP l D) (hF : gful (D + 1) l.length (vX l D)) (h2 : 2 ≤ l.length) : gP (D + 1) (ncr l D) (cX l D) :=
  ⟨gcr_ful (X := vX l D) vX_one (vX_inj ok h2) (geo_cr ok hF) hF, gcr_one (X := vX l D) (geo_cr ok hF) vX_one, fun c hc => gcr_co (X := vX l D) (geo_cr ok hF) hc⟩
theorem sqP_bit {y c : Nat} : ∀ {p : Nat}, (sqP l D y p).testBit c = true ↔ ∃ q, q < p ∧ y.testBit q = true ∧ corP l D q ∧ cntN (fun q => tB (corP l D q)) q = c
  | 0 => by
    show (0 : Nat).testBit c = true ↔ _
    rw [Nat.zero_testBit]
    exact ⟨fun h => absurd h Bool.false_ne_true, fun ⟨q, hq, _⟩ => absurd hq (Nat.not_lt_zero q)⟩
  | p + 1 => by
    rw [sqP, Nat.testBit_or, Bool.or_eq_true, sqP_bit]
    constructor
    · rintro (⟨q, h1, h2⟩ | h)
      · exact ⟨q, by omega, h2⟩
      · by_cases hc : y.testBit p = true ∧ tB (corP l D p) = true
        · rw [if_pos hc, Nat.testBit_two_pow, decide_eq_true_eq] at h
          exact ⟨p, by omega, hc.1, tB_iff.mp hc.2, h⟩
        · rw [if_neg hc, Nat.zero_testBit] at h
          exact absurd h Bool.false_ne_true
    · rintro ⟨q, h1, h2, h3, h4⟩
      by_cases e : q = p
      · subst e
        right
        rw [if_pos ⟨h2, tB_t h3⟩, Nat.testBit_two_pow, decide_eq_true_eq]; exact h4
      · exact Or.inl ⟨q, by omega, h2, h3, h4⟩
theorem sqP_kap {y c : Nat} : (sqP l D y l.length).testBit c = true ↔ c < ncr l D ∧ y.testBit (kap l D c) = true := by
  rw [sqP_bit]
  constructor
  · rintro ⟨q, h1, h2, h3, h4⟩
    have h5 := kap_of h1 h3
    rw [h4] at h5
    exact ⟨h5.1, by rw [h5.2]; exact h2⟩
  · rintro ⟨h1, h2⟩
    obtain ⟨a, b, c'⟩ := kap_spec h1
    exact ⟨kap l D c, a, h2, b, c'⟩
/-- a facet by its corners -/
theorem sqP_zM {c : Nat} : (sqP l D (zM l D f) l.length).testBit c = true ↔ c < ncr l D ∧ dt (D + 1) f (cX l D c) = 0 := by
  rw [sqP_kap]
  exact ⟨fun h => ⟨h.1, (zM_bit (kap_spec h.1).1).mp h.2⟩, fun h => ⟨h.1, (zM_bit (kap_spec h.1).1).mpr h.2⟩⟩
/-- the functionals of all facets found -/
theorem geo_fam (ok : okP l D) {m : Nat} {S : Nat → Nat} {Q : Nat → Nat → Int} (fl : FLs (lP l) l.length D m S Q) (hm : 0 < m) : gful (D + 1) l.length (vX l D) ∧ 2 ≤ l.length ∧ ∃ G : Nat → Nat → Int, (∀ j, j < m → gfc (D + 1) l.length (vX l D) (G j) ∧ S j = zM l D (G j)) ∧ fam (D + 1) (ncr l D) (cX l D) m G := by
  have hfac : ∀ j, j < m → isFac l D (S j) := fun j hj => by
    obtain ⟨c0, c1, c2, c3, i, g, h, -⟩ := fl.1 j hj
    exact ⟨c0, c1, c2, c3, i, g, h⟩
  have hF := isFac_ful (hfac 0 hm)
  obtain ⟨G, hG⟩ : ∃ G : Nat → Nat → Int, ∀ j, j < m → gfc (D + 1) l.length (vX l D) (G j) ∧ S j = zM l D (G j) := by
    have : ∀ j, ∃ g : Nat → Int, j < m → gfc (D + 1) l.length (vX l D) g ∧ S j = zM l D g := by
      intro j
      by_cases hj : j < m
      · obtain ⟨g, h1, h2⟩ := (isFac_iff ok hF).mp (hfac j hj)
        exact ⟨g, fun _ => ⟨h1, h2⟩⟩
      · exact ⟨fun _ => 0, fun z => absurd z hj⟩
    exact Classical.axiomOfChoice this
  have h2 := (fac_2 ok hF (hG 0 hm).1).1
  have hk := geo_cr ok hF
  have hi' := vX_inj ok h2
  refine ⟨hF, h2, G, hG, fun j hj => (gcr_fc vX_one hi' hk).mpr (hG j hj).1, fun i j hi2 hj hne hz => ?_⟩
  have hz' := (gcr_zi vX_one hi' hk (hG i hi2).1.1.1).mp hz
  have e : S i = S j := by
    rw [(hG i hi2).2, (hG j hj).2]
    unfold zM
    refine mask_ext fun p hp => ?_
    rw [decide_eq_decide]
    exact ⟨fun h => hz' p hp h, fun h => fct_sub (hG i hi2).1 (hG j hj).1 hz' h⟩
  rcases Nat.lt_or_gt_of_ne hne with w | w
  · exact fl.2 i j w hj e
  · exact fl.2 j i w hi2 e.symm
theorem geo_104 (ok : okP l D) {m : Nat} {S : Nat → Nat} {Q : Nat → Nat → Int} (fl : FLs (lP l) l.length D m S Q) : m ≤ 104 := by
  rcases Nat.eq_zero_or_pos m with z | hm
  · omega
  · obtain ⟨hF, h2, G, -, fm⟩ := geo_fam ok fl hm
    have h16 := ok.2.2.1
    have hD := ok.2.2.2.2
    exact ubt (geo_P ok hF h2) (Nat.le_trans ncr_le h16) (by omega) fm
theorem cntN_cut {p : Nat → Bool} {a : Nat} : ∀ {n : Nat}, a ≤ n → (∀ k, a ≤ k → k < n → ¬ p k = true) → cntN p n = cntN p a
  | 0, h, _ => by rw [Nat.le_zero.mp h]
  | n + 1, h, h0 => by
    by_cases e : a = n + 1
    · rw [e]
    · rw [cntN, if_neg (h0 n (by omega) (by omega)), Nat.add_zero]
      exact cntN_cut (by omega) fun k h1 h2 => h0 k h1 (by omega)
/-- sets of one or two members -/
theorem few_1 {L : Nat} {T : Nat → Nat} (st : srt T L) (hb : ∀ k, k < L → ∀ c, (T k).testBit c = true → c < 16) (h1 : ∀ k, k < L → pop (T k) 16 = 1) : L ≤ 16 := by
  have s1 : sumN (fun _ => 1) L ≤ sumN (fun k => cntN (fun c => (T k).testBit c) 16) L := sumN_le fun k hk => by have := h1 k hk; unfold pop at this; omega
  rw [cntN_swap, sumN_c] at s1
  have s2 : sumN (fun c => cntN (fun k => (T k).testBit c) L) 16 ≤ sumN (fun _ => 1) 16 := by
    refine sumN_le fun c hc => cntN_le1 fun a b h2 h3 h4 => ?_
    have only : ∀ k, k < L → (T k).testBit c = true → ∀ c', (T k).testBit c' = true → c' = c := by
      intro k hk hkc c' hc'
      refine Classical.byContradiction fun hne => ?_
      have := cntN_ltq (n := 16) (p := fun x => decide (x = c)) (q := fun x => (T k).testBit x) (fun x _ hx => by rw [of_decide_eq_true hx]; exact hkc) ⟨c', hb k hk c' hc', hc', fun w => hne (of_decide_eq_true w)⟩
      have h5 : 0 < cntN (fun x => decide (x = c)) 16 := cntN_pos.mpr ⟨c, hc, decide_eq_true rfl⟩
      have h6 := h1 k hk
      unfold pop at h6
      omega
    have e : T a = T b := Nat.eq_of_testBit_eq fun x => by
      rw [Bool.eq_iff_iff]
      constructor
      · intro hx; rw [only a (by omega) h4.1 x hx]; exact h4.2
      · intro hx; rw [only b h3 h4.2 x hx]; exact h4.1
    have := st a b h2 h3
    omega
  rw [sumN_c] at s2
  omega
theorem few_2 {L : Nat} {T : Nat → Nat} (st : srt T L) (hb : ∀ k, k < L → ∀ c, (T k).testBit c = true → c < 16) (h2 : ∀ k, k < L → pop (T k) 16 = 2) : L ≤ 120 := by
  have s1 : sumN (fun _ => 2) L ≤ sumN (fun k => cntN (fun c => (T k).testBit c) 16) L := sumN_le fun k hk => by have := h2 k hk; unfold pop at this; omega
  rw [cntN_swap, sumN_c] at s1
  have s2 : sumN (fun c => cntN (fun k => (T k).testBit c) L) 16 ≤ sumN (fun _ => 15) 16 := by
    refine sumN_le fun c hc => ?_
    obtain ⟨U, hU⟩ : ∃ U : Nat → Nat, ∀ k, k < L → (T k).testBit c = true → U k < 16 ∧ (T k).testBit (U k) = true ∧ U k ≠ c := by
      have : ∀ k, ∃ u, k < L → (T k).testBit c = true → u < 16 ∧ (T k).testBit u = true ∧ u ≠ c := by
        intro k
        by_cases hk : k < L
        · have h3 := h2 k hk
          unfold pop at h3
          obtain ⟨u, u1, u2, u3⟩ := cntN_ex (p := fun x => (T k).testBit x) (n := 16) (by omega) c
          exact ⟨u, fun _ _ => ⟨u1, u2, u3⟩⟩
        · exact ⟨0, fun z => absurd z hk⟩
      exact Classical.axiomOfChoice this
    rw [cntN_fib (U := U) (n := 16) fun k hk hp => (hU k hk hp).1]
    have only : ∀ k, k < L → (T k).testBit c = true → ∀ x, (T k).testBit x = true → x = c ∨ x = U k := by
      intro k hk hkc x hx
      refine Classical.byContradiction fun hne => ?_
      obtain ⟨u1, u2, u3⟩ := hU k hk hkc
      have := cntN_3 (n := 16) hc u1 (hb k hk x hx) (fun z => u3 z.symm) (fun z => hne (Or.inl z.symm)) (fun z => hne (Or.inr z.symm))
      have h4 := cntN_leq (n := 16) (p := fun y => decide (y = c ∨ y = U k ∨ y = x)) (q := fun y => (T k).testBit y) fun y _ hy => by
        rcases of_decide_eq_true hy with w | w | w
        · rw [w]; exact hkc
        · rw [w]; exact u2
        · rw [w]; exact hx
      have h5 := h2 k hk
      unfold pop at h5
      omega
    have each : ∀ u, u < 16 → cntN (fun k => (T k).testBit c && decide (U k = u)) L ≤ if decide (u ≠ c) = true then 1 else 0 := by
      intro u hu
      by_cases e : u = c
      · rw [if_neg (show ¬ decide (u ≠ c) = true from fun z => of_decide_eq_true z e), cntN_0]
        · exact Nat.le_refl _
        · intro k hk hp
          have w := Bool.and_eq_true_iff.mp hp
          exact (hU k hk w.1).2.2 ((of_decide_eq_true w.2).trans e)
      · rw [if_pos (decide_eq_true e)]
        refine cntN_le1 fun a b q1 q2 q3 => ?_
        have wa := Bool.and_eq_true_iff.mp q3.1
        have wb := Bool.and_eq_true_iff.mp q3.2
        have ea := of_decide_eq_true wa.2
        have eb := of_decide_eq_true wb.2
        have ee : T a = T b := Nat.eq_of_testBit_eq fun x => by
          rw [Bool.eq_iff_iff]
          constructor
          · intro hx
            rcases only a (by omega) wa.1 x hx with w | w
            · rw [w]; exact wb.1
            · rw [w, ea, ← eb]; exact (hU b q2 wb.1).2.1
          · intro hx
            rcases only b q2 wb.1 x hx with w | w
            · rw [w]; exact wa.1
            · rw [w, eb, ← ea]; exact (hU a (by omega) wa.1).2.1
        have := st a b q1 q2
        omega
    have h3 := sumN_le each
    rw [← cntN_sum] at h3
    have h4 := cntN_or (n := 16) (p := fun u => decide (u ≠ c)) (q := fun u => decide (u = c)) fun k _ hk => of_decide_eq_true hk.1 (of_decide_eq_true hk.2)
    have h5 : 0 < cntN (fun u => decide (u = c)) 16 := cntN_pos.mpr ⟨c, hc, decide_eq_true rfl⟩
    omega
  rw [sumN_c] at s2
  omega
end GEO

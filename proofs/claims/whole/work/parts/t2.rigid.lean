/-! ===== GEOMETRY: places change about, facets go to facets: who keeps a few keeps all ===== -/
section RIGID
variable {N n n' k : Nat} {X : Nat → Nat → Int} {g : Nat → Int} {κ π ρ : Nat → Nat}
def pmG (N n : Nat) (X : Nat → Nat → Int) (π : Nat → Nat) : Prop := ∀ f, gfc N n X f → ∃ f', gfc N n X f' ∧ ∀ c, c < n → (dt N f' (X (π c)) = 0 ↔ dt N f (X c) = 0)
def pmI (n : Nat) (π ρ : Nat → Nat) : Prop := ∀ c, c < n → (π c < n ∧ ρ c < n) ∧ ρ (π c) = c ∧ π (ρ c) = c
def autG (N n : Nat) (X : Nat → Nat → Int) (π ρ : Nat → Nat) : Prop := pmI n π ρ ∧ pmG N n X π ∧ pmG N n X ρ
theorem res_half (P : gP (N + 1) n X) (hN : 2 ≤ N) (F : fpP N n X g k n' κ) (I : pmI n π ρ) (a1 : pmG (N + 1) n X π) (a2 : pmG (N + 1) n X ρ) {π' : Nat → Nat} (hp : ∀ c, c < n' → π' c < n' ∧ κ (π' c) = π (κ c)) : pmG N n' (fcY X k κ) π' := by
  intro h hh
  obtain ⟨f, f1, fz, c1, hc1, n1⟩ := fp_fc F P hN hh
  obtain ⟨f', g1, gz⟩ := a1 f f1
  have hc1n := (fp_z F hc1).1
  have neg : dt (N + 1) f' (X (κ (π' c1))) < 0 := by
    have v := g1.1.1 _ (fp_z F (hp c1 hc1).1).1
    have : dt (N + 1) f' (X (κ (π' c1))) ≠ 0 := by
      rw [(hp c1 hc1).2]
      exact fun e => n1 ((gz _ hc1n).mp e)
    omega
  obtain ⟨h', h1, hz', hn'⟩ := fp_dn F g1.1.1 (hp c1 hc1).1 neg
  obtain ⟨f2, k1, kz, -⟩ := fp_fc F P hN h1
  obtain ⟨f3, l1, lz⟩ := a2 f2 k1
  have fw : ∀ c, c < n' → dt N h (fcY X k κ c) = 0 → dt N h' (fcY X k κ (π' c)) = 0 := fun c hc e => hz' _ (hp c hc).1 (by
    rw [(hp c hc).2]
    exact (gz _ (fp_z F hc).1).mpr ((fz c hc).mpr e))
  have lk : ∀ c, c < n' → (dt (N + 1) f3 (X (κ c)) = 0 ↔ dt N h' (fcY X k κ (π' c)) = 0) := fun c hc => by
    have i1 := I _ (fp_z F hc).1
    have := lz (π (κ c)) i1.1.1
    rw [i1.2.1, ← (hp c hc).2] at this
    exact this.trans (kz _ (hp c hc).1)
  refine ⟨h', h1, fun c hc => ⟨fun e => ?_, fw c hc⟩⟩
  exact fp_same F hh (f := f3) (fun c hc e => (lk c hc).mpr (fw c hc e)) ⟨c1, hc1, fun e => by have := (lk c1 hc1).mp e; omega⟩ hc ((lk c hc).mpr e)
theorem res_aut (P : gP (N + 1) n X) (hN : 2 ≤ N) (F : fpP N n X g k n' κ) (a : autG (N + 1) n X π ρ) (hg : ∀ c, c < n → (dt (N + 1) g (X (π c)) = 0 ↔ dt (N + 1) g (X c) = 0)) : ∃ π' ρ', autG N n' (fcY X k κ) π' ρ' ∧ ∀ c, c < n' → κ (π' c) = π (κ c) := by
  obtain ⟨I, a1, a2⟩ := a
  have ex : ∀ (σ : Nat → Nat), (∀ c, c < n → σ c < n ∧ (dt (N + 1) g (X (σ c)) = 0 ↔ dt (N + 1) g (X c) = 0)) → ∃ σ' : Nat → Nat, ∀ c, c < n' → σ' c < n' ∧ κ (σ' c) = σ (κ c) := fun σ hσ => by
    have : ∀ c, ∃ q, c < n' → q < n' ∧ κ q = σ (κ c) := fun c => by
      by_cases hc : c < n'
      · obtain ⟨z1, z2⟩ := fp_z F hc
        obtain ⟨s1, s2⟩ := hσ _ z1
        obtain ⟨q, q1, q2⟩ := F.2.2.2.2 _ s1 (s2.mpr z2)
        exact ⟨q, fun _ => ⟨q1, q2⟩⟩
      · exact ⟨0, fun z => absurd z hc⟩
    exact Classical.axiomOfChoice this
  obtain ⟨π', h1⟩ := ex π fun c hc => ⟨(I c hc).1.1, hg c hc⟩
  obtain ⟨ρ', h2⟩ := ex ρ fun c hc => ⟨(I c hc).1.2, by
    have := hg (ρ c) (I c hc).1.2
    rw [(I c hc).2.2] at this
    exact this.symm⟩
  refine ⟨π', ρ', ⟨fun c hc => ⟨⟨(h1 c hc).1, (h2 c hc).1⟩, ?_, ?_⟩, res_half P hN F I a1 a2 h1, res_half P hN F (fun c hc => ⟨⟨(I c hc).1.2, (I c hc).1.1⟩, (I c hc).2.2, (I c hc).2.1⟩) a2 a1 h2⟩, fun c hc => (h1 c hc).2⟩
  · refine F.2.2.2.1 _ _ (h2 _ (h1 c hc).1).1 hc ?_
    rw [(h2 _ (h1 c hc).1).2, (h1 c hc).2, (I _ (fp_z F hc).1).2.1]
  · refine F.2.2.2.1 _ _ (h1 _ (h2 c hc).1).1 hc ?_
    rw [(h1 _ (h2 c hc).1).2, (h2 c hc).2, (I _ (fp_z F hc).1).2.2]
theorem two_n (P : gP 2 n X) : n ≤ 2 := by
  rcases Nat.lt_or_ge 2 n with z | z
  · have := ind_le (P.i3 (v := 0) (u := 1) (w := 2) (by omega) (by omega) z (by decide) (by decide) (by decide))
    omega
  · exact z
theorem fct_pt (P : gP N n X) (hN : 2 ≤ N) (hg : gfc N n X g) : ∃ p, p < n ∧ dt N g (X p) = 0 := by
  have h1 := fct_card P.1 hg
  obtain ⟨p, hp, hp0⟩ := cntN_pos.mp (show 0 < cntN (fun p => decide (dt N g (X p) = 0)) n by omega)
  exact ⟨p, hp, of_decide_eq_true hp0⟩
theorem two_z (P : gP 2 n X) (hg : gfc 2 n X g) {p c : Nat} (hp : p < n) (hc : c < n) (p0 : dt 2 g (X p) = 0) (c0 : dt 2 g (X c) = 0) : c = p := by
  refine Classical.byContradiction fun hne => ?_
  have h2 := two_n P
  obtain ⟨y, hy, hyn⟩ := gnz_pt P.1 hg.1.2
  have : y = p ∨ y = c := by omega
  rcases this with rfl | rfl
  · exact hyn p0
  · exact hyn c0
/-- each place lies in a facet -/
theorem pt_fct (P : gP N n X) (hN : 3 ≤ N) {c : Nat} (hc : c < n) : ∃ f, gfc N n X f ∧ dt N f (X c) = 0 := by
  obtain ⟨φ, v, z0, neg⟩ := P.exp hc
  obtain ⟨m, G, A⟩ := famA_ex N n X
  have hm : N ≤ m := many_f P (fun f hf => by obtain ⟨j, hj, h1, -⟩ := A.2 f hf; exact ⟨j, hj, h1⟩) A.1.1
  have h1 := fct_card P.1 (A.1.1 0 (by omega))
  have h2 := cntN_le (p := fun p => decide (dt N (G 0) (X p) = 0)) (n := n)
  obtain ⟨x, hx, hne⟩ : ∃ x, x < n ∧ x ≠ c := ⟨if c = 0 then 1 else 0, by split <;> omega, by split <;> omega⟩
  have := neg x hx hne
  obtain ⟨f, f1, f2, -⟩ := facet_neg P.1 v (gnz_of (x := X x) (by omega)) this
  exact ⟨f, f1, f2 c hc z0⟩
theorem rigid : ∀ (N n : Nat) (X : Nat → Nat → Int) (π ρ : Nat → Nat) (g : Nat → Int), gP (N + 2) n X → autG (N + 2) n X π ρ → gfc (N + 2) n X g → (∀ c, c < n → dt (N + 2) g (X c) = 0 → π c = c) → ∀ c, c < n → π c = c
  | 0, n, X, π, ρ, g, P, a, hg, fix, c, hc => by
    have h2 := two_n P
    obtain ⟨p, hp, p0⟩ := fct_pt P (by omega) hg
    have ep := fix p hp p0
    by_cases e : c = p
    · rw [e]; exact ep
    · have i1 := a.1 c hc
      have i2 := a.1 p hp
      have : π c ≠ p := fun q => by
        have h3 := i1.2.1
        rw [q] at h3
        have h4 := i2.2.1
        rw [ep] at h4
        omega
      omega
  | N + 1, n, X, π, ρ, g, P, a, hg, fix, c, hc => by
    obtain ⟨m, G, A⟩ := famA_ex (N + 3) n X
    obtain ⟨a0, ha0, z1, z2⟩ := A.2 g hg
    have all : ∀ {b}, b < m → ∀ c, c < n → dt (N + 3) (G b) (X c) = 0 → π c = c := fun {b} hb => fconn P (by omega) A (R := fun b => ∀ c, c < n → dt (N + 3) (G b) (X c) = 0 → π c = c) ha0 (fun c hc e => fix c hc (z2 c hc e)) (fun i j hi' hj hne hR hz => by
      obtain ⟨z, hz⟩ := hz
      obtain ⟨f', f1, fz⟩ := a.2.1 (G j) (A.1.1 j hj)
      obtain ⟨q, hq, q1, q2⟩ := A.2 f' f1
      have hq2 : q = j := by
        rcases fridge P A hi' hj hq hz (fun c hc e1 e2 => q1 c hc (by
          have := (fz c hc).mpr e2
          rw [hR c hc e1] at this
          exact this)) with e | e
        · exfalso
          subst e
          exact hne (A.one hq hj (fun c hc e => by
            have := (fz c hc).mp
            rw [hR c hc e] at this
            exact this (q2 c hc e))).symm
        · exact e
      subst hq2
      have hg : ∀ c, c < n → (dt (N + 3) (G q) (X (π c)) = 0 ↔ dt (N + 3) (G q) (X c) = 0) := fun c hc => by
        have hp := (a.1 c hc).1.1
        constructor
        · intro e; exact (fz c hc).mp (q2 _ hp e)
        · intro e; exact q1 _ hp ((fz c hc).mpr e)
      obtain ⟨k, n', κ, F⟩ := fp_ex P (by omega) (A.1.1 q hq)
      obtain ⟨π', ρ', a', eκ⟩ := res_aut P (by omega) F a hg
      obtain ⟨c0, hc0, n0⟩ : ∃ c0, c0 < n' ∧ dt (N + 3) (G i) (X (κ c0)) ≠ 0 := Classical.byContradiction fun z => hne (A.one hq hi' (fun c hc e => by
        obtain ⟨c', h1, rfl⟩ := F.2.2.2.2 c hc e
        exact Classical.byContradiction fun w => z ⟨c', h1, w⟩))
      have neg : dt (N + 3) (G i) (X (κ c0)) < 0 := by
        have := (A.1.1 i hi').1.1 _ (fp_z F hc0).1
        omega
      obtain ⟨h, h1, hz', -⟩ := fp_dn F (A.1.1 i hi').1.1 hc0 neg
      obtain ⟨f, k1, kz, c2, hc2, n2⟩ := fp_fc F P (by omega) h1
      obtain ⟨r, hr, r1, r2⟩ := A.2 f k1
      have er : r = i := by
        rcases fridge P A hi' hj hr hz (fun c hc e1 e2 => r1 c hc (by
          obtain ⟨c', h1, rfl⟩ := F.2.2.2.2 c hc e2
          exact (kz c' h1).mpr (hz' c' h1 e1))) with e | e
        · exact e
        · exfalso
          rw [e] at r2
          exact n2 (r2 _ (fp_z F hc2).1 (fp_z F hc2).2)
      subst er
      have fin := rigid N n' (fcY X k κ) π' ρ' h (fpa_P F P (by omega)) a' h1 (fun c hc e => F.2.2.2.1 _ _ (a'.1 c hc).1.1 hc (by
        rw [eκ c hc]
        exact hR _ (fp_z F hc).1 (r1 _ (fp_z F hc).1 ((kz c hc).mpr e))))
      intro c hc e
      obtain ⟨c', h1, rfl⟩ := F.2.2.2.2 c hc e
      rw [← eκ c' h1, fin c' h1]) hb
    obtain ⟨f, f1, f2⟩ := pt_fct P (by omega) hc
    obtain ⟨q, hq, q1, -⟩ := A.2 f f1
    exact all hq c hc (q1 c hc f2)
theorem base_G : ∀ (N n : Nat) (X : Nat → Nat → Int), gP (N + 2) n X → ∃ (b : Nat → Nat) (g : Nat → Int), gfc (N + 2) n X g ∧ (∀ i, i < N + 1 → b i < n ∧ dt (N + 2) g (X (b i)) = 0) ∧ (∀ f, gfc (N + 2) n X f → (∀ i, i < N + 1 → dt (N + 2) f (X (b i)) = 0) → gzi (N + 2) n X g f) ∧ ∀ π ρ, autG (N + 2) n X π ρ → (∀ i, i < N + 1 → π (b i) = b i) → ∀ c, c < n → π c = c
  | 0, n, X, P => by
    obtain ⟨m, G, A⟩ := famA_ex 2 n X
    have hm : 2 ≤ m := many_f P (fun f hf => by obtain ⟨j, hj, h1, -⟩ := A.2 f hf; exact ⟨j, hj, h1⟩) A.1.1
    have hg := A.1.1 0 (by omega)
    obtain ⟨p, hp, p0⟩ := fct_pt P (by omega) hg
    refine ⟨fun _ => p, G 0, hg, fun i _ => ⟨hp, p0⟩, fun f _ hb c hc e => ?_, fun π ρ a hb => rigid 0 n X π ρ (G 0) P a hg fun c hc e => ?_⟩
    · rw [two_z P hg hp hc p0 e]; exact hb 0 (by omega)
    · rw [two_z P hg hp hc p0 e]; exact hb 0 (by omega)
  | N + 1, n, X, P => by
    obtain ⟨m, G, A⟩ := famA_ex (N + 3) n X
    have hm : N + 3 ≤ m := many_f P (fun f hf => by obtain ⟨j, hj, h1, -⟩ := A.2 f hf; exact ⟨j, hj, h1⟩) A.1.1
    have hg := A.1.1 0 (by omega)
    obtain ⟨k, n', κ, F⟩ := fp_ex P (by omega) hg
    obtain ⟨b, h, h1, hb, only, fix⟩ := base_G N n' (fcY X k κ) (fpa_P F P (by omega))
    obtain ⟨w, hw, hwn⟩ := gnz_pt (fp_ful F) h1.1.2
    have bl : ∀ i, i < N + 1 → (if i = N + 1 then κ w else κ (b i)) = κ (b i) := fun i hi' => if_neg (by omega)
    refine ⟨fun i => if i = N + 1 then κ w else κ (b i), G 0, hg, fun i hi' => ?_, fun f hf hz => ?_, fun π ρ a hz => ?_⟩
    · dsimp only
      by_cases e : i = N + 1
      · rw [if_pos e]; exact fp_z F hw
      · rw [if_neg e]; exact fp_z F (hb i (by omega)).1
    · intro c hc e
      obtain ⟨c', h2, rfl⟩ := F.2.2.2.2 c hc e
      refine Classical.byContradiction fun hne => ?_
      have hne' : dt (N + 3) f (X (κ c')) ≠ 0 := hne
      have neg : dt (N + 3) f (X (κ c')) < 0 := by
        have : dt (N + 3) f (X (κ c')) ≤ 0 := hf.1.1 _ (fp_z F h2).1
        omega
      obtain ⟨h', k1, k2, -⟩ := fp_dn F hf.1.1 h2 neg
      have z1 := only h' k1 fun i hi' => k2 _ (hb i hi').1 (by
        have := hz i (by omega)
        dsimp only at this
        rw [bl i hi'] at this
        exact this)
      have z2 := hz (N + 1) (by omega)
      dsimp only at z2
      rw [if_pos rfl] at z2
      exact hwn (fct_sub h1 k1 z1 (k2 w hw z2))
    · obtain ⟨f', f1, fz⟩ := a.2.1 (G 0) hg
      have inF : gzi (N + 3) n X (G 0) f' := by
        intro c hc e
        obtain ⟨c', h2, rfl⟩ := F.2.2.2.2 c hc e
        refine Classical.byContradiction fun hne => ?_
        have neg : dt (N + 3) f' (X (κ c')) < 0 := by
          have hv : dt (N + 3) f' (X (κ c')) ≤ 0 := f1.1.1 _ (fp_z F h2).1
          have hn : dt (N + 3) f' (X (κ c')) ≠ 0 := hne
          omega
        have on : ∀ i, i < N + 2 → dt (N + 3) f' (X (if i = N + 1 then κ w else κ (b i))) = 0 := fun i hi' => by
          have e1 := hz i hi'
          dsimp only at e1
          rw [← e1]
          refine (fz _ ?_).mpr ?_
          · by_cases e : i = N + 1
            · rw [if_pos e]; exact (fp_z F hw).1
            · rw [if_neg e]; exact (fp_z F (hb i (by omega)).1).1
          · by_cases e : i = N + 1
            · rw [if_pos e]; exact (fp_z F hw).2
            · rw [if_neg e]; exact (fp_z F (hb i (by omega)).1).2
        obtain ⟨h', k1, k2, -⟩ := fp_dn F f1.1.1 h2 neg
        have z1 := only h' k1 fun i hi' => k2 _ (hb i hi').1 (by
          have := on i (by omega)
          rw [bl i hi'] at this
          exact this)
        have z2 := on (N + 1) (by omega)
        rw [if_pos rfl] at z2
        exact hwn (fct_sub h1 k1 z1 (k2 w hw z2))
      have kp : ∀ c, c < n → (dt (N + 3) (G 0) (X (π c)) = 0 ↔ dt (N + 3) (G 0) (X c) = 0) := fun c hc => by
        have hp := (a.1 c hc).1.1
        rw [← fz c hc]
        exact ⟨fun e => inF _ hp e, fun e => fct_sub hg f1 inF e⟩
      obtain ⟨π', ρ', a', eκ⟩ := res_aut P (by omega) F a kp
      have id := fix π' ρ' a' fun i hi' => F.2.2.2.1 _ _ (a'.1 _ (hb i hi').1).1.1 (hb i hi').1 (by
        rw [eκ _ (hb i hi').1]
        have := hz i (by omega)
        dsimp only at this
        rw [bl i hi'] at this
        exact this)
      exact rigid (N + 1) n X π ρ (G 0) P a hg fun c hc e => by
        obtain ⟨c', h2, rfl⟩ := F.2.2.2.2 c hc e
        rw [← eκ c' h2, id c' h2]
end RIGID

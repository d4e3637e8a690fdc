/-! ===== GEOMETRY: a facet as a body of one dimension less ===== -/
section POLY
variable {N n n' k : Nat} {X : Nat → Nat → Int} {g l h x : Nat → Int} {κ : Nat → Nat}
/-- without number k -/
def skq (k : Nat) (x : Nat → Int) : Nat → Int := fun j => x (if j < k then j else j + 1)
def lft (k : Nat) (h : Nat → Int) : Nat → Int := fun j => if j < k then h j else if j = k then 0 else h (j - 1)
theorem sumZ_skip {f : Nat → Int} {k : Nat} : ∀ {N : Nat}, k ≤ N → sumZ f (N + 1) = sumZ (fun j => f (if j < k then j else j + 1)) N + f k
  | 0, hk => by
    have : k = 0 := by omega
    subst this; rfl
  | N + 1, hk => by
    by_cases e : k = N + 1
    · subst e
      rw [sumZ]
      rw [sumZ_ext (f := fun j => f (if j < N + 1 then j else j + 1)) (g := f) fun j hj => by rw [if_pos hj]]
    · show sumZ f (N + 1) + f (N + 1) = (sumZ (fun j => f (if j < k then j else j + 1)) N + f (if N < k then N else N + 1)) + f k
      rw [sumZ_skip (k := k) (N := N) (by omega), if_neg (show ¬ N < k by omega)]
      omega
theorem skq_dt {F : Nat → Int} (hk : k ≤ N) (h0 : F k = 0) : dt N (skq k F) (skq k x) = dt (N + 1) F x := by
  unfold dt
  rw [sumZ_skip (f := fun k => F k * x k) hk, h0, Int.zero_mul, Int.add_zero]
  rfl
theorem lft_skq {j : Nat} : skq k (lft k h) j = h j := by
  unfold skq lft
  by_cases e : j < k
  · rw [if_pos e, if_pos e]
  · rw [if_neg e, if_neg (by omega), if_neg (by omega)]; rfl
theorem lft_dt (hk : k ≤ N) : dt (N + 1) (lft k h) x = dt N h (skq k x) := by
  rw [← skq_dt (F := lft k h) hk (by unfold lft; rw [if_neg (by omega), if_pos rfl])]
  exact dt_ext fun j _ => lft_skq
/-- a functional, turned so that it doesn't use number k -/
def psh (k : Nat) (g l : Nat → Int) : Nat → Int := skq k (fun j => (g k * g k) * l j + (-(g k * l k)) * g j)
theorem psh_dt (hk : k ≤ N) : dt N (psh k g l) (skq k x) = g k * g k * dt (N + 1) l x - g k * l k * dt (N + 1) g x := by
  unfold psh
  rw [skq_dt hk (by rw [Int.neg_mul, Int.mul_assoc, Int.mul_assoc, Int.mul_comm (l k)]; omega), dt_lin, Int.neg_mul]
  omega
/-- the places of a facet, one by one -/
def enP (n : Nat) (p : Nat → Prop) (n' : Nat) (κ : Nat → Nat) : Prop := (∀ c, c < n' → κ c < n ∧ p (κ c)) ∧ (∀ a b, a < n' → b < n' → κ a = κ b → a = b) ∧ ∀ x, x < n → p x → ∃ c, c < n' ∧ κ c = x
theorem enP_ex (p : Nat → Prop) : ∀ n, ∃ n' κ, enP n p n' κ
  | 0 => ⟨0, fun _ => 0, fun c hc => absurd hc (Nat.not_lt_zero c), fun a _ ha => absurd ha (Nat.not_lt_zero a), fun x hx => absurd hx (Nat.not_lt_zero x)⟩
  | n + 1 => by
    obtain ⟨n', κ, e1, e2, e3⟩ := enP_ex p n
    by_cases hp : p n
    · refine ⟨n' + 1, fun c => if c = n' then n else κ c, fun c hc => ?_, fun a b ha hb e => ?_, fun x hx hpx => ?_⟩
      · by_cases e : c = n'
        · dsimp only; rw [if_pos e]; exact ⟨by omega, hp⟩
        · dsimp only; rw [if_neg e]; have := e1 c (by omega); exact ⟨by omega, this.2⟩
      · dsimp only at e
        by_cases q1 : a = n'
        · by_cases q2 : b = n'
          · omega
          · rw [if_pos q1, if_neg q2] at e
            have := e1 b (by omega); omega
        · by_cases q2 : b = n'
          · rw [if_neg q1, if_pos q2] at e
            have := e1 a (by omega); omega
          · rw [if_neg q1, if_neg q2] at e
            exact e2 a b (by omega) (by omega) e
      · by_cases e : x = n
        · exact ⟨n', by omega, by dsimp only; rw [if_pos rfl, e]⟩
        · obtain ⟨c, h1, h2⟩ := e3 x (by omega) hpx
          exact ⟨c, by omega, by dsimp only; rw [if_neg (by omega)]; exact h2⟩
    · refine ⟨n', κ, fun c hc => ?_, e2, fun x hx hpx => ?_⟩
      · have := e1 c hc; exact ⟨by omega, this.2⟩
      · by_cases e : x = n
        · rw [e] at hpx; exact absurd hpx hp
        · exact e3 x (by omega) hpx
/-- a facet, its number that is left out, its places -/
def fpP (N n : Nat) (X : Nat → Nat → Int) (g : Nat → Int) (k n' : Nat) (κ : Nat → Nat) : Prop := gfc (N + 1) n X g ∧ (k < N ∧ g k ≠ 0) ∧ enP n (fun c => dt (N + 1) g (X c) = 0) n' κ
def fcY (X : Nat → Nat → Int) (k : Nat) (κ : Nat → Nat) : Nat → Nat → Int := fun c => skq k (X (κ c))
theorem fp_ex (P : gP (N + 1) n X) (hN : 1 ≤ N) (hg : gfc (N + 1) n X g) : ∃ k n' κ, fpP N n X g k n' κ := by
  obtain ⟨n', κ, en⟩ := enP_ex (fun c => dt (N + 1) g (X c) = 0) n
  obtain ⟨k, hk, hne⟩ : ∃ k, k < N ∧ g k ≠ 0 := by
    refine Classical.byContradiction fun z => ?_
    have z0 : ∀ k, k < N → g k = 0 := fun k hk => Classical.byContradiction fun w => z ⟨k, hk, w⟩
    have h1 := fct_card P.1 hg
    obtain ⟨p, hp, hp0⟩ := cntN_pos.mp (show 0 < cntN (fun p => decide (dt (N + 1) g (X p) = 0)) n by omega)
    have h2 := of_decide_eq_true hp0
    have h3 := P.2.1.2 p hp
    rw [Nat.add_sub_cancel] at h3
    unfold dt at h2
    rw [sumZ, sumZ_0 (fun k hk => by rw [z0 k hk, Int.zero_mul]), h3] at h2
    obtain ⟨j, hj, hj2⟩ := hg.1.2
    by_cases e : j = N
    · rw [e] at hj2; omega
    · exact hj2 (z0 j (by omega))
  exact ⟨k, n', κ, hg, ⟨hk, hne⟩, en⟩
section FP
theorem fp_z (F : fpP N n X g k n' κ) {c : Nat} (hc : c < n') : κ c < n ∧ dt (N + 1) g (X (κ c)) = 0 := F.2.2.1 c hc
theorem fp_lift (F : fpP N n X g k n' κ) {c : Nat} : dt (N + 1) (lft k h) (X (κ c)) = dt N h (fcY X k κ c) := lft_dt (by have := F.2.1.1; omega)
theorem fp_push (F : fpP N n X g k n' κ) {c : Nat} (hc : c < n') : dt N (psh k g l) (fcY X k κ c) = g k * g k * dt (N + 1) l (X (κ c)) := by
  unfold fcY
  rw [psh_dt (by have := F.2.1.1; omega), (fp_z F hc).2, Int.mul_zero]; omega
theorem fp_gg (F : fpP N n X g k n' κ) : 0 < g k * g k := by
  rcases Int.lt_or_gt_of_ne F.2.1.2 with z | z
  · exact Int.mul_pos_of_neg_of_neg z z
  · exact Int.mul_pos z z
theorem fp_push0 (F : fpP N n X g k n' κ) {c : Nat} (hc : c < n') : dt N (psh k g l) (fcY X k κ c) = 0 ↔ dt (N + 1) l (X (κ c)) = 0 := by
  rw [fp_push F hc]
  have := fp_gg F
  constructor
  · intro e; exact (Int.mul_eq_zero.mp e).resolve_left (by omega)
  · intro e; rw [e, Int.mul_zero]
theorem fp_pushN (F : fpP N n X g k n' κ) {c : Nat} (hc : c < n') (h0 : dt (N + 1) l (X (κ c)) < 0) : dt N (psh k g l) (fcY X k κ c) < 0 := by
  rw [fp_push F hc]; exact Int.mul_neg_of_pos_of_neg (fp_gg F) h0
theorem fp_pushV (F : fpP N n X g k n' κ) (hl : gval (N + 1) n X l) : gval N n' (fcY X k κ) (psh k g l) := fun c hc => by
  rw [fp_push F hc]
  exact Int.mul_nonpos_of_nonneg_of_nonpos (Int.le_of_lt (fp_gg F)) (hl _ (fp_z F hc).1)
/-- a functional of the facet, made one of the body -/
theorem fp_up (F : fpP N n X g k n' κ) (hv : gval N n' (fcY X k κ) h) : ∃ L, gval (N + 1) n X L ∧ (∀ c, c < n' → dt (N + 1) L (X (κ c)) = dt N h (fcY X k κ c)) ∧ ∀ x, x < n → dt (N + 1) L (X x) = 0 → dt (N + 1) g (X x) = 0 := by
  obtain ⟨K, k1, k2⟩ := bndZ (fun x => dt (N + 1) (lft k h) (X x) + 1) n
  have ev : ∀ x, dt (N + 1) (fun j => K * g j + 1 * lft k h j) x = K * dt (N + 1) g x + dt (N + 1) (lft k h) x := fun x => by rw [dt_lin]; omega
  have on : ∀ c, c < n' → dt (N + 1) (fun j => K * g j + 1 * lft k h j) (X (κ c)) = dt N h (fcY X k κ c) := fun c hc => by
    rw [ev, (fp_z F hc).2, fp_lift F]; omega
  have off : ∀ x, x < n → dt (N + 1) g (X x) ≠ 0 → dt (N + 1) (fun j => K * g j + 1 * lft k h j) (X x) < 0 := fun x hx hne => by
    have h1 := F.1.1.1 x hx
    have h2 := k2 x hx
    try dsimp only at h2
    have h3 : K * dt (N + 1) g (X x) ≤ K * (-1) := Int.mul_le_mul_of_nonneg_left (by omega) (by omega)
    rw [ev]; omega
  refine ⟨_, fun x hx => ?_, on, fun x hx h0 => Classical.byContradiction fun hne => by have := off x hx hne; omega⟩
  by_cases e : dt (N + 1) g (X x) = 0
  · obtain ⟨c, hc, rfl⟩ := F.2.2.2.2 x hx e
    rw [on c hc]; exact hv c hc
  · exact Int.le_of_lt (off x hx e)
theorem fp_ful (F : fpP N n X g k n' κ) : gful N n' (fcY X k κ) := by
  intro m hm j hj
  have h1 : gzi (N + 1) n X g (lft k m) := fun x hx h0 => by
    obtain ⟨c, hc, rfl⟩ := F.2.2.2.2 x hx h0
    rw [fp_lift F]; exact hm c hc
  have h2 := F.1.2 _ h1
  have hk := F.2.1.1
  have lk : lft k m k = 0 := by unfold lft; rw [if_neg (by omega), if_pos rfl]
  have := h2 (if j < k then j else j + 1) k (by split <;> omega) (by omega)
  rw [lk, Int.zero_mul] at this
  have := (Int.mul_eq_zero.mp this).resolve_right F.2.1.2
  rw [← lft_skq (k := k) (h := m) (j := j)]
  exact this
theorem fp_two (F : fpP N n X g k n' κ) (P : gP (N + 1) n X) (hN : 2 ≤ N) : 2 ≤ n' := by
  rcases Nat.lt_or_ge 1 n' with z | z
  · exact z
  · exfalso
    obtain ⟨v, hv, hm⟩ := hom N ((List.range n').map (fcY X k κ)) (by rw [List.length_map, List.length_range]; omega)
    obtain ⟨j, hj, hne⟩ := hv
    exact hne (fp_ful F v (fun c hc => hm _ (List.mem_map.mpr ⟨c, List.mem_range.mpr hc, rfl⟩)) j hj)
theorem fpa_P (F : fpP N n X g k n' κ) (P : gP (N + 1) n X) (hN : 2 ≤ N) : gP N n' (fcY X k κ) := by
  have h2 := fp_two F P hN
  refine ⟨fp_ful F, ⟨by omega, fun c hc => ?_⟩, fun c hc => ⟨hc, ?_⟩⟩
  · have := P.2.1.2 _ (fp_z F hc).1
    have hk := F.2.1.1
    rw [Nat.add_sub_cancel] at this
    unfold fcY skq
    rw [if_neg (by omega), show N - 1 + 1 = N by omega]
    exact this
  · obtain ⟨φ, v, z0, neg⟩ := P.exp (fp_z F hc).1
    have ng : ∀ x, x < n' → x ≠ c → dt N (psh k g φ) (fcY X k κ x) < 0 := fun x hx hne => fp_pushN F hx (neg _ (fp_z F hx).1 fun e => hne (F.2.2.2.1 x c hx hc e))
    refine ⟨psh k g φ, fp_pushV F v, ?_, fun x hx => ⟨fun e => ?_, fun e => ?_⟩⟩
    · obtain ⟨x, hx, hne⟩ : ∃ x, x < n' ∧ x ≠ c := ⟨if c = 0 then 1 else 0, by split <;> omega, by split <;> omega⟩
      exact gnz_of (x := fcY X k κ x) (by have := ng x hx hne; omega)
    · exact Classical.byContradiction fun hne => by have := ng x hx hne; omega
    · rw [e]; exact (fp_push0 F hc).mpr z0
/-- what is nothing where h is, but not everywhere, is nothing where h is alone -/
theorem fp_same (F : fpP N n X g k n' κ) (hh : gfc N n' (fcY X k κ) h) {f : Nat → Int} (hz : ∀ c, c < n' → dt N h (fcY X k κ c) = 0 → dt (N + 1) f (X (κ c)) = 0) (hne : ∃ c, c < n' ∧ dt (N + 1) f (X (κ c)) ≠ 0) {c : Nat} (hc : c < n') (h0 : dt (N + 1) f (X (κ c)) = 0) : dt N h (fcY X k κ c) = 0 := by
  obtain ⟨c1, hc1, n1⟩ := hne
  have pr := hh.2 (psh k g f) fun c hc h0 => (fp_push0 F hc).mpr (hz c hc h0)
  have n2 : dt N (psh k g f) (fcY X k κ c1) ≠ 0 := fun e => n1 ((fp_push0 F hc1).mp e)
  obtain ⟨j, hj, hj2⟩ := gnz_of n2
  have := gpr_dt pr (x := fcY X k κ c) hj
  rw [(fp_push0 F hc).mpr h0, Int.zero_mul] at this
  exact (Int.mul_eq_zero.mp this.symm).resolve_left hj2
/-- a facet of a facet is where another facet meets it -/
theorem fp_fc (F : fpP N n X g k n' κ) (P : gP (N + 1) n X) (hN : 2 ≤ N) (hh : gfc N n' (fcY X k κ) h) : ∃ f, gfc (N + 1) n X f ∧ (∀ c, c < n' → (dt (N + 1) f (X (κ c)) = 0 ↔ dt N h (fcY X k κ c) = 0)) ∧ ∃ c, c < n' ∧ dt (N + 1) f (X (κ c)) ≠ 0 := by
  obtain ⟨c1, hc1, n1⟩ := gnz_pt (fp_ful F) hh.1.2
  obtain ⟨L, v, on, -⟩ := fp_up F hh.1.1
  have neg : dt (N + 1) L (X (κ c1)) < 0 := by
    have := hh.1.1 c1 hc1
    rw [on c1 hc1]; omega
  obtain ⟨f, f1, f2, f3⟩ := facet_neg P.1 v (gnz_of (x := X (κ c1)) (by omega)) neg
  have hz : ∀ c, c < n' → dt N h (fcY X k κ c) = 0 → dt (N + 1) f (X (κ c)) = 0 := fun c hc h0 => f2 _ (fp_z F hc).1 (by rw [on c hc]; exact h0)
  have hne : ∃ c, c < n' ∧ dt (N + 1) f (X (κ c)) ≠ 0 := ⟨c1, hc1, by omega⟩
  exact ⟨f, f1, fun c hc => ⟨fun h0 => fp_same F hh hz hne hc h0, hz c hc⟩, hne⟩
/-- what another face has of the facet lies in a facet of the facet -/
theorem fp_dn (F : fpP N n X g k n' κ) {l : Nat → Int} (hv : gval (N + 1) n X l) {c0 : Nat} (hc0 : c0 < n') (h0 : dt (N + 1) l (X (κ c0)) < 0) : ∃ h, gfc N n' (fcY X k κ) h ∧ (∀ c, c < n' → dt (N + 1) l (X (κ c)) = 0 → dt N h (fcY X k κ c) = 0) ∧ dt N h (fcY X k κ c0) < 0 := by
  have n0 := fp_pushN F hc0 h0
  obtain ⟨h, h1, h2, h3⟩ := facet_neg (fp_ful F) (fp_pushV F hv) (gnz_of (x := fcY X k κ c0) (by omega)) n0
  exact ⟨h, h1, fun c hc z => h2 c hc ((fp_push0 F hc).mpr z), h3⟩
end FP
end POLY

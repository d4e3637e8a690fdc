/-! ===== GEOMETRY: a body turns into itself in less than 100000 ways ===== -/
section TURNSG
theorem cF_le1 {n k : Nat} {P : (Nat → Nat) → Bool} (ext : ∀ f g, (∀ j, j < k → f j = g j) → P f = P g) (h : ∀ f g, (∀ j, j < k → f j < n) → (∀ j, j < k → g j < n) → P f = true → P g = true → ∀ j, j < k → f j = g j) : cF n k P ≤ 1 := by
  by_cases e : 0 < cF n k P
  · obtain ⟨r, r1, -, r3⟩ := cF_pos.mp e
    rw [cF_ext (Q := fun f => P f && allN (fun j => decide (f j = r j)) k) fun f hf _ => by
      cases q : P f with
      | false => rfl
      | true => rw [Bool.true_and]; exact (allN_iff.mpr fun j hj => decide_eq_true (h f r hf r1 q r3 j hj)).symm]
    rw [cF_one r1 fun f hf => ext f r hf, r3, if_pos rfl]
    exact Nat.le_refl _
  · omega
theorem cF_det {n k : Nat} {b : Nat → Nat} : ∀ (q : Nat) (P : (Nat → Nat) → Bool), (∀ i, i < q → b i < k) → (∀ f g, (∀ j, j < k → f j = g j) → P f = P g) → (∀ f g, (∀ j, j < k → f j < n) → (∀ j, j < k → g j < n) → P f = true → P g = true → (∀ i, i < q → f (b i) = g (b i)) → ∀ j, j < k → f j = g j) → cF n k P ≤ n ^ q
  | 0, P, _, ext, h => cF_le1 ext fun f g hf hg pf pg => h f g hf hg pf pg fun i hi' => absurd hi' (Nat.not_lt_zero i)
  | q + 1, P, hb, ext, h => by
    rw [cF_part (hb q (by omega)), Nat.pow_succ, Nat.mul_comm]
    rw [← sumN_c n]
    refine sumN_le fun c _ => cF_det q _ (fun i hi' => hb i (by omega)) (fun f g e => ?_) fun f g hf hg pf pg e => ?_
    · try dsimp only
      rw [ext f g e, e _ (hb q (by omega))]
    · try dsimp only at pf pg
      rw [Bool.and_eq_true, decide_eq_true_eq] at pf pg
      refine h f g hf hg pf.1 pg.1 fun i hi' => ?_
      by_cases z : i = q
      · rw [z, pf.2, pg.2]
      · exact e i (by omega)
variable {n : Nat} {A : List Nat} {f g : Nat → Nat}
theorem imS_at {x c : Nat} (inj : ∀ i j, i < j → j < n → f i ≠ f j) (hc : c < n) : (imS f x n).testBit (f c) = true ↔ x.testBit c = true := by
  rw [imS_bit]
  constructor
  · rintro ⟨d, hd, h1, h2⟩
    rcases Nat.lt_trichotomy d c with z | z | z
    · exact absurd h2 (inj d c z hc)
    · rw [← z]; exact h1
    · exact absurd h2.symm (inj c d z hd)
  · intro h; exact ⟨c, hc, h, rfl⟩
/-- each set is some set's image -/
theorem rn_sur (hA : ∀ x, x ∈ A → ∀ c, x.testBit c = true → c < n) (nd : A.Nodup) (hf : rnP n A A f) {y : Nat} (hy : y ∈ A) : ∃ x, x ∈ A ∧ imS f x n = y := by
  obtain ⟨φ, p1, p2⟩ := ren_map hA nd hf
  obtain ⟨t, ht, et⟩ := mem_getD0 hy
  obtain ⟨k, hk, ek⟩ := ord_all (n := A.length) (o := φ) (fun a ha => (p1 a ha).1) p2 ht
  exact ⟨_, getD_mem0 hk, by rw [← (p1 k hk).2, ek, et]⟩
theorem inv_ex (hf : ∀ j, j < n → f j < n) (inj : ∀ i j, i < j → j < n → f i ≠ f j) : ∃ fi : Nat → Nat, ∀ c, c < n → fi c < n ∧ fi (f c) = c ∧ f (fi c) = c := by
  have ex : ∀ y, ∃ a, y < n → a < n ∧ f a = y := fun y => by
    by_cases hy : y < n
    · obtain ⟨a, h1, h2⟩ := ord_all hf inj hy
      exact ⟨a, fun _ => ⟨h1, h2⟩⟩
    · exact ⟨0, fun z => absurd z hy⟩
  obtain ⟨fi, h⟩ := Classical.axiomOfChoice ex
  refine ⟨fi, fun c hc => ⟨(h c hc).1, ?_, (h c hc).2⟩⟩
  obtain ⟨h1, h2⟩ := h (f c) (hf c hc)
  rcases Nat.lt_trichotomy (fi (f c)) c with z | z | z
  · exact absurd h2 (inj _ _ z hc)
  · exact z
  · exact absurd h2.symm (inj _ _ z h1)
variable {l : List pt4} {D m : Nat} {S : Nat → Nat} {G : Nat → Nat → Int}
theorem bdG.pm (ok : okP l D) (b : bdG l D m S G) (hf : ∀ j, j < ncr l D → f j < ncr l D) (rf : rnP (ncr l D) (cls l D (D - 1)) (cls l D (D - 1)) f) (hg : ∀ j, j < ncr l D → g j < ncr l D) (rg : rnP (ncr l D) (cls l D (D - 1)) (cls l D (D - 1)) g) {gi : Nat → Nat} (hgi : ∀ c, c < ncr l D → gi c < ncr l D ∧ gi (g c) = c ∧ g (gi c) = c) : pmG (D + 1) (ncr l D) (cX l D) (fun c => gi (f c)) := by
  intro h hh
  obtain ⟨j, hj, z1, z2⟩ := b.all ok hh
  have mem : ∀ {j}, j < m → fcs l D S j ∈ cls l D (D - 1) := fun hj => b.cls_mem.mpr (Or.inl ⟨rfl, b.fcI.mpr ⟨_, hj, rfl⟩⟩)
  obtain ⟨y, hy, ey⟩ := rn_sur (fun x hx c hc => b.cl_bit (b.cls_mem.mp hx) hc) ((cls_srt _).imp fun h => Nat.ne_of_lt h) rg (rf.2 _ (mem hj))
  obtain ⟨k, hk, rfl⟩ : ∃ a, a < m ∧ y = fcs l D S a := by
    rcases b.cls_mem.mp hy with ⟨-, h⟩ | ⟨h, -⟩
    · exact b.fcI.mp h
    · omega
  refine ⟨G k, b.fm.1 k hk, fun c hc => ?_⟩
  obtain ⟨p1, -, p3⟩ := hgi (f c) (hf c hc)
  have e1 : dt (D + 1) (G k) (cX l D (gi (f c))) = 0 ↔ (fcs l D S k).testBit (gi (f c)) = true := by rw [b.bit hk]; exact ⟨fun e => ⟨p1, e⟩, fun e => e.2⟩
  have e2 : dt (D + 1) h (cX l D c) = 0 ↔ (fcs l D S j).testBit c = true := by rw [b.bit hj]; exact ⟨fun e => ⟨hc, z1 c hc e⟩, fun e => z2 c hc e.2⟩
  rw [e1, e2, ← imS_at rg.1 p1, p3, ey, imS_at rf.1 hc]
variable {bs : List bdy} {i : Nat}
theorem trn_few (ok : okP (bs.getD i b0).1 (dmn bs i)) (so : solid (bs.getD i b0).1 (dmn bs i)) : trnN bs i < 100000 := by
  obtain ⟨m, S, G, b⟩ := bdG_ex ok so
  have hD := ok.2.2.2.2
  have n16 := b.n16
  have ln : (cnr bs i).length = ncr (bs.getD i b0).1 (dmn bs i) := crn_len _ _
  have ef : fct bs i = cls (bs.getD i b0).1 (dmn bs i) (dmn bs i - 1) := rfl
  unfold trnN
  rw [ln, ef]
  generalize (bs.getD i b0).1 = l at *
  generalize dmn bs i = D at *
  obtain ⟨N, rfl⟩ : ∃ N, D = N + 1 := ⟨D - 1, by omega⟩
  obtain ⟨β, g0, -, h1, -, fix⟩ := base_G N (ncr l (N + 1)) (cX l (N + 1)) b.P
  have := cF_det (n := ncr l (N + 1)) (k := ncr l (N + 1)) (b := β) (N + 1) (rnB (ncr l (N + 1)) (cls l (N + 1) (N + 1 - 1)) (cls l (N + 1) (N + 1 - 1))) (fun i hi' => (h1 i hi').1) (fun f g e => rnB_ext e) fun f g hf hg pf pg e => by
    have rf := rnB_iff.mp pf
    have rg := rnB_iff.mp pg
    obtain ⟨fi, hfi⟩ := inv_ex hf rf.1
    obtain ⟨gi, hgi⟩ := inv_ex hg rg.1
    have := fix (fun c => gi (f c)) (fun c => fi (g c)) ⟨fun c hc => ⟨⟨(hgi _ (hf c hc)).1, (hfi _ (hg c hc)).1⟩, ?_, ?_⟩, b.pm ok hf rf hg rg hgi, b.pm ok hg rg hf rf hfi⟩ fun i hi' => by
      try dsimp only
      rw [e i hi', (hgi _ (h1 i hi').1).2.1]
    · intro j hj
      have h2 := this j hj
      try dsimp only at h2
      have h3 := (hgi _ (hf j hj)).2.2
      rw [h2] at h3
      exact h3.symm
    · try dsimp only
      rw [(hgi _ (hf c hc)).2.2, (hfi c hc).2.1]
    · try dsimp only
      rw [(hfi _ (hg c hc)).2.2, (hgi c hc).2.1]
  have p1 : ncr l (N + 1) ^ (N + 1) ≤ 16 ^ (N + 1) := Nat.pow_le_pow_left n16 _
  have p2 : 16 ^ (N + 1) ≤ 16 ^ 4 := Nat.pow_le_pow_right (by decide) (by omega)
  unfold rnT
  omega
/-- what was owed of geometry -/
theorem geo2_all : geo2 := fun _ _ _ ok so => ⟨pcL_256 ok so, trn_few ok so⟩
end TURNSG

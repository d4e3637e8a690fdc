/-! ===== THE LAW: more calls ===== -/
section LAWMORE
theorem call_ro {k cx cm : Nat} {as : List Value} (P : lwT → Value → Prop)
    (hx : ∀ (h : qH) (s : lwT) (v : Value), LXs h s → LPs s → P s v → ∃ (h1 : qH) (A : List Nat) (J : List (Nat × Nat)) (k : Nat), (∀ R, qMC 1000 cx (.ref 16 :: as) h R ↔ R = (some v, h1)) ∧ ChX A J k h h1 ∧ (∀ x ∈ A, x < 55 ∨ 97 ≤ x) ∧ k ≤ 16 ∧ LXs h1 s)
    (hm : ∀ (h : qH) (s : lwT), LMs h s → LPs s → ∃ (h2 : qH) (v : Value) (A J : List Nat), (∀ R, qMC 1000 cm (.ref 55 :: as) h R ↔ R = (some v, h2)) ∧ Ch A J h h2 ∧ (∀ x ∈ A, 56 ≤ x ∧ x < 97) ∧ LMs h2 s ∧ P s v) (hk : ∀ (s : lwT) (v : Value), P s v → kdV k v := by
      intro s v hp
      first
        | (obtain ⟨r, e, _⟩ := hp; exact ⟨r, e⟩)
        | exact ⟨_, hp⟩) : callP k cx cm as :=
  call_gen (fun s v s' => s' = s ∧ P s v) (fun h s v s' X p ⟨e, pv⟩ => by
    subst e
    obtain ⟨h1, A, J, k, r, c, a, k1, X1⟩ := hx h s' v X p pv
    exact ⟨h1, A, J, k, r, c, a, by omega, X1⟩) (fun h s M p => by
    obtain ⟨h2, v, A, J, r, c, a, M2, pv⟩ := hm h s M p
    exact ⟨h2, v, s, A, J, r, c, a, M2, ⟨rfl, pv⟩, p, Nat.le_refl _⟩) (fun s v s' hp => hk s v hp.2)
/-- the class changes rows of no weight, the reference too -/
theorem call_qu {k cx cm : Nat} {as : List Value} {AX : List Nat} {JX : List (Nat × Nat)} {AM JM : List Nat} (P : lwT → Value → Prop)
    (hx : ∀ (h : qH) (s : lwT) (v : Value), LXs h s → LPs s → P s v → ∃ h1, (∀ R, qMC 1000 cx (.ref 16 :: as) h R ↔ R = (some v, h1)) ∧ ChX AX JX 0 h h1)
    (hm : ∀ (h : qH) (s : lwT), LMs h s → LPs s → ∃ h2 v, (∀ R, qMC 1000 cm (.ref 55 :: as) h R ↔ R = (some v, h2)) ∧ Ch AM JM h h2 ∧ P s v)
    (a1 : ∀ x ∈ AX, x < 55) (a2 : ∀ x ∈ [17, 18, 40, 42, 44, 51, 54], x ∉ AX) (a3 : ∀ x ∈ [(16, 1), (16, 3), (39, 0), (39, 2), (41, 1), (43, 4), (50, 1), (50, 7), (53, 1)], x ∉ JX) (a4 : ∀ x ∈ AM, 63 ≤ x ∧ x < 97) (a5 : ∀ x ∈ [70, 80, 81, 83, 93, 94], x ∉ AM) (a6 : ∀ x ∈ [0, 18, 32, 33, 35, 51, 52, 54], x ∉ JM) (hk : ∀ (s : lwT) (v : Value), P s v → kdV k v := by
      intro s v hp
      first
        | (obtain ⟨r, e, _⟩ := hp; exact ⟨r, e⟩)
        | exact ⟨_, hp⟩) : callP k cx cm as :=
  call_ro P (fun h s v X p pv => by
    obtain ⟨h1, r, c⟩ := hx h s v X p pv
    exact ⟨h1, AX, JX, 0, r, c, fun x hx => Or.inl (a1 x hx), by decide, LX.keep X c (fun x hx => by have := a1 x hx; omega) a2 a3⟩) (fun h s M p => by
    obtain ⟨h2, v, r, c, pv⟩ := hm h s M p
    exact ⟨h2, v, AM, JM, r, c, fun x hx => by have := a4 x hx; omega, LM.keepB M c a5 (fun x hx => a6 x (List.mem_cons_of_mem _ hx)) (M.2.1.ch c (fun x hx z => by
      have := a4 x z
      have := (by decide : ∀ x ∈ [56, 57, 58, 59, 60, 61, 62], x < 63) x hx
      omega) (a6 0 List.mem_cons_self)), pv⟩) hk
theorem call_same (x y : Int32) : callP 0 150 250 [.int x, .int y] := call_qu (fun s v => v = .int (twoR s.1 (samI s.1) x y)) (fun h s v X p e => by
    obtain ⟨sa, Xb⟩ := X.2.1
    obtain ⟨h1, r, c⟩ := x_same (d := 975) (x := x) (y := y) X.1 Xb
    exact ⟨h1, by rw [e]; exact r, c⟩) (fun h s M p => by
    obtain ⟨h2, r, c⟩ := s_same (d := 996) (x := x) (y := y) M.1 M.2.1
    exact ⟨h2, _, r, c, rfl⟩) (by decide) (by decide) (by decide) (by decide) (by decide) (by decide)
theorem call_inside (x y : Int32) : callP 0 151 251 [.int x, .int y] := call_qu (fun s v => v = .int (twoR s.1 (dulI s.1) x y)) (fun h s v X p e => by
    obtain ⟨sa, Xb⟩ := X.2.1
    obtain ⟨h1, r, c⟩ := x_inside (d := 975) (x := x) (y := y) X.1 Xb
    exact ⟨h1, by rw [e]; exact r, c⟩) (fun h s M p => by
    obtain ⟨h2, r, c⟩ := s_inside (d := 996) (x := x) (y := y) M.1 M.2.1
    exact ⟨h2, _, r, c, rfl⟩) (by decide) (by decide) (by decide) (by decide) (by decide) (by decide)
theorem call_whole (x y z : Int32) : callP 0 170 290 [.int x, .int y, .int z] := call_qu (fun s v => ∃ r, v = .int r ∧ whoR s.1 x y z r) (fun h s v X p e => by
    obtain ⟨sa, Xb⟩ := X.2.1
    obtain ⟨r, ev, pr⟩ := e
    obtain ⟨h1, r1, c⟩ := x_whole (d := 996) X.1 Xb pr
    exact ⟨h1, by rw [ev]; exact r1, c⟩) (fun h s M p => by
    obtain ⟨h2, r, r2, c, pr⟩ := s_whole (d := 996) (x := x) (y := y) (z := z) M.1 M.2.1
    exact ⟨h2, _, r2, c, r, rfl, pr⟩) (by decide) (by decide) (by decide) (by decide) (by decide) (by decide)
theorem call_place (x : Int32) : callP 0 154 259 [.int x] := call_qu (fun s v => ∃ r, v = .int r ∧ plcR s.1 s.2.2.1.2.1 s.2.2.1.2.2 x r) (fun h s v X p e => by
    obtain ⟨sa, Xb⟩ := X.2.1
    obtain ⟨r, ev, pr⟩ := e
    obtain ⟨h1, r1, c⟩ := x_place (d := 975) X.1 Xb X.2.2.2.1.2 p.2.1 pr
    exact ⟨h1, by rw [ev]; exact r1, c⟩) (fun h s M p => by
    obtain ⟨h2, r, r2, c, pr⟩ := s_place (d := 996) (x := x) M.1 M.2.1 M.2.2.2.1.2
    exact ⟨h2, _, r2, c, r, rfl, pr⟩) (by decide) (by decide) (by decide) (by decide) (by decide) (by decide)
theorem call_fault : callP 0 173 305 [] := call_qu (AX := []) (JX := []) (AM := []) (JM := []) (fun s v => v = .int s.2.2.2.2.2) (fun h s v X p e => by
    refine ⟨h, fun R => ?_, ChX.refl X.1⟩
    rw [e, ← X.2.2.2.2.2.1]
    exact x_fault (d := 999) X.1) (fun h s M p => by
    refine ⟨h, _, fun R => ?_, Ch.refl M.1, rfl⟩
    rw [← M.2.2.2.2.2]
    exact s_fault (d := 999) M.1) (by decide) (by decide) (by decide) (by decide) (by decide) (by decide)
end LAWMORE

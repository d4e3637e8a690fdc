/-! ===== THE LAW: what is filled late ===== -/
section LAWLATE
/-- owed of geometry: a body has 256 pieces at most, and turns into itself in less than 100000 ways -/
def geo2 : Prop := ∀ (bs : List bdy) (i : Nat), i < bs.length → okP (bs.getD i b0).1 (dmn bs i) → solid (bs.getD i b0).1 (dmn bs i) → (pcL bs i).length ≤ 256 ∧ trnN bs i < 100000
variable {h h' : qH} {bs bs' : List bdy} {dr : List pt4} {t : pt4} {r : List Nat} {n : Nat} {ss : List Nat} {cm : List clm} {tx : List Nat} {ft : Int32}
theorem LX.keepC {A : List Nat} {J : List (Nat × Nat)} {k : Nat} {sa' : Nat → Nat} (v : LX h bs dr t r n ss cm tx ft) (c : ChX A J k h h') (h1 : ∀ x ∈ [18, 40, 42, 44, 51, 54], x ∉ A) (h2 : ∀ x ∈ [(16, 3), (39, 0), (39, 2), (41, 1), (50, 1), (50, 7), (53, 1)], x ∉ J) (X' : BsX h' bs' sa') (fn' : FnX h') : LX h' bs' dr t r n ss cm tx ft := by
  obtain ⟨s, -, ⟨v3, v4⟩, ⟨v5, v6⟩, ⟨v7, v8⟩, v9, v10⟩ := v
  exact ⟨c.sh, ⟨sa', X'⟩, ⟨v3.ch c s (h1 _ (by decide)) (h2 _ (by decide)), TlX.ch c s (h1 _ (by decide)) v4⟩, ⟨v5.ch c s (h1 _ (by decide)) (h2 _ (by decide)), v6.ch c s (h1 _ (by decide)) (h2 _ (by decide)) (h2 _ (by decide))⟩, ⟨v7.ch c s (h1 _ (by decide)) (h2 _ (by decide)), v8.ch c s (h1 _ (by decide)) (h2 _ (by decide))⟩, (c.xi (by decide) (h2 _ (by decide))).trans v9, fn'⟩
theorem BsX.g2 {sa : Nat → Nat} (gg : geo2) (X : BsX h bs sa) : (∀ i, i < bs.length → (pcL bs i).length ≤ 256) ∧ ∀ i, i < bs.length → trnN bs i < 100000 := ⟨fun i hi' => (gg bs i hi' (X.2.2.2 i hi').1.1 (X.2.2.2 i hi').1.2).1, fun i hi' => (gg bs i hi' (X.2.2.2 i hi').1.1 (X.2.2.2 i hi').1.2).2⟩
theorem BsM.g2 (gg : geo2) (B : BsM h bs) : ∀ i, i < bs.length → (pcL bs i).length ≤ 4000 := fun i hi' => Nat.le_trans (gg bs i hi' (B.2.2 i hi').1 (B.2.2 i hi').2.1).1 (by decide)
theorem call_lt {k cx cm : Nat} {as : List Value} {JX : List (Nat × Nat)} {AM JM : List Nat} (P : lwT → Value → Prop)
    (hx : ∀ (h : qH) (s : lwT) (v : Value) (sa : Nat → Nat), LXs h s → BsX h s.1 sa → P s v → ∃ (h1 : qH) (A : List Nat) (k : Nat), (∀ R, qMC 1000 cx (.ref 16 :: as) h R ↔ R = (some v, h1)) ∧ (∀ x ∈ A, 97 ≤ x ∨ x = 23 ∨ x = 24 ∨ (31 ≤ x ∧ x ≤ 38)) ∧ ChX A JX k h h1 ∧ k ≤ 16 ∧ BsX h1 s.1 sa ∧ FnX h1)
    (hm : ∀ (h : qH) (s : lwT), LMs h s → ∃ h2 v, (∀ R, qMC 1000 cm (.ref 55 :: as) h R ↔ R = (some v, h2)) ∧ Ch AM JM h h2 ∧ P s v)
    (a3 : ∀ x ∈ [(16, 3), (39, 0), (39, 2), (41, 1), (50, 1), (50, 7), (53, 1)], x ∉ JX) (a4 : ∀ x ∈ AM, 63 ≤ x ∧ x < 97) (a5 : ∀ x ∈ [70, 80, 81, 83, 93, 94], x ∉ AM) (a6 : ∀ x ∈ [0, 18, 32, 33, 35, 51, 52, 54], x ∉ JM) (hk : ∀ (s : lwT) (v : Value), P s v → kdV k v := by
      intro s v hp
      first
        | (obtain ⟨r, e, _⟩ := hp; exact ⟨r, e⟩)
        | exact ⟨_, hp⟩) : callP k cx cm as :=
  call_ro P (fun h s v X p pv => by
    obtain ⟨sa, Xb⟩ := X.2.1
    obtain ⟨h1, A, k, r, a, c, k16, X1, f1⟩ := hx h s v sa X Xb pv
    exact ⟨h1, A, JX, k, r, c, fun x hx => by have := a x hx; omega, k16, LX.keepC X c (fun x hx z => by
      have := a x z
      have := (by decide : ∀ x ∈ [18, 40, 42, 44, 51, 54], x < 97 ∧ x ≠ 23 ∧ x ≠ 24 ∧ (x < 31 ∨ 38 < x)) x hx
      omega) a3 X1 f1⟩) (fun h s M p => by
    obtain ⟨h2, v, r, c, pv⟩ := hm h s M
    exact ⟨h2, v, AM, JM, r, c, fun x hx => by have := a4 x hx; omega, LM.keepB M c a5 (fun x hx => a6 x (List.mem_cons_of_mem _ hx)) (M.2.1.ch c (fun x hx z => by
      have := a4 x z
      have := (by decide : ∀ x ∈ [56, 57, 58, 59, 60, 61, 62], x < 63) x hx
      omega) (a6 0 List.mem_cons_self)), pv⟩) hk
theorem call_ring (x y : Int32) : callP 0 164 277 [.int x, .int y] := call_lt (fun s v => ∃ r, v = .int r ∧ rngR s.1 x y r) (fun h s v sa X Xb ⟨r, ev, pr⟩ => by
    obtain ⟨h1, A, r1, a, c, X1, f1⟩ := x_ring (d := 995) X.1 Xb X.2.2.2.2.2.2 pr
    exact ⟨h1, A, 8, by rw [ev]; exact r1, fun x hx => Or.inl (a x hx), c, by decide, X1, f1⟩) (fun h s M => by
    obtain ⟨r, h2, r2, c, pr⟩ := s_ring (d := 996) M.1 M.2.1 x y
    exact ⟨h2, _, r2, c, r, rfl, pr⟩) (by decide) (by decide) (by decide) (by decide)
theorem call_about (gg : geo2) (x y : Int32) : callP 0 142 233 [.int x, .int y] := call_lt (fun s v => ∃ r, v = .int r ∧ abtR s.1 x y r) (fun h s v sa X Xb ⟨r, ev, pr⟩ => by
    obtain ⟨g1, g2⟩ := Xb.g2 gg
    obtain ⟨h1, A, r1, a, c, X1, f1⟩ := x_about (d := 974) X.1 Xb X.2.2.2.2.2.2 g1 g2 pr
    exact ⟨h1, A, 4, by rw [ev]; exact r1, fun x hx => by have := a x hx; omega, c, by decide, X1, f1⟩) (fun h s M => by
    obtain ⟨h2, r, r2, c, pr⟩ := s_about (d := 995) (x := x) (y := y) M.1 M.2.1 (M.2.1.g2 gg)
    exact ⟨h2, _, r2, c, r, rfl, pr⟩) (by decide) (by decide) (by decide) (by decide)
theorem call_size (gg : geo2) (x : Int32) : callP 1 168 288 [.int x] := call_lt (fun s v => ∃ r, v = .long r ∧ sizR s.1 x r) (fun h s v sa X Xb ⟨r, ev, pr⟩ => by
    obtain ⟨g1, g2⟩ := Xb.g2 gg
    obtain ⟨h1, A, r1, a, c, X1, f1⟩ := x_size (d := 991) X.1 Xb X.2.2.2.2.2.2 g1 pr
    exact ⟨h1, A, 4, by rw [ev]; exact r1, fun x hx => by have := a x hx; omega, c, by decide, X1, f1⟩) (fun h s M => by
    obtain ⟨h2, r, r2, c, pr⟩ := s_size (d := 995) (x := x) M.1 M.2.1 (M.2.1.g2 gg)
    exact ⟨h2, _, r2, c, r, rfl, pr⟩) (by decide) (by decide) (by decide) (by decide)
theorem call_piece (gg : geo2) (x y z : Int32) : callP 1 169 289 [.int x, .int y, .int z] := call_lt (fun s v => ∃ r, v = .long r ∧ pieR s.1 x y z r) (fun h s v sa X Xb ⟨r, ev, pr⟩ => by
    obtain ⟨g1, g2⟩ := Xb.g2 gg
    obtain ⟨h1, A, r1, a, c, X1, f1⟩ := x_piece (d := 991) X.1 Xb X.2.2.2.2.2.2 g1 pr
    exact ⟨h1, A, 4, by rw [ev]; exact r1, fun x hx => by have := a x hx; omega, c, by decide, X1, f1⟩) (fun h s M => by
    obtain ⟨h2, r, r2, c, pr⟩ := s_piece (d := 995) (x := x) (y := y) (z := z) M.1 M.2.1 (M.2.1.g2 gg)
    exact ⟨h2, _, r2, c, r, rfl, pr⟩) (by decide) (by decide) (by decide) (by decide)
end LAWLATE

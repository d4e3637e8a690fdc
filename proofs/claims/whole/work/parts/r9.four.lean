/-! ===== THE LAW: faces, face, corner, count ===== -/
section LAWFOUR
theorem call_00 {k cx cm : Nat} {as : List Value} (P : lwT → Value → Prop) (hx : ∀ (h : qH) (s : lwT) (v : Value), LXs h s → LPs s → P s v → ∀ R, qMC 1000 cx (.ref 16 :: as) h R ↔ R = (some v, h)) (hm : ∀ (h : qH) (s : lwT), LMs h s → LPs s → ∃ v, (∀ R, qMC 1000 cm (.ref 55 :: as) h R ↔ R = (some v, h)) ∧ P s v) (hk : ∀ (s : lwT) (v : Value), P s v → kdV k v := by
      intro s v hp
      first
        | (obtain ⟨r, e, _⟩ := hp; exact ⟨r, e⟩)
        | exact ⟨_, hp⟩) : callP k cx cm as :=
  call_qu (AX := []) (JX := []) (AM := []) (JM := []) P (fun h s v X p pv => ⟨h, hx h s v X p pv, ChX.refl X.1⟩) (fun h s M p => by
    obtain ⟨v, r, pv⟩ := hm h s M p
    exact ⟨h, v, r, Ch.refl M.1, pv⟩) (by decide) (by decide) (by decide) (by decide) (by decide) (by decide) hk
theorem call_faces (x y : Int32) : callP 0 145 237 [.int x, .int y] := call_00 (fun s v => ∃ r, v = .int r ∧ facR s.1 x y r) (fun h s v X p ⟨r, ev, pr⟩ R => by
    obtain ⟨sa, Xb⟩ := X.2.1
    rw [ev]; exact x_faces (d := 998) X.1 Xb pr) (fun h s M p => by
    obtain ⟨q1, q2⟩ := s_faces (d := 997) M.1 M.2.1 x y
    by_cases hx : ∃ i, i < s.1.length ∧ x = iN i
    · obtain ⟨i, hi', ex⟩ := hx
      obtain ⟨q3, q4⟩ := q2 i hi' ex
      by_cases hy : ∃ k, k ≤ 3 ∧ y = iN k
      · obtain ⟨k, hk, ey⟩ := hy
        exact ⟨_, q4 k hk ey, _, rfl, Or.inr ⟨i, ⟨hi', ex⟩, Or.inr ⟨k, ⟨by omega, ey⟩, rfl⟩⟩⟩
      · exact ⟨_, q3 hy, _, rfl, Or.inr ⟨i, ⟨hi', ex⟩, Or.inl ⟨fun ⟨k, hk, ey⟩ => hy ⟨k, by omega, ey⟩, rfl⟩⟩⟩
    · exact ⟨_, q1 hx, _, rfl, Or.inl ⟨hx, rfl⟩⟩)
theorem call_face (x y z : Int32) : callP 0 146 238 [.int x, .int y, .int z] := call_00 (fun s v => ∃ r, v = .int r ∧ fceR s.1 x y z r) (fun h s v X p ⟨r, ev, pr⟩ R => by
    obtain ⟨sa, Xb⟩ := X.2.1
    rw [ev]; exact x_face (d := 997) X.1 Xb pr) (fun h s M p => by
    obtain ⟨q1, q2⟩ := s_face (d := 997) M.1 M.2.1 x y z
    by_cases hx : ∃ i, i < s.1.length ∧ x = iN i
    · obtain ⟨i, hi', ex⟩ := hx
      obtain ⟨q3, q4⟩ := q2 i hi' ex
      by_cases hy : ∃ k, k < dmn s.1 i ∧ y = iN k
      · obtain ⟨k, hk, ey⟩ := hy
        obtain ⟨q5, q6⟩ := q4 k hk ey
        by_cases hz : ∃ j, j < (cel s.1 i k).length ∧ z = iN j
        · obtain ⟨j, hj, ez⟩ := hz
          exact ⟨_, q6 j hj ez, _, rfl, Or.inr ⟨i, ⟨hi', ex⟩, Or.inr ⟨k, ⟨hk, ey⟩, Or.inr ⟨j, ⟨hj, ez⟩, rfl⟩⟩⟩⟩
        · exact ⟨_, q5 hz, _, rfl, Or.inr ⟨i, ⟨hi', ex⟩, Or.inr ⟨k, ⟨hk, ey⟩, Or.inl ⟨hz, rfl⟩⟩⟩⟩
      · exact ⟨_, q3 hy, _, rfl, Or.inr ⟨i, ⟨hi', ex⟩, Or.inl ⟨hy, rfl⟩⟩⟩
    · exact ⟨_, q1 hx, _, rfl, Or.inl ⟨hx, rfl⟩⟩)
theorem call_corner (x y z : Int32) : callP 0 143 235 [.int x, .int y, .int z] := call_00 (fun s v => ∃ r, v = .int r ∧ crnR s.1 x y z r) (fun h s v X p ⟨r, ev, pr⟩ R => by
    obtain ⟨sa, Xb⟩ := X.2.1
    rw [ev]; exact x_corner (d := 998) X.1 Xb pr) (fun h s M p => by
    obtain ⟨q1, q2⟩ := s_corner (d := 996) M.1 M.2.1 x y z
    by_cases hx : ∃ i c, (i < s.1.length ∧ x = iN i) ∧ c < (cnr s.1 i).length ∧ y = iN c
    · obtain ⟨i, c, ⟨hi', ex⟩, hc, ey⟩ := hx
      obtain ⟨q3, q4⟩ := q2 i c hi' ex hc ey
      by_cases hz : ∃ k, k < dmn s.1 i ∧ z = iN k
      · obtain ⟨k, hk, ez⟩ := hz
        exact ⟨_, q4 k hk ez, _, rfl, Or.inr ⟨i, c, ⟨hi', ex⟩, ⟨hc, ey⟩, Or.inr ⟨k, ⟨hk, ez⟩, rfl⟩⟩⟩
      · exact ⟨_, q3 hz, _, rfl, Or.inr ⟨i, c, ⟨hi', ex⟩, ⟨hc, ey⟩, Or.inl ⟨hz, rfl⟩⟩⟩
    · exact ⟨_, q1 hx, _, rfl, Or.inl ⟨hx, rfl⟩⟩)
def cntP (s : lwT) (x v : Int32) : Prop := ((¬ ∃ k, k ≤ 6 ∧ x = iN k) ∧ v = -1002) ∨ (x = iN 0 ∧ v = iN s.1.length) ∨ (x = iN 1 ∧ v = iN s.2.1.1.length) ∨ (x = iN 2 ∧ v = iN s.2.2.2.1.length) ∨ (x = iN 3 ∧ v = iN s.2.2.1.2.2.length) ∨ (x = iN 4 ∧ v = iN s.2.2.1.1.length) ∨ (x = iN 5 ∧ v = iN s.2.2.2.2.1.length) ∨ (x = iN 6 ∧ v = iN (crnS s.1))
theorem call_count (x : Int32) : callP 0 144 236 [.int x] := call_00 (fun s v => ∃ r, v = .int r ∧ cntP s x r) (fun h s v X p ⟨r, ev, pr⟩ R => by
    obtain ⟨sa, Xb⟩ := X.2.1
    rw [ev]
    refine x_count (d := 997) X.1 Xb ?_
    obtain ⟨s0, -, ⟨v3, v4⟩, ⟨v5, v6⟩, ⟨v7, v8⟩, -⟩ := X
    unfold cntP at pr
    unfold cntX
    rw [v3.2.1, v7.2, v6.2.2.2.1, v5.2.1, v8.2.1]
    exact pr) (fun h s M p => by
    obtain ⟨r, r2, pr⟩ := s_count (d := 999) (x := x) M.1 M.2.1
    refine ⟨_, r2, r, rfl, ?_⟩
    obtain ⟨s0, -, ⟨v3, v4⟩, ⟨v5, v6⟩, ⟨v7, v8⟩, -⟩ := M
    unfold cntV at pr
    unfold cntP
    rw [v3.2.1, v7.2, v6.2.2.2.1, v5.2.1, v8.2.1] at pr
    exact pr)
end LAWFOUR

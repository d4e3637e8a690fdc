/-! ===== THE LAW: pattern, set, body, read, about ===== -/
section LAWMAKE
theorem bad_mem {ss : List Nat} {k : Nat} (h : badS ss k = false) : k ∉ ss := fun hk => by
  obtain ⟨t, ht, et⟩ := mem_getD0 hk
  unfold badS at h
  rw [Bool.or_eq_false_iff] at h
  have := any_f.mp h.2 t ht
  exact of_decide_eq_false this et
theorem set_fun {n : Nat} {ss s1 s2 : List Nat} {x v1 v2 : Int32} (n12 : n ≤ 12) (a : setR n ss x v1 s1) (b : setR n ss x v2 s2) : v1 = v2 ∧ s1 = s2 := by
  have p12 := pw12 n12
  rcases a with ⟨a1, rfl, rfl⟩ | ⟨k, ⟨k1, k2⟩, a⟩ <;> rcases b with ⟨b1, rfl, rfl⟩ | ⟨j, ⟨j1, j2⟩, b⟩
  · exact ⟨rfl, rfl⟩
  · exact absurd ⟨j, j1, j2⟩ a1
  · exact absurd ⟨k, k1, k2⟩ b1
  · have e : k = j := iN_inj (by omega) (by omega) (k2.symm.trans j2)
    subst e
    rcases a with ⟨a1, rfl, rfl⟩ | ⟨a1, a2, rfl, rfl⟩ | ⟨a1, a2, rfl, rfl⟩ <;> rcases b with ⟨b1, rfl, rfl⟩ | ⟨b1, b2, rfl, rfl⟩ | ⟨b1, b2, rfl, rfl⟩
    all_goals first | exact ⟨rfl, rfl⟩ | (exfalso; omega) | (rw [a1] at b1; exact absurd b1 (by decide))
theorem set_nd {n : Nat} {ss ss' : List Nat} {x v : Int32} (a : setR n ss x v ss') (h : ss.Nodup) : ss'.Nodup := by
  rcases a with ⟨-, -, e⟩ | ⟨k, -, ⟨-, -, e⟩ | ⟨-, -, -, e⟩ | ⟨hk, -, -, e⟩⟩
  · rw [e]; exact h
  · rw [e]; exact h
  · rw [e]; exact h
  · rw [e]; exact nd_snoc h (bad_mem hk)
theorem call_set (x : Int32) : callP 0 153 253 [.int x] := call_gen (fun s v s' => ∃ r d', v = .int r ∧ s' = (s.1, s.2.1, (s.2.2.1.1, s.2.2.1.2.1, d'), s.2.2.2) ∧ setR s.2.2.1.2.1 s.2.2.1.2.2 x r d') (fun h s v s' X p ⟨r, d', ev, es, pr⟩ => by
    obtain ⟨s0, ⟨sa, Xb⟩, ⟨v3, v4⟩, ⟨v5, v6⟩, ⟨v7, v8⟩, v9, v10⟩ := id X
    obtain ⟨h1, v1, d1, r1, c, dx, pr1⟩ := x_set (d := 996) (x := x) s0 v6
    obtain ⟨e1, e2⟩ := set_fun v6.1.2 pr1 pr
    subst e1
    subst e2
    rw [ev, es]
    exact ⟨h1, [40], [(39, 2)], 0, r1, c, by decide, Nat.zero_le _, c.sh, ⟨sa, Xb.ch s0 c (by decide) (by decide) (by decide)⟩, ⟨v3.ch c s0 (by decide) (by decide), TlX.ch c s0 (by decide) v4⟩, ⟨v5.ch c s0 (by decide) (by decide), dx⟩, ⟨v7.ch c s0 (by decide) (by decide), v8.ch c s0 (by decide) (by decide)⟩, (c.xi (by decide) (by decide)).trans v9, v10.ch97 c (by decide) (by decide)⟩) (fun h s M p => by
    obtain ⟨v1, v2, ⟨v3, v4⟩, ⟨v5, v6⟩, ⟨v7, v8⟩, v9⟩ := id M
    obtain ⟨h2, v, d', r, c, dv, pr⟩ := s_set (d := 998) (x := x) v1 v6
    exact ⟨h2, .int v, (s.1, s.2.1, (s.2.2.1.1, s.2.2.1.2.1, d'), s.2.2.2), [80], [33], r, c, by decide, ⟨c.sh, v2.ch c (by decide) (by decide), ⟨v3.ch c (by decide) (by decide), v4.ch c (by decide)⟩, ⟨v5.ch c (by decide) (by decide), dv⟩, ⟨v7.ch c (by decide) (by decide), v8.ch c (by decide) (by decide)⟩, (c.mi (by decide)).trans v9⟩, ⟨v, d', rfl, rfl, pr⟩, ⟨p.1, set_nd pr p.2.1, p.2.2⟩, Nat.le_refl _⟩)
theorem call_pattern (x : Int32) : callP 0 152 252 [.int x] := call_gen (fun s v s' => ((¬ ∃ k, (3 ≤ k ∧ k ≤ 12) ∧ x = iN k) ∧ v = .int (-1002) ∧ s' = s) ∨ ∃ k, (3 ≤ k ∧ k ≤ 12) ∧ x = iN k ∧ v = .int 1 ∧ s' = (s.1, s.2.1, (s.2.2.1.1, k, []), s.2.2.2)) (fun h s v s' X p pv => by
    obtain ⟨s0, ⟨sa, Xb⟩, ⟨v3, v4⟩, ⟨v5, v6⟩, ⟨v7, v8⟩, v9, v10⟩ := id X
    obtain ⟨q1, q2⟩ := x_pattern (d := 999) s0 v6 x
    rcases pv with ⟨hx, rfl, rfl⟩ | ⟨k, hk, ex, rfl, rfl⟩
    · exact ⟨h, [], [], 0, q1 hx, ChX.refl s0, (fun x hx => by cases hx), Nat.zero_le _, X⟩
    · obtain ⟨h1, r1, c, dx⟩ := q2 k hk ex
      exact ⟨h1, [], [(39, 0), (39, 2)], 0, r1, c, (fun x hx => by cases hx), Nat.zero_le _, c.sh, ⟨sa, Xb.ch s0 c (fun x hx => by cases hx) (fun z => by cases z) (by decide)⟩, ⟨v3.ch c s0 (fun z => by cases z) (by decide), TlX.ch c s0 (fun z => by cases z) v4⟩, ⟨v5.ch c s0 (fun z => by cases z) (by decide), dx⟩, ⟨v7.ch c s0 (fun z => by cases z) (by decide), v8.ch c s0 (fun z => by cases z) (by decide)⟩, (c.xi (by decide) (by decide)).trans v9, v10.ch97 c (by decide) (fun x hx => by cases hx)⟩) (fun h s M p => by
    obtain ⟨v1, v2, ⟨v3, v4⟩, ⟨v5, v6⟩, ⟨v7, v8⟩, v9⟩ := id M
    obtain ⟨q1, q2⟩ := s_pattern (d := 998) v1 v6 x
    by_cases hx : ∃ k, (3 ≤ k ∧ k ≤ 12) ∧ x = iN k
    · obtain ⟨k, hk, ex⟩ := hx
      obtain ⟨h2, r, c, dv⟩ := q2 k hk ex
      exact ⟨h2, _, (s.1, s.2.1, (s.2.2.1.1, k, []), s.2.2.2), [], [32, 33], r, c, (fun x hx => by cases hx), ⟨c.sh, v2.ch c (fun _ _ z => by cases z) (by decide), ⟨v3.ch c (fun z => by cases z) (by decide), v4.ch c (fun z => by cases z)⟩, ⟨v5.ch c (fun z => by cases z) (by decide), dv⟩, ⟨v7.ch c (fun z => by cases z) (by decide), v8.ch c (fun z => by cases z) (by decide)⟩, (c.mi (by decide)).trans v9⟩, Or.inr ⟨k, hk, ex, rfl, rfl⟩, ⟨p.1, List.nodup_nil, p.2.2⟩, Nat.le_refl _⟩
    · exact ⟨h, _, s, [], [], q1 hx, Ch.refl v1, (fun x hx => by cases hx), M, Or.inl ⟨hx, rfl, rfl⟩, p, Nat.le_refl _⟩)
theorem bod_mono {bs bs' : List bdy} {dr dr' : List pt4} {x v : Int32} (p : bodR bs dr x v bs' dr') : bs.length ≤ bs'.length := by
  rcases p with ⟨-, -, e, -⟩ | ⟨D, -, ⟨-, -, e, -⟩ | ⟨-, -, -, e, -⟩ | ⟨-, -, -, e, -⟩⟩
  all_goals rw [e]
  all_goals first | exact Nat.le_refl _ | (rw [List.length_append]; exact Nat.le_add_right _ _)
theorem call_body (gg : geo) (x : Int32) : callP 0 135 216 [.int x] := call_gen (fun s v s' => ∃ r b' d', v = .int r ∧ s' = (b', (d', s.2.1.2), s.2.2) ∧ bodR s.1 s.2.1.1 x r b' d') (fun h s v s' X p ⟨r, b', d', ev, es, pr⟩ => by
    obtain ⟨s0, ⟨sa, Xb⟩, ⟨v3, v4⟩, ⟨v5, v6⟩, ⟨v7, v8⟩, v9, v10⟩ := id X
    obtain ⟨h1, sa', r1, c, X', dx⟩ := x_body (d := 992) s0 Xb v3 pr
    rw [ev, es]
    exact ⟨h1, bdA, bdK, 16, r1, c, by decide, by omega, c.sh, ⟨sa', X'⟩, ⟨dx, TlX.ch c s0 (by decide) v4⟩, ⟨v5.ch c s0 (by decide) (by decide), v6.ch c s0 (by decide) (by decide) (by decide)⟩, ⟨v7.ch c s0 (by decide) (by decide), v8.ch c s0 (by decide) (by decide)⟩, (c.xi (by decide) (by decide)).trans v9, v10.ch97 c (by decide) (by decide)⟩) (fun h s M p => by
    obtain ⟨v1, v2, ⟨v3, v4⟩, ⟨v5, v6⟩, ⟨v7, v8⟩, v9⟩ := id M
    obtain ⟨q1, q2⟩ := s_body (d := 994) gg v1 v2 v3 x
    by_cases hx : ∃ D : Nat, (2 ≤ D ∧ D ≤ 4) ∧ x = iN D
    · obtain ⟨D, hD, ex⟩ := hx
      obtain ⟨v, h2, r, c, q⟩ := q2 D hD ex
      have fin : ∀ b' d', BsM h2 b' → DrV h2 d' → bodR s.1 s.2.1.1 x v b' d' → ∃ (h2' : qH) (w : Value) (s' : lwT) (A J : List Nat), (∀ R, qMC 1000 216 (.ref 55 :: [.int x]) h R ↔ R = (some w, h2')) ∧ Ch A J h h2' ∧ (∀ x ∈ A, 56 ≤ x ∧ x < 97) ∧ LMs h2' s' ∧ (∃ r b' d', w = .int r ∧ s' = (b', (d', s.2.1.2), s.2.2) ∧ bodR s.1 s.2.1.1 x r b' d') ∧ LPs s' ∧ s.1.length ≤ s'.1.length := fun b' d' B' dv pr => ⟨h2, .int v, (b', (d', s.2.1.2), s.2.2), _, _, r, c, by decide, ⟨c.sh, B', ⟨dv, v4.ch c (by decide)⟩, ⟨v5.ch c (by decide) (by decide), v6.ch c (by decide) (by decide) (by decide)⟩, ⟨v7.ch c (by decide) (by decide), v8.ch c (by decide) (by decide)⟩, (c.mi (by decide)).trans v9⟩, ⟨v, b', d', rfl, rfl, pr⟩, p, bod_mono pr⟩
      rcases q with ⟨a1, a2, a3, a4⟩ | ⟨a1, a2, a3, a4, a5⟩ | ⟨a1, a2, a3, a4, a5⟩
      · exact fin _ _ a3 a4 (Or.inr ⟨D, ⟨hD, ex⟩, Or.inl ⟨a1, a2, rfl, rfl⟩⟩)
      · exact fin _ _ a4 a5 (Or.inr ⟨D, ⟨hD, ex⟩, Or.inr (Or.inl ⟨a1, a2, a3, rfl, rfl⟩)⟩)
      · exact fin _ _ a4 a5 (Or.inr ⟨D, ⟨hD, ex⟩, Or.inr (Or.inr ⟨a1, a2, a3, rfl, rfl⟩)⟩)
    · exact ⟨h, _, s, [], [], q1 hx, Ch.refl v1, (fun x hx => by cases hx), M, ⟨_, s.1, s.2.1.1, rfl, rfl, Or.inl ⟨hx, rfl, rfl, rfl⟩⟩, p, Nat.le_refl _⟩)
end LAWMAKE

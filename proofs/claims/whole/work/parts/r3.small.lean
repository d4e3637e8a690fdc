/-! ===== THE LAW: calls that change the lists ===== -/
section LAWSMALL
variable {h h' : qH}
theorem RwX.ch {A : List Nat} {J : List (Nat × Nat)} {k : Nat} {r : List Nat} (v : RwX h r) (c : ChX A J k h h') (s : ShX h) (h1 : 42 ∉ A) (h2 : (41, 1) ∉ J) : RwX h' r := ⟨v.1, (c.xi (by decide) h2).trans v.2.1, by rw [c.hi h1 (by decide) (s.lt (by decide))]; exact v.2.2⟩
theorem PaX.ch {A : List Nat} {J : List (Nat × Nat)} {k n : Nat} {ss : List Nat} (v : PaX h n ss) (c : ChX A J k h h') (s : ShX h) (h1 : 40 ∉ A) (h2 : (39, 0) ∉ J) (h3 : (39, 2) ∉ J) : PaX h' n ss := ⟨v.1, v.2.1, (c.xi (by decide) h2).trans v.2.2.1, (c.xi (by decide) h3).trans v.2.2.2.1, by rw [c.hi h1 (by decide) (s.lt (by decide))]; exact v.2.2.2.2⟩
theorem TlV.ch {A J : List Nat} {t : pt4} (v : TlV h t) (c : Ch A J h h') (h1 : 83 ∉ A) : TlV h' t := by unfold TlV; rw [c.hi h1 (by decide)]; exact v
theorem RwV.ch {A J : List Nat} {r : List Nat} (v : RwV h r) (c : Ch A J h h') (h1 : 81 ∉ A) (h2 : 35 ∉ J) : RwV h' r := ⟨v.1, (c.mi h2).trans v.2.1, by rw [c.hi h1 (by decide)]; exact v.2.2⟩
theorem pnt_fun {dr d1 d2 : List pt4} {x y z w v1 v2 : Int32} (a : pntR dr x y z w v1 d1) (b : pntR dr x y z w v2 d2) : v1 = v2 ∧ d1 = d2 := by
  rcases a with ⟨a1, rfl, rfl⟩ | ⟨a1, a2, rfl, rfl⟩ | ⟨a1, a2, rfl, rfl⟩ <;> rcases b with ⟨b1, rfl, rfl⟩ | ⟨b1, b2, rfl, rfl⟩ | ⟨b1, b2, rfl, rfl⟩
  all_goals first | exact ⟨rfl, rfl⟩ | exact absurd b1 a1 | exact absurd a1 b1 | omega
theorem tlt_fun {t t1 t2 : pt4} {x y z w v1 v2 : Int32} (a : tltR t x y z w v1 t1) (b : tltR t x y z w v2 t2) : v1 = v2 ∧ t1 = t2 := by
  rcases a with ⟨a1, rfl, rfl⟩ | ⟨a1, rfl, rfl⟩ <;> rcases b with ⟨b1, rfl, rfl⟩ | ⟨b1, rfl, rfl⟩
  all_goals first | exact ⟨rfl, rfl⟩ | exact absurd b1 a1 | exact absurd a1 b1
theorem call_point (x y z w : Int32) : callP 0 133 214 [.int x, .int y, .int z, .int w] := call_gen (fun s v s' => ∃ r d', v = .int r ∧ s' = (s.1, (d', s.2.1.2), s.2.2) ∧ pntR s.2.1.1 x y z w r d') (fun h s v s' X p ⟨r, d', ev, es, pr⟩ => by
    obtain ⟨s0, ⟨sa, Xb⟩, ⟨v3, v4⟩, ⟨v5, v6⟩, ⟨v7, v8⟩, v9, v10⟩ := id X
    obtain ⟨v1, h1, d1, r1, c, dx, pr1⟩ := x_point (d := 998) s0 v3 x y z w
    obtain ⟨e1, e2⟩ := pnt_fun pr1 pr
    subst e1
    subst e2
    rw [ev, es]
    exact ⟨h1, [18], [(16, 3)], 0, r1, c, by decide, Nat.zero_le _, c.sh, ⟨sa, Xb.ch s0 c (by decide) (by decide) (by decide)⟩, ⟨dx, TlX.ch c s0 (by decide) v4⟩, ⟨v5.ch c s0 (by decide) (by decide), v6.ch c s0 (by decide) (by decide) (by decide)⟩, ⟨v7.ch c s0 (by decide) (by decide), v8.ch c s0 (by decide) (by decide)⟩, (c.xi (by decide) (by decide)).trans v9, v10.ch97 c (by decide) (by decide)⟩) (fun h s M p => by
    obtain ⟨v1, v2, ⟨v3, v4⟩, ⟨v5, v6⟩, ⟨v7, v8⟩, v9⟩ := id M
    obtain ⟨v, h2, d', r, c, dv, pr⟩ := s_point (d := 998) v1 v3 x y z w
    exact ⟨h2, .int v, (s.1, (d', s.2.1.2), s.2.2), [70], [18], r, c, by decide, ⟨c.sh, v2.ch c (by decide) (by decide), ⟨dv, v4.ch c (by decide)⟩, ⟨v5.ch c (by decide) (by decide), v6.ch c (by decide) (by decide) (by decide)⟩, ⟨v7.ch c (by decide) (by decide), v8.ch c (by decide) (by decide)⟩, (c.mi (by decide)).trans v9⟩, ⟨v, d', rfl, rfl, pr⟩, p, Nat.le_refl _⟩)
theorem call_wipe : callP 0 134 215 [] := call_gen (fun s v s' => v = .int (iN s.2.1.1.length) ∧ s' = (s.1, ([], s.2.1.2), s.2.2)) (fun h s v s' X p ⟨ev, es⟩ => by
    obtain ⟨s0, ⟨sa, Xb⟩, ⟨v3, v4⟩, ⟨v5, v6⟩, ⟨v7, v8⟩, v9, v10⟩ := id X
    obtain ⟨h1, r1, c, dx⟩ := x_wipe (d := 999) s0 v3
    rw [ev, es]
    exact ⟨h1, [], [(16, 3)], 0, r1, c, (fun x hx => by cases hx), Nat.zero_le _, c.sh, ⟨sa, Xb.ch s0 c (fun x hx => by cases hx) (fun z => by cases z) (by decide)⟩, ⟨dx, TlX.ch c s0 (fun z => by cases z) v4⟩, ⟨v5.ch c s0 (fun z => by cases z) (by decide), v6.ch c s0 (fun z => by cases z) (by decide) (by decide)⟩, ⟨v7.ch c s0 (fun z => by cases z) (by decide), v8.ch c s0 (fun z => by cases z) (by decide)⟩, (c.xi (by decide) (by decide)).trans v9, v10.ch97 c (by decide) (fun x hx => by cases hx)⟩) (fun h s M p => by
    obtain ⟨v1, v2, ⟨v3, v4⟩, ⟨v5, v6⟩, ⟨v7, v8⟩, v9⟩ := id M
    obtain ⟨h2, r, c, dv⟩ := s_wipe (d := 999) v1 v3
    exact ⟨h2, _, (s.1, ([], s.2.1.2), s.2.2), [], [18], r, c, (fun x hx => by cases hx), ⟨c.sh, v2.ch c (fun _ _ z => by cases z) (by decide), ⟨dv, v4.ch c (fun z => by cases z)⟩, ⟨v5.ch c (fun z => by cases z) (by decide), v6.ch c (fun z => by cases z) (by decide) (by decide)⟩, ⟨v7.ch c (fun z => by cases z) (by decide), v8.ch c (fun z => by cases z) (by decide)⟩, (c.mi (by decide)).trans v9⟩, ⟨rfl, rfl⟩, p, Nat.le_refl _⟩)
theorem call_tilt (x y z w : Int32) : callP 0 161 272 [.int x, .int y, .int z, .int w] := call_gen (fun s v s' => ∃ r t', v = .int r ∧ s' = (s.1, (s.2.1.1, t'), s.2.2) ∧ tltR s.2.1.2 x y z w r t') (fun h s v s' X p ⟨r, d', ev, es, pr⟩ => by
    obtain ⟨s0, ⟨sa, Xb⟩, ⟨v3, v4⟩, ⟨v5, v6⟩, ⟨v7, v8⟩, v9, v10⟩ := id X
    obtain ⟨v1, h1, d1, r1, c, tx, pr1⟩ := x_tilt (d := 998) s0 v4 x y z w
    obtain ⟨e1, e2⟩ := tlt_fun pr1 pr
    subst e1
    subst e2
    rw [ev, es]
    exact ⟨h1, [44], [], 0, r1, c, by decide, Nat.zero_le _, c.sh, ⟨sa, Xb.ch s0 c (by decide) (by decide) (fun z => by cases z)⟩, ⟨v3.ch c s0 (by decide) (fun z => by cases z), tx⟩, ⟨v5.ch c s0 (by decide) (fun z => by cases z), v6.ch c s0 (by decide) (fun z => by cases z) (fun z => by cases z)⟩, ⟨v7.ch c s0 (by decide) (fun z => by cases z), v8.ch c s0 (by decide) (fun z => by cases z)⟩, (c.xi (by decide) (fun z => by cases z)).trans v9, v10.ch97 c (fun z => by cases z) (by decide)⟩) (fun h s M p => by
    obtain ⟨v1, v2, ⟨v3, v4⟩, ⟨v5, v6⟩, ⟨v7, v8⟩, v9⟩ := id M
    obtain ⟨v, h2, d', r, c, tv, pr⟩ := s_tilt (d := 998) v1 v4 x y z w
    exact ⟨h2, .int v, (s.1, (s.2.1.1, d'), s.2.2), [83], [], r, c, by decide, ⟨c.sh, v2.ch c (by decide) (fun z => by cases z), ⟨v3.ch c (by decide) (fun z => by cases z), tv⟩, ⟨v5.ch c (by decide) (fun z => by cases z), v6.ch c (by decide) (fun z => by cases z) (fun z => by cases z)⟩, ⟨v7.ch c (by decide) (fun z => by cases z), v8.ch c (by decide) (fun z => by cases z)⟩, (c.mi (fun z => by cases z)).trans v9⟩, ⟨v, d', rfl, rfl, pr⟩, p, Nat.le_refl _⟩)
end LAWSMALL

/-! ===== THE LAW: cut, slice, clear, row, pattern, feed, claim ===== -/
section LAWLISTS
theorem whl_mono {bs bs' : List bdy} {ps : List frac} {w D : Nat} {v : Int32} (p : whlR bs ps w D v bs') : bs.length ≤ bs'.length := by
  unfold whlR at p
  rcases p with ⟨-, -, e⟩ | ⟨-, ⟨-, -, e⟩ | ⟨-, ⟨-, -, e⟩ | ⟨-, -, e⟩⟩⟩
  all_goals rw [e]
  all_goals first | exact Nat.le_refl _ | (rw [List.length_append]; exact Nat.le_add_right _ _)
theorem call_cut (x x0 x1 x2 x3 y : Int32) : callP 0 136 222 [.int x, .int x0, .int x1, .int x2, .int x3, .int y] := call_bs (fun bs v bs' => cutR bs x x0 x1 x2 x3 y v bs') (fun bs v bs' p => by
    unfold cutR at p
    rcases p with ⟨-, -, e⟩ | ⟨i, -, ⟨-, -, e⟩ | ⟨-, ⟨-, -, e⟩ | ⟨-, p⟩⟩⟩
    · rw [e]; exact Nat.le_refl _
    · rw [e]; exact Nat.le_refl _
    · rw [e]; exact Nat.le_refl _
    · exact whl_mono p) (fun h bs sa v bs' s X p => x_cut (d := 991) s X p) (fun h bs s B => s_cut (d := 992) s B x x0 x1 x2 x3 y) (by decide) (by decide) (by decide) (by decide) (by decide) (by decide)
theorem call_slice (x z y : Int32) : callP 0 137 223 [.int x, .int z, .int y] := call_bs (fun bs v bs' => slcR bs x z y v bs') (fun bs v bs' p => by
    unfold slcR at p
    rcases p with ⟨-, -, e⟩ | ⟨i, -, ⟨-, -, e⟩ | ⟨k, -, ⟨-, -, e⟩ | ⟨-, p⟩⟩⟩
    · rw [e]; exact Nat.le_refl _
    · rw [e]; exact Nat.le_refl _
    · rw [e]; exact Nat.le_refl _
    · exact whl_mono p) (fun h bs sa v bs' s X p => x_slice (d := 991) s X p) (fun h bs s B => s_slice (d := 992) s B x z y) (by decide) (by decide) (by decide) (by decide) (by decide) (by decide)
theorem row_fun {r r1 r2 : List Nat} {x v1 v2 : Int32} (a : rowR r x v1 r1) (b : rowR r x v2 r2) : v1 = v2 ∧ r1 = r2 := by
  rcases a with ⟨a1, rfl, rfl⟩ | ⟨k, ⟨k1, k2⟩, a⟩ <;> rcases b with ⟨b1, rfl, rfl⟩ | ⟨j, ⟨j1, j2⟩, b⟩
  · exact ⟨rfl, rfl⟩
  · exact absurd ⟨j, j1, j2⟩ a1
  · exact absurd ⟨k, k1, k2⟩ b1
  · have e : k = j := iN_inj (by omega) (by omega) (k2.symm.trans j2)
    subst e
    rcases a with ⟨a1, rfl, rfl⟩ | ⟨a1, a2, rfl, rfl⟩ | ⟨a1, a2, rfl, rfl⟩ <;> rcases b with ⟨b1, rfl, rfl⟩ | ⟨b1, b2, rfl, rfl⟩ | ⟨b1, b2, rfl, rfl⟩
    all_goals first | exact ⟨rfl, rfl⟩ | exact absurd b1 a1 | exact absurd a1 b1 | omega
theorem nd_snoc {l : List Nat} {k : Nat} (h : l.Nodup) (hk : k ∉ l) : (l ++ [k]).Nodup := by
  rw [List.nodup_append]
  refine ⟨h, List.nodup_cons.mpr ⟨List.not_mem_nil, List.nodup_nil⟩, fun a ha b hb => ?_⟩
  rw [List.mem_singleton] at hb
  intro e
  rw [e, hb] at ha
  exact hk ha
theorem row_nd {r r' : List Nat} {x v : Int32} (a : rowR r x v r') (h : r.Nodup) : r'.Nodup := by
  rcases a with ⟨-, -, e⟩ | ⟨k, -, ⟨-, -, e⟩ | ⟨-, -, -, e⟩ | ⟨hk, -, -, e⟩⟩
  · rw [e]; exact h
  · rw [e]; exact h
  · rw [e]; exact h
  · rw [e]; exact nd_snoc h hk
theorem call_row (x : Int32) : callP 0 155 260 [.int x] := call_gen (fun s v s' => ∃ r d', v = .int r ∧ s' = (s.1, s.2.1, (d', s.2.2.1.2), s.2.2.2) ∧ rowR s.2.2.1.1 x r d') (fun h s v s' X p ⟨r, d', ev, es, pr⟩ => by
    obtain ⟨s0, ⟨sa, Xb⟩, ⟨v3, v4⟩, ⟨v5, v6⟩, ⟨v7, v8⟩, v9, v10⟩ := id X
    obtain ⟨v1, h1, d1, r1, c, dx, pr1⟩ := x_row (d := 998) s0 v5 x
    obtain ⟨e1, e2⟩ := row_fun pr1 pr
    subst e1
    subst e2
    rw [ev, es]
    exact ⟨h1, [42], [(41, 1)], 0, r1, c, by decide, Nat.zero_le _, c.sh, ⟨sa, Xb.ch s0 c (by decide) (by decide) (by decide)⟩, ⟨v3.ch c s0 (by decide) (by decide), TlX.ch c s0 (by decide) v4⟩, ⟨dx, v6.ch c s0 (by decide) (by decide) (by decide)⟩, ⟨v7.ch c s0 (by decide) (by decide), v8.ch c s0 (by decide) (by decide)⟩, (c.xi (by decide) (by decide)).trans v9, v10.ch97 c (by decide) (by decide)⟩) (fun h s M p => by
    obtain ⟨v1, v2, ⟨v3, v4⟩, ⟨v5, v6⟩, ⟨v7, v8⟩, v9⟩ := id M
    obtain ⟨v, h2, d', r, c, dv, pr⟩ := s_row (d := 998) v1 v5 x
    exact ⟨h2, .int v, (s.1, s.2.1, (d', s.2.2.1.2), s.2.2.2), [81], [35], r, c, by decide, ⟨c.sh, v2.ch c (by decide) (by decide), ⟨v3.ch c (by decide) (by decide), v4.ch c (by decide)⟩, ⟨dv, v6.ch c (by decide) (by decide) (by decide)⟩, ⟨v7.ch c (by decide) (by decide), v8.ch c (by decide) (by decide)⟩, (c.mi (by decide)).trans v9⟩, ⟨v, d', rfl, rfl, pr⟩, ⟨row_nd pr p.1, p.2⟩, Nat.le_refl _⟩)
theorem call_clear : callP 0 156 261 [] := call_gen (fun s v s' => v = .int (iN s.2.2.1.1.length) ∧ s' = (s.1, s.2.1, ([], s.2.2.1.2), s.2.2.2)) (fun h s v s' X p ⟨ev, es⟩ => by
    obtain ⟨s0, ⟨sa, Xb⟩, ⟨v3, v4⟩, ⟨v5, v6⟩, ⟨v7, v8⟩, v9, v10⟩ := id X
    obtain ⟨h1, r1, c, dx⟩ := x_clear (d := 999) s0 v5
    rw [ev, es]
    exact ⟨h1, [], [(41, 1)], 0, r1, c, (fun x hx => by cases hx), Nat.zero_le _, c.sh, ⟨sa, Xb.ch s0 c (fun x hx => by cases hx) (fun z => by cases z) (by decide)⟩, ⟨v3.ch c s0 (fun z => by cases z) (by decide), TlX.ch c s0 (fun z => by cases z) v4⟩, ⟨dx, v6.ch c s0 (fun z => by cases z) (by decide) (by decide)⟩, ⟨v7.ch c s0 (fun z => by cases z) (by decide), v8.ch c s0 (fun z => by cases z) (by decide)⟩, (c.xi (by decide) (by decide)).trans v9, v10.ch97 c (by decide) (fun x hx => by cases hx)⟩) (fun h s M p => by
    obtain ⟨v1, v2, ⟨v3, v4⟩, ⟨v5, v6⟩, ⟨v7, v8⟩, v9⟩ := id M
    obtain ⟨h2, r, c, dv⟩ := s_clear (d := 999) v1 v5
    exact ⟨h2, _, (s.1, s.2.1, ([], s.2.2.1.2), s.2.2.2), [], [35], r, c, (fun x hx => by cases hx), ⟨c.sh, v2.ch c (fun _ _ z => by cases z) (by decide), ⟨v3.ch c (fun z => by cases z) (by decide), v4.ch c (fun z => by cases z)⟩, ⟨dv, v6.ch c (fun z => by cases z) (by decide) (by decide)⟩, ⟨v7.ch c (fun z => by cases z) (by decide), v8.ch c (fun z => by cases z) (by decide)⟩, (c.mi (by decide)).trans v9⟩, ⟨rfl, rfl⟩, ⟨List.nodup_nil, p.2⟩, Nat.le_refl _⟩)
theorem call_feed (x : Int32) (b : Int64) : callP 0 171 291 [.int x, .long b] := call_gen (fun s v s' => ∃ r d', v = .int r ∧ s' = (s.1, s.2.1, s.2.2.1, s.2.2.2.1, d', s.2.2.2.2.2) ∧ fedR s.2.2.2.2.1 x b r d') (fun h s v s' X p ⟨r, d', ev, es, pr⟩ => by
    obtain ⟨s0, ⟨sa, Xb⟩, ⟨v3, v4⟩, ⟨v5, v6⟩, ⟨v7, v8⟩, v9, v10⟩ := id X
    obtain ⟨h1, r1, c, dx⟩ := x_feed (d := 998) s0 v8 pr
    rw [ev, es]
    exact ⟨h1, [51], [(50, 1)], 0, r1, c, by decide, Nat.zero_le _, c.sh, ⟨sa, Xb.ch s0 c (by decide) (by decide) (by decide)⟩, ⟨v3.ch c s0 (by decide) (by decide), TlX.ch c s0 (by decide) v4⟩, ⟨v5.ch c s0 (by decide) (by decide), v6.ch c s0 (by decide) (by decide) (by decide)⟩, ⟨v7.ch c s0 (by decide) (by decide), dx⟩, (c.xi (by decide) (by decide)).trans v9, v10.ch97 c (by decide) (by decide)⟩) (fun h s M p => by
    obtain ⟨v1, v2, ⟨v3, v4⟩, ⟨v5, v6⟩, ⟨v7, v8⟩, v9⟩ := id M
    obtain ⟨h2, v, d', r, c, dv, pr⟩ := s_feed (d := 998) (x := x) (b := b) v1 v8
    exact ⟨h2, .int v, (s.1, s.2.1, s.2.2.1, s.2.2.2.1, d', s.2.2.2.2.2), [93], [51], r, c, by decide, ⟨c.sh, v2.ch c (by decide) (by decide), ⟨v3.ch c (by decide) (by decide), v4.ch c (by decide)⟩, ⟨v5.ch c (by decide) (by decide), v6.ch c (by decide) (by decide) (by decide)⟩, ⟨v7.ch c (by decide) (by decide), dv⟩, (c.mi (by decide)).trans v9⟩, ⟨v, d', rfl, rfl, pr⟩, p, Nat.le_refl _⟩)
theorem call_claim (x : Int32) : callP 0 174 307 [.int x] := call_qu (AX := []) (JX := []) (AM := []) (JM := []) (fun s v => ∃ r, v = .int r ∧ claR s.1 s.2.2.2.1 x r) (fun h s v X p e => by
    obtain ⟨sa, Xb⟩ := X.2.1
    obtain ⟨r, ev, pr⟩ := e
    exact ⟨h, fun R => by rw [ev]; exact x_claim (d := 997) X.1 Xb X.2.2.2.2.1.1 p.2.2 pr, ChX.refl X.1⟩) (fun h s M p => by
    obtain ⟨r, r2, pr⟩ := s_claim (d := 997) (x := x) M.1 M.2.1 M.2.2.2.2.1.1 p.2.2
    exact ⟨h, _, r2, Ch.refl M.1, r, rfl, pr⟩) (by decide) (by decide) (by decide) (by decide) (by decide) (by decide)
end LAWLISTS

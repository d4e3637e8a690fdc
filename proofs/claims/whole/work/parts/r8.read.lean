/-! ===== THE LAW: read ===== -/
section LAWREAD
theorem ex_cm : ∀ (l : List cls4) (bs : List bdy) (cm : List clm), (∀ x ∈ l, clG x) → cmG cm → cmG (exRun l bs cm).2.2
  | [], bs, cm, _, g => g
  | .inr c :: l, bs, cm, hl, g => by
    rw [exRun_c]
    exact ex_cm l bs (cm ++ [c]) (fun x hx => hl x (List.mem_cons_of_mem _ hx)) fun x hx => by
      rcases List.mem_append.mp hx with z | z
      · exact g x z
      · rw [List.mem_singleton] at z
        rw [z]; exact hl _ List.mem_cons_self
  | .inl (k, n, m) :: l, bs, cm, hl, g => by
    by_cases z : bs.length = 24
    · rw [exRun_f z]; exact g
    · rw [exRun_b z]
      exact ex_cm l _ cm (fun x hx => hl x (List.mem_cons_of_mem _ hx)) g
theorem red_ok {tx : List Nat} {bs bs' : List bdy} {cm cm' : List clm} {v ft : Int32} (h8 : cm.length ≤ 8) (p : redR tx bs cm v bs' cm' ft) (g : cmG cm) : bs.length ≤ bs'.length ∧ cmG cm' := by
  unfold redR at p
  cases hq : pAll tx (tx.length + 1) 0 cm.length with
  | inl e =>
    rw [hq] at p
    obtain ⟨k, q⟩ := e
    obtain ⟨-, e1, e2, -⟩ := p
    rw [e1, e2]
    exact ⟨Nat.le_refl _, g⟩
  | inr l =>
    rw [hq] at p
    obtain ⟨-, e1, e2, -⟩ := p
    rw [e1, e2]
    exact ⟨ex_mono _ _ _, ex_cm l bs cm (pAll_ok _ _ _ l (Nat.zero_le _) h8 hq).1 g⟩
theorem call_read (gg : geo) : callP 0 172 304 [] := call_gen (fun s v s' => ∃ r b' c' f', v = .int r ∧ s' = (b', s.2.1, s.2.2.1, c', [], f') ∧ redR s.2.2.2.2.1 s.1 s.2.2.2.1 r b' c' f') (fun h s v s' X p ⟨r, b', c', f', ev, es, pr⟩ => by
    obtain ⟨s0, ⟨sa, Xb⟩, ⟨v3, v4⟩, ⟨v5, v6⟩, ⟨v7, v8⟩, v9, v10⟩ := id X
    obtain ⟨h1, sa', r1, c, X', cx, tx, fx⟩ := x_read (d := 991) s0 Xb v7 v8 pr
    rw [ev, es]
    exact ⟨h1, _, _, _, r1, c, by decide, by dsimp only; omega, c.sh, ⟨sa', X'⟩, ⟨v3.ch c s0 (by decide) (by decide), TlX.ch c s0 (by decide) v4⟩, ⟨v5.ch c s0 (by decide) (by decide), v6.ch c s0 (by decide) (by decide) (by decide)⟩, ⟨cx, tx⟩, fx, v10.ch97 c (by decide) (by decide)⟩) (fun h s M p => by
    obtain ⟨v1, v2, ⟨v3, v4⟩, ⟨v5, v6⟩, ⟨v7, v8⟩, v9⟩ := id M
    obtain ⟨r, h2, b', c', r2, c, tv, B', cv, pr, e70, e18⟩ := s_read (d := 993) gg v1 v8 v2 v7
    obtain ⟨o1, o2⟩ := red_ok v7.1.1 pr p.2.2
    exact ⟨h2, .int r, (b', s.2.1, s.2.2.1, c', [], mi h2 52), _, _, r2, c, by decide, ⟨c.sh, B', ⟨⟨v3.1, e18.trans v3.2.1, by rw [e70]; exact v3.2.2⟩, v4.ch c (by decide)⟩, ⟨v5.ch c (by decide) (by decide), v6.ch c (by decide) (by decide) (by decide)⟩, ⟨cv, tv⟩, rfl⟩, ⟨r, b', c', _, rfl, rfl, pr⟩, ⟨p.1, p.2.1, o2⟩, o1⟩)
end LAWREAD

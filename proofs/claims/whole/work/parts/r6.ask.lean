/-! ===== THE LAW: questions ===== -/
section LAWASK
theorem call_lies (x y z w : Int32) : callP 0 147 239 [.int x, .int y, .int z, .int w] := call_qu (AX := []) (JX := []) (AM := []) (JM := []) (fun s v => ∃ r, v = .int r ∧ lieR s.1 x y z w r) (fun h s v X p ⟨r, ev, pr⟩ => by
    obtain ⟨sa, Xb⟩ := X.2.1
    exact ⟨h, fun R => by rw [ev]; exact x_lies (d := 997) X.1 Xb pr, ChX.refl X.1⟩) (fun h s M p => by
    obtain ⟨r, r2, pr⟩ := s_lies (d := 997) M.1 M.2.1 x y z w
    exact ⟨h, _, r2, Ch.refl M.1, r, rfl, pr⟩) (by decide) (by decide) (by decide) (by decide) (by decide) (by decide)
theorem call_h (x y : Int32) : callP 0 148 241 [.int x, .int y] := call_qu (AX := []) (JX := []) (AM := []) (JM := []) (fun s v => ∃ r, v = .int r ∧ hR s.1 x y r) (fun h s v X p ⟨r, ev, pr⟩ => by
    obtain ⟨sa, Xb⟩ := X.2.1
    exact ⟨h, fun R => by rw [ev]; exact x_h (d := 997) X.1 Xb pr, ChX.refl X.1⟩) (fun h s M p => by
    obtain ⟨r, r2, pr⟩ := s_h (d := 996) (x := x) (y := y) M.1 M.2.1
    exact ⟨h, _, r2, Ch.refl M.1, r, rfl, pr⟩) (by decide) (by decide) (by decide) (by decide) (by decide) (by decide)
theorem call_sum (x : Int32) : callP 0 149 242 [.int x] := call_qu (AX := []) (JX := []) (AM := []) (JM := []) (fun s v => ∃ r, v = .int r ∧ smR s.1 x r) (fun h s v X p ⟨r, ev, pr⟩ => by
    obtain ⟨sa, Xb⟩ := X.2.1
    exact ⟨h, fun R => by rw [ev]; exact x_sum (d := 998) X.1 Xb pr, ChX.refl X.1⟩) (fun h s M p => by
    obtain ⟨q1, q2⟩ := s_sum (d := 997) M.1 M.2.1 x
    by_cases hx : ∃ i, i < s.1.length ∧ x = iN i
    · obtain ⟨i, hi', ex⟩ := hx
      exact ⟨h, _, q2 i hi' ex, Ch.refl M.1, _, rfl, Or.inr ⟨i, ⟨hi', ex⟩, rfl⟩⟩
    · exact ⟨h, _, q1 hx, Ch.refl M.1, _, rfl, Or.inl ⟨hx, rfl⟩⟩) (by decide) (by decide) (by decide) (by decide) (by decide) (by decide)
theorem call_meets (x : Int32) : callP 0 157 264 [.int x] := call_qu (AX := []) (JX := []) (AM := []) (JM := []) (fun s v => ∃ r, v = .int r ∧ mtsR s.1 s.2.2.1.1 x r) (fun h s v X p ⟨r, ev, pr⟩ => by
    obtain ⟨sa, Xb⟩ := X.2.1
    exact ⟨h, fun R => by rw [ev]; exact x_meets (d := 995) X.1 Xb X.2.2.2.1.1 pr, ChX.refl X.1⟩) (fun h s M p => by
    obtain ⟨r, r2, pr⟩ := s_meets (d := 995) M.1 M.2.1 M.2.2.2.1.1 x
    exact ⟨h, _, r2, Ch.refl M.1, r, rfl, pr⟩) (by decide) (by decide) (by decide) (by decide) (by decide) (by decide)
theorem call_walk (x y z : Int32) : callP 0 159 270 [.int x, .int y, .int z] := call_qu (AX := []) (JX := []) (fun s v => ∃ r, v = .int r ∧ wlkR s.1 x y z r) (fun h s v X p ⟨r, ev, pr⟩ => by
    obtain ⟨sa, Xb⟩ := X.2.1
    exact ⟨h, fun R => by rw [ev]; exact x_walk (d := 996) X.1 Xb pr, ChX.refl X.1⟩) (fun h s M p => by
    obtain ⟨r, h2, r2, c, pr⟩ := s_walk (d := 996) M.1 M.2.1 x y z
    exact ⟨h2, _, r2, c, r, rfl, pr⟩) (by decide) (by decide) (by decide) (by decide) (by decide) (by decide)
theorem call_far (x : Int32) : callP 0 160 271 [.int x] := call_qu (AX := []) (JX := []) (fun s v => ∃ r, v = .int r ∧ farR s.1 x r) (fun h s v X p ⟨r, ev, pr⟩ => by
    obtain ⟨sa, Xb⟩ := X.2.1
    exact ⟨h, fun R => by rw [ev]; exact x_far (d := 996) X.1 Xb pr, ChX.refl X.1⟩) (fun h s M p => by
    obtain ⟨r, h2, r2, c, pr⟩ := s_far (d := 996) M.1 M.2.1 x
    exact ⟨h2, _, r2, c, r, rfl, pr⟩) (by decide) (by decide) (by decide) (by decide) (by decide) (by decide)
theorem call_up (x y z : Int32) : callP 0 162 274 [.int x, .int y, .int z] := call_qu (fun s v => ∃ r, v = .int r ∧ upR s.1 s.2.1.2 x y z r) (fun h s v X p ⟨r, ev, pr⟩ => by
    obtain ⟨sa, Xb⟩ := X.2.1
    obtain ⟨h1, r1, c⟩ := x_up (d := 995) X.1 Xb X.2.2.1.2 pr
    exact ⟨h1, by rw [ev]; exact r1, c⟩) (fun h s M p => by
    obtain ⟨r, h2, r2, c, pr⟩ := s_up (d := 996) M.1 M.2.1 M.2.2.1.2 x y z
    exact ⟨h2, _, r2, c, r, rfl, pr⟩) (by decide) (by decide) (by decide) (by decide) (by decide) (by decide)
theorem call_ups (x y z : Int32) : callP 1 163 275 [.int x, .int y, .int z] := call_qu (fun s v => ∃ r, v = .long r ∧ upsR s.1 s.2.1.2 x y z r) (fun h s v X p ⟨r, ev, pr⟩ => by
    obtain ⟨sa, Xb⟩ := X.2.1
    obtain ⟨h1, r1, c⟩ := x_ups (d := 995) X.1 Xb X.2.2.1.2 pr
    exact ⟨h1, by rw [ev]; exact r1, c⟩) (fun h s M p => by
    obtain ⟨r, h2, r2, c, pr⟩ := s_ups (d := 996) M.1 M.2.1 M.2.2.1.2 x y z
    exact ⟨h2, _, r2, c, r, rfl, pr⟩) (by decide) (by decide) (by decide) (by decide) (by decide) (by decide)
theorem call_where (x : Int32) : callP 0 165 280 [.int x] := call_qu (AX := []) (JX := []) (AM := []) (JM := []) (fun s v => ∃ r, v = .int r ∧ whrR s.1 s.2.1.1 x r) (fun h s v X p ⟨r, ev, pr⟩ => by
    obtain ⟨sa, Xb⟩ := X.2.1
    exact ⟨h, fun R => by rw [ev]; exact x_where (d := 996) X.1 Xb X.2.2.1.1 pr, ChX.refl X.1⟩) (fun h s M p => by
    obtain ⟨r, r2, pr⟩ := s_where (d := 996) M.1 M.2.1 M.2.2.1.1 x
    exact ⟨h, _, r2, Ch.refl M.1, r, rfl, pr⟩) (by decide) (by decide) (by decide) (by decide) (by decide) (by decide)
theorem call_parted (x : Int32) : callP 0 166 281 [.int x] := call_qu (AX := []) (JX := []) (AM := []) (JM := []) (fun s v => ∃ r, v = .int r ∧ prtR s.1 s.2.1.1 x r) (fun h s v X p ⟨r, ev, pr⟩ => by
    obtain ⟨sa, Xb⟩ := X.2.1
    exact ⟨h, fun R => by rw [ev]; exact x_parted (d := 997) X.1 Xb X.2.2.1.1 pr, ChX.refl X.1⟩) (fun h s M p => by
    obtain ⟨r, r2, pr⟩ := s_parted (d := 996) M.1 M.2.1 M.2.2.1.1 x
    exact ⟨h, _, r2, Ch.refl M.1, r, rfl, pr⟩) (by decide) (by decide) (by decide) (by decide) (by decide) (by decide)
theorem call_holds (x y : Int32) : callP 0 167 282 [.int x, .int y] := call_qu (AX := []) (JX := []) (AM := []) (JM := []) (fun s v => ∃ r, v = .int r ∧ hldR s.1 x y r) (fun h s v X p ⟨r, ev, pr⟩ => by
    obtain ⟨sa, Xb⟩ := X.2.1
    exact ⟨h, fun R => by rw [ev]; exact x_holds (d := 997) X.1 Xb pr, ChX.refl X.1⟩) (fun h s M p => by
    obtain ⟨r, r2, pr⟩ := s_holds (d := 996) M.1 M.2.1 x y
    exact ⟨h, _, r2, Ch.refl M.1, r, rfl, pr⟩) (by decide) (by decide) (by decide) (by decide) (by decide) (by decide)
end LAWASK

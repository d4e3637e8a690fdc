/-! ===== VIEWS OF THE CLASS'S CELLS (by program: wip/gen/mkx.py) ===== -/
def XOs : List (Nat × Nat) := [(16, 10), (19, 2), (27, 7), (30, 4), (39, 5), (41, 1), (43, 9), (46, 3), (50, 6), (53, 0)]
def XO : List Nat := [16, 19, 27, 30, 39, 41, 43, 46, 50, 53]
def XIs : List (Nat × Nat) := [(18, 64), (20, 64), (21, 104), (25, 104), (26, 208), (28, 16), (31, 104), (32, 256), (33, 256), (34, 16), (35, 16), (36, 104), (37, 17), (38, 16), (40, 24), (42, 104), (44, 4), (47, 4), (48, 4), (49, 4), (51, 160), (52, 135), (54, 32)]
def XLs : List (Nat × Nat) := [(22, 520), (23, 16), (24, 5), (29, 4), (45, 16)]
def XFs : List (Nat × Nat × Nat) := [(16, 0, 17), (16, 2, 18), (16, 4, 19), (16, 5, 27), (16, 6, 30), (16, 7, 39), (16, 8, 41), (16, 9, 43), (16, 10, 46), (16, 11, 50), (16, 12, 53), (19, 0, 20), (19, 4, 21), (19, 5, 22), (19, 7, 23), (19, 8, 24), (19, 9, 25), (19, 10, 26), (27, 1, 28), (27, 4, 29), (30, 0, 31), (30, 3, 32), (30, 4, 33), (30, 7, 34), (30, 8, 35), (30, 9, 36), (30, 10, 37), (30, 11, 38), (39, 1, 40), (41, 0, 42), (43, 0, 44), (43, 1, 45), (46, 3, 47), (46, 4, 48), (46, 5, 49), (50, 0, 51), (50, 4, 52), (53, 0, 54)]
def XJs : List (Nat × Nat) := [(16, 1), (16, 3), (19, 1), (19, 2), (19, 3), (19, 6), (27, 2), (30, 1), (30, 2), (30, 6), (39, 0), (39, 2), (41, 1), (43, 2), (43, 3), (46, 1), (46, 2), (50, 1), (50, 2), (50, 3), (50, 5), (50, 6), (50, 7), (53, 1)]
def XRs : List (Nat × Nat) := [(27, 0), (30, 5), (43, 4), (46, 0)]
/-- the class's cells are of their kinds -/
def ShX (h : qH) : Prop := (∀ q ∈ XOs, kO h q.1 q.2) ∧ (∀ q ∈ XIs, kI h q.1 q.2) ∧ (∀ q ∈ XLs, kL h q.1 q.2) ∧ kR h 2 17 24 ∧ (∀ q ∈ XFs, hf h q.1 q.2.1 = .ref q.2.2) ∧ (∀ q ∈ XJs, ∃ x, hf h q.1 q.2 = .int x) ∧ (∃ x, hf h 27 3 = .long x) ∧ 97 ≤ h.2.1
/-- an int field; a field with another value -/
def xi (h : qH) (a j : Nat) : Int32 := vI (hf h a j)
def xV (h : qH) (a j : Nat) (v : Value) : qH := sF h a (qfu (hf h a) j v)
theorem hf_xV {h : qH} {a b j k : Nat} {v : Value} : hf (xV h a j v) b k = if b = a ∧ k = j then v else hf h b k := by
  unfold xV
  rw [hf_sF]
  by_cases e : b = a
  · subst e
    rw [if_pos rfl]
    show (if k = j then v else hf h b k) = _
    by_cases e2 : k = j
    · rw [if_pos e2, if_pos ⟨rfl, e2⟩]
    · rw [if_neg e2, if_neg (fun z => e2 z.2)]
  · rw [if_neg e, if_neg (fun z => e z.1)]
theorem xi_xV {h : qH} {a b j k : Nat} {x : Int32} : xi (xV h a j (.int x)) b k = if b = a ∧ k = j then x else xi h b k := by
  unfold xi
  rw [hf_xV]
  by_cases e : b = a ∧ k = j
  · rw [if_pos e, if_pos e]; rfl
  · rw [if_neg e, if_neg e]
theorem hi_xV {h : qH} {a b j ci : Nat} {v : Value} (k : kO h a ci) : hi (xV h a j v) b = hi h b := hi_sF k
theorem hl_xV {h : qH} {a b j ci : Nat} {v : Value} (k : kO h a ci) : hl (xV h a j v) b = hl h b := hl_sF k
theorem hr_sI {h : qH} {a b n : Nat} {g : Nat → Int32} (k : kI h a n) : hr (sI h a g) b = hr h b := by
  unfold hr; rw [at_sI]
  by_cases e : b = a
  · rw [if_pos e, e, k.val]
  · rw [if_neg e]
theorem ci_XO : ∀ q ∈ XOs, q.1 ∈ XO := by decide
/-- what a run of the class may change: the rows A, the fields J; new cells behind the old ones, k at most -/
def ChX (A : List Nat) (J : List (Nat × Nat)) (k : Nat) (h h' : qH) : Prop := (ShX h' ∧ h.2.1 ≤ h'.2.1 ∧ h'.2.1 ≤ h.2.1 + k ∧ h'.2.2 ≤ h.2.2 + 600 * k) ∧ (∀ b, b ∉ A → b ∉ XO → b < h.2.1 → h'.1 b = h.1 b) ∧ (h'.1 0 = h.1 0) ∧ ∀ a, a ∈ XO → ∀ j, (a, j) ∉ J → hf h' a j = hf h a j
section CHX
variable {A : List Nat} {J : List (Nat × Nat)} {h h1 h' h2 : qH} {k m : Nat}
theorem ChX.refl (s : ShX h) : ChX A J k h h := ⟨⟨s, Nat.le_refl _, by omega, by omega⟩, fun _ _ _ _ => rfl, rfl, fun _ _ _ _ => rfl⟩
theorem ChX.trans (a : ChX A J k h h') (b : ChX A J m h' h2) : ChX A J (k + m) h h2 := by
  obtain ⟨⟨a1, a2, a3, a4⟩, a5, a6, a7⟩ := a
  obtain ⟨⟨b1, b2, b3, b4⟩, b5, b6, b7⟩ := b
  exact ⟨⟨b1, by omega, by omega, by omega⟩, fun x h1 h2 h3 => (b5 x h1 h2 (by omega)).trans (a5 x h1 h2 h3), b6.trans a6, fun x h1 j hj => (b7 x h1 j hj).trans (a7 x h1 j hj)⟩
theorem ChX.trans0 (a : ChX A J 0 h h') (b : ChX A J 0 h' h2) : ChX A J 0 h h2 := a.trans b
theorem ChX.mono {A' : List Nat} {J' : List (Nat × Nat)} {k' : Nat} (a : ChX A J k h h') (hA : ∀ x ∈ A, x ∈ A') (hJ : ∀ x ∈ J, x ∈ J') (hk : k ≤ k') : ChX A' J' k' h h' := by
  obtain ⟨⟨a1, a2, a3, a4⟩, a5, a6, a7⟩ := a
  exact ⟨⟨a1, a2, by omega, by omega⟩, fun x h1 h2 h3 => a5 x (fun z => h1 (hA x z)) h2 h3, a6, fun x h1 j hj => a7 x h1 j (fun z => hj (hJ _ z))⟩
theorem ChX.sh (a : ChX A J k h h') : ShX h' := a.1.1
theorem ChX.at {b : Nat} (a : ChX A J k h h') (hb : b ∉ A) (ho : b ∉ XO) (hlt : b < h.2.1) : h'.1 b = h.1 b := a.2.1 b hb ho hlt
theorem ChX.hi {b : Nat} (a : ChX A J k h h') (hb : b ∉ A) (ho : b ∉ XO) (hlt : b < h.2.1) : hi h' b = hi h b := by
  show _root_.Jvm.Pilot.CBodyCornersLaw_law_r3413_c1cab7.hi h' b = _; unfold _root_.Jvm.Pilot.CBodyCornersLaw_law_r3413_c1cab7.hi; rw [a.at hb ho hlt]
theorem ChX.hl {b : Nat} (a : ChX A J k h h') (hb : b ∉ A) (ho : b ∉ XO) (hlt : b < h.2.1) : hl h' b = hl h b := by
  show _root_.Jvm.Pilot.CBodyCornersLaw_law_r3413_c1cab7.hl h' b = _; unfold _root_.Jvm.Pilot.CBodyCornersLaw_law_r3413_c1cab7.hl; rw [a.at hb ho hlt]
theorem ChX.hr {b : Nat} (a : ChX A J k h h') (hb : b ∉ A) (ho : b ∉ XO) (hlt : b < h.2.1) : hr h' b = hr h b := by
  show _root_.Jvm.Pilot.CBodyCornersLaw_law_r3413_c1cab7.hr h' b = _; unfold _root_.Jvm.Pilot.CBodyCornersLaw_law_r3413_c1cab7.hr; rw [a.at hb ho hlt]
theorem ChX.hf {b j : Nat} (a : ChX A J k h h') (ho : b ∈ XO) (hj : (b, j) ∉ J) : hf h' b j = hf h b j := a.2.2.2 b ho j hj
theorem ChX.xi {b j : Nat} (a : ChX A J k h h') (ho : b ∈ XO) (hj : (b, j) ∉ J) : xi h' b j = xi h b j := by
  show vI _ = vI _; rw [a.hf ho hj]
theorem ShX.lt (s : ShX h) {a : Nat} (ha : a < 97) : a < h.2.1 := Nat.lt_of_lt_of_le ha s.2.2.2.2.2.2.2
theorem ShX.kd (s : ShX h) (e : hKd h h') (f : ∀ a, a ∈ XO → hf h' a = hf h a) : ShX h' := by
  obtain ⟨s1, s2, s3, s4, s5, s6, s7, s8⟩ := s
  obtain ⟨e1, e2, e3, e4, e5⟩ := e
  refine ⟨fun q hq => e5 _ _ (s1 q hq), fun q hq => e2 _ _ (s2 q hq), fun q hq => e3 _ _ (s3 q hq), e4 _ _ _ s4, fun q hq => ?_, fun q hq => ?_, ?_, by rw [e1]; exact s8⟩
  · rw [f q.1 ((by decide : ∀ q ∈ XFs, q.1 ∈ XO) q hq)]; exact s5 q hq
  · rw [f q.1 ((by decide : ∀ q ∈ XJs, q.1 ∈ XO) q hq)]; exact s6 q hq
  · rw [f 27 (by decide)]; exact s7
theorem ChX.rowI {a n : Nat} {g : Nat → Int32} (s : ShX h) (k' : kI h a n) (ha : a ∈ A) (h0 : a ≠ 0) : ChX A J k h (sI h a g) := by
  refine ⟨⟨s.kd (hKd_sI k') (fun b _ => hf_sI k'), Nat.le_refl _, by show h.2.1 ≤ _; omega, by show h.2.2 ≤ _; omega⟩, fun b hb _ _ => ?_, ?_, fun b _ j _ => by rw [hf_sI k']⟩
  · rw [at_sI, if_neg (fun e => hb (by rw [e]; exact ha))]
  · rw [at_sI, if_neg (Ne.symm h0)]
theorem ChX.rowL {a n : Nat} {g : Nat → Int64} (s : ShX h) (k' : kL h a n) (ha : a ∈ A) (h0 : a ≠ 0) : ChX A J k h (sL h a g) := by
  refine ⟨⟨s.kd (hKd_sL k') (fun b _ => hf_sL k'), Nat.le_refl _, by show h.2.1 ≤ _; omega, by show h.2.2 ≤ _; omega⟩, fun b hb _ _ => ?_, ?_, fun b _ j _ => by rw [hf_sL k']⟩
  · rw [at_sL, if_neg (fun e => hb (by rw [e]; exact ha))]
  · rw [at_sL, if_neg (Ne.symm h0)]
/-- a field that may change gets a value of its kind -/
theorem ShX.put {a j ci : Nat} {v : Value} (s : ShX h) (ko : kO h a ci) (h1 : (a, j) ∈ XJs → ∃ x, v = .int x) (h2 : ∀ q ∈ XFs, ¬ (q.1 = a ∧ q.2.1 = j)) (h3 : a = 27 → j = 3 → ∃ x, v = .long x) : ShX (xV h a j v) := by
  obtain ⟨s1, s2, s3, s4, s5, s6, s7, s8⟩ := s
  obtain ⟨e1, e2, e3, e4, e5⟩ := hKd_sF (F := qfu (hf h a) j v) ko
  refine ⟨fun q hq => e5 _ _ (s1 q hq), fun q hq => e2 _ _ (s2 q hq), fun q hq => e3 _ _ (s3 q hq), e4 _ _ _ s4, fun q hq => ?_, fun q hq => ?_, ?_, s8⟩
  · rw [hf_xV, if_neg (h2 q hq)]; exact s5 q hq
  · rw [hf_xV]
    by_cases e : q.1 = a ∧ q.2 = j
    · rw [if_pos e]
      exact h1 (by rw [← e.1, ← e.2]; exact hq)
    · rw [if_neg e]; exact s6 q hq
  · rw [hf_xV]
    by_cases e : 27 = a ∧ 3 = j
    · rw [if_pos e]; exact h3 e.1.symm e.2.symm
    · rw [if_neg e]; exact s7
theorem ChX.put {a j ci : Nat} {v : Value} (s' : ShX (xV h a j v)) (ko : kO h a ci) (ha : a ∈ XO) (hj : (a, j) ∈ J) : ChX A J k h (xV h a j v) := by
  refine ⟨⟨s', Nat.le_refl _, by show h.2.1 ≤ _; omega, by show h.2.2 ≤ _; omega⟩, fun b _ ho _ => ?_, ?_, fun b _ i hi' => ?_⟩
  · show (sF h a _).1 b = _
    rw [at_sF, if_neg (fun e => ho (by rw [e]; exact ha))]
  · show (sF h a _).1 0 = _
    rw [at_sF, if_neg (fun e => by rw [← e] at ha; exact absurd ha (by decide))]
  · rw [hf_xV, if_neg (fun e => hi' (by rw [e.1, e.2]; exact hj))]
theorem ShX.setI {a j : Nat} {x : Int32} (s : ShX h) (hj : (a, j) ∈ XJs) : ShX (xV h a j (.int x)) := by
  obtain ⟨⟨a', ci⟩, hc, e'⟩ := (by decide : ∀ r ∈ XJs, ∃ q, q ∈ XOs ∧ q.1 = r.1) (a, j) hj
  have e'' : a' = a := e'
  subst e''
  refine s.put (s.1 _ hc) (fun _ => ⟨x, rfl⟩) (fun q hq e => ?_) (fun h1 h2 => ?_)
  · exact (by decide : ∀ r ∈ XJs, ∀ q ∈ XFs, ¬ (q.1 = r.1 ∧ q.2.1 = r.2)) (a', j) hj q hq e
  · subst h1; subst h2; exact absurd hj (by decide)
theorem ChX.setI {a j : Nat} {x : Int32} (s : ShX h) (hj : (a, j) ∈ XJs) (hJ : (a, j) ∈ J) : ChX A J k h (xV h a j (.int x)) := by
  obtain ⟨⟨a', ci⟩, hc, e'⟩ := (by decide : ∀ r ∈ XJs, ∃ q, q ∈ XOs ∧ q.1 = r.1) (a, j) hj
  have e'' : a' = a := e'
  subst e''
  exact ChX.put (s.setI hj) (s.1 _ hc) (ci_XO _ hc) hJ
theorem ShX.setR {a j : Nat} {v : Value} (s : ShX h) (hj : (a, j) ∈ XRs) : ShX (xV h a j v) := by
  obtain ⟨⟨a', ci⟩, hc, e'⟩ := (by decide : ∀ r ∈ XRs, ∃ q, q ∈ XOs ∧ q.1 = r.1) (a, j) hj
  have e'' : a' = a := e'
  subst e''
  refine s.put (s.1 _ hc) (fun z => absurd z ((by decide : ∀ q ∈ XRs, q ∉ XJs) _ hj)) (fun q hq e => ?_) (fun h1 h2 => ?_)
  · exact (by decide : ∀ r ∈ XRs, ∀ q ∈ XFs, ¬ (q.1 = r.1 ∧ q.2.1 = r.2)) (a', j) hj q hq e
  · subst h1; subst h2; exact absurd hj (by decide)
theorem ChX.setR {a j : Nat} {v : Value} (s : ShX h) (hj : (a, j) ∈ XRs) (hJ : (a, j) ∈ J) : ChX A J k h (xV h a j v) := by
  obtain ⟨⟨a', ci⟩, hc, e'⟩ := (by decide : ∀ r ∈ XRs, ∃ q, q ∈ XOs ∧ q.1 = r.1) (a, j) hj
  have e'' : a' = a := e'
  subst e''
  exact ChX.put (s.setR hj) (s.1 _ hc) (ci_XO _ hc) hJ
theorem ShX.setS {x : Int64} (s : ShX h) : ShX (xV h 27 3 (.long x)) := s.put (s.1 (27, 7) (by decide)) (fun z => absurd z (by decide)) (by decide) (fun _ _ => ⟨x, rfl⟩)
theorem ChX.setS {x : Int64} (s : ShX h) (hJ : (27, 3) ∈ J) : ChX A J k h (xV h 27 3 (.long x)) := ChX.put s.setS (s.1 (27, 7) (by decide)) (by decide) hJ
end CHX
def xw (h : qH) : Int64 := vL (hf h 27 3)
theorem gFd {h : qH} {a ci j : Nat} (k : kO h a ci) (hj : j < qnF ci) : qget h a ci j = some (hf h a j) := rdO k hj
theorem ShX.int {h : qH} {a j : Nat} (s : ShX h) (hj : (a, j) ∈ XJs) : hf h a j = .int (xi h a j) := by
  obtain ⟨x, e⟩ := s.2.2.2.2.2.1 (a, j) hj
  unfold xi
  have e' : hf h a j = .int x := e
  rw [e']; rfl
theorem uX_16 {h : qH} (s : ShX h) : 16 < h.2.1 ↔ True := ⟨fun _ => trivial, fun _ => s.lt (by decide)⟩
theorem oX_16 {h : qH} (s : ShX h) : kO h 16 10 := s.1 (16, 10) (by decide)
theorem vX_16 {h : qH} (s : ShX h) : (∃ F, h.1 16 = .inr (10, F)) ↔ True := ⟨fun _ => trivial, fun _ => (oX_16 s).2⟩
theorem uX_19 {h : qH} (s : ShX h) : 19 < h.2.1 ↔ True := ⟨fun _ => trivial, fun _ => s.lt (by decide)⟩
theorem oX_19 {h : qH} (s : ShX h) : kO h 19 2 := s.1 (19, 2) (by decide)
theorem vX_19 {h : qH} (s : ShX h) : (∃ F, h.1 19 = .inr (2, F)) ↔ True := ⟨fun _ => trivial, fun _ => (oX_19 s).2⟩
theorem uX_27 {h : qH} (s : ShX h) : 27 < h.2.1 ↔ True := ⟨fun _ => trivial, fun _ => s.lt (by decide)⟩
theorem oX_27 {h : qH} (s : ShX h) : kO h 27 7 := s.1 (27, 7) (by decide)
theorem vX_27 {h : qH} (s : ShX h) : (∃ F, h.1 27 = .inr (7, F)) ↔ True := ⟨fun _ => trivial, fun _ => (oX_27 s).2⟩
theorem uX_30 {h : qH} (s : ShX h) : 30 < h.2.1 ↔ True := ⟨fun _ => trivial, fun _ => s.lt (by decide)⟩
theorem oX_30 {h : qH} (s : ShX h) : kO h 30 4 := s.1 (30, 4) (by decide)
theorem vX_30 {h : qH} (s : ShX h) : (∃ F, h.1 30 = .inr (4, F)) ↔ True := ⟨fun _ => trivial, fun _ => (oX_30 s).2⟩
theorem uX_39 {h : qH} (s : ShX h) : 39 < h.2.1 ↔ True := ⟨fun _ => trivial, fun _ => s.lt (by decide)⟩
theorem oX_39 {h : qH} (s : ShX h) : kO h 39 5 := s.1 (39, 5) (by decide)
theorem vX_39 {h : qH} (s : ShX h) : (∃ F, h.1 39 = .inr (5, F)) ↔ True := ⟨fun _ => trivial, fun _ => (oX_39 s).2⟩
theorem uX_41 {h : qH} (s : ShX h) : 41 < h.2.1 ↔ True := ⟨fun _ => trivial, fun _ => s.lt (by decide)⟩
theorem oX_41 {h : qH} (s : ShX h) : kO h 41 1 := s.1 (41, 1) (by decide)
theorem vX_41 {h : qH} (s : ShX h) : (∃ F, h.1 41 = .inr (1, F)) ↔ True := ⟨fun _ => trivial, fun _ => (oX_41 s).2⟩
theorem uX_43 {h : qH} (s : ShX h) : 43 < h.2.1 ↔ True := ⟨fun _ => trivial, fun _ => s.lt (by decide)⟩
theorem oX_43 {h : qH} (s : ShX h) : kO h 43 9 := s.1 (43, 9) (by decide)
theorem vX_43 {h : qH} (s : ShX h) : (∃ F, h.1 43 = .inr (9, F)) ↔ True := ⟨fun _ => trivial, fun _ => (oX_43 s).2⟩
theorem uX_46 {h : qH} (s : ShX h) : 46 < h.2.1 ↔ True := ⟨fun _ => trivial, fun _ => s.lt (by decide)⟩
theorem oX_46 {h : qH} (s : ShX h) : kO h 46 3 := s.1 (46, 3) (by decide)
theorem vX_46 {h : qH} (s : ShX h) : (∃ F, h.1 46 = .inr (3, F)) ↔ True := ⟨fun _ => trivial, fun _ => (oX_46 s).2⟩
theorem uX_50 {h : qH} (s : ShX h) : 50 < h.2.1 ↔ True := ⟨fun _ => trivial, fun _ => s.lt (by decide)⟩
theorem oX_50 {h : qH} (s : ShX h) : kO h 50 6 := s.1 (50, 6) (by decide)
theorem vX_50 {h : qH} (s : ShX h) : (∃ F, h.1 50 = .inr (6, F)) ↔ True := ⟨fun _ => trivial, fun _ => (oX_50 s).2⟩
theorem uX_53 {h : qH} (s : ShX h) : 53 < h.2.1 ↔ True := ⟨fun _ => trivial, fun _ => s.lt (by decide)⟩
theorem oX_53 {h : qH} (s : ShX h) : kO h 53 0 := s.1 (53, 0) (by decide)
theorem vX_53 {h : qH} (s : ShX h) : (∃ F, h.1 53 = .inr (0, F)) ↔ True := ⟨fun _ => trivial, fun _ => (oX_53 s).2⟩
theorem kX_18 {h : qH} (s : ShX h) : kI h 18 64 := s.2.1 (18, 64) (by decide)
theorem rX_18 {h : qH} {i : Nat} (s : ShX h) (hi' : i < 64) : qiald h 18 (iN i) = some (hi h 18 i) := rdI (kX_18 s) hi'
theorem wX_18 {h : qH} {i : Nat} {x : Int32} (s : ShX h) (hi' : i < 64) : qiast h 18 (iN i) x = some (sI h 18 (upd (hi h 18) i x)) := wrI (kX_18 s) hi'
theorem kX_20 {h : qH} (s : ShX h) : kI h 20 64 := s.2.1 (20, 64) (by decide)
theorem rX_20 {h : qH} {i : Nat} (s : ShX h) (hi' : i < 64) : qiald h 20 (iN i) = some (hi h 20 i) := rdI (kX_20 s) hi'
theorem wX_20 {h : qH} {i : Nat} {x : Int32} (s : ShX h) (hi' : i < 64) : qiast h 20 (iN i) x = some (sI h 20 (upd (hi h 20) i x)) := wrI (kX_20 s) hi'
theorem kX_21 {h : qH} (s : ShX h) : kI h 21 104 := s.2.1 (21, 104) (by decide)
theorem rX_21 {h : qH} {i : Nat} (s : ShX h) (hi' : i < 104) : qiald h 21 (iN i) = some (hi h 21 i) := rdI (kX_21 s) hi'
theorem wX_21 {h : qH} {i : Nat} {x : Int32} (s : ShX h) (hi' : i < 104) : qiast h 21 (iN i) x = some (sI h 21 (upd (hi h 21) i x)) := wrI (kX_21 s) hi'
theorem kX_25 {h : qH} (s : ShX h) : kI h 25 104 := s.2.1 (25, 104) (by decide)
theorem rX_25 {h : qH} {i : Nat} (s : ShX h) (hi' : i < 104) : qiald h 25 (iN i) = some (hi h 25 i) := rdI (kX_25 s) hi'
theorem wX_25 {h : qH} {i : Nat} {x : Int32} (s : ShX h) (hi' : i < 104) : qiast h 25 (iN i) x = some (sI h 25 (upd (hi h 25) i x)) := wrI (kX_25 s) hi'
theorem kX_26 {h : qH} (s : ShX h) : kI h 26 208 := s.2.1 (26, 208) (by decide)
theorem rX_26 {h : qH} {i : Nat} (s : ShX h) (hi' : i < 208) : qiald h 26 (iN i) = some (hi h 26 i) := rdI (kX_26 s) hi'
theorem wX_26 {h : qH} {i : Nat} {x : Int32} (s : ShX h) (hi' : i < 208) : qiast h 26 (iN i) x = some (sI h 26 (upd (hi h 26) i x)) := wrI (kX_26 s) hi'
theorem kX_28 {h : qH} (s : ShX h) : kI h 28 16 := s.2.1 (28, 16) (by decide)
theorem rX_28 {h : qH} {i : Nat} (s : ShX h) (hi' : i < 16) : qiald h 28 (iN i) = some (hi h 28 i) := rdI (kX_28 s) hi'
theorem wX_28 {h : qH} {i : Nat} {x : Int32} (s : ShX h) (hi' : i < 16) : qiast h 28 (iN i) x = some (sI h 28 (upd (hi h 28) i x)) := wrI (kX_28 s) hi'
theorem kX_31 {h : qH} (s : ShX h) : kI h 31 104 := s.2.1 (31, 104) (by decide)
theorem rX_31 {h : qH} {i : Nat} (s : ShX h) (hi' : i < 104) : qiald h 31 (iN i) = some (hi h 31 i) := rdI (kX_31 s) hi'
theorem wX_31 {h : qH} {i : Nat} {x : Int32} (s : ShX h) (hi' : i < 104) : qiast h 31 (iN i) x = some (sI h 31 (upd (hi h 31) i x)) := wrI (kX_31 s) hi'
theorem kX_32 {h : qH} (s : ShX h) : kI h 32 256 := s.2.1 (32, 256) (by decide)
theorem rX_32 {h : qH} {i : Nat} (s : ShX h) (hi' : i < 256) : qiald h 32 (iN i) = some (hi h 32 i) := rdI (kX_32 s) hi'
theorem wX_32 {h : qH} {i : Nat} {x : Int32} (s : ShX h) (hi' : i < 256) : qiast h 32 (iN i) x = some (sI h 32 (upd (hi h 32) i x)) := wrI (kX_32 s) hi'
theorem kX_33 {h : qH} (s : ShX h) : kI h 33 256 := s.2.1 (33, 256) (by decide)
theorem rX_33 {h : qH} {i : Nat} (s : ShX h) (hi' : i < 256) : qiald h 33 (iN i) = some (hi h 33 i) := rdI (kX_33 s) hi'
theorem wX_33 {h : qH} {i : Nat} {x : Int32} (s : ShX h) (hi' : i < 256) : qiast h 33 (iN i) x = some (sI h 33 (upd (hi h 33) i x)) := wrI (kX_33 s) hi'
theorem kX_34 {h : qH} (s : ShX h) : kI h 34 16 := s.2.1 (34, 16) (by decide)
theorem rX_34 {h : qH} {i : Nat} (s : ShX h) (hi' : i < 16) : qiald h 34 (iN i) = some (hi h 34 i) := rdI (kX_34 s) hi'
theorem wX_34 {h : qH} {i : Nat} {x : Int32} (s : ShX h) (hi' : i < 16) : qiast h 34 (iN i) x = some (sI h 34 (upd (hi h 34) i x)) := wrI (kX_34 s) hi'
theorem kX_35 {h : qH} (s : ShX h) : kI h 35 16 := s.2.1 (35, 16) (by decide)
theorem rX_35 {h : qH} {i : Nat} (s : ShX h) (hi' : i < 16) : qiald h 35 (iN i) = some (hi h 35 i) := rdI (kX_35 s) hi'
theorem wX_35 {h : qH} {i : Nat} {x : Int32} (s : ShX h) (hi' : i < 16) : qiast h 35 (iN i) x = some (sI h 35 (upd (hi h 35) i x)) := wrI (kX_35 s) hi'
theorem kX_36 {h : qH} (s : ShX h) : kI h 36 104 := s.2.1 (36, 104) (by decide)
theorem rX_36 {h : qH} {i : Nat} (s : ShX h) (hi' : i < 104) : qiald h 36 (iN i) = some (hi h 36 i) := rdI (kX_36 s) hi'
theorem wX_36 {h : qH} {i : Nat} {x : Int32} (s : ShX h) (hi' : i < 104) : qiast h 36 (iN i) x = some (sI h 36 (upd (hi h 36) i x)) := wrI (kX_36 s) hi'
theorem kX_37 {h : qH} (s : ShX h) : kI h 37 17 := s.2.1 (37, 17) (by decide)
theorem rX_37 {h : qH} {i : Nat} (s : ShX h) (hi' : i < 17) : qiald h 37 (iN i) = some (hi h 37 i) := rdI (kX_37 s) hi'
theorem wX_37 {h : qH} {i : Nat} {x : Int32} (s : ShX h) (hi' : i < 17) : qiast h 37 (iN i) x = some (sI h 37 (upd (hi h 37) i x)) := wrI (kX_37 s) hi'
theorem kX_38 {h : qH} (s : ShX h) : kI h 38 16 := s.2.1 (38, 16) (by decide)
theorem rX_38 {h : qH} {i : Nat} (s : ShX h) (hi' : i < 16) : qiald h 38 (iN i) = some (hi h 38 i) := rdI (kX_38 s) hi'
theorem wX_38 {h : qH} {i : Nat} {x : Int32} (s : ShX h) (hi' : i < 16) : qiast h 38 (iN i) x = some (sI h 38 (upd (hi h 38) i x)) := wrI (kX_38 s) hi'
theorem kX_40 {h : qH} (s : ShX h) : kI h 40 24 := s.2.1 (40, 24) (by decide)
theorem rX_40 {h : qH} {i : Nat} (s : ShX h) (hi' : i < 24) : qiald h 40 (iN i) = some (hi h 40 i) := rdI (kX_40 s) hi'
theorem wX_40 {h : qH} {i : Nat} {x : Int32} (s : ShX h) (hi' : i < 24) : qiast h 40 (iN i) x = some (sI h 40 (upd (hi h 40) i x)) := wrI (kX_40 s) hi'
theorem kX_42 {h : qH} (s : ShX h) : kI h 42 104 := s.2.1 (42, 104) (by decide)
theorem rX_42 {h : qH} {i : Nat} (s : ShX h) (hi' : i < 104) : qiald h 42 (iN i) = some (hi h 42 i) := rdI (kX_42 s) hi'
theorem wX_42 {h : qH} {i : Nat} {x : Int32} (s : ShX h) (hi' : i < 104) : qiast h 42 (iN i) x = some (sI h 42 (upd (hi h 42) i x)) := wrI (kX_42 s) hi'
theorem kX_44 {h : qH} (s : ShX h) : kI h 44 4 := s.2.1 (44, 4) (by decide)
theorem rX_44 {h : qH} {i : Nat} (s : ShX h) (hi' : i < 4) : qiald h 44 (iN i) = some (hi h 44 i) := rdI (kX_44 s) hi'
theorem wX_44 {h : qH} {i : Nat} {x : Int32} (s : ShX h) (hi' : i < 4) : qiast h 44 (iN i) x = some (sI h 44 (upd (hi h 44) i x)) := wrI (kX_44 s) hi'
theorem kX_47 {h : qH} (s : ShX h) : kI h 47 4 := s.2.1 (47, 4) (by decide)
theorem rX_47 {h : qH} {i : Nat} (s : ShX h) (hi' : i < 4) : qiald h 47 (iN i) = some (hi h 47 i) := rdI (kX_47 s) hi'
theorem wX_47 {h : qH} {i : Nat} {x : Int32} (s : ShX h) (hi' : i < 4) : qiast h 47 (iN i) x = some (sI h 47 (upd (hi h 47) i x)) := wrI (kX_47 s) hi'
theorem kX_48 {h : qH} (s : ShX h) : kI h 48 4 := s.2.1 (48, 4) (by decide)
theorem rX_48 {h : qH} {i : Nat} (s : ShX h) (hi' : i < 4) : qiald h 48 (iN i) = some (hi h 48 i) := rdI (kX_48 s) hi'
theorem wX_48 {h : qH} {i : Nat} {x : Int32} (s : ShX h) (hi' : i < 4) : qiast h 48 (iN i) x = some (sI h 48 (upd (hi h 48) i x)) := wrI (kX_48 s) hi'
theorem kX_49 {h : qH} (s : ShX h) : kI h 49 4 := s.2.1 (49, 4) (by decide)
theorem rX_49 {h : qH} {i : Nat} (s : ShX h) (hi' : i < 4) : qiald h 49 (iN i) = some (hi h 49 i) := rdI (kX_49 s) hi'
theorem wX_49 {h : qH} {i : Nat} {x : Int32} (s : ShX h) (hi' : i < 4) : qiast h 49 (iN i) x = some (sI h 49 (upd (hi h 49) i x)) := wrI (kX_49 s) hi'
theorem kX_51 {h : qH} (s : ShX h) : kI h 51 160 := s.2.1 (51, 160) (by decide)
theorem rX_51 {h : qH} {i : Nat} (s : ShX h) (hi' : i < 160) : qiald h 51 (iN i) = some (hi h 51 i) := rdI (kX_51 s) hi'
theorem wX_51 {h : qH} {i : Nat} {x : Int32} (s : ShX h) (hi' : i < 160) : qiast h 51 (iN i) x = some (sI h 51 (upd (hi h 51) i x)) := wrI (kX_51 s) hi'
theorem kX_52 {h : qH} (s : ShX h) : kI h 52 135 := s.2.1 (52, 135) (by decide)
theorem rX_52 {h : qH} {i : Nat} (s : ShX h) (hi' : i < 135) : qiald h 52 (iN i) = some (hi h 52 i) := rdI (kX_52 s) hi'
theorem wX_52 {h : qH} {i : Nat} {x : Int32} (s : ShX h) (hi' : i < 135) : qiast h 52 (iN i) x = some (sI h 52 (upd (hi h 52) i x)) := wrI (kX_52 s) hi'
theorem kX_54 {h : qH} (s : ShX h) : kI h 54 32 := s.2.1 (54, 32) (by decide)
theorem rX_54 {h : qH} {i : Nat} (s : ShX h) (hi' : i < 32) : qiald h 54 (iN i) = some (hi h 54 i) := rdI (kX_54 s) hi'
theorem wX_54 {h : qH} {i : Nat} {x : Int32} (s : ShX h) (hi' : i < 32) : qiast h 54 (iN i) x = some (sI h 54 (upd (hi h 54) i x)) := wrI (kX_54 s) hi'
theorem kX_22 {h : qH} (s : ShX h) : kL h 22 520 := s.2.2.1 (22, 520) (by decide)
theorem rX_22 {h : qH} {i : Nat} (s : ShX h) (hi' : i < 520) : qlald h 22 (iN i) = some (hl h 22 i) := rdL (kX_22 s) hi'
theorem wX_22 {h : qH} {i : Nat} {x : Int64} (s : ShX h) (hi' : i < 520) : qlast h 22 (iN i) x = some (sL h 22 (vp_updL (hl h 22) i x)) := wrL (kX_22 s) hi'
theorem kX_23 {h : qH} (s : ShX h) : kL h 23 16 := s.2.2.1 (23, 16) (by decide)
theorem rX_23 {h : qH} {i : Nat} (s : ShX h) (hi' : i < 16) : qlald h 23 (iN i) = some (hl h 23 i) := rdL (kX_23 s) hi'
theorem wX_23 {h : qH} {i : Nat} {x : Int64} (s : ShX h) (hi' : i < 16) : qlast h 23 (iN i) x = some (sL h 23 (vp_updL (hl h 23) i x)) := wrL (kX_23 s) hi'
theorem kX_24 {h : qH} (s : ShX h) : kL h 24 5 := s.2.2.1 (24, 5) (by decide)
theorem rX_24 {h : qH} {i : Nat} (s : ShX h) (hi' : i < 5) : qlald h 24 (iN i) = some (hl h 24 i) := rdL (kX_24 s) hi'
theorem wX_24 {h : qH} {i : Nat} {x : Int64} (s : ShX h) (hi' : i < 5) : qlast h 24 (iN i) x = some (sL h 24 (vp_updL (hl h 24) i x)) := wrL (kX_24 s) hi'
theorem kX_29 {h : qH} (s : ShX h) : kL h 29 4 := s.2.2.1 (29, 4) (by decide)
theorem rX_29 {h : qH} {i : Nat} (s : ShX h) (hi' : i < 4) : qlald h 29 (iN i) = some (hl h 29 i) := rdL (kX_29 s) hi'
theorem wX_29 {h : qH} {i : Nat} {x : Int64} (s : ShX h) (hi' : i < 4) : qlast h 29 (iN i) x = some (sL h 29 (vp_updL (hl h 29) i x)) := wrL (kX_29 s) hi'
theorem kX_45 {h : qH} (s : ShX h) : kL h 45 16 := s.2.2.1 (45, 16) (by decide)
theorem rX_45 {h : qH} {i : Nat} (s : ShX h) (hi' : i < 16) : qlald h 45 (iN i) = some (hl h 45 i) := rdL (kX_45 s) hi'
theorem wX_45 {h : qH} {i : Nat} {x : Int64} (s : ShX h) (hi' : i < 16) : qlast h 45 (iN i) x = some (sL h 45 (vp_updL (hl h 45) i x)) := wrL (kX_45 s) hi'
theorem gX_16_0 {h : qH} (s : ShX h) : qget h 16 10 0 = some (.ref 17) := by rw [gFd (oX_16 s) (by decide)]; exact congrArg some (s.2.2.2.2.1 (16, 0, 17) (by decide))
theorem gX_16_2 {h : qH} (s : ShX h) : qget h 16 10 2 = some (.ref 18) := by rw [gFd (oX_16 s) (by decide)]; exact congrArg some (s.2.2.2.2.1 (16, 2, 18) (by decide))
theorem gX_16_4 {h : qH} (s : ShX h) : qget h 16 10 4 = some (.ref 19) := by rw [gFd (oX_16 s) (by decide)]; exact congrArg some (s.2.2.2.2.1 (16, 4, 19) (by decide))
theorem gX_16_5 {h : qH} (s : ShX h) : qget h 16 10 5 = some (.ref 27) := by rw [gFd (oX_16 s) (by decide)]; exact congrArg some (s.2.2.2.2.1 (16, 5, 27) (by decide))
theorem gX_16_6 {h : qH} (s : ShX h) : qget h 16 10 6 = some (.ref 30) := by rw [gFd (oX_16 s) (by decide)]; exact congrArg some (s.2.2.2.2.1 (16, 6, 30) (by decide))
theorem gX_16_7 {h : qH} (s : ShX h) : qget h 16 10 7 = some (.ref 39) := by rw [gFd (oX_16 s) (by decide)]; exact congrArg some (s.2.2.2.2.1 (16, 7, 39) (by decide))
theorem gX_16_8 {h : qH} (s : ShX h) : qget h 16 10 8 = some (.ref 41) := by rw [gFd (oX_16 s) (by decide)]; exact congrArg some (s.2.2.2.2.1 (16, 8, 41) (by decide))
theorem gX_16_9 {h : qH} (s : ShX h) : qget h 16 10 9 = some (.ref 43) := by rw [gFd (oX_16 s) (by decide)]; exact congrArg some (s.2.2.2.2.1 (16, 9, 43) (by decide))
theorem gX_16_10 {h : qH} (s : ShX h) : qget h 16 10 10 = some (.ref 46) := by rw [gFd (oX_16 s) (by decide)]; exact congrArg some (s.2.2.2.2.1 (16, 10, 46) (by decide))
theorem gX_16_11 {h : qH} (s : ShX h) : qget h 16 10 11 = some (.ref 50) := by rw [gFd (oX_16 s) (by decide)]; exact congrArg some (s.2.2.2.2.1 (16, 11, 50) (by decide))
theorem gX_16_12 {h : qH} (s : ShX h) : qget h 16 10 12 = some (.ref 53) := by rw [gFd (oX_16 s) (by decide)]; exact congrArg some (s.2.2.2.2.1 (16, 12, 53) (by decide))
theorem gX_19_0 {h : qH} (s : ShX h) : qget h 19 2 0 = some (.ref 20) := by rw [gFd (oX_19 s) (by decide)]; exact congrArg some (s.2.2.2.2.1 (19, 0, 20) (by decide))
theorem gX_19_4 {h : qH} (s : ShX h) : qget h 19 2 4 = some (.ref 21) := by rw [gFd (oX_19 s) (by decide)]; exact congrArg some (s.2.2.2.2.1 (19, 4, 21) (by decide))
theorem gX_19_5 {h : qH} (s : ShX h) : qget h 19 2 5 = some (.ref 22) := by rw [gFd (oX_19 s) (by decide)]; exact congrArg some (s.2.2.2.2.1 (19, 5, 22) (by decide))
theorem gX_19_7 {h : qH} (s : ShX h) : qget h 19 2 7 = some (.ref 23) := by rw [gFd (oX_19 s) (by decide)]; exact congrArg some (s.2.2.2.2.1 (19, 7, 23) (by decide))
theorem gX_19_8 {h : qH} (s : ShX h) : qget h 19 2 8 = some (.ref 24) := by rw [gFd (oX_19 s) (by decide)]; exact congrArg some (s.2.2.2.2.1 (19, 8, 24) (by decide))
theorem gX_19_9 {h : qH} (s : ShX h) : qget h 19 2 9 = some (.ref 25) := by rw [gFd (oX_19 s) (by decide)]; exact congrArg some (s.2.2.2.2.1 (19, 9, 25) (by decide))
theorem gX_19_10 {h : qH} (s : ShX h) : qget h 19 2 10 = some (.ref 26) := by rw [gFd (oX_19 s) (by decide)]; exact congrArg some (s.2.2.2.2.1 (19, 10, 26) (by decide))
theorem gX_27_1 {h : qH} (s : ShX h) : qget h 27 7 1 = some (.ref 28) := by rw [gFd (oX_27 s) (by decide)]; exact congrArg some (s.2.2.2.2.1 (27, 1, 28) (by decide))
theorem gX_27_4 {h : qH} (s : ShX h) : qget h 27 7 4 = some (.ref 29) := by rw [gFd (oX_27 s) (by decide)]; exact congrArg some (s.2.2.2.2.1 (27, 4, 29) (by decide))
theorem gX_30_0 {h : qH} (s : ShX h) : qget h 30 4 0 = some (.ref 31) := by rw [gFd (oX_30 s) (by decide)]; exact congrArg some (s.2.2.2.2.1 (30, 0, 31) (by decide))
theorem gX_30_3 {h : qH} (s : ShX h) : qget h 30 4 3 = some (.ref 32) := by rw [gFd (oX_30 s) (by decide)]; exact congrArg some (s.2.2.2.2.1 (30, 3, 32) (by decide))
theorem gX_30_4 {h : qH} (s : ShX h) : qget h 30 4 4 = some (.ref 33) := by rw [gFd (oX_30 s) (by decide)]; exact congrArg some (s.2.2.2.2.1 (30, 4, 33) (by decide))
theorem gX_30_7 {h : qH} (s : ShX h) : qget h 30 4 7 = some (.ref 34) := by rw [gFd (oX_30 s) (by decide)]; exact congrArg some (s.2.2.2.2.1 (30, 7, 34) (by decide))
theorem gX_30_8 {h : qH} (s : ShX h) : qget h 30 4 8 = some (.ref 35) := by rw [gFd (oX_30 s) (by decide)]; exact congrArg some (s.2.2.2.2.1 (30, 8, 35) (by decide))
theorem gX_30_9 {h : qH} (s : ShX h) : qget h 30 4 9 = some (.ref 36) := by rw [gFd (oX_30 s) (by decide)]; exact congrArg some (s.2.2.2.2.1 (30, 9, 36) (by decide))
theorem gX_30_10 {h : qH} (s : ShX h) : qget h 30 4 10 = some (.ref 37) := by rw [gFd (oX_30 s) (by decide)]; exact congrArg some (s.2.2.2.2.1 (30, 10, 37) (by decide))
theorem gX_30_11 {h : qH} (s : ShX h) : qget h 30 4 11 = some (.ref 38) := by rw [gFd (oX_30 s) (by decide)]; exact congrArg some (s.2.2.2.2.1 (30, 11, 38) (by decide))
theorem gX_39_1 {h : qH} (s : ShX h) : qget h 39 5 1 = some (.ref 40) := by rw [gFd (oX_39 s) (by decide)]; exact congrArg some (s.2.2.2.2.1 (39, 1, 40) (by decide))
theorem gX_41_0 {h : qH} (s : ShX h) : qget h 41 1 0 = some (.ref 42) := by rw [gFd (oX_41 s) (by decide)]; exact congrArg some (s.2.2.2.2.1 (41, 0, 42) (by decide))
theorem gX_43_0 {h : qH} (s : ShX h) : qget h 43 9 0 = some (.ref 44) := by rw [gFd (oX_43 s) (by decide)]; exact congrArg some (s.2.2.2.2.1 (43, 0, 44) (by decide))
theorem gX_43_1 {h : qH} (s : ShX h) : qget h 43 9 1 = some (.ref 45) := by rw [gFd (oX_43 s) (by decide)]; exact congrArg some (s.2.2.2.2.1 (43, 1, 45) (by decide))
theorem gX_46_3 {h : qH} (s : ShX h) : qget h 46 3 3 = some (.ref 47) := by rw [gFd (oX_46 s) (by decide)]; exact congrArg some (s.2.2.2.2.1 (46, 3, 47) (by decide))
theorem gX_46_4 {h : qH} (s : ShX h) : qget h 46 3 4 = some (.ref 48) := by rw [gFd (oX_46 s) (by decide)]; exact congrArg some (s.2.2.2.2.1 (46, 4, 48) (by decide))
theorem gX_46_5 {h : qH} (s : ShX h) : qget h 46 3 5 = some (.ref 49) := by rw [gFd (oX_46 s) (by decide)]; exact congrArg some (s.2.2.2.2.1 (46, 5, 49) (by decide))
theorem gX_50_0 {h : qH} (s : ShX h) : qget h 50 6 0 = some (.ref 51) := by rw [gFd (oX_50 s) (by decide)]; exact congrArg some (s.2.2.2.2.1 (50, 0, 51) (by decide))
theorem gX_50_4 {h : qH} (s : ShX h) : qget h 50 6 4 = some (.ref 52) := by rw [gFd (oX_50 s) (by decide)]; exact congrArg some (s.2.2.2.2.1 (50, 4, 52) (by decide))
theorem gX_53_0 {h : qH} (s : ShX h) : qget h 53 0 0 = some (.ref 54) := by rw [gFd (oX_53 s) (by decide)]; exact congrArg some (s.2.2.2.2.1 (53, 0, 54) (by decide))
theorem gX_16_1 {h : qH} (s : ShX h) : qget h 16 10 1 = some (.int (xi h 16 1)) := by rw [gFd (oX_16 s) (by decide), s.int (by decide)]
theorem pX_16_1 {h : qH} {x : Int32} (s : ShX h) : qput h 16 10 1 (.int x) = some (xV h 16 1 (.int x)) := wrO (oX_16 s) (by decide)
theorem gX_16_3 {h : qH} (s : ShX h) : qget h 16 10 3 = some (.int (xi h 16 3)) := by rw [gFd (oX_16 s) (by decide), s.int (by decide)]
theorem pX_16_3 {h : qH} {x : Int32} (s : ShX h) : qput h 16 10 3 (.int x) = some (xV h 16 3 (.int x)) := wrO (oX_16 s) (by decide)
theorem gX_19_1 {h : qH} (s : ShX h) : qget h 19 2 1 = some (.int (xi h 19 1)) := by rw [gFd (oX_19 s) (by decide), s.int (by decide)]
theorem pX_19_1 {h : qH} {x : Int32} (s : ShX h) : qput h 19 2 1 (.int x) = some (xV h 19 1 (.int x)) := wrO (oX_19 s) (by decide)
theorem gX_19_2 {h : qH} (s : ShX h) : qget h 19 2 2 = some (.int (xi h 19 2)) := by rw [gFd (oX_19 s) (by decide), s.int (by decide)]
theorem pX_19_2 {h : qH} {x : Int32} (s : ShX h) : qput h 19 2 2 (.int x) = some (xV h 19 2 (.int x)) := wrO (oX_19 s) (by decide)
theorem gX_19_3 {h : qH} (s : ShX h) : qget h 19 2 3 = some (.int (xi h 19 3)) := by rw [gFd (oX_19 s) (by decide), s.int (by decide)]
theorem pX_19_3 {h : qH} {x : Int32} (s : ShX h) : qput h 19 2 3 (.int x) = some (xV h 19 3 (.int x)) := wrO (oX_19 s) (by decide)
theorem gX_19_6 {h : qH} (s : ShX h) : qget h 19 2 6 = some (.int (xi h 19 6)) := by rw [gFd (oX_19 s) (by decide), s.int (by decide)]
theorem pX_19_6 {h : qH} {x : Int32} (s : ShX h) : qput h 19 2 6 (.int x) = some (xV h 19 6 (.int x)) := wrO (oX_19 s) (by decide)
theorem gX_27_2 {h : qH} (s : ShX h) : qget h 27 7 2 = some (.int (xi h 27 2)) := by rw [gFd (oX_27 s) (by decide), s.int (by decide)]
theorem pX_27_2 {h : qH} {x : Int32} (s : ShX h) : qput h 27 7 2 (.int x) = some (xV h 27 2 (.int x)) := wrO (oX_27 s) (by decide)
theorem gX_30_1 {h : qH} (s : ShX h) : qget h 30 4 1 = some (.int (xi h 30 1)) := by rw [gFd (oX_30 s) (by decide), s.int (by decide)]
theorem pX_30_1 {h : qH} {x : Int32} (s : ShX h) : qput h 30 4 1 (.int x) = some (xV h 30 1 (.int x)) := wrO (oX_30 s) (by decide)
theorem gX_30_2 {h : qH} (s : ShX h) : qget h 30 4 2 = some (.int (xi h 30 2)) := by rw [gFd (oX_30 s) (by decide), s.int (by decide)]
theorem pX_30_2 {h : qH} {x : Int32} (s : ShX h) : qput h 30 4 2 (.int x) = some (xV h 30 2 (.int x)) := wrO (oX_30 s) (by decide)
theorem gX_30_6 {h : qH} (s : ShX h) : qget h 30 4 6 = some (.int (xi h 30 6)) := by rw [gFd (oX_30 s) (by decide), s.int (by decide)]
theorem pX_30_6 {h : qH} {x : Int32} (s : ShX h) : qput h 30 4 6 (.int x) = some (xV h 30 6 (.int x)) := wrO (oX_30 s) (by decide)
theorem gX_39_0 {h : qH} (s : ShX h) : qget h 39 5 0 = some (.int (xi h 39 0)) := by rw [gFd (oX_39 s) (by decide), s.int (by decide)]
theorem pX_39_0 {h : qH} {x : Int32} (s : ShX h) : qput h 39 5 0 (.int x) = some (xV h 39 0 (.int x)) := wrO (oX_39 s) (by decide)
theorem gX_39_2 {h : qH} (s : ShX h) : qget h 39 5 2 = some (.int (xi h 39 2)) := by rw [gFd (oX_39 s) (by decide), s.int (by decide)]
theorem pX_39_2 {h : qH} {x : Int32} (s : ShX h) : qput h 39 5 2 (.int x) = some (xV h 39 2 (.int x)) := wrO (oX_39 s) (by decide)
theorem gX_41_1 {h : qH} (s : ShX h) : qget h 41 1 1 = some (.int (xi h 41 1)) := by rw [gFd (oX_41 s) (by decide), s.int (by decide)]
theorem pX_41_1 {h : qH} {x : Int32} (s : ShX h) : qput h 41 1 1 (.int x) = some (xV h 41 1 (.int x)) := wrO (oX_41 s) (by decide)
theorem gX_43_2 {h : qH} (s : ShX h) : qget h 43 9 2 = some (.int (xi h 43 2)) := by rw [gFd (oX_43 s) (by decide), s.int (by decide)]
theorem pX_43_2 {h : qH} {x : Int32} (s : ShX h) : qput h 43 9 2 (.int x) = some (xV h 43 2 (.int x)) := wrO (oX_43 s) (by decide)
theorem gX_43_3 {h : qH} (s : ShX h) : qget h 43 9 3 = some (.int (xi h 43 3)) := by rw [gFd (oX_43 s) (by decide), s.int (by decide)]
theorem pX_43_3 {h : qH} {x : Int32} (s : ShX h) : qput h 43 9 3 (.int x) = some (xV h 43 3 (.int x)) := wrO (oX_43 s) (by decide)
theorem gX_46_1 {h : qH} (s : ShX h) : qget h 46 3 1 = some (.int (xi h 46 1)) := by rw [gFd (oX_46 s) (by decide), s.int (by decide)]
theorem pX_46_1 {h : qH} {x : Int32} (s : ShX h) : qput h 46 3 1 (.int x) = some (xV h 46 1 (.int x)) := wrO (oX_46 s) (by decide)
theorem gX_46_2 {h : qH} (s : ShX h) : qget h 46 3 2 = some (.int (xi h 46 2)) := by rw [gFd (oX_46 s) (by decide), s.int (by decide)]
theorem pX_46_2 {h : qH} {x : Int32} (s : ShX h) : qput h 46 3 2 (.int x) = some (xV h 46 2 (.int x)) := wrO (oX_46 s) (by decide)
theorem gX_50_1 {h : qH} (s : ShX h) : qget h 50 6 1 = some (.int (xi h 50 1)) := by rw [gFd (oX_50 s) (by decide), s.int (by decide)]
theorem pX_50_1 {h : qH} {x : Int32} (s : ShX h) : qput h 50 6 1 (.int x) = some (xV h 50 1 (.int x)) := wrO (oX_50 s) (by decide)
theorem gX_50_2 {h : qH} (s : ShX h) : qget h 50 6 2 = some (.int (xi h 50 2)) := by rw [gFd (oX_50 s) (by decide), s.int (by decide)]
theorem pX_50_2 {h : qH} {x : Int32} (s : ShX h) : qput h 50 6 2 (.int x) = some (xV h 50 2 (.int x)) := wrO (oX_50 s) (by decide)
theorem gX_50_3 {h : qH} (s : ShX h) : qget h 50 6 3 = some (.int (xi h 50 3)) := by rw [gFd (oX_50 s) (by decide), s.int (by decide)]
theorem pX_50_3 {h : qH} {x : Int32} (s : ShX h) : qput h 50 6 3 (.int x) = some (xV h 50 3 (.int x)) := wrO (oX_50 s) (by decide)
theorem gX_50_5 {h : qH} (s : ShX h) : qget h 50 6 5 = some (.int (xi h 50 5)) := by rw [gFd (oX_50 s) (by decide), s.int (by decide)]
theorem pX_50_5 {h : qH} {x : Int32} (s : ShX h) : qput h 50 6 5 (.int x) = some (xV h 50 5 (.int x)) := wrO (oX_50 s) (by decide)
theorem gX_50_6 {h : qH} (s : ShX h) : qget h 50 6 6 = some (.int (xi h 50 6)) := by rw [gFd (oX_50 s) (by decide), s.int (by decide)]
theorem pX_50_6 {h : qH} {x : Int32} (s : ShX h) : qput h 50 6 6 (.int x) = some (xV h 50 6 (.int x)) := wrO (oX_50 s) (by decide)
theorem gX_50_7 {h : qH} (s : ShX h) : qget h 50 6 7 = some (.int (xi h 50 7)) := by rw [gFd (oX_50 s) (by decide), s.int (by decide)]
theorem pX_50_7 {h : qH} {x : Int32} (s : ShX h) : qput h 50 6 7 (.int x) = some (xV h 50 7 (.int x)) := wrO (oX_50 s) (by decide)
theorem gX_53_1 {h : qH} (s : ShX h) : qget h 53 0 1 = some (.int (xi h 53 1)) := by rw [gFd (oX_53 s) (by decide), s.int (by decide)]
theorem pX_53_1 {h : qH} {x : Int32} (s : ShX h) : qput h 53 0 1 (.int x) = some (xV h 53 1 (.int x)) := wrO (oX_53 s) (by decide)
theorem gX_27_0 {h : qH} (s : ShX h) : qget h 27 7 0 = some (hf h 27 0) := gFd (oX_27 s) (by decide)
theorem pX_27_0 {h : qH} {v : Value} (s : ShX h) : qput h 27 7 0 v = some (xV h 27 0 v) := wrO (oX_27 s) (by decide)
theorem gX_30_5 {h : qH} (s : ShX h) : qget h 30 4 5 = some (hf h 30 5) := gFd (oX_30 s) (by decide)
theorem pX_30_5 {h : qH} {v : Value} (s : ShX h) : qput h 30 4 5 v = some (xV h 30 5 v) := wrO (oX_30 s) (by decide)
theorem gX_43_4 {h : qH} (s : ShX h) : qget h 43 9 4 = some (hf h 43 4) := gFd (oX_43 s) (by decide)
theorem pX_43_4 {h : qH} {v : Value} (s : ShX h) : qput h 43 9 4 v = some (xV h 43 4 v) := wrO (oX_43 s) (by decide)
theorem gX_46_0 {h : qH} (s : ShX h) : qget h 46 3 0 = some (hf h 46 0) := gFd (oX_46 s) (by decide)
theorem pX_46_0 {h : qH} {v : Value} (s : ShX h) : qput h 46 3 0 v = some (xV h 46 0 v) := wrO (oX_46 s) (by decide)
theorem gX_27_3 {h : qH} (s : ShX h) : qget h 27 7 3 = some (.long (xw h)) := by
  rw [gFd (oX_27 s) (by decide)]
  obtain ⟨x, e⟩ := s.2.2.2.2.2.2.1
  unfold xw
  rw [e]; rfl
theorem pX_27_3 {h : qH} {x : Int64} (s : ShX h) : qput h 27 7 3 (.long x) = some (xV h 27 3 (.long x)) := wrO (oX_27 s) (by decide)

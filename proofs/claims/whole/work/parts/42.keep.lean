/-! ===== WHAT NO RUN CHANGES: the kinds of cells, and what lies below 16 ===== -/
def qkind : qC → (Nat × Nat) ⊕ Nat
  | .inl (t, n, _) => .inl (t, n)
  | .inr (ci, _) => .inr ci
/-- h1 comes of h by runs -/
def qKp (h h1 : qH) : Prop := h.2.1 ≤ h1.2.1 ∧ h.2.2 ≤ h1.2.2 ∧ (∀ a, a < h.2.1 → qkind (h1.1 a) = qkind (h.1 a)) ∧ (16 ≤ h.2.1 → ∀ a, a < 16 → h1.1 a = h.1 a)
theorem qKp.rfl (h : qH) : qKp h h := ⟨Nat.le_refl _, Nat.le_refl _, fun _ _ => Eq.refl _, fun _ _ _ => Eq.refl _⟩
theorem qKp.trans {h h1 h2 : qH} (a : qKp h h1) (b : qKp h1 h2) : qKp h h2 := ⟨Nat.le_trans a.1 b.1, Nat.le_trans a.2.1 b.2.1, fun x hx => (b.2.2.1 x (Nat.lt_of_lt_of_le hx a.1)).trans (a.2.2.1 x hx), fun h16 x hx => (b.2.2.2 (Nat.le_trans h16 a.1) x hx).trans (a.2.2.2 h16 x hx)⟩
theorem qKp.up {h : qH} {a : Nat} {c : qC} (h1 : 16 ≤ a) (hk : qkind c = qkind (h.1 a)) : qKp h (qup h.1 a c, h.2) := by
  refine ⟨Nat.le_refl _, Nat.le_refl _, fun x _ => ?_, fun _ x hx => ?_⟩
  · show qkind (if x = a then c else h.1 x) = _
    by_cases hxa : x = a
    · rw [if_pos hxa, hxa, hk]
    · rw [if_neg hxa]
  · show (if x = a then c else h.1 x) = _
    rw [if_neg (by omega)]
theorem qKp.new {h : qH} {c : qC} {k : Nat} : qKp h (qnew h c k) := by
  refine ⟨Nat.le_succ _, Nat.le_add_right _ _, fun x hx => ?_, fun h16 x hx => ?_⟩
  · show qkind (if x = h.2.1 then c else h.1 x) = _
    rw [if_neg (by omega)]
  · show (if x = h.2.1 then c else h.1 x) = _
    rw [if_neg (by omega)]
theorem qput_keep {h h1 : qH} {a ci k : Nat} {v : Value} (e : qput h a ci k v = some h1) : qKp h h1 := by
  obtain ⟨a1, a2, -, F, hF, rfl⟩ := qput_spec e; exact qKp.up a1 (by rw [hF]; rfl)
theorem qiast_keep {h h1 : qH} {a : Nat} {i x : Int32} (e : qiast h a i x = some h1) : qKp h h1 := by
  obtain ⟨a1, a2, n, f, hF, -, rfl⟩ := qiast_spec e; exact qKp.up a1 (by rw [hF]; rfl)
theorem qlast_keep {h h1 : qH} {a : Nat} {i : Int32} {x : Int64} (e : qlast h a i x = some h1) : qKp h h1 := by
  obtain ⟨a1, a2, n, f, hF, -, rfl⟩ := qlast_spec e; exact qKp.up a1 (by rw [hF]; rfl)
theorem qaast_keep {h h1 : qH} {a b : Nat} {i : Int32} (e : qaast h a i b = some h1) : qKp h h1 := by
  obtain ⟨⟨a1, a2⟩, -, t, n, f, hF, -, rfl, -⟩ := qaast_spec e; exact qKp.up a1 (by rw [hF]; rfl)
theorem qcopy_keep {h h1 : qH} {a b : Nat} {sp dp n : Int32} (e : qcopy h a sp b dp n = some h1) : qKp h h1 := by
  obtain ⟨⟨-, b1, b2⟩, -, n0, n1, -, ⟨f, g, -, hb, rfl⟩ | ⟨f, g, -, hb, rfl⟩⟩ := qcopy_spec e
  · exact qKp.up b1 (by rw [hb]; rfl)
  · exact qKp.up b1 (by rw [hb]; rfl)
def qKc (call : Nat → List Value → qH → Option qRes) : Prop := ∀ mi a h v h1, call mi a h = some (v, h1) → qKp h h1
set_option maxHeartbeats 8000000 in
theorem qstep_keep {call : Nat → List Value → qH → Option qRes} (hc : qKc call) {rt : Int} {i : qI} {pc : Nat} {L : qL} {st : List Value} {h : qH} {f : qF} (hs : qstep call rt i pc L st h = some (.inl f)) : qKp h f.2.2.2 := by
  obtain ⟨ins, ln, aux⟩ := i
  cases ins
  case putfield idx =>
    simp only [qstep, qnx] at hs
    repeat' split at hs
    all_goals cases hs
    rename_i hv
    exact qput_keep hv
  case iastore =>
    simp only [qstep, qnx] at hs
    repeat' split at hs
    all_goals cases hs
    rename_i hv
    exact qiast_keep hv
  case lastore =>
    simp only [qstep, qnx] at hs
    repeat' split at hs
    all_goals cases hs
    rename_i hv
    exact qlast_keep hv
  case new idx =>
    simp only [qstep, qnx] at hs
    cases hs
    exact qKp.new
  case newarray ty =>
    cases ty
    case int =>
      simp only [qstep, qnx] at hs
      repeat' split at hs
      all_goals cases hs
      exact qKp.new
    case long =>
      simp only [qstep, qnx] at hs
      repeat' split at hs
      all_goals cases hs
      exact qKp.new
    all_goals exact absurd (show (none : Option (qF ⊕ qRes)) = some _ from hs) (by simp)
  case anewarray idx =>
    simp only [qstep, qnx] at hs
    repeat' split at hs
    all_goals cases hs
    exact qKp.new
  case invokestatic idx =>
    simp only [qstep, qnx] at hs
    repeat' split at hs
    all_goals cases hs
    · rename_i hv
      exact hc _ _ _ _ _ hv
    · rename_i hv
      exact qcopy_keep hv
  case invokevirtual idx =>
    simp only [qstep, qnx] at hs
    repeat' split at hs
    all_goals cases hs
    · rename_i hv
      exact hc _ _ _ _ _ hv
    · exact qKp.new
    · exact qKp.rfl _
    · exact qKp.rfl _
  case aastore =>
    simp only [qstep, qnx] at hs
    repeat' split at hs
    all_goals cases hs
    rename_i hv
    exact qaast_keep hv
  case invokespecial idx =>
    simp only [qstep, qnx] at hs
    repeat' split at hs
    all_goals cases hs
    · exact qKp.rfl _
    · rename_i hv
      exact hc _ _ _ _ _ hv
  all_goals first
    | exact absurd (show (none : Option (qF ⊕ qRes)) = some _ from hs) (by simp)
    | (simp only [qstep, qnx, qld1, qst1] at hs
       repeat' split at hs
       all_goals cases hs
       all_goals exact qKp.rfl _)
theorem qgo_keep {call : Nat → List Value → qH → Option qRes} (hc : qKc call) {rt : Int} {K : List (Nat × qI)} : ∀ (n pc : Nat) (L : qL) (st : List Value) (h : qH) (v : Option Value) (h1 : qH), qgo call rt K n pc L st h = some (v, h1) → qKp h h1 := by
  intro n
  induction n with
  | zero => intro pc L st h v h1 e; cases e
  | succ n ih =>
    intro pc L st h v h1 e
    unfold qgo at e
    cases hk : K.lookup pc with
    | none => rw [hk] at e; cases e
    | some i =>
      rw [hk] at e
      dsimp only at e
      cases hs : qstep call rt i pc L st h with
      | none => rw [hs] at e; cases e
      | some w =>
        rw [hs] at e
        match w, hs, e with
        | .inr r, hs, e =>
          have h9 := qstep_end hs
          cases e
          rw [show h1 = h from h9]
          exact qKp.rfl _
        | .inl f, hs, e => exact (qstep_keep hc hs).trans (ih _ _ _ _ _ _ e)
theorem qrun_keep (N : Nat) : ∀ d, qKc (qrun N d) := by
  intro d
  induction d with
  | zero => intro mi a h v h1 e; cases e
  | succ d ih =>
    intro mi a h v h1 e
    unfold qrun at e
    cases hq : qms[mi]? with
    | none => rw [hq] at e; cases e
    | some q =>
      rw [hq] at e
      dsimp only at e
      cases hL : qinit q.2.2.1 a with
      | none => rw [hL] at e; cases e
      | some L =>
        rw [hL] at e
        dsimp only at e
        exact qgo_keep ih _ _ _ _ _ _ _ e
theorem qMC.keep {d mi : Nat} {a : List Value} {h h1 : qH} {v : Option Value} (e : qMC d mi a h (v, h1)) : qKp h h1 := by
  obtain ⟨N, e⟩ := e
  exact qrun_keep N d _ _ _ _ _ e
theorem qKp.obj {h h1 : qH} (k : qKp h h1) {a ci : Nat} {F : Nat → Value} (ha : a < h.2.1) (hF : h.1 a = .inr (ci, F)) : ∃ F', h1.1 a = .inr (ci, F') := by
  have h9 := k.2.2.1 a ha
  rw [hF] at h9
  match hc : h1.1 a, h9 with
  | .inl (t, n, f), h9 => cases h9
  | .inr (c, F'), h9 => cases h9; exact ⟨F', Eq.refl _⟩

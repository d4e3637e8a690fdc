/-! ===== ONE STEP (by program: wip/gen/mk25.py) ===== -/
theorem qown_all : ∀ (ci : Nat) (q : vw_C), vwCl[ci]? = some q → ∀ k, k < q.2.2 → (q.2.1 k).1 = qcn ci
  | 0, q, h => by cases h; decide +kernel
  | 1, q, h => by cases h; decide +kernel
  | 2, q, h => by cases h; decide +kernel
  | 3, q, h => by cases h; decide +kernel
  | 4, q, h => by cases h; decide +kernel
  | 5, q, h => by cases h; decide +kernel
  | 6, q, h => by cases h; decide +kernel
  | 7, q, h => by cases h; decide +kernel
  | 8, q, h => by cases h; decide +kernel
  | 9, q, h => by cases h; decide +kernel
  | 10, q, h => by cases h; decide +kernel
  | 11, q, h => by cases h; decide +kernel
  | n + 12, q, h => by simp [vwCl] at h
theorem q_own {ci k : Nat} {q : vw_C} {o : Nat} (h : vwCl[ci]? = some q) (hk : k < q.2.2) (ho : o = ci) : (q.2.1 k).1 = qcn o := by
  subst ho
  exact qown_all o q h k hk
theorem qchk_dec {o : Nat} {ini : Bool} {cc : ByteArray} {pc : Nat} {i : qI} (h : qchk o ini cc (pc, i) = true) : decode cc pc = .ok (i.1, i.2.1) ∧ (qlen i.1 = 0 ∨ qlen i.1 = i.2.1) := by
  unfold qchk at h
  rw [Bool.and_eq_true, Bool.and_eq_true] at h
  obtain ⟨⟨h1, h2⟩, -⟩ := h
  constructor
  · dsimp only at h1
    split at h1
    · rename_i r hr
      rw [hr, of_decide_eq_true h1]
    · cases h1
  · rw [Bool.or_eq_true] at h2
    exact h2.imp (fun z => eq_of_beq z) (fun z => eq_of_beq z)
theorem qtgt_ok {pc : Nat} {off : Int} (h : qtg pc off = true) : (pc : Int) + off = ((qtgt pc off : Nat) : Int) := (Int.toNat_of_nonneg (of_decide_eq_true h)).symm
/-- what a call of the pure machine must mean -/
def qCok (d : Nat) (call : Nat → List Value → qH → Option qRes) : Prop := ∀ mi a h v h1, call mi a h = some (v, h1) → qMet d mi a h v h1
theorem qgD10 {a : List Int} {k : Int} (h : a.getD 0 9 = k) (hk : ¬ k = 9) : a.getD 0 10 = k := by
  cases a with
  | nil => exact absurd h.symm hk
  | cons x xs => exact h
theorem qgD0 {a : List Int} {k : Int} (h : a.getD 0 9 = k) (hk : ¬ k = 9) : a.getD 0 0 = k := by
  cases a with
  | nil => exact absurd h.symm hk
  | cons x xs => exact h
section QSTEP
variable {p : Program} {l : Launch} {e : Env} {R : Room} {s : State} {m : MethodId} {args : Array Value} {below : List Frame} {meth : Method} {c : Code} {Q : State → Prop} {G : qE} {cc : ByteArray} {o nL n0 s0 pc d : Nat} {ini : Bool} {L : qL} {st : List Value} {h : qH} {f : qF} {rt : Int} {call : Nat → List Value → qH → Option qRes}
theorem qfit_0 {x : Value} (h : qfit 0 x = true) : ∃ z, x = .int z := by cases x <;> first | exact ⟨_, rfl⟩ | simp [qfit] at h
theorem qfit_1 {x : Value} (h : qfit 1 x = true) : ∃ z, x = .long z := by cases x <;> first | exact ⟨_, rfl⟩ | simp [qfit] at h
theorem qfit_2 {x : Value} (h : qfit 2 x = true) : x = .null ∨ ∃ z, x = .ref z := by cases x <;> first | exact Or.inl rfl | exact Or.inr ⟨_, rfl⟩ | simp [qfit] at h
theorem qfit_ty {t : Int} {ty : FieldType} {v : Value} (h1 : qfk t ty = true) (h2 : qfit t v = true) : narrow ty (tV G v) = tV G v ∧ fits ty (tV G v) = true := by
  cases ty <;> simp only [qfk, beq_iff_eq, Bool.false_eq_true] at h1
  all_goals subst h1
  · obtain ⟨z, rfl⟩ := qfit_0 h2; exact ⟨rfl, rfl⟩
  · obtain ⟨z, rfl⟩ := qfit_1 h2; exact ⟨rfl, rfl⟩
  · match v, h2 with
    | .int x, h2 =>
      have h3 : x = 0 ∨ x = 1 := by simpa [qfit] using h2
      rcases h3 with rfl | rfl <;> exact ⟨rfl, rfl⟩
  · rcases qfit_2 h2 with rfl | ⟨z, rfl⟩ <;> exact ⟨rfl, rfl⟩
  · rcases qfit_2 h2 with rfl | ⟨z, rfl⟩ <;> exact ⟨rfl, rfl⟩
set_option maxHeartbeats 8000000 in
theorem q_step (C : qCx p s m args meth c G o ini cc nL) {i : qI} (hchk : qchk o ini cc (pc, i) = true) (hcall : qCok d call) (hRd : d + 5 ≤ R.frames ∧ 40 * d + 200 ≤ R.locals) (hs : qstep call rt i pc L st h = some (.inl f)) (hn0 : n0 ≤ h.2.1) (hs0 : s0 ≤ h.2.2) (hcap : f.2.2.2.2.1 - n0 ≤ R.cells ∧ f.2.2.2.2.2 - s0 ≤ R.slots)
    (kk : qS p l e R s m args below meth c G nL n0 s0 Q f.1 f.2.1 f.2.2.1 f.2.2.2) : qS p l e R s m args below meth c G nL n0 s0 Q pc L st h := by
  obtain ⟨hd, hlen⟩ := qchk_dec hchk
  obtain ⟨ins, ln, aux⟩ := i
  unfold qchk at hchk
  rw [Bool.and_eq_true] at hchk
  have hck := hchk.2
  clear hchk
  dsimp only at hd hlen hck
  cases ins
  case iconst n =>
    rcases hlen with h0 | rfl
    · simp [qlen] at h0
    simp only [qstep, qnx] at hs
    cases hs
    exact fun H locs ls hR hlo hL => lv_iconst C.1 C.2.1 hd rfl (kk H locs ls hR hlo hL)
  case bipush n =>
    rcases hlen with h0 | rfl
    · simp [qlen] at h0
    simp only [qstep, qnx] at hs
    cases hs
    exact fun H locs ls hR hlo hL => lv_bipush C.1 C.2.1 hd rfl (kk H locs ls hR hlo hL)
  case sipush n =>
    rcases hlen with h0 | rfl
    · simp [qlen] at h0
    simp only [qstep, qnx] at hs
    cases hs
    exact fun H locs ls hR hlo hL => lv_sipush C.1 C.2.1 hd rfl (kk H locs ls hR hlo hL)
  case lconst n =>
    rcases hlen with h0 | rfl
    · simp [qlen] at h0
    simp only [qstep, qnx] at hs
    cases hs
    exact fun H locs ls hR hlo hL => lv_lconst C.1 C.2.1 hd rfl (kk H locs ls hR hlo hL)
  case aconst_null =>
    rcases hlen with h0 | rfl
    · simp [qlen] at h0
    simp only [qstep, qnx] at hs
    cases hs
    exact fun H locs ls hR hlo hL => lv_null C.1 C.2.1 hd (kk H locs ls hR hlo hL)
  case ldc idx =>
    rcases hlen with h0 | rfl
    · simp [qlen] at h0
    simp only [qstep, qnx] at hs
    split at hs
    · rename_i hx0
      cases hs
      replace hck : (if aux.getD 0 1 = 0 then decide ((o, idx, aux.getD 1 0) ∈ qKI) else decide ((o, idx, qx aux 1) ∈ qSR)) = true := hck
      rw [if_pos hx0] at hck
      exact fun H locs ls hR hlo hL => lv_ldc C.1 C.2.1 C.2.2.2.1 (C.2.2.2.2.1 _ (qKI_ok _ (of_decide_eq_true hck))) hd (kk H locs ls hR hlo hL)
    · rename_i hx0
      cases hs
      replace hck : (if aux.getD 0 1 = 0 then decide ((o, idx, aux.getD 1 0) ∈ qKI) else decide ((o, idx, qx aux 1) ∈ qSR)) = true := hck
      rw [if_neg hx0] at hck
      exact s_ldcS C (of_decide_eq_true hck) hd kk
  case ldc_w idx =>
    rcases hlen with h0 | rfl
    · simp [qlen] at h0
    simp only [qstep, qnx] at hs
    split at hs
    · cases hs
      exact fun H locs ls hR hlo hL => lv_ldcw C.1 C.2.1 C.2.2.2.1 (C.2.2.2.2.1 _ (qKI_ok _ (of_decide_eq_true hck))) hd (kk H locs ls hR hlo hL)
    · cases hs
  case ldc2_w idx =>
    rcases hlen with h0 | rfl
    · simp [qlen] at h0
    simp only [qstep, qnx] at hs
    cases hs
    exact fun H locs ls hR hlo hL => lv_ldc2 C.1 C.2.1 C.2.2.2.1 (C.2.2.2.2.1 _ (qKL_ok _ (of_decide_eq_true hck))) hd (kk H locs ls hR hlo hL)
  case iload k =>
    rcases hlen with h0 | rfl
    · simp [qlen] at h0
    simp only [qstep, qld1, qnx] at hs
    split at hs
    · rename_i x hx
      split at hs
      · rename_i hfx
        obtain ⟨z, rfl⟩ := qfit_0 hfx
        cases hs
        exact fun H locs ls hR hlo hL => lv_iload C.1 C.2.1 hd (hL.2.2.2 _ _ (qgL_some.mp hx)) (kk H locs ls hR hlo hL)
      · cases hs
    · cases hs
  case iload_n k =>
    rcases hlen with h0 | rfl
    · simp [qlen] at h0
    simp only [qstep, qld1, qnx] at hs
    split at hs
    · rename_i x hx
      split at hs
      · rename_i hfx
        obtain ⟨z, rfl⟩ := qfit_0 hfx
        cases hs
        exact fun H locs ls hR hlo hL => lv_iload_n C.1 C.2.1 hd rfl (hL.2.2.2 _ _ (qgL_some.mp hx)) (kk H locs ls hR hlo hL)
      · cases hs
    · cases hs
  case lload k =>
    rcases hlen with h0 | rfl
    · simp [qlen] at h0
    simp only [qstep, qld1, qnx] at hs
    split at hs
    · rename_i x hx
      split at hs
      · rename_i hfx
        obtain ⟨z, rfl⟩ := qfit_1 hfx
        cases hs
        exact fun H locs ls hR hlo hL => lv_lload C.1 C.2.1 hd (hL.2.2.2 _ _ (qgL_some.mp hx)) (kk H locs ls hR hlo hL)
      · cases hs
    · cases hs
  case lload_n k =>
    rcases hlen with h0 | rfl
    · simp [qlen] at h0
    simp only [qstep, qld1, qnx] at hs
    split at hs
    · rename_i x hx
      split at hs
      · rename_i hfx
        obtain ⟨z, rfl⟩ := qfit_1 hfx
        cases hs
        exact fun H locs ls hR hlo hL => lv_lload_n C.1 C.2.1 hd rfl (hL.2.2.2 _ _ (qgL_some.mp hx)) (kk H locs ls hR hlo hL)
      · cases hs
    · cases hs
  case aload k =>
    rcases hlen with h0 | rfl
    · simp [qlen] at h0
    simp only [qstep, qld1, qnx] at hs
    split at hs
    · rename_i x hx
      split at hs
      · rename_i hfx
        rcases qfit_2 hfx with rfl | ⟨z, rfl⟩
        · cases hs
          exact fun H locs ls hR hlo hL => lv_aloadN C.1 C.2.1 hd (hL.2.2.2 _ _ (qgL_some.mp hx)) (kk H locs ls hR hlo hL)
        · cases hs
          exact fun H locs ls hR hlo hL => lv_aload C.1 C.2.1 hd (hL.2.2.2 _ _ (qgL_some.mp hx)) (kk H locs ls hR hlo hL)
      · cases hs
    · cases hs
  case aload_n k =>
    rcases hlen with h0 | rfl
    · simp [qlen] at h0
    simp only [qstep, qld1, qnx] at hs
    split at hs
    · rename_i x hx
      split at hs
      · rename_i hfx
        rcases qfit_2 hfx with rfl | ⟨z, rfl⟩
        · cases hs
          exact fun H locs ls hR hlo hL => lv_aload_nN C.1 C.2.1 hd rfl (hL.2.2.2 _ _ (qgL_some.mp hx)) (kk H locs ls hR hlo hL)
        · cases hs
          exact fun H locs ls hR hlo hL => lv_aload_n C.1 C.2.1 hd rfl (hL.2.2.2 _ _ (qgL_some.mp hx)) (kk H locs ls hR hlo hL)
      · cases hs
    · cases hs
  case istore k =>
    rcases hlen with h0 | rfl
    · simp [qlen] at h0
    simp only [qstep, qst1, qnx] at hs
    split at hs
    · rename_i x r
      split at hs
      · rename_i hfx
        obtain ⟨z, rfl⟩ := qfit_0 hfx.1
        cases hs
        exact fun H locs ls hR hlo hL => lv_istore C.1 C.2.1 hd hL.has (by have := hfx.2; have := hL.1; simp at *; omega) rfl (fun ls2 hl2 => kk H locs ls2 hR hlo (qLr.st1 (v := .int z) hL.1 hl2))
      · cases hs
    · cases hs
  case istore_n k =>
    rcases hlen with h0 | rfl
    · simp [qlen] at h0
    simp only [qstep, qst1, qnx] at hs
    split at hs
    · rename_i x r
      split at hs
      · rename_i hfx
        obtain ⟨z, rfl⟩ := qfit_0 hfx.1
        cases hs
        exact fun H locs ls hR hlo hL => lv_istore_n C.1 C.2.1 hd rfl hL.has (by have := hfx.2; have := hL.1; simp at *; omega) rfl (fun ls2 hl2 => kk H locs ls2 hR hlo (qLr.st1 (v := .int z) hL.1 hl2))
      · cases hs
    · cases hs
  case lstore k =>
    rcases hlen with h0 | rfl
    · simp [qlen] at h0
    simp only [qstep, qst1, qnx] at hs
    split at hs
    · rename_i x r
      split at hs
      · rename_i hfx
        obtain ⟨z, rfl⟩ := qfit_1 hfx.1
        cases hs
        exact fun H locs ls hR hlo hL => lv_lstore C.1 C.2.1 hd hL.has (by have := hfx.2; have := hL.1; simp at *; omega) rfl (fun ls2 hl2 => kk H locs ls2 hR hlo (qLr.st2 (v := .long z) rfl hL.1 hl2))
      · cases hs
    · cases hs
  case lstore_n k =>
    rcases hlen with h0 | rfl
    · simp [qlen] at h0
    simp only [qstep, qst1, qnx] at hs
    split at hs
    · rename_i x r
      split at hs
      · rename_i hfx
        obtain ⟨z, rfl⟩ := qfit_1 hfx.1
        cases hs
        exact fun H locs ls hR hlo hL => lv_lstore_n C.1 C.2.1 hd rfl hL.has (by have := hfx.2; have := hL.1; simp at *; omega) rfl (fun ls2 hl2 => kk H locs ls2 hR hlo (qLr.st2 (v := .long z) rfl hL.1 hl2))
      · cases hs
    · cases hs
  case astore k =>
    rcases hlen with h0 | rfl
    · simp [qlen] at h0
    simp only [qstep, qst1, qnx] at hs
    split at hs
    · rename_i x r
      split at hs
      · rename_i hfx
        rcases qfit_2 hfx.1 with rfl | ⟨z, rfl⟩
        · cases hs
          exact fun H locs ls hR hlo hL => lv_astoreN C.1 C.2.1 hd hL.has (by have := hfx.2; have := hL.1; simp at *; omega) rfl (fun ls2 hl2 => kk H locs ls2 hR hlo (qLr.st1 (v := .null) hL.1 hl2))
        · cases hs
          exact fun H locs ls hR hlo hL => lv_astore C.1 C.2.1 hd hL.has (by have := hfx.2; have := hL.1; simp at *; omega) rfl (fun ls2 hl2 => kk H locs ls2 hR hlo (qLr.st1 (v := .ref z) hL.1 hl2))
      · cases hs
    · cases hs
  case astore_n k =>
    rcases hlen with h0 | rfl
    · simp [qlen] at h0
    simp only [qstep, qst1, qnx] at hs
    split at hs
    · rename_i x r
      split at hs
      · rename_i hfx
        rcases qfit_2 hfx.1 with rfl | ⟨z, rfl⟩
        · cases hs
          exact fun H locs ls hR hlo hL => lv_astore_nN C.1 C.2.1 hd rfl hL.has (by have := hfx.2; have := hL.1; simp at *; omega) rfl (fun ls2 hl2 => kk H locs ls2 hR hlo (qLr.st1 (v := .null) hL.1 hl2))
        · cases hs
          exact fun H locs ls hR hlo hL => lv_astore_n C.1 C.2.1 hd rfl hL.has (by have := hfx.2; have := hL.1; simp at *; omega) rfl (fun ls2 hl2 => kk H locs ls2 hR hlo (qLr.st1 (v := .ref z) hL.1 hl2))
      · cases hs
    · cases hs
  case iinc k n =>
    rcases hlen with h0 | rfl
    · simp [qlen] at h0
    simp only [qstep, qnx] at hs
    split at hs
    · rename_i x hx
      cases hs
      intro H locs ls hR hlo hL
      have hm : (k, Value.int x) ∈ qlv G L := qlv_mem.mpr ⟨.int x, qgL_some.mp hx, rfl⟩
      obtain ⟨j, hj⟩ := List.getElem?_of_mem hm
      exact lv_iinc C.1 C.2.1 hd hL.has hj rfl (by have := (List.getElem?_eq_some_iff.mp (qgL_some.mp hx)).1; have := hL.1; omega) rfl (fun ls2 hl2 => kk H locs ls2 hR hlo (qLr.st1 (v := .int (x + Int32.ofInt n)) hL.1 hl2))
    · cases hs
  case iadd =>
    rcases hlen with h0 | rfl
    · simp [qlen] at h0
    simp only [qstep, qnx] at hs
    split at hs
    · cases hs
      exact fun H locs ls hR hlo hL => lv_iadd C.1 C.2.1 hd (kk H locs ls hR hlo hL)
    · cases hs
  case isub =>
    rcases hlen with h0 | rfl
    · simp [qlen] at h0
    simp only [qstep, qnx] at hs
    split at hs
    · cases hs
      exact fun H locs ls hR hlo hL => lv_isub C.1 C.2.1 hd (kk H locs ls hR hlo hL)
    · cases hs
  case imul =>
    rcases hlen with h0 | rfl
    · simp [qlen] at h0
    simp only [qstep, qnx] at hs
    split at hs
    · cases hs
      exact fun H locs ls hR hlo hL => lv_imul C.1 C.2.1 hd (kk H locs ls hR hlo hL)
    · cases hs
  case iand =>
    rcases hlen with h0 | rfl
    · simp [qlen] at h0
    simp only [qstep, qnx] at hs
    split at hs
    · cases hs
      exact fun H locs ls hR hlo hL => lv_iand C.1 C.2.1 hd (kk H locs ls hR hlo hL)
    · cases hs
  case ior =>
    rcases hlen with h0 | rfl
    · simp [qlen] at h0
    simp only [qstep, qnx] at hs
    split at hs
    · cases hs
      exact fun H locs ls hR hlo hL => lv_ior C.1 C.2.1 hd (kk H locs ls hR hlo hL)
    · cases hs
  case ixor =>
    rcases hlen with h0 | rfl
    · simp [qlen] at h0
    simp only [qstep, qnx] at hs
    split at hs
    · cases hs
      exact fun H locs ls hR hlo hL => lv_ixor C.1 C.2.1 hd (kk H locs ls hR hlo hL)
    · cases hs
  case ishl =>
    rcases hlen with h0 | rfl
    · simp [qlen] at h0
    simp only [qstep, qnx] at hs
    split at hs
    · cases hs
      exact fun H locs ls hR hlo hL => lv_ishl C.1 C.2.1 hd (kk H locs ls hR hlo hL)
    · cases hs
  case ishr =>
    rcases hlen with h0 | rfl
    · simp [qlen] at h0
    simp only [qstep, qnx] at hs
    split at hs
    · cases hs
      exact fun H locs ls hR hlo hL => lv_ishr C.1 C.2.1 hd (kk H locs ls hR hlo hL)
    · cases hs
  case ineg =>
    rcases hlen with h0 | rfl
    · simp [qlen] at h0
    simp only [qstep, qnx] at hs
    split at hs
    · cases hs
      exact fun H locs ls hR hlo hL => lv_ineg C.1 C.2.1 hd (kk H locs ls hR hlo hL)
    · cases hs
  case ladd =>
    rcases hlen with h0 | rfl
    · simp [qlen] at h0
    simp only [qstep, qnx] at hs
    split at hs
    · cases hs
      exact fun H locs ls hR hlo hL => lv_ladd C.1 C.2.1 hd (kk H locs ls hR hlo hL)
    · cases hs
  case lsub =>
    rcases hlen with h0 | rfl
    · simp [qlen] at h0
    simp only [qstep, qnx] at hs
    split at hs
    · cases hs
      exact fun H locs ls hR hlo hL => lv_lsub C.1 C.2.1 hd (kk H locs ls hR hlo hL)
    · cases hs
  case lmul =>
    rcases hlen with h0 | rfl
    · simp [qlen] at h0
    simp only [qstep, qnx] at hs
    split at hs
    · cases hs
      exact fun H locs ls hR hlo hL => lv_lmul C.1 C.2.1 hd (kk H locs ls hR hlo hL)
    · cases hs
  case land =>
    rcases hlen with h0 | rfl
    · simp [qlen] at h0
    simp only [qstep, qnx] at hs
    split at hs
    · cases hs
      exact fun H locs ls hR hlo hL => lv_land C.1 C.2.1 hd (kk H locs ls hR hlo hL)
    · cases hs
  case lor =>
    rcases hlen with h0 | rfl
    · simp [qlen] at h0
    simp only [qstep, qnx] at hs
    split at hs
    · cases hs
      exact fun H locs ls hR hlo hL => lv_lor C.1 C.2.1 hd (kk H locs ls hR hlo hL)
    · cases hs
  case lxor =>
    rcases hlen with h0 | rfl
    · simp [qlen] at h0
    simp only [qstep, qnx] at hs
    split at hs
    · cases hs
      exact fun H locs ls hR hlo hL => lv_lxor C.1 C.2.1 hd (kk H locs ls hR hlo hL)
    · cases hs
  case lneg =>
    rcases hlen with h0 | rfl
    · simp [qlen] at h0
    simp only [qstep, qnx] at hs
    split at hs
    · cases hs
      exact fun H locs ls hR hlo hL => lv_lneg C.1 C.2.1 hd (kk H locs ls hR hlo hL)
    · cases hs
  case iushr =>
    rcases hlen with h0 | rfl
    · simp [qlen] at h0
    simp only [qstep, qnx] at hs
    split at hs
    · cases hs
      exact fun H locs ls hR hlo hL => lv_iushr C.1 C.2.1 hd rfl (kk H locs ls hR hlo hL)
    · cases hs
  case lshl =>
    rcases hlen with h0 | rfl
    · simp [qlen] at h0
    simp only [qstep, qnx] at hs
    split at hs
    · cases hs
      exact fun H locs ls hR hlo hL => lv_lshl C.1 C.2.1 hd rfl (kk H locs ls hR hlo hL)
    · cases hs
  case lshr =>
    rcases hlen with h0 | rfl
    · simp [qlen] at h0
    simp only [qstep, qnx] at hs
    split at hs
    · cases hs
      exact fun H locs ls hR hlo hL => lv_lshr C.1 C.2.1 hd rfl (kk H locs ls hR hlo hL)
    · cases hs
  case i2l =>
    rcases hlen with h0 | rfl
    · simp [qlen] at h0
    simp only [qstep, qnx] at hs
    split at hs
    · cases hs
      exact fun H locs ls hR hlo hL => lv_i2l C.1 C.2.1 hd rfl (kk H locs ls hR hlo hL)
    · cases hs
  case l2i =>
    rcases hlen with h0 | rfl
    · simp [qlen] at h0
    simp only [qstep, qnx] at hs
    split at hs
    · cases hs
      exact fun H locs ls hR hlo hL => lv_l2i C.1 C.2.1 hd rfl (kk H locs ls hR hlo hL)
    · cases hs
  case lcmp =>
    rcases hlen with h0 | rfl
    · simp [qlen] at h0
    simp only [qstep, qnx] at hs
    split at hs
    · cases hs
      exact fun H locs ls hR hlo hL => W.lcmp C.1 C.2.1 hd (kk H locs ls hR hlo hL)
    · cases hs
  case idiv =>
    rcases hlen with h0 | rfl
    · simp [qlen] at h0
    simp only [qstep, qnx] at hs
    split at hs
    · split at hs
      · cases hs
      · rename_i hne
        cases hs
        exact fun H locs ls hR hlo hL => lv_idiv C.1 C.2.1 hd hne (kk H locs ls hR hlo hL)
    · cases hs
  case irem =>
    rcases hlen with h0 | rfl
    · simp [qlen] at h0
    simp only [qstep, qnx] at hs
    split at hs
    · split at hs
      · cases hs
      · rename_i hne
        cases hs
        exact fun H locs ls hR hlo hL => lv_irem C.1 C.2.1 hd hne (kk H locs ls hR hlo hL)
    · cases hs
  case ldiv =>
    rcases hlen with h0 | rfl
    · simp [qlen] at h0
    simp only [qstep, qnx] at hs
    split at hs
    · split at hs
      · cases hs
      · rename_i hne
        cases hs
        exact fun H locs ls hR hlo hL => lv_ldiv C.1 C.2.1 hd hne (kk H locs ls hR hlo hL)
    · cases hs
  case lrem =>
    rcases hlen with h0 | rfl
    · simp [qlen] at h0
    simp only [qstep, qnx] at hs
    split at hs
    · split at hs
      · cases hs
      · rename_i hne
        cases hs
        exact fun H locs ls hR hlo hL => lv_lrem C.1 C.2.1 hd hne (kk H locs ls hR hlo hL)
    · cases hs
  case dup =>
    rcases hlen with h0 | rfl
    · simp [qlen] at h0
    simp only [qstep, qnx] at hs
    split at hs
    · split at hs
      · rename_i hne
        cases hs
        exact fun H locs ls hR hlo hL => lv_dup C.1 C.2.1 hd ((tV_cat G _).trans hne) (kk H locs ls hR hlo hL)
      · cases hs
    · cases hs
  case dup2 =>
    rcases hlen with h0 | rfl
    · simp [qlen] at h0
    simp only [qstep, qnx] at hs
    split at hs
    · split at hs
      · rename_i hne
        cases hs
        exact fun H locs ls hR hlo hL => lv_dup2_11 C.1 C.2.1 hd ((tV_cat G _).trans hne.1) ((tV_cat G _).trans hne.2) (kk H locs ls hR hlo hL)
      · cases hs
    · cases hs
  case pop =>
    rcases hlen with h0 | rfl
    · simp [qlen] at h0
    simp only [qstep, qnx] at hs
    split at hs
    · split at hs
      · rename_i hne
        cases hs
        exact fun H locs ls hR hlo hL => lv_pop C.1 C.2.1 hd ((tV_cat G _).trans hne) (kk H locs ls hR hlo hL)
      · cases hs
    · cases hs
  case goto off =>
    rcases hlen with h0 | rfl
    · simp [qlen] at h0
    simp only [qstep, qnx] at hs
    cases hs
    exact fun H locs ls hR hlo hL => lv_goto C.1 C.2.1 hd (qtgt_ok hck) (kk H locs ls hR hlo hL)
  case ifCond k off =>
    rcases hlen with h0 | rfl
    · simp [qlen] at h0
    cases k
    case eq =>
      simp only [qstep, qnx, qcnd, decide_eq_true_eq] at hs
      split at hs
      · split at hs
        · rename_i hc
          cases hs
          exact fun H locs ls hR hlo hL => lv_if_eq C.1 C.2.1 hd (qtgt_ok hck) (fun _ => kk H locs ls hR hlo hL) (fun z => absurd hc z)
        · rename_i hc
          cases hs
          exact fun H locs ls hR hlo hL => lv_if_eq C.1 C.2.1 hd (qtgt_ok hck) (fun z => absurd z hc) (fun _ => kk H locs ls hR hlo hL)
      · cases hs
    case ne =>
      simp only [qstep, qnx, qcnd, decide_eq_true_eq] at hs
      split at hs
      · split at hs
        · rename_i hc
          cases hs
          exact fun H locs ls hR hlo hL => lv_if_ne C.1 C.2.1 hd (qtgt_ok hck) (fun _ => kk H locs ls hR hlo hL) (fun z => absurd z hc)
        · rename_i hc
          cases hs
          exact fun H locs ls hR hlo hL => lv_if_ne C.1 C.2.1 hd (qtgt_ok hck) (fun z => absurd z hc) (fun _ => kk H locs ls hR hlo hL)
      · cases hs
    case lt =>
      simp only [qstep, qnx, qcnd, decide_eq_true_eq] at hs
      split at hs
      · split at hs
        · rename_i hc
          cases hs
          exact fun H locs ls hR hlo hL => lv_if_lt C.1 C.2.1 hd (qtgt_ok hck) (fun _ => kk H locs ls hR hlo hL) (fun z => absurd hc z)
        · rename_i hc
          cases hs
          exact fun H locs ls hR hlo hL => lv_if_lt C.1 C.2.1 hd (qtgt_ok hck) (fun z => absurd z hc) (fun _ => kk H locs ls hR hlo hL)
      · cases hs
    case ge =>
      simp only [qstep, qnx, qcnd, decide_eq_true_eq] at hs
      split at hs
      · split at hs
        · rename_i hc
          cases hs
          exact fun H locs ls hR hlo hL => lv_if_ge C.1 C.2.1 hd (qtgt_ok hck) (fun _ => kk H locs ls hR hlo hL) (fun z => absurd hc z)
        · rename_i hc
          cases hs
          exact fun H locs ls hR hlo hL => lv_if_ge C.1 C.2.1 hd (qtgt_ok hck) (fun z => absurd z hc) (fun _ => kk H locs ls hR hlo hL)
      · cases hs
    case gt =>
      simp only [qstep, qnx, qcnd, decide_eq_true_eq] at hs
      split at hs
      · split at hs
        · rename_i hc
          cases hs
          exact fun H locs ls hR hlo hL => lv_if_gt C.1 C.2.1 hd (qtgt_ok hck) (fun _ => kk H locs ls hR hlo hL) (fun z => absurd hc z)
        · rename_i hc
          cases hs
          exact fun H locs ls hR hlo hL => lv_if_gt C.1 C.2.1 hd (qtgt_ok hck) (fun z => absurd z hc) (fun _ => kk H locs ls hR hlo hL)
      · cases hs
    case le =>
      simp only [qstep, qnx, qcnd, decide_eq_true_eq] at hs
      split at hs
      · split at hs
        · rename_i hc
          cases hs
          exact fun H locs ls hR hlo hL => lv_if_le C.1 C.2.1 hd (qtgt_ok hck) (fun _ => kk H locs ls hR hlo hL) (fun z => absurd hc z)
        · rename_i hc
          cases hs
          exact fun H locs ls hR hlo hL => lv_if_le C.1 C.2.1 hd (qtgt_ok hck) (fun z => absurd z hc) (fun _ => kk H locs ls hR hlo hL)
      · cases hs
  case if_icmp k off =>
    rcases hlen with h0 | rfl
    · simp [qlen] at h0
    cases k
    case eq =>
      simp only [qstep, qnx, qcnd, decide_eq_true_eq] at hs
      split at hs
      · split at hs
        · rename_i hc
          cases hs
          exact fun H locs ls hR hlo hL => lv_icmp_eq C.1 C.2.1 hd (qtgt_ok hck) (fun _ => kk H locs ls hR hlo hL) (fun z => absurd hc z)
        · rename_i hc
          cases hs
          exact fun H locs ls hR hlo hL => lv_icmp_eq C.1 C.2.1 hd (qtgt_ok hck) (fun z => absurd z hc) (fun _ => kk H locs ls hR hlo hL)
      · cases hs
    case ne =>
      simp only [qstep, qnx, qcnd, decide_eq_true_eq] at hs
      split at hs
      · split at hs
        · rename_i hc
          cases hs
          exact fun H locs ls hR hlo hL => lv_icmp_ne C.1 C.2.1 hd (qtgt_ok hck) (fun _ => kk H locs ls hR hlo hL) (fun z => absurd z hc)
        · rename_i hc
          cases hs
          exact fun H locs ls hR hlo hL => lv_icmp_ne C.1 C.2.1 hd (qtgt_ok hck) (fun z => absurd z hc) (fun _ => kk H locs ls hR hlo hL)
      · cases hs
    case lt =>
      simp only [qstep, qnx, qcnd, decide_eq_true_eq] at hs
      split at hs
      · split at hs
        · rename_i hc
          cases hs
          exact fun H locs ls hR hlo hL => lv_icmp_lt C.1 C.2.1 hd (qtgt_ok hck) (fun _ => kk H locs ls hR hlo hL) (fun z => absurd hc z)
        · rename_i hc
          cases hs
          exact fun H locs ls hR hlo hL => lv_icmp_lt C.1 C.2.1 hd (qtgt_ok hck) (fun z => absurd z hc) (fun _ => kk H locs ls hR hlo hL)
      · cases hs
    case ge =>
      simp only [qstep, qnx, qcnd, decide_eq_true_eq] at hs
      split at hs
      · split at hs
        · rename_i hc
          cases hs
          exact fun H locs ls hR hlo hL => lv_icmp_ge C.1 C.2.1 hd (qtgt_ok hck) (fun _ => kk H locs ls hR hlo hL) (fun z => absurd hc z)
        · rename_i hc
          cases hs
          exact fun H locs ls hR hlo hL => lv_icmp_ge C.1 C.2.1 hd (qtgt_ok hck) (fun z => absurd z hc) (fun _ => kk H locs ls hR hlo hL)
      · cases hs
    case gt =>
      simp only [qstep, qnx, qcnd, decide_eq_true_eq] at hs
      split at hs
      · split at hs
        · rename_i hc
          cases hs
          exact fun H locs ls hR hlo hL => lv_icmp_gt C.1 C.2.1 hd (qtgt_ok hck) (fun _ => kk H locs ls hR hlo hL) (fun z => absurd hc z)
        · rename_i hc
          cases hs
          exact fun H locs ls hR hlo hL => lv_icmp_gt C.1 C.2.1 hd (qtgt_ok hck) (fun z => absurd z hc) (fun _ => kk H locs ls hR hlo hL)
      · cases hs
    case le =>
      simp only [qstep, qnx, qcnd, decide_eq_true_eq] at hs
      split at hs
      · split at hs
        · rename_i hc
          cases hs
          exact fun H locs ls hR hlo hL => lv_icmp_le C.1 C.2.1 hd (qtgt_ok hck) (fun _ => kk H locs ls hR hlo hL) (fun z => absurd hc z)
        · rename_i hc
          cases hs
          exact fun H locs ls hR hlo hL => lv_icmp_le C.1 C.2.1 hd (qtgt_ok hck) (fun z => absurd z hc) (fun _ => kk H locs ls hR hlo hL)
      · cases hs
  case ifnull off =>
    rcases hlen with h0 | rfl
    · simp [qlen] at h0
    simp only [qstep, qnx] at hs
    split at hs
    · cases hs
      exact fun H locs ls hR hlo hL => lv_ifnullN C.1 C.2.1 hd (qtgt_ok hck) (kk H locs ls hR hlo hL)
    · cases hs
      exact fun H locs ls hR hlo hL => lv_ifnull C.1 C.2.1 hd (kk H locs ls hR hlo hL)
    · cases hs
  case ifnonnull off =>
    rcases hlen with h0 | rfl
    · simp [qlen] at h0
    simp only [qstep, qnx] at hs
    split at hs
    · cases hs
      exact fun H locs ls hR hlo hL => lv_ifnonnull C.1 C.2.1 hd (qtgt_ok hck) (kk H locs ls hR hlo hL)
    · cases hs
      exact fun H locs ls hR hlo hL => lv_ifnonnullN C.1 C.2.1 hd (kk H locs ls hR hlo hL)
    · cases hs
  case tableswitch dd lo hi offs =>
    simp only [qstep, qnx] at hs
    rw [Bool.and_eq_true] at hck
    split at hs
    · split at hs
      · rename_i hx
        cases hs
        exact fun H locs ls hR hlo hL => lv_tableOut C.1 C.2.1 hd hx (qtgt_ok hck.1) (kk H locs ls hR hlo hL)
      · rename_i hx
        split at hs
        · rename_i off ho
          cases hs
          refine fun H locs ls hR hlo hL => lv_tableIn C.1 C.2.1 hd (fun z => hx (Or.inl z)) (fun z => hx (Or.inr z)) ho (qtgt_ok ?_) (kk H locs ls hR hlo hL)
          exact List.all_eq_true.mp hck.2 off (by rw [← Array.getElem?_toList] at ho; exact List.mem_of_getElem? ho)
        · cases hs
    · cases hs
  case getfield idx =>
    rcases hlen with h0 | rfl
    · simp [qlen] at h0
    simp only [qstep, qnx] at hs
    split at hs
    · split at hs
      · rename_i v hv
        cases hs
        obtain ⟨q, h1, h2, h3⟩ := qFL_ok _ (of_decide_eq_true hck)
        exact s_get C h1 h3 hd hv kk
      · cases hs
    · cases hs
  case putfield idx =>
    rcases hlen with h0 | rfl
    · simp [qlen] at h0
    simp only [qstep, qnx] at hs
    rw [Bool.and_eq_true, Bool.and_eq_true] at hck
    split at hs
    · split at hs
      · rename_i hfx
        split at hs
        · rename_i h1 hv
          cases hs
          obtain ⟨q, h1, h2, h3⟩ := qFL_ok _ (of_decide_eq_true hck.1.1)
          obtain ⟨g1, g2⟩ := qfit_ty (G := G) hck.1.2 hfx
          have hfin := hck.2
          unfold qfin at hfin
          dsimp only at h1
          rw [h1] at hfin
          dsimp only at hfin
          refine s_put C h1 h3 hd g1 g2 (fun z => ?_) hv kk
          rw [z] at hfin
          simp only [Bool.not_true, Bool.false_or, Bool.and_eq_true, beq_iff_eq] at hfin
          exact ⟨hfin.1, q_own h1 h2 hfin.2⟩
        · cases hs
      · cases hs
    · cases hs
  case iaload =>
    rcases hlen with h0 | rfl
    · simp [qlen] at h0
    simp only [qstep, qnx] at hs
    split at hs
    · split at hs
      · rename_i v hv
        cases hs
        exact s_iald C hd hv kk
      · cases hs
    · cases hs
  case laload =>
    rcases hlen with h0 | rfl
    · simp [qlen] at h0
    simp only [qstep, qnx] at hs
    split at hs
    · split at hs
      · rename_i v hv
        cases hs
        exact s_lald C hd hv kk
      · cases hs
    · cases hs
  case aaload =>
    rcases hlen with h0 | rfl
    · simp [qlen] at h0
    simp only [qstep, qnx] at hs
    split at hs
    · split at hs
      · rename_i v hv
        cases hs
        exact s_aald C hd hv kk
      · cases hs
    · cases hs
  case iastore =>
    rcases hlen with h0 | rfl
    · simp [qlen] at h0
    simp only [qstep, qnx] at hs
    split at hs
    · split at hs
      · rename_i v hv
        cases hs
        exact s_iast C hd hv kk
      · cases hs
    · cases hs
  case lastore =>
    rcases hlen with h0 | rfl
    · simp [qlen] at h0
    simp only [qstep, qnx] at hs
    split at hs
    · split at hs
      · rename_i v hv
        cases hs
        exact s_last C hd hv kk
      · cases hs
    · cases hs
  case aastore =>
    rcases hlen with h0 | rfl
    · simp [qlen] at h0
    simp only [qstep, qnx] at hs
    split at hs
    · split at hs
      · rename_i v hv
        cases hs
        exact s_aast C hd hv kk
      · cases hs
    · cases hs
  case arraylength =>
    rcases hlen with h0 | rfl
    · simp [qlen] at h0
    simp only [qstep, qnx] at hs
    split at hs
    · split at hs
      · rename_i v hv
        cases hs
        exact s_alen C hd hv kk
      · cases hs
    · cases hs
  case newarray ty =>
    rcases hlen with h0 | rfl
    · simp [qlen] at h0
    cases ty
    case int =>
      simp only [qstep, qnx] at hs
      split at hs
      · split at hs
        · cases hs
        · rename_i hx
          cases hs
          exact s_newI C hd hx hn0 hs0 hcap kk
      · cases hs
    case long =>
      simp only [qstep, qnx] at hs
      split at hs
      · split at hs
        · cases hs
        · rename_i hx
          cases hs
          exact s_newL C hd hx hn0 hs0 hcap kk
      · cases hs
    all_goals exact absurd (show (none : Option (qF ⊕ qRes)) = some _ from hs) (by simp)
  case anewarray idx =>
    rcases hlen with h0 | rfl
    · simp [qlen] at h0
    simp only [qstep, qnx] at hs
    split at hs
    · split at hs
      · cases hs
      · rename_i hx
        cases hs
        rcases qCA_ok _ (of_decide_eq_true hck) with ⟨h2, h3⟩ | ⟨h2, h3⟩
        · dsimp only at h2 h3
          rw [h2] at kk hcap
          exact s_newR C h3 hd (fun z => hx (z.imp id Or.inl)) hn0 hs0 hcap kk
        · dsimp only at h2 h3
          rw [h2] at kk hcap
          exact s_newRR C h3 hd (fun z => hx (z.imp id Or.inl)) hn0 hs0 hcap kk
    · cases hs
  case checkcast idx =>
    rcases hlen with h0 | rfl
    · simp [qlen] at h0
    simp only [qstep, qnx] at hs
    split at hs
    · split at hs
      · rename_i v hv
        cases hs
        exact s_cast C (qCC_ok _ (of_decide_eq_true hck)) hd hv kk
      · cases hs
    · cases hs
  case new idx =>
    rcases hlen with h0 | rfl
    · simp [qlen] at h0
    simp only [qstep, qnx] at hs
    cases hs
    obtain ⟨q, h1, h2, h3, h4⟩ := qCN_ok _ (of_decide_eq_true hck)
    exact s_newO C h1 h2 h3 h4 hd hn0 hs0 hcap kk
  case invokestatic idx =>
    rcases hlen with h0 | rfl
    · simp [qlen] at h0
    simp only [qstep, qnx] at hs
    replace hck : (if aux.getD 0 9 = 6 then decide ((o, idx) ∈ qAC) else decide ((o, idx, qx aux 0, qx aux 1, qx aux 2, 0) ∈ qML)) = true := hck
    split at hs
    · rename_i hcd
      rw [if_neg (fun z => by rcases hcd.1 with h9 | h9 <;> (rw [h9] at z; exact absurd z (by decide)))] at hck
      split at hs
      · rename_i v h1 hv
        cases hs
        obtain ⟨q, g1, g2, g3, g4⟩ := qML_ok _ (of_decide_eq_true hck)
        have hst : st = ((st.take (qx aux 2)).reverse).reverse ++ st.drop (qx aux 2) := by rw [List.reverse_reverse, List.take_append_drop]
        have hl : ((st.take (qx aux 2)).reverse).length = qx aux 2 := by rw [List.length_reverse, List.length_take]; exact Nat.min_eq_left hcd.2.1
        rw [hst]
        rcases hcd.1 with hk | hk
        · have hk0 : qx aux 0 = 0 := by unfold qx; rw [qgD0 hk (by decide)]; rfl
          dsimp only at g4
          rw [hk0] at g4
          exact s_callS C (hcall _ _ _ _ _ hv) g1 (qmo_all _ _ g1) g4.1 g4.2 g3 g2 hl hd hcd.2.2 hRd hn0 hs0 hcap kk
        · have hk0 : qx aux 0 = 3 := by unfold qx; rw [qgD0 hk (by decide)]; rfl
          dsimp only at g4
          rw [hk0] at g4
          exact s_callSN C (hcall _ _ _ _ _ hv) g1 (qmo_all _ _ g1) g4.1 g4.2 g3 g2 hl hd hcd.2.2 hRd hn0 hs0 hcap kk
      · cases hs
    · split at hs
      · rename_i h6
        rw [if_pos h6] at hck
        split at hs
        · split at hs
          · rename_i hrm
            split at hs
            · rename_i h1 hv
              cases hs
              exact s_copy C (qAC_ok _ (of_decide_eq_true hck)) hd hrm (by omega) (by omega) hv kk
            · cases hs
          · cases hs
        · cases hs
      · cases hs
  case invokevirtual idx =>
    rcases hlen with h0 | rfl
    · simp [qlen] at h0
    simp only [qstep, qnx] at hs
    replace hck : (if aux.getD 0 10 = 1 then decide ((o, idx, 1, qx aux 1, qx aux 2, qx aux 3) ∈ qML) else if aux.getD 0 10 = 7 then decide ((o, idx) ∈ qCL) else decide ((o, idx, qx aux 0) ∈ qSM)) = true := hck
    split at hs
    · rename_i hcd
      rw [if_pos (qgD10 hcd.1 (by decide))] at hck
      split at hs
      · rename_i b r hbr
        split at hs
        · rename_i hb2
          split at hs
          · rename_i cc2 F hF
            split at hs
            · rename_i hcc
              split at hs
              · rename_i v h1 hv
                cases hs
                subst hcc
                obtain ⟨q, g1, g2, g3, g4, g5, g6, rc, g7, g8⟩ := qML_ok _ (of_decide_eq_true hck)
                have hst : st = ((st.take (qx aux 2)).reverse).reverse ++ .ref b :: r := by rw [List.reverse_reverse, ← hbr, List.take_append_drop]
                have hl : ((st.take (qx aux 2)).reverse).length = qx aux 2 := by rw [List.length_reverse, List.length_take]; exact Nat.min_eq_left hcd.2
                rw [hst]
                exact s_callV C (hcall _ _ _ _ _ hv) g1 (qmo_all _ _ g1) g4 g5 g6 g3 g7 g8 g2 hl hb2.2.1 hb2.2.2 hF hd hb2.1 hRd hn0 hs0 hcap kk
              · cases hs
            · cases hs
          · cases hs
        · cases hs
      · cases hs
    · split at hs
      · rename_i h7
        rw [if_neg (fun z => by rw [qgD10 h7 (by decide)] at z; exact absurd z (by decide)), if_pos (qgD10 h7 (by decide))] at hck
        split at hs
        · split at hs
          · rename_i hrm
            split at hs
            · rename_i n f hv
              cases hs
              exact s_clone C (qCL_ok _ (of_decide_eq_true hck)) hd hrm (by omega) (by omega) hv hn0 hs0 hcap kk
            · cases hs
          · cases hs
        · cases hs
      · split at hs
        · rename_i h8
          rw [if_neg (fun z => by rw [qgD10 h8 (by decide)] at z; exact absurd z (by decide)), if_neg (fun z => by rw [qgD10 h8 (by decide)] at z; exact absurd z (by decide))] at hck
          split at hs
          · split at hs
            · rename_i a r hc
              cases hs
              have hk8 : qx aux 0 = 8 := by unfold qx; rw [qgD0 h8 (by decide)]; rfl
              rcases qSM_ok _ (of_decide_eq_true hck) with ⟨g1, g2⟩ | ⟨g1, g2⟩
              · exact s_slen C g2 hd hc.1 hc.2 ⟨by omega, by omega⟩ hcap kk
              · exact absurd (show qx aux 0 = 9 from g1) (by rw [hk8]; decide)
            · cases hs
          · cases hs
        · split at hs
          · rename_i h9
            rw [if_neg (fun z => by rw [h9] at z; exact absurd z (by decide)), if_neg (fun z => by rw [h9] at z; exact absurd z (by decide))] at hck
            split at hs
            · split at hs
              · rename_i k a r hc
                cases hs
                have hk9 : qx aux 0 = 9 := by (cases aux with | nil => exact absurd (show (10 : Int) = 9 from h9) (by decide) | cons w l => show (w : Int).toNat = 9; rw [show w = 9 from h9]; rfl)
                rcases qSM_ok _ (of_decide_eq_true hck) with ⟨g1, g2⟩ | ⟨g1, g2⟩
                · exact absurd (show qx aux 0 = 8 from g1) (by rw [hk9]; decide)
                · exact s_schr C g2 hd hc.1 hc.2.1 hc.2.2 ⟨by omega, by omega⟩ hcap kk
              · cases hs
            · cases hs
          · cases hs
  case invokespecial idx =>
    rcases hlen with h0 | rfl
    · simp [qlen] at h0
    simp only [qstep, qnx] at hs
    replace hck : (if aux.getD 0 9 = 5 then decide ((o, idx) ∈ qMO) else decide ((o, idx, qx aux 0, qx aux 1, qx aux 2, 0) ∈ qML)) = true := hck
    split at hs
    · rename_i hcd
      split at hs
      · rename_i b r hbr
        split at hs
        · rename_i hrm
          split at hs
          · rename_i h5
            split at hs
            · rename_i h0
              cases hs
              rw [if_pos h5] at hck
              rw [h0, List.drop_zero] at hbr
              rw [hbr]
              exact s_objI C (qMO_ok _ (of_decide_eq_true hck)) hd hrm ⟨by omega, by omega⟩ kk
            · cases hs
          · rename_i h5
            split at hs
            · rename_i h24
              split at hs
              · rename_i h1 hv
                cases hs
                rw [if_neg h5] at hck
                obtain ⟨q, g1, g2, g3, g4⟩ := qML_ok _ (of_decide_eq_true hck)
                have hst : st = ((st.take (qx aux 2)).reverse).reverse ++ .ref b :: r := by rw [List.reverse_reverse, ← hbr, List.take_append_drop]
                have hl : ((st.take (qx aux 2)).reverse).length = qx aux 2 := by rw [List.length_reverse, List.length_take]; exact Nat.min_eq_left hcd
                rw [hst]
                rcases h24 with hk | hk
                · have hk0 : qx aux 0 = 2 := by unfold qx; rw [qgD0 hk (by decide)]; rfl
                  dsimp only at g4
                  rw [hk0] at g4
                  exact s_callI C (hcall _ _ _ _ _ hv) g1 (qmo_all _ _ g1) g4.1 g4.2.1 g3 g4.2.2.1 g4.2.2.2 g2 hl hd hrm hRd hn0 hs0 hcap kk
                · have hk0 : qx aux 0 = 4 := by unfold qx; rw [qgD0 hk (by decide)]; rfl
                  dsimp only at g4
                  rw [hk0] at g4
                  exact s_callIN C (hcall _ _ _ _ _ hv) g1 (qmo_all _ _ g1) g4.1 g4.2.1 g3 g4.2.2.1 g4.2.2.2 g2 hl hd hrm hRd hn0 hs0 hcap kk
              · cases hs
            · cases hs
        · cases hs
      · cases hs
    · cases hs
  case ireturn =>
    rcases hlen with h0 | rfl
    · simp [qlen] at h0
    simp only [qstep] at hs
    repeat' split at hs
    all_goals cases hs
  case lreturn =>
    rcases hlen with h0 | rfl
    · simp [qlen] at h0
    simp only [qstep] at hs
    repeat' split at hs
    all_goals cases hs
  case areturn =>
    rcases hlen with h0 | rfl
    · simp [qlen] at h0
    simp only [qstep] at hs
    repeat' split at hs
    all_goals cases hs
  case return_ =>
    rcases hlen with h0 | rfl
    · simp [qlen] at h0
    simp only [qstep] at hs
    repeat' split at hs
    all_goals cases hs
  all_goals exact absurd (show (none : Option (qF ⊕ qRes)) = some _ from hs) (by simp)
end QSTEP

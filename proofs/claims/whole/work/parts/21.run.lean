/-! ===== RUNS OF THE PURE MACHINE ===== -/

def qgo (call : Nat → List Value → qH → Option qRes) (rt : Int) (K : List (Nat × qI)) : Nat → Nat → qL → List Value → qH → Option qRes
  | 0, _, _, _, _ => none
  | n + 1, pc, L, st, h => match K.lookup pc with
    | none => none
    | some i => match qstep call rt i pc L st h with
      | none => none
      | some (.inr r) => some r
      | some (.inl f) => qgo call rt K n f.1 f.2.1 f.2.2.1 f.2.2.2
noncomputable def qrun (N : Nat) : Nat → Nat → List Value → qH → Option qRes
  | 0, _, _, _ => none
  | d + 1, mi, args, h => match qms[mi]? with
    | none => none
    | some q => match qinit q.2.2.1 args with
      | none => none
      | some L => qgo (qrun N d) q.2.2.2.2.1 q.2.2.2.2.2.2 N 0 L [] h
/-- what one run says stays when more is known of the calls -/
def qLe (c1 c2 : Nat → List Value → qH → Option qRes) : Prop := ∀ mi a h r, c1 mi a h = some r → c2 mi a h = some r
set_option maxHeartbeats 4000000 in
theorem qstep_mono {c1 c2 : Nat → List Value → qH → Option qRes} (hc : qLe c1 c2) {rt : Int} {i : qI} {pc : Nat} {L : qL} {st : List Value} {h : qH} {r : qF ⊕ qRes} (e : qstep c1 rt i pc L st h = some r) : qstep c2 rt i pc L st h = some r := by
  obtain ⟨ins, ln, aux⟩ := i
  cases ins
  case invokestatic idx =>
    simp only [qstep] at e ⊢
    split at e
    · rename_i hcnd
      rw [if_pos hcnd]
      cases hr : c1 (qx aux 1) (st.take (qx aux 2)).reverse h with
      | none => rw [hr] at e; cases e
      | some q => rw [hr] at e; rw [hc _ _ _ _ hr]; exact e
    · rename_i hcnd
      rw [if_neg hcnd]
      exact e
  case invokevirtual idx =>
    simp only [qstep] at e ⊢
    split at e
    · rename_i hcnd
      rw [if_pos hcnd]
      split at e
      · rename_i b r hb
        split at e
        · rename_i h2
          rw [if_pos h2]
          split at e
          · rename_i cc F hF
            split at e
            · rename_i h3
              rw [if_pos h3]
              cases hr : c1 (qx aux 1) (.ref b :: (st.take (qx aux 2)).reverse) h with
              | none => rw [hr] at e; cases e
              | some q => rw [hr] at e; rw [hc _ _ _ _ hr]; exact e
            · cases e
          · cases e
        · cases e
      · cases e
    · rename_i hcnd
      rw [if_neg hcnd]
      exact e
  case invokespecial idx =>
    simp only [qstep] at e ⊢
    split at e
    · rename_i hcnd
      rw [if_pos hcnd]
      split at e
      · rename_i b r hb
        split at e
        · rename_i h2
          rw [if_pos h2]
          split at e
          · rename_i h3
            rw [if_pos h3]; exact e
          · rename_i h3
            rw [if_neg h3]
            split at e
            · rename_i h4
              rw [if_pos h4]
              cases hr : c1 (qx aux 1) (.ref b :: (st.take (qx aux 2)).reverse) h with
              | none => rw [hr] at e; cases e
              | some q => rw [hr] at e; rw [hc _ _ _ _ hr]; exact e
            · cases e
        · cases e
      · cases e
    · cases e
  case newarray ty => cases ty <;> exact e
  all_goals exact e
theorem qgo_mono {c1 c2 : Nat → List Value → qH → Option qRes} (hc : qLe c1 c2) {rt : Int} {K : List (Nat × qI)} : ∀ (n m : Nat) (pc : Nat) (L : qL) (st : List Value) (h : qH) (r : qRes), n ≤ m → qgo c1 rt K n pc L st h = some r → qgo c2 rt K m pc L st h = some r := by
  intro n
  induction n with
  | zero => intro m pc L st h r _ e; cases e
  | succ n ih =>
    intro m pc L st h r hm e
    obtain ⟨m', rfl⟩ : ∃ m', m = m' + 1 := ⟨m - 1, by omega⟩
    unfold qgo at e ⊢
    cases hk : K.lookup pc with
    | none => rw [hk] at e; cases e
    | some i =>
      rw [hk] at e
      dsimp only at e ⊢
      cases hs : qstep c1 rt i pc L st h with
      | none => rw [hs] at e; cases e
      | some w =>
        rw [hs] at e
        rw [qstep_mono hc hs]
        match w, e with
        | .inr _, e => exact e
        | .inl f, e => exact ih m' _ _ _ _ _ (by omega) e
theorem qrun_mono {N M : Nat} (h : N ≤ M) : ∀ d, qLe (qrun N d) (qrun M d) := by
  intro d
  induction d with
  | zero => intro mi a h r e; cases e
  | succ d ih =>
    intro mi a hh r e
    unfold qrun at e ⊢
    cases hq : qms[mi]? with
    | none => rw [hq] at e; cases e
    | some q =>
      rw [hq] at e
      dsimp only at e ⊢
      cases hL : qinit q.2.2.1 a with
      | none => rw [hL] at e; cases e
      | some L =>
        rw [hL] at e
        dsimp only at e ⊢
        exact qgo_mono ih _ _ _ _ _ _ _ h e
theorem qrun_deep {N : Nat} : ∀ d, qLe (qrun N d) (qrun N (d + 1)) := by
  intro d
  induction d with
  | zero => intro mi a h r e; cases e
  | succ d ih =>
    intro mi a hh r e
    unfold qrun at e ⊢
    cases hq : qms[mi]? with
    | none => rw [hq] at e; cases e
    | some q =>
      rw [hq] at e
      dsimp only at e ⊢
      cases hL : qinit q.2.2.1 a with
      | none => rw [hL] at e; cases e
      | some L =>
        rw [hL] at e
        dsimp only at e ⊢
        exact qgo_mono ih _ _ _ _ _ _ _ (Nat.le_refl _) e

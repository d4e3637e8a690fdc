/-! ===== RUNS OF THE PURE MACHINE ARE RUNS OF THE MODEL'S ===== -/
theorem qput_grow {h h1 : qH} {a ci k : Nat} {v : Value} (e : qput h a ci k v = some h1) : h1.2 = h.2 := by
  obtain ⟨-, -, -, F, -, rfl⟩ := qput_spec e; rfl
theorem qiast_grow {h h1 : qH} {a : Nat} {i x : Int32} (e : qiast h a i x = some h1) : h1.2 = h.2 := by
  obtain ⟨-, -, n, f, -, -, rfl⟩ := qiast_spec e; rfl
theorem qlast_grow {h h1 : qH} {a : Nat} {i : Int32} {x : Int64} (e : qlast h a i x = some h1) : h1.2 = h.2 := by
  obtain ⟨-, -, n, f, -, -, rfl⟩ := qlast_spec e; rfl
theorem qaast_grow {h h1 : qH} {a b : Nat} {i : Int32} (e : qaast h a i b = some h1) : h1.2 = h.2 := by
  obtain ⟨-, -, t, n, f, -, -, rfl, -⟩ := qaast_spec e; rfl
theorem qcopy_grow {h h1 : qH} {a b : Nat} {sp dp n : Int32} (e : qcopy h a sp b dp n = some h1) : h1.2 = h.2 := by
  obtain ⟨-, -, n0, n1, -, ⟨f, g, -, -, rfl⟩ | ⟨f, g, -, -, rfl⟩⟩ := qcopy_spec e <;> rfl
def qGr (call : Nat → List Value → qH → Option qRes) : Prop := ∀ mi a h v h1, call mi a h = some (v, h1) → h.2.1 ≤ h1.2.1 ∧ h.2.2 ≤ h1.2.2
set_option maxHeartbeats 8000000 in
theorem qstep_grow {call : Nat → List Value → qH → Option qRes} (hc : qGr call) {rt : Int} {i : qI} {pc : Nat} {L : qL} {st : List Value} {h : qH} {f : qF} (hs : qstep call rt i pc L st h = some (.inl f)) : h.2.1 ≤ f.2.2.2.2.1 ∧ h.2.2 ≤ f.2.2.2.2.2 := by
  obtain ⟨ins, ln, aux⟩ := i
  cases ins
  case putfield idx =>
    simp only [qstep, qnx] at hs
    repeat' split at hs
    all_goals cases hs
    rename_i hv
    rw [qput_grow hv]
    exact ⟨Nat.le_refl _, Nat.le_refl _⟩
  case iastore =>
    simp only [qstep, qnx] at hs
    repeat' split at hs
    all_goals cases hs
    rename_i hv
    rw [qiast_grow hv]
    exact ⟨Nat.le_refl _, Nat.le_refl _⟩
  case lastore =>
    simp only [qstep, qnx] at hs
    repeat' split at hs
    all_goals cases hs
    rename_i hv
    rw [qlast_grow hv]
    exact ⟨Nat.le_refl _, Nat.le_refl _⟩
  case new idx =>
    simp only [qstep, qnx] at hs
    cases hs
    exact ⟨Nat.le_succ _, Nat.le_add_right _ _⟩
  case newarray ty =>
    cases ty
    case int =>
      simp only [qstep, qnx] at hs
      repeat' split at hs
      all_goals cases hs
      exact ⟨Nat.le_succ _, Nat.le_add_right _ _⟩
    case long =>
      simp only [qstep, qnx] at hs
      repeat' split at hs
      all_goals cases hs
      exact ⟨Nat.le_succ _, Nat.le_add_right _ _⟩
    all_goals exact absurd (show (none : Option (qF ⊕ qRes)) = some _ from hs) (by simp)
  case anewarray idx =>
    simp only [qstep, qnx] at hs
    repeat' split at hs
    all_goals cases hs
    exact ⟨Nat.le_succ _, Nat.le_add_right _ _⟩
  case invokestatic idx =>
    simp only [qstep, qnx] at hs
    repeat' split at hs
    all_goals cases hs
    · rename_i hv
      exact hc _ _ _ _ _ hv
    · rename_i hv
      rw [qcopy_grow hv]; exact ⟨Nat.le_refl _, Nat.le_refl _⟩
  case invokevirtual idx =>
    simp only [qstep, qnx] at hs
    repeat' split at hs
    all_goals cases hs
    · rename_i hv
      exact hc _ _ _ _ _ hv
    · exact ⟨Nat.le_succ _, Nat.le_add_right _ _⟩
    · exact ⟨Nat.le_refl _, Nat.le_refl _⟩
    · exact ⟨Nat.le_refl _, Nat.le_refl _⟩
  case aastore =>
    simp only [qstep, qnx] at hs
    repeat' split at hs
    all_goals cases hs
    rename_i hv
    rw [qaast_grow hv]; exact ⟨Nat.le_refl _, Nat.le_refl _⟩
  case invokespecial idx =>
    simp only [qstep, qnx] at hs
    repeat' split at hs
    all_goals cases hs
    · exact ⟨Nat.le_refl _, Nat.le_refl _⟩
    · rename_i hv
      exact hc _ _ _ _ _ hv
  all_goals first
    | exact absurd (show (none : Option (qF ⊕ qRes)) = some _ from hs) (by simp)
    | (simp only [qstep, qnx, qld1, qst1] at hs
       repeat' split at hs
       all_goals cases hs
       all_goals exact ⟨Nat.le_refl _, Nat.le_refl _⟩)
set_option maxHeartbeats 8000000 in
theorem qstep_end {call : Nat → List Value → qH → Option qRes} {rt : Int} {i : qI} {pc : Nat} {L : qL} {st : List Value} {h : qH} {r : qRes} (hs : qstep call rt i pc L st h = some (.inr r)) : r.2 = h := by
  obtain ⟨ins, ln, aux⟩ := i
  cases ins
  case newarray ty =>
    cases ty
    all_goals first
      | exact absurd (show (none : Option (qF ⊕ qRes)) = some _ from hs) (by simp)
      | (simp only [qstep, qnx] at hs
         repeat' split at hs
         all_goals cases hs)
  all_goals first
    | exact absurd (show (none : Option (qF ⊕ qRes)) = some _ from hs) (by simp)
    | (simp only [qstep, qnx, qld1, qst1] at hs
       repeat' split at hs
       all_goals cases hs
       all_goals rfl)
theorem qgo_grow {call : Nat → List Value → qH → Option qRes} (hc : qGr call) {rt : Int} {K : List (Nat × qI)} : ∀ (n pc : Nat) (L : qL) (st : List Value) (h : qH) (v : Option Value) (h1 : qH), qgo call rt K n pc L st h = some (v, h1) → h.2.1 ≤ h1.2.1 ∧ h.2.2 ≤ h1.2.2 := by
  intro n
  induction n with
  | zero => intro pc L st h v h1 e; cases e
  | succ n ih =>
    intro pc L st h v h1 e
    unfold qgo at e
    cases hk : K.lookup pc with
    | none => rw [hk] at e; cases e
    | some i =>
      rw [hk] at e
      dsimp only at e
      cases hs : qstep call rt i pc L st h with
      | none => rw [hs] at e; cases e
      | some w =>
        rw [hs] at e
        match w, hs, e with
        | .inr r, hs, e =>
          have h9 := qstep_end hs
          cases e
          rw [show h1 = h from h9]
          exact ⟨Nat.le_refl _, Nat.le_refl _⟩
        | .inl f, hs, e =>
          have h9 := qstep_grow hc hs
          have h8 := ih _ _ _ _ _ _ e
          exact ⟨Nat.le_trans h9.1 h8.1, Nat.le_trans h9.2 h8.2⟩
theorem qlookup_mem {K : List (Nat × qI)} {pc : Nat} {i : qI} : K.lookup pc = some i → (pc, i) ∈ K := by
  induction K with
  | nil => intro h; cases h
  | cons x xs ih =>
    intro h
    obtain ⟨a, b⟩ := x
    rw [List.lookup_cons] at h
    split at h
    · rename_i hb
      cases h
      rw [eq_of_beq hb]
      exact List.mem_cons_self
    · exact List.mem_cons_of_mem _ (ih h)
def qrtp (rt : Int) (ret : Option FieldType) : Prop := match ret with
  | none => rt = 4
  | some ty => qfk rt ty = true ∨ rt = 9
section QSOUND
variable {p : Program} {l : Launch} {e : Env} {R : Room} {s : State} {m : MethodId} {args : Array Value} {below : List Frame} {meth : Method} {c : Code} {Q : State → Prop} {G : qE} {cc : ByteArray} {o nL n0 s0 d : Nat} {ini : Bool} {rt : Int} {call : Nat → List Value → qH → Option qRes} {K : List (Nat × qI)} {v : Option Value} {h1 : qH}
/-- a body: from every state of the pure machine that comes to an end, the model's comes to Q, if it does from the end -/
theorem q_go (C : qCx p s m args meth c G o ini cc nL) (hall : K.all (qchk o ini cc) = true) (hcall : qCok d call) (hRd : d + 5 ≤ R.frames ∧ 40 * d + 200 ≤ R.locals) (hcap : h1.2.1 - n0 ≤ R.cells ∧ h1.2.2 - s0 ≤ R.slots)
    (hret : ∀ (pc : Nat) (L : qL) (st : List Value) (i : qI), qchk o ini cc (pc, i) = true → qstep call rt i pc L st h1 = some (.inr (v, h1)) → qS p l e R s m args below meth c G nL n0 s0 Q pc L st h1) :
    ∀ (n pc : Nat) (L : qL) (st : List Value) (h : qH), n0 ≤ h.2.1 → s0 ≤ h.2.2 → qgo call rt K n pc L st h = some (v, h1) → qS p l e R s m args below meth c G nL n0 s0 Q pc L st h := by
  have hgr : qGr call := fun mi a h v h1 e => ⟨(hcall mi a h v h1 e).1, (hcall mi a h v h1 e).2.1⟩
  intro n
  induction n with
  | zero => intro pc L st h _ _ e; cases e
  | succ n ih =>
    intro pc L st h hn0 hs0 e
    unfold qgo at e
    cases hk : K.lookup pc with
    | none => rw [hk] at e; cases e
    | some i =>
      rw [hk] at e
      dsimp only at e
      have hck : qchk o ini cc (pc, i) = true := List.all_eq_true.mp hall _ (qlookup_mem hk)
      cases hs : qstep call rt i pc L st h with
      | none => rw [hs] at e; cases e
      | some w =>
        rw [hs] at e
        match w, hs, e with
        | .inr r, hs, e =>
          have h9 := qstep_end hs
          cases e
          cases (show h1 = h from h9)
          exact hret pc L st i hck hs
        | .inl f, hs, e =>
          have h9 := qstep_grow hgr hs
          have h8 := qgo_grow hgr _ _ _ _ _ _ _ e
          exact q_step C hck hcall hRd hs hn0 hs0 ⟨by omega, by omega⟩ (ih _ _ _ _ (Nat.le_trans hn0 h9.1) (Nat.le_trans hs0 h9.2) e)
/-- the end of a method that a call waits for -/
theorem q_ret (C : qCx p s m args meth c G o ini cc nL) (hlocks : meth.locks = false) {ret : Option FieldType} (hr : meth.sig.returnType = ret)
    (hrt : qrtp rt ret) {pc : Nat} {L : qL} {st : List Value} {i : qI} (hck : qchk o ini cc (pc, i) = true) (hs : qstep call rt i pc L st h1 = some (.inr (v, h1))) :
    qS p l e R s m args below meth c G nL n0 s0 (MQ below (qQc G v h1) args s (h1.2.1 - n0) (h1.2.2 - s0) (fun x => gB G ≤ x)) pc L st h1 := by
  obtain ⟨hd, hlen⟩ := qchk_dec hck
  obtain ⟨ins, ln, aux⟩ := i
  dsimp only at hd hlen
  cases ins
  case ireturn =>
    rcases hlen with h0 | rfl
    · simp [qlen] at h0
    simp only [qstep] at hs
    split at hs
    · split at hs
      · rename_i x hfx
        cases hs
        intro H locs ls hR hlo hL
        match ret, hr, hrt with
        | none, hr, hrt =>
          rw [show rt = 4 from hrt] at hfx
          simp [qfit] at hfx
        | some ty, hr, hrt =>
          rcases hrt with hk | hk
          · have h9 := qfit_ty (G := G) hk hfx
            cases ty <;> simp only [qfk, beq_iff_eq, Bool.false_eq_true] at hk
            case int => exact W.iret C.1 C.2.1 hr (fun t ht hW => ⟨rfl, by rw [ht]; exact hR⟩) hlo hd hlocks
            case boolean => exact W.zret C.1 C.2.1 hr h9.1 (fun t ht hW => ⟨rfl, by rw [ht]; exact hR⟩) hlo hd hlocks
            all_goals (subst hk; simp [qfit] at hfx)
          · rw [hk] at hfx
            simp [qfit] at hfx
      · cases hs
    · cases hs
  case lreturn =>
    rcases hlen with h0 | rfl
    · simp [qlen] at h0
    simp only [qstep] at hs
    split at hs
    · split at hs
      · rename_i x hfx
        cases hs
        intro H locs ls hR hlo hL
        subst hfx
        match ret, hr, hrt with
        | none, hr, hrt => exact absurd (show (1 : Int) = 4 from hrt) (by decide)
        | some ty, hr, hrt =>
          rcases hrt with hk | hk
          · cases ty <;> simp only [qfk, beq_iff_eq, Bool.false_eq_true] at hk
            case long => exact W.lret C.1 C.2.1 hr (fun t ht hW => ⟨rfl, by rw [ht]; exact hR⟩) hlo hd hlocks
            all_goals exact absurd hk (by decide)
          · exact absurd hk (by decide)
      · cases hs
    · cases hs
  case areturn =>
    rcases hlen with h0 | rfl
    · simp [qlen] at h0
    have hty : rt = 2 → ∃ ty, ret = some ty ∧ ((∃ n, ty = .object n) ∨ ∃ t, ty = .array t) := by
      intro hfx
      subst hfx
      clear hr
      match ret, hrt with
      | none, hrt => exact absurd (show (2 : Int) = 4 from hrt) (by decide)
      | some ty, hrt =>
        rcases hrt with hk | hk
        · cases ty <;> simp only [qfk, beq_iff_eq, Bool.false_eq_true] at hk
          case object n => exact ⟨_, rfl, Or.inl ⟨_, rfl⟩⟩
          case array n => exact ⟨_, rfl, Or.inr ⟨_, rfl⟩⟩
          all_goals exact absurd hk (by decide)
        · exact absurd hk (by decide)
    simp only [qstep] at hs
    split at hs
    · split at hs
      · rename_i x hfx
        cases hs
        intro H locs ls hR hlo hL
        obtain ⟨ty, rfl, h9⟩ := hty hfx
        exact W.aret C.1 C.2.1 hr h9 (Or.inr ⟨_, rfl⟩) (fun t ht hW => ⟨rfl, by rw [ht]; exact hR⟩) hlo hd hlocks
      · cases hs
    · split at hs
      · rename_i hfx
        cases hs
        intro H locs ls hR hlo hL
        obtain ⟨ty, rfl, h9⟩ := hty hfx
        exact W.aret C.1 C.2.1 hr h9 (Or.inl rfl) (fun t ht hW => ⟨rfl, by rw [ht]; exact hR⟩) hlo hd hlocks
      · cases hs
    · cases hs
  case return_ =>
    rcases hlen with h0 | rfl
    · simp [qlen] at h0
    simp only [qstep] at hs
    split at hs
    · split at hs
      · rename_i hfx
        cases hs
        intro H locs ls hR hlo hL
        subst hfx
        match ret, hr, hrt with
        | none, hr, hrt => exact W.vret C.1 C.2.1 hr (fun t ht hW => ⟨rfl, by rw [ht]; exact hR⟩) hlo hd hlocks
        | some ty, hr, hrt =>
          rcases hrt with hk | hk
          · cases ty <;> simp only [qfk, beq_iff_eq, Bool.false_eq_true] at hk
            all_goals exact absurd hk (by decide)
          · exact absurd hk (by decide)
      · cases hs
    · cases hs
  case newarray ty =>
    cases ty
    all_goals first
      | exact absurd (show (none : Option (qF ⊕ qRes)) = some _ from hs) (by simp)
      | (simp only [qstep, qnx] at hs
         repeat' split at hs
         all_goals cases hs)
  all_goals first
    | exact absurd (show (none : Option (qF ⊕ qRes)) = some _ from hs) (by simp)
    | (simp only [qstep, qnx, qld1, qst1] at hs
       repeat' split at hs
       all_goals cases hs)
end QSOUND
/-- the places of the arguments at the entry -/
theorem qargs_len (G : qE) : ∀ vs : List Value, (lg_sl (vs.map (tV G))).length = (qargs vs).length
  | [] => rfl
  | v :: vs => by
    have ih := qargs_len G vs
    show (List.flatMap _ (tV G v :: vs.map (tV G))).length = _
    rw [List.flatMap_cons, List.length_append]
    rw [show (List.flatMap _ (vs.map (tV G))).length = (qargs vs).length from ih]
    show _ = (if qlong (some v) then some v :: none :: qargs vs else some v :: qargs vs).length
    rw [tV_cat]
    by_cases hc : v.category = 2
    · rw [if_pos hc, if_pos (show qlong (some v) = true by show (v.category == 2) = true; rw [hc]; rfl)]
      simp; omega
    · rw [if_neg hc, if_neg (show ¬ qlong (some v) = true by show ¬ (v.category == 2) = true; simpa using hc)]
      simp; omega
theorem qargs_has (G : qE) : ∀ (vs : List Value) (i k : Nat) (v : Value), (qargs vs)[k]? = some (some v) → (i + k, tV G v) ∈ lv_args i (vs.map (tV G))
  | [], _, _, _, h => by simp [qargs] at h
  | w :: vs, i, k, v, h => by
    unfold qargs at h
    show _ ∈ (i, tV G w) :: lv_args (if (tV G w).category = 2 then i + 2 else i + 1) (vs.map (tV G))
    rw [tV_cat]
    by_cases hc : w.category = 2
    · rw [if_pos (show qlong (some w) = true by show (w.category == 2) = true; rw [hc]; rfl)] at h
      rw [if_pos hc]
      match k, h with
      | 0, h => cases h; exact List.mem_cons_self
      | 1, h => cases h
      | k + 2, h =>
        refine List.mem_cons_of_mem _ ?_
        rw [show i + (k + 2) = (i + 2) + k by omega]
        exact qargs_has G vs (i + 2) k v h
    · rw [if_neg (show ¬ qlong (some w) = true by show ¬ (w.category == 2) = true; simpa using hc)] at h
      rw [if_neg hc]
      match k, h with
      | 0, h => cases h; exact List.mem_cons_self
      | k + 1, h =>
        refine List.mem_cons_of_mem _ ?_
        rw [show i + (k + 1) = (i + 1) + k by omega]
        exact qargs_has G vs (i + 1) k v h
theorem q_entry (G : qE) {maxL : Nat} {vs : List Value} {L : qL} (h : qinit maxL vs = some L) : qLr G maxL L ((lg_sl (vs.map (tV G)) ++ List.replicate (maxL - (lg_sl (vs.map (tV G))).length) Slot.unset).toArray) := by
  unfold qinit at h
  split at h
  · rename_i hl
    cases h
    have h9 := lv_entry (vs.map (tV G)) (n := maxL) (by rw [qargs_len]; exact hl)
    refine ⟨by simp; omega, h9.1, h9.2.1, fun k v hk => ?_⟩
    have hk2 : (qargs vs)[k]? = some (some v) := by
      by_cases hkl : k < (qargs vs).length
      · rw [List.getElem?_append_left hkl] at hk; exact hk
      · rw [List.getElem?_append_right (by omega)] at hk
        have := List.mem_of_getElem? hk
        rw [List.mem_replicate] at this
        exact absurd this.2 (by simp)
    have h8 := qargs_has G vs 0 k v hk2
    rw [Nat.zero_add] at h8
    exact h9.2.2 _ h8
  · cases h
/-- EVERY RUN of the pure machine is a contract of the method -/
theorem q_met (N : Nat) : ∀ d, qCok d (qrun N d) := by
  intro d
  induction d with
  | zero => intro mi a h v h1 e; cases e
  | succ d ih =>
    intro mi a h v h1 e
    unfold qrun at e
    cases hq : qms[mi]? with
    | none => rw [hq] at e; cases e
    | some q =>
      rw [hq] at e
      dsimp only at e
      cases hL : qinit q.2.2.1 a with
      | none => rw [hL] at e; cases e
      | some L =>
        rw [hL] at e
        dsimp only at e
        have hgr : qGr (qrun N d) := fun mi a h v h1 e => ⟨(ih mi a h v h1 e).1, (ih mi a h v h1 e).2.1⟩
        have hg := qgo_grow hgr _ _ _ _ _ _ _ e
        refine ⟨hg.1, hg.2, fun q' hq' l G => ?_⟩
        cases hq.symm.trans hq'
        obtain ⟨m1, m2, m3, m4, m5, m6, m7⟩ := qmo_all mi q hq
        refine va_MetF (cc := q.2.1) (maxL := q.2.2.1) (ret := q.2.2.2.1) m3 rfl ?_
        intro p e2 s m args below meth c s₁ B hml hv
        obtain ⟨rfl, hR, hK⟩ := hv
        have hts := atoms_spec (ws := qws q) B.pre
        have hown : s.vm.findClass q.1.cls = some m.cls := findClass_of_methodNamed B.named
        have hnm : meth.name = q.1.name := (name_of_methodNamed B.named B.method).1
        have C : qCx p s m ((a.map (tV G)).toArray) meth c G q.2.2.2.2.2.1 (q.1.name == "<init>") q.2.1 q.2.2.1 := ⟨B.exec, B.bytes, hml, by rw [← m1]; exact hown, fun w hw => hts w (List.mem_cons_of_mem _ hw), hK, fun z => by rw [hnm]; exact eq_of_beq z⟩
        have hgo := q_go (l := l) (e := e2) (R := (headSpec (qws q) (qrm (d + 1) (h1.2.1 - h.2.1) (h1.2.2 - h.2.2))).room) (below := below) (n0 := h.2.1) (s0 := h.2.2) (v := v) (h1 := h1) (rt := q.2.2.2.2.1) (d := d) C m7 ih ⟨Nat.le_refl _, Nat.le_of_eq (by show 40 * d + 200 = 40 * (d + 1) + 160; omega)⟩ ⟨Nat.le_refl _, Nat.le_refl _⟩ (fun pc L st i hck hs => q_ret C B.notSynchronized B.returns m6 hck hs) N 0 L [] h (Nat.le_refl _) (Nat.le_refl _) e
        rw [lg_entry_eq]
        have h9 := hgo s.heap [] _ hR (fun q hq => absurd hq List.not_mem_nil) (q_entry G hL)
        rw [Nat.sub_self, Nat.sub_self] at h9
        exact h9

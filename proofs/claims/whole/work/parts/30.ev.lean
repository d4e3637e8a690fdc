/-! ===== WHAT A RUN COMES TO: rules to rewrite by ===== -/
def qEv (d : Nat) (rt : Int) (K : List (Nat × qI)) (pc : Nat) (L : qL) (st : List Value) (h : qH) (R : qRes) : Prop := ∃ N n, qgo (qrun N d) rt K n pc L st h = some R
def qMC (d mi : Nat) (a : List Value) (h : qH) (R : qRes) : Prop := ∃ N, qrun N d mi a h = some R
section EV
variable {d : Nat} {rt : Int} {K : List (Nat × qI)} {pc : Nat} {L : qL} {st : List Value} {h : qH} {R : qRes} {i : qI}
theorem ev_to {f : qF} (hk : K.lookup pc = some i) (hs : ∀ call, qstep call rt i pc L st h = some (.inl f)) : qEv d rt K pc L st h R ↔ qEv d rt K f.1 f.2.1 f.2.2.1 f.2.2.2 R := by
  constructor
  · rintro ⟨N, n, e⟩
    match n, e with
    | 0, e => cases e
    | n + 1, e =>
      unfold qgo at e
      rw [hk] at e
      dsimp only at e
      rw [hs] at e
      exact ⟨N, n, e⟩
  · rintro ⟨N, n, e⟩
    refine ⟨N, n + 1, ?_⟩
    unfold qgo
    rw [hk]
    dsimp only
    rw [hs]
    exact e
theorem ev_end {r : qRes} (hk : K.lookup pc = some i) (hs : ∀ call, qstep call rt i pc L st h = some (.inr r)) : qEv d rt K pc L st h R ↔ R = r := by
  constructor
  · rintro ⟨N, n, e⟩
    match n, e with
    | 0, e => cases e
    | n + 1, e =>
      unfold qgo at e
      rw [hk] at e
      dsimp only at e
      rw [hs] at e
      exact (Option.some.inj e).symm
  · rintro rfl
    refine ⟨0, 1, ?_⟩
    unfold qgo
    rw [hk]
    dsimp only
    rw [hs]
theorem ev_no (hk : K.lookup pc = some i) (hs : ∀ call, qstep call rt i pc L st h = none) : qEv d rt K pc L st h R ↔ False := by
  constructor
  · rintro ⟨N, n, e⟩
    match n, e with
    | 0, e => cases e
    | n + 1, e =>
      unfold qgo at e
      rw [hk] at e
      dsimp only at e
      rw [hs] at e
      cases e
  · exact False.elim
theorem ev_call {mi pc' : Nat} {a rest : List Value} (hk : K.lookup pc = some i) (hs : ∀ call, qstep call rt i pc L st h = match call mi a h with | some (v, h1) => some (.inl (pc', L, v.toList ++ rest, h1)) | none => none) :
    qEv d rt K pc L st h R ↔ ∃ v h1, qMC d mi a h (v, h1) ∧ qEv d rt K pc' L (v.toList ++ rest) h1 R := by
  constructor
  · rintro ⟨N, n, e⟩
    match n, e with
    | 0, e => cases e
    | n + 1, e =>
      unfold qgo at e
      rw [hk] at e
      dsimp only at e
      rw [hs] at e
      cases hc : qrun N d mi a h with
      | none => rw [hc] at e; cases e
      | some r =>
        rw [hc] at e
        exact ⟨r.1, r.2, ⟨N, hc⟩, ⟨N, n, e⟩⟩
  · rintro ⟨v, h1, ⟨N1, e1⟩, ⟨N2, n, e2⟩⟩
    refine ⟨N1 + N2, n + 1, ?_⟩
    unfold qgo
    rw [hk]
    dsimp only
    rw [hs, qrun_mono (Nat.le_add_right N1 N2) d _ _ _ _ e1]
    exact qgo_mono (qrun_mono (Nat.le_add_left N2 N1) d) _ _ _ _ _ _ _ (Nat.le_refl n) e2
/-- a call is its body's run -/
theorem cl_body {mi : Nat} {a : List Value} {q : qM} (hq : qms[mi]? = some q) (hL : qinit q.2.2.1 a = some L) : qMC (d + 1) mi a h R ↔ qEv d q.2.2.2.2.1 q.2.2.2.2.2.2 0 L [] h R := by
  constructor
  · rintro ⟨N, e⟩
    unfold qrun at e
    rw [hq] at e
    dsimp only at e
    rw [hL] at e
    exact ⟨N, N, e⟩
  · rintro ⟨N, n, e⟩
    refine ⟨N + n, ?_⟩
    unfold qrun
    rw [hq]
    dsimp only
    rw [hL]
    exact qgo_mono (qrun_mono (Nat.le_add_right N n) d) _ _ _ _ _ _ _ (Nat.le_add_left n N) e
theorem cl_deep {mi : Nat} {a : List Value} (e : qMC d mi a h R) : qMC (d + 1) mi a h R := by
  obtain ⟨N, e⟩ := e
  exact ⟨N, qrun_deep d _ _ _ _ e⟩
theorem cl_le {d' mi : Nat} {a : List Value} (hd : d ≤ d') (e : qMC d mi a h R) : qMC d' mi a h R := by
  obtain ⟨k, rfl⟩ := Nat.le.dest hd
  induction k with
  | zero => exact e
  | succ k ih => exact cl_deep (ih (Nat.le_add_right d k))
theorem ev_load {t : Int} {k ln : Nat} (hk : K.lookup pc = some i) (hs : ∀ call, qstep call rt i pc L st h = qld1 (qgL L k) t (pc + ln) L st h) : qEv d rt K pc L st h R ↔ ∃ v, qgL L k = some v ∧ qfit t v = true ∧ qEv d rt K (pc + ln) L (v :: st) h R := by
  cases hg : qgL L k with
  | none => rw [ev_no hk (fun c => by rw [hs, hg]; rfl)]; simp
  | some v =>
    by_cases hf : qfit t v = true
    · rw [ev_to (f := (pc + ln, L, v :: st, h)) hk (fun c => by rw [hs, hg]; simp only [qld1]; rw [if_pos hf]; rfl)]; simp [hf]
    · rw [ev_no hk (fun c => by rw [hs, hg]; simp only [qld1]; rw [if_neg hf])]; simp [hf]
theorem ev_store {t : Int} {w k ln : Nat} {v : Value} (hk : K.lookup pc = some i) (hs : ∀ call, qstep call rt i pc L (v :: st) h = qst1 t w k (pc + ln) L (v :: st) h) : qEv d rt K pc L (v :: st) h R ↔ qfit t v = true ∧ k + w < L.length ∧ qEv d rt K (pc + ln) (qsL v k 0 L) st h R := by
  by_cases hf : qfit t v = true ∧ k + w < L.length
  · rw [ev_to (f := (pc + ln, qsL v k 0 L, st, h)) hk (fun c => by rw [hs]; simp only [qst1]; rw [if_pos hf]; rfl)]; simp [hf]
  · rw [ev_no hk (fun c => by rw [hs]; simp only [qst1]; rw [if_neg hf])]
    constructor
    · exact False.elim
    · exact fun z => hf ⟨z.1, z.2.1⟩
theorem ev_iinc {k ln : Nat} {n : Int} {aux : List Int} (hk : K.lookup pc = some (.iinc k n, ln, aux)) : qEv d rt K pc L st h R ↔ ∃ z, qgL L k = some (.int z) ∧ qEv d rt K (pc + ln) (qsL (.int (z + Int32.ofInt n)) k 0 L) st h R := by
  cases hg : qgL L k with
  | none => rw [ev_no hk (fun c => by simp only [qstep, hg])]; simp
  | some v =>
    cases v
    case int z => rw [ev_to (f := (pc + ln, qsL (.int (z + Int32.ofInt n)) k 0 L, st, h)) hk (fun c => by simp only [qstep, hg]; rfl)]; simp
    all_goals (rw [ev_no hk (fun c => by simp only [qstep, hg])]; simp)
theorem ev_if {k : ClassFile.Cond} {off : Int} {ln : Nat} {aux : List Int} {z : Int32} (hk : K.lookup pc = some (.ifCond k off, ln, aux)) : qEv d rt K pc L (.int z :: st) h R ↔ if qcnd k z 0 = true then qEv d rt K (qtgt pc off) L st h R else qEv d rt K (pc + ln) L st h R := by
  by_cases hc : qcnd k z 0 = true
  · rw [ev_to (f := (qtgt pc off, L, st, h)) hk (fun c => by simp only [qstep]; rw [if_pos hc]; rfl), if_pos hc]
  · rw [ev_to (f := (pc + ln, L, st, h)) hk (fun c => by simp only [qstep]; rw [if_neg hc]; rfl), if_neg hc]
theorem ev_icmp {k : ClassFile.Cond} {off : Int} {ln : Nat} {aux : List Int} {z w : Int32} (hk : K.lookup pc = some (.if_icmp k off, ln, aux)) : qEv d rt K pc L (.int w :: .int z :: st) h R ↔ if qcnd k z w = true then qEv d rt K (qtgt pc off) L st h R else qEv d rt K (pc + ln) L st h R := by
  by_cases hc : qcnd k z w = true
  · rw [ev_to (f := (qtgt pc off, L, st, h)) hk (fun c => by simp only [qstep]; rw [if_pos hc]; rfl), if_pos hc]
  · rw [ev_to (f := (pc + ln, L, st, h)) hk (fun c => by simp only [qstep]; rw [if_neg hc]; rfl), if_neg hc]
theorem ev_get {idx ln a : Nat} {aux : List Int} (hk : K.lookup pc = some (.getfield idx, ln, aux)) : qEv d rt K pc L (.ref a :: st) h R ↔ ∃ v, qget h a (qx aux 0) (qx aux 1) = some v ∧ qEv d rt K (pc + ln) L (v :: st) h R := by
  cases hg : qget h a (qx aux 0) (qx aux 1) with
  | none => rw [ev_no hk (fun c => by simp only [qstep, hg])]; simp
  | some v => rw [ev_to (f := (pc + ln, L, v :: st, h)) hk (fun c => by simp only [qstep, hg]; rfl)]; simp
theorem ev_put {idx ln a : Nat} {v : Value} {aux : List Int} (hk : K.lookup pc = some (.putfield idx, ln, aux)) : qEv d rt K pc L (v :: .ref a :: st) h R ↔ qfit (aux.getD 2 9) v = true ∧ ∃ h1, qput h a (qx aux 0) (qx aux 1) v = some h1 ∧ qEv d rt K (pc + ln) L st h1 R := by
  by_cases hf : qfit (aux.getD 2 9) v = true
  · cases hg : qput h a (qx aux 0) (qx aux 1) v with
    | none => rw [ev_no hk (fun c => by simp only [qstep]; rw [if_pos hf, hg])]; simp
    | some h1 => rw [ev_to (f := (pc + ln, L, st, h1)) hk (fun c => by simp only [qstep]; rw [if_pos hf, hg]; rfl)]
                 exact ⟨fun z => ⟨hf, h1, rfl, z⟩, fun ⟨_, h2, e2, z⟩ => by cases e2; exact z⟩
  · rw [ev_no hk (fun c => by simp only [qstep]; rw [if_neg hf])]
    exact ⟨False.elim, fun z => hf z.1⟩
theorem ev_iald {a ln : Nat} {z : Int32} {aux : List Int} (hk : K.lookup pc = some (.iaload, ln, aux)) : qEv d rt K pc L (.int z :: .ref a :: st) h R ↔ ∃ v, qiald h a z = some v ∧ qEv d rt K (pc + ln) L (.int v :: st) h R := by
  cases hg : qiald h a z with
  | none => rw [ev_no hk (fun c => by simp only [qstep, hg])]; simp
  | some v => rw [ev_to (f := (pc + ln, L, .int v :: st, h)) hk (fun c => by simp only [qstep, hg]; rfl)]; simp
theorem ev_lald {a ln : Nat} {z : Int32} {aux : List Int} (hk : K.lookup pc = some (.laload, ln, aux)) : qEv d rt K pc L (.int z :: .ref a :: st) h R ↔ ∃ v, qlald h a z = some v ∧ qEv d rt K (pc + ln) L (.long v :: st) h R := by
  cases hg : qlald h a z with
  | none => rw [ev_no hk (fun c => by simp only [qstep, hg])]; simp
  | some v => rw [ev_to (f := (pc + ln, L, .long v :: st, h)) hk (fun c => by simp only [qstep, hg]; rfl)]; simp
theorem ev_aald {a ln : Nat} {z : Int32} {aux : List Int} (hk : K.lookup pc = some (.aaload, ln, aux)) : qEv d rt K pc L (.int z :: .ref a :: st) h R ↔ ∃ v, qaald h a z = some v ∧ qEv d rt K (pc + ln) L (va_rf v :: st) h R := by
  cases hg : qaald h a z with
  | none => rw [ev_no hk (fun c => by simp only [qstep, hg])]; simp
  | some v => rw [ev_to (f := (pc + ln, L, va_rf v :: st, h)) hk (fun c => by simp only [qstep, hg]; rfl)]; simp
theorem ev_iast {a ln : Nat} {z w : Int32} {aux : List Int} (hk : K.lookup pc = some (.iastore, ln, aux)) : qEv d rt K pc L (.int w :: .int z :: .ref a :: st) h R ↔ ∃ h1, qiast h a z w = some h1 ∧ qEv d rt K (pc + ln) L st h1 R := by
  cases hg : qiast h a z w with
  | none => rw [ev_no hk (fun c => by simp only [qstep, hg])]; simp
  | some h1 => rw [ev_to (f := (pc + ln, L, st, h1)) hk (fun c => by simp only [qstep, hg]; rfl)]; simp
theorem ev_last {a ln : Nat} {z : Int32} {w : Int64} {aux : List Int} (hk : K.lookup pc = some (.lastore, ln, aux)) : qEv d rt K pc L (.long w :: .int z :: .ref a :: st) h R ↔ ∃ h1, qlast h a z w = some h1 ∧ qEv d rt K (pc + ln) L st h1 R := by
  cases hg : qlast h a z w with
  | none => rw [ev_no hk (fun c => by simp only [qstep, hg])]; simp
  | some h1 => rw [ev_to (f := (pc + ln, L, st, h1)) hk (fun c => by simp only [qstep, hg]; rfl)]; simp
theorem ev_alen {a ln : Nat} {aux : List Int} (hk : K.lookup pc = some (.arraylength, ln, aux)) : qEv d rt K pc L (.ref a :: st) h R ↔ ∃ v, qalen h a = some v ∧ qEv d rt K (pc + ln) L (.int v :: st) h R := by
  cases hg : qalen h a with
  | none => rw [ev_no hk (fun c => by simp only [qstep, hg])]; simp
  | some v => rw [ev_to (f := (pc + ln, L, .int v :: st, h)) hk (fun c => by simp only [qstep, hg]; rfl)]; simp
theorem ev_newI {ln : Nat} {z : Int32} {aux : List Int} (hk : K.lookup pc = some (.newarray .int, ln, aux)) : qEv d rt K pc L (.int z :: st) h R ↔ ¬ (z < 0 ∨ 1000000 < z.toNatClampNeg) ∧ qEv d rt K (pc + ln) L (.ref h.2.1 :: st) (qnew h (.inl (0, z.toNatClampNeg, .inl (fun _ => 0))) z.toNatClampNeg) R := by
  by_cases hc : z < 0 ∨ 1000000 < z.toNatClampNeg
  · rw [ev_no hk (fun c => by simp only [qstep]; rw [if_pos hc])]; simp only [hc, not_true, false_and]
  · rw [ev_to (f := (pc + ln, L, .ref h.2.1 :: st, qnew h (.inl (0, z.toNatClampNeg, .inl (fun _ => 0))) z.toNatClampNeg)) hk (fun c => by simp only [qstep]; rw [if_neg hc]; rfl)]; simp only [hc, not_false_eq_true, true_and]
theorem ev_newL {ln : Nat} {z : Int32} {aux : List Int} (hk : K.lookup pc = some (.newarray .long, ln, aux)) : qEv d rt K pc L (.int z :: st) h R ↔ ¬ (z < 0 ∨ 1000000 < z.toNatClampNeg) ∧ qEv d rt K (pc + ln) L (.ref h.2.1 :: st) (qnew h (.inl (1, z.toNatClampNeg, .inr (.inl (fun _ => 0)))) z.toNatClampNeg) R := by
  by_cases hc : z < 0 ∨ 1000000 < z.toNatClampNeg
  · rw [ev_no hk (fun c => by simp only [qstep]; rw [if_pos hc])]; simp only [hc, not_true, false_and]
  · rw [ev_to (f := (pc + ln, L, .ref h.2.1 :: st, qnew h (.inl (1, z.toNatClampNeg, .inr (.inl (fun _ => 0)))) z.toNatClampNeg)) hk (fun c => by simp only [qstep]; rw [if_neg hc]; rfl)]; simp only [hc, not_false_eq_true, true_and]
theorem ev_newR {ln idx : Nat} {z : Int32} (hk : K.lookup pc = some (.anewarray idx, ln, [2])) : qEv d rt K pc L (.int z :: st) h R ↔ ¬ (z < 0 ∨ 1000000 < z.toNatClampNeg) ∧ qEv d rt K (pc + ln) L (.ref h.2.1 :: st) (qnew h (.inl (2, z.toNatClampNeg, .inr (.inr (fun _ => none)))) z.toNatClampNeg) R := by
  by_cases hc : z < 0 ∨ 1000000 < z.toNatClampNeg
  · rw [ev_no hk (fun c => by simp only [qstep]; rw [if_pos (hc.imp id Or.inl)])]; simp only [hc, not_true, false_and]
  · rw [ev_to (f := (pc + ln, L, .ref h.2.1 :: st, qnew h (.inl (2, z.toNatClampNeg, .inr (.inr (fun _ => none)))) z.toNatClampNeg)) hk (fun c => by simp only [qstep]; rw [if_neg (fun q => q.elim (fun a => hc (Or.inl a)) (fun b => b.elim (fun a => hc (Or.inr a)) (fun a => a (Or.inl rfl))))]; rfl)]; simp only [hc, not_false_eq_true, true_and]
theorem ev_newRR {ln idx : Nat} {z : Int32} (hk : K.lookup pc = some (.anewarray idx, ln, [3])) : qEv d rt K pc L (.int z :: st) h R ↔ ¬ (z < 0 ∨ 1000000 < z.toNatClampNeg) ∧ qEv d rt K (pc + ln) L (.ref h.2.1 :: st) (qnew h (.inl (3, z.toNatClampNeg, .inr (.inr (fun _ => none)))) z.toNatClampNeg) R := by
  by_cases hc : z < 0 ∨ 1000000 < z.toNatClampNeg
  · rw [ev_no hk (fun c => by simp only [qstep]; rw [if_pos (hc.imp id Or.inl)])]; simp only [hc, not_true, false_and]
  · rw [ev_to (f := (pc + ln, L, .ref h.2.1 :: st, qnew h (.inl (3, z.toNatClampNeg, .inr (.inr (fun _ => none)))) z.toNatClampNeg)) hk (fun c => by simp only [qstep]; rw [if_neg (fun q => q.elim (fun a => hc (Or.inl a)) (fun b => b.elim (fun a => hc (Or.inr a)) (fun a => a (Or.inr rfl))))]; rfl)]; simp only [hc, not_false_eq_true, true_and]
theorem ev_aast {a b ln : Nat} {z : Int32} {aux : List Int} (hk : K.lookup pc = some (.aastore, ln, aux)) : qEv d rt K pc L (.ref b :: .int z :: .ref a :: st) h R ↔ ∃ h1, qaast h a z b = some h1 ∧ qEv d rt K (pc + ln) L st h1 R := by
  cases hg : qaast h a z b with
  | none => rw [ev_no hk (fun c => by simp only [qstep, hg])]; simp
  | some h1 => rw [ev_to (f := (pc + ln, L, st, h1)) hk (fun c => by simp only [qstep, hg]; rfl)]; simp
theorem ev_cast {a ln idx : Nat} {aux : List Int} (hk : K.lookup pc = some (.checkcast idx, ln, aux)) : qEv d rt K pc L (.ref a :: st) h R ↔ ∃ v, qints h a = some v ∧ qEv d rt K (pc + ln) L (.ref a :: st) h R := by
  cases hg : qints h a with
  | none => rw [ev_no hk (fun c => by simp only [qstep, hg])]; simp
  | some v => rw [ev_to (f := (pc + ln, L, .ref a :: st, h)) hk (fun c => by simp only [qstep, hg]; rfl)]; simp
theorem ev_copy {a b ln idx : Nat} {z w n : Int32} (hk : K.lookup pc = some (.invokestatic idx, ln, [6])) : qEv d rt K pc L (.int n :: .int w :: .ref b :: .int z :: .ref a :: st) h R ↔ qroom st = true ∧ ∃ h1, qcopy h a z b w n = some h1 ∧ qEv d rt K (pc + ln) L st h1 R := by
  have e0 : ∀ (c : Nat → List Value → qH → Option qRes), qstep c rt (.invokestatic idx, ln, [6]) pc L (.int n :: .int w :: .ref b :: .int z :: .ref a :: st) h = if qroom st then (match qcopy h a z b w n with | some h1 => qnx (pc + ln) L st h1 | none => none) else none := by
    intro c
    simp only [qstep]
    rw [if_neg (fun q => by rcases q.1 with h9 | h9 <;> exact absurd h9 (by decide)), if_pos (show ([6] : List Int).getD 0 9 = 6 from rfl)]
    rfl
  by_cases hr : qroom st = true
  · cases hg : qcopy h a z b w n with
    | none => rw [ev_no hk (fun c => by rw [e0, if_pos hr, hg])]; simp
    | some h1 => rw [ev_to (f := (pc + ln, L, st, h1)) hk (fun c => by rw [e0, if_pos hr, hg]; rfl)]; simp [hr]
  · rw [ev_no hk (fun c => by rw [e0, if_neg hr])]; simp [hr]
theorem ev_clone {a ln idx : Nat} (hk : K.lookup pc = some (.invokevirtual idx, ln, [7])) : qEv d rt K pc L (.ref a :: st) h R ↔ qroom st = true ∧ ∃ v, qints h a = some v ∧ qEv d rt K (pc + ln) L (.ref h.2.1 :: st) (qnew h (.inl (0, v.1, .inl v.2)) v.1) R := by
  have e0 : ∀ (c : Nat → List Value → qH → Option qRes), qstep c rt (.invokevirtual idx, ln, [7]) pc L (.ref a :: st) h = if qroom st then (match qints h a with | some (n, f) => qnx (pc + ln) L (.ref h.2.1 :: st) (qnew h (.inl (0, n, .inl f)) n) | none => none) else none := by
    intro c
    simp only [qstep]
    rw [if_neg (fun q => absurd q.1 (by decide)), if_pos (show ([7] : List Int).getD 0 9 = 7 from rfl)]
    rfl
  by_cases hr : qroom st = true
  · cases hg : qints h a with
    | none => rw [ev_no hk (fun c => by rw [e0, if_pos hr, hg])]; simp
    | some v => rw [ev_to (f := (pc + ln, L, .ref h.2.1 :: st, qnew h (.inl (0, v.1, .inl v.2)) v.1)) hk (fun c => by rw [e0, if_pos hr, hg]; rfl)]; simp [hr]
  · rw [ev_no hk (fun c => by rw [e0, if_neg hr])]; simp [hr]
theorem ev_slen {a ln idx : Nat} (hk : K.lookup pc = some (.invokevirtual idx, ln, [8])) : qEv d rt K pc L (.ref a :: st) h R ↔ (qroom st = true ∧ 1 ≤ a ∧ a ≤ 8) ∧ qEv d rt K (pc + ln) L (.int (Int32.ofNat (qsln a)) :: st) h R := by
  have e0 : ∀ (c : Nat → List Value → qH → Option qRes), qstep c rt (.invokevirtual idx, ln, [8]) pc L (.ref a :: st) h = if qroom st ∧ 1 ≤ a ∧ a ≤ 8 then qnx (pc + ln) L (.int (Int32.ofNat (qsln a)) :: st) h else none := by
    intro c
    simp only [qstep]
    rw [if_neg (fun q => absurd q.1 (by decide)), if_neg (fun q => absurd q (by decide)), if_pos (show ([8] : List Int).getD 0 9 = 8 from rfl)]
  by_cases hr : qroom st = true ∧ 1 ≤ a ∧ a ≤ 8
  · rw [ev_to (f := (pc + ln, L, .int (Int32.ofNat (qsln a)) :: st, h)) hk (fun c => by rw [e0, if_pos hr]; rfl)]; simp [hr]
  · rw [ev_no hk (fun c => by rw [e0, if_neg hr])]; simp [hr]
theorem ev_schr {a ln idx : Nat} {z : Int32} (hk : K.lookup pc = some (.invokevirtual idx, ln, [9])) : qEv d rt K pc L (.int z :: .ref a :: st) h R ↔ (qroom st = true ∧ (1 ≤ a ∧ a ≤ 8) ∧ ¬ (z < 0 ∨ qsln a ≤ z.toNatClampNeg)) ∧ qEv d rt K (pc + ln) L (.int (qsch a z.toNatClampNeg) :: st) h R := by
  have e0 : ∀ (c : Nat → List Value → qH → Option qRes), qstep c rt (.invokevirtual idx, ln, [9]) pc L (.int z :: .ref a :: st) h = if qroom st ∧ (1 ≤ a ∧ a ≤ 8) ∧ ¬ (z < 0 ∨ qsln a ≤ z.toNatClampNeg) then qnx (pc + ln) L (.int (qsch a z.toNatClampNeg) :: st) h else none := by
    intro c
    simp only [qstep]
    rw [if_neg (fun q => absurd q.1 (by decide)), if_neg (fun q => absurd q (by decide)), if_neg (fun q => absurd q (by decide)), if_pos (show ([9] : List Int).getD 0 10 = 9 from rfl)]
  by_cases hr : qroom st = true ∧ (1 ≤ a ∧ a ≤ 8) ∧ ¬ (z < 0 ∨ qsln a ≤ z.toNatClampNeg)
  · rw [ev_to (f := (pc + ln, L, .int (qsch a z.toNatClampNeg) :: st, h)) hk (fun c => by rw [e0, if_pos hr]; rfl)]
    exact ⟨fun q => ⟨hr, q⟩, fun q => q.2⟩
  · rw [ev_no hk (fun c => by rw [e0, if_neg hr])]
    exact ⟨fun q => q.elim, fun q => hr q.1⟩
theorem ev_div {ln : Nat} {z w : Int32} {aux : List Int} (hk : K.lookup pc = some (.idiv, ln, aux)) : qEv d rt K pc L (.int w :: .int z :: st) h R ↔ ¬ w = 0 ∧ qEv d rt K (pc + ln) L (.int (z / w) :: st) h R := by
  by_cases hc : w = 0
  · rw [ev_no hk (fun c => by simp only [qstep]; rw [if_pos hc])]; simp [hc]
  · rw [ev_to (f := (pc + ln, L, .int (z / w) :: st, h)) hk (fun c => by simp only [qstep]; rw [if_neg hc]; rfl)]; simp [hc]
theorem ev_rem {ln : Nat} {z w : Int32} {aux : List Int} (hk : K.lookup pc = some (.irem, ln, aux)) : qEv d rt K pc L (.int w :: .int z :: st) h R ↔ ¬ w = 0 ∧ qEv d rt K (pc + ln) L (.int (z - z / w * w) :: st) h R := by
  by_cases hc : w = 0
  · rw [ev_no hk (fun c => by simp only [qstep]; rw [if_pos hc])]; simp [hc]
  · rw [ev_to (f := (pc + ln, L, .int (z - z / w * w) :: st, h)) hk (fun c => by simp only [qstep]; rw [if_neg hc]; rfl)]; simp [hc]
theorem ev_ldiv {ln : Nat} {z w : Int64} {aux : List Int} (hk : K.lookup pc = some (.ldiv, ln, aux)) : qEv d rt K pc L (.long w :: .long z :: st) h R ↔ ¬ w = 0 ∧ qEv d rt K (pc + ln) L (.long (z / w) :: st) h R := by
  by_cases hc : w = 0
  · rw [ev_no hk (fun c => by simp only [qstep]; rw [if_pos hc])]; simp [hc]
  · rw [ev_to (f := (pc + ln, L, .long (z / w) :: st, h)) hk (fun c => by simp only [qstep]; rw [if_neg hc]; rfl)]; simp [hc]
theorem ev_lrem {ln : Nat} {z w : Int64} {aux : List Int} (hk : K.lookup pc = some (.lrem, ln, aux)) : qEv d rt K pc L (.long w :: .long z :: st) h R ↔ ¬ w = 0 ∧ qEv d rt K (pc + ln) L (.long (z - z / w * w) :: st) h R := by
  by_cases hc : w = 0
  · rw [ev_no hk (fun c => by simp only [qstep]; rw [if_pos hc])]; simp [hc]
  · rw [ev_to (f := (pc + ln, L, .long (z - z / w * w) :: st, h)) hk (fun c => by simp only [qstep]; rw [if_neg hc]; rfl)]; simp [hc]
theorem ev_dup {ln : Nat} {v : Value} {aux : List Int} (hk : K.lookup pc = some (.dup, ln, aux)) : qEv d rt K pc L (v :: st) h R ↔ v.category = 1 ∧ qEv d rt K (pc + ln) L (v :: v :: st) h R := by
  by_cases hc : v.category = 1
  · rw [ev_to (f := (pc + ln, L, v :: v :: st, h)) hk (fun c => by simp only [qstep]; rw [if_pos hc]; rfl)]; simp [hc]
  · rw [ev_no hk (fun c => by simp only [qstep]; rw [if_neg hc])]; simp [hc]
theorem ev_dup2 {ln : Nat} {v w : Value} {aux : List Int} (hk : K.lookup pc = some (.dup2, ln, aux)) : qEv d rt K pc L (v :: w :: st) h R ↔ (v.category = 1 ∧ w.category = 1) ∧ qEv d rt K (pc + ln) L (v :: w :: v :: w :: st) h R := by
  by_cases hc : v.category = 1 ∧ w.category = 1
  · rw [ev_to (f := (pc + ln, L, v :: w :: v :: w :: st, h)) hk (fun c => by simp only [qstep]; rw [if_pos hc]; rfl)]; simp [hc]
  · rw [ev_no hk (fun c => by simp only [qstep]; rw [if_neg hc])]; simp only [hc, false_and]
theorem ev_pop {ln : Nat} {v : Value} {aux : List Int} (hk : K.lookup pc = some (.pop, ln, aux)) : qEv d rt K pc L (v :: st) h R ↔ v.category = 1 ∧ qEv d rt K (pc + ln) L st h R := by
  by_cases hc : v.category = 1
  · rw [ev_to (f := (pc + ln, L, st, h)) hk (fun c => by simp only [qstep]; rw [if_pos hc]; rfl)]; simp [hc]
  · rw [ev_no hk (fun c => by simp only [qstep]; rw [if_neg hc])]; simp [hc]
theorem ev_ret {ln : Nat} {z : Int32} {aux : List Int} (hk : K.lookup pc = some (.ireturn, ln, aux)) : qEv d rt K pc L [.int z] h R ↔ qfit rt (.int z) = true ∧ R = (some (.int z), h) := by
  by_cases hc : qfit rt (.int z) = true
  · rw [ev_end (r := (some (.int z), h)) hk (fun c => by simp only [qstep]; rw [if_pos hc])]; simp [hc]
  · rw [ev_no hk (fun c => by simp only [qstep]; rw [if_neg hc])]; simp [hc]
theorem ev_static {idx ln : Nat} {aux : List Int} {vs rest : List Value} (hk : K.lookup pc = some (.invokestatic idx, ln, aux)) (h0 : aux.getD 0 9 = 0 ∨ aux.getD 0 9 = 3) (hn : vs.length = qx aux 2) : qEv d rt K pc L (vs ++ rest) h R ↔ qroom rest = true ∧ ∃ v h1, qMC d (qx aux 1) vs.reverse h (v, h1) ∧ qEv d rt K (pc + ln) L (v.toList ++ rest) h1 R := by
  have e1 : (vs ++ rest).drop (qx aux 2) = rest := by rw [← hn]; exact List.drop_left
  have e2 : (vs ++ rest).take (qx aux 2) = vs := by rw [← hn]; exact List.take_left
  have e3 : qx aux 2 ≤ (vs ++ rest).length := by rw [List.length_append]; omega
  by_cases hr : qroom rest = true
  · rw [ev_call (mi := qx aux 1) (a := vs.reverse) (rest := rest) (pc' := pc + ln) hk (fun c => by
      simp only [qstep, e1, e2]
      rw [if_pos ⟨h0, e3, hr⟩]
      rfl)]
    simp only [hr, true_and]
  · rw [ev_no hk (fun c => by
      simp only [qstep, e1]
      rw [if_neg (fun z => hr z.2.2), if_neg (fun z => by rcases h0 with h9 | h9 <;> (rw [h9] at z; exact absurd z (by decide)))])]
    simp only [hr, false_and]
    simp
theorem ev_virtual {idx ln b : Nat} {aux : List Int} {vs rest : List Value} (hk : K.lookup pc = some (.invokevirtual idx, ln, aux)) (h0 : aux.getD 0 9 = 1) (hn : vs.length = qx aux 2) : qEv d rt K pc L (vs ++ .ref b :: rest) h R ↔ qroom rest = true ∧ (16 ≤ b ∧ b < h.2.1 ∧ ∃ F, h.1 b = .inr (qx aux 3, F)) ∧ ∃ v h1, qMC d (qx aux 1) (.ref b :: vs.reverse) h (v, h1) ∧ qEv d rt K (pc + ln) L (v.toList ++ rest) h1 R := by
  have e1 : (vs ++ .ref b :: rest).drop (qx aux 2) = .ref b :: rest := by rw [← hn]; exact List.drop_left
  have e2 : (vs ++ .ref b :: rest).take (qx aux 2) = vs := by rw [← hn]; exact List.take_left
  have e3 : qx aux 2 ≤ (vs ++ .ref b :: rest).length := by rw [List.length_append]; omega
  by_cases hr : qroom rest = true ∧ 16 ≤ b ∧ b < h.2.1
  · cases hb : h.1 b with
    | inl z =>
      rw [ev_no hk (fun c => by
        simp only [qstep, e1, e2]
        rw [if_pos ⟨h0, e3⟩, if_pos hr, hb])]
      simp
    | inr z =>
      obtain ⟨c0, F⟩ := z
      by_cases hc : c0 = qx aux 3
      · subst hc
        rw [ev_call (mi := qx aux 1) (a := .ref b :: vs.reverse) (rest := rest) (pc' := pc + ln) hk (fun c => by
          simp only [qstep, e1, e2]
          rw [if_pos ⟨h0, e3⟩, if_pos hr, hb]
          dsimp only
          rw [if_pos rfl]
          rfl)]
        simp [hr]
      · rw [ev_no hk (fun c => by
          simp only [qstep, e1, e2]
          rw [if_pos ⟨h0, e3⟩, if_pos hr, hb]
          dsimp only
          rw [if_neg hc])]
        simp [hc]
  · rw [ev_no hk (fun c => by
      simp only [qstep, e1]
      rw [if_pos ⟨h0, e3⟩, if_neg hr])]
    constructor
    · exact False.elim
    · exact fun z => hr ⟨z.1, z.2.1.1, z.2.1.2.1⟩
theorem ev_special {idx ln b : Nat} {aux : List Int} {vs rest : List Value} (hk : K.lookup pc = some (.invokespecial idx, ln, aux)) (h5 : ¬ aux.getD 0 9 = 5) (h0 : aux.getD 0 9 = 2 ∨ aux.getD 0 9 = 4) (hn : vs.length = qx aux 2) : qEv d rt K pc L (vs ++ .ref b :: rest) h R ↔ qroom rest = true ∧ ∃ h1, qMC d (qx aux 1) (.ref b :: vs.reverse) h (none, h1) ∧ qEv d rt K (pc + ln) L rest h1 R := by
  have e1 : (vs ++ .ref b :: rest).drop (qx aux 2) = .ref b :: rest := by rw [← hn]; exact List.drop_left
  have e2 : (vs ++ .ref b :: rest).take (qx aux 2) = vs := by rw [← hn]; exact List.take_left
  have e3 : qx aux 2 ≤ (vs ++ .ref b :: rest).length := by rw [List.length_append]; omega
  have hst : ∀ call, qroom rest = true → qstep call rt (.invokespecial idx, ln, aux) pc L (vs ++ .ref b :: rest) h = match call (qx aux 1) (.ref b :: vs.reverse) h with | some (none, h1) => some (.inl (pc + ln, L, rest, h1)) | _ => none := by
    intro call hr
    simp only [qstep, e1, e2]
    rw [if_pos e3, if_pos hr, if_neg h5, if_pos h0]
    rfl
  by_cases hr : qroom rest = true
  · simp only [hr, true_and]
    constructor
    · rintro ⟨N, n, e⟩
      match n, e with
      | 0, e => cases e
      | n + 1, e =>
        unfold qgo at e
        rw [hk] at e
        dsimp only at e
        rw [hst _ hr] at e
        cases hc : qrun N d (qx aux 1) (.ref b :: vs.reverse) h with
        | none => rw [hc] at e; cases e
        | some r =>
          obtain ⟨v, h1⟩ := r
          rw [hc] at e
          cases v with
          | none => exact ⟨h1, ⟨N, hc⟩, ⟨N, n, e⟩⟩
          | some v => cases e
    · rintro ⟨h1, ⟨N1, e1⟩, ⟨N2, n, e2⟩⟩
      refine ⟨N1 + N2, n + 1, ?_⟩
      unfold qgo
      rw [hk]
      dsimp only
      rw [hst _ hr, qrun_mono (Nat.le_add_right N1 N2) d _ _ _ _ e1]
      exact qgo_mono (qrun_mono (Nat.le_add_left N2 N1) d) _ _ _ _ _ _ _ (Nat.le_refl n) e2
  · rw [ev_no hk (fun c => by
      simp only [qstep, e1]
      rw [if_pos e3, if_neg hr])]
    simp only [hr, false_and]
    simp
theorem ev_obj {idx ln b : Nat} {aux : List Int} (hk : K.lookup pc = some (.invokespecial idx, ln, aux)) (h5 : aux.getD 0 9 = 5) (hn : qx aux 2 = 0) : qEv d rt K pc L (.ref b :: st) h R ↔ qroom st = true ∧ qEv d rt K (pc + ln) L st h R := by
  by_cases hr : qroom st = true
  · rw [ev_to (f := (pc + ln, L, st, h)) hk (fun c => by
      simp only [qstep, hn, List.drop_zero]
      rw [if_pos (Nat.zero_le _), if_pos hr, if_pos h5]
      rfl)]
    simp only [hr, true_and]
  · rw [ev_no hk (fun c => by
      simp only [qstep, hn, List.drop_zero]
      rw [if_pos (Nat.zero_le _), if_neg hr])]
    simp only [hr, false_and]
    simp
theorem ev_switch {dd lo hi : Int} {offs : Array Int} {ln : Nat} {aux : List Int} {z : Int32} (hk : K.lookup pc = some (.tableswitch dd lo hi offs, ln, aux)) : qEv d rt K pc L (.int z :: st) h R ↔ if z.toInt < lo ∨ hi < z.toInt then qEv d rt K (qtgt pc dd) L st h R else ∃ off, offs[(z.toInt - lo).toNat]? = some off ∧ qEv d rt K (qtgt pc off) L st h R := by
  by_cases hc : z.toInt < lo ∨ hi < z.toInt
  · rw [ev_to (f := (qtgt pc dd, L, st, h)) hk (fun c => by simp only [qstep]; rw [if_pos hc]; rfl), if_pos hc]
  · rw [if_neg hc]
    cases ho : offs[(z.toInt - lo).toNat]? with
    | none => rw [ev_no hk (fun c => by simp only [qstep]; rw [if_neg hc, ho])]; simp
    | some off => rw [ev_to (f := (qtgt pc off, L, st, h)) hk (fun c => by simp only [qstep]; rw [if_neg hc, ho]; rfl)]; simp
end EV

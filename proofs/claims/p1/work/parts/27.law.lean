/-! THE CLAIM OUT OF ONE WALK OF THE LAW'S BODY. Your part is whole_start (and what it stands on); all else here is the same for every law, but numbers. -/
def R_law : String := "BodyCornersLaw"
def lw_P (b : Addr) (xs : List Int32) (args : Array Value) (s : State) : Prop := args = #[.ref b] ∧ s.IntsAt b xs ∧ xs.length ≤ 7 ∧ (Jvm.Cond.and given_1 narrow_1).before args s = true
def lw_Q (_ : Array Value) (s : State) (o : Outcome) (t : State) : Prop := o = .returned (some (.int 1)) ∧ Framed s o t [] room_1.cells room_1.slots
def lw_Z (below : List Frame) (a : Array Value) (s : State) : State → Prop := fun t => ∃ o, t.status = .running ∧ Ended t below o ∧ lw_Q a s o t
/-- the law's own end, with 1 on the stack, nothing written that was there before, its room as the claim has it -/
theorem lw_ret {p : Program} {l : Launch} {e : Env} {s : State} {m : MethodId} {below : List Frame} {meth : Method} {c : Code} {b : Nat} (hx : p.tables.exec = Jvm.exec) (hb : c.code = code) (hr : meth.sig.returnType = ret) (hlocks : meth.locks = false) {pc : Nat} {H : Heap} {ls : Array Slot} (hdg : decode code pc = .ok (.ireturn, 1)) : W p l e room_1 s m #[Value.ref b] below meth c H [] room_1.cells room_1.slots (lw_Z below #[Value.ref b] s) (F0 m pc ls [.int 1]) := by
  intro T hT X
  obtain ⟨fs, hret, hrun, hended, hW, hframe⟩ := X.leave (v := some (.int 1)) (hlocks := hlocks) (fun h => by rw [hr] at h; cases h)
  have hmeth' : T.vm.method? m = some meth := X.method'
  refine ⟨T.setFrames fs, ?_, .returned (some (.int 1)), hrun, hended, rfl, ⟨_, rfl⟩, hW, hframe⟩
  jvm_step X.here [X.here.top, hx, hb, hdg, hmeth', hr, ret, narrow_b1]
  (try refine ⟨rfl, ?_⟩); (try refine ⟨rfl, ?_⟩)
  first | (intro acts; rw [hret _ acts rfl rfl rfl]) | rw [hret _ _ rfl rfl rfl]
  exact Steps.refl _
/-- what holds at the law's entry: the machine, the code, the tables' words (any of lw_tbl by 'hts w (by decide +kernel)'), the script of L ints xs at the cell b, what the Statement gives of the start (any of its parts by flat_of_before) -/
def lw_At (p : Program) (s : State) (m : MethodId) (meth : Method) (c : Code) (b L : Nat) (xs : Nat → Int32) : Prop :=
  p.tables.exec = Jvm.exec ∧ c.code = code ∧ meth.sig.returnType = ret ∧ c.maxLocals = 4 ∧ s.vm.findClass R_law = some m.cls ∧ (∀ w ∈ lw_tbl, w.before #[Value.ref b] s = true) ∧ va_X b L xs s s.heap ∧ b < s.heap.size ∧ meth.locks = false ∧ (Jvm.Cond.and given_1 narrow_1).before #[Value.ref b] s = true
/-! ===== THE LAW OUT OF A RUN OF THE PURE MACHINE (by program: wip/gen/mk27.py) ===== -/
/-- the heap at the law's entry: the script at 0, nothing else -/
def qh0 (L : Nat) (xs : Nat → Int32) : qH := (fun a => if a = 0 then .inl (0, L, .inl xs) else .inr (0, fun _ => .null), 16, 0)
/-- what is owed of the pure machine: the law's run ends with 1, within the room -/
def qLaw (L : Nat) (xs : Nat → Int32) : Prop := ∃ (N n : Nat) (h1 : qH), qgo (qrun N 1000) 3 qk_116 n 0 [some (.ref 0), none, none, none] [] (qh0 L xs) = some (some (.int 1), h1) ∧ h1.2.1 ≤ 600016 ∧ h1.2.2 ≤ 7000000
theorem q_ins : ∀ (ci : Nat) (q : vw_C), vwCl[ci]? = some q → Cond.instantiable q.1 q.2.2 ∈ qTB
  | 0, q, h => by cases h; exact qiz_0
  | 1, q, h => by cases h; exact qiz_1
  | 2, q, h => by cases h; exact qiz_2
  | 3, q, h => by cases h; exact qiz_3
  | 4, q, h => by cases h; exact qiz_4
  | 5, q, h => by cases h; exact qiz_5
  | 6, q, h => by cases h; exact qiz_6
  | 7, q, h => by cases h; exact qiz_7
  | 8, q, h => by cases h; exact qiz_8
  | 9, q, h => by cases h; exact qiz_9
  | 10, q, h => by cases h; exact qiz_10
  | 11, q, h => by cases h; exact qiz_11
  | n + 12, q, h => by simp [vwCl] at h
theorem q_world {s : State} {args : Array Value} (hts : ∀ w ∈ lw_tbl, w.before args s = true) : ∃ (D : va_G) (cT : Nat → ClassId), va_K D vwCl [(cT 0, .int), (cT 1, .long), (cT 2, .object "BodyCorners$Solid")] s := by
  have htb : ∀ w ∈ qTB, w.before args s = true := fun w hw => hts w (List.mem_filter.mp hw).1
  have h1 : ∀ k : Nat, ∃ (cC : ClassId) (iS : Nat → Nat), ∀ q : vw_C, vwCl[k]? = some q → u_Kn s q.1 q.2.1 q.2.2 cC iS := by
    intro k
    cases hq : vwCl[k]? with
    | none => exact ⟨0, fun _ => 0, fun q h => by cases h⟩
    | some q =>
      obtain ⟨-, hin, -⟩ := q_cls k q hq
      obtain ⟨cC, iS, h⟩ := u_known (C := q.1) (T := q.2.1) (N := q.2.2) (n := q.2.2) htb hin (htb _ (q_ins k q hq))
      exact ⟨cC, iS, fun q' h' => by cases h'; exact h⟩
  obtain ⟨c0, k0, p0, a1, a2, a3⟩ := Cond.arrayClass_spec (htb _ q_aci)
  obtain ⟨c1, k1, p1, b1, b2, b3⟩ := Cond.arrayClass_spec (htb _ q_acl)
  obtain ⟨p2, c2, k2, d1, d2, d3, d4, d5⟩ := Cond.arrayOver_spec (hts _ q_aos)
  refine ⟨(fun k => Classical.choose (h1 k), fun k => Classical.choose (Classical.choose_spec (h1 k))), fun k => if k = 0 then c0 else if k = 1 then c1 else c2, fun k q hq => Classical.choose_spec (Classical.choose_spec (h1 k)) q hq, ?_⟩
  intro k q hq
  match k, hq with
  | 0, hq => cases hq; exact ⟨fun n z => ⟨fun k h => (by cases h), k0, a2, p0, a3⟩, a1⟩
  | 1, hq => cases hq; exact ⟨fun n z => ⟨fun k h => (by cases h), k1, b2, p1, b3⟩, b1⟩
  | 2, hq => cases hq; exact ⟨fun n z => ⟨fun k h => (by cases h), k2, d3, p2, d4⟩, k2, p2, d3, d4, d1, d5⟩
  | k + 3, hq => simp at hq
/-- the claim's walk, if the pure machine's run of the law is known -/
theorem q_law {p : Program} {e : Env} {s : State} {m : MethodId} {below : List Frame} {meth : Method} {c : Code} (l : Launch) {b L : Nat} {xs : Nat → Int32} (hp : qLaw L xs) (C0 : lw_At p s m meth c b L xs) : W p l e room_1 s m #[Value.ref b] below meth c s.heap [] 0 0 (lw_Z below #[Value.ref b] s) (entryFrame m ([Value.ref b] : List Value).toArray 4) := by
  obtain ⟨hx, hb, hr, hml, hown, hts, hX, hbl, hlocks, hgv⟩ := C0
  obtain ⟨N, n, h1, hrun, hcells, hslots⟩ := hp
  obtain ⟨D, cT, hK⟩ := q_world hts
  obtain ⟨scr, x1, x2, x3, x4, x5⟩ := hX
  obtain ⟨G, hG⟩ : ∃ G : qE, G = (D, cT, s.heap.size, (fun _ => b), (fun q => s.heap[q]?), L, xs) := ⟨_, rfl⟩
  have eB : gB G = s.heap.size := by rw [hG]; rfl
  have eS : gS G 0 = b := by rw [hG]; rfl
  have eN : gN G = L := by rw [hG]; rfl
  have eX : gX G = xs := by rw [hG]; rfl
  have hKn : qKn G s := by
    refine ⟨by rw [hG]; exact hK, fun w hw => ?_, va_AO.of (hts _ q_aos), by rw [eS, eB]; exact hbl, scr, by rw [eS, hG]; exact x1, x2, x3, by rw [eN]; exact x4, by rw [eN, eX]; exact x5⟩
    obtain ⟨a, i, y, hh, rfl⟩ := qNest_form w hw
    refine va_Nw.of rfl (hts _ ?_)
    rw [qNest_in] at hw
    obtain ⟨j, -, hj⟩ := List.mem_filterMap.mp hw
    exact List.mem_of_getElem? hj
  have C : qCx p s m #[Value.ref b] meth c G 12 false code 4 := ⟨hx, hb, hml, hown, fun w hw => hts w (List.mem_filter.mp hw).1, hKn, fun z => by cases z⟩
  have hR : qR G (qh0 L xs) s.heap := by
    refine ⟨Nat.le_refl _, by rw [eB]; rfl, fun a a1 a2 => ?_, fun q hq => by rw [hG]; rfl, by rw [eN, eX]; rfl⟩
    have : a < 16 := a2
    omega
  have hgo := q_go (l := l) (e := e) (R := room_1) (below := below) (n0 := 16) (s0 := 0) (v := some (.int 1)) (h1 := h1) (rt := 3) (d := 1000) (Q := lw_Z below #[Value.ref b] s) C qkb (q_met N 1000) ⟨by decide, by decide⟩ ⟨Nat.le_trans (m := 600000) (by omega) (by decide), Nat.le_trans (m := 7000000) (by omega) (by decide)⟩ ?_ n 0 [some (.ref 0), none, none, none] [] (qh0 L xs) (Nat.le_refl _) (Nat.le_refl _) hrun
  · rw [lg_entry_eq]
    have hL : qLr G 4 [some (.ref 0), none, none, none] ((lg_sl [Value.ref b] ++ List.replicate (4 - (lg_sl [Value.ref b]).length) Slot.unset).toArray) := by
      have h9 := q_entry G (maxL := 4) (vs := [.ref 0]) (L := [some (.ref 0), none, none, none]) rfl
      rw [show ([Value.ref 0].map (tV G)) = [Value.ref b] by show [Value.ref (tA G 0)] = _; rw [show tA G 0 = b from eS]] at h9
      exact h9
    have h9 := hgo s.heap [] _ hR (fun q hq => absurd hq List.not_mem_nil) hL
    exact h9
  · intro pc L2 st i hck hs
    obtain ⟨hd, hlen⟩ := qchk_dec hck
    obtain ⟨ins, ln, aux⟩ := i
    dsimp only at hd hlen
    cases ins
    case ireturn =>
      rcases hlen with h0 | rfl
      · simp [qlen] at h0
      simp only [qstep] at hs
      split at hs
      · split at hs
        · cases hs
          intro H locs ls hR2 hlo hL2
          refine va_forget (fun q hq => by rw [← eB]; exact hlo q hq) ?_
          refine W.widen (k := room_1.cells) (n := room_1.slots) (Nat.le_trans (m := 600000) (by omega) (by decide)) (Nat.le_trans (m := 7000000) (by omega) (by decide)) ?_
          exact lw_ret hx hb hr hlocks hd
        · cases hs
      · cases hs
    case newarray ty =>
      cases ty
      all_goals first
        | exact absurd (show (none : Option (qF ⊕ qRes)) = some _ from hs) (by simp)
        | (simp only [qstep, qnx] at hs
           repeat' split at hs
           all_goals cases hs)
    all_goals first
      | exact absurd (show (none : Option (qF ⊕ qRes)) = some _ from hs) (by simp)
      | (simp only [qstep, qnx, qld1, qst1] at hs
         repeat' split at hs
         all_goals cases hs)

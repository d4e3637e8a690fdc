/-! ===== CALLS ===== -/
def qws (q : qM) : List Cond := Cond.code q.1 q.2.1 q.2.2.1 q.2.2.2.1 :: qTB
def qrm (d mc ms : Nat) : Room := { frames := d + 4, cells := mc, slots := ms, locals := 40 * d + 160 }
def qPc (G : qE) (a : List Value) (h : qH) : Array Value → State → Prop := fun v U => v = (a.map (tV G)).toArray ∧ qR G h U.heap ∧ qKn G U
def qQc (G : qE) (v : Option Value) (h : qH) : Array Value → State → Outcome → State → Prop := fun _ _ o t => o = .returned (v.map (tV G)) ∧ qR G h t.heap
/-- a method meets what the pure machine says of one run of it, with d frames below -/
def qMet (d mi : Nat) (a : List Value) (h : qH) (v : Option Value) (h1 : qH) : Prop := h.2.1 ≤ h1.2.1 ∧ h.2.2 ≤ h1.2.2 ∧ ∀ (q : qM), qms[mi]? = some q → ∀ (l : Launch) (G : qE), Met l q.1 (qws q) (qrm d (h1.2.1 - h.2.1) (h1.2.2 - h.2.2)) (qPc G a h) (qQc G v h1) (h1.2.1 - h.2.1) (h1.2.2 - h.2.2) (fun x => gB G ≤ x)
theorem qblind (G : qE) (a : List Value) (h : qH) : FrameBlind (qPc G a h) := fun _ U _ _ q => ⟨q.1, q.2.1, qKn.moved (State.WarmedH.refl U) q.2.2⟩
theorem qgood {big ws : List Cond} (hb : ∀ w ∈ qTB, w ∈ big) (h : ∀ w ∈ ws, w ∈ qTB) : GoodIn big ws := fun w hw => ⟨hb w (h w hw), good_of_word (List.mem_filter.mp (h w hw)).2⟩
section QCALLS
variable {p : Program} {l : Launch} {e : Env} {R : Room} {s : State} {m : MethodId} {args : Array Value} {below : List Frame} {meth : Method} {c : Code} {Q : State → Prop} {G : qE} {cc : ByteArray} {o nL n0 s0 pc d mi idx n : Nat} {ini : Bool} {L : qL} {As rest : List Value} {h h1 : qH} {v : Option Value} {q : qM}
theorem s_after {H : Heap} {locs : List Loc} {ls : Array Slot} {st0 : List Value} {a' : Array Value} (hL : qLr G nL L ls) (hlo : ∀ q ∈ locs, gB G ≤ q.base) (hn0 : n0 ≤ h.2.1) (hs0 : s0 ≤ h.2.2) (hm1 : h.2.1 ≤ h1.2.1) (hm2 : h.2.2 ≤ h1.2.2)
    (hr : va_Run p l e R s m args below meth c H locs (h.2.1 - n0) (h.2.2 - s0) (h1.2.1 - h.2.1) (h1.2.2 - h.2.2) (F0 m pc ls st0) (rest.map (tV G)) (qQc G v h1 a') (fun x => gB G ≤ x))
    (kk : qS p l e R s m args below meth c G nL n0 s0 Q (pc + 3) L (v.toList ++ rest) h1) : W p l e R s m args below meth c H locs (h.2.1 - n0) (h.2.2 - s0) Q (F0 m pc ls st0) := by
  intro T hT X
  obtain ⟨v', st₀, t, T', Lx, h0, X', hLx, e1, e2, ⟨hv, hR1⟩, st⟩ := hr T hT X
  cases hv
  rw [show h.2.1 - n0 + (h1.2.1 - h.2.1) = h1.2.1 - n0 by omega, show h.2.2 - s0 + (h1.2.2 - h.2.2) = h1.2.2 - s0 by omega] at X'
  obtain ⟨t2, a1, b1⟩ := kk T'.heap (locs ++ Lx) ls (by rw [e1]; exact hR1) (fun x hx => (List.mem_append.mp hx).elim (hlo x) (hLx x)) hL T' rfl X'
  refine ⟨t2, st t2 ?_, b1⟩
  rw [List.map_append] at a1
  rw [show (Option.map (tV G) v).toList = v.toList.map (tV G) by cases v <;> rfl]
  exact a1
theorem qrmR (ho : qMo q) (hRd : d + 5 ≤ R.frames ∧ 40 * d + 200 ≤ R.locals) : (qrm d (h1.2.1 - h.2.1) (h1.2.2 - h.2.2)).frames + 1 ≤ R.frames ∧ 8 + (q.2.2.1 + 11) + (qrm d (h1.2.1 - h.2.1) (h1.2.2 - h.2.2)).locals ≤ R.locals := by
  have := ho.2.2.2.2.1
  exact ⟨hRd.1, by show 8 + (q.2.2.1 + 11) + (40 * d + 160) ≤ R.locals; omega⟩
theorem qws_in (ho : qMo q) : ∀ w ∈ qws q, w ∈ qTB := fun w hw => (List.mem_cons.mp hw).elim (fun e => e ▸ ho.2.1) id
theorem s_callS (C : qCx p s m args meth c G o ini cc nL) (hM : qMet d mi As h v h1) (hq : qms[mi]? = some q) (ho : qMo q) (hlink : Cond.methodLink (qcn o) idx q.1 ∈ qTB) (hst : Cond.static q.1 ∈ qTB) (hini : Cond.initialized q.1.cls ∈ qTB) (hpar : (parseMethodDescriptor q.1.desc).map (fun d => d.parameters.length) = some n) (hn : As.length = n)
    (hd : decode cc pc = .ok (.invokestatic idx, 3)) (hroom : qroom rest = true) (hRd : d + 5 ≤ R.frames ∧ 40 * d + 200 ≤ R.locals) (hn0 : n0 ≤ h.2.1) (hs0 : s0 ≤ h.2.2) (hcap : h1.2.1 - n0 ≤ R.cells ∧ h1.2.2 - s0 ≤ R.slots)
    (kk : qS p l e R s m args below meth c G nL n0 s0 Q (pc + 3) L (v.toList ++ rest) h1) : qS p l e R s m args below meth c G nL n0 s0 Q pc L (As.reverse ++ rest) h := by
  intro H locs ls hR hlo hL
  obtain ⟨hm1, hm2, hMt⟩ := hM
  have hts := C.2.2.2.2.1
  refine s_after (a' := (As.map (tV G)).toArray) (h1 := h1) (v := v) (rest := rest) hL hlo hn0 hs0 hm1 hm2 ?_ kk
  refine va_runS (Ts := qTB) (nL := nL) (As := As.map (tV G)) (rest := rest.map (tV G)) (own := qcn o) ⟨C.1, C.2.1, C.2.2.1, C.2.2.2.1, hts⟩ (hMt q hq l G) (va_cwS n hts (qgood (fun _ h => h) ?_) rfl rfl rfl ⟨ho.2.2.2.1.1, ho.2.2.2.1.2, hpar⟩ (qrmR ho hRd)) ⟨qblind _ _ _, fun U hU hW => ⟨rfl, by rw [hU]; exact hR, C.2.2.2.2.2.1.moved hW⟩⟩ rfl (by rw [List.length_map]; exact hn) hL.2.1 (by show List.map (tV G) (As.reverse ++ rest) = _; rw [List.map_append, List.map_reverse]) ?_ hd ⟨by omega, by omega⟩
  · intro w hw
    simp only [va_wsS, List.mem_append, List.mem_cons, List.not_mem_nil, or_false] at hw
    rcases hw with (rfl | rfl | rfl) | hw
    · exact hlink
    · exact hst
    · exact hini
    · exact qws_in ho w hw
  · have h9 := of_decide_eq_true hroom
    rw [List.map_map, show ((fun v => Value.category v) ∘ tV G) = fun v => v.category from funext (tV_cat G)]
    exact lv_room h9
theorem s_callSN (C : qCx p s m args meth c G o ini cc nL) (hM : qMet d mi As h v h1) (hq : qms[mi]? = some q) (ho : qMo q) (hlink : Cond.methodLinkNest (qcn o) idx q.1 "BodyCorners" ∈ qNest) (hst : Cond.static q.1 ∈ qTB) (hini : Cond.initialized q.1.cls ∈ qTB) (hpar : (parseMethodDescriptor q.1.desc).map (fun d => d.parameters.length) = some n) (hn : As.length = n)
    (hd : decode cc pc = .ok (.invokestatic idx, 3)) (hroom : qroom rest = true) (hRd : d + 5 ≤ R.frames ∧ 40 * d + 200 ≤ R.locals) (hn0 : n0 ≤ h.2.1) (hs0 : s0 ≤ h.2.2) (hcap : h1.2.1 - n0 ≤ R.cells ∧ h1.2.2 - s0 ≤ R.slots)
    (kk : qS p l e R s m args below meth c G nL n0 s0 Q (pc + 3) L (v.toList ++ rest) h1) : qS p l e R s m args below meth c G nL n0 s0 Q pc L (As.reverse ++ rest) h := by
  intro H locs ls hR hlo hL
  obtain ⟨hm1, hm2, hMt⟩ := hM
  have hts := C.2.2.2.2.1
  refine s_after (a' := (As.map (tV G)).toArray) (h1 := h1) (v := v) (rest := rest) hL hlo hn0 hs0 hm1 hm2 ?_ kk
  refine va_runSN (Ts := qTB) (nL := nL) (As := As.map (tV G)) (rest := rest.map (tV G)) (own := qcn o) (host := "BodyCorners") ⟨C.1, C.2.1, C.2.2.1, C.2.2.2.1, hts⟩ (hMt q hq l G) ⟨va_cnB n hts (qgood (fun _ h => h) (qws_in ho)) rfl rfl rfl (C.2.2.2.2.2.1.2.1 _ hlink) (hts _ hini) ⟨ho.2.2.2.1.1, ho.2.2.2.1.2, hpar⟩ (qrmR ho hRd), hts _ hst, trivial⟩ ⟨qblind _ _ _, fun U hU hW => ⟨rfl, by rw [hU]; exact hR, C.2.2.2.2.2.1.moved hW⟩⟩ rfl (by rw [List.length_map]; exact hn) hL.2.1 (by show List.map (tV G) (As.reverse ++ rest) = _; rw [List.map_append, List.map_reverse]) ?_ hd ⟨by omega, by omega⟩
  have h9 := of_decide_eq_true hroom
  rw [List.map_map, show ((fun v => Value.category v) ∘ tV G) = fun v => v.category from funext (tV_cat G)]
  exact lv_room h9
theorem s_callV (C : qCx p s m args meth c G o ini cc nL) {b ci : Nat} {F : Nat → Value} {rc : vw_C} (hM : qMet d mi (.ref b :: As) h v h1) (hq : qms[mi]? = some q) (ho : qMo q) (hlink : Cond.methodLink (qcn o) idx q.1 ∈ qTB) (him : Cond.instanceMethod q.1 ∈ qTB) (hse : Cond.selects q.1.cls q.1 q.1 ∈ qTB) (hini : Cond.initialized q.1.cls ∈ qTB) (hrc : vwCl[ci]? = some rc) (hrn : rc.1 = q.1.cls) (hpar : (parseMethodDescriptor q.1.desc).map (fun d => d.parameters.length) = some n) (hn : As.length = n)
    (hb1 : 16 ≤ b) (hb2 : b < h.2.1) (hbF : h.1 b = .inr (ci, F))
    (hd : decode cc pc = .ok (.invokevirtual idx, 3)) (hroom : qroom rest = true) (hRd : d + 5 ≤ R.frames ∧ 40 * d + 200 ≤ R.locals) (hn0 : n0 ≤ h.2.1) (hs0 : s0 ≤ h.2.2) (hcap : h1.2.1 - n0 ≤ R.cells ∧ h1.2.2 - s0 ≤ R.slots)
    (kk : qS p l e R s m args below meth c G nL n0 s0 Q (pc + 3) L (v.toList ++ rest) h1) : qS p l e R s m args below meth c G nL n0 s0 Q pc L (As.reverse ++ .ref b :: rest) h := by
  intro H locs ls hR hlo hL
  obtain ⟨hm1, hm2, hMt⟩ := hM
  have hts := C.2.2.2.2.1
  have hcell := hR.2.2.1 b hb1 hb2
  rw [hbF] at hcell
  obtain ⟨cell, c1, c2, c3, -⟩ := hcell
  refine s_after (a' := (Value.ref (tA G b) :: As.map (tV G)).toArray) (h1 := h1) (v := v) (rest := rest) hL hlo hn0 hs0 hm1 hm2 ?_ kk
  refine va_runV (Ts := qTB) (nL := nL) (b := tA G b) (As := As.map (tV G)) (rest := rest.map (tV G)) (own := qcn o) (C := q.1.cls) ⟨C.1, C.2.1, C.2.2.1, C.2.2.2.1, hts⟩ (hMt q hq l G) (cwV n hts (qgood (fun _ h => h) ?_) rfl rfl rfl ⟨rfl, ho.2.2.2.1.1, ho.2.2.2.1.2, hpar⟩ (qrmR ho hRd)) ⟨qblind _ _ _, ⟨cell, c1, by rw [c3]; rfl, by rw [c2, ← hrn]; exact (C.2.2.2.2.2.1.1.1 ci rc hrc).2.1⟩, fun U hU hW => ⟨rfl, by rw [hU]; exact hR, C.2.2.2.2.2.1.moved hW⟩⟩ rfl (by rw [List.length_map]; exact hn) hL.2.1 (by show List.map (tV G) (As.reverse ++ .ref b :: rest) = _; rw [List.map_append, List.map_reverse]; rfl) ?_ hd ⟨by omega, by omega⟩
  · intro w hw
    simp only [wsV, List.mem_append, List.mem_cons, List.not_mem_nil, or_false] at hw
    rcases hw with (rfl | rfl | rfl | rfl) | hw
    · exact hlink
    · exact him
    · exact hse
    · exact hini
    · exact qws_in ho w hw
  · have h9 := of_decide_eq_true hroom
    rw [List.map_map, show ((fun v => Value.category v) ∘ tV G) = fun v => v.category from funext (tV_cat G)]
    exact lv_room h9
theorem s_callI (C : qCx p s m args meth c G o ini cc nL) {b : Nat} (hM : qMet d mi (.ref b :: As) h none h1) (hq : qms[mi]? = some q) (ho : qMo q) (hlink : Cond.methodLink (qcn o) idx q.1 ∈ qTB) (him : Cond.instanceMethod q.1 ∈ qTB) (hini : Cond.initialized q.1.cls ∈ qTB) (hnm : q.1.name = "<init>") (hret : q.2.2.2.1 = none) (hpar : (parseMethodDescriptor q.1.desc).map (fun d => d.parameters.length) = some n) (hn : As.length = n)
    (hd : decode cc pc = .ok (.invokespecial idx, 3)) (hroom : qroom rest = true) (hRd : d + 5 ≤ R.frames ∧ 40 * d + 200 ≤ R.locals) (hn0 : n0 ≤ h.2.1) (hs0 : s0 ≤ h.2.2) (hcap : h1.2.1 - n0 ≤ R.cells ∧ h1.2.2 - s0 ≤ R.slots)
    (kk : qS p l e R s m args below meth c G nL n0 s0 Q (pc + 3) L rest h1) : qS p l e R s m args below meth c G nL n0 s0 Q pc L (As.reverse ++ .ref b :: rest) h := by
  intro H locs ls hR hlo hL
  obtain ⟨hm1, hm2, hMt⟩ := hM
  have hts := C.2.2.2.2.1
  refine s_after (a' := (Value.ref (tA G b) :: As.map (tV G)).toArray) (h1 := h1) (v := none) (rest := rest) hL hlo hn0 hs0 hm1 hm2 ?_ kk
  refine va_runI (Ts := qTB) (nL := nL) (b := tA G b) (As := As.map (tV G)) (rest := rest.map (tV G)) (own := qcn o) ⟨C.1, C.2.1, C.2.2.1, C.2.2.2.1, hts⟩ (hMt q hq l G) (cwI n hts (qgood (fun _ h => h) (qws_in ho)) (by rw [qws, hret]) rfl rfl (hts _ hini) (hts _ hlink) (hts _ him) hnm ⟨ho.2.2.2.1.1, ho.2.2.2.1.2, hpar⟩ (qrmR ho hRd)) ⟨qblind _ _ _, fun U hU hW => ⟨rfl, by rw [hU]; exact hR, C.2.2.2.2.2.1.moved hW⟩⟩ rfl (by rw [List.length_map]; exact hn) hL.2.1 (by show List.map (tV G) (As.reverse ++ .ref b :: rest) = _; rw [List.map_append, List.map_reverse]; rfl) ?_ hd ⟨by omega, by omega⟩
  have h9 := of_decide_eq_true hroom
  rw [List.map_map, show ((fun v => Value.category v) ∘ tV G) = fun v => v.category from funext (tV_cat G)]
  exact lv_room h9
theorem s_callIN (C : qCx p s m args meth c G o ini cc nL) {b : Nat} (hM : qMet d mi (.ref b :: As) h none h1) (hq : qms[mi]? = some q) (ho : qMo q) (hlink : Cond.methodLinkNest (qcn o) idx q.1 "BodyCorners" ∈ qNest) (him : Cond.instanceMethod q.1 ∈ qTB) (hini : Cond.initialized q.1.cls ∈ qTB) (hnm : q.1.name = "<init>") (hret : q.2.2.2.1 = none) (hpar : (parseMethodDescriptor q.1.desc).map (fun d => d.parameters.length) = some n) (hn : As.length = n)
    (hd : decode cc pc = .ok (.invokespecial idx, 3)) (hroom : qroom rest = true) (hRd : d + 5 ≤ R.frames ∧ 40 * d + 200 ≤ R.locals) (hn0 : n0 ≤ h.2.1) (hs0 : s0 ≤ h.2.2) (hcap : h1.2.1 - n0 ≤ R.cells ∧ h1.2.2 - s0 ≤ R.slots)
    (kk : qS p l e R s m args below meth c G nL n0 s0 Q (pc + 3) L rest h1) : qS p l e R s m args below meth c G nL n0 s0 Q pc L (As.reverse ++ .ref b :: rest) h := by
  intro H locs ls hR hlo hL
  obtain ⟨hm1, hm2, hMt⟩ := hM
  have hts := C.2.2.2.2.1
  refine s_after (a' := (Value.ref (tA G b) :: As.map (tV G)).toArray) (h1 := h1) (v := none) (rest := rest) hL hlo hn0 hs0 hm1 hm2 ?_ kk
  refine va_runIN (Ts := qTB) (nL := nL) (b := tA G b) (As := As.map (tV G)) (rest := rest.map (tV G)) (own := qcn o) (host := "BodyCorners") ⟨C.1, C.2.1, C.2.2.1, C.2.2.2.1, hts⟩ (hMt q hq l G) ⟨va_cnB n hts (qgood (fun _ h => h) (qws_in ho)) (by rw [qws, hret]) rfl rfl (C.2.2.2.2.2.1.2.1 _ hlink) (hts _ hini) ⟨ho.2.2.2.1.1, ho.2.2.2.1.2, hpar⟩ (qrmR ho hRd), hnm, hts _ him⟩ ⟨qblind _ _ _, fun U hU hW => ⟨rfl, by rw [hU]; exact hR, C.2.2.2.2.2.1.moved hW⟩⟩ rfl (by rw [List.length_map]; exact hn) hL.2.1 (by show List.map (tV G) (As.reverse ++ .ref b :: rest) = _; rw [List.map_append, List.map_reverse]; rfl) ?_ hd ⟨by omega, by omega⟩
  have h9 := of_decide_eq_true hroom
  rw [List.map_map, show ((fun v => Value.category v) ∘ tV G) = fun v => v.category from funext (tV_cat G)]
  exact lv_room h9
theorem s_objI (C : qCx p s m args meth c G o ini cc nL) {b : Nat} (hlink : Cond.methodLink (qcn o) idx Lib.objectInit ∈ qTB) (hd : decode cc pc = .ok (.invokespecial idx, 3)) (hroom : qroom rest = true) (hR1 : 1 ≤ R.frames ∧ 40 ≤ R.locals)
    (kk : qS p l e R s m args below meth c G nL n0 s0 Q (pc + 3) L rest h) : qS p l e R s m args below meth c G nL n0 s0 Q pc L (.ref b :: rest) h := by
  intro H locs ls hR hlo hL
  have hts := C.2.2.2.2.1
  refine W.objInit C.1 C.2.1 C.2.2.2.1 (hts _ hlink) (hts _ q_oim) (hts _ q_ocd) rfl (by show ls.size = _; rw [hL.2.1, C.2.2.1]) rfl hd hR1.1 ?_ (kk H locs ls hR hlo hL)
  have h9 := of_decide_eq_true hroom
  show 2 * 0 + ((rest.map (tV G)).map fun v => v.category).sum + 12 ≤ R.locals
  rw [List.map_map, show ((fun v => Value.category v) ∘ tV G) = fun v => v.category from funext (tV_cat G)]
  omega
end QCALLS

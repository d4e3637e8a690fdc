/-! ===== THE PURE MACHINE AND THE MODEL'S: what holds between them ===== -/
/-- classes and slots, array classes, the first address, addresses of what was there before, what was there, the script's length, its ints -/
abbrev qE : Type := va_G × (Nat → ClassId) × Nat × (Nat → Nat) × (Nat → Option Cell) × Nat × (Nat → Int32)
def gD (G : qE) : va_G := G.1
def gT (G : qE) : Nat → ClassId := G.2.1
def gB (G : qE) : Nat := G.2.2.1
def gS (G : qE) : Nat → Nat := G.2.2.2.1
def gO (G : qE) : Nat → Option Cell := G.2.2.2.2.1
def gN (G : qE) : Nat := G.2.2.2.2.2.1
def gX (G : qE) : Nat → Int32 := G.2.2.2.2.2.2
def tA (G : qE) (a : Nat) : Nat := if a < 16 then gS G a else gB G + (a - 16)
def tV (G : qE) : Value → Value
  | .ref a => .ref (tA G a)
  | .int x => .int x
  | .long x => .long x
  | .float x => .float x
  | .double x => .double x
  | .null => .null
  | .retAddr p => .retAddr p
def tC (G : qE) : qA → ((Nat → Int32) ⊕ (Nat → Int64) ⊕ (Nat → UInt32) ⊕ (Nat → UInt64) ⊕ (Nat → Option Nat))
  | .inl f => .inl f
  | .inr (.inl f) => .inr (.inl f)
  | .inr (.inr f) => .inr (.inr (.inr (.inr (fun i => (f i).map (tA G)))))
def qat (G : qE) (c : qC) (H : Heap) (a : Nat) : Prop :=
  match c with
  | .inl (ty, n, f) => H[a]? = some (vp_cell (gT G ty) (n, tC G f))
  | .inr (ci, F) => t_OB a ((gD G).1 ci) (qnF ci) ((gD G).2 ci) H (fun k => tV G (F k))
def qR (G : qE) (h : qH) (H : Heap) : Prop := 16 ≤ h.2.1 ∧ H.size + 16 = gB G + h.2.1 ∧ (∀ a, 16 ≤ a → a < h.2.1 → qat G (h.1 a) H (tA G a)) ∧ (∀ q, q < gB G → H[q]? = gO G q) ∧ h.1 0 = .inl (0, gN G, .inl (gX G))
theorem tV_cat (G : qE) (v : Value) : (tV G v).category = v.category := by cases v <;> rfl
theorem tA_inj {G : qE} {a b : Nat} (ha : 16 ≤ a) (hb : 16 ≤ b) (h : a ≠ b) : tA G a ≠ tA G b := by
  unfold tA
  rw [if_neg (by omega), if_neg (by omega)]
  omega
theorem tA_ge {G : qE} {a : Nat} (ha : 16 ≤ a) : gB G ≤ tA G a := by
  unfold tA
  rw [if_neg (by omega)]
  omega
theorem qat.kept {G : qE} {c : qC} {H H1 : Heap} {a : Nat} (h : qat G c H a) (e : H1[a]? = H[a]?) : qat G c H1 a := by
  match c, h with
  | .inl (ty, n, f), h => show H1[a]? = _; rw [e]; exact h
  | .inr (ci, F), h => exact t_OB.kept h e
theorem qR.set {G : qE} {h : qH} {H H1 : Heap} {a : Nat} {c : qC} (hR : qR G h H) (h1 : 16 ≤ a) (h2 : a < h.2.1) (hc : qat G c H1 (tA G a)) (hz : H1.size = H.size) (ho : ∀ q, q ≠ tA G a → H1[q]? = H[q]?) : qR G (qup h.1 a c, h.2) H1 := by
  obtain ⟨r1, r2, r3, r4, r5⟩ := hR
  refine ⟨r1, by rw [hz]; exact r2, fun b b1 b2 => ?_, fun q hq => ?_, ?_⟩
  · show qat G (if b = a then c else h.1 b) H1 (tA G b)
    by_cases hb : b = a
    · subst hb; rw [if_pos rfl]; exact hc
    · rw [if_neg hb]; exact (r3 b b1 b2).kept (ho _ (tA_inj b1 h1 hb))
  · rw [ho q (by have := tA_ge (G := G) h1; omega)]; exact r4 q hq
  · show (if 0 = a then c else h.1 0) = _
    rw [if_neg (by omega)]; exact r5
theorem qR.push {G : qE} {h : qH} {H H1 : Heap} {c : qC} {k : Nat} (hR : qR G h H) (hc : qat G c H1 H.size) (hz : H1.size = H.size + 1) (ho : ∀ q, q < H.size → H1[q]? = H[q]?) : qR G (qnew h c k) H1 := by
  obtain ⟨r1, r2, r3, r4, r5⟩ := hR
  refine ⟨by show 16 ≤ h.2.1 + 1; omega, by show H1.size + 16 = gB G + (h.2.1 + 1); omega, fun b b1 b2 => ?_, fun q hq => ?_, ?_⟩
  · show qat G (if b = h.2.1 then c else h.1 b) H1 (tA G b)
    have b2' : b < h.2.1 + 1 := b2
    have et : tA G b = gB G + (b - 16) := by unfold tA; rw [if_neg (by omega)]
    by_cases hb : b = h.2.1
    · rw [if_pos hb, et, show gB G + (b - 16) = H.size by omega]; exact hc
    · rw [if_neg hb]; exact (r3 b b1 (by omega)).kept (ho _ (by rw [et]; omega))
  · rw [ho q (by omega)]; exact r4 q hq
  · show (if 0 = h.2.1 then c else h.1 0) = _
    rw [if_neg (by omega)]; exact r5
theorem qR.top {G : qE} {h : qH} {H : Heap} (hR : qR G h H) : tA G h.2.1 = H.size := by
  obtain ⟨r1, r2, -⟩ := hR
  unfold tA; rw [if_neg (by omega)]; omega
/-- the locals -/
def qLr (G : qE) (nL : Nat) (L : qL) (ls : Array Slot) : Prop := L.length = nL ∧ ls.size = nL ∧ lv_wf ls ∧ ∀ (k : Nat) (v : Value), L[k]? = some (some v) → ls[k]? = some (.val (tV G v))
def qlv (G : qE) (L : qL) : List (Nat × Value) := (List.range L.length).filterMap fun k => (qgL L k).map fun v => (k, tV G v)
theorem qgL_some {L : qL} {k : Nat} {v : Value} : qgL L k = some v ↔ L[k]? = some (some v) := by
  unfold qgL
  cases L[k]? with
  | none => simp
  | some x => simp
theorem qlv_mem {G : qE} {L : qL} {q : Nat × Value} : q ∈ qlv G L ↔ ∃ v, L[q.1]? = some (some v) ∧ q.2 = tV G v := by
  unfold qlv
  rw [List.mem_filterMap]
  constructor
  · rintro ⟨k, -, hk⟩
    obtain ⟨v, hv, rfl⟩ := Option.map_eq_some_iff.mp hk
    exact ⟨v, qgL_some.mp hv, rfl⟩
  · rintro ⟨v, hv, e⟩
    refine ⟨q.1, List.mem_range.mpr (List.getElem?_eq_some_iff.mp hv).1, ?_⟩
    rw [qgL_some.mpr hv]
    exact congrArg some (Prod.ext rfl e.symm)
theorem qLr.has {G : qE} {nL : Nat} {L : qL} {ls : Array Slot} (h : qLr G nL L ls) : lv_has ls nL (qlv G L) := by
  refine ⟨h.2.1, h.2.2.1, fun q hq => ?_⟩
  obtain ⟨v, hv, e⟩ := qlv_mem.mp hq
  rw [e]
  exact h.2.2.2 _ _ hv
theorem qsL_len (v : Value) (i : Nat) : ∀ (L : qL) (j : Nat), (qsL v i j L).length = L.length
  | [], _ => rfl
  | x :: xs, j => by show (qsL v i (j + 1) xs).length + 1 = xs.length + 1; rw [qsL_len v i xs]
theorem qsL_get (v : Value) (i : Nat) : ∀ (L : qL) (j k : Nat), (qsL v i j L)[k]? = (L[k]?).map fun x => if j + k = i then some v else if j + k + 1 = i then (if qlong x then none else x) else if j + k = i + 1 then (if qlong (some v) then none else x) else x
  | [], _, _ => by simp [qsL]
  | x :: xs, j, 0 => by simp [qsL]
  | x :: xs, j, k + 1 => by
    show (qsL v i (j + 1) xs)[k]? = _
    rw [qsL_get v i xs (j + 1) k, List.getElem?_cons_succ, show j + 1 + k = j + (k + 1) by omega]
theorem qsL_some {v w : Value} {i k : Nat} {L : qL} (h : (qsL v i 0 L)[k]? = some (some w)) : (k = i ∧ w = v) ∨ (k ≠ i ∧ L[k]? = some (some w) ∧ ¬ (k + 1 = i ∧ w.category = 2) ∧ ¬ (k = i + 1 ∧ v.category = 2)) := by
  rw [qsL_get, Option.map_eq_some_iff] at h
  obtain ⟨x, hx, e⟩ := h
  rw [Nat.zero_add] at e
  by_cases h1 : k = i
  · rw [if_pos h1] at e; exact Or.inl ⟨h1, (Option.some.inj e).symm⟩
  · rw [if_neg h1] at e
    refine Or.inr ⟨h1, ?_⟩
    by_cases h2 : k + 1 = i
    · rw [if_pos h2] at e
      by_cases h3 : qlong x = true
      · rw [if_pos h3] at e; cases e
      · rw [if_neg h3] at e
        subst e
        refine ⟨hx, fun q => h3 ?_, fun q => by omega⟩
        show (w.category == 2) = true
        rw [q.2]; rfl
    · rw [if_neg h2] at e
      by_cases h4 : k = i + 1
      · rw [if_pos h4] at e
        by_cases h3 : qlong (some v) = true
        · rw [if_pos h3] at e; cases e
        · rw [if_neg h3] at e
          subst e
          refine ⟨hx, fun q => by omega, fun q => h3 ?_⟩
          show (v.category == 2) = true
          rw [q.2]; rfl
      · rw [if_neg h4] at e
        subst e
        exact ⟨hx, fun q => h2 q.1, fun q => h4 q.1⟩
theorem qLr.st1 {G : qE} {nL : Nat} {L : qL} {ls' : Array Slot} {i : Nat} {v : Value} (hL : L.length = nL) (h : lv_has ls' nL ((i, tV G v) :: (qlv G L).filter (fun q => !(q.1 == i) && !(q.1 + 1 == i && q.2.category == 2)))) : qLr G nL (qsL v i 0 L) ls' := by
  refine ⟨by rw [qsL_len]; exact hL, h.1, h.2.1, fun k w hw => ?_⟩
  rcases qsL_some hw with ⟨rfl, rfl⟩ | ⟨h1, h2, h3, -⟩
  · exact h.2.2 _ List.mem_cons_self
  · refine h.2.2 (k, tV G w) (List.mem_cons_of_mem _ (List.mem_filter.mpr ⟨qlv_mem.mpr ⟨w, h2, rfl⟩, ?_⟩))
    simp only [tV_cat, Bool.and_eq_true, Bool.not_eq_true', Bool.and_eq_false_iff, beq_eq_false_iff_ne]
    refine ⟨h1, ?_⟩
    by_cases h4 : k + 1 = i
    · exact Or.inr fun q => h3 ⟨h4, q⟩
    · exact Or.inl h4
theorem qLr.st2 {G : qE} {nL : Nat} {L : qL} {ls' : Array Slot} {i : Nat} {v : Value} (hc : v.category = 2) (hL : L.length = nL) (h : lv_has ls' nL ((i, tV G v) :: (qlv G L).filter (fun q => !(q.1 == i) && (!(q.1 == i + 1) && !(q.1 + 1 == i && q.2.category == 2))))) : qLr G nL (qsL v i 0 L) ls' := by
  refine ⟨by rw [qsL_len]; exact hL, h.1, h.2.1, fun k w hw => ?_⟩
  rcases qsL_some hw with ⟨rfl, rfl⟩ | ⟨h1, h2, h3, h5⟩
  · exact h.2.2 _ List.mem_cons_self
  · refine h.2.2 (k, tV G w) (List.mem_cons_of_mem _ (List.mem_filter.mpr ⟨qlv_mem.mpr ⟨w, h2, rfl⟩, ?_⟩))
    simp only [tV_cat, Bool.and_eq_true, Bool.not_eq_true', Bool.and_eq_false_iff, beq_eq_false_iff_ne]
    refine ⟨h1, fun q => h5 ⟨q, hc⟩, ?_⟩
    by_cases h4 : k + 1 = i
    · exact Or.inr fun q => h3 ⟨h4, q⟩
    · exact Or.inl h4
/-- rows of rows of ints, at every state -/
def qAOA (U : State) : Prop := (Cond.arrayOver (.array .int)).before #[] U = true
theorem qAOA.of {A : Array Value} {U : State} (h : (Cond.arrayOver (.array .int)).before A U = true) : qAOA U := h
theorem qAOA.use {A : Array Value} {U : State} (h : qAOA U) : (Cond.arrayOver (.array .int)).before A U = true := h
theorem qAOA.moved {u U : State} (hvm : u.vm.Alike U.vm) (h : qAOA u) : qAOA U := by
  obtain ⟨comp, c, k, h1, h2, h3, h4, h5⟩ := arrayOverA_spec h
  obtain ⟨k', hk', he⟩ := hvm.2.2 _ _ h3
  have hi : (U.vm.classes.findIdx? fun (x : Class) => match x.kind with | .array component _ => component == comp | _ => false) = some c := by
    rw [hvm.findIdx?_eq _ (fun _ => rfl)]
    exact h2
  have hkind : k'.kind = .array comp (.array .int) := by rw [he]; exact h4
  have f1 : U.vm.findClass (FieldType.array .int).toString = some comp := by rw [hvm.findClass]; exact h1
  have f2 : U.vm.findClass ("[" ++ (FieldType.array .int).toString) = some c := by rw [hvm.findClass]; exact h5
  unfold qAOA Cond.before Cond.holds
  simp only [Cond.value]
  rw [f1, Option.bind_some]
  refine (congrArg (fun o : Option Nat => (o.bind (fun c => (U.vm.classes[c]?).map fun (k : Class) => match k.kind with | .array _ ty => decide (ty = FieldType.array .int) && decide (U.vm.findClass ("[" ++ (FieldType.array .int).toString) = some c) | _ => false) == some true)) hi).trans ?_
  simp [hk', hkind, f2]
def qsA (G : qE) : Nat → Prop := fun x => gB G ≤ x
/-- the String constants in the heap -/
def qSS (G : qE) (U : State) (H : Heap) : Prop := va_Z "java/lang/String" "COMPACT_STRINGS" "Z" (.int 1) (qsA G) U H ∧ va_Zq "jdk/internal/util/Preconditions" "SIOOBE_FORMATTER" "Ljava/util/function/BiFunction;" (qsA G) U H ∧ ∃ adV, vk_S 8 qSL qSB (fun i => gS G (i + 1)) adV (qsA G) U H
theorem qSS.moved {G : qE} {u U : State} {H : Heap} (hvm : u.vm.Alike U.vm) (h : qSS G u H) : qSS G U H := by
  obtain ⟨h1, h2, adV, h3⟩ := h
  exact ⟨h1.moved hvm, h2.moved hvm, adV, h3.moved hvm⟩
/-- what goes along with every state: the classes, the array classes, the nest mates' links, the script -/
def qKn (G : qE) (s : State) : Prop := va_K (gD G) vwCl [(gT G 0, .int), (gT G 1, .long), (gT G 2, .object "BodyCorners$Solid"), (gT G 3, .array .int)] s ∧ (∀ w ∈ qNest, va_Nw w s) ∧ (va_AO "BodyCorners$Solid" s ∧ qAOA s ∧ va_Nw (.castable "[I" "java/lang/Cloneable") s) ∧ gS G 0 < gB G ∧ ((∀ H : Heap, (∀ q, q < gB G → H[q]? = gO G q) → qSS G s H) ∧ ∀ e ∈ qSR, vk_R (qcn e.1) e.2.1 (qSW e.2.2) (gS G e.2.2) s) ∧
  ∃ scr : Cell, gO G (gS G 0) = some scr ∧ s.isArrayOf scr .int ∧ scr.vm ≠ .unknown ∧ scr.slots.size = gN G ∧ ∀ j : Nat, j < gN G → scr.slots[j]? = some (.int (gX G j))
theorem qKn.moved {G : qE} {s U : State} (hW : s.WarmedH U.vm) (h : qKn G s) : qKn G U := by
  obtain ⟨h1, h2, ⟨h3, h3b, h3c⟩, h4, ⟨hs1, hs2⟩, scr, s1, s2, s3⟩ := h
  refine ⟨h1.moved hW.alike, fun w hw => ?_, ⟨h3.moved hW.alike, h3b.moved hW.alike, va_Nw.warmC hW h3c⟩, h4, ⟨fun H hH => (hs1 H hH).moved hW.alike, fun e he => (hs2 e he).warm hW⟩, scr, s1, State.isArrayOf_alike hW.alike s2, s3⟩
  obtain ⟨a, i, y, hh, rfl⟩ := qNest_form w hw
  exact va_Nw.warmM hW (h2 _ hw)

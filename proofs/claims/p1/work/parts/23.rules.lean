/-! ===== RULES: an instruction of the pure machine is one of the model's ===== -/
section QRULES
variable {p : Program} {l : Launch} {e : Env} {R : Room} {s : State} {m : MethodId} {args : Array Value} {below : List Frame} {meth : Method} {c : Code} {Q : State → Prop} {G : qE} {cc : ByteArray} {o nL n0 s0 pc : Nat} {ini : Bool} {L : qL} {st r : List Value} {h h1 : qH}
/-- what a method's body knows: the machine, its code, its class, the words, the classes -/
def qCx (p : Program) (s : State) (m : MethodId) (args : Array Value) (meth : Method) (c : Code) (G : qE) (o : Nat) (ini : Bool) (cc : ByteArray) (nL : Nat) : Prop :=
  p.tables.exec = Jvm.exec ∧ c.code = cc ∧ c.maxLocals = nL ∧ s.vm.findClass (qcn o) = some m.cls ∧ (∀ w ∈ qTB, w.before args s = true) ∧ qKn G s ∧ (ini = true → meth.name = "<init>")
/-- the model's machine comes to Q from every state that the pure one stands for -/
def qS (p : Program) (l : Launch) (e : Env) (R : Room) (s : State) (m : MethodId) (args : Array Value) (below : List Frame) (meth : Method) (c : Code) (G : qE) (nL n0 s0 : Nat) (Q : State → Prop) (pc : Nat) (L : qL) (st : List Value) (h : qH) : Prop :=
  ∀ (H : Heap) (locs : List Loc) (ls : Array Slot), qR G h H → (∀ q ∈ locs, gB G ≤ q.base) → qLr G nL L ls → W p l e R s m args below meth c H locs (h.2.1 - n0) (h.2.2 - s0) Q (F0 m pc ls (st.map (tV G)))
theorem qget_spec {a ci k : Nat} {v : Value} (e : qget h a ci k = some v) : 16 ≤ a ∧ a < h.2.1 ∧ k < qnF ci ∧ ∃ F, h.1 a = .inr (ci, F) ∧ F k = v := by
  unfold qget at e
  split at e
  · rename_i hc
    split at e
    · rename_i c F hF
      split at e
      · rename_i hci
        subst hci
        exact ⟨hc.1, hc.2.1, hc.2.2, F, hF, Option.some.inj e⟩
      · cases e
    · cases e
  · cases e
theorem qput_spec {a ci k : Nat} {v : Value} (e : qput h a ci k v = some h1) : 16 ≤ a ∧ a < h.2.1 ∧ k < qnF ci ∧ ∃ F, h.1 a = .inr (ci, F) ∧ h1 = (qup h.1 a (.inr (ci, qfu F k v)), h.2) := by
  unfold qput at e
  split at e
  · rename_i hc
    split at e
    · rename_i c F hF
      split at e
      · rename_i hci
        subst hci
        exact ⟨hc.1, hc.2.1, hc.2.2, F, hF, (Option.some.inj e).symm⟩
      · cases e
    · cases e
  · cases e
theorem s_get (C : qCx p s m args meth c G o ini cc nL) {ci k a idx : Nat} {v : Value} {q : vw_C} (hq : vwCl[ci]? = some q) (hlink : Cond.fieldLink (qcn o) idx (q.2.1 k).1 (q.2.1 k).2.1 (q.2.1 k).2.2.1 ∈ qTB) (hd : decode cc pc = .ok (.getfield idx, 3)) (e1 : qget h a ci k = some v)
    (kk : qS p l e R s m args below meth c G nL n0 s0 Q (pc + 3) L (v :: r) h) : qS p l e R s m args below meth c G nL n0 s0 Q pc L (.ref a :: r) h := by
  intro H locs ls hR hlo hL
  obtain ⟨a1, a2, a3, F, hF, rfl⟩ := qget_spec e1
  have hc := hR.2.2.1 a a1 a2
  rw [hF] at hc
  have hcl := q_cls ci q hq
  have hN : q.2.2 = qnF ci := hcl.1
  have hlen : ((List.range (qnF ci)).map (fun k => tV G (F k))).length = qnF ci := by simp
  have hval : ∀ j, j < qnF ci → ((List.range (qnF ci)).map (fun k => tV G (F k)))[j]? = some (tV G (F j)) := fun j hj => by simp [hj]
  refine va_get (D := gD G) (cl := vwCl) (ws := [(tA G a, .inr (ci, (List.range (qnF ci)).map (fun k => tV G (F k))))]) (ci := ci) (fs := (List.range (qnF ci)).map (fun k => tV G (F k))) (C := q.1) (T := q.2.1) (N := q.2.2) (own := qcn o) (ref := (q.2.1 k).1) C.1 C.2.1 C.2.2.2.2.1 hcl.2.1 C.2.2.2.1 C.2.2.2.2.2.1.1 ?_ 0 rfl hq k (by rw [hN]; exact a3) (C.2.2.2.2.1 _ hlink) (fun _ h9 => h9) (hval k a3) hd (kk H locs ls hR hlo hL)
  intro j z hz
  match j, hz with
  | 0, hz =>
    cases hz
    refine ⟨q, hq, ?_⟩
    rw [hN]
    exact t_OB.to hc (fun j hj => by simp [vp_V, hj])
theorem s_put (C : qCx p s m args meth c G o ini cc nL) {ci k a idx : Nat} {v : Value} {q : vw_C} (hq : vwCl[ci]? = some q) (hlink : Cond.fieldLink (qcn o) idx (q.2.1 k).1 (q.2.1 k).2.1 (q.2.1 k).2.2.1 ∈ qTB) (hd : decode cc pc = .ok (.putfield idx, 3)) (hn : narrow (qty ci k) (tV G v) = tV G v) (hf : fits (qty ci k) (tV G v) = true) (hfin : (q.2.1 k).2.2.2 = true → ini = true ∧ (q.2.1 k).1 = qcn o) (e1 : qput h a ci k v = some h1)
    (kk : qS p l e R s m args below meth c G nL n0 s0 Q (pc + 3) L r h1) : qS p l e R s m args below meth c G nL n0 s0 Q pc L (v :: .ref a :: r) h := by
  intro H locs ls hR hlo hL
  obtain ⟨a1, a2, a3, F, hF, rfl⟩ := qput_spec e1
  have hc := hR.2.2.1 a a1 a2
  rw [hF] at hc
  have hcl := q_cls ci q hq
  obtain ⟨hN, hin, hty, hnm, -⟩ := hcl
  have hts := C.2.2.2.2.1
  have hK := C.2.2.2.2.2.1.1
  have hown := C.2.2.2.1
  have hk : k < q.2.2 := by rw [hN]; exact a3
  have hap := va_apart (own := qcn o) (C := q.1) (T := q.2.1) (N := q.2.2) hts hin (qty ci) hty hnm hK hq
  obtain ⟨cell, q1, q2, q3, q4⟩ := hc
  obtain ⟨hS, hfc, kC, hkC, hkind⟩ := hK.1 ci _ hq
  obtain ⟨cf, kf, fi, f, hi, hsl⟩ := hS k hk
  have hst := (u_facts hfc hkC (u_lays hts hin hk) hi).1
  have hset : ∀ (H' : Heap), H'[tA G a]? = some (cell.setSlot f.slot (tV G v)) → qat G (.inr (ci, qfu F k v)) H' (tA G a) := by
    intro H' e2
    rw [hsl] at e2
    refine ⟨_, e2, q2, q3, fun j hj => ?_⟩
    have h9 := t_set (V := fun k => tV G (F k)) q4 (by rw [← hN]; exact hap) a3 (tV G v) j hj
    rw [h9]
    show some (updV (fun k => tV G (F k)) k (tV G v) j) = some (tV G (if j = k then v else F j))
    by_cases hjk : j = k
    · subst hjk; simp [updV]
    · simp [updV, hjk]
  have hlo' : ∀ x ∈ locs ++ [(⟨tA G a, f.slot⟩ : Loc)], gB G ≤ x.base := by
    intro x hx
    rcases List.mem_append.mp hx with h9 | h9
    · exact hlo x h9
    · rw [List.mem_singleton.mp h9]; exact tA_ge a1
  have hlay := hts _ (hin _ (u_in_lay hk))
  unfold u_lay at hlay
  have hslot : f.slot < cell.slots.size := by rw [hsl]; exact k2_hasslot (q4 k a3)
  by_cases hfi : (q.2.1 k).2.2.2 = true
  · rw [if_pos hfi] at hlay
    obtain ⟨hini, hdecl⟩ := hfin hfi
    have hcf : m.cls = cf := by
      obtain ⟨_, _, c', _, _, _, -, -, hf', -, -, -, hown2, -⟩ := Cond.laysFinal_spec hlay
      have e9 : c' = cf := by have := hi.symm.trans hf'; simp at this; exact this.1.symm
      rw [hdecl] at hown2
      rw [← e9]; exact Option.some.inj (hown.symm.trans hown2)
    have h6 := u_fits hfc hkC hkind (Or.inr hlay) hi (hty k hk) hn hf
    exact W.putFinK C.1 C.2.1 hown (hts _ hlink) hi hst hcf (C.2.2.2.2.2.2 hini) (by rw [q2]; exact h6) q1 q3 hslot rfl rfl hd fun H' e1 e2 e3 => kk H' _ ls (hR.set a1 a2 (hset H' e1) e2 e3) hlo' hL
  · rw [if_neg hfi] at hlay
    have h6 := u_store hfc hkC hkind hlay hi (hty k hk) hn hf
    exact W.putK C.1 C.2.1 (f := f) ⟨hown, hts _ hlink, ⟨_, _, _, hi⟩, hst⟩ (by rw [q2]; exact h6) q1 q3 hslot rfl rfl hd fun H' e1 e2 e3 => kk H' _ ls (hR.set a1 a2 (hset H' e1) e2 e3) hlo' hL
theorem qiald_spec {a : Nat} {i v : Int32} (e : qiald h a i = some v) : (a = 0 ∨ (16 ≤ a ∧ a < h.2.1)) ∧ ∃ n f, h.1 a = .inl (0, n, .inl f) ∧ vp_in i n ∧ f i.toNatClampNeg = v := by
  unfold qiald at e
  split at e
  · rename_i hc
    split at e
    · rename_i n f hF
      split at e
      · cases e
      · rename_i hi
        exact ⟨hc, n, f, hF, hi, Option.some.inj e⟩
    · cases e
  · cases e
theorem s_iald (C : qCx p s m args meth c G o ini cc nL) {a : Nat} {i v : Int32} (hd : decode cc pc = .ok (.iaload, 1)) (e1 : qiald h a i = some v)
    (kk : qS p l e R s m args below meth c G nL n0 s0 Q (pc + 1) L (.int v :: r) h) : qS p l e R s m args below meth c G nL n0 s0 Q pc L (.int i :: .ref a :: r) h := by
  intro H locs ls hR hlo hL
  obtain ⟨ha, n, f, hF, hin, rfl⟩ := qiald_spec e1
  rcases ha with rfl | ⟨a1, a2⟩
  · obtain ⟨-, -, -, h4, scr, s1, s2, s3, s4, s5⟩ := C.2.2.2.2.2.1
    have hc := hR.2.2.2.2
    rw [hF] at hc
    cases hc
    have hX : va_X (gS G 0) (gN G) (gX G) s H := ⟨scr, by rw [hR.2.2.2.1 _ h4]; exact s1, s2, s3, s4, s5⟩
    have hlt : gS G 0 < H.size := by have := hR.1; have := hR.2.1; omega
    exact va_sld (A := fun q => gB G ≤ q) (H0 := H) C.1 C.2.1 hX hlt (Nat.not_le.mpr h4) ⟨Nat.le_refl _, fun _ _ _ => rfl, hlo⟩ hin hd (kk H locs ls hR hlo hL)
  · have hc := hR.2.2.1 a a1 a2
    rw [hF] at hc
    exact va_iald (D := gD G) (cl := vwCl) (ws := [(tA G a, .inl (gT G 0, n, .inl f))]) C.1 C.2.1 C.2.2.2.2.2.1.1 (fun j z hz => by match j, hz with | 0, hz => cases hz; exact hc) 0 0 rfl rfl hin hd (kk H locs ls hR hlo hL)
theorem qlald_spec {a : Nat} {i : Int32} {v : Int64} (e : qlald h a i = some v) : 16 ≤ a ∧ a < h.2.1 ∧ ∃ n f, h.1 a = .inl (1, n, .inr (.inl f)) ∧ vp_in i n ∧ f i.toNatClampNeg = v := by
  unfold qlald at e
  split at e
  · rename_i hc
    split at e
    · rename_i n f hF
      split at e
      · cases e
      · rename_i hi
        exact ⟨hc.1, hc.2, n, f, hF, hi, Option.some.inj e⟩
    · cases e
  · cases e
theorem s_lald (C : qCx p s m args meth c G o ini cc nL) {a : Nat} {i : Int32} {v : Int64} (hd : decode cc pc = .ok (.laload, 1)) (e1 : qlald h a i = some v)
    (kk : qS p l e R s m args below meth c G nL n0 s0 Q (pc + 1) L (.long v :: r) h) : qS p l e R s m args below meth c G nL n0 s0 Q pc L (.int i :: .ref a :: r) h := by
  intro H locs ls hR hlo hL
  obtain ⟨a1, a2, n, f, hF, hin, rfl⟩ := qlald_spec e1
  have hc := hR.2.2.1 a a1 a2
  rw [hF] at hc
  exact va_lald (D := gD G) (cl := vwCl) (ws := [(tA G a, .inl (gT G 1, n, .inr (.inl f)))]) C.1 C.2.1 C.2.2.2.2.2.1.1 (fun j z hz => by match j, hz with | 0, hz => cases hz; exact hc) 0 1 rfl rfl hin hd (kk H locs ls hR hlo hL)
theorem qaald_spec {a : Nat} {i : Int32} {v : Option Nat} (e : qaald h a i = some v) : 16 ≤ a ∧ a < h.2.1 ∧ ∃ n f, h.1 a = .inl (2, n, .inr (.inr f)) ∧ vp_in i n ∧ f i.toNatClampNeg = v := by
  unfold qaald at e
  split at e
  · rename_i hc
    split at e
    · rename_i n f hF
      split at e
      · cases e
      · rename_i hi
        exact ⟨hc.1, hc.2, n, f, hF, hi, Option.some.inj e⟩
    · cases e
  · cases e
theorem s_aald (C : qCx p s m args meth c G o ini cc nL) {a : Nat} {i : Int32} {v : Option Nat} (hd : decode cc pc = .ok (.aaload, 1)) (e1 : qaald h a i = some v)
    (kk : qS p l e R s m args below meth c G nL n0 s0 Q (pc + 1) L (va_rf v :: r) h) : qS p l e R s m args below meth c G nL n0 s0 Q pc L (.int i :: .ref a :: r) h := by
  intro H locs ls hR hlo hL
  obtain ⟨a1, a2, n, f, hF, hin, rfl⟩ := qaald_spec e1
  have hc := hR.2.2.1 a a1 a2
  rw [hF] at hc
  refine va_aldq (D := gD G) (cl := vwCl) (ws := [(tA G a, .inl (gT G 2, n, .inr (.inr (.inr (.inr (fun i => (f i).map (tA G)))))))]) C.1 C.2.1 C.2.2.2.2.2.1.1 (fun j z hz => by match j, hz with | 0, hz => cases hz; exact hc) 0 2 rfl rfl hin hd ?_
  have := kk H locs ls hR hlo hL
  rw [List.map_cons, show tV G (va_rf (f i.toNatClampNeg)) = va_rf ((f i.toNatClampNeg).map (tA G)) by cases f i.toNatClampNeg <;> rfl] at this
  exact this
theorem qiast_spec {a : Nat} {i x : Int32} (e : qiast h a i x = some h1) : 16 ≤ a ∧ a < h.2.1 ∧ ∃ n f, h.1 a = .inl (0, n, .inl f) ∧ vp_in i n ∧ h1 = (qup h.1 a (.inl (0, n, .inl (upd f i.toNatClampNeg x))), h.2) := by
  unfold qiast at e
  split at e
  · rename_i hc
    split at e
    · rename_i n f hF
      split at e
      · cases e
      · rename_i hi
        exact ⟨hc.1, hc.2, n, f, hF, hi, (Option.some.inj e).symm⟩
    · cases e
  · cases e
theorem s_iast (C : qCx p s m args meth c G o ini cc nL) {a : Nat} {i x : Int32} (hd : decode cc pc = .ok (.iastore, 1)) (e1 : qiast h a i x = some h1)
    (kk : qS p l e R s m args below meth c G nL n0 s0 Q (pc + 1) L r h1) : qS p l e R s m args below meth c G nL n0 s0 Q pc L (.int x :: .int i :: .ref a :: r) h := by
  intro H locs ls hR hlo hL
  obtain ⟨a1, a2, n, f, hF, hin, rfl⟩ := qiast_spec e1
  have hc := hR.2.2.1 a a1 a2
  rw [hF] at hc
  refine W.iast C.1 C.2.1 hc ((C.2.2.2.2.2.1.1.2 0 _ rfl).1 n (fun j => .int (f j))) (fun q => by cases q) (by show ¬ (i < 0 ∨ (arrV _ _ _).slots.size ≤ _); rw [arrV_size]; exact hin) rfl rfl hd fun H1 e2 z oq => ?_
  refine kk H1 _ ls (hR.set a1 a2 ?_ z oq) ?_ hL
  · show H1[tA G a]? = some (vp_cell _ _)
    rw [e2]
    show some (Cell.setSlot (vp_cell (gT G 0) (n, .inl f)) _ _) = some (vp_cell (gT G 0) (n, .inl _))
    rw [vp_cell_i, vp_cell_i, arrV_store]
    congr 2
    funext q
    by_cases hq : q = i.toNatClampNeg
    · subst hq; simp [updV, upd]
    · simp [updV, upd, hq]
  · intro x hx
    rcases List.mem_append.mp hx with h9 | h9
    · exact hlo x h9
    · rw [List.mem_singleton.mp h9]; exact tA_ge a1
theorem qlast_spec {a : Nat} {i : Int32} {x : Int64} (e : qlast h a i x = some h1) : 16 ≤ a ∧ a < h.2.1 ∧ ∃ n f, h.1 a = .inl (1, n, .inr (.inl f)) ∧ vp_in i n ∧ h1 = (qup h.1 a (.inl (1, n, .inr (.inl (vp_updL f i.toNatClampNeg x)))), h.2) := by
  unfold qlast at e
  split at e
  · rename_i hc
    split at e
    · rename_i n f hF
      split at e
      · cases e
      · rename_i hi
        exact ⟨hc.1, hc.2, n, f, hF, hi, (Option.some.inj e).symm⟩
    · cases e
  · cases e
theorem s_last (C : qCx p s m args meth c G o ini cc nL) {a : Nat} {i : Int32} {x : Int64} (hd : decode cc pc = .ok (.lastore, 1)) (e1 : qlast h a i x = some h1)
    (kk : qS p l e R s m args below meth c G nL n0 s0 Q (pc + 1) L r h1) : qS p l e R s m args below meth c G nL n0 s0 Q pc L (.long x :: .int i :: .ref a :: r) h := by
  intro H locs ls hR hlo hL
  obtain ⟨a1, a2, n, f, hF, hin, rfl⟩ := qlast_spec e1
  have hc := hR.2.2.1 a a1 a2
  rw [hF] at hc
  refine W.last C.1 C.2.1 hc ((C.2.2.2.2.2.1.1.2 1 _ rfl).1 n (fun j => .long (f j))) (fun q => by cases q) (by show ¬ (i < 0 ∨ (arrV _ _ _).slots.size ≤ _); rw [arrV_size]; exact hin) rfl rfl hd fun H1 e2 z oq => ?_
  refine kk H1 _ ls (hR.set a1 a2 ?_ z oq) ?_ hL
  · show H1[tA G a]? = some (vp_cell _ _)
    rw [e2]
    show some (Cell.setSlot (vp_cell (gT G 1) (n, .inr (.inl f))) _ _) = some (vp_cell (gT G 1) (n, .inr (.inl _)))
    rw [vp_cell_l, vp_cell_l, arrV_store]
    congr 2
    funext q
    by_cases hq : q = i.toNatClampNeg
    · subst hq; simp [updV, vp_updL]
    · simp [updV, vp_updL, hq]
  · intro x hx
    rcases List.mem_append.mp hx with h9 | h9
    · exact hlo x h9
    · rw [List.mem_singleton.mp h9]; exact tA_ge a1
theorem qalen_spec {a : Nat} {v : Int32} (e : qalen h a = some v) : (a = 0 ∨ (16 ≤ a ∧ a < h.2.1)) ∧ ∃ t n f, h.1 a = .inl (t, n, f) ∧ t ≤ 2 ∧ Int32.ofNat n = v := by
  unfold qalen at e
  split at e
  · rename_i hc
    split at e
    · rename_i t n f hF
      split at e
      · rename_i ht
        exact ⟨hc, t, n, f, hF, ht, Option.some.inj e⟩
      · cases e
    · cases e
  · cases e
theorem s_alen (C : qCx p s m args meth c G o ini cc nL) {a : Nat} {v : Int32} (hd : decode cc pc = .ok (.arraylength, 1)) (e1 : qalen h a = some v)
    (kk : qS p l e R s m args below meth c G nL n0 s0 Q (pc + 1) L (.int v :: r) h) : qS p l e R s m args below meth c G nL n0 s0 Q pc L (.ref a :: r) h := by
  intro H locs ls hR hlo hL
  obtain ⟨ha, t, n, f, hF, ht, rfl⟩ := qalen_spec e1
  rcases ha with rfl | ⟨a1, a2⟩
  · obtain ⟨-, -, -, h4, scr, s1, s2, s3, s4, s5⟩ := C.2.2.2.2.2.1
    have hc := hR.2.2.2.2
    rw [hF] at hc
    cases hc
    have hX : va_X (gS G 0) (gN G) (gX G) s H := ⟨scr, by rw [hR.2.2.2.1 _ h4]; exact s1, s2, s3, s4, s5⟩
    have hlt : gS G 0 < H.size := by have := hR.1; have := hR.2.1; omega
    exact va_slen (A := fun q => gB G ≤ q) (H0 := H) C.1 C.2.1 hX hlt (Nat.not_le.mpr h4) ⟨Nat.le_refl _, fun _ _ _ => rfl, hlo⟩ hd (kk H locs ls hR hlo hL)
  · have hc := hR.2.2.1 a a1 a2
    rw [hF] at hc
    have h3 : ∃ ty, [(gT G 0, FieldType.int), (gT G 1, .long), (gT G 2, .object "BodyCorners$Solid")][t]? = some (gT G t, ty) := by
      match t, ht with
      | 0, _ => exact ⟨_, rfl⟩
      | 1, _ => exact ⟨_, rfl⟩
      | 2, _ => exact ⟨_, rfl⟩
    obtain ⟨ty, hty⟩ := h3
    exact va_alen (D := gD G) (cl := vwCl) (ws := [(tA G a, .inl (gT G t, n, tC G f))]) C.1 C.2.1 C.2.2.2.2.2.1.1 (fun j z hz => by match j, hz with | 0, hz => cases hz; exact hc) 0 t rfl hty rfl hd (kk H locs ls hR hlo hL)
theorem s_newI (C : qCx p s m args meth c G o ini cc nL) {n : Int32} (hd : decode cc pc = .ok (.newarray .int, 2)) (hn : ¬ (n < 0 ∨ 1000000 < n.toNatClampNeg)) (hn0 : n0 ≤ h.2.1) (hs0 : s0 ≤ h.2.2) (hcap : h.2.1 + 1 - n0 ≤ R.cells ∧ h.2.2 + n.toNatClampNeg - s0 ≤ R.slots)
    (kk : qS p l e R s m args below meth c G nL n0 s0 Q (pc + 2) L (.ref h.2.1 :: r) (qnew h (.inl (0, n.toNatClampNeg, .inl (fun _ => 0))) n.toNatClampNeg)) : qS p l e R s m args below meth c G nL n0 s0 Q pc L (.int n :: r) h := by
  intro H locs ls hR hlo hL
  have hts := C.2.2.2.2.1
  refine va_newaK C.1 C.2.1 (atype := .int) (hts _ q_aci) rfl hd rfl (fun z => hn (Or.inl z)) rfl (by have : ¬ 1000000 < n.toNatClampNeg := fun z => hn (Or.inr z); show n.toNatClampNeg * 4 ≤ _; omega) (by omega) (by omega) rfl fun H1 cA e1 z1 o1 hAr hNm => ?_
  have hcA : cA = gT G 0 := Option.some.inj (hNm.symm.trans (C.2.2.2.2.2.1.1.2 0 _ rfl).2)
  subst hcA
  have := kk H1 locs ls (hR.push (c := .inl (0, n.toNatClampNeg, .inl (fun _ => 0))) e1 z1 o1) hlo hL
  rw [List.map_cons, show tV G (.ref h.2.1) = .ref H.size from congrArg Value.ref hR.top] at this
  rw [show h.2.1 - n0 + 1 = (qnew h (.inl (0, n.toNatClampNeg, .inl (fun _ => 0))) n.toNatClampNeg).2.1 - n0 by show h.2.1 - n0 + 1 = h.2.1 + 1 - n0; omega, show h.2.2 - s0 + n.toNatClampNeg = (qnew h (.inl (0, n.toNatClampNeg, .inl (fun _ => 0))) n.toNatClampNeg).2.2 - s0 by show h.2.2 - s0 + n.toNatClampNeg = h.2.2 + n.toNatClampNeg - s0; omega]
  exact this
theorem s_newL (C : qCx p s m args meth c G o ini cc nL) {n : Int32} (hd : decode cc pc = .ok (.newarray .long, 2)) (hn : ¬ (n < 0 ∨ 1000000 < n.toNatClampNeg)) (hn0 : n0 ≤ h.2.1) (hs0 : s0 ≤ h.2.2) (hcap : h.2.1 + 1 - n0 ≤ R.cells ∧ h.2.2 + n.toNatClampNeg - s0 ≤ R.slots)
    (kk : qS p l e R s m args below meth c G nL n0 s0 Q (pc + 2) L (.ref h.2.1 :: r) (qnew h (.inl (1, n.toNatClampNeg, .inr (.inl (fun _ => 0)))) n.toNatClampNeg)) : qS p l e R s m args below meth c G nL n0 s0 Q pc L (.int n :: r) h := by
  intro H locs ls hR hlo hL
  have hts := C.2.2.2.2.1
  refine va_newaK C.1 C.2.1 (atype := .long) (hts _ q_acl) rfl hd rfl (fun z => hn (Or.inl z)) rfl (by have : ¬ 1000000 < n.toNatClampNeg := fun z => hn (Or.inr z); show n.toNatClampNeg * 8 ≤ _; omega) (by omega) (by omega) rfl fun H1 cA e1 z1 o1 hAr hNm => ?_
  have hcA : cA = gT G 1 := Option.some.inj (hNm.symm.trans (C.2.2.2.2.2.1.1.2 1 _ rfl).2)
  subst hcA
  have := kk H1 locs ls (hR.push (c := .inl (1, n.toNatClampNeg, .inr (.inl (fun _ => 0)))) e1 z1 o1) hlo hL
  rw [List.map_cons, show tV G (.ref h.2.1) = .ref H.size from congrArg Value.ref hR.top] at this
  rw [show h.2.1 - n0 + 1 = (qnew h (.inl (1, n.toNatClampNeg, .inr (.inl (fun _ => 0)))) n.toNatClampNeg).2.1 - n0 by show h.2.1 - n0 + 1 = h.2.1 + 1 - n0; omega, show h.2.2 - s0 + n.toNatClampNeg = (qnew h (.inl (1, n.toNatClampNeg, .inr (.inl (fun _ => 0)))) n.toNatClampNeg).2.2 - s0 by show h.2.2 - s0 + n.toNatClampNeg = h.2.2 + n.toNatClampNeg - s0; omega]
  exact this
theorem s_newR (C : qCx p s m args meth c G o ini cc nL) {n : Int32} {idx : Nat} (hlink : Cond.classLink (qcn o) idx "BodyCorners$Solid" ∈ qTB) (hd : decode cc pc = .ok (.anewarray idx, 3)) (hn : ¬ (n < 0 ∨ 1000000 < n.toNatClampNeg)) (hn0 : n0 ≤ h.2.1) (hs0 : s0 ≤ h.2.2) (hcap : h.2.1 + 1 - n0 ≤ R.cells ∧ h.2.2 + n.toNatClampNeg - s0 ≤ R.slots)
    (kk : qS p l e R s m args below meth c G nL n0 s0 Q (pc + 3) L (.ref h.2.1 :: r) (qnew h (.inl (2, n.toNatClampNeg, .inr (.inr (fun _ => none)))) n.toNatClampNeg)) : qS p l e R s m args below meth c G nL n0 s0 Q pc L (.int n :: r) h := by
  intro H locs ls hR hlo hL
  have hts := C.2.2.2.2.1
  refine W.anew C.1 C.2.1 C.2.2.2.1 (hts _ hlink) (va_AO.use C.2.2.2.2.2.1.2.2.1) rfl hd rfl (fun z => hn (Or.inl z)) (by have : ¬ 1000000 < n.toNatClampNeg := fun z => hn (Or.inr z); omega) (by omega) (by omega) fun cA kA comp f1 f2 f3 f4 => ?_
  obtain ⟨-, kA', comp', -, -, -, hfa⟩ := (C.2.2.2.2.2.1.1.2 2 _ rfl)
  have hcA : cA = gT G 2 := Option.some.inj (f1.symm.trans hfa)
  subst hcA
  have hcell : (H.push ({ cls := gT G 2, slots := Array.replicate n.toNatClampNeg .null, vm := .none } : Cell))[H.size]? = some (vp_cell (gT G 2) (n.toNatClampNeg, tC G (.inr (.inr (fun _ => none))))) := by
    rw [Array.getElem?_push_size]
    show _ = some (arrV (gT G 2) n.toNatClampNeg (fun j => va_rf none))
    rw [← arrV_new]
    rfl
  have := kk _ locs ls (hR.push (c := .inl (2, n.toNatClampNeg, .inr (.inr (fun _ => none)))) hcell (by simp) (fun q hq => by rw [Array.getElem?_push, if_neg (Nat.ne_of_lt hq)])) hlo hL
  rw [List.map_cons, show tV G (.ref h.2.1) = .ref H.size from congrArg Value.ref hR.top] at this
  rw [show h.2.1 - n0 + 1 = (qnew h (.inl (2, n.toNatClampNeg, .inr (.inr (fun _ => none)))) n.toNatClampNeg).2.1 - n0 by show h.2.1 - n0 + 1 = h.2.1 + 1 - n0; omega, show h.2.2 - s0 + n.toNatClampNeg = (qnew h (.inl (2, n.toNatClampNeg, .inr (.inr (fun _ => none)))) n.toNatClampNeg).2.2 - s0 by show h.2.2 - s0 + n.toNatClampNeg = h.2.2 + n.toNatClampNeg - s0; omega]
  exact this
theorem s_newO (C : qCx p s m args meth c G o ini cc nL) {ci idx : Nat} {q : vw_C} (hq : vwCl[ci]? = some q) (hlink : Cond.classLink (qcn o) idx q.1 ∈ qTB) (hinst : Cond.instantiable q.1 q.2.2 ∈ qTB) (hini : Cond.initialized q.1 ∈ qTB) (hd : decode cc pc = .ok (.new idx, 3)) (hn0 : n0 ≤ h.2.1) (hs0 : s0 ≤ h.2.2) (hcap : h.2.1 + 1 - n0 ≤ R.cells ∧ h.2.2 + qnF ci - s0 ≤ R.slots)
    (kk : qS p l e R s m args below meth c G nL n0 s0 Q (pc + 3) L (.ref h.2.1 :: r) (qnew h (.inr (ci, qdef ci)) (qnF ci))) : qS p l e R s m args below meth c G nL n0 s0 Q pc L r h := by
  intro H locs ls hR hlo hL
  have hts := C.2.2.2.2.1
  obtain ⟨hN, hin, hty, hnm, hdf⟩ := q_cls ci q hq
  have hKn := C.2.2.2.2.2.1.1.1 ci _ hq
  refine W.newcK C.1 C.2.1 C.2.2.2.1 (hts _ hlink) (hts _ hinst) (hts _ hini) rfl hd (by omega) (by rw [hN]; omega) hKn.2.1 rfl fun H1 kC hkC e1 z1 o1 => ?_
  have hob : qat G (.inr (ci, qdef ci)) H1 H.size := by
    have h9 := u_born (qty ci) hts hin hKn hkC e1 hty
    rw [hN] at h9
    refine t_OB.to h9 (fun j hj => ?_)
    show defaultValue (qty ci j) = tV G (qdef ci j)
    rw [hdf j (by rw [hN]; exact hj)]
    unfold qdef
    split <;> rfl
  have := kk H1 locs ls (hR.push (c := .inr (ci, qdef ci)) hob z1 o1) hlo hL
  rw [List.map_cons, show tV G (.ref h.2.1) = .ref H.size from congrArg Value.ref hR.top] at this
  rw [show h.2.1 - n0 + 1 = (qnew h (.inr (ci, qdef ci)) (qnF ci)).2.1 - n0 by show h.2.1 - n0 + 1 = h.2.1 + 1 - n0; omega, show h.2.2 - s0 + q.2.2 = (qnew h (.inr (ci, qdef ci)) (qnF ci)).2.2 - s0 by show h.2.2 - s0 + q.2.2 = h.2.2 + qnF ci - s0; omega]
  exact this
end QRULES

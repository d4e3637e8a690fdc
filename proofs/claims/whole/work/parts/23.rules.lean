/-! ===== RULES: an instruction of the pure machine is one of the model's ===== -/
section QRULES
variable {p : Program} {l : Launch} {e : Env} {R : Room} {s : State} {m : MethodId} {args : Array Value} {below : List Frame} {meth : Method} {c : Code} {Q : State → Prop} {G : qE} {cc : ByteArray} {o nL n0 s0 pc : Nat} {ini : Bool} {L : qL} {st r : List Value} {h h1 : qH}
/-- what a method's body knows: the machine, its code, its class, the words, the classes -/
def qCx (p : Program) (s : State) (m : MethodId) (args : Array Value) (meth : Method) (c : Code) (G : qE) (o : Nat) (ini : Bool) (cc : ByteArray) (nL : Nat) : Prop :=
  p.tables.exec = Jvm.exec ∧ c.code = cc ∧ c.maxLocals = nL ∧ s.vm.findClass (qcn o) = some m.cls ∧ (∀ w ∈ qTB, w.before args s = true) ∧ qKn G s ∧ (ini = true → meth.name = "<init>")
/-- the model's machine comes to Q from every state that the pure one stands for -/
def qS (p : Program) (l : Launch) (e : Env) (R : Room) (s : State) (m : MethodId) (args : Array Value) (below : List Frame) (meth : Method) (c : Code) (G : qE) (nL n0 s0 : Nat) (Q : State → Prop) (pc : Nat) (L : qL) (st : List Value) (h : qH) : Prop :=
  ∀ (H : Heap) (locs : List Loc) (ls : Array Slot), qR G h H → (∀ q ∈ locs, gB G ≤ q.base) → qLr G nL L ls → W p l e R s m args below meth c H locs (h.2.1 - n0) (h.2.2 - s0) Q (F0 m pc ls (st.map (tV G)))
theorem qget_spec {a ci k : Nat} {v : Value} (e : qget h a ci k = some v) : 16 ≤ a ∧ a < h.2.1 ∧ k < qnF ci ∧ ∃ F, h.1 a = .inr (ci, F) ∧ F k = v := by
  unfold qget at e
  split at e
  · rename_i hc
    split at e
    · rename_i c F hF
      split at e
      · rename_i hci
        subst hci
        exact ⟨hc.1, hc.2.1, hc.2.2, F, hF, Option.some.inj e⟩
      · cases e
    · cases e
  · cases e
theorem qput_spec {a ci k : Nat} {v : Value} (e : qput h a ci k v = some h1) : 16 ≤ a ∧ a < h.2.1 ∧ k < qnF ci ∧ ∃ F, h.1 a = .inr (ci, F) ∧ h1 = (qup h.1 a (.inr (ci, qfu F k v)), h.2) := by
  unfold qput at e
  split at e
  · rename_i hc
    split at e
    · rename_i c F hF
      split at e
      · rename_i hci
        subst hci
        exact ⟨hc.1, hc.2.1, hc.2.2, F, hF, (Option.some.inj e).symm⟩
      · cases e
    · cases e
  · cases e
theorem s_get (C : qCx p s m args meth c G o ini cc nL) {ci k a idx : Nat} {v : Value} {q : vw_C} (hq : vwCl[ci]? = some q) (hlink : Cond.fieldLink (qcn o) idx (q.2.1 k).1 (q.2.1 k).2.1 (q.2.1 k).2.2.1 ∈ qTB) (hd : decode cc pc = .ok (.getfield idx, 3)) (e1 : qget h a ci k = some v)
    (kk : qS p l e R s m args below meth c G nL n0 s0 Q (pc + 3) L (v :: r) h) : qS p l e R s m args below meth c G nL n0 s0 Q pc L (.ref a :: r) h := by
  intro H locs ls hR hlo hL
  obtain ⟨a1, a2, a3, F, hF, rfl⟩ := qget_spec e1
  have hc := hR.2.2.1 a a1 a2
  rw [hF] at hc
  have hcl := q_cls ci q hq
  have hN : q.2.2 = qnF ci := hcl.1
  have hlen : ((List.range (qnF ci)).map (fun k => tV G (F k))).length = qnF ci := by simp
  have hval : ∀ j, j < qnF ci → ((List.range (qnF ci)).map (fun k => tV G (F k)))[j]? = some (tV G (F j)) := fun j hj => by simp [hj]
  refine va_get (D := gD G) (cl := vwCl) (ws := [(tA G a, .inr (ci, (List.range (qnF ci)).map (fun k => tV G (F k))))]) (ci := ci) (fs := (List.range (qnF ci)).map (fun k => tV G (F k))) (C := q.1) (T := q.2.1) (N := q.2.2) (own := qcn o) (ref := (q.2.1 k).1) C.1 C.2.1 C.2.2.2.2.1 hcl.2.1 C.2.2.2.1 C.2.2.2.2.2.1.1 ?_ 0 rfl hq k (by rw [hN]; exact a3) (C.2.2.2.2.1 _ hlink) (fun _ h9 => h9) (hval k a3) hd (kk H locs ls hR hlo hL)
  intro j z hz
  match j, hz with
  | 0, hz =>
    cases hz
    refine ⟨q, hq, ?_⟩
    rw [hN]
    exact t_OB.to hc (fun j hj => by simp [vp_V, hj])
theorem s_put (C : qCx p s m args meth c G o ini cc nL) {ci k a idx : Nat} {v : Value} {q : vw_C} (hq : vwCl[ci]? = some q) (hlink : Cond.fieldLink (qcn o) idx (q.2.1 k).1 (q.2.1 k).2.1 (q.2.1 k).2.2.1 ∈ qTB) (hd : decode cc pc = .ok (.putfield idx, 3)) (hn : narrow (qty ci k) (tV G v) = tV G v) (hf : fits (qty ci k) (tV G v) = true) (hfin : (q.2.1 k).2.2.2 = true → ini = true ∧ (q.2.1 k).1 = qcn o) (e1 : qput h a ci k v = some h1)
    (kk : qS p l e R s m args below meth c G nL n0 s0 Q (pc + 3) L r h1) : qS p l e R s m args below meth c G nL n0 s0 Q pc L (v :: .ref a :: r) h := by
  intro H locs ls hR hlo hL
  obtain ⟨a1, a2, a3, F, hF, rfl⟩ := qput_spec e1
  have hc := hR.2.2.1 a a1 a2
  rw [hF] at hc
  have hcl := q_cls ci q hq
  obtain ⟨hN, hin, hty, hnm, -⟩ := hcl
  have hts := C.2.2.2.2.1
  have hK := C.2.2.2.2.2.1.1
  have hown := C.2.2.2.1
  have hk : k < q.2.2 := by rw [hN]; exact a3
  have hap := va_apart (own := qcn o) (C := q.1) (T := q.2.1) (N := q.2.2) hts hin (qty ci) hty hnm hK hq
  obtain ⟨cell, q1, q2, q3, q4⟩ := hc
  obtain ⟨hS, hfc, kC, hkC, hkind⟩ := hK.1 ci _ hq
  obtain ⟨cf, kf, fi, f, hi, hsl⟩ := hS k hk
  have hst := (u_facts hfc hkC (u_lays hts hin hk) hi).1
  have hset : ∀ (H' : Heap), H'[tA G a]? = some (cell.setSlot f.slot (tV G v)) → qat G (.inr (ci, qfu F k v)) H' (tA G a) := by
    intro H' e2
    rw [hsl] at e2
    refine ⟨_, e2, q2, q3, fun j hj => ?_⟩
    have h9 := t_set (V := fun k => tV G (F k)) q4 (by rw [← hN]; exact hap) a3 (tV G v) j hj
    rw [h9]
    show some (updV (fun k => tV G (F k)) k (tV G v) j) = some (tV G (if j = k then v else F j))
    by_cases hjk : j = k
    · subst hjk; simp [updV]
    · simp [updV, hjk]
  have hlo' : ∀ x ∈ locs ++ [(⟨tA G a, f.slot⟩ : Loc)], gB G ≤ x.base := by
    intro x hx
    rcases List.mem_append.mp hx with h9 | h9
    · exact hlo x h9
    · rw [List.mem_singleton.mp h9]; exact tA_ge a1
  have hlay := hts _ (hin _ (u_in_lay hk))
  unfold u_lay at hlay
  have hslot : f.slot < cell.slots.size := by rw [hsl]; exact k2_hasslot (q4 k a3)
  by_cases hfi : (q.2.1 k).2.2.2 = true
  · rw [if_pos hfi] at hlay
    obtain ⟨hini, hdecl⟩ := hfin hfi
    have hcf : m.cls = cf := by
      obtain ⟨_, _, c', _, _, _, -, -, hf', -, -, -, hown2, -⟩ := Cond.laysFinal_spec hlay
      have e9 : c' = cf := by have := hi.symm.trans hf'; simp at this; exact this.1.symm
      rw [hdecl] at hown2
      rw [← e9]; exact Option.some.inj (hown.symm.trans hown2)
    have h6 := u_fits hfc hkC hkind (Or.inr hlay) hi (hty k hk) hn hf
    exact W.putFinK C.1 C.2.1 hown (hts _ hlink) hi hst hcf (C.2.2.2.2.2.2 hini) (by rw [q2]; exact h6) q1 q3 hslot rfl rfl hd fun H' e1 e2 e3 => kk H' _ ls (hR.set a1 a2 (hset H' e1) e2 e3) hlo' hL
  · rw [if_neg hfi] at hlay
    have h6 := u_store hfc hkC hkind hlay hi (hty k hk) hn hf
    exact W.putK C.1 C.2.1 (f := f) ⟨hown, hts _ hlink, ⟨_, _, _, hi⟩, hst⟩ (by rw [q2]; exact h6) q1 q3 hslot rfl rfl hd fun H' e1 e2 e3 => kk H' _ ls (hR.set a1 a2 (hset H' e1) e2 e3) hlo' hL
theorem qiald_spec {a : Nat} {i v : Int32} (e : qiald h a i = some v) : (a = 0 ∨ (16 ≤ a ∧ a < h.2.1)) ∧ ∃ n f, h.1 a = .inl (0, n, .inl f) ∧ vp_in i n ∧ f i.toNatClampNeg = v := by
  unfold qiald at e
  split at e
  · rename_i hc
    split at e
    · rename_i n f hF
      split at e
      · cases e
      · rename_i hi
        exact ⟨hc, n, f, hF, hi, Option.some.inj e⟩
    · cases e
  · cases e
theorem s_iald (C : qCx p s m args meth c G o ini cc nL) {a : Nat} {i v : Int32} (hd : decode cc pc = .ok (.iaload, 1)) (e1 : qiald h a i = some v)
    (kk : qS p l e R s m args below meth c G nL n0 s0 Q (pc + 1) L (.int v :: r) h) : qS p l e R s m args below meth c G nL n0 s0 Q pc L (.int i :: .ref a :: r) h := by
  intro H locs ls hR hlo hL
  obtain ⟨ha, n, f, hF, hin, rfl⟩ := qiald_spec e1
  rcases ha with rfl | ⟨a1, a2⟩
  · obtain ⟨-, -, -, h4, -, scr, s1, s2, s3, s4, s5⟩ := C.2.2.2.2.2.1
    have hc := hR.2.2.2.2
    rw [hF] at hc
    cases hc
    have hX : va_X (gS G 0) (gN G) (gX G) s H := ⟨scr, by rw [hR.2.2.2.1 _ h4]; exact s1, s2, s3, s4, s5⟩
    have hlt : gS G 0 < H.size := by have := hR.1; have := hR.2.1; omega
    exact va_sld (A := fun q => gB G ≤ q) (H0 := H) C.1 C.2.1 hX hlt (Nat.not_le.mpr h4) ⟨Nat.le_refl _, fun _ _ _ => rfl, hlo⟩ hin hd (kk H locs ls hR hlo hL)
  · have hc := hR.2.2.1 a a1 a2
    rw [hF] at hc
    exact va_iald (D := gD G) (cl := vwCl) (ws := [(tA G a, .inl (gT G 0, n, .inl f))]) C.1 C.2.1 C.2.2.2.2.2.1.1 (fun j z hz => by match j, hz with | 0, hz => cases hz; exact hc) 0 0 rfl rfl hin hd (kk H locs ls hR hlo hL)
theorem qlald_spec {a : Nat} {i : Int32} {v : Int64} (e : qlald h a i = some v) : 16 ≤ a ∧ a < h.2.1 ∧ ∃ n f, h.1 a = .inl (1, n, .inr (.inl f)) ∧ vp_in i n ∧ f i.toNatClampNeg = v := by
  unfold qlald at e
  split at e
  · rename_i hc
    split at e
    · rename_i n f hF
      split at e
      · cases e
      · rename_i hi
        exact ⟨hc.1, hc.2, n, f, hF, hi, Option.some.inj e⟩
    · cases e
  · cases e
theorem s_lald (C : qCx p s m args meth c G o ini cc nL) {a : Nat} {i : Int32} {v : Int64} (hd : decode cc pc = .ok (.laload, 1)) (e1 : qlald h a i = some v)
    (kk : qS p l e R s m args below meth c G nL n0 s0 Q (pc + 1) L (.long v :: r) h) : qS p l e R s m args below meth c G nL n0 s0 Q pc L (.int i :: .ref a :: r) h := by
  intro H locs ls hR hlo hL
  obtain ⟨a1, a2, n, f, hF, hin, rfl⟩ := qlald_spec e1
  have hc := hR.2.2.1 a a1 a2
  rw [hF] at hc
  exact va_lald (D := gD G) (cl := vwCl) (ws := [(tA G a, .inl (gT G 1, n, .inr (.inl f)))]) C.1 C.2.1 C.2.2.2.2.2.1.1 (fun j z hz => by match j, hz with | 0, hz => cases hz; exact hc) 0 1 rfl rfl hin hd (kk H locs ls hR hlo hL)
theorem qaald_spec {a : Nat} {i : Int32} {v : Option Nat} (e : qaald h a i = some v) : 16 ≤ a ∧ a < h.2.1 ∧ ∃ t n f, (t = 2 ∨ t = 3) ∧ h.1 a = .inl (t, n, .inr (.inr f)) ∧ vp_in i n ∧ f i.toNatClampNeg = v := by
  unfold qaald at e
  split at e
  · rename_i hc
    split at e
    · rename_i n f hF
      split at e
      · cases e
      · rename_i hi
        exact ⟨hc.1, hc.2, 2, n, f, Or.inl rfl, hF, hi, Option.some.inj e⟩
    · rename_i n f hF
      split at e
      · cases e
      · rename_i hi
        exact ⟨hc.1, hc.2, 3, n, f, Or.inr rfl, hF, hi, Option.some.inj e⟩
    · cases e
  · cases e
theorem s_aald (C : qCx p s m args meth c G o ini cc nL) {a : Nat} {i : Int32} {v : Option Nat} (hd : decode cc pc = .ok (.aaload, 1)) (e1 : qaald h a i = some v)
    (kk : qS p l e R s m args below meth c G nL n0 s0 Q (pc + 1) L (va_rf v :: r) h) : qS p l e R s m args below meth c G nL n0 s0 Q pc L (.int i :: .ref a :: r) h := by
  intro H locs ls hR hlo hL
  obtain ⟨a1, a2, t, n, f, ht, hF, hin, rfl⟩ := qaald_spec e1
  have hc := hR.2.2.1 a a1 a2
  rw [hF] at hc
  have hlt : i.toNatClampNeg < n := Nat.not_le.mp fun q => hin (Or.inr q)
  have key : ∀ ty : FieldType, ty.isReference = true → ArrOfT s (gT G t) ty → W p l e R s m args below meth c H locs (h.2.1 - n0) (h.2.2 - s0) Q (F0 m pc ls (.int i :: .ref (tA G a) :: r.map (tV G))) := by
    intro ty h1 h2
    refine W.aald (v := va_rf ((f i.toNatClampNeg).map (tA G))) (ty := ty) C.1 C.2.1 hc (h2 n (fun j => va_rf ((f j).map (tA G)))) h1 (fun q => by cases q) (by show ¬ (i < 0 ∨ (arrV _ _ _).slots.size ≤ _); rw [arrV_size]; exact hin) (by show (arrV _ _ _).slots[_]? = _; rw [arrV_read _ _ hlt]) rfl rfl hd ?_
    have := kk H locs ls hR hlo hL
    rw [List.map_cons, show tV G (va_rf (f i.toNatClampNeg)) = va_rf ((f i.toNatClampNeg).map (tA G)) by cases f i.toNatClampNeg <;> rfl] at this
    exact this
  rcases ht with rfl | rfl
  · exact key _ rfl (C.2.2.2.2.2.1.1.2 2 _ rfl).1
  · exact key _ rfl (C.2.2.2.2.2.1.1.2 3 _ rfl).1
theorem qaast_spec {a b : Nat} {i : Int32} (e : qaast h a i b = some h1) : (16 ≤ a ∧ a < h.2.1) ∧ (16 ≤ b ∧ b < h.2.1) ∧ ∃ t n f, h.1 a = .inl (t, n, .inr (.inr f)) ∧ vp_in i n ∧ h1 = (qup h.1 a (.inl (t, n, .inr (.inr (va_up f i.toNatClampNeg (some b))))), h.2) ∧ ((t = 2 ∧ ∃ F, h.1 b = .inr (8, F)) ∨ (t = 3 ∧ ∃ k g, h.1 b = .inl (0, k, .inl g))) := by
  unfold qaast at e
  split at e
  · rename_i hc
    split at e
    · rename_i n f F hF hb
      split at e
      · cases e
      · rename_i hi
        exact ⟨hc.1, hc.2, 2, n, f, hF, hi, (Option.some.inj e).symm, Or.inl ⟨rfl, F, hb⟩⟩
    · rename_i n f k g hF hb
      split at e
      · cases e
      · rename_i hi
        exact ⟨hc.1, hc.2, 3, n, f, hF, hi, (Option.some.inj e).symm, Or.inr ⟨rfl, k, g, hb⟩⟩
    · cases e
  · cases e
theorem s_aast (C : qCx p s m args meth c G o ini cc nL) {a b : Nat} {i : Int32} (hd : decode cc pc = .ok (.aastore, 1)) (e1 : qaast h a i b = some h1)
    (kk : qS p l e R s m args below meth c G nL n0 s0 Q (pc + 1) L r h1) : qS p l e R s m args below meth c G nL n0 s0 Q pc L (.ref b :: .int i :: .ref a :: r) h := by
  intro H locs ls hR hlo hL
  obtain ⟨⟨a1, a2⟩, ⟨b1, b2⟩, t, n, f, hF, hin, rfl, hcase⟩ := qaast_spec e1
  have hlt : i.toNatClampNeg < n := Nat.not_le.mp fun q => hin (Or.inr q)
  have h0 : ¬ i < 0 := fun q => hin (Or.inl q)
  have hc := hR.2.2.1 a a1 a2
  rw [hF] at hc
  have hK := C.2.2.2.2.2.1.1
  have fin : ∀ H1 : Heap, H1[tA G a]? = some (Cell.setSlot (vp_cell (gT G t) (n, tC G (.inr (.inr f)))) i.toNatClampNeg (.ref (tA G b))) → H1.size = H.size → (∀ q, q ≠ tA G a → H1[q]? = H[q]?) → W p l e R s m args below meth c H1 (locs ++ [⟨tA G a, i.toNatClampNeg⟩]) (h.2.1 - n0) (h.2.2 - s0) Q (F0 m (pc + 1) ls (r.map (tV G))) := by
    intro H1 e2 z oq
    refine kk H1 _ ls (hR.set a1 a2 ?_ z oq) ?_ hL
    · show H1[tA G a]? = some (vp_cell _ _)
      rw [e2]
      show some (Cell.setSlot (vp_cell (gT G t) (n, .inr (.inr (.inr (.inr (fun j => (f j).map (tA G))))))) _ _) = some (vp_cell (gT G t) (n, .inr (.inr (.inr (.inr (fun j => (va_up f i.toNatClampNeg (some b) j).map (tA G)))))))
      rw [vp_cell_q, vp_cell_q, arrV_store]
      congr 2
      funext q
      by_cases hq : q = i.toNatClampNeg
      · subst hq; simp [updV, va_up, va_rf]
      · simp [updV, va_up, hq]
    · intro x hx
      rcases List.mem_append.mp hx with h9 | h9
      · exact hlo x h9
      · rw [List.mem_singleton.mp h9]; exact tA_ge a1
  rcases hcase with ⟨rfl, F, hb⟩ | ⟨rfl, k, g, hb⟩
  · have hv := hR.2.2.1 b b1 b2
    rw [hb] at hv
    obtain ⟨cellV, g1, g2, g3, -⟩ := hv
    have hcls := (hK.1 8 _ rfl).2
    obtain ⟨kA, comp, k1, k2, k3, -⟩ := (hK.2 2 _ rfl).2
    have hcomp : comp = (gD G).1 8 := Option.some.inj (k3.symm.trans hcls.1)
    subst hcomp
    obtain ⟨kC, hkC, -⟩ := hcls.2
    exact W.aast C.1 C.2.1 hc (fun q h => by cases h) (fun h => by cases h) k1 k2 rfl hkC ⟨h0, by show _ < (arrV _ _ _).slots.size; rw [arrV_size]; exact hlt⟩ g1 (fun q h => by rw [g3] at h; cases h) (by rw [g2]; exact hkC) (by rw [g2]; exact va_asg _ _) rfl rfl hd fin
  · have hv := hR.2.2.1 b b1 b2
    rw [hb] at hv
    obtain ⟨comp, c3, k3, f1, -, f3, f4, f5⟩ := arrayOverA_spec C.2.2.2.2.2.1.2.2.1.2.1
    have hc3 : c3 = gT G 3 := Option.some.inj (f5.symm.trans (hK.2 3 _ rfl).2)
    subst hc3
    have hcomp : comp = gT G 0 := Option.some.inj (f1.symm.trans (hK.2 0 _ rfl).2)
    subst hcomp
    obtain ⟨-, k0, hk0, -, -⟩ := (hK.2 0 _ rfl).1 0 (fun _ => .null)
    exact W.aast C.1 C.2.1 hc (fun q h => by cases h) (fun h => by cases h) f3 f4 rfl hk0 ⟨h0, by show _ < (arrV _ _ _).slots.size; rw [arrV_size]; exact hlt⟩ hv (fun q h => by cases h) hk0 (va_asg _ _) rfl rfl hd fin
theorem qiast_spec {a : Nat} {i x : Int32} (e : qiast h a i x = some h1) : 16 ≤ a ∧ a < h.2.1 ∧ ∃ n f, h.1 a = .inl (0, n, .inl f) ∧ vp_in i n ∧ h1 = (qup h.1 a (.inl (0, n, .inl (upd f i.toNatClampNeg x))), h.2) := by
  unfold qiast at e
  split at e
  · rename_i hc
    split at e
    · rename_i n f hF
      split at e
      · cases e
      · rename_i hi
        exact ⟨hc.1, hc.2, n, f, hF, hi, (Option.some.inj e).symm⟩
    · cases e
  · cases e
theorem s_iast (C : qCx p s m args meth c G o ini cc nL) {a : Nat} {i x : Int32} (hd : decode cc pc = .ok (.iastore, 1)) (e1 : qiast h a i x = some h1)
    (kk : qS p l e R s m args below meth c G nL n0 s0 Q (pc + 1) L r h1) : qS p l e R s m args below meth c G nL n0 s0 Q pc L (.int x :: .int i :: .ref a :: r) h := by
  intro H locs ls hR hlo hL
  obtain ⟨a1, a2, n, f, hF, hin, rfl⟩ := qiast_spec e1
  have hc := hR.2.2.1 a a1 a2
  rw [hF] at hc
  refine W.iast C.1 C.2.1 hc ((C.2.2.2.2.2.1.1.2 0 _ rfl).1 n (fun j => .int (f j))) (fun q => by cases q) (by show ¬ (i < 0 ∨ (arrV _ _ _).slots.size ≤ _); rw [arrV_size]; exact hin) rfl rfl hd fun H1 e2 z oq => ?_
  refine kk H1 _ ls (hR.set a1 a2 ?_ z oq) ?_ hL
  · show H1[tA G a]? = some (vp_cell _ _)
    rw [e2]
    show some (Cell.setSlot (vp_cell (gT G 0) (n, .inl f)) _ _) = some (vp_cell (gT G 0) (n, .inl _))
    rw [vp_cell_i, vp_cell_i, arrV_store]
    congr 2
    funext q
    by_cases hq : q = i.toNatClampNeg
    · subst hq; simp [updV, upd]
    · simp [updV, upd, hq]
  · intro x hx
    rcases List.mem_append.mp hx with h9 | h9
    · exact hlo x h9
    · rw [List.mem_singleton.mp h9]; exact tA_ge a1
theorem qlast_spec {a : Nat} {i : Int32} {x : Int64} (e : qlast h a i x = some h1) : 16 ≤ a ∧ a < h.2.1 ∧ ∃ n f, h.1 a = .inl (1, n, .inr (.inl f)) ∧ vp_in i n ∧ h1 = (qup h.1 a (.inl (1, n, .inr (.inl (vp_updL f i.toNatClampNeg x)))), h.2) := by
  unfold qlast at e
  split at e
  · rename_i hc
    split at e
    · rename_i n f hF
      split at e
      · cases e
      · rename_i hi
        exact ⟨hc.1, hc.2, n, f, hF, hi, (Option.some.inj e).symm⟩
    · cases e
  · cases e
theorem s_last (C : qCx p s m args meth c G o ini cc nL) {a : Nat} {i : Int32} {x : Int64} (hd : decode cc pc = .ok (.lastore, 1)) (e1 : qlast h a i x = some h1)
    (kk : qS p l e R s m args below meth c G nL n0 s0 Q (pc + 1) L r h1) : qS p l e R s m args below meth c G nL n0 s0 Q pc L (.long x :: .int i :: .ref a :: r) h := by
  intro H locs ls hR hlo hL
  obtain ⟨a1, a2, n, f, hF, hin, rfl⟩ := qlast_spec e1
  have hc := hR.2.2.1 a a1 a2
  rw [hF] at hc
  refine W.last C.1 C.2.1 hc ((C.2.2.2.2.2.1.1.2 1 _ rfl).1 n (fun j => .long (f j))) (fun q => by cases q) (by show ¬ (i < 0 ∨ (arrV _ _ _).slots.size ≤ _); rw [arrV_size]; exact hin) rfl rfl hd fun H1 e2 z oq => ?_
  refine kk H1 _ ls (hR.set a1 a2 ?_ z oq) ?_ hL
  · show H1[tA G a]? = some (vp_cell _ _)
    rw [e2]
    show some (Cell.setSlot (vp_cell (gT G 1) (n, .inr (.inl f))) _ _) = some (vp_cell (gT G 1) (n, .inr (.inl _)))
    rw [vp_cell_l, vp_cell_l, arrV_store]
    congr 2
    funext q
    by_cases hq : q = i.toNatClampNeg
    · subst hq; simp [updV, vp_updL]
    · simp [updV, vp_updL, hq]
  · intro x hx
    rcases List.mem_append.mp hx with h9 | h9
    · exact hlo x h9
    · rw [List.mem_singleton.mp h9]; exact tA_ge a1
theorem qalen_spec {a : Nat} {v : Int32} (e : qalen h a = some v) : (a = 0 ∨ (16 ≤ a ∧ a < h.2.1)) ∧ ∃ t n f, h.1 a = .inl (t, n, f) ∧ t ≤ 3 ∧ Int32.ofNat n = v := by
  unfold qalen at e
  split at e
  · rename_i hc
    split at e
    · rename_i t n f hF
      split at e
      · rename_i ht
        exact ⟨hc, t, n, f, hF, ht, Option.some.inj e⟩
      · cases e
    · cases e
  · cases e
theorem s_alen (C : qCx p s m args meth c G o ini cc nL) {a : Nat} {v : Int32} (hd : decode cc pc = .ok (.arraylength, 1)) (e1 : qalen h a = some v)
    (kk : qS p l e R s m args below meth c G nL n0 s0 Q (pc + 1) L (.int v :: r) h) : qS p l e R s m args below meth c G nL n0 s0 Q pc L (.ref a :: r) h := by
  intro H locs ls hR hlo hL
  obtain ⟨ha, t, n, f, hF, ht, rfl⟩ := qalen_spec e1
  rcases ha with rfl | ⟨a1, a2⟩
  · obtain ⟨-, -, -, h4, -, scr, s1, s2, s3, s4, s5⟩ := C.2.2.2.2.2.1
    have hc := hR.2.2.2.2
    rw [hF] at hc
    cases hc
    have hX : va_X (gS G 0) (gN G) (gX G) s H := ⟨scr, by rw [hR.2.2.2.1 _ h4]; exact s1, s2, s3, s4, s5⟩
    have hlt : gS G 0 < H.size := by have := hR.1; have := hR.2.1; omega
    exact va_slen (A := fun q => gB G ≤ q) (H0 := H) C.1 C.2.1 hX hlt (Nat.not_le.mpr h4) ⟨Nat.le_refl _, fun _ _ _ => rfl, hlo⟩ hd (kk H locs ls hR hlo hL)
  · have hc := hR.2.2.1 a a1 a2
    rw [hF] at hc
    have h3 : ∃ ty, [(gT G 0, FieldType.int), (gT G 1, .long), (gT G 2, .object "BodyCorners$Solid"), (gT G 3, .array .int)][t]? = some (gT G t, ty) := by
      match t, ht with
      | 0, _ => exact ⟨_, rfl⟩
      | 1, _ => exact ⟨_, rfl⟩
      | 2, _ => exact ⟨_, rfl⟩
      | 3, _ => exact ⟨_, rfl⟩
    obtain ⟨ty, hty⟩ := h3
    exact va_alen (D := gD G) (cl := vwCl) (ws := [(tA G a, .inl (gT G t, n, tC G f))]) C.1 C.2.1 C.2.2.2.2.2.1.1 (fun j z hz => by match j, hz with | 0, hz => cases hz; exact hc) 0 t rfl hty rfl hd (kk H locs ls hR hlo hL)
theorem s_newI (C : qCx p s m args meth c G o ini cc nL) {n : Int32} (hd : decode cc pc = .ok (.newarray .int, 2)) (hn : ¬ (n < 0 ∨ 1000000 < n.toNatClampNeg)) (hn0 : n0 ≤ h.2.1) (hs0 : s0 ≤ h.2.2) (hcap : h.2.1 + 1 - n0 ≤ R.cells ∧ h.2.2 + n.toNatClampNeg - s0 ≤ R.slots)
    (kk : qS p l e R s m args below meth c G nL n0 s0 Q (pc + 2) L (.ref h.2.1 :: r) (qnew h (.inl (0, n.toNatClampNeg, .inl (fun _ => 0))) n.toNatClampNeg)) : qS p l e R s m args below meth c G nL n0 s0 Q pc L (.int n :: r) h := by
  intro H locs ls hR hlo hL
  have hts := C.2.2.2.2.1
  refine va_newaK C.1 C.2.1 (atype := .int) (hts _ q_aci) rfl hd rfl (fun z => hn (Or.inl z)) rfl (by have : ¬ 1000000 < n.toNatClampNeg := fun z => hn (Or.inr z); show n.toNatClampNeg * 4 ≤ _; omega) (by omega) (by omega) rfl fun H1 cA e1 z1 o1 hAr hNm => ?_
  have hcA : cA = gT G 0 := Option.some.inj (hNm.symm.trans (C.2.2.2.2.2.1.1.2 0 _ rfl).2)
  subst hcA
  have := kk H1 locs ls (hR.push (c := .inl (0, n.toNatClampNeg, .inl (fun _ => 0))) e1 z1 o1) hlo hL
  rw [List.map_cons, show tV G (.ref h.2.1) = .ref H.size from congrArg Value.ref hR.top] at this
  rw [show h.2.1 - n0 + 1 = (qnew h (.inl (0, n.toNatClampNeg, .inl (fun _ => 0))) n.toNatClampNeg).2.1 - n0 by show h.2.1 - n0 + 1 = h.2.1 + 1 - n0; omega, show h.2.2 - s0 + n.toNatClampNeg = (qnew h (.inl (0, n.toNatClampNeg, .inl (fun _ => 0))) n.toNatClampNeg).2.2 - s0 by show h.2.2 - s0 + n.toNatClampNeg = h.2.2 + n.toNatClampNeg - s0; omega]
  exact this
theorem s_newL (C : qCx p s m args meth c G o ini cc nL) {n : Int32} (hd : decode cc pc = .ok (.newarray .long, 2)) (hn : ¬ (n < 0 ∨ 1000000 < n.toNatClampNeg)) (hn0 : n0 ≤ h.2.1) (hs0 : s0 ≤ h.2.2) (hcap : h.2.1 + 1 - n0 ≤ R.cells ∧ h.2.2 + n.toNatClampNeg - s0 ≤ R.slots)
    (kk : qS p l e R s m args below meth c G nL n0 s0 Q (pc + 2) L (.ref h.2.1 :: r) (qnew h (.inl (1, n.toNatClampNeg, .inr (.inl (fun _ => 0)))) n.toNatClampNeg)) : qS p l e R s m args below meth c G nL n0 s0 Q pc L (.int n :: r) h := by
  intro H locs ls hR hlo hL
  have hts := C.2.2.2.2.1
  refine va_newaK C.1 C.2.1 (atype := .long) (hts _ q_acl) rfl hd rfl (fun z => hn (Or.inl z)) rfl (by have : ¬ 1000000 < n.toNatClampNeg := fun z => hn (Or.inr z); show n.toNatClampNeg * 8 ≤ _; omega) (by omega) (by omega) rfl fun H1 cA e1 z1 o1 hAr hNm => ?_
  have hcA : cA = gT G 1 := Option.some.inj (hNm.symm.trans (C.2.2.2.2.2.1.1.2 1 _ rfl).2)
  subst hcA
  have := kk H1 locs ls (hR.push (c := .inl (1, n.toNatClampNeg, .inr (.inl (fun _ => 0)))) e1 z1 o1) hlo hL
  rw [List.map_cons, show tV G (.ref h.2.1) = .ref H.size from congrArg Value.ref hR.top] at this
  rw [show h.2.1 - n0 + 1 = (qnew h (.inl (1, n.toNatClampNeg, .inr (.inl (fun _ => 0)))) n.toNatClampNeg).2.1 - n0 by show h.2.1 - n0 + 1 = h.2.1 + 1 - n0; omega, show h.2.2 - s0 + n.toNatClampNeg = (qnew h (.inl (1, n.toNatClampNeg, .inr (.inl (fun _ => 0)))) n.toNatClampNeg).2.2 - s0 by show h.2.2 - s0 + n.toNatClampNeg = h.2.2 + n.toNatClampNeg - s0; omega]
  exact this
theorem s_newR (C : qCx p s m args meth c G o ini cc nL) {n : Int32} {idx : Nat} (hlink : Cond.classLink (qcn o) idx "BodyCorners$Solid" ∈ qTB) (hd : decode cc pc = .ok (.anewarray idx, 3)) (hn : ¬ (n < 0 ∨ 1000000 < n.toNatClampNeg)) (hn0 : n0 ≤ h.2.1) (hs0 : s0 ≤ h.2.2) (hcap : h.2.1 + 1 - n0 ≤ R.cells ∧ h.2.2 + n.toNatClampNeg - s0 ≤ R.slots)
    (kk : qS p l e R s m args below meth c G nL n0 s0 Q (pc + 3) L (.ref h.2.1 :: r) (qnew h (.inl (2, n.toNatClampNeg, .inr (.inr (fun _ => none)))) n.toNatClampNeg)) : qS p l e R s m args below meth c G nL n0 s0 Q pc L (.int n :: r) h := by
  intro H locs ls hR hlo hL
  have hts := C.2.2.2.2.1
  refine W.anew C.1 C.2.1 C.2.2.2.1 (hts _ hlink) (va_AO.use C.2.2.2.2.2.1.2.2.1.1) rfl hd rfl (fun z => hn (Or.inl z)) (by have : ¬ 1000000 < n.toNatClampNeg := fun z => hn (Or.inr z); omega) (by omega) (by omega) fun cA kA comp f1 f2 f3 f4 => ?_
  obtain ⟨-, kA', comp', -, -, -, hfa⟩ := (C.2.2.2.2.2.1.1.2 2 _ rfl)
  have hcA : cA = gT G 2 := Option.some.inj (f1.symm.trans hfa)
  subst hcA
  have hcell : (H.push ({ cls := gT G 2, slots := Array.replicate n.toNatClampNeg .null, vm := .none } : Cell))[H.size]? = some (vp_cell (gT G 2) (n.toNatClampNeg, tC G (.inr (.inr (fun _ => none))))) := by
    rw [Array.getElem?_push_size]
    show _ = some (arrV (gT G 2) n.toNatClampNeg (fun j => va_rf none))
    rw [← arrV_new]
    rfl
  have := kk _ locs ls (hR.push (c := .inl (2, n.toNatClampNeg, .inr (.inr (fun _ => none)))) hcell (by simp) (fun q hq => by rw [Array.getElem?_push, if_neg (Nat.ne_of_lt hq)])) hlo hL
  rw [List.map_cons, show tV G (.ref h.2.1) = .ref H.size from congrArg Value.ref hR.top] at this
  rw [show h.2.1 - n0 + 1 = (qnew h (.inl (2, n.toNatClampNeg, .inr (.inr (fun _ => none)))) n.toNatClampNeg).2.1 - n0 by show h.2.1 - n0 + 1 = h.2.1 + 1 - n0; omega, show h.2.2 - s0 + n.toNatClampNeg = (qnew h (.inl (2, n.toNatClampNeg, .inr (.inr (fun _ => none)))) n.toNatClampNeg).2.2 - s0 by show h.2.2 - s0 + n.toNatClampNeg = h.2.2 + n.toNatClampNeg - s0; omega]
  exact this
theorem s_newRR (C : qCx p s m args meth c G o ini cc nL) {n : Int32} {idx : Nat} (hlink : Cond.classLink (qcn o) idx "[I" ∈ qTB) (hd : decode cc pc = .ok (.anewarray idx, 3)) (hn : ¬ (n < 0 ∨ 1000000 < n.toNatClampNeg)) (hn0 : n0 ≤ h.2.1) (hs0 : s0 ≤ h.2.2) (hcap : h.2.1 + 1 - n0 ≤ R.cells ∧ h.2.2 + n.toNatClampNeg - s0 ≤ R.slots)
    (kk : qS p l e R s m args below meth c G nL n0 s0 Q (pc + 3) L (.ref h.2.1 :: r) (qnew h (.inl (3, n.toNatClampNeg, .inr (.inr (fun _ => none)))) n.toNatClampNeg)) : qS p l e R s m args below meth c G nL n0 s0 Q pc L (.int n :: r) h := by
  intro H locs ls hR hlo hL
  have hts := C.2.2.2.2.1
  refine W.anewA (t := .int) C.1 C.2.1 C.2.2.2.1 (hts _ hlink) (qAOA.use C.2.2.2.2.2.1.2.2.1.2.1) rfl hd rfl (fun z => hn (Or.inl z)) (by have : ¬ 1000000 < n.toNatClampNeg := fun z => hn (Or.inr z); omega) (by omega) (by omega) fun cA kA comp f1 f2 f3 f4 => ?_
  have hfa := (C.2.2.2.2.2.1.1.2 3 _ rfl).2
  have hcA : cA = gT G 3 := Option.some.inj (f1.symm.trans hfa)
  subst hcA
  have hcell : (H.push ({ cls := gT G 3, slots := Array.replicate n.toNatClampNeg .null, vm := .none } : Cell))[H.size]? = some (vp_cell (gT G 3) (n.toNatClampNeg, tC G (.inr (.inr (fun _ => none))))) := by
    rw [Array.getElem?_push_size]
    show _ = some (arrV (gT G 3) n.toNatClampNeg (fun j => va_rf none))
    rw [← arrV_new]
    rfl
  have := kk _ locs ls (hR.push (c := .inl (3, n.toNatClampNeg, .inr (.inr (fun _ => none)))) hcell (by simp) (fun q hq => by rw [Array.getElem?_push, if_neg (Nat.ne_of_lt hq)])) hlo hL
  rw [List.map_cons, show tV G (.ref h.2.1) = .ref H.size from congrArg Value.ref hR.top] at this
  rw [show h.2.1 - n0 + 1 = (qnew h (.inl (3, n.toNatClampNeg, .inr (.inr (fun _ => none)))) n.toNatClampNeg).2.1 - n0 by show h.2.1 - n0 + 1 = h.2.1 + 1 - n0; omega, show h.2.2 - s0 + n.toNatClampNeg = (qnew h (.inl (3, n.toNatClampNeg, .inr (.inr (fun _ => none)))) n.toNatClampNeg).2.2 - s0 by show h.2.2 - s0 + n.toNatClampNeg = h.2.2 + n.toNatClampNeg - s0; omega]
  exact this
theorem q_nn (z : Int32) (hz : ¬ z < 0) : z.toInt = (z.toNatClampNeg : Int) := by
  have hz0 : (0 : Int) ≤ z.toInt := by
    have := Int32.not_lt.mp hz
    simpa using Int32.le_iff_toInt_le.mp this
  show z.toInt = ((z.toInt.toNat : Nat) : Int)
  omega
theorem qcopy_spec {a b : Nat} {sp dp n : Int32} (e : qcopy h a sp b dp n = some h1) : ((16 ≤ a ∧ a < h.2.1) ∧ (16 ≤ b ∧ b < h.2.1)) ∧ (¬ sp < 0 ∧ ¬ dp < 0 ∧ ¬ n < 0) ∧ ∃ n0 n1, (sp.toNatClampNeg + n.toNatClampNeg ≤ n0 ∧ dp.toNatClampNeg + n.toNatClampNeg ≤ n1) ∧
    ((∃ f g, h.1 a = .inl (0, n0, .inl f) ∧ h.1 b = .inl (0, n1, .inl g) ∧ h1 = (qup h.1 b (.inl (0, n1, .inl (va_cpy f g sp.toNatClampNeg dp.toNatClampNeg n.toNatClampNeg))), h.2)) ∨ (∃ f g, h.1 a = .inl (1, n0, .inr (.inl f)) ∧ h.1 b = .inl (1, n1, .inr (.inl g)) ∧ h1 = (qup h.1 b (.inl (1, n1, .inr (.inl (va_cpy f g sp.toNatClampNeg dp.toNatClampNeg n.toNatClampNeg)))), h.2))) := by
  unfold qcopy at e
  split at e
  · rename_i hc
    split at e
    · rename_i n0 f n1 g hF hb
      split at e
      · rename_i hi
        exact ⟨hc.1, hc.2, n0, n1, hi, Or.inl ⟨f, g, hF, hb, (Option.some.inj e).symm⟩⟩
      · cases e
    · rename_i n0 f n1 g hF hb
      split at e
      · rename_i hi
        exact ⟨hc.1, hc.2, n0, n1, hi, Or.inr ⟨f, g, hF, hb, (Option.some.inj e).symm⟩⟩
      · cases e
    · cases e
  · cases e
theorem s_copy (C : qCx p s m args meth c G o ini cc nL) {a b idx : Nat} {sp dp n : Int32} (hlink : Cond.methodLink (qcn o) idx arraycopyName ∈ qTB) (hd : decode cc pc = .ok (.invokestatic idx, 3)) (hroom : qroom r = true) (hfr : 1 ≤ R.frames) (hlc : 40 ≤ R.locals) (e1 : qcopy h a sp b dp n = some h1)
    (kk : qS p l e R s m args below meth c G nL n0 s0 Q (pc + 3) L r h1) : qS p l e R s m args below meth c G nL n0 s0 Q pc L (.int n :: .int dp :: .ref b :: .int sp :: .ref a :: r) h := by
  intro H locs ls hR hlo hL
  obtain ⟨⟨⟨a1, a2⟩, ⟨b1, b2⟩⟩, ⟨z1, z2, z3⟩, na, nb, ⟨z4, z5⟩, hcase⟩ := qcopy_spec e1
  have hts := C.2.2.2.2.1
  have hK := C.2.2.2.2.2.1.1
  have hwords : (r.map (tV G)).map (fun v => v.category) = r.map (fun v => v.category) := by rw [List.map_map]; exact List.map_congr_left fun v _ => tV_cat G v
  have hsum : (r.map fun v => v.category).sum ≤ 8 := of_decide_eq_true hroom
  have hsz : c.maxLocals = ls.size := by rw [C.2.2.1, hL.2.1]
  rcases hcase with ⟨f, g, hF, hb, rfl⟩ | ⟨f, g, hF, hb, rfl⟩
  · have hc0 := hR.2.2.1 a a1 a2
    rw [hF] at hc0
    have hc1 := hR.2.2.1 b b1 b2
    rw [hb] at hc1
    replace hc0 : H[tA G a]? = some (vp_cell (gT G 0) (na, .inl f)) := hc0
    replace hc1 : H[tA G b]? = some (vp_cell (gT G 0) (nb, .inl g)) := hc1
    obtain ⟨-, k0, hk0, cm0, hkk0⟩ := (hK.2 0 _ rfl).1 na (fun j => .int (f j))
    intro T hT X
    obtain ⟨vm', X', step⟩ := X.arraycopy C.1 C.2.2.2.1 (hts _ hlink) (hts _ q_acn) (hts _ q_acs) (hts _ q_sys) (src := tA G a) (dst := tA G b) (cs := vp_cell (gT G 0) (na, .inl f)) (cd := vp_cell (gT G 0) (nb, .inl g)) (srcPos := sp) (destPos := dp) (n := n) (by rw [hT]; exact hc0) (by rw [hT]; exact hc1)
      (fun _ h => by cases h) (fun _ h => by cases h) (fun h => by cases h) (fun h => by cases h) hk0 hk0 hkk0 hkk0 (by dsimp only; decide) z1 z2 z3
      (by rw [q_nn sp z1, q_nn n z3]; show ¬ _ > ((arrV (gT G 0) na (fun j => .int (f j))).slots.size : Int); rw [arrV_size]; omega)
      (by rw [q_nn dp z2, q_nn n z3]; show ¬ _ > ((arrV (gT G 0) nb (fun j => .int (g j))).slots.size : Int); rw [arrV_size]; omega)
      (fun vm₁ _ i hi => by
        have e9 : (vp_cell (gT G 0) (na, .inl f)).slots.getD (sp.toNatClampNeg + i) .null = .int (f (sp.toNatClampNeg + i)) := by
          show (arrV (gT G 0) na (fun j => .int (f j))).slots.getD _ _ = _
          rw [Array.getD_eq_getD_getElem?, arrV_read _ _ (by omega)]
          rfl
        refine ⟨?_, ?_⟩
        · rw [e9]; rfl
        · rw [e9]; exact trivial)
      (g := F0 m pc ls (.int n :: .int dp :: .ref (tA G b) :: .int sp :: .ref (tA G a) :: r.map (tV G))) rfl (by rw [hsz]) (rest := r.map (tV G)) rfl (by rw [C.2.1]; exact hd) hfr (by rw [hwords]; show 2 * 0 + _ + (5 + 2 + 11) ≤ _; omega)
    have e2 : copied (vp_cell (gT G 0) (na, .inl f)) (vp_cell (gT G 0) (nb, .inl g)) sp dp n = vp_cell (gT G 0) (nb, .inl (va_cpy f g sp.toNatClampNeg dp.toNatClampNeg n.toNatClampNeg)) := va_copied (fun z => .int z) (gT G 0) (gT G 0) f g z4
    rw [e2] at X' step
    have hl : tA G b < H.size := (Array.getElem?_eq_some_iff.mp hc1).1
    have hheap : ((T.setVm vm').setCell (tA G b) (vp_cell (gT G 0) (nb, .inl (va_cpy f g sp.toNatClampNeg dp.toNatClampNeg n.toNatClampNeg)))).heap = H.setIfInBounds (tA G b) (vp_cell (gT G 0) (nb, .inl (va_cpy f g sp.toNatClampNeg dp.toNatClampNeg n.toNatClampNeg))) := by rw [← hT]; rfl
    obtain ⟨t, g1, g2⟩ := kk (H.setIfInBounds (tA G b) (vp_cell (gT G 0) (nb, .inl (va_cpy f g sp.toNatClampNeg dp.toNatClampNeg n.toNatClampNeg)))) _ ls (hR.set b1 b2 (show (H.setIfInBounds (tA G b) _)[tA G b]? = some _ by simp [Array.getElem?_setIfInBounds, hl]; rfl) (by simp) (fun q hq => by simp [Array.getElem?_setIfInBounds, Ne.symm hq])) (fun x hx => by
      rcases List.mem_append.mp hx with h9 | h9
      · exact hlo x h9
      · obtain ⟨z, -, hz⟩ := List.mem_map.mp h9
        rw [← hz]
        exact tA_ge b1) hL _ hheap X'
    exact ⟨t, step t g1, g2⟩
  · have hc0 := hR.2.2.1 a a1 a2
    rw [hF] at hc0
    have hc1 := hR.2.2.1 b b1 b2
    rw [hb] at hc1
    replace hc0 : H[tA G a]? = some (vp_cell (gT G 1) (na, .inr (.inl f))) := hc0
    replace hc1 : H[tA G b]? = some (vp_cell (gT G 1) (nb, .inr (.inl g))) := hc1
    obtain ⟨-, k0, hk0, cm0, hkk0⟩ := (hK.2 1 _ rfl).1 na (fun j => .long (f j))
    intro T hT X
    obtain ⟨vm', X', step⟩ := X.arraycopy C.1 C.2.2.2.1 (hts _ hlink) (hts _ q_acn) (hts _ q_acs) (hts _ q_sys) (src := tA G a) (dst := tA G b) (cs := vp_cell (gT G 1) (na, .inr (.inl f))) (cd := vp_cell (gT G 1) (nb, .inr (.inl g))) (srcPos := sp) (destPos := dp) (n := n) (by rw [hT]; exact hc0) (by rw [hT]; exact hc1)
      (fun _ h => by cases h) (fun _ h => by cases h) (fun h => by cases h) (fun h => by cases h) hk0 hk0 hkk0 hkk0 (by dsimp only; decide) z1 z2 z3
      (by rw [q_nn sp z1, q_nn n z3]; show ¬ _ > ((arrV (gT G 1) na (fun j => .long (f j))).slots.size : Int); rw [arrV_size]; omega)
      (by rw [q_nn dp z2, q_nn n z3]; show ¬ _ > ((arrV (gT G 1) nb (fun j => .long (g j))).slots.size : Int); rw [arrV_size]; omega)
      (fun vm₁ _ i hi => by
        have e9 : (vp_cell (gT G 1) (na, .inr (.inl f))).slots.getD (sp.toNatClampNeg + i) .null = .long (f (sp.toNatClampNeg + i)) := by
          show (arrV (gT G 1) na (fun j => .long (f j))).slots.getD _ _ = _
          rw [Array.getD_eq_getD_getElem?, arrV_read _ _ (by omega)]
          rfl
        refine ⟨?_, ?_⟩
        · rw [e9]; rfl
        · rw [e9]; exact trivial)
      (g := F0 m pc ls (.int n :: .int dp :: .ref (tA G b) :: .int sp :: .ref (tA G a) :: r.map (tV G))) rfl (by rw [hsz]) (rest := r.map (tV G)) rfl (by rw [C.2.1]; exact hd) hfr (by rw [hwords]; show 2 * 0 + _ + (5 + 2 + 11) ≤ _; omega)
    have e2 : copied (vp_cell (gT G 1) (na, .inr (.inl f))) (vp_cell (gT G 1) (nb, .inr (.inl g))) sp dp n = vp_cell (gT G 1) (nb, .inr (.inl (va_cpy f g sp.toNatClampNeg dp.toNatClampNeg n.toNatClampNeg))) := va_copied (fun z => .long z) (gT G 1) (gT G 1) f g z4
    rw [e2] at X' step
    have hl : tA G b < H.size := (Array.getElem?_eq_some_iff.mp hc1).1
    have hheap : ((T.setVm vm').setCell (tA G b) (vp_cell (gT G 1) (nb, .inr (.inl (va_cpy f g sp.toNatClampNeg dp.toNatClampNeg n.toNatClampNeg))))).heap = H.setIfInBounds (tA G b) (vp_cell (gT G 1) (nb, .inr (.inl (va_cpy f g sp.toNatClampNeg dp.toNatClampNeg n.toNatClampNeg)))) := by rw [← hT]; rfl
    obtain ⟨t, g1, g2⟩ := kk (H.setIfInBounds (tA G b) (vp_cell (gT G 1) (nb, .inr (.inl (va_cpy f g sp.toNatClampNeg dp.toNatClampNeg n.toNatClampNeg))))) _ ls (hR.set b1 b2 (show (H.setIfInBounds (tA G b) _)[tA G b]? = some _ by simp [Array.getElem?_setIfInBounds, hl]; rfl) (by simp) (fun q hq => by simp [Array.getElem?_setIfInBounds, Ne.symm hq])) (fun x hx => by
      rcases List.mem_append.mp hx with h9 | h9
      · exact hlo x h9
      · obtain ⟨z, -, hz⟩ := List.mem_map.mp h9
        rw [← hz]
        exact tA_ge b1) hL _ hheap X'
    exact ⟨t, step t g1, g2⟩
theorem qints_spec {a n : Nat} {f : Nat → Int32} (e : qints h a = some (n, f)) : 16 ≤ a ∧ a < h.2.1 ∧ h.1 a = .inl (0, n, .inl f) := by
  unfold qints at e
  split at e
  · rename_i hc
    split at e
    · rename_i n' f' hF
      cases e
      exact ⟨hc.1, hc.2, hF⟩
    · cases e
  · cases e
theorem s_cast (C : qCx p s m args meth c G o ini cc nL) {a idx : Nat} {x : Nat × (Nat → Int32)} (hlink : Cond.classLink (qcn o) idx "[I" ∈ qTB) (hd : decode cc pc = .ok (.checkcast idx, 3)) (e1 : qints h a = some x)
    (kk : qS p l e R s m args below meth c G nL n0 s0 Q (pc + 3) L (.ref a :: r) h) : qS p l e R s m args below meth c G nL n0 s0 Q pc L (.ref a :: r) h := by
  intro H locs ls hR hlo hL
  obtain ⟨n, f⟩ := x
  obtain ⟨a1, a2, hF⟩ := qints_spec e1
  have hc := hR.2.2.1 a a1 a2
  rw [hF] at hc
  exact va_castA (D := gD G) (cl := vwCl) (ws := [(tA G a, .inl (gT G 0, n, .inl f))]) C.1 C.2.1 C.2.2.2.1 (C.2.2.2.2.1 _ hlink) (fun j z hz => by match j, hz with | 0, hz => cases hz; exact hc) 0 rfl (C.2.2.2.2.2.1.1.2 0 _ rfl).2 hd (kk H locs ls hR hlo hL)
theorem s_clone (C : qCx p s m args meth c G o ini cc nL) {a idx n : Nat} {f : Nat → Int32} (hlink : Cond.methodLink (qcn o) idx ⟨"[I", "clone", "()Ljava/lang/Object;"⟩ ∈ qTB) (hd : decode cc pc = .ok (.invokevirtual idx, 3)) (hroom : qroom r = true) (hfr : 1 ≤ R.frames) (hlc : 40 ≤ R.locals) (e1 : qints h a = some (n, f)) (hn0 : n0 ≤ h.2.1) (hs0 : s0 ≤ h.2.2) (hcap : h.2.1 + 1 - n0 ≤ R.cells ∧ h.2.2 + n - s0 ≤ R.slots)
    (kk : qS p l e R s m args below meth c G nL n0 s0 Q (pc + 3) L (.ref h.2.1 :: r) (qnew h (.inl (0, n, .inl f)) n)) : qS p l e R s m args below meth c G nL n0 s0 Q pc L (.ref a :: r) h := by
  intro H locs ls hR hlo hL
  obtain ⟨a1, a2, hF⟩ := qints_spec e1
  have hts := C.2.2.2.2.1
  have hK := C.2.2.2.2.2.1.1
  have hc := hR.2.2.1 a a1 a2
  rw [hF] at hc
  replace hc : H[tA G a]? = some (vp_cell (gT G 0) (n, .inl f)) := hc
  have hwords : (r.map (tV G)).map (fun v => v.category) = r.map (fun v => v.category) := by rw [List.map_map]; exact List.map_congr_left fun v _ => tV_cat G v
  have hsum : (r.map fun v => v.category).sum ≤ 8 := of_decide_eq_true hroom
  have hsz : c.maxLocals = ls.size := by rw [C.2.2.1, hL.2.1]
  have hnm : s.vm.findClass "[I" = some (gT G 0) := (hK.2 0 _ rfl).2
  obtain ⟨c0, t0', f1, f2, f3⟩ := Cond.castable_spec (va_Nw.use (A := args) rfl C.2.2.2.2.2.1.2.2.1.2.2)
  cases hnm.symm.trans f1
  intro T hT X
  obtain ⟨-, kA, hkA, comp, hkind⟩ := State.isArrayOf_alike X.warmed.alike ((hK.2 0 _ rfl).1 0 (fun _ => .null))
  obtain ⟨-, kS, hkS, compS, hkindS⟩ := (hK.2 0 _ rfl).1 0 (fun _ => .null)
  obtain ⟨vm', X', st⟩ := X.cloneArray C.1 C.2.2.2.1 (hts _ hlink) (hts _ q_cls1) (hts _ q_cls2) (hts _ q_cls3) (hts _ q_cls4) (a := tA G a) (cell := vp_cell (gT G 0) (n, .inl f)) (by rw [hT]; exact hc) (fun k h => by cases h) (fun h => by cases h) hnm f2 f3
    (fun i v hv => by
      have hk' : T.vm.classes[gT G 0]? = some kA := hkA
      have hfit : fits .int v = true := va_fit (fun _ _ => rfl) i v hv
      show State.fitsSlot _ (gT G 0) _ _ _ = true
      simpa [State.fitsSlot, State.slotType?, hk', hkind] using hfit)
    (g := F0 m pc ls (.ref (tA G a) :: r.map (tV G))) rfl (by rw [hsz]) rfl (by rw [C.2.1]; exact hd) hfr (by rw [hwords]; show 2 * 0 + _ + 14 ≤ _; omega) (by omega) (by show h.2.2 - s0 + (arrV (gT G 0) n (fun j => .int (f j))).slots.size ≤ _; rw [arrV_size]; omega) (hloader := Vm.clonesLoader_of_array hkS hkindS)
  have hz : ((vp_cell (gT G 0) (n, .inl f))).slots.size = n := arrV_size _ _ _
  rw [hz] at X'
  have hheap : ((T.setVm vm').pushCell (vp_cell (gT G 0) (n, .inl f))).heap = H.push (vp_cell (gT G 0) (n, .inl f)) := by rw [← hT]; rfl
  have := kk (H.push (vp_cell (gT G 0) (n, .inl f))) locs ls (hR.push (c := .inl (0, n, .inl f)) (show (H.push _)[H.size]? = some _ by rw [Array.getElem?_push_size]; rfl) (by simp) (fun q hq => by rw [Array.getElem?_push, if_neg (Nat.ne_of_lt hq)])) hlo hL
  rw [List.map_cons, show tV G (.ref h.2.1) = .ref H.size from congrArg Value.ref hR.top] at this
  rw [show (qnew h (.inl (0, n, .inl f)) n).2.1 - n0 = h.2.1 - n0 + 1 by show h.2.1 + 1 - n0 = _; omega, show (qnew h (.inl (0, n, .inl f)) n).2.2 - s0 = h.2.2 - s0 + n by show h.2.2 + n - s0 = _; omega] at this
  obtain ⟨t, g1, g2⟩ := this _ hheap X'
  refine ⟨t, st t ?_, g2⟩
  rw [hT]
  exact g1
theorem s_newO (C : qCx p s m args meth c G o ini cc nL) {ci idx : Nat} {q : vw_C} (hq : vwCl[ci]? = some q) (hlink : Cond.classLink (qcn o) idx q.1 ∈ qTB) (hinst : Cond.instantiable q.1 q.2.2 ∈ qTB) (hini : Cond.initialized q.1 ∈ qTB) (hd : decode cc pc = .ok (.new idx, 3)) (hn0 : n0 ≤ h.2.1) (hs0 : s0 ≤ h.2.2) (hcap : h.2.1 + 1 - n0 ≤ R.cells ∧ h.2.2 + qnF ci - s0 ≤ R.slots)
    (kk : qS p l e R s m args below meth c G nL n0 s0 Q (pc + 3) L (.ref h.2.1 :: r) (qnew h (.inr (ci, qdef ci)) (qnF ci))) : qS p l e R s m args below meth c G nL n0 s0 Q pc L r h := by
  intro H locs ls hR hlo hL
  have hts := C.2.2.2.2.1
  obtain ⟨hN, hin, hty, hnm, hdf⟩ := q_cls ci q hq
  have hKn := C.2.2.2.2.2.1.1.1 ci _ hq
  refine W.newcK C.1 C.2.1 C.2.2.2.1 (hts _ hlink) (hts _ hinst) (hts _ hini) rfl hd (by omega) (by rw [hN]; omega) hKn.2.1 rfl fun H1 kC hkC e1 z1 o1 => ?_
  have hob : qat G (.inr (ci, qdef ci)) H1 H.size := by
    have h9 := u_born (qty ci) hts hin hKn hkC e1 hty
    rw [hN] at h9
    refine t_OB.to h9 (fun j hj => ?_)
    show defaultValue (qty ci j) = tV G (qdef ci j)
    rw [hdf j (by rw [hN]; exact hj)]
    unfold qdef
    split <;> rfl
  have := kk H1 locs ls (hR.push (c := .inr (ci, qdef ci)) hob z1 o1) hlo hL
  rw [List.map_cons, show tV G (.ref h.2.1) = .ref H.size from congrArg Value.ref hR.top] at this
  rw [show h.2.1 - n0 + 1 = (qnew h (.inr (ci, qdef ci)) (qnF ci)).2.1 - n0 by show h.2.1 - n0 + 1 = h.2.1 + 1 - n0; omega, show h.2.2 - s0 + q.2.2 = (qnew h (.inr (ci, qdef ci)) (qnF ci)).2.2 - s0 by show h.2.2 - s0 + q.2.2 = h.2.2 + qnF ci - s0; omega]
  exact this
end QRULES

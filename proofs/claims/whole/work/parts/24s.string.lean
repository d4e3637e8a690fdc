/-! ===== STRING CONSTANTS: length(), charAt(int) (by program: wip/gen/mk24s.py) ===== -/
def yS_len : MethodName := ⟨"java/lang/String", "length", "()I"⟩
theorem qs_code_len : Cond.code yS_len prog_17_method_54_code 1 (some .int) ∈ qTB := qtt 134 qtt_4 rfl rfl
theorem qs_im_len : Cond.instanceMethod yS_len ∈ qTB := qtt 132 qtt_4 rfl rfl
theorem qs_se_len : Cond.selects "java/lang/String" yS_len yS_len ∈ qTB := qtt 133 qtt_4 rfl rfl
def yS_cod : MethodName := ⟨"java/lang/String", "coder", "()B"⟩
theorem qs_code_cod : Cond.code yS_cod prog_17_method_152_code 1 (some .byte) ∈ qTB := qtt 138 qtt_4 rfl rfl
theorem qs_im_cod : Cond.instanceMethod yS_cod ∈ qTB := qtt 136 qtt_4 rfl rfl
theorem qs_se_cod : Cond.selects "java/lang/String" yS_cod yS_cod ∈ qTB := qtt 137 qtt_4 rfl rfl
def yS_chr : MethodName := ⟨"java/lang/String", "charAt", "(I)C"⟩
theorem qs_code_chr : Cond.code yS_chr prog_17_method_56_code 2 (some .char) ∈ qTB := qtt 144 qtt_4 rfl rfl
theorem qs_im_chr : Cond.instanceMethod yS_chr ∈ qTB := qtt 142 qtt_4 rfl rfl
theorem qs_se_chr : Cond.selects "java/lang/String" yS_chr yS_chr ∈ qTB := qtt 143 qtt_4 rfl rfl
def yS_lat : MethodName := ⟨"java/lang/String", "isLatin1", "()Z"⟩
theorem qs_code_lat : Cond.code yS_lat prog_17_method_154_code 1 (some .boolean) ∈ qTB := qtt 148 qtt_4 rfl rfl
theorem qs_im_lat : Cond.instanceMethod yS_lat ∈ qTB := qtt 146 qtt_4 rfl rfl
theorem qs_se_lat : Cond.selects "java/lang/String" yS_lat yS_lat ∈ qTB := qtt 147 qtt_4 rfl rfl
def yS_l1c : MethodName := ⟨"java/lang/StringLatin1", "charAt", "([BI)C"⟩
theorem qs_code_l1c : Cond.code yS_l1c prog_18_method_2_code 2 (some .char) ∈ qTB := qtt 151 qtt_4 rfl rfl
theorem qs_st_l1c : Cond.static yS_l1c ∈ qTB := qtt 150 qtt_4 rfl rfl
def yS_chk : MethodName := ⟨"java/lang/String", "checkIndex", "(II)V"⟩
theorem qs_code_chk : Cond.code yS_chk prog_17_method_155_code 2 (none) ∈ qTB := qtt 154 qtt_4 rfl rfl
theorem qs_st_chk : Cond.static yS_chk ∈ qTB := qtt 153 qtt_4 rfl rfl
def yS_pck : MethodName := ⟨"jdk/internal/util/Preconditions", "checkIndex", "(IILjava/util/function/BiFunction;)I"⟩
theorem qs_code_pck : Cond.code yS_pck prog_22_method_11_code 3 (some .int) ∈ qTB := qtt 159 qtt_4 rfl rfl
theorem qs_st_pck : Cond.static yS_pck ∈ qTB := qtt 158 qtt_4 rfl rfl
theorem qs_ml_cod : Cond.methodLink "java/lang/String" 335 yS_cod ∈ qTB := qtt 135 qtt_4 rfl rfl
theorem qs_ml_lat : Cond.methodLink "java/lang/String" 492 yS_lat ∈ qTB := qtt 145 qtt_4 rfl rfl
theorem qs_ml_l1c : Cond.methodLink "java/lang/String" 495 yS_l1c ∈ qTB := qtt 149 qtt_4 rfl rfl
theorem qs_ml_chk : Cond.methodLink "java/lang/StringLatin1" 9 yS_chk ∈ qTB := qtt 152 qtt_4 rfl rfl
theorem qs_ml_pck : Cond.methodLink "java/lang/String" 1059 yS_pck ∈ qTB := qtt 157 qtt_4 rfl rfl
theorem qs_in_s : Cond.initialized "java/lang/String" ∈ qTB := qtt 17 qtt_0 rfl rfl
theorem qs_in_l : Cond.initialized "java/lang/StringLatin1" ∈ qTB := qtt 18 qtt_0 rfl rfl
theorem qs_in_p : Cond.initialized "jdk/internal/util/Preconditions" ∈ qTB := qtt 19 qtt_0 rfl rfl
theorem qs_fl_cmp : Cond.fieldLink "java/lang/String" 38 "java/lang/String" "COMPACT_STRINGS" "Z" ∈ qTB := qtt 139 qtt_4 rfl rfl
theorem qs_fl_val : Cond.fieldLink "java/lang/String" 9 "java/lang/String" "value" "[B" ∈ qTB := qtt 233 qtt_7 rfl rfl
theorem qs_fl_cod : Cond.fieldLink "java/lang/String" 15 "java/lang/String" "coder" "B" ∈ qTB := qtt 234 qtt_7 rfl rfl
theorem qs_fl_fmt : Cond.fieldLink "java/lang/String" 1053 "jdk/internal/util/Preconditions" "SIOOBE_FORMATTER" "Ljava/util/function/BiFunction;" ∈ qTB := qtt 155 qtt_4 rfl rfl
section QSTR
variable {p : Program} {l : Launch} {e : Env} {R : Room} {s : State} {m : MethodId} {args : Array Value} {below : List Frame} {meth : Method} {c : Code} {Q : State → Prop} {G : qE} {cc : ByteArray} {H : Heap} {locs : List Loc} {cells slots : Nat} {ls : Array Slot} {pc : Nat}
def qsm (d : Nat) : Room := { frames := d, cells := 0, slots := 0, locals := 40 * d }
def qPs (G : qE) (a : List Value) : Array Value → State → Prop := fun v U => v = a.toArray ∧ (∀ q, q < gB G → U.heap[q]? = gO G q) ∧ qKn G U
def qQs (x : Option Value) : Array Value → State → Outcome → State → Prop := fun _ s o t => o = .returned x ∧ t.heap = s.heap
theorem qs_blind (G : qE) (a : List Value) : FrameBlind (qPs G a) := fun _ U _ _ q => ⟨q.1, q.2.1, qKn.moved (State.WarmedH.refl U) q.2.2⟩
theorem qs_S : va_S (qsA G) s.heap s.heap [] := ⟨Nat.le_refl _, fun _ _ _ => rfl, fun l h => absurd h List.not_mem_nil⟩
theorem qs_S2 {L : List Loc} (hL : ∀ q ∈ L, qsA G q.base) : va_S (qsA G) s.heap s.heap L := ⟨Nat.le_refl _, fun _ _ _ => rfl, hL⟩
/-- behind a call that leaves the heap as it was -/
theorem qs_after {st0 rest : List Value} {v : Option Value} {a' : Array Value} (hr : va_Run p l e R s m args below meth c H locs cells slots 0 0 (F0 m pc ls st0) rest (qQs v a') (qsA G)) (kk : ∀ L : List Loc, (∀ q ∈ L, qsA G q.base) → W p l e R s m args below meth c H (locs ++ L) cells slots Q (F0 m (pc + 3) ls (v.toList ++ rest))) : W p l e R s m args below meth c H locs cells slots Q (F0 m pc ls st0) := by
  intro T hT X
  obtain ⟨v', st₀, t, T', Lx, h0, X', hLx, e1, e2, ⟨hv, hh⟩, st⟩ := hr T hT X
  cases hv
  obtain ⟨t2, a1, b1⟩ := kk Lx hLx T' (by rw [e1, hh, h0]) X'
  exact ⟨t2, st t2 a1, b1⟩
theorem qs_coder {i : Nat} (hi : i < 8) : Met l yS_cod (Cond.code yS_cod prog_17_method_152_code 1 (some .byte) :: qTB) (qsm 0) (qPs G [.ref (gS G (i + 1))]) (qQs (some (.int 0))) 0 0 (qsA G) := by
  refine va_MetF (cc := prog_17_method_152_code) (maxL := 1) (ret := some .byte) (by decide +kernel) rfl ?_
  intro p e s m args below meth c s₁ B hml hv
  obtain ⟨rfl, hO, hK⟩ := hv
  have hts := atoms_spec (ws := Cond.code yS_cod prog_17_method_152_code 1 (some .byte) :: qTB) B.pre
  have htb : ∀ w ∈ qTB, w.before [Value.ref (gS G (i + 1))].toArray s = true := fun w hw => hts w (List.mem_cons_of_mem _ hw)
  have hown : s.vm.findClass "java/lang/String" = some m.cls := findClass_of_methodNamed B.named
  obtain ⟨hZ, -, adV, hS8⟩ := hK.2.2.2.2.1.1 s.heap hO
  rw [lg_entry_eq]
  refine va_gets B.exec B.bytes hZ qs_S hown (htb _ qs_fl_cmp) (fun x h => h) (by decide +kernel) ?_
  refine lv_if_eq (tgt := 13) (off := 10) B.exec B.bytes (by decide +kernel) (by decide) (fun z => absurd z (by decide)) (fun _ => ?_)
  refine lv_aload_n (i := 0) (x := gS G (i + 1)) B.exec B.bytes (show decode _ _ = .ok (.aload_n 0, 1) by decide +kernel) rfl rfl ?_
  refine vk_getf B.exec B.bytes (hS8.1 i hi).2.1 qs_S hown (htb _ qs_fl_cod) (fun x h => h) (by decide +kernel) ?_
  refine lv_goto (tgt := 14) (off := 4) B.exec B.bytes (by decide +kernel) (by decide) ?_
  exact W.zret B.exec B.bytes B.returns rfl (fun t ht hW => ⟨rfl, ht⟩) (fun q hq => absurd hq List.not_mem_nil) (by decide +kernel) B.notSynchronized
theorem qs_latin {i : Nat} (hi : i < 8) : Met l yS_lat (Cond.code yS_lat prog_17_method_154_code 1 (some .boolean) :: qTB) (qsm 0) (qPs G [.ref (gS G (i + 1))]) (qQs (some (.int 1))) 0 0 (qsA G) := by
  refine va_MetF (cc := prog_17_method_154_code) (maxL := 1) (ret := some .boolean) (by decide +kernel) rfl ?_
  intro p e s m args below meth c s₁ B hml hv
  obtain ⟨rfl, hO, hK⟩ := hv
  have hts := atoms_spec (ws := Cond.code yS_lat prog_17_method_154_code 1 (some .boolean) :: qTB) B.pre
  have htb : ∀ w ∈ qTB, w.before [Value.ref (gS G (i + 1))].toArray s = true := fun w hw => hts w (List.mem_cons_of_mem _ hw)
  have hown : s.vm.findClass "java/lang/String" = some m.cls := findClass_of_methodNamed B.named
  obtain ⟨hZ, -, adV, hS8⟩ := hK.2.2.2.2.1.1 s.heap hO
  rw [lg_entry_eq]
  refine va_gets B.exec B.bytes hZ qs_S hown (htb _ qs_fl_cmp) (fun x h => h) (by decide +kernel) ?_
  refine lv_if_eq (tgt := 17) (off := 14) B.exec B.bytes (by decide +kernel) (by decide) (fun z => absurd z (by decide)) (fun _ => ?_)
  refine lv_aload_n (i := 0) (x := gS G (i + 1)) B.exec B.bytes (show decode _ _ = .ok (.aload_n 0, 1) by decide +kernel) rfl rfl ?_
  refine vk_getf B.exec B.bytes (hS8.1 i hi).2.1 qs_S hown (htb _ qs_fl_cod) (fun x h => h) (by decide +kernel) ?_
  refine lv_if_ne (tgt := 17) (off := 7) B.exec B.bytes (by decide +kernel) (by decide) (fun z => absurd rfl z) (fun _ => ?_)
  refine lv_iconst (v := 1) (n := 1) B.exec B.bytes (by decide +kernel) rfl ?_
  refine lv_goto (tgt := 18) (off := 4) B.exec B.bytes (by decide +kernel) (by decide) ?_
  exact W.zret B.exec B.bytes B.returns rfl (fun t ht hW => ⟨rfl, ht⟩) (fun q hq => absurd hq List.not_mem_nil) (by decide +kernel) B.notSynchronized
theorem qs_pck {k n : Int32} {x : Value} (h0 : ¬ k < 0) (h1 : k < n) : Met l yS_pck (Cond.code yS_pck prog_22_method_11_code 3 (some .int) :: qTB) (qsm 0) (qPs G [.int k, .int n, x]) (qQs (some (.int k))) 0 0 (qsA G) := by
  refine va_MetF (cc := prog_22_method_11_code) (maxL := 3) (ret := some .int) (by decide +kernel) rfl ?_
  intro p e s m args below meth c s₁ B hml hv
  obtain ⟨rfl, hO, hK⟩ := hv
  rw [lg_entry_eq]
  refine lv_iload_n (i := 0) (x := k) B.exec B.bytes (show decode _ _ = .ok (.iload_n 0, 1) by decide +kernel) rfl rfl ?_
  refine lv_if_lt (tgt := 9) (off := 8) B.exec B.bytes (by decide +kernel) (by decide) (fun z => absurd z h0) (fun _ => ?_)
  refine lv_iload_n (i := 0) (x := k) B.exec B.bytes (show decode _ _ = .ok (.iload_n 0, 1) by decide +kernel) rfl rfl ?_
  refine lv_iload_n (i := 1) (x := n) B.exec B.bytes (show decode _ _ = .ok (.iload_n 1, 1) by decide +kernel) rfl rfl ?_
  refine lv_icmp_lt (tgt := 16) (off := 10) B.exec B.bytes (by decide +kernel) (by decide) (fun _ => ?_) (fun z => absurd h1 z)
  refine lv_iload_n (i := 0) (x := k) B.exec B.bytes (show decode _ _ = .ok (.iload_n 0, 1) by decide +kernel) rfl rfl ?_
  exact W.iret B.exec B.bytes B.returns (fun t ht hW => ⟨rfl, ht⟩) (fun q hq => absurd hq List.not_mem_nil) (by decide +kernel) B.notSynchronized
theorem qs_good {k : MethodName} {cd : ByteArray} {nL : Nat} {rt : Option FieldType} (h : Cond.code k cd nL rt ∈ qTB) : ∀ w ∈ (Cond.code k cd nL rt :: qTB), w ∈ qTB := fun w hw => (List.mem_cons.mp hw).elim (fun e => e ▸ h) id
theorem qs_chk {k n : Int32} (h0 : ¬ k < 0) (h1 : k < n) : Met l yS_chk (Cond.code yS_chk prog_17_method_155_code 2 none :: qTB) (qsm 1) (qPs G [.int k, .int n]) (qQs none) 0 0 (qsA G) := by
  refine va_MetF (cc := prog_17_method_155_code) (maxL := 2) (ret := none) (by decide +kernel) rfl ?_
  intro p e s m args below meth c s₁ B hml hv
  obtain ⟨rfl, hO, hK⟩ := hv
  have hts := atoms_spec (ws := Cond.code yS_chk prog_17_method_155_code 2 none :: qTB) B.pre
  have htb : ∀ w ∈ qTB, w.before [Value.int k, Value.int n].toArray s = true := fun w hw => hts w (List.mem_cons_of_mem _ hw)
  have hown : s.vm.findClass "java/lang/String" = some m.cls := findClass_of_methodNamed B.named
  obtain ⟨-, hZq, -⟩ := hK.2.2.2.2.1.1 s.heap hO
  obtain ⟨x, hZ⟩ : ∃ x, va_Z "jdk/internal/util/Preconditions" "SIOOBE_FORMATTER" "Ljava/util/function/BiFunction;" x (qsA G) s s.heap := by
    rcases hZq with h | ⟨t, h⟩
    · exact ⟨_, h⟩
    · exact ⟨_, h⟩
  have hcat : x.category = 1 := by
    rcases hZq with h | ⟨t, h⟩
    · obtain ⟨cf, kf, fi, f, a, cell, h1, -, -, h4, h5, -, h7, -⟩ := h
      obtain ⟨cf', kf', fi', f', a', cell', h1', -, -, h4', h5', -, h7', -⟩ := hZ
      rw [h1] at h1'
      cases h1'
      rw [h4] at h4'
      cases h4'
      rw [h5] at h5'
      cases h5'
      rw [h7] at h7'
      cases h7'
      rfl
    · obtain ⟨cf, kf, fi, f, a, cell, h1, -, -, h4, h5, -, h7, -⟩ := h
      obtain ⟨cf', kf', fi', f', a', cell', h1', -, -, h4', h5', -, h7', -⟩ := hZ
      rw [h1] at h1'
      cases h1'
      rw [h4] at h4'
      cases h4'
      rw [h5] at h5'
      cases h5'
      rw [h7] at h7'
      cases h7'
      rfl
  rw [lg_entry_eq]
  refine lv_iload_n (i := 0) (x := k) B.exec B.bytes (show decode _ _ = .ok (.iload_n 0, 1) by decide +kernel) rfl rfl ?_
  refine lv_iload_n (i := 1) (x := n) B.exec B.bytes (show decode _ _ = .ok (.iload_n 1, 1) by decide +kernel) rfl rfl ?_
  refine va_gets B.exec B.bytes hZ qs_S hown (htb _ qs_fl_fmt) (fun x h => h) (by decide +kernel) ?_
  refine qs_after (G := G) (v := some (.int k)) (rest := []) (a' := [Value.int k, Value.int n, x].toArray) (va_runS (Ts := qTB) (nL := 2) (As := [.int k, .int n, x]) (rest := []) (own := "java/lang/String") ⟨B.exec, B.bytes, hml, hown, htb⟩ (qs_pck h0 h1) (va_cwS 3 htb (qgood (fun _ h => h) ?_) rfl rfl rfl ⟨by decide, by decide, by decide +kernel⟩ ⟨by decide, by decide⟩) ⟨qs_blind _ _, fun U hU hW => ⟨rfl, by rw [hU]; exact hO, hK.moved hW⟩⟩ rfl rfl rfl rfl (by show 2 * 0 + 0 ≤ 8; decide) (show decode prog_17_method_155_code 5 = .ok (.invokestatic 1059, 3) by decide +kernel) ⟨by decide, by decide⟩) ?_
  · intro w hw
    simp only [va_wsS, List.mem_append, List.mem_cons, List.not_mem_nil, or_false] at hw
    rcases hw with (rfl | rfl | rfl) | rfl | hw
    · exact qs_ml_pck
    · exact qs_st_pck
    · exact qs_in_p
    · exact qs_code_pck
    · exact hw
  · intro L hL
    refine lv_pop B.exec B.bytes (by decide +kernel) rfl ?_
    exact W.vret B.exec B.bytes B.returns (fun t ht hW => ⟨rfl, ht⟩) (fun q hq => hL q (by rw [List.nil_append] at hq; exact hq)) (by decide +kernel) B.notSynchronized
theorem qs_byte : ∀ i, i < 8 → ∀ j, j < 6 → ((((qSB.getD i []).getD j 0) &&& 255).toUInt32 % 65536).toInt32 = (qSB.getD i []).getD j 0 ∧ narrow .char (.int ((qSB.getD i []).getD j 0)) = .int ((qSB.getD i []).getD j 0) := by decide +kernel
theorem qs_len6 : ∀ i, i < 8 → qSL.getD i 0 ≤ 6 := by decide
def qPt (G : qE) (t i : Nat) (k : Int32) : Array Value → State → Prop := fun v U => v = [Value.ref t, Value.int k].toArray ∧ (∀ q, q < gB G → U.heap[q]? = gO G q) ∧ qKn G U ∧ va_T .byte t (qSL.getD i 0) (fun j => .int ((qSB.getD i []).getD j 0)) (qsA G) U U.heap
theorem qs_blindT (G : qE) (t i : Nat) (k : Int32) : FrameBlind (qPt G t i k) := fun _ U _ _ q => ⟨q.1, q.2.1, qKn.moved (State.WarmedH.refl U) q.2.2.1, va_T.moved (State.WarmedH.refl U).alike q.2.2.2⟩
theorem qs_l1c {i : Nat} {t : Nat} {k : Int32} (hi : i < 8) (h0 : ¬ k < 0) (h1 : k.toNatClampNeg < qSL.getD i 0) : Met l yS_l1c (Cond.code yS_l1c prog_18_method_2_code 2 (some .char) :: qTB) (qsm 2) (qPt G t i k) (qQs (some (.int ((qSB.getD i []).getD k.toNatClampNeg 0)))) 0 0 (qsA G) := by
  refine va_MetF (cc := prog_18_method_2_code) (maxL := 2) (ret := some .char) (by decide +kernel) rfl ?_
  intro p e s m args below meth c s₁ B hml hv
  obtain ⟨rfl, hO, hK, hT⟩ := hv
  have hts := atoms_spec (ws := Cond.code yS_l1c prog_18_method_2_code 2 (some .char) :: qTB) B.pre
  have htb : ∀ w ∈ qTB, w.before [Value.ref t, Value.int k].toArray s = true := fun w hw => hts w (List.mem_cons_of_mem _ hw)
  have hown : s.vm.findClass "java/lang/StringLatin1" = some m.cls := findClass_of_methodNamed B.named
  have l6 := qs_len6 i hi
  have hlt : k < Int32.ofNat (qSL.getD i 0) := by
    rw [Int32.lt_iff_toInt_lt, Int32.toInt_ofNat_of_lt (by omega), q_nn k h0]
    omega
  obtain ⟨b1, b2⟩ := qs_byte i hi k.toNatClampNeg (by omega)
  rw [lg_entry_eq]
  refine lv_iload_n (i := 1) (x := k) B.exec B.bytes (show decode _ _ = .ok (.iload_n 1, 1) by decide +kernel) rfl rfl ?_
  refine lv_aload_n (i := 0) (x := t) B.exec B.bytes (show decode _ _ = .ok (.aload_n 0, 1) by decide +kernel) rfl rfl ?_
  refine va_tlen B.exec B.bytes hT qs_S rfl (by decide +kernel) ?_
  refine qs_after (G := G) (v := none) (rest := []) (a' := [Value.int k, Value.int (Int32.ofNat (qSL.getD i 0))].toArray) (va_runS (Ts := qTB) (nL := 2) (As := [.int k, .int (Int32.ofNat (qSL.getD i 0))]) (rest := []) (own := "java/lang/StringLatin1") ⟨B.exec, B.bytes, hml, hown, htb⟩ (qs_chk h0 hlt) (va_cwS 2 htb (qgood (fun _ h => h) ?_) rfl rfl rfl ⟨by decide, by decide, by decide +kernel⟩ ⟨by decide, by decide⟩) ⟨qs_blind _ _, fun U hU hW => ⟨rfl, by rw [hU]; exact hO, hK.moved hW⟩⟩ rfl rfl rfl rfl (by show 2 * 0 + 0 ≤ 8; decide) (show decode prog_18_method_2_code 3 = .ok (.invokestatic 9, 3) by decide +kernel) ⟨by decide, by decide⟩) ?_
  · intro w hw
    simp only [va_wsS, List.mem_append, List.mem_cons, List.not_mem_nil, or_false] at hw
    rcases hw with (rfl | rfl | rfl) | rfl | hw
    · exact qs_ml_chk
    · exact qs_st_chk
    · exact qs_in_s
    · exact qs_code_chk
    · exact hw
  · intro L hL
    rw [List.nil_append]
    refine lv_aload_n (i := 0) (x := t) B.exec B.bytes (show decode _ _ = .ok (.aload_n 0, 1) by decide +kernel) rfl rfl ?_
    refine lv_iload_n (i := 1) (x := k) B.exec B.bytes (show decode _ _ = .ok (.iload_n 1, 1) by decide +kernel) rfl rfl ?_
    refine va_tb B.exec B.bytes hT (qs_S2 hL) (fun z => z.elim h0 (fun z => by omega)) rfl (by decide +kernel) ?_
    refine lv_sipush (v := 255) B.exec B.bytes (show decode _ _ = .ok (.sipush 255, 3) by decide +kernel) rfl ?_
    refine lv_iand B.exec B.bytes (by decide +kernel) ?_
    refine lv_i2c B.exec B.bytes (by decide +kernel) b1 ?_
    exact W.zret B.exec B.bytes B.returns b2 (fun t ht hW => ⟨rfl, ht⟩) (fun q hq => hL q hq) (by decide +kernel) B.notSynchronized
theorem qs_wsV {own C : String} {idx : Nat} {y : MethodName} {cd : ByteArray} {nL : Nat} {rt : Option FieldType} (h1 : Cond.methodLink own idx y ∈ qTB) (h2 : Cond.instanceMethod y ∈ qTB) (h3 : Cond.selects C y y ∈ qTB) (h4 : Cond.initialized C ∈ qTB) (h5 : Cond.code y cd nL rt ∈ qTB) : ∀ w ∈ wsV own idx C y (Cond.code y cd nL rt :: qTB), w ∈ qTB := by
  intro w hw
  simp only [wsV, List.mem_append, List.mem_cons, List.not_mem_nil, or_false] at hw
  rcases hw with (rfl | rfl | rfl | rfl) | rfl | hw
  · exact h1
  · exact h2
  · exact h3
  · exact h4
  · exact h5
  · exact hw
theorem qs_length {i : Nat} (hi : i < 8) : Met l yS_len (Cond.code yS_len prog_17_method_54_code 1 (some .int) :: qTB) (qsm 1) (qPs G [.ref (gS G (i + 1))]) (qQs (some (.int (Int32.ofNat (qSL.getD i 0))))) 0 0 (qsA G) := by
  refine va_MetF (cc := prog_17_method_54_code) (maxL := 1) (ret := some .int) (by decide +kernel) rfl ?_
  intro p e s m args below meth c s₁ B hml hv
  obtain ⟨rfl, hO, hK⟩ := hv
  have hts := atoms_spec (ws := Cond.code yS_len prog_17_method_54_code 1 (some .int) :: qTB) B.pre
  have htb : ∀ w ∈ qTB, w.before [Value.ref (gS G (i + 1))].toArray s = true := fun w hw => hts w (List.mem_cons_of_mem _ hw)
  have hown : s.vm.findClass "java/lang/String" = some m.cls := findClass_of_methodNamed B.named
  obtain ⟨-, -, adV, hS8⟩ := hK.2.2.2.2.1.1 s.heap hO
  have l6 := qs_len6 i hi
  have hrv : ∃ cell : Cell, s.heap[gS G (i + 1)]? = some cell ∧ cell.vm.isStatics = false ∧ s.vm.findClass "java/lang/String" = some cell.cls := vk_recv (i := i) hS8 hi (locs := []) qs_S
  rw [lg_entry_eq]
  refine lv_aload_n (i := 0) (x := gS G (i + 1)) B.exec B.bytes (show decode _ _ = .ok (.aload_n 0, 1) by decide +kernel) rfl rfl ?_
  refine vk_getf B.exec B.bytes (hS8.1 i hi).2.2.1 qs_S hown (htb _ qs_fl_val) (fun x h => h) (by decide +kernel) ?_
  refine va_tlen B.exec B.bytes (hS8.1 i hi).2.2.2 qs_S rfl (by decide +kernel) ?_
  refine lv_aload_n (i := 0) (x := gS G (i + 1)) B.exec B.bytes (show decode _ _ = .ok (.aload_n 0, 1) by decide +kernel) rfl rfl ?_
  refine qs_after (G := G) (v := some (.int 0)) (rest := [.int (Int32.ofNat (qSL.getD i 0))]) (a' := [Value.ref (gS G (i + 1))].toArray) (va_runV (Ts := qTB) (nL := 1) (b := gS G (i + 1)) (As := []) (rest := [.int (Int32.ofNat (qSL.getD i 0))]) (own := "java/lang/String") (C := "java/lang/String") ⟨B.exec, B.bytes, hml, hown, htb⟩ (qs_coder hi) (cwV 0 htb (qgood (fun _ h => h) (qs_wsV qs_ml_cod qs_im_cod qs_se_cod qs_in_s qs_code_cod)) rfl rfl rfl ⟨rfl, by decide, by decide, by decide +kernel⟩ ⟨by decide, by decide⟩) ⟨qs_blind _ _, hrv, fun U hU hW => ⟨rfl, by rw [hU]; exact hO, hK.moved hW⟩⟩ rfl rfl rfl rfl (by show 2 * 0 + 1 ≤ 8; decide) (show decode prog_17_method_54_code 6 = .ok (.invokevirtual 335, 3) by decide +kernel) ⟨by decide, by decide⟩) ?_
  intro L hL
  refine lv_ishr B.exec B.bytes (by decide +kernel) ?_
  have e0 : Int32.ofNat (qSL.getD i 0) >>> ((0 : Int32) &&& 31) = Int32.ofNat (qSL.getD i 0) := (by decide +kernel : ∀ i, i < 8 → Int32.ofNat (qSL.getD i 0) >>> ((0 : Int32) &&& 31) = Int32.ofNat (qSL.getD i 0)) i hi
  rw [e0]
  exact W.iret B.exec B.bytes B.returns (fun t ht hW => ⟨rfl, ht⟩) (fun q hq => hL q (by rw [List.nil_append] at hq; exact hq)) (by decide +kernel) B.notSynchronized
theorem qs_charAt {i : Nat} {k : Int32} (hi : i < 8) (h0 : ¬ k < 0) (h1 : k.toNatClampNeg < qSL.getD i 0) : Met l yS_chr (Cond.code yS_chr prog_17_method_56_code 2 (some .char) :: qTB) (qsm 3) (qPs G [.ref (gS G (i + 1)), .int k]) (qQs (some (.int ((qSB.getD i []).getD k.toNatClampNeg 0)))) 0 0 (qsA G) := by
  refine va_MetF (cc := prog_17_method_56_code) (maxL := 2) (ret := some .char) (by decide +kernel) rfl ?_
  intro p e s m args below meth c s₁ B hml hv
  obtain ⟨rfl, hO, hK⟩ := hv
  have hts := atoms_spec (ws := Cond.code yS_chr prog_17_method_56_code 2 (some .char) :: qTB) B.pre
  have htb : ∀ w ∈ qTB, w.before [Value.ref (gS G (i + 1)), Value.int k].toArray s = true := fun w hw => hts w (List.mem_cons_of_mem _ hw)
  have hown : s.vm.findClass "java/lang/String" = some m.cls := findClass_of_methodNamed B.named
  obtain ⟨-, -, adV, hS8⟩ := hK.2.2.2.2.1.1 s.heap hO
  have l6 := qs_len6 i hi
  have hrv : ∃ cell : Cell, s.heap[gS G (i + 1)]? = some cell ∧ cell.vm.isStatics = false ∧ s.vm.findClass "java/lang/String" = some cell.cls := vk_recv (i := i) hS8 hi (locs := []) qs_S
  obtain ⟨b1, b2⟩ := qs_byte i hi k.toNatClampNeg (by omega)
  rw [lg_entry_eq]
  refine lv_aload_n (i := 0) (x := gS G (i + 1)) B.exec B.bytes (show decode _ _ = .ok (.aload_n 0, 1) by decide +kernel) rfl rfl ?_
  refine qs_after (G := G) (v := some (.int 1)) (rest := []) (a' := [Value.ref (gS G (i + 1))].toArray) (va_runV (Ts := qTB) (nL := 2) (b := gS G (i + 1)) (As := []) (rest := []) (own := "java/lang/String") (C := "java/lang/String") ⟨B.exec, B.bytes, hml, hown, htb⟩ (qs_latin hi) (cwV 0 htb (qgood (fun _ h => h) (qs_wsV qs_ml_lat qs_im_lat qs_se_lat qs_in_s qs_code_lat)) rfl rfl rfl ⟨rfl, by decide, by decide, by decide +kernel⟩ ⟨by decide, by decide⟩) ⟨qs_blind _ _, hrv, fun U hU hW => ⟨rfl, by rw [hU]; exact hO, hK.moved hW⟩⟩ rfl rfl rfl rfl (by show 2 * 0 + 0 ≤ 8; decide) (show decode prog_17_method_56_code 1 = .ok (.invokevirtual 492, 3) by decide +kernel) ⟨by decide, by decide⟩) ?_
  intro L hL
  rw [List.nil_append]
  refine lv_if_eq (tgt := 16) (off := 12) B.exec B.bytes (by decide +kernel) (by decide) (fun z => absurd z (by decide)) (fun _ => ?_)
  refine lv_aload_n (i := 0) (x := gS G (i + 1)) B.exec B.bytes (show decode _ _ = .ok (.aload_n 0, 1) by decide +kernel) rfl rfl ?_
  refine vk_getf B.exec B.bytes (hS8.1 i hi).2.2.1 (qs_S2 hL) hown (htb _ qs_fl_val) (fun x h => h) (by decide +kernel) ?_
  refine lv_iload_n (i := 1) (x := k) B.exec B.bytes (show decode _ _ = .ok (.iload_n 1, 1) by decide +kernel) rfl rfl ?_
  refine qs_after (G := G) (v := some (.int ((qSB.getD i []).getD k.toNatClampNeg 0))) (rest := []) (a' := [Value.ref (adV i), Value.int k].toArray) (va_runS (Ts := qTB) (nL := 2) (As := [.ref (adV i), .int k]) (rest := []) (own := "java/lang/String") ⟨B.exec, B.bytes, hml, hown, htb⟩ (qs_l1c (t := adV i) hi h0 h1) (va_cwS 2 htb (qgood (fun _ h => h) ?_) rfl rfl rfl ⟨by decide, by decide, by decide +kernel⟩ ⟨by decide, by decide⟩) ⟨qs_blindT _ _ _ _, fun U hU hW => ⟨rfl, by rw [hU]; exact hO, hK.moved hW, by rw [hU]; exact va_T.moved hW.alike (hS8.1 i hi).2.2.2⟩⟩ rfl rfl rfl rfl (by show 2 * 0 + 0 ≤ 8; decide) (show decode prog_17_method_56_code 12 = .ok (.invokestatic 495, 3) by decide +kernel) ⟨by decide, by decide⟩) ?_
  · intro w hw
    simp only [va_wsS, List.mem_append, List.mem_cons, List.not_mem_nil, or_false] at hw
    rcases hw with (rfl | rfl | rfl) | rfl | hw
    · exact qs_ml_l1c
    · exact qs_st_l1c
    · exact qs_in_l
    · exact qs_code_l1c
    · exact hw
  · intro L2 hL2
    exact W.zret B.exec B.bytes B.returns b2 (fun t ht hW => ⟨rfl, ht⟩) (fun q hq => (List.mem_append.mp hq).elim (hL q) (hL2 q)) (by decide +kernel) B.notSynchronized
theorem s_ldcS {o nL n0 s0 idx k : Nat} {ini : Bool} {L : qL} {r : List Value} {h : qH} (C : qCx p s m args meth c G o ini cc nL) (he : (o, idx, k) ∈ qSR) (hd : decode cc pc = .ok (.ldc idx, 2)) (kk : qS p l e R s m args below meth c G nL n0 s0 Q (pc + 2) L (.ref k :: r) h) : qS p l e R s m args below meth c G nL n0 s0 Q pc L r h := by
  intro H locs ls hR hlo hL
  have h8 := (qSR_ok _ he).2.1
  have h8' : k ≤ 8 := h8
  have hZ := C.2.2.2.2.2.1.2.2.2.2.1.2 _ he
  have h9 := kk H locs ls hR hlo hL
  rw [List.map_cons, show tV G (.ref k) = .ref (gS G k) by show Value.ref (tA G k) = _; unfold tA; rw [if_pos (by omega)]] at h9
  exact va_ldcS C.1 C.2.1 C.2.2.2.1 hZ hd h9
theorem s_slen {o nL n0 s0 idx a : Nat} {ini : Bool} {L : qL} {r : List Value} {h : qH} (C : qCx p s m args meth c G o ini cc nL) (hlink : Cond.methodLink (qcn o) idx yS_len ∈ qTB) (hd : decode cc pc = .ok (.invokevirtual idx, 3)) (hroom : qroom r = true) (ha : 1 ≤ a ∧ a ≤ 8) (hfr : 5 ≤ R.frames ∧ 200 ≤ R.locals) (hcap : h.2.1 - n0 ≤ R.cells ∧ h.2.2 - s0 ≤ R.slots) (kk : qS p l e R s m args below meth c G nL n0 s0 Q (pc + 3) L (.int (Int32.ofNat (qsln a)) :: r) h) : qS p l e R s m args below meth c G nL n0 s0 Q pc L (.ref a :: r) h := by
  intro H locs ls hR hlo hL
  obtain ⟨i, rfl⟩ : ∃ i, a = i + 1 := ⟨a - 1, by omega⟩
  have hi : i < 8 := by omega
  have hts := C.2.2.2.2.1
  obtain ⟨-, -, adV, hS8⟩ := C.2.2.2.2.2.1.2.2.2.2.1.1 H hR.2.2.2.1
  have et : tA G (i + 1) = gS G (i + 1) := by unfold tA; rw [if_pos (by omega)]
  obtain ⟨cell, c1, c2, c3, -⟩ := (hS8.1 i hi).1
  show W p l e R s m args below meth c H locs (h.2.1 - n0) (h.2.2 - s0) Q (F0 m pc ls (.ref (tA G (i + 1)) :: r.map (tV G)))
  rw [et]
  refine qs_after (G := G) (v := some (.int (Int32.ofNat (qSL.getD i 0)))) (rest := r.map (tV G)) (a' := [Value.ref (gS G (i + 1))].toArray) (va_runV (Ts := qTB) (nL := nL) (b := gS G (i + 1)) (As := []) (rest := r.map (tV G)) (own := qcn o) (C := "java/lang/String") ⟨C.1, C.2.1, C.2.2.1, C.2.2.2.1, hts⟩ (qs_length hi) (cwV 0 hts (qgood (fun _ h => h) (qs_wsV hlink qs_im_len qs_se_len qs_in_s qs_code_len)) rfl rfl rfl ⟨rfl, by decide, by decide, by decide +kernel⟩ ⟨by show 1 + 1 ≤ R.frames; omega, by show 8 + (1 + 11) + 40 * 1 ≤ R.locals; omega⟩) ⟨qs_blind _ _, ⟨cell, c1, c2, c3⟩, fun U hU hW => ⟨rfl, by rw [hU]; exact hR.2.2.2.1, C.2.2.2.2.2.1.moved hW⟩⟩ rfl rfl hL.2.1 rfl ?_ hd ⟨hcap.1, hcap.2⟩) ?_
  · have h9 := of_decide_eq_true hroom
    rw [List.map_map, show ((fun v => Value.category v) ∘ tV G) = fun v => v.category from funext (tV_cat G)]
    exact lv_room h9
  · intro Lx hLx
    exact kk H (locs ++ Lx) ls hR (fun x hx => (List.mem_append.mp hx).elim (hlo x) (hLx x)) hL
theorem s_schr {o nL n0 s0 idx a : Nat} {k : Int32} {ini : Bool} {L : qL} {r : List Value} {h : qH} (C : qCx p s m args meth c G o ini cc nL) (hlink : Cond.methodLink (qcn o) idx yS_chr ∈ qTB) (hd : decode cc pc = .ok (.invokevirtual idx, 3)) (hroom : qroom r = true) (ha : 1 ≤ a ∧ a ≤ 8) (hk : ¬ (k < 0 ∨ qsln a ≤ k.toNatClampNeg)) (hfr : 5 ≤ R.frames ∧ 200 ≤ R.locals) (hcap : h.2.1 - n0 ≤ R.cells ∧ h.2.2 - s0 ≤ R.slots) (kk : qS p l e R s m args below meth c G nL n0 s0 Q (pc + 3) L (.int (qsch a k.toNatClampNeg) :: r) h) : qS p l e R s m args below meth c G nL n0 s0 Q pc L (.int k :: .ref a :: r) h := by
  intro H locs ls hR hlo hL
  obtain ⟨i, rfl⟩ : ∃ i, a = i + 1 := ⟨a - 1, by omega⟩
  have hi : i < 8 := by omega
  have hts := C.2.2.2.2.1
  obtain ⟨-, -, adV, hS8⟩ := C.2.2.2.2.2.1.2.2.2.2.1.1 H hR.2.2.2.1
  have et : tA G (i + 1) = gS G (i + 1) := by unfold tA; rw [if_pos (by omega)]
  obtain ⟨cell, c1, c2, c3, -⟩ := (hS8.1 i hi).1
  have h0 : ¬ k < 0 := fun z => hk (Or.inl z)
  have h1 : k.toNatClampNeg < qSL.getD i 0 := Nat.lt_of_not_le fun z => hk (Or.inr z)
  show W p l e R s m args below meth c H locs (h.2.1 - n0) (h.2.2 - s0) Q (F0 m pc ls (.int k :: .ref (tA G (i + 1)) :: r.map (tV G)))
  rw [et]
  refine qs_after (G := G) (v := some (.int ((qSB.getD i []).getD k.toNatClampNeg 0))) (rest := r.map (tV G)) (a' := [Value.ref (gS G (i + 1)), Value.int k].toArray) (va_runV (Ts := qTB) (nL := nL) (b := gS G (i + 1)) (As := [.int k]) (rest := r.map (tV G)) (own := qcn o) (C := "java/lang/String") ⟨C.1, C.2.1, C.2.2.1, C.2.2.2.1, hts⟩ (qs_charAt hi h0 h1) (cwV 1 hts (qgood (fun _ h => h) (qs_wsV hlink qs_im_chr qs_se_chr qs_in_s qs_code_chr)) rfl rfl rfl ⟨rfl, by decide, by decide, by decide +kernel⟩ ⟨by show 3 + 1 ≤ R.frames; omega, by show 8 + (2 + 11) + 40 * 3 ≤ R.locals; omega⟩) ⟨qs_blind _ _, ⟨cell, c1, c2, c3⟩, fun U hU hW => ⟨rfl, by rw [hU]; exact hR.2.2.2.1, C.2.2.2.2.2.1.moved hW⟩⟩ rfl rfl hL.2.1 rfl ?_ hd ⟨hcap.1, hcap.2⟩) ?_
  · have h9 := of_decide_eq_true hroom
    rw [List.map_map, show ((fun v => Value.category v) ∘ tV G) = fun v => v.category from funext (tV_cat G)]
    exact lv_room h9
  · intro Lx hLx
    exact kk H (locs ++ Lx) ls hR (fun x hx => (List.mem_append.mp hx).elim (hlo x) (hLx x)) hL
end QSTR


/-! ===== THE LAW: what both heaps hold ===== -/
section LAWST
variable {h h' : qH} {bs : List bdy} {dr : List pt4} {t : pt4} {r : List Nat} {n : Nat} {ss : List Nat} {cm : List clm} {tx : List Nat} {ft : Int32}
noncomputable def LX (h : qH) (bs : List bdy) (dr : List pt4) (t : pt4) (r : List Nat) (n : Nat) (ss : List Nat) (cm : List clm) (tx : List Nat) (ft : Int32) : Prop := ShX h ∧ (∃ sa, BsX h bs sa) ∧ (DrX h dr ∧ TlX h t) ∧ (RwX h r ∧ PaX h n ss) ∧ (CmX h cm ∧ TxX h tx) ∧ xi h 50 7 = ft ∧ FnX h
noncomputable def LM (h : qH) (bs : List bdy) (dr : List pt4) (t : pt4) (r : List Nat) (n : Nat) (ss : List Nat) (cm : List clm) (tx : List Nat) (ft : Int32) : Prop := ShM h ∧ BsM h bs ∧ (DrV h dr ∧ TlV h t) ∧ (RwV h r ∧ PaV h n ss) ∧ (CmV h cm ∧ TxV h tx) ∧ mi h 52 = ft
/-- the class's part changes, the reference's stays -/
def kpM (h h' : qH) : Prop := h.2.1 ≤ h'.2.1 ∧ ∀ a, 55 ≤ a → a < 97 → h'.1 a = h.1 a
theorem kpM.of {A : List Nat} {J : List (Nat × Nat)} {k : Nat} (c : ChX A J k h h') (hA : ∀ x ∈ A, x < 55 ∨ 97 ≤ x) (s : ShX h) : kpM h h' := ⟨c.1.2.1, fun a h1 h2 => c.at (fun z => by have := hA a z; omega) (fun z => by have := (by decide : ∀ x ∈ XO, x < 55) a z; omega) (s.lt h2)⟩
theorem ShM.X (s : ShM h) (k : kpM h h') : ShM h' := by
  obtain ⟨l, e⟩ := k
  obtain ⟨s1, s2, s3, s4, s5, s6⟩ := s
  have e5 := hf_at (e 55 (by decide) (by decide))
  refine ⟨s1.sm l (e 55 (by decide) (by decide)), fun q hq => (s2 q hq).sm l (e q.1 ?_ ?_), fun q hq => (s3 q hq).sm l (e q.1 ?_ ?_), fun q hq => by rw [e5]; exact s4 q hq, fun j hj => by rw [e5]; exact s5 j hj, by rw [e5]; exact s6⟩
  · exact ((by decide : ∀ q ∈ MIs, 55 ≤ q.1 ∧ q.1 < 97) q hq).1
  · exact ((by decide : ∀ q ∈ MIs, 55 ≤ q.1 ∧ q.1 < 97) q hq).2
  · exact ((by decide : ∀ q ∈ MLs, 55 ≤ q.1 ∧ q.1 < 97) q hq).1
  · exact ((by decide : ∀ q ∈ MLs, 55 ≤ q.1 ∧ q.1 < 97) q hq).2
theorem LM.X (v : LM h bs dr t r n ss cm tx ft) (k : kpM h h') : LM h' bs dr t r n ss cm tx ft := by
  obtain ⟨v1, v2, ⟨v3, v4⟩, ⟨v5, v6⟩, ⟨v7, v8⟩, v9⟩ := v
  have s' := v1.X k
  obtain ⟨l, e⟩ := k
  have eI : ∀ a, 55 ≤ a → a < 97 → hi h' a = hi h a := fun a h1 h2 => hi_at (e a h1 h2)
  have eL : ∀ a, 55 ≤ a → a < 97 → hl h' a = hl h a := fun a h1 h2 => hl_at (e a h1 h2)
  have eM : ∀ j, mi h' j = mi h j := fun j => by unfold mi; rw [hf_at (e 55 (by decide) (by decide))]
  refine ⟨s', ⟨v2.1, (eM 0).trans v2.2.1, fun i hi' => ?_⟩, ⟨⟨v3.1, (eM _).trans v3.2.1, by rw [eI 70 (by decide) (by decide)]; exact v3.2.2⟩, by unfold TlV; rw [eI 83 (by decide) (by decide)]; exact v4⟩, ⟨⟨v5.1, (eM _).trans v5.2.1, by rw [eI 81 (by decide) (by decide)]; exact v5.2.2⟩, ⟨v6.1, v6.2.1, (eM _).trans v6.2.2.1, (eM _).trans v6.2.2.2.1, by rw [eI 80 (by decide) (by decide)]; exact v6.2.2.2.2⟩⟩, ⟨⟨⟨v7.1.1, by rw [eI 94 (by decide) (by decide)]; exact v7.1.2⟩, (eM _).trans v7.2⟩, ⟨v8.1, (eM _).trans v8.2.1, by rw [eI 93 (by decide) (by decide)]; exact v8.2.2⟩⟩, (eM _).trans v9⟩
  obtain ⟨o, q, m⟩ := v2.2.2 i hi'
  refine ⟨o, q, m.same o.2.2.1 o.2.2.2.2 ⟨⟨?_, ?_, ?_⟩, fun x _ _ => ?_, fun x _ _ => ?_, fun x _ _ => ?_, fun x _ _ => ?_⟩⟩
  · rw [eI 56 (by decide) (by decide)]
  · rw [eI 57 (by decide) (by decide)]
  · rw [eI 58 (by decide) (by decide)]
  · rw [eI 59 (by decide) (by decide)]
  · rw [eI 60 (by decide) (by decide)]
  · rw [eI 61 (by decide) (by decide)]
  · rw [eL 62 (by decide) (by decide)]
/-- the reference's part changes, the class's stays -/
theorem chXM {A J : List Nat} (c : Ch A J h h') (s : ShX h) (hA : ∀ x ∈ A, 56 ≤ x ∧ x < 97) : ChX (55 :: A) [] 0 h h' := by
  have e : ∀ a, a < 55 → h'.1 a = h.1 a := fun a ha => c.2.1 a (fun z => by have := hA a z; omega) (by omega)
  have e2 : h'.2 = h.2 := c.1.1
  have l : h.2.1 ≤ h'.2.1 := by rw [e2]; exact Nat.le_refl _
  have s' : ShX h' := by
    obtain ⟨s1, s2, s3, s4, s5, s6, s7, s8⟩ := s
    have f : ∀ a, a < 55 → hf h' a = hf h a := fun a ha => hf_at (e a ha)
    refine ⟨fun q hq => (s1 q hq).sm l (e _ ?_), fun q hq => (s2 q hq).sm l (e _ ?_), fun q hq => (s3 q hq).sm l (e _ ?_), s4.sm l (e 17 (by decide)), fun q hq => by rw [f _ ((by decide : ∀ q ∈ XFs, q.1 < 55) q hq)]; exact s5 q hq, fun q hq => by rw [f _ ((by decide : ∀ q ∈ XJs, q.1 < 55) q hq)]; exact s6 q hq, by rw [f 27 (by decide)]; exact s7, by rw [e2]; exact s8⟩
    · exact (by decide : ∀ q ∈ XOs, q.1 < 55) q hq
    · exact (by decide : ∀ q ∈ XIs, q.1 < 55) q hq
    · exact (by decide : ∀ q ∈ XLs, q.1 < 55) q hq
  refine ⟨⟨s', l, by rw [e2]; exact Nat.le_refl _, by rw [e2]; exact Nat.le_add_right _ _⟩, fun b hb ho hl => c.2.1 b (fun z => hb (List.mem_cons_of_mem _ z)) (fun z => hb (by rw [z]; exact List.mem_cons_self)), e 0 (by decide), fun a ha j _ => ?_⟩
  rw [hf_at (e a ((by decide : ∀ x ∈ XO, x < 55) a ha))]
theorem LX.keep {A : List Nat} {J : List (Nat × Nat)} {k : Nat} (v : LX h bs dr t r n ss cm tx ft) (c : ChX A J k h h') (hA : ∀ x ∈ A, x < 97) (h1 : ∀ x ∈ [17, 18, 40, 42, 44, 51, 54], x ∉ A) (h2 : ∀ x ∈ [(16, 1), (16, 3), (39, 0), (39, 2), (41, 1), (43, 4), (50, 1), (50, 7), (53, 1)], x ∉ J) : LX h' bs dr t r n ss cm tx ft := by
  obtain ⟨s, ⟨sa, X⟩, ⟨v3, v4⟩, ⟨v5, v6⟩, ⟨v7, v8⟩, v9, v10⟩ := v
  have eI : ∀ a, a ∈ [18, 40, 42, 44, 51, 54] → hi h' a = hi h a := fun a ha => c.hi (h1 a (List.mem_cons_of_mem _ ha)) ((by decide : ∀ a ∈ [18, 40, 42, 44, 51, 54], a ∉ XO) a ha) (s.lt ((by decide : ∀ a ∈ [18, 40, 42, 44, 51, 54], a < 97) a ha))
  have eJ : ∀ q, q ∈ [(16, 1), (16, 3), (39, 0), (39, 2), (41, 1), (43, 4), (50, 1), (50, 7), (53, 1)] → xi h' q.1 q.2 = xi h q.1 q.2 := fun q hq => c.xi ((by decide : ∀ q ∈ [(16, 1), (16, 3), (39, 0), (39, 2), (41, 1), (43, 4), (50, 1), (50, 7), (53, 1)], q.1 ∈ XO) q hq) (h2 q hq)
  refine ⟨c.sh, ⟨sa, X.ch s c hA (h1 17 (by decide)) (h2 _ (by decide))⟩, ⟨⟨v3.1, (eJ (16, 3) (by decide)).trans v3.2.1, by rw [eI 18 (by decide)]; exact v3.2.2⟩, by unfold TlX; rw [eI 44 (by decide)]; exact v4⟩, ⟨⟨v5.1, (eJ (41, 1) (by decide)).trans v5.2.1, by rw [eI 42 (by decide)]; exact v5.2.2⟩, ⟨v6.1, v6.2.1, (eJ (39, 0) (by decide)).trans v6.2.2.1, (eJ (39, 2) (by decide)).trans v6.2.2.2.1, by rw [eI 40 (by decide)]; exact v6.2.2.2.2⟩⟩, ⟨⟨⟨v7.1.1, by rw [eI 54 (by decide)]; exact v7.1.2⟩, (eJ (53, 1) (by decide)).trans v7.2⟩, v8.ch c s (h1 51 (by decide)) (h2 _ (by decide))⟩, (eJ (50, 7) (by decide)).trans v9, v10.ch97 c (h2 _ (by decide)) hA⟩
theorem LX.M {A J : List Nat} (v : LX h bs dr t r n ss cm tx ft) (c : Ch A J h h') (hA : ∀ x ∈ A, 56 ≤ x ∧ x < 97) : LX h' bs dr t r n ss cm tx ft :=
  v.keep (chXM c v.1 hA) (fun x hx => by
    rcases List.mem_cons.mp hx with z | z
    · omega
    · exact (hA x z).2) (fun x hx z => by
    have := (by decide : ∀ x ∈ [17, 18, 40, 42, 44, 51, 54], x < 55) x hx
    rcases List.mem_cons.mp z with y | y
    · omega
    · have := hA x y; omega) (fun x _ z => by cases z)
end LAWST

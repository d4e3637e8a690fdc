/-! ===== THE LAW: one call of both ===== -/
section LAWCALL
abbrev lwT : Type := List bdy × (List pt4 × pt4) × (List Nat × Nat × List Nat) × List clm × List Nat × Int32
noncomputable def LXs (h : qH) (s : lwT) : Prop := LX h s.1 s.2.1.1 s.2.1.2 s.2.2.1.1 s.2.2.1.2.1 s.2.2.1.2.2 s.2.2.2.1 s.2.2.2.2.1 s.2.2.2.2.2
noncomputable def LMs (h : qH) (s : lwT) : Prop := LM h s.1 s.2.1.1 s.2.1.2 s.2.2.1.1 s.2.2.1.2.1 s.2.2.1.2.2 s.2.2.2.1 s.2.2.2.2.1 s.2.2.2.2.2
/-- what is so of the lists alone -/
def LPs (s : lwT) : Prop := s.2.2.1.1.Nodup ∧ s.2.2.1.2.2.Nodup ∧ cmG s.2.2.2.1
/-- an int, or a long -/
def kdV (k : Nat) (v : Value) : Prop := if k = 0 then ∃ r, v = .int r else ∃ r, v = .long r
/-- one call: both answer alike, and hold alike after it -/
def callP (k cx cm : Nat) (as : List Value) : Prop := ∀ (h : qH) (s : lwT), LXs h s → LMs h s → LPs s → ∃ (v : Value) (h1 h2 : qH) (s' : lwT), (kdV k v ∧ ShM h1) ∧ (∀ R, qMC 1000 cx (.ref 16 :: as) h R ↔ R = (some v, h1)) ∧ (∀ R, qMC 1000 cm (.ref 55 :: as) h1 R ↔ R = (some v, h2)) ∧ (LXs h2 s' ∧ LMs h2 s' ∧ LPs s') ∧ (h1.1 0 = h.1 0 ∧ h2.1 0 = h.1 0) ∧ s.1.length ≤ s'.1.length ∧ h2.2.1 ≤ h.2.1 + 16 * (1 + (s'.1.length - s.1.length)) ∧ h2.2.2 ≤ h.2.2 + 9600 * (1 + (s'.1.length - s.1.length))
theorem call_gen {k cx cm : Nat} {as : List Value} (P : lwT → Value → lwT → Prop)
    (hx : ∀ (h : qH) (s : lwT) (v : Value) (s' : lwT), LXs h s → LPs s → P s v s' → ∃ (h1 : qH) (A : List Nat) (J : List (Nat × Nat)) (k : Nat), (∀ R, qMC 1000 cx (.ref 16 :: as) h R ↔ R = (some v, h1)) ∧ ChX A J k h h1 ∧ (∀ x ∈ A, x < 55 ∨ 97 ≤ x) ∧ k ≤ 16 * (1 + (s'.1.length - s.1.length)) ∧ LXs h1 s')
    (hm : ∀ (h : qH) (s : lwT), LMs h s → LPs s → ∃ (h2 : qH) (v : Value) (s' : lwT) (A J : List Nat), (∀ R, qMC 1000 cm (.ref 55 :: as) h R ↔ R = (some v, h2)) ∧ Ch A J h h2 ∧ (∀ x ∈ A, 56 ≤ x ∧ x < 97) ∧ LMs h2 s' ∧ P s v s' ∧ LPs s' ∧ s.1.length ≤ s'.1.length) (hk : ∀ (s : lwT) (v : Value) (s' : lwT), P s v s' → kdV k v := by
      intro s v s' hp
      first
        | (obtain ⟨r, _, e, _⟩ := hp; exact ⟨r, e⟩)
        | (obtain ⟨r, _, _, e, _⟩ := hp; exact ⟨r, e⟩)
        | (obtain ⟨r, _, _, _, e, _⟩ := hp; exact ⟨r, e⟩)
        | (obtain ⟨_, r, e, _⟩ := hp; exact ⟨r, e⟩)
        | (obtain ⟨e, _⟩ := hp; exact ⟨_, e⟩)
        | (rcases hp with ⟨_, e, _⟩ | ⟨_, _, _, e, _⟩ <;> exact ⟨_, e⟩)) : callP k cx cm as := by
  intro h s X M p
  obtain ⟨-, v0, s0, -, -, -, -, -, -, p0, -, -⟩ := hm h s M p
  obtain ⟨h1, A, J, k, r1, c1, a1, k1, X1⟩ := hx h s v0 s0 X p p0
  have M1 : LMs h1 s := LM.X M (kpM.of c1 a1 X.1)
  obtain ⟨h2, v, s', A2, J2, r2, c2, a2, M2, p2, q2, l2⟩ := hm h1 s M1 p
  obtain ⟨h1', A', J', k', r1', c1', a1', k1', X1'⟩ := hx h s v s' X p p2
  have e := (r1' (some v0, h1)).mp ((r1 _).mpr rfl)
  injection e with e1 e2
  injection e1 with e1
  subst e1
  subst e2
  have e3 := c2.1.1
  have z1 : h1.1 0 = h.1 0 := c1'.2.2.1
  have z2 : h2.1 0 = h1.1 0 := c2.2.1 0 (fun z => absurd (a2 0 z).1 (by decide)) (by decide)
  refine ⟨v0, h1, h2, s', ⟨hk s v0 s' p2, M1.1⟩, r1, r2, ⟨LX.M X1' c2 a2, M2, q2⟩, ⟨z1, z2.trans z1⟩, l2, ?_, ?_⟩
  · rw [e3]; have := c1'.1.2.2.1; omega
  · rw [e3]; have := c1'.1.2.2.2; omega
section
variable {h h' : qH} {bs bs' : List bdy} {dr : List pt4} {t : pt4} {r : List Nat} {n : Nat} {ss : List Nat} {cm : List clm} {tx : List Nat} {ft : Int32}
theorem LX.keepB {A : List Nat} {J : List (Nat × Nat)} {k : Nat} {sa' : Nat → Nat} (v : LX h bs dr t r n ss cm tx ft) (c : ChX A J k h h') (hA : ∀ x ∈ A, x < 97) (h1 : ∀ x ∈ [18, 40, 42, 44, 51, 54], x ∉ A) (h2 : ∀ x ∈ [(16, 3), (39, 0), (39, 2), (41, 1), (43, 4), (50, 1), (50, 7), (53, 1)], x ∉ J) (X' : BsX h' bs' sa') : LX h' bs' dr t r n ss cm tx ft := by
  obtain ⟨s, -, ⟨v3, v4⟩, ⟨v5, v6⟩, ⟨v7, v8⟩, v9, v10⟩ := v
  have eI : ∀ a, a ∈ [18, 40, 42, 44, 51, 54] → hi h' a = hi h a := fun a ha => c.hi (h1 a ha) ((by decide : ∀ a ∈ [18, 40, 42, 44, 51, 54], a ∉ XO) a ha) (s.lt ((by decide : ∀ a ∈ [18, 40, 42, 44, 51, 54], a < 97) a ha))
  have eJ : ∀ q, q ∈ [(16, 3), (39, 0), (39, 2), (41, 1), (43, 4), (50, 1), (50, 7), (53, 1)] → xi h' q.1 q.2 = xi h q.1 q.2 := fun q hq => c.xi ((by decide : ∀ q ∈ [(16, 3), (39, 0), (39, 2), (41, 1), (43, 4), (50, 1), (50, 7), (53, 1)], q.1 ∈ XO) q hq) (h2 q hq)
  refine ⟨c.sh, ⟨sa', X'⟩, ⟨⟨v3.1, (eJ (16, 3) (by decide)).trans v3.2.1, by rw [eI 18 (by decide)]; exact v3.2.2⟩, by unfold TlX; rw [eI 44 (by decide)]; exact v4⟩, ⟨⟨v5.1, (eJ (41, 1) (by decide)).trans v5.2.1, by rw [eI 42 (by decide)]; exact v5.2.2⟩, ⟨v6.1, v6.2.1, (eJ (39, 0) (by decide)).trans v6.2.2.1, (eJ (39, 2) (by decide)).trans v6.2.2.2.1, by rw [eI 40 (by decide)]; exact v6.2.2.2.2⟩⟩, ⟨⟨⟨v7.1.1, by rw [eI 54 (by decide)]; exact v7.1.2⟩, (eJ (53, 1) (by decide)).trans v7.2⟩, v8.ch c s (h1 51 (by decide)) (h2 _ (by decide))⟩, (eJ (50, 7) (by decide)).trans v9, v10.ch97 c (h2 _ (by decide)) hA⟩
theorem LM.keepB {A J : List Nat} (v : LM h bs dr t r n ss cm tx ft) (c : Ch A J h h') (h1 : ∀ x ∈ [70, 80, 81, 83, 93, 94], x ∉ A) (h2 : ∀ x ∈ [18, 32, 33, 35, 51, 52, 54], x ∉ J) (B' : BsM h' bs') : LM h' bs' dr t r n ss cm tx ft := by
  obtain ⟨v1, v2, ⟨v3, v4⟩, ⟨v5, v6⟩, ⟨v7, v8⟩, v9⟩ := v
  have eI : ∀ a, a ∈ [70, 80, 81, 83, 93, 94] → hi h' a = hi h a := fun a ha => c.hi (h1 a ha) (fun z => absurd (z ▸ ha : 55 ∈ [70, 80, 81, 83, 93, 94]) (by decide))
  have eM : ∀ j, j ∈ [18, 32, 33, 35, 51, 52, 54] → mi h' j = mi h j := fun j hj => c.mi (h2 j hj)
  exact ⟨c.sh, B', ⟨⟨v3.1, (eM _ (by decide)).trans v3.2.1, by rw [eI 70 (by decide)]; exact v3.2.2⟩, by unfold TlV; rw [eI 83 (by decide)]; exact v4⟩, ⟨⟨v5.1, (eM _ (by decide)).trans v5.2.1, by rw [eI 81 (by decide)]; exact v5.2.2⟩, ⟨v6.1, v6.2.1, (eM _ (by decide)).trans v6.2.2.1, (eM _ (by decide)).trans v6.2.2.2.1, by rw [eI 80 (by decide)]; exact v6.2.2.2.2⟩⟩, ⟨⟨⟨v7.1.1, by rw [eI 94 (by decide)]; exact v7.1.2⟩, (eM _ (by decide)).trans v7.2⟩, ⟨v8.1, (eM _ (by decide)).trans v8.2.1, by rw [eI 93 (by decide)]; exact v8.2.2⟩⟩, (eM _ (by decide)).trans v9⟩
end
/-- a call that may make a body and changes nothing else -/
theorem call_bs {cx cm : Nat} {as : List Value} {AX : List Nat} {JX : List (Nat × Nat)} {AM JM : List Nat} (P : List bdy → Int32 → List bdy → Prop) (mono : ∀ bs v bs', P bs v bs' → bs.length ≤ bs'.length)
    (hx : ∀ (h : qH) (bs : List bdy) (sa : Nat → Nat) (v : Int32) (bs' : List bdy), ShX h → BsX h bs sa → P bs v bs' → ∃ h' sa', (∀ R, qMC 1000 cx (.ref 16 :: as) h R ↔ R = (some (.int v), h')) ∧ ChX AX JX 16 h h' ∧ BsX h' bs' sa')
    (hm : ∀ (h : qH) (bs : List bdy), ShM h → BsM h bs → ∃ v h' bs', (∀ R, qMC 1000 cm (.ref 55 :: as) h R ↔ R = (some (.int v), h')) ∧ Ch AM JM h h' ∧ BsM h' bs' ∧ P bs v bs')
    (a1 : ∀ x ∈ AX, x < 55) (a2 : ∀ x ∈ [18, 40, 42, 44, 51, 54], x ∉ AX) (a3 : ∀ x ∈ [(16, 3), (39, 0), (39, 2), (41, 1), (43, 4), (50, 1), (50, 7), (53, 1)], x ∉ JX) (a4 : ∀ x ∈ AM, 56 ≤ x ∧ x < 97) (a5 : ∀ x ∈ [70, 80, 81, 83, 93, 94], x ∉ AM) (a6 : ∀ x ∈ [18, 32, 33, 35, 51, 52, 54], x ∉ JM) : callP 0 cx cm as :=
  call_gen (fun s v s' => s'.2 = s.2 ∧ ∃ x, v = .int x ∧ P s.1 x s'.1) (fun h s v s' X p ⟨e, x, ev, px⟩ => by
    obtain ⟨sa, Xb⟩ := X.2.1
    obtain ⟨h', sa', r, c, X'⟩ := hx h s.1 sa x s'.1 X.1 Xb px
    refine ⟨h', AX, JX, 16, by rw [ev]; exact r, c, fun y hy => Or.inl (a1 y hy), by omega, ?_⟩
    have := LX.keepB X c (fun y hy => by have := a1 y hy; omega) a2 a3 X'
    unfold LXs
    rw [e]
    exact this) (fun h s M p => by
    obtain ⟨v, h', bs', r, c, B', pv⟩ := hm h s.1 M.1 M.2.1
    exact ⟨h', .int v, (bs', s.2), AM, JM, r, c, a4, LM.keepB M c a5 a6 B', ⟨rfl, v, rfl, pv⟩, p, mono _ _ _ pv⟩)
theorem new_mono {bs bs' : List bdy} {l : List pt4} {D : Nat} {sc v : Int32} (p : newB bs l D sc v bs') : bs.length ≤ bs'.length := by
  unfold newB at p
  rcases p with ⟨-, -, e⟩ | ⟨-, -, -, e⟩ | ⟨-, -, -, -, e⟩ | ⟨-, -, -, -, e⟩
  all_goals rw [e]
  all_goals first | exact Nat.le_refl _ | (rw [List.length_append]; exact Nat.le_add_right _ _)
theorem call_both (gg : geo) (x y : Int32) : callP 0 141 229 [.int x, .int y] := call_bs (fun bs v bs' => botR bs x y v bs') (fun bs v bs' p => by
    rcases p with ⟨-, -, e⟩ | ⟨i, j, -, -, ⟨-, -, e⟩ | ⟨-, p⟩⟩
    · rw [e]; exact Nat.le_refl _
    · rw [e]; exact Nat.le_refl _
    · exact new_mono p) (fun h bs sa v bs' s X p => x_both (d := 992) s X p) (fun h bs s B => s_both (d := 992) gg s B x y) (by decide) (by decide) (by decide) (by decide) (by decide) (by decide)
theorem call_product (gg : geo) (x y : Int32) : callP 0 140 228 [.int x, .int y] := call_bs (fun bs v bs' => prdR bs x y v bs') (fun bs v bs' p => by
    rcases p with ⟨-, -, e⟩ | ⟨i, j, -, -, ⟨-, -, e⟩ | ⟨-, p⟩⟩
    · rw [e]; exact Nat.le_refl _
    · rw [e]; exact Nat.le_refl _
    · exact new_mono p) (fun h bs sa v bs' s X p => x_product (d := 992) s X p) (fun h bs s B => s_product (d := 992) gg s B x y) (by decide) (by decide) (by decide) (by decide) (by decide) (by decide)
theorem call_shadow (gg : geo) (x y : Int32) : callP 0 138 225 [.int x, .int y] := call_bs (fun bs v bs' => shdR bs x y v bs') (fun bs v bs' p => by
    rcases p with ⟨-, -, e⟩ | ⟨i, -, ⟨-, -, e⟩ | ⟨k, -, p⟩⟩
    · rw [e]; exact Nat.le_refl _
    · rw [e]; exact Nat.le_refl _
    · exact new_mono p) (fun h bs sa v bs' s X p => x_shadow (d := 992) s X p) (fun h bs s B => s_shadow (d := 992) gg s B x y) (by decide) (by decide) (by decide) (by decide) (by decide) (by decide)
theorem call_raise (gg : geo) (x y w : Int32) : callP 0 139 227 [.int x, .int y, .int w] := call_bs (fun bs v bs' => rsR bs x y w v bs') (fun bs v bs' p => by
    rcases p with ⟨-, -, e⟩ | ⟨i, -, ⟨-, -, e⟩ | ⟨k, z, -, -, -, p⟩⟩
    · rw [e]; exact Nat.le_refl _
    · rw [e]; exact Nat.le_refl _
    · exact new_mono p) (fun h bs sa v bs' s X p => x_raise (d := 992) s X p) (fun h bs s B => s_raise (d := 992) gg s B x y w) (by decide) (by decide) (by decide) (by decide) (by decide) (by decide)
end LAWCALL

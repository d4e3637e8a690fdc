/-! ===== THE REFERENCE: a body of points ===== -/
/-- whether it is so -/
noncomputable def tB (p : Prop) : Bool := @decide p (Classical.propDecidable p)
theorem tB_t {p : Prop} (h : p) : tB p = true := @decide_eq_true p (Classical.propDecidable p) h
theorem tB_f {p : Prop} (h : ¬ p) : tB p = false := @decide_eq_false p (Classical.propDecidable p) h
/-- some plane of D of them has all on one side -/
def solid (l : List pt4) (D : Nat) : Prop := D < l.length ∧ ∃ c0 c1 c2 c3, inc l.length D c0 c1 c2 c3 ∧ chG (lP l) l.length D c0 c1 c2 c3
/-- all facets of the points, each once -/
def facL (l : List pt4) (D f : Nat) (S : Nat → Nat) (Q : Nat → Nat → Int) : Prop := FLs (lP l) l.length D f S Q ∧ ∀ c0 c1 c2 c3, inc l.length D c0 c1 c2 c3 → chG (lP l) l.length D c0 c1 c2 c3 → ∃ j, j < f ∧ S j = chM (lP l) l.length D c0 c1 c2 c3
/-- points as a body is told by them -/
def okP (l : List pt4) (D : Nat) : Prop := smP l ∧ l.Nodup ∧ l.length ≤ 16 ∧ (∀ q, q ∈ l → prj D q = q) ∧ (2 ≤ D ∧ D ≤ 4)
/-- what the geometry owes -/
def geo : Prop := ∀ l D, okP l D → FLb (lP l) l.length D ∧ ∀ f S Q, facL l D f S Q → 0 < f → mkG S l.length f D
/-- body i of the reference is that of the points l -/
def BodyM (h : qH) (i : Nat) (l : List pt4) (D : Nat) (sc : Int32) : Prop := ∃ (f : Nat) (S : Nat → Nat) (Q : Nat → Nat → Int) (M : Nat → Nat) (T : Nat → Nat → Nat) (O : Nat → Nat), 0 < f ∧ facL l D f S Q ∧ mkG S l.length f D ∧ (hi h 56 i = iN D ∧ hi h 57 i = iN (rk S l.length f l.length) ∧ hi h 58 i = sc) ∧
  (∀ p, p < l.length → cor S l.length f p = true → ∀ t, t < 4 → hi h 59 (64 * i + 4 * rk S l.length f p + t) = iZ (lP l p t)) ∧
  FaceV h i M T ∧ (M (D - 1) = f ∧ srt (T (D - 1)) f) ∧ (∀ K, D ≤ K → K < 4 → M K = 0) ∧
  (∀ j, j < f → T (D - 1) j = sqz S l.length f (O j) l.length ∧ O j < f ∧ ∀ t, t < 5 → hl h 62 (520 * i + 5 * j + t) = lZ (Q (O j) t)) ∧ (∀ a, a < f → ∃ j, j < f ∧ O j = a) ∧
  ∀ K, K < D - 1 → srt (T K) (M K) ∧ ∀ y, (∃ k, k < M K ∧ T K k = y) ↔ Meet (T (D - 1)) f y ∧ (∀ j, j < f → y ≠ T (D - 1) j) ∧ kindOf y = K
/-- what concerns body j is the same -/
def sameB (h h' : qH) (j : Nat) : Prop := (hi h' 56 j = hi h 56 j ∧ hi h' 57 j = hi h 57 j ∧ hi h' 58 j = hi h 58 j) ∧ (∀ x, 64 * j ≤ x → x < 64 * j + 64 → hi h' 59 x = hi h 59 x) ∧ (∀ x, 4 * j ≤ x → x < 4 * j + 4 → hi h' 60 x = hi h 60 x) ∧ (∀ x, 832 * j ≤ x → x < 832 * j + 832 → hi h' 61 x = hi h 61 x) ∧ ∀ x, 520 * j ≤ x → x < 520 * j + 520 → hl h' 62 x = hl h 62 x
theorem sameB.of {A J : List Nat} {h h' : qH} {j : Nat} (c : Ch A J h h') (hA : ∀ x, x ∈ [56, 57, 58, 59, 60, 61, 62] → x ∉ A) : sameB h h' j := by
  have q : ∀ x, x ∈ [56, 57, 58, 59, 60, 61, 62] → hi h' x = hi h x ∧ hl h' x = hl h x := fun x hx => ⟨c.hi (hA x hx) (by rintro rfl; exact absurd hx (by decide)), c.hl (hA x hx) (by rintro rfl; exact absurd hx (by decide))⟩
  refine ⟨⟨?_, ?_, ?_⟩, fun x _ _ => ?_, fun x _ _ => ?_, fun x _ _ => ?_, fun x _ _ => ?_⟩
  · rw [(q 56 (by decide)).1]
  · rw [(q 57 (by decide)).1]
  · rw [(q 58 (by decide)).1]
  · rw [(q 59 (by decide)).1]
  · rw [(q 60 (by decide)).1]
  · rw [(q 61 (by decide)).1]
  · rw [(q 62 (by decide)).2]
theorem BodyM.same {h h' : qH} {j D : Nat} {l : List pt4} {sc : Int32} (hl16 : l.length ≤ 16) (hD : 2 ≤ D ∧ D ≤ 4) (b : BodyM h j l D sc) (e : sameB h h' j) : BodyM h' j l D sc := by
  obtain ⟨f, S, Q, M, T, O, h0, h1, h2, ⟨a1, a2, a3⟩, h4, h5, h6, h7, h8, h9, h10⟩ := b
  obtain ⟨⟨e1, e2, e3⟩, e4, e5, e6, e7⟩ := e
  have hf := h2.1
  refine ⟨f, S, Q, M, T, O, h0, h1, h2, ⟨by rw [e1]; exact a1, by rw [e2]; exact a2, by rw [e3]; exact a3⟩, fun p hp hc t ht => ?_, fun K hK => ?_, h6, h7, fun k hk => ?_, h9, h10⟩
  · have : rk S l.length f p ≤ p := cntN_le
    rw [e4 _ (by omega) (by omega)]; exact h4 p hp hc t ht
  · obtain ⟨v1, v2, v3⟩ := h5 K hK
    refine ⟨by rw [e5 _ (by omega) (by omega)]; exact v1, v2, fun k hk => ?_⟩
    rw [e6 _ (by omega) (by omega)]; exact v3 k hk
  · obtain ⟨w1, w2, w3⟩ := h8 k hk
    refine ⟨w1, w2, fun t ht => ?_⟩
    rw [e7 _ (by omega) (by omega)]; exact w3 t ht
section FINISH
variable {d D nb : Nat} {h : qH} {l : List pt4}
theorem s_finish (gg : geo) (s : ShM h) (v : PtV h l) (ok : okP l D) (hd : mi h 8 = iN D) :
    ∃ h1, (∀ R, qMC (d + 5) 208 [.ref 55] h R ↔ R = (some (.int (bB (tB (solid l D)))), h1)) ∧ Ch [64, 65, 66, 67] [11] h h1 ∧
      (solid l D → ∀ nb x1, mi h 0 = iN nb → nb < 24 → ∀ h1', Ch [70] [18] h1 h1' → ∃ h2, (∀ R, qMC (d + 5) 210 [.ref 55, .int x1] h1' R ↔ R = (some (.int (iN nb)), h2)) ∧ Ch [56, 57, 58, 59, 60, 61, 62, 68, 69] [0] h1' h2 ∧ mi h2 0 = iN (nb + 1) ∧ BodyM h2 nb l D x1 ∧ ∀ j, j ≠ nb → sameB h1' h2 j) := by
  obtain ⟨sm, nd, l16, pj, hD⟩ := id ok
  obtain ⟨g1, g2⟩ := gg l D ok
  have az := v.atz sm (by omega)
  obtain ⟨h1, f, S, Q, r1, c1, fd, fl, cov, nf⟩ := s_findPlanes (d := d) s az hd v.1 l16 hD g1
  have hsol : solid l D ↔ 0 < f := by
    constructor
    · rintro ⟨hlt, c0, c1, c2, c3, i, g⟩
      obtain ⟨j, hj, -⟩ := cov hlt c0 c1 c2 c3 i g
      omega
    · intro hf
      have hlt : D < l.length := by
        rcases Nat.lt_or_ge D l.length with z | z
        · exact z
        · have := nf z; omega
      obtain ⟨c0, c1, c2, c3, i, g, -⟩ := fl.1 0 hf
      exact ⟨hlt, c0, c1, c2, c3, i, g⟩
  refine ⟨h1, fun R => ?_, c1, fun hs nb x1 hb hnb h1' c2' => ?_⟩
  · rw [r1 R]
    by_cases hz : 0 < f
    · rw [tB_t (hsol.mpr hz), decide_eq_true hz]
    · rw [tB_f (fun z => hz (hsol.mp z)), decide_eq_false hz]
  · have hf := hsol.mp hs
    have fL : facL l D f S Q := ⟨fl, cov hs.1⟩
    have mg := g2 f S Q fL hf
    have s1 := c2'.sh
    have hd1 : mi h1' 8 = iN D := (c2'.mi (by decide)).trans ((c1.mi (by decide)).trans hd)
    have hn1 : mi h1' 9 = iN l.length := (c2'.mi (by decide)).trans ((c1.mi (by decide)).trans v.1)
    have hb1 : mi h1' 0 = iN nb := (c2'.mi (by decide)).trans ((c1.mi (by decide)).trans hb)
    have fd1 : FdP h1' f S Q := fd.ch c2' (by decide) (by decide) (by decide)
    obtain ⟨h2, M, T, O, r2, c3', m2, ⟨⟨b1, b2, b3⟩, b4, b5, b6, b7, b8, b9, b10, b11, b12, b13, b14⟩⟩ := s_make (d := d) (x1 := x1) s1 hb1 hnb hn1 l16 hd1 hD fd1 mg
    have e63 : hi h1' 63 = hi h 63 := by rw [c2'.hi (by decide) (by decide), c1.hi (by decide) (by decide)]
    refine ⟨h2, r2, c3', m2, ⟨f, S, Q, M, T, O, hf, fL, mg, ⟨?_, ?_, ?_⟩, ?_, b6, b7, b8, b9, b10, b11⟩, fun j hj => ⟨⟨?_, ?_, ?_⟩, ?_, ?_, ?_, ?_⟩⟩
    · rw [b1, upd_at, if_pos rfl]
    · rw [b2, upd_at, if_pos rfl]
    · rw [b3, upd_at, if_pos rfl]
    · intro p hp hc t ht
      rw [b4 p hp hc t ht, e63]; exact (v.2 p hp t ht).1
    · rw [b1, upd_at, if_neg hj]
    · rw [b2, upd_at, if_neg hj]
    · rw [b3, upd_at, if_neg hj]
    · intro x hx1 hx2; exact b5 x (by omega)
    · intro x hx1 hx2; exact b12 x (by omega)
    · intro x hx1 hx2; exact b13 x (by omega)
    · intro x hx1 hx2; exact b14 x (by omega)
end FINISH

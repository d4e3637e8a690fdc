/-! ===== THE REFERENCE: parts of a cut ===== -/
section PARTS
variable {d : Nat} {h : qH} {bs : List bdy} {R : qRes}
/-- a place as four numbers over one -/
abbrev frac : Type := pt4 × Int
def f0 : frac := (z4, 1)
def fU (ps : List frac) (p k : Nat) : Int := co (ps.getD p f0).1 k
def fL (ps : List frac) (p : Nat) : Int := (ps.getD p f0).2
def FrV (h : qH) (ps : List frac) : Prop := ps.length ≤ 255 ∧ mi h 22 = iN ps.length ∧ ∀ p, p < ps.length → (∀ k, k < 4 → hl h 71 (4 * p + k) = lZ (fU ps p k) ∧ -1000000000 ≤ fU ps p k ∧ fU ps p k ≤ 1000000000) ∧ hl h 72 p = lZ (fL ps p) ∧ 1 ≤ fL ps p ∧ fL ps p ≤ 100000
theorem frac_last {ps : List frac} {q : frac} {p : Nat} (hp : p < ps.length + 1) : (ps ++ [q]).getD p f0 = if p = ps.length then q else ps.getD p f0 := by
  rw [List.getD_eq_getElem?_getD, List.getD_eq_getElem?_getD]
  by_cases e : p = ps.length
  · rw [if_pos e, e, List.getElem?_append_right (Nat.le_refl _), Nat.sub_self]; rfl
  · rw [if_neg e, List.getElem?_append_left (by omega)]
/-- a part more stands behind the others -/
theorem FrV.push {h' : qH} {ps : List frac} {q : frac} (v : FrV h ps) (hl' : ps.length < 255) (e22 : mi h' 22 = iN (ps.length + 1)) (e71 : ∀ x, hl h' 71 x = if 4 * ps.length ≤ x ∧ x < 4 * ps.length + 4 then lZ (co q.1 (x - 4 * ps.length)) else hl h 71 x) (e72 : ∀ x, hl h' 72 x = if x = ps.length then lZ q.2 else hl h 72 x) (hq : ∀ k, k < 4 → -1000000000 ≤ co q.1 k ∧ co q.1 k ≤ 1000000000) (hq2 : 1 ≤ q.2 ∧ q.2 ≤ 100000) : FrV h' (ps ++ [q]) := by
  refine ⟨by rw [List.length_append]; show ps.length + 1 ≤ 255; omega, by rw [e22, List.length_append]; rfl, fun p hp => ?_⟩
  rw [List.length_append] at hp
  have hp' : p < ps.length + 1 := hp
  unfold fU fL
  rw [frac_last hp']
  by_cases e : p = ps.length
  · rw [if_pos e]
    refine ⟨fun k hk => ⟨?_, hq k hk⟩, ?_, hq2⟩
    · rw [e71, if_pos (by omega), show 4 * p + k - 4 * ps.length = k by omega]
    · rw [e72, if_pos e]
  · rw [if_neg e]
    obtain ⟨v1, v2, v3⟩ := v.2.2 p (by omega)
    refine ⟨fun k hk => ?_, ?_, v3⟩
    · rw [e71, if_neg (by omega)]; exact v1 k hk
    · rw [e72, if_neg e]; exact v2
/-- rows of the parts with one more -/
def prtH (h : qH) (n : Nat) (u : Nat → Int) (w : Int) : qH := mI (sL (sL h 71 (fun x => if 4 * n ≤ x ∧ x < 4 * n + 4 then lZ (u (x - 4 * n)) else hl h 71 x)) 72 (vp_updL (hl h 72) n (lZ w))) 22 (iN (n + 1))
theorem prtH_ch {n : Nat} {u : Nat → Int} {w : Int} (s : ShM h) : Ch [71, 72] [22] h (prtH h n u w) := by
  have s1 : ShM (sL h 71 (fun x => if 4 * n ≤ x ∧ x < 4 * n + 4 then lZ (u (x - 4 * n)) else hl h 71 x)) := s.rowL (kM_71 s)
  exact ((Ch.rowL s (kM_71 s) (by decide)).trans (Ch.rowL s1 (kM_72 s1) (by decide))).trans (Ch.setI (s1.rowL (kM_72 s1)) (by decide) (by decide))
theorem prtH_v {ps : List frac} {q : frac} (s : ShM h) (v : FrV h ps) (hl' : ps.length < 255) (hq : ∀ k, k < 4 → -1000000000 ≤ co q.1 k ∧ co q.1 k ≤ 1000000000) (hq2 : 1 ≤ q.2 ∧ q.2 ≤ 100000) : FrV (prtH h ps.length (co q.1) q.2) (ps ++ [q]) := by
  have s1 : ShM (sL h 71 (fun x => if 4 * ps.length ≤ x ∧ x < 4 * ps.length + 4 then lZ (co q.1 (x - 4 * ps.length)) else hl h 71 x)) := s.rowL (kM_71 s)
  have s2 := s1.rowL (g := vp_updL (hl h 72) ps.length (lZ q.2)) (kM_72 s1)
  refine FrV.push v hl' (by unfold prtH; rw [mi_mI, if_pos rfl]) (fun x => ?_) (fun x => ?_) hq hq2
  · unfold prtH
    rw [hl_mI s2, hl_sL, if_neg (by decide), hl_sL, if_pos rfl]
  · unfold prtH
    rw [hl_mI s2, hl_sL, if_pos rfl, updL_at]
end PARTS

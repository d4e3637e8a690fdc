/-! ===== POINTS TOLD, AS A LIST ===== -/
abbrev pt4 : Type := Int × Int × Int × Int
def co (q : pt4) : Nat → Int
  | 0 => q.1
  | 1 => q.2.1
  | 2 => q.2.2.1
  | _ => q.2.2.2
def z4 : pt4 := (0, 0, 0, 0)
def lP (l : List pt4) (p k : Nat) : Int := co (l.getD p z4) k
/-- a point more, unless there is one alike -/
def addP (l : List pt4) (q : pt4) : List pt4 := if q ∈ l then l else l ++ [q]
/-- the first D numbers -/
def prj (D : Nat) (q : pt4) : pt4 := (q.1, q.2.1, if 2 < D then q.2.2.1 else 0, if 3 < D then q.2.2.2 else 0)
def ptB (q : pt4) : Prop := ∀ k, k < 4 → iB (co q k)
theorem ptB_prj {D : Nat} {q : pt4} (h : ptB q) : ptB (prj D q) := by
  intro k hk
  have h0 := h 0 (by decide)
  have h1 := h 1 (by decide)
  have h2 := h 2 (by decide)
  have h3 := h 3 (by decide)
  match k, hk with
  | 0, _ => exact h0
  | 1, _ => exact h1
  | 2, _ =>
    show iB (if 2 < D then q.2.2.1 else 0)
    split
    · exact h2
    · unfold iB; omega
  | 3, _ =>
    show iB (if 3 < D then q.2.2.2 else 0)
    split
    · exact h3
    · unfold iB; omega
theorem lP_at {l : List pt4} {p : Nat} (hp : p < l.length) : l.getD p z4 = l[p] := by
  rw [List.getD_eq_getElem?_getD, List.getElem?_eq_getElem hp]; rfl
theorem lP_last {l : List pt4} {q : pt4} {p : Nat} (hp : p < l.length + 1) (k : Nat) : lP (l ++ [q]) p k = if p = l.length then co q k else lP l p k := by
  unfold lP
  rw [List.getD_eq_getElem?_getD, List.getD_eq_getElem?_getD]
  by_cases e : p = l.length
  · rw [if_pos e, e, List.getElem?_append_right (Nat.le_refl _), Nat.sub_self]; rfl
  · rw [if_neg e, List.getElem?_append_left (by omega)]
/-- the reference's points are those of the list -/
def PtV (h : qH) (l : List pt4) : Prop := mi h 9 = iN l.length ∧ ∀ p, p < l.length → ∀ k, k < 4 → hi h 63 (4 * p + k) = iZ (lP l p k) ∧ iB (lP l p k)
theorem PtV.ch {A J : List Nat} {h h' : qH} {l : List pt4} (c : Ch A J h h') (h1 : 63 ∉ A) (h2 : 9 ∉ J) (v : PtV h l) : PtV h' l := by
  refine ⟨(c.mi h2).trans v.1, fun p hp k hk => ?_⟩
  rw [c.hi h1 (by decide)]; exact v.2 p hp k hk
theorem pt_eq {l : List pt4} {q : pt4} {h : qH} (v : PtV h l) (hq : ptB q) {p : Nat} (hp : p < l.length) : isPt h (iZ q.1) (iZ q.2.1) (iZ q.2.2.1) (iZ q.2.2.2) p = decide (l[p] = q) := by
  have e : ∀ k, k < 4 → (hi h 63 (4 * p + k) = iZ (co q k) ↔ lP l p k = co q k) := fun k hk => by
    obtain ⟨h1, h2⟩ := v.2 p hp k hk
    rw [h1]; exact iZ_eq h2 (hq k hk)
  have e0 := e 0 (by decide)
  have e1 := e 1 (by decide)
  have e2 := e 2 (by decide)
  have e3 := e 3 (by decide)
  unfold isPt
  rw [Bool.eq_iff_iff]
  simp only [Bool.and_eq_true, decide_eq_true_eq]
  have hl : l.getD p z4 = l[p] := lP_at hp
  unfold lP at e0 e1 e2 e3
  rw [hl] at e0 e1 e2 e3
  constructor
  · rintro ⟨a0, a1, a2, a3⟩
    exact Prod.ext (e0.mp a0) (Prod.ext (e1.mp a1) (Prod.ext (e2.mp a2) (e3.mp a3)))
  · intro a
    exact ⟨e0.mpr (by rw [a]), e1.mpr (by rw [a]), e2.mpr (by rw [a]), e3.mpr (by rw [a])⟩
theorem pt_mem {l : List pt4} {q : pt4} {h : qH} (v : PtV h l) (hq : ptB q) : anyN (isPt h (iZ q.1) (iZ q.2.1) (iZ q.2.2.1) (iZ q.2.2.2)) l.length = true ↔ q ∈ l := by
  rw [anyN_iff]
  constructor
  · rintro ⟨p, hp, e⟩
    rw [pt_eq v hq hp, decide_eq_true_eq] at e
    rw [← e]; exact List.getElem_mem hp
  · intro hm
    obtain ⟨p, hp, e⟩ := List.getElem_of_mem hm
    exact ⟨p, hp, by rw [pt_eq v hq hp, decide_eq_true_eq]; exact e⟩
theorem iZ_if {c : Prop} [Decidable c] {a : Int} : (if c then iZ a else 0) = iZ (if c then a else 0) := by
  by_cases h : c
  · rw [if_pos h, if_pos h]
  · rw [if_neg h, if_neg h]; rfl
section PTS
variable {d D : Nat} {h : qH} {l : List pt4} {q : pt4}
theorem s_tell (s : ShM h) (hd : mi h 8 = iN D) (hD : D < 2147483648) (v : PtV h l) (hl : l.length < 256) (hq : ptB q) : ∃ h', (∀ R, qMC (d + 2) 201 [.ref 55, .int (iZ q.1), .int (iZ q.2.1), .int (iZ q.2.2.1), .int (iZ q.2.2.2)] h R ↔ R = (none, h')) ∧ Ch [63] [9] h h' ∧ PtV h' (addP l (prj D q)) := by
  have hb := ptB_prj (D := D) hq
  have hm := pt_mem v hb
  have r := fun R => s_putP (d := d) (x := iZ q.1) (y := iZ q.2.1) (z0 := iZ q.2.2.1) (w0 := iZ q.2.2.2) (R := R) s hd hD v.1 hl
  rw [iZ_if, iZ_if] at r
  refine ⟨_, r, ?_, ?_⟩
  · by_cases hc : anyN (isPt h (iZ q.1) (iZ q.2.1) (iZ (if 2 < D then q.2.2.1 else 0)) (iZ (if 3 < D then q.2.2.2 else 0))) l.length = true
    · rw [if_pos hc]; exact Ch.refl s
    · rw [if_neg hc]; exact putR_ch s (by decide) (by decide)
  · by_cases hc : anyN (isPt h (iZ q.1) (iZ q.2.1) (iZ (if 2 < D then q.2.2.1 else 0)) (iZ (if 3 < D then q.2.2.2 else 0))) l.length = true
    · rw [if_pos hc]
      unfold addP
      rw [if_pos (hm.mp hc)]; exact v
    · rw [if_neg hc]
      unfold addP
      rw [if_neg (fun z => hc (hm.mpr z))]
      refine ⟨by rw [putR_n, List.length_append]; rfl, fun p hp k hk => ?_⟩
      rw [List.length_append] at hp
      have hp' : p < l.length + 1 := hp
      rw [lP_last hp' k, putR_at s]
      by_cases e : p = l.length
      · rw [if_pos e, e]
        refine ⟨?_, hb k hk⟩
        match k, hk with
        | 0, _ => rw [if_neg (by omega), if_neg (by omega), if_neg (by omega), if_pos (by omega)]; rfl
        | 1, _ => rw [if_neg (by omega), if_neg (by omega), if_pos rfl]; rfl
        | 2, _ => rw [if_neg (by omega), if_pos rfl]; rfl
        | 3, _ => rw [if_pos rfl]; rfl
      · rw [if_neg e, if_neg (by omega), if_neg (by omega), if_neg (by omega), if_neg (by omega)]
        exact v.2 p (by omega) k hk
theorem addP_len (l : List pt4) (q : pt4) : (addP l q).length ≤ l.length + 1 := by
  unfold addP
  split
  · omega
  · rw [List.length_append]; exact Nat.le_refl _
/-- points of a list told one by one -/
def tellAll (D : Nat) (l : List pt4) (qs : List pt4) : List pt4 := qs.foldl (fun l q => addP l (prj D q)) l
theorem tellAll_len (D : Nat) : ∀ (qs l : List pt4), (tellAll D l qs).length ≤ l.length + qs.length
  | [], l => Nat.le_refl _
  | q :: qs, l => by
    have h1 := tellAll_len D qs (addP l (prj D q))
    have h2 := addP_len l (prj D q)
    show (tellAll D (addP l (prj D q)) qs).length ≤ l.length + (qs.length + 1)
    omega
theorem tellAll_snoc (D : Nat) (l qs : List pt4) (q : pt4) : tellAll D l (qs ++ [q]) = addP (tellAll D l qs) (prj D q) := by
  unfold tellAll; rw [List.foldl_append]; rfl
theorem tellAll_take {D : Nat} {l qs : List pt4} {k : Nat} (hk : k < qs.length) : tellAll D l (qs.take (k + 1)) = addP (tellAll D l (qs.take k)) (prj D (qs.getD k z4)) := by
  rw [← tellAll_snoc, List.take_succ, List.getD_eq_getElem?_getD, List.getElem?_eq_getElem hk]; rfl
/-- THE DRAFT as a list -/
def DrV (h : qH) (l : List pt4) : Prop := l.length ≤ 16 ∧ mi h 18 = iN l.length ∧ ∀ p, p < l.length → ∀ k, k < 4 → hi h 70 (4 * p + k) = iZ (lP l p k) ∧ -999 ≤ lP l p k ∧ lP l p k ≤ 999
theorem DrV.ch {A J : List Nat} {h h' : qH} {l : List pt4} (c : Ch A J h h') (h1 : 70 ∉ A) (h2 : 18 ∉ J) (v : DrV h l) : DrV h' l := by
  refine ⟨v.1, (c.mi h2).trans v.2.1, fun p hp k hk => ?_⟩
  rw [c.hi h1 (by decide)]; exact v.2.2 p hp k hk
theorem DrV.ptB {h : qH} {l : List pt4} (v : DrV h l) {p : Nat} (hp : p < l.length) : ptB (l.getD p z4) := by
  intro k hk
  have := (v.2.2 p hp k hk).2
  unfold lP at this
  unfold iB; omega
/-- small numbers stay small -/
def smP (l : List pt4) : Prop := ∀ q, q ∈ l → ∀ k, k < 4 → -999 ≤ co q k ∧ co q k ≤ 999
theorem addP_sm {l : List pt4} {q : pt4} (h1 : smP l) (h2 : ∀ k, k < 4 → -999 ≤ co q k ∧ co q k ≤ 999) : smP (addP l q) := by
  unfold addP
  split
  · exact h1
  · intro r hr
    rcases List.mem_append.mp hr with hr | hr
    · exact h1 r hr
    · rw [List.mem_singleton.mp hr]; exact h2
theorem prj_sm {D : Nat} {q : pt4} (h : ∀ k, k < 4 → -999 ≤ co q k ∧ co q k ≤ 999) : ∀ k, k < 4 → -999 ≤ co (prj D q) k ∧ co (prj D q) k ≤ 999 := by
  intro k hk
  have h2 := h 2 (by decide)
  have h3 := h 3 (by decide)
  match k, hk with
  | 0, _ => exact h 0 (by decide)
  | 1, _ => exact h 1 (by decide)
  | 2, _ =>
    show -999 ≤ (if 2 < D then q.2.2.1 else 0) ∧ (if 2 < D then q.2.2.1 else 0) ≤ 999
    split
    · exact h2
    · omega
  | 3, _ =>
    show -999 ≤ (if 3 < D then q.2.2.2 else 0) ∧ (if 3 < D then q.2.2.2 else 0) ≤ 999
    split
    · exact h3
    · omega
theorem PtV.atz {h : qH} {l : List pt4} (v : PtV h l) (hs : smP l) (hl : l.length ≤ 256) : AtZ h l.length (lP l) := by
  refine ⟨hl, fun p k hp hk => ⟨(v.2 p hp k hk).1, ?_⟩⟩
  unfold lP
  rw [lP_at hp]
  exact hs _ (List.getElem_mem hp) k hk
end PTS

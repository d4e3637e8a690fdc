/-! ===== PURE: renamings turn around; corners as sets of facets; at most 104 facets ===== -/
section XTURN
variable {n : Nat} {A B : List Nat}
theorem rn_sym (hA : ∀ x, x ∈ A → ∀ c, x.testBit c = true → c < n) (nd : A.Nodup) (hl : B.length = A.length) (h : 0 < rnT n A B) : 0 < rnT n B A := by
  obtain ⟨f, f1, -, f3⟩ := cF_pos.mp h
  have rp := rnB_iff.mp f3
  have inj := rp.1
  have ex : ∀ y, ∃ a, (y < n → a < n ∧ f a = y) ∧ (n ≤ y → a = 0) := fun y => by
    by_cases hy : y < n
    · obtain ⟨a, h1, h2⟩ := ord_all f1 inj hy
      exact ⟨a, fun _ => ⟨h1, h2⟩, fun z => by omega⟩
    · exact ⟨0, fun z => absurd z hy, fun _ => rfl⟩
  obtain ⟨g, hg⟩ := Classical.axiomOfChoice ex
  have gf : ∀ b, b < n → g (f b) = b := fun b hb => by
    obtain ⟨h1, h2⟩ := (hg (f b)).1 (f1 b hb)
    rcases Nat.lt_trichotomy (g (f b)) b with z | z | z
    · exact absurd h2 (inj _ _ z hb)
    · exact z
    · exact absurd h2.symm (inj _ _ z h1)
  refine cF_pos.mpr ⟨g, fun j hj => ((hg j).1 hj).1, fun j hj => (hg j).2 hj, rnB_iff.mpr ⟨fun i j hij hj e => ?_, fun y hy => ?_⟩⟩
  · have h1 := ((hg i).1 (by omega)).2
    have h2 := ((hg j).1 hj).2
    rw [e, h2] at h1
    omega
  · obtain ⟨φ, p1, p2⟩ := ren_map hA nd rp
    obtain ⟨t, ht, et⟩ := mem_getD0 hy
    obtain ⟨k, hk, ek⟩ := ord_all (n := A.length) (o := φ) (fun a ha => by have := (p1 a ha).1; omega) p2 (show t < A.length by omega)
    have e := (p1 k hk).2
    have mx := getD_mem0 hk
    have hx := hA _ mx
    have : imS g y n = A.getD k 0 := by
      rw [← et, ← ek, e]
      refine Nat.eq_of_testBit_eq fun b => ?_
      rw [Bool.eq_iff_iff, imS_bit]
      constructor
      · rintro ⟨c, hc, h1, h2⟩
        obtain ⟨a, ha, h3, h4⟩ := imS_bit.mp h1
        rw [← h4, gf a ha] at h2
        rw [← h2]; exact h3
      · intro hb
        have := hx b hb
        exact ⟨f b, f1 b this, imS_bit.mpr ⟨b, this, hb, rfl⟩, gf b this⟩
    rw [this]; exact mx
theorem rn_sym2 (hA : ∀ x, x ∈ A → ∀ c, x.testBit c = true → c < n) (hB : ∀ x, x ∈ B → ∀ c, x.testBit c = true → c < n) (ndA : A.Nodup) (ndB : B.Nodup) (hl : B.length = A.length) : fitI n A B = fitI n B A := by
  unfold fitI
  by_cases e : 0 < rnT n A B
  · rw [if_pos e, if_pos (rn_sym hA ndA hl e)]
  · rw [if_neg e, if_neg fun z => e (rn_sym hB ndB hl.symm z)]
variable {l : List pt4} {D : Nat}
theorem cls_104 (ok : okP l D) (so : solid l D) : (cls l D (D - 1)).length ≤ 104 := by
  obtain ⟨f, S, Q, h0, fl⟩ := facL_ex ok so
  have f104 := geo_104 ok fl.1
  have st := srt_list (cls_srt (l := l) (D := D) (D - 1))
  have h1 : ∀ k, ∃ j, k < (cls l D (D - 1)).length → j < f ∧ (cls l D (D - 1)).getD k 0 = fcs l D S j := fun k => by
    by_cases hk : k < (cls l D (D - 1)).length
    · rcases (cls_mem.mp (getD_mem0 hk)).2 with ⟨-, y, hy, e⟩ | ⟨h, -⟩
      · obtain ⟨j, hj, e2⟩ := (facL_iff fl).mp hy
        exact ⟨j, fun _ => ⟨hj, by rw [e]; unfold fcs; rw [e2]⟩⟩
      · omega
    · exact ⟨0, fun z => absurd z hk⟩
  obtain ⟨J, hJ⟩ := Classical.axiomOfChoice h1
  have := inj_le (n := (cls l D (D - 1)).length) (m := f) (f := J) (fun a ha => (hJ a ha).1) (fun a b hab hb e => by
    have e1 := (hJ a (by omega)).2
    have e2 := (hJ b hb).2
    rw [e, ← e2] at e1
    have := st a b hab hb
    have e1' : (fun k => (cls l D (D - 1)).getD k 0) a = (fun k => (cls l D (D - 1)).getD k 0) b := e1
    omega)
  omega
theorem cor_sep (ok : okP l D) (so : solid l D) {c b : Nat} (hc : c < ncr l D) (hb : b < 16) (ne : c ≠ b) : ∃ e, e < (cls l D (D - 1)).length ∧ ((cls l D (D - 1)).getD e 0).testBit c = true ∧ ((cls l D (D - 1)).getD e 0).testBit b = false := by
  obtain ⟨m, S, G, b0⟩ := bdG_ex ok so
  have hD := ok.2.2.2.2
  rcases (b0.cl0 ok).mpr ⟨c, hc, rfl⟩ with ⟨h, -⟩ | ⟨-, ⟨-, -, M⟩, -⟩
  · omega
  · refine Classical.byContradiction fun z => ?_
    have := M b hb fun x hx hs => by
      cases q : x.testBit b with
      | true => rfl
      | false =>
        refine absurd ?_ z
        obtain ⟨e, he, e2⟩ := mem_getD0 (b0.cls_mem.mpr (Or.inl ⟨rfl, hx⟩))
        refine ⟨e, he, ?_, by rw [e2]; exact q⟩
        rw [e2]
        refine sub_iff.mp hs c ?_
        rw [Nat.testBit_two_pow]; exact decide_eq_true rfl
    rw [Nat.testBit_two_pow] at this
    exact ne (of_decide_eq_true this)
variable {bs : List bdy} {i : Nat}
theorem dul_ok (ok : okP (bs.getD i b0).1 (dmn bs i)) (so : solid (bs.getD i b0).1 (dmn bs i)) (n16 : (cnr bs i).length ≤ 16) : (dulL bs i).Nodup ∧ (∀ x, x ∈ dulL bs i → 0 < x ∧ x < 2 ^ (fct bs i).length) := by
  have ln : (cnr bs i).length = ncr (bs.getD i b0).1 (dmn bs i) := crn_len _ _
  have bit : ∀ c e, (mask (atC bs i c) (fct bs i).length).testBit e = (decide (e < (fct bs i).length) && ((fct bs i).getD e 0).testBit c) := fun c e => mask_bit _ _ _
  have nc : 2 ≤ ncr (bs.getD i b0).1 (dmn bs i) := by
    obtain ⟨m, S, G, b⟩ := bdG_ex ok so
    have := b.nc
    have := ok.2.2.2.2
    omega
  constructor
  · unfold dulL
    rw [List.Nodup, List.pairwise_map]
    refine List.Pairwise.imp_of_mem ?_ List.pairwise_lt_range
    intro a b ha hb hab e
    rw [List.mem_range] at ha hb
    obtain ⟨t, h1, h2, h3⟩ := cor_sep (b := b) ok so (show a < _ by omega) (by omega) (by omega)
    have := congrArg (fun x => Nat.testBit x t) e
    have e' : (mask (atC bs i a) (fct bs i).length).testBit t = (mask (atC bs i b) (fct bs i).length).testBit t := this
    rw [bit, bit, show ((fct bs i).getD t 0).testBit a = true from h2, show ((fct bs i).getD t 0).testBit b = false from h3, Bool.and_true, Bool.and_false] at e'
    exact absurd h1 (of_decide_eq_false e')
  · intro x hx
    unfold dulL at hx
    obtain ⟨c, hc, rfl⟩ := List.mem_map.mp hx
    rw [List.mem_range] at hc
    refine ⟨?_, mask_lt _ _⟩
    obtain ⟨t, h1, h2, -⟩ := cor_sep (c := c) (b := if c = 0 then 1 else 0) ok so (by omega) (by split <;> omega) (by split <;> omega)
    rcases Nat.eq_zero_or_pos (mask (atC bs i c) (fct bs i).length) with z | z
    · have := bit c t
      rw [z, Nat.zero_testBit, show ((fct bs i).getD t 0).testBit c = true from h2, Bool.and_true] at this
      exact absurd h1 (of_decide_eq_false this.symm)
    · exact z
end XTURN

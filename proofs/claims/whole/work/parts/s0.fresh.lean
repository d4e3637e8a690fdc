/-! ===== THE LAW: fresh ===== -/
section LAWFRESH
theorem cls_anti {l : List pt4} {D x y : Nat} (ok : okP l D) (so : solid l D) (hx : x ∈ cls l D (D - 1)) (hy : y ∈ cls l D (D - 1)) (h : x &&& y = x) : x = y := by
  obtain ⟨f, S, Q, h0, fl⟩ := facL_ex ok so
  obtain ⟨-, -, -, g4⟩ := geo_mk ok fl h0
  have ff := g4 (fun a => sqz S l.length f a l.length) (fun k hk => ⟨k, hk, rfl⟩) (fun a ha => ⟨a, ha, rfl⟩)
  have at' : ∀ z, z ∈ cls l D (D - 1) → ∃ j, j < f ∧ z = sqz S l.length f j l.length := fun z hz => by
    rcases (cls_mem.mp hz).2 with ⟨-, u, hu, e⟩ | ⟨h, -⟩
    · obtain ⟨j, hj, e2⟩ := (facL_iff fl).mp hu
      exact ⟨j, hj, by rw [sqz_sqP fl _ (Nat.le_refl _), e2]; exact e⟩
    · omega
  obtain ⟨a, ha, ea⟩ := at' x hx
  obtain ⟨b, hb, eb⟩ := at' y hy
  rw [ea, eb] at h ⊢
  exact ff.1 b a hb ha h
theorem fresh_anti {bs : List bdy} {i : Nat} {r : List Nat} (ok : okP (bs.getD i b0).1 (dmn bs i)) (so : solid (bs.getD i b0).1 (dmn bs i)) (nd : r.Nodup) (hr : rowOf bs i r = true) : ∀ j k, k < j → j < r.length → wo (rwF (fct bs i) r j) (rwF (fct bs i) r k) ≠ 0 := by
  intro j k hkj hj e
  have lt : ∀ t, t < r.length → r.getD t 0 < (fct bs i).length := fun t ht => of_decide_eq_true (allN_iff.mp hr t ht)
  have s1 := cls_anti ok so (getD_mem0 (lt j hj)) (getD_mem0 (lt k (by omega))) (sub_iff.mpr (wo_0i.mp e))
  have eq : r.getD j 0 = r.getD k 0 := by
    rcases Nat.lt_trichotomy (r.getD j 0) (r.getD k 0) with z | z | z
    · have := fct_srt (bs := bs) (j := i) _ _ z (lt k (by omega))
      have s1' : (fct bs i).getD (r.getD j 0) 0 = (fct bs i).getD (r.getD k 0) 0 := s1
      omega
    · exact z
    · have := fct_srt (bs := bs) (j := i) _ _ z (lt j hj)
      have s1' : (fct bs i).getD (r.getD j 0) 0 = (fct bs i).getD (r.getD k 0) 0 := s1
      omega
  rw [List.getD_eq_getElem?_getD, List.getD_eq_getElem?_getD, List.getElem?_eq_getElem hj, List.getElem?_eq_getElem (show k < r.length by omega)] at eq
  exact List.pairwise_iff_getElem.mp nd k j (by omega) hj hkj eq.symm
theorem call_fresh (x y : Int32) : callP 0 158 266 [.int x, .int y] := call_00 (fun s v => ∃ r, v = .int r ∧ frsR s.1 s.2.2.1.1 x y r) (fun h s v X p ⟨r, ev, pr⟩ R => by
    obtain ⟨sa, Xb⟩ := X.2.1
    rw [ev]; exact x_fresh (d := 996) X.1 Xb X.2.2.2.1.1 (fun i hi' hr => fresh_anti (Xb.2.2.2 i hi').1.1 (Xb.2.2.2 i hi').1.2 p.1 hr) pr) (fun h s M p => by
    obtain ⟨r, r2, pr⟩ := s_fresh (d := 995) M.1 M.2.1 M.2.2.2.1.1 x y
    exact ⟨_, r2, r, rfl, pr⟩)
end LAWFRESH

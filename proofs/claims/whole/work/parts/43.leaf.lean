/-! ===== LEAVES ===== -/
theorem qMC_det {d mi : Nat} {a : List Value} {h : qH} {R R' : qRes} (e : qMC d mi a h R) : qMC d mi a h R' ↔ R' = R := by
  constructor
  · rintro ⟨N', e'⟩
    obtain ⟨N, e⟩ := e
    have h1 := qrun_mono (Nat.le_add_right N N') d _ _ _ _ e
    have h2 := qrun_mono (Nat.le_add_left N' N) d _ _ _ _ e'
    exact Option.some.inj (h2.symm.trans h1)
  · rintro rfl; exact e
theorem qget_mk {f : Nat → qC} {n k a ci j : Nat} : qget (f, n, k) a ci j = if 16 ≤ a ∧ a < n ∧ j < qnF ci then
    match f a with
    | .inr (c, F) => if c = ci then some (F j) else none
    | .inl _ => none
  else none := rfl
theorem qiald_mk {f : Nat → qC} {n k a : Nat} {i : Int32} : qiald (f, n, k) a i = if a = 0 ∨ (16 ≤ a ∧ a < n) then
    match f a with
    | .inl (0, m, .inl g) => if i < 0 ∨ m ≤ i.toNatClampNeg then none else some (g i.toNatClampNeg)
    | _ => none
  else none := rfl
theorem qiast_mk {f : Nat → qC} {n k a : Nat} {i w : Int32} : qiast (f, n, k) a i w = if 16 ≤ a ∧ a < n then
    match f a with
    | .inl (0, m, .inl g) => if i < 0 ∨ m ≤ i.toNatClampNeg then none else some (qup f a (.inl (0, m, .inl (upd g i.toNatClampNeg w))), n, k)
    | _ => none
  else none := rfl
theorem qalen_mk {f : Nat → qC} {n k a : Nat} : qalen (f, n, k) a = if a = 0 ∨ (16 ≤ a ∧ a < n) then
    match f a with
    | .inl (t, m, _) => if t ≤ 3 then some (Int32.ofNat m) else none
    | .inr _ => none
  else none := rfl
theorem ite_R {c : Prop} [Decidable c] {R A B : qRes} : (if c then R = A else R = B) ↔ R = if c then A else B := by
  by_cases h : c
  · rw [if_pos h, if_pos h]
  · rw [if_neg h, if_neg h]
theorem ite_i {c : Prop} [Decidable c] {x y : Int32} {h : qH} : (if c then ((some (.int x), h) : qRes) else (some (.int y), h)) = (some (.int (if c then x else y)), h) := by
  by_cases hc : c
  · rw [if_pos hc, if_pos hc]
  · rw [if_neg hc, if_neg hc]
/-- a boolean as the machine has it -/
def bI (c : Prop) [Decidable c] : Int32 := if c then 1 else 0
set_option maxRecDepth 100000 in
set_option maxHeartbeats 8000000 in
/-- BodyCornersModel.in -/
theorem s_in {d : Nat} {v a b : Int64} {h : qH} {R : qRes} : qMC (d + 1) 189 [.long v, .long a, .long b] h R ↔ R = (some (.int (bI (a ≤ v ∧ v ≤ b))), h) := by
  simp only [e189_0, e189_1, e189_2, e189_3, e189_6, e189_7, e189_9, e189_10, e189_13, e189_14, e189_17, e189_18, m189, qg_0, qg_2, qg_4, ex1, qfit_l, qfit_b0, qfit_b1, true_and, bI]
  simp only [lg_cmp_lt, lg_cmp_gt, lg_cmp_ge, lg_cmp_le]
  by_cases h1 : v < a
  · simp only [h1, if_true]
    rw [if_neg (fun q => Int64.not_le.mpr h1 q.1)]
  · have h2 := Int64.not_lt.mp h1
    simp only [h1, h2, if_false, true_and]
    by_cases h3 : b < v
    · simp only [h3, if_true]
      rw [if_neg (Int64.not_le.mpr h3)]
    · have h4 := Int64.not_lt.mp h3
      simp only [h3, h4, if_false, if_true]
set_option maxRecDepth 100000 in
set_option maxHeartbeats 8000000 in
theorem s_bodyAt_fresh {d k : Nat} {i : Int32} {f : Nat → qC} {R : qRes} : qMC (d + 1) 179 [.ref 16, .int i] (hF f, 97, k) R ↔ R = (some .null, (hF f, 97, k)) := by
  simp only [e179_0, e179_1, e179_4, e179_5, e179_6, e179_9, e179_12, e179_13, e179_14, e179_17, e179_18, e179_21, e179_22, e179_25, e179_26, e179_27, e179_30, e179_31, e179_31N, m179, qg_0, qg_1, ex1, qfit_i, qfit_r, true_and, qget_mk, hF_16, F_16_1, Nat.reduceLT, Nat.reduceLeDiff, qnF10, and_self, if_true]
  by_cases h1 : i < 0
  · simp only [h1, if_true]
  · have h2 : 0 ≤ i := Int32.not_lt.mp h1
    simp only [h1, h2, if_true, if_false]

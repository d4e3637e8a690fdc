/-! ===== WHOLE NUMBERS AS INTS AND LONGS; LOOPS ===== -/
def lZ (z : Int) : Int64 := Int64.ofInt z
def iZ (z : Int) : Int32 := Int32.ofInt z
/-- in the bounds of a long, of an int -/
def lB (z : Int) : Prop := -4611686018427387904 ≤ z ∧ z ≤ 4611686018427387904
def iB (z : Int) : Prop := -1073741824 ≤ z ∧ z ≤ 1073741824
theorem lZ_add (a b : Int) : lZ a + lZ b = lZ (a + b) := (Int64.ofInt_add a b).symm
theorem lZ_sub (a b : Int) : lZ a - lZ b = lZ (a - b) := (Int64.ofInt_sub a b).symm
theorem lZ_mul (a b : Int) : lZ a * lZ b = lZ (a * b) := (Int64.ofInt_mul a b).symm
theorem lZ_neg (a : Int) : -lZ a = lZ (-a) := (Int64.ofInt_neg a).symm
theorem iZ_add (a b : Int) : iZ a + iZ b = iZ (a + b) := (Int32.ofInt_add a b).symm
theorem iZ_sub (a b : Int) : iZ a - iZ b = iZ (a - b) := (Int32.ofInt_sub a b).symm
theorem iZ_mul (a b : Int) : iZ a * iZ b = iZ (a * b) := (Int32.ofInt_mul a b).symm
theorem iZ_neg (a : Int) : -iZ a = iZ (-a) := (Int32.ofInt_neg a).symm
theorem lZ_int {z : Int} (h : lB z) : (lZ z).toInt = z := Int64.toInt_ofInt_of_le (by have := h.1; omega) (by have := h.2; omega)
theorem iZ_int {z : Int} (h : iB z) : (iZ z).toInt = z := Int32.toInt_ofInt_of_le (by have := h.1; omega) (by have := h.2; omega)
theorem iZ_of (x : Int32) : iZ x.toInt = x := Int32.ofInt_toInt x
theorem lZ_of (x : Int64) : lZ x.toInt = x := Int64.ofInt_toInt x
theorem iZ_long {z : Int} (h : iB z) : (iZ z).toInt64 = lZ z := by
  rw [← Int64.ofInt_int32ToInt, iZ_int h]; rfl
theorem iZ_nat (n : Nat) : iZ n = iN n := Int32.ofInt_eq_ofNat
theorem lZ_lt {a b : Int} (ha : lB a) (hb : lB b) : lZ a < lZ b ↔ a < b := by rw [Int64.lt_iff_toInt_lt, lZ_int ha, lZ_int hb]
theorem lZ_le {a b : Int} (ha : lB a) (hb : lB b) : lZ a ≤ lZ b ↔ a ≤ b := by rw [Int64.le_iff_toInt_le, lZ_int ha, lZ_int hb]
theorem lZ_eq {a b : Int} (ha : lB a) (hb : lB b) : lZ a = lZ b ↔ a = b := by rw [← Int64.toInt_inj, lZ_int ha, lZ_int hb]
theorem iZ_lt {a b : Int} (ha : iB a) (hb : iB b) : iZ a < iZ b ↔ a < b := by rw [Int32.lt_iff_toInt_lt, iZ_int ha, iZ_int hb]
theorem iZ_le {a b : Int} (ha : iB a) (hb : iB b) : iZ a ≤ iZ b ↔ a ≤ b := by rw [Int32.le_iff_toInt_le, iZ_int ha, iZ_int hb]
theorem iZ_eq {a b : Int} (ha : iB a) (hb : iB b) : iZ a = iZ b ↔ a = b := by rw [← Int32.toInt_inj, iZ_int ha, iZ_int hb]
theorem lB_0 : lB 0 := by unfold lB; omega
theorem lZ_div {a b : Int} (ha : lB a) (hb : lB b) : lZ a / lZ b = lZ (a.tdiv b) := by
  have hmin : lZ a ≠ Int64.minValue := fun e => by
    have := congrArg Int64.toInt e
    rw [lZ_int ha, show Int64.minValue.toInt = -9223372036854775808 from rfl] at this
    have := ha.1; omega
  rw [← Int64.toInt_inj, Int64.toInt_div_of_ne_left _ _ hmin, lZ_int ha, lZ_int hb, lZ_int]
  have h1 := Int.natAbs_tdiv_le_natAbs a b
  unfold lB at *
  omega
theorem lZ_rem {a b : Int} (ha : lB a) (hb : lB b) : lZ a - lZ a / lZ b * lZ b = lZ (a.tmod b) := by
  rw [lZ_div ha hb, lZ_mul, lZ_sub, Int.mul_comm, ← Int.tmod_def]
section LOOPS
variable {d : Nat} {rt : Int} {K : List (Nat × qI)} {pc : Nat}
/-- a loop with a state that runs of n steps -/
theorem loop_inv {P : Nat → qL → qH → Prop} {n : Nat} (step : ∀ k L h, k < n → P k L h → ∃ L' h', P (k + 1) L' h' ∧ ∀ R, qEv d rt K pc L [] h R ↔ qEv d rt K pc L' [] h' R) {L : qL} {h : qH} (h0 : P 0 L h) : ∃ L' h', P n L' h' ∧ ∀ R, qEv d rt K pc L [] h R ↔ qEv d rt K pc L' [] h' R := by
  induction n with
  | zero => exact ⟨L, h, h0, fun _ => Iff.rfl⟩
  | succ n ih =>
    obtain ⟨L1, h1, p1, e1⟩ := ih fun k L h hk => step k L h (Nat.lt_succ_of_lt hk)
    obtain ⟨L2, h2, p2, e2⟩ := step n L1 h1 (Nat.lt_succ_self n) p1
    exact ⟨L2, h2, p2, fun R => (e1 R).trans (e2 R)⟩
/-- a loop whose measure falls -/
theorem loop_wf {α : Type} (m : α → Nat) {P : α → qL → qH → Prop} {D : α → Prop} (step : ∀ x L h, P x L h → ¬ D x → ∃ x' L' h', P x' L' h' ∧ m x' < m x ∧ ∀ R, qEv d rt K pc L [] h R ↔ qEv d rt K pc L' [] h' R) : ∀ (n : Nat) (x : α) (L : qL) (h : qH), m x ≤ n → P x L h → ∃ x' L' h', P x' L' h' ∧ D x' ∧ ∀ R, qEv d rt K pc L [] h R ↔ qEv d rt K pc L' [] h' R := by
  intro n
  induction n with
  | zero =>
    intro x L h hm hP
    by_cases hD : D x
    · exact ⟨x, L, h, hP, hD, fun _ => Iff.rfl⟩
    · obtain ⟨x', -, -, -, hlt, -⟩ := step x L h hP hD
      omega
  | succ n ih =>
    intro x L h hm hP
    by_cases hD : D x
    · exact ⟨x, L, h, hP, hD, fun _ => Iff.rfl⟩
    · obtain ⟨x', L1, h1, p1, hlt, e1⟩ := step x L h hP hD
      obtain ⟨x2, L2, h2, p2, d2, e2⟩ := ih x' L1 h1 (by omega) p1
      exact ⟨x2, L2, h2, p2, d2, fun R => (e1 R).trans (e2 R)⟩
end LOOPS
/-- some, all, how many of the first n -/
def anyN (p : Nat → Bool) : Nat → Bool
  | 0 => false
  | n + 1 => anyN p n || p n
def allN (p : Nat → Bool) : Nat → Bool
  | 0 => true
  | n + 1 => allN p n && p n
def cntN (p : Nat → Bool) : Nat → Nat
  | 0 => 0
  | n + 1 => cntN p n + if p n then 1 else 0
def sumZ (f : Nat → Int) : Nat → Int
  | 0 => 0
  | n + 1 => sumZ f n + f n
theorem anyN_iff {p : Nat → Bool} {n : Nat} : anyN p n = true ↔ ∃ k, k < n ∧ p k = true := by
  induction n with
  | zero => simp [anyN]
  | succ n ih =>
    rw [anyN, Bool.or_eq_true, ih]
    constructor
    · rintro (⟨k, h1, h2⟩ | h)
      · exact ⟨k, by omega, h2⟩
      · exact ⟨n, by omega, h⟩
    · rintro ⟨k, h1, h2⟩
      by_cases e : k = n
      · subst e; exact Or.inr h2
      · exact Or.inl ⟨k, by omega, h2⟩
theorem allN_iff {p : Nat → Bool} {n : Nat} : allN p n = true ↔ ∀ k, k < n → p k = true := by
  induction n with
  | zero => simp [allN]
  | succ n ih =>
    rw [allN, Bool.and_eq_true, ih]
    constructor
    · rintro ⟨h1, h2⟩ k hk
      by_cases e : k = n
      · subst e; exact h2
      · exact h1 k (by omega)
    · intro h
      exact ⟨fun k hk => h k (by omega), h n (by omega)⟩
theorem cntN_le {p : Nat → Bool} {n : Nat} : cntN p n ≤ n := by
  induction n with
  | zero => exact Nat.le_refl _
  | succ n ih => rw [cntN]; split <;> omega
def bB (b : Bool) : Int32 := if b then 1 else 0
theorem bB_t : bB true = 1 := rfl
theorem bB_f : bB false = 0 := rfl
theorem bB_fit (b : Bool) : qfit 3 (.int (bB b)) = true := by cases b <;> rfl
theorem bI_bB (p : Prop) [Decidable p] : bI p = bB (decide p) := by
  unfold bI bB; by_cases h : p <;> simp [h]
theorem lgN_ge (x y : Int64) : (iN 0 ≤ lg_cmp x y) ↔ y ≤ x := lg_cmp_ge x y
theorem lgN_le (x y : Int64) : (lg_cmp x y ≤ iN 0) ↔ x ≤ y := lg_cmp_le x y
theorem lgN_gt (x y : Int64) : (iN 0 < lg_cmp x y) ↔ y < x := lg_cmp_gt x y
theorem lgN_lt (x y : Int64) : (lg_cmp x y < iN 0) ↔ x < y := lg_cmp_lt x y
theorem lgN_eq (x y : Int64) : (lg_cmp x y = iN 0) ↔ x = y := lg_cmp_eq x y
/-- sized, gcd -/
theorem lB_abs {a : Int} (ha : lB a) : lB a.natAbs := by unfold lB at *; omega
set_option maxRecDepth 100000 in
set_option maxHeartbeats 8000000 in
theorem s_sized {d : Nat} {a : Int} {h : qH} {R : qRes} (ha : lB a) : qMC (d + 1) 190 [.long (lZ a)] h R ↔ R = (some (.long (lZ a.natAbs)), h) := by
  simp only [e190_0, e190_1, e190_2, e190_3, e190_6, e190_7, e190_8, e190_11, e190_12, m190, ↓reduceIte, qg_0, qg_1, qg_2, qg_3, qg_4, qg_5, qg_6, qg_7, qg_8, qg_9, qg_10, qg_11, qg_12, qg_13, not_true_eq_false, not_false_eq_true, Nat.reduceBEq, Bool.false_eq_true, ex1, ex3, ex4, exF, qfit_i, qfit_l, qfit_r, qfit_n, qfit_b0, qfit_b1, qcat_i, qcat_r, qcat_n, qcat_l, qroom_0, qroom_c, List.map_cons, List.map_nil, List.sum_cons, List.sum_nil, Nat.reduceAdd, Nat.reduceMul, Nat.reduceLT, Nat.reduceLeDiff, Nat.reduceEqDiff, Nat.reduceSub, decide_true, true_and, and_true, and_self, if_true, if_false, Option.toList_some, Option.toList_none, List.cons_append, List.nil_append, qsL, qlong, List.length_cons, List.length_nil, lg_cmp_lt, lg_cmp_gt, lg_cmp_ge, lg_cmp_le, show (0 : Int64) = lZ 0 from rfl, lZ_le lB_0 ha, lZ_neg]
  by_cases h0 : 0 ≤ a
  · simp only [h0, if_true, show (a.natAbs : Int) = a by omega]
  · simp only [h0, if_false, show (a.natAbs : Int) = -a by omega]
set_option maxRecDepth 100000 in
set_option maxHeartbeats 8000000 in
theorem s_gcd {d : Nat} {a b : Int} {h : qH} {R : qRes} (ha : lB a) (hb : lB b) : qMC (d + 2) 191 [.long (lZ a), .long (lZ b)] h R ↔ R = (some (.long (lZ (Nat.gcd a.natAbs b.natAbs))), h) := by
  simp only [e191_0, e191_1, e191_4, e191_6, e191_7, e191_10, e191_14, e191_15, e191_16, e191_19, e191_21, e191_23, e191_24, e191_26, e191_28, e191_30, e191_32, e191_34, e191_37, e191_39, m191, ↓reduceIte, qg_0, qg_1, qg_2, qg_3, qg_4, qg_5, qg_6, qg_7, qg_8, qg_9, qg_10, qg_11, qg_12, qg_13, not_true_eq_false, not_false_eq_true, Nat.reduceBEq, Bool.false_eq_true, ex1, ex3, ex4, exF, qfit_i, qfit_l, qfit_r, qfit_n, qfit_b0, qfit_b1, qcat_i, qcat_r, qcat_n, qcat_l, qroom_0, qroom_c, List.map_cons, List.map_nil, List.sum_cons, List.sum_nil, Nat.reduceAdd, Nat.reduceMul, Nat.reduceLT, Nat.reduceLeDiff, Nat.reduceEqDiff, Nat.reduceSub, decide_true, true_and, and_true, and_self, if_true, if_false, Option.toList_some, Option.toList_none, List.cons_append, List.nil_append, qsL, qlong, List.length_cons, List.length_nil, s_sized ha, s_sized hb]
  have key : ∀ (y x : Nat) (v : List (Option Value)), lB x → lB y → v.length = 2 → (qEv (d + 1) 1 qk_191 12 ([some (.long (lZ a)), none, some (.long (lZ b)), none, some (.long (lZ x)), none, some (.long (lZ y)), none] ++ v) [] h R ↔ R = (some (.long (lZ (Nat.gcd x y))), h)) := by
    intro y
    induction y using Nat.strongRecOn with
    | ind y ih =>
      intro x v hx hy hv
      match v, hv with
      | [v1, v2], _ =>
      rw [e191_12]
      by_cases hz : y = 0
      · subst hz
        simp only [e191_0, e191_1, e191_4, e191_6, e191_7, e191_10, e191_14, e191_15, e191_16, e191_19, e191_21, e191_23, e191_24, e191_26, e191_28, e191_30, e191_32, e191_34, e191_37, e191_39, m191, ↓reduceIte, qg_0, qg_1, qg_2, qg_3, qg_4, qg_5, qg_6, qg_7, qg_8, qg_9, qg_10, qg_11, qg_12, qg_13, not_true_eq_false, not_false_eq_true, Nat.reduceBEq, Bool.false_eq_true, ex1, ex3, ex4, exF, qfit_i, qfit_l, qfit_r, qfit_n, qfit_b0, qfit_b1, qcat_i, qcat_r, qcat_n, qcat_l, qroom_0, qroom_c, List.map_cons, List.map_nil, List.sum_cons, List.sum_nil, Nat.reduceAdd, Nat.reduceMul, Nat.reduceLT, Nat.reduceLeDiff, Nat.reduceEqDiff, Nat.reduceSub, decide_true, true_and, and_true, and_self, if_true, if_false, Option.toList_some, Option.toList_none, List.cons_append, List.nil_append, qsL, qlong, List.length_cons, List.length_nil, lg_cmp_eq, show (0 : Int64) = lZ 0 from rfl, Int.ofNat_zero, Int.natCast_zero, Nat.gcd_zero_right]
      · have h1 : ¬ lZ y = lZ 0 := fun e => hz (by rw [lZ_eq hy lB_0] at e; omega)
        have h2 : ((x : Int).tmod (y : Int)) = ((x % y : Nat) : Int) := (Int.ofNat_tmod x y).symm
        have h3 : lB ((x % y : Nat) : Int) := by have := Nat.mod_lt x (show 0 < y by omega); unfold lB at *; omega
        simp only [e191_0, e191_1, e191_4, e191_6, e191_7, e191_10, e191_14, e191_15, e191_16, e191_19, e191_21, e191_23, e191_24, e191_26, e191_28, e191_30, e191_32, e191_34, e191_37, e191_39, m191, ↓reduceIte, qg_0, qg_1, qg_2, qg_3, qg_4, qg_5, qg_6, qg_7, qg_8, qg_9, qg_10, qg_11, qg_12, qg_13, not_true_eq_false, not_false_eq_true, Nat.reduceBEq, Bool.false_eq_true, ex1, ex3, ex4, exF, qfit_i, qfit_l, qfit_r, qfit_n, qfit_b0, qfit_b1, qcat_i, qcat_r, qcat_n, qcat_l, qroom_0, qroom_c, List.map_cons, List.map_nil, List.sum_cons, List.sum_nil, Nat.reduceAdd, Nat.reduceMul, Nat.reduceLT, Nat.reduceLeDiff, Nat.reduceEqDiff, Nat.reduceSub, decide_true, true_and, and_true, and_self, if_true, if_false, Option.toList_some, Option.toList_none, List.cons_append, List.nil_append, qsL, qlong, List.length_cons, List.length_nil, lg_cmp_eq, show (0 : Int64) = lZ 0 from rfl, h1, lZ_rem hx hy, h2]
        refine Iff.trans (ih (x % y) (Nat.mod_lt x (by omega)) y _ hy h3 rfl) ?_
        rw [Nat.gcd_comm y, ← Nat.gcd_rec, Nat.gcd_comm]
  exact key _ _ [none, none] (lB_abs ha) (lB_abs hb) rfl

/-! ===== PURE: Gosper's order of the choices ===== -/
section GOSPER
def gLow (x : Nat) : Nat := Nat.land x (Nat.sub 4294967296 x)
/-- the next greater number with as many bits -/
def gNx (x : Nat) : Nat := Nat.lor (Nat.add x (gLow x)) (Nat.shiftRight (Nat.xor x (Nat.add x (gLow x))) (Nat.add 2 (Nat.log2 (gLow x))))
def gLf (D s f : Nat) : Nat := cond (and (Nat.beq s f) (and (Nat.ble (Nat.succ s) (gNx s)) (and (Nat.ble (gNx s) 131072) (or (Nat.ble 65536 (gNx s)) (Nat.beq (pcN (gNx s)) D))))) (gNx s) 0
/-- all numbers s + t, t below 2 to the k with r bits, in their order -/
def gRun (D : Nat) : Nat → Nat → Nat → Nat → Nat
  | 0, r, s, f => match r with
    | 0 => gLf D s f
    | _ + 1 => f
  | k + 1, r, s, f => match gRun D k r s f with
    | 0 => 0
    | m + 1 => match r with
      | 0 => Nat.succ m
      | r + 1 => gRun D k r (Nat.add s (Nat.pow 2 k)) (Nat.succ m)
def gOk (D y : Nat) : Prop := y < gNx y ∧ gNx y ≤ 131072 ∧ (gNx y < 65536 → pop (gNx y) 16 = D)
theorem bit_lo {s k y : Nat} (hs : 2 ^ (k + 1) ∣ s) (h1 : s ≤ y) (h2 : y < s + 2 ^ (k + 1)) : y.testBit k = true ↔ s + 2 ^ k ≤ y := by
  obtain ⟨q, rfl⟩ := hs
  have p := Nat.two_pow_pos k
  rw [Nat.testBit_eq_decide_div_mod_eq, decide_eq_true_eq]
  have e2 : 2 ^ (k + 1) = 2 * 2 ^ k := by rw [Nat.pow_succ, Nat.mul_comm]
  rw [e2] at h1 h2 ⊢
  obtain ⟨t, rfl⟩ : ∃ t, y = 2 * 2 ^ k * q + t := ⟨y - 2 * 2 ^ k * q, by omega⟩
  have e3 : (2 * 2 ^ k * q + t) / 2 ^ k = 2 * q + t / 2 ^ k := by
    rw [show 2 * 2 ^ k * q = 2 ^ k * (2 * q) by rw [Nat.mul_comm 2, Nat.mul_assoc], Nat.mul_add_div p]
  rw [e3]
  rcases Nat.lt_or_ge t (2 ^ k) with z | z
  · rw [Nat.div_eq_of_lt z]; omega
  · have : t / 2 ^ k = 1 := by rw [Nat.div_eq_iff p]; omega
    rw [this]; omega
theorem gRun_ok {D : Nat} : ∀ (k r s f f' : Nat), 2 ^ k ∣ s → gRun D k r s f = f' → f' ≠ 0 → f ≤ f' ∧ (∀ y, s ≤ y → y < s + 2 ^ k → pop y k = r → f ≤ y ∧ gNx y ≤ f' ∧ gOk D y) ∧ ∀ y z, s ≤ y → y < z → z < s + 2 ^ k → pop y k = r → pop z k = r → gNx y ≤ z
  | 0, r, s, f, f', hs, he, h0 => by
    cases r with
    | zero =>
      have he' : gLf D s f = f' := he
      unfold gLf at he'
      cases hc : (and (Nat.beq s f) (and (Nat.ble (Nat.succ s) (gNx s)) (and (Nat.ble (gNx s) 131072) (or (Nat.ble 65536 (gNx s)) (Nat.beq (pcN (gNx s)) D))))) with
      | false => rw [hc] at he'; exact absurd he'.symm h0
      | true =>
        rw [hc] at he'
        have e1 : gNx s = f' := he'
        rw [Bool.and_eq_true, Bool.and_eq_true, Bool.and_eq_true, Bool.or_eq_true] at hc
        obtain ⟨c1, c2, c3, c4⟩ := hc
        have c1' : s = f := Nat.eq_of_beq_eq_true c1
        have c2' : s + 1 ≤ gNx s := Nat.le_of_ble_eq_true c2
        have c3' : gNx s ≤ 131072 := Nat.le_of_ble_eq_true c3
        have ok : gOk D s := by
          refine ⟨by omega, c3', fun z => ?_⟩
          rcases c4 with c4 | c4
          · have : 65536 ≤ gNx s := Nat.le_of_ble_eq_true c4
            omega
          · rw [← pcN_pop]; exact Nat.eq_of_beq_eq_true c4
        refine ⟨by omega, fun y h1 h2 _ => ?_, fun y z h1 h2 h3 => by rw [Nat.pow_zero] at h3; omega⟩
        rw [Nat.pow_zero] at h2
        have : y = s := by omega
        subst this
        exact ⟨by omega, by omega, ok⟩
    | succ r =>
      have he' : f = f' := he
      refine ⟨by omega, fun y _ _ h => ?_, fun y z _ _ _ h => ?_⟩
      · exact absurd h (by show 0 ≠ r + 1; omega)
      · exact absurd h (by show 0 ≠ r + 1; omega)
  | k + 1, r, s, f, f', hs, he, h0 => by
    have e2 : 2 ^ (k + 1) = 2 ^ k + 2 ^ k := by rw [Nat.pow_succ]; omega
    have hs1 : 2 ^ k ∣ s := Nat.dvd_trans ⟨2, by rw [Nat.pow_succ]⟩ hs
    have hs2 : 2 ^ k ∣ s + 2 ^ k := Nat.dvd_add hs1 ⟨1, by rw [Nat.mul_one]⟩
    have lo : ∀ y, s ≤ y → y < s + 2 ^ k → pop y (k + 1) = pop y k := fun y h1 h2 => by
      have : ¬ y.testBit k = true := fun z => by have := (bit_lo hs h1 (by omega)).mp z; omega
      rw [pop_s, if_neg this]; rfl
    have up : ∀ y, s + 2 ^ k ≤ y → y < s + 2 ^ (k + 1) → pop y (k + 1) = pop y k + 1 := fun y h1 h2 => by
      rw [pop_s, if_pos ((bit_lo hs (by omega) h2).mpr h1)]
    obtain ⟨f1, ef⟩ : ∃ f1, f1 = gRun D k r s f := ⟨_, rfl⟩
    rw [gRun, ← ef] at he
    cases f1 with
    | zero => exact absurd he.symm h0
    | succ m =>
      obtain ⟨a1, a2, a3⟩ := gRun_ok k r s f (m + 1) hs1 ef.symm (by omega)
      cases r with
      | zero =>
        have he' : m + 1 = f' := he
        refine ⟨by omega, fun y h1 h2 hp => ?_, fun y z h1 h2 h3 hp hz => ?_⟩
        · rcases Nat.lt_or_ge y (s + 2 ^ k) with q | q
          · rw [lo y h1 q] at hp
            obtain ⟨b1, b2, b3⟩ := a2 y h1 q hp
            exact ⟨b1, by omega, b3⟩
          · rw [up y q h2] at hp; omega
        · rcases Nat.lt_or_ge z (s + 2 ^ k) with q | q
          · rw [lo y h1 (by omega)] at hp
            rw [lo z (by omega) q] at hz
            exact a3 y z h1 h2 q hp hz
          · rw [up z q h3] at hz; omega
      | succ r =>
        obtain ⟨b1, b2, b3⟩ := gRun_ok k r (s + 2 ^ k) (m + 1) f' hs2 he h0
        refine ⟨by omega, fun y h1 h2 hp => ?_, fun y z h1 h2 h3 hp hz => ?_⟩
        · rcases Nat.lt_or_ge y (s + 2 ^ k) with q | q
          · rw [lo y h1 q] at hp
            obtain ⟨c1, c2, c3⟩ := a2 y h1 q hp
            exact ⟨c1, by omega, c3⟩
          · rw [up y q h2] at hp
            obtain ⟨c1, c2, c3⟩ := b2 y q (by omega) (by omega)
            exact ⟨by omega, c2, c3⟩
        · rcases Nat.lt_or_ge z (s + 2 ^ k) with q | q
          · rw [lo y h1 (by omega)] at hp
            rw [lo z (by omega) q] at hz
            exact a3 y z h1 h2 q hp hz
          · rw [up z q h3] at hz
            rcases Nat.lt_or_ge y (s + 2 ^ k) with w | w
            · rw [lo y h1 w] at hp
              have c1 := (a2 y h1 w hp).2.1
              have c2 := (b2 z q (by omega) (by omega)).1
              omega
            · rw [up y w (by omega)] at hp
              exact b3 y z w h2 (by omega) (by omega) (by omega)
theorem gRun_2 : gRun 2 16 2 0 3 = 65537 := by decide +kernel
theorem gRun_3 : gRun 3 16 3 0 7 = 65539 := by decide +kernel
theorem gRun_4 : gRun 4 16 4 0 15 = 65543 := by decide +kernel
/-- the next choice: greater, none between, and the first is the least -/
theorem gos {D : Nat} (hD : 2 ≤ D ∧ D ≤ 4) : (∀ y, y < 65536 → pop y 16 = D → 2 ^ D - 1 ≤ y ∧ gOk D y) ∧ ∀ y z, y < z → z < 65536 → pop y 16 = D → pop z 16 = D → gNx y ≤ z := by
  have key : ∀ f', gRun D 16 D 0 (2 ^ D - 1) = f' → f' ≠ 0 → (∀ y, y < 65536 → pop y 16 = D → 2 ^ D - 1 ≤ y ∧ gOk D y) ∧ ∀ y z, y < z → z < 65536 → pop y 16 = D → pop z 16 = D → gNx y ≤ z := fun f' h1 h2 => by
    obtain ⟨-, a2, a3⟩ := gRun_ok 16 D 0 (2 ^ D - 1) f' ⟨0, rfl⟩ h1 h2
    refine ⟨fun y h3 h4 => ?_, fun y z h3 h4 h5 h6 => a3 y z (Nat.zero_le _) h3 (by omega) h5 h6⟩
    obtain ⟨b1, -, b2⟩ := a2 y (Nat.zero_le _) (by omega) h4
    exact ⟨b1, b2⟩
  have h3 : D = 2 ∨ D = 3 ∨ D = 4 := by omega
  rcases h3 with rfl | rfl | rfl
  · exact key _ gRun_2 (by decide)
  · exact key _ gRun_3 (by decide)
  · exact key _ gRun_4 (by decide)
def gCh : Nat → Nat → Nat
  | 0, r => match r with
    | 0 => 1
    | _ + 1 => 0
  | k + 1, r => match r with
    | 0 => gCh k 0
    | r + 1 => gCh k (r + 1) + gCh k r
theorem cntN_plus (p : Nat → Bool) (a : Nat) : ∀ b, cntN p (a + b) = cntN p a + cntN (fun x => p (a + x)) b
  | 0 => rfl
  | b + 1 => by
    rw [show a + (b + 1) = (a + b) + 1 by omega, cntN, cntN, cntN_plus p a b]; omega
theorem pop_ext {x y : Nat} : ∀ {k : Nat}, (∀ j, j < k → x.testBit j = y.testBit j) → pop x k = pop y k := fun h => cntN_ext fun j hj => h j hj
theorem cnt_ch : ∀ k r, cntN (fun y => decide (pop y k = r)) (2 ^ k) = gCh k r
  | 0, 0 => rfl
  | 0, r + 1 => rfl
  | k + 1, r => by
    have e2 : 2 ^ (k + 1) = 2 ^ k + 2 ^ k := by rw [Nat.pow_succ]; omega
    rw [e2, cntN_plus]
    have lo : cntN (fun y => decide (pop y (k + 1) = r)) (2 ^ k) = gCh k r := by
      rw [← cnt_ch k r]
      refine cntN_ext fun y hy => ?_
      rw [pop_s, Nat.testBit_lt_two_pow hy]; rfl
    have up : ∀ x, x < 2 ^ k → pop (2 ^ k + x) (k + 1) = pop x k + 1 := fun x hx => by
      rw [pop_s, if_pos (by rw [Nat.testBit_two_pow_add_eq, Nat.testBit_lt_two_pow hx]; rfl)]
      congr 1
      exact pop_ext fun j hj => Nat.testBit_two_pow_add_gt hj x
    cases r with
    | zero =>
      rw [lo, cntN_0 fun x hx z => by have := of_decide_eq_true z; have := up x hx; omega]; rfl
    | succ r =>
      rw [lo, show gCh (k + 1) (r + 1) = gCh k (r + 1) + gCh k r from rfl, ← cnt_ch k r]
      congr 1
      exact cntN_ext fun x hx => by rw [up x hx]; exact decide_eq_decide.mpr (by omega)
def gIs (D y : Nat) : Bool := decide (pop y 16 = D)
theorem g_few {D y : Nat} (hD : 2 ≤ D ∧ D ≤ 4) (hy : y < 65536) (hp : pop y 16 = D) : cntN (gIs D) y < 1820 := by
  have h1 : cntN (gIs D) y < cntN (gIs D) 65536 := cntN_lt hy (decide_eq_true hp)
  have h2 : cntN (gIs D) 65536 = gCh 16 D := cnt_ch 16 D
  have h3 : D = 2 ∨ D = 3 ∨ D = 4 := by omega
  have e2 : gCh 16 2 = 120 := by decide +kernel
  have e3 : gCh 16 3 = 560 := by decide +kernel
  have e4 : gCh 16 4 = 1820 := by decide +kernel
  rcases h3 with rfl | rfl | rfl <;> omega
theorem gLow_is {x m : Nat} (hx : x < 65536) (h3 : x.testBit m = true) (h4 : ∀ j, j < m → x.testBit j = false) : gLow x = 2 ^ m := low_is hx h3 h4
/-- a list of members, by its set -/
theorem srtL_ext : ∀ {a b : List Nat}, a.Pairwise (· < ·) → b.Pairwise (· < ·) → (∀ x, x ∈ a ↔ x ∈ b) → a = b
  | [], [], _, _, _ => rfl
  | [], y :: b, _, _, h => absurd ((h y).mpr List.mem_cons_self) (by intro z; cases z)
  | x :: a, [], _, _, h => absurd ((h x).mp List.mem_cons_self) (by intro z; cases z)
  | x :: a, y :: b, ha, hb, h => by
    obtain ⟨ha1, ha2⟩ := List.pairwise_cons.mp ha
    obtain ⟨hb1, hb2⟩ := List.pairwise_cons.mp hb
    have exy : x = y := by
      rcases List.mem_cons.mp ((h x).mp List.mem_cons_self) with z | z
      · exact z
      · rcases List.mem_cons.mp ((h y).mpr List.mem_cons_self) with w | w
        · exact w.symm
        · have := ha1 y w
          have := hb1 x z
          omega
    subst exy
    rw [srtL_ext ha2 hb2 fun z => ?_]
    constructor
    · intro w
      rcases List.mem_cons.mp ((h z).mp (List.mem_cons_of_mem _ w)) with q | q
      · have := ha1 z w; omega
      · exact q
    · intro w
      rcases List.mem_cons.mp ((h z).mpr (List.mem_cons_of_mem _ w)) with q | q
      · have := hb1 z w; omega
      · exact q
theorem mems_stL {ms : List Nat} (hm : inL ms) : mems (stL ms) = ms := srtL_ext (mems_in _).1 hm.1 fun x => by rw [mem_mems (stL_lt hm), stL_bit]
theorem pop_mems {x : Nat} : pop x 16 = (mems x).length := by unfold mems pop; rw [pickN_len]
/-- the points of a choice -/
def cl4 (D c0 c1 c2 c3 : Nat) : List Nat := if D = 2 then [c0, c1] else if D = 3 then [c0, c1, c2] else [c0, c1, c2, c3]
theorem cl4_len {D c0 c1 c2 c3 : Nat} (hD : 2 ≤ D ∧ D ≤ 4) : (cl4 D c0 c1 c2 c3).length = D := by
  have h3 : D = 2 ∨ D = 3 ∨ D = 4 := by omega
  rcases h3 with rfl | rfl | rfl <;> rfl
theorem cl4_in {n D c0 c1 c2 c3 : Nat} (h16 : n ≤ 16) (i : inc n D c0 c1 c2 c3) : inL (cl4 D c0 c1 c2 c3) ∧ ∀ x, x ∈ cl4 D c0 c1 c2 c3 → x < n := by
  obtain ⟨hD, h1, h2⟩ := i
  have h3 : D = 2 ∨ D = 3 ∨ D = 4 := by omega
  rcases h3 with rfl | rfl | rfl
  · simp only [if_true] at h2
    simp [cl4, inL]; omega
  · simp only [if_true, if_false, Nat.reduceEqDiff] at h2
    simp [cl4, inL]; omega
  · simp only [if_true, if_false, Nat.reduceEqDiff] at h2
    simp [cl4, inL]; omega
theorem cl4_of {n D y : Nat} (h16 : n ≤ 16) (hD : 2 ≤ D ∧ D ≤ 4) (hy : y < 2 ^ n) (hp : pop y 16 = D) : ∃ c0 c1 c2 c3, inc n D c0 c1 c2 c3 ∧ mems y = cl4 D c0 c1 c2 c3 := by
  have y16 : y < 65536 := Nat.lt_of_lt_of_le hy (Nat.pow_le_pow_right (by decide) h16)
  obtain ⟨m1, m2⟩ := mems_in y
  have m3 : ∀ x, x ∈ mems y → x < n := fun x hx => by
    have := (mem_mems y16).mp hx
    rcases Nat.lt_or_ge x n with z | z
    · exact z
    · rw [Nat.testBit_lt_two_pow (Nat.lt_of_lt_of_le hy (Nat.pow_le_pow_right (by decide) z))] at this; cases this
  have ml : (mems y).length = D := by rw [← pop_mems]; exact hp
  obtain ⟨ms, em⟩ : ∃ ms, ms = mems y := ⟨_, rfl⟩
  rw [← em] at m1 m3 ml ⊢
  have h3 : D = 2 ∨ D = 3 ∨ D = 4 := by omega
  rcases h3 with rfl | rfl | rfl
  · match ms, ml with
    | [a, b], _ =>
      refine ⟨a, b, 0, 0, ?_, rfl⟩
      simp at m1 m3
      simp [inc]; omega
  · match ms, ml with
    | [a, b, c], _ =>
      refine ⟨a, b, c, 0, ?_, rfl⟩
      simp at m1 m3
      simp [inc]; omega
  · match ms, ml with
    | [a, b, c, e], _ =>
      refine ⟨a, b, c, e, ?_, rfl⟩
      simp at m1 m3
      simp [inc]; omega
theorem wo_0i {a b : Nat} : wo a b = 0 ↔ ∀ j, a.testBit j = true → b.testBit j = true := by
  constructor
  · intro z j hj
    have := wo_bit a b j
    rw [z, Nat.zero_testBit, hj, Bool.true_and] at this
    cases q : b.testBit j with
    | true => rfl
    | false => rw [q] at this; cases this
  · intro z
    apply Nat.eq_of_testBit_eq
    intro j
    rw [wo_bit, Nat.zero_testBit]
    cases q : a.testBit j with
    | false => rfl
    | true => rw [z j q]; rfl
end GOSPER

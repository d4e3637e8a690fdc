/-! ===== ROWS IN ORDER; the faces of a body in the reference's rows ===== -/
/-- x put in at its place -/
def insN (T : Nat → Nat) (x m : Nat) : Nat → Nat := fun k => if k < posI T x m then T k else if k = posI T x m then x else T (k - 1)
def srt (T : Nat → Nat) (m : Nat) : Prop := ∀ a b, a < b → b < m → T a < T b
theorem posI_hi {T : Nat → Nat} {x : Nat} : ∀ {m k : Nat}, posI T x m ≤ k → k < m → x < T k
  | 0, k, _, hk => absurd hk (Nat.not_lt_zero k)
  | m + 1, k, h1, hk => by
    rw [posI] at h1
    by_cases hc : T m ≤ x
    · rw [if_pos hc] at h1; omega
    · rw [if_neg hc] at h1
      by_cases e : k = m
      · subst e; omega
      · exact posI_hi h1 (by omega)
theorem posI_lo {T : Nat → Nat} {x : Nat} : ∀ {m : Nat}, srt T m → ∀ k, k < posI T x m → T k ≤ x
  | 0, _, k, h1 => absurd h1 (Nat.not_lt_zero k)
  | m + 1, hs, k, h1 => by
    rw [posI] at h1
    by_cases hc : T m ≤ x
    · rw [if_pos hc] at h1
      by_cases e : k = m
      · subst e; exact hc
      · have := hs k m (by omega) (by omega); omega
    · rw [if_neg hc] at h1
      exact posI_lo (fun a b h2 h3 => hs a b h2 (by omega)) k h1
theorem insN_mem {T : Nat → Nat} {x m y : Nat} : (∃ k, k < m + 1 ∧ insN T x m k = y) ↔ y = x ∨ ∃ k, k < m ∧ T k = y := by
  have hj := posI_le T x m
  constructor
  · rintro ⟨k, hk, e⟩
    unfold insN at e
    by_cases h1 : k < posI T x m
    · rw [if_pos h1] at e; exact Or.inr ⟨k, by omega, e⟩
    · rw [if_neg h1] at e
      by_cases h2 : k = posI T x m
      · rw [if_pos h2] at e; exact Or.inl e.symm
      · rw [if_neg h2] at e; exact Or.inr ⟨k - 1, by omega, e⟩
  · rintro (rfl | ⟨k, hk, e⟩)
    · refine ⟨posI T y m, by omega, ?_⟩
      unfold insN; rw [if_neg (by omega), if_pos rfl]
    · by_cases h1 : k < posI T x m
      · exact ⟨k, by omega, by unfold insN; rw [if_pos h1]; exact e⟩
      · exact ⟨k + 1, by omega, by unfold insN; rw [if_neg (by omega), if_neg (by omega)]; exact e⟩
theorem insN_srt {T : Nat → Nat} {x m : Nat} (hs : srt T m) (hx : ∀ k, k < m → T k ≠ x) : srt (insN T x m) (m + 1) := by
  have hj := posI_le T x m
  have lo : ∀ k, k < posI T x m → T k < x := fun k hk => by
    have h1 := posI_lo hs k hk
    have h2 := hx k (by omega)
    omega
  intro a b hab hb
  unfold insN
  by_cases a1 : a < posI T x m
  · rw [if_pos a1]
    by_cases b1 : b < posI T x m
    · rw [if_pos b1]; exact hs a b hab (by omega)
    · rw [if_neg b1]
      by_cases b2 : b = posI T x m
      · rw [if_pos b2]; exact lo a a1
      · rw [if_neg b2]; exact hs a (b - 1) (by omega) (by omega)
  · rw [if_neg a1, if_neg (show ¬ b < posI T x m by omega), if_neg (show ¬ b = posI T x m by omega)]
    by_cases a2 : a = posI T x m
    · rw [if_pos a2]; exact posI_hi (m := m) (by omega) (by omega)
    · rw [if_neg a2]; exact hs (a - 1) (b - 1) (by omega) (by omega)
theorem insN_lt {T : Nat → Nat} {x m B : Nat} (hT : ∀ k, k < m → T k < B) (hx : x < B) {k : Nat} (hk : k < m + 1) : insN T x m k < B := by
  have hj := posI_le T x m
  unfold insN
  by_cases h1 : k < posI T x m
  · rw [if_pos h1]; exact hT k (by omega)
  · rw [if_neg h1]
    by_cases h2 : k = posI T x m
    · rw [if_pos h2]; exact hx
    · rw [if_neg h2]; exact hT (k - 1) (by omega)
/-- insI at the places of a row -/
theorem insI_row {g : Nat → Int32} {T : Nat → Nat} {B m x : Nat} (hT : ∀ k, k < m → g (B + k) = iN (T k)) {k : Nat} (hk : k < m + 1) : insI g B m (posI T x m) (iN x) (B + k) = iN (insN T x m k) := by
  have hj := posI_le T x m
  unfold insI insN
  rw [upd_at]
  by_cases h2 : k = posI T x m
  · rw [if_pos (by omega), if_neg (by omega), if_pos h2]
  · rw [if_neg (by omega)]
    unfold shI
    by_cases h1 : k < posI T x m
    · rw [if_neg (by omega), if_pos h1]; exact hT k (by omega)
    · rw [if_pos (by omega), if_neg h1, if_neg h2, show B + k - 1 = B + (k - 1) by omega]; exact hT (k - 1) (by omega)
theorem insI_out {g : Nat → Int32} {T : Nat → Nat} {B m x k : Nat} (hk : k < B ∨ B + m < k) : insI g B m (posI T x m) (iN x) k = g k := by
  have hj := posI_le T x m
  unfold insI
  rw [upd_at, if_neg (by omega)]
  unfold shI
  rw [if_neg (by omega)]
/-- the faces of body i -/
def FaceV (h : qH) (i : Nat) (M : Nat → Nat) (T : Nat → Nat → Nat) : Prop := ∀ K, K < 4 → hi h 60 (4 * i + K) = iN (M K) ∧ M K ≤ 208 ∧ ∀ k, k < M K → hi h 61 (208 * (4 * i + K) + k) = iN (T K k) ∧ T K k < 65536
def addM (M : Nat → Nat) (x : Nat) : Nat → Nat := fun K => if K = kindOf x then M K + 1 else M K
def addT (M : Nat → Nat) (T : Nat → Nat → Nat) (x : Nat) : Nat → Nat → Nat := fun K => if K = kindOf x then insN (T K) x (M K) else T K
theorem kind_le (x : Nat) : kindOf x ≤ 2 := by unfold kindOf; split <;> omega
theorem FaceV.add {h h' : qH} {i x : Nat} {M : Nat → Nat} {T : Nat → Nat → Nat} (v : FaceV h i M T) (hx : x < 65536) (hm : M (kindOf x) < 208) (e60 : hi h' 60 = upd (hi h 60) (4 * i + kindOf x) (iN (M (kindOf x) + 1))) (e61 : hi h' 61 = insI (hi h 61) (208 * (4 * i + kindOf x)) (M (kindOf x)) (posI (T (kindOf x)) x (M (kindOf x))) (iN x)) : FaceV h' i (addM M x) (addT M T x) := by
  intro K hK
  have vK := v K hK
  have hk := kind_le x
  rw [e60, e61, upd_at]
  unfold addM addT
  by_cases e : K = kindOf x
  · rw [if_pos (by omega), if_pos e, if_pos e]
    subst e
    refine ⟨rfl, by omega, fun k hk' => ⟨insI_row (fun k hk => (vK.2.2 k hk).1) hk', insN_lt (fun k hk => (vK.2.2 k hk).2) hx hk'⟩⟩
  · rw [if_neg (by omega), if_neg e, if_neg e]
    refine ⟨vK.1, vK.2.1, fun k hk' => ?_⟩
    rw [insI_out (by have := vK.2.1; have := (v (kindOf x) (by omega)).2.1; omega)]
    exact vK.2.2 k hk'

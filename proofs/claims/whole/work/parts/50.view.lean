/-! ===== NUMBERS AND VIEWS (by program: wip/gen/mk50.py) ===== -/
/-- a count as an int -/
def iN (n : Nat) : Int32 := Int32.ofNat n
theorem iN_add (a b : Nat) : iN a + iN b = iN (a + b) := (Int32.ofNat_add a b).symm
theorem iN_mul (a b : Nat) : iN a * iN b = iN (a * b) := (Int32.ofNat_mul a b).symm
theorem iN_addL (a n : Nat) : iN a + (no_index (OfNat.ofNat n) : Int32) = iN (a + (OfNat.ofNat n : Nat)) := (Int32.ofNat_add a n).symm
theorem iN_Ladd (a n : Nat) : (no_index (OfNat.ofNat n) : Int32) + iN a = iN ((OfNat.ofNat n : Nat) + a) := (Int32.ofNat_add n a).symm
theorem iN_mulL (a n : Nat) : iN a * (no_index (OfNat.ofNat n) : Int32) = iN (a * (OfNat.ofNat n : Nat)) := (Int32.ofNat_mul a n).symm
theorem iN_Lmul (a n : Nat) : (no_index (OfNat.ofNat n) : Int32) * iN a = iN ((OfNat.ofNat n : Nat) * a) := (Int32.ofNat_mul n a).symm
theorem iN_sub {a b : Nat} (h : b ≤ a) : iN a - iN b = iN (a - b) := by
  have := iN_add (a - b) b
  rw [Nat.sub_add_cancel h] at this
  rw [← this, Int32.add_sub_cancel]
theorem iN_subL {a n : Nat} (h : (OfNat.ofNat n : Nat) ≤ a) : iN a - (no_index (OfNat.ofNat n) : Int32) = iN (a - (OfNat.ofNat n : Nat)) := iN_sub h
theorem iN_int {a : Nat} (h : a < 2147483648) : (iN a).toInt = a := Int32.toInt_ofNat_of_lt h
theorem iN_nat {a : Nat} (h : a < 2147483648) : (iN a).toNatClampNeg = a := by
  show (iN a).toInt.toNat = a
  rw [iN_int h]; rfl
theorem iN_lt {a b : Nat} (ha : a < 2147483648) (hb : b < 2147483648) : iN a < iN b ↔ a < b := by
  rw [Int32.lt_iff_toInt_lt, iN_int ha, iN_int hb]; omega
theorem iN_le {a b : Nat} (ha : a < 2147483648) (hb : b < 2147483648) : iN a ≤ iN b ↔ a ≤ b := by
  rw [Int32.le_iff_toInt_le, iN_int ha, iN_int hb]; omega
theorem iN_eq {a b : Nat} (ha : a < 2147483648) (hb : b < 2147483648) : iN a = iN b ↔ a = b := by
  rw [← Int32.toInt_inj, iN_int ha, iN_int hb]; omega
theorem iN_ltL {a n : Nat} (ha : a < 2147483648) (hn : (OfNat.ofNat n : Nat) < 2147483648) : iN a < (no_index (OfNat.ofNat n) : Int32) ↔ a < (OfNat.ofNat n : Nat) := iN_lt ha hn
theorem iN_Llt {a n : Nat} (ha : a < 2147483648) (hn : (OfNat.ofNat n : Nat) < 2147483648) : (no_index (OfNat.ofNat n) : Int32) < iN a ↔ (OfNat.ofNat n : Nat) < a := iN_lt hn ha
theorem iN_leL {a n : Nat} (ha : a < 2147483648) (hn : (OfNat.ofNat n : Nat) < 2147483648) : iN a ≤ (no_index (OfNat.ofNat n) : Int32) ↔ a ≤ (OfNat.ofNat n : Nat) := iN_le ha hn
theorem iN_Lle {a n : Nat} (ha : a < 2147483648) (hn : (OfNat.ofNat n : Nat) < 2147483648) : (no_index (OfNat.ofNat n) : Int32) ≤ iN a ↔ (OfNat.ofNat n : Nat) ≤ a := iN_le hn ha
theorem iN_eqL {a n : Nat} (ha : a < 2147483648) (hn : (OfNat.ofNat n : Nat) < 2147483648) : iN a = (no_index (OfNat.ofNat n) : Int32) ↔ a = (OfNat.ofNat n : Nat) := iN_eq ha hn
theorem iN_Leq {a n : Nat} (ha : a < 2147483648) (hn : (OfNat.ofNat n : Nat) < 2147483648) : (no_index (OfNat.ofNat n) : Int32) = iN a ↔ (OfNat.ofNat n : Nat) = a := iN_eq hn ha
theorem iN_of {z : Int32} (h : 0 ≤ z) : ∃ n : Nat, n < 2147483648 ∧ z = iN n := by
  have h0 : 0 ≤ z.toInt := by simpa using Int32.le_iff_toInt_le.mp h
  have h1 := z.toInt_lt
  refine ⟨z.toInt.toNat, by omega, ?_⟩
  rw [← Int32.toInt_inj, iN_int (by omega)]; omega
theorem iN_L (n : Nat) : (no_index (OfNat.ofNat n) : Int32) = iN (OfNat.ofNat n : Nat) := rfl
theorem qg_7 {a b c d e f g i : Option Value} {L : qL} : qgL (a :: b :: c :: d :: e :: f :: g :: i :: L) 7 = i := rfl
theorem qg_8 {a b c d e f g i j : Option Value} {L : qL} : qgL (a :: b :: c :: d :: e :: f :: g :: i :: j :: L) 8 = j := rfl
theorem qg_9 {a b c d e f g i j k : Option Value} {L : qL} : qgL (a :: b :: c :: d :: e :: f :: g :: i :: j :: k :: L) 9 = k := rfl
theorem qg_10 {a b c d e f g i j k l : Option Value} {L : qL} : qgL (a :: b :: c :: d :: e :: f :: g :: i :: j :: k :: l :: L) 10 = l := rfl
theorem qg_11 {a b c d e f g i j k l m : Option Value} {L : qL} : qgL (a :: b :: c :: d :: e :: f :: g :: i :: j :: k :: l :: m :: L) 11 = m := rfl
theorem qg_12 {a b c d e f g i j k l m n : Option Value} {L : qL} : qgL (a :: b :: c :: d :: e :: f :: g :: i :: j :: k :: l :: m :: n :: L) 12 = n := rfl
theorem qg_13 {a b c d e f g i j k l m n o : Option Value} {L : qL} : qgL (a :: b :: c :: d :: e :: f :: g :: i :: j :: k :: l :: m :: n :: o :: L) 13 = o := rfl
theorem exF {c : Nat} {G : Nat → Value} : (∃ F, (Sum.inr (c, G) : qC) = .inr (c, F)) ↔ True := ⟨fun _ => trivial, fun _ => ⟨G, rfl⟩⟩
theorem exI {a : Int32} {P : Int32 → Prop} : (∃ z, some (Value.int a) = some (.int z) ∧ P z) ↔ P a := ⟨fun ⟨_, h, p⟩ => by cases h; exact p, fun p => ⟨a, rfl, p⟩⟩
theorem i64_le (a b : Int32) : a.toInt64 ≤ b.toInt64 ↔ a ≤ b := by
  rw [Int64.le_iff_toInt_le, Int32.le_iff_toInt_le, Int32.toInt_toInt64, Int32.toInt_toInt64]
theorem i64_lt (a b : Int32) : a.toInt64 < b.toInt64 ↔ a < b := by
  rw [Int64.lt_iff_toInt_lt, Int32.lt_iff_toInt_lt, Int32.toInt_toInt64, Int32.toInt_toInt64]
/-- a loop that counts up -/
theorem loop_up {d : Nat} {rt : Int} {K : List (Nat × qI)} {pc : Nat} {R : qRes} {L : Nat → qL} {H : Nat → qH} {n : Nat} (step : ∀ k, k < n → (qEv d rt K pc (L k) [] (H k) R ↔ qEv d rt K pc (L (k + 1)) [] (H (k + 1)) R)) : qEv d rt K pc (L 0) [] (H 0) R ↔ qEv d rt K pc (L n) [] (H n) R := by
  induction n with
  | zero => exact Iff.rfl
  | succ n ih => exact (ih fun k hk => step k (Nat.lt_succ_of_lt hk)).trans (step n (Nat.lt_succ_self n))
/-- what the cells hold -/
def hi (h : qH) (a : Nat) : Nat → Int32 := match h.1 a with
  | .inl (_, _, .inl f) => f
  | _ => fun _ => 0
def hl (h : qH) (a : Nat) : Nat → Int64 := match h.1 a with
  | .inl (_, _, .inr (.inl f)) => f
  | _ => fun _ => 0
def hr (h : qH) (a : Nat) : Nat → Option Nat := match h.1 a with
  | .inl (_, _, .inr (.inr f)) => f
  | _ => fun _ => none
def hf (h : qH) (a : Nat) : Nat → Value := match h.1 a with
  | .inr (_, F) => F
  | _ => fun _ => .null
/-- what kind of cell stands there -/
def kI (h : qH) (a n : Nat) : Prop := (n < 2147483648 ∧ 16 ≤ a ∧ a < h.2.1) ∧ ∃ f, h.1 a = .inl (0, n, .inl f)
def kL (h : qH) (a n : Nat) : Prop := (n < 2147483648 ∧ 16 ≤ a ∧ a < h.2.1) ∧ ∃ f, h.1 a = .inl (1, n, .inr (.inl f))
def kR (h : qH) (t a n : Nat) : Prop := (n < 2147483648 ∧ 16 ≤ a ∧ a < h.2.1) ∧ ∃ f, h.1 a = .inl (t, n, .inr (.inr f))
def kO (h : qH) (a ci : Nat) : Prop := (16 ≤ a ∧ a < h.2.1) ∧ ∃ F, h.1 a = .inr (ci, F)
def hlen (h : qH) (a : Nat) : Nat := match h.1 a with
  | .inl (_, n, _) => n
  | _ => 0
def hcls (h : qH) (a : Nat) : Nat := match h.1 a with
  | .inr (c, _) => c
  | _ => 0
/-- cells with other contents -/
def sI (h : qH) (a : Nat) (g : Nat → Int32) : qH := (qup h.1 a (.inl (0, hlen h a, .inl g)), h.2)
def sL (h : qH) (a : Nat) (g : Nat → Int64) : qH := (qup h.1 a (.inl (1, hlen h a, .inr (.inl g))), h.2)
def sF (h : qH) (a : Nat) (F : Nat → Value) : qH := (qup h.1 a (.inr (hcls h a, F)), h.2)
theorem rdI {h : qH} {a n i : Nat} (k : kI h a n) (hi' : i < n) : qiald h a (iN i) = some (hi h a i) := by
  obtain ⟨⟨k1, k2, k3⟩, f, k4⟩ := k
  unfold qiald hi
  rw [if_pos (Or.inr ⟨k2, k3⟩), k4]
  show (if iN i < 0 ∨ n ≤ (iN i).toNatClampNeg then none else some (f (iN i).toNatClampNeg)) = some (f i)
  rw [iN_nat (by omega), if_neg (fun q => by
    rcases q with q | q
    · rw [show (0 : Int32) = iN 0 from rfl, iN_lt (by omega) (by omega)] at q; omega
    · omega)]
theorem wrI {h : qH} {a n i : Nat} {x : Int32} (k : kI h a n) (hi' : i < n) : qiast h a (iN i) x = some (sI h a (upd (hi h a) i x)) := by
  obtain ⟨⟨k1, k2, k3⟩, f, k4⟩ := k
  unfold qiast hi sI hlen
  rw [if_pos ⟨k2, k3⟩, k4]
  show (if iN i < 0 ∨ n ≤ (iN i).toNatClampNeg then none else some (qup h.1 a (.inl (0, n, .inl (upd f (iN i).toNatClampNeg x))), h.2)) = some (qup h.1 a (.inl (0, n, .inl (upd f i x))), h.2)
  rw [iN_nat (by omega), if_neg (fun q => by
    rcases q with q | q
    · rw [show (0 : Int32) = iN 0 from rfl, iN_lt (by omega) (by omega)] at q; omega
    · omega)]
theorem rdL {h : qH} {a n i : Nat} (k : kL h a n) (hi' : i < n) : qlald h a (iN i) = some (hl h a i) := by
  obtain ⟨⟨k1, k2, k3⟩, f, k4⟩ := k
  unfold qlald hl
  rw [if_pos ⟨k2, k3⟩, k4]
  show (if iN i < 0 ∨ n ≤ (iN i).toNatClampNeg then none else some (f (iN i).toNatClampNeg)) = some (f i)
  rw [iN_nat (by omega), if_neg (fun q => by
    rcases q with q | q
    · rw [show (0 : Int32) = iN 0 from rfl, iN_lt (by omega) (by omega)] at q; omega
    · omega)]
theorem wrL {h : qH} {a n i : Nat} {x : Int64} (k : kL h a n) (hi' : i < n) : qlast h a (iN i) x = some (sL h a (vp_updL (hl h a) i x)) := by
  obtain ⟨⟨k1, k2, k3⟩, f, k4⟩ := k
  unfold qlast hl sL hlen
  rw [if_pos ⟨k2, k3⟩, k4]
  show (if iN i < 0 ∨ n ≤ (iN i).toNatClampNeg then none else some (qup h.1 a (.inl (1, n, .inr (.inl (vp_updL f (iN i).toNatClampNeg x)))), h.2)) = some (qup h.1 a (.inl (1, n, .inr (.inl (vp_updL f i x)))), h.2)
  rw [iN_nat (by omega), if_neg (fun q => by
    rcases q with q | q
    · rw [show (0 : Int32) = iN 0 from rfl, iN_lt (by omega) (by omega)] at q; omega
    · omega)]
theorem rdO {h : qH} {a ci j : Nat} (k : kO h a ci) (hj : j < qnF ci) : qget h a ci j = some (hf h a j) := by
  obtain ⟨⟨k2, k3⟩, F, k4⟩ := k
  unfold qget hf
  rw [if_pos ⟨k2, k3, hj⟩, k4]
  dsimp only
  rw [if_pos rfl]
theorem wrO {h : qH} {a ci j : Nat} {v : Value} (k : kO h a ci) (hj : j < qnF ci) : qput h a ci j v = some (sF h a (qfu (hf h a) j v)) := by
  obtain ⟨⟨k2, k3⟩, F, k4⟩ := k
  unfold qput hf sF hcls
  rw [if_pos ⟨k2, k3, hj⟩, k4]
  dsimp only
  rw [if_pos rfl]
theorem kI.val {h : qH} {a n : Nat} (k : kI h a n) : h.1 a = .inl (0, n, .inl (hi h a)) := by
  obtain ⟨-, f, e⟩ := k; unfold hi; rw [e]
theorem kL.val {h : qH} {a n : Nat} (k : kL h a n) : h.1 a = .inl (1, n, .inr (.inl (hl h a))) := by
  obtain ⟨-, f, e⟩ := k; unfold hl; rw [e]
theorem kO.val {h : qH} {a ci : Nat} (k : kO h a ci) : h.1 a = .inr (ci, hf h a) := by
  obtain ⟨-, f, e⟩ := k; unfold hf; rw [e]
theorem at_sI {h : qH} {a b : Nat} {g : Nat → Int32} : (sI h a g).1 b = if b = a then .inl (0, hlen h a, .inl g) else h.1 b := rfl
theorem at_sL {h : qH} {a b : Nat} {g : Nat → Int64} : (sL h a g).1 b = if b = a then .inl (1, hlen h a, .inr (.inl g)) else h.1 b := rfl
theorem at_sF {h : qH} {a b : Nat} {F : Nat → Value} : (sF h a F).1 b = if b = a then .inr (hcls h a, F) else h.1 b := rfl
theorem nx_sI {h : qH} {a : Nat} {g : Nat → Int32} : (sI h a g).2 = h.2 := rfl
theorem nx_sL {h : qH} {a : Nat} {g : Nat → Int64} : (sL h a g).2 = h.2 := rfl
theorem nx_sF {h : qH} {a : Nat} {F : Nat → Value} : (sF h a F).2 = h.2 := rfl
theorem hi_sI {h : qH} {a b : Nat} {g : Nat → Int32} : hi (sI h a g) b = if b = a then g else hi h b := by
  unfold hi; rw [at_sI]
  by_cases e : b = a
  · rw [if_pos e, if_pos e]
  · rw [if_neg e, if_neg e]
theorem hl_sL {h : qH} {a b : Nat} {g : Nat → Int64} : hl (sL h a g) b = if b = a then g else hl h b := by
  unfold hl; rw [at_sL]
  by_cases e : b = a
  · rw [if_pos e, if_pos e]
  · rw [if_neg e, if_neg e]
theorem hf_sF {h : qH} {a b : Nat} {F : Nat → Value} : hf (sF h a F) b = if b = a then F else hf h b := by
  unfold hf; rw [at_sF]
  by_cases e : b = a
  · rw [if_pos e, if_pos e]
  · rw [if_neg e, if_neg e]
theorem hi_sL {h : qH} {a b n : Nat} {g : Nat → Int64} (k : kL h a n) : hi (sL h a g) b = hi h b := by
  unfold hi; rw [at_sL]
  by_cases e : b = a
  · rw [if_pos e, e, k.val]
  · rw [if_neg e]
theorem hi_sF {h : qH} {a b ci : Nat} {F : Nat → Value} (k : kO h a ci) : hi (sF h a F) b = hi h b := by
  unfold hi; rw [at_sF]
  by_cases e : b = a
  · rw [if_pos e, e, k.val]
  · rw [if_neg e]
theorem hl_sI {h : qH} {a b n : Nat} {g : Nat → Int32} (k : kI h a n) : hl (sI h a g) b = hl h b := by
  unfold hl; rw [at_sI]
  by_cases e : b = a
  · rw [if_pos e, e, k.val]
  · rw [if_neg e]
theorem hl_sF {h : qH} {a b ci : Nat} {F : Nat → Value} (k : kO h a ci) : hl (sF h a F) b = hl h b := by
  unfold hl; rw [at_sF]
  by_cases e : b = a
  · rw [if_pos e, e, k.val]
  · rw [if_neg e]
theorem hf_sI {h : qH} {a b n : Nat} {g : Nat → Int32} (k : kI h a n) : hf (sI h a g) b = hf h b := by
  unfold hf; rw [at_sI]
  by_cases e : b = a
  · rw [if_pos e, e, k.val]
  · rw [if_neg e]
theorem hf_sL {h : qH} {a b n : Nat} {g : Nat → Int64} (k : kL h a n) : hf (sL h a g) b = hf h b := by
  unfold hf; rw [at_sL]
  by_cases e : b = a
  · rw [if_pos e, e, k.val]
  · rw [if_neg e]
/-- the kinds of all cells stay -/
def hKd (h h' : qH) : Prop := h'.2 = h.2 ∧ (∀ a n, kI h a n → kI h' a n) ∧ (∀ a n, kL h a n → kL h' a n) ∧ (∀ t a n, kR h t a n → kR h' t a n) ∧ (∀ a ci, kO h a ci → kO h' a ci)
theorem hKd.rfl' (h : qH) : hKd h h := ⟨rfl, fun _ _ k => k, fun _ _ k => k, fun _ _ _ k => k, fun _ _ k => k⟩
theorem hKd.trans {h h1 h2 : qH} (a : hKd h h1) (b : hKd h1 h2) : hKd h h2 := ⟨b.1.trans a.1, fun x n k => b.2.1 x n (a.2.1 x n k), fun x n k => b.2.2.1 x n (a.2.2.1 x n k), fun t x n k => b.2.2.2.1 t x n (a.2.2.2.1 t x n k), fun x n k => b.2.2.2.2 x n (a.2.2.2.2 x n k)⟩
theorem hKd_sI {h : qH} {a n : Nat} {g : Nat → Int32} (k : kI h a n) : hKd h (sI h a g) := by
  have hv := k.val
  have hz : hlen h a = n := by unfold hlen; rw [hv]
  refine ⟨rfl, fun x m q => ?_, fun x m q => ?_, fun t x m q => ?_, fun x m q => ?_⟩
  · obtain ⟨q1, f, q2⟩ := q
    by_cases e : x = a
    · subst e; rw [hv] at q2; cases q2; exact ⟨q1, g, by rw [at_sI, if_pos rfl, hz]⟩
    · exact ⟨q1, f, by rw [at_sI, if_neg e]; exact q2⟩
  all_goals
    obtain ⟨q1, f, q2⟩ := q
    exact ⟨q1, f, by rw [at_sI, if_neg (fun e => by subst e; rw [hv] at q2; cases q2)]; exact q2⟩
theorem hKd_sL {h : qH} {a n : Nat} {g : Nat → Int64} (k : kL h a n) : hKd h (sL h a g) := by
  have hv := k.val
  have hz : hlen h a = n := by unfold hlen; rw [hv]
  refine ⟨rfl, fun x m q => ?_, fun x m q => ?_, fun t x m q => ?_, fun x m q => ?_⟩
  rotate_left
  · obtain ⟨q1, f, q2⟩ := q
    by_cases e : x = a
    · subst e; rw [hv] at q2; cases q2; exact ⟨q1, g, by rw [at_sL, if_pos rfl, hz]⟩
    · exact ⟨q1, f, by rw [at_sL, if_neg e]; exact q2⟩
  all_goals
    obtain ⟨q1, f, q2⟩ := q
    exact ⟨q1, f, by rw [at_sL, if_neg (fun e => by subst e; rw [hv] at q2; cases q2)]; exact q2⟩
theorem hKd_sF {h : qH} {a ci : Nat} {F : Nat → Value} (k : kO h a ci) : hKd h (sF h a F) := by
  have hv := k.val
  have hz : hcls h a = ci := by unfold hcls; rw [hv]
  refine ⟨rfl, fun x m q => ?_, fun x m q => ?_, fun t x m q => ?_, fun x m q => ?_⟩
  rotate_left 3
  · obtain ⟨q1, f, q2⟩ := q
    by_cases e : x = a
    · subst e; rw [hv] at q2; cases q2; exact ⟨q1, F, by rw [at_sF, if_pos rfl, hz]⟩
    · exact ⟨q1, f, by rw [at_sF, if_neg e]; exact q2⟩
  all_goals
    obtain ⟨q1, f, q2⟩ := q
    exact ⟨q1, f, by rw [at_sF, if_neg (fun e => by subst e; rw [hv] at q2; cases q2)]; exact q2⟩
/-! the reference's cells: the object at 55, its rows behind it -/
def vI : Value → Int32
  | .int x => x
  | _ => 0
def vL : Value → Int64
  | .long x => x
  | _ => 0
/-- an int field of the reference -/
def mi (h : qH) (j : Nat) : Int32 := vI (hf h 55 j)
def mI (h : qH) (j : Nat) (x : Int32) : qH := sF h 55 (qfu (hf h 55) j (.int x))
def mw (h : qH) : Int64 := vL (hf h 55 60)
def mW (h : qH) (x : Int64) : qH := sF h 55 (qfu (hf h 55) 60 (.long x))
def MIs : List (Nat × Nat) := [(56, 24), (57, 24), (58, 24), (59, 1536), (60, 96), (61, 19968), (63, 1024), (64, 2000), (67, 4), (68, 256), (69, 2000), (70, 64), (73, 4), (75, 208), (76, 208), (77, 4096), (78, 4096), (79, 17), (80, 24), (81, 104), (82, 16), (83, 4), (85, 17), (86, 4000), (87, 4000), (88, 4000), (89, 4000), (91, 4), (92, 4), (93, 160), (94, 32), (95, 480), (96, 32)]
def MLs : List (Nat × Nat) := [(62, 12480), (65, 10000), (66, 5), (71, 1024), (72, 256), (74, 16), (84, 16), (90, 16)]
def MFs : List (Nat × Nat) := [(1, 56), (2, 57), (3, 58), (4, 59), (5, 60), (6, 61), (7, 62), (10, 63), (12, 64), (13, 65), (14, 66), (15, 67), (16, 68), (17, 69), (19, 70), (20, 71), (21, 72), (23, 73), (24, 74), (26, 75), (27, 76), (29, 77), (30, 78), (31, 79), (34, 80), (36, 81), (37, 82), (38, 83), (39, 84), (40, 85), (42, 86), (44, 87), (45, 88), (46, 89), (47, 90), (48, 91), (49, 92), (50, 93), (55, 94), (57, 95), (59, 96)]
def MJs : List Nat := [0, 8, 9, 11, 18, 22, 25, 28, 32, 33, 35, 41, 43, 51, 52, 53, 54, 56, 58, 61, 62]
/-- the reference's cells are of their kinds -/
def ShM (h : qH) : Prop := kO h 55 11 ∧ (∀ q ∈ MIs, kI h q.1 q.2) ∧ (∀ q ∈ MLs, kL h q.1 q.2) ∧ (∀ q ∈ MFs, hf h 55 q.1 = .ref q.2) ∧ (∀ j ∈ MJs, ∃ x, hf h 55 j = .int x) ∧ ∃ x, hf h 55 60 = .long x
theorem vM1 {h : qH} (s : ShM h) : 55 < h.2.1 ↔ True := ⟨fun _ => trivial, fun _ => s.1.1.2⟩
theorem vM2 {h : qH} (s : ShM h) : (∃ F, h.1 55 = .inr (11, F)) ↔ True := ⟨fun _ => trivial, fun _ => s.1.2⟩
theorem ShM.get {h : qH} {j : Nat} (s : ShM h) (hj : j < 63) : qget h 55 11 j = some (hf h 55 j) := rdO s.1 hj
theorem ShM.int {h : qH} {j : Nat} (s : ShM h) (hj : j ∈ MJs) : hf h 55 j = .int (mi h j) := by
  obtain ⟨x, e⟩ := s.2.2.2.2.1 j hj
  unfold mi; rw [e]; rfl
theorem ShM.word {h : qH} (s : ShM h) : hf h 55 60 = .long (mw h) := by
  obtain ⟨x, e⟩ := s.2.2.2.2.2
  unfold mw; rw [e]; rfl
theorem ShM.rowI {h : qH} {a n : Nat} {g : Nat → Int32} (s : ShM h) (k : kI h a n) : ShM (sI h a g) := by
  have hk := hKd_sI (g := g) k
  refine ⟨hk.2.2.2.2 _ _ s.1, fun q hq => hk.2.1 _ _ (s.2.1 q hq), fun q hq => hk.2.2.1 _ _ (s.2.2.1 q hq), ?_⟩
  rw [hf_sI k]; exact s.2.2.2
theorem ShM.rowL {h : qH} {a n : Nat} {g : Nat → Int64} (s : ShM h) (k : kL h a n) : ShM (sL h a g) := by
  have hk := hKd_sL (g := g) k
  refine ⟨hk.2.2.2.2 _ _ s.1, fun q hq => hk.2.1 _ _ (s.2.1 q hq), fun q hq => hk.2.2.1 _ _ (s.2.2.1 q hq), ?_⟩
  rw [hf_sL k]; exact s.2.2.2
theorem MJs_F : ∀ j ∈ MJs, ∀ q ∈ MFs, q.1 ≠ j := by decide
theorem ShM.setI {h : qH} {j : Nat} {x : Int32} (s : ShM h) (hj : j ∈ MJs) : ShM (mI h j x) := by
  have hk := hKd_sF (F := qfu (hf h 55) j (.int x)) s.1
  refine ⟨hk.2.2.2.2 _ _ s.1, fun q hq => hk.2.1 _ _ (s.2.1 q hq), fun q hq => hk.2.2.1 _ _ (s.2.2.1 q hq), ?_⟩
  unfold mI
  rw [hf_sF, if_pos rfl]
  refine ⟨fun q hq => ?_, fun i hi' => ?_, ?_⟩
  · show (if q.1 = j then _ else _) = _
    rw [if_neg (MJs_F j hj q hq)]; exact s.2.2.2.1 q hq
  · show ∃ y, (if i = j then _ else _) = _
    by_cases e : i = j
    · exact ⟨x, by rw [if_pos e]⟩
    · rw [if_neg e]; exact s.2.2.2.2.1 i hi'
  · show ∃ y, (if 60 = j then _ else _) = _
    rw [if_neg (fun e => by subst e; exact absurd hj (by decide))]; exact s.2.2.2.2.2
theorem ShM.setW {h : qH} {x : Int64} (s : ShM h) : ShM (mW h x) := by
  have hk := hKd_sF (F := qfu (hf h 55) 60 (.long x)) s.1
  refine ⟨hk.2.2.2.2 _ _ s.1, fun q hq => hk.2.1 _ _ (s.2.1 q hq), fun q hq => hk.2.2.1 _ _ (s.2.2.1 q hq), ?_⟩
  unfold mW
  rw [hf_sF, if_pos rfl]
  refine ⟨fun q hq => ?_, fun i hi' => ?_, x, ?_⟩
  · show (if q.1 = 60 then _ else _) = _
    rw [if_neg (fun e => absurd (List.mem_map_of_mem (f := Prod.fst) hq) (by rw [e]; decide))]; exact s.2.2.2.1 q hq
  · show ∃ y, (if i = 60 then _ else _) = _
    rw [if_neg (fun e => by subst e; exact absurd hi' (by decide))]; exact s.2.2.2.2.1 i hi'
  · rfl
theorem ShM.put {h : qH} {j : Nat} {x : Int32} (s : ShM h) (hj : j < 63) : qput h 55 11 j (.int x) = some (mI h j x) := wrO s.1 hj
theorem ShM.putW {h : qH} {x : Int64} (s : ShM h) : qput h 55 11 60 (.long x) = some (mW h x) := wrO s.1 (by decide)
theorem mi_mI {h : qH} {j k : Nat} {x : Int32} : mi (mI h j x) k = if k = j then x else mi h k := by
  unfold mi mI; rw [hf_sF, if_pos rfl]
  show vI (if k = j then _ else _) = _
  by_cases e : k = j
  · rw [if_pos e, if_pos e]; rfl
  · rw [if_neg e, if_neg e]
theorem mi_sI {h : qH} {a n j : Nat} {g : Nat → Int32} (k : kI h a n) : mi (sI h a g) j = mi h j := by unfold mi; rw [hf_sI k]
theorem mi_sL {h : qH} {a n j : Nat} {g : Nat → Int64} (k : kL h a n) : mi (sL h a g) j = mi h j := by unfold mi; rw [hf_sL k]
theorem hi_mI {h : qH} {j b : Nat} {x : Int32} (s : ShM h) : hi (mI h j x) b = hi h b := hi_sF s.1
theorem hl_mI {h : qH} {j b : Nat} {x : Int32} (s : ShM h) : hl (mI h j x) b = hl h b := hl_sF s.1
theorem kM_56 {h : qH} (s : ShM h) : kI h 56 24 := s.2.1 (56, 24) (by decide)
theorem rM_56 {h : qH} {i : Nat} (s : ShM h) (hi' : i < 24) : qiald h 56 (iN i) = some (hi h 56 i) := rdI (kM_56 s) hi'
theorem wM_56 {h : qH} {i : Nat} {x : Int32} (s : ShM h) (hi' : i < 24) : qiast h 56 (iN i) x = some (sI h 56 (upd (hi h 56) i x)) := wrI (kM_56 s) hi'
theorem kM_57 {h : qH} (s : ShM h) : kI h 57 24 := s.2.1 (57, 24) (by decide)
theorem rM_57 {h : qH} {i : Nat} (s : ShM h) (hi' : i < 24) : qiald h 57 (iN i) = some (hi h 57 i) := rdI (kM_57 s) hi'
theorem wM_57 {h : qH} {i : Nat} {x : Int32} (s : ShM h) (hi' : i < 24) : qiast h 57 (iN i) x = some (sI h 57 (upd (hi h 57) i x)) := wrI (kM_57 s) hi'
theorem kM_58 {h : qH} (s : ShM h) : kI h 58 24 := s.2.1 (58, 24) (by decide)
theorem rM_58 {h : qH} {i : Nat} (s : ShM h) (hi' : i < 24) : qiald h 58 (iN i) = some (hi h 58 i) := rdI (kM_58 s) hi'
theorem wM_58 {h : qH} {i : Nat} {x : Int32} (s : ShM h) (hi' : i < 24) : qiast h 58 (iN i) x = some (sI h 58 (upd (hi h 58) i x)) := wrI (kM_58 s) hi'
theorem kM_59 {h : qH} (s : ShM h) : kI h 59 1536 := s.2.1 (59, 1536) (by decide)
theorem rM_59 {h : qH} {i : Nat} (s : ShM h) (hi' : i < 1536) : qiald h 59 (iN i) = some (hi h 59 i) := rdI (kM_59 s) hi'
theorem wM_59 {h : qH} {i : Nat} {x : Int32} (s : ShM h) (hi' : i < 1536) : qiast h 59 (iN i) x = some (sI h 59 (upd (hi h 59) i x)) := wrI (kM_59 s) hi'
theorem kM_60 {h : qH} (s : ShM h) : kI h 60 96 := s.2.1 (60, 96) (by decide)
theorem rM_60 {h : qH} {i : Nat} (s : ShM h) (hi' : i < 96) : qiald h 60 (iN i) = some (hi h 60 i) := rdI (kM_60 s) hi'
theorem wM_60 {h : qH} {i : Nat} {x : Int32} (s : ShM h) (hi' : i < 96) : qiast h 60 (iN i) x = some (sI h 60 (upd (hi h 60) i x)) := wrI (kM_60 s) hi'
theorem kM_61 {h : qH} (s : ShM h) : kI h 61 19968 := s.2.1 (61, 19968) (by decide)
theorem rM_61 {h : qH} {i : Nat} (s : ShM h) (hi' : i < 19968) : qiald h 61 (iN i) = some (hi h 61 i) := rdI (kM_61 s) hi'
theorem wM_61 {h : qH} {i : Nat} {x : Int32} (s : ShM h) (hi' : i < 19968) : qiast h 61 (iN i) x = some (sI h 61 (upd (hi h 61) i x)) := wrI (kM_61 s) hi'
theorem kM_62 {h : qH} (s : ShM h) : kL h 62 12480 := s.2.2.1 (62, 12480) (by decide)
theorem rM_62 {h : qH} {i : Nat} (s : ShM h) (hi' : i < 12480) : qlald h 62 (iN i) = some (hl h 62 i) := rdL (kM_62 s) hi'
theorem wM_62 {h : qH} {i : Nat} {x : Int64} (s : ShM h) (hi' : i < 12480) : qlast h 62 (iN i) x = some (sL h 62 (vp_updL (hl h 62) i x)) := wrL (kM_62 s) hi'
theorem kM_63 {h : qH} (s : ShM h) : kI h 63 1024 := s.2.1 (63, 1024) (by decide)
theorem rM_63 {h : qH} {i : Nat} (s : ShM h) (hi' : i < 1024) : qiald h 63 (iN i) = some (hi h 63 i) := rdI (kM_63 s) hi'
theorem wM_63 {h : qH} {i : Nat} {x : Int32} (s : ShM h) (hi' : i < 1024) : qiast h 63 (iN i) x = some (sI h 63 (upd (hi h 63) i x)) := wrI (kM_63 s) hi'
theorem kM_64 {h : qH} (s : ShM h) : kI h 64 2000 := s.2.1 (64, 2000) (by decide)
theorem rM_64 {h : qH} {i : Nat} (s : ShM h) (hi' : i < 2000) : qiald h 64 (iN i) = some (hi h 64 i) := rdI (kM_64 s) hi'
theorem wM_64 {h : qH} {i : Nat} {x : Int32} (s : ShM h) (hi' : i < 2000) : qiast h 64 (iN i) x = some (sI h 64 (upd (hi h 64) i x)) := wrI (kM_64 s) hi'
theorem kM_65 {h : qH} (s : ShM h) : kL h 65 10000 := s.2.2.1 (65, 10000) (by decide)
theorem rM_65 {h : qH} {i : Nat} (s : ShM h) (hi' : i < 10000) : qlald h 65 (iN i) = some (hl h 65 i) := rdL (kM_65 s) hi'
theorem wM_65 {h : qH} {i : Nat} {x : Int64} (s : ShM h) (hi' : i < 10000) : qlast h 65 (iN i) x = some (sL h 65 (vp_updL (hl h 65) i x)) := wrL (kM_65 s) hi'
theorem kM_66 {h : qH} (s : ShM h) : kL h 66 5 := s.2.2.1 (66, 5) (by decide)
theorem rM_66 {h : qH} {i : Nat} (s : ShM h) (hi' : i < 5) : qlald h 66 (iN i) = some (hl h 66 i) := rdL (kM_66 s) hi'
theorem wM_66 {h : qH} {i : Nat} {x : Int64} (s : ShM h) (hi' : i < 5) : qlast h 66 (iN i) x = some (sL h 66 (vp_updL (hl h 66) i x)) := wrL (kM_66 s) hi'
theorem kM_67 {h : qH} (s : ShM h) : kI h 67 4 := s.2.1 (67, 4) (by decide)
theorem rM_67 {h : qH} {i : Nat} (s : ShM h) (hi' : i < 4) : qiald h 67 (iN i) = some (hi h 67 i) := rdI (kM_67 s) hi'
theorem wM_67 {h : qH} {i : Nat} {x : Int32} (s : ShM h) (hi' : i < 4) : qiast h 67 (iN i) x = some (sI h 67 (upd (hi h 67) i x)) := wrI (kM_67 s) hi'
theorem kM_68 {h : qH} (s : ShM h) : kI h 68 256 := s.2.1 (68, 256) (by decide)
theorem rM_68 {h : qH} {i : Nat} (s : ShM h) (hi' : i < 256) : qiald h 68 (iN i) = some (hi h 68 i) := rdI (kM_68 s) hi'
theorem wM_68 {h : qH} {i : Nat} {x : Int32} (s : ShM h) (hi' : i < 256) : qiast h 68 (iN i) x = some (sI h 68 (upd (hi h 68) i x)) := wrI (kM_68 s) hi'
theorem kM_69 {h : qH} (s : ShM h) : kI h 69 2000 := s.2.1 (69, 2000) (by decide)
theorem rM_69 {h : qH} {i : Nat} (s : ShM h) (hi' : i < 2000) : qiald h 69 (iN i) = some (hi h 69 i) := rdI (kM_69 s) hi'
theorem wM_69 {h : qH} {i : Nat} {x : Int32} (s : ShM h) (hi' : i < 2000) : qiast h 69 (iN i) x = some (sI h 69 (upd (hi h 69) i x)) := wrI (kM_69 s) hi'
theorem kM_70 {h : qH} (s : ShM h) : kI h 70 64 := s.2.1 (70, 64) (by decide)
theorem rM_70 {h : qH} {i : Nat} (s : ShM h) (hi' : i < 64) : qiald h 70 (iN i) = some (hi h 70 i) := rdI (kM_70 s) hi'
theorem wM_70 {h : qH} {i : Nat} {x : Int32} (s : ShM h) (hi' : i < 64) : qiast h 70 (iN i) x = some (sI h 70 (upd (hi h 70) i x)) := wrI (kM_70 s) hi'
theorem kM_71 {h : qH} (s : ShM h) : kL h 71 1024 := s.2.2.1 (71, 1024) (by decide)
theorem rM_71 {h : qH} {i : Nat} (s : ShM h) (hi' : i < 1024) : qlald h 71 (iN i) = some (hl h 71 i) := rdL (kM_71 s) hi'
theorem wM_71 {h : qH} {i : Nat} {x : Int64} (s : ShM h) (hi' : i < 1024) : qlast h 71 (iN i) x = some (sL h 71 (vp_updL (hl h 71) i x)) := wrL (kM_71 s) hi'
theorem kM_72 {h : qH} (s : ShM h) : kL h 72 256 := s.2.2.1 (72, 256) (by decide)
theorem rM_72 {h : qH} {i : Nat} (s : ShM h) (hi' : i < 256) : qlald h 72 (iN i) = some (hl h 72 i) := rdL (kM_72 s) hi'
theorem wM_72 {h : qH} {i : Nat} {x : Int64} (s : ShM h) (hi' : i < 256) : qlast h 72 (iN i) x = some (sL h 72 (vp_updL (hl h 72) i x)) := wrL (kM_72 s) hi'
theorem kM_73 {h : qH} (s : ShM h) : kI h 73 4 := s.2.1 (73, 4) (by decide)
theorem rM_73 {h : qH} {i : Nat} (s : ShM h) (hi' : i < 4) : qiald h 73 (iN i) = some (hi h 73 i) := rdI (kM_73 s) hi'
theorem wM_73 {h : qH} {i : Nat} {x : Int32} (s : ShM h) (hi' : i < 4) : qiast h 73 (iN i) x = some (sI h 73 (upd (hi h 73) i x)) := wrI (kM_73 s) hi'
theorem kM_74 {h : qH} (s : ShM h) : kL h 74 16 := s.2.2.1 (74, 16) (by decide)
theorem rM_74 {h : qH} {i : Nat} (s : ShM h) (hi' : i < 16) : qlald h 74 (iN i) = some (hl h 74 i) := rdL (kM_74 s) hi'
theorem wM_74 {h : qH} {i : Nat} {x : Int64} (s : ShM h) (hi' : i < 16) : qlast h 74 (iN i) x = some (sL h 74 (vp_updL (hl h 74) i x)) := wrL (kM_74 s) hi'
theorem kM_75 {h : qH} (s : ShM h) : kI h 75 208 := s.2.1 (75, 208) (by decide)
theorem rM_75 {h : qH} {i : Nat} (s : ShM h) (hi' : i < 208) : qiald h 75 (iN i) = some (hi h 75 i) := rdI (kM_75 s) hi'
theorem wM_75 {h : qH} {i : Nat} {x : Int32} (s : ShM h) (hi' : i < 208) : qiast h 75 (iN i) x = some (sI h 75 (upd (hi h 75) i x)) := wrI (kM_75 s) hi'
theorem kM_76 {h : qH} (s : ShM h) : kI h 76 208 := s.2.1 (76, 208) (by decide)
theorem rM_76 {h : qH} {i : Nat} (s : ShM h) (hi' : i < 208) : qiald h 76 (iN i) = some (hi h 76 i) := rdI (kM_76 s) hi'
theorem wM_76 {h : qH} {i : Nat} {x : Int32} (s : ShM h) (hi' : i < 208) : qiast h 76 (iN i) x = some (sI h 76 (upd (hi h 76) i x)) := wrI (kM_76 s) hi'
theorem kM_77 {h : qH} (s : ShM h) : kI h 77 4096 := s.2.1 (77, 4096) (by decide)
theorem rM_77 {h : qH} {i : Nat} (s : ShM h) (hi' : i < 4096) : qiald h 77 (iN i) = some (hi h 77 i) := rdI (kM_77 s) hi'
theorem wM_77 {h : qH} {i : Nat} {x : Int32} (s : ShM h) (hi' : i < 4096) : qiast h 77 (iN i) x = some (sI h 77 (upd (hi h 77) i x)) := wrI (kM_77 s) hi'
theorem kM_78 {h : qH} (s : ShM h) : kI h 78 4096 := s.2.1 (78, 4096) (by decide)
theorem rM_78 {h : qH} {i : Nat} (s : ShM h) (hi' : i < 4096) : qiald h 78 (iN i) = some (hi h 78 i) := rdI (kM_78 s) hi'
theorem wM_78 {h : qH} {i : Nat} {x : Int32} (s : ShM h) (hi' : i < 4096) : qiast h 78 (iN i) x = some (sI h 78 (upd (hi h 78) i x)) := wrI (kM_78 s) hi'
theorem kM_79 {h : qH} (s : ShM h) : kI h 79 17 := s.2.1 (79, 17) (by decide)
theorem rM_79 {h : qH} {i : Nat} (s : ShM h) (hi' : i < 17) : qiald h 79 (iN i) = some (hi h 79 i) := rdI (kM_79 s) hi'
theorem wM_79 {h : qH} {i : Nat} {x : Int32} (s : ShM h) (hi' : i < 17) : qiast h 79 (iN i) x = some (sI h 79 (upd (hi h 79) i x)) := wrI (kM_79 s) hi'
theorem kM_80 {h : qH} (s : ShM h) : kI h 80 24 := s.2.1 (80, 24) (by decide)
theorem rM_80 {h : qH} {i : Nat} (s : ShM h) (hi' : i < 24) : qiald h 80 (iN i) = some (hi h 80 i) := rdI (kM_80 s) hi'
theorem wM_80 {h : qH} {i : Nat} {x : Int32} (s : ShM h) (hi' : i < 24) : qiast h 80 (iN i) x = some (sI h 80 (upd (hi h 80) i x)) := wrI (kM_80 s) hi'
theorem kM_81 {h : qH} (s : ShM h) : kI h 81 104 := s.2.1 (81, 104) (by decide)
theorem rM_81 {h : qH} {i : Nat} (s : ShM h) (hi' : i < 104) : qiald h 81 (iN i) = some (hi h 81 i) := rdI (kM_81 s) hi'
theorem wM_81 {h : qH} {i : Nat} {x : Int32} (s : ShM h) (hi' : i < 104) : qiast h 81 (iN i) x = some (sI h 81 (upd (hi h 81) i x)) := wrI (kM_81 s) hi'
theorem kM_82 {h : qH} (s : ShM h) : kI h 82 16 := s.2.1 (82, 16) (by decide)
theorem rM_82 {h : qH} {i : Nat} (s : ShM h) (hi' : i < 16) : qiald h 82 (iN i) = some (hi h 82 i) := rdI (kM_82 s) hi'
theorem wM_82 {h : qH} {i : Nat} {x : Int32} (s : ShM h) (hi' : i < 16) : qiast h 82 (iN i) x = some (sI h 82 (upd (hi h 82) i x)) := wrI (kM_82 s) hi'
theorem kM_83 {h : qH} (s : ShM h) : kI h 83 4 := s.2.1 (83, 4) (by decide)
theorem rM_83 {h : qH} {i : Nat} (s : ShM h) (hi' : i < 4) : qiald h 83 (iN i) = some (hi h 83 i) := rdI (kM_83 s) hi'
theorem wM_83 {h : qH} {i : Nat} {x : Int32} (s : ShM h) (hi' : i < 4) : qiast h 83 (iN i) x = some (sI h 83 (upd (hi h 83) i x)) := wrI (kM_83 s) hi'
theorem kM_84 {h : qH} (s : ShM h) : kL h 84 16 := s.2.2.1 (84, 16) (by decide)
theorem rM_84 {h : qH} {i : Nat} (s : ShM h) (hi' : i < 16) : qlald h 84 (iN i) = some (hl h 84 i) := rdL (kM_84 s) hi'
theorem wM_84 {h : qH} {i : Nat} {x : Int64} (s : ShM h) (hi' : i < 16) : qlast h 84 (iN i) x = some (sL h 84 (vp_updL (hl h 84) i x)) := wrL (kM_84 s) hi'
theorem kM_85 {h : qH} (s : ShM h) : kI h 85 17 := s.2.1 (85, 17) (by decide)
theorem rM_85 {h : qH} {i : Nat} (s : ShM h) (hi' : i < 17) : qiald h 85 (iN i) = some (hi h 85 i) := rdI (kM_85 s) hi'
theorem wM_85 {h : qH} {i : Nat} {x : Int32} (s : ShM h) (hi' : i < 17) : qiast h 85 (iN i) x = some (sI h 85 (upd (hi h 85) i x)) := wrI (kM_85 s) hi'
theorem kM_86 {h : qH} (s : ShM h) : kI h 86 4000 := s.2.1 (86, 4000) (by decide)
theorem rM_86 {h : qH} {i : Nat} (s : ShM h) (hi' : i < 4000) : qiald h 86 (iN i) = some (hi h 86 i) := rdI (kM_86 s) hi'
theorem wM_86 {h : qH} {i : Nat} {x : Int32} (s : ShM h) (hi' : i < 4000) : qiast h 86 (iN i) x = some (sI h 86 (upd (hi h 86) i x)) := wrI (kM_86 s) hi'
theorem kM_87 {h : qH} (s : ShM h) : kI h 87 4000 := s.2.1 (87, 4000) (by decide)
theorem rM_87 {h : qH} {i : Nat} (s : ShM h) (hi' : i < 4000) : qiald h 87 (iN i) = some (hi h 87 i) := rdI (kM_87 s) hi'
theorem wM_87 {h : qH} {i : Nat} {x : Int32} (s : ShM h) (hi' : i < 4000) : qiast h 87 (iN i) x = some (sI h 87 (upd (hi h 87) i x)) := wrI (kM_87 s) hi'
theorem kM_88 {h : qH} (s : ShM h) : kI h 88 4000 := s.2.1 (88, 4000) (by decide)
theorem rM_88 {h : qH} {i : Nat} (s : ShM h) (hi' : i < 4000) : qiald h 88 (iN i) = some (hi h 88 i) := rdI (kM_88 s) hi'
theorem wM_88 {h : qH} {i : Nat} {x : Int32} (s : ShM h) (hi' : i < 4000) : qiast h 88 (iN i) x = some (sI h 88 (upd (hi h 88) i x)) := wrI (kM_88 s) hi'
theorem kM_89 {h : qH} (s : ShM h) : kI h 89 4000 := s.2.1 (89, 4000) (by decide)
theorem rM_89 {h : qH} {i : Nat} (s : ShM h) (hi' : i < 4000) : qiald h 89 (iN i) = some (hi h 89 i) := rdI (kM_89 s) hi'
theorem wM_89 {h : qH} {i : Nat} {x : Int32} (s : ShM h) (hi' : i < 4000) : qiast h 89 (iN i) x = some (sI h 89 (upd (hi h 89) i x)) := wrI (kM_89 s) hi'
theorem kM_90 {h : qH} (s : ShM h) : kL h 90 16 := s.2.2.1 (90, 16) (by decide)
theorem rM_90 {h : qH} {i : Nat} (s : ShM h) (hi' : i < 16) : qlald h 90 (iN i) = some (hl h 90 i) := rdL (kM_90 s) hi'
theorem wM_90 {h : qH} {i : Nat} {x : Int64} (s : ShM h) (hi' : i < 16) : qlast h 90 (iN i) x = some (sL h 90 (vp_updL (hl h 90) i x)) := wrL (kM_90 s) hi'
theorem kM_91 {h : qH} (s : ShM h) : kI h 91 4 := s.2.1 (91, 4) (by decide)
theorem rM_91 {h : qH} {i : Nat} (s : ShM h) (hi' : i < 4) : qiald h 91 (iN i) = some (hi h 91 i) := rdI (kM_91 s) hi'
theorem wM_91 {h : qH} {i : Nat} {x : Int32} (s : ShM h) (hi' : i < 4) : qiast h 91 (iN i) x = some (sI h 91 (upd (hi h 91) i x)) := wrI (kM_91 s) hi'
theorem kM_92 {h : qH} (s : ShM h) : kI h 92 4 := s.2.1 (92, 4) (by decide)
theorem rM_92 {h : qH} {i : Nat} (s : ShM h) (hi' : i < 4) : qiald h 92 (iN i) = some (hi h 92 i) := rdI (kM_92 s) hi'
theorem wM_92 {h : qH} {i : Nat} {x : Int32} (s : ShM h) (hi' : i < 4) : qiast h 92 (iN i) x = some (sI h 92 (upd (hi h 92) i x)) := wrI (kM_92 s) hi'
theorem kM_93 {h : qH} (s : ShM h) : kI h 93 160 := s.2.1 (93, 160) (by decide)
theorem rM_93 {h : qH} {i : Nat} (s : ShM h) (hi' : i < 160) : qiald h 93 (iN i) = some (hi h 93 i) := rdI (kM_93 s) hi'
theorem wM_93 {h : qH} {i : Nat} {x : Int32} (s : ShM h) (hi' : i < 160) : qiast h 93 (iN i) x = some (sI h 93 (upd (hi h 93) i x)) := wrI (kM_93 s) hi'
theorem kM_94 {h : qH} (s : ShM h) : kI h 94 32 := s.2.1 (94, 32) (by decide)
theorem rM_94 {h : qH} {i : Nat} (s : ShM h) (hi' : i < 32) : qiald h 94 (iN i) = some (hi h 94 i) := rdI (kM_94 s) hi'
theorem wM_94 {h : qH} {i : Nat} {x : Int32} (s : ShM h) (hi' : i < 32) : qiast h 94 (iN i) x = some (sI h 94 (upd (hi h 94) i x)) := wrI (kM_94 s) hi'
theorem kM_95 {h : qH} (s : ShM h) : kI h 95 480 := s.2.1 (95, 480) (by decide)
theorem rM_95 {h : qH} {i : Nat} (s : ShM h) (hi' : i < 480) : qiald h 95 (iN i) = some (hi h 95 i) := rdI (kM_95 s) hi'
theorem wM_95 {h : qH} {i : Nat} {x : Int32} (s : ShM h) (hi' : i < 480) : qiast h 95 (iN i) x = some (sI h 95 (upd (hi h 95) i x)) := wrI (kM_95 s) hi'
theorem kM_96 {h : qH} (s : ShM h) : kI h 96 32 := s.2.1 (96, 32) (by decide)
theorem rM_96 {h : qH} {i : Nat} (s : ShM h) (hi' : i < 32) : qiald h 96 (iN i) = some (hi h 96 i) := rdI (kM_96 s) hi'
theorem wM_96 {h : qH} {i : Nat} {x : Int32} (s : ShM h) (hi' : i < 32) : qiast h 96 (iN i) x = some (sI h 96 (upd (hi h 96) i x)) := wrI (kM_96 s) hi'
theorem rC_56 {h : qH} {i : Nat} (s : ShM h) (hi' : (OfNat.ofNat i : Nat) < 24) : qiald h 56 (no_index (OfNat.ofNat i)) = some (hi h 56 (OfNat.ofNat i)) := rM_56 s hi'
theorem wC_56 {h : qH} {i : Nat} {x : Int32} (s : ShM h) (hi' : (OfNat.ofNat i : Nat) < 24) : qiast h 56 (no_index (OfNat.ofNat i)) x = some (sI h 56 (upd (hi h 56) (OfNat.ofNat i) x)) := wM_56 s hi'
theorem rC_57 {h : qH} {i : Nat} (s : ShM h) (hi' : (OfNat.ofNat i : Nat) < 24) : qiald h 57 (no_index (OfNat.ofNat i)) = some (hi h 57 (OfNat.ofNat i)) := rM_57 s hi'
theorem wC_57 {h : qH} {i : Nat} {x : Int32} (s : ShM h) (hi' : (OfNat.ofNat i : Nat) < 24) : qiast h 57 (no_index (OfNat.ofNat i)) x = some (sI h 57 (upd (hi h 57) (OfNat.ofNat i) x)) := wM_57 s hi'
theorem rC_58 {h : qH} {i : Nat} (s : ShM h) (hi' : (OfNat.ofNat i : Nat) < 24) : qiald h 58 (no_index (OfNat.ofNat i)) = some (hi h 58 (OfNat.ofNat i)) := rM_58 s hi'
theorem wC_58 {h : qH} {i : Nat} {x : Int32} (s : ShM h) (hi' : (OfNat.ofNat i : Nat) < 24) : qiast h 58 (no_index (OfNat.ofNat i)) x = some (sI h 58 (upd (hi h 58) (OfNat.ofNat i) x)) := wM_58 s hi'
theorem rC_59 {h : qH} {i : Nat} (s : ShM h) (hi' : (OfNat.ofNat i : Nat) < 1536) : qiald h 59 (no_index (OfNat.ofNat i)) = some (hi h 59 (OfNat.ofNat i)) := rM_59 s hi'
theorem wC_59 {h : qH} {i : Nat} {x : Int32} (s : ShM h) (hi' : (OfNat.ofNat i : Nat) < 1536) : qiast h 59 (no_index (OfNat.ofNat i)) x = some (sI h 59 (upd (hi h 59) (OfNat.ofNat i) x)) := wM_59 s hi'
theorem rC_60 {h : qH} {i : Nat} (s : ShM h) (hi' : (OfNat.ofNat i : Nat) < 96) : qiald h 60 (no_index (OfNat.ofNat i)) = some (hi h 60 (OfNat.ofNat i)) := rM_60 s hi'
theorem wC_60 {h : qH} {i : Nat} {x : Int32} (s : ShM h) (hi' : (OfNat.ofNat i : Nat) < 96) : qiast h 60 (no_index (OfNat.ofNat i)) x = some (sI h 60 (upd (hi h 60) (OfNat.ofNat i) x)) := wM_60 s hi'
theorem rC_61 {h : qH} {i : Nat} (s : ShM h) (hi' : (OfNat.ofNat i : Nat) < 19968) : qiald h 61 (no_index (OfNat.ofNat i)) = some (hi h 61 (OfNat.ofNat i)) := rM_61 s hi'
theorem wC_61 {h : qH} {i : Nat} {x : Int32} (s : ShM h) (hi' : (OfNat.ofNat i : Nat) < 19968) : qiast h 61 (no_index (OfNat.ofNat i)) x = some (sI h 61 (upd (hi h 61) (OfNat.ofNat i) x)) := wM_61 s hi'
theorem rC_62 {h : qH} {i : Nat} (s : ShM h) (hi' : (OfNat.ofNat i : Nat) < 12480) : qlald h 62 (no_index (OfNat.ofNat i)) = some (hl h 62 (OfNat.ofNat i)) := rM_62 s hi'
theorem wC_62 {h : qH} {i : Nat} {x : Int64} (s : ShM h) (hi' : (OfNat.ofNat i : Nat) < 12480) : qlast h 62 (no_index (OfNat.ofNat i)) x = some (sL h 62 (vp_updL (hl h 62) (OfNat.ofNat i) x)) := wM_62 s hi'
theorem rC_63 {h : qH} {i : Nat} (s : ShM h) (hi' : (OfNat.ofNat i : Nat) < 1024) : qiald h 63 (no_index (OfNat.ofNat i)) = some (hi h 63 (OfNat.ofNat i)) := rM_63 s hi'
theorem wC_63 {h : qH} {i : Nat} {x : Int32} (s : ShM h) (hi' : (OfNat.ofNat i : Nat) < 1024) : qiast h 63 (no_index (OfNat.ofNat i)) x = some (sI h 63 (upd (hi h 63) (OfNat.ofNat i) x)) := wM_63 s hi'
theorem rC_64 {h : qH} {i : Nat} (s : ShM h) (hi' : (OfNat.ofNat i : Nat) < 2000) : qiald h 64 (no_index (OfNat.ofNat i)) = some (hi h 64 (OfNat.ofNat i)) := rM_64 s hi'
theorem wC_64 {h : qH} {i : Nat} {x : Int32} (s : ShM h) (hi' : (OfNat.ofNat i : Nat) < 2000) : qiast h 64 (no_index (OfNat.ofNat i)) x = some (sI h 64 (upd (hi h 64) (OfNat.ofNat i) x)) := wM_64 s hi'
theorem rC_65 {h : qH} {i : Nat} (s : ShM h) (hi' : (OfNat.ofNat i : Nat) < 10000) : qlald h 65 (no_index (OfNat.ofNat i)) = some (hl h 65 (OfNat.ofNat i)) := rM_65 s hi'
theorem wC_65 {h : qH} {i : Nat} {x : Int64} (s : ShM h) (hi' : (OfNat.ofNat i : Nat) < 10000) : qlast h 65 (no_index (OfNat.ofNat i)) x = some (sL h 65 (vp_updL (hl h 65) (OfNat.ofNat i) x)) := wM_65 s hi'
theorem rC_66 {h : qH} {i : Nat} (s : ShM h) (hi' : (OfNat.ofNat i : Nat) < 5) : qlald h 66 (no_index (OfNat.ofNat i)) = some (hl h 66 (OfNat.ofNat i)) := rM_66 s hi'
theorem wC_66 {h : qH} {i : Nat} {x : Int64} (s : ShM h) (hi' : (OfNat.ofNat i : Nat) < 5) : qlast h 66 (no_index (OfNat.ofNat i)) x = some (sL h 66 (vp_updL (hl h 66) (OfNat.ofNat i) x)) := wM_66 s hi'
theorem rC_67 {h : qH} {i : Nat} (s : ShM h) (hi' : (OfNat.ofNat i : Nat) < 4) : qiald h 67 (no_index (OfNat.ofNat i)) = some (hi h 67 (OfNat.ofNat i)) := rM_67 s hi'
theorem wC_67 {h : qH} {i : Nat} {x : Int32} (s : ShM h) (hi' : (OfNat.ofNat i : Nat) < 4) : qiast h 67 (no_index (OfNat.ofNat i)) x = some (sI h 67 (upd (hi h 67) (OfNat.ofNat i) x)) := wM_67 s hi'
theorem rC_68 {h : qH} {i : Nat} (s : ShM h) (hi' : (OfNat.ofNat i : Nat) < 256) : qiald h 68 (no_index (OfNat.ofNat i)) = some (hi h 68 (OfNat.ofNat i)) := rM_68 s hi'
theorem wC_68 {h : qH} {i : Nat} {x : Int32} (s : ShM h) (hi' : (OfNat.ofNat i : Nat) < 256) : qiast h 68 (no_index (OfNat.ofNat i)) x = some (sI h 68 (upd (hi h 68) (OfNat.ofNat i) x)) := wM_68 s hi'
theorem rC_69 {h : qH} {i : Nat} (s : ShM h) (hi' : (OfNat.ofNat i : Nat) < 2000) : qiald h 69 (no_index (OfNat.ofNat i)) = some (hi h 69 (OfNat.ofNat i)) := rM_69 s hi'
theorem wC_69 {h : qH} {i : Nat} {x : Int32} (s : ShM h) (hi' : (OfNat.ofNat i : Nat) < 2000) : qiast h 69 (no_index (OfNat.ofNat i)) x = some (sI h 69 (upd (hi h 69) (OfNat.ofNat i) x)) := wM_69 s hi'
theorem rC_70 {h : qH} {i : Nat} (s : ShM h) (hi' : (OfNat.ofNat i : Nat) < 64) : qiald h 70 (no_index (OfNat.ofNat i)) = some (hi h 70 (OfNat.ofNat i)) := rM_70 s hi'
theorem wC_70 {h : qH} {i : Nat} {x : Int32} (s : ShM h) (hi' : (OfNat.ofNat i : Nat) < 64) : qiast h 70 (no_index (OfNat.ofNat i)) x = some (sI h 70 (upd (hi h 70) (OfNat.ofNat i) x)) := wM_70 s hi'
theorem rC_71 {h : qH} {i : Nat} (s : ShM h) (hi' : (OfNat.ofNat i : Nat) < 1024) : qlald h 71 (no_index (OfNat.ofNat i)) = some (hl h 71 (OfNat.ofNat i)) := rM_71 s hi'
theorem wC_71 {h : qH} {i : Nat} {x : Int64} (s : ShM h) (hi' : (OfNat.ofNat i : Nat) < 1024) : qlast h 71 (no_index (OfNat.ofNat i)) x = some (sL h 71 (vp_updL (hl h 71) (OfNat.ofNat i) x)) := wM_71 s hi'
theorem rC_72 {h : qH} {i : Nat} (s : ShM h) (hi' : (OfNat.ofNat i : Nat) < 256) : qlald h 72 (no_index (OfNat.ofNat i)) = some (hl h 72 (OfNat.ofNat i)) := rM_72 s hi'
theorem wC_72 {h : qH} {i : Nat} {x : Int64} (s : ShM h) (hi' : (OfNat.ofNat i : Nat) < 256) : qlast h 72 (no_index (OfNat.ofNat i)) x = some (sL h 72 (vp_updL (hl h 72) (OfNat.ofNat i) x)) := wM_72 s hi'
theorem rC_73 {h : qH} {i : Nat} (s : ShM h) (hi' : (OfNat.ofNat i : Nat) < 4) : qiald h 73 (no_index (OfNat.ofNat i)) = some (hi h 73 (OfNat.ofNat i)) := rM_73 s hi'
theorem wC_73 {h : qH} {i : Nat} {x : Int32} (s : ShM h) (hi' : (OfNat.ofNat i : Nat) < 4) : qiast h 73 (no_index (OfNat.ofNat i)) x = some (sI h 73 (upd (hi h 73) (OfNat.ofNat i) x)) := wM_73 s hi'
theorem rC_74 {h : qH} {i : Nat} (s : ShM h) (hi' : (OfNat.ofNat i : Nat) < 16) : qlald h 74 (no_index (OfNat.ofNat i)) = some (hl h 74 (OfNat.ofNat i)) := rM_74 s hi'
theorem wC_74 {h : qH} {i : Nat} {x : Int64} (s : ShM h) (hi' : (OfNat.ofNat i : Nat) < 16) : qlast h 74 (no_index (OfNat.ofNat i)) x = some (sL h 74 (vp_updL (hl h 74) (OfNat.ofNat i) x)) := wM_74 s hi'
theorem rC_75 {h : qH} {i : Nat} (s : ShM h) (hi' : (OfNat.ofNat i : Nat) < 208) : qiald h 75 (no_index (OfNat.ofNat i)) = some (hi h 75 (OfNat.ofNat i)) := rM_75 s hi'
theorem wC_75 {h : qH} {i : Nat} {x : Int32} (s : ShM h) (hi' : (OfNat.ofNat i : Nat) < 208) : qiast h 75 (no_index (OfNat.ofNat i)) x = some (sI h 75 (upd (hi h 75) (OfNat.ofNat i) x)) := wM_75 s hi'
theorem rC_76 {h : qH} {i : Nat} (s : ShM h) (hi' : (OfNat.ofNat i : Nat) < 208) : qiald h 76 (no_index (OfNat.ofNat i)) = some (hi h 76 (OfNat.ofNat i)) := rM_76 s hi'
theorem wC_76 {h : qH} {i : Nat} {x : Int32} (s : ShM h) (hi' : (OfNat.ofNat i : Nat) < 208) : qiast h 76 (no_index (OfNat.ofNat i)) x = some (sI h 76 (upd (hi h 76) (OfNat.ofNat i) x)) := wM_76 s hi'
theorem rC_77 {h : qH} {i : Nat} (s : ShM h) (hi' : (OfNat.ofNat i : Nat) < 4096) : qiald h 77 (no_index (OfNat.ofNat i)) = some (hi h 77 (OfNat.ofNat i)) := rM_77 s hi'
theorem wC_77 {h : qH} {i : Nat} {x : Int32} (s : ShM h) (hi' : (OfNat.ofNat i : Nat) < 4096) : qiast h 77 (no_index (OfNat.ofNat i)) x = some (sI h 77 (upd (hi h 77) (OfNat.ofNat i) x)) := wM_77 s hi'
theorem rC_78 {h : qH} {i : Nat} (s : ShM h) (hi' : (OfNat.ofNat i : Nat) < 4096) : qiald h 78 (no_index (OfNat.ofNat i)) = some (hi h 78 (OfNat.ofNat i)) := rM_78 s hi'
theorem wC_78 {h : qH} {i : Nat} {x : Int32} (s : ShM h) (hi' : (OfNat.ofNat i : Nat) < 4096) : qiast h 78 (no_index (OfNat.ofNat i)) x = some (sI h 78 (upd (hi h 78) (OfNat.ofNat i) x)) := wM_78 s hi'
theorem rC_79 {h : qH} {i : Nat} (s : ShM h) (hi' : (OfNat.ofNat i : Nat) < 17) : qiald h 79 (no_index (OfNat.ofNat i)) = some (hi h 79 (OfNat.ofNat i)) := rM_79 s hi'
theorem wC_79 {h : qH} {i : Nat} {x : Int32} (s : ShM h) (hi' : (OfNat.ofNat i : Nat) < 17) : qiast h 79 (no_index (OfNat.ofNat i)) x = some (sI h 79 (upd (hi h 79) (OfNat.ofNat i) x)) := wM_79 s hi'
theorem rC_80 {h : qH} {i : Nat} (s : ShM h) (hi' : (OfNat.ofNat i : Nat) < 24) : qiald h 80 (no_index (OfNat.ofNat i)) = some (hi h 80 (OfNat.ofNat i)) := rM_80 s hi'
theorem wC_80 {h : qH} {i : Nat} {x : Int32} (s : ShM h) (hi' : (OfNat.ofNat i : Nat) < 24) : qiast h 80 (no_index (OfNat.ofNat i)) x = some (sI h 80 (upd (hi h 80) (OfNat.ofNat i) x)) := wM_80 s hi'
theorem rC_81 {h : qH} {i : Nat} (s : ShM h) (hi' : (OfNat.ofNat i : Nat) < 104) : qiald h 81 (no_index (OfNat.ofNat i)) = some (hi h 81 (OfNat.ofNat i)) := rM_81 s hi'
theorem wC_81 {h : qH} {i : Nat} {x : Int32} (s : ShM h) (hi' : (OfNat.ofNat i : Nat) < 104) : qiast h 81 (no_index (OfNat.ofNat i)) x = some (sI h 81 (upd (hi h 81) (OfNat.ofNat i) x)) := wM_81 s hi'
theorem rC_82 {h : qH} {i : Nat} (s : ShM h) (hi' : (OfNat.ofNat i : Nat) < 16) : qiald h 82 (no_index (OfNat.ofNat i)) = some (hi h 82 (OfNat.ofNat i)) := rM_82 s hi'
theorem wC_82 {h : qH} {i : Nat} {x : Int32} (s : ShM h) (hi' : (OfNat.ofNat i : Nat) < 16) : qiast h 82 (no_index (OfNat.ofNat i)) x = some (sI h 82 (upd (hi h 82) (OfNat.ofNat i) x)) := wM_82 s hi'
theorem rC_83 {h : qH} {i : Nat} (s : ShM h) (hi' : (OfNat.ofNat i : Nat) < 4) : qiald h 83 (no_index (OfNat.ofNat i)) = some (hi h 83 (OfNat.ofNat i)) := rM_83 s hi'
theorem wC_83 {h : qH} {i : Nat} {x : Int32} (s : ShM h) (hi' : (OfNat.ofNat i : Nat) < 4) : qiast h 83 (no_index (OfNat.ofNat i)) x = some (sI h 83 (upd (hi h 83) (OfNat.ofNat i) x)) := wM_83 s hi'
theorem rC_84 {h : qH} {i : Nat} (s : ShM h) (hi' : (OfNat.ofNat i : Nat) < 16) : qlald h 84 (no_index (OfNat.ofNat i)) = some (hl h 84 (OfNat.ofNat i)) := rM_84 s hi'
theorem wC_84 {h : qH} {i : Nat} {x : Int64} (s : ShM h) (hi' : (OfNat.ofNat i : Nat) < 16) : qlast h 84 (no_index (OfNat.ofNat i)) x = some (sL h 84 (vp_updL (hl h 84) (OfNat.ofNat i) x)) := wM_84 s hi'
theorem rC_85 {h : qH} {i : Nat} (s : ShM h) (hi' : (OfNat.ofNat i : Nat) < 17) : qiald h 85 (no_index (OfNat.ofNat i)) = some (hi h 85 (OfNat.ofNat i)) := rM_85 s hi'
theorem wC_85 {h : qH} {i : Nat} {x : Int32} (s : ShM h) (hi' : (OfNat.ofNat i : Nat) < 17) : qiast h 85 (no_index (OfNat.ofNat i)) x = some (sI h 85 (upd (hi h 85) (OfNat.ofNat i) x)) := wM_85 s hi'
theorem rC_86 {h : qH} {i : Nat} (s : ShM h) (hi' : (OfNat.ofNat i : Nat) < 4000) : qiald h 86 (no_index (OfNat.ofNat i)) = some (hi h 86 (OfNat.ofNat i)) := rM_86 s hi'
theorem wC_86 {h : qH} {i : Nat} {x : Int32} (s : ShM h) (hi' : (OfNat.ofNat i : Nat) < 4000) : qiast h 86 (no_index (OfNat.ofNat i)) x = some (sI h 86 (upd (hi h 86) (OfNat.ofNat i) x)) := wM_86 s hi'
theorem rC_87 {h : qH} {i : Nat} (s : ShM h) (hi' : (OfNat.ofNat i : Nat) < 4000) : qiald h 87 (no_index (OfNat.ofNat i)) = some (hi h 87 (OfNat.ofNat i)) := rM_87 s hi'
theorem wC_87 {h : qH} {i : Nat} {x : Int32} (s : ShM h) (hi' : (OfNat.ofNat i : Nat) < 4000) : qiast h 87 (no_index (OfNat.ofNat i)) x = some (sI h 87 (upd (hi h 87) (OfNat.ofNat i) x)) := wM_87 s hi'
theorem rC_88 {h : qH} {i : Nat} (s : ShM h) (hi' : (OfNat.ofNat i : Nat) < 4000) : qiald h 88 (no_index (OfNat.ofNat i)) = some (hi h 88 (OfNat.ofNat i)) := rM_88 s hi'
theorem wC_88 {h : qH} {i : Nat} {x : Int32} (s : ShM h) (hi' : (OfNat.ofNat i : Nat) < 4000) : qiast h 88 (no_index (OfNat.ofNat i)) x = some (sI h 88 (upd (hi h 88) (OfNat.ofNat i) x)) := wM_88 s hi'
theorem rC_89 {h : qH} {i : Nat} (s : ShM h) (hi' : (OfNat.ofNat i : Nat) < 4000) : qiald h 89 (no_index (OfNat.ofNat i)) = some (hi h 89 (OfNat.ofNat i)) := rM_89 s hi'
theorem wC_89 {h : qH} {i : Nat} {x : Int32} (s : ShM h) (hi' : (OfNat.ofNat i : Nat) < 4000) : qiast h 89 (no_index (OfNat.ofNat i)) x = some (sI h 89 (upd (hi h 89) (OfNat.ofNat i) x)) := wM_89 s hi'
theorem rC_90 {h : qH} {i : Nat} (s : ShM h) (hi' : (OfNat.ofNat i : Nat) < 16) : qlald h 90 (no_index (OfNat.ofNat i)) = some (hl h 90 (OfNat.ofNat i)) := rM_90 s hi'
theorem wC_90 {h : qH} {i : Nat} {x : Int64} (s : ShM h) (hi' : (OfNat.ofNat i : Nat) < 16) : qlast h 90 (no_index (OfNat.ofNat i)) x = some (sL h 90 (vp_updL (hl h 90) (OfNat.ofNat i) x)) := wM_90 s hi'
theorem rC_91 {h : qH} {i : Nat} (s : ShM h) (hi' : (OfNat.ofNat i : Nat) < 4) : qiald h 91 (no_index (OfNat.ofNat i)) = some (hi h 91 (OfNat.ofNat i)) := rM_91 s hi'
theorem wC_91 {h : qH} {i : Nat} {x : Int32} (s : ShM h) (hi' : (OfNat.ofNat i : Nat) < 4) : qiast h 91 (no_index (OfNat.ofNat i)) x = some (sI h 91 (upd (hi h 91) (OfNat.ofNat i) x)) := wM_91 s hi'
theorem rC_92 {h : qH} {i : Nat} (s : ShM h) (hi' : (OfNat.ofNat i : Nat) < 4) : qiald h 92 (no_index (OfNat.ofNat i)) = some (hi h 92 (OfNat.ofNat i)) := rM_92 s hi'
theorem wC_92 {h : qH} {i : Nat} {x : Int32} (s : ShM h) (hi' : (OfNat.ofNat i : Nat) < 4) : qiast h 92 (no_index (OfNat.ofNat i)) x = some (sI h 92 (upd (hi h 92) (OfNat.ofNat i) x)) := wM_92 s hi'
theorem rC_93 {h : qH} {i : Nat} (s : ShM h) (hi' : (OfNat.ofNat i : Nat) < 160) : qiald h 93 (no_index (OfNat.ofNat i)) = some (hi h 93 (OfNat.ofNat i)) := rM_93 s hi'
theorem wC_93 {h : qH} {i : Nat} {x : Int32} (s : ShM h) (hi' : (OfNat.ofNat i : Nat) < 160) : qiast h 93 (no_index (OfNat.ofNat i)) x = some (sI h 93 (upd (hi h 93) (OfNat.ofNat i) x)) := wM_93 s hi'
theorem rC_94 {h : qH} {i : Nat} (s : ShM h) (hi' : (OfNat.ofNat i : Nat) < 32) : qiald h 94 (no_index (OfNat.ofNat i)) = some (hi h 94 (OfNat.ofNat i)) := rM_94 s hi'
theorem wC_94 {h : qH} {i : Nat} {x : Int32} (s : ShM h) (hi' : (OfNat.ofNat i : Nat) < 32) : qiast h 94 (no_index (OfNat.ofNat i)) x = some (sI h 94 (upd (hi h 94) (OfNat.ofNat i) x)) := wM_94 s hi'
theorem rC_95 {h : qH} {i : Nat} (s : ShM h) (hi' : (OfNat.ofNat i : Nat) < 480) : qiald h 95 (no_index (OfNat.ofNat i)) = some (hi h 95 (OfNat.ofNat i)) := rM_95 s hi'
theorem wC_95 {h : qH} {i : Nat} {x : Int32} (s : ShM h) (hi' : (OfNat.ofNat i : Nat) < 480) : qiast h 95 (no_index (OfNat.ofNat i)) x = some (sI h 95 (upd (hi h 95) (OfNat.ofNat i) x)) := wM_95 s hi'
theorem rC_96 {h : qH} {i : Nat} (s : ShM h) (hi' : (OfNat.ofNat i : Nat) < 32) : qiald h 96 (no_index (OfNat.ofNat i)) = some (hi h 96 (OfNat.ofNat i)) := rM_96 s hi'
theorem wC_96 {h : qH} {i : Nat} {x : Int32} (s : ShM h) (hi' : (OfNat.ofNat i : Nat) < 32) : qiast h 96 (no_index (OfNat.ofNat i)) x = some (sI h 96 (upd (hi h 96) (OfNat.ofNat i) x)) := wM_96 s hi'
theorem sL_sL {h : qH} {a : Nat} {f g : Nat → Int64} : sL (sL h a f) a g = sL h a g := by
  have e : hlen (sL h a f) a = hlen h a := by unfold hlen; rw [at_sL, if_pos rfl]; rfl
  unfold sL at *
  rw [e]
  refine Prod.ext (funext fun b => ?_) rfl
  show (if b = a then _ else if b = a then _ else _) = if b = a then _ else _
  by_cases hb : b = a
  · rw [if_pos hb, if_pos hb]
  · rw [if_neg hb, if_neg hb, if_neg hb]
theorem sI_sI {h : qH} {a : Nat} {f g : Nat → Int32} : sI (sI h a f) a g = sI h a g := by
  have e : hlen (sI h a f) a = hlen h a := by unfold hlen; rw [at_sI, if_pos rfl]; rfl
  unfold sI at *
  rw [e]
  refine Prod.ext (funext fun b => ?_) rfl
  show (if b = a then _ else if b = a then _ else _) = if b = a then _ else _
  by_cases hb : b = a
  · rw [if_pos hb, if_pos hb]
  · rw [if_neg hb, if_neg hb, if_neg hb]
theorem sL_id {h : qH} {a n : Nat} (k : kL h a n) : sL h a (hl h a) = h := by
  have e : hlen h a = n := by unfold hlen; rw [k.val]
  refine Prod.ext (funext fun b => ?_) rfl
  show (if b = a then _ else _) = _
  by_cases hb : b = a
  · rw [if_pos hb, e, hb, ← k.val]
  · rw [if_neg hb]
theorem sI_id {h : qH} {a n : Nat} (k : kI h a n) : sI h a (hi h a) = h := by
  have e : hlen h a = n := by unfold hlen; rw [k.val]
  refine Prod.ext (funext fun b => ?_) rfl
  show (if b = a then _ else _) = _
  by_cases hb : b = a
  · rw [if_pos hb, e, hb, ← k.val]
  · rw [if_neg hb]
theorem upd_at {f : Nat → Int32} {k j : Nat} {x : Int32} : upd f k x j = if j = k then x else f j := rfl
theorem updL_at {f : Nat → Int64} {k j : Nat} {x : Int64} : vp_updL f k x j = if j = k then x else f j := rfl
theorem qfit_N0 : qfit 3 (.int (iN 0)) = true := rfl
theorem qfit_N1 : qfit 3 (.int (iN 1)) = true := rfl
theorem gM_1 {h : qH} (s : ShM h) : qget h 55 11 1 = some (.ref 56) := by rw [s.get (j := 1) (by decide), s.2.2.2.1 (1, 56) (by decide)]
theorem gM_2 {h : qH} (s : ShM h) : qget h 55 11 2 = some (.ref 57) := by rw [s.get (j := 2) (by decide), s.2.2.2.1 (2, 57) (by decide)]
theorem gM_3 {h : qH} (s : ShM h) : qget h 55 11 3 = some (.ref 58) := by rw [s.get (j := 3) (by decide), s.2.2.2.1 (3, 58) (by decide)]
theorem gM_4 {h : qH} (s : ShM h) : qget h 55 11 4 = some (.ref 59) := by rw [s.get (j := 4) (by decide), s.2.2.2.1 (4, 59) (by decide)]
theorem gM_5 {h : qH} (s : ShM h) : qget h 55 11 5 = some (.ref 60) := by rw [s.get (j := 5) (by decide), s.2.2.2.1 (5, 60) (by decide)]
theorem gM_6 {h : qH} (s : ShM h) : qget h 55 11 6 = some (.ref 61) := by rw [s.get (j := 6) (by decide), s.2.2.2.1 (6, 61) (by decide)]
theorem gM_7 {h : qH} (s : ShM h) : qget h 55 11 7 = some (.ref 62) := by rw [s.get (j := 7) (by decide), s.2.2.2.1 (7, 62) (by decide)]
theorem gM_10 {h : qH} (s : ShM h) : qget h 55 11 10 = some (.ref 63) := by rw [s.get (j := 10) (by decide), s.2.2.2.1 (10, 63) (by decide)]
theorem gM_12 {h : qH} (s : ShM h) : qget h 55 11 12 = some (.ref 64) := by rw [s.get (j := 12) (by decide), s.2.2.2.1 (12, 64) (by decide)]
theorem gM_13 {h : qH} (s : ShM h) : qget h 55 11 13 = some (.ref 65) := by rw [s.get (j := 13) (by decide), s.2.2.2.1 (13, 65) (by decide)]
theorem gM_14 {h : qH} (s : ShM h) : qget h 55 11 14 = some (.ref 66) := by rw [s.get (j := 14) (by decide), s.2.2.2.1 (14, 66) (by decide)]
theorem gM_15 {h : qH} (s : ShM h) : qget h 55 11 15 = some (.ref 67) := by rw [s.get (j := 15) (by decide), s.2.2.2.1 (15, 67) (by decide)]
theorem gM_16 {h : qH} (s : ShM h) : qget h 55 11 16 = some (.ref 68) := by rw [s.get (j := 16) (by decide), s.2.2.2.1 (16, 68) (by decide)]
theorem gM_17 {h : qH} (s : ShM h) : qget h 55 11 17 = some (.ref 69) := by rw [s.get (j := 17) (by decide), s.2.2.2.1 (17, 69) (by decide)]
theorem gM_19 {h : qH} (s : ShM h) : qget h 55 11 19 = some (.ref 70) := by rw [s.get (j := 19) (by decide), s.2.2.2.1 (19, 70) (by decide)]
theorem gM_20 {h : qH} (s : ShM h) : qget h 55 11 20 = some (.ref 71) := by rw [s.get (j := 20) (by decide), s.2.2.2.1 (20, 71) (by decide)]
theorem gM_21 {h : qH} (s : ShM h) : qget h 55 11 21 = some (.ref 72) := by rw [s.get (j := 21) (by decide), s.2.2.2.1 (21, 72) (by decide)]
theorem gM_23 {h : qH} (s : ShM h) : qget h 55 11 23 = some (.ref 73) := by rw [s.get (j := 23) (by decide), s.2.2.2.1 (23, 73) (by decide)]
theorem gM_24 {h : qH} (s : ShM h) : qget h 55 11 24 = some (.ref 74) := by rw [s.get (j := 24) (by decide), s.2.2.2.1 (24, 74) (by decide)]
theorem gM_26 {h : qH} (s : ShM h) : qget h 55 11 26 = some (.ref 75) := by rw [s.get (j := 26) (by decide), s.2.2.2.1 (26, 75) (by decide)]
theorem gM_27 {h : qH} (s : ShM h) : qget h 55 11 27 = some (.ref 76) := by rw [s.get (j := 27) (by decide), s.2.2.2.1 (27, 76) (by decide)]
theorem gM_29 {h : qH} (s : ShM h) : qget h 55 11 29 = some (.ref 77) := by rw [s.get (j := 29) (by decide), s.2.2.2.1 (29, 77) (by decide)]
theorem gM_30 {h : qH} (s : ShM h) : qget h 55 11 30 = some (.ref 78) := by rw [s.get (j := 30) (by decide), s.2.2.2.1 (30, 78) (by decide)]
theorem gM_31 {h : qH} (s : ShM h) : qget h 55 11 31 = some (.ref 79) := by rw [s.get (j := 31) (by decide), s.2.2.2.1 (31, 79) (by decide)]
theorem gM_34 {h : qH} (s : ShM h) : qget h 55 11 34 = some (.ref 80) := by rw [s.get (j := 34) (by decide), s.2.2.2.1 (34, 80) (by decide)]
theorem gM_36 {h : qH} (s : ShM h) : qget h 55 11 36 = some (.ref 81) := by rw [s.get (j := 36) (by decide), s.2.2.2.1 (36, 81) (by decide)]
theorem gM_37 {h : qH} (s : ShM h) : qget h 55 11 37 = some (.ref 82) := by rw [s.get (j := 37) (by decide), s.2.2.2.1 (37, 82) (by decide)]
theorem gM_38 {h : qH} (s : ShM h) : qget h 55 11 38 = some (.ref 83) := by rw [s.get (j := 38) (by decide), s.2.2.2.1 (38, 83) (by decide)]
theorem gM_39 {h : qH} (s : ShM h) : qget h 55 11 39 = some (.ref 84) := by rw [s.get (j := 39) (by decide), s.2.2.2.1 (39, 84) (by decide)]
theorem gM_40 {h : qH} (s : ShM h) : qget h 55 11 40 = some (.ref 85) := by rw [s.get (j := 40) (by decide), s.2.2.2.1 (40, 85) (by decide)]
theorem gM_42 {h : qH} (s : ShM h) : qget h 55 11 42 = some (.ref 86) := by rw [s.get (j := 42) (by decide), s.2.2.2.1 (42, 86) (by decide)]
theorem gM_44 {h : qH} (s : ShM h) : qget h 55 11 44 = some (.ref 87) := by rw [s.get (j := 44) (by decide), s.2.2.2.1 (44, 87) (by decide)]
theorem gM_45 {h : qH} (s : ShM h) : qget h 55 11 45 = some (.ref 88) := by rw [s.get (j := 45) (by decide), s.2.2.2.1 (45, 88) (by decide)]
theorem gM_46 {h : qH} (s : ShM h) : qget h 55 11 46 = some (.ref 89) := by rw [s.get (j := 46) (by decide), s.2.2.2.1 (46, 89) (by decide)]
theorem gM_47 {h : qH} (s : ShM h) : qget h 55 11 47 = some (.ref 90) := by rw [s.get (j := 47) (by decide), s.2.2.2.1 (47, 90) (by decide)]
theorem gM_48 {h : qH} (s : ShM h) : qget h 55 11 48 = some (.ref 91) := by rw [s.get (j := 48) (by decide), s.2.2.2.1 (48, 91) (by decide)]
theorem gM_49 {h : qH} (s : ShM h) : qget h 55 11 49 = some (.ref 92) := by rw [s.get (j := 49) (by decide), s.2.2.2.1 (49, 92) (by decide)]
theorem gM_50 {h : qH} (s : ShM h) : qget h 55 11 50 = some (.ref 93) := by rw [s.get (j := 50) (by decide), s.2.2.2.1 (50, 93) (by decide)]
theorem gM_55 {h : qH} (s : ShM h) : qget h 55 11 55 = some (.ref 94) := by rw [s.get (j := 55) (by decide), s.2.2.2.1 (55, 94) (by decide)]
theorem gM_57 {h : qH} (s : ShM h) : qget h 55 11 57 = some (.ref 95) := by rw [s.get (j := 57) (by decide), s.2.2.2.1 (57, 95) (by decide)]
theorem gM_59 {h : qH} (s : ShM h) : qget h 55 11 59 = some (.ref 96) := by rw [s.get (j := 59) (by decide), s.2.2.2.1 (59, 96) (by decide)]
theorem gM_0 {h : qH} (s : ShM h) : qget h 55 11 0 = some (.int (mi h 0)) := by rw [s.get (j := 0) (by decide), s.int (j := 0) (by decide)]
theorem pM_0 {h : qH} {x : Int32} (s : ShM h) : qput h 55 11 0 (.int x) = some (mI h 0 x) := s.put (by decide)
theorem gM_8 {h : qH} (s : ShM h) : qget h 55 11 8 = some (.int (mi h 8)) := by rw [s.get (j := 8) (by decide), s.int (j := 8) (by decide)]
theorem pM_8 {h : qH} {x : Int32} (s : ShM h) : qput h 55 11 8 (.int x) = some (mI h 8 x) := s.put (by decide)
theorem gM_9 {h : qH} (s : ShM h) : qget h 55 11 9 = some (.int (mi h 9)) := by rw [s.get (j := 9) (by decide), s.int (j := 9) (by decide)]
theorem pM_9 {h : qH} {x : Int32} (s : ShM h) : qput h 55 11 9 (.int x) = some (mI h 9 x) := s.put (by decide)
theorem gM_11 {h : qH} (s : ShM h) : qget h 55 11 11 = some (.int (mi h 11)) := by rw [s.get (j := 11) (by decide), s.int (j := 11) (by decide)]
theorem pM_11 {h : qH} {x : Int32} (s : ShM h) : qput h 55 11 11 (.int x) = some (mI h 11 x) := s.put (by decide)
theorem gM_18 {h : qH} (s : ShM h) : qget h 55 11 18 = some (.int (mi h 18)) := by rw [s.get (j := 18) (by decide), s.int (j := 18) (by decide)]
theorem pM_18 {h : qH} {x : Int32} (s : ShM h) : qput h 55 11 18 (.int x) = some (mI h 18 x) := s.put (by decide)
theorem gM_22 {h : qH} (s : ShM h) : qget h 55 11 22 = some (.int (mi h 22)) := by rw [s.get (j := 22) (by decide), s.int (j := 22) (by decide)]
theorem pM_22 {h : qH} {x : Int32} (s : ShM h) : qput h 55 11 22 (.int x) = some (mI h 22 x) := s.put (by decide)
theorem gM_25 {h : qH} (s : ShM h) : qget h 55 11 25 = some (.int (mi h 25)) := by rw [s.get (j := 25) (by decide), s.int (j := 25) (by decide)]
theorem pM_25 {h : qH} {x : Int32} (s : ShM h) : qput h 55 11 25 (.int x) = some (mI h 25 x) := s.put (by decide)
theorem gM_28 {h : qH} (s : ShM h) : qget h 55 11 28 = some (.int (mi h 28)) := by rw [s.get (j := 28) (by decide), s.int (j := 28) (by decide)]
theorem pM_28 {h : qH} {x : Int32} (s : ShM h) : qput h 55 11 28 (.int x) = some (mI h 28 x) := s.put (by decide)
theorem gM_32 {h : qH} (s : ShM h) : qget h 55 11 32 = some (.int (mi h 32)) := by rw [s.get (j := 32) (by decide), s.int (j := 32) (by decide)]
theorem pM_32 {h : qH} {x : Int32} (s : ShM h) : qput h 55 11 32 (.int x) = some (mI h 32 x) := s.put (by decide)
theorem gM_33 {h : qH} (s : ShM h) : qget h 55 11 33 = some (.int (mi h 33)) := by rw [s.get (j := 33) (by decide), s.int (j := 33) (by decide)]
theorem pM_33 {h : qH} {x : Int32} (s : ShM h) : qput h 55 11 33 (.int x) = some (mI h 33 x) := s.put (by decide)
theorem gM_35 {h : qH} (s : ShM h) : qget h 55 11 35 = some (.int (mi h 35)) := by rw [s.get (j := 35) (by decide), s.int (j := 35) (by decide)]
theorem pM_35 {h : qH} {x : Int32} (s : ShM h) : qput h 55 11 35 (.int x) = some (mI h 35 x) := s.put (by decide)
theorem gM_41 {h : qH} (s : ShM h) : qget h 55 11 41 = some (.int (mi h 41)) := by rw [s.get (j := 41) (by decide), s.int (j := 41) (by decide)]
theorem pM_41 {h : qH} {x : Int32} (s : ShM h) : qput h 55 11 41 (.int x) = some (mI h 41 x) := s.put (by decide)
theorem gM_43 {h : qH} (s : ShM h) : qget h 55 11 43 = some (.int (mi h 43)) := by rw [s.get (j := 43) (by decide), s.int (j := 43) (by decide)]
theorem pM_43 {h : qH} {x : Int32} (s : ShM h) : qput h 55 11 43 (.int x) = some (mI h 43 x) := s.put (by decide)
theorem gM_51 {h : qH} (s : ShM h) : qget h 55 11 51 = some (.int (mi h 51)) := by rw [s.get (j := 51) (by decide), s.int (j := 51) (by decide)]
theorem pM_51 {h : qH} {x : Int32} (s : ShM h) : qput h 55 11 51 (.int x) = some (mI h 51 x) := s.put (by decide)
theorem gM_52 {h : qH} (s : ShM h) : qget h 55 11 52 = some (.int (mi h 52)) := by rw [s.get (j := 52) (by decide), s.int (j := 52) (by decide)]
theorem pM_52 {h : qH} {x : Int32} (s : ShM h) : qput h 55 11 52 (.int x) = some (mI h 52 x) := s.put (by decide)
theorem gM_53 {h : qH} (s : ShM h) : qget h 55 11 53 = some (.int (mi h 53)) := by rw [s.get (j := 53) (by decide), s.int (j := 53) (by decide)]
theorem pM_53 {h : qH} {x : Int32} (s : ShM h) : qput h 55 11 53 (.int x) = some (mI h 53 x) := s.put (by decide)
theorem gM_54 {h : qH} (s : ShM h) : qget h 55 11 54 = some (.int (mi h 54)) := by rw [s.get (j := 54) (by decide), s.int (j := 54) (by decide)]
theorem pM_54 {h : qH} {x : Int32} (s : ShM h) : qput h 55 11 54 (.int x) = some (mI h 54 x) := s.put (by decide)
theorem gM_56 {h : qH} (s : ShM h) : qget h 55 11 56 = some (.int (mi h 56)) := by rw [s.get (j := 56) (by decide), s.int (j := 56) (by decide)]
theorem pM_56 {h : qH} {x : Int32} (s : ShM h) : qput h 55 11 56 (.int x) = some (mI h 56 x) := s.put (by decide)
theorem gM_58 {h : qH} (s : ShM h) : qget h 55 11 58 = some (.int (mi h 58)) := by rw [s.get (j := 58) (by decide), s.int (j := 58) (by decide)]
theorem pM_58 {h : qH} {x : Int32} (s : ShM h) : qput h 55 11 58 (.int x) = some (mI h 58 x) := s.put (by decide)
theorem gM_61 {h : qH} (s : ShM h) : qget h 55 11 61 = some (.int (mi h 61)) := by rw [s.get (j := 61) (by decide), s.int (j := 61) (by decide)]
theorem pM_61 {h : qH} {x : Int32} (s : ShM h) : qput h 55 11 61 (.int x) = some (mI h 61 x) := s.put (by decide)
theorem gM_62 {h : qH} (s : ShM h) : qget h 55 11 62 = some (.int (mi h 62)) := by rw [s.get (j := 62) (by decide), s.int (j := 62) (by decide)]
theorem pM_62 {h : qH} {x : Int32} (s : ShM h) : qput h 55 11 62 (.int x) = some (mI h 62 x) := s.put (by decide)
theorem gM_60 {h : qH} (s : ShM h) : qget h 55 11 60 = some (.long (mw h)) := by rw [s.get (j := 60) (by decide), s.word]
theorem pM_60 {h : qH} {x : Int64} (s : ShM h) : qput h 55 11 60 (.long x) = some (mW h x) := s.putW

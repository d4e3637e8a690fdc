/-! ===== THE TEXT: pure ===== -/
section TEXTP
/-- a run of bytes of a kind, from a place on -/
def tkE (p : Nat → Bool) (tx : List Nat) (a : Nat) : List Nat := (tx.drop a).takeWhile p
theorem tk_in {p : Nat → Bool} {tx : List Nat} {a : Nat} (ha : a < tx.length) (hp : p (tx.getD a 0) = true) : tkE p tx a = tx.getD a 0 :: tkE p tx (a + 1) := by
  have e : tx.getD a 0 = tx[a] := by rw [List.getD_eq_getElem?_getD, List.getElem?_eq_getElem ha]; rfl
  rw [e] at hp ⊢
  unfold tkE
  rw [List.drop_eq_getElem_cons ha, List.takeWhile_cons, if_pos hp]
theorem tk_no {p : Nat → Bool} {tx : List Nat} {a : Nat} (ha : a < tx.length) (hp : ¬ p (tx.getD a 0) = true) : tkE p tx a = [] := by
  have e : tx.getD a 0 = tx[a] := by rw [List.getD_eq_getElem?_getD, List.getElem?_eq_getElem ha]; rfl
  rw [e] at hp
  unfold tkE
  rw [List.drop_eq_getElem_cons ha, List.takeWhile_cons, if_neg hp]
theorem tk_end {p : Nat → Bool} {tx : List Nat} {a : Nat} (ha : tx.length ≤ a) : tkE p tx a = [] := by
  unfold tkE
  rw [List.drop_eq_nil_of_le ha]; rfl
theorem tk_le {p : Nat → Bool} {tx : List Nat} {a : Nat} (ha : a ≤ tx.length) : a + (tkE p tx a).length ≤ tx.length := by
  have h1 : (tkE p tx a).length ≤ (tx.drop a).length := (List.takeWhile_prefix p).length_le
  rw [List.length_drop] at h1
  omega
theorem tk_all {p : Nat → Bool} {tx : List Nat} {a : Nat} : ∀ x ∈ tkE p tx a, p x = true := by
  unfold tkE
  intro x hx
  exact List.all_eq_true.mp List.all_takeWhile x hx
def isBl (c : Nat) : Bool := c == 32
def isLt (c : Nat) : Bool := decide (97 ≤ c ∧ c ≤ 122)
def isDg (c : Nat) : Bool := decide (48 ≤ c ∧ c ≤ 57)
/-- behind blanks -/
def skp (tx : List Nat) (a : Nat) : Nat := a + (tkE isBl tx a).length
theorem skp_le {tx : List Nat} {a : Nat} (ha : a ≤ tx.length) : skp tx a ≤ tx.length := tk_le ha
theorem skp_ge {tx : List Nat} {a : Nat} : a ≤ skp tx a := Nat.le_add_right _ _
theorem skp_in {tx : List Nat} {a : Nat} (ha : a < tx.length) (hp : tx.getD a 0 = 32) : skp tx a = skp tx (a + 1) := by
  unfold skp
  rw [tk_in ha (by rw [hp]; rfl), List.length_cons]; omega
theorem skp_no {tx : List Nat} {a : Nat} (ha : a < tx.length) (hp : ¬ tx.getD a 0 = 32) : skp tx a = a := by
  unfold skp
  rw [tk_no ha (by unfold isBl; rw [beq_iff_eq]; exact hp)]; rfl
theorem skp_end {tx : List Nat} {a : Nat} (ha : tx.length ≤ a) : skp tx a = a := by
  unfold skp
  rw [tk_end ha]; rfl
theorem skp_nb {tx : List Nat} : ∀ (w a : Nat), a + w = tx.length → skp tx a < tx.length → ¬ tx.getD (skp tx a) 0 = 32
  | 0, a, hw, h => by rw [skp_end (by omega)] at h; omega
  | w + 1, a, hw, h => by
    by_cases q : tx.getD a 0 = 32
    · rw [skp_in (by omega) q] at h ⊢
      exact skp_nb w (a + 1) (by omega) h
    · rw [skp_no (by omega) q]; exact q
theorem skp_skp {tx : List Nat} {a : Nat} (ha : a ≤ tx.length) : skp tx (skp tx a) = skp tx a := by
  have h1 := skp_le ha
  rcases Nat.lt_or_ge (skp tx a) tx.length with h | h
  · exact skp_no h (skp_nb (tx.length - a) a (by omega) h)
  · exact skp_end h
def wdE (tx : List Nat) (a : Nat) : List Nat := tkE isLt tx a
def dgE (tx : List Nat) (a : Nat) : List Nat := tkE isDg tx a
/-- a word as a number, as the reference has it -/
def wcF (acc : Int) (c : Nat) : Int := if 10000000000 < acc then 20000000000 else 27 * acc + (c : Int) - 96
def wcA (acc : Int) (l : List Nat) : Int := l.foldl wcF acc
theorem wcA_cons {acc : Int} {c : Nat} {l : List Nat} : wcA acc (c :: l) = wcA (wcF acc c) l := rfl
def wcR (l : List Nat) : Int := l.foldr (fun c acc => wcF acc c) 0
theorem wcA_R {l : List Nat} : wcA 0 l = wcR l.reverse := by
  unfold wcA wcR
  rw [List.foldr_reverse]
theorem wcR_pos : ∀ {l : List Nat}, (∀ c ∈ l, isLt c = true) → 0 ≤ wcR l
  | [], _ => Int.le_refl _
  | c :: l, h => by
    have h1 := wcR_pos (l := l) (fun x hx => h x (List.mem_cons_of_mem _ hx))
    have h2 : 97 ≤ c ∧ c ≤ 122 := of_decide_eq_true (h c List.mem_cons_self)
    show 0 ≤ wcF (wcR l) c
    unfold wcF
    split <;> omega
theorem p27 : ∀ n, n < 6 → (27 : Int) ^ n ≤ 27 ^ 5 := by decide
theorem wcR_lt : ∀ {l : List Nat}, (∀ c ∈ l, isLt c = true) → l.length ≤ 6 → wcR l < 27 ^ l.length
  | [], _, _ => by decide
  | c :: l, h, hl => by
    have h1 := wcR_lt (l := l) (fun x hx => h x (List.mem_cons_of_mem _ hx)) (by rw [List.length_cons] at hl; omega)
    have h2 : 97 ≤ c ∧ c ≤ 122 := of_decide_eq_true (h c List.mem_cons_self)
    rw [List.length_cons] at hl ⊢
    have h3 : (27 : Int) ^ l.length ≤ 27 ^ 5 := p27 l.length (by omega)
    have h4 : (27 : Int) ^ 5 = 14348907 := by decide
    rw [Int.pow_succ]
    show wcF (wcR l) c < _
    unfold wcF
    split <;> omega
theorem wcR_inj : ∀ {w l : List Nat}, (∀ c ∈ w, isLt c = true) → (∀ c ∈ l, isLt c = true) → w.length ≤ 6 → wcR l = wcR w → l = w
  | [], [], _, _, _, _ => rfl
  | [], c :: l, _, h, _, e => by
    have h1 := wcR_pos (l := l) (fun x hx => h x (List.mem_cons_of_mem _ hx))
    have h2 : 97 ≤ c ∧ c ≤ 122 := of_decide_eq_true (h c List.mem_cons_self)
    exfalso
    have e' : wcF (wcR l) c = 0 := e
    unfold wcF at e'
    split at e' <;> omega
  | c :: w, l, hw, h, hl, e => by
    have h2 : 97 ≤ c ∧ c ≤ 122 := of_decide_eq_true (hw c List.mem_cons_self)
    have p := wcR_pos (l := w) (fun x hx => hw x (List.mem_cons_of_mem _ hx))
    have q := wcR_lt (l := w) (fun x hx => hw x (List.mem_cons_of_mem _ hx)) (by rw [List.length_cons] at hl; omega)
    rw [List.length_cons] at hl
    have h3 : (27 : Int) ^ w.length ≤ 27 ^ 5 := p27 w.length (by omega)
    have h4 : (27 : Int) ^ 5 = 14348907 := by decide
    have ew : wcR (c :: w) = 27 * wcR w + (c : Int) - 96 := by
      show wcF (wcR w) c = _
      unfold wcF
      rw [if_neg (by omega)]
    rw [ew] at e
    match l with
    | [] =>
      exfalso
      have e' : (0 : Int) = 27 * wcR w + (c : Int) - 96 := e
      omega
    | b :: l =>
      have h1 := wcR_pos (l := l) (fun x hx => h x (List.mem_cons_of_mem _ hx))
      have hb : 97 ≤ b ∧ b ≤ 122 := of_decide_eq_true (h b List.mem_cons_self)
      have e' : wcF (wcR l) b = 27 * wcR w + (c : Int) - 96 := e
      unfold wcF at e'
      split at e'
      · omega
      · have e1 : wcR l = wcR w := by omega
        have e2 : b = c := by omega
        rw [wcR_inj (w := w) (l := l) (fun x hx => hw x (List.mem_cons_of_mem _ hx)) (fun x hx => h x (List.mem_cons_of_mem _ hx)) (by omega) e1, e2]
theorem wc_iff {w l : List Nat} (hw : ∀ c ∈ w, isLt c = true) (hl : ∀ c ∈ l, isLt c = true) (h6 : w.length ≤ 6) : wcA 0 l = wcA 0 w ↔ l = w := by
  refine ⟨fun e => ?_, fun e => by rw [e]⟩
  rw [wcA_R, wcA_R] at e
  have := wcR_inj (w := w.reverse) (l := l.reverse) (fun c hc => hw c (List.mem_reverse.mp hc)) (fun c hc => hl c (List.mem_reverse.mp hc)) (by rw [List.length_reverse]; exact h6) e
  exact List.reverse_inj.mp this
theorem wcA_b : ∀ {l : List Nat} {acc : Int}, (∀ c ∈ l, isLt c = true) → 0 ≤ acc ∧ acc ≤ 300000000000 → 0 ≤ wcA acc l ∧ wcA acc l ≤ 300000000000
  | [], acc, _, h => h
  | c :: l, acc, hl, h => by
    have h2 : 97 ≤ c ∧ c ≤ 122 := of_decide_eq_true (hl c List.mem_cons_self)
    rw [wcA_cons]
    refine wcA_b (fun x hx => hl x (List.mem_cons_of_mem _ hx)) ?_
    unfold wcF
    split <;> omega
/-- a row of digits -/
def dval (l : List Nat) : Nat := l.foldl (fun a c => 10 * a + (c - 48)) 0
/-- as the reference counts: no further beyond 10000 -/
def nvF (a c : Nat) : Nat := if 10000 < a then a else 10 * a + (c - 48)
def nvA (a : Nat) (l : List Nat) : Nat := l.foldl nvF a
theorem nvA_cons {a c : Nat} {l : List Nat} : nvA a (c :: l) = nvA (nvF a c) l := rfl
theorem nvA_b : ∀ {l : List Nat} {a : Nat}, (∀ c ∈ l, isDg c = true) → a ≤ 200000 → nvA a l ≤ 200000
  | [], _, _, h => h
  | c :: l, a, hl, h => by
    have h2 : 48 ≤ c ∧ c ≤ 57 := of_decide_eq_true (hl c List.mem_cons_self)
    rw [nvA_cons]
    refine nvA_b (fun x hx => hl x (List.mem_cons_of_mem _ hx)) ?_
    unfold nvF
    split <;> omega
theorem nvA_val {l : List Nat} (hl : ∀ c ∈ l, isDg c = true) (h3 : l.length ≤ 3) : nvA 0 l = dval l ∧ dval l ≤ 999 := by
  match l, hl, h3 with
  | [], _, _ => exact ⟨rfl, by decide⟩
  | [a], hl, _ =>
    have ha : 48 ≤ a ∧ a ≤ 57 := of_decide_eq_true (hl a List.mem_cons_self)
    show nvF 0 a = 10 * 0 + (a - 48) ∧ 10 * 0 + (a - 48) ≤ 999
    unfold nvF
    rw [if_neg (by omega)]
    omega
  | [a, b], hl, _ =>
    have ha : 48 ≤ a ∧ a ≤ 57 := of_decide_eq_true (hl a List.mem_cons_self)
    have hb : 48 ≤ b ∧ b ≤ 57 := of_decide_eq_true (hl b (List.mem_cons_of_mem _ List.mem_cons_self))
    show nvF (nvF 0 a) b = 10 * (10 * 0 + (a - 48)) + (b - 48) ∧ 10 * (10 * 0 + (a - 48)) + (b - 48) ≤ 999
    have e : nvF 0 a = a - 48 := by unfold nvF; rw [if_neg (by omega)]; omega
    rw [e]
    unfold nvF
    rw [if_neg (by omega)]
    omega
  | [a, b, c], hl, _ =>
    have ha : 48 ≤ a ∧ a ≤ 57 := of_decide_eq_true (hl a List.mem_cons_self)
    have hb : 48 ≤ b ∧ b ≤ 57 := of_decide_eq_true (hl b (List.mem_cons_of_mem _ List.mem_cons_self))
    have hc : 48 ≤ c ∧ c ≤ 57 := of_decide_eq_true (hl c (List.mem_cons_of_mem _ (List.mem_cons_of_mem _ List.mem_cons_self)))
    show nvF (nvF (nvF 0 a) b) c = 10 * (10 * (10 * 0 + (a - 48)) + (b - 48)) + (c - 48) ∧ 10 * (10 * (10 * 0 + (a - 48)) + (b - 48)) + (c - 48) ≤ 999
    have e : nvF 0 a = a - 48 := by unfold nvF; rw [if_neg (by omega)]; omega
    have e2 : nvF (a - 48) b = 10 * (a - 48) + (b - 48) := by unfold nvF; rw [if_neg (by omega)]
    rw [e, e2]
    unfold nvF
    rw [if_neg (by omega)]
    omega
/-- faults: kind and place -/
abbrev pFl : Type := Nat × Nat
abbrev clm : Type := Option Nat × Nat × Nat × Nat
abbrev cls4 : Type := (Nat × Nat × Nat) ⊕ clm
def pB {α β : Type} (x : pFl ⊕ α) (f : α → pFl ⊕ β) : pFl ⊕ β := match x with
  | .inl e => .inl e
  | .inr a => f a
def pNum (tx : List Nat) (a lo hi : Nat) : pFl ⊕ (Nat × Nat) :=
  if dgE tx (skp tx a) = [] then .inl (1, skp tx a)
  else if 3 < (dgE tx (skp tx a)).length ∨ dval (dgE tx (skp tx a)) < lo ∨ hi < dval (dgE tx (skp tx a)) then .inl (2, skp tx a)
  else .inr (skp tx a + (dgE tx (skp tx a)).length, dval (dgE tx (skp tx a)))
def pWrd (tx : List Nat) (a : Nat) (w : List Nat) : pFl ⊕ Nat := if wdE tx (skp tx a) = w then .inr (skp tx a + w.length) else .inl (1, skp tx a)
def pChr (tx : List Nat) (a : Nat) (ok : Nat → Bool) : pFl ⊕ (Nat × Nat) := if skp tx a < tx.length ∧ ok (tx.getD (skp tx a) 0) = true then .inr (skp tx a + 1, tx.getD (skp tx a) 0) else .inl (1, skp tx a)
def isSg (c : Nat) : Bool := c == 60 || c == 62 || c == 61
def isSc (c : Nat) : Bool := c == 59
def w_all : List Nat := [97, 108, 108]
def w_faces : List Nat := [102, 97, 99, 101, 115]
def w_of : List Nat := [111, 102]
def w_cube : List Nat := [99, 117, 98, 101]
def w_cross : List Nat := [99, 114, 111, 115, 115]
def w_corner : List Nat := [99, 111, 114, 110, 101, 114]
def w_round : List Nat := [114, 111, 117, 110, 100]
def w_claim : List Nat := [99, 108, 97, 105, 109]
def keyW (l : List Nat) : Option Nat := if l = w_cube then some 0 else if l = w_cross then some 1 else if l = w_corner then some 2 else if l = w_round then some 3 else if l = w_claim then some 4 else none
def rMost (n : Nat) : Nat := if n = 2 then 16 else if n = 3 then 10 else 6
/-- whom a claim speaks of -/
def pWho (tx : List Nat) (a : Nat) : pFl ⊕ (Nat × Option Nat) :=
  if wdE tx (skp tx a) = [] then pB (pNum tx a 0 99) fun q => .inr (q.1, some q.2)
  else pB (pWrd tx a w_all) fun q => .inr (q, none)
def pClm (tx : List Nat) (a : Nat) : pFl ⊕ (Nat × clm) :=
  pB (pWho tx a) fun q1 => pB (pWrd tx q1.1 w_faces) fun q2 => pB (pNum tx q2 0 3) fun q3 => pB (pChr tx q3.1 isSg) fun q4 => pB (pNum tx q4.1 0 999) fun q5 => .inr (q5.1, (q1.2, q3.2, q4.2, q5.2))
def pShp (tx : List Nat) (a k : Nat) : pFl ⊕ (Nat × Nat × Nat) :=
  pB (pNum tx a 2 4) fun q => if k = 3 then pB (pWrd tx q.1 w_of) fun q2 => pB (pNum tx q2 (q.2 + 1) (rMost q.2)) fun q3 => .inr (q3.1, q.2, q3.2) else .inr (q.1, q.2, 0)
/-- a clause without its sign -/
def pCl0 (tx : List Nat) (a c : Nat) : pFl ⊕ (Nat × cls4) :=
  match keyW (wdE tx (skp tx a)) with
  | none => .inl (1, skp tx a)
  | some 4 => if c = 8 then .inl (3, skp tx a) else pB (pClm tx (skp tx a + 5)) fun q => .inr (q.1, .inr q.2)
  | some k => pB (pShp tx (skp tx a + (wdE tx (skp tx a)).length) k) fun q => .inr (q.1, .inl (k, q.2.1, q.2.2))
def pCls (tx : List Nat) (a c : Nat) : pFl ⊕ (Nat × cls4) := pB (pCl0 tx a c) fun q => pB (pChr tx q.1 isSc) fun q2 => .inr (q2.1, q.2)
def isCm : cls4 → Nat
  | .inl _ => 0
  | .inr _ => 1
def pAll (tx : List Nat) : Nat → Nat → Nat → pFl ⊕ List cls4
  | 0, _, _ => .inr []
  | n + 1, a, c => if tx.length ≤ skp tx a then .inr [] else pB (pCls tx a c) fun q => pB (pAll tx n q.1 (c + isCm q.2)) fun l => .inr (q.2 :: l)
theorem pNum_ok {tx : List Nat} {a lo hi : Nat} {q : Nat × Nat} (ha : a ≤ tx.length) (e : pNum tx a lo hi = .inr q) : a + 1 ≤ q.1 ∧ q.1 ≤ tx.length ∧ lo ≤ q.2 ∧ q.2 ≤ hi ∧ q.2 ≤ 999 := by
  unfold pNum at e
  split at e
  · cases e
  · rename_i h1
    split at e
    · cases e
    · rename_i h2
      cases e
      have h3 := skp_ge (tx := tx) (a := a)
      have h4 : 0 < (dgE tx (skp tx a)).length := List.length_pos_iff.mpr h1
      have h5 : skp tx a + (dgE tx (skp tx a)).length ≤ tx.length := tk_le (skp_le ha)
      have h6 := (nvA_val (l := dgE tx (skp tx a)) tk_all (by omega)).2
      dsimp only
      refine ⟨?_, ?_, ?_, ?_, ?_⟩ <;> omega
theorem pWrd_ok {tx : List Nat} {a : Nat} {w : List Nat} {q : Nat} (ha : a ≤ tx.length) (e : pWrd tx a w = .inr q) : a + w.length ≤ q ∧ q ≤ tx.length := by
  unfold pWrd at e
  split at e
  · rename_i h1
    cases e
    have h3 := skp_ge (tx := tx) (a := a)
    have h5 : skp tx a + (wdE tx (skp tx a)).length ≤ tx.length := tk_le (skp_le ha)
    rw [h1] at h5
    omega
  · cases e
theorem pChr_ok {tx : List Nat} {a : Nat} {ok : Nat → Bool} {q : Nat × Nat} (e : pChr tx a ok = .inr q) : a + 1 ≤ q.1 ∧ q.1 ≤ tx.length ∧ ok q.2 = true := by
  unfold pChr at e
  split at e
  · rename_i h1
    cases e
    have h3 := skp_ge (tx := tx) (a := a)
    dsimp only
    refine ⟨?_, ?_, h1.2⟩ <;> omega
  · cases e
theorem pB_ok {α β : Type} {x : pFl ⊕ α} {f : α → pFl ⊕ β} {b : β} (e : pB x f = .inr b) : ∃ a, x = .inr a ∧ f a = .inr b := by
  cases x with
  | inl e' => cases e
  | inr a => exact ⟨a, rfl, e⟩
end TEXTP

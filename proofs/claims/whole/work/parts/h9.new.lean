/-! ===== THE CLASS: new cells, late fields ===== -/
section XNEW
variable {h : qH} {A : List Nat} {J : List (Nat × Nat)} {k : Nat}
theorem at_new {c : qC} {m b : Nat} : (qnew h c m).1 b = if b = h.2.1 then c else h.1 b := rfl
theorem nw_old {c : qC} {m b : Nat} (hb : b < h.2.1) : (qnew h c m).1 b = h.1 b := by rw [at_new, if_neg (by omega)]
theorem ShX.new {c : qC} {m : Nat} (s : ShX h) : ShX (qnew h c m) := by
  have l : h.2.1 ≤ (qnew h c m).2.1 := by show h.2.1 ≤ h.2.1 + 1; omega
  have o : ∀ a, a < 97 → (qnew h c m).1 a = h.1 a := fun a ha => nw_old (s.lt ha)
  obtain ⟨s1, s2, s3, s4, s5, s6, s7, s8⟩ := s
  refine ⟨fun q hq => (s1 q hq).sm l (o _ ((by decide : ∀ q ∈ XOs, q.1 < 97) q hq)), fun q hq => (s2 q hq).sm l (o _ ((by decide : ∀ q ∈ XIs, q.1 < 97) q hq)), fun q hq => (s3 q hq).sm l (o _ ((by decide : ∀ q ∈ XLs, q.1 < 97) q hq)), s4.sm l (o _ (by decide)), fun q hq => ?_, fun q hq => ?_, ?_, Nat.le_trans s8 l⟩
  · rw [hf_at (o _ ((by decide : ∀ q ∈ XFs, q.1 < 97) q hq))]; exact s5 q hq
  · rw [hf_at (o _ ((by decide : ∀ q ∈ XJs, q.1 < 97) q hq))]; exact s6 q hq
  · rw [hf_at (o 27 (by decide))]; exact s7
theorem ChX.new {c : qC} {m : Nat} (s : ShX h) (hk : 1 ≤ k) (hm : m ≤ 600 * k) : ChX A J k h (qnew h c m) := by
  refine ⟨⟨s.new, by show h.2.1 ≤ h.2.1 + 1; omega, by show h.2.1 + 1 ≤ h.2.1 + k; omega, by show h.2.2 + m ≤ h.2.2 + 600 * k; omega⟩, fun b _ _ hb => nw_old hb, nw_old (s.lt (by decide)), fun a ha j _ => ?_⟩
  rw [hf_at (nw_old (s.lt ((by decide : ∀ x ∈ XO, x < 97) a ha)))]
theorem ChX.sol {a j : Nat} {v : Value} (s : ShX h) (ko : kO h a 8) (h97 : 97 ≤ a) (ha : a ∈ A) : ChX A J k h (xV h a j v) := by
  have no : a ∉ XO := fun z => by have := (by decide : ∀ x ∈ XO, x < 97) a z; omega
  refine ⟨⟨s.put ko (fun z => by have := (by decide : ∀ q ∈ XJs, q.1 < 97) _ z; have : a < 97 := this; omega) (fun q hq e => by have := (by decide : ∀ q ∈ XFs, q.1 < 97) q hq; omega) (fun e => by omega), Nat.le_refl _, by show h.2.1 ≤ _; omega, by show h.2.2 ≤ _; omega⟩, fun b hb _ _ => ?_, ?_, fun b hb i _ => ?_⟩
  · show (sF h a _).1 b = _
    rw [at_sF, if_neg (fun e => hb (by rw [e]; exact ha))]
  · show (sF h a _).1 0 = _
    rw [at_sF, if_neg (fun e => by omega)]
  · rw [hf_xV, if_neg (fun e => no (by rw [← e.1]; exact hb))]
theorem kI_new {n m : Nat} {g : Nat → Int32} (hn : n < 2147483648) (s : ShX h) : kI (qnew h (.inl (0, n, .inl g)) m) h.2.1 n ∧ hi (qnew h (.inl (0, n, .inl g)) m) h.2.1 = g := by
  have e : (qnew h (.inl (0, n, .inl g)) m).1 h.2.1 = .inl (0, n, .inl g) := by rw [at_new, if_pos rfl]
  refine ⟨⟨⟨hn, by have := s.lt (show 96 < 97 by decide); omega, by show h.2.1 < h.2.1 + 1; omega⟩, g, e⟩, ?_⟩
  unfold hi; rw [e]
theorem ge97 (s : ShX h) : 97 ≤ h.2.1 := s.2.2.2.2.2.2.2
/-- a field of a body is set -/
theorem pSol {a j : Nat} {v : Value} (ko : kO h a 8) (hj : j < 10) : qput h a 8 j v = some (xV h a j v) := wrO ko (by show j < 10; exact hj)
theorem gSol {a j : Nat} (ko : kO h a 8) (hj : j < 10) : qget h a 8 j = some (hf h a j) := rdO ko (by show j < 10; exact hj)
theorem kO_xV {a b ci j : Nat} {v : Value} (k : kO h a ci) (k' : kO h b 8) : kO (xV h b j v) a ci := (hKd_sF k').2.2.2.2 _ _ k
theorem kI_xV {a b n ci j : Nat} {v : Value} (k : kI h a n) (k' : kO h b ci) : kI (xV h b j v) a n := (hKd_sF k').2.1 _ _ k
theorem nN (n : Nat) (hn : n < 1000000) : ¬ (iN n < iN 0 ∨ 1000000 < (iN n).toNatClampNeg) ∧ (iN n).toNatClampNeg = n := by
  rw [iN_nat (by omega), iN_lt (by omega) (by omega)]
  omega
/-- a row of a kind is not a row of another length, nor a body -/
theorem kpS.row {h h' : qH} {f : Nat} (l : h.2.1 ≤ h'.2.1) (o : ∀ b, 97 ≤ b → b < h.2.1 → b ≠ f → h'.1 b = h.1 b) (hf' : f < h.2.1 → kI h f 2048) : kpS h h' := ⟨l, fun b hb hl => by
  by_cases e : b = f
  · rw [e]; exact Or.inr (Or.inr (hf' (by omega)))
  · exact Or.inl (o b hb hl e)⟩
end XNEW

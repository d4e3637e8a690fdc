/-! ===== THE LAW: every script's run ends with 1 ===== -/
theorem law_pure (L : Nat) (xs : Nat → Int32) (hL : L ≤ 3584) : qLaw L xs := law_all geo2_all L xs hL

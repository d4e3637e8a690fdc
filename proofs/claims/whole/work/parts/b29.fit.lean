/-! ===== BOOLEANS AS THE MACHINE HAS THEM ===== -/
theorem qfN0 : qfit 3 (.int (iN 0)) = true := rfl
theorem qfN1 : qfit 3 (.int (iN 1)) = true := rfl
theorem iN10 : (iN 1 = iN 0) ↔ False := ⟨fun h => absurd h (by decide), False.elim⟩

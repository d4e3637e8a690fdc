/-! ===== EVERY METHOD OF THE TABLES IS TRUE OF ITS CODE (by program: wip/gen/mk07.py) ===== -/
set_option maxRecDepth 100000 in
theorem qkb_0 : qk_318_0.all (qchk 15 false code) = true := by decide +kernel
set_option maxRecDepth 100000 in
theorem qkb_1 : qk_318_1.all (qchk 15 false code) = true := by decide +kernel
set_option maxRecDepth 100000 in
theorem qkb_2 : qk_318_2.all (qchk 15 false code) = true := by decide +kernel
set_option maxRecDepth 100000 in
theorem qkb_3 : qk_318_3.all (qchk 15 false code) = true := by decide +kernel
set_option maxRecDepth 100000 in
theorem qkb_4 : qk_318_4.all (qchk 15 false code) = true := by decide +kernel
set_option maxRecDepth 100000 in
theorem qkb_5 : qk_318_5.all (qchk 15 false code) = true := by decide +kernel
theorem qkb : qk_318.all (qchk 15 false code) = true := by
  simp only [qk_318, List.all_append, Bool.and_eq_true]
  exact ⟨qkb_0, qkb_1, qkb_2, qkb_3, qkb_4, qkb_5⟩

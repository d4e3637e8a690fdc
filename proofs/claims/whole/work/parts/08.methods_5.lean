/-! ===== EVERY METHOD OF THE TABLES IS TRUE OF ITS CODE (by program: wip/gen/mk07.py) ===== -/
set_option maxRecDepth 100000 in
theorem qkb_0 : qk_319_0.all (qchk 15 false code) = true := by decide +kernel
set_option maxRecDepth 100000 in
theorem qkb_1 : qk_319_1.all (qchk 15 false code) = true := by decide +kernel
set_option maxRecDepth 100000 in
theorem qkb_2 : qk_319_2.all (qchk 15 false code) = true := by decide +kernel
set_option maxRecDepth 100000 in
theorem qkb_3 : qk_319_3.all (qchk 15 false code) = true := by decide +kernel
set_option maxRecDepth 100000 in
theorem qkb_4 : qk_319_4.all (qchk 15 false code) = true := by decide +kernel
set_option maxRecDepth 100000 in
theorem qkb_5 : qk_319_5.all (qchk 15 false code) = true := by decide +kernel
theorem qkb : qk_319.all (qchk 15 false code) = true := by
  simp only [qk_319, List.all_append, Bool.and_eq_true]
  exact ⟨qkb_0, qkb_1, qkb_2, qkb_3, qkb_4, qkb_5⟩

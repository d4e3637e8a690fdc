/-! ===== EVERY METHOD OF THE TABLES IS TRUE OF ITS CODE (by program: wip/gen/mk07.py) ===== -/
set_option maxRecDepth 100000 in
theorem qka_79 : qk_79.all (qchk 11 false cX11_product) = true := by decide +kernel
set_option maxRecDepth 100000 in
theorem qka_80 : qk_80.all (qchk 11 false cX11_both) = true := by decide +kernel
set_option maxRecDepth 100000 in
theorem qka_81 : qk_81.all (qchk 11 false cX11_about) = true := by decide +kernel
set_option maxRecDepth 100000 in
theorem qka_82 : qk_82.all (qchk 11 false cX11_isCornerOf) = true := by decide +kernel
set_option maxRecDepth 100000 in
theorem qka_83 : qk_83.all (qchk 11 false cX11_corner) = true := by decide +kernel
set_option maxRecDepth 100000 in
theorem qka_84 : qk_84.all (qchk 11 false cX11_count) = true := by decide +kernel
set_option maxRecDepth 100000 in
theorem qka_85 : qk_85.all (qchk 11 false cX11_faces) = true := by decide +kernel
set_option maxRecDepth 100000 in
theorem qka_86 : qk_86.all (qchk 11 false cX11_face) = true := by decide +kernel
set_option maxRecDepth 100000 in
theorem qka_87 : qk_87.all (qchk 11 false cX11_lies) = true := by decide +kernel
set_option maxRecDepth 100000 in
theorem qka_88 : qk_88.all (qchk 11 false cX11_h) = true := by decide +kernel
set_option maxRecDepth 100000 in
theorem qka_89 : qk_89.all (qchk 11 false cX11_sum) = true := by decide +kernel
set_option maxRecDepth 100000 in
theorem qka_90 : qk_90.all (qchk 11 false cX11_same) = true := by decide +kernel
set_option maxRecDepth 100000 in
theorem qka_91 : qk_91.all (qchk 11 false cX11_inside) = true := by decide +kernel
set_option maxRecDepth 100000 in
theorem qka_92 : qk_92.all (qchk 11 false cX11_pattern) = true := by decide +kernel
set_option maxRecDepth 100000 in
theorem qka_93 : qk_93.all (qchk 11 false cX11_set) = true := by decide +kernel
set_option maxRecDepth 100000 in
theorem qka_94 : qk_94.all (qchk 11 false cX11_place) = true := by decide +kernel
set_option maxRecDepth 100000 in
theorem qka_95 : qk_95.all (qchk 11 false cX11_row) = true := by decide +kernel
set_option maxRecDepth 100000 in
theorem qka_96 : qk_96.all (qchk 11 false cX11_clear) = true := by decide +kernel
set_option maxRecDepth 100000 in
theorem qka_97 : qk_97.all (qchk 11 false cX11_meets) = true := by decide +kernel
set_option maxRecDepth 100000 in
theorem qka_98 : qk_98.all (qchk 11 false cX11_fresh) = true := by decide +kernel
set_option maxRecDepth 100000 in
theorem qka_99 : qk_99.all (qchk 11 false cX11_walk) = true := by decide +kernel
set_option maxRecDepth 100000 in
theorem qka_100 : qk_100.all (qchk 11 false cX11_far) = true := by decide +kernel
set_option maxRecDepth 100000 in
theorem qka_101 : qk_101.all (qchk 11 false cX11_tilt) = true := by decide +kernel
set_option maxRecDepth 100000 in
theorem qka_102 : qk_102.all (qchk 11 false cX11_up) = true := by decide +kernel
set_option maxRecDepth 100000 in
theorem qka_103 : qk_103.all (qchk 11 false cX11_ups) = true := by decide +kernel
set_option maxRecDepth 100000 in
theorem qka_104 : qk_104.all (qchk 11 false cX11_ring) = true := by decide +kernel
set_option maxRecDepth 100000 in
theorem qka_105 : qk_105.all (qchk 11 false cX11_where) = true := by decide +kernel
set_option maxRecDepth 100000 in
theorem qka_106 : qk_106.all (qchk 11 false cX11_parted) = true := by decide +kernel
set_option maxRecDepth 100000 in
theorem qka_107 : qk_107.all (qchk 11 false cX11_holds) = true := by decide +kernel
set_option maxRecDepth 100000 in
theorem qka_108 : qk_108.all (qchk 11 false cX11_size) = true := by decide +kernel
set_option maxRecDepth 100000 in
theorem qka_109 : qk_109.all (qchk 11 false cX11_piece) = true := by decide +kernel
set_option maxRecDepth 100000 in
theorem qka_110 : qk_110.all (qchk 11 false cX11_whole) = true := by decide +kernel
set_option maxRecDepth 100000 in
theorem qka_111 : qk_111.all (qchk 11 false cX11_feed) = true := by decide +kernel
set_option maxRecDepth 100000 in
theorem qka_112 : qk_112.all (qchk 11 false cX11_here) = true := by decide +kernel
set_option maxRecDepth 100000 in
theorem qka_113 : qk_113.all (qchk 11 false cX11_read) = true := by decide +kernel
set_option maxRecDepth 100000 in
theorem qka_114 : qk_114.all (qchk 11 false cX11_fault) = true := by decide +kernel
set_option maxRecDepth 100000 in
theorem qka_115 : qk_115.all (qchk 11 false cX11_claim) = true := by decide +kernel

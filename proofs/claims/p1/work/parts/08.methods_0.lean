/-! ===== EVERY METHOD OF THE TABLES IS TRUE OF ITS CODE (by program: wip/gen/mk07.py) ===== -/
set_option maxRecDepth 100000 in
theorem qka_0 : qk_0.all (qchk 0 true cX0_init) = true := by decide +kernel
set_option maxRecDepth 100000 in
theorem qka_1 : qk_1.all (qchk 1 true cX1_init) = true := by decide +kernel
set_option maxRecDepth 100000 in
theorem qka_2 : qk_2.all (qchk 1 false cX1_has) = true := by decide +kernel
set_option maxRecDepth 100000 in
theorem qka_3 : qk_3.all (qchk 1 false cX1_add) = true := by decide +kernel
set_option maxRecDepth 100000 in
theorem qka_4 : qk_4.all (qchk 2 true cX2_init) = true := by decide +kernel
set_option maxRecDepth 100000 in
theorem qka_5 : qk_5.all (qchk 2 false cX2_begin) = true := by decide +kernel
set_option maxRecDepth 100000 in
theorem qka_6 : qk_6.all (qchk 2 false cX2_findFacets) = true := by decide +kernel
set_option maxRecDepth 100000 in
theorem qka_7 : qk_7.all (qchk 3 true cX3_init) = true := by decide +kernel
set_option maxRecDepth 100000 in
theorem qka_8 : qk_8.all (qchk 4 true cX4_init) = true := by decide +kernel
set_option maxRecDepth 100000 in
theorem qka_9 : qk_9.all (qchk 5 true cX5_init) = true := by decide +kernel
set_option maxRecDepth 100000 in
theorem qka_10 : qk_10.all (qchk 5 false cX5_setSize) = true := by decide +kernel
set_option maxRecDepth 100000 in
theorem qka_11 : qk_11.all (qchk 5 false cX5_admits) = true := by decide +kernel
set_option maxRecDepth 100000 in
theorem qka_12 : qk_12.all (qchk 5 false cX5_add) = true := by decide +kernel
set_option maxRecDepth 100000 in
theorem qka_13 : qk_13.all (qchk 6 true cX6_init) = true := by decide +kernel
set_option maxRecDepth 100000 in
theorem qka_14 : qk_14.all (qchk 6 false cX6_append) = true := by decide +kernel
set_option maxRecDepth 100000 in
theorem qka_15 : qk_15.all (qchk 6 false cX6_parse) = true := by decide +kernel
set_option maxRecDepth 100000 in
theorem qka_16 : qk_16.all (qchk 6 false cX6_skipBlanks) = true := by decide +kernel
set_option maxRecDepth 100000 in
theorem qka_17 : qk_17.all (qchk 7 true cX7_init) = true := by decide +kernel
set_option maxRecDepth 100000 in
theorem qka_18 : qk_18.all (qchk 9 true cX9_init) = true := by decide +kernel
set_option maxRecDepth 100000 in
theorem qka_19 : qk_19.all (qchk 9 false cX9_lean) = true := by decide +kernel
set_option maxRecDepth 100000 in
theorem qka_20 : qk_20.all (qchk 10 true cX10_init) = true := by decide +kernel
set_option maxRecDepth 100000 in
theorem qka_21 : qk_21.all (qchk 10 false cX10_point) = true := by decide +kernel
set_option maxRecDepth 100000 in
theorem qka_22 : qk_22.all (qchk 10 false cX10_wipe) = true := by decide +kernel
set_option maxRecDepth 100000 in
theorem qka_23 : qk_23.all (qchk 10 false cX10_body) = true := by decide +kernel
set_option maxRecDepth 100000 in
theorem qka_24 : qk_24.all (qchk 10 false cX10_cut) = true := by decide +kernel
set_option maxRecDepth 100000 in
theorem qka_25 : qk_25.all (qchk 10 false cX10_slice) = true := by decide +kernel
set_option maxRecDepth 100000 in
theorem qka_26 : qk_26.all (qchk 10 false cX10_shadow) = true := by decide +kernel
set_option maxRecDepth 100000 in
theorem qka_27 : qk_27.all (qchk 10 false cX10_raise) = true := by decide +kernel
set_option maxRecDepth 100000 in
theorem qka_28 : qk_28.all (qchk 10 false cX10_product) = true := by decide +kernel
set_option maxRecDepth 100000 in
theorem qka_29 : qk_29.all (qchk 10 false cX10_both) = true := by decide +kernel
set_option maxRecDepth 100000 in
theorem qka_30 : qk_30.all (qchk 10 false cX10_about) = true := by decide +kernel
set_option maxRecDepth 100000 in
theorem qka_31 : qk_31.all (qchk 10 false cX10_corner) = true := by decide +kernel
set_option maxRecDepth 100000 in
theorem qka_32 : qk_32.all (qchk 10 false cX10_count) = true := by decide +kernel
set_option maxRecDepth 100000 in
theorem qka_33 : qk_33.all (qchk 10 false cX10_faces) = true := by decide +kernel
set_option maxRecDepth 100000 in
theorem qka_34 : qk_34.all (qchk 10 false cX10_face) = true := by decide +kernel
set_option maxRecDepth 100000 in
theorem qka_35 : qk_35.all (qchk 10 false cX10_lies) = true := by decide +kernel
set_option maxRecDepth 100000 in
theorem qka_36 : qk_36.all (qchk 10 false cX10_h) = true := by decide +kernel
set_option maxRecDepth 100000 in
theorem qka_37 : qk_37.all (qchk 10 false cX10_sum) = true := by decide +kernel
set_option maxRecDepth 100000 in
theorem qka_38 : qk_38.all (qchk 10 false cX10_same) = true := by decide +kernel
set_option maxRecDepth 100000 in
theorem qka_39 : qk_39.all (qchk 10 false cX10_inside) = true := by decide +kernel
set_option maxRecDepth 100000 in
theorem qka_40 : qk_40.all (qchk 10 false cX10_pattern) = true := by decide +kernel
set_option maxRecDepth 100000 in
theorem qka_41 : qk_41.all (qchk 10 false cX10_set) = true := by decide +kernel
set_option maxRecDepth 100000 in
theorem qka_42 : qk_42.all (qchk 10 false cX10_place) = true := by decide +kernel
set_option maxRecDepth 100000 in
theorem qka_43 : qk_43.all (qchk 10 false cX10_row) = true := by decide +kernel
set_option maxRecDepth 100000 in
theorem qka_44 : qk_44.all (qchk 10 false cX10_clear) = true := by decide +kernel
set_option maxRecDepth 100000 in
theorem qka_45 : qk_45.all (qchk 10 false cX10_meets) = true := by decide +kernel
set_option maxRecDepth 100000 in
theorem qka_46 : qk_46.all (qchk 10 false cX10_fresh) = true := by decide +kernel
set_option maxRecDepth 100000 in
theorem qka_47 : qk_47.all (qchk 10 false cX10_walk) = true := by decide +kernel
set_option maxRecDepth 100000 in
theorem qka_48 : qk_48.all (qchk 10 false cX10_far) = true := by decide +kernel
set_option maxRecDepth 100000 in
theorem qka_49 : qk_49.all (qchk 10 false cX10_tilt) = true := by decide +kernel
set_option maxRecDepth 100000 in
theorem qka_50 : qk_50.all (qchk 10 false cX10_up) = true := by decide +kernel
set_option maxRecDepth 100000 in
theorem qka_51 : qk_51.all (qchk 10 false cX10_ups) = true := by decide +kernel
set_option maxRecDepth 100000 in
theorem qka_52 : qk_52.all (qchk 10 false cX10_ring) = true := by decide +kernel
set_option maxRecDepth 100000 in
theorem qka_53 : qk_53.all (qchk 10 false cX10_where) = true := by decide +kernel
set_option maxRecDepth 100000 in
theorem qka_54 : qk_54.all (qchk 10 false cX10_parted) = true := by decide +kernel
set_option maxRecDepth 100000 in
theorem qka_55 : qk_55.all (qchk 10 false cX10_holds) = true := by decide +kernel
set_option maxRecDepth 100000 in
theorem qka_56 : qk_56.all (qchk 10 false cX10_size) = true := by decide +kernel
set_option maxRecDepth 100000 in
theorem qka_57 : qk_57.all (qchk 10 false cX10_piece) = true := by decide +kernel
set_option maxRecDepth 100000 in
theorem qka_58 : qk_58.all (qchk 10 false cX10_whole) = true := by decide +kernel
set_option maxRecDepth 100000 in
theorem qka_59 : qk_59.all (qchk 10 false cX10_feed) = true := by decide +kernel
set_option maxRecDepth 100000 in
theorem qka_60 : qk_60.all (qchk 10 false cX10_read) = true := by decide +kernel
set_option maxRecDepth 100000 in
theorem qka_61 : qk_61.all (qchk 10 false cX10_fault) = true := by decide +kernel
set_option maxRecDepth 100000 in
theorem qka_62 : qk_62.all (qchk 10 false cX10_claim) = true := by decide +kernel
set_option maxRecDepth 100000 in
theorem qka_63 : qk_63.all (qchk 10 false cX10_within) = true := by decide +kernel
set_option maxRecDepth 100000 in
theorem qka_64 : qk_64.all (qchk 10 false cX10_isDimension) = true := by decide +kernel
set_option maxRecDepth 100000 in
theorem qka_65 : qk_65.all (qchk 10 false cX10_bodyAt) = true := by decide +kernel
set_option maxRecDepth 100000 in
theorem qka_66 : qk_66.all (qchk 10 false cX10_cornersOfAll) = true := by decide +kernel
set_option maxRecDepth 100000 in
theorem qka_67 : qk_67.all (qchk 11 true cX11_init) = true := by decide +kernel
set_option maxRecDepth 100000 in
theorem qka_68 : qk_68.all (qchk 11 false cX11_in) = true := by decide +kernel
set_option maxRecDepth 100000 in
theorem qka_69 : qk_69.all (qchk 11 false cX11_isBody) = true := by decide +kernel
set_option maxRecDepth 100000 in
theorem qka_70 : qk_70.all (qchk 11 false cX11_begin) = true := by decide +kernel
set_option maxRecDepth 100000 in
theorem qka_71 : qk_71.all (qchk 11 false cX11_findPlanes) = true := by decide +kernel
set_option maxRecDepth 100000 in
theorem qka_72 : qk_72.all (qchk 11 false cX11_point) = true := by decide +kernel
set_option maxRecDepth 100000 in
theorem qka_73 : qk_73.all (qchk 11 false cX11_wipe) = true := by decide +kernel
set_option maxRecDepth 100000 in
theorem qka_74 : qk_74.all (qchk 11 false cX11_body) = true := by decide +kernel
set_option maxRecDepth 100000 in
theorem qka_75 : qk_75.all (qchk 11 false cX11_cut) = true := by decide +kernel
set_option maxRecDepth 100000 in
theorem qka_76 : qk_76.all (qchk 11 false cX11_slice) = true := by decide +kernel
set_option maxRecDepth 100000 in
theorem qka_77 : qk_77.all (qchk 11 false cX11_shadow) = true := by decide +kernel
set_option maxRecDepth 100000 in
theorem qka_78 : qk_78.all (qchk 11 false cX11_raise) = true := by decide +kernel

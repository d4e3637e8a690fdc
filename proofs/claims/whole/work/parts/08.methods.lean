/-! ===== EVERY METHOD OF THE TABLES IS TRUE OF ITS CODE (by program: wip/gen/mk07.py) ===== -/
set_option maxRecDepth 100000 in
theorem qka_0 : qk_0.all (qchk 0 true cX0_init) = true := by decide +kernel
set_option maxRecDepth 100000 in
theorem qka_1 : qk_1.all (qchk 0 false cX0_add) = true := by decide +kernel
set_option maxRecDepth 100000 in
theorem qka_2 : qk_2.all (qchk 0 false cX0_bodyOf) = true := by decide +kernel
set_option maxRecDepth 100000 in
theorem qka_3 : qk_3.all (qchk 0 false cX0_isTrueOf) = true := by decide +kernel
set_option maxRecDepth 100000 in
theorem qka_4 : qk_4.all (qchk 1 true cX1_init) = true := by decide +kernel
set_option maxRecDepth 100000 in
theorem qka_5 : qk_5.all (qchk 1 false cX1_has) = true := by decide +kernel
set_option maxRecDepth 100000 in
theorem qka_6 : qk_6.all (qchk 1 false cX1_add) = true := by decide +kernel
set_option maxRecDepth 100000 in
theorem qka_7 : qk_7.all (qchk 1 false cX1_isOf) = true := by decide +kernel
set_option maxRecDepth 100000 in
theorem qka_8 : qk_8.all (qchk 1 false cX1_firstUnmet) = true := by decide +kernel
set_option maxRecDepth 100000 in
theorem qka_9 : qk_9.all (qchk 1 false cX1_meetsAt) = true := by decide +kernel
set_option maxRecDepth 100000 in
theorem qka_10 : qk_10.all (qchk 1 false cX1_placesWithNew) = true := by decide +kernel
set_option maxRecDepth 100000 in
theorem qka_11 : qk_11.all (qchk 1 false cX1_sparedAt) = true := by decide +kernel
set_option maxRecDepth 100000 in
theorem qka_12 : qk_12.all (qchk 2 true cX2_init) = true := by decide +kernel
set_option maxRecDepth 100000 in
theorem qka_13 : qk_13.all (qchk 2 false cX2_begin) = true := by decide +kernel
set_option maxRecDepth 100000 in
theorem qka_14 : qk_14.all (qchk 2 false cX2_tell) = true := by decide +kernel
set_option maxRecDepth 100000 in
theorem qka_15 : qk_15.all (qchk 2 false cX2_tellTimes) = true := by decide +kernel
set_option maxRecDepth 100000 in
theorem qka_16 : qk_16.all (qchk 2 false cX2_tellAll) = true := by decide +kernel
set_option maxRecDepth 100000 in
theorem qka_17 : qk_17.all (qchk 2 false cX2_tellWithout) = true := by decide +kernel
set_option maxRecDepth 100000 in
theorem qka_18 : qk_18.all (qchk 2 false cX2_tellAbove) = true := by decide +kernel
set_option maxRecDepth 100000 in
theorem qka_19 : qk_19.all (qchk 2 false cX2_tellLid) = true := by decide +kernel
set_option maxRecDepth 100000 in
theorem qka_20 : qk_20.all (qchk 2 false cX2_tellTip) = true := by decide +kernel
set_option maxRecDepth 100000 in
theorem qka_21 : qk_21.all (qchk 2 false cX2_tellShape) = true := by decide +kernel
set_option maxRecDepth 100000 in
theorem qka_22 : qk_22.all (qchk 2 false cX2_tellUnit) = true := by decide +kernel
set_option maxRecDepth 100000 in
theorem qka_23 : qk_23.all (qchk 2 false cX2_findFacets) = true := by decide +kernel
set_option maxRecDepth 100000 in
theorem qka_24 : qk_24.all (qchk 2 false cX2_nextChoice) = true := by decide +kernel
set_option maxRecDepth 100000 in
theorem qka_25 : qk_25.all (qchk 2 false cX2_isInFacet) = true := by decide +kernel
set_option maxRecDepth 100000 in
theorem qka_26 : qk_26.all (qchk 2 false cX2_keepFacet) = true := by decide +kernel
set_option maxRecDepth 100000 in
theorem qka_27 : qk_27.all (qchk 2 false cX2_rowBetween) = true := by decide +kernel
set_option maxRecDepth 100000 in
theorem qka_28 : qk_28.all (qchk 2 false cX2_rowOfUnit) = true := by decide +kernel
set_option maxRecDepth 100000 in
theorem qka_29 : qk_29.all (qchk 2 false cX2_rowsWithin) = true := by decide +kernel
set_option maxRecDepth 100000 in
theorem qka_30 : qk_30.all (qchk 2 false cX2_spanPlane) = true := by decide +kernel
set_option maxRecDepth 100000 in
theorem qka_31 : qk_31.all (qchk 2 false cX2_crossRows) = true := by decide +kernel
set_option maxRecDepth 100000 in
theorem qka_32 : qk_32.all (qchk 2 false cX2_setOnPlane) = true := by decide +kernel
set_option maxRecDepth 100000 in
theorem qka_33 : qk_33.all (qchk 2 false cX2_sizeOf) = true := by decide +kernel
set_option maxRecDepth 100000 in
theorem qka_34 : qk_34.all (qchk 2 false cX2_make) = true := by decide +kernel
set_option maxRecDepth 100000 in
theorem qka_35 : qk_35.all (qchk 2 false cX2_cornerSet) = true := by decide +kernel
set_option maxRecDepth 100000 in
theorem qka_36 : qk_36.all (qchk 2 false cX2_commonTo) = true := by decide +kernel
set_option maxRecDepth 100000 in
theorem qka_37 : qk_37.all (qchk 2 false cX2_squeeze) = true := by decide +kernel
set_option maxRecDepth 100000 in
theorem qka_38 : qk_38.all (qchk 2 false cX2_rankFacets) = true := by decide +kernel
set_option maxRecDepth 100000 in
theorem qka_39 : qk_39.all (qchk 2 false cX2_allCells) = true := by decide +kernel
set_option maxRecDepth 100000 in
theorem qka_40 : qk_40.all (qchk 2 false cX2_edges) = true := by decide +kernel
set_option maxRecDepth 100000 in
theorem qka_41 : qk_41.all (qchk 2 false cX2_ridges) = true := by decide +kernel
set_option maxRecDepth 100000 in
theorem qka_42 : qk_42.all (qchk 2 false cX2_insertFound) = true := by decide +kernel
set_option maxRecDepth 100000 in
theorem qka_43 : qk_43.all (qchk 3 true cX3_init) = true := by decide +kernel
set_option maxRecDepth 100000 in
theorem qka_44 : qk_44.all (qchk 3 false cX3_aim) = true := by decide +kernel
set_option maxRecDepth 100000 in
theorem qka_45 : qk_45.all (qchk 3 false cX3_sideOf) = true := by decide +kernel
set_option maxRecDepth 100000 in
theorem qka_46 : qk_46.all (qchk 3 false cX3_boxPlaces) = true := by decide +kernel
set_option maxRecDepth 100000 in
theorem qka_47 : qk_47.all (qchk 3 false cX3_countPlaces) = true := by decide +kernel
set_option maxRecDepth 100000 in
theorem qka_48 : qk_48.all (qchk 3 false cX3_placesOnLine) = true := by decide +kernel
set_option maxRecDepth 100000 in
theorem qka_49 : qk_49.all (qchk 4 true cX4_init) = true := by decide +kernel
set_option maxRecDepth 100000 in
theorem qka_50 : qk_50.all (qchk 4 false cX4_fromSets) = true := by decide +kernel
set_option maxRecDepth 100000 in
theorem qka_51 : qk_51.all (qchk 4 false cX4_fromCorners) = true := by decide +kernel
set_option maxRecDepth 100000 in
theorem qka_52 : qk_52.all (qchk 4 false cX4_countOnto) = true := by decide +kernel
set_option maxRecDepth 100000 in
theorem qka_53 : qk_53.all (qchk 4 false cX4_share) = true := by decide +kernel
set_option maxRecDepth 100000 in
theorem qka_54 : qk_54.all (qchk 4 false cX4_chooseOrder) = true := by decide +kernel
set_option maxRecDepth 100000 in
theorem qka_55 : qk_55.all (qchk 4 false cX4_bestNext) = true := by decide +kernel
set_option maxRecDepth 100000 in
theorem qka_56 : qk_56.all (qchk 4 false cX4_extend) = true := by decide +kernel
set_option maxRecDepth 100000 in
theorem qka_57 : qk_57.all (qchk 4 false cX4_fits) = true := by decide +kernel
set_option maxRecDepth 100000 in
theorem qka_58 : qk_58.all (qchk 4 false cX4_renamed) = true := by decide +kernel
set_option maxRecDepth 100000 in
theorem qka_59 : qk_59.all (qchk 4 false cX4_isGoal) = true := by decide +kernel
set_option maxRecDepth 100000 in
theorem qka_60 : qk_60.all (qchk 5 true cX5_init) = true := by decide +kernel
set_option maxRecDepth 100000 in
theorem qka_61 : qk_61.all (qchk 5 false cX5_setSize) = true := by decide +kernel
set_option maxRecDepth 100000 in
theorem qka_62 : qk_62.all (qchk 5 false cX5_admits) = true := by decide +kernel
set_option maxRecDepth 100000 in
theorem qka_63 : qk_63.all (qchk 5 false cX5_add) = true := by decide +kernel
set_option maxRecDepth 100000 in
theorem qka_64 : qk_64.all (qchk 5 false cX5_firstBroken) = true := by decide +kernel
set_option maxRecDepth 100000 in
theorem qka_65 : qk_65.all (qchk 5 false cX5_usesAllMarks) = true := by decide +kernel
set_option maxRecDepth 100000 in
theorem qka_66 : qk_66.all (qchk 5 false cX5_setsAround) = true := by decide +kernel
set_option maxRecDepth 100000 in
theorem qka_67 : qk_67.all (qchk 5 false cX5_partsAreInTwo) = true := by decide +kernel
set_option maxRecDepth 100000 in
theorem qka_68 : qk_68.all (qchk 5 false cX5_isOnePiece) = true := by decide +kernel
set_option maxRecDepth 100000 in
theorem qka_69 : qk_69.all (qchk 5 false cX5_touches) = true := by decide +kernel
set_option maxRecDepth 100000 in
theorem qka_70 : qk_70.all (qchk 5 false cX5_signedParts) = true := by decide +kernel
set_option maxRecDepth 100000 in
theorem qka_71 : qk_71.all (qchk 6 true cX6_init) = true := by decide +kernel
set_option maxRecDepth 100000 in
theorem qka_72 : qk_72.all (qchk 6 false cX6_append) = true := by decide +kernel
set_option maxRecDepth 100000 in
theorem qka_73 : qk_73.all (qchk 6 false cX6_part) = true := by decide +kernel
set_option maxRecDepth 100000 in
theorem qka_74 : qk_74.all (qchk 6 false cX6_put) = true := by decide +kernel
set_option maxRecDepth 100000 in
theorem qka_75 : qk_75.all (qchk 6 false cX6_parse) = true := by decide +kernel
set_option maxRecDepth 100000 in
theorem qka_76 : qk_76.all (qchk 6 false cX6_parseClause) = true := by decide +kernel
set_option maxRecDepth 100000 in
theorem qka_77 : qk_77.all (qchk 6 false cX6_parseShape) = true := by decide +kernel
set_option maxRecDepth 100000 in
theorem qka_78 : qk_78.all (qchk 6 false cX6_parseClaim) = true := by decide +kernel
set_option maxRecDepth 100000 in
theorem qka_79 : qk_79.all (qchk 6 false cX6_fail) = true := by decide +kernel
set_option maxRecDepth 100000 in
theorem qka_80 : qk_80.all (qchk 6 false cX6_here) = true := by decide +kernel
set_option maxRecDepth 100000 in
theorem qka_81 : qk_81.all (qchk 6 false cX6_skipBlanks) = true := by decide +kernel
set_option maxRecDepth 100000 in
theorem qka_82 : qk_82.all (qchk 6 false cX6_passWord) = true := by decide +kernel
set_option maxRecDepth 100000 in
theorem qka_83 : qk_83.all (qchk 6 false cX6_needWord) = true := by decide +kernel
set_option maxRecDepth 100000 in
theorem qka_84 : qk_84.all (qchk 6 false cX6_needSign) = true := by decide +kernel
set_option maxRecDepth 100000 in
theorem qka_85 : qk_85.all (qchk 6 false cX6_takeCompare) = true := by decide +kernel
set_option maxRecDepth 100000 in
theorem qka_86 : qk_86.all (qchk 6 false cX6_takeNumber) = true := by decide +kernel
set_option maxRecDepth 100000 in
theorem qka_87 : qk_87.all (qchk 7 true cX7_init) = true := by decide +kernel
set_option maxRecDepth 100000 in
theorem qka_88 : qk_88.all (qchk 7 false cX7_aimHalf) = true := by decide +kernel
set_option maxRecDepth 100000 in
theorem qka_89 : qk_89.all (qchk 7 false cX7_aimLayer) = true := by decide +kernel
set_option maxRecDepth 100000 in
theorem qka_90 : qk_90.all (qchk 7 false cX7_isFlat) = true := by decide +kernel
set_option maxRecDepth 100000 in
theorem qka_91 : qk_91.all (qchk 7 false cX7_isKept) = true := by decide +kernel
set_option maxRecDepth 100000 in
theorem qka_92 : qk_92.all (qchk 7 false cX7_isCrossed) = true := by decide +kernel
set_option maxRecDepth 100000 in
theorem qka_93 : qk_93.all (qchk 7 false cX7_pointCount) = true := by decide +kernel
set_option maxRecDepth 100000 in
theorem qka_94 : qk_94.all (qchk 7 false cX7_span) = true := by decide +kernel
set_option maxRecDepth 100000 in
theorem qka_95 : qk_95.all (qchk 7 false cX7_crossing) = true := by decide +kernel
set_option maxRecDepth 100000 in
theorem qka_96 : qk_96.all (qchk 7 false cX7_findScale) = true := by decide +kernel
set_option maxRecDepth 100000 in
theorem qka_97 : qk_97.all (qchk 7 false cX7_divided) = true := by decide +kernel
set_option maxRecDepth 100000 in
theorem qka_98 : qk_98.all (qchk 7 false cX7_commonMeasure) = true := by decide +kernel
set_option maxRecDepth 100000 in
theorem qka_99 : qk_99.all (qchk 7 false cX7_tellTo) = true := by decide +kernel
set_option maxRecDepth 100000 in
theorem qka_100 : qk_100.all (qchk 7 false cX7_tellSpot) = true := by decide +kernel
set_option maxRecDepth 100000 in
theorem qka_101 : qk_101.all (qchk 8 true cX8_init) = true := by decide +kernel
set_option maxRecDepth 100000 in
theorem qka_102 : qk_102.all (qchk 8 false cX8_hasCorner) = true := by decide +kernel
set_option maxRecDepth 100000 in
theorem qka_103 : qk_103.all (qchk 8 false cX8_everyCorner) = true := by decide +kernel
set_option maxRecDepth 100000 in
theorem qka_104 : qk_104.all (qchk 8 false cX8_at) = true := by decide +kernel
set_option maxRecDepth 100000 in
theorem qka_105 : qk_105.all (qchk 8 false cX8_cellCount) = true := by decide +kernel
set_option maxRecDepth 100000 in
theorem qka_106 : qk_106.all (qchk 8 false cX8_hasCell) = true := by decide +kernel
set_option maxRecDepth 100000 in
theorem qka_107 : qk_107.all (qchk 8 false cX8_facetSets) = true := by decide +kernel
set_option maxRecDepth 100000 in
theorem qka_108 : qk_108.all (qchk 8 false cX8_facetCount) = true := by decide +kernel
set_option maxRecDepth 100000 in
theorem qka_109 : qk_109.all (qchk 8 false cX8_isSimpleFaced) = true := by decide +kernel
set_option maxRecDepth 100000 in
theorem qka_110 : qk_110.all (qchk 8 false cX8_isEachD) = true := by decide +kernel
set_option maxRecDepth 100000 in
theorem qka_111 : qk_111.all (qchk 8 false cX8_countWithin) = true := by decide +kernel
set_option maxRecDepth 100000 in
theorem qka_112 : qk_112.all (qchk 8 false cX8_countAround) = true := by decide +kernel
set_option maxRecDepth 100000 in
theorem qka_113 : qk_113.all (qchk 8 false cX8_hCount) = true := by decide +kernel
set_option maxRecDepth 100000 in
theorem qka_114 : qk_114.all (qchk 8 false cX8_waysToTake) = true := by decide +kernel
set_option maxRecDepth 100000 in
theorem qka_115 : qk_115.all (qchk 8 false cX8_farthest) = true := by decide +kernel
set_option maxRecDepth 100000 in
theorem qka_116 : qk_116.all (qchk 8 false cX8_beyond) = true := by decide +kernel
set_option maxRecDepth 100000 in
theorem qka_117 : qk_117.all (qchk 8 false cX8_firstBeyond) = true := by decide +kernel
set_option maxRecDepth 100000 in
theorem qka_118 : qk_118.all (qchk 8 false cX8_cellAround) = true := by decide +kernel
set_option maxRecDepth 100000 in
theorem qka_119 : qk_119.all (qchk 8 false cX8_piecesOf) = true := by decide +kernel
set_option maxRecDepth 100000 in
theorem qka_120 : qk_120.all (qchk 8 false cX8_cutCell) = true := by decide +kernel
set_option maxRecDepth 100000 in
theorem qka_121 : qk_121.all (qchk 9 true cX9_init) = true := by decide +kernel
set_option maxRecDepth 100000 in
theorem qka_122 : qk_122.all (qchk 9 false cX9_steps) = true := by decide +kernel
set_option maxRecDepth 100000 in
theorem qka_123 : qk_123.all (qchk 9 false cX9_lean) = true := by decide +kernel
set_option maxRecDepth 100000 in
theorem qka_124 : qk_124.all (qchk 9 false cX9_height) = true := by decide +kernel
set_option maxRecDepth 100000 in
theorem qka_125 : qk_125.all (qchk 9 false cX9_climb) = true := by decide +kernel
set_option maxRecDepth 100000 in
theorem qka_126 : qk_126.all (qchk 9 false cX9_highestBeside) = true := by decide +kernel
set_option maxRecDepth 100000 in
theorem qka_127 : qk_127.all (qchk 9 false cX9_countUp) = true := by decide +kernel
set_option maxRecDepth 100000 in
theorem qka_128 : qk_128.all (qchk 9 false cX9_lowestOf) = true := by decide +kernel
set_option maxRecDepth 100000 in
theorem qka_129 : qk_129.all (qchk 9 false cX9_ringOf) = true := by decide +kernel
set_option maxRecDepth 100000 in
theorem qka_130 : qk_130.all (qchk 9 false cX9_fillFinishing) = true := by decide +kernel
set_option maxRecDepth 100000 in
theorem qka_131 : qk_131.all (qchk 9 false cX9_goodNext) = true := by decide +kernel
set_option maxRecDepth 100000 in
theorem qka_132 : qk_132.all (qchk 10 true cX10_init) = true := by decide +kernel
set_option maxRecDepth 100000 in
theorem qka_133 : qk_133.all (qchk 10 false cX10_point) = true := by decide +kernel
set_option maxRecDepth 100000 in
theorem qka_134 : qk_134.all (qchk 10 false cX10_wipe) = true := by decide +kernel
set_option maxRecDepth 100000 in
theorem qka_135 : qk_135.all (qchk 10 false cX10_body) = true := by decide +kernel
set_option maxRecDepth 100000 in
theorem qka_136 : qk_136.all (qchk 10 false cX10_cut) = true := by decide +kernel
set_option maxRecDepth 100000 in
theorem qka_137 : qk_137.all (qchk 10 false cX10_slice) = true := by decide +kernel
set_option maxRecDepth 100000 in
theorem qka_138 : qk_138.all (qchk 10 false cX10_shadow) = true := by decide +kernel
set_option maxRecDepth 100000 in
theorem qka_139 : qk_139.all (qchk 10 false cX10_raise) = true := by decide +kernel
set_option maxRecDepth 100000 in
theorem qka_140 : qk_140.all (qchk 10 false cX10_product) = true := by decide +kernel
set_option maxRecDepth 100000 in
theorem qka_141 : qk_141.all (qchk 10 false cX10_both) = true := by decide +kernel
set_option maxRecDepth 100000 in
theorem qka_142 : qk_142.all (qchk 10 false cX10_about) = true := by decide +kernel
set_option maxRecDepth 100000 in
theorem qka_143 : qk_143.all (qchk 10 false cX10_corner) = true := by decide +kernel
set_option maxRecDepth 100000 in
theorem qka_144 : qk_144.all (qchk 10 false cX10_count) = true := by decide +kernel
set_option maxRecDepth 100000 in
theorem qka_145 : qk_145.all (qchk 10 false cX10_faces) = true := by decide +kernel
set_option maxRecDepth 100000 in
theorem qka_146 : qk_146.all (qchk 10 false cX10_face) = true := by decide +kernel
set_option maxRecDepth 100000 in
theorem qka_147 : qk_147.all (qchk 10 false cX10_lies) = true := by decide +kernel
set_option maxRecDepth 100000 in
theorem qka_148 : qk_148.all (qchk 10 false cX10_h) = true := by decide +kernel
set_option maxRecDepth 100000 in
theorem qka_149 : qk_149.all (qchk 10 false cX10_sum) = true := by decide +kernel
set_option maxRecDepth 100000 in
theorem qka_150 : qk_150.all (qchk 10 false cX10_same) = true := by decide +kernel
set_option maxRecDepth 100000 in
theorem qka_151 : qk_151.all (qchk 10 false cX10_inside) = true := by decide +kernel
set_option maxRecDepth 100000 in
theorem qka_152 : qk_152.all (qchk 10 false cX10_pattern) = true := by decide +kernel
set_option maxRecDepth 100000 in
theorem qka_153 : qk_153.all (qchk 10 false cX10_set) = true := by decide +kernel
set_option maxRecDepth 100000 in
theorem qka_154 : qk_154.all (qchk 10 false cX10_place) = true := by decide +kernel
set_option maxRecDepth 100000 in
theorem qka_155 : qk_155.all (qchk 10 false cX10_row) = true := by decide +kernel
set_option maxRecDepth 100000 in
theorem qka_156 : qk_156.all (qchk 10 false cX10_clear) = true := by decide +kernel
set_option maxRecDepth 100000 in
theorem qka_157 : qk_157.all (qchk 10 false cX10_meets) = true := by decide +kernel
set_option maxRecDepth 100000 in
theorem qka_158 : qk_158.all (qchk 10 false cX10_fresh) = true := by decide +kernel
set_option maxRecDepth 100000 in
theorem qka_159 : qk_159.all (qchk 10 false cX10_walk) = true := by decide +kernel
set_option maxRecDepth 100000 in
theorem qka_160 : qk_160.all (qchk 10 false cX10_far) = true := by decide +kernel
set_option maxRecDepth 100000 in
theorem qka_161 : qk_161.all (qchk 10 false cX10_tilt) = true := by decide +kernel
set_option maxRecDepth 100000 in
theorem qka_162 : qk_162.all (qchk 10 false cX10_up) = true := by decide +kernel
set_option maxRecDepth 100000 in
theorem qka_163 : qk_163.all (qchk 10 false cX10_ups) = true := by decide +kernel
set_option maxRecDepth 100000 in
theorem qka_164 : qk_164.all (qchk 10 false cX10_ring) = true := by decide +kernel
set_option maxRecDepth 100000 in
theorem qka_165 : qk_165.all (qchk 10 false cX10_where) = true := by decide +kernel
set_option maxRecDepth 100000 in
theorem qka_166 : qk_166.all (qchk 10 false cX10_parted) = true := by decide +kernel
set_option maxRecDepth 100000 in
theorem qka_167 : qk_167.all (qchk 10 false cX10_holds) = true := by decide +kernel
set_option maxRecDepth 100000 in
theorem qka_168 : qk_168.all (qchk 10 false cX10_size) = true := by decide +kernel
set_option maxRecDepth 100000 in
theorem qka_169 : qk_169.all (qchk 10 false cX10_piece) = true := by decide +kernel
set_option maxRecDepth 100000 in
theorem qka_170 : qk_170.all (qchk 10 false cX10_whole) = true := by decide +kernel
set_option maxRecDepth 100000 in
theorem qka_171 : qk_171.all (qchk 10 false cX10_feed) = true := by decide +kernel
set_option maxRecDepth 100000 in
theorem qka_172 : qk_172.all (qchk 10 false cX10_read) = true := by decide +kernel
set_option maxRecDepth 100000 in
theorem qka_173 : qk_173.all (qchk 10 false cX10_fault) = true := by decide +kernel
set_option maxRecDepth 100000 in
theorem qka_174 : qk_174.all (qchk 10 false cX10_claim) = true := by decide +kernel
set_option maxRecDepth 100000 in
theorem qka_175 : qk_175.all (qchk 10 false cX10_within) = true := by decide +kernel
set_option maxRecDepth 100000 in
theorem qka_176 : qk_176.all (qchk 10 false cX10_isDimension) = true := by decide +kernel
set_option maxRecDepth 100000 in
theorem qka_177 : qk_177.all (qchk 10 false cX10_signOf) = true := by decide +kernel
set_option maxRecDepth 100000 in
theorem qka_178 : qk_178.all (qchk 10 false cX10_leastOf) = true := by decide +kernel
set_option maxRecDepth 100000 in
theorem qka_179 : qk_179.all (qchk 10 false cX10_bodyAt) = true := by decide +kernel
set_option maxRecDepth 100000 in
theorem qka_180 : qk_180.all (qchk 10 false cX10_lastDraft) = true := by decide +kernel
set_option maxRecDepth 100000 in
theorem qka_181 : qk_181.all (qchk 10 false cX10_cornersOfAll) = true := by decide +kernel
set_option maxRecDepth 100000 in
theorem qka_182 : qk_182.all (qchk 10 false cX10_keep) = true := by decide +kernel
set_option maxRecDepth 100000 in
theorem qka_183 : qk_183.all (qchk 10 false cX10_keepHull) = true := by decide +kernel
set_option maxRecDepth 100000 in
theorem qka_184 : qk_184.all (qchk 10 false cX10_keepSection) = true := by decide +kernel
set_option maxRecDepth 100000 in
theorem qka_185 : qk_185.all (qchk 10 false cX10_isCutting) = true := by decide +kernel
set_option maxRecDepth 100000 in
theorem qka_186 : qk_186.all (qchk 10 false cX10_turnsOf) = true := by decide +kernel
set_option maxRecDepth 100000 in
theorem qka_187 : qk_187.all (qchk 10 false cX10_doClause) = true := by decide +kernel
set_option maxRecDepth 100000 in
theorem qka_188 : qk_188.all (qchk 11 true cX11_init) = true := by decide +kernel
set_option maxRecDepth 100000 in
theorem qka_189 : qk_189.all (qchk 11 false cX11_in) = true := by decide +kernel
set_option maxRecDepth 100000 in
theorem qka_190 : qk_190.all (qchk 11 false cX11_sized) = true := by decide +kernel
set_option maxRecDepth 100000 in
theorem qka_191 : qk_191.all (qchk 11 false cX11_gcd) = true := by decide +kernel
set_option maxRecDepth 100000 in
theorem qka_192 : qk_192.all (qchk 11 false cX11_bits) = true := by decide +kernel
set_option maxRecDepth 100000 in
theorem qka_193 : qk_193.all (qchk 11 false cX11_isBody) = true := by decide +kernel
set_option maxRecDepth 100000 in
theorem qka_194 : qk_194.all (qchk 11 false cX11_x) = true := by decide +kernel
set_option maxRecDepth 100000 in
theorem qka_195 : qk_195.all (qchk 11 false cX11_many) = true := by decide +kernel
set_option maxRecDepth 100000 in
theorem qka_196 : qk_196.all (qchk 11 false cX11_setOf) = true := by decide +kernel
set_option maxRecDepth 100000 in
theorem qka_197 : qk_197.all (qchk 11 false cX11_facets) = true := by decide +kernel
set_option maxRecDepth 100000 in
theorem qka_198 : qk_198.all (qchk 11 false cX11_facet) = true := by decide +kernel
set_option maxRecDepth 100000 in
theorem qka_199 : qk_199.all (qchk 11 false cX11_begin) = true := by decide +kernel
set_option maxRecDepth 100000 in
theorem qka_200 : qk_200.all (qchk 11 false cX11_isThere) = true := by decide +kernel
set_option maxRecDepth 100000 in
theorem qka_201 : qk_201.all (qchk 11 false cX11_put) = true := by decide +kernel
set_option maxRecDepth 100000 in
theorem qka_202 : qk_202.all (qchk 11 false cX11_apart) = true := by decide +kernel
set_option maxRecDepth 100000 in
theorem qka_203 : qk_203.all (qchk 11 false cX11_corner2) = true := by decide +kernel
set_option maxRecDepth 100000 in
theorem qka_204 : qk_204.all (qchk 11 false cX11_corner3) = true := by decide +kernel
set_option maxRecDepth 100000 in
theorem qka_205 : qk_205.all (qchk 11 false cX11_findNormal) = true := by decide +kernel
set_option maxRecDepth 100000 in
theorem qka_206 : qk_206.all (qchk 11 false cX11_beyond) = true := by decide +kernel
set_option maxRecDepth 100000 in
theorem qka_207 : qk_207.all (qchk 11 false cX11_keepPlane) = true := by decide +kernel
set_option maxRecDepth 100000 in
theorem qka_208 : qk_208.all (qchk 11 false cX11_findPlanes) = true := by decide +kernel
set_option maxRecDepth 100000 in
theorem qka_209 : qk_209.all (qchk 11 false cX11_isCorner) = true := by decide +kernel
set_option maxRecDepth 100000 in
theorem qka_210 : qk_210.all (qchk 11 false cX11_make) = true := by decide +kernel
set_option maxRecDepth 100000 in
theorem qka_211 : qk_211.all (qchk 11 false cX11_putFacet) = true := by decide +kernel
set_option maxRecDepth 100000 in
theorem qka_212 : qk_212.all (qchk 11 false cX11_putFace) = true := by decide +kernel
set_option maxRecDepth 100000 in
theorem qka_213 : qk_213.all (qchk 11 false cX11_findFaces) = true := by decide +kernel
set_option maxRecDepth 100000 in
theorem qka_214 : qk_214.all (qchk 11 false cX11_point) = true := by decide +kernel
set_option maxRecDepth 100000 in
theorem qka_215 : qk_215.all (qchk 11 false cX11_wipe) = true := by decide +kernel
set_option maxRecDepth 100000 in
theorem qka_216 : qk_216.all (qchk 11 false cX11_body) = true := by decide +kernel
set_option maxRecDepth 100000 in
theorem qka_217 : qk_217.all (qchk 11 false cX11_putPart) = true := by decide +kernel
set_option maxRecDepth 100000 in
theorem qka_218 : qk_218.all (qchk 11 false cX11_putBetween) = true := by decide +kernel
set_option maxRecDepth 100000 in
theorem qka_219 : qk_219.all (qchk 11 false cX11_makeWhole) = true := by decide +kernel
set_option maxRecDepth 100000 in
theorem qka_220 : qk_220.all (qchk 11 false cX11_tilted) = true := by decide +kernel
set_option maxRecDepth 100000 in
theorem qka_221 : qk_221.all (qchk 11 false cX11_putEdges) = true := by decide +kernel
set_option maxRecDepth 100000 in
theorem qka_222 : qk_222.all (qchk 11 false cX11_cut) = true := by decide +kernel
set_option maxRecDepth 100000 in
theorem qka_223 : qk_223.all (qchk 11 false cX11_slice) = true := by decide +kernel
set_option maxRecDepth 100000 in
theorem qka_224 : qk_224.all (qchk 11 false cX11_makeOne) = true := by decide +kernel
set_option maxRecDepth 100000 in
theorem qka_225 : qk_225.all (qchk 11 false cX11_shadow) = true := by decide +kernel
set_option maxRecDepth 100000 in
theorem qka_226 : qk_226.all (qchk 11 false cX11_putRaised) = true := by decide +kernel
set_option maxRecDepth 100000 in
theorem qka_227 : qk_227.all (qchk 11 false cX11_raise) = true := by decide +kernel
set_option maxRecDepth 100000 in
theorem qka_228 : qk_228.all (qchk 11 false cX11_product) = true := by decide +kernel
set_option maxRecDepth 100000 in
theorem qka_229 : qk_229.all (qchk 11 false cX11_both) = true := by decide +kernel
set_option maxRecDepth 100000 in
theorem qka_230 : qk_230.all (qchk 11 false cX11_isSimpleFaced) = true := by decide +kernel
set_option maxRecDepth 100000 in
theorem qka_231 : qk_231.all (qchk 11 false cX11_facetsOf) = true := by decide +kernel
set_option maxRecDepth 100000 in
theorem qka_232 : qk_232.all (qchk 11 false cX11_isEach) = true := by decide +kernel
set_option maxRecDepth 100000 in
theorem qka_233 : qk_233.all (qchk 11 false cX11_about) = true := by decide +kernel
set_option maxRecDepth 100000 in
theorem qka_234 : qk_234.all (qchk 11 false cX11_isCornerOf) = true := by decide +kernel
set_option maxRecDepth 100000 in
theorem qka_235 : qk_235.all (qchk 11 false cX11_corner) = true := by decide +kernel
set_option maxRecDepth 100000 in
theorem qka_236 : qk_236.all (qchk 11 false cX11_count) = true := by decide +kernel
set_option maxRecDepth 100000 in
theorem qka_237 : qk_237.all (qchk 11 false cX11_faces) = true := by decide +kernel
set_option maxRecDepth 100000 in
theorem qka_238 : qk_238.all (qchk 11 false cX11_face) = true := by decide +kernel
set_option maxRecDepth 100000 in
theorem qka_239 : qk_239.all (qchk 11 false cX11_lies) = true := by decide +kernel
set_option maxRecDepth 100000 in
theorem qka_240 : qk_240.all (qchk 11 false cX11_choose) = true := by decide +kernel
set_option maxRecDepth 100000 in
theorem qka_241 : qk_241.all (qchk 11 false cX11_h) = true := by decide +kernel
set_option maxRecDepth 100000 in
theorem qka_242 : qk_242.all (qchk 11 false cX11_sum) = true := by decide +kernel
set_option maxRecDepth 100000 in
theorem qka_243 : qk_243.all (qchk 11 false cX11_countThrees) = true := by decide +kernel
set_option maxRecDepth 100000 in
theorem qka_244 : qk_244.all (qchk 11 false cX11_goes) = true := by decide +kernel
set_option maxRecDepth 100000 in
theorem qka_245 : qk_245.all (qchk 11 false cX11_isRenamed) = true := by decide +kernel
set_option maxRecDepth 100000 in
theorem qka_246 : qk_246.all (qchk 11 false cX11_renamings) = true := by decide +kernel
set_option maxRecDepth 100000 in
theorem qka_247 : qk_247.all (qchk 11 false cX11_takeOne) = true := by decide +kernel
set_option maxRecDepth 100000 in
theorem qka_248 : qk_248.all (qchk 11 false cX11_takeTwo) = true := by decide +kernel
set_option maxRecDepth 100000 in
theorem qka_249 : qk_249.all (qchk 11 false cX11_turnsOf) = true := by decide +kernel
set_option maxRecDepth 100000 in
theorem qka_250 : qk_250.all (qchk 11 false cX11_same) = true := by decide +kernel
set_option maxRecDepth 100000 in
theorem qka_251 : qk_251.all (qchk 11 false cX11_inside) = true := by decide +kernel
set_option maxRecDepth 100000 in
theorem qka_252 : qk_252.all (qchk 11 false cX11_pattern) = true := by decide +kernel
set_option maxRecDepth 100000 in
theorem qka_253 : qk_253.all (qchk 11 false cX11_set) = true := by decide +kernel
set_option maxRecDepth 100000 in
theorem qka_254 : qk_254.all (qchk 11 false cX11_inSome) = true := by decide +kernel
set_option maxRecDepth 100000 in
theorem qka_255 : qk_255.all (qchk 11 false cX11_inMany) = true := by decide +kernel
set_option maxRecDepth 100000 in
theorem qka_256 : qk_256.all (qchk 11 false cX11_hasTwo) = true := by decide +kernel
set_option maxRecDepth 100000 in
theorem qka_257 : qk_257.all (qchk 11 false cX11_isJoined) = true := by decide +kernel
set_option maxRecDepth 100000 in
theorem qka_258 : qk_258.all (qchk 11 false cX11_patternSum) = true := by decide +kernel
set_option maxRecDepth 100000 in
theorem qka_259 : qk_259.all (qchk 11 false cX11_place) = true := by decide +kernel
set_option maxRecDepth 100000 in
theorem qka_260 : qk_260.all (qchk 11 false cX11_row) = true := by decide +kernel
set_option maxRecDepth 100000 in
theorem qka_261 : qk_261.all (qchk 11 false cX11_clear) = true := by decide +kernel
set_option maxRecDepth 100000 in
theorem qka_262 : qk_262.all (qchk 11 false cX11_hasRow) = true := by decide +kernel
set_option maxRecDepth 100000 in
theorem qka_263 : qk_263.all (qchk 11 false cX11_meetsAt) = true := by decide +kernel
set_option maxRecDepth 100000 in
theorem qka_264 : qk_264.all (qchk 11 false cX11_meets) = true := by decide +kernel
set_option maxRecDepth 100000 in
theorem qka_265 : qk_265.all (qchk 11 false cX11_freshAt) = true := by decide +kernel
set_option maxRecDepth 100000 in
theorem qka_266 : qk_266.all (qchk 11 false cX11_fresh) = true := by decide +kernel
set_option maxRecDepth 100000 in
theorem qka_267 : qk_267.all (qchk 11 false cX11_areBeside) = true := by decide +kernel
set_option maxRecDepth 100000 in
theorem qka_268 : qk_268.all (qchk 11 false cX11_findBeside) = true := by decide +kernel
set_option maxRecDepth 100000 in
theorem qka_269 : qk_269.all (qchk 11 false cX11_steps) = true := by decide +kernel
set_option maxRecDepth 100000 in
theorem qka_270 : qk_270.all (qchk 11 false cX11_walk) = true := by decide +kernel
set_option maxRecDepth 100000 in
theorem qka_271 : qk_271.all (qchk 11 false cX11_far) = true := by decide +kernel
set_option maxRecDepth 100000 in
theorem qka_272 : qk_272.all (qchk 11 false cX11_tilt) = true := by decide +kernel
set_option maxRecDepth 100000 in
theorem qka_273 : qk_273.all (qchk 11 false cX11_height) = true := by decide +kernel
set_option maxRecDepth 100000 in
theorem qka_274 : qk_274.all (qchk 11 false cX11_up) = true := by decide +kernel
set_option maxRecDepth 100000 in
theorem qka_275 : qk_275.all (qchk 11 false cX11_ups) = true := by decide +kernel
set_option maxRecDepth 100000 in
theorem qka_276 : qk_276.all (qchk 11 false cX11_findRing) = true := by decide +kernel
set_option maxRecDepth 100000 in
theorem qka_277 : qk_277.all (qchk 11 false cX11_ring) = true := by decide +kernel
set_option maxRecDepth 100000 in
theorem qka_278 : qk_278.all (qchk 11 false cX11_over) = true := by decide +kernel
set_option maxRecDepth 100000 in
theorem qka_279 : qk_279.all (qchk 11 false cX11_whereIs) = true := by decide +kernel
set_option maxRecDepth 100000 in
theorem qka_280 : qk_280.all (qchk 11 false cX11_where) = true := by decide +kernel
set_option maxRecDepth 100000 in
theorem qka_281 : qk_281.all (qchk 11 false cX11_parted) = true := by decide +kernel
set_option maxRecDepth 100000 in
theorem qka_282 : qk_282.all (qchk 11 false cX11_holds) = true := by decide +kernel
set_option maxRecDepth 100000 in
theorem qka_283 : qk_283.all (qchk 11 false cX11_wait) = true := by decide +kernel
set_option maxRecDepth 100000 in
theorem qka_284 : qk_284.all (qchk 11 false cX11_findPieces) = true := by decide +kernel
set_option maxRecDepth 100000 in
theorem qka_285 : qk_285.all (qchk 11 false cX11_square) = true := by decide +kernel
set_option maxRecDepth 100000 in
theorem qka_286 : qk_286.all (qchk 11 false cX11_cube) = true := by decide +kernel
set_option maxRecDepth 100000 in
theorem qka_287 : qk_287.all (qchk 11 false cX11_sizeOf) = true := by decide +kernel
set_option maxRecDepth 100000 in
theorem qka_288 : qk_288.all (qchk 11 false cX11_size) = true := by decide +kernel
set_option maxRecDepth 100000 in
theorem qka_289 : qk_289.all (qchk 11 false cX11_piece) = true := by decide +kernel
set_option maxRecDepth 100000 in
theorem qka_290 : qk_290.all (qchk 11 false cX11_whole) = true := by decide +kernel
set_option maxRecDepth 100000 in
theorem qka_291 : qk_291.all (qchk 11 false cX11_feed) = true := by decide +kernel
set_option maxRecDepth 100000 in
theorem qka_292 : qk_292.all (qchk 11 false cX11_here) = true := by decide +kernel
set_option maxRecDepth 100000 in
theorem qka_293 : qk_293.all (qchk 11 false cX11_fails) = true := by decide +kernel
set_option maxRecDepth 100000 in
theorem qka_294 : qk_294.all (qchk 11 false cX11_readWord) = true := by decide +kernel
set_option maxRecDepth 100000 in
theorem qka_295 : qk_295.all (qchk 11 false cX11_code) = true := by decide +kernel
set_option maxRecDepth 100000 in
theorem qka_296 : qk_296.all (qchk 11 false cX11_keyOf) = true := by decide +kernel
set_option maxRecDepth 100000 in
theorem qka_297 : qk_297.all (qchk 11 false cX11_readNumber) = true := by decide +kernel
set_option maxRecDepth 100000 in
theorem qka_298 : qk_298.all (qchk 11 false cX11_needs) = true := by decide +kernel
set_option maxRecDepth 100000 in
theorem qka_299 : qk_299.all (qchk 11 false cX11_roundMost) = true := by decide +kernel
set_option maxRecDepth 100000 in
theorem qka_300 : qk_300.all (qchk 11 false cX11_readClaim) = true := by decide +kernel
set_option maxRecDepth 100000 in
theorem qka_301 : qk_301.all (qchk 11 false cX11_readClause) = true := by decide +kernel
set_option maxRecDepth 100000 in
theorem qka_302 : qk_302.all (qchk 11 false cX11_bit) = true := by decide +kernel
set_option maxRecDepth 100000 in
theorem qka_303 : qk_303.all (qchk 11 false cX11_makes) = true := by decide +kernel
set_option maxRecDepth 100000 in
theorem qka_304 : qk_304.all (qchk 11 false cX11_read) = true := by decide +kernel
set_option maxRecDepth 100000 in
theorem qka_305 : qk_305.all (qchk 11 false cX11_fault) = true := by decide +kernel
set_option maxRecDepth 100000 in
theorem qka_306 : qk_306.all (qchk 11 false cX11_isHeld) = true := by decide +kernel
set_option maxRecDepth 100000 in
theorem qka_307 : qk_307.all (qchk 11 false cX11_claim) = true := by decide +kernel
set_option maxRecDepth 100000 in
theorem qka_308 : qk_308.all (qchk 12 false cJ6_bitCount_0f7a4) = true := by decide +kernel
set_option maxRecDepth 100000 in
theorem qka_309 : qk_309.all (qchk 13 false cJ9_floorDiv_f86c9) = true := by decide +kernel
set_option maxRecDepth 100000 in
theorem qka_310 : qk_310.all (qchk 13 false cJ9_abs_0f7a4) = true := by decide +kernel
set_option maxRecDepth 100000 in
theorem qka_311 : qk_311.all (qchk 13 false cJ9_abs_067f4) = true := by decide +kernel
set_option maxRecDepth 100000 in
theorem qka_312 : qk_312.all (qchk 13 false cJ9_max_7cf53) = true := by decide +kernel
set_option maxRecDepth 100000 in
theorem qka_313 : qk_313.all (qchk 13 false cJ9_max_f86c9) = true := by decide +kernel
set_option maxRecDepth 100000 in
theorem qka_314 : qk_314.all (qchk 13 false cJ9_min_7cf53) = true := by decide +kernel
set_option maxRecDepth 100000 in
theorem qka_315 : qk_315.all (qchk 13 false cJ9_min_f86c9) = true := by decide +kernel
set_option maxRecDepth 100000 in
theorem qka_316 : qk_316.all (qchk 14 false cJ0_length_8abf5) = true := by decide +kernel
set_option maxRecDepth 100000 in
theorem qka_317 : qk_317.all (qchk 14 false cJ0_charAt_5068e) = true := by decide +kernel
set_option maxRecDepth 100000 in
theorem qka_318 : qk_318.all (qchk 14 false cJ0_coder_7d493) = true := by decide +kernel
set_option maxRecDepth 100000 in
theorem qka_319 : qk_319.all (qchk 14 false cJ0_isLatin1_aae02) = true := by decide +kernel
set_option maxRecDepth 100000 in
theorem qka_320 : qk_320.all (qchk 14 false cJ0_checkIndex_df160) = true := by decide +kernel
set_option maxRecDepth 100000 in
theorem qka_321 : qk_321.all (qchk 15 false cJ1_charAt_3b067) = true := by decide +kernel
set_option maxRecDepth 100000 in
theorem qka_322 : qk_322.all (qchk 16 false cJ2_getChar_3b067) = true := by decide +kernel
set_option maxRecDepth 100000 in
theorem qka_323 : qk_323.all (qchk 16 false cJ2_length_9d52b) = true := by decide +kernel
set_option maxRecDepth 100000 in
theorem qka_324 : qk_324.all (qchk 16 false cJ2_charAt_3b067) = true := by decide +kernel
set_option maxRecDepth 100000 in
theorem qka_325 : qk_325.all (qchk 16 false cJ2_checkIndex_2214a) = true := by decide +kernel
set_option maxRecDepth 100000 in
theorem qka_326 : qk_326.all (qchk 17 false cJ7_fill_d0a16) = true := by decide +kernel
set_option maxRecDepth 100000 in
theorem qka_327 : qk_327.all (qchk 17 false cJ7_fill_53178) = true := by decide +kernel
set_option maxRecDepth 100000 in
theorem qka_328 : qk_328.all (qchk 17 false cJ7_copyOf_59c91) = true := by decide +kernel
set_option maxRecDepth 100000 in
theorem qka_329 : qk_329.all (qchk 18 false cJ3_checkIndex_8e157) = true := by decide +kernel
set_option maxRecDepth 100000 in
theorem qka_330 : qk_330.all (qchk 19 false code) = true := by decide +kernel

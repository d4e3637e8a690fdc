/-! ===== EVERY METHOD OF THE TABLES IS TRUE OF ITS CODE (by program: wip/gen/mk07.py) ===== -/
set_option maxRecDepth 100000 in
theorem qka_68 : qk_68.all (qchk 5 false cX5_isOnePiece) = true := by decide +kernel
set_option maxRecDepth 100000 in
theorem qka_69 : qk_69.all (qchk 5 false cX5_touches) = true := by decide +kernel
set_option maxRecDepth 100000 in
theorem qka_70 : qk_70.all (qchk 5 false cX5_signedParts) = true := by decide +kernel
set_option maxRecDepth 100000 in
theorem qka_71 : qk_71.all (qchk 6 true cX6_init) = true := by decide +kernel
set_option maxRecDepth 100000 in
theorem qka_72 : qk_72.all (qchk 6 false cX6_append) = true := by decide +kernel
set_option maxRecDepth 100000 in
theorem qka_73 : qk_73.all (qchk 6 false cX6_part) = true := by decide +kernel
set_option maxRecDepth 100000 in
theorem qka_74 : qk_74.all (qchk 6 false cX6_put) = true := by decide +kernel
set_option maxRecDepth 100000 in
theorem qka_75 : qk_75.all (qchk 6 false cX6_parse) = true := by decide +kernel
set_option maxRecDepth 100000 in
theorem qka_76 : qk_76.all (qchk 6 false cX6_parseClause) = true := by decide +kernel
set_option maxRecDepth 100000 in
theorem qka_77 : qk_77.all (qchk 6 false cX6_parseShape) = true := by decide +kernel
set_option maxRecDepth 100000 in
theorem qka_78 : qk_78.all (qchk 6 false cX6_parseClaim) = true := by decide +kernel
set_option maxRecDepth 100000 in
theorem qka_79 : qk_79.all (qchk 6 false cX6_fail) = true := by decide +kernel
set_option maxRecDepth 100000 in
theorem qka_80 : qk_80.all (qchk 6 false cX6_here) = true := by decide +kernel
set_option maxRecDepth 100000 in
theorem qka_81 : qk_81.all (qchk 6 false cX6_skipBlanks) = true := by decide +kernel
set_option maxRecDepth 100000 in
theorem qka_82 : qk_82.all (qchk 6 false cX6_passWord) = true := by decide +kernel
set_option maxRecDepth 100000 in
theorem qka_83 : qk_83.all (qchk 6 false cX6_needWord) = true := by decide +kernel
set_option maxRecDepth 100000 in
theorem qka_84 : qk_84.all (qchk 6 false cX6_needSign) = true := by decide +kernel
set_option maxRecDepth 100000 in
theorem qka_85 : qk_85.all (qchk 6 false cX6_takeCompare) = true := by decide +kernel
set_option maxRecDepth 100000 in
theorem qka_86 : qk_86.all (qchk 6 false cX6_takeNumber) = true := by decide +kernel
set_option maxRecDepth 100000 in
theorem qka_87 : qk_87.all (qchk 7 true cX7_init) = true := by decide +kernel
set_option maxRecDepth 100000 in
theorem qka_88 : qk_88.all (qchk 7 false cX7_aimHalf) = true := by decide +kernel
set_option maxRecDepth 100000 in
theorem qka_89 : qk_89.all (qchk 7 false cX7_aimLayer) = true := by decide +kernel
set_option maxRecDepth 100000 in
theorem qka_90 : qk_90.all (qchk 7 false cX7_isFlat) = true := by decide +kernel
set_option maxRecDepth 100000 in
theorem qka_91 : qk_91.all (qchk 7 false cX7_isKept) = true := by decide +kernel
set_option maxRecDepth 100000 in
theorem qka_92 : qk_92.all (qchk 7 false cX7_isCrossed) = true := by decide +kernel
set_option maxRecDepth 100000 in
theorem qka_93 : qk_93.all (qchk 7 false cX7_pointCount) = true := by decide +kernel
set_option maxRecDepth 100000 in
theorem qka_94 : qk_94.all (qchk 7 false cX7_span) = true := by decide +kernel
set_option maxRecDepth 100000 in
theorem qka_95 : qk_95.all (qchk 7 false cX7_crossing) = true := by decide +kernel
set_option maxRecDepth 100000 in
theorem qka_96 : qk_96.all (qchk 7 false cX7_findScale) = true := by decide +kernel
set_option maxRecDepth 100000 in
theorem qka_97 : qk_97.all (qchk 7 false cX7_divided) = true := by decide +kernel
set_option maxRecDepth 100000 in
theorem qka_98 : qk_98.all (qchk 7 false cX7_commonMeasure) = true := by decide +kernel
set_option maxRecDepth 100000 in
theorem qka_99 : qk_99.all (qchk 7 false cX7_tellTo) = true := by decide +kernel
set_option maxRecDepth 100000 in
theorem qka_100 : qk_100.all (qchk 7 false cX7_tellSpot) = true := by decide +kernel
set_option maxRecDepth 100000 in
theorem qka_101 : qk_101.all (qchk 8 true cX8_init) = true := by decide +kernel
set_option maxRecDepth 100000 in
theorem qka_102 : qk_102.all (qchk 8 false cX8_hasCorner) = true := by decide +kernel
set_option maxRecDepth 100000 in
theorem qka_103 : qk_103.all (qchk 8 false cX8_everyCorner) = true := by decide +kernel
set_option maxRecDepth 100000 in
theorem qka_104 : qk_104.all (qchk 8 false cX8_at) = true := by decide +kernel
set_option maxRecDepth 100000 in
theorem qka_105 : qk_105.all (qchk 8 false cX8_cellCount) = true := by decide +kernel
set_option maxRecDepth 100000 in
theorem qka_106 : qk_106.all (qchk 8 false cX8_hasCell) = true := by decide +kernel
set_option maxRecDepth 100000 in
theorem qka_107 : qk_107.all (qchk 8 false cX8_facetSets) = true := by decide +kernel
set_option maxRecDepth 100000 in
theorem qka_108 : qk_108.all (qchk 8 false cX8_facetCount) = true := by decide +kernel
set_option maxRecDepth 100000 in
theorem qka_109 : qk_109.all (qchk 8 false cX8_isSimpleFaced) = true := by decide +kernel
set_option maxRecDepth 100000 in
theorem qka_110 : qk_110.all (qchk 8 false cX8_isEachD) = true := by decide +kernel
set_option maxRecDepth 100000 in
theorem qka_111 : qk_111.all (qchk 8 false cX8_countWithin) = true := by decide +kernel
set_option maxRecDepth 100000 in
theorem qka_112 : qk_112.all (qchk 8 false cX8_countAround) = true := by decide +kernel
set_option maxRecDepth 100000 in
theorem qka_113 : qk_113.all (qchk 8 false cX8_hCount) = true := by decide +kernel
set_option maxRecDepth 100000 in
theorem qka_114 : qk_114.all (qchk 8 false cX8_waysToTake) = true := by decide +kernel
set_option maxRecDepth 100000 in
theorem qka_115 : qk_115.all (qchk 8 false cX8_farthest) = true := by decide +kernel
set_option maxRecDepth 100000 in
theorem qka_116 : qk_116.all (qchk 8 false cX8_beyond) = true := by decide +kernel
set_option maxRecDepth 100000 in
theorem qka_117 : qk_117.all (qchk 8 false cX8_firstBeyond) = true := by decide +kernel
set_option maxRecDepth 100000 in
theorem qka_118 : qk_118.all (qchk 8 false cX8_cellAround) = true := by decide +kernel
set_option maxRecDepth 100000 in
theorem qka_119 : qk_119.all (qchk 8 false cX8_piecesOf) = true := by decide +kernel
set_option maxRecDepth 100000 in
theorem qka_120 : qk_120.all (qchk 8 false cX8_cutCell) = true := by decide +kernel
set_option maxRecDepth 100000 in
theorem qka_121 : qk_121.all (qchk 9 true cX9_init) = true := by decide +kernel
set_option maxRecDepth 100000 in
theorem qka_122 : qk_122.all (qchk 9 false cX9_steps) = true := by decide +kernel
set_option maxRecDepth 100000 in
theorem qka_123 : qk_123.all (qchk 9 false cX9_lean) = true := by decide +kernel
set_option maxRecDepth 100000 in
theorem qka_124 : qk_124.all (qchk 9 false cX9_height) = true := by decide +kernel
set_option maxRecDepth 100000 in
theorem qka_125 : qk_125.all (qchk 9 false cX9_climb) = true := by decide +kernel
set_option maxRecDepth 100000 in
theorem qka_126 : qk_126.all (qchk 9 false cX9_highestBeside) = true := by decide +kernel
set_option maxRecDepth 100000 in
theorem qka_127 : qk_127.all (qchk 9 false cX9_countUp) = true := by decide +kernel
set_option maxRecDepth 100000 in
theorem qka_128 : qk_128.all (qchk 9 false cX9_lowestOf) = true := by decide +kernel
set_option maxRecDepth 100000 in
theorem qka_129 : qk_129.all (qchk 9 false cX9_ringOf) = true := by decide +kernel
set_option maxRecDepth 100000 in
theorem qka_130 : qk_130.all (qchk 9 false cX9_fillFinishing) = true := by decide +kernel
set_option maxRecDepth 100000 in
theorem qka_131 : qk_131.all (qchk 9 false cX9_goodNext) = true := by decide +kernel
set_option maxRecDepth 100000 in
theorem qka_132 : qk_132.all (qchk 10 true cX10_init) = true := by decide +kernel
set_option maxRecDepth 100000 in
theorem qka_133 : qk_133.all (qchk 10 false cX10_point) = true := by decide +kernel
set_option maxRecDepth 100000 in
theorem qka_134 : qk_134.all (qchk 10 false cX10_wipe) = true := by decide +kernel
set_option maxRecDepth 100000 in
theorem qka_135 : qk_135.all (qchk 10 false cX10_body) = true := by decide +kernel
set_option maxRecDepth 100000 in
theorem qka_136 : qk_136.all (qchk 10 false cX10_cut) = true := by decide +kernel
set_option maxRecDepth 100000 in
theorem qka_137 : qk_137.all (qchk 10 false cX10_slice) = true := by decide +kernel
set_option maxRecDepth 100000 in
theorem qka_138 : qk_138.all (qchk 10 false cX10_shadow) = true := by decide +kernel
set_option maxRecDepth 100000 in
theorem qka_139 : qk_139.all (qchk 10 false cX10_raise) = true := by decide +kernel
set_option maxRecDepth 100000 in
theorem qka_140 : qk_140.all (qchk 10 false cX10_product) = true := by decide +kernel
set_option maxRecDepth 100000 in
theorem qka_141 : qk_141.all (qchk 10 false cX10_both) = true := by decide +kernel
set_option maxRecDepth 100000 in
theorem qka_142 : qk_142.all (qchk 10 false cX10_about) = true := by decide +kernel
set_option maxRecDepth 100000 in
theorem qka_143 : qk_143.all (qchk 10 false cX10_corner) = true := by decide +kernel
set_option maxRecDepth 100000 in
theorem qka_144 : qk_144.all (qchk 10 false cX10_count) = true := by decide +kernel
set_option maxRecDepth 100000 in
theorem qka_145 : qk_145.all (qchk 10 false cX10_faces) = true := by decide +kernel
set_option maxRecDepth 100000 in
theorem qka_146 : qk_146.all (qchk 10 false cX10_face) = true := by decide +kernel
set_option maxRecDepth 100000 in
theorem qka_147 : qk_147.all (qchk 10 false cX10_lies) = true := by decide +kernel

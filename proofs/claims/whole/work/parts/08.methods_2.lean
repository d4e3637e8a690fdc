/-! ===== EVERY METHOD OF THE TABLES IS TRUE OF ITS CODE (by program: wip/gen/mk07.py) ===== -/
set_option maxRecDepth 100000 in
theorem qka_148 : qk_148.all (qchk 10 false cX10_h) = true := by decide +kernel
set_option maxRecDepth 100000 in
theorem qka_149 : qk_149.all (qchk 10 false cX10_sum) = true := by decide +kernel
set_option maxRecDepth 100000 in
theorem qka_150 : qk_150.all (qchk 10 false cX10_same) = true := by decide +kernel
set_option maxRecDepth 100000 in
theorem qka_151 : qk_151.all (qchk 10 false cX10_inside) = true := by decide +kernel
set_option maxRecDepth 100000 in
theorem qka_152 : qk_152.all (qchk 10 false cX10_pattern) = true := by decide +kernel
set_option maxRecDepth 100000 in
theorem qka_153 : qk_153.all (qchk 10 false cX10_set) = true := by decide +kernel
set_option maxRecDepth 100000 in
theorem qka_154 : qk_154.all (qchk 10 false cX10_place) = true := by decide +kernel
set_option maxRecDepth 100000 in
theorem qka_155 : qk_155.all (qchk 10 false cX10_row) = true := by decide +kernel
set_option maxRecDepth 100000 in
theorem qka_156 : qk_156.all (qchk 10 false cX10_clear) = true := by decide +kernel
set_option maxRecDepth 100000 in
theorem qka_157 : qk_157.all (qchk 10 false cX10_meets) = true := by decide +kernel
set_option maxRecDepth 100000 in
theorem qka_158 : qk_158.all (qchk 10 false cX10_fresh) = true := by decide +kernel
set_option maxRecDepth 100000 in
theorem qka_159 : qk_159.all (qchk 10 false cX10_walk) = true := by decide +kernel
set_option maxRecDepth 100000 in
theorem qka_160 : qk_160.all (qchk 10 false cX10_far) = true := by decide +kernel
set_option maxRecDepth 100000 in
theorem qka_161 : qk_161.all (qchk 10 false cX10_tilt) = true := by decide +kernel
set_option maxRecDepth 100000 in
theorem qka_162 : qk_162.all (qchk 10 false cX10_up) = true := by decide +kernel
set_option maxRecDepth 100000 in
theorem qka_163 : qk_163.all (qchk 10 false cX10_ups) = true := by decide +kernel
set_option maxRecDepth 100000 in
theorem qka_164 : qk_164.all (qchk 10 false cX10_ring) = true := by decide +kernel
set_option maxRecDepth 100000 in
theorem qka_165 : qk_165.all (qchk 10 false cX10_where) = true := by decide +kernel
set_option maxRecDepth 100000 in
theorem qka_166 : qk_166.all (qchk 10 false cX10_parted) = true := by decide +kernel
set_option maxRecDepth 100000 in
theorem qka_167 : qk_167.all (qchk 10 false cX10_holds) = true := by decide +kernel
set_option maxRecDepth 100000 in
theorem qka_168 : qk_168.all (qchk 10 false cX10_size) = true := by decide +kernel
set_option maxRecDepth 100000 in
theorem qka_169 : qk_169.all (qchk 10 false cX10_piece) = true := by decide +kernel
set_option maxRecDepth 100000 in
theorem qka_170 : qk_170.all (qchk 10 false cX10_whole) = true := by decide +kernel
set_option maxRecDepth 100000 in
theorem qka_171 : qk_171.all (qchk 10 false cX10_feed) = true := by decide +kernel
set_option maxRecDepth 100000 in
theorem qka_172 : qk_172.all (qchk 10 false cX10_read) = true := by decide +kernel
set_option maxRecDepth 100000 in
theorem qka_173 : qk_173.all (qchk 10 false cX10_fault) = true := by decide +kernel
set_option maxRecDepth 100000 in
theorem qka_174 : qk_174.all (qchk 10 false cX10_claim) = true := by decide +kernel
set_option maxRecDepth 100000 in
theorem qka_175 : qk_175.all (qchk 10 false cX10_within) = true := by decide +kernel
set_option maxRecDepth 100000 in
theorem qka_176 : qk_176.all (qchk 10 false cX10_isDimension) = true := by decide +kernel
set_option maxRecDepth 100000 in
theorem qka_177 : qk_177.all (qchk 10 false cX10_signOf) = true := by decide +kernel
set_option maxRecDepth 100000 in
theorem qka_178 : qk_178.all (qchk 10 false cX10_leastOf) = true := by decide +kernel
set_option maxRecDepth 100000 in
theorem qka_179 : qk_179.all (qchk 10 false cX10_bodyAt) = true := by decide +kernel
set_option maxRecDepth 100000 in
theorem qka_180 : qk_180.all (qchk 10 false cX10_lastDraft) = true := by decide +kernel
set_option maxRecDepth 100000 in
theorem qka_181 : qk_181.all (qchk 10 false cX10_cornersOfAll) = true := by decide +kernel
set_option maxRecDepth 100000 in
theorem qka_182 : qk_182.all (qchk 10 false cX10_keep) = true := by decide +kernel
set_option maxRecDepth 100000 in
theorem qka_183 : qk_183.all (qchk 10 false cX10_keepHull) = true := by decide +kernel
set_option maxRecDepth 100000 in
theorem qka_184 : qk_184.all (qchk 10 false cX10_keepSection) = true := by decide +kernel
set_option maxRecDepth 100000 in
theorem qka_185 : qk_185.all (qchk 10 false cX10_isCutting) = true := by decide +kernel
set_option maxRecDepth 100000 in
theorem qka_186 : qk_186.all (qchk 10 false cX10_turnsOf) = true := by decide +kernel
set_option maxRecDepth 100000 in
theorem qka_187 : qk_187.all (qchk 10 false cX10_doClause) = true := by decide +kernel
set_option maxRecDepth 100000 in
theorem qka_188 : qk_188.all (qchk 11 true cX11_init) = true := by decide +kernel
set_option maxRecDepth 100000 in
theorem qka_189 : qk_189.all (qchk 11 false cX11_in) = true := by decide +kernel
set_option maxRecDepth 100000 in
theorem qka_190 : qk_190.all (qchk 11 false cX11_sized) = true := by decide +kernel
set_option maxRecDepth 100000 in
theorem qka_191 : qk_191.all (qchk 11 false cX11_gcd) = true := by decide +kernel
set_option maxRecDepth 100000 in
theorem qka_192 : qk_192.all (qchk 11 false cX11_bits) = true := by decide +kernel
set_option maxRecDepth 100000 in
theorem qka_193 : qk_193.all (qchk 11 false cX11_isBody) = true := by decide +kernel
set_option maxRecDepth 100000 in
theorem qka_194 : qk_194.all (qchk 11 false cX11_x) = true := by decide +kernel
set_option maxRecDepth 100000 in
theorem qka_195 : qk_195.all (qchk 11 false cX11_many) = true := by decide +kernel
set_option maxRecDepth 100000 in
theorem qka_196 : qk_196.all (qchk 11 false cX11_setOf) = true := by decide +kernel
set_option maxRecDepth 100000 in
theorem qka_197 : qk_197.all (qchk 11 false cX11_facets) = true := by decide +kernel
set_option maxRecDepth 100000 in
theorem qka_198 : qk_198.all (qchk 11 false cX11_facet) = true := by decide +kernel
set_option maxRecDepth 100000 in
theorem qka_199 : qk_199.all (qchk 11 false cX11_begin) = true := by decide +kernel
set_option maxRecDepth 100000 in
theorem qka_200 : qk_200.all (qchk 11 false cX11_isThere) = true := by decide +kernel
set_option maxRecDepth 100000 in
theorem qka_201 : qk_201.all (qchk 11 false cX11_put) = true := by decide +kernel
set_option maxRecDepth 100000 in
theorem qka_202 : qk_202.all (qchk 11 false cX11_apart) = true := by decide +kernel
set_option maxRecDepth 100000 in
theorem qka_203 : qk_203.all (qchk 11 false cX11_corner2) = true := by decide +kernel
set_option maxRecDepth 100000 in
theorem qka_204 : qk_204.all (qchk 11 false cX11_corner3) = true := by decide +kernel
set_option maxRecDepth 100000 in
theorem qka_205 : qk_205.all (qchk 11 false cX11_findNormal) = true := by decide +kernel
set_option maxRecDepth 100000 in
theorem qka_206 : qk_206.all (qchk 11 false cX11_beyond) = true := by decide +kernel
set_option maxRecDepth 100000 in
theorem qka_207 : qk_207.all (qchk 11 false cX11_keepPlane) = true := by decide +kernel
set_option maxRecDepth 100000 in
theorem qka_208 : qk_208.all (qchk 11 false cX11_findPlanes) = true := by decide +kernel
set_option maxRecDepth 100000 in
theorem qka_209 : qk_209.all (qchk 11 false cX11_isCorner) = true := by decide +kernel
set_option maxRecDepth 100000 in
theorem qka_210 : qk_210.all (qchk 11 false cX11_make) = true := by decide +kernel
set_option maxRecDepth 100000 in
theorem qka_211 : qk_211.all (qchk 11 false cX11_putFacet) = true := by decide +kernel
set_option maxRecDepth 100000 in
theorem qka_212 : qk_212.all (qchk 11 false cX11_putFace) = true := by decide +kernel
set_option maxRecDepth 100000 in
theorem qka_213 : qk_213.all (qchk 11 false cX11_findFaces) = true := by decide +kernel
set_option maxRecDepth 100000 in
theorem qka_214 : qk_214.all (qchk 11 false cX11_point) = true := by decide +kernel
set_option maxRecDepth 100000 in
theorem qka_215 : qk_215.all (qchk 11 false cX11_wipe) = true := by decide +kernel
set_option maxRecDepth 100000 in
theorem qka_216 : qk_216.all (qchk 11 false cX11_body) = true := by decide +kernel
set_option maxRecDepth 100000 in
theorem qka_217 : qk_217.all (qchk 11 false cX11_putPart) = true := by decide +kernel
set_option maxRecDepth 100000 in
theorem qka_218 : qk_218.all (qchk 11 false cX11_putBetween) = true := by decide +kernel
set_option maxRecDepth 100000 in
theorem qka_219 : qk_219.all (qchk 11 false cX11_makeWhole) = true := by decide +kernel

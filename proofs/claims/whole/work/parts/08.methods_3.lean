/-! ===== EVERY METHOD OF THE TABLES IS TRUE OF ITS CODE (by program: wip/gen/mk07.py) ===== -/
set_option maxRecDepth 100000 in
theorem qka_220 : qk_220.all (qchk 11 false cX11_tilted) = true := by decide +kernel
set_option maxRecDepth 100000 in
theorem qka_221 : qk_221.all (qchk 11 false cX11_putEdges) = true := by decide +kernel
set_option maxRecDepth 100000 in
theorem qka_222 : qk_222.all (qchk 11 false cX11_cut) = true := by decide +kernel
set_option maxRecDepth 100000 in
theorem qka_223 : qk_223.all (qchk 11 false cX11_slice) = true := by decide +kernel
set_option maxRecDepth 100000 in
theorem qka_224 : qk_224.all (qchk 11 false cX11_makeOne) = true := by decide +kernel
set_option maxRecDepth 100000 in
theorem qka_225 : qk_225.all (qchk 11 false cX11_shadow) = true := by decide +kernel
set_option maxRecDepth 100000 in
theorem qka_226 : qk_226.all (qchk 11 false cX11_putRaised) = true := by decide +kernel
set_option maxRecDepth 100000 in
theorem qka_227 : qk_227.all (qchk 11 false cX11_raise) = true := by decide +kernel
set_option maxRecDepth 100000 in
theorem qka_228 : qk_228.all (qchk 11 false cX11_product) = true := by decide +kernel
set_option maxRecDepth 100000 in
theorem qka_229 : qk_229.all (qchk 11 false cX11_both) = true := by decide +kernel
set_option maxRecDepth 100000 in
theorem qka_230 : qk_230.all (qchk 11 false cX11_isSimpleFaced) = true := by decide +kernel
set_option maxRecDepth 100000 in
theorem qka_231 : qk_231.all (qchk 11 false cX11_facetsOf) = true := by decide +kernel
set_option maxRecDepth 100000 in
theorem qka_232 : qk_232.all (qchk 11 false cX11_isEach) = true := by decide +kernel
set_option maxRecDepth 100000 in
theorem qka_233 : qk_233.all (qchk 11 false cX11_about) = true := by decide +kernel
set_option maxRecDepth 100000 in
theorem qka_234 : qk_234.all (qchk 11 false cX11_isCornerOf) = true := by decide +kernel
set_option maxRecDepth 100000 in
theorem qka_235 : qk_235.all (qchk 11 false cX11_corner) = true := by decide +kernel
set_option maxRecDepth 100000 in
theorem qka_236 : qk_236.all (qchk 11 false cX11_count) = true := by decide +kernel
set_option maxRecDepth 100000 in
theorem qka_237 : qk_237.all (qchk 11 false cX11_faces) = true := by decide +kernel
set_option maxRecDepth 100000 in
theorem qka_238 : qk_238.all (qchk 11 false cX11_face) = true := by decide +kernel
set_option maxRecDepth 100000 in
theorem qka_239 : qk_239.all (qchk 11 false cX11_lies) = true := by decide +kernel
set_option maxRecDepth 100000 in
theorem qka_240 : qk_240.all (qchk 11 false cX11_choose) = true := by decide +kernel
set_option maxRecDepth 100000 in
theorem qka_241 : qk_241.all (qchk 11 false cX11_h) = true := by decide +kernel
set_option maxRecDepth 100000 in
theorem qka_242 : qk_242.all (qchk 11 false cX11_sum) = true := by decide +kernel
set_option maxRecDepth 100000 in
theorem qka_243 : qk_243.all (qchk 11 false cX11_countThrees) = true := by decide +kernel
set_option maxRecDepth 100000 in
theorem qka_244 : qk_244.all (qchk 11 false cX11_goes) = true := by decide +kernel
set_option maxRecDepth 100000 in
theorem qka_245 : qk_245.all (qchk 11 false cX11_isRenamed) = true := by decide +kernel
set_option maxRecDepth 100000 in
theorem qka_246 : qk_246.all (qchk 11 false cX11_renamings) = true := by decide +kernel
set_option maxRecDepth 100000 in
theorem qka_247 : qk_247.all (qchk 11 false cX11_takeOne) = true := by decide +kernel
set_option maxRecDepth 100000 in
theorem qka_248 : qk_248.all (qchk 11 false cX11_takeTwo) = true := by decide +kernel
set_option maxRecDepth 100000 in
theorem qka_249 : qk_249.all (qchk 11 false cX11_turnsOf) = true := by decide +kernel
set_option maxRecDepth 100000 in
theorem qka_250 : qk_250.all (qchk 11 false cX11_same) = true := by decide +kernel
set_option maxRecDepth 100000 in
theorem qka_251 : qk_251.all (qchk 11 false cX11_inside) = true := by decide +kernel
set_option maxRecDepth 100000 in
theorem qka_252 : qk_252.all (qchk 11 false cX11_pattern) = true := by decide +kernel
set_option maxRecDepth 100000 in
theorem qka_253 : qk_253.all (qchk 11 false cX11_set) = true := by decide +kernel
set_option maxRecDepth 100000 in
theorem qka_254 : qk_254.all (qchk 11 false cX11_inSome) = true := by decide +kernel
set_option maxRecDepth 100000 in
theorem qka_255 : qk_255.all (qchk 11 false cX11_inMany) = true := by decide +kernel
set_option maxRecDepth 100000 in
theorem qka_256 : qk_256.all (qchk 11 false cX11_hasTwo) = true := by decide +kernel
set_option maxRecDepth 100000 in
theorem qka_257 : qk_257.all (qchk 11 false cX11_isJoined) = true := by decide +kernel
set_option maxRecDepth 100000 in
theorem qka_258 : qk_258.all (qchk 11 false cX11_patternSum) = true := by decide +kernel
set_option maxRecDepth 100000 in
theorem qka_259 : qk_259.all (qchk 11 false cX11_place) = true := by decide +kernel
set_option maxRecDepth 100000 in
theorem qka_260 : qk_260.all (qchk 11 false cX11_row) = true := by decide +kernel
set_option maxRecDepth 100000 in
theorem qka_261 : qk_261.all (qchk 11 false cX11_clear) = true := by decide +kernel
set_option maxRecDepth 100000 in
theorem qka_262 : qk_262.all (qchk 11 false cX11_hasRow) = true := by decide +kernel
set_option maxRecDepth 100000 in
theorem qka_263 : qk_263.all (qchk 11 false cX11_meetsAt) = true := by decide +kernel
set_option maxRecDepth 100000 in
theorem qka_264 : qk_264.all (qchk 11 false cX11_meets) = true := by decide +kernel
set_option maxRecDepth 100000 in
theorem qka_265 : qk_265.all (qchk 11 false cX11_freshAt) = true := by decide +kernel
set_option maxRecDepth 100000 in
theorem qka_266 : qk_266.all (qchk 11 false cX11_fresh) = true := by decide +kernel
set_option maxRecDepth 100000 in
theorem qka_267 : qk_267.all (qchk 11 false cX11_areBeside) = true := by decide +kernel
set_option maxRecDepth 100000 in
theorem qka_268 : qk_268.all (qchk 11 false cX11_findBeside) = true := by decide +kernel
set_option maxRecDepth 100000 in
theorem qka_269 : qk_269.all (qchk 11 false cX11_steps) = true := by decide +kernel
set_option maxRecDepth 100000 in
theorem qka_270 : qk_270.all (qchk 11 false cX11_walk) = true := by decide +kernel
set_option maxRecDepth 100000 in
theorem qka_271 : qk_271.all (qchk 11 false cX11_far) = true := by decide +kernel
set_option maxRecDepth 100000 in
theorem qka_272 : qk_272.all (qchk 11 false cX11_tilt) = true := by decide +kernel
set_option maxRecDepth 100000 in
theorem qka_273 : qk_273.all (qchk 11 false cX11_height) = true := by decide +kernel
set_option maxRecDepth 100000 in
theorem qka_274 : qk_274.all (qchk 11 false cX11_up) = true := by decide +kernel

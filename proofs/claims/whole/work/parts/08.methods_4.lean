/-! ===== EVERY METHOD OF THE TABLES IS TRUE OF ITS CODE (by program: wip/gen/mk07.py) ===== -/
set_option maxRecDepth 100000 in
theorem qka_275 : qk_275.all (qchk 11 false cX11_ups) = true := by decide +kernel
set_option maxRecDepth 100000 in
theorem qka_276 : qk_276.all (qchk 11 false cX11_findRing) = true := by decide +kernel
set_option maxRecDepth 100000 in
theorem qka_277 : qk_277.all (qchk 11 false cX11_ring) = true := by decide +kernel
set_option maxRecDepth 100000 in
theorem qka_278 : qk_278.all (qchk 11 false cX11_over) = true := by decide +kernel
set_option maxRecDepth 100000 in
theorem qka_279 : qk_279.all (qchk 11 false cX11_whereIs) = true := by decide +kernel
set_option maxRecDepth 100000 in
theorem qka_280 : qk_280.all (qchk 11 false cX11_where) = true := by decide +kernel
set_option maxRecDepth 100000 in
theorem qka_281 : qk_281.all (qchk 11 false cX11_parted) = true := by decide +kernel
set_option maxRecDepth 100000 in
theorem qka_282 : qk_282.all (qchk 11 false cX11_holds) = true := by decide +kernel
set_option maxRecDepth 100000 in
theorem qka_283 : qk_283.all (qchk 11 false cX11_wait) = true := by decide +kernel
set_option maxRecDepth 100000 in
theorem qka_284 : qk_284.all (qchk 11 false cX11_findPieces) = true := by decide +kernel
set_option maxRecDepth 100000 in
theorem qka_285 : qk_285.all (qchk 11 false cX11_square) = true := by decide +kernel
set_option maxRecDepth 100000 in
theorem qka_286 : qk_286.all (qchk 11 false cX11_cube) = true := by decide +kernel
set_option maxRecDepth 100000 in
theorem qka_287 : qk_287.all (qchk 11 false cX11_sizeOf) = true := by decide +kernel
set_option maxRecDepth 100000 in
theorem qka_288 : qk_288.all (qchk 11 false cX11_size) = true := by decide +kernel
set_option maxRecDepth 100000 in
theorem qka_289 : qk_289.all (qchk 11 false cX11_piece) = true := by decide +kernel
set_option maxRecDepth 100000 in
theorem qka_290 : qk_290.all (qchk 11 false cX11_whole) = true := by decide +kernel
set_option maxRecDepth 100000 in
theorem qka_291 : qk_291.all (qchk 11 false cX11_feed) = true := by decide +kernel
set_option maxRecDepth 100000 in
theorem qka_292 : qk_292.all (qchk 11 false cX11_here) = true := by decide +kernel
set_option maxRecDepth 100000 in
theorem qka_293 : qk_293.all (qchk 11 false cX11_fails) = true := by decide +kernel
set_option maxRecDepth 100000 in
theorem qka_294 : qk_294.all (qchk 11 false cX11_readWord) = true := by decide +kernel
set_option maxRecDepth 100000 in
theorem qka_295 : qk_295.all (qchk 11 false cX11_code) = true := by decide +kernel
set_option maxRecDepth 100000 in
theorem qka_296 : qk_296.all (qchk 11 false cX11_keyOf) = true := by decide +kernel
set_option maxRecDepth 100000 in
theorem qka_297 : qk_297.all (qchk 11 false cX11_readNumber) = true := by decide +kernel
set_option maxRecDepth 100000 in
theorem qka_298 : qk_298.all (qchk 11 false cX11_needs) = true := by decide +kernel
set_option maxRecDepth 100000 in
theorem qka_299 : qk_299.all (qchk 11 false cX11_roundMost) = true := by decide +kernel
set_option maxRecDepth 100000 in
theorem qka_300 : qk_300.all (qchk 11 false cX11_readClaim) = true := by decide +kernel
set_option maxRecDepth 100000 in
theorem qka_301 : qk_301.all (qchk 11 false cX11_readClause) = true := by decide +kernel
set_option maxRecDepth 100000 in
theorem qka_302 : qk_302.all (qchk 11 false cX11_bit) = true := by decide +kernel
set_option maxRecDepth 100000 in
theorem qka_303 : qk_303.all (qchk 11 false cX11_makes) = true := by decide +kernel
set_option maxRecDepth 100000 in
theorem qka_304 : qk_304.all (qchk 11 false cX11_read) = true := by decide +kernel
set_option maxRecDepth 100000 in
theorem qka_305 : qk_305.all (qchk 11 false cX11_fault) = true := by decide +kernel
set_option maxRecDepth 100000 in
theorem qka_306 : qk_306.all (qchk 11 false cX11_isHeld) = true := by decide +kernel
set_option maxRecDepth 100000 in
theorem qka_307 : qk_307.all (qchk 11 false cX11_claim) = true := by decide +kernel
set_option maxRecDepth 100000 in
theorem qka_308 : qk_308.all (qchk 12 false cJ6_bitCount_0f7a4) = true := by decide +kernel
set_option maxRecDepth 100000 in
theorem qka_309 : qk_309.all (qchk 13 false cJ9_floorDiv_f86c9) = true := by decide +kernel
set_option maxRecDepth 100000 in
theorem qka_310 : qk_310.all (qchk 13 false cJ9_abs_0f7a4) = true := by decide +kernel
set_option maxRecDepth 100000 in
theorem qka_311 : qk_311.all (qchk 13 false cJ9_abs_067f4) = true := by decide +kernel
set_option maxRecDepth 100000 in
theorem qka_312 : qk_312.all (qchk 13 false cJ9_max_7cf53) = true := by decide +kernel
set_option maxRecDepth 100000 in
theorem qka_313 : qk_313.all (qchk 13 false cJ9_max_f86c9) = true := by decide +kernel
set_option maxRecDepth 100000 in
theorem qka_314 : qk_314.all (qchk 13 false cJ9_min_7cf53) = true := by decide +kernel
set_option maxRecDepth 100000 in
theorem qka_315 : qk_315.all (qchk 13 false cJ9_min_f86c9) = true := by decide +kernel
set_option maxRecDepth 100000 in
theorem qka_316 : qk_316.all (qchk 14 false cJ7_fill_d0a16) = true := by decide +kernel
set_option maxRecDepth 100000 in
theorem qka_317 : qk_317.all (qchk 14 false cJ7_fill_53178) = true := by decide +kernel
set_option maxRecDepth 100000 in
theorem qka_318 : qk_318.all (qchk 14 false cJ7_copyOf_59c91) = true := by decide +kernel

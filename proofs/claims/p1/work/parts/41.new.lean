/-! ===== RUNNING BY REWRITING: plain facts (by program: wip/gen/mk41) ===== -/
theorem tn_4 : (4 : Int32).toNatClampNeg = 4 := by decide
theorem tl_4 : ((4 : Int32) < 0) = False := by decide
theorem tn_5 : (5 : Int32).toNatClampNeg = 5 := by decide
theorem tl_5 : ((5 : Int32) < 0) = False := by decide
theorem tn_16 : (16 : Int32).toNatClampNeg = 16 := by decide
theorem tl_16 : ((16 : Int32) < 0) = False := by decide
theorem tn_17 : (17 : Int32).toNatClampNeg = 17 := by decide
theorem tl_17 : ((17 : Int32) < 0) = False := by decide
theorem tn_24 : (24 : Int32).toNatClampNeg = 24 := by decide
theorem tl_24 : ((24 : Int32) < 0) = False := by decide
theorem tn_32 : (32 : Int32).toNatClampNeg = 32 := by decide
theorem tl_32 : ((32 : Int32) < 0) = False := by decide
theorem tn_64 : (64 : Int32).toNatClampNeg = 64 := by decide
theorem tl_64 : ((64 : Int32) < 0) = False := by decide
theorem tn_96 : (96 : Int32).toNatClampNeg = 96 := by decide
theorem tl_96 : ((96 : Int32) < 0) = False := by decide
theorem tn_104 : (104 : Int32).toNatClampNeg = 104 := by decide
theorem tl_104 : ((104 : Int32) < 0) = False := by decide
theorem tn_135 : (135 : Int32).toNatClampNeg = 135 := by decide
theorem tl_135 : ((135 : Int32) < 0) = False := by decide
theorem tn_160 : (160 : Int32).toNatClampNeg = 160 := by decide
theorem tl_160 : ((160 : Int32) < 0) = False := by decide
theorem tn_208 : (208 : Int32).toNatClampNeg = 208 := by decide
theorem tl_208 : ((208 : Int32) < 0) = False := by decide
theorem tn_256 : (256 : Int32).toNatClampNeg = 256 := by decide
theorem tl_256 : ((256 : Int32) < 0) = False := by decide
theorem tn_480 : (480 : Int32).toNatClampNeg = 480 := by decide
theorem tl_480 : ((480 : Int32) < 0) = False := by decide
theorem tn_520 : (520 : Int32).toNatClampNeg = 520 := by decide
theorem tl_520 : ((520 : Int32) < 0) = False := by decide
theorem tn_1024 : (1024 : Int32).toNatClampNeg = 1024 := by decide
theorem tl_1024 : ((1024 : Int32) < 0) = False := by decide
theorem tn_1536 : (1536 : Int32).toNatClampNeg = 1536 := by decide
theorem tl_1536 : ((1536 : Int32) < 0) = False := by decide
theorem tn_2000 : (2000 : Int32).toNatClampNeg = 2000 := by decide
theorem tl_2000 : ((2000 : Int32) < 0) = False := by decide
theorem tn_4000 : (4000 : Int32).toNatClampNeg = 4000 := by decide
theorem tl_4000 : ((4000 : Int32) < 0) = False := by decide
theorem tn_4096 : (4096 : Int32).toNatClampNeg = 4096 := by decide
theorem tl_4096 : ((4096 : Int32) < 0) = False := by decide
theorem tn_10000 : (10000 : Int32).toNatClampNeg = 10000 := by decide
theorem tl_10000 : ((10000 : Int32) < 0) = False := by decide
theorem tn_12480 : (12480 : Int32).toNatClampNeg = 12480 := by decide
theorem tl_12480 : ((12480 : Int32) < 0) = False := by decide
theorem tn_19968 : (19968 : Int32).toNatClampNeg = 19968 := by decide
theorem tl_19968 : ((19968 : Int32) < 0) = False := by decide
theorem qnew_mk {f : Nat → qC} {n k s : Nat} {c : qC} : qnew (f, n, k) c s = (qup f n c, n + 1, k + s) := rfl
theorem qup_at {g : Nat → qC} {a b : Nat} {c : qC} : qup g a c b = if b = a then c else g b := rfl
theorem qput_mk {f : Nat → qC} {n k a ci j : Nat} {v : Value} : qput (f, n, k) a ci j v = if 16 ≤ a ∧ a < n ∧ j < qnF ci then
    match f a with
    | .inr (c, F) => if c = ci then some (qup f a (.inr (c, qfu F j v)), n, k) else none
    | .inl _ => none
  else none := rfl
theorem qfit_i {z : Int32} : qfit 0 (.int z) = true := rfl
theorem qfit_l {z : Int64} : qfit 1 (.long z) = true := rfl
theorem qfit_r {z : Nat} : qfit 2 (.ref z) = true := rfl
theorem qfit_n : qfit 2 .null = true := rfl
theorem qfit_b0 : qfit 3 (.int 0) = true := rfl
theorem qfit_b1 : qfit 3 (.int 1) = true := rfl
theorem qcat_i {z : Int32} : (Value.int z).category = 1 := rfl
theorem qcat_r {z : Nat} : (Value.ref z).category = 1 := rfl
theorem qcat_n : Value.null.category = 1 := rfl
theorem qcat_l {z : Int64} : (Value.long z).category = 2 := rfl
theorem qroom_0 : qroom [] = true := rfl
theorem qroom_c {v : Value} {st : List Value} : qroom (v :: st) = decide (v.category + (st.map fun v => v.category).sum ≤ 8) := rfl
theorem qnF0 : qnF 0 = 2 := rfl
theorem qnF1 : qnF 1 = 2 := rfl
theorem qnF2 : qnF 2 = 11 := rfl
theorem qnF3 : qnF 3 = 6 := rfl
theorem qnF4 : qnF 4 = 12 := rfl
theorem qnF5 : qnF 5 = 3 := rfl
theorem qnF6 : qnF 6 = 8 := rfl
theorem qnF7 : qnF 7 = 5 := rfl
theorem qnF8 : qnF 8 = 10 := rfl
theorem qnF9 : qnF 9 = 5 := rfl
theorem qnF10 : qnF 10 = 13 := rfl
theorem qnF11 : qnF 11 = 63 := rfl
theorem qg_0 {a : Option Value} {L : qL} : qgL (a :: L) 0 = a := rfl
theorem qg_1 {a b : Option Value} {L : qL} : qgL (a :: b :: L) 1 = b := rfl
theorem qg_2 {a b c : Option Value} {L : qL} : qgL (a :: b :: c :: L) 2 = c := rfl
theorem qg_3 {a b c e : Option Value} {L : qL} : qgL (a :: b :: c :: e :: L) 3 = e := rfl
theorem qg_4 {a b c e g : Option Value} {L : qL} : qgL (a :: b :: c :: e :: g :: L) 4 = g := rfl
theorem qg_5 {a b c e g i : Option Value} {L : qL} : qgL (a :: b :: c :: e :: g :: i :: L) 5 = i := rfl
theorem qg_6 {a b c e g i j : Option Value} {L : qL} : qgL (a :: b :: c :: e :: g :: i :: j :: L) 6 = j := rfl
theorem ex1 {α : Type} {a : α} {P : α → Prop} : (∃ v, some a = some v ∧ P v) ↔ P a := ⟨fun ⟨_, h, p⟩ => by cases h; exact p, fun p => ⟨a, rfl, p⟩⟩
theorem ex2 {α : Type} {a : α} {P : α → Prop} : (∃ v, a = v ∧ P v) ↔ P a := ⟨fun ⟨_, h, p⟩ => by cases h; exact p, fun p => ⟨a, rfl, p⟩⟩
theorem ex3 {α β : Type} {a : α} {b : β} {P : α → β → Prop} : (∃ v w, (v, w) = (a, b) ∧ P v w) ↔ P a b := ⟨fun ⟨_, _, h, p⟩ => by cases h; exact p, fun p => ⟨a, b, rfl, p⟩⟩
theorem ex4 {α β : Type} {a : α} {b : β} {P : β → Prop} : (∃ w, (a, w) = (a, b) ∧ P w) ↔ P b := ⟨fun ⟨_, h, p⟩ => by cases h; exact p, fun p => ⟨b, rfl, p⟩⟩
set_option maxRecDepth 100000 in
set_option maxHeartbeats 8000000 in
theorem new_X {d k : Nat} {f : Nat → qC} : qMC (d + 2) 20 [.ref 16] (qnew (f, 16, k) (.inr (10, qdef 10)) 13) (none, (hX f, 55, k + 2468)) := by
  simp only [e20_0, e20_1, e20_4, e20_5, e20_7, e20_10, e20_13, e20_14, e20_16, e20_18, e20_21, e20_22, e20_25, e20_26, e20_29, e20_32, e20_33, e20_36, e20_37, e20_40, e20_43, e20_44, e20_47, e20_48, e20_51, e20_54, e20_55, e20_58, e20_59, e20_62, e20_65, e20_66, e20_69, e20_70, e20_73, e20_76, e20_77, e20_80, e20_81, e20_84, e20_87, e20_88, e20_91, e20_92, e20_95, e20_98, e20_99, e20_102, e20_103, e20_106, e20_109, e20_110, e20_113, e20_114, e20_117, e20_120, m20, e4_0, e4_1, e4_4, e4_5, e4_7, e4_9, e4_12, e4_13, e4_14, e4_17, e4_18, e4_20, e4_22, e4_25, e4_26, e4_29, e4_31, e4_34, e4_35, e4_37, e4_39, e4_42, e4_43, e4_44, e4_46, e4_49, e4_50, e4_52, e4_54, e4_57, e4_58, e4_61, e4_63, e4_66, m4, e17_0, e17_1, e17_4, e17_5, e17_7, e17_9, e17_12, e17_13, e17_14, e17_17, e17_18, e17_19, e17_22, e17_23, e17_24, e17_26, e17_29, m17, e8_0, e8_1, e8_4, e8_5, e8_7, e8_9, e8_12, e8_13, e8_16, e8_18, e8_21, e8_22, e8_25, e8_27, e8_30, e8_31, e8_33, e8_35, e8_38, e8_39, e8_41, e8_43, e8_46, e8_47, e8_49, e8_51, e8_54, e8_55, e8_57, e8_59, e8_62, e8_63, e8_65, e8_67, e8_70, m8, e9_0, e9_1, e9_4, e9_5, e9_6, e9_9, e9_10, e9_12, e9_14, e9_17, m9, e1_0, e1_1, e1_4, e1_5, e1_7, e1_9, e1_12, m1, e18_0, e18_1, e18_4, e18_5, e18_6, e18_8, e18_11, e18_12, e18_14, e18_16, e18_19, m18, e7_0, e7_1, e7_4, e7_5, e7_6, e7_8, e7_11, e7_12, e7_13, e7_15, e7_18, e7_19, e7_20, e7_22, e7_25, m7, e13_0, e13_1, e13_4, e13_5, e13_8, e13_10, e13_13, e13_14, e13_17, e13_19, e13_22, e13_23, e13_24, e13_27, m13, e0_0, e0_1, e0_4, e0_5, e0_7, e0_9, e0_12, m0, qg_0, ex1, ex4, qfit_i, qfit_l, qfit_r, qcat_r, qroom_0, qroom_c, List.map_cons, List.map_nil, List.sum_cons, List.sum_nil, tn_4, tl_4, tn_5, tl_5, tn_16, tl_16, tn_17, tl_17, tn_24, tl_24, tn_32, tl_32, tn_64, tl_64, tn_96, tl_96, tn_104, tl_104, tn_135, tl_135, tn_160, tl_160, tn_208, tl_208, tn_256, tl_256, tn_480, tl_480, tn_520, tl_520, tn_1024, tl_1024, tn_1536, tl_1536, tn_2000, tl_2000, tn_4000, tl_4000, tn_4096, tl_4096, tn_10000, tl_10000, tn_12480, tl_12480, tn_19968, tl_19968, Nat.reduceAdd, Nat.reduceLT, Nat.reduceLeDiff, or_self, not_false_eq_true, true_and, decide_true, qnew_mk, qput_mk, qup_at, Nat.reduceEqDiff, if_true, if_false, and_self, qnF0, qnF1, qnF2, qnF3, qnF4, qnF5, qnF6, qnF7, qnF8, qnF9, qnF10, qnF11]
  refine Prod.ext rfl (Prod.ext ?_ (Prod.ext rfl ?_))
  · funext a
    dsimp only
    by_cases h16 : a = 16
    · subst h16; rfl
    by_cases h17 : a = 17
    · subst h17; rfl
    by_cases h18 : a = 18
    · subst h18; rfl
    by_cases h19 : a = 19
    · subst h19; rfl
    by_cases h20 : a = 20
    · subst h20; rfl
    by_cases h21 : a = 21
    · subst h21; rfl
    by_cases h22 : a = 22
    · subst h22; rfl
    by_cases h23 : a = 23
    · subst h23; rfl
    by_cases h24 : a = 24
    · subst h24; rfl
    by_cases h25 : a = 25
    · subst h25; rfl
    by_cases h26 : a = 26
    · subst h26; rfl
    by_cases h27 : a = 27
    · subst h27; rfl
    by_cases h28 : a = 28
    · subst h28; rfl
    by_cases h29 : a = 29
    · subst h29; rfl
    by_cases h30 : a = 30
    · subst h30; rfl
    by_cases h31 : a = 31
    · subst h31; rfl
    by_cases h32 : a = 32
    · subst h32; rfl
    by_cases h33 : a = 33
    · subst h33; rfl
    by_cases h34 : a = 34
    · subst h34; rfl
    by_cases h35 : a = 35
    · subst h35; rfl
    by_cases h36 : a = 36
    · subst h36; rfl
    by_cases h37 : a = 37
    · subst h37; rfl
    by_cases h38 : a = 38
    · subst h38; rfl
    by_cases h39 : a = 39
    · subst h39; rfl
    by_cases h40 : a = 40
    · subst h40; rfl
    by_cases h41 : a = 41
    · subst h41; rfl
    by_cases h42 : a = 42
    · subst h42; rfl
    by_cases h43 : a = 43
    · subst h43; rfl
    by_cases h44 : a = 44
    · subst h44; rfl
    by_cases h45 : a = 45
    · subst h45; rfl
    by_cases h46 : a = 46
    · subst h46; rfl
    by_cases h47 : a = 47
    · subst h47; rfl
    by_cases h48 : a = 48
    · subst h48; rfl
    by_cases h49 : a = 49
    · subst h49; rfl
    by_cases h50 : a = 50
    · subst h50; rfl
    by_cases h51 : a = 51
    · subst h51; rfl
    by_cases h52 : a = 52
    · subst h52; rfl
    by_cases h53 : a = 53
    · subst h53; rfl
    by_cases h54 : a = 54
    · subst h54; rfl
    simp only [hX, qup_at, h16, h17, h18, h19, h20, h21, h22, h23, h24, h25, h26, h27, h28, h29, h30, h31, h32, h33, h34, h35, h36, h37, h38, h39, h40, h41, h42, h43, h44, h45, h46, h47, h48, h49, h50, h51, h52, h53, h54, if_false]
  · dsimp only
set_option maxRecDepth 100000 in
set_option maxHeartbeats 8000000 in
theorem new_M {d k : Nat} {f : Nat → qC} : qMC (d + 1) 67 [.ref 55] (qnew (f, 55, k) (.inr (11, qdef 11)) 63) (none, (hM f, 97, k + 76402)) := by
  simp only [e67_0, e67_1, e67_4, e67_5, e67_7, e67_9, e67_12, e67_13, e67_15, e67_17, e67_20, e67_21, e67_23, e67_25, e67_28, e67_29, e67_32, e67_34, e67_37, e67_38, e67_40, e67_42, e67_45, e67_46, e67_49, e67_51, e67_54, e67_55, e67_58, e67_60, e67_63, e67_64, e67_67, e67_69, e67_72, e67_73, e67_76, e67_78, e67_81, e67_82, e67_85, e67_87, e67_90, e67_91, e67_92, e67_94, e67_97, e67_98, e67_99, e67_101, e67_104, e67_105, e67_108, e67_110, e67_113, e67_114, e67_117, e67_119, e67_122, e67_123, e67_125, e67_127, e67_130, e67_131, e67_134, e67_136, e67_139, e67_140, e67_143, e67_145, e67_148, e67_149, e67_150, e67_152, e67_155, e67_156, e67_158, e67_160, e67_163, e67_164, e67_167, e67_169, e67_172, e67_173, e67_176, e67_178, e67_181, e67_182, e67_185, e67_187, e67_190, e67_191, e67_194, e67_196, e67_199, e67_200, e67_202, e67_204, e67_207, e67_208, e67_209, e67_212, e67_213, e67_215, e67_217, e67_220, e67_221, e67_223, e67_225, e67_228, e67_229, e67_231, e67_233, e67_236, e67_237, e67_238, e67_240, e67_243, e67_244, e67_246, e67_248, e67_251, e67_252, e67_254, e67_256, e67_259, e67_260, e67_263, e67_265, e67_268, e67_269, e67_272, e67_274, e67_277, e67_278, e67_281, e67_283, e67_286, e67_287, e67_290, e67_292, e67_295, e67_296, e67_298, e67_300, e67_303, e67_304, e67_305, e67_307, e67_310, e67_311, e67_312, e67_314, e67_317, e67_318, e67_321, e67_323, e67_326, e67_327, e67_328, e67_331, e67_332, e67_334, e67_336, e67_339, e67_340, e67_343, e67_345, e67_348, e67_349, e67_351, e67_353, e67_356, m67, qg_0, ex1, ex4, qfit_i, qfit_l, qfit_r, qcat_r, qroom_0, qroom_c, List.map_cons, List.map_nil, List.sum_cons, List.sum_nil, tn_4, tl_4, tn_5, tl_5, tn_16, tl_16, tn_17, tl_17, tn_24, tl_24, tn_32, tl_32, tn_64, tl_64, tn_96, tl_96, tn_104, tl_104, tn_135, tl_135, tn_160, tl_160, tn_208, tl_208, tn_256, tl_256, tn_480, tl_480, tn_520, tl_520, tn_1024, tl_1024, tn_1536, tl_1536, tn_2000, tl_2000, tn_4000, tl_4000, tn_4096, tl_4096, tn_10000, tl_10000, tn_12480, tl_12480, tn_19968, tl_19968, Nat.reduceAdd, Nat.reduceLT, Nat.reduceLeDiff, or_self, not_false_eq_true, true_and, decide_true, qnew_mk, qput_mk, qup_at, Nat.reduceEqDiff, if_true, if_false, and_self, qnF0, qnF1, qnF2, qnF3, qnF4, qnF5, qnF6, qnF7, qnF8, qnF9, qnF10, qnF11]
  refine Prod.ext rfl (Prod.ext ?_ (Prod.ext rfl ?_))
  · funext a
    dsimp only
    by_cases h55 : a = 55
    · subst h55; rfl
    by_cases h56 : a = 56
    · subst h56; rfl
    by_cases h57 : a = 57
    · subst h57; rfl
    by_cases h58 : a = 58
    · subst h58; rfl
    by_cases h59 : a = 59
    · subst h59; rfl
    by_cases h60 : a = 60
    · subst h60; rfl
    by_cases h61 : a = 61
    · subst h61; rfl
    by_cases h62 : a = 62
    · subst h62; rfl
    by_cases h63 : a = 63
    · subst h63; rfl
    by_cases h64 : a = 64
    · subst h64; rfl
    by_cases h65 : a = 65
    · subst h65; rfl
    by_cases h66 : a = 66
    · subst h66; rfl
    by_cases h67 : a = 67
    · subst h67; rfl
    by_cases h68 : a = 68
    · subst h68; rfl
    by_cases h69 : a = 69
    · subst h69; rfl
    by_cases h70 : a = 70
    · subst h70; rfl
    by_cases h71 : a = 71
    · subst h71; rfl
    by_cases h72 : a = 72
    · subst h72; rfl
    by_cases h73 : a = 73
    · subst h73; rfl
    by_cases h74 : a = 74
    · subst h74; rfl
    by_cases h75 : a = 75
    · subst h75; rfl
    by_cases h76 : a = 76
    · subst h76; rfl
    by_cases h77 : a = 77
    · subst h77; rfl
    by_cases h78 : a = 78
    · subst h78; rfl
    by_cases h79 : a = 79
    · subst h79; rfl
    by_cases h80 : a = 80
    · subst h80; rfl
    by_cases h81 : a = 81
    · subst h81; rfl
    by_cases h82 : a = 82
    · subst h82; rfl
    by_cases h83 : a = 83
    · subst h83; rfl
    by_cases h84 : a = 84
    · subst h84; rfl
    by_cases h85 : a = 85
    · subst h85; rfl
    by_cases h86 : a = 86
    · subst h86; rfl
    by_cases h87 : a = 87
    · subst h87; rfl
    by_cases h88 : a = 88
    · subst h88; rfl
    by_cases h89 : a = 89
    · subst h89; rfl
    by_cases h90 : a = 90
    · subst h90; rfl
    by_cases h91 : a = 91
    · subst h91; rfl
    by_cases h92 : a = 92
    · subst h92; rfl
    by_cases h93 : a = 93
    · subst h93; rfl
    by_cases h94 : a = 94
    · subst h94; rfl
    by_cases h95 : a = 95
    · subst h95; rfl
    by_cases h96 : a = 96
    · subst h96; rfl
    simp only [hM, qup_at, h55, h56, h57, h58, h59, h60, h61, h62, h63, h64, h65, h66, h67, h68, h69, h70, h71, h72, h73, h74, h75, h76, h77, h78, h79, h80, h81, h82, h83, h84, h85, h86, h87, h88, h89, h90, h91, h92, h93, h94, h95, h96, if_false]
  · dsimp only

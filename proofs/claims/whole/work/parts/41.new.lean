/-! ===== RUNNING BY REWRITING: plain facts (by program: wip/gen/mk41) ===== -/
theorem tn_4 : (4 : Int32).toNatClampNeg = 4 := by decide
theorem tl_4 : ((4 : Int32) < 0) = False := by decide
theorem tn_5 : (5 : Int32).toNatClampNeg = 5 := by decide
theorem tl_5 : ((5 : Int32) < 0) = False := by decide
theorem tn_16 : (16 : Int32).toNatClampNeg = 16 := by decide
theorem tl_16 : ((16 : Int32) < 0) = False := by decide
theorem tn_17 : (17 : Int32).toNatClampNeg = 17 := by decide
theorem tl_17 : ((17 : Int32) < 0) = False := by decide
theorem tn_24 : (24 : Int32).toNatClampNeg = 24 := by decide
theorem tl_24 : ((24 : Int32) < 0) = False := by decide
theorem tn_32 : (32 : Int32).toNatClampNeg = 32 := by decide
theorem tl_32 : ((32 : Int32) < 0) = False := by decide
theorem tn_64 : (64 : Int32).toNatClampNeg = 64 := by decide
theorem tl_64 : ((64 : Int32) < 0) = False := by decide
theorem tn_96 : (96 : Int32).toNatClampNeg = 96 := by decide
theorem tl_96 : ((96 : Int32) < 0) = False := by decide
theorem tn_104 : (104 : Int32).toNatClampNeg = 104 := by decide
theorem tl_104 : ((104 : Int32) < 0) = False := by decide
theorem tn_135 : (135 : Int32).toNatClampNeg = 135 := by decide
theorem tl_135 : ((135 : Int32) < 0) = False := by decide
theorem tn_160 : (160 : Int32).toNatClampNeg = 160 := by decide
theorem tl_160 : ((160 : Int32) < 0) = False := by decide
theorem tn_208 : (208 : Int32).toNatClampNeg = 208 := by decide
theorem tl_208 : ((208 : Int32) < 0) = False := by decide
theorem tn_256 : (256 : Int32).toNatClampNeg = 256 := by decide
theorem tl_256 : ((256 : Int32) < 0) = False := by decide
theorem tn_480 : (480 : Int32).toNatClampNeg = 480 := by decide
theorem tl_480 : ((480 : Int32) < 0) = False := by decide
theorem tn_520 : (520 : Int32).toNatClampNeg = 520 := by decide
theorem tl_520 : ((520 : Int32) < 0) = False := by decide
theorem tn_1024 : (1024 : Int32).toNatClampNeg = 1024 := by decide
theorem tl_1024 : ((1024 : Int32) < 0) = False := by decide
theorem tn_1536 : (1536 : Int32).toNatClampNeg = 1536 := by decide
theorem tl_1536 : ((1536 : Int32) < 0) = False := by decide
theorem tn_2000 : (2000 : Int32).toNatClampNeg = 2000 := by decide
theorem tl_2000 : ((2000 : Int32) < 0) = False := by decide
theorem tn_4000 : (4000 : Int32).toNatClampNeg = 4000 := by decide
theorem tl_4000 : ((4000 : Int32) < 0) = False := by decide
theorem tn_4096 : (4096 : Int32).toNatClampNeg = 4096 := by decide
theorem tl_4096 : ((4096 : Int32) < 0) = False := by decide
theorem tn_10000 : (10000 : Int32).toNatClampNeg = 10000 := by decide
theorem tl_10000 : ((10000 : Int32) < 0) = False := by decide
theorem tn_12480 : (12480 : Int32).toNatClampNeg = 12480 := by decide
theorem tl_12480 : ((12480 : Int32) < 0) = False := by decide
theorem tn_19968 : (19968 : Int32).toNatClampNeg = 19968 := by decide
theorem tl_19968 : ((19968 : Int32) < 0) = False := by decide
theorem qnew_mk {f : Nat → qC} {n k s : Nat} {c : qC} : qnew (f, n, k) c s = (qup f n c, n + 1, k + s) := rfl
theorem qup_at {g : Nat → qC} {a b : Nat} {c : qC} : qup g a c b = if b = a then c else g b := rfl
theorem qput_mk {f : Nat → qC} {n k a ci j : Nat} {v : Value} : qput (f, n, k) a ci j v = if 16 ≤ a ∧ a < n ∧ j < qnF ci then
    match f a with
    | .inr (c, F) => if c = ci then some (qup f a (.inr (c, qfu F j v)), n, k) else none
    | .inl _ => none
  else none := rfl
theorem qfit_i {z : Int32} : qfit 0 (.int z) = true := rfl
theorem qfit_l {z : Int64} : qfit 1 (.long z) = true := rfl
theorem qfit_r {z : Nat} : qfit 2 (.ref z) = true := rfl
theorem qfit_n : qfit 2 .null = true := rfl
theorem qfit_b0 : qfit 3 (.int 0) = true := rfl
theorem qfit_b1 : qfit 3 (.int 1) = true := rfl
theorem qcat_i {z : Int32} : (Value.int z).category = 1 := rfl
theorem qcat_r {z : Nat} : (Value.ref z).category = 1 := rfl
theorem qcat_n : Value.null.category = 1 := rfl
theorem qcat_l {z : Int64} : (Value.long z).category = 2 := rfl
theorem qroom_0 : qroom [] = true := rfl
theorem qroom_c {v : Value} {st : List Value} : qroom (v :: st) = decide (v.category + (st.map fun v => v.category).sum ≤ 8) := rfl
theorem qnF0 : qnF 0 = 2 := rfl
theorem qnF1 : qnF 1 = 2 := rfl
theorem qnF2 : qnF 2 = 11 := rfl
theorem qnF3 : qnF 3 = 6 := rfl
theorem qnF4 : qnF 4 = 12 := rfl
theorem qnF5 : qnF 5 = 3 := rfl
theorem qnF6 : qnF 6 = 8 := rfl
theorem qnF7 : qnF 7 = 5 := rfl
theorem qnF8 : qnF 8 = 10 := rfl
theorem qnF9 : qnF 9 = 5 := rfl
theorem qnF10 : qnF 10 = 13 := rfl
theorem qnF11 : qnF 11 = 63 := rfl
theorem qg_0 {a : Option Value} {L : qL} : qgL (a :: L) 0 = a := rfl
theorem qg_1 {a b : Option Value} {L : qL} : qgL (a :: b :: L) 1 = b := rfl
theorem qg_2 {a b c : Option Value} {L : qL} : qgL (a :: b :: c :: L) 2 = c := rfl
theorem qg_3 {a b c e : Option Value} {L : qL} : qgL (a :: b :: c :: e :: L) 3 = e := rfl
theorem qg_4 {a b c e g : Option Value} {L : qL} : qgL (a :: b :: c :: e :: g :: L) 4 = g := rfl
theorem qg_5 {a b c e g i : Option Value} {L : qL} : qgL (a :: b :: c :: e :: g :: i :: L) 5 = i := rfl
theorem qg_6 {a b c e g i j : Option Value} {L : qL} : qgL (a :: b :: c :: e :: g :: i :: j :: L) 6 = j := rfl
theorem ex1 {α : Type} {a : α} {P : α → Prop} : (∃ v, some a = some v ∧ P v) ↔ P a := ⟨fun ⟨_, h, p⟩ => by cases h; exact p, fun p => ⟨a, rfl, p⟩⟩
theorem ex2 {α : Type} {a : α} {P : α → Prop} : (∃ v, a = v ∧ P v) ↔ P a := ⟨fun ⟨_, h, p⟩ => by cases h; exact p, fun p => ⟨a, rfl, p⟩⟩
theorem ex3 {α β : Type} {a : α} {b : β} {P : α → β → Prop} : (∃ v w, (v, w) = (a, b) ∧ P v w) ↔ P a b := ⟨fun ⟨_, _, h, p⟩ => by cases h; exact p, fun p => ⟨a, b, rfl, p⟩⟩
theorem ex4 {α β : Type} {a : α} {b : β} {P : β → Prop} : (∃ w, (a, w) = (a, b) ∧ P w) ↔ P b := ⟨fun ⟨_, h, p⟩ => by cases h; exact p, fun p => ⟨b, rfl, p⟩⟩
set_option maxRecDepth 100000 in
set_option maxHeartbeats 8000000 in
theorem new_X {d k : Nat} {f : Nat → qC} : qMC (d + 2) 132 [.ref 16] (qnew (f, 16, k) (.inr (10, qdef 10)) 13) (none, (hX f, 55, k + 2468)) := by
  simp only [e132_0, e132_1, e132_4, e132_5, e132_7, e132_10, e132_13, e132_14, e132_16, e132_18, e132_21, e132_22, e132_25, e132_26, e132_29, e132_32, e132_33, e132_36, e132_37, e132_40, e132_43, e132_44, e132_47, e132_48, e132_51, e132_54, e132_55, e132_58, e132_59, e132_62, e132_65, e132_66, e132_69, e132_70, e132_73, e132_76, e132_77, e132_80, e132_81, e132_84, e132_87, e132_88, e132_91, e132_92, e132_95, e132_98, e132_99, e132_102, e132_103, e132_106, e132_109, e132_110, e132_113, e132_114, e132_117, e132_120, m132, e12_0, e12_1, e12_4, e12_5, e12_7, e12_9, e12_12, e12_13, e12_14, e12_17, e12_18, e12_20, e12_22, e12_25, e12_26, e12_29, e12_31, e12_34, e12_35, e12_37, e12_39, e12_42, e12_43, e12_44, e12_46, e12_49, e12_50, e12_52, e12_54, e12_57, e12_58, e12_61, e12_63, e12_66, m12, e87_0, e87_1, e87_4, e87_5, e87_7, e87_9, e87_12, e87_13, e87_14, e87_17, e87_18, e87_19, e87_22, e87_23, e87_24, e87_26, e87_29, m87, e49_0, e49_1, e49_4, e49_5, e49_7, e49_9, e49_12, e49_13, e49_16, e49_18, e49_21, e49_22, e49_25, e49_27, e49_30, e49_31, e49_33, e49_35, e49_38, e49_39, e49_41, e49_43, e49_46, e49_47, e49_49, e49_51, e49_54, e49_55, e49_57, e49_59, e49_62, e49_63, e49_65, e49_67, e49_70, m49, e60_0, e60_1, e60_4, e60_5, e60_6, e60_9, e60_10, e60_12, e60_14, e60_17, m60, e4_0, e4_1, e4_4, e4_5, e4_7, e4_9, e4_12, m4, e121_0, e121_1, e121_4, e121_5, e121_6, e121_8, e121_11, e121_12, e121_14, e121_16, e121_19, m121, e43_0, e43_1, e43_4, e43_5, e43_6, e43_8, e43_11, e43_12, e43_13, e43_15, e43_18, e43_19, e43_20, e43_22, e43_25, m43, e71_0, e71_1, e71_4, e71_5, e71_8, e71_10, e71_13, e71_14, e71_17, e71_19, e71_22, e71_23, e71_24, e71_27, m71, e0_0, e0_1, e0_4, e0_5, e0_7, e0_9, e0_12, m0, qg_0, ex1, ex4, qfit_i, qfit_l, qfit_r, qcat_r, qroom_0, qroom_c, List.map_cons, List.map_nil, List.sum_cons, List.sum_nil, tn_4, tl_4, tn_5, tl_5, tn_16, tl_16, tn_17, tl_17, tn_24, tl_24, tn_32, tl_32, tn_64, tl_64, tn_96, tl_96, tn_104, tl_104, tn_135, tl_135, tn_160, tl_160, tn_208, tl_208, tn_256, tl_256, tn_480, tl_480, tn_520, tl_520, tn_1024, tl_1024, tn_1536, tl_1536, tn_2000, tl_2000, tn_4000, tl_4000, tn_4096, tl_4096, tn_10000, tl_10000, tn_12480, tl_12480, tn_19968, tl_19968, Nat.reduceAdd, Nat.reduceLT, Nat.reduceLeDiff, or_self, not_false_eq_true, true_and, decide_true, qnew_mk, qput_mk, qup_at, Nat.reduceEqDiff, if_true, if_false, and_self, qnF0, qnF1, qnF2, qnF3, qnF4, qnF5, qnF6, qnF7, qnF8, qnF9, qnF10, qnF11]
  refine Prod.ext rfl (Prod.ext ?_ (Prod.ext rfl ?_))
  · funext a
    dsimp only
    by_cases h16 : a = 16
    · subst h16; rfl
    by_cases h17 : a = 17
    · subst h17; rfl
    by_cases h18 : a = 18
    · subst h18; rfl
    by_cases h19 : a = 19
    · subst h19; rfl
    by_cases h20 : a = 20
    · subst h20; rfl
    by_cases h21 : a = 21
    · subst h21; rfl
    by_cases h22 : a = 22
    · subst h22; rfl
    by_cases h23 : a = 23
    · subst h23; rfl
    by_cases h24 : a = 24
    · subst h24; rfl
    by_cases h25 : a = 25
    · subst h25; rfl
    by_cases h26 : a = 26
    · subst h26; rfl
    by_cases h27 : a = 27
    · subst h27; rfl
    by_cases h28 : a = 28
    · subst h28; rfl
    by_cases h29 : a = 29
    · subst h29; rfl
    by_cases h30 : a = 30
    · subst h30; rfl
    by_cases h31 : a = 31
    · subst h31; rfl
    by_cases h32 : a = 32
    · subst h32; rfl
    by_cases h33 : a = 33
    · subst h33; rfl
    by_cases h34 : a = 34
    · subst h34; rfl
    by_cases h35 : a = 35
    · subst h35; rfl
    by_cases h36 : a = 36
    · subst h36; rfl
    by_cases h37 : a = 37
    · subst h37; rfl
    by_cases h38 : a = 38
    · subst h38; rfl
    by_cases h39 : a = 39
    · subst h39; rfl
    by_cases h40 : a = 40
    · subst h40; rfl
    by_cases h41 : a = 41
    · subst h41; rfl
    by_cases h42 : a = 42
    · subst h42; rfl
    by_cases h43 : a = 43
    · subst h43; rfl
    by_cases h44 : a = 44
    · subst h44; rfl
    by_cases h45 : a = 45
    · subst h45; rfl
    by_cases h46 : a = 46
    · subst h46; rfl
    by_cases h47 : a = 47
    · subst h47; rfl
    by_cases h48 : a = 48
    · subst h48; rfl
    by_cases h49 : a = 49
    · subst h49; rfl
    by_cases h50 : a = 50
    · subst h50; rfl
    by_cases h51 : a = 51
    · subst h51; rfl
    by_cases h52 : a = 52
    · subst h52; rfl
    by_cases h53 : a = 53
    · subst h53; rfl
    by_cases h54 : a = 54
    · subst h54; rfl
    simp only [hX, qup_at, h16, h17, h18, h19, h20, h21, h22, h23, h24, h25, h26, h27, h28, h29, h30, h31, h32, h33, h34, h35, h36, h37, h38, h39, h40, h41, h42, h43, h44, h45, h46, h47, h48, h49, h50, h51, h52, h53, h54, if_false]
  · dsimp only
set_option maxRecDepth 100000 in
set_option maxHeartbeats 8000000 in
theorem new_M {d k : Nat} {f : Nat → qC} : qMC (d + 1) 188 [.ref 55] (qnew (f, 55, k) (.inr (11, qdef 11)) 63) (none, (hM f, 97, k + 76402)) := by
  simp only [e188_0, e188_1, e188_4, e188_5, e188_7, e188_9, e188_12, e188_13, e188_15, e188_17, e188_20, e188_21, e188_23, e188_25, e188_28, e188_29, e188_32, e188_34, e188_37, e188_38, e188_40, e188_42, e188_45, e188_46, e188_49, e188_51, e188_54, e188_55, e188_58, e188_60, e188_63, e188_64, e188_67, e188_69, e188_72, e188_73, e188_76, e188_78, e188_81, e188_82, e188_85, e188_87, e188_90, e188_91, e188_92, e188_94, e188_97, e188_98, e188_99, e188_101, e188_104, e188_105, e188_108, e188_110, e188_113, e188_114, e188_117, e188_119, e188_122, e188_123, e188_125, e188_127, e188_130, e188_131, e188_134, e188_136, e188_139, e188_140, e188_143, e188_145, e188_148, e188_149, e188_150, e188_152, e188_155, e188_156, e188_158, e188_160, e188_163, e188_164, e188_167, e188_169, e188_172, e188_173, e188_176, e188_178, e188_181, e188_182, e188_185, e188_187, e188_190, e188_191, e188_194, e188_196, e188_199, e188_200, e188_202, e188_204, e188_207, e188_208, e188_209, e188_212, e188_213, e188_215, e188_217, e188_220, e188_221, e188_223, e188_225, e188_228, e188_229, e188_231, e188_233, e188_236, e188_237, e188_238, e188_240, e188_243, e188_244, e188_246, e188_248, e188_251, e188_252, e188_254, e188_256, e188_259, e188_260, e188_263, e188_265, e188_268, e188_269, e188_272, e188_274, e188_277, e188_278, e188_281, e188_283, e188_286, e188_287, e188_290, e188_292, e188_295, e188_296, e188_298, e188_300, e188_303, e188_304, e188_305, e188_307, e188_310, e188_311, e188_312, e188_314, e188_317, e188_318, e188_321, e188_323, e188_326, e188_327, e188_328, e188_331, e188_332, e188_334, e188_336, e188_339, e188_340, e188_343, e188_345, e188_348, e188_349, e188_351, e188_353, e188_356, m188, qg_0, ex1, ex4, qfit_i, qfit_l, qfit_r, qcat_r, qroom_0, qroom_c, List.map_cons, List.map_nil, List.sum_cons, List.sum_nil, tn_4, tl_4, tn_5, tl_5, tn_16, tl_16, tn_17, tl_17, tn_24, tl_24, tn_32, tl_32, tn_64, tl_64, tn_96, tl_96, tn_104, tl_104, tn_135, tl_135, tn_160, tl_160, tn_208, tl_208, tn_256, tl_256, tn_480, tl_480, tn_520, tl_520, tn_1024, tl_1024, tn_1536, tl_1536, tn_2000, tl_2000, tn_4000, tl_4000, tn_4096, tl_4096, tn_10000, tl_10000, tn_12480, tl_12480, tn_19968, tl_19968, Nat.reduceAdd, Nat.reduceLT, Nat.reduceLeDiff, or_self, not_false_eq_true, true_and, decide_true, qnew_mk, qput_mk, qup_at, Nat.reduceEqDiff, if_true, if_false, and_self, qnF0, qnF1, qnF2, qnF3, qnF4, qnF5, qnF6, qnF7, qnF8, qnF9, qnF10, qnF11]
  refine Prod.ext rfl (Prod.ext ?_ (Prod.ext rfl ?_))
  · funext a
    dsimp only
    by_cases h55 : a = 55
    · subst h55; rfl
    by_cases h56 : a = 56
    · subst h56; rfl
    by_cases h57 : a = 57
    · subst h57; rfl
    by_cases h58 : a = 58
    · subst h58; rfl
    by_cases h59 : a = 59
    · subst h59; rfl
    by_cases h60 : a = 60
    · subst h60; rfl
    by_cases h61 : a = 61
    · subst h61; rfl
    by_cases h62 : a = 62
    · subst h62; rfl
    by_cases h63 : a = 63
    · subst h63; rfl
    by_cases h64 : a = 64
    · subst h64; rfl
    by_cases h65 : a = 65
    · subst h65; rfl
    by_cases h66 : a = 66
    · subst h66; rfl
    by_cases h67 : a = 67
    · subst h67; rfl
    by_cases h68 : a = 68
    · subst h68; rfl
    by_cases h69 : a = 69
    · subst h69; rfl
    by_cases h70 : a = 70
    · subst h70; rfl
    by_cases h71 : a = 71
    · subst h71; rfl
    by_cases h72 : a = 72
    · subst h72; rfl
    by_cases h73 : a = 73
    · subst h73; rfl
    by_cases h74 : a = 74
    · subst h74; rfl
    by_cases h75 : a = 75
    · subst h75; rfl
    by_cases h76 : a = 76
    · subst h76; rfl
    by_cases h77 : a = 77
    · subst h77; rfl
    by_cases h78 : a = 78
    · subst h78; rfl
    by_cases h79 : a = 79
    · subst h79; rfl
    by_cases h80 : a = 80
    · subst h80; rfl
    by_cases h81 : a = 81
    · subst h81; rfl
    by_cases h82 : a = 82
    · subst h82; rfl
    by_cases h83 : a = 83
    · subst h83; rfl
    by_cases h84 : a = 84
    · subst h84; rfl
    by_cases h85 : a = 85
    · subst h85; rfl
    by_cases h86 : a = 86
    · subst h86; rfl
    by_cases h87 : a = 87
    · subst h87; rfl
    by_cases h88 : a = 88
    · subst h88; rfl
    by_cases h89 : a = 89
    · subst h89; rfl
    by_cases h90 : a = 90
    · subst h90; rfl
    by_cases h91 : a = 91
    · subst h91; rfl
    by_cases h92 : a = 92
    · subst h92; rfl
    by_cases h93 : a = 93
    · subst h93; rfl
    by_cases h94 : a = 94
    · subst h94; rfl
    by_cases h95 : a = 95
    · subst h95; rfl
    by_cases h96 : a = 96
    · subst h96; rfl
    simp only [hM, qup_at, h55, h56, h57, h58, h59, h60, h61, h62, h63, h64, h65, h66, h67, h68, h69, h70, h71, h72, h73, h74, h75, h76, h77, h78, h79, h80, h81, h82, h83, h84, h85, h86, h87, h88, h89, h90, h91, h92, h93, h94, h95, h96, if_false]
  · dsimp only

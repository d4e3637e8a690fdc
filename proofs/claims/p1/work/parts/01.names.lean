-- ===== PART A: goes FIRST, ahead of the names: the tables' words, and 'selects' of the private methods out of them =====
/-- a private method of a class that the tables say can be made, by its rows of tables_1 -/
def lw_okq (q : MethodName × Nat) : Prop := (q.1.cls ≠ "java/lang/invoke/MethodHandle" ∧ q.1.cls ≠ "java/lang/invoke/VarHandle") ∧ Cond.instantiable q.1.cls q.2 ∈ tables_1 ∧ Cond.privateMethod q.1 ∈ tables_1 ∧ Cond.instanceMethod q.1 ∈ tables_1
theorem lw_p0 : lw_okq (⟨"BodyCorners$Hull", "isInFacet", "(I)Z"⟩, 11) := ⟨⟨by decide +kernel, by decide +kernel⟩, List.mem_of_getElem? (i := 32) (by decide +kernel), List.mem_of_getElem? (i := 346) (by decide +kernel), List.mem_of_getElem? (i := 347) (by decide +kernel)⟩
theorem lw_p1 : lw_okq (⟨"BodyCorners$Hull", "spanPlane", "(I)Z"⟩, 11) := ⟨⟨by decide +kernel, by decide +kernel⟩, List.mem_of_getElem? (i := 32) (by decide +kernel), List.mem_of_getElem? (i := 350) (by decide +kernel), List.mem_of_getElem? (i := 351) (by decide +kernel)⟩
theorem lw_p2 : lw_okq (⟨"BodyCorners$Hull", "rowsWithin", "(I[I)I"⟩, 11) := ⟨⟨by decide +kernel, by decide +kernel⟩, List.mem_of_getElem? (i := 32) (by decide +kernel), List.mem_of_getElem? (i := 354) (by decide +kernel), List.mem_of_getElem? (i := 355) (by decide +kernel)⟩
theorem lw_p3 : lw_okq (⟨"BodyCorners$Hull", "rowBetween", "(I[III)V"⟩, 11) := ⟨⟨by decide +kernel, by decide +kernel⟩, List.mem_of_getElem? (i := 32) (by decide +kernel), List.mem_of_getElem? (i := 367) (by decide +kernel), List.mem_of_getElem? (i := 368) (by decide +kernel)⟩
theorem lw_p4 : lw_okq (⟨"BodyCorners$Hull", "rowOfUnit", "(II)V"⟩, 11) := ⟨⟨by decide +kernel, by decide +kernel⟩, List.mem_of_getElem? (i := 32) (by decide +kernel), List.mem_of_getElem? (i := 371) (by decide +kernel), List.mem_of_getElem? (i := 372) (by decide +kernel)⟩
theorem lw_p5 : lw_okq (⟨"BodyCorners$Hull", "crossRows", "()V"⟩, 11) := ⟨⟨by decide +kernel, by decide +kernel⟩, List.mem_of_getElem? (i := 32) (by decide +kernel), List.mem_of_getElem? (i := 375) (by decide +kernel), List.mem_of_getElem? (i := 376) (by decide +kernel)⟩
theorem lw_p6 : lw_okq (⟨"BodyCorners$Hull", "setOnPlane", "()I"⟩, 11) := ⟨⟨by decide +kernel, by decide +kernel⟩, List.mem_of_getElem? (i := 32) (by decide +kernel), List.mem_of_getElem? (i := 379) (by decide +kernel), List.mem_of_getElem? (i := 380) (by decide +kernel)⟩
theorem lw_p7 : lw_okq (⟨"BodyCorners$Hull", "keepFacet", "(I)V"⟩, 11) := ⟨⟨by decide +kernel, by decide +kernel⟩, List.mem_of_getElem? (i := 32) (by decide +kernel), List.mem_of_getElem? (i := 383) (by decide +kernel), List.mem_of_getElem? (i := 384) (by decide +kernel)⟩
theorem lw_p8 : lw_okq (⟨"BodyCorners$Hull", "cornerSet", "()I"⟩, 11) := ⟨⟨by decide +kernel, by decide +kernel⟩, List.mem_of_getElem? (i := 32) (by decide +kernel), List.mem_of_getElem? (i := 397) (by decide +kernel), List.mem_of_getElem? (i := 398) (by decide +kernel)⟩
theorem lw_p9 : lw_okq (⟨"BodyCorners$Hull", "rankFacets", "()V"⟩, 11) := ⟨⟨by decide +kernel, by decide +kernel⟩, List.mem_of_getElem? (i := 32) (by decide +kernel), List.mem_of_getElem? (i := 408) (by decide +kernel), List.mem_of_getElem? (i := 409) (by decide +kernel)⟩
theorem lw_p10 : lw_okq (⟨"BodyCorners$Hull", "allCells", "(I[I)[[I"⟩, 11) := ⟨⟨by decide +kernel, by decide +kernel⟩, List.mem_of_getElem? (i := 32) (by decide +kernel), List.mem_of_getElem? (i := 414) (by decide +kernel), List.mem_of_getElem? (i := 415) (by decide +kernel)⟩
theorem lw_p11 : lw_okq (⟨"BodyCorners$Hull", "edges", "(I[I)[I"⟩, 11) := ⟨⟨by decide +kernel, by decide +kernel⟩, List.mem_of_getElem? (i := 32) (by decide +kernel), List.mem_of_getElem? (i := 420) (by decide +kernel), List.mem_of_getElem? (i := 421) (by decide +kernel)⟩
theorem lw_p12 : lw_okq (⟨"BodyCorners$Hull", "ridges", "([I)[I"⟩, 11) := ⟨⟨by decide +kernel, by decide +kernel⟩, List.mem_of_getElem? (i := 32) (by decide +kernel), List.mem_of_getElem? (i := 438) (by decide +kernel), List.mem_of_getElem? (i := 439) (by decide +kernel)⟩
theorem lw_p13 : lw_okq (⟨"BodyCorners$Hull", "insertFound", "(II)V"⟩, 11) := ⟨⟨by decide +kernel, by decide +kernel⟩, List.mem_of_getElem? (i := 32) (by decide +kernel), List.mem_of_getElem? (i := 442) (by decide +kernel), List.mem_of_getElem? (i := 443) (by decide +kernel)⟩
theorem lw_p14 : lw_okq (⟨"BodyCorners", "keep", "(LBodyCorners$Solid;)I"⟩, 13) := ⟨⟨by decide +kernel, by decide +kernel⟩, List.mem_of_getElem? (i := 22) (by decide +kernel), List.mem_of_getElem? (i := 499) (by decide +kernel), List.mem_of_getElem? (i := 500) (by decide +kernel)⟩
theorem lw_p15 : lw_okq (⟨"BodyCorners", "bodyAt", "(I)LBodyCorners$Solid;"⟩, 13) := ⟨⟨by decide +kernel, by decide +kernel⟩, List.mem_of_getElem? (i := 22) (by decide +kernel), List.mem_of_getElem? (i := 507) (by decide +kernel), List.mem_of_getElem? (i := 508) (by decide +kernel)⟩
def lw_privs_1 : List (MethodName × Nat) := [(⟨"BodyCorners$Hull", "isInFacet", "(I)Z"⟩, 11), (⟨"BodyCorners$Hull", "spanPlane", "(I)Z"⟩, 11), (⟨"BodyCorners$Hull", "rowsWithin", "(I[I)I"⟩, 11), (⟨"BodyCorners$Hull", "rowBetween", "(I[III)V"⟩, 11), (⟨"BodyCorners$Hull", "rowOfUnit", "(II)V"⟩, 11), (⟨"BodyCorners$Hull", "crossRows", "()V"⟩, 11), (⟨"BodyCorners$Hull", "setOnPlane", "()I"⟩, 11), (⟨"BodyCorners$Hull", "keepFacet", "(I)V"⟩, 11), (⟨"BodyCorners$Hull", "cornerSet", "()I"⟩, 11), (⟨"BodyCorners$Hull", "rankFacets", "()V"⟩, 11), (⟨"BodyCorners$Hull", "allCells", "(I[I)[[I"⟩, 11), (⟨"BodyCorners$Hull", "edges", "(I[I)[I"⟩, 11), (⟨"BodyCorners$Hull", "ridges", "([I)[I"⟩, 11), (⟨"BodyCorners$Hull", "insertFound", "(II)V"⟩, 11), (⟨"BodyCorners", "keep", "(LBodyCorners$Solid;)I"⟩, 13), (⟨"BodyCorners", "bodyAt", "(I)LBodyCorners$Solid;"⟩, 13)]
theorem lw_r1 : ∀ q ∈ lw_privs_1, lw_okq q := List.forall_mem_cons.mpr ⟨lw_p0, List.forall_mem_cons.mpr ⟨lw_p1, List.forall_mem_cons.mpr ⟨lw_p2, List.forall_mem_cons.mpr ⟨lw_p3, List.forall_mem_cons.mpr ⟨lw_p4, List.forall_mem_cons.mpr ⟨lw_p5, List.forall_mem_cons.mpr ⟨lw_p6, List.forall_mem_cons.mpr ⟨lw_p7, List.forall_mem_cons.mpr ⟨lw_p8, List.forall_mem_cons.mpr ⟨lw_p9, List.forall_mem_cons.mpr ⟨lw_p10, List.forall_mem_cons.mpr ⟨lw_p11, List.forall_mem_cons.mpr ⟨lw_p12, List.forall_mem_cons.mpr ⟨lw_p13, List.forall_mem_cons.mpr ⟨lw_p14, List.forall_mem_cons.mpr ⟨lw_p15, fun _ h => absurd h List.not_mem_nil⟩⟩⟩⟩⟩⟩⟩⟩⟩⟩⟩⟩⟩⟩⟩⟩
theorem lw_p16 : lw_okq (⟨"BodyCorners", "keepSection", "()I"⟩, 13) := ⟨⟨by decide +kernel, by decide +kernel⟩, List.mem_of_getElem? (i := 22) (by decide +kernel), List.mem_of_getElem? (i := 534) (by decide +kernel), List.mem_of_getElem? (i := 535) (by decide +kernel)⟩
theorem lw_p17 : lw_okq (⟨"BodyCorners$Section", "isKept", "(I)Z"⟩, 5) := ⟨⟨by decide +kernel, by decide +kernel⟩, List.mem_of_getElem? (i := 75) (by decide +kernel), List.mem_of_getElem? (i := 542) (by decide +kernel), List.mem_of_getElem? (i := 543) (by decide +kernel)⟩
theorem lw_p18 : lw_okq (⟨"BodyCorners$Section", "isCrossed", "(I)Z"⟩, 5) := ⟨⟨by decide +kernel, by decide +kernel⟩, List.mem_of_getElem? (i := 75) (by decide +kernel), List.mem_of_getElem? (i := 546) (by decide +kernel), List.mem_of_getElem? (i := 547) (by decide +kernel)⟩
theorem lw_p19 : lw_okq (⟨"BodyCorners$Section", "span", "(I)J"⟩, 5) := ⟨⟨by decide +kernel, by decide +kernel⟩, List.mem_of_getElem? (i := 75) (by decide +kernel), List.mem_of_getElem? (i := 555) (by decide +kernel), List.mem_of_getElem? (i := 556) (by decide +kernel)⟩
theorem lw_p20 : lw_okq (⟨"BodyCorners$Section", "crossing", "(II)J"⟩, 5) := ⟨⟨by decide +kernel, by decide +kernel⟩, List.mem_of_getElem? (i := 75) (by decide +kernel), List.mem_of_getElem? (i := 562) (by decide +kernel), List.mem_of_getElem? (i := 563) (by decide +kernel)⟩
theorem lw_p21 : lw_okq (⟨"BodyCorners$Section", "tellSpot", "(LBodyCorners$Hull;)Z"⟩, 5) := ⟨⟨by decide +kernel, by decide +kernel⟩, List.mem_of_getElem? (i := 75) (by decide +kernel), List.mem_of_getElem? (i := 581) (by decide +kernel), List.mem_of_getElem? (i := 582) (by decide +kernel)⟩
theorem lw_p22 : lw_okq (⟨"BodyCorners", "keepHull", "(I)I"⟩, 13) := ⟨⟨by decide +kernel, by decide +kernel⟩, List.mem_of_getElem? (i := 22) (by decide +kernel), List.mem_of_getElem? (i := 587) (by decide +kernel), List.mem_of_getElem? (i := 588) (by decide +kernel)⟩
theorem lw_p23 : lw_okq (⟨"BodyCorners$Hull", "tellAbove", "(IIIII)V"⟩, 11) := ⟨⟨by decide +kernel, by decide +kernel⟩, List.mem_of_getElem? (i := 32) (by decide +kernel), List.mem_of_getElem? (i := 629) (by decide +kernel), List.mem_of_getElem? (i := 630) (by decide +kernel)⟩
theorem lw_p24 : lw_okq (⟨"BodyCorners", "turnsOf", "(LBodyCorners$Solid;)I"⟩, 13) := ⟨⟨by decide +kernel, by decide +kernel⟩, List.mem_of_getElem? (i := 22) (by decide +kernel), List.mem_of_getElem? (i := 665) (by decide +kernel), List.mem_of_getElem? (i := 666) (by decide +kernel)⟩
theorem lw_p25 : lw_okq (⟨"BodyCorners$Matcher", "share", "([I[I)V"⟩, 12) := ⟨⟨by decide +kernel, by decide +kernel⟩, List.mem_of_getElem? (i := 98) (by decide +kernel), List.mem_of_getElem? (i := 685) (by decide +kernel), List.mem_of_getElem? (i := 686) (by decide +kernel)⟩
theorem lw_p26 : lw_okq (⟨"BodyCorners$Matcher", "chooseOrder", "()V"⟩, 12) := ⟨⟨by decide +kernel, by decide +kernel⟩, List.mem_of_getElem? (i := 98) (by decide +kernel), List.mem_of_getElem? (i := 694) (by decide +kernel), List.mem_of_getElem? (i := 695) (by decide +kernel)⟩
theorem lw_p27 : lw_okq (⟨"BodyCorners$Matcher", "bestNext", "(I)I"⟩, 12) := ⟨⟨by decide +kernel, by decide +kernel⟩, List.mem_of_getElem? (i := 98) (by decide +kernel), List.mem_of_getElem? (i := 698) (by decide +kernel), List.mem_of_getElem? (i := 699) (by decide +kernel)⟩
theorem lw_p28 : lw_okq (⟨"BodyCorners$Matcher", "fits", "(II)Z"⟩, 12) := ⟨⟨by decide +kernel, by decide +kernel⟩, List.mem_of_getElem? (i := 98) (by decide +kernel), List.mem_of_getElem? (i := 705) (by decide +kernel), List.mem_of_getElem? (i := 706) (by decide +kernel)⟩
theorem lw_p29 : lw_okq (⟨"BodyCorners$Matcher", "renamed", "(I)I"⟩, 12) := ⟨⟨by decide +kernel, by decide +kernel⟩, List.mem_of_getElem? (i := 98) (by decide +kernel), List.mem_of_getElem? (i := 709) (by decide +kernel), List.mem_of_getElem? (i := 710) (by decide +kernel)⟩
theorem lw_p30 : lw_okq (⟨"BodyCorners$Matcher", "isGoal", "(I)Z"⟩, 12) := ⟨⟨by decide +kernel, by decide +kernel⟩, List.mem_of_getElem? (i := 98) (by decide +kernel), List.mem_of_getElem? (i := 713) (by decide +kernel), List.mem_of_getElem? (i := 714) (by decide +kernel)⟩
theorem lw_p31 : lw_okq (⟨"BodyCorners", "cornersOfAll", "()I"⟩, 13) := ⟨⟨by decide +kernel, by decide +kernel⟩, List.mem_of_getElem? (i := 22) (by decide +kernel), List.mem_of_getElem? (i := 738) (by decide +kernel), List.mem_of_getElem? (i := 739) (by decide +kernel)⟩
def lw_privs_2 : List (MethodName × Nat) := [(⟨"BodyCorners", "keepSection", "()I"⟩, 13), (⟨"BodyCorners$Section", "isKept", "(I)Z"⟩, 5), (⟨"BodyCorners$Section", "isCrossed", "(I)Z"⟩, 5), (⟨"BodyCorners$Section", "span", "(I)J"⟩, 5), (⟨"BodyCorners$Section", "crossing", "(II)J"⟩, 5), (⟨"BodyCorners$Section", "tellSpot", "(LBodyCorners$Hull;)Z"⟩, 5), (⟨"BodyCorners", "keepHull", "(I)I"⟩, 13), (⟨"BodyCorners$Hull", "tellAbove", "(IIIII)V"⟩, 11), (⟨"BodyCorners", "turnsOf", "(LBodyCorners$Solid;)I"⟩, 13), (⟨"BodyCorners$Matcher", "share", "([I[I)V"⟩, 12), (⟨"BodyCorners$Matcher", "chooseOrder", "()V"⟩, 12), (⟨"BodyCorners$Matcher", "bestNext", "(I)I"⟩, 12), (⟨"BodyCorners$Matcher", "fits", "(II)Z"⟩, 12), (⟨"BodyCorners$Matcher", "renamed", "(I)I"⟩, 12), (⟨"BodyCorners$Matcher", "isGoal", "(I)Z"⟩, 12), (⟨"BodyCorners", "cornersOfAll", "()I"⟩, 13)]
theorem lw_r2 : ∀ q ∈ lw_privs_2, lw_okq q := List.forall_mem_cons.mpr ⟨lw_p16, List.forall_mem_cons.mpr ⟨lw_p17, List.forall_mem_cons.mpr ⟨lw_p18, List.forall_mem_cons.mpr ⟨lw_p19, List.forall_mem_cons.mpr ⟨lw_p20, List.forall_mem_cons.mpr ⟨lw_p21, List.forall_mem_cons.mpr ⟨lw_p22, List.forall_mem_cons.mpr ⟨lw_p23, List.forall_mem_cons.mpr ⟨lw_p24, List.forall_mem_cons.mpr ⟨lw_p25, List.forall_mem_cons.mpr ⟨lw_p26, List.forall_mem_cons.mpr ⟨lw_p27, List.forall_mem_cons.mpr ⟨lw_p28, List.forall_mem_cons.mpr ⟨lw_p29, List.forall_mem_cons.mpr ⟨lw_p30, List.forall_mem_cons.mpr ⟨lw_p31, fun _ h => absurd h List.not_mem_nil⟩⟩⟩⟩⟩⟩⟩⟩⟩⟩⟩⟩⟩⟩⟩⟩
theorem lw_p32 : lw_okq (⟨"BodyCorners$Plan", "usesAllMarks", "()Z"⟩, 3) := ⟨⟨by decide +kernel, by decide +kernel⟩, List.mem_of_getElem? (i := 141) (by decide +kernel), List.mem_of_getElem? (i := 830) (by decide +kernel), List.mem_of_getElem? (i := 831) (by decide +kernel)⟩
theorem lw_p33 : lw_okq (⟨"BodyCorners$Plan", "partsAreInTwo", "()Z"⟩, 3) := ⟨⟨by decide +kernel, by decide +kernel⟩, List.mem_of_getElem? (i := 141) (by decide +kernel), List.mem_of_getElem? (i := 834) (by decide +kernel), List.mem_of_getElem? (i := 835) (by decide +kernel)⟩
theorem lw_p34 : lw_okq (⟨"BodyCorners$Plan", "setsAround", "(I)I"⟩, 3) := ⟨⟨by decide +kernel, by decide +kernel⟩, List.mem_of_getElem? (i := 141) (by decide +kernel), List.mem_of_getElem? (i := 838) (by decide +kernel), List.mem_of_getElem? (i := 839) (by decide +kernel)⟩
theorem lw_p35 : lw_okq (⟨"BodyCorners$Plan", "isOnePiece", "(I)Z"⟩, 3) := ⟨⟨by decide +kernel, by decide +kernel⟩, List.mem_of_getElem? (i := 141) (by decide +kernel), List.mem_of_getElem? (i := 842) (by decide +kernel), List.mem_of_getElem? (i := 843) (by decide +kernel)⟩
theorem lw_p36 : lw_okq (⟨"BodyCorners$Plan", "touches", "(III)Z"⟩, 3) := ⟨⟨by decide +kernel, by decide +kernel⟩, List.mem_of_getElem? (i := 141) (by decide +kernel), List.mem_of_getElem? (i := 846) (by decide +kernel), List.mem_of_getElem? (i := 847) (by decide +kernel)⟩
theorem lw_p37 : lw_okq (⟨"BodyCorners$Plan", "signedParts", "(I)I"⟩, 3) := ⟨⟨by decide +kernel, by decide +kernel⟩, List.mem_of_getElem? (i := 141) (by decide +kernel), List.mem_of_getElem? (i := 850) (by decide +kernel), List.mem_of_getElem? (i := 851) (by decide +kernel)⟩
theorem lw_p38 : lw_okq (⟨"BodyCorners$FacetRow", "meetsAt", "(LBodyCorners$Solid;I)Z"⟩, 2) := ⟨⟨by decide +kernel, by decide +kernel⟩, List.mem_of_getElem? (i := 160) (by decide +kernel), List.mem_of_getElem? (i := 884) (by decide +kernel), List.mem_of_getElem? (i := 885) (by decide +kernel)⟩
theorem lw_p39 : lw_okq (⟨"BodyCorners$FacetRow", "sparedAt", "(LBodyCorners$Solid;I)I"⟩, 2) := ⟨⟨by decide +kernel, by decide +kernel⟩, List.mem_of_getElem? (i := 160) (by decide +kernel), List.mem_of_getElem? (i := 889) (by decide +kernel), List.mem_of_getElem? (i := 890) (by decide +kernel)⟩
theorem lw_p40 : lw_okq (⟨"BodyCorners$Walker", "highestBeside", "(LBodyCorners$Solid;I)I"⟩, 5) := ⟨⟨by decide +kernel, by decide +kernel⟩, List.mem_of_getElem? (i := 174) (by decide +kernel), List.mem_of_getElem? (i := 933) (by decide +kernel), List.mem_of_getElem? (i := 934) (by decide +kernel)⟩
theorem lw_p41 : lw_okq (⟨"BodyCorners$Walker", "lowestOf", "(LBodyCorners$Solid;I)I"⟩, 5) := ⟨⟨by decide +kernel, by decide +kernel⟩, List.mem_of_getElem? (i := 174) (by decide +kernel), List.mem_of_getElem? (i := 956) (by decide +kernel), List.mem_of_getElem? (i := 957) (by decide +kernel)⟩
theorem lw_p42 : lw_okq (⟨"BodyCorners$Walker", "fillFinishing", "(LBodyCorners$Solid;)V"⟩, 5) := ⟨⟨by decide +kernel, by decide +kernel⟩, List.mem_of_getElem? (i := 174) (by decide +kernel), List.mem_of_getElem? (i := 968) (by decide +kernel), List.mem_of_getElem? (i := 969) (by decide +kernel)⟩
theorem lw_p43 : lw_okq (⟨"BodyCorners$Walker", "goodNext", "(LBodyCorners$Solid;II)I"⟩, 5) := ⟨⟨by decide +kernel, by decide +kernel⟩, List.mem_of_getElem? (i := 174) (by decide +kernel), List.mem_of_getElem? (i := 972) (by decide +kernel), List.mem_of_getElem? (i := 973) (by decide +kernel)⟩
theorem lw_p44 : lw_okq (⟨"BodyCorners", "lastDraft", "()I"⟩, 13) := ⟨⟨by decide +kernel, by decide +kernel⟩, List.mem_of_getElem? (i := 22) (by decide +kernel), List.mem_of_getElem? (i := 980) (by decide +kernel), List.mem_of_getElem? (i := 981) (by decide +kernel)⟩
theorem lw_p45 : lw_okq (⟨"BodyCorners$Solid", "beyond", "(I[II)J"⟩, 10) := ⟨⟨by decide +kernel, by decide +kernel⟩, List.mem_of_getElem? (i := 412) (by decide +kernel), List.mem_of_getElem? (i := 993) (by decide +kernel), List.mem_of_getElem? (i := 994) (by decide +kernel)⟩
theorem lw_p46 : lw_okq (⟨"BodyCorners$Lattice", "sideOf", "(I)I"⟩, 6) := ⟨⟨by decide +kernel, by decide +kernel⟩, List.mem_of_getElem? (i := 198) (by decide +kernel), List.mem_of_getElem? (i := 1036) (by decide +kernel), List.mem_of_getElem? (i := 1037) (by decide +kernel)⟩
theorem lw_p47 : lw_okq (⟨"BodyCorners$Lattice", "placesOnLine", "(I)I"⟩, 6) := ⟨⟨by decide +kernel, by decide +kernel⟩, List.mem_of_getElem? (i := 198) (by decide +kernel), List.mem_of_getElem? (i := 1045) (by decide +kernel), List.mem_of_getElem? (i := 1046) (by decide +kernel)⟩
def lw_privs_3 : List (MethodName × Nat) := [(⟨"BodyCorners$Plan", "usesAllMarks", "()Z"⟩, 3), (⟨"BodyCorners$Plan", "partsAreInTwo", "()Z"⟩, 3), (⟨"BodyCorners$Plan", "setsAround", "(I)I"⟩, 3), (⟨"BodyCorners$Plan", "isOnePiece", "(I)Z"⟩, 3), (⟨"BodyCorners$Plan", "touches", "(III)Z"⟩, 3), (⟨"BodyCorners$Plan", "signedParts", "(I)I"⟩, 3), (⟨"BodyCorners$FacetRow", "meetsAt", "(LBodyCorners$Solid;I)Z"⟩, 2), (⟨"BodyCorners$FacetRow", "sparedAt", "(LBodyCorners$Solid;I)I"⟩, 2), (⟨"BodyCorners$Walker", "highestBeside", "(LBodyCorners$Solid;I)I"⟩, 5), (⟨"BodyCorners$Walker", "lowestOf", "(LBodyCorners$Solid;I)I"⟩, 5), (⟨"BodyCorners$Walker", "fillFinishing", "(LBodyCorners$Solid;)V"⟩, 5), (⟨"BodyCorners$Walker", "goodNext", "(LBodyCorners$Solid;II)I"⟩, 5), (⟨"BodyCorners", "lastDraft", "()I"⟩, 13), (⟨"BodyCorners$Solid", "beyond", "(I[II)J"⟩, 10), (⟨"BodyCorners$Lattice", "sideOf", "(I)I"⟩, 6), (⟨"BodyCorners$Lattice", "placesOnLine", "(I)I"⟩, 6)]
theorem lw_r3 : ∀ q ∈ lw_privs_3, lw_okq q := List.forall_mem_cons.mpr ⟨lw_p32, List.forall_mem_cons.mpr ⟨lw_p33, List.forall_mem_cons.mpr ⟨lw_p34, List.forall_mem_cons.mpr ⟨lw_p35, List.forall_mem_cons.mpr ⟨lw_p36, List.forall_mem_cons.mpr ⟨lw_p37, List.forall_mem_cons.mpr ⟨lw_p38, List.forall_mem_cons.mpr ⟨lw_p39, List.forall_mem_cons.mpr ⟨lw_p40, List.forall_mem_cons.mpr ⟨lw_p41, List.forall_mem_cons.mpr ⟨lw_p42, List.forall_mem_cons.mpr ⟨lw_p43, List.forall_mem_cons.mpr ⟨lw_p44, List.forall_mem_cons.mpr ⟨lw_p45, List.forall_mem_cons.mpr ⟨lw_p46, List.forall_mem_cons.mpr ⟨lw_p47, fun _ h => absurd h List.not_mem_nil⟩⟩⟩⟩⟩⟩⟩⟩⟩⟩⟩⟩⟩⟩⟩⟩
theorem lw_p48 : lw_okq (⟨"BodyCorners$Script", "skipBlanks", "()V"⟩, 8) := ⟨⟨by decide +kernel, by decide +kernel⟩, List.mem_of_getElem? (i := 223) (by decide +kernel), List.mem_of_getElem? (i := 1075) (by decide +kernel), List.mem_of_getElem? (i := 1076) (by decide +kernel)⟩
theorem lw_p49 : lw_okq (⟨"BodyCorners$Script", "here", "()I"⟩, 8) := ⟨⟨by decide +kernel, by decide +kernel⟩, List.mem_of_getElem? (i := 223) (by decide +kernel), List.mem_of_getElem? (i := 1079) (by decide +kernel), List.mem_of_getElem? (i := 1080) (by decide +kernel)⟩
theorem lw_p50 : lw_okq (⟨"BodyCorners$Script", "parseClause", "()V"⟩, 8) := ⟨⟨by decide +kernel, by decide +kernel⟩, List.mem_of_getElem? (i := 223) (by decide +kernel), List.mem_of_getElem? (i := 1083) (by decide +kernel), List.mem_of_getElem? (i := 1084) (by decide +kernel)⟩
theorem lw_p51 : lw_okq (⟨"BodyCorners$Script", "passWord", "(Ljava/lang/String;)Z"⟩, 8) := ⟨⟨by decide +kernel, by decide +kernel⟩, List.mem_of_getElem? (i := 223) (by decide +kernel), List.mem_of_getElem? (i := 1088) (by decide +kernel), List.mem_of_getElem? (i := 1089) (by decide +kernel)⟩
theorem lw_p52 : lw_okq (⟨"BodyCorners$Script", "parseShape", "(I)V"⟩, 8) := ⟨⟨by decide +kernel, by decide +kernel⟩, List.mem_of_getElem? (i := 223) (by decide +kernel), List.mem_of_getElem? (i := 1140) (by decide +kernel), List.mem_of_getElem? (i := 1141) (by decide +kernel)⟩
theorem lw_p53 : lw_okq (⟨"BodyCorners$Script", "put", "(II)V"⟩, 8) := ⟨⟨by decide +kernel, by decide +kernel⟩, List.mem_of_getElem? (i := 223) (by decide +kernel), List.mem_of_getElem? (i := 1144) (by decide +kernel), List.mem_of_getElem? (i := 1145) (by decide +kernel)⟩
theorem lw_p54 : lw_okq (⟨"BodyCorners$Script", "takeNumber", "(II)I"⟩, 8) := ⟨⟨by decide +kernel, by decide +kernel⟩, List.mem_of_getElem? (i := 223) (by decide +kernel), List.mem_of_getElem? (i := 1148) (by decide +kernel), List.mem_of_getElem? (i := 1149) (by decide +kernel)⟩
theorem lw_p55 : lw_okq (⟨"BodyCorners$Script", "fail", "(II)V"⟩, 8) := ⟨⟨by decide +kernel, by decide +kernel⟩, List.mem_of_getElem? (i := 223) (by decide +kernel), List.mem_of_getElem? (i := 1153) (by decide +kernel), List.mem_of_getElem? (i := 1154) (by decide +kernel)⟩
theorem lw_p56 : lw_okq (⟨"BodyCorners$Script", "needWord", "(Ljava/lang/String;)V"⟩, 8) := ⟨⟨by decide +kernel, by decide +kernel⟩, List.mem_of_getElem? (i := 223) (by decide +kernel), List.mem_of_getElem? (i := 1161) (by decide +kernel), List.mem_of_getElem? (i := 1162) (by decide +kernel)⟩
theorem lw_p57 : lw_okq (⟨"BodyCorners$Script", "parseClaim", "(I)V"⟩, 8) := ⟨⟨by decide +kernel, by decide +kernel⟩, List.mem_of_getElem? (i := 223) (by decide +kernel), List.mem_of_getElem? (i := 1170) (by decide +kernel), List.mem_of_getElem? (i := 1171) (by decide +kernel)⟩
theorem lw_p58 : lw_okq (⟨"BodyCorners$Script", "takeCompare", "()I"⟩, 8) := ⟨⟨by decide +kernel, by decide +kernel⟩, List.mem_of_getElem? (i := 223) (by decide +kernel), List.mem_of_getElem? (i := 1176) (by decide +kernel), List.mem_of_getElem? (i := 1177) (by decide +kernel)⟩
theorem lw_p59 : lw_okq (⟨"BodyCorners$Script", "needSign", "(I)V"⟩, 8) := ⟨⟨by decide +kernel, by decide +kernel⟩, List.mem_of_getElem? (i := 223) (by decide +kernel), List.mem_of_getElem? (i := 1180) (by decide +kernel), List.mem_of_getElem? (i := 1181) (by decide +kernel)⟩
theorem lw_p60 : lw_okq (⟨"BodyCorners", "doClause", "(I)Z"⟩, 13) := ⟨⟨by decide +kernel, by decide +kernel⟩, List.mem_of_getElem? (i := 22) (by decide +kernel), List.mem_of_getElem? (i := 1184) (by decide +kernel), List.mem_of_getElem? (i := 1185) (by decide +kernel)⟩
theorem lw_p61 : lw_okq (⟨"BodyCorners$Hull", "tellUnit", "(II)V"⟩, 11) := ⟨⟨by decide +kernel, by decide +kernel⟩, List.mem_of_getElem? (i := 32) (by decide +kernel), List.mem_of_getElem? (i := 1197) (by decide +kernel), List.mem_of_getElem? (i := 1198) (by decide +kernel)⟩
theorem lw_p62 : lw_okq (⟨"BodyCornersModel", "begin", "(I)V"⟩, 63) := ⟨⟨by decide +kernel, by decide +kernel⟩, List.mem_of_getElem? (i := 1219) (by decide +kernel), List.mem_of_getElem? (i := 1434) (by decide +kernel), List.mem_of_getElem? (i := 1435) (by decide +kernel)⟩
theorem lw_p63 : lw_okq (⟨"BodyCornersModel", "put", "(IIII)V"⟩, 63) := ⟨⟨by decide +kernel, by decide +kernel⟩, List.mem_of_getElem? (i := 1219) (by decide +kernel), List.mem_of_getElem? (i := 1438) (by decide +kernel), List.mem_of_getElem? (i := 1439) (by decide +kernel)⟩
def lw_privs_4 : List (MethodName × Nat) := [(⟨"BodyCorners$Script", "skipBlanks", "()V"⟩, 8), (⟨"BodyCorners$Script", "here", "()I"⟩, 8), (⟨"BodyCorners$Script", "parseClause", "()V"⟩, 8), (⟨"BodyCorners$Script", "passWord", "(Ljava/lang/String;)Z"⟩, 8), (⟨"BodyCorners$Script", "parseShape", "(I)V"⟩, 8), (⟨"BodyCorners$Script", "put", "(II)V"⟩, 8), (⟨"BodyCorners$Script", "takeNumber", "(II)I"⟩, 8), (⟨"BodyCorners$Script", "fail", "(II)V"⟩, 8), (⟨"BodyCorners$Script", "needWord", "(Ljava/lang/String;)V"⟩, 8), (⟨"BodyCorners$Script", "parseClaim", "(I)V"⟩, 8), (⟨"BodyCorners$Script", "takeCompare", "()I"⟩, 8), (⟨"BodyCorners$Script", "needSign", "(I)V"⟩, 8), (⟨"BodyCorners", "doClause", "(I)Z"⟩, 13), (⟨"BodyCorners$Hull", "tellUnit", "(II)V"⟩, 11), (⟨"BodyCornersModel", "begin", "(I)V"⟩, 63), (⟨"BodyCornersModel", "put", "(IIII)V"⟩, 63)]
theorem lw_r4 : ∀ q ∈ lw_privs_4, lw_okq q := List.forall_mem_cons.mpr ⟨lw_p48, List.forall_mem_cons.mpr ⟨lw_p49, List.forall_mem_cons.mpr ⟨lw_p50, List.forall_mem_cons.mpr ⟨lw_p51, List.forall_mem_cons.mpr ⟨lw_p52, List.forall_mem_cons.mpr ⟨lw_p53, List.forall_mem_cons.mpr ⟨lw_p54, List.forall_mem_cons.mpr ⟨lw_p55, List.forall_mem_cons.mpr ⟨lw_p56, List.forall_mem_cons.mpr ⟨lw_p57, List.forall_mem_cons.mpr ⟨lw_p58, List.forall_mem_cons.mpr ⟨lw_p59, List.forall_mem_cons.mpr ⟨lw_p60, List.forall_mem_cons.mpr ⟨lw_p61, List.forall_mem_cons.mpr ⟨lw_p62, List.forall_mem_cons.mpr ⟨lw_p63, fun _ h => absurd h List.not_mem_nil⟩⟩⟩⟩⟩⟩⟩⟩⟩⟩⟩⟩⟩⟩⟩⟩
theorem lw_p64 : lw_okq (⟨"BodyCornersModel", "isThere", "(IIII)Z"⟩, 63) := ⟨⟨by decide +kernel, by decide +kernel⟩, List.mem_of_getElem? (i := 1219) (by decide +kernel), List.mem_of_getElem? (i := 1442) (by decide +kernel), List.mem_of_getElem? (i := 1443) (by decide +kernel)⟩
theorem lw_p65 : lw_okq (⟨"BodyCornersModel", "findPlanes", "()Z"⟩, 63) := ⟨⟨by decide +kernel, by decide +kernel⟩, List.mem_of_getElem? (i := 1219) (by decide +kernel), List.mem_of_getElem? (i := 1446) (by decide +kernel), List.mem_of_getElem? (i := 1447) (by decide +kernel)⟩
theorem lw_p66 : lw_okq (⟨"BodyCornersModel", "findNormal", "()V"⟩, 63) := ⟨⟨by decide +kernel, by decide +kernel⟩, List.mem_of_getElem? (i := 1219) (by decide +kernel), List.mem_of_getElem? (i := 1450) (by decide +kernel), List.mem_of_getElem? (i := 1451) (by decide +kernel)⟩
theorem lw_p67 : lw_okq (⟨"BodyCornersModel", "apart", "(III)J"⟩, 63) := ⟨⟨by decide +kernel, by decide +kernel⟩, List.mem_of_getElem? (i := 1219) (by decide +kernel), List.mem_of_getElem? (i := 1454) (by decide +kernel), List.mem_of_getElem? (i := 1455) (by decide +kernel)⟩
theorem lw_p68 : lw_okq (⟨"BodyCornersModel", "corner2", "(IIIII)J"⟩, 63) := ⟨⟨by decide +kernel, by decide +kernel⟩, List.mem_of_getElem? (i := 1219) (by decide +kernel), List.mem_of_getElem? (i := 1458) (by decide +kernel), List.mem_of_getElem? (i := 1459) (by decide +kernel)⟩
theorem lw_p69 : lw_okq (⟨"BodyCornersModel", "corner3", "(IIIIIII)J"⟩, 63) := ⟨⟨by decide +kernel, by decide +kernel⟩, List.mem_of_getElem? (i := 1219) (by decide +kernel), List.mem_of_getElem? (i := 1462) (by decide +kernel), List.mem_of_getElem? (i := 1463) (by decide +kernel)⟩
theorem lw_p70 : lw_okq (⟨"BodyCornersModel", "keepPlane", "()V"⟩, 63) := ⟨⟨by decide +kernel, by decide +kernel⟩, List.mem_of_getElem? (i := 1219) (by decide +kernel), List.mem_of_getElem? (i := 1472) (by decide +kernel), List.mem_of_getElem? (i := 1473) (by decide +kernel)⟩
theorem lw_p71 : lw_okq (⟨"BodyCornersModel", "beyond", "(I)J"⟩, 63) := ⟨⟨by decide +kernel, by decide +kernel⟩, List.mem_of_getElem? (i := 1219) (by decide +kernel), List.mem_of_getElem? (i := 1476) (by decide +kernel), List.mem_of_getElem? (i := 1477) (by decide +kernel)⟩
theorem lw_p72 : lw_okq (⟨"BodyCornersModel", "make", "(I)I"⟩, 63) := ⟨⟨by decide +kernel, by decide +kernel⟩, List.mem_of_getElem? (i := 1219) (by decide +kernel), List.mem_of_getElem? (i := 1480) (by decide +kernel), List.mem_of_getElem? (i := 1481) (by decide +kernel)⟩
theorem lw_p73 : lw_okq (⟨"BodyCornersModel", "isCorner", "(I)Z"⟩, 63) := ⟨⟨by decide +kernel, by decide +kernel⟩, List.mem_of_getElem? (i := 1219) (by decide +kernel), List.mem_of_getElem? (i := 1484) (by decide +kernel), List.mem_of_getElem? (i := 1485) (by decide +kernel)⟩
theorem lw_p74 : lw_okq (⟨"BodyCornersModel", "putFacet", "(III)V"⟩, 63) := ⟨⟨by decide +kernel, by decide +kernel⟩, List.mem_of_getElem? (i := 1219) (by decide +kernel), List.mem_of_getElem? (i := 1488) (by decide +kernel), List.mem_of_getElem? (i := 1489) (by decide +kernel)⟩
theorem lw_p75 : lw_okq (⟨"BodyCornersModel", "findFaces", "(I)V"⟩, 63) := ⟨⟨by decide +kernel, by decide +kernel⟩, List.mem_of_getElem? (i := 1219) (by decide +kernel), List.mem_of_getElem? (i := 1492) (by decide +kernel), List.mem_of_getElem? (i := 1493) (by decide +kernel)⟩
theorem lw_p76 : lw_okq (⟨"BodyCornersModel", "facets", "(I)I"⟩, 63) := ⟨⟨by decide +kernel, by decide +kernel⟩, List.mem_of_getElem? (i := 1219) (by decide +kernel), List.mem_of_getElem? (i := 1496) (by decide +kernel), List.mem_of_getElem? (i := 1497) (by decide +kernel)⟩
theorem lw_p77 : lw_okq (⟨"BodyCornersModel", "many", "(II)I"⟩, 63) := ⟨⟨by decide +kernel, by decide +kernel⟩, List.mem_of_getElem? (i := 1219) (by decide +kernel), List.mem_of_getElem? (i := 1500) (by decide +kernel), List.mem_of_getElem? (i := 1501) (by decide +kernel)⟩
theorem lw_p78 : lw_okq (⟨"BodyCornersModel", "facet", "(II)I"⟩, 63) := ⟨⟨by decide +kernel, by decide +kernel⟩, List.mem_of_getElem? (i := 1219) (by decide +kernel), List.mem_of_getElem? (i := 1504) (by decide +kernel), List.mem_of_getElem? (i := 1505) (by decide +kernel)⟩
theorem lw_p79 : lw_okq (⟨"BodyCornersModel", "setOf", "(III)I"⟩, 63) := ⟨⟨by decide +kernel, by decide +kernel⟩, List.mem_of_getElem? (i := 1219) (by decide +kernel), List.mem_of_getElem? (i := 1508) (by decide +kernel), List.mem_of_getElem? (i := 1509) (by decide +kernel)⟩
def lw_privs_5 : List (MethodName × Nat) := [(⟨"BodyCornersModel", "isThere", "(IIII)Z"⟩, 63), (⟨"BodyCornersModel", "findPlanes", "()Z"⟩, 63), (⟨"BodyCornersModel", "findNormal", "()V"⟩, 63), (⟨"BodyCornersModel", "apart", "(III)J"⟩, 63), (⟨"BodyCornersModel", "corner2", "(IIIII)J"⟩, 63), (⟨"BodyCornersModel", "corner3", "(IIIIIII)J"⟩, 63), (⟨"BodyCornersModel", "keepPlane", "()V"⟩, 63), (⟨"BodyCornersModel", "beyond", "(I)J"⟩, 63), (⟨"BodyCornersModel", "make", "(I)I"⟩, 63), (⟨"BodyCornersModel", "isCorner", "(I)Z"⟩, 63), (⟨"BodyCornersModel", "putFacet", "(III)V"⟩, 63), (⟨"BodyCornersModel", "findFaces", "(I)V"⟩, 63), (⟨"BodyCornersModel", "facets", "(I)I"⟩, 63), (⟨"BodyCornersModel", "many", "(II)I"⟩, 63), (⟨"BodyCornersModel", "facet", "(II)I"⟩, 63), (⟨"BodyCornersModel", "setOf", "(III)I"⟩, 63)]
theorem lw_r5 : ∀ q ∈ lw_privs_5, lw_okq q := List.forall_mem_cons.mpr ⟨lw_p64, List.forall_mem_cons.mpr ⟨lw_p65, List.forall_mem_cons.mpr ⟨lw_p66, List.forall_mem_cons.mpr ⟨lw_p67, List.forall_mem_cons.mpr ⟨lw_p68, List.forall_mem_cons.mpr ⟨lw_p69, List.forall_mem_cons.mpr ⟨lw_p70, List.forall_mem_cons.mpr ⟨lw_p71, List.forall_mem_cons.mpr ⟨lw_p72, List.forall_mem_cons.mpr ⟨lw_p73, List.forall_mem_cons.mpr ⟨lw_p74, List.forall_mem_cons.mpr ⟨lw_p75, List.forall_mem_cons.mpr ⟨lw_p76, List.forall_mem_cons.mpr ⟨lw_p77, List.forall_mem_cons.mpr ⟨lw_p78, List.forall_mem_cons.mpr ⟨lw_p79, fun _ h => absurd h List.not_mem_nil⟩⟩⟩⟩⟩⟩⟩⟩⟩⟩⟩⟩⟩⟩⟩⟩
theorem lw_p80 : lw_okq (⟨"BodyCornersModel", "putFace", "(II)Z"⟩, 63) := ⟨⟨by decide +kernel, by decide +kernel⟩, List.mem_of_getElem? (i := 1219) (by decide +kernel), List.mem_of_getElem? (i := 1512) (by decide +kernel), List.mem_of_getElem? (i := 1513) (by decide +kernel)⟩
theorem lw_p81 : lw_okq (⟨"BodyCornersModel", "isBody", "(I)Z"⟩, 63) := ⟨⟨by decide +kernel, by decide +kernel⟩, List.mem_of_getElem? (i := 1219) (by decide +kernel), List.mem_of_getElem? (i := 1523) (by decide +kernel), List.mem_of_getElem? (i := 1524) (by decide +kernel)⟩
theorem lw_p82 : lw_okq (⟨"BodyCornersModel", "tilted", "(IIIIII)J"⟩, 63) := ⟨⟨by decide +kernel, by decide +kernel⟩, List.mem_of_getElem? (i := 1219) (by decide +kernel), List.mem_of_getElem? (i := 1531) (by decide +kernel), List.mem_of_getElem? (i := 1532) (by decide +kernel)⟩
theorem lw_p83 : lw_okq (⟨"BodyCornersModel", "x", "(III)I"⟩, 63) := ⟨⟨by decide +kernel, by decide +kernel⟩, List.mem_of_getElem? (i := 1219) (by decide +kernel), List.mem_of_getElem? (i := 1535) (by decide +kernel), List.mem_of_getElem? (i := 1536) (by decide +kernel)⟩
theorem lw_p84 : lw_okq (⟨"BodyCornersModel", "putPart", "(II)V"⟩, 63) := ⟨⟨by decide +kernel, by decide +kernel⟩, List.mem_of_getElem? (i := 1219) (by decide +kernel), List.mem_of_getElem? (i := 1539) (by decide +kernel), List.mem_of_getElem? (i := 1540) (by decide +kernel)⟩
theorem lw_p85 : lw_okq (⟨"BodyCornersModel", "putEdges", "(I)V"⟩, 63) := ⟨⟨by decide +kernel, by decide +kernel⟩, List.mem_of_getElem? (i := 1219) (by decide +kernel), List.mem_of_getElem? (i := 1543) (by decide +kernel), List.mem_of_getElem? (i := 1544) (by decide +kernel)⟩
theorem lw_p86 : lw_okq (⟨"BodyCornersModel", "putBetween", "(IIIJJ)V"⟩, 63) := ⟨⟨by decide +kernel, by decide +kernel⟩, List.mem_of_getElem? (i := 1219) (by decide +kernel), List.mem_of_getElem? (i := 1547) (by decide +kernel), List.mem_of_getElem? (i := 1548) (by decide +kernel)⟩
theorem lw_p87 : lw_okq (⟨"BodyCornersModel", "makeWhole", "(I)I"⟩, 63) := ⟨⟨by decide +kernel, by decide +kernel⟩, List.mem_of_getElem? (i := 1219) (by decide +kernel), List.mem_of_getElem? (i := 1551) (by decide +kernel), List.mem_of_getElem? (i := 1552) (by decide +kernel)⟩
theorem lw_p88 : lw_okq (⟨"BodyCornersModel", "makeOne", "()I"⟩, 63) := ⟨⟨by decide +kernel, by decide +kernel⟩, List.mem_of_getElem? (i := 1219) (by decide +kernel), List.mem_of_getElem? (i := 1564) (by decide +kernel), List.mem_of_getElem? (i := 1565) (by decide +kernel)⟩
theorem lw_p89 : lw_okq (⟨"BodyCornersModel", "putRaised", "(IIII)V"⟩, 63) := ⟨⟨by decide +kernel, by decide +kernel⟩, List.mem_of_getElem? (i := 1219) (by decide +kernel), List.mem_of_getElem? (i := 1573) (by decide +kernel), List.mem_of_getElem? (i := 1574) (by decide +kernel)⟩
theorem lw_p90 : lw_okq (⟨"BodyCornersModel", "isSimpleFaced", "(I)Z"⟩, 63) := ⟨⟨by decide +kernel, by decide +kernel⟩, List.mem_of_getElem? (i := 1219) (by decide +kernel), List.mem_of_getElem? (i := 1589) (by decide +kernel), List.mem_of_getElem? (i := 1590) (by decide +kernel)⟩
theorem lw_p91 : lw_okq (⟨"BodyCornersModel", "isEach", "(I)Z"⟩, 63) := ⟨⟨by decide +kernel, by decide +kernel⟩, List.mem_of_getElem? (i := 1219) (by decide +kernel), List.mem_of_getElem? (i := 1593) (by decide +kernel), List.mem_of_getElem? (i := 1594) (by decide +kernel)⟩
theorem lw_p92 : lw_okq (⟨"BodyCornersModel", "facetsOf", "(II)I"⟩, 63) := ⟨⟨by decide +kernel, by decide +kernel⟩, List.mem_of_getElem? (i := 1219) (by decide +kernel), List.mem_of_getElem? (i := 1597) (by decide +kernel), List.mem_of_getElem? (i := 1598) (by decide +kernel)⟩
theorem lw_p93 : lw_okq (⟨"BodyCornersModel", "turnsOf", "(I)I"⟩, 63) := ⟨⟨by decide +kernel, by decide +kernel⟩, List.mem_of_getElem? (i := 1219) (by decide +kernel), List.mem_of_getElem? (i := 1601) (by decide +kernel), List.mem_of_getElem? (i := 1602) (by decide +kernel)⟩
theorem lw_p94 : lw_okq (⟨"BodyCornersModel", "takeOne", "(I)V"⟩, 63) := ⟨⟨by decide +kernel, by decide +kernel⟩, List.mem_of_getElem? (i := 1219) (by decide +kernel), List.mem_of_getElem? (i := 1605) (by decide +kernel), List.mem_of_getElem? (i := 1606) (by decide +kernel)⟩
theorem lw_p95 : lw_okq (⟨"BodyCornersModel", "takeTwo", "(I)V"⟩, 63) := ⟨⟨by decide +kernel, by decide +kernel⟩, List.mem_of_getElem? (i := 1219) (by decide +kernel), List.mem_of_getElem? (i := 1609) (by decide +kernel), List.mem_of_getElem? (i := 1610) (by decide +kernel)⟩
def lw_privs_6 : List (MethodName × Nat) := [(⟨"BodyCornersModel", "putFace", "(II)Z"⟩, 63), (⟨"BodyCornersModel", "isBody", "(I)Z"⟩, 63), (⟨"BodyCornersModel", "tilted", "(IIIIII)J"⟩, 63), (⟨"BodyCornersModel", "x", "(III)I"⟩, 63), (⟨"BodyCornersModel", "putPart", "(II)V"⟩, 63), (⟨"BodyCornersModel", "putEdges", "(I)V"⟩, 63), (⟨"BodyCornersModel", "putBetween", "(IIIJJ)V"⟩, 63), (⟨"BodyCornersModel", "makeWhole", "(I)I"⟩, 63), (⟨"BodyCornersModel", "makeOne", "()I"⟩, 63), (⟨"BodyCornersModel", "putRaised", "(IIII)V"⟩, 63), (⟨"BodyCornersModel", "isSimpleFaced", "(I)Z"⟩, 63), (⟨"BodyCornersModel", "isEach", "(I)Z"⟩, 63), (⟨"BodyCornersModel", "facetsOf", "(II)I"⟩, 63), (⟨"BodyCornersModel", "turnsOf", "(I)I"⟩, 63), (⟨"BodyCornersModel", "takeOne", "(I)V"⟩, 63), (⟨"BodyCornersModel", "takeTwo", "(I)V"⟩, 63)]
theorem lw_r6 : ∀ q ∈ lw_privs_6, lw_okq q := List.forall_mem_cons.mpr ⟨lw_p80, List.forall_mem_cons.mpr ⟨lw_p81, List.forall_mem_cons.mpr ⟨lw_p82, List.forall_mem_cons.mpr ⟨lw_p83, List.forall_mem_cons.mpr ⟨lw_p84, List.forall_mem_cons.mpr ⟨lw_p85, List.forall_mem_cons.mpr ⟨lw_p86, List.forall_mem_cons.mpr ⟨lw_p87, List.forall_mem_cons.mpr ⟨lw_p88, List.forall_mem_cons.mpr ⟨lw_p89, List.forall_mem_cons.mpr ⟨lw_p90, List.forall_mem_cons.mpr ⟨lw_p91, List.forall_mem_cons.mpr ⟨lw_p92, List.forall_mem_cons.mpr ⟨lw_p93, List.forall_mem_cons.mpr ⟨lw_p94, List.forall_mem_cons.mpr ⟨lw_p95, fun _ h => absurd h List.not_mem_nil⟩⟩⟩⟩⟩⟩⟩⟩⟩⟩⟩⟩⟩⟩⟩⟩
theorem lw_p96 : lw_okq (⟨"BodyCornersModel", "renamings", "(I)I"⟩, 63) := ⟨⟨by decide +kernel, by decide +kernel⟩, List.mem_of_getElem? (i := 1219) (by decide +kernel), List.mem_of_getElem? (i := 1614) (by decide +kernel), List.mem_of_getElem? (i := 1615) (by decide +kernel)⟩
theorem lw_p97 : lw_okq (⟨"BodyCornersModel", "countThrees", "()V"⟩, 63) := ⟨⟨by decide +kernel, by decide +kernel⟩, List.mem_of_getElem? (i := 1219) (by decide +kernel), List.mem_of_getElem? (i := 1618) (by decide +kernel), List.mem_of_getElem? (i := 1619) (by decide +kernel)⟩
theorem lw_p98 : lw_okq (⟨"BodyCornersModel", "goes", "(I)Z"⟩, 63) := ⟨⟨by decide +kernel, by decide +kernel⟩, List.mem_of_getElem? (i := 1219) (by decide +kernel), List.mem_of_getElem? (i := 1622) (by decide +kernel), List.mem_of_getElem? (i := 1623) (by decide +kernel)⟩
theorem lw_p99 : lw_okq (⟨"BodyCornersModel", "isRenamed", "()Z"⟩, 63) := ⟨⟨by decide +kernel, by decide +kernel⟩, List.mem_of_getElem? (i := 1219) (by decide +kernel), List.mem_of_getElem? (i := 1626) (by decide +kernel), List.mem_of_getElem? (i := 1627) (by decide +kernel)⟩
theorem lw_p100 : lw_okq (⟨"BodyCornersModel", "findPieces", "(I)I"⟩, 63) := ⟨⟨by decide +kernel, by decide +kernel⟩, List.mem_of_getElem? (i := 1219) (by decide +kernel), List.mem_of_getElem? (i := 1630) (by decide +kernel), List.mem_of_getElem? (i := 1631) (by decide +kernel)⟩
theorem lw_p101 : lw_okq (⟨"BodyCornersModel", "wait", "(III)V"⟩, 63) := ⟨⟨by decide +kernel, by decide +kernel⟩, List.mem_of_getElem? (i := 1219) (by decide +kernel), List.mem_of_getElem? (i := 1634) (by decide +kernel), List.mem_of_getElem? (i := 1635) (by decide +kernel)⟩
theorem lw_p102 : lw_okq (⟨"BodyCornersModel", "isCornerOf", "(II)Z"⟩, 63) := ⟨⟨by decide +kernel, by decide +kernel⟩, List.mem_of_getElem? (i := 1219) (by decide +kernel), List.mem_of_getElem? (i := 1642) (by decide +kernel), List.mem_of_getElem? (i := 1643) (by decide +kernel)⟩
theorem lw_p103 : lw_okq (⟨"BodyCornersModel", "inSome", "(I)Z"⟩, 63) := ⟨⟨by decide +kernel, by decide +kernel⟩, List.mem_of_getElem? (i := 1219) (by decide +kernel), List.mem_of_getElem? (i := 1695) (by decide +kernel), List.mem_of_getElem? (i := 1696) (by decide +kernel)⟩
theorem lw_p104 : lw_okq (⟨"BodyCornersModel", "hasTwo", "()Z"⟩, 63) := ⟨⟨by decide +kernel, by decide +kernel⟩, List.mem_of_getElem? (i := 1219) (by decide +kernel), List.mem_of_getElem? (i := 1699) (by decide +kernel), List.mem_of_getElem? (i := 1700) (by decide +kernel)⟩
theorem lw_p105 : lw_okq (⟨"BodyCornersModel", "inMany", "(I)I"⟩, 63) := ⟨⟨by decide +kernel, by decide +kernel⟩, List.mem_of_getElem? (i := 1219) (by decide +kernel), List.mem_of_getElem? (i := 1703) (by decide +kernel), List.mem_of_getElem? (i := 1704) (by decide +kernel)⟩
theorem lw_p106 : lw_okq (⟨"BodyCornersModel", "isJoined", "(I)Z"⟩, 63) := ⟨⟨by decide +kernel, by decide +kernel⟩, List.mem_of_getElem? (i := 1219) (by decide +kernel), List.mem_of_getElem? (i := 1707) (by decide +kernel), List.mem_of_getElem? (i := 1708) (by decide +kernel)⟩
theorem lw_p107 : lw_okq (⟨"BodyCornersModel", "patternSum", "(I)I"⟩, 63) := ⟨⟨by decide +kernel, by decide +kernel⟩, List.mem_of_getElem? (i := 1219) (by decide +kernel), List.mem_of_getElem? (i := 1711) (by decide +kernel), List.mem_of_getElem? (i := 1712) (by decide +kernel)⟩
theorem lw_p108 : lw_okq (⟨"BodyCornersModel", "hasRow", "(I)Z"⟩, 63) := ⟨⟨by decide +kernel, by decide +kernel⟩, List.mem_of_getElem? (i := 1219) (by decide +kernel), List.mem_of_getElem? (i := 1728) (by decide +kernel), List.mem_of_getElem? (i := 1729) (by decide +kernel)⟩
theorem lw_p109 : lw_okq (⟨"BodyCornersModel", "meetsAt", "(II)Z"⟩, 63) := ⟨⟨by decide +kernel, by decide +kernel⟩, List.mem_of_getElem? (i := 1219) (by decide +kernel), List.mem_of_getElem? (i := 1732) (by decide +kernel), List.mem_of_getElem? (i := 1733) (by decide +kernel)⟩
theorem lw_p110 : lw_okq (⟨"BodyCornersModel", "freshAt", "(II)I"⟩, 63) := ⟨⟨by decide +kernel, by decide +kernel⟩, List.mem_of_getElem? (i := 1219) (by decide +kernel), List.mem_of_getElem? (i := 1740) (by decide +kernel), List.mem_of_getElem? (i := 1741) (by decide +kernel)⟩
theorem lw_p111 : lw_okq (⟨"BodyCornersModel", "findBeside", "(I)V"⟩, 63) := ⟨⟨by decide +kernel, by decide +kernel⟩, List.mem_of_getElem? (i := 1219) (by decide +kernel), List.mem_of_getElem? (i := 1748) (by decide +kernel), List.mem_of_getElem? (i := 1749) (by decide +kernel)⟩
def lw_privs_7 : List (MethodName × Nat) := [(⟨"BodyCornersModel", "renamings", "(I)I"⟩, 63), (⟨"BodyCornersModel", "countThrees", "()V"⟩, 63), (⟨"BodyCornersModel", "goes", "(I)Z"⟩, 63), (⟨"BodyCornersModel", "isRenamed", "()Z"⟩, 63), (⟨"BodyCornersModel", "findPieces", "(I)I"⟩, 63), (⟨"BodyCornersModel", "wait", "(III)V"⟩, 63), (⟨"BodyCornersModel", "isCornerOf", "(II)Z"⟩, 63), (⟨"BodyCornersModel", "inSome", "(I)Z"⟩, 63), (⟨"BodyCornersModel", "hasTwo", "()Z"⟩, 63), (⟨"BodyCornersModel", "inMany", "(I)I"⟩, 63), (⟨"BodyCornersModel", "isJoined", "(I)Z"⟩, 63), (⟨"BodyCornersModel", "patternSum", "(I)I"⟩, 63), (⟨"BodyCornersModel", "hasRow", "(I)Z"⟩, 63), (⟨"BodyCornersModel", "meetsAt", "(II)Z"⟩, 63), (⟨"BodyCornersModel", "freshAt", "(II)I"⟩, 63), (⟨"BodyCornersModel", "findBeside", "(I)V"⟩, 63)]
theorem lw_r7 : ∀ q ∈ lw_privs_7, lw_okq q := List.forall_mem_cons.mpr ⟨lw_p96, List.forall_mem_cons.mpr ⟨lw_p97, List.forall_mem_cons.mpr ⟨lw_p98, List.forall_mem_cons.mpr ⟨lw_p99, List.forall_mem_cons.mpr ⟨lw_p100, List.forall_mem_cons.mpr ⟨lw_p101, List.forall_mem_cons.mpr ⟨lw_p102, List.forall_mem_cons.mpr ⟨lw_p103, List.forall_mem_cons.mpr ⟨lw_p104, List.forall_mem_cons.mpr ⟨lw_p105, List.forall_mem_cons.mpr ⟨lw_p106, List.forall_mem_cons.mpr ⟨lw_p107, List.forall_mem_cons.mpr ⟨lw_p108, List.forall_mem_cons.mpr ⟨lw_p109, List.forall_mem_cons.mpr ⟨lw_p110, List.forall_mem_cons.mpr ⟨lw_p111, fun _ h => absurd h List.not_mem_nil⟩⟩⟩⟩⟩⟩⟩⟩⟩⟩⟩⟩⟩⟩⟩⟩
theorem lw_p112 : lw_okq (⟨"BodyCornersModel", "areBeside", "(III)Z"⟩, 63) := ⟨⟨by decide +kernel, by decide +kernel⟩, List.mem_of_getElem? (i := 1219) (by decide +kernel), List.mem_of_getElem? (i := 1752) (by decide +kernel), List.mem_of_getElem? (i := 1753) (by decide +kernel)⟩
theorem lw_p113 : lw_okq (⟨"BodyCornersModel", "steps", "(III)I"⟩, 63) := ⟨⟨by decide +kernel, by decide +kernel⟩, List.mem_of_getElem? (i := 1219) (by decide +kernel), List.mem_of_getElem? (i := 1756) (by decide +kernel), List.mem_of_getElem? (i := 1757) (by decide +kernel)⟩
theorem lw_p114 : lw_okq (⟨"BodyCornersModel", "height", "(II)I"⟩, 63) := ⟨⟨by decide +kernel, by decide +kernel⟩, List.mem_of_getElem? (i := 1219) (by decide +kernel), List.mem_of_getElem? (i := 1773) (by decide +kernel), List.mem_of_getElem? (i := 1774) (by decide +kernel)⟩
theorem lw_p115 : lw_okq (⟨"BodyCornersModel", "findRing", "(I)Z"⟩, 63) := ⟨⟨by decide +kernel, by decide +kernel⟩, List.mem_of_getElem? (i := 1219) (by decide +kernel), List.mem_of_getElem? (i := 1786) (by decide +kernel), List.mem_of_getElem? (i := 1787) (by decide +kernel)⟩
theorem lw_p116 : lw_okq (⟨"BodyCornersModel", "whereIs", "(IIIII)I"⟩, 63) := ⟨⟨by decide +kernel, by decide +kernel⟩, List.mem_of_getElem? (i := 1219) (by decide +kernel), List.mem_of_getElem? (i := 1794) (by decide +kernel), List.mem_of_getElem? (i := 1795) (by decide +kernel)⟩
theorem lw_p117 : lw_okq (⟨"BodyCornersModel", "over", "(IIIIIII)J"⟩, 63) := ⟨⟨by decide +kernel, by decide +kernel⟩, List.mem_of_getElem? (i := 1219) (by decide +kernel), List.mem_of_getElem? (i := 1798) (by decide +kernel), List.mem_of_getElem? (i := 1799) (by decide +kernel)⟩
theorem lw_p118 : lw_okq (⟨"BodyCornersModel", "sizeOf", "(II)J"⟩, 63) := ⟨⟨by decide +kernel, by decide +kernel⟩, List.mem_of_getElem? (i := 1219) (by decide +kernel), List.mem_of_getElem? (i := 1814) (by decide +kernel), List.mem_of_getElem? (i := 1815) (by decide +kernel)⟩
theorem lw_p119 : lw_okq (⟨"BodyCornersModel", "square", "(IIII)J"⟩, 63) := ⟨⟨by decide +kernel, by decide +kernel⟩, List.mem_of_getElem? (i := 1219) (by decide +kernel), List.mem_of_getElem? (i := 1818) (by decide +kernel), List.mem_of_getElem? (i := 1819) (by decide +kernel)⟩
theorem lw_p120 : lw_okq (⟨"BodyCornersModel", "cube", "(IIIIII)J"⟩, 63) := ⟨⟨by decide +kernel, by decide +kernel⟩, List.mem_of_getElem? (i := 1219) (by decide +kernel), List.mem_of_getElem? (i := 1822) (by decide +kernel), List.mem_of_getElem? (i := 1823) (by decide +kernel)⟩
theorem lw_p121 : lw_okq (⟨"BodyCornersModel", "here", "()I"⟩, 63) := ⟨⟨by decide +kernel, by decide +kernel⟩, List.mem_of_getElem? (i := 1219) (by decide +kernel), List.mem_of_getElem? (i := 1847) (by decide +kernel), List.mem_of_getElem? (i := 1848) (by decide +kernel)⟩
theorem lw_p122 : lw_okq (⟨"BodyCornersModel", "readClause", "()I"⟩, 63) := ⟨⟨by decide +kernel, by decide +kernel⟩, List.mem_of_getElem? (i := 1219) (by decide +kernel), List.mem_of_getElem? (i := 1851) (by decide +kernel), List.mem_of_getElem? (i := 1852) (by decide +kernel)⟩
theorem lw_p123 : lw_okq (⟨"BodyCornersModel", "readWord", "()V"⟩, 63) := ⟨⟨by decide +kernel, by decide +kernel⟩, List.mem_of_getElem? (i := 1219) (by decide +kernel), List.mem_of_getElem? (i := 1855) (by decide +kernel), List.mem_of_getElem? (i := 1856) (by decide +kernel)⟩
theorem lw_p124 : lw_okq (⟨"BodyCornersModel", "keyOf", "()I"⟩, 63) := ⟨⟨by decide +kernel, by decide +kernel⟩, List.mem_of_getElem? (i := 1219) (by decide +kernel), List.mem_of_getElem? (i := 1865) (by decide +kernel), List.mem_of_getElem? (i := 1866) (by decide +kernel)⟩
theorem lw_p125 : lw_okq (⟨"BodyCornersModel", "fails", "(II)I"⟩, 63) := ⟨⟨by decide +kernel, by decide +kernel⟩, List.mem_of_getElem? (i := 1219) (by decide +kernel), List.mem_of_getElem? (i := 1872) (by decide +kernel), List.mem_of_getElem? (i := 1873) (by decide +kernel)⟩
theorem lw_p126 : lw_okq (⟨"BodyCornersModel", "readClaim", "(I)I"⟩, 63) := ⟨⟨by decide +kernel, by decide +kernel⟩, List.mem_of_getElem? (i := 1219) (by decide +kernel), List.mem_of_getElem? (i := 1876) (by decide +kernel), List.mem_of_getElem? (i := 1877) (by decide +kernel)⟩
theorem lw_p127 : lw_okq (⟨"BodyCornersModel", "needs", "(J)I"⟩, 63) := ⟨⟨by decide +kernel, by decide +kernel⟩, List.mem_of_getElem? (i := 1219) (by decide +kernel), List.mem_of_getElem? (i := 1880) (by decide +kernel), List.mem_of_getElem? (i := 1881) (by decide +kernel)⟩
def lw_privs_8 : List (MethodName × Nat) := [(⟨"BodyCornersModel", "areBeside", "(III)Z"⟩, 63), (⟨"BodyCornersModel", "steps", "(III)I"⟩, 63), (⟨"BodyCornersModel", "height", "(II)I"⟩, 63), (⟨"BodyCornersModel", "findRing", "(I)Z"⟩, 63), (⟨"BodyCornersModel", "whereIs", "(IIIII)I"⟩, 63), (⟨"BodyCornersModel", "over", "(IIIIIII)J"⟩, 63), (⟨"BodyCornersModel", "sizeOf", "(II)J"⟩, 63), (⟨"BodyCornersModel", "square", "(IIII)J"⟩, 63), (⟨"BodyCornersModel", "cube", "(IIIIII)J"⟩, 63), (⟨"BodyCornersModel", "here", "()I"⟩, 63), (⟨"BodyCornersModel", "readClause", "()I"⟩, 63), (⟨"BodyCornersModel", "readWord", "()V"⟩, 63), (⟨"BodyCornersModel", "keyOf", "()I"⟩, 63), (⟨"BodyCornersModel", "fails", "(II)I"⟩, 63), (⟨"BodyCornersModel", "readClaim", "(I)I"⟩, 63), (⟨"BodyCornersModel", "needs", "(J)I"⟩, 63)]
theorem lw_r8 : ∀ q ∈ lw_privs_8, lw_okq q := List.forall_mem_cons.mpr ⟨lw_p112, List.forall_mem_cons.mpr ⟨lw_p113, List.forall_mem_cons.mpr ⟨lw_p114, List.forall_mem_cons.mpr ⟨lw_p115, List.forall_mem_cons.mpr ⟨lw_p116, List.forall_mem_cons.mpr ⟨lw_p117, List.forall_mem_cons.mpr ⟨lw_p118, List.forall_mem_cons.mpr ⟨lw_p119, List.forall_mem_cons.mpr ⟨lw_p120, List.forall_mem_cons.mpr ⟨lw_p121, List.forall_mem_cons.mpr ⟨lw_p122, List.forall_mem_cons.mpr ⟨lw_p123, List.forall_mem_cons.mpr ⟨lw_p124, List.forall_mem_cons.mpr ⟨lw_p125, List.forall_mem_cons.mpr ⟨lw_p126, List.forall_mem_cons.mpr ⟨lw_p127, fun _ h => absurd h List.not_mem_nil⟩⟩⟩⟩⟩⟩⟩⟩⟩⟩⟩⟩⟩⟩⟩⟩
theorem lw_p128 : lw_okq (⟨"BodyCornersModel", "readNumber", "(II)I"⟩, 63) := ⟨⟨by decide +kernel, by decide +kernel⟩, List.mem_of_getElem? (i := 1219) (by decide +kernel), List.mem_of_getElem? (i := 1884) (by decide +kernel), List.mem_of_getElem? (i := 1885) (by decide +kernel)⟩
theorem lw_p129 : lw_okq (⟨"BodyCornersModel", "makes", "(III)Z"⟩, 63) := ⟨⟨by decide +kernel, by decide +kernel⟩, List.mem_of_getElem? (i := 1219) (by decide +kernel), List.mem_of_getElem? (i := 1894) (by decide +kernel), List.mem_of_getElem? (i := 1895) (by decide +kernel)⟩
theorem lw_p130 : lw_okq (⟨"BodyCornersModel", "isHeld", "(II)Z"⟩, 63) := ⟨⟨by decide +kernel, by decide +kernel⟩, List.mem_of_getElem? (i := 1219) (by decide +kernel), List.mem_of_getElem? (i := 1909) (by decide +kernel), List.mem_of_getElem? (i := 1910) (by decide +kernel)⟩
def lw_privs_9 : List (MethodName × Nat) := [(⟨"BodyCornersModel", "readNumber", "(II)I"⟩, 63), (⟨"BodyCornersModel", "makes", "(III)Z"⟩, 63), (⟨"BodyCornersModel", "isHeld", "(II)Z"⟩, 63)]
theorem lw_r9 : ∀ q ∈ lw_privs_9, lw_okq q := List.forall_mem_cons.mpr ⟨lw_p128, List.forall_mem_cons.mpr ⟨lw_p129, List.forall_mem_cons.mpr ⟨lw_p130, fun _ h => absurd h List.not_mem_nil⟩⟩⟩
def lw_privs : List (MethodName × Nat) := lw_privs_1 ++ (lw_privs_2 ++ (lw_privs_3 ++ (lw_privs_4 ++ (lw_privs_5 ++ (lw_privs_6 ++ (lw_privs_7 ++ (lw_privs_8 ++ (lw_privs_9))))))))
def lw_tbl : List Cond := k2_sels lw_privs ++ tables_1
theorem lw_privs_ok : ∀ q ∈ lw_privs, lw_okq q := by
  show ∀ q ∈ lw_privs_1 ++ (lw_privs_2 ++ (lw_privs_3 ++ (lw_privs_4 ++ (lw_privs_5 ++ (lw_privs_6 ++ (lw_privs_7 ++ (lw_privs_8 ++ (lw_privs_9)))))))), lw_okq q
  exact List.forall_mem_append.mpr ⟨lw_r1, List.forall_mem_append.mpr ⟨lw_r2, List.forall_mem_append.mpr ⟨lw_r3, List.forall_mem_append.mpr ⟨lw_r4, List.forall_mem_append.mpr ⟨lw_r5, List.forall_mem_append.mpr ⟨lw_r6, List.forall_mem_append.mpr ⟨lw_r7, List.forall_mem_append.mpr ⟨lw_r8, lw_r9⟩⟩⟩⟩⟩⟩⟩⟩
-- ===== end of PART A; then your names; then what follows =====
def RX0 : String := "BodyCorners$Claims"
def TX0 : u_T := fun k => match k with
  | 0 => ("BodyCorners$Claims", "parts", "[I", true)
  | _ => ("BodyCorners$Claims", "held", "I", false)
def tyX0 : Nat → FieldType := fun k => match k with
  | 0 => .array .int
  | _ => .int
theorem nmX0 : ∀ a, a < 2 → ∀ b, b < 2 → a ≠ b → (TX0 a).2.1 ≠ (TX0 b).2.1 := by decide +kernel
theorem tyX0_ok : ∀ k, k < 2 → parseFieldDescriptor (TX0 k).2.2.1 = some (tyX0 k) := by decide +kernel
abbrev cX0_init : ByteArray := prog_2_method_1_code
def yX0_init : MethodName := ⟨RX0, "<init>", "()V"⟩
abbrev cX0_add : ByteArray := prog_2_method_2_code
def yX0_add : MethodName := ⟨RX0, "add", "(IIII)V"⟩
abbrev cX0_bodyOf : ByteArray := prog_2_method_3_code
def yX0_bodyOf : MethodName := ⟨RX0, "bodyOf", "(I)I"⟩
abbrev cX0_isTrueOf : ByteArray := prog_2_method_4_code
def yX0_isTrueOf : MethodName := ⟨RX0, "isTrueOf", "(ILBodyCorners$Solid;)Z"⟩
def RX1 : String := "BodyCorners$FacetRow"
def TX1 : u_T := fun k => match k with
  | 0 => ("BodyCorners$FacetRow", "facets", "[I", true)
  | _ => ("BodyCorners$FacetRow", "held", "I", false)
def tyX1 : Nat → FieldType := fun k => match k with
  | 0 => .array .int
  | _ => .int
theorem nmX1 : ∀ a, a < 2 → ∀ b, b < 2 → a ≠ b → (TX1 a).2.1 ≠ (TX1 b).2.1 := by decide +kernel
theorem tyX1_ok : ∀ k, k < 2 → parseFieldDescriptor (TX1 k).2.2.1 = some (tyX1 k) := by decide +kernel
abbrev cX1_init : ByteArray := prog_3_method_1_code
def yX1_init : MethodName := ⟨RX1, "<init>", "()V"⟩
abbrev cX1_has : ByteArray := prog_3_method_2_code
def yX1_has : MethodName := ⟨RX1, "has", "(I)Z"⟩
abbrev cX1_add : ByteArray := prog_3_method_3_code
def yX1_add : MethodName := ⟨RX1, "add", "(I)Z"⟩
abbrev cX1_isOf : ByteArray := prog_3_method_4_code
def yX1_isOf : MethodName := ⟨RX1, "isOf", "(LBodyCorners$Solid;)Z"⟩
abbrev cX1_firstUnmet : ByteArray := prog_3_method_5_code
def yX1_firstUnmet : MethodName := ⟨RX1, "firstUnmet", "(LBodyCorners$Solid;)I"⟩
abbrev cX1_meetsAt : ByteArray := prog_3_method_6_code
def yX1_meetsAt : MethodName := ⟨RX1, "meetsAt", "(LBodyCorners$Solid;I)Z"⟩
abbrev cX1_placesWithNew : ByteArray := prog_3_method_7_code
def yX1_placesWithNew : MethodName := ⟨RX1, "placesWithNew", "(LBodyCorners$Solid;I)I"⟩
abbrev cX1_sparedAt : ByteArray := prog_3_method_8_code
def yX1_sparedAt : MethodName := ⟨RX1, "sparedAt", "(LBodyCorners$Solid;I)I"⟩
def RX2 : String := "BodyCorners$Hull"
def TX2 : u_T := fun k => match k with
  | 0 => ("BodyCorners$Hull", "told", "[I", true)
  | 1 => ("BodyCorners$Hull", "toldCount", "I", false)
  | 2 => ("BodyCorners$Hull", "over", "Z", false)
  | 3 => ("BodyCorners$Hull", "dim", "I", false)
  | 4 => ("BodyCorners$Hull", "sets", "[I", true)
  | 5 => ("BodyCorners$Hull", "planes", "[J", true)
  | 6 => ("BodyCorners$Hull", "facets", "I", false)
  | 7 => ("BodyCorners$Hull", "rows", "[J", true)
  | 8 => ("BodyCorners$Hull", "plane", "[J", true)
  | 9 => ("BodyCorners$Hull", "ranks", "[I", true)
  | _ => ("BodyCorners$Hull", "found", "[I", true)
def tyX2 : Nat → FieldType := fun k => match k with
  | 0 => .array .int
  | 1 => .int
  | 2 => .boolean
  | 3 => .int
  | 4 => .array .int
  | 5 => .array .long
  | 6 => .int
  | 7 => .array .long
  | 8 => .array .long
  | 9 => .array .int
  | _ => .array .int
theorem nmX2 : ∀ a, a < 11 → ∀ b, b < 11 → a ≠ b → (TX2 a).2.1 ≠ (TX2 b).2.1 := by decide +kernel
theorem tyX2_ok : ∀ k, k < 11 → parseFieldDescriptor (TX2 k).2.2.1 = some (tyX2 k) := by decide +kernel
abbrev cX2_init : ByteArray := prog_4_method_1_code
def yX2_init : MethodName := ⟨RX2, "<init>", "()V"⟩
abbrev cX2_begin : ByteArray := prog_4_method_2_code
def yX2_begin : MethodName := ⟨RX2, "begin", "(I)V"⟩
abbrev cX2_tell : ByteArray := prog_4_method_3_code
def yX2_tell : MethodName := ⟨RX2, "tell", "(IIII)V"⟩
abbrev cX2_tellTimes : ByteArray := prog_4_method_4_code
def yX2_tellTimes : MethodName := ⟨RX2, "tellTimes", "([III)V"⟩
abbrev cX2_tellAll : ByteArray := prog_4_method_5_code
def yX2_tellAll : MethodName := ⟨RX2, "tellAll", "(LBodyCorners$Solid;I)V"⟩
abbrev cX2_tellWithout : ByteArray := prog_4_method_6_code
def yX2_tellWithout : MethodName := ⟨RX2, "tellWithout", "([III)V"⟩
abbrev cX2_tellAbove : ByteArray := prog_4_method_7_code
def yX2_tellAbove : MethodName := ⟨RX2, "tellAbove", "(IIIII)V"⟩
abbrev cX2_tellLid : ByteArray := prog_4_method_8_code
def yX2_tellLid : MethodName := ⟨RX2, "tellLid", "(LBodyCorners$Solid;I)V"⟩
abbrev cX2_tellTip : ByteArray := prog_4_method_9_code
def yX2_tellTip : MethodName := ⟨RX2, "tellTip", "(LBodyCorners$Solid;II)V"⟩
abbrev cX2_tellShape : ByteArray := prog_4_method_10_code
def yX2_tellShape : MethodName := ⟨RX2, "tellShape", "(II)V"⟩
abbrev cX2_tellUnit : ByteArray := prog_4_method_11_code
def yX2_tellUnit : MethodName := ⟨RX2, "tellUnit", "(II)V"⟩
abbrev cX2_findFacets : ByteArray := prog_4_method_12_code
def yX2_findFacets : MethodName := ⟨RX2, "findFacets", "()Z"⟩
abbrev cX2_nextChoice : ByteArray := prog_4_method_13_code
def yX2_nextChoice : MethodName := ⟨RX2, "nextChoice", "(I)I"⟩
abbrev cX2_isInFacet : ByteArray := prog_4_method_14_code
def yX2_isInFacet : MethodName := ⟨RX2, "isInFacet", "(I)Z"⟩
abbrev cX2_keepFacet : ByteArray := prog_4_method_15_code
def yX2_keepFacet : MethodName := ⟨RX2, "keepFacet", "(I)V"⟩
abbrev cX2_rowBetween : ByteArray := prog_4_method_16_code
def yX2_rowBetween : MethodName := ⟨RX2, "rowBetween", "(I[III)V"⟩
abbrev cX2_rowOfUnit : ByteArray := prog_4_method_17_code
def yX2_rowOfUnit : MethodName := ⟨RX2, "rowOfUnit", "(II)V"⟩
abbrev cX2_rowsWithin : ByteArray := prog_4_method_18_code
def yX2_rowsWithin : MethodName := ⟨RX2, "rowsWithin", "(I[I)I"⟩
abbrev cX2_spanPlane : ByteArray := prog_4_method_19_code
def yX2_spanPlane : MethodName := ⟨RX2, "spanPlane", "(I)Z"⟩
abbrev cX2_crossRows : ByteArray := prog_4_method_20_code
def yX2_crossRows : MethodName := ⟨RX2, "crossRows", "()V"⟩
abbrev cX2_setOnPlane : ByteArray := prog_4_method_21_code
def yX2_setOnPlane : MethodName := ⟨RX2, "setOnPlane", "()I"⟩
abbrev cX2_sizeOf : ByteArray := prog_4_method_22_code
def yX2_sizeOf : MethodName := ⟨RX2, "sizeOf", "(LBodyCorners$Solid;I)J"⟩
abbrev cX2_make : ByteArray := prog_4_method_23_code
def yX2_make : MethodName := ⟨RX2, "make", "(I)LBodyCorners$Solid;"⟩
abbrev cX2_cornerSet : ByteArray := prog_4_method_24_code
def yX2_cornerSet : MethodName := ⟨RX2, "cornerSet", "()I"⟩
abbrev cX2_commonTo : ByteArray := prog_4_method_25_code
def yX2_commonTo : MethodName := ⟨RX2, "commonTo", "(I[II)I"⟩
abbrev cX2_squeeze : ByteArray := prog_4_method_26_code
def yX2_squeeze : MethodName := ⟨RX2, "squeeze", "(II)I"⟩
abbrev cX2_rankFacets : ByteArray := prog_4_method_27_code
def yX2_rankFacets : MethodName := ⟨RX2, "rankFacets", "()V"⟩
abbrev cX2_allCells : ByteArray := prog_4_method_28_code
def yX2_allCells : MethodName := ⟨RX2, "allCells", "(I[I)[[I"⟩
abbrev cX2_edges : ByteArray := prog_4_method_29_code
def yX2_edges : MethodName := ⟨RX2, "edges", "(I[I)[I"⟩
abbrev cX2_ridges : ByteArray := prog_4_method_30_code
def yX2_ridges : MethodName := ⟨RX2, "ridges", "([I)[I"⟩
abbrev cX2_insertFound : ByteArray := prog_4_method_31_code
def yX2_insertFound : MethodName := ⟨RX2, "insertFound", "(II)V"⟩
def RX3 : String := "BodyCorners$Lattice"
def TX3 : u_T := fun k => match k with
  | 0 => ("BodyCorners$Lattice", "solid", "LBodyCorners$Solid;", false)
  | 1 => ("BodyCorners$Lattice", "stretch", "I", false)
  | 2 => ("BodyCorners$Lattice", "gap", "I", false)
  | 3 => ("BodyCorners$Lattice", "low", "[I", true)
  | 4 => ("BodyCorners$Lattice", "high", "[I", true)
  | _ => ("BodyCorners$Lattice", "spot", "[I", true)
def tyX3 : Nat → FieldType := fun k => match k with
  | 0 => .object "BodyCorners$Solid"
  | 1 => .int
  | 2 => .int
  | 3 => .array .int
  | 4 => .array .int
  | _ => .array .int
theorem nmX3 : ∀ a, a < 6 → ∀ b, b < 6 → a ≠ b → (TX3 a).2.1 ≠ (TX3 b).2.1 := by decide +kernel
theorem tyX3_ok : ∀ k, k < 6 → parseFieldDescriptor (TX3 k).2.2.1 = some (tyX3 k) := by decide +kernel
abbrev cX3_init : ByteArray := prog_5_method_1_code
def yX3_init : MethodName := ⟨RX3, "<init>", "()V"⟩
abbrev cX3_aim : ByteArray := prog_5_method_2_code
def yX3_aim : MethodName := ⟨RX3, "aim", "(LBodyCorners$Solid;II)V"⟩
abbrev cX3_sideOf : ByteArray := prog_5_method_3_code
def yX3_sideOf : MethodName := ⟨RX3, "sideOf", "(I)I"⟩
abbrev cX3_boxPlaces : ByteArray := prog_5_method_4_code
def yX3_boxPlaces : MethodName := ⟨RX3, "boxPlaces", "()J"⟩
abbrev cX3_countPlaces : ByteArray := prog_5_method_5_code
def yX3_countPlaces : MethodName := ⟨RX3, "countPlaces", "()I"⟩
abbrev cX3_placesOnLine : ByteArray := prog_5_method_6_code
def yX3_placesOnLine : MethodName := ⟨RX3, "placesOnLine", "(I)I"⟩
def RX4 : String := "BodyCorners$Matcher"
def TX4 : u_T := fun k => match k with
  | 0 => ("BodyCorners$Matcher", "sets", "[I", true)
  | 1 => ("BodyCorners$Matcher", "held", "I", false)
  | 2 => ("BodyCorners$Matcher", "marks", "I", false)
  | 3 => ("BodyCorners$Matcher", "shared", "[I", true)
  | 4 => ("BodyCorners$Matcher", "goalShared", "[I", true)
  | 5 => ("BodyCorners$Matcher", "goal", "[I", false)
  | 6 => ("BodyCorners$Matcher", "limit", "I", false)
  | 7 => ("BodyCorners$Matcher", "order", "[I", true)
  | 8 => ("BodyCorners$Matcher", "image", "[I", true)
  | 9 => ("BodyCorners$Matcher", "complete", "[I", true)
  | 10 => ("BodyCorners$Matcher", "starts", "[I", true)
  | _ => ("BodyCorners$Matcher", "scores", "[I", true)
def tyX4 : Nat → FieldType := fun k => match k with
  | 0 => .array .int
  | 1 => .int
  | 2 => .int
  | 3 => .array .int
  | 4 => .array .int
  | 5 => .array .int
  | 6 => .int
  | 7 => .array .int
  | 8 => .array .int
  | 9 => .array .int
  | 10 => .array .int
  | _ => .array .int
theorem nmX4 : ∀ a, a < 12 → ∀ b, b < 12 → a ≠ b → (TX4 a).2.1 ≠ (TX4 b).2.1 := by decide +kernel
theorem tyX4_ok : ∀ k, k < 12 → parseFieldDescriptor (TX4 k).2.2.1 = some (tyX4 k) := by decide +kernel
abbrev cX4_init : ByteArray := prog_6_method_1_code
def yX4_init : MethodName := ⟨RX4, "<init>", "()V"⟩
abbrev cX4_fromSets : ByteArray := prog_6_method_2_code
def yX4_fromSets : MethodName := ⟨RX4, "fromSets", "(I[II)V"⟩
abbrev cX4_fromCorners : ByteArray := prog_6_method_3_code
def yX4_fromCorners : MethodName := ⟨RX4, "fromCorners", "(LBodyCorners$Solid;)V"⟩
abbrev cX4_countOnto : ByteArray := prog_6_method_4_code
def yX4_countOnto : MethodName := ⟨RX4, "countOnto", "(I[II)I"⟩
abbrev cX4_share : ByteArray := prog_6_method_5_code
def yX4_share : MethodName := ⟨RX4, "share", "([I[I)V"⟩
abbrev cX4_chooseOrder : ByteArray := prog_6_method_6_code
def yX4_chooseOrder : MethodName := ⟨RX4, "chooseOrder", "()V"⟩
abbrev cX4_bestNext : ByteArray := prog_6_method_7_code
def yX4_bestNext : MethodName := ⟨RX4, "bestNext", "(I)I"⟩
abbrev cX4_extend : ByteArray := prog_6_method_8_code
def yX4_extend : MethodName := ⟨RX4, "extend", "(LBodyCorners$Matcher;III)I"⟩
abbrev cX4_fits : ByteArray := prog_6_method_9_code
def yX4_fits : MethodName := ⟨RX4, "fits", "(II)Z"⟩
abbrev cX4_renamed : ByteArray := prog_6_method_10_code
def yX4_renamed : MethodName := ⟨RX4, "renamed", "(I)I"⟩
abbrev cX4_isGoal : ByteArray := prog_6_method_11_code
def yX4_isGoal : MethodName := ⟨RX4, "isGoal", "(I)Z"⟩
def RX5 : String := "BodyCorners$Plan"
def TX5 : u_T := fun k => match k with
  | 0 => ("BodyCorners$Plan", "marks", "I", false)
  | 1 => ("BodyCorners$Plan", "sets", "[I", true)
  | _ => ("BodyCorners$Plan", "held", "I", false)
def tyX5 : Nat → FieldType := fun k => match k with
  | 0 => .int
  | 1 => .array .int
  | _ => .int
theorem nmX5 : ∀ a, a < 3 → ∀ b, b < 3 → a ≠ b → (TX5 a).2.1 ≠ (TX5 b).2.1 := by decide +kernel
theorem tyX5_ok : ∀ k, k < 3 → parseFieldDescriptor (TX5 k).2.2.1 = some (tyX5 k) := by decide +kernel
abbrev cX5_init : ByteArray := prog_7_method_1_code
def yX5_init : MethodName := ⟨RX5, "<init>", "()V"⟩
abbrev cX5_setSize : ByteArray := prog_7_method_2_code
def yX5_setSize : MethodName := ⟨RX5, "setSize", "()I"⟩
abbrev cX5_admits : ByteArray := prog_7_method_3_code
def yX5_admits : MethodName := ⟨RX5, "admits", "(I)Z"⟩
abbrev cX5_add : ByteArray := prog_7_method_4_code
def yX5_add : MethodName := ⟨RX5, "add", "(I)Z"⟩
abbrev cX5_firstBroken : ByteArray := prog_7_method_5_code
def yX5_firstBroken : MethodName := ⟨RX5, "firstBroken", "(I)I"⟩
abbrev cX5_usesAllMarks : ByteArray := prog_7_method_6_code
def yX5_usesAllMarks : MethodName := ⟨RX5, "usesAllMarks", "()Z"⟩
abbrev cX5_setsAround : ByteArray := prog_7_method_7_code
def yX5_setsAround : MethodName := ⟨RX5, "setsAround", "(I)I"⟩
abbrev cX5_partsAreInTwo : ByteArray := prog_7_method_8_code
def yX5_partsAreInTwo : MethodName := ⟨RX5, "partsAreInTwo", "()Z"⟩
abbrev cX5_isOnePiece : ByteArray := prog_7_method_9_code
def yX5_isOnePiece : MethodName := ⟨RX5, "isOnePiece", "(I)Z"⟩
abbrev cX5_touches : ByteArray := prog_7_method_10_code
def yX5_touches : MethodName := ⟨RX5, "touches", "(III)Z"⟩
abbrev cX5_signedParts : ByteArray := prog_7_method_11_code
def yX5_signedParts : MethodName := ⟨RX5, "signedParts", "(I)I"⟩
def RX6 : String := "BodyCorners$Script"
def TX6 : u_T := fun k => match k with
  | 0 => ("BodyCorners$Script", "text", "[I", true)
  | 1 => ("BodyCorners$Script", "length", "I", false)
  | 2 => ("BodyCorners$Script", "at", "I", false)
  | 3 => ("BodyCorners$Script", "claimCount", "I", false)
  | 4 => ("BodyCorners$Script", "parts", "[I", true)
  | 5 => ("BodyCorners$Script", "clauses", "I", false)
  | 6 => ("BodyCorners$Script", "faultKind", "I", false)
  | _ => ("BodyCorners$Script", "faultAt", "I", false)
def tyX6 : Nat → FieldType := fun k => match k with
  | 0 => .array .int
  | 1 => .int
  | 2 => .int
  | 3 => .int
  | 4 => .array .int
  | 5 => .int
  | 6 => .int
  | _ => .int
theorem nmX6 : ∀ a, a < 8 → ∀ b, b < 8 → a ≠ b → (TX6 a).2.1 ≠ (TX6 b).2.1 := by decide +kernel
theorem tyX6_ok : ∀ k, k < 8 → parseFieldDescriptor (TX6 k).2.2.1 = some (tyX6 k) := by decide +kernel
abbrev cX6_init : ByteArray := prog_8_method_1_code
def yX6_init : MethodName := ⟨RX6, "<init>", "()V"⟩
abbrev cX6_append : ByteArray := prog_8_method_2_code
def yX6_append : MethodName := ⟨RX6, "append", "(IJ)Z"⟩
abbrev cX6_part : ByteArray := prog_8_method_3_code
def yX6_part : MethodName := ⟨RX6, "part", "(II)I"⟩
abbrev cX6_put : ByteArray := prog_8_method_4_code
def yX6_put : MethodName := ⟨RX6, "put", "(II)V"⟩
abbrev cX6_parse : ByteArray := prog_8_method_5_code
def yX6_parse : MethodName := ⟨RX6, "parse", "(I)V"⟩
abbrev cX6_parseClause : ByteArray := prog_8_method_6_code
def yX6_parseClause : MethodName := ⟨RX6, "parseClause", "()V"⟩
abbrev cX6_parseShape : ByteArray := prog_8_method_7_code
def yX6_parseShape : MethodName := ⟨RX6, "parseShape", "(I)V"⟩
abbrev cX6_parseClaim : ByteArray := prog_8_method_8_code
def yX6_parseClaim : MethodName := ⟨RX6, "parseClaim", "(I)V"⟩
abbrev cX6_fail : ByteArray := prog_8_method_9_code
def yX6_fail : MethodName := ⟨RX6, "fail", "(II)V"⟩
abbrev cX6_here : ByteArray := prog_8_method_10_code
def yX6_here : MethodName := ⟨RX6, "here", "()I"⟩
abbrev cX6_skipBlanks : ByteArray := prog_8_method_11_code
def yX6_skipBlanks : MethodName := ⟨RX6, "skipBlanks", "()V"⟩
abbrev cX6_passWord : ByteArray := prog_8_method_12_code
def yX6_passWord : MethodName := ⟨RX6, "passWord", "(Ljava/lang/String;)Z"⟩
abbrev cX6_needWord : ByteArray := prog_8_method_13_code
def yX6_needWord : MethodName := ⟨RX6, "needWord", "(Ljava/lang/String;)V"⟩
abbrev cX6_needSign : ByteArray := prog_8_method_14_code
def yX6_needSign : MethodName := ⟨RX6, "needSign", "(I)V"⟩
abbrev cX6_takeCompare : ByteArray := prog_8_method_15_code
def yX6_takeCompare : MethodName := ⟨RX6, "takeCompare", "()I"⟩
abbrev cX6_takeNumber : ByteArray := prog_8_method_16_code
def yX6_takeNumber : MethodName := ⟨RX6, "takeNumber", "(II)I"⟩
def RX7 : String := "BodyCorners$Section"
def TX7 : u_T := fun k => match k with
  | 0 => ("BodyCorners$Section", "from", "LBodyCorners$Solid;", false)
  | 1 => ("BodyCorners$Section", "levels", "[I", true)
  | 2 => ("BodyCorners$Section", "dropped", "I", false)
  | 3 => ("BodyCorners$Section", "scale", "J", false)
  | _ => ("BodyCorners$Section", "spot", "[J", true)
def tyX7 : Nat → FieldType := fun k => match k with
  | 0 => .object "BodyCorners$Solid"
  | 1 => .array .int
  | 2 => .int
  | 3 => .long
  | _ => .array .long
theorem nmX7 : ∀ a, a < 5 → ∀ b, b < 5 → a ≠ b → (TX7 a).2.1 ≠ (TX7 b).2.1 := by decide +kernel
theorem tyX7_ok : ∀ k, k < 5 → parseFieldDescriptor (TX7 k).2.2.1 = some (tyX7 k) := by decide +kernel
abbrev cX7_init : ByteArray := prog_9_method_1_code
def yX7_init : MethodName := ⟨RX7, "<init>", "()V"⟩
abbrev cX7_aimHalf : ByteArray := prog_9_method_2_code
def yX7_aimHalf : MethodName := ⟨RX7, "aimHalf", "(LBodyCorners$Solid;IIIII)V"⟩
abbrev cX7_aimLayer : ByteArray := prog_9_method_3_code
def yX7_aimLayer : MethodName := ⟨RX7, "aimLayer", "(LBodyCorners$Solid;II)V"⟩
abbrev cX7_isFlat : ByteArray := prog_9_method_4_code
def yX7_isFlat : MethodName := ⟨RX7, "isFlat", "()Z"⟩
abbrev cX7_isKept : ByteArray := prog_9_method_5_code
def yX7_isKept : MethodName := ⟨RX7, "isKept", "(I)Z"⟩
abbrev cX7_isCrossed : ByteArray := prog_9_method_6_code
def yX7_isCrossed : MethodName := ⟨RX7, "isCrossed", "(I)Z"⟩
abbrev cX7_pointCount : ByteArray := prog_9_method_7_code
def yX7_pointCount : MethodName := ⟨RX7, "pointCount", "()I"⟩
abbrev cX7_span : ByteArray := prog_9_method_8_code
def yX7_span : MethodName := ⟨RX7, "span", "(I)J"⟩
abbrev cX7_crossing : ByteArray := prog_9_method_9_code
def yX7_crossing : MethodName := ⟨RX7, "crossing", "(II)J"⟩
abbrev cX7_findScale : ByteArray := prog_9_method_10_code
def yX7_findScale : MethodName := ⟨RX7, "findScale", "()Z"⟩
abbrev cX7_divided : ByteArray := prog_9_method_11_code
def yX7_divided : MethodName := ⟨RX7, "divided", "(JJ)J"⟩
abbrev cX7_commonMeasure : ByteArray := prog_9_method_12_code
def yX7_commonMeasure : MethodName := ⟨RX7, "commonMeasure", "(JJ)J"⟩
abbrev cX7_tellTo : ByteArray := prog_9_method_13_code
def yX7_tellTo : MethodName := ⟨RX7, "tellTo", "(LBodyCorners$Hull;)Z"⟩
abbrev cX7_tellSpot : ByteArray := prog_9_method_14_code
def yX7_tellSpot : MethodName := ⟨RX7, "tellSpot", "(LBodyCorners$Hull;)Z"⟩
def RX8 : String := "BodyCorners$Solid"
def TX8 : u_T := fun k => match k with
  | 0 => ("BodyCorners$Solid", "dim", "I", true)
  | 1 => ("BodyCorners$Solid", "corners", "I", true)
  | 2 => ("BodyCorners$Solid", "scale", "I", true)
  | 3 => ("BodyCorners$Solid", "places", "[I", true)
  | 4 => ("BodyCorners$Solid", "cells", "[[I", true)
  | 5 => ("BodyCorners$Solid", "planes", "[J", true)
  | 6 => ("BodyCorners$Solid", "near", "[I", true)
  | 7 => ("BodyCorners$Solid", "turns", "I", false)
  | 8 => ("BodyCorners$Solid", "pieces", "[I", false)
  | _ => ("BodyCorners$Solid", "ring", "[I", false)
def tyX8 : Nat → FieldType := fun k => match k with
  | 0 => .int
  | 1 => .int
  | 2 => .int
  | 3 => .array .int
  | 4 => .array (.array .int)
  | 5 => .array .long
  | 6 => .array .int
  | 7 => .int
  | 8 => .array .int
  | _ => .array .int
theorem nmX8 : ∀ a, a < 10 → ∀ b, b < 10 → a ≠ b → (TX8 a).2.1 ≠ (TX8 b).2.1 := by decide +kernel
theorem tyX8_ok : ∀ k, k < 10 → parseFieldDescriptor (TX8 k).2.2.1 = some (tyX8 k) := by decide +kernel
abbrev cX8_init : ByteArray := prog_10_method_1_code
def yX8_init : MethodName := ⟨RX8, "<init>", "(II[I[[I[J)V"⟩
abbrev cX8_hasCorner : ByteArray := prog_10_method_2_code
def yX8_hasCorner : MethodName := ⟨RX8, "hasCorner", "(I)Z"⟩
abbrev cX8_everyCorner : ByteArray := prog_10_method_3_code
def yX8_everyCorner : MethodName := ⟨RX8, "everyCorner", "()I"⟩
abbrev cX8_at : ByteArray := prog_10_method_4_code
def yX8_at : MethodName := ⟨RX8, "at", "(II)I"⟩
abbrev cX8_cellCount : ByteArray := prog_10_method_5_code
def yX8_cellCount : MethodName := ⟨RX8, "cellCount", "(I)I"⟩
abbrev cX8_hasCell : ByteArray := prog_10_method_6_code
def yX8_hasCell : MethodName := ⟨RX8, "hasCell", "(II)Z"⟩
abbrev cX8_facetSets : ByteArray := prog_10_method_7_code
def yX8_facetSets : MethodName := ⟨RX8, "facetSets", "()[I"⟩
abbrev cX8_facetCount : ByteArray := prog_10_method_8_code
def yX8_facetCount : MethodName := ⟨RX8, "facetCount", "()I"⟩
abbrev cX8_isSimpleFaced : ByteArray := prog_10_method_9_code
def yX8_isSimpleFaced : MethodName := ⟨RX8, "isSimpleFaced", "()Z"⟩
abbrev cX8_isEachD : ByteArray := prog_10_method_10_code
def yX8_isEachD : MethodName := ⟨RX8, "isEachD", "()Z"⟩
abbrev cX8_countWithin : ByteArray := prog_10_method_11_code
def yX8_countWithin : MethodName := ⟨RX8, "countWithin", "(II)I"⟩
abbrev cX8_countAround : ByteArray := prog_10_method_12_code
def yX8_countAround : MethodName := ⟨RX8, "countAround", "(II)I"⟩
abbrev cX8_hCount : ByteArray := prog_10_method_13_code
def yX8_hCount : MethodName := ⟨RX8, "hCount", "(I)I"⟩
abbrev cX8_waysToTake : ByteArray := prog_10_method_14_code
def yX8_waysToTake : MethodName := ⟨RX8, "waysToTake", "(II)I"⟩
abbrev cX8_farthest : ByteArray := prog_10_method_15_code
def yX8_farthest : MethodName := ⟨RX8, "farthest", "()I"⟩
abbrev cX8_beyond : ByteArray := prog_10_method_16_code
def yX8_beyond : MethodName := ⟨RX8, "beyond", "(I[II)J"⟩
abbrev cX8_firstBeyond : ByteArray := prog_10_method_17_code
def yX8_firstBeyond : MethodName := ⟨RX8, "firstBeyond", "([II)I"⟩
abbrev cX8_cellAround : ByteArray := prog_10_method_18_code
def yX8_cellAround : MethodName := ⟨RX8, "cellAround", "([II)I"⟩
abbrev cX8_piecesOf : ByteArray := prog_10_method_19_code
def yX8_piecesOf : MethodName := ⟨RX8, "piecesOf", "()[I"⟩
abbrev cX8_cutCell : ByteArray := prog_10_method_20_code
def yX8_cutCell : MethodName := ⟨RX8, "cutCell", "(LBodyCorners$Solid;III[II)I"⟩
def RX9 : String := "BodyCorners$Walker"
def TX9 : u_T := fun k => match k with
  | 0 => ("BodyCorners$Walker", "tilts", "[I", true)
  | 1 => ("BodyCorners$Walker", "ways", "[J", true)
  | 2 => ("BodyCorners$Walker", "top", "I", false)
  | 3 => ("BodyCorners$Walker", "climbed", "I", false)
  | _ => ("BodyCorners$Walker", "finishing", "[I", false)
def tyX9 : Nat → FieldType := fun k => match k with
  | 0 => .array .int
  | 1 => .array .long
  | 2 => .int
  | 3 => .int
  | _ => .array .int
theorem nmX9 : ∀ a, a < 5 → ∀ b, b < 5 → a ≠ b → (TX9 a).2.1 ≠ (TX9 b).2.1 := by decide +kernel
theorem tyX9_ok : ∀ k, k < 5 → parseFieldDescriptor (TX9 k).2.2.1 = some (tyX9 k) := by decide +kernel
abbrev cX9_init : ByteArray := prog_11_method_1_code
def yX9_init : MethodName := ⟨RX9, "<init>", "()V"⟩
abbrev cX9_steps : ByteArray := prog_11_method_2_code
def yX9_steps : MethodName := ⟨RX9, "steps", "(LBodyCorners$Solid;II)I"⟩
abbrev cX9_lean : ByteArray := prog_11_method_3_code
def yX9_lean : MethodName := ⟨RX9, "lean", "(IIII)V"⟩
abbrev cX9_height : ByteArray := prog_11_method_4_code
def yX9_height : MethodName := ⟨RX9, "height", "(LBodyCorners$Solid;I)I"⟩
abbrev cX9_climb : ByteArray := prog_11_method_5_code
def yX9_climb : MethodName := ⟨RX9, "climb", "(LBodyCorners$Solid;I)V"⟩
abbrev cX9_highestBeside : ByteArray := prog_11_method_6_code
def yX9_highestBeside : MethodName := ⟨RX9, "highestBeside", "(LBodyCorners$Solid;I)I"⟩
abbrev cX9_countUp : ByteArray := prog_11_method_7_code
def yX9_countUp : MethodName := ⟨RX9, "countUp", "(LBodyCorners$Solid;II)J"⟩
abbrev cX9_lowestOf : ByteArray := prog_11_method_8_code
def yX9_lowestOf : MethodName := ⟨RX9, "lowestOf", "(LBodyCorners$Solid;I)I"⟩
abbrev cX9_ringOf : ByteArray := prog_11_method_9_code
def yX9_ringOf : MethodName := ⟨RX9, "ringOf", "(LBodyCorners$Solid;)[I"⟩
abbrev cX9_fillFinishing : ByteArray := prog_11_method_10_code
def yX9_fillFinishing : MethodName := ⟨RX9, "fillFinishing", "(LBodyCorners$Solid;)V"⟩
abbrev cX9_goodNext : ByteArray := prog_11_method_11_code
def yX9_goodNext : MethodName := ⟨RX9, "goodNext", "(LBodyCorners$Solid;II)I"⟩
def RX10 : String := "BodyCorners"
def TX10 : u_T := fun k => match k with
  | 0 => ("BodyCorners", "bodies", "[LBodyCorners$Solid;", true)
  | 1 => ("BodyCorners", "bodyCount", "I", false)
  | 2 => ("BodyCorners", "draft", "[I", true)
  | 3 => ("BodyCorners", "draftCount", "I", false)
  | 4 => ("BodyCorners", "hull", "LBodyCorners$Hull;", true)
  | 5 => ("BodyCorners", "section", "LBodyCorners$Section;", true)
  | 6 => ("BodyCorners", "matcher", "LBodyCorners$Matcher;", true)
  | 7 => ("BodyCorners", "plan", "LBodyCorners$Plan;", true)
  | 8 => ("BodyCorners", "facetRow", "LBodyCorners$FacetRow;", true)
  | 9 => ("BodyCorners", "walker", "LBodyCorners$Walker;", true)
  | 10 => ("BodyCorners", "lattice", "LBodyCorners$Lattice;", true)
  | 11 => ("BodyCorners", "script", "LBodyCorners$Script;", true)
  | _ => ("BodyCorners", "claims", "LBodyCorners$Claims;", true)
def tyX10 : Nat → FieldType := fun k => match k with
  | 0 => .array (.object "BodyCorners$Solid")
  | 1 => .int
  | 2 => .array .int
  | 3 => .int
  | 4 => .object "BodyCorners$Hull"
  | 5 => .object "BodyCorners$Section"
  | 6 => .object "BodyCorners$Matcher"
  | 7 => .object "BodyCorners$Plan"
  | 8 => .object "BodyCorners$FacetRow"
  | 9 => .object "BodyCorners$Walker"
  | 10 => .object "BodyCorners$Lattice"
  | 11 => .object "BodyCorners$Script"
  | _ => .object "BodyCorners$Claims"
theorem nmX10 : ∀ a, a < 13 → ∀ b, b < 13 → a ≠ b → (TX10 a).2.1 ≠ (TX10 b).2.1 := by decide +kernel
theorem tyX10_ok : ∀ k, k < 13 → parseFieldDescriptor (TX10 k).2.2.1 = some (tyX10 k) := by decide +kernel
abbrev cX10_init : ByteArray := prog_1_method_1_code
def yX10_init : MethodName := ⟨RX10, "<init>", "()V"⟩
abbrev cX10_point : ByteArray := prog_1_method_2_code
def yX10_point : MethodName := ⟨RX10, "point", "(IIII)I"⟩
abbrev cX10_wipe : ByteArray := prog_1_method_3_code
def yX10_wipe : MethodName := ⟨RX10, "wipe", "()I"⟩
abbrev cX10_body : ByteArray := prog_1_method_4_code
def yX10_body : MethodName := ⟨RX10, "body", "(I)I"⟩
abbrev cX10_cut : ByteArray := prog_1_method_5_code
def yX10_cut : MethodName := ⟨RX10, "cut", "(IIIIII)I"⟩
abbrev cX10_slice : ByteArray := prog_1_method_6_code
def yX10_slice : MethodName := ⟨RX10, "slice", "(III)I"⟩
abbrev cX10_shadow : ByteArray := prog_1_method_7_code
def yX10_shadow : MethodName := ⟨RX10, "shadow", "(II)I"⟩
abbrev cX10_raise : ByteArray := prog_1_method_8_code
def yX10_raise : MethodName := ⟨RX10, "raise", "(III)I"⟩
abbrev cX10_product : ByteArray := prog_1_method_9_code
def yX10_product : MethodName := ⟨RX10, "product", "(II)I"⟩
abbrev cX10_both : ByteArray := prog_1_method_10_code
def yX10_both : MethodName := ⟨RX10, "both", "(II)I"⟩
abbrev cX10_about : ByteArray := prog_1_method_11_code
def yX10_about : MethodName := ⟨RX10, "about", "(II)I"⟩
abbrev cX10_corner : ByteArray := prog_1_method_12_code
def yX10_corner : MethodName := ⟨RX10, "corner", "(III)I"⟩
abbrev cX10_count : ByteArray := prog_1_method_13_code
def yX10_count : MethodName := ⟨RX10, "count", "(I)I"⟩
abbrev cX10_faces : ByteArray := prog_1_method_14_code
def yX10_faces : MethodName := ⟨RX10, "faces", "(II)I"⟩
abbrev cX10_face : ByteArray := prog_1_method_15_code
def yX10_face : MethodName := ⟨RX10, "face", "(III)I"⟩
abbrev cX10_lies : ByteArray := prog_1_method_16_code
def yX10_lies : MethodName := ⟨RX10, "lies", "(IIII)I"⟩
abbrev cX10_h : ByteArray := prog_1_method_17_code
def yX10_h : MethodName := ⟨RX10, "h", "(II)I"⟩
abbrev cX10_sum : ByteArray := prog_1_method_18_code
def yX10_sum : MethodName := ⟨RX10, "sum", "(I)I"⟩
abbrev cX10_same : ByteArray := prog_1_method_19_code
def yX10_same : MethodName := ⟨RX10, "same", "(II)I"⟩
abbrev cX10_inside : ByteArray := prog_1_method_20_code
def yX10_inside : MethodName := ⟨RX10, "inside", "(II)I"⟩
abbrev cX10_pattern : ByteArray := prog_1_method_21_code
def yX10_pattern : MethodName := ⟨RX10, "pattern", "(I)I"⟩
abbrev cX10_set : ByteArray := prog_1_method_22_code
def yX10_set : MethodName := ⟨RX10, "set", "(I)I"⟩
abbrev cX10_place : ByteArray := prog_1_method_23_code
def yX10_place : MethodName := ⟨RX10, "place", "(I)I"⟩
abbrev cX10_row : ByteArray := prog_1_method_24_code
def yX10_row : MethodName := ⟨RX10, "row", "(I)I"⟩
abbrev cX10_clear : ByteArray := prog_1_method_25_code
def yX10_clear : MethodName := ⟨RX10, "clear", "()I"⟩
abbrev cX10_meets : ByteArray := prog_1_method_26_code
def yX10_meets : MethodName := ⟨RX10, "meets", "(I)I"⟩
abbrev cX10_fresh : ByteArray := prog_1_method_27_code
def yX10_fresh : MethodName := ⟨RX10, "fresh", "(II)I"⟩
abbrev cX10_walk : ByteArray := prog_1_method_28_code
def yX10_walk : MethodName := ⟨RX10, "walk", "(III)I"⟩
abbrev cX10_far : ByteArray := prog_1_method_29_code
def yX10_far : MethodName := ⟨RX10, "far", "(I)I"⟩
abbrev cX10_tilt : ByteArray := prog_1_method_30_code
def yX10_tilt : MethodName := ⟨RX10, "tilt", "(IIII)I"⟩
abbrev cX10_up : ByteArray := prog_1_method_31_code
def yX10_up : MethodName := ⟨RX10, "up", "(III)I"⟩
abbrev cX10_ups : ByteArray := prog_1_method_32_code
def yX10_ups : MethodName := ⟨RX10, "ups", "(III)J"⟩
abbrev cX10_ring : ByteArray := prog_1_method_33_code
def yX10_ring : MethodName := ⟨RX10, "ring", "(II)I"⟩
abbrev cX10_where : ByteArray := prog_1_method_34_code
def yX10_where : MethodName := ⟨RX10, "where", "(I)I"⟩
abbrev cX10_parted : ByteArray := prog_1_method_35_code
def yX10_parted : MethodName := ⟨RX10, "parted", "(I)I"⟩
abbrev cX10_holds : ByteArray := prog_1_method_36_code
def yX10_holds : MethodName := ⟨RX10, "holds", "(II)I"⟩
abbrev cX10_size : ByteArray := prog_1_method_37_code
def yX10_size : MethodName := ⟨RX10, "size", "(I)J"⟩
abbrev cX10_piece : ByteArray := prog_1_method_38_code
def yX10_piece : MethodName := ⟨RX10, "piece", "(III)J"⟩
abbrev cX10_whole : ByteArray := prog_1_method_39_code
def yX10_whole : MethodName := ⟨RX10, "whole", "(III)I"⟩
abbrev cX10_feed : ByteArray := prog_1_method_40_code
def yX10_feed : MethodName := ⟨RX10, "feed", "(IJ)I"⟩
abbrev cX10_read : ByteArray := prog_1_method_41_code
def yX10_read : MethodName := ⟨RX10, "read", "()I"⟩
abbrev cX10_fault : ByteArray := prog_1_method_42_code
def yX10_fault : MethodName := ⟨RX10, "fault", "()I"⟩
abbrev cX10_claim : ByteArray := prog_1_method_43_code
def yX10_claim : MethodName := ⟨RX10, "claim", "(I)I"⟩
abbrev cX10_within : ByteArray := prog_1_method_44_code
def yX10_within : MethodName := ⟨RX10, "within", "(II)Z"⟩
abbrev cX10_isDimension : ByteArray := prog_1_method_45_code
def yX10_isDimension : MethodName := ⟨RX10, "isDimension", "(I)Z"⟩
abbrev cX10_signOf : ByteArray := prog_1_method_46_code
def yX10_signOf : MethodName := ⟨RX10, "signOf", "(I)I"⟩
abbrev cX10_leastOf : ByteArray := prog_1_method_47_code
def yX10_leastOf : MethodName := ⟨RX10, "leastOf", "(I)I"⟩
abbrev cX10_bodyAt : ByteArray := prog_1_method_48_code
def yX10_bodyAt : MethodName := ⟨RX10, "bodyAt", "(I)LBodyCorners$Solid;"⟩
abbrev cX10_lastDraft : ByteArray := prog_1_method_49_code
def yX10_lastDraft : MethodName := ⟨RX10, "lastDraft", "()I"⟩
abbrev cX10_cornersOfAll : ByteArray := prog_1_method_50_code
def yX10_cornersOfAll : MethodName := ⟨RX10, "cornersOfAll", "()I"⟩
abbrev cX10_keep : ByteArray := prog_1_method_51_code
def yX10_keep : MethodName := ⟨RX10, "keep", "(LBodyCorners$Solid;)I"⟩
abbrev cX10_keepHull : ByteArray := prog_1_method_52_code
def yX10_keepHull : MethodName := ⟨RX10, "keepHull", "(I)I"⟩
abbrev cX10_keepSection : ByteArray := prog_1_method_53_code
def yX10_keepSection : MethodName := ⟨RX10, "keepSection", "()I"⟩
abbrev cX10_isCutting : ByteArray := prog_1_method_54_code
def yX10_isCutting : MethodName := ⟨RX10, "isCutting", "(IIIII)Z"⟩
abbrev cX10_turnsOf : ByteArray := prog_1_method_55_code
def yX10_turnsOf : MethodName := ⟨RX10, "turnsOf", "(LBodyCorners$Solid;)I"⟩
abbrev cX10_doClause : ByteArray := prog_1_method_56_code
def yX10_doClause : MethodName := ⟨RX10, "doClause", "(I)Z"⟩
def RX11 : String := "BodyCornersModel"
def TX11 : u_T := fun k => match k with
  | 0 => ("BodyCornersModel", "bodies", "I", false)
  | 1 => ("BodyCornersModel", "dims", "[I", true)
  | 2 => ("BodyCornersModel", "corners", "[I", true)
  | 3 => ("BodyCornersModel", "scales", "[I", true)
  | 4 => ("BodyCornersModel", "xs", "[I", true)
  | 5 => ("BodyCornersModel", "faceMany", "[I", true)
  | 6 => ("BodyCornersModel", "faces", "[I", true)
  | 7 => ("BodyCornersModel", "planes", "[J", true)
  | 8 => ("BodyCornersModel", "d", "I", false)
  | 9 => ("BodyCornersModel", "points", "I", false)
  | 10 => ("BodyCornersModel", "at", "[I", true)
  | 11 => ("BodyCornersModel", "found", "I", false)
  | 12 => ("BodyCornersModel", "foundSet", "[I", true)
  | 13 => ("BodyCornersModel", "foundPlane", "[J", true)
  | 14 => ("BodyCornersModel", "normal", "[J", true)
  | 15 => ("BodyCornersModel", "pick", "[I", true)
  | 16 => ("BodyCornersModel", "place", "[I", true)
  | 17 => ("BodyCornersModel", "todo", "[I", true)
  | 18 => ("BodyCornersModel", "drafted", "I", false)
  | 19 => ("BodyCornersModel", "draft", "[I", true)
  | 20 => ("BodyCornersModel", "uppers", "[J", true)
  | 21 => ("BodyCornersModel", "lowers", "[J", true)
  | 22 => ("BodyCornersModel", "parts", "I", false)
  | 23 => ("BodyCornersModel", "row", "[I", true)
  | 24 => ("BodyCornersModel", "sides", "[J", true)
  | 25 => ("BodyCornersModel", "sides0", "I", false)
  | 26 => ("BodyCornersModel", "one", "[I", true)
  | 27 => ("BodyCornersModel", "two", "[I", true)
  | 28 => ("BodyCornersModel", "setMany", "I", false)
  | 29 => ("BodyCornersModel", "threeOne", "[I", true)
  | 30 => ("BodyCornersModel", "threeTwo", "[I", true)
  | 31 => ("BodyCornersModel", "named", "[I", true)
  | 32 => ("BodyCornersModel", "patternMany", "I", false)
  | 33 => ("BodyCornersModel", "sets", "I", false)
  | 34 => ("BodyCornersModel", "pattern", "[I", true)
  | 35 => ("BodyCornersModel", "rowMany", "I", false)
  | 36 => ("BodyCornersModel", "rowOf", "[I", true)
  | 37 => ("BodyCornersModel", "beside", "[I", true)
  | 38 => ("BodyCornersModel", "tilt", "[I", true)
  | 39 => ("BodyCornersModel", "ways", "[J", true)
  | 40 => ("BodyCornersModel", "ringRow", "[I", true)
  | 41 => ("BodyCornersModel", "pieceMany", "I", false)
  | 42 => ("BodyCornersModel", "pieces", "[I", true)
  | 43 => ("BodyCornersModel", "waits", "I", false)
  | 44 => ("BodyCornersModel", "waitSet", "[I", true)
  | 45 => ("BodyCornersModel", "waitKind", "[I", true)
  | 46 => ("BodyCornersModel", "waitWith", "[I", true)
  | 47 => ("BodyCornersModel", "cells", "[J", true)
  | 48 => ("BodyCornersModel", "low", "[I", true)
  | 49 => ("BodyCornersModel", "wide", "[I", true)
  | 50 => ("BodyCornersModel", "text", "[I", true)
  | 51 => ("BodyCornersModel", "texted", "I", false)
  | 52 => ("BodyCornersModel", "faultPlace", "I", false)
  | 53 => ("BodyCornersModel", "at0", "I", false)
  | 54 => ("BodyCornersModel", "claims", "I", false)
  | 55 => ("BodyCornersModel", "claimOf", "[I", true)
  | 56 => ("BodyCornersModel", "clauses", "I", false)
  | 57 => ("BodyCornersModel", "clause", "[I", true)
  | 58 => ("BodyCornersModel", "freshClaims", "I", false)
  | 59 => ("BodyCornersModel", "freshClaim", "[I", true)
  | 60 => ("BodyCornersModel", "word", "J", false)
  | 61 => ("BodyCornersModel", "wordEnd", "I", false)
  | _ => ("BodyCornersModel", "number", "I", false)
def tyX11 : Nat → FieldType := fun k => match k with
  | 0 => .int
  | 1 => .array .int
  | 2 => .array .int
  | 3 => .array .int
  | 4 => .array .int
  | 5 => .array .int
  | 6 => .array .int
  | 7 => .array .long
  | 8 => .int
  | 9 => .int
  | 10 => .array .int
  | 11 => .int
  | 12 => .array .int
  | 13 => .array .long
  | 14 => .array .long
  | 15 => .array .int
  | 16 => .array .int
  | 17 => .array .int
  | 18 => .int
  | 19 => .array .int
  | 20 => .array .long
  | 21 => .array .long
  | 22 => .int
  | 23 => .array .int
  | 24 => .array .long
  | 25 => .int
  | 26 => .array .int
  | 27 => .array .int
  | 28 => .int
  | 29 => .array .int
  | 30 => .array .int
  | 31 => .array .int
  | 32 => .int
  | 33 => .int
  | 34 => .array .int
  | 35 => .int
  | 36 => .array .int
  | 37 => .array .int
  | 38 => .array .int
  | 39 => .array .long
  | 40 => .array .int
  | 41 => .int
  | 42 => .array .int
  | 43 => .int
  | 44 => .array .int
  | 45 => .array .int
  | 46 => .array .int
  | 47 => .array .long
  | 48 => .array .int
  | 49 => .array .int
  | 50 => .array .int
  | 51 => .int
  | 52 => .int
  | 53 => .int
  | 54 => .int
  | 55 => .array .int
  | 56 => .int
  | 57 => .array .int
  | 58 => .int
  | 59 => .array .int
  | 60 => .long
  | 61 => .int
  | _ => .int
theorem nmX11 : ∀ a, a < 63 → ∀ b, b < 63 → a ≠ b → (TX11 a).2.1 ≠ (TX11 b).2.1 := by decide +kernel
theorem tyX11_ok : ∀ k, k < 63 → parseFieldDescriptor (TX11 k).2.2.1 = some (tyX11 k) := by decide +kernel
abbrev cX11_init : ByteArray := prog_13_method_1_code
def yX11_init : MethodName := ⟨RX11, "<init>", "()V"⟩
abbrev cX11_in : ByteArray := prog_13_method_3_code
def yX11_in : MethodName := ⟨RX11, "in", "(JJJ)Z"⟩
abbrev cX11_sized : ByteArray := prog_13_method_4_code
def yX11_sized : MethodName := ⟨RX11, "sized", "(J)J"⟩
abbrev cX11_gcd : ByteArray := prog_13_method_5_code
def yX11_gcd : MethodName := ⟨RX11, "gcd", "(JJ)J"⟩
abbrev cX11_bits : ByteArray := prog_13_method_6_code
def yX11_bits : MethodName := ⟨RX11, "bits", "(I)I"⟩
abbrev cX11_isBody : ByteArray := prog_13_method_7_code
def yX11_isBody : MethodName := ⟨RX11, "isBody", "(I)Z"⟩
abbrev cX11_x : ByteArray := prog_13_method_8_code
def yX11_x : MethodName := ⟨RX11, "x", "(III)I"⟩
abbrev cX11_many : ByteArray := prog_13_method_9_code
def yX11_many : MethodName := ⟨RX11, "many", "(II)I"⟩
abbrev cX11_setOf : ByteArray := prog_13_method_10_code
def yX11_setOf : MethodName := ⟨RX11, "setOf", "(III)I"⟩
abbrev cX11_facets : ByteArray := prog_13_method_11_code
def yX11_facets : MethodName := ⟨RX11, "facets", "(I)I"⟩
abbrev cX11_facet : ByteArray := prog_13_method_12_code
def yX11_facet : MethodName := ⟨RX11, "facet", "(II)I"⟩
abbrev cX11_begin : ByteArray := prog_13_method_13_code
def yX11_begin : MethodName := ⟨RX11, "begin", "(I)V"⟩
abbrev cX11_isThere : ByteArray := prog_13_method_14_code
def yX11_isThere : MethodName := ⟨RX11, "isThere", "(IIII)Z"⟩
abbrev cX11_put : ByteArray := prog_13_method_15_code
def yX11_put : MethodName := ⟨RX11, "put", "(IIII)V"⟩
abbrev cX11_apart : ByteArray := prog_13_method_16_code
def yX11_apart : MethodName := ⟨RX11, "apart", "(III)J"⟩
abbrev cX11_corner2 : ByteArray := prog_13_method_17_code
def yX11_corner2 : MethodName := ⟨RX11, "corner2", "(IIIII)J"⟩
abbrev cX11_corner3 : ByteArray := prog_13_method_18_code
def yX11_corner3 : MethodName := ⟨RX11, "corner3", "(IIIIIII)J"⟩
abbrev cX11_findNormal : ByteArray := prog_13_method_19_code
def yX11_findNormal : MethodName := ⟨RX11, "findNormal", "()V"⟩
abbrev cX11_beyond : ByteArray := prog_13_method_20_code
def yX11_beyond : MethodName := ⟨RX11, "beyond", "(I)J"⟩
abbrev cX11_keepPlane : ByteArray := prog_13_method_21_code
def yX11_keepPlane : MethodName := ⟨RX11, "keepPlane", "()V"⟩
abbrev cX11_findPlanes : ByteArray := prog_13_method_22_code
def yX11_findPlanes : MethodName := ⟨RX11, "findPlanes", "()Z"⟩
abbrev cX11_isCorner : ByteArray := prog_13_method_23_code
def yX11_isCorner : MethodName := ⟨RX11, "isCorner", "(I)Z"⟩
abbrev cX11_make : ByteArray := prog_13_method_24_code
def yX11_make : MethodName := ⟨RX11, "make", "(I)I"⟩
abbrev cX11_putFacet : ByteArray := prog_13_method_25_code
def yX11_putFacet : MethodName := ⟨RX11, "putFacet", "(III)V"⟩
abbrev cX11_putFace : ByteArray := prog_13_method_26_code
def yX11_putFace : MethodName := ⟨RX11, "putFace", "(II)Z"⟩
abbrev cX11_findFaces : ByteArray := prog_13_method_27_code
def yX11_findFaces : MethodName := ⟨RX11, "findFaces", "(I)V"⟩
abbrev cX11_point : ByteArray := prog_13_method_28_code
def yX11_point : MethodName := ⟨RX11, "point", "(IIII)I"⟩
abbrev cX11_wipe : ByteArray := prog_13_method_29_code
def yX11_wipe : MethodName := ⟨RX11, "wipe", "()I"⟩
abbrev cX11_body : ByteArray := prog_13_method_30_code
def yX11_body : MethodName := ⟨RX11, "body", "(I)I"⟩
abbrev cX11_putPart : ByteArray := prog_13_method_31_code
def yX11_putPart : MethodName := ⟨RX11, "putPart", "(II)V"⟩
abbrev cX11_putBetween : ByteArray := prog_13_method_32_code
def yX11_putBetween : MethodName := ⟨RX11, "putBetween", "(IIIJJ)V"⟩
abbrev cX11_makeWhole : ByteArray := prog_13_method_33_code
def yX11_makeWhole : MethodName := ⟨RX11, "makeWhole", "(I)I"⟩
abbrev cX11_tilted : ByteArray := prog_13_method_34_code
def yX11_tilted : MethodName := ⟨RX11, "tilted", "(IIIIII)J"⟩
abbrev cX11_putEdges : ByteArray := prog_13_method_35_code
def yX11_putEdges : MethodName := ⟨RX11, "putEdges", "(I)V"⟩
abbrev cX11_cut : ByteArray := prog_13_method_36_code
def yX11_cut : MethodName := ⟨RX11, "cut", "(IIIIII)I"⟩
abbrev cX11_slice : ByteArray := prog_13_method_37_code
def yX11_slice : MethodName := ⟨RX11, "slice", "(III)I"⟩
abbrev cX11_makeOne : ByteArray := prog_13_method_38_code
def yX11_makeOne : MethodName := ⟨RX11, "makeOne", "()I"⟩
abbrev cX11_shadow : ByteArray := prog_13_method_39_code
def yX11_shadow : MethodName := ⟨RX11, "shadow", "(II)I"⟩
abbrev cX11_putRaised : ByteArray := prog_13_method_40_code
def yX11_putRaised : MethodName := ⟨RX11, "putRaised", "(IIII)V"⟩
abbrev cX11_raise : ByteArray := prog_13_method_41_code
def yX11_raise : MethodName := ⟨RX11, "raise", "(III)I"⟩
abbrev cX11_product : ByteArray := prog_13_method_42_code
def yX11_product : MethodName := ⟨RX11, "product", "(II)I"⟩
abbrev cX11_both : ByteArray := prog_13_method_43_code
def yX11_both : MethodName := ⟨RX11, "both", "(II)I"⟩
abbrev cX11_isSimpleFaced : ByteArray := prog_13_method_44_code
def yX11_isSimpleFaced : MethodName := ⟨RX11, "isSimpleFaced", "(I)Z"⟩
abbrev cX11_facetsOf : ByteArray := prog_13_method_45_code
def yX11_facetsOf : MethodName := ⟨RX11, "facetsOf", "(II)I"⟩
abbrev cX11_isEach : ByteArray := prog_13_method_46_code
def yX11_isEach : MethodName := ⟨RX11, "isEach", "(I)Z"⟩
abbrev cX11_about : ByteArray := prog_13_method_47_code
def yX11_about : MethodName := ⟨RX11, "about", "(II)I"⟩
abbrev cX11_isCornerOf : ByteArray := prog_13_method_48_code
def yX11_isCornerOf : MethodName := ⟨RX11, "isCornerOf", "(II)Z"⟩
abbrev cX11_corner : ByteArray := prog_13_method_49_code
def yX11_corner : MethodName := ⟨RX11, "corner", "(III)I"⟩
abbrev cX11_count : ByteArray := prog_13_method_50_code
def yX11_count : MethodName := ⟨RX11, "count", "(I)I"⟩
abbrev cX11_faces : ByteArray := prog_13_method_51_code
def yX11_faces : MethodName := ⟨RX11, "faces", "(II)I"⟩
abbrev cX11_face : ByteArray := prog_13_method_52_code
def yX11_face : MethodName := ⟨RX11, "face", "(III)I"⟩
abbrev cX11_lies : ByteArray := prog_13_method_53_code
def yX11_lies : MethodName := ⟨RX11, "lies", "(IIII)I"⟩
abbrev cX11_choose : ByteArray := prog_13_method_54_code
def yX11_choose : MethodName := ⟨RX11, "choose", "(II)I"⟩
abbrev cX11_h : ByteArray := prog_13_method_55_code
def yX11_h : MethodName := ⟨RX11, "h", "(II)I"⟩
abbrev cX11_sum : ByteArray := prog_13_method_56_code
def yX11_sum : MethodName := ⟨RX11, "sum", "(I)I"⟩
abbrev cX11_countThrees : ByteArray := prog_13_method_57_code
def yX11_countThrees : MethodName := ⟨RX11, "countThrees", "()V"⟩
abbrev cX11_goes : ByteArray := prog_13_method_58_code
def yX11_goes : MethodName := ⟨RX11, "goes", "(I)Z"⟩
abbrev cX11_isRenamed : ByteArray := prog_13_method_59_code
def yX11_isRenamed : MethodName := ⟨RX11, "isRenamed", "()Z"⟩
abbrev cX11_renamings : ByteArray := prog_13_method_60_code
def yX11_renamings : MethodName := ⟨RX11, "renamings", "(I)I"⟩
abbrev cX11_takeOne : ByteArray := prog_13_method_61_code
def yX11_takeOne : MethodName := ⟨RX11, "takeOne", "(I)V"⟩
abbrev cX11_takeTwo : ByteArray := prog_13_method_62_code
def yX11_takeTwo : MethodName := ⟨RX11, "takeTwo", "(I)V"⟩
abbrev cX11_turnsOf : ByteArray := prog_13_method_63_code
def yX11_turnsOf : MethodName := ⟨RX11, "turnsOf", "(I)I"⟩
abbrev cX11_same : ByteArray := prog_13_method_64_code
def yX11_same : MethodName := ⟨RX11, "same", "(II)I"⟩
abbrev cX11_inside : ByteArray := prog_13_method_65_code
def yX11_inside : MethodName := ⟨RX11, "inside", "(II)I"⟩
abbrev cX11_pattern : ByteArray := prog_13_method_66_code
def yX11_pattern : MethodName := ⟨RX11, "pattern", "(I)I"⟩
abbrev cX11_set : ByteArray := prog_13_method_67_code
def yX11_set : MethodName := ⟨RX11, "set", "(I)I"⟩
abbrev cX11_inSome : ByteArray := prog_13_method_68_code
def yX11_inSome : MethodName := ⟨RX11, "inSome", "(I)Z"⟩
abbrev cX11_inMany : ByteArray := prog_13_method_69_code
def yX11_inMany : MethodName := ⟨RX11, "inMany", "(I)I"⟩
abbrev cX11_hasTwo : ByteArray := prog_13_method_70_code
def yX11_hasTwo : MethodName := ⟨RX11, "hasTwo", "()Z"⟩
abbrev cX11_isJoined : ByteArray := prog_13_method_71_code
def yX11_isJoined : MethodName := ⟨RX11, "isJoined", "(I)Z"⟩
abbrev cX11_patternSum : ByteArray := prog_13_method_72_code
def yX11_patternSum : MethodName := ⟨RX11, "patternSum", "(I)I"⟩
abbrev cX11_place : ByteArray := prog_13_method_73_code
def yX11_place : MethodName := ⟨RX11, "place", "(I)I"⟩
abbrev cX11_row : ByteArray := prog_13_method_74_code
def yX11_row : MethodName := ⟨RX11, "row", "(I)I"⟩
abbrev cX11_clear : ByteArray := prog_13_method_75_code
def yX11_clear : MethodName := ⟨RX11, "clear", "()I"⟩
abbrev cX11_hasRow : ByteArray := prog_13_method_76_code
def yX11_hasRow : MethodName := ⟨RX11, "hasRow", "(I)Z"⟩
abbrev cX11_meetsAt : ByteArray := prog_13_method_77_code
def yX11_meetsAt : MethodName := ⟨RX11, "meetsAt", "(II)Z"⟩
abbrev cX11_meets : ByteArray := prog_13_method_78_code
def yX11_meets : MethodName := ⟨RX11, "meets", "(I)I"⟩
abbrev cX11_freshAt : ByteArray := prog_13_method_79_code
def yX11_freshAt : MethodName := ⟨RX11, "freshAt", "(II)I"⟩
abbrev cX11_fresh : ByteArray := prog_13_method_80_code
def yX11_fresh : MethodName := ⟨RX11, "fresh", "(II)I"⟩
abbrev cX11_areBeside : ByteArray := prog_13_method_81_code
def yX11_areBeside : MethodName := ⟨RX11, "areBeside", "(III)Z"⟩
abbrev cX11_findBeside : ByteArray := prog_13_method_82_code
def yX11_findBeside : MethodName := ⟨RX11, "findBeside", "(I)V"⟩
abbrev cX11_steps : ByteArray := prog_13_method_83_code
def yX11_steps : MethodName := ⟨RX11, "steps", "(III)I"⟩
abbrev cX11_walk : ByteArray := prog_13_method_84_code
def yX11_walk : MethodName := ⟨RX11, "walk", "(III)I"⟩
abbrev cX11_far : ByteArray := prog_13_method_85_code
def yX11_far : MethodName := ⟨RX11, "far", "(I)I"⟩
abbrev cX11_tilt : ByteArray := prog_13_method_86_code
def yX11_tilt : MethodName := ⟨RX11, "tilt", "(IIII)I"⟩
abbrev cX11_height : ByteArray := prog_13_method_87_code
def yX11_height : MethodName := ⟨RX11, "height", "(II)I"⟩
abbrev cX11_up : ByteArray := prog_13_method_88_code
def yX11_up : MethodName := ⟨RX11, "up", "(III)I"⟩
abbrev cX11_ups : ByteArray := prog_13_method_89_code
def yX11_ups : MethodName := ⟨RX11, "ups", "(III)J"⟩
abbrev cX11_findRing : ByteArray := prog_13_method_90_code
def yX11_findRing : MethodName := ⟨RX11, "findRing", "(I)Z"⟩
abbrev cX11_ring : ByteArray := prog_13_method_91_code
def yX11_ring : MethodName := ⟨RX11, "ring", "(II)I"⟩
abbrev cX11_over : ByteArray := prog_13_method_92_code
def yX11_over : MethodName := ⟨RX11, "over", "(IIIIIII)J"⟩
abbrev cX11_whereIs : ByteArray := prog_13_method_93_code
def yX11_whereIs : MethodName := ⟨RX11, "whereIs", "(IIIII)I"⟩
abbrev cX11_where : ByteArray := prog_13_method_94_code
def yX11_where : MethodName := ⟨RX11, "where", "(I)I"⟩
abbrev cX11_parted : ByteArray := prog_13_method_95_code
def yX11_parted : MethodName := ⟨RX11, "parted", "(I)I"⟩
abbrev cX11_holds : ByteArray := prog_13_method_96_code
def yX11_holds : MethodName := ⟨RX11, "holds", "(II)I"⟩
abbrev cX11_wait : ByteArray := prog_13_method_97_code
def yX11_wait : MethodName := ⟨RX11, "wait", "(III)V"⟩
abbrev cX11_findPieces : ByteArray := prog_13_method_98_code
def yX11_findPieces : MethodName := ⟨RX11, "findPieces", "(I)I"⟩
abbrev cX11_square : ByteArray := prog_13_method_99_code
def yX11_square : MethodName := ⟨RX11, "square", "(IIII)J"⟩
abbrev cX11_cube : ByteArray := prog_13_method_100_code
def yX11_cube : MethodName := ⟨RX11, "cube", "(IIIIII)J"⟩
abbrev cX11_sizeOf : ByteArray := prog_13_method_101_code
def yX11_sizeOf : MethodName := ⟨RX11, "sizeOf", "(II)J"⟩
abbrev cX11_size : ByteArray := prog_13_method_102_code
def yX11_size : MethodName := ⟨RX11, "size", "(I)J"⟩
abbrev cX11_piece : ByteArray := prog_13_method_103_code
def yX11_piece : MethodName := ⟨RX11, "piece", "(III)J"⟩
abbrev cX11_whole : ByteArray := prog_13_method_104_code
def yX11_whole : MethodName := ⟨RX11, "whole", "(III)I"⟩
abbrev cX11_feed : ByteArray := prog_13_method_105_code
def yX11_feed : MethodName := ⟨RX11, "feed", "(IJ)I"⟩
abbrev cX11_here : ByteArray := prog_13_method_106_code
def yX11_here : MethodName := ⟨RX11, "here", "()I"⟩
abbrev cX11_fails : ByteArray := prog_13_method_107_code
def yX11_fails : MethodName := ⟨RX11, "fails", "(II)I"⟩
abbrev cX11_readWord : ByteArray := prog_13_method_108_code
def yX11_readWord : MethodName := ⟨RX11, "readWord", "()V"⟩
abbrev cX11_code : ByteArray := prog_13_method_109_code
def yX11_code : MethodName := ⟨RX11, "code", "(IIIIII)J"⟩
abbrev cX11_keyOf : ByteArray := prog_13_method_110_code
def yX11_keyOf : MethodName := ⟨RX11, "keyOf", "()I"⟩
abbrev cX11_readNumber : ByteArray := prog_13_method_111_code
def yX11_readNumber : MethodName := ⟨RX11, "readNumber", "(II)I"⟩
abbrev cX11_needs : ByteArray := prog_13_method_112_code
def yX11_needs : MethodName := ⟨RX11, "needs", "(J)I"⟩
abbrev cX11_roundMost : ByteArray := prog_13_method_113_code
def yX11_roundMost : MethodName := ⟨RX11, "roundMost", "(I)I"⟩
abbrev cX11_readClaim : ByteArray := prog_13_method_114_code
def yX11_readClaim : MethodName := ⟨RX11, "readClaim", "(I)I"⟩
abbrev cX11_readClause : ByteArray := prog_13_method_115_code
def yX11_readClause : MethodName := ⟨RX11, "readClause", "()I"⟩
abbrev cX11_bit : ByteArray := prog_13_method_116_code
def yX11_bit : MethodName := ⟨RX11, "bit", "(II)I"⟩
abbrev cX11_makes : ByteArray := prog_13_method_117_code
def yX11_makes : MethodName := ⟨RX11, "makes", "(III)Z"⟩
abbrev cX11_read : ByteArray := prog_13_method_118_code
def yX11_read : MethodName := ⟨RX11, "read", "()I"⟩
abbrev cX11_fault : ByteArray := prog_13_method_119_code
def yX11_fault : MethodName := ⟨RX11, "fault", "()I"⟩
abbrev cX11_isHeld : ByteArray := prog_13_method_120_code
def yX11_isHeld : MethodName := ⟨RX11, "isHeld", "(II)Z"⟩
abbrev cX11_claim : ByteArray := prog_13_method_121_code
def yX11_claim : MethodName := ⟨RX11, "claim", "(I)I"⟩
def RJ6 : String := "java/lang/Integer"
def TJ6 : u_T := fun k => match k with
  | _ => ("", "", "", false)
def tyJ6 : Nat → FieldType := fun k => match k with
  | _ => .int
theorem nmJ6 : ∀ a, a < 0 → ∀ b, b < 0 → a ≠ b → (TJ6 a).2.1 ≠ (TJ6 b).2.1 := by decide +kernel
theorem tyJ6_ok : ∀ k, k < 0 → parseFieldDescriptor (TJ6 k).2.2.1 = some (tyJ6 k) := by decide +kernel
abbrev cJ6_bitCount_0f7a4 : ByteArray := prog_15_method_49_code
def yJ6_bitCount_0f7a4 : MethodName := ⟨RJ6, "bitCount", "(I)I"⟩
def RJ9 : String := "java/lang/Math"
def TJ9 : u_T := fun k => match k with
  | _ => ("", "", "", false)
def tyJ9 : Nat → FieldType := fun k => match k with
  | _ => .int
theorem nmJ9 : ∀ a, a < 0 → ∀ b, b < 0 → a ≠ b → (TJ9 a).2.1 ≠ (TJ9 b).2.1 := by decide +kernel
theorem tyJ9_ok : ∀ k, k < 0 → parseFieldDescriptor (TJ9 k).2.2.1 = some (tyJ9 k) := by decide +kernel
abbrev cJ9_floorDiv_f86c9 : ByteArray := prog_16_method_49_code
def yJ9_floorDiv_f86c9 : MethodName := ⟨RJ9, "floorDiv", "(JJ)J"⟩
abbrev cJ9_abs_0f7a4 : ByteArray := prog_16_method_59_code
def yJ9_abs_0f7a4 : MethodName := ⟨RJ9, "abs", "(I)I"⟩
abbrev cJ9_abs_067f4 : ByteArray := prog_16_method_61_code
def yJ9_abs_067f4 : MethodName := ⟨RJ9, "abs", "(J)J"⟩
abbrev cJ9_max_7cf53 : ByteArray := prog_16_method_65_code
def yJ9_max_7cf53 : MethodName := ⟨RJ9, "max", "(II)I"⟩
abbrev cJ9_max_f86c9 : ByteArray := prog_16_method_66_code
def yJ9_max_f86c9 : MethodName := ⟨RJ9, "max", "(JJ)J"⟩
abbrev cJ9_min_7cf53 : ByteArray := prog_16_method_69_code
def yJ9_min_7cf53 : MethodName := ⟨RJ9, "min", "(II)I"⟩
abbrev cJ9_min_f86c9 : ByteArray := prog_16_method_70_code
def yJ9_min_f86c9 : MethodName := ⟨RJ9, "min", "(JJ)J"⟩
def RJ0 : String := "java/lang/String"
def TJ0 : u_T := fun k => match k with
  | _ => ("", "", "", false)
def tyJ0 : Nat → FieldType := fun k => match k with
  | _ => .int
theorem nmJ0 : ∀ a, a < 0 → ∀ b, b < 0 → a ≠ b → (TJ0 a).2.1 ≠ (TJ0 b).2.1 := by decide +kernel
theorem tyJ0_ok : ∀ k, k < 0 → parseFieldDescriptor (TJ0 k).2.2.1 = some (tyJ0 k) := by decide +kernel
abbrev cJ0_length_8abf5 : ByteArray := prog_17_method_54_code
def yJ0_length_8abf5 : MethodName := ⟨RJ0, "length", "()I"⟩
abbrev cJ0_charAt_5068e : ByteArray := prog_17_method_56_code
def yJ0_charAt_5068e : MethodName := ⟨RJ0, "charAt", "(I)C"⟩
abbrev cJ0_coder_7d493 : ByteArray := prog_17_method_152_code
def yJ0_coder_7d493 : MethodName := ⟨RJ0, "coder", "()B"⟩
abbrev cJ0_isLatin1_aae02 : ByteArray := prog_17_method_154_code
def yJ0_isLatin1_aae02 : MethodName := ⟨RJ0, "isLatin1", "()Z"⟩
abbrev cJ0_checkIndex_df160 : ByteArray := prog_17_method_155_code
def yJ0_checkIndex_df160 : MethodName := ⟨RJ0, "checkIndex", "(II)V"⟩
def RJ1 : String := "java/lang/StringLatin1"
def TJ1 : u_T := fun k => match k with
  | _ => ("", "", "", false)
def tyJ1 : Nat → FieldType := fun k => match k with
  | _ => .int
theorem nmJ1 : ∀ a, a < 0 → ∀ b, b < 0 → a ≠ b → (TJ1 a).2.1 ≠ (TJ1 b).2.1 := by decide +kernel
theorem tyJ1_ok : ∀ k, k < 0 → parseFieldDescriptor (TJ1 k).2.2.1 = some (tyJ1 k) := by decide +kernel
abbrev cJ1_charAt_3b067 : ByteArray := prog_18_method_2_code
def yJ1_charAt_3b067 : MethodName := ⟨RJ1, "charAt", "([BI)C"⟩
def RJ2 : String := "java/lang/StringUTF16"
def TJ2 : u_T := fun k => match k with
  | _ => ("", "", "", false)
def tyJ2 : Nat → FieldType := fun k => match k with
  | _ => .int
theorem nmJ2 : ∀ a, a < 0 → ∀ b, b < 0 → a ≠ b → (TJ2 a).2.1 ≠ (TJ2 b).2.1 := by decide +kernel
theorem tyJ2_ok : ∀ k, k < 0 → parseFieldDescriptor (TJ2 k).2.2.1 = some (tyJ2 k) := by decide +kernel
abbrev cJ2_getChar_3b067 : ByteArray := prog_19_method_5_code
def yJ2_getChar_3b067 : MethodName := ⟨RJ2, "getChar", "([BI)C"⟩
abbrev cJ2_length_9d52b : ByteArray := prog_19_method_6_code
def yJ2_length_9d52b : MethodName := ⟨RJ2, "length", "([B)I"⟩
abbrev cJ2_charAt_3b067 : ByteArray := prog_19_method_83_code
def yJ2_charAt_3b067 : MethodName := ⟨RJ2, "charAt", "([BI)C"⟩
abbrev cJ2_checkIndex_2214a : ByteArray := prog_19_method_91_code
def yJ2_checkIndex_2214a : MethodName := ⟨RJ2, "checkIndex", "(I[B)V"⟩
def RJ10 : String := "java/lang/System"
def TJ10 : u_T := fun k => match k with
  | _ => ("", "", "", false)
def tyJ10 : Nat → FieldType := fun k => match k with
  | _ => .int
theorem nmJ10 : ∀ a, a < 0 → ∀ b, b < 0 → a ≠ b → (TJ10 a).2.1 ≠ (TJ10 b).2.1 := by decide +kernel
theorem tyJ10_ok : ∀ k, k < 0 → parseFieldDescriptor (TJ10 k).2.2.1 = some (tyJ10 k) := by decide +kernel
def RJ7 : String := "java/util/Arrays"
def TJ7 : u_T := fun k => match k with
  | _ => ("", "", "", false)
def tyJ7 : Nat → FieldType := fun k => match k with
  | _ => .int
theorem nmJ7 : ∀ a, a < 0 → ∀ b, b < 0 → a ≠ b → (TJ7 a).2.1 ≠ (TJ7 b).2.1 := by decide +kernel
theorem tyJ7_ok : ∀ k, k < 0 → parseFieldDescriptor (TJ7 k).2.2.1 = some (tyJ7 k) := by decide +kernel
abbrev cJ7_fill_d0a16 : ByteArray := prog_21_method_101_code
def yJ7_fill_d0a16 : MethodName := ⟨RJ7, "fill", "([JJ)V"⟩
abbrev cJ7_fill_53178 : ByteArray := prog_21_method_103_code
def yJ7_fill_53178 : MethodName := ⟨RJ7, "fill", "([II)V"⟩
abbrev cJ7_copyOf_59c91 : ByteArray := prog_21_method_123_code
def yJ7_copyOf_59c91 : MethodName := ⟨RJ7, "copyOf", "([II)[I"⟩
def RJ3 : String := "jdk/internal/util/Preconditions"
def TJ3 : u_T := fun k => match k with
  | _ => ("", "", "", false)
def tyJ3 : Nat → FieldType := fun k => match k with
  | _ => .int
theorem nmJ3 : ∀ a, a < 0 → ∀ b, b < 0 → a ≠ b → (TJ3 a).2.1 ≠ (TJ3 b).2.1 := by decide +kernel
theorem tyJ3_ok : ∀ k, k < 0 → parseFieldDescriptor (TJ3 k).2.2.1 = some (tyJ3 k) := by decide +kernel
abbrev cJ3_checkIndex_8e157 : ByteArray := prog_22_method_11_code
def yJ3_checkIndex_8e157 : MethodName := ⟨RJ3, "checkIndex", "(IILjava/util/function/BiFunction;)I"⟩
def RL : String := "BodyCornersLaw"
abbrev cL_law : ByteArray := code
def yL_law : MethodName := ⟨RL, "law", "([I)Z"⟩
abbrev vwCl : List vw_C := [(RX0, TX0, 2), (RX1, TX1, 2), (RX2, TX2, 11), (RX3, TX3, 6), (RX4, TX4, 12), (RX5, TX5, 3), (RX6, TX6, 8), (RX7, TX7, 5), (RX8, TX8, 10), (RX9, TX9, 5), (RX10, TX10, 13), (RX11, TX11, 63)]

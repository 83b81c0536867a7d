section
-- ===== PART A: goes FIRST, ahead of the names: the tables' words, and 'selects' of the private methods out of them =====
/-- a private method of a class that the tables say can be made, by its rows of tables_1 -/
def lw_okq (q : MethodName × Nat) : Prop := (q.1.cls ≠ "java/lang/invoke/MethodHandle" ∧ q.1.cls ≠ "java/lang/invoke/VarHandle") ∧ Cond.instantiable q.1.cls q.2 ∈ tables_1 ∧ Cond.privateMethod q.1 ∈ tables_1 ∧ Cond.instanceMethod q.1 ∈ tables_1
theorem lw_p0 : lw_okq (⟨"AHundredSights$Reader", "advance", "()V"⟩, 8) := ⟨⟨by decide +kernel, by decide +kernel⟩, List.mem_of_getElem? (i := 77) (by decide +kernel), List.mem_of_getElem? (i := 259) (by decide +kernel), List.mem_of_getElem? (i := 260) (by decide +kernel)⟩
theorem lw_p1 : lw_okq (⟨"AHundredSights$Reader", "takeWord", "()V"⟩, 8) := ⟨⟨by decide +kernel, by decide +kernel⟩, List.mem_of_getElem? (i := 77) (by decide +kernel), List.mem_of_getElem? (i := 266) (by decide +kernel), List.mem_of_getElem? (i := 267) (by decide +kernel)⟩
theorem lw_p2 : lw_okq (⟨"AHundredSights$Reader", "isWordAt", "(I)Z"⟩, 8) := ⟨⟨by decide +kernel, by decide +kernel⟩, List.mem_of_getElem? (i := 77) (by decide +kernel), List.mem_of_getElem? (i := 273) (by decide +kernel), List.mem_of_getElem? (i := 274) (by decide +kernel)⟩
theorem lw_p3 : lw_okq (⟨"AHundredSights$Reader", "takeNumber", "()V"⟩, 8) := ⟨⟨by decide +kernel, by decide +kernel⟩, List.mem_of_getElem? (i := 77) (by decide +kernel), List.mem_of_getElem? (i := 280) (by decide +kernel), List.mem_of_getElem? (i := 281) (by decide +kernel)⟩
theorem lw_p4 : lw_okq (⟨"AHundredSights$Reader", "readPart", "(II)Z"⟩, 8) := ⟨⟨by decide +kernel, by decide +kernel⟩, List.mem_of_getElem? (i := 77) (by decide +kernel), List.mem_of_getElem? (i := 344) (by decide +kernel), List.mem_of_getElem? (i := 345) (by decide +kernel)⟩
theorem lw_p5 : lw_okq (⟨"AHundredSights$Reader", "passes", "(I)Z"⟩, 8) := ⟨⟨by decide +kernel, by decide +kernel⟩, List.mem_of_getElem? (i := 77) (by decide +kernel), List.mem_of_getElem? (i := 348) (by decide +kernel), List.mem_of_getElem? (i := 349) (by decide +kernel)⟩
theorem lw_p6 : lw_okq (⟨"AHundredSights$Reader", "readEither", "()Z"⟩, 8) := ⟨⟨by decide +kernel, by decide +kernel⟩, List.mem_of_getElem? (i := 77) (by decide +kernel), List.mem_of_getElem? (i := 352) (by decide +kernel), List.mem_of_getElem? (i := 353) (by decide +kernel)⟩
theorem lw_p7 : lw_okq (⟨"AHundredSights$Reader", "readBoth", "()Z"⟩, 8) := ⟨⟨by decide +kernel, by decide +kernel⟩, List.mem_of_getElem? (i := 77) (by decide +kernel), List.mem_of_getElem? (i := 356) (by decide +kernel), List.mem_of_getElem? (i := 357) (by decide +kernel)⟩
theorem lw_p8 : lw_okq (⟨"AHundredSights$Reader", "readNot", "()Z"⟩, 8) := ⟨⟨by decide +kernel, by decide +kernel⟩, List.mem_of_getElem? (i := 77) (by decide +kernel), List.mem_of_getElem? (i := 360) (by decide +kernel), List.mem_of_getElem? (i := 361) (by decide +kernel)⟩
theorem lw_p9 : lw_okq (⟨"AHundredSights$Reader", "readComparison", "()Z"⟩, 8) := ⟨⟨by decide +kernel, by decide +kernel⟩, List.mem_of_getElem? (i := 77) (by decide +kernel), List.mem_of_getElem? (i := 364) (by decide +kernel), List.mem_of_getElem? (i := 365) (by decide +kernel)⟩
theorem lw_p10 : lw_okq (⟨"AHundredSights$Reader", "readSum", "()Z"⟩, 8) := ⟨⟨by decide +kernel, by decide +kernel⟩, List.mem_of_getElem? (i := 77) (by decide +kernel), List.mem_of_getElem? (i := 368) (by decide +kernel), List.mem_of_getElem? (i := 369) (by decide +kernel)⟩
theorem lw_p11 : lw_okq (⟨"AHundredSights$Reader", "readTerm", "()Z"⟩, 8) := ⟨⟨by decide +kernel, by decide +kernel⟩, List.mem_of_getElem? (i := 77) (by decide +kernel), List.mem_of_getElem? (i := 372) (by decide +kernel), List.mem_of_getElem? (i := 373) (by decide +kernel)⟩
theorem lw_p12 : lw_okq (⟨"AHundredSights$Reader", "readOne", "()Z"⟩, 8) := ⟨⟨by decide +kernel, by decide +kernel⟩, List.mem_of_getElem? (i := 77) (by decide +kernel), List.mem_of_getElem? (i := 376) (by decide +kernel), List.mem_of_getElem? (i := 377) (by decide +kernel)⟩
theorem lw_p13 : lw_okq (⟨"AHundredSights$Reader", "readNegated", "()Z"⟩, 8) := ⟨⟨by decide +kernel, by decide +kernel⟩, List.mem_of_getElem? (i := 77) (by decide +kernel), List.mem_of_getElem? (i := 380) (by decide +kernel), List.mem_of_getElem? (i := 381) (by decide +kernel)⟩
theorem lw_p14 : lw_okq (⟨"AHundredSights$Reader", "opens", "()Z"⟩, 8) := ⟨⟨by decide +kernel, by decide +kernel⟩, List.mem_of_getElem? (i := 77) (by decide +kernel), List.mem_of_getElem? (i := 384) (by decide +kernel), List.mem_of_getElem? (i := 385) (by decide +kernel)⟩
theorem lw_p15 : lw_okq (⟨"AHundredSights$Reader", "readEnclosed", "()Z"⟩, 8) := ⟨⟨by decide +kernel, by decide +kernel⟩, List.mem_of_getElem? (i := 77) (by decide +kernel), List.mem_of_getElem? (i := 392) (by decide +kernel), List.mem_of_getElem? (i := 393) (by decide +kernel)⟩
def lw_privs_1 : List (MethodName × Nat) := [(⟨"AHundredSights$Reader", "advance", "()V"⟩, 8), (⟨"AHundredSights$Reader", "takeWord", "()V"⟩, 8), (⟨"AHundredSights$Reader", "isWordAt", "(I)Z"⟩, 8), (⟨"AHundredSights$Reader", "takeNumber", "()V"⟩, 8), (⟨"AHundredSights$Reader", "readPart", "(II)Z"⟩, 8), (⟨"AHundredSights$Reader", "passes", "(I)Z"⟩, 8), (⟨"AHundredSights$Reader", "readEither", "()Z"⟩, 8), (⟨"AHundredSights$Reader", "readBoth", "()Z"⟩, 8), (⟨"AHundredSights$Reader", "readNot", "()Z"⟩, 8), (⟨"AHundredSights$Reader", "readComparison", "()Z"⟩, 8), (⟨"AHundredSights$Reader", "readSum", "()Z"⟩, 8), (⟨"AHundredSights$Reader", "readTerm", "()Z"⟩, 8), (⟨"AHundredSights$Reader", "readOne", "()Z"⟩, 8), (⟨"AHundredSights$Reader", "readNegated", "()Z"⟩, 8), (⟨"AHundredSights$Reader", "opens", "()Z"⟩, 8), (⟨"AHundredSights$Reader", "readEnclosed", "()Z"⟩, 8)]
theorem lw_r1 : ∀ q ∈ lw_privs_1, lw_okq q := List.forall_mem_cons.mpr ⟨lw_p0, List.forall_mem_cons.mpr ⟨lw_p1, List.forall_mem_cons.mpr ⟨lw_p2, List.forall_mem_cons.mpr ⟨lw_p3, List.forall_mem_cons.mpr ⟨lw_p4, List.forall_mem_cons.mpr ⟨lw_p5, List.forall_mem_cons.mpr ⟨lw_p6, List.forall_mem_cons.mpr ⟨lw_p7, List.forall_mem_cons.mpr ⟨lw_p8, List.forall_mem_cons.mpr ⟨lw_p9, List.forall_mem_cons.mpr ⟨lw_p10, List.forall_mem_cons.mpr ⟨lw_p11, List.forall_mem_cons.mpr ⟨lw_p12, List.forall_mem_cons.mpr ⟨lw_p13, List.forall_mem_cons.mpr ⟨lw_p14, List.forall_mem_cons.mpr ⟨lw_p15, fun _ h => absurd h List.not_mem_nil⟩⟩⟩⟩⟩⟩⟩⟩⟩⟩⟩⟩⟩⟩⟩⟩
theorem lw_p16 : lw_okq (⟨"AHundredSights", "asksOfNight", "(I)Z"⟩, 9) := ⟨⟨by decide +kernel, by decide +kernel⟩, List.mem_of_getElem? (i := 19) (by decide +kernel), List.mem_of_getElem? (i := 503) (by decide +kernel), List.mem_of_getElem? (i := 504) (by decide +kernel)⟩
theorem lw_p17 : lw_okq (⟨"AHundredSights", "asksOfSights", "(I)Z"⟩, 9) := ⟨⟨by decide +kernel, by decide +kernel⟩, List.mem_of_getElem? (i := 19) (by decide +kernel), List.mem_of_getElem? (i := 507) (by decide +kernel), List.mem_of_getElem? (i := 508) (by decide +kernel)⟩
theorem lw_p18 : lw_okq (⟨"AHundredSights", "tellsEachOnce", "(LAHundredSights$Sheet;)Z"⟩, 9) := ⟨⟨by decide +kernel, by decide +kernel⟩, List.mem_of_getElem? (i := 19) (by decide +kernel), List.mem_of_getElem? (i := 578) (by decide +kernel), List.mem_of_getElem? (i := 579) (by decide +kernel)⟩
theorem lw_p19 : lw_okq (⟨"AHundredSights", "firstToSet", "(I)I"⟩, 9) := ⟨⟨by decide +kernel, by decide +kernel⟩, List.mem_of_getElem? (i := 19) (by decide +kernel), List.mem_of_getElem? (i := 632) (by decide +kernel), List.mem_of_getElem? (i := 633) (by decide +kernel)⟩
theorem lw_p20 : lw_okq (⟨"AHundredSights", "foundPlain", "(LAHundredSights$Sky;)I"⟩, 9) := ⟨⟨by decide +kernel, by decide +kernel⟩, List.mem_of_getElem? (i := 19) (by decide +kernel), List.mem_of_getElem? (i := 640) (by decide +kernel), List.mem_of_getElem? (i := 641) (by decide +kernel)⟩
theorem lw_p21 : lw_okq (⟨"AHundredSights", "worthSleeping", "(II)I"⟩, 9) := ⟨⟨by decide +kernel, by decide +kernel⟩, List.mem_of_getElem? (i := 19) (by decide +kernel), List.mem_of_getElem? (i := 656) (by decide +kernel), List.mem_of_getElem? (i := 657) (by decide +kernel)⟩
theorem lw_p22 : lw_okq (⟨"AHundredSights", "worthWithoutCloud", "()I"⟩, 9) := ⟨⟨by decide +kernel, by decide +kernel⟩, List.mem_of_getElem? (i := 19) (by decide +kernel), List.mem_of_getElem? (i := 676) (by decide +kernel), List.mem_of_getElem? (i := 677) (by decide +kernel)⟩
theorem lw_p23 : lw_okq (⟨"AHundredSights", "notAsListed", "(LAHundredSights$Sheet;)I"⟩, 9) := ⟨⟨by decide +kernel, by decide +kernel⟩, List.mem_of_getElem? (i := 19) (by decide +kernel), List.mem_of_getElem? (i := 684) (by decide +kernel), List.mem_of_getElem? (i := 685) (by decide +kernel)⟩
theorem lw_p24 : lw_okq (⟨"AHundredSights", "spotsThatFit", "(LAHundredSights$Sheet;Z)I"⟩, 9) := ⟨⟨by decide +kernel, by decide +kernel⟩, List.mem_of_getElem? (i := 19) (by decide +kernel), List.mem_of_getElem? (i := 692) (by decide +kernel), List.mem_of_getElem? (i := 693) (by decide +kernel)⟩
theorem lw_p25 : lw_okq (⟨"AHundredSights", "bitsThatFit", "(LAHundredSights$Sheet;III)I"⟩, 9) := ⟨⟨by decide +kernel, by decide +kernel⟩, List.mem_of_getElem? (i := 19) (by decide +kernel), List.mem_of_getElem? (i := 696) (by decide +kernel), List.mem_of_getElem? (i := 697) (by decide +kernel)⟩
theorem lw_p26 : lw_okq (⟨"AHundredSights", "textsThatFit", "(LAHundredSights$Sheet;)I"⟩, 9) := ⟨⟨by decide +kernel, by decide +kernel⟩, List.mem_of_getElem? (i := 19) (by decide +kernel), List.mem_of_getElem? (i := 700) (by decide +kernel), List.mem_of_getElem? (i := 701) (by decide +kernel)⟩
theorem lw_p27 : lw_okq (⟨"AHundredSights", "worthDrawn", "(I)I"⟩, 9) := ⟨⟨by decide +kernel, by decide +kernel⟩, List.mem_of_getElem? (i := 19) (by decide +kernel), List.mem_of_getElem? (i := 721) (by decide +kernel), List.mem_of_getElem? (i := 722) (by decide +kernel)⟩
theorem lw_p28 : lw_okq (⟨"AHundredSightsModel", "spell", "(IIIIIIIII)V"⟩, 45) := ⟨⟨by decide +kernel, by decide +kernel⟩, List.mem_of_getElem? (i := 780) (by decide +kernel), List.mem_of_getElem? (i := 786) (by decide +kernel), List.mem_of_getElem? (i := 787) (by decide +kernel)⟩
theorem lw_p29 : lw_okq (⟨"AHundredSightsModel", "isSight", "(I)Z"⟩, 45) := ⟨⟨by decide +kernel, by decide +kernel⟩, List.mem_of_getElem? (i := 780) (by decide +kernel), List.mem_of_getElem? (i := 934) (by decide +kernel), List.mem_of_getElem? (i := 935) (by decide +kernel)⟩
theorem lw_p30 : lw_okq (⟨"AHundredSightsModel", "row", "(II)I"⟩, 45) := ⟨⟨by decide +kernel, by decide +kernel⟩, List.mem_of_getElem? (i := 780) (by decide +kernel), List.mem_of_getElem? (i := 941) (by decide +kernel), List.mem_of_getElem? (i := 942) (by decide +kernel)⟩
theorem lw_p31 : lw_okq (⟨"AHundredSightsModel", "paysOf", "(I)I"⟩, 45) := ⟨⟨by decide +kernel, by decide +kernel⟩, List.mem_of_getElem? (i := 780) (by decide +kernel), List.mem_of_getElem? (i := 950) (by decide +kernel), List.mem_of_getElem? (i := 951) (by decide +kernel)⟩
def lw_privs_2 : List (MethodName × Nat) := [(⟨"AHundredSights", "asksOfNight", "(I)Z"⟩, 9), (⟨"AHundredSights", "asksOfSights", "(I)Z"⟩, 9), (⟨"AHundredSights", "tellsEachOnce", "(LAHundredSights$Sheet;)Z"⟩, 9), (⟨"AHundredSights", "firstToSet", "(I)I"⟩, 9), (⟨"AHundredSights", "foundPlain", "(LAHundredSights$Sky;)I"⟩, 9), (⟨"AHundredSights", "worthSleeping", "(II)I"⟩, 9), (⟨"AHundredSights", "worthWithoutCloud", "()I"⟩, 9), (⟨"AHundredSights", "notAsListed", "(LAHundredSights$Sheet;)I"⟩, 9), (⟨"AHundredSights", "spotsThatFit", "(LAHundredSights$Sheet;Z)I"⟩, 9), (⟨"AHundredSights", "bitsThatFit", "(LAHundredSights$Sheet;III)I"⟩, 9), (⟨"AHundredSights", "textsThatFit", "(LAHundredSights$Sheet;)I"⟩, 9), (⟨"AHundredSights", "worthDrawn", "(I)I"⟩, 9), (⟨"AHundredSightsModel", "spell", "(IIIIIIIII)V"⟩, 45), (⟨"AHundredSightsModel", "isSight", "(I)Z"⟩, 45), (⟨"AHundredSightsModel", "row", "(II)I"⟩, 45), (⟨"AHundredSightsModel", "paysOf", "(I)I"⟩, 45)]
theorem lw_r2 : ∀ q ∈ lw_privs_2, lw_okq q := List.forall_mem_cons.mpr ⟨lw_p16, List.forall_mem_cons.mpr ⟨lw_p17, List.forall_mem_cons.mpr ⟨lw_p18, List.forall_mem_cons.mpr ⟨lw_p19, List.forall_mem_cons.mpr ⟨lw_p20, List.forall_mem_cons.mpr ⟨lw_p21, List.forall_mem_cons.mpr ⟨lw_p22, List.forall_mem_cons.mpr ⟨lw_p23, List.forall_mem_cons.mpr ⟨lw_p24, List.forall_mem_cons.mpr ⟨lw_p25, List.forall_mem_cons.mpr ⟨lw_p26, List.forall_mem_cons.mpr ⟨lw_p27, List.forall_mem_cons.mpr ⟨lw_p28, List.forall_mem_cons.mpr ⟨lw_p29, List.forall_mem_cons.mpr ⟨lw_p30, List.forall_mem_cons.mpr ⟨lw_p31, fun _ h => absurd h List.not_mem_nil⟩⟩⟩⟩⟩⟩⟩⟩⟩⟩⟩⟩⟩⟩⟩⟩
theorem lw_p32 : lw_okq (⟨"AHundredSightsModel", "isUp", "(II)Z"⟩, 45) := ⟨⟨by decide +kernel, by decide +kernel⟩, List.mem_of_getElem? (i := 780) (by decide +kernel), List.mem_of_getElem? (i := 967) (by decide +kernel), List.mem_of_getElem? (i := 968) (by decide +kernel)⟩
theorem lw_p33 : lw_okq (⟨"AHundredSightsModel", "isClouded", "(II)Z"⟩, 45) := ⟨⟨by decide +kernel, by decide +kernel⟩, List.mem_of_getElem? (i := 780) (by decide +kernel), List.mem_of_getElem? (i := 971) (by decide +kernel), List.mem_of_getElem? (i := 972) (by decide +kernel)⟩
theorem lw_p34 : lw_okq (⟨"AHundredSightsModel", "read", "(II)I"⟩, 45) := ⟨⟨by decide +kernel, by decide +kernel⟩, List.mem_of_getElem? (i := 780) (by decide +kernel), List.mem_of_getElem? (i := 984) (by decide +kernel), List.mem_of_getElem? (i := 985) (by decide +kernel)⟩
theorem lw_p35 : lw_okq (⟨"AHundredSightsModel", "next", "()V"⟩, 45) := ⟨⟨by decide +kernel, by decide +kernel⟩, List.mem_of_getElem? (i := 780) (by decide +kernel), List.mem_of_getElem? (i := 988) (by decide +kernel), List.mem_of_getElem? (i := 989) (by decide +kernel)⟩
theorem lw_p36 : lw_okq (⟨"AHundredSightsModel", "byteAt", "(I)I"⟩, 45) := ⟨⟨by decide +kernel, by decide +kernel⟩, List.mem_of_getElem? (i := 780) (by decide +kernel), List.mem_of_getElem? (i := 992) (by decide +kernel), List.mem_of_getElem? (i := 993) (by decide +kernel)⟩
theorem lw_p37 : lw_okq (⟨"AHundredSightsModel", "isWord", "(IIIIIIII)Z"⟩, 45) := ⟨⟨by decide +kernel, by decide +kernel⟩, List.mem_of_getElem? (i := 780) (by decide +kernel), List.mem_of_getElem? (i := 1001) (by decide +kernel), List.mem_of_getElem? (i := 1002) (by decide +kernel)⟩
theorem lw_p38 : lw_okq (⟨"AHundredSightsModel", "isLetter", "(II)Z"⟩, 45) := ⟨⟨by decide +kernel, by decide +kernel⟩, List.mem_of_getElem? (i := 780) (by decide +kernel), List.mem_of_getElem? (i := 1005) (by decide +kernel), List.mem_of_getElem? (i := 1006) (by decide +kernel)⟩
theorem lw_p39 : lw_okq (⟨"AHundredSightsModel", "part", "(Z)I"⟩, 45) := ⟨⟨by decide +kernel, by decide +kernel⟩, List.mem_of_getElem? (i := 780) (by decide +kernel), List.mem_of_getElem? (i := 1009) (by decide +kernel), List.mem_of_getElem? (i := 1010) (by decide +kernel)⟩
theorem lw_p40 : lw_okq (⟨"AHundredSightsModel", "fail", "()V"⟩, 45) := ⟨⟨by decide +kernel, by decide +kernel⟩, List.mem_of_getElem? (i := 780) (by decide +kernel), List.mem_of_getElem? (i := 1013) (by decide +kernel), List.mem_of_getElem? (i := 1014) (by decide +kernel)⟩
theorem lw_p41 : lw_okq (⟨"AHundredSightsModel", "either", "()I"⟩, 45) := ⟨⟨by decide +kernel, by decide +kernel⟩, List.mem_of_getElem? (i := 780) (by decide +kernel), List.mem_of_getElem? (i := 1017) (by decide +kernel), List.mem_of_getElem? (i := 1018) (by decide +kernel)⟩
theorem lw_p42 : lw_okq (⟨"AHundredSightsModel", "both", "()I"⟩, 45) := ⟨⟨by decide +kernel, by decide +kernel⟩, List.mem_of_getElem? (i := 780) (by decide +kernel), List.mem_of_getElem? (i := 1021) (by decide +kernel), List.mem_of_getElem? (i := 1022) (by decide +kernel)⟩
theorem lw_p43 : lw_okq (⟨"AHundredSightsModel", "not", "()I"⟩, 45) := ⟨⟨by decide +kernel, by decide +kernel⟩, List.mem_of_getElem? (i := 780) (by decide +kernel), List.mem_of_getElem? (i := 1025) (by decide +kernel), List.mem_of_getElem? (i := 1026) (by decide +kernel)⟩
theorem lw_p44 : lw_okq (⟨"AHundredSightsModel", "opens", "()Z"⟩, 45) := ⟨⟨by decide +kernel, by decide +kernel⟩, List.mem_of_getElem? (i := 780) (by decide +kernel), List.mem_of_getElem? (i := 1029) (by decide +kernel), List.mem_of_getElem? (i := 1030) (by decide +kernel)⟩
theorem lw_p45 : lw_okq (⟨"AHundredSightsModel", "added", "()I"⟩, 45) := ⟨⟨by decide +kernel, by decide +kernel⟩, List.mem_of_getElem? (i := 780) (by decide +kernel), List.mem_of_getElem? (i := 1033) (by decide +kernel), List.mem_of_getElem? (i := 1034) (by decide +kernel)⟩
theorem lw_p46 : lw_okq (⟨"AHundredSightsModel", "term", "()I"⟩, 45) := ⟨⟨by decide +kernel, by decide +kernel⟩, List.mem_of_getElem? (i := 780) (by decide +kernel), List.mem_of_getElem? (i := 1037) (by decide +kernel), List.mem_of_getElem? (i := 1038) (by decide +kernel)⟩
theorem lw_p47 : lw_okq (⟨"AHundredSightsModel", "atom", "()I"⟩, 45) := ⟨⟨by decide +kernel, by decide +kernel⟩, List.mem_of_getElem? (i := 780) (by decide +kernel), List.mem_of_getElem? (i := 1041) (by decide +kernel), List.mem_of_getElem? (i := 1042) (by decide +kernel)⟩
def lw_privs_3 : List (MethodName × Nat) := [(⟨"AHundredSightsModel", "isUp", "(II)Z"⟩, 45), (⟨"AHundredSightsModel", "isClouded", "(II)Z"⟩, 45), (⟨"AHundredSightsModel", "read", "(II)I"⟩, 45), (⟨"AHundredSightsModel", "next", "()V"⟩, 45), (⟨"AHundredSightsModel", "byteAt", "(I)I"⟩, 45), (⟨"AHundredSightsModel", "isWord", "(IIIIIIII)Z"⟩, 45), (⟨"AHundredSightsModel", "isLetter", "(II)Z"⟩, 45), (⟨"AHundredSightsModel", "part", "(Z)I"⟩, 45), (⟨"AHundredSightsModel", "fail", "()V"⟩, 45), (⟨"AHundredSightsModel", "either", "()I"⟩, 45), (⟨"AHundredSightsModel", "both", "()I"⟩, 45), (⟨"AHundredSightsModel", "not", "()I"⟩, 45), (⟨"AHundredSightsModel", "opens", "()Z"⟩, 45), (⟨"AHundredSightsModel", "added", "()I"⟩, 45), (⟨"AHundredSightsModel", "term", "()I"⟩, 45), (⟨"AHundredSightsModel", "atom", "()I"⟩, 45)]
theorem lw_r3 : ∀ q ∈ lw_privs_3, lw_okq q := List.forall_mem_cons.mpr ⟨lw_p32, List.forall_mem_cons.mpr ⟨lw_p33, List.forall_mem_cons.mpr ⟨lw_p34, List.forall_mem_cons.mpr ⟨lw_p35, List.forall_mem_cons.mpr ⟨lw_p36, List.forall_mem_cons.mpr ⟨lw_p37, List.forall_mem_cons.mpr ⟨lw_p38, List.forall_mem_cons.mpr ⟨lw_p39, List.forall_mem_cons.mpr ⟨lw_p40, List.forall_mem_cons.mpr ⟨lw_p41, List.forall_mem_cons.mpr ⟨lw_p42, List.forall_mem_cons.mpr ⟨lw_p43, List.forall_mem_cons.mpr ⟨lw_p44, List.forall_mem_cons.mpr ⟨lw_p45, List.forall_mem_cons.mpr ⟨lw_p46, List.forall_mem_cons.mpr ⟨lw_p47, fun _ h => absurd h List.not_mem_nil⟩⟩⟩⟩⟩⟩⟩⟩⟩⟩⟩⟩⟩⟩⟩⟩
theorem lw_p48 : lw_okq (⟨"AHundredSightsModel", "isSign", "(I)Z"⟩, 45) := ⟨⟨by decide +kernel, by decide +kernel⟩, List.mem_of_getElem? (i := 780) (by decide +kernel), List.mem_of_getElem? (i := 1045) (by decide +kernel), List.mem_of_getElem? (i := 1046) (by decide +kernel)⟩
theorem lw_p49 : lw_okq (⟨"AHundredSightsModel", "name", "()I"⟩, 45) := ⟨⟨by decide +kernel, by decide +kernel⟩, List.mem_of_getElem? (i := 780) (by decide +kernel), List.mem_of_getElem? (i := 1049) (by decide +kernel), List.mem_of_getElem? (i := 1050) (by decide +kernel)⟩
theorem lw_p50 : lw_okq (⟨"AHundredSightsModel", "isTells", "(I)Z"⟩, 45) := ⟨⟨by decide +kernel, by decide +kernel⟩, List.mem_of_getElem? (i := 780) (by decide +kernel), List.mem_of_getElem? (i := 1063) (by decide +kernel), List.mem_of_getElem? (i := 1064) (by decide +kernel)⟩
theorem lw_p51 : lw_okq (⟨"AHundredSightsModel", "goesPlain", "()V"⟩, 45) := ⟨⟨by decide +kernel, by decide +kernel⟩, List.mem_of_getElem? (i := 780) (by decide +kernel), List.mem_of_getElem? (i := 1070) (by decide +kernel), List.mem_of_getElem? (i := 1071) (by decide +kernel)⟩
theorem lw_p52 : lw_okq (⟨"AHundredSightsModel", "all", "()I"⟩, 45) := ⟨⟨by decide +kernel, by decide +kernel⟩, List.mem_of_getElem? (i := 780) (by decide +kernel), List.mem_of_getElem? (i := 1074) (by decide +kernel), List.mem_of_getElem? (i := 1075) (by decide +kernel)⟩
theorem lw_p53 : lw_okq (⟨"AHundredSightsModel", "goes", "(III)V"⟩, 45) := ⟨⟨by decide +kernel, by decide +kernel⟩, List.mem_of_getElem? (i := 780) (by decide +kernel), List.mem_of_getElem? (i := 1078) (by decide +kernel), List.mem_of_getElem? (i := 1079) (by decide +kernel)⟩
theorem lw_p54 : lw_okq (⟨"AHundredSightsModel", "beginsNight", "()V"⟩, 45) := ⟨⟨by decide +kernel, by decide +kernel⟩, List.mem_of_getElem? (i := 780) (by decide +kernel), List.mem_of_getElem? (i := 1082) (by decide +kernel), List.mem_of_getElem? (i := 1083) (by decide +kernel)⟩
theorem lw_p55 : lw_okq (⟨"AHundredSightsModel", "looksFor", "(II)V"⟩, 45) := ⟨⟨by decide +kernel, by decide +kernel⟩, List.mem_of_getElem? (i := 780) (by decide +kernel), List.mem_of_getElem? (i := 1086) (by decide +kernel), List.mem_of_getElem? (i := 1087) (by decide +kernel)⟩
theorem lw_p56 : lw_okq (⟨"AHundredSightsModel", "says", "(IIIII)I"⟩, 45) := ⟨⟨by decide +kernel, by decide +kernel⟩, List.mem_of_getElem? (i := 780) (by decide +kernel), List.mem_of_getElem? (i := 1093) (by decide +kernel), List.mem_of_getElem? (i := 1094) (by decide +kernel)⟩
theorem lw_p57 : lw_okq (⟨"AHundredSightsModel", "needsOf", "(II)I"⟩, 45) := ⟨⟨by decide +kernel, by decide +kernel⟩, List.mem_of_getElem? (i := 780) (by decide +kernel), List.mem_of_getElem? (i := 1100) (by decide +kernel), List.mem_of_getElem? (i := 1101) (by decide +kernel)⟩
theorem lw_p58 : lw_okq (⟨"AHundredSightsModel", "firstFrom", "(III)I"⟩, 45) := ⟨⟨by decide +kernel, by decide +kernel⟩, List.mem_of_getElem? (i := 780) (by decide +kernel), List.mem_of_getElem? (i := 1104) (by decide +kernel), List.mem_of_getElem? (i := 1105) (by decide +kernel)⟩
theorem lw_p59 : lw_okq (⟨"AHundredSightsModel", "tells", "(I)I"⟩, 45) := ⟨⟨by decide +kernel, by decide +kernel⟩, List.mem_of_getElem? (i := 780) (by decide +kernel), List.mem_of_getElem? (i := 1108) (by decide +kernel), List.mem_of_getElem? (i := 1109) (by decide +kernel)⟩
theorem lw_p60 : lw_okq (⟨"AHundredSightsModel", "goesBy", "(I)Z"⟩, 45) := ⟨⟨by decide +kernel, by decide +kernel⟩, List.mem_of_getElem? (i := 780) (by decide +kernel), List.mem_of_getElem? (i := 1123) (by decide +kernel), List.mem_of_getElem? (i := 1124) (by decide +kernel)⟩
theorem lw_p61 : lw_okq (⟨"AHundredSightsModel", "triesFrom", "(III)V"⟩, 45) := ⟨⟨by decide +kernel, by decide +kernel⟩, List.mem_of_getElem? (i := 780) (by decide +kernel), List.mem_of_getElem? (i := 1131) (by decide +kernel), List.mem_of_getElem? (i := 1132) (by decide +kernel)⟩
theorem lw_p62 : lw_okq (⟨"AHundredSightsModel", "worthClear", "()I"⟩, 45) := ⟨⟨by decide +kernel, by decide +kernel⟩, List.mem_of_getElem? (i := 780) (by decide +kernel), List.mem_of_getElem? (i := 1163) (by decide +kernel), List.mem_of_getElem? (i := 1164) (by decide +kernel)⟩
theorem lw_p63 : lw_okq (⟨"AHundredSightsModel", "notSo", "(I)I"⟩, 45) := ⟨⟨by decide +kernel, by decide +kernel⟩, List.mem_of_getElem? (i := 780) (by decide +kernel), List.mem_of_getElem? (i := 1171) (by decide +kernel), List.mem_of_getElem? (i := 1172) (by decide +kernel)⟩
def lw_privs_4 : List (MethodName × Nat) := [(⟨"AHundredSightsModel", "isSign", "(I)Z"⟩, 45), (⟨"AHundredSightsModel", "name", "()I"⟩, 45), (⟨"AHundredSightsModel", "isTells", "(I)Z"⟩, 45), (⟨"AHundredSightsModel", "goesPlain", "()V"⟩, 45), (⟨"AHundredSightsModel", "all", "()I"⟩, 45), (⟨"AHundredSightsModel", "goes", "(III)V"⟩, 45), (⟨"AHundredSightsModel", "beginsNight", "()V"⟩, 45), (⟨"AHundredSightsModel", "looksFor", "(II)V"⟩, 45), (⟨"AHundredSightsModel", "says", "(IIIII)I"⟩, 45), (⟨"AHundredSightsModel", "needsOf", "(II)I"⟩, 45), (⟨"AHundredSightsModel", "firstFrom", "(III)I"⟩, 45), (⟨"AHundredSightsModel", "tells", "(I)I"⟩, 45), (⟨"AHundredSightsModel", "goesBy", "(I)Z"⟩, 45), (⟨"AHundredSightsModel", "triesFrom", "(III)V"⟩, 45), (⟨"AHundredSightsModel", "worthClear", "()I"⟩, 45), (⟨"AHundredSightsModel", "notSo", "(I)I"⟩, 45)]
theorem lw_r4 : ∀ q ∈ lw_privs_4, lw_okq q := List.forall_mem_cons.mpr ⟨lw_p48, List.forall_mem_cons.mpr ⟨lw_p49, List.forall_mem_cons.mpr ⟨lw_p50, List.forall_mem_cons.mpr ⟨lw_p51, List.forall_mem_cons.mpr ⟨lw_p52, List.forall_mem_cons.mpr ⟨lw_p53, List.forall_mem_cons.mpr ⟨lw_p54, List.forall_mem_cons.mpr ⟨lw_p55, List.forall_mem_cons.mpr ⟨lw_p56, List.forall_mem_cons.mpr ⟨lw_p57, List.forall_mem_cons.mpr ⟨lw_p58, List.forall_mem_cons.mpr ⟨lw_p59, List.forall_mem_cons.mpr ⟨lw_p60, List.forall_mem_cons.mpr ⟨lw_p61, List.forall_mem_cons.mpr ⟨lw_p62, List.forall_mem_cons.mpr ⟨lw_p63, fun _ h => absurd h List.not_mem_nil⟩⟩⟩⟩⟩⟩⟩⟩⟩⟩⟩⟩⟩⟩⟩⟩
theorem lw_p64 : lw_okq (⟨"AHundredSightsModel", "spotsOf", "(IZ)I"⟩, 45) := ⟨⟨by decide +kernel, by decide +kernel⟩, List.mem_of_getElem? (i := 780) (by decide +kernel), List.mem_of_getElem? (i := 1175) (by decide +kernel), List.mem_of_getElem? (i := 1176) (by decide +kernel)⟩
theorem lw_p65 : lw_okq (⟨"AHundredSightsModel", "tellsSort", "(II)I"⟩, 45) := ⟨⟨by decide +kernel, by decide +kernel⟩, List.mem_of_getElem? (i := 780) (by decide +kernel), List.mem_of_getElem? (i := 1179) (by decide +kernel), List.mem_of_getElem? (i := 1180) (by decide +kernel)⟩
theorem lw_p66 : lw_okq (⟨"AHundredSightsModel", "lays", "(III)V"⟩, 45) := ⟨⟨by decide +kernel, by decide +kernel⟩, List.mem_of_getElem? (i := 780) (by decide +kernel), List.mem_of_getElem? (i := 1183) (by decide +kernel), List.mem_of_getElem? (i := 1184) (by decide +kernel)⟩
theorem lw_p67 : lw_okq (⟨"AHundredSightsModel", "draws", "(I)I"⟩, 45) := ⟨⟨by decide +kernel, by decide +kernel⟩, List.mem_of_getElem? (i := 780) (by decide +kernel), List.mem_of_getElem? (i := 1201) (by decide +kernel), List.mem_of_getElem? (i := 1202) (by decide +kernel)⟩
def lw_privs_5 : List (MethodName × Nat) := [(⟨"AHundredSightsModel", "spotsOf", "(IZ)I"⟩, 45), (⟨"AHundredSightsModel", "tellsSort", "(II)I"⟩, 45), (⟨"AHundredSightsModel", "lays", "(III)V"⟩, 45), (⟨"AHundredSightsModel", "draws", "(I)I"⟩, 45)]
theorem lw_r5 : ∀ q ∈ lw_privs_5, lw_okq q := List.forall_mem_cons.mpr ⟨lw_p64, List.forall_mem_cons.mpr ⟨lw_p65, List.forall_mem_cons.mpr ⟨lw_p66, List.forall_mem_cons.mpr ⟨lw_p67, fun _ h => absurd h List.not_mem_nil⟩⟩⟩⟩
def lw_privs : List (MethodName × Nat) := lw_privs_1 ++ (lw_privs_2 ++ (lw_privs_3 ++ (lw_privs_4 ++ (lw_privs_5))))
def lw_tbl : List Cond := k2_sels lw_privs ++ tables_1
theorem lw_privs_ok : ∀ q ∈ lw_privs, lw_okq q := by
  show ∀ q ∈ lw_privs_1 ++ (lw_privs_2 ++ (lw_privs_3 ++ (lw_privs_4 ++ (lw_privs_5)))), lw_okq q
  exact List.forall_mem_append.mpr ⟨lw_r1, List.forall_mem_append.mpr ⟨lw_r2, List.forall_mem_append.mpr ⟨lw_r3, List.forall_mem_append.mpr ⟨lw_r4, lw_r5⟩⟩⟩⟩
-- ===== end of PART A; then your names; then what follows =====
end
section
/-! ===== BEGIN printed: names, fields, word lists, decode rows ===== -/
def RX0 : String := "AHundredSights$Choice"
def TX0 : u_T := fun k => match k with
  | 0 => ("AHundredSights$Choice", "which", "I", false)
  | _ => ("AHundredSights$Choice", "worth", "I", false)
def tyX0 : Nat → FieldType := fun k => match k with
  | 0 => .int
  | _ => .int
abbrev wsX00 : List Cond := u_ws RX0 TX0 2
theorem nmX0 : ∀ a, a < 2 → ∀ b, b < 2 → a ≠ b → (TX0 a).2.1 ≠ (TX0 b).2.1 := by decide +kernel
theorem tyX0_ok : ∀ k, k < 2 → parseFieldDescriptor (TX0 k).2.2.1 = some (tyX0 k) := by decide +kernel
abbrev cX0_init : ByteArray := prog_2_method_1_code
def yX0_init : MethodName := ⟨RX0, "<init>", "()V"⟩
abbrev cX0_weigh : ByteArray := prog_2_method_2_code
def yX0_weigh : MethodName := ⟨RX0, "weigh", "(II)V"⟩
abbrev cX0_answer : ByteArray := prog_2_method_3_code
def yX0_answer : MethodName := ⟨RX0, "answer", "(I)I"⟩
def RX1 : String := "AHundredSights$Reader"
def TX1 : u_T := fun k => match k with
  | 0 => ("AHundredSights$Reader", "tape", "[I", true)
  | 1 => ("AHundredSights$Reader", "size", "I", false)
  | 2 => ("AHundredSights$Reader", "into", "LAHundredSights$Text;", false)
  | 3 => ("AHundredSights$Reader", "start", "I", false)
  | 4 => ("AHundredSights$Reader", "next", "I", false)
  | 5 => ("AHundredSights$Reader", "token", "I", false)
  | 6 => ("AHundredSights$Reader", "value", "I", false)
  | _ => ("AHundredSights$Reader", "open", "I", false)
def tyX1 : Nat → FieldType := fun k => match k with
  | 0 => .array .int
  | 1 => .int
  | 2 => .object "AHundredSights$Text"
  | 3 => .int
  | 4 => .int
  | 5 => .int
  | 6 => .int
  | _ => .int
abbrev wsX10 : List Cond := u_ws RX1 TX1 8
theorem nmX1 : ∀ a, a < 8 → ∀ b, b < 8 → a ≠ b → (TX1 a).2.1 ≠ (TX1 b).2.1 := by decide +kernel
theorem tyX1_ok : ∀ k, k < 8 → parseFieldDescriptor (TX1 k).2.2.1 = some (tyX1 k) := by decide +kernel
abbrev cX1_init : ByteArray := prog_3_method_1_code
def yX1_init : MethodName := ⟨RX1, "<init>", "()V"⟩
abbrev cX1_append : ByteArray := prog_3_method_2_code
def yX1_append : MethodName := ⟨RX1, "append", "(I)I"⟩
abbrev cX1_readInto : ByteArray := prog_3_method_3_code
def yX1_readInto : MethodName := ⟨RX1, "readInto", "(LAHundredSights$Text;)I"⟩
abbrev cX1_readPart : ByteArray := prog_3_method_4_code
def yX1_readPart : MethodName := ⟨RX1, "readPart", "(II)Z"⟩
abbrev cX1_passes : ByteArray := prog_3_method_5_code
def yX1_passes : MethodName := ⟨RX1, "passes", "(I)Z"⟩
abbrev cX1_readEither : ByteArray := prog_3_method_6_code
def yX1_readEither : MethodName := ⟨RX1, "readEither", "()Z"⟩
abbrev cX1_readBoth : ByteArray := prog_3_method_7_code
def yX1_readBoth : MethodName := ⟨RX1, "readBoth", "()Z"⟩
abbrev cX1_readNot : ByteArray := prog_3_method_8_code
def yX1_readNot : MethodName := ⟨RX1, "readNot", "()Z"⟩
abbrev cX1_readComparison : ByteArray := prog_3_method_9_code
def yX1_readComparison : MethodName := ⟨RX1, "readComparison", "()Z"⟩
abbrev cX1_readSum : ByteArray := prog_3_method_10_code
def yX1_readSum : MethodName := ⟨RX1, "readSum", "()Z"⟩
abbrev cX1_readTerm : ByteArray := prog_3_method_11_code
def yX1_readTerm : MethodName := ⟨RX1, "readTerm", "()Z"⟩
abbrev cX1_readOne : ByteArray := prog_3_method_12_code
def yX1_readOne : MethodName := ⟨RX1, "readOne", "()Z"⟩
abbrev cX1_readNegated : ByteArray := prog_3_method_13_code
def yX1_readNegated : MethodName := ⟨RX1, "readNegated", "()Z"⟩
abbrev cX1_readEnclosed : ByteArray := prog_3_method_14_code
def yX1_readEnclosed : MethodName := ⟨RX1, "readEnclosed", "()Z"⟩
abbrev cX1_opens : ByteArray := prog_3_method_15_code
def yX1_opens : MethodName := ⟨RX1, "opens", "()Z"⟩
abbrev cX1_advance : ByteArray := prog_3_method_16_code
def yX1_advance : MethodName := ⟨RX1, "advance", "()V"⟩
abbrev cX1_isLetter : ByteArray := prog_3_method_17_code
def yX1_isLetter : MethodName := ⟨RX1, "isLetter", "(I)Z"⟩
abbrev cX1_isDigit : ByteArray := prog_3_method_18_code
def yX1_isDigit : MethodName := ⟨RX1, "isDigit", "(I)Z"⟩
abbrev cX1_takeNumber : ByteArray := prog_3_method_19_code
def yX1_takeNumber : MethodName := ⟨RX1, "takeNumber", "()V"⟩
abbrev cX1_takeWord : ByteArray := prog_3_method_20_code
def yX1_takeWord : MethodName := ⟨RX1, "takeWord", "()V"⟩
abbrev cX1_isWordAt : ByteArray := prog_3_method_21_code
def yX1_isWordAt : MethodName := ⟨RX1, "isWordAt", "(I)Z"⟩
def RX2 : String := "AHundredSights$Sheet"
def TX2 : u_T := fun k => match k with
  | 0 => ("AHundredSights$Sheet", "sort", "I", false)
  | 1 => ("AHundredSights$Sheet", "size", "I", false)
  | _ => ("AHundredSights$Sheet", "items", "[I", true)
def tyX2 : Nat → FieldType := fun k => match k with
  | 0 => .int
  | 1 => .int
  | _ => .array .int
abbrev wsX20 : List Cond := u_ws RX2 TX2 3
theorem nmX2 : ∀ a, a < 3 → ∀ b, b < 3 → a ≠ b → (TX2 a).2.1 ≠ (TX2 b).2.1 := by decide +kernel
theorem tyX2_ok : ∀ k, k < 3 → parseFieldDescriptor (TX2 k).2.2.1 = some (tyX2 k) := by decide +kernel
abbrev cX2_init : ByteArray := prog_4_method_1_code
def yX2_init : MethodName := ⟨RX2, "<init>", "()V"⟩
abbrev cX2_become : ByteArray := prog_4_method_2_code
def yX2_become : MethodName := ⟨RX2, "become", "(II)V"⟩
abbrev cX2_isMissing : ByteArray := prog_4_method_3_code
def yX2_isMissing : MethodName := ⟨RX2, "isMissing", "()Z"⟩
abbrev cX2_holds : ByteArray := prog_4_method_4_code
def yX2_holds : MethodName := ⟨RX2, "holds", "(II)Z"⟩
abbrev cX2_item : ByteArray := prog_4_method_5_code
def yX2_item : MethodName := ⟨RX2, "item", "(I)I"⟩
abbrev cX2_put : ByteArray := prog_4_method_6_code
def yX2_put : MethodName := ⟨RX2, "put", "(II)V"⟩
def RX3 : String := "AHundredSights$Sky"
def TX3 : u_T := fun k => match k with
  | 0 => ("AHundredSights$Sky", "dials", "[I", true)
  | 1 => ("AHundredSights$Sky", "traits", "[[I", true)
  | 2 => ("AHundredSights$Sky", "numbers", "[I", true)
  | 3 => ("AHundredSights$Sky", "spots", "[I", true)
  | 4 => ("AHundredSights$Sky", "rises", "[I", true)
  | 5 => ("AHundredSights$Sky", "sets", "[I", true)
  | 6 => ("AHundredSights$Sky", "worths", "[I", true)
  | 7 => ("AHundredSights$Sky", "kinds", "[I", true)
  | 8 => ("AHundredSights$Sky", "clear", "[[I", true)
  | 9 => ("AHundredSights$Sky", "stale", "I", false)
  | 10 => ("AHundredSights$Sky", "size", "I", false)
  | _ => ("AHundredSights$Sky", "rule", "I", false)
def tyX3 : Nat → FieldType := fun k => match k with
  | 0 => .array .int
  | 1 => .array (.array .int)
  | 2 => .array .int
  | 3 => .array .int
  | 4 => .array .int
  | 5 => .array .int
  | 6 => .array .int
  | 7 => .array .int
  | 8 => .array (.array .int)
  | 9 => .int
  | 10 => .int
  | _ => .int
abbrev wsX30 : List Cond := u_ws RX3 TX3 12
theorem nmX3 : ∀ a, a < 12 → ∀ b, b < 12 → a ≠ b → (TX3 a).2.1 ≠ (TX3 b).2.1 := by decide +kernel
theorem tyX3_ok : ∀ k, k < 12 → parseFieldDescriptor (TX3 k).2.2.1 = some (tyX3 k) := by decide +kernel
abbrev cX3_init : ByteArray := prog_5_method_1_code
def yX3_init : MethodName := ⟨RX3, "<init>", "()V"⟩
abbrev cX3_takeAfter : ByteArray := prog_5_method_2_code
def yX3_takeAfter : MethodName := ⟨RX3, "takeAfter", "(LAHundredSights$Sky;)V"⟩
abbrev cX3_all : ByteArray := prog_5_method_3_code
def yX3_all : MethodName := ⟨RX3, "all", "()I"⟩
abbrev cX3_get : ByteArray := prog_5_method_4_code
def yX3_get : MethodName := ⟨RX3, "get", "(II)I"⟩
abbrev cX3_allows : ByteArray := prog_5_method_5_code
def yX3_allows : MethodName := ⟨RX3, "allows", "(III)Z"⟩
abbrev cX3_change : ByteArray := prog_5_method_6_code
def yX3_change : MethodName := ⟨RX3, "change", "(III)I"⟩
abbrev cX3_add : ByteArray := prog_5_method_7_code
def yX3_add : MethodName := ⟨RX3, "add", "(III)I"⟩
abbrev cX3_isUp : ByteArray := prog_5_method_8_code
def yX3_isUp : MethodName := ⟨RX3, "isUp", "(II)Z"⟩
abbrev cX3_isClouded : ByteArray := prog_5_method_9_code
def yX3_isClouded : MethodName := ⟨RX3, "isClouded", "(II)Z"⟩
abbrev cX3_needs : ByteArray := prog_5_method_10_code
def yX3_needs : MethodName := ⟨RX3, "needs", "(II)I"⟩
abbrev cX3_pays : ByteArray := prog_5_method_11_code
def yX3_pays : MethodName := ⟨RX3, "pays", "(I)I"⟩
abbrev cX3_paysOfAll : ByteArray := prog_5_method_12_code
def yX3_paysOfAll : MethodName := ⟨RX3, "paysOfAll", "()I"⟩
abbrev cX3_firstClear : ByteArray := prog_5_method_13_code
def yX3_firstClear : MethodName := ⟨RX3, "firstClear", "(III)I"⟩
abbrev cX3_lookAhead : ByteArray := prog_5_method_14_code
def yX3_lookAhead : MethodName := ⟨RX3, "lookAhead", "()V"⟩
def RX4 : String := "AHundredSights$Text"
def TX4 : u_T := fun k => match k with
  | 0 => ("AHundredSights$Text", "marks", "[I", true)
  | 1 => ("AHundredSights$Text", "ends", "[I", true)
  | _ => ("AHundredSights$Text", "size", "I", false)
def tyX4 : Nat → FieldType := fun k => match k with
  | 0 => .array .int
  | 1 => .array .int
  | _ => .int
abbrev wsX40 : List Cond := u_ws RX4 TX4 3
theorem nmX4 : ∀ a, a < 3 → ∀ b, b < 3 → a ≠ b → (TX4 a).2.1 ≠ (TX4 b).2.1 := by decide +kernel
theorem tyX4_ok : ∀ k, k < 3 → parseFieldDescriptor (TX4 k).2.2.1 = some (tyX4 k) := by decide +kernel
abbrev cX4_init : ByteArray := prog_6_method_1_code
def yX4_init : MethodName := ⟨RX4, "<init>", "()V"⟩
abbrev cX4_empty : ByteArray := prog_6_method_2_code
def yX4_empty : MethodName := ⟨RX4, "empty", "()V"⟩
abbrev cX4_add : ByteArray := prog_6_method_3_code
def yX4_add : MethodName := ⟨RX4, "add", "(I)V"⟩
abbrev cX4_endPart : ByteArray := prog_6_method_4_code
def yX4_endPart : MethodName := ⟨RX4, "endPart", "(I)V"⟩
abbrev cX4_value : ByteArray := prog_6_method_5_code
def yX4_value : MethodName := ⟨RX4, "value", "(I[I[I)I"⟩
abbrev cX4_joined : ByteArray := prog_6_method_6_code
def yX4_joined : MethodName := ⟨RX4, "joined", "(III)I"⟩
def RX5 : String := "AHundredSights$Walk"
def TX5 : u_T := fun k => match k with
  | 0 => ("AHundredSights$Walk", "texts", "[LAHundredSights$Text;", true)
  | 1 => ("AHundredSights$Walk", "names", "[I", true)
  | 2 => ("AHundredSights$Walk", "stack", "[I", true)
  | 3 => ("AHundredSights$Walk", "foundIn", "[I", true)
  | 4 => ("AHundredSights$Walk", "waitedFor", "[I", true)
  | 5 => ("AHundredSights$Walk", "sky", "LAHundredSights$Sky;", false)
  | 6 => ("AHundredSights$Walk", "rule", "LAHundredSights$Text;", false)
  | 7 => ("AHundredSights$Walk", "at", "I", false)
  | 8 => ("AHundredSights$Walk", "tick", "I", false)
  | 9 => ("AHundredSights$Walk", "worth", "I", false)
  | 10 => ("AHundredSights$Walk", "found", "I", false)
  | _ => ("AHundredSights$Walk", "waited", "I", false)
def tyX5 : Nat → FieldType := fun k => match k with
  | 0 => .array (.object "AHundredSights$Text")
  | 1 => .array .int
  | 2 => .array .int
  | 3 => .array .int
  | 4 => .array .int
  | 5 => .object "AHundredSights$Sky"
  | 6 => .object "AHundredSights$Text"
  | 7 => .int
  | 8 => .int
  | 9 => .int
  | 10 => .int
  | _ => .int
abbrev wsX50 : List Cond := u_ws RX5 TX5 12
theorem nmX5 : ∀ a, a < 12 → ∀ b, b < 12 → a ≠ b → (TX5 a).2.1 ≠ (TX5 b).2.1 := by decide +kernel
theorem tyX5_ok : ∀ k, k < 12 → parseFieldDescriptor (TX5 k).2.2.1 = some (tyX5 k) := by decide +kernel
abbrev cX5_init : ByteArray := prog_7_method_1_code
def yX5_init : MethodName := ⟨RX5, "<init>", "(LAHundredSights$Sky;[LAHundredSights$Text;)V"⟩
abbrev cX5_begin : ByteArray := prog_7_method_2_code
def yX5_begin : MethodName := ⟨RX5, "begin", "(LAHundredSights$Sky;)V"⟩
abbrev cX5_goPlain : ByteArray := prog_7_method_3_code
def yX5_goPlain : MethodName := ⟨RX5, "goPlain", "(LAHundredSights$Sky;I)I"⟩
abbrev cX5_lookFor : ByteArray := prog_7_method_4_code
def yX5_lookFor : MethodName := ⟨RX5, "lookFor", "(II)V"⟩
abbrev cX5_tickFound : ByteArray := prog_7_method_5_code
def yX5_tickFound : MethodName := ⟨RX5, "tickFound", "(I)I"⟩
abbrev cX5_answer : ByteArray := prog_7_method_6_code
def yX5_answer : MethodName := ⟨RX5, "answer", "(I)I"⟩
def RX6 : String := "AHundredSights"
def TX6 : u_T := fun k => match k with
  | 0 => ("AHundredSights", "sky", "LAHundredSights$Sky;", true)
  | 1 => ("AHundredSights", "kept", "LAHundredSights$Sky;", true)
  | 2 => ("AHundredSights", "trial", "LAHundredSights$Sky;", true)
  | 3 => ("AHundredSights", "hasImage", "Z", false)
  | 4 => ("AHundredSights", "reader", "LAHundredSights$Reader;", true)
  | 5 => ("AHundredSights", "texts", "[LAHundredSights$Text;", true)
  | 6 => ("AHundredSights", "textCount", "I", false)
  | 7 => ("AHundredSights", "walk", "LAHundredSights$Walk;", true)
  | _ => ("AHundredSights", "sheets", "[LAHundredSights$Sheet;", true)
def tyX6 : Nat → FieldType := fun k => match k with
  | 0 => .object "AHundredSights$Sky"
  | 1 => .object "AHundredSights$Sky"
  | 2 => .object "AHundredSights$Sky"
  | 3 => .boolean
  | 4 => .object "AHundredSights$Reader"
  | 5 => .array (.object "AHundredSights$Text")
  | 6 => .int
  | 7 => .object "AHundredSights$Walk"
  | _ => .array (.object "AHundredSights$Sheet")
abbrev wsX60 : List Cond := u_ws RX6 TX6 9
theorem nmX6 : ∀ a, a < 9 → ∀ b, b < 9 → a ≠ b → (TX6 a).2.1 ≠ (TX6 b).2.1 := by decide +kernel
theorem tyX6_ok : ∀ k, k < 9 → parseFieldDescriptor (TX6 k).2.2.1 = some (tyX6 k) := by decide +kernel
abbrev cX6_init : ByteArray := prog_1_method_1_code
def yX6_init : MethodName := ⟨RX6, "<init>", "()V"⟩
abbrev cX6_set : ByteArray := prog_1_method_2_code
def yX6_set : MethodName := ⟨RX6, "set", "(III)I"⟩
abbrev cX6_sight : ByteArray := prog_1_method_3_code
def yX6_sight : MethodName := ⟨RX6, "sight", "(III)I"⟩
abbrev cX6_told : ByteArray := prog_1_method_4_code
def yX6_told : MethodName := ⟨RX6, "told", "(II)I"⟩
abbrev cX6_shines : ByteArray := prog_1_method_5_code
def yX6_shines : MethodName := ⟨RX6, "shines", "(III)I"⟩
abbrev cX6_feed : ByteArray := prog_1_method_6_code
def yX6_feed : MethodName := ⟨RX6, "feed", "(I)I"⟩
abbrev cX6_text : ByteArray := prog_1_method_7_code
def yX6_text : MethodName := ⟨RX6, "text", "()I"⟩
abbrev cX6_force : ByteArray := prog_1_method_8_code
def yX6_force : MethodName := ⟨RX6, "force", "(I)I"⟩
abbrev cX6_night : ByteArray := prog_1_method_9_code
def yX6_night : MethodName := ⟨RX6, "night", "(I)I"⟩
abbrev cX6_order : ByteArray := prog_1_method_10_code
def yX6_order : MethodName := ⟨RX6, "order", "(II)I"⟩
abbrev cX6_best : ByteArray := prog_1_method_11_code
def yX6_best : MethodName := ⟨RX6, "best", "(I)I"⟩
abbrev cX6_setting : ByteArray := prog_1_method_12_code
def yX6_setting : MethodName := ⟨RX6, "setting", "(I)I"⟩
abbrev cX6_late : ByteArray := prog_1_method_13_code
def yX6_late : MethodName := ⟨RX6, "late", "()I"⟩
abbrev cX6_sleep : ByteArray := prog_1_method_14_code
def yX6_sleep : MethodName := ⟨RX6, "sleep", "(II)I"⟩
abbrev cX6_moon : ByteArray := prog_1_method_15_code
def yX6_moon : MethodName := ⟨RX6, "moon", "(I)I"⟩
abbrev cX6_leave : ByteArray := prog_1_method_16_code
def yX6_leave : MethodName := ⟨RX6, "leave", "(I)I"⟩
abbrev cX6_two : ByteArray := prog_1_method_17_code
def yX6_two : MethodName := ⟨RX6, "two", "(I)I"⟩
abbrev cX6_cloud : ByteArray := prog_1_method_18_code
def yX6_cloud : MethodName := ⟨RX6, "cloud", "()I"⟩
abbrev cX6_lists : ByteArray := prog_1_method_19_code
def yX6_lists : MethodName := ⟨RX6, "lists", "(II)I"⟩
abbrev cX6_film : ByteArray := prog_1_method_20_code
def yX6_film : MethodName := ⟨RX6, "film", "(I)I"⟩
abbrev cX6_drawn : ByteArray := prog_1_method_21_code
def yX6_drawn : MethodName := ⟨RX6, "drawn", "(I)I"⟩
abbrev cX6_chance : ByteArray := prog_1_method_22_code
def yX6_chance : MethodName := ⟨RX6, "chance", "(III)J"⟩
abbrev cX6_image : ByteArray := prog_1_method_23_code
def yX6_image : MethodName := ⟨RX6, "image", "()I"⟩
abbrev cX6_back : ByteArray := prog_1_method_24_code
def yX6_back : MethodName := ⟨RX6, "back", "()I"⟩
abbrev cX6_count : ByteArray := prog_1_method_25_code
def yX6_count : MethodName := ⟨RX6, "count", "(I)I"⟩
abbrev cX6_sheet : ByteArray := prog_1_method_26_code
def yX6_sheet : MethodName := ⟨RX6, "sheet", "(III)I"⟩
abbrev cX6_cell : ByteArray := prog_1_method_27_code
def yX6_cell : MethodName := ⟨RX6, "cell", "(III)I"⟩
abbrev cX6_copy : ByteArray := prog_1_method_28_code
def yX6_copy : MethodName := ⟨RX6, "copy", "(IIIII)I"⟩
abbrev cX6_sights : ByteArray := prog_1_method_29_code
def yX6_sights : MethodName := ⟨RX6, "sights", "(IIII)I"⟩
abbrev cX6_taken : ByteArray := prog_1_method_30_code
def yX6_taken : MethodName := ⟨RX6, "taken", "(II)I"⟩
abbrev cX6_isBelow : ByteArray := prog_1_method_31_code
def yX6_isBelow : MethodName := ⟨RX6, "isBelow", "(II)Z"⟩
abbrev cX6_isSort : ByteArray := prog_1_method_32_code
def yX6_isSort : MethodName := ⟨RX6, "isSort", "(I)Z"⟩
abbrev cX6_isOfKind : ByteArray := prog_1_method_33_code
def yX6_isOfKind : MethodName := ⟨RX6, "isOfKind", "(II)Z"⟩
abbrev cX6_asksOfSights : ByteArray := prog_1_method_34_code
def yX6_asksOfSights : MethodName := ⟨RX6, "asksOfSights", "(I)Z"⟩
abbrev cX6_asksOfNight : ByteArray := prog_1_method_35_code
def yX6_asksOfNight : MethodName := ⟨RX6, "asksOfNight", "(I)Z"⟩
abbrev cX6_tellsEachOnce : ByteArray := prog_1_method_36_code
def yX6_tellsEachOnce : MethodName := ⟨RX6, "tellsEachOnce", "(LAHundredSights$Sheet;)Z"⟩
abbrev cX6_tryOrders : ByteArray := prog_1_method_37_code
def yX6_tryOrders : MethodName := ⟨RX6, "tryOrders", "(LAHundredSights$Choice;LAHundredSights$Walk;IIII)V"⟩
abbrev cX6_firstToSet : ByteArray := prog_1_method_38_code
def yX6_firstToSet : MethodName := ⟨RX6, "firstToSet", "(I)I"⟩
abbrev cX6_foundPlain : ByteArray := prog_1_method_39_code
def yX6_foundPlain : MethodName := ⟨RX6, "foundPlain", "(LAHundredSights$Sky;)I"⟩
abbrev cX6_worthSleeping : ByteArray := prog_1_method_40_code
def yX6_worthSleeping : MethodName := ⟨RX6, "worthSleeping", "(II)I"⟩
abbrev cX6_worthWithoutCloud : ByteArray := prog_1_method_41_code
def yX6_worthWithoutCloud : MethodName := ⟨RX6, "worthWithoutCloud", "()I"⟩
abbrev cX6_worthDrawn : ByteArray := prog_1_method_42_code
def yX6_worthDrawn : MethodName := ⟨RX6, "worthDrawn", "(I)I"⟩
abbrev cX6_inLowestTerms : ByteArray := prog_1_method_43_code
def yX6_inLowestTerms : MethodName := ⟨RX6, "inLowestTerms", "(III)I"⟩
abbrev cX6_notAsListed : ByteArray := prog_1_method_44_code
def yX6_notAsListed : MethodName := ⟨RX6, "notAsListed", "(LAHundredSights$Sheet;)I"⟩
abbrev cX6_spotsThatFit : ByteArray := prog_1_method_45_code
def yX6_spotsThatFit : MethodName := ⟨RX6, "spotsThatFit", "(LAHundredSights$Sheet;Z)I"⟩
abbrev cX6_bitsThatFit : ByteArray := prog_1_method_46_code
def yX6_bitsThatFit : MethodName := ⟨RX6, "bitsThatFit", "(LAHundredSights$Sheet;III)I"⟩
abbrev cX6_textsThatFit : ByteArray := prog_1_method_47_code
def yX6_textsThatFit : MethodName := ⟨RX6, "textsThatFit", "(LAHundredSights$Sheet;)I"⟩
def RX7 : String := "AHundredSightsModel"
def TX7 : u_T := fun k => match k with
  | 0 => ("AHundredSightsModel", "thrown", "I", false)
  | 1 => ("AHundredSightsModel", "texts", "[I", true)
  | 2 => ("AHundredSightsModel", "textSize", "[I", true)
  | 3 => ("AHundredSightsModel", "textCount", "I", false)
  | 4 => ("AHundredSightsModel", "rule", "I", false)
  | 5 => ("AHundredSightsModel", "tape", "[I", true)
  | 6 => ("AHundredSightsModel", "taped", "I", false)
  | 7 => ("AHundredSightsModel", "sky", "[I", true)
  | 8 => ("AHundredSightsModel", "kinds", "[I", true)
  | 9 => ("AHundredSightsModel", "rows", "[I", true)
  | 10 => ("AHundredSightsModel", "sightMany", "I", false)
  | 11 => ("AHundredSightsModel", "isClear", "Z", false)
  | 12 => ("AHundredSightsModel", "ofTick", "I", false)
  | 13 => ("AHundredSightsModel", "ofFar", "I", false)
  | 14 => ("AHundredSightsModel", "ofMoon", "I", false)
  | 15 => ("AHundredSightsModel", "ofNumber", "I", false)
  | 16 => ("AHundredSightsModel", "ofHeight", "I", false)
  | 17 => ("AHundredSightsModel", "ofOrder", "I", false)
  | 18 => ("AHundredSightsModel", "from", "I", false)
  | 19 => ("AHundredSightsModel", "size", "I", false)
  | 20 => ("AHundredSightsModel", "here", "I", false)
  | 21 => ("AHundredSightsModel", "token", "I", false)
  | 22 => ("AHundredSightsModel", "tokenAt", "I", false)
  | 23 => ("AHundredSightsModel", "tokenWorth", "J", false)
  | 24 => ("AHundredSightsModel", "open", "I", false)
  | 25 => ("AHundredSightsModel", "bad", "Z", false)
  | 26 => ("AHundredSightsModel", "fault", "I", false)
  | 27 => ("AHundredSightsModel", "hereNow", "I", false)
  | 28 => ("AHundredSightsModel", "tickNow", "I", false)
  | 29 => ("AHundredSightsModel", "worth", "I", false)
  | 30 => ("AHundredSightsModel", "foundSet", "I", false)
  | 31 => ("AHundredSightsModel", "waitedAll", "I", false)
  | 32 => ("AHundredSightsModel", "foundAt", "[I", true)
  | 33 => ("AHundredSightsModel", "waitedFor", "[I", true)
  | 34 => ("AHundredSightsModel", "bestWorth", "I", false)
  | 35 => ("AHundredSightsModel", "bestDigits", "I", false)
  | 36 => ("AHundredSightsModel", "cloudWas", "[I", true)
  | 37 => ("AHundredSightsModel", "skyKept", "[I", true)
  | 38 => ("AHundredSightsModel", "rowsKept", "[I", true)
  | 39 => ("AHundredSightsModel", "manyKept", "I", false)
  | 40 => ("AHundredSightsModel", "ruleKept", "I", false)
  | 41 => ("AHundredSightsModel", "isThere", "[Z", true)
  | 42 => ("AHundredSightsModel", "sorts", "[I", true)
  | 43 => ("AHundredSightsModel", "sheetSize", "[I", true)
  | _ => ("AHundredSightsModel", "items", "[I", true)
def tyX7 : Nat → FieldType := fun k => match k with
  | 0 => .int
  | 1 => .array .int
  | 2 => .array .int
  | 3 => .int
  | 4 => .int
  | 5 => .array .int
  | 6 => .int
  | 7 => .array .int
  | 8 => .array .int
  | 9 => .array .int
  | 10 => .int
  | 11 => .boolean
  | 12 => .int
  | 13 => .int
  | 14 => .int
  | 15 => .int
  | 16 => .int
  | 17 => .int
  | 18 => .int
  | 19 => .int
  | 20 => .int
  | 21 => .int
  | 22 => .int
  | 23 => .long
  | 24 => .int
  | 25 => .boolean
  | 26 => .int
  | 27 => .int
  | 28 => .int
  | 29 => .int
  | 30 => .int
  | 31 => .int
  | 32 => .array .int
  | 33 => .array .int
  | 34 => .int
  | 35 => .int
  | 36 => .array .int
  | 37 => .array .int
  | 38 => .array .int
  | 39 => .int
  | 40 => .int
  | 41 => .array .boolean
  | 42 => .array .int
  | 43 => .array .int
  | _ => .array .int
abbrev wsX70 : List Cond := u_ws RX7 TX7 45
theorem nmX7 : ∀ a, a < 45 → ∀ b, b < 45 → a ≠ b → (TX7 a).2.1 ≠ (TX7 b).2.1 := by decide +kernel
theorem tyX7_ok : ∀ k, k < 45 → parseFieldDescriptor (TX7 k).2.2.1 = some (tyX7 k) := by decide +kernel
abbrev cX7_in : ByteArray := prog_9_method_2_code
def yX7_in : MethodName := ⟨RX7, "in", "(JJJ)Z"⟩
abbrev cX7_within : ByteArray := prog_9_method_3_code
def yX7_within : MethodName := ⟨RX7, "within", "(III)I"⟩
abbrev cX7_init : ByteArray := prog_9_method_4_code
def yX7_init : MethodName := ⟨RX7, "<init>", "()V"⟩
abbrev cX7_spell : ByteArray := prog_9_method_5_code
def yX7_spell : MethodName := ⟨RX7, "spell", "(IIIIIIIII)V"⟩
abbrev cX7_isSight : ByteArray := prog_9_method_6_code
def yX7_isSight : MethodName := ⟨RX7, "isSight", "(I)Z"⟩
abbrev cX7_row : ByteArray := prog_9_method_7_code
def yX7_row : MethodName := ⟨RX7, "row", "(II)I"⟩
abbrev cX7_mostOf : ByteArray := prog_9_method_8_code
def yX7_mostOf : MethodName := ⟨RX7, "mostOf", "(I)I"⟩
abbrev cX7_set : ByteArray := prog_9_method_9_code
def yX7_set : MethodName := ⟨RX7, "set", "(III)I"⟩
abbrev cX7_sight : ByteArray := prog_9_method_10_code
def yX7_sight : MethodName := ⟨RX7, "sight", "(III)I"⟩
abbrev cX7_paysOf : ByteArray := prog_9_method_11_code
def yX7_paysOf : MethodName := ⟨RX7, "paysOf", "(I)I"⟩
abbrev cX7_told : ByteArray := prog_9_method_12_code
def yX7_told : MethodName := ⟨RX7, "told", "(II)I"⟩
abbrev cX7_isUp : ByteArray := prog_9_method_13_code
def yX7_isUp : MethodName := ⟨RX7, "isUp", "(II)Z"⟩
abbrev cX7_isClouded : ByteArray := prog_9_method_14_code
def yX7_isClouded : MethodName := ⟨RX7, "isClouded", "(II)Z"⟩
abbrev cX7_shines : ByteArray := prog_9_method_15_code
def yX7_shines : MethodName := ⟨RX7, "shines", "(III)I"⟩
abbrev cX7_farOf : ByteArray := prog_9_method_16_code
def yX7_farOf : MethodName := ⟨RX7, "farOf", "(II)I"⟩
abbrev cX7_feed : ByteArray := prog_9_method_17_code
def yX7_feed : MethodName := ⟨RX7, "feed", "(I)I"⟩
abbrev cX7_byteAt : ByteArray := prog_9_method_18_code
def yX7_byteAt : MethodName := ⟨RX7, "byteAt", "(I)I"⟩
abbrev cX7_next : ByteArray := prog_9_method_19_code
def yX7_next : MethodName := ⟨RX7, "next", "()V"⟩
abbrev cX7_fail : ByteArray := prog_9_method_20_code
def yX7_fail : MethodName := ⟨RX7, "fail", "()V"⟩
abbrev cX7_isLetter : ByteArray := prog_9_method_21_code
def yX7_isLetter : MethodName := ⟨RX7, "isLetter", "(II)Z"⟩
abbrev cX7_isWord : ByteArray := prog_9_method_22_code
def yX7_isWord : MethodName := ⟨RX7, "isWord", "(IIIIIIII)Z"⟩
abbrev cX7_isSign : ByteArray := prog_9_method_23_code
def yX7_isSign : MethodName := ⟨RX7, "isSign", "(I)Z"⟩
abbrev cX7_opens : ByteArray := prog_9_method_24_code
def yX7_opens : MethodName := ⟨RX7, "opens", "()Z"⟩
abbrev cX7_name : ByteArray := prog_9_method_25_code
def yX7_name : MethodName := ⟨RX7, "name", "()I"⟩
abbrev cX7_atom : ByteArray := prog_9_method_26_code
def yX7_atom : MethodName := ⟨RX7, "atom", "()I"⟩
abbrev cX7_term : ByteArray := prog_9_method_27_code
def yX7_term : MethodName := ⟨RX7, "term", "()I"⟩
abbrev cX7_added : ByteArray := prog_9_method_28_code
def yX7_added : MethodName := ⟨RX7, "added", "()I"⟩
abbrev cX7_not : ByteArray := prog_9_method_29_code
def yX7_not : MethodName := ⟨RX7, "not", "()I"⟩
abbrev cX7_both : ByteArray := prog_9_method_30_code
def yX7_both : MethodName := ⟨RX7, "both", "()I"⟩
abbrev cX7_either : ByteArray := prog_9_method_31_code
def yX7_either : MethodName := ⟨RX7, "either", "()I"⟩
abbrev cX7_part : ByteArray := prog_9_method_32_code
def yX7_part : MethodName := ⟨RX7, "part", "(Z)I"⟩
abbrev cX7_read : ByteArray := prog_9_method_33_code
def yX7_read : MethodName := ⟨RX7, "read", "(II)I"⟩
abbrev cX7_text : ByteArray := prog_9_method_34_code
def yX7_text : MethodName := ⟨RX7, "text", "()I"⟩
abbrev cX7_force : ByteArray := prog_9_method_35_code
def yX7_force : MethodName := ⟨RX7, "force", "(I)I"⟩
abbrev cX7_says : ByteArray := prog_9_method_36_code
def yX7_says : MethodName := ⟨RX7, "says", "(IIIII)I"⟩
abbrev cX7_needsOf : ByteArray := prog_9_method_37_code
def yX7_needsOf : MethodName := ⟨RX7, "needsOf", "(II)I"⟩
abbrev cX7_beginsNight : ByteArray := prog_9_method_38_code
def yX7_beginsNight : MethodName := ⟨RX7, "beginsNight", "()V"⟩
abbrev cX7_firstFrom : ByteArray := prog_9_method_39_code
def yX7_firstFrom : MethodName := ⟨RX7, "firstFrom", "(III)I"⟩
abbrev cX7_looksFor : ByteArray := prog_9_method_40_code
def yX7_looksFor : MethodName := ⟨RX7, "looksFor", "(II)V"⟩
abbrev cX7_goes : ByteArray := prog_9_method_41_code
def yX7_goes : MethodName := ⟨RX7, "goes", "(III)V"⟩
abbrev cX7_all : ByteArray := prog_9_method_42_code
def yX7_all : MethodName := ⟨RX7, "all", "()I"⟩
abbrev cX7_goesPlain : ByteArray := prog_9_method_43_code
def yX7_goesPlain : MethodName := ⟨RX7, "goesPlain", "()V"⟩
abbrev cX7_isTells : ByteArray := prog_9_method_44_code
def yX7_isTells : MethodName := ⟨RX7, "isTells", "(I)Z"⟩
abbrev cX7_bitsOf : ByteArray := prog_9_method_45_code
def yX7_bitsOf : MethodName := ⟨RX7, "bitsOf", "(I)I"⟩
abbrev cX7_tells : ByteArray := prog_9_method_46_code
def yX7_tells : MethodName := ⟨RX7, "tells", "(I)I"⟩
abbrev cX7_night : ByteArray := prog_9_method_47_code
def yX7_night : MethodName := ⟨RX7, "night", "(I)I"⟩
abbrev cX7_goesBy : ByteArray := prog_9_method_48_code
def yX7_goesBy : MethodName := ⟨RX7, "goesBy", "(I)Z"⟩
abbrev cX7_order : ByteArray := prog_9_method_49_code
def yX7_order : MethodName := ⟨RX7, "order", "(II)I"⟩
abbrev cX7_triesFrom : ByteArray := prog_9_method_50_code
def yX7_triesFrom : MethodName := ⟨RX7, "triesFrom", "(III)V"⟩
abbrev cX7_best : ByteArray := prog_9_method_51_code
def yX7_best : MethodName := ⟨RX7, "best", "(I)I"⟩
abbrev cX7_setting : ByteArray := prog_9_method_52_code
def yX7_setting : MethodName := ⟨RX7, "setting", "(I)I"⟩
abbrev cX7_late : ByteArray := prog_9_method_53_code
def yX7_late : MethodName := ⟨RX7, "late", "()I"⟩
abbrev cX7_sleep : ByteArray := prog_9_method_54_code
def yX7_sleep : MethodName := ⟨RX7, "sleep", "(II)I"⟩
abbrev cX7_moon : ByteArray := prog_9_method_55_code
def yX7_moon : MethodName := ⟨RX7, "moon", "(I)I"⟩
abbrev cX7_leave : ByteArray := prog_9_method_56_code
def yX7_leave : MethodName := ⟨RX7, "leave", "(I)I"⟩
abbrev cX7_two : ByteArray := prog_9_method_57_code
def yX7_two : MethodName := ⟨RX7, "two", "(I)I"⟩
abbrev cX7_worthClear : ByteArray := prog_9_method_58_code
def yX7_worthClear : MethodName := ⟨RX7, "worthClear", "()I"⟩
abbrev cX7_cloud : ByteArray := prog_9_method_59_code
def yX7_cloud : MethodName := ⟨RX7, "cloud", "()I"⟩
abbrev cX7_notSo : ByteArray := prog_9_method_60_code
def yX7_notSo : MethodName := ⟨RX7, "notSo", "(I)I"⟩
abbrev cX7_spotsOf : ByteArray := prog_9_method_61_code
def yX7_spotsOf : MethodName := ⟨RX7, "spotsOf", "(IZ)I"⟩
abbrev cX7_tellsSort : ByteArray := prog_9_method_62_code
def yX7_tellsSort : MethodName := ⟨RX7, "tellsSort", "(II)I"⟩
abbrev cX7_lays : ByteArray := prog_9_method_63_code
def yX7_lays : MethodName := ⟨RX7, "lays", "(III)V"⟩
abbrev cX7_lists : ByteArray := prog_9_method_64_code
def yX7_lists : MethodName := ⟨RX7, "lists", "(II)I"⟩
abbrev cX7_film : ByteArray := prog_9_method_65_code
def yX7_film : MethodName := ⟨RX7, "film", "(I)I"⟩
abbrev cX7_draws : ByteArray := prog_9_method_66_code
def yX7_draws : MethodName := ⟨RX7, "draws", "(I)I"⟩
abbrev cX7_drawn : ByteArray := prog_9_method_67_code
def yX7_drawn : MethodName := ⟨RX7, "drawn", "(I)I"⟩
abbrev cX7_chance : ByteArray := prog_9_method_68_code
def yX7_chance : MethodName := ⟨RX7, "chance", "(III)J"⟩
abbrev cX7_image : ByteArray := prog_9_method_69_code
def yX7_image : MethodName := ⟨RX7, "image", "()I"⟩
abbrev cX7_back : ByteArray := prog_9_method_70_code
def yX7_back : MethodName := ⟨RX7, "back", "()I"⟩
abbrev cX7_count : ByteArray := prog_9_method_71_code
def yX7_count : MethodName := ⟨RX7, "count", "(I)I"⟩
abbrev cX7_isSheet : ByteArray := prog_9_method_72_code
def yX7_isSheet : MethodName := ⟨RX7, "isSheet", "(I)Z"⟩
abbrev cX7_sheet : ByteArray := prog_9_method_73_code
def yX7_sheet : MethodName := ⟨RX7, "sheet", "(III)I"⟩
abbrev cX7_cell : ByteArray := prog_9_method_74_code
def yX7_cell : MethodName := ⟨RX7, "cell", "(III)I"⟩
abbrev cX7_copy : ByteArray := prog_9_method_75_code
def yX7_copy : MethodName := ⟨RX7, "copy", "(IIIII)I"⟩
abbrev cX7_sights : ByteArray := prog_9_method_76_code
def yX7_sights : MethodName := ⟨RX7, "sights", "(IIII)I"⟩
abbrev cX7_over : ByteArray := prog_9_method_77_code
def yX7_over : MethodName := ⟨RX7, "over", "(I)I"⟩
abbrev cX7_taken : ByteArray := prog_9_method_78_code
def yX7_taken : MethodName := ⟨RX7, "taken", "(II)I"⟩
def RJx145de : String := "java/io/Serializable"
def TJx145de : u_T := fun k => match k with
  | _ => ("", "", "", false)
def tyJx145de : Nat → FieldType := fun k => match k with
  | _ => .int
abbrev wsJx145de0 : List Cond := u_ws RJx145de TJx145de 0
theorem nmJx145de : ∀ a, a < 0 → ∀ b, b < 0 → a ≠ b → (TJx145de a).2.1 ≠ (TJx145de b).2.1 := by decide +kernel
theorem tyJx145de_ok : ∀ k, k < 0 → parseFieldDescriptor (TJx145de k).2.2.1 = some (tyJx145de k) := by decide +kernel
def RJx9f9b0 : String := "java/lang/CharSequence"
def TJx9f9b0 : u_T := fun k => match k with
  | _ => ("", "", "", false)
def tyJx9f9b0 : Nat → FieldType := fun k => match k with
  | _ => .int
abbrev wsJx9f9b00 : List Cond := u_ws RJx9f9b0 TJx9f9b0 0
theorem nmJx9f9b0 : ∀ a, a < 0 → ∀ b, b < 0 → a ≠ b → (TJx9f9b0 a).2.1 ≠ (TJx9f9b0 b).2.1 := by decide +kernel
theorem tyJx9f9b0_ok : ∀ k, k < 0 → parseFieldDescriptor (TJx9f9b0 k).2.2.1 = some (tyJx9f9b0 k) := by decide +kernel
def RJ11 : String := "java/lang/Character"
def TJ11 : u_T := fun k => match k with
  | _ => ("", "", "", false)
def tyJ11 : Nat → FieldType := fun k => match k with
  | _ => .int
abbrev wsJ110 : List Cond := u_ws RJ11 TJ11 0
theorem nmJ11 : ∀ a, a < 0 → ∀ b, b < 0 → a ≠ b → (TJ11 a).2.1 ≠ (TJ11 b).2.1 := by decide +kernel
theorem tyJ11_ok : ∀ k, k < 0 → parseFieldDescriptor (TJ11 k).2.2.1 = some (tyJ11 k) := by decide +kernel
abbrev cJ11_isValidCodePoint_9a6ad : ByteArray := prog_10_method_11_code
def yJ11_isValidCodePoint_9a6ad : MethodName := ⟨RJ11, "isValidCodePoint", "(I)Z"⟩
abbrev cJ11_highSurrogate_5068e : ByteArray := prog_10_method_28_code
def yJ11_highSurrogate_5068e : MethodName := ⟨RJ11, "highSurrogate", "(I)C"⟩
abbrev cJ11_lowSurrogate_5068e : ByteArray := prog_10_method_29_code
def yJ11_lowSurrogate_5068e : MethodName := ⟨RJ11, "lowSurrogate", "(I)C"⟩
def RJxb160c : String := "java/lang/Comparable"
def TJxb160c : u_T := fun k => match k with
  | _ => ("", "", "", false)
def tyJxb160c : Nat → FieldType := fun k => match k with
  | _ => .int
abbrev wsJxb160c0 : List Cond := u_ws RJxb160c TJxb160c 0
theorem nmJxb160c : ∀ a, a < 0 → ∀ b, b < 0 → a ≠ b → (TJxb160c a).2.1 ≠ (TJxb160c b).2.1 := by decide +kernel
theorem tyJxb160c_ok : ∀ k, k < 0 → parseFieldDescriptor (TJxb160c k).2.2.1 = some (tyJxb160c k) := by decide +kernel
def RJ6 : String := "java/lang/Integer"
def TJ6 : u_T := fun k => match k with
  | _ => ("", "", "", false)
def tyJ6 : Nat → FieldType := fun k => match k with
  | _ => .int
abbrev wsJ60 : List Cond := u_ws RJ6 TJ6 0
theorem nmJ6 : ∀ a, a < 0 → ∀ b, b < 0 → a ≠ b → (TJ6 a).2.1 ≠ (TJ6 b).2.1 := by decide +kernel
theorem tyJ6_ok : ∀ k, k < 0 → parseFieldDescriptor (TJ6 k).2.2.1 = some (tyJ6 k) := by decide +kernel
abbrev cJ6_bitCount_0f7a4 : ByteArray := prog_11_method_49_code
def yJ6_bitCount_0f7a4 : MethodName := ⟨RJ6, "bitCount", "(I)I"⟩
def RJ9 : String := "java/lang/Math"
def TJ9 : u_T := fun k => match k with
  | _ => ("", "", "", false)
def tyJ9 : Nat → FieldType := fun k => match k with
  | _ => .int
abbrev wsJ90 : List Cond := u_ws RJ9 TJ9 0
theorem nmJ9 : ∀ a, a < 0 → ∀ b, b < 0 → a ≠ b → (TJ9 a).2.1 ≠ (TJ9 b).2.1 := by decide +kernel
theorem tyJ9_ok : ∀ k, k < 0 → parseFieldDescriptor (TJ9 k).2.2.1 = some (tyJ9 k) := by decide +kernel
abbrev cJ9_abs_0f7a4 : ByteArray := prog_12_method_59_code
def yJ9_abs_0f7a4 : MethodName := ⟨RJ9, "abs", "(I)I"⟩
abbrev cJ9_max_7cf53 : ByteArray := prog_12_method_65_code
def yJ9_max_7cf53 : MethodName := ⟨RJ9, "max", "(II)I"⟩
abbrev cJ9_min_7cf53 : ByteArray := prog_12_method_69_code
def yJ9_min_7cf53 : MethodName := ⟨RJ9, "min", "(II)I"⟩
def RJ0 : String := "java/lang/String"
def TJ0 : u_T := fun k => match k with
  | _ => ("", "", "", false)
def tyJ0 : Nat → FieldType := fun k => match k with
  | _ => .int
abbrev wsJ00 : List Cond := u_ws RJ0 TJ0 0
theorem nmJ0 : ∀ a, a < 0 → ∀ b, b < 0 → a ≠ b → (TJ0 a).2.1 ≠ (TJ0 b).2.1 := by decide +kernel
theorem tyJ0_ok : ∀ k, k < 0 → parseFieldDescriptor (TJ0 k).2.2.1 = some (tyJ0 k) := by decide +kernel
abbrev cJ0_length_8abf5 : ByteArray := prog_13_method_54_code
def yJ0_length_8abf5 : MethodName := ⟨RJ0, "length", "()I"⟩
abbrev cJ0_charAt_5068e : ByteArray := prog_13_method_56_code
def yJ0_charAt_5068e : MethodName := ⟨RJ0, "charAt", "(I)C"⟩
abbrev cJ0_indexOf_0f7a4 : ByteArray := prog_13_method_79_code
def yJ0_indexOf_0f7a4 : MethodName := ⟨RJ0, "indexOf", "(I)I"⟩
abbrev cJ0_indexOf_7cf53 : ByteArray := prog_13_method_80_code
def yJ0_indexOf_7cf53 : MethodName := ⟨RJ0, "indexOf", "(II)I"⟩
abbrev cJ0_coder_7d493 : ByteArray := prog_13_method_152_code
def yJ0_coder_7d493 : MethodName := ⟨RJ0, "coder", "()B"⟩
abbrev cJ0_isLatin1_aae02 : ByteArray := prog_13_method_154_code
def yJ0_isLatin1_aae02 : MethodName := ⟨RJ0, "isLatin1", "()Z"⟩
abbrev cJ0_checkIndex_df160 : ByteArray := prog_13_method_155_code
def yJ0_checkIndex_df160 : MethodName := ⟨RJ0, "checkIndex", "(II)V"⟩
abbrev cJ0_checkBoundsBeginEnd_23922 : ByteArray := prog_13_method_158_code
def yJ0_checkBoundsBeginEnd_23922 : MethodName := ⟨RJ0, "checkBoundsBeginEnd", "(III)V"⟩
def RJ1 : String := "java/lang/StringLatin1"
def TJ1 : u_T := fun k => match k with
  | _ => ("", "", "", false)
def tyJ1 : Nat → FieldType := fun k => match k with
  | _ => .int
abbrev wsJ10 : List Cond := u_ws RJ1 TJ1 0
theorem nmJ1 : ∀ a, a < 0 → ∀ b, b < 0 → a ≠ b → (TJ1 a).2.1 ≠ (TJ1 b).2.1 := by decide +kernel
theorem tyJ1_ok : ∀ k, k < 0 → parseFieldDescriptor (TJ1 k).2.2.1 = some (tyJ1 k) := by decide +kernel
abbrev cJ1_charAt_3b067 : ByteArray := prog_14_method_2_code
def yJ1_charAt_3b067 : MethodName := ⟨RJ1, "charAt", "([BI)C"⟩
abbrev cJ1_canEncode_9a6ad : ByteArray := prog_14_method_4_code
def yJ1_canEncode_9a6ad : MethodName := ⟨RJ1, "canEncode", "(I)Z"⟩
abbrev cJ1_indexOf_4cfef : ByteArray := prog_14_method_22_code
def yJ1_indexOf_4cfef : MethodName := ⟨RJ1, "indexOf", "([BIII)I"⟩
abbrev cJ1_indexOfChar_4cfef : ByteArray := prog_14_method_23_code
def yJ1_indexOfChar_4cfef : MethodName := ⟨RJ1, "indexOfChar", "([BIII)I"⟩
def RJ2 : String := "java/lang/StringUTF16"
def TJ2 : u_T := fun k => match k with
  | _ => ("", "", "", false)
def tyJ2 : Nat → FieldType := fun k => match k with
  | _ => .int
abbrev wsJ20 : List Cond := u_ws RJ2 TJ2 0
theorem nmJ2 : ∀ a, a < 0 → ∀ b, b < 0 → a ≠ b → (TJ2 a).2.1 ≠ (TJ2 b).2.1 := by decide +kernel
theorem tyJ2_ok : ∀ k, k < 0 → parseFieldDescriptor (TJ2 k).2.2.1 = some (tyJ2 k) := by decide +kernel
abbrev cJ2_getChar_3b067 : ByteArray := prog_15_method_5_code
def yJ2_getChar_3b067 : MethodName := ⟨RJ2, "getChar", "([BI)C"⟩
abbrev cJ2_length_9d52b : ByteArray := prog_15_method_6_code
def yJ2_length_9d52b : MethodName := ⟨RJ2, "length", "([B)I"⟩
abbrev cJ2_indexOf_4cfef : ByteArray := prog_15_method_40_code
def yJ2_indexOf_4cfef : MethodName := ⟨RJ2, "indexOf", "([BIII)I"⟩
abbrev cJ2_indexOfChar_4cfef : ByteArray := prog_15_method_47_code
def yJ2_indexOfChar_4cfef : MethodName := ⟨RJ2, "indexOfChar", "([BIII)I"⟩
abbrev cJ2_indexOfCharUnsafe_4cfef : ByteArray := prog_15_method_48_code
def yJ2_indexOfCharUnsafe_4cfef : MethodName := ⟨RJ2, "indexOfCharUnsafe", "([BIII)I"⟩
abbrev cJ2_indexOfSupplementary_4cfef : ByteArray := prog_15_method_49_code
def yJ2_indexOfSupplementary_4cfef : MethodName := ⟨RJ2, "indexOfSupplementary", "([BIII)I"⟩
abbrev cJ2_charAt_3b067 : ByteArray := prog_15_method_83_code
def yJ2_charAt_3b067 : MethodName := ⟨RJ2, "charAt", "([BI)C"⟩
abbrev cJ2_checkIndex_2214a : ByteArray := prog_15_method_91_code
def yJ2_checkIndex_2214a : MethodName := ⟨RJ2, "checkIndex", "(I[B)V"⟩
abbrev cJ2_checkBoundsBeginEnd_d044e : ByteArray := prog_15_method_93_code
def yJ2_checkBoundsBeginEnd_d044e : MethodName := ⟨RJ2, "checkBoundsBeginEnd", "(II[B)V"⟩
def RJ10 : String := "java/lang/System"
def TJ10 : u_T := fun k => match k with
  | _ => ("", "", "", false)
def tyJ10 : Nat → FieldType := fun k => match k with
  | _ => .int
abbrev wsJ100 : List Cond := u_ws RJ10 TJ10 0
theorem nmJ10 : ∀ a, a < 0 → ∀ b, b < 0 → a ≠ b → (TJ10 a).2.1 ≠ (TJ10 b).2.1 := by decide +kernel
theorem tyJ10_ok : ∀ k, k < 0 → parseFieldDescriptor (TJ10 k).2.2.1 = some (tyJ10 k) := by decide +kernel
def RJxfd54e : String := "java/lang/constant/Constable"
def TJxfd54e : u_T := fun k => match k with
  | _ => ("", "", "", false)
def tyJxfd54e : Nat → FieldType := fun k => match k with
  | _ => .int
abbrev wsJxfd54e0 : List Cond := u_ws RJxfd54e TJxfd54e 0
theorem nmJxfd54e : ∀ a, a < 0 → ∀ b, b < 0 → a ≠ b → (TJxfd54e a).2.1 ≠ (TJxfd54e b).2.1 := by decide +kernel
theorem tyJxfd54e_ok : ∀ k, k < 0 → parseFieldDescriptor (TJxfd54e k).2.2.1 = some (tyJxfd54e k) := by decide +kernel
def RJx3cf43 : String := "java/lang/constant/ConstantDesc"
def TJx3cf43 : u_T := fun k => match k with
  | _ => ("", "", "", false)
def tyJx3cf43 : Nat → FieldType := fun k => match k with
  | _ => .int
abbrev wsJx3cf430 : List Cond := u_ws RJx3cf43 TJx3cf43 0
theorem nmJx3cf43 : ∀ a, a < 0 → ∀ b, b < 0 → a ≠ b → (TJx3cf43 a).2.1 ≠ (TJx3cf43 b).2.1 := by decide +kernel
theorem tyJx3cf43_ok : ∀ k, k < 0 → parseFieldDescriptor (TJx3cf43 k).2.2.1 = some (tyJx3cf43 k) := by decide +kernel
def RJ7 : String := "java/util/Arrays"
def TJ7 : u_T := fun k => match k with
  | _ => ("", "", "", false)
def tyJ7 : Nat → FieldType := fun k => match k with
  | _ => .int
abbrev wsJ70 : List Cond := u_ws RJ7 TJ7 0
theorem nmJ7 : ∀ a, a < 0 → ∀ b, b < 0 → a ≠ b → (TJ7 a).2.1 ≠ (TJ7 b).2.1 := by decide +kernel
theorem tyJ7_ok : ∀ k, k < 0 → parseFieldDescriptor (TJ7 k).2.2.1 = some (tyJ7 k) := by decide +kernel
abbrev cJ7_fill_53178 : ByteArray := prog_17_method_103_code
def yJ7_fill_53178 : MethodName := ⟨RJ7, "fill", "([II)V"⟩
def RJ3 : String := "jdk/internal/util/Preconditions"
def TJ3 : u_T := fun k => match k with
  | _ => ("", "", "", false)
def tyJ3 : Nat → FieldType := fun k => match k with
  | _ => .int
abbrev wsJ30 : List Cond := u_ws RJ3 TJ3 0
theorem nmJ3 : ∀ a, a < 0 → ∀ b, b < 0 → a ≠ b → (TJ3 a).2.1 ≠ (TJ3 b).2.1 := by decide +kernel
theorem tyJ3_ok : ∀ k, k < 0 → parseFieldDescriptor (TJ3 k).2.2.1 = some (tyJ3 k) := by decide +kernel
abbrev cJ3_checkIndex_8e157 : ByteArray := prog_18_method_11_code
def yJ3_checkIndex_8e157 : MethodName := ⟨RJ3, "checkIndex", "(IILjava/util/function/BiFunction;)I"⟩
abbrev cJ3_checkFromToIndex_8c36e : ByteArray := prog_18_method_12_code
def yJ3_checkFromToIndex_8c36e : MethodName := ⟨RJ3, "checkFromToIndex", "(IIILjava/util/function/BiFunction;)I"⟩
def RL : String := "AHundredSightsLaw"
abbrev cL_law : ByteArray := code
def yL_law : MethodName := ⟨RL, "law", "([I)Z"⟩
end
section
theorem dX0_init_0 : decode cX0_init 0 = .ok (.aload_n 0, 1) := by decide +kernel
theorem dX0_init_1 : decode cX0_init 1 = .ok (.invokespecial 3, 3) := by decide +kernel
theorem dX0_init_4 : decode cX0_init 4 = .ok (.aload_n 0, 1) := by decide +kernel
theorem dX0_init_5 : decode cX0_init 5 = .ok (.iconst (-1), 1) := by decide +kernel
theorem dX0_init_6 : decode cX0_init 6 = .ok (.putfield 9, 3) := by decide +kernel
theorem dX0_init_9 : decode cX0_init 9 = .ok (.aload_n 0, 1) := by decide +kernel
theorem dX0_init_10 : decode cX0_init 10 = .ok (.ldc 15, 2) := by decide +kernel
theorem dX0_init_12 : decode cX0_init 12 = .ok (.putfield 16, 3) := by decide +kernel
theorem dX0_init_15 : decode cX0_init 15 = .ok (.return_, 1) := by decide +kernel
theorem dX0_weigh_0 : decode cX0_weigh 0 = .ok (.iload_n 2, 1) := by decide +kernel
theorem dX0_weigh_1 : decode cX0_weigh 1 = .ok (.aload_n 0, 1) := by decide +kernel
theorem dX0_weigh_2 : decode cX0_weigh 2 = .ok (.getfield 16, 3) := by decide +kernel
theorem dX0_weigh_5 : decode cX0_weigh 5 = .ok (.if_icmp .le 13, 3) := by decide +kernel
theorem dX0_weigh_8 : decode cX0_weigh 8 = .ok (.aload_n 0, 1) := by decide +kernel
theorem dX0_weigh_9 : decode cX0_weigh 9 = .ok (.iload_n 1, 1) := by decide +kernel
theorem dX0_weigh_10 : decode cX0_weigh 10 = .ok (.putfield 9, 3) := by decide +kernel
theorem dX0_weigh_13 : decode cX0_weigh 13 = .ok (.aload_n 0, 1) := by decide +kernel
theorem dX0_weigh_14 : decode cX0_weigh 14 = .ok (.iload_n 2, 1) := by decide +kernel
theorem dX0_weigh_15 : decode cX0_weigh 15 = .ok (.putfield 16, 3) := by decide +kernel
theorem dX0_weigh_18 : decode cX0_weigh 18 = .ok (.return_, 1) := by decide +kernel
theorem dX0_answer_0 : decode cX0_answer 0 = .ok (.iload_n 1, 1) := by decide +kernel
theorem dX0_answer_1 : decode cX0_answer 1 = .ok (.ifCond .ne 10, 3) := by decide +kernel
theorem dX0_answer_4 : decode cX0_answer 4 = .ok (.aload_n 0, 1) := by decide +kernel
theorem dX0_answer_5 : decode cX0_answer 5 = .ok (.getfield 16, 3) := by decide +kernel
theorem dX0_answer_8 : decode cX0_answer 8 = .ok (.goto 7, 3) := by decide +kernel
theorem dX0_answer_11 : decode cX0_answer 11 = .ok (.aload_n 0, 1) := by decide +kernel
theorem dX0_answer_12 : decode cX0_answer 12 = .ok (.getfield 9, 3) := by decide +kernel
theorem dX0_answer_15 : decode cX0_answer 15 = .ok (.ireturn, 1) := by decide +kernel
theorem dX1_init_0 : decode cX1_init 0 = .ok (.aload_n 0, 1) := by decide +kernel
theorem dX1_init_1 : decode cX1_init 1 = .ok (.invokespecial 3, 3) := by decide +kernel
theorem dX1_init_4 : decode cX1_init 4 = .ok (.aload_n 0, 1) := by decide +kernel
theorem dX1_init_5 : decode cX1_init 5 = .ok (.sipush 160, 3) := by decide +kernel
theorem dX1_init_8 : decode cX1_init 8 = .ok (.newarray .int, 2) := by decide +kernel
theorem dX1_init_10 : decode cX1_init 10 = .ok (.putfield 9, 3) := by decide +kernel
theorem dX1_init_13 : decode cX1_init 13 = .ok (.aload_n 0, 1) := by decide +kernel
theorem dX1_init_14 : decode cX1_init 14 = .ok (.iconst 0, 1) := by decide +kernel
theorem dX1_init_15 : decode cX1_init 15 = .ok (.putfield 15, 3) := by decide +kernel
theorem dX1_init_18 : decode cX1_init 18 = .ok (.aload_n 0, 1) := by decide +kernel
theorem dX1_init_19 : decode cX1_init 19 = .ok (.new 19, 3) := by decide +kernel
theorem dX1_init_22 : decode cX1_init 22 = .ok (.dup, 1) := by decide +kernel
theorem dX1_init_23 : decode cX1_init 23 = .ok (.invokespecial 21, 3) := by decide +kernel
theorem dX1_init_26 : decode cX1_init 26 = .ok (.putfield 22, 3) := by decide +kernel
theorem dX1_init_29 : decode cX1_init 29 = .ok (.aload_n 0, 1) := by decide +kernel
theorem dX1_init_30 : decode cX1_init 30 = .ok (.iconst 0, 1) := by decide +kernel
theorem dX1_init_31 : decode cX1_init 31 = .ok (.putfield 26, 3) := by decide +kernel
theorem dX1_init_34 : decode cX1_init 34 = .ok (.aload_n 0, 1) := by decide +kernel
theorem dX1_init_35 : decode cX1_init 35 = .ok (.iconst 0, 1) := by decide +kernel
theorem dX1_init_36 : decode cX1_init 36 = .ok (.putfield 29, 3) := by decide +kernel
theorem dX1_init_39 : decode cX1_init 39 = .ok (.aload_n 0, 1) := by decide +kernel
theorem dX1_init_40 : decode cX1_init 40 = .ok (.iconst (-1), 1) := by decide +kernel
theorem dX1_init_41 : decode cX1_init 41 = .ok (.putfield 32, 3) := by decide +kernel
theorem dX1_init_44 : decode cX1_init 44 = .ok (.aload_n 0, 1) := by decide +kernel
theorem dX1_init_45 : decode cX1_init 45 = .ok (.iconst 0, 1) := by decide +kernel
theorem dX1_init_46 : decode cX1_init 46 = .ok (.putfield 35, 3) := by decide +kernel
theorem dX1_init_49 : decode cX1_init 49 = .ok (.aload_n 0, 1) := by decide +kernel
theorem dX1_init_50 : decode cX1_init 50 = .ok (.iconst 0, 1) := by decide +kernel
theorem dX1_init_51 : decode cX1_init 51 = .ok (.putfield 38, 3) := by decide +kernel
theorem dX1_init_54 : decode cX1_init 54 = .ok (.return_, 1) := by decide +kernel
theorem dX1_append_0 : decode cX1_append 0 = .ok (.aload_n 0, 1) := by decide +kernel
theorem dX1_append_1 : decode cX1_append 1 = .ok (.getfield 15, 3) := by decide +kernel
theorem dX1_append_4 : decode cX1_append 4 = .ok (.aload_n 0, 1) := by decide +kernel
theorem dX1_append_5 : decode cX1_append 5 = .ok (.getfield 9, 3) := by decide +kernel
theorem dX1_append_8 : decode cX1_append 8 = .ok (.arraylength, 1) := by decide +kernel
theorem dX1_append_9 : decode cX1_append 9 = .ok (.if_icmp .lt 6, 3) := by decide +kernel
theorem dX1_append_12 : decode cX1_append 12 = .ok (.bipush (-4), 2) := by decide +kernel
theorem dX1_append_14 : decode cX1_append 14 = .ok (.ireturn, 1) := by decide +kernel
theorem dX1_append_15 : decode cX1_append 15 = .ok (.aload_n 0, 1) := by decide +kernel
theorem dX1_append_16 : decode cX1_append 16 = .ok (.getfield 9, 3) := by decide +kernel
theorem dX1_append_19 : decode cX1_append 19 = .ok (.aload_n 0, 1) := by decide +kernel
theorem dX1_append_20 : decode cX1_append 20 = .ok (.getfield 15, 3) := by decide +kernel
theorem dX1_append_23 : decode cX1_append 23 = .ok (.iload_n 1, 1) := by decide +kernel
theorem dX1_append_24 : decode cX1_append 24 = .ok (.iastore, 1) := by decide +kernel
theorem dX1_append_25 : decode cX1_append 25 = .ok (.aload_n 0, 1) := by decide +kernel
theorem dX1_append_26 : decode cX1_append 26 = .ok (.dup, 1) := by decide +kernel
theorem dX1_append_27 : decode cX1_append 27 = .ok (.getfield 15, 3) := by decide +kernel
theorem dX1_append_30 : decode cX1_append 30 = .ok (.iconst 1, 1) := by decide +kernel
theorem dX1_append_31 : decode cX1_append 31 = .ok (.iadd, 1) := by decide +kernel
theorem dX1_append_32 : decode cX1_append 32 = .ok (.putfield 15, 3) := by decide +kernel
theorem dX1_append_35 : decode cX1_append 35 = .ok (.aload_n 0, 1) := by decide +kernel
theorem dX1_append_36 : decode cX1_append 36 = .ok (.getfield 15, 3) := by decide +kernel
theorem dX1_append_39 : decode cX1_append 39 = .ok (.ireturn, 1) := by decide +kernel
theorem dX1_readInto_0 : decode cX1_readInto 0 = .ok (.aload_n 0, 1) := by decide +kernel
theorem dX1_readInto_1 : decode cX1_readInto 1 = .ok (.aload_n 1, 1) := by decide +kernel
theorem dX1_readInto_2 : decode cX1_readInto 2 = .ok (.putfield 22, 3) := by decide +kernel
theorem dX1_readInto_5 : decode cX1_readInto 5 = .ok (.aload_n 0, 1) := by decide +kernel
theorem dX1_readInto_6 : decode cX1_readInto 6 = .ok (.getfield 22, 3) := by decide +kernel
theorem dX1_readInto_9 : decode cX1_readInto 9 = .ok (.invokevirtual 41, 3) := by decide +kernel
theorem dX1_readInto_12 : decode cX1_readInto 12 = .ok (.aload_n 0, 1) := by decide +kernel
theorem dX1_readInto_13 : decode cX1_readInto 13 = .ok (.iconst 0, 1) := by decide +kernel
theorem dX1_readInto_14 : decode cX1_readInto 14 = .ok (.putfield 29, 3) := by decide +kernel
theorem dX1_readInto_17 : decode cX1_readInto 17 = .ok (.aload_n 0, 1) := by decide +kernel
theorem dX1_readInto_18 : decode cX1_readInto 18 = .ok (.iconst 0, 1) := by decide +kernel
theorem dX1_readInto_19 : decode cX1_readInto 19 = .ok (.putfield 38, 3) := by decide +kernel
theorem dX1_readInto_22 : decode cX1_readInto 22 = .ok (.aload_n 0, 1) := by decide +kernel
theorem dX1_readInto_23 : decode cX1_readInto 23 = .ok (.invokevirtual 44, 3) := by decide +kernel
theorem dX1_readInto_26 : decode cX1_readInto 26 = .ok (.aload_n 0, 1) := by decide +kernel
theorem dX1_readInto_27 : decode cX1_readInto 27 = .ok (.sipush 258, 3) := by decide +kernel
theorem dX1_readInto_30 : decode cX1_readInto 30 = .ok (.iconst 0, 1) := by decide +kernel
theorem dX1_readInto_31 : decode cX1_readInto 31 = .ok (.invokevirtual 47, 3) := by decide +kernel
theorem dX1_readInto_34 : decode cX1_readInto 34 = .ok (.ifCond .eq 37, 3) := by decide +kernel
theorem dX1_readInto_37 : decode cX1_readInto 37 = .ok (.aload_n 0, 1) := by decide +kernel
theorem dX1_readInto_38 : decode cX1_readInto 38 = .ok (.sipush 259, 3) := by decide +kernel
theorem dX1_readInto_41 : decode cX1_readInto 41 = .ok (.iconst 1, 1) := by decide +kernel
theorem dX1_readInto_42 : decode cX1_readInto 42 = .ok (.invokevirtual 47, 3) := by decide +kernel
theorem dX1_readInto_45 : decode cX1_readInto 45 = .ok (.ifCond .eq 26, 3) := by decide +kernel
theorem dX1_readInto_48 : decode cX1_readInto 48 = .ok (.aload_n 0, 1) := by decide +kernel
theorem dX1_readInto_49 : decode cX1_readInto 49 = .ok (.sipush 260, 3) := by decide +kernel
theorem dX1_readInto_52 : decode cX1_readInto 52 = .ok (.iconst 2, 1) := by decide +kernel
theorem dX1_readInto_53 : decode cX1_readInto 53 = .ok (.invokevirtual 47, 3) := by decide +kernel
theorem dX1_readInto_56 : decode cX1_readInto 56 = .ok (.ifCond .eq 15, 3) := by decide +kernel
theorem dX1_readInto_59 : decode cX1_readInto 59 = .ok (.aload_n 0, 1) := by decide +kernel
theorem dX1_readInto_60 : decode cX1_readInto 60 = .ok (.getfield 32, 3) := by decide +kernel
theorem dX1_readInto_63 : decode cX1_readInto 63 = .ok (.iconst (-1), 1) := by decide +kernel
theorem dX1_readInto_64 : decode cX1_readInto 64 = .ok (.if_icmp .ne 7, 3) := by decide +kernel
theorem dX1_readInto_67 : decode cX1_readInto 67 = .ok (.iconst 1, 1) := by decide +kernel
theorem dX1_readInto_68 : decode cX1_readInto 68 = .ok (.goto 4, 3) := by decide +kernel
theorem dX1_readInto_71 : decode cX1_readInto 71 = .ok (.iconst 0, 1) := by decide +kernel
theorem dX1_readInto_72 : decode cX1_readInto 72 = .ok (.istore_n 2, 1) := by decide +kernel
theorem dX1_readInto_73 : decode cX1_readInto 73 = .ok (.aload_n 0, 1) := by decide +kernel
theorem dX1_readInto_74 : decode cX1_readInto 74 = .ok (.iconst 0, 1) := by decide +kernel
theorem dX1_readInto_75 : decode cX1_readInto 75 = .ok (.putfield 15, 3) := by decide +kernel
theorem dX1_readInto_78 : decode cX1_readInto 78 = .ok (.iload_n 2, 1) := by decide +kernel
theorem dX1_readInto_79 : decode cX1_readInto 79 = .ok (.ifCond .eq 7, 3) := by decide +kernel
theorem dX1_readInto_82 : decode cX1_readInto 82 = .ok (.iconst (-1), 1) := by decide +kernel
theorem dX1_readInto_83 : decode cX1_readInto 83 = .ok (.goto 7, 3) := by decide +kernel
theorem dX1_readInto_86 : decode cX1_readInto 86 = .ok (.aload_n 0, 1) := by decide +kernel
theorem dX1_readInto_87 : decode cX1_readInto 87 = .ok (.getfield 26, 3) := by decide +kernel
theorem dX1_readInto_90 : decode cX1_readInto 90 = .ok (.ireturn, 1) := by decide +kernel
theorem dX1_readPart_0 : decode cX1_readPart 0 = .ok (.aload_n 0, 1) := by decide +kernel
theorem dX1_readPart_1 : decode cX1_readPart 1 = .ok (.iload_n 1, 1) := by decide +kernel
theorem dX1_readPart_2 : decode cX1_readPart 2 = .ok (.invokevirtual 51, 3) := by decide +kernel
theorem dX1_readPart_5 : decode cX1_readPart 5 = .ok (.ifCond .eq 19, 3) := by decide +kernel
theorem dX1_readPart_8 : decode cX1_readPart 8 = .ok (.aload_n 0, 1) := by decide +kernel
theorem dX1_readPart_9 : decode cX1_readPart 9 = .ok (.invokevirtual 55, 3) := by decide +kernel
theorem dX1_readPart_12 : decode cX1_readPart 12 = .ok (.ifCond .eq 12, 3) := by decide +kernel
theorem dX1_readPart_15 : decode cX1_readPart 15 = .ok (.aload_n 0, 1) := by decide +kernel
theorem dX1_readPart_16 : decode cX1_readPart 16 = .ok (.bipush 59, 2) := by decide +kernel
theorem dX1_readPart_18 : decode cX1_readPart 18 = .ok (.invokevirtual 51, 3) := by decide +kernel
theorem dX1_readPart_21 : decode cX1_readPart 21 = .ok (.ifCond .ne 5, 3) := by decide +kernel
theorem dX1_readPart_24 : decode cX1_readPart 24 = .ok (.iconst 0, 1) := by decide +kernel
theorem dX1_readPart_25 : decode cX1_readPart 25 = .ok (.ireturn, 1) := by decide +kernel
theorem dX1_readPart_26 : decode cX1_readPart 26 = .ok (.aload_n 0, 1) := by decide +kernel
theorem dX1_readPart_27 : decode cX1_readPart 27 = .ok (.getfield 22, 3) := by decide +kernel
theorem dX1_readPart_30 : decode cX1_readPart 30 = .ok (.iload_n 2, 1) := by decide +kernel
theorem dX1_readPart_31 : decode cX1_readPart 31 = .ok (.invokevirtual 59, 3) := by decide +kernel
theorem dX1_readPart_34 : decode cX1_readPart 34 = .ok (.iconst 1, 1) := by decide +kernel
theorem dX1_readPart_35 : decode cX1_readPart 35 = .ok (.ireturn, 1) := by decide +kernel
theorem dX1_passes_0 : decode cX1_passes 0 = .ok (.aload_n 0, 1) := by decide +kernel
theorem dX1_passes_1 : decode cX1_passes 1 = .ok (.getfield 32, 3) := by decide +kernel
theorem dX1_passes_4 : decode cX1_passes 4 = .ok (.iload_n 1, 1) := by decide +kernel
theorem dX1_passes_5 : decode cX1_passes 5 = .ok (.if_icmp .eq 5, 3) := by decide +kernel
theorem dX1_passes_8 : decode cX1_passes 8 = .ok (.iconst 0, 1) := by decide +kernel
theorem dX1_passes_9 : decode cX1_passes 9 = .ok (.ireturn, 1) := by decide +kernel
theorem dX1_passes_10 : decode cX1_passes 10 = .ok (.aload_n 0, 1) := by decide +kernel
theorem dX1_passes_11 : decode cX1_passes 11 = .ok (.invokevirtual 44, 3) := by decide +kernel
theorem dX1_passes_14 : decode cX1_passes 14 = .ok (.iconst 1, 1) := by decide +kernel
theorem dX1_passes_15 : decode cX1_passes 15 = .ok (.ireturn, 1) := by decide +kernel
theorem dX1_readEither_0 : decode cX1_readEither 0 = .ok (.aload_n 0, 1) := by decide +kernel
theorem dX1_readEither_1 : decode cX1_readEither 1 = .ok (.invokevirtual 63, 3) := by decide +kernel
theorem dX1_readEither_4 : decode cX1_readEither 4 = .ok (.istore_n 1, 1) := by decide +kernel
theorem dX1_readEither_5 : decode cX1_readEither 5 = .ok (.iconst 0, 1) := by decide +kernel
theorem dX1_readEither_6 : decode cX1_readEither 6 = .ok (.istore_n 2, 1) := by decide +kernel
theorem dX1_readEither_7 : decode cX1_readEither 7 = .ok (.iload_n 2, 1) := by decide +kernel
theorem dX1_readEither_8 : decode cX1_readEither 8 = .ok (.sipush 160, 3) := by decide +kernel
theorem dX1_readEither_11 : decode cX1_readEither 11 = .ok (.if_icmp .ge 41, 3) := by decide +kernel
theorem dX1_readEither_14 : decode cX1_readEither 14 = .ok (.iload_n 1, 1) := by decide +kernel
theorem dX1_readEither_15 : decode cX1_readEither 15 = .ok (.ifCond .eq 37, 3) := by decide +kernel
theorem dX1_readEither_18 : decode cX1_readEither 18 = .ok (.aload_n 0, 1) := by decide +kernel
theorem dX1_readEither_19 : decode cX1_readEither 19 = .ok (.getfield 32, 3) := by decide +kernel
theorem dX1_readEither_22 : decode cX1_readEither 22 = .ok (.sipush 261, 3) := by decide +kernel
theorem dX1_readEither_25 : decode cX1_readEither 25 = .ok (.if_icmp .ne 27, 3) := by decide +kernel
theorem dX1_readEither_28 : decode cX1_readEither 28 = .ok (.aload_n 0, 1) := by decide +kernel
theorem dX1_readEither_29 : decode cX1_readEither 29 = .ok (.invokevirtual 44, 3) := by decide +kernel
theorem dX1_readEither_32 : decode cX1_readEither 32 = .ok (.aload_n 0, 1) := by decide +kernel
theorem dX1_readEither_33 : decode cX1_readEither 33 = .ok (.invokevirtual 63, 3) := by decide +kernel
theorem dX1_readEither_36 : decode cX1_readEither 36 = .ok (.istore_n 1, 1) := by decide +kernel
theorem dX1_readEither_37 : decode cX1_readEither 37 = .ok (.aload_n 0, 1) := by decide +kernel
theorem dX1_readEither_38 : decode cX1_readEither 38 = .ok (.getfield 22, 3) := by decide +kernel
theorem dX1_readEither_41 : decode cX1_readEither 41 = .ok (.bipush (-9), 2) := by decide +kernel
theorem dX1_readEither_43 : decode cX1_readEither 43 = .ok (.invokevirtual 66, 3) := by decide +kernel
theorem dX1_readEither_46 : decode cX1_readEither 46 = .ok (.iinc 2 1, 3) := by decide +kernel
theorem dX1_readEither_49 : decode cX1_readEither 49 = .ok (.goto (-42), 3) := by decide +kernel
theorem dX1_readEither_52 : decode cX1_readEither 52 = .ok (.iload_n 1, 1) := by decide +kernel
theorem dX1_readEither_53 : decode cX1_readEither 53 = .ok (.ireturn, 1) := by decide +kernel
theorem dX1_readBoth_0 : decode cX1_readBoth 0 = .ok (.aload_n 0, 1) := by decide +kernel
theorem dX1_readBoth_1 : decode cX1_readBoth 1 = .ok (.invokevirtual 69, 3) := by decide +kernel
theorem dX1_readBoth_4 : decode cX1_readBoth 4 = .ok (.istore_n 1, 1) := by decide +kernel
theorem dX1_readBoth_5 : decode cX1_readBoth 5 = .ok (.iconst 0, 1) := by decide +kernel
theorem dX1_readBoth_6 : decode cX1_readBoth 6 = .ok (.istore_n 2, 1) := by decide +kernel
theorem dX1_readBoth_7 : decode cX1_readBoth 7 = .ok (.iload_n 2, 1) := by decide +kernel
theorem dX1_readBoth_8 : decode cX1_readBoth 8 = .ok (.sipush 160, 3) := by decide +kernel
theorem dX1_readBoth_11 : decode cX1_readBoth 11 = .ok (.if_icmp .ge 41, 3) := by decide +kernel
theorem dX1_readBoth_14 : decode cX1_readBoth 14 = .ok (.iload_n 1, 1) := by decide +kernel
theorem dX1_readBoth_15 : decode cX1_readBoth 15 = .ok (.ifCond .eq 37, 3) := by decide +kernel
theorem dX1_readBoth_18 : decode cX1_readBoth 18 = .ok (.aload_n 0, 1) := by decide +kernel
theorem dX1_readBoth_19 : decode cX1_readBoth 19 = .ok (.getfield 32, 3) := by decide +kernel
theorem dX1_readBoth_22 : decode cX1_readBoth 22 = .ok (.sipush 262, 3) := by decide +kernel
theorem dX1_readBoth_25 : decode cX1_readBoth 25 = .ok (.if_icmp .ne 27, 3) := by decide +kernel
theorem dX1_readBoth_28 : decode cX1_readBoth 28 = .ok (.aload_n 0, 1) := by decide +kernel
theorem dX1_readBoth_29 : decode cX1_readBoth 29 = .ok (.invokevirtual 44, 3) := by decide +kernel
theorem dX1_readBoth_32 : decode cX1_readBoth 32 = .ok (.aload_n 0, 1) := by decide +kernel
theorem dX1_readBoth_33 : decode cX1_readBoth 33 = .ok (.invokevirtual 69, 3) := by decide +kernel
theorem dX1_readBoth_36 : decode cX1_readBoth 36 = .ok (.istore_n 1, 1) := by decide +kernel
theorem dX1_readBoth_37 : decode cX1_readBoth 37 = .ok (.aload_n 0, 1) := by decide +kernel
theorem dX1_readBoth_38 : decode cX1_readBoth 38 = .ok (.getfield 22, 3) := by decide +kernel
theorem dX1_readBoth_41 : decode cX1_readBoth 41 = .ok (.bipush (-10), 2) := by decide +kernel
theorem dX1_readBoth_43 : decode cX1_readBoth 43 = .ok (.invokevirtual 66, 3) := by decide +kernel
theorem dX1_readBoth_46 : decode cX1_readBoth 46 = .ok (.iinc 2 1, 3) := by decide +kernel
theorem dX1_readBoth_49 : decode cX1_readBoth 49 = .ok (.goto (-42), 3) := by decide +kernel
theorem dX1_readBoth_52 : decode cX1_readBoth 52 = .ok (.iload_n 1, 1) := by decide +kernel
theorem dX1_readBoth_53 : decode cX1_readBoth 53 = .ok (.ireturn, 1) := by decide +kernel
theorem dX1_readNot_0 : decode cX1_readNot 0 = .ok (.aload_n 0, 1) := by decide +kernel
theorem dX1_readNot_1 : decode cX1_readNot 1 = .ok (.getfield 32, 3) := by decide +kernel
theorem dX1_readNot_4 : decode cX1_readNot 4 = .ok (.sipush 263, 3) := by decide +kernel
theorem dX1_readNot_7 : decode cX1_readNot 7 = .ok (.if_icmp .eq 8, 3) := by decide +kernel
theorem dX1_readNot_10 : decode cX1_readNot 10 = .ok (.aload_n 0, 1) := by decide +kernel
theorem dX1_readNot_11 : decode cX1_readNot 11 = .ok (.invokevirtual 72, 3) := by decide +kernel
theorem dX1_readNot_14 : decode cX1_readNot 14 = .ok (.ireturn, 1) := by decide +kernel
theorem dX1_readNot_15 : decode cX1_readNot 15 = .ok (.aload_n 0, 1) := by decide +kernel
theorem dX1_readNot_16 : decode cX1_readNot 16 = .ok (.invokevirtual 75, 3) := by decide +kernel
theorem dX1_readNot_19 : decode cX1_readNot 19 = .ok (.ifCond .ne 5, 3) := by decide +kernel
theorem dX1_readNot_22 : decode cX1_readNot 22 = .ok (.iconst 0, 1) := by decide +kernel
theorem dX1_readNot_23 : decode cX1_readNot 23 = .ok (.ireturn, 1) := by decide +kernel
theorem dX1_readNot_24 : decode cX1_readNot 24 = .ok (.aload_n 0, 1) := by decide +kernel
theorem dX1_readNot_25 : decode cX1_readNot 25 = .ok (.invokevirtual 44, 3) := by decide +kernel
theorem dX1_readNot_28 : decode cX1_readNot 28 = .ok (.aload_n 0, 1) := by decide +kernel
theorem dX1_readNot_29 : decode cX1_readNot 29 = .ok (.invokevirtual 69, 3) := by decide +kernel
theorem dX1_readNot_32 : decode cX1_readNot 32 = .ok (.istore_n 1, 1) := by decide +kernel
theorem dX1_readNot_33 : decode cX1_readNot 33 = .ok (.aload_n 0, 1) := by decide +kernel
theorem dX1_readNot_34 : decode cX1_readNot 34 = .ok (.dup, 1) := by decide +kernel
theorem dX1_readNot_35 : decode cX1_readNot 35 = .ok (.getfield 38, 3) := by decide +kernel
theorem dX1_readNot_38 : decode cX1_readNot 38 = .ok (.iconst 1, 1) := by decide +kernel
theorem dX1_readNot_39 : decode cX1_readNot 39 = .ok (.isub, 1) := by decide +kernel
theorem dX1_readNot_40 : decode cX1_readNot 40 = .ok (.putfield 38, 3) := by decide +kernel
theorem dX1_readNot_43 : decode cX1_readNot 43 = .ok (.aload_n 0, 1) := by decide +kernel
theorem dX1_readNot_44 : decode cX1_readNot 44 = .ok (.getfield 22, 3) := by decide +kernel
theorem dX1_readNot_47 : decode cX1_readNot 47 = .ok (.bipush (-8), 2) := by decide +kernel
theorem dX1_readNot_49 : decode cX1_readNot 49 = .ok (.invokevirtual 66, 3) := by decide +kernel
theorem dX1_readNot_52 : decode cX1_readNot 52 = .ok (.iload_n 1, 1) := by decide +kernel
theorem dX1_readNot_53 : decode cX1_readNot 53 = .ok (.ireturn, 1) := by decide +kernel
theorem dX1_readComparison_0 : decode cX1_readComparison 0 = .ok (.aload_n 0, 1) := by decide +kernel
theorem dX1_readComparison_1 : decode cX1_readComparison 1 = .ok (.invokevirtual 78, 3) := by decide +kernel
theorem dX1_readComparison_4 : decode cX1_readComparison 4 = .ok (.istore_n 1, 1) := by decide +kernel
theorem dX1_readComparison_5 : decode cX1_readComparison 5 = .ok (.aload_n 0, 1) := by decide +kernel
theorem dX1_readComparison_6 : decode cX1_readComparison 6 = .ok (.getfield 32, 3) := by decide +kernel
theorem dX1_readComparison_9 : decode cX1_readComparison 9 = .ok (.istore_n 2, 1) := by decide +kernel
theorem dX1_readComparison_10 : decode cX1_readComparison 10 = .ok (.iload_n 1, 1) := by decide +kernel
theorem dX1_readComparison_11 : decode cX1_readComparison 11 = .ok (.ifCond .eq 15, 3) := by decide +kernel
theorem dX1_readComparison_14 : decode cX1_readComparison 14 = .ok (.iload_n 2, 1) := by decide +kernel
theorem dX1_readComparison_15 : decode cX1_readComparison 15 = .ok (.bipush 60, 2) := by decide +kernel
theorem dX1_readComparison_17 : decode cX1_readComparison 17 = .ok (.if_icmp .eq 11, 3) := by decide +kernel
theorem dX1_readComparison_20 : decode cX1_readComparison 20 = .ok (.iload_n 2, 1) := by decide +kernel
theorem dX1_readComparison_21 : decode cX1_readComparison 21 = .ok (.bipush 61, 2) := by decide +kernel
theorem dX1_readComparison_23 : decode cX1_readComparison 23 = .ok (.if_icmp .eq 5, 3) := by decide +kernel
theorem dX1_readComparison_26 : decode cX1_readComparison 26 = .ok (.iload_n 1, 1) := by decide +kernel
theorem dX1_readComparison_27 : decode cX1_readComparison 27 = .ok (.ireturn, 1) := by decide +kernel
theorem dX1_readComparison_28 : decode cX1_readComparison 28 = .ok (.aload_n 0, 1) := by decide +kernel
theorem dX1_readComparison_29 : decode cX1_readComparison 29 = .ok (.invokevirtual 44, 3) := by decide +kernel
theorem dX1_readComparison_32 : decode cX1_readComparison 32 = .ok (.aload_n 0, 1) := by decide +kernel
theorem dX1_readComparison_33 : decode cX1_readComparison 33 = .ok (.invokevirtual 78, 3) := by decide +kernel
theorem dX1_readComparison_36 : decode cX1_readComparison 36 = .ok (.istore_n 1, 1) := by decide +kernel
theorem dX1_readComparison_37 : decode cX1_readComparison 37 = .ok (.aload_n 0, 1) := by decide +kernel
theorem dX1_readComparison_38 : decode cX1_readComparison 38 = .ok (.getfield 22, 3) := by decide +kernel
theorem dX1_readComparison_41 : decode cX1_readComparison 41 = .ok (.iload_n 2, 1) := by decide +kernel
theorem dX1_readComparison_42 : decode cX1_readComparison 42 = .ok (.bipush 60, 2) := by decide +kernel
theorem dX1_readComparison_44 : decode cX1_readComparison 44 = .ok (.if_icmp .ne 8, 3) := by decide +kernel
theorem dX1_readComparison_47 : decode cX1_readComparison 47 = .ok (.bipush (-11), 2) := by decide +kernel
theorem dX1_readComparison_49 : decode cX1_readComparison 49 = .ok (.goto 5, 3) := by decide +kernel
theorem dX1_readComparison_52 : decode cX1_readComparison 52 = .ok (.bipush (-12), 2) := by decide +kernel
theorem dX1_readComparison_54 : decode cX1_readComparison 54 = .ok (.invokevirtual 66, 3) := by decide +kernel
theorem dX1_readComparison_57 : decode cX1_readComparison 57 = .ok (.iload_n 1, 1) := by decide +kernel
theorem dX1_readComparison_58 : decode cX1_readComparison 58 = .ok (.ireturn, 1) := by decide +kernel
theorem dX1_readSum_0 : decode cX1_readSum 0 = .ok (.aload_n 0, 1) := by decide +kernel
theorem dX1_readSum_1 : decode cX1_readSum 1 = .ok (.invokevirtual 81, 3) := by decide +kernel
theorem dX1_readSum_4 : decode cX1_readSum 4 = .ok (.istore_n 1, 1) := by decide +kernel
theorem dX1_readSum_5 : decode cX1_readSum 5 = .ok (.iconst 0, 1) := by decide +kernel
theorem dX1_readSum_6 : decode cX1_readSum 6 = .ok (.istore_n 2, 1) := by decide +kernel
theorem dX1_readSum_7 : decode cX1_readSum 7 = .ok (.iload_n 2, 1) := by decide +kernel
theorem dX1_readSum_8 : decode cX1_readSum 8 = .ok (.sipush 160, 3) := by decide +kernel
theorem dX1_readSum_11 : decode cX1_readSum 11 = .ok (.if_icmp .ge 65, 3) := by decide +kernel
theorem dX1_readSum_14 : decode cX1_readSum 14 = .ok (.iload_n 1, 1) := by decide +kernel
theorem dX1_readSum_15 : decode cX1_readSum 15 = .ok (.ifCond .eq 61, 3) := by decide +kernel
theorem dX1_readSum_18 : decode cX1_readSum 18 = .ok (.aload_n 0, 1) := by decide +kernel
theorem dX1_readSum_19 : decode cX1_readSum 19 = .ok (.getfield 32, 3) := by decide +kernel
theorem dX1_readSum_22 : decode cX1_readSum 22 = .ok (.bipush 43, 2) := by decide +kernel
theorem dX1_readSum_24 : decode cX1_readSum 24 = .ok (.if_icmp .eq 12, 3) := by decide +kernel
theorem dX1_readSum_27 : decode cX1_readSum 27 = .ok (.aload_n 0, 1) := by decide +kernel
theorem dX1_readSum_28 : decode cX1_readSum 28 = .ok (.getfield 32, 3) := by decide +kernel
theorem dX1_readSum_31 : decode cX1_readSum 31 = .ok (.bipush 45, 2) := by decide +kernel
theorem dX1_readSum_33 : decode cX1_readSum 33 = .ok (.if_icmp .ne 43, 3) := by decide +kernel
theorem dX1_readSum_36 : decode cX1_readSum 36 = .ok (.aload_n 0, 1) := by decide +kernel
theorem dX1_readSum_37 : decode cX1_readSum 37 = .ok (.getfield 32, 3) := by decide +kernel
theorem dX1_readSum_40 : decode cX1_readSum 40 = .ok (.istore_n 3, 1) := by decide +kernel
theorem dX1_readSum_41 : decode cX1_readSum 41 = .ok (.aload_n 0, 1) := by decide +kernel
theorem dX1_readSum_42 : decode cX1_readSum 42 = .ok (.invokevirtual 44, 3) := by decide +kernel
theorem dX1_readSum_45 : decode cX1_readSum 45 = .ok (.aload_n 0, 1) := by decide +kernel
theorem dX1_readSum_46 : decode cX1_readSum 46 = .ok (.invokevirtual 81, 3) := by decide +kernel
theorem dX1_readSum_49 : decode cX1_readSum 49 = .ok (.istore_n 1, 1) := by decide +kernel
theorem dX1_readSum_50 : decode cX1_readSum 50 = .ok (.aload_n 0, 1) := by decide +kernel
theorem dX1_readSum_51 : decode cX1_readSum 51 = .ok (.getfield 22, 3) := by decide +kernel
theorem dX1_readSum_54 : decode cX1_readSum 54 = .ok (.iload_n 3, 1) := by decide +kernel
theorem dX1_readSum_55 : decode cX1_readSum 55 = .ok (.bipush 43, 2) := by decide +kernel
theorem dX1_readSum_57 : decode cX1_readSum 57 = .ok (.if_icmp .ne 8, 3) := by decide +kernel
theorem dX1_readSum_60 : decode cX1_readSum 60 = .ok (.bipush (-13), 2) := by decide +kernel
theorem dX1_readSum_62 : decode cX1_readSum 62 = .ok (.goto 5, 3) := by decide +kernel
theorem dX1_readSum_65 : decode cX1_readSum 65 = .ok (.bipush (-14), 2) := by decide +kernel
theorem dX1_readSum_67 : decode cX1_readSum 67 = .ok (.invokevirtual 66, 3) := by decide +kernel
theorem dX1_readSum_70 : decode cX1_readSum 70 = .ok (.iinc 2 1, 3) := by decide +kernel
theorem dX1_readSum_73 : decode cX1_readSum 73 = .ok (.goto (-66), 3) := by decide +kernel
theorem dX1_readSum_76 : decode cX1_readSum 76 = .ok (.iload_n 1, 1) := by decide +kernel
theorem dX1_readSum_77 : decode cX1_readSum 77 = .ok (.ireturn, 1) := by decide +kernel
theorem dX1_readTerm_0 : decode cX1_readTerm 0 = .ok (.aload_n 0, 1) := by decide +kernel
theorem dX1_readTerm_1 : decode cX1_readTerm 1 = .ok (.invokevirtual 84, 3) := by decide +kernel
theorem dX1_readTerm_4 : decode cX1_readTerm 4 = .ok (.istore_n 1, 1) := by decide +kernel
theorem dX1_readTerm_5 : decode cX1_readTerm 5 = .ok (.iconst 0, 1) := by decide +kernel
theorem dX1_readTerm_6 : decode cX1_readTerm 6 = .ok (.istore_n 2, 1) := by decide +kernel
theorem dX1_readTerm_7 : decode cX1_readTerm 7 = .ok (.iload_n 2, 1) := by decide +kernel
theorem dX1_readTerm_8 : decode cX1_readTerm 8 = .ok (.sipush 160, 3) := by decide +kernel
theorem dX1_readTerm_11 : decode cX1_readTerm 11 = .ok (.if_icmp .ge 40, 3) := by decide +kernel
theorem dX1_readTerm_14 : decode cX1_readTerm 14 = .ok (.iload_n 1, 1) := by decide +kernel
theorem dX1_readTerm_15 : decode cX1_readTerm 15 = .ok (.ifCond .eq 36, 3) := by decide +kernel
theorem dX1_readTerm_18 : decode cX1_readTerm 18 = .ok (.aload_n 0, 1) := by decide +kernel
theorem dX1_readTerm_19 : decode cX1_readTerm 19 = .ok (.getfield 32, 3) := by decide +kernel
theorem dX1_readTerm_22 : decode cX1_readTerm 22 = .ok (.bipush 42, 2) := by decide +kernel
theorem dX1_readTerm_24 : decode cX1_readTerm 24 = .ok (.if_icmp .ne 27, 3) := by decide +kernel
theorem dX1_readTerm_27 : decode cX1_readTerm 27 = .ok (.aload_n 0, 1) := by decide +kernel
theorem dX1_readTerm_28 : decode cX1_readTerm 28 = .ok (.invokevirtual 44, 3) := by decide +kernel
theorem dX1_readTerm_31 : decode cX1_readTerm 31 = .ok (.aload_n 0, 1) := by decide +kernel
theorem dX1_readTerm_32 : decode cX1_readTerm 32 = .ok (.invokevirtual 84, 3) := by decide +kernel
theorem dX1_readTerm_35 : decode cX1_readTerm 35 = .ok (.istore_n 1, 1) := by decide +kernel
theorem dX1_readTerm_36 : decode cX1_readTerm 36 = .ok (.aload_n 0, 1) := by decide +kernel
theorem dX1_readTerm_37 : decode cX1_readTerm 37 = .ok (.getfield 22, 3) := by decide +kernel
theorem dX1_readTerm_40 : decode cX1_readTerm 40 = .ok (.bipush (-15), 2) := by decide +kernel
theorem dX1_readTerm_42 : decode cX1_readTerm 42 = .ok (.invokevirtual 66, 3) := by decide +kernel
theorem dX1_readTerm_45 : decode cX1_readTerm 45 = .ok (.iinc 2 1, 3) := by decide +kernel
theorem dX1_readTerm_48 : decode cX1_readTerm 48 = .ok (.goto (-41), 3) := by decide +kernel
theorem dX1_readTerm_51 : decode cX1_readTerm 51 = .ok (.iload_n 1, 1) := by decide +kernel
theorem dX1_readTerm_52 : decode cX1_readTerm 52 = .ok (.ireturn, 1) := by decide +kernel
theorem dX1_readOne_0 : decode cX1_readOne 0 = .ok (.aload_n 0, 1) := by decide +kernel
theorem dX1_readOne_1 : decode cX1_readOne 1 = .ok (.getfield 32, 3) := by decide +kernel
theorem dX1_readOne_4 : decode cX1_readOne 4 = .ok (.bipush 45, 2) := by decide +kernel
theorem dX1_readOne_6 : decode cX1_readOne 6 = .ok (.if_icmp .ne 8, 3) := by decide +kernel
theorem dX1_readOne_9 : decode cX1_readOne 9 = .ok (.aload_n 0, 1) := by decide +kernel
theorem dX1_readOne_10 : decode cX1_readOne 10 = .ok (.invokevirtual 87, 3) := by decide +kernel
theorem dX1_readOne_13 : decode cX1_readOne 13 = .ok (.ireturn, 1) := by decide +kernel
theorem dX1_readOne_14 : decode cX1_readOne 14 = .ok (.aload_n 0, 1) := by decide +kernel
theorem dX1_readOne_15 : decode cX1_readOne 15 = .ok (.getfield 32, 3) := by decide +kernel
theorem dX1_readOne_18 : decode cX1_readOne 18 = .ok (.bipush 40, 2) := by decide +kernel
theorem dX1_readOne_20 : decode cX1_readOne 20 = .ok (.if_icmp .ne 8, 3) := by decide +kernel
theorem dX1_readOne_23 : decode cX1_readOne 23 = .ok (.aload_n 0, 1) := by decide +kernel
theorem dX1_readOne_24 : decode cX1_readOne 24 = .ok (.invokevirtual 90, 3) := by decide +kernel
theorem dX1_readOne_27 : decode cX1_readOne 27 = .ok (.ireturn, 1) := by decide +kernel
theorem dX1_readOne_28 : decode cX1_readOne 28 = .ok (.aload_n 0, 1) := by decide +kernel
theorem dX1_readOne_29 : decode cX1_readOne 29 = .ok (.getfield 32, 3) := by decide +kernel
theorem dX1_readOne_32 : decode cX1_readOne 32 = .ok (.sipush 256, 3) := by decide +kernel
theorem dX1_readOne_35 : decode cX1_readOne 35 = .ok (.if_icmp .eq 15, 3) := by decide +kernel
theorem dX1_readOne_38 : decode cX1_readOne 38 = .ok (.aload_n 0, 1) := by decide +kernel
theorem dX1_readOne_39 : decode cX1_readOne 39 = .ok (.getfield 32, 3) := by decide +kernel
theorem dX1_readOne_42 : decode cX1_readOne 42 = .ok (.sipush 257, 3) := by decide +kernel
theorem dX1_readOne_45 : decode cX1_readOne 45 = .ok (.if_icmp .eq 5, 3) := by decide +kernel
theorem dX1_readOne_48 : decode cX1_readOne 48 = .ok (.iconst 0, 1) := by decide +kernel
theorem dX1_readOne_49 : decode cX1_readOne 49 = .ok (.ireturn, 1) := by decide +kernel
theorem dX1_readOne_50 : decode cX1_readOne 50 = .ok (.aload_n 0, 1) := by decide +kernel
theorem dX1_readOne_51 : decode cX1_readOne 51 = .ok (.getfield 22, 3) := by decide +kernel
theorem dX1_readOne_54 : decode cX1_readOne 54 = .ok (.aload_n 0, 1) := by decide +kernel
theorem dX1_readOne_55 : decode cX1_readOne 55 = .ok (.getfield 32, 3) := by decide +kernel
theorem dX1_readOne_58 : decode cX1_readOne 58 = .ok (.sipush 256, 3) := by decide +kernel
theorem dX1_readOne_61 : decode cX1_readOne 61 = .ok (.if_icmp .ne 10, 3) := by decide +kernel
theorem dX1_readOne_64 : decode cX1_readOne 64 = .ok (.aload_n 0, 1) := by decide +kernel
theorem dX1_readOne_65 : decode cX1_readOne 65 = .ok (.getfield 35, 3) := by decide +kernel
theorem dX1_readOne_68 : decode cX1_readOne 68 = .ok (.goto 9, 3) := by decide +kernel
theorem dX1_readOne_71 : decode cX1_readOne 71 = .ok (.iconst (-1), 1) := by decide +kernel
theorem dX1_readOne_72 : decode cX1_readOne 72 = .ok (.aload_n 0, 1) := by decide +kernel
theorem dX1_readOne_73 : decode cX1_readOne 73 = .ok (.getfield 35, 3) := by decide +kernel
theorem dX1_readOne_76 : decode cX1_readOne 76 = .ok (.isub, 1) := by decide +kernel
theorem dX1_readOne_77 : decode cX1_readOne 77 = .ok (.invokevirtual 66, 3) := by decide +kernel
theorem dX1_readOne_80 : decode cX1_readOne 80 = .ok (.aload_n 0, 1) := by decide +kernel
theorem dX1_readOne_81 : decode cX1_readOne 81 = .ok (.invokevirtual 44, 3) := by decide +kernel
theorem dX1_readOne_84 : decode cX1_readOne 84 = .ok (.iconst 1, 1) := by decide +kernel
theorem dX1_readOne_85 : decode cX1_readOne 85 = .ok (.ireturn, 1) := by decide +kernel
theorem dX1_readNegated_0 : decode cX1_readNegated 0 = .ok (.aload_n 0, 1) := by decide +kernel
theorem dX1_readNegated_1 : decode cX1_readNegated 1 = .ok (.invokevirtual 75, 3) := by decide +kernel
theorem dX1_readNegated_4 : decode cX1_readNegated 4 = .ok (.ifCond .ne 5, 3) := by decide +kernel
theorem dX1_readNegated_7 : decode cX1_readNegated 7 = .ok (.iconst 0, 1) := by decide +kernel
theorem dX1_readNegated_8 : decode cX1_readNegated 8 = .ok (.ireturn, 1) := by decide +kernel
theorem dX1_readNegated_9 : decode cX1_readNegated 9 = .ok (.aload_n 0, 1) := by decide +kernel
theorem dX1_readNegated_10 : decode cX1_readNegated 10 = .ok (.invokevirtual 44, 3) := by decide +kernel
theorem dX1_readNegated_13 : decode cX1_readNegated 13 = .ok (.aload_n 0, 1) := by decide +kernel
theorem dX1_readNegated_14 : decode cX1_readNegated 14 = .ok (.invokevirtual 84, 3) := by decide +kernel
theorem dX1_readNegated_17 : decode cX1_readNegated 17 = .ok (.istore_n 1, 1) := by decide +kernel
theorem dX1_readNegated_18 : decode cX1_readNegated 18 = .ok (.aload_n 0, 1) := by decide +kernel
theorem dX1_readNegated_19 : decode cX1_readNegated 19 = .ok (.dup, 1) := by decide +kernel
theorem dX1_readNegated_20 : decode cX1_readNegated 20 = .ok (.getfield 38, 3) := by decide +kernel
theorem dX1_readNegated_23 : decode cX1_readNegated 23 = .ok (.iconst 1, 1) := by decide +kernel
theorem dX1_readNegated_24 : decode cX1_readNegated 24 = .ok (.isub, 1) := by decide +kernel
theorem dX1_readNegated_25 : decode cX1_readNegated 25 = .ok (.putfield 38, 3) := by decide +kernel
theorem dX1_readNegated_28 : decode cX1_readNegated 28 = .ok (.aload_n 0, 1) := by decide +kernel
theorem dX1_readNegated_29 : decode cX1_readNegated 29 = .ok (.getfield 22, 3) := by decide +kernel
theorem dX1_readNegated_32 : decode cX1_readNegated 32 = .ok (.bipush (-7), 2) := by decide +kernel
theorem dX1_readNegated_34 : decode cX1_readNegated 34 = .ok (.invokevirtual 66, 3) := by decide +kernel
theorem dX1_readNegated_37 : decode cX1_readNegated 37 = .ok (.iload_n 1, 1) := by decide +kernel
theorem dX1_readNegated_38 : decode cX1_readNegated 38 = .ok (.ireturn, 1) := by decide +kernel
theorem dX1_readEnclosed_0 : decode cX1_readEnclosed 0 = .ok (.aload_n 0, 1) := by decide +kernel
theorem dX1_readEnclosed_1 : decode cX1_readEnclosed 1 = .ok (.invokevirtual 75, 3) := by decide +kernel
theorem dX1_readEnclosed_4 : decode cX1_readEnclosed 4 = .ok (.ifCond .ne 5, 3) := by decide +kernel
theorem dX1_readEnclosed_7 : decode cX1_readEnclosed 7 = .ok (.iconst 0, 1) := by decide +kernel
theorem dX1_readEnclosed_8 : decode cX1_readEnclosed 8 = .ok (.ireturn, 1) := by decide +kernel
theorem dX1_readEnclosed_9 : decode cX1_readEnclosed 9 = .ok (.aload_n 0, 1) := by decide +kernel
theorem dX1_readEnclosed_10 : decode cX1_readEnclosed 10 = .ok (.invokevirtual 44, 3) := by decide +kernel
theorem dX1_readEnclosed_13 : decode cX1_readEnclosed 13 = .ok (.aload_n 0, 1) := by decide +kernel
theorem dX1_readEnclosed_14 : decode cX1_readEnclosed 14 = .ok (.invokevirtual 55, 3) := by decide +kernel
theorem dX1_readEnclosed_17 : decode cX1_readEnclosed 17 = .ok (.ifCond .eq 16, 3) := by decide +kernel
theorem dX1_readEnclosed_20 : decode cX1_readEnclosed 20 = .ok (.aload_n 0, 1) := by decide +kernel
theorem dX1_readEnclosed_21 : decode cX1_readEnclosed 21 = .ok (.getfield 32, 3) := by decide +kernel
theorem dX1_readEnclosed_24 : decode cX1_readEnclosed 24 = .ok (.bipush 41, 2) := by decide +kernel
theorem dX1_readEnclosed_26 : decode cX1_readEnclosed 26 = .ok (.if_icmp .ne 7, 3) := by decide +kernel
theorem dX1_readEnclosed_29 : decode cX1_readEnclosed 29 = .ok (.iconst 1, 1) := by decide +kernel
theorem dX1_readEnclosed_30 : decode cX1_readEnclosed 30 = .ok (.goto 4, 3) := by decide +kernel
theorem dX1_readEnclosed_33 : decode cX1_readEnclosed 33 = .ok (.iconst 0, 1) := by decide +kernel
theorem dX1_readEnclosed_34 : decode cX1_readEnclosed 34 = .ok (.istore_n 1, 1) := by decide +kernel
theorem dX1_readEnclosed_35 : decode cX1_readEnclosed 35 = .ok (.aload_n 0, 1) := by decide +kernel
theorem dX1_readEnclosed_36 : decode cX1_readEnclosed 36 = .ok (.dup, 1) := by decide +kernel
theorem dX1_readEnclosed_37 : decode cX1_readEnclosed 37 = .ok (.getfield 38, 3) := by decide +kernel
theorem dX1_readEnclosed_40 : decode cX1_readEnclosed 40 = .ok (.iconst 1, 1) := by decide +kernel
theorem dX1_readEnclosed_41 : decode cX1_readEnclosed 41 = .ok (.isub, 1) := by decide +kernel
theorem dX1_readEnclosed_42 : decode cX1_readEnclosed 42 = .ok (.putfield 38, 3) := by decide +kernel
theorem dX1_readEnclosed_45 : decode cX1_readEnclosed 45 = .ok (.iload_n 1, 1) := by decide +kernel
theorem dX1_readEnclosed_46 : decode cX1_readEnclosed 46 = .ok (.ifCond .eq 7, 3) := by decide +kernel
theorem dX1_readEnclosed_49 : decode cX1_readEnclosed 49 = .ok (.aload_n 0, 1) := by decide +kernel
theorem dX1_readEnclosed_50 : decode cX1_readEnclosed 50 = .ok (.invokevirtual 44, 3) := by decide +kernel
theorem dX1_readEnclosed_53 : decode cX1_readEnclosed 53 = .ok (.iload_n 1, 1) := by decide +kernel
theorem dX1_readEnclosed_54 : decode cX1_readEnclosed 54 = .ok (.ireturn, 1) := by decide +kernel
theorem dX1_opens_0 : decode cX1_opens 0 = .ok (.aload_n 0, 1) := by decide +kernel
theorem dX1_opens_1 : decode cX1_opens 1 = .ok (.getfield 38, 3) := by decide +kernel
theorem dX1_opens_4 : decode cX1_opens 4 = .ok (.iconst 5, 1) := by decide +kernel
theorem dX1_opens_5 : decode cX1_opens 5 = .ok (.if_icmp .lt 5, 3) := by decide +kernel
theorem dX1_opens_8 : decode cX1_opens 8 = .ok (.iconst 0, 1) := by decide +kernel
theorem dX1_opens_9 : decode cX1_opens 9 = .ok (.ireturn, 1) := by decide +kernel
theorem dX1_opens_10 : decode cX1_opens 10 = .ok (.aload_n 0, 1) := by decide +kernel
theorem dX1_opens_11 : decode cX1_opens 11 = .ok (.dup, 1) := by decide +kernel
theorem dX1_opens_12 : decode cX1_opens 12 = .ok (.getfield 38, 3) := by decide +kernel
theorem dX1_opens_15 : decode cX1_opens 15 = .ok (.iconst 1, 1) := by decide +kernel
theorem dX1_opens_16 : decode cX1_opens 16 = .ok (.iadd, 1) := by decide +kernel
theorem dX1_opens_17 : decode cX1_opens 17 = .ok (.putfield 38, 3) := by decide +kernel
theorem dX1_opens_20 : decode cX1_opens 20 = .ok (.iconst 1, 1) := by decide +kernel
theorem dX1_opens_21 : decode cX1_opens 21 = .ok (.ireturn, 1) := by decide +kernel
theorem dX1_advance_0 : decode cX1_advance 0 = .ok (.aload_n 0, 1) := by decide +kernel
theorem dX1_advance_1 : decode cX1_advance 1 = .ok (.getfield 29, 3) := by decide +kernel
theorem dX1_advance_4 : decode cX1_advance 4 = .ok (.aload_n 0, 1) := by decide +kernel
theorem dX1_advance_5 : decode cX1_advance 5 = .ok (.getfield 15, 3) := by decide +kernel
theorem dX1_advance_8 : decode cX1_advance 8 = .ok (.if_icmp .ge 50, 3) := by decide +kernel
theorem dX1_advance_11 : decode cX1_advance 11 = .ok (.aload_n 0, 1) := by decide +kernel
theorem dX1_advance_12 : decode cX1_advance 12 = .ok (.getfield 9, 3) := by decide +kernel
theorem dX1_advance_15 : decode cX1_advance 15 = .ok (.aload_n 0, 1) := by decide +kernel
theorem dX1_advance_16 : decode cX1_advance 16 = .ok (.getfield 29, 3) := by decide +kernel
theorem dX1_advance_19 : decode cX1_advance 19 = .ok (.iaload, 1) := by decide +kernel
theorem dX1_advance_20 : decode cX1_advance 20 = .ok (.bipush 32, 2) := by decide +kernel
theorem dX1_advance_22 : decode cX1_advance 22 = .ok (.if_icmp .eq 17, 3) := by decide +kernel
theorem dX1_advance_25 : decode cX1_advance 25 = .ok (.aload_n 0, 1) := by decide +kernel
theorem dX1_advance_26 : decode cX1_advance 26 = .ok (.getfield 9, 3) := by decide +kernel
theorem dX1_advance_29 : decode cX1_advance 29 = .ok (.aload_n 0, 1) := by decide +kernel
theorem dX1_advance_30 : decode cX1_advance 30 = .ok (.getfield 29, 3) := by decide +kernel
theorem dX1_advance_33 : decode cX1_advance 33 = .ok (.iaload, 1) := by decide +kernel
theorem dX1_advance_34 : decode cX1_advance 34 = .ok (.bipush 10, 2) := by decide +kernel
theorem dX1_advance_36 : decode cX1_advance 36 = .ok (.if_icmp .ne 22, 3) := by decide +kernel
theorem dX1_advance_39 : decode cX1_advance 39 = .ok (.aload_n 0, 1) := by decide +kernel
theorem dX1_advance_40 : decode cX1_advance 40 = .ok (.bipush (-2), 2) := by decide +kernel
theorem dX1_advance_42 : decode cX1_advance 42 = .ok (.putfield 32, 3) := by decide +kernel
theorem dX1_advance_45 : decode cX1_advance 45 = .ok (.aload_n 0, 1) := by decide +kernel
theorem dX1_advance_46 : decode cX1_advance 46 = .ok (.dup, 1) := by decide +kernel
theorem dX1_advance_47 : decode cX1_advance 47 = .ok (.getfield 29, 3) := by decide +kernel
theorem dX1_advance_50 : decode cX1_advance 50 = .ok (.iconst 1, 1) := by decide +kernel
theorem dX1_advance_51 : decode cX1_advance 51 = .ok (.iadd, 1) := by decide +kernel
theorem dX1_advance_52 : decode cX1_advance 52 = .ok (.putfield 29, 3) := by decide +kernel
theorem dX1_advance_55 : decode cX1_advance 55 = .ok (.goto (-55), 3) := by decide +kernel
theorem dX1_advance_58 : decode cX1_advance 58 = .ok (.aload_n 0, 1) := by decide +kernel
theorem dX1_advance_59 : decode cX1_advance 59 = .ok (.aload_n 0, 1) := by decide +kernel
theorem dX1_advance_60 : decode cX1_advance 60 = .ok (.getfield 29, 3) := by decide +kernel
theorem dX1_advance_63 : decode cX1_advance 63 = .ok (.putfield 26, 3) := by decide +kernel
theorem dX1_advance_66 : decode cX1_advance 66 = .ok (.aload_n 0, 1) := by decide +kernel
theorem dX1_advance_67 : decode cX1_advance 67 = .ok (.getfield 26, 3) := by decide +kernel
theorem dX1_advance_70 : decode cX1_advance 70 = .ok (.aload_n 0, 1) := by decide +kernel
theorem dX1_advance_71 : decode cX1_advance 71 = .ok (.getfield 15, 3) := by decide +kernel
theorem dX1_advance_74 : decode cX1_advance 74 = .ok (.if_icmp .lt 11, 3) := by decide +kernel
theorem dX1_advance_77 : decode cX1_advance 77 = .ok (.aload_n 0, 1) := by decide +kernel
theorem dX1_advance_78 : decode cX1_advance 78 = .ok (.iconst (-1), 1) := by decide +kernel
theorem dX1_advance_79 : decode cX1_advance 79 = .ok (.putfield 32, 3) := by decide +kernel
theorem dX1_advance_82 : decode cX1_advance 82 = .ok (.goto 93, 3) := by decide +kernel
theorem dX1_advance_85 : decode cX1_advance 85 = .ok (.aload_n 0, 1) := by decide +kernel
theorem dX1_advance_86 : decode cX1_advance 86 = .ok (.getfield 9, 3) := by decide +kernel
theorem dX1_advance_89 : decode cX1_advance 89 = .ok (.aload_n 0, 1) := by decide +kernel
theorem dX1_advance_90 : decode cX1_advance 90 = .ok (.getfield 26, 3) := by decide +kernel
theorem dX1_advance_93 : decode cX1_advance 93 = .ok (.iaload, 1) := by decide +kernel
theorem dX1_advance_94 : decode cX1_advance 94 = .ok (.invokestatic 93, 3) := by decide +kernel
theorem dX1_advance_97 : decode cX1_advance 97 = .ok (.ifCond .eq 10, 3) := by decide +kernel
theorem dX1_advance_100 : decode cX1_advance 100 = .ok (.aload_n 0, 1) := by decide +kernel
theorem dX1_advance_101 : decode cX1_advance 101 = .ok (.invokevirtual 96, 3) := by decide +kernel
theorem dX1_advance_104 : decode cX1_advance 104 = .ok (.goto 71, 3) := by decide +kernel
theorem dX1_advance_107 : decode cX1_advance 107 = .ok (.aload_n 0, 1) := by decide +kernel
theorem dX1_advance_108 : decode cX1_advance 108 = .ok (.getfield 9, 3) := by decide +kernel
theorem dX1_advance_111 : decode cX1_advance 111 = .ok (.aload_n 0, 1) := by decide +kernel
theorem dX1_advance_112 : decode cX1_advance 112 = .ok (.getfield 26, 3) := by decide +kernel
theorem dX1_advance_115 : decode cX1_advance 115 = .ok (.iaload, 1) := by decide +kernel
theorem dX1_advance_116 : decode cX1_advance 116 = .ok (.invokestatic 99, 3) := by decide +kernel
theorem dX1_advance_119 : decode cX1_advance 119 = .ok (.ifCond .eq 10, 3) := by decide +kernel
theorem dX1_advance_122 : decode cX1_advance 122 = .ok (.aload_n 0, 1) := by decide +kernel
theorem dX1_advance_123 : decode cX1_advance 123 = .ok (.invokevirtual 102, 3) := by decide +kernel
theorem dX1_advance_126 : decode cX1_advance 126 = .ok (.goto 49, 3) := by decide +kernel
theorem dX1_advance_129 : decode cX1_advance 129 = .ok (.aload_n 0, 1) := by decide +kernel
theorem dX1_advance_130 : decode cX1_advance 130 = .ok (.ldc 105, 2) := by decide +kernel
theorem dX1_advance_132 : decode cX1_advance 132 = .ok (.aload_n 0, 1) := by decide +kernel
theorem dX1_advance_133 : decode cX1_advance 133 = .ok (.getfield 9, 3) := by decide +kernel
theorem dX1_advance_136 : decode cX1_advance 136 = .ok (.aload_n 0, 1) := by decide +kernel
theorem dX1_advance_137 : decode cX1_advance 137 = .ok (.getfield 26, 3) := by decide +kernel
theorem dX1_advance_140 : decode cX1_advance 140 = .ok (.iaload, 1) := by decide +kernel
theorem dX1_advance_141 : decode cX1_advance 141 = .ok (.i2c, 1) := by decide +kernel
theorem dX1_advance_142 : decode cX1_advance 142 = .ok (.invokevirtual 107, 3) := by decide +kernel
theorem dX1_advance_145 : decode cX1_advance 145 = .ok (.ifCond .lt 15, 3) := by decide +kernel
theorem dX1_advance_148 : decode cX1_advance 148 = .ok (.aload_n 0, 1) := by decide +kernel
theorem dX1_advance_149 : decode cX1_advance 149 = .ok (.getfield 9, 3) := by decide +kernel
theorem dX1_advance_152 : decode cX1_advance 152 = .ok (.aload_n 0, 1) := by decide +kernel
theorem dX1_advance_153 : decode cX1_advance 153 = .ok (.getfield 26, 3) := by decide +kernel
theorem dX1_advance_156 : decode cX1_advance 156 = .ok (.iaload, 1) := by decide +kernel
theorem dX1_advance_157 : decode cX1_advance 157 = .ok (.goto 5, 3) := by decide +kernel
theorem dX1_advance_160 : decode cX1_advance 160 = .ok (.bipush (-2), 2) := by decide +kernel
theorem dX1_advance_162 : decode cX1_advance 162 = .ok (.putfield 32, 3) := by decide +kernel
theorem dX1_advance_165 : decode cX1_advance 165 = .ok (.aload_n 0, 1) := by decide +kernel
theorem dX1_advance_166 : decode cX1_advance 166 = .ok (.dup, 1) := by decide +kernel
theorem dX1_advance_167 : decode cX1_advance 167 = .ok (.getfield 29, 3) := by decide +kernel
theorem dX1_advance_170 : decode cX1_advance 170 = .ok (.iconst 1, 1) := by decide +kernel
theorem dX1_advance_171 : decode cX1_advance 171 = .ok (.iadd, 1) := by decide +kernel
theorem dX1_advance_172 : decode cX1_advance 172 = .ok (.putfield 29, 3) := by decide +kernel
theorem dX1_advance_175 : decode cX1_advance 175 = .ok (.return_, 1) := by decide +kernel
theorem dX1_isLetter_0 : decode cX1_isLetter 0 = .ok (.iload_n 0, 1) := by decide +kernel
theorem dX1_isLetter_1 : decode cX1_isLetter 1 = .ok (.bipush 97, 2) := by decide +kernel
theorem dX1_isLetter_3 : decode cX1_isLetter 3 = .ok (.if_icmp .lt 13, 3) := by decide +kernel
theorem dX1_isLetter_6 : decode cX1_isLetter 6 = .ok (.iload_n 0, 1) := by decide +kernel
theorem dX1_isLetter_7 : decode cX1_isLetter 7 = .ok (.bipush 122, 2) := by decide +kernel
theorem dX1_isLetter_9 : decode cX1_isLetter 9 = .ok (.if_icmp .gt 7, 3) := by decide +kernel
theorem dX1_isLetter_12 : decode cX1_isLetter 12 = .ok (.iconst 1, 1) := by decide +kernel
theorem dX1_isLetter_13 : decode cX1_isLetter 13 = .ok (.goto 4, 3) := by decide +kernel
theorem dX1_isLetter_16 : decode cX1_isLetter 16 = .ok (.iconst 0, 1) := by decide +kernel
theorem dX1_isLetter_17 : decode cX1_isLetter 17 = .ok (.ireturn, 1) := by decide +kernel
theorem dX1_isDigit_0 : decode cX1_isDigit 0 = .ok (.iload_n 0, 1) := by decide +kernel
theorem dX1_isDigit_1 : decode cX1_isDigit 1 = .ok (.bipush 48, 2) := by decide +kernel
theorem dX1_isDigit_3 : decode cX1_isDigit 3 = .ok (.if_icmp .lt 13, 3) := by decide +kernel
theorem dX1_isDigit_6 : decode cX1_isDigit 6 = .ok (.iload_n 0, 1) := by decide +kernel
theorem dX1_isDigit_7 : decode cX1_isDigit 7 = .ok (.bipush 57, 2) := by decide +kernel
theorem dX1_isDigit_9 : decode cX1_isDigit 9 = .ok (.if_icmp .gt 7, 3) := by decide +kernel
theorem dX1_isDigit_12 : decode cX1_isDigit 12 = .ok (.iconst 1, 1) := by decide +kernel
theorem dX1_isDigit_13 : decode cX1_isDigit 13 = .ok (.goto 4, 3) := by decide +kernel
theorem dX1_isDigit_16 : decode cX1_isDigit 16 = .ok (.iconst 0, 1) := by decide +kernel
theorem dX1_isDigit_17 : decode cX1_isDigit 17 = .ok (.ireturn, 1) := by decide +kernel
theorem dX1_takeNumber_0 : decode cX1_takeNumber 0 = .ok (.aload_n 0, 1) := by decide +kernel
theorem dX1_takeNumber_1 : decode cX1_takeNumber 1 = .ok (.iconst 0, 1) := by decide +kernel
theorem dX1_takeNumber_2 : decode cX1_takeNumber 2 = .ok (.putfield 35, 3) := by decide +kernel
theorem dX1_takeNumber_5 : decode cX1_takeNumber 5 = .ok (.aload_n 0, 1) := by decide +kernel
theorem dX1_takeNumber_6 : decode cX1_takeNumber 6 = .ok (.getfield 29, 3) := by decide +kernel
theorem dX1_takeNumber_9 : decode cX1_takeNumber 9 = .ok (.aload_n 0, 1) := by decide +kernel
theorem dX1_takeNumber_10 : decode cX1_takeNumber 10 = .ok (.getfield 15, 3) := by decide +kernel
theorem dX1_takeNumber_13 : decode cX1_takeNumber 13 = .ok (.if_icmp .ge 55, 3) := by decide +kernel
theorem dX1_takeNumber_16 : decode cX1_takeNumber 16 = .ok (.aload_n 0, 1) := by decide +kernel
theorem dX1_takeNumber_17 : decode cX1_takeNumber 17 = .ok (.getfield 9, 3) := by decide +kernel
theorem dX1_takeNumber_20 : decode cX1_takeNumber 20 = .ok (.aload_n 0, 1) := by decide +kernel
theorem dX1_takeNumber_21 : decode cX1_takeNumber 21 = .ok (.getfield 29, 3) := by decide +kernel
theorem dX1_takeNumber_24 : decode cX1_takeNumber 24 = .ok (.iaload, 1) := by decide +kernel
theorem dX1_takeNumber_25 : decode cX1_takeNumber 25 = .ok (.invokestatic 99, 3) := by decide +kernel
theorem dX1_takeNumber_28 : decode cX1_takeNumber 28 = .ok (.ifCond .eq 40, 3) := by decide +kernel
theorem dX1_takeNumber_31 : decode cX1_takeNumber 31 = .ok (.aload_n 0, 1) := by decide +kernel
theorem dX1_takeNumber_32 : decode cX1_takeNumber 32 = .ok (.aload_n 0, 1) := by decide +kernel
theorem dX1_takeNumber_33 : decode cX1_takeNumber 33 = .ok (.getfield 35, 3) := by decide +kernel
theorem dX1_takeNumber_36 : decode cX1_takeNumber 36 = .ok (.bipush 10, 2) := by decide +kernel
theorem dX1_takeNumber_38 : decode cX1_takeNumber 38 = .ok (.imul, 1) := by decide +kernel
theorem dX1_takeNumber_39 : decode cX1_takeNumber 39 = .ok (.aload_n 0, 1) := by decide +kernel
theorem dX1_takeNumber_40 : decode cX1_takeNumber 40 = .ok (.getfield 9, 3) := by decide +kernel
theorem dX1_takeNumber_43 : decode cX1_takeNumber 43 = .ok (.aload_n 0, 1) := by decide +kernel
theorem dX1_takeNumber_44 : decode cX1_takeNumber 44 = .ok (.getfield 29, 3) := by decide +kernel
theorem dX1_takeNumber_47 : decode cX1_takeNumber 47 = .ok (.iaload, 1) := by decide +kernel
theorem dX1_takeNumber_48 : decode cX1_takeNumber 48 = .ok (.iadd, 1) := by decide +kernel
theorem dX1_takeNumber_49 : decode cX1_takeNumber 49 = .ok (.bipush 48, 2) := by decide +kernel
theorem dX1_takeNumber_51 : decode cX1_takeNumber 51 = .ok (.isub, 1) := by decide +kernel
theorem dX1_takeNumber_52 : decode cX1_takeNumber 52 = .ok (.putfield 35, 3) := by decide +kernel
theorem dX1_takeNumber_55 : decode cX1_takeNumber 55 = .ok (.aload_n 0, 1) := by decide +kernel
theorem dX1_takeNumber_56 : decode cX1_takeNumber 56 = .ok (.dup, 1) := by decide +kernel
theorem dX1_takeNumber_57 : decode cX1_takeNumber 57 = .ok (.getfield 29, 3) := by decide +kernel
theorem dX1_takeNumber_60 : decode cX1_takeNumber 60 = .ok (.iconst 1, 1) := by decide +kernel
theorem dX1_takeNumber_61 : decode cX1_takeNumber 61 = .ok (.iadd, 1) := by decide +kernel
theorem dX1_takeNumber_62 : decode cX1_takeNumber 62 = .ok (.putfield 29, 3) := by decide +kernel
theorem dX1_takeNumber_65 : decode cX1_takeNumber 65 = .ok (.goto (-60), 3) := by decide +kernel
theorem dX1_takeNumber_68 : decode cX1_takeNumber 68 = .ok (.aload_n 0, 1) := by decide +kernel
theorem dX1_takeNumber_69 : decode cX1_takeNumber 69 = .ok (.aload_n 0, 1) := by decide +kernel
theorem dX1_takeNumber_70 : decode cX1_takeNumber 70 = .ok (.getfield 29, 3) := by decide +kernel
theorem dX1_takeNumber_73 : decode cX1_takeNumber 73 = .ok (.aload_n 0, 1) := by decide +kernel
theorem dX1_takeNumber_74 : decode cX1_takeNumber 74 = .ok (.getfield 26, 3) := by decide +kernel
theorem dX1_takeNumber_77 : decode cX1_takeNumber 77 = .ok (.isub, 1) := by decide +kernel
theorem dX1_takeNumber_78 : decode cX1_takeNumber 78 = .ok (.iconst 4, 1) := by decide +kernel
theorem dX1_takeNumber_79 : decode cX1_takeNumber 79 = .ok (.if_icmp .le 8, 3) := by decide +kernel
theorem dX1_takeNumber_82 : decode cX1_takeNumber 82 = .ok (.bipush (-2), 2) := by decide +kernel
theorem dX1_takeNumber_84 : decode cX1_takeNumber 84 = .ok (.goto 6, 3) := by decide +kernel
theorem dX1_takeNumber_87 : decode cX1_takeNumber 87 = .ok (.sipush 256, 3) := by decide +kernel
theorem dX1_takeNumber_90 : decode cX1_takeNumber 90 = .ok (.putfield 32, 3) := by decide +kernel
theorem dX1_takeNumber_93 : decode cX1_takeNumber 93 = .ok (.return_, 1) := by decide +kernel
theorem dX1_takeWord_0 : decode cX1_takeWord 0 = .ok (.aload_n 0, 1) := by decide +kernel
theorem dX1_takeWord_1 : decode cX1_takeWord 1 = .ok (.getfield 29, 3) := by decide +kernel
theorem dX1_takeWord_4 : decode cX1_takeWord 4 = .ok (.aload_n 0, 1) := by decide +kernel
theorem dX1_takeWord_5 : decode cX1_takeWord 5 = .ok (.getfield 15, 3) := by decide +kernel
theorem dX1_takeWord_8 : decode cX1_takeWord 8 = .ok (.if_icmp .ge 37, 3) := by decide +kernel
theorem dX1_takeWord_11 : decode cX1_takeWord 11 = .ok (.aload_n 0, 1) := by decide +kernel
theorem dX1_takeWord_12 : decode cX1_takeWord 12 = .ok (.getfield 9, 3) := by decide +kernel
theorem dX1_takeWord_15 : decode cX1_takeWord 15 = .ok (.aload_n 0, 1) := by decide +kernel
theorem dX1_takeWord_16 : decode cX1_takeWord 16 = .ok (.getfield 29, 3) := by decide +kernel
theorem dX1_takeWord_19 : decode cX1_takeWord 19 = .ok (.iaload, 1) := by decide +kernel
theorem dX1_takeWord_20 : decode cX1_takeWord 20 = .ok (.invokestatic 93, 3) := by decide +kernel
theorem dX1_takeWord_23 : decode cX1_takeWord 23 = .ok (.ifCond .eq 22, 3) := by decide +kernel
theorem dX1_takeWord_26 : decode cX1_takeWord 26 = .ok (.aload_n 0, 1) := by decide +kernel
theorem dX1_takeWord_27 : decode cX1_takeWord 27 = .ok (.bipush (-2), 2) := by decide +kernel
theorem dX1_takeWord_29 : decode cX1_takeWord 29 = .ok (.putfield 32, 3) := by decide +kernel
theorem dX1_takeWord_32 : decode cX1_takeWord 32 = .ok (.aload_n 0, 1) := by decide +kernel
theorem dX1_takeWord_33 : decode cX1_takeWord 33 = .ok (.dup, 1) := by decide +kernel
theorem dX1_takeWord_34 : decode cX1_takeWord 34 = .ok (.getfield 29, 3) := by decide +kernel
theorem dX1_takeWord_37 : decode cX1_takeWord 37 = .ok (.iconst 1, 1) := by decide +kernel
theorem dX1_takeWord_38 : decode cX1_takeWord 38 = .ok (.iadd, 1) := by decide +kernel
theorem dX1_takeWord_39 : decode cX1_takeWord 39 = .ok (.putfield 29, 3) := by decide +kernel
theorem dX1_takeWord_42 : decode cX1_takeWord 42 = .ok (.goto (-42), 3) := by decide +kernel
theorem dX1_takeWord_45 : decode cX1_takeWord 45 = .ok (.iconst 0, 1) := by decide +kernel
theorem dX1_takeWord_46 : decode cX1_takeWord 46 = .ok (.istore_n 1, 1) := by decide +kernel
theorem dX1_takeWord_47 : decode cX1_takeWord 47 = .ok (.iconst 0, 1) := by decide +kernel
theorem dX1_takeWord_48 : decode cX1_takeWord 48 = .ok (.istore_n 2, 1) := by decide +kernel
theorem dX1_takeWord_49 : decode cX1_takeWord 49 = .ok (.iload_n 2, 1) := by decide +kernel
theorem dX1_takeWord_50 : decode cX1_takeWord 50 = .ok (.ldc 113, 2) := by decide +kernel
theorem dX1_takeWord_52 : decode cX1_takeWord 52 = .ok (.invokevirtual 115, 3) := by decide +kernel
theorem dX1_takeWord_55 : decode cX1_takeWord 55 = .ok (.if_icmp .ge 66, 3) := by decide +kernel
theorem dX1_takeWord_58 : decode cX1_takeWord 58 = .ok (.ldc 113, 2) := by decide +kernel
theorem dX1_takeWord_60 : decode cX1_takeWord 60 = .ok (.iload_n 2, 1) := by decide +kernel
theorem dX1_takeWord_61 : decode cX1_takeWord 61 = .ok (.invokevirtual 119, 3) := by decide +kernel
theorem dX1_takeWord_64 : decode cX1_takeWord 64 = .ok (.bipush 32, 2) := by decide +kernel
theorem dX1_takeWord_66 : decode cX1_takeWord 66 = .ok (.if_icmp .eq 6, 3) := by decide +kernel
theorem dX1_takeWord_69 : decode cX1_takeWord 69 = .ok (.goto 46, 3) := by decide +kernel
theorem dX1_takeWord_72 : decode cX1_takeWord 72 = .ok (.aload_n 0, 1) := by decide +kernel
theorem dX1_takeWord_73 : decode cX1_takeWord 73 = .ok (.iload_n 2, 1) := by decide +kernel
theorem dX1_takeWord_74 : decode cX1_takeWord 74 = .ok (.iconst 1, 1) := by decide +kernel
theorem dX1_takeWord_75 : decode cX1_takeWord 75 = .ok (.iadd, 1) := by decide +kernel
theorem dX1_takeWord_76 : decode cX1_takeWord 76 = .ok (.invokevirtual 123, 3) := by decide +kernel
theorem dX1_takeWord_79 : decode cX1_takeWord 79 = .ok (.ifCond .eq 33, 3) := by decide +kernel
theorem dX1_takeWord_82 : decode cX1_takeWord 82 = .ok (.aload_n 0, 1) := by decide +kernel
theorem dX1_takeWord_83 : decode cX1_takeWord 83 = .ok (.iload_n 1, 1) := by decide +kernel
theorem dX1_takeWord_84 : decode cX1_takeWord 84 = .ok (.bipush 6, 2) := by decide +kernel
theorem dX1_takeWord_86 : decode cX1_takeWord 86 = .ok (.if_icmp .ge 9, 3) := by decide +kernel
theorem dX1_takeWord_89 : decode cX1_takeWord 89 = .ok (.sipush 257, 3) := by decide +kernel
theorem dX1_takeWord_92 : decode cX1_takeWord 92 = .ok (.goto 11, 3) := by decide +kernel
theorem dX1_takeWord_95 : decode cX1_takeWord 95 = .ok (.sipush 258, 3) := by decide +kernel
theorem dX1_takeWord_98 : decode cX1_takeWord 98 = .ok (.iload_n 1, 1) := by decide +kernel
theorem dX1_takeWord_99 : decode cX1_takeWord 99 = .ok (.iadd, 1) := by decide +kernel
theorem dX1_takeWord_100 : decode cX1_takeWord 100 = .ok (.bipush 6, 2) := by decide +kernel
theorem dX1_takeWord_102 : decode cX1_takeWord 102 = .ok (.isub, 1) := by decide +kernel
theorem dX1_takeWord_103 : decode cX1_takeWord 103 = .ok (.putfield 32, 3) := by decide +kernel
theorem dX1_takeWord_106 : decode cX1_takeWord 106 = .ok (.aload_n 0, 1) := by decide +kernel
theorem dX1_takeWord_107 : decode cX1_takeWord 107 = .ok (.iload_n 1, 1) := by decide +kernel
theorem dX1_takeWord_108 : decode cX1_takeWord 108 = .ok (.putfield 35, 3) := by decide +kernel
theorem dX1_takeWord_111 : decode cX1_takeWord 111 = .ok (.return_, 1) := by decide +kernel
theorem dX1_takeWord_112 : decode cX1_takeWord 112 = .ok (.iinc 1 1, 3) := by decide +kernel
theorem dX1_takeWord_115 : decode cX1_takeWord 115 = .ok (.iinc 2 1, 3) := by decide +kernel
theorem dX1_takeWord_118 : decode cX1_takeWord 118 = .ok (.goto (-69), 3) := by decide +kernel
theorem dX1_takeWord_121 : decode cX1_takeWord 121 = .ok (.return_, 1) := by decide +kernel
theorem dX1_isWordAt_0 : decode cX1_isWordAt 0 = .ok (.aload_n 0, 1) := by decide +kernel
theorem dX1_isWordAt_1 : decode cX1_isWordAt 1 = .ok (.getfield 29, 3) := by decide +kernel
theorem dX1_isWordAt_4 : decode cX1_isWordAt 4 = .ok (.aload_n 0, 1) := by decide +kernel
theorem dX1_isWordAt_5 : decode cX1_isWordAt 5 = .ok (.getfield 26, 3) := by decide +kernel
theorem dX1_isWordAt_8 : decode cX1_isWordAt 8 = .ok (.isub, 1) := by decide +kernel
theorem dX1_isWordAt_9 : decode cX1_isWordAt 9 = .ok (.istore_n 2, 1) := by decide +kernel
theorem dX1_isWordAt_10 : decode cX1_isWordAt 10 = .ok (.iload_n 1, 1) := by decide +kernel
theorem dX1_isWordAt_11 : decode cX1_isWordAt 11 = .ok (.iload_n 2, 1) := by decide +kernel
theorem dX1_isWordAt_12 : decode cX1_isWordAt 12 = .ok (.iadd, 1) := by decide +kernel
theorem dX1_isWordAt_13 : decode cX1_isWordAt 13 = .ok (.ldc 113, 2) := by decide +kernel
theorem dX1_isWordAt_15 : decode cX1_isWordAt 15 = .ok (.invokevirtual 115, 3) := by decide +kernel
theorem dX1_isWordAt_18 : decode cX1_isWordAt 18 = .ok (.if_icmp .ge 16, 3) := by decide +kernel
theorem dX1_isWordAt_21 : decode cX1_isWordAt 21 = .ok (.ldc 113, 2) := by decide +kernel
theorem dX1_isWordAt_23 : decode cX1_isWordAt 23 = .ok (.iload_n 1, 1) := by decide +kernel
theorem dX1_isWordAt_24 : decode cX1_isWordAt 24 = .ok (.iload_n 2, 1) := by decide +kernel
theorem dX1_isWordAt_25 : decode cX1_isWordAt 25 = .ok (.iadd, 1) := by decide +kernel
theorem dX1_isWordAt_26 : decode cX1_isWordAt 26 = .ok (.invokevirtual 119, 3) := by decide +kernel
theorem dX1_isWordAt_29 : decode cX1_isWordAt 29 = .ok (.bipush 32, 2) := by decide +kernel
theorem dX1_isWordAt_31 : decode cX1_isWordAt 31 = .ok (.if_icmp .eq 5, 3) := by decide +kernel
theorem dX1_isWordAt_34 : decode cX1_isWordAt 34 = .ok (.iconst 0, 1) := by decide +kernel
theorem dX1_isWordAt_35 : decode cX1_isWordAt 35 = .ok (.ireturn, 1) := by decide +kernel
theorem dX1_isWordAt_36 : decode cX1_isWordAt 36 = .ok (.iconst 0, 1) := by decide +kernel
theorem dX1_isWordAt_37 : decode cX1_isWordAt 37 = .ok (.istore_n 3, 1) := by decide +kernel
theorem dX1_isWordAt_38 : decode cX1_isWordAt 38 = .ok (.iload_n 3, 1) := by decide +kernel
theorem dX1_isWordAt_39 : decode cX1_isWordAt 39 = .ok (.iload_n 2, 1) := by decide +kernel
theorem dX1_isWordAt_40 : decode cX1_isWordAt 40 = .ok (.if_icmp .ge 33, 3) := by decide +kernel
theorem dX1_isWordAt_43 : decode cX1_isWordAt 43 = .ok (.ldc 113, 2) := by decide +kernel
theorem dX1_isWordAt_45 : decode cX1_isWordAt 45 = .ok (.iload_n 1, 1) := by decide +kernel
theorem dX1_isWordAt_46 : decode cX1_isWordAt 46 = .ok (.iload_n 3, 1) := by decide +kernel
theorem dX1_isWordAt_47 : decode cX1_isWordAt 47 = .ok (.iadd, 1) := by decide +kernel
theorem dX1_isWordAt_48 : decode cX1_isWordAt 48 = .ok (.invokevirtual 119, 3) := by decide +kernel
theorem dX1_isWordAt_51 : decode cX1_isWordAt 51 = .ok (.aload_n 0, 1) := by decide +kernel
theorem dX1_isWordAt_52 : decode cX1_isWordAt 52 = .ok (.getfield 9, 3) := by decide +kernel
theorem dX1_isWordAt_55 : decode cX1_isWordAt 55 = .ok (.aload_n 0, 1) := by decide +kernel
theorem dX1_isWordAt_56 : decode cX1_isWordAt 56 = .ok (.getfield 26, 3) := by decide +kernel
theorem dX1_isWordAt_59 : decode cX1_isWordAt 59 = .ok (.iload_n 3, 1) := by decide +kernel
theorem dX1_isWordAt_60 : decode cX1_isWordAt 60 = .ok (.iadd, 1) := by decide +kernel
theorem dX1_isWordAt_61 : decode cX1_isWordAt 61 = .ok (.iaload, 1) := by decide +kernel
theorem dX1_isWordAt_62 : decode cX1_isWordAt 62 = .ok (.if_icmp .eq 5, 3) := by decide +kernel
theorem dX1_isWordAt_65 : decode cX1_isWordAt 65 = .ok (.iconst 0, 1) := by decide +kernel
theorem dX1_isWordAt_66 : decode cX1_isWordAt 66 = .ok (.ireturn, 1) := by decide +kernel
theorem dX1_isWordAt_67 : decode cX1_isWordAt 67 = .ok (.iinc 3 1, 3) := by decide +kernel
theorem dX1_isWordAt_70 : decode cX1_isWordAt 70 = .ok (.goto (-32), 3) := by decide +kernel
theorem dX1_isWordAt_73 : decode cX1_isWordAt 73 = .ok (.iconst 1, 1) := by decide +kernel
theorem dX1_isWordAt_74 : decode cX1_isWordAt 74 = .ok (.ireturn, 1) := by decide +kernel
theorem dX2_init_0 : decode cX2_init 0 = .ok (.aload_n 0, 1) := by decide +kernel
theorem dX2_init_1 : decode cX2_init 1 = .ok (.invokespecial 3, 3) := by decide +kernel
theorem dX2_init_4 : decode cX2_init 4 = .ok (.aload_n 0, 1) := by decide +kernel
theorem dX2_init_5 : decode cX2_init 5 = .ok (.iconst (-1), 1) := by decide +kernel
theorem dX2_init_6 : decode cX2_init 6 = .ok (.putfield 9, 3) := by decide +kernel
theorem dX2_init_9 : decode cX2_init 9 = .ok (.aload_n 0, 1) := by decide +kernel
theorem dX2_init_10 : decode cX2_init 10 = .ok (.iconst 0, 1) := by decide +kernel
theorem dX2_init_11 : decode cX2_init 11 = .ok (.putfield 15, 3) := by decide +kernel
theorem dX2_init_14 : decode cX2_init 14 = .ok (.aload_n 0, 1) := by decide +kernel
theorem dX2_init_15 : decode cX2_init 15 = .ok (.bipush 40, 2) := by decide +kernel
theorem dX2_init_17 : decode cX2_init 17 = .ok (.newarray .int, 2) := by decide +kernel
theorem dX2_init_19 : decode cX2_init 19 = .ok (.putfield 18, 3) := by decide +kernel
theorem dX2_init_22 : decode cX2_init 22 = .ok (.return_, 1) := by decide +kernel
theorem dX2_become_0 : decode cX2_become 0 = .ok (.aload_n 0, 1) := by decide +kernel
theorem dX2_become_1 : decode cX2_become 1 = .ok (.iload_n 1, 1) := by decide +kernel
theorem dX2_become_2 : decode cX2_become 2 = .ok (.putfield 9, 3) := by decide +kernel
theorem dX2_become_5 : decode cX2_become 5 = .ok (.aload_n 0, 1) := by decide +kernel
theorem dX2_become_6 : decode cX2_become 6 = .ok (.iload_n 2, 1) := by decide +kernel
theorem dX2_become_7 : decode cX2_become 7 = .ok (.putfield 15, 3) := by decide +kernel
theorem dX2_become_10 : decode cX2_become 10 = .ok (.aload_n 0, 1) := by decide +kernel
theorem dX2_become_11 : decode cX2_become 11 = .ok (.getfield 18, 3) := by decide +kernel
theorem dX2_become_14 : decode cX2_become 14 = .ok (.iconst 0, 1) := by decide +kernel
theorem dX2_become_15 : decode cX2_become 15 = .ok (.invokestatic 22, 3) := by decide +kernel
theorem dX2_become_18 : decode cX2_become 18 = .ok (.return_, 1) := by decide +kernel
theorem dX2_isMissing_0 : decode cX2_isMissing 0 = .ok (.aload_n 0, 1) := by decide +kernel
theorem dX2_isMissing_1 : decode cX2_isMissing 1 = .ok (.getfield 9, 3) := by decide +kernel
theorem dX2_isMissing_4 : decode cX2_isMissing 4 = .ok (.iconst (-1), 1) := by decide +kernel
theorem dX2_isMissing_5 : decode cX2_isMissing 5 = .ok (.if_icmp .ne 7, 3) := by decide +kernel
theorem dX2_isMissing_8 : decode cX2_isMissing 8 = .ok (.iconst 1, 1) := by decide +kernel
theorem dX2_isMissing_9 : decode cX2_isMissing 9 = .ok (.goto 4, 3) := by decide +kernel
theorem dX2_isMissing_12 : decode cX2_isMissing 12 = .ok (.iconst 0, 1) := by decide +kernel
theorem dX2_isMissing_13 : decode cX2_isMissing 13 = .ok (.ireturn, 1) := by decide +kernel
theorem dX2_holds_0 : decode cX2_holds 0 = .ok (.iload_n 1, 1) := by decide +kernel
theorem dX2_holds_1 : decode cX2_holds 1 = .ok (.ifCond .lt 29, 3) := by decide +kernel
theorem dX2_holds_4 : decode cX2_holds 4 = .ok (.iload_n 2, 1) := by decide +kernel
theorem dX2_holds_5 : decode cX2_holds 5 = .ok (.ifCond .lt 25, 3) := by decide +kernel
theorem dX2_holds_8 : decode cX2_holds 8 = .ok (.iload_n 1, 1) := by decide +kernel
theorem dX2_holds_9 : decode cX2_holds 9 = .ok (.aload_n 0, 1) := by decide +kernel
theorem dX2_holds_10 : decode cX2_holds 10 = .ok (.getfield 15, 3) := by decide +kernel
theorem dX2_holds_13 : decode cX2_holds 13 = .ok (.if_icmp .gt 17, 3) := by decide +kernel
theorem dX2_holds_16 : decode cX2_holds 16 = .ok (.iload_n 2, 1) := by decide +kernel
theorem dX2_holds_17 : decode cX2_holds 17 = .ok (.aload_n 0, 1) := by decide +kernel
theorem dX2_holds_18 : decode cX2_holds 18 = .ok (.getfield 15, 3) := by decide +kernel
theorem dX2_holds_21 : decode cX2_holds 21 = .ok (.iload_n 1, 1) := by decide +kernel
theorem dX2_holds_22 : decode cX2_holds 22 = .ok (.isub, 1) := by decide +kernel
theorem dX2_holds_23 : decode cX2_holds 23 = .ok (.if_icmp .gt 7, 3) := by decide +kernel
theorem dX2_holds_26 : decode cX2_holds 26 = .ok (.iconst 1, 1) := by decide +kernel
theorem dX2_holds_27 : decode cX2_holds 27 = .ok (.goto 4, 3) := by decide +kernel
theorem dX2_holds_30 : decode cX2_holds 30 = .ok (.iconst 0, 1) := by decide +kernel
theorem dX2_holds_31 : decode cX2_holds 31 = .ok (.ireturn, 1) := by decide +kernel
theorem dX2_item_0 : decode cX2_item 0 = .ok (.iload_n 1, 1) := by decide +kernel
theorem dX2_item_1 : decode cX2_item 1 = .ok (.aload_n 0, 1) := by decide +kernel
theorem dX2_item_2 : decode cX2_item 2 = .ok (.getfield 15, 3) := by decide +kernel
theorem dX2_item_5 : decode cX2_item 5 = .ok (.invokestatic 28, 3) := by decide +kernel
theorem dX2_item_8 : decode cX2_item 8 = .ok (.ifCond .eq 21, 3) := by decide +kernel
theorem dX2_item_11 : decode cX2_item 11 = .ok (.iload_n 1, 1) := by decide +kernel
theorem dX2_item_12 : decode cX2_item 12 = .ok (.aload_n 0, 1) := by decide +kernel
theorem dX2_item_13 : decode cX2_item 13 = .ok (.getfield 18, 3) := by decide +kernel
theorem dX2_item_16 : decode cX2_item 16 = .ok (.arraylength, 1) := by decide +kernel
theorem dX2_item_17 : decode cX2_item 17 = .ok (.if_icmp .ge 12, 3) := by decide +kernel
theorem dX2_item_20 : decode cX2_item 20 = .ok (.aload_n 0, 1) := by decide +kernel
theorem dX2_item_21 : decode cX2_item 21 = .ok (.getfield 18, 3) := by decide +kernel
theorem dX2_item_24 : decode cX2_item 24 = .ok (.iload_n 1, 1) := by decide +kernel
theorem dX2_item_25 : decode cX2_item 25 = .ok (.iaload, 1) := by decide +kernel
theorem dX2_item_26 : decode cX2_item 26 = .ok (.goto 4, 3) := by decide +kernel
theorem dX2_item_29 : decode cX2_item 29 = .ok (.iconst (-1), 1) := by decide +kernel
theorem dX2_item_30 : decode cX2_item 30 = .ok (.ireturn, 1) := by decide +kernel
theorem dX2_put_0 : decode cX2_put 0 = .ok (.iload_n 1, 1) := by decide +kernel
theorem dX2_put_1 : decode cX2_put 1 = .ok (.aload_n 0, 1) := by decide +kernel
theorem dX2_put_2 : decode cX2_put 2 = .ok (.getfield 15, 3) := by decide +kernel
theorem dX2_put_5 : decode cX2_put 5 = .ok (.invokestatic 28, 3) := by decide +kernel
theorem dX2_put_8 : decode cX2_put 8 = .ok (.ifCond .eq 12, 3) := by decide +kernel
theorem dX2_put_11 : decode cX2_put 11 = .ok (.iload_n 1, 1) := by decide +kernel
theorem dX2_put_12 : decode cX2_put 12 = .ok (.aload_n 0, 1) := by decide +kernel
theorem dX2_put_13 : decode cX2_put 13 = .ok (.getfield 18, 3) := by decide +kernel
theorem dX2_put_16 : decode cX2_put 16 = .ok (.arraylength, 1) := by decide +kernel
theorem dX2_put_17 : decode cX2_put 17 = .ok (.if_icmp .lt 4, 3) := by decide +kernel
theorem dX2_put_20 : decode cX2_put 20 = .ok (.return_, 1) := by decide +kernel
theorem dX2_put_21 : decode cX2_put 21 = .ok (.aload_n 0, 1) := by decide +kernel
theorem dX2_put_22 : decode cX2_put 22 = .ok (.getfield 9, 3) := by decide +kernel
theorem dX2_put_25 : decode cX2_put 25 = .ok (.ifCond .ne 14, 3) := by decide +kernel
theorem dX2_put_28 : decode cX2_put 28 = .ok (.aload_n 0, 1) := by decide +kernel
theorem dX2_put_29 : decode cX2_put 29 = .ok (.getfield 18, 3) := by decide +kernel
theorem dX2_put_32 : decode cX2_put 32 = .ok (.iload_n 1, 1) := by decide +kernel
theorem dX2_put_33 : decode cX2_put 33 = .ok (.iload_n 2, 1) := by decide +kernel
theorem dX2_put_34 : decode cX2_put 34 = .ok (.i2b, 1) := by decide +kernel
theorem dX2_put_35 : decode cX2_put 35 = .ok (.iastore, 1) := by decide +kernel
theorem dX2_put_36 : decode cX2_put 36 = .ok (.goto 29, 3) := by decide +kernel
theorem dX2_put_39 : decode cX2_put 39 = .ok (.aload_n 0, 1) := by decide +kernel
theorem dX2_put_40 : decode cX2_put 40 = .ok (.getfield 9, 3) := by decide +kernel
theorem dX2_put_43 : decode cX2_put 43 = .ok (.iconst 1, 1) := by decide +kernel
theorem dX2_put_44 : decode cX2_put 44 = .ok (.if_icmp .ne 14, 3) := by decide +kernel
theorem dX2_put_47 : decode cX2_put 47 = .ok (.aload_n 0, 1) := by decide +kernel
theorem dX2_put_48 : decode cX2_put 48 = .ok (.getfield 18, 3) := by decide +kernel
theorem dX2_put_51 : decode cX2_put 51 = .ok (.iload_n 1, 1) := by decide +kernel
theorem dX2_put_52 : decode cX2_put 52 = .ok (.iload_n 2, 1) := by decide +kernel
theorem dX2_put_53 : decode cX2_put 53 = .ok (.i2s, 1) := by decide +kernel
theorem dX2_put_54 : decode cX2_put 54 = .ok (.iastore, 1) := by decide +kernel
theorem dX2_put_55 : decode cX2_put 55 = .ok (.goto 10, 3) := by decide +kernel
theorem dX2_put_58 : decode cX2_put 58 = .ok (.aload_n 0, 1) := by decide +kernel
theorem dX2_put_59 : decode cX2_put 59 = .ok (.getfield 18, 3) := by decide +kernel
theorem dX2_put_62 : decode cX2_put 62 = .ok (.iload_n 1, 1) := by decide +kernel
theorem dX2_put_63 : decode cX2_put 63 = .ok (.iload_n 2, 1) := by decide +kernel
theorem dX2_put_64 : decode cX2_put 64 = .ok (.iastore, 1) := by decide +kernel
theorem dX2_put_65 : decode cX2_put 65 = .ok (.return_, 1) := by decide +kernel
theorem dX3_init_0 : decode cX3_init 0 = .ok (.aload_n 0, 1) := by decide +kernel
theorem dX3_init_1 : decode cX3_init 1 = .ok (.invokespecial 3, 3) := by decide +kernel
theorem dX3_init_4 : decode cX3_init 4 = .ok (.aload_n 0, 1) := by decide +kernel
theorem dX3_init_5 : decode cX3_init 5 = .ok (.bipush 8, 2) := by decide +kernel
theorem dX3_init_7 : decode cX3_init 7 = .ok (.newarray .int, 2) := by decide +kernel
theorem dX3_init_9 : decode cX3_init 9 = .ok (.dup, 1) := by decide +kernel
theorem dX3_init_10 : decode cX3_init 10 = .ok (.iconst 0, 1) := by decide +kernel
theorem dX3_init_11 : decode cX3_init 11 = .ok (.iconst 0, 1) := by decide +kernel
theorem dX3_init_12 : decode cX3_init 12 = .ok (.iastore, 1) := by decide +kernel
theorem dX3_init_13 : decode cX3_init 13 = .ok (.dup, 1) := by decide +kernel
theorem dX3_init_14 : decode cX3_init 14 = .ok (.iconst 1, 1) := by decide +kernel
theorem dX3_init_15 : decode cX3_init 15 = .ok (.bipush 9, 2) := by decide +kernel
theorem dX3_init_17 : decode cX3_init 17 = .ok (.iastore, 1) := by decide +kernel
theorem dX3_init_18 : decode cX3_init 18 = .ok (.dup, 1) := by decide +kernel
theorem dX3_init_19 : decode cX3_init 19 = .ok (.iconst 2, 1) := by decide +kernel
theorem dX3_init_20 : decode cX3_init 20 = .ok (.iconst 0, 1) := by decide +kernel
theorem dX3_init_21 : decode cX3_init 21 = .ok (.iastore, 1) := by decide +kernel
theorem dX3_init_22 : decode cX3_init 22 = .ok (.dup, 1) := by decide +kernel
theorem dX3_init_23 : decode cX3_init 23 = .ok (.iconst 3, 1) := by decide +kernel
theorem dX3_init_24 : decode cX3_init 24 = .ok (.sipush 199, 3) := by decide +kernel
theorem dX3_init_27 : decode cX3_init 27 = .ok (.iastore, 1) := by decide +kernel
theorem dX3_init_28 : decode cX3_init 28 = .ok (.dup, 1) := by decide +kernel
theorem dX3_init_29 : decode cX3_init 29 = .ok (.iconst 4, 1) := by decide +kernel
theorem dX3_init_30 : decode cX3_init 30 = .ok (.iconst 0, 1) := by decide +kernel
theorem dX3_init_31 : decode cX3_init 31 = .ok (.iastore, 1) := by decide +kernel
theorem dX3_init_32 : decode cX3_init 32 = .ok (.dup, 1) := by decide +kernel
theorem dX3_init_33 : decode cX3_init 33 = .ok (.iconst 5, 1) := by decide +kernel
theorem dX3_init_34 : decode cX3_init 34 = .ok (.iconst 0, 1) := by decide +kernel
theorem dX3_init_35 : decode cX3_init 35 = .ok (.iastore, 1) := by decide +kernel
theorem dX3_init_36 : decode cX3_init 36 = .ok (.dup, 1) := by decide +kernel
theorem dX3_init_37 : decode cX3_init 37 = .ok (.bipush 6, 2) := by decide +kernel
theorem dX3_init_39 : decode cX3_init 39 = .ok (.iconst 0, 1) := by decide +kernel
theorem dX3_init_40 : decode cX3_init 40 = .ok (.iastore, 1) := by decide +kernel
theorem dX3_init_41 : decode cX3_init 41 = .ok (.dup, 1) := by decide +kernel
theorem dX3_init_42 : decode cX3_init 42 = .ok (.bipush 7, 2) := by decide +kernel
theorem dX3_init_44 : decode cX3_init 44 = .ok (.sipush 199, 3) := by decide +kernel
theorem dX3_init_47 : decode cX3_init 47 = .ok (.iastore, 1) := by decide +kernel
theorem dX3_init_48 : decode cX3_init 48 = .ok (.putfield 9, 3) := by decide +kernel
theorem dX3_init_51 : decode cX3_init 51 = .ok (.aload_n 0, 1) := by decide +kernel
theorem dX3_init_52 : decode cX3_init 52 = .ok (.bipush 6, 2) := by decide +kernel
theorem dX3_init_54 : decode cX3_init 54 = .ok (.bipush 7, 2) := by decide +kernel
theorem dX3_init_56 : decode cX3_init 56 = .ok (.multianewarray 15 2, 4) := by decide +kernel
theorem dX3_init_60 : decode cX3_init 60 = .ok (.putfield 17, 3) := by decide +kernel
theorem dX3_init_63 : decode cX3_init 63 = .ok (.aload_n 0, 1) := by decide +kernel
theorem dX3_init_64 : decode cX3_init 64 = .ok (.aload_n 0, 1) := by decide +kernel
theorem dX3_init_65 : decode cX3_init 65 = .ok (.getfield 17, 3) := by decide +kernel
theorem dX3_init_68 : decode cX3_init 68 = .ok (.iconst 0, 1) := by decide +kernel
theorem dX3_init_69 : decode cX3_init 69 = .ok (.aaload, 1) := by decide +kernel
theorem dX3_init_70 : decode cX3_init 70 = .ok (.putfield 20, 3) := by decide +kernel
theorem dX3_init_73 : decode cX3_init 73 = .ok (.aload_n 0, 1) := by decide +kernel
theorem dX3_init_74 : decode cX3_init 74 = .ok (.aload_n 0, 1) := by decide +kernel
theorem dX3_init_75 : decode cX3_init 75 = .ok (.getfield 17, 3) := by decide +kernel
theorem dX3_init_78 : decode cX3_init 78 = .ok (.iconst 1, 1) := by decide +kernel
theorem dX3_init_79 : decode cX3_init 79 = .ok (.aaload, 1) := by decide +kernel
theorem dX3_init_80 : decode cX3_init 80 = .ok (.putfield 23, 3) := by decide +kernel
theorem dX3_init_83 : decode cX3_init 83 = .ok (.aload_n 0, 1) := by decide +kernel
theorem dX3_init_84 : decode cX3_init 84 = .ok (.aload_n 0, 1) := by decide +kernel
theorem dX3_init_85 : decode cX3_init 85 = .ok (.getfield 17, 3) := by decide +kernel
theorem dX3_init_88 : decode cX3_init 88 = .ok (.iconst 2, 1) := by decide +kernel
theorem dX3_init_89 : decode cX3_init 89 = .ok (.aaload, 1) := by decide +kernel
theorem dX3_init_90 : decode cX3_init 90 = .ok (.putfield 26, 3) := by decide +kernel
theorem dX3_init_93 : decode cX3_init 93 = .ok (.aload_n 0, 1) := by decide +kernel
theorem dX3_init_94 : decode cX3_init 94 = .ok (.aload_n 0, 1) := by decide +kernel
theorem dX3_init_95 : decode cX3_init 95 = .ok (.getfield 17, 3) := by decide +kernel
theorem dX3_init_98 : decode cX3_init 98 = .ok (.iconst 3, 1) := by decide +kernel
theorem dX3_init_99 : decode cX3_init 99 = .ok (.aaload, 1) := by decide +kernel
theorem dX3_init_100 : decode cX3_init 100 = .ok (.putfield 29, 3) := by decide +kernel
theorem dX3_init_103 : decode cX3_init 103 = .ok (.aload_n 0, 1) := by decide +kernel
theorem dX3_init_104 : decode cX3_init 104 = .ok (.aload_n 0, 1) := by decide +kernel
theorem dX3_init_105 : decode cX3_init 105 = .ok (.getfield 17, 3) := by decide +kernel
theorem dX3_init_108 : decode cX3_init 108 = .ok (.iconst 4, 1) := by decide +kernel
theorem dX3_init_109 : decode cX3_init 109 = .ok (.aaload, 1) := by decide +kernel
theorem dX3_init_110 : decode cX3_init 110 = .ok (.putfield 32, 3) := by decide +kernel
theorem dX3_init_113 : decode cX3_init 113 = .ok (.aload_n 0, 1) := by decide +kernel
theorem dX3_init_114 : decode cX3_init 114 = .ok (.aload_n 0, 1) := by decide +kernel
theorem dX3_init_115 : decode cX3_init 115 = .ok (.getfield 17, 3) := by decide +kernel
theorem dX3_init_118 : decode cX3_init 118 = .ok (.iconst 5, 1) := by decide +kernel
theorem dX3_init_119 : decode cX3_init 119 = .ok (.aaload, 1) := by decide +kernel
theorem dX3_init_120 : decode cX3_init 120 = .ok (.putfield 35, 3) := by decide +kernel
theorem dX3_init_123 : decode cX3_init 123 = .ok (.aload_n 0, 1) := by decide +kernel
theorem dX3_init_124 : decode cX3_init 124 = .ok (.bipush 7, 2) := by decide +kernel
theorem dX3_init_126 : decode cX3_init 126 = .ok (.sipush 200, 3) := by decide +kernel
theorem dX3_init_129 : decode cX3_init 129 = .ok (.multianewarray 15 2, 4) := by decide +kernel
theorem dX3_init_133 : decode cX3_init 133 = .ok (.putfield 38, 3) := by decide +kernel
theorem dX3_init_136 : decode cX3_init 136 = .ok (.aload_n 0, 1) := by decide +kernel
theorem dX3_init_137 : decode cX3_init 137 = .ok (.iconst 0, 1) := by decide +kernel
theorem dX3_init_138 : decode cX3_init 138 = .ok (.putfield 41, 3) := by decide +kernel
theorem dX3_init_141 : decode cX3_init 141 = .ok (.aload_n 0, 1) := by decide +kernel
theorem dX3_init_142 : decode cX3_init 142 = .ok (.iconst 0, 1) := by decide +kernel
theorem dX3_init_143 : decode cX3_init 143 = .ok (.putfield 45, 3) := by decide +kernel
theorem dX3_init_146 : decode cX3_init 146 = .ok (.aload_n 0, 1) := by decide +kernel
theorem dX3_init_147 : decode cX3_init 147 = .ok (.iconst 0, 1) := by decide +kernel
theorem dX3_init_148 : decode cX3_init 148 = .ok (.putfield 48, 3) := by decide +kernel
theorem dX3_init_151 : decode cX3_init 151 = .ok (.return_, 1) := by decide +kernel
theorem dX3_takeAfter_0 : decode cX3_takeAfter 0 = .ok (.aload_n 1, 1) := by decide +kernel
theorem dX3_takeAfter_1 : decode cX3_takeAfter 1 = .ok (.getfield 9, 3) := by decide +kernel
theorem dX3_takeAfter_4 : decode cX3_takeAfter 4 = .ok (.iconst 0, 1) := by decide +kernel
theorem dX3_takeAfter_5 : decode cX3_takeAfter 5 = .ok (.aload_n 0, 1) := by decide +kernel
theorem dX3_takeAfter_6 : decode cX3_takeAfter 6 = .ok (.getfield 9, 3) := by decide +kernel
theorem dX3_takeAfter_9 : decode cX3_takeAfter 9 = .ok (.iconst 0, 1) := by decide +kernel
theorem dX3_takeAfter_10 : decode cX3_takeAfter 10 = .ok (.bipush 8, 2) := by decide +kernel
theorem dX3_takeAfter_12 : decode cX3_takeAfter 12 = .ok (.invokestatic 51, 3) := by decide +kernel
theorem dX3_takeAfter_15 : decode cX3_takeAfter 15 = .ok (.iconst 0, 1) := by decide +kernel
theorem dX3_takeAfter_16 : decode cX3_takeAfter 16 = .ok (.istore_n 2, 1) := by decide +kernel
theorem dX3_takeAfter_17 : decode cX3_takeAfter 17 = .ok (.iload_n 2, 1) := by decide +kernel
theorem dX3_takeAfter_18 : decode cX3_takeAfter 18 = .ok (.bipush 6, 2) := by decide +kernel
theorem dX3_takeAfter_20 : decode cX3_takeAfter 20 = .ok (.if_icmp .ge 28, 3) := by decide +kernel
theorem dX3_takeAfter_23 : decode cX3_takeAfter 23 = .ok (.aload_n 1, 1) := by decide +kernel
theorem dX3_takeAfter_24 : decode cX3_takeAfter 24 = .ok (.getfield 17, 3) := by decide +kernel
theorem dX3_takeAfter_27 : decode cX3_takeAfter 27 = .ok (.iload_n 2, 1) := by decide +kernel
theorem dX3_takeAfter_28 : decode cX3_takeAfter 28 = .ok (.aaload, 1) := by decide +kernel
theorem dX3_takeAfter_29 : decode cX3_takeAfter 29 = .ok (.iconst 0, 1) := by decide +kernel
theorem dX3_takeAfter_30 : decode cX3_takeAfter 30 = .ok (.aload_n 0, 1) := by decide +kernel
theorem dX3_takeAfter_31 : decode cX3_takeAfter 31 = .ok (.getfield 17, 3) := by decide +kernel
theorem dX3_takeAfter_34 : decode cX3_takeAfter 34 = .ok (.iload_n 2, 1) := by decide +kernel
theorem dX3_takeAfter_35 : decode cX3_takeAfter 35 = .ok (.aaload, 1) := by decide +kernel
theorem dX3_takeAfter_36 : decode cX3_takeAfter 36 = .ok (.iconst 0, 1) := by decide +kernel
theorem dX3_takeAfter_37 : decode cX3_takeAfter 37 = .ok (.bipush 7, 2) := by decide +kernel
theorem dX3_takeAfter_39 : decode cX3_takeAfter 39 = .ok (.invokestatic 51, 3) := by decide +kernel
theorem dX3_takeAfter_42 : decode cX3_takeAfter 42 = .ok (.iinc 2 1, 3) := by decide +kernel
theorem dX3_takeAfter_45 : decode cX3_takeAfter 45 = .ok (.goto (-28), 3) := by decide +kernel
theorem dX3_takeAfter_48 : decode cX3_takeAfter 48 = .ok (.iconst 0, 1) := by decide +kernel
theorem dX3_takeAfter_49 : decode cX3_takeAfter 49 = .ok (.istore_n 2, 1) := by decide +kernel
theorem dX3_takeAfter_50 : decode cX3_takeAfter 50 = .ok (.iload_n 2, 1) := by decide +kernel
theorem dX3_takeAfter_51 : decode cX3_takeAfter 51 = .ok (.bipush 7, 2) := by decide +kernel
theorem dX3_takeAfter_53 : decode cX3_takeAfter 53 = .ok (.if_icmp .ge 29, 3) := by decide +kernel
theorem dX3_takeAfter_56 : decode cX3_takeAfter 56 = .ok (.aload_n 1, 1) := by decide +kernel
theorem dX3_takeAfter_57 : decode cX3_takeAfter 57 = .ok (.getfield 38, 3) := by decide +kernel
theorem dX3_takeAfter_60 : decode cX3_takeAfter 60 = .ok (.iload_n 2, 1) := by decide +kernel
theorem dX3_takeAfter_61 : decode cX3_takeAfter 61 = .ok (.aaload, 1) := by decide +kernel
theorem dX3_takeAfter_62 : decode cX3_takeAfter 62 = .ok (.iconst 0, 1) := by decide +kernel
theorem dX3_takeAfter_63 : decode cX3_takeAfter 63 = .ok (.aload_n 0, 1) := by decide +kernel
theorem dX3_takeAfter_64 : decode cX3_takeAfter 64 = .ok (.getfield 38, 3) := by decide +kernel
theorem dX3_takeAfter_67 : decode cX3_takeAfter 67 = .ok (.iload_n 2, 1) := by decide +kernel
theorem dX3_takeAfter_68 : decode cX3_takeAfter 68 = .ok (.aaload, 1) := by decide +kernel
theorem dX3_takeAfter_69 : decode cX3_takeAfter 69 = .ok (.iconst 0, 1) := by decide +kernel
theorem dX3_takeAfter_70 : decode cX3_takeAfter 70 = .ok (.sipush 200, 3) := by decide +kernel
theorem dX3_takeAfter_73 : decode cX3_takeAfter 73 = .ok (.invokestatic 51, 3) := by decide +kernel
theorem dX3_takeAfter_76 : decode cX3_takeAfter 76 = .ok (.iinc 2 1, 3) := by decide +kernel
theorem dX3_takeAfter_79 : decode cX3_takeAfter 79 = .ok (.goto (-29), 3) := by decide +kernel
theorem dX3_takeAfter_82 : decode cX3_takeAfter 82 = .ok (.aload_n 0, 1) := by decide +kernel
theorem dX3_takeAfter_83 : decode cX3_takeAfter 83 = .ok (.aload_n 1, 1) := by decide +kernel
theorem dX3_takeAfter_84 : decode cX3_takeAfter 84 = .ok (.getfield 41, 3) := by decide +kernel
theorem dX3_takeAfter_87 : decode cX3_takeAfter 87 = .ok (.putfield 41, 3) := by decide +kernel
theorem dX3_takeAfter_90 : decode cX3_takeAfter 90 = .ok (.aload_n 0, 1) := by decide +kernel
theorem dX3_takeAfter_91 : decode cX3_takeAfter 91 = .ok (.aload_n 1, 1) := by decide +kernel
theorem dX3_takeAfter_92 : decode cX3_takeAfter 92 = .ok (.getfield 45, 3) := by decide +kernel
theorem dX3_takeAfter_95 : decode cX3_takeAfter 95 = .ok (.putfield 45, 3) := by decide +kernel
theorem dX3_takeAfter_98 : decode cX3_takeAfter 98 = .ok (.aload_n 0, 1) := by decide +kernel
theorem dX3_takeAfter_99 : decode cX3_takeAfter 99 = .ok (.aload_n 1, 1) := by decide +kernel
theorem dX3_takeAfter_100 : decode cX3_takeAfter 100 = .ok (.getfield 48, 3) := by decide +kernel
theorem dX3_takeAfter_103 : decode cX3_takeAfter 103 = .ok (.putfield 48, 3) := by decide +kernel
theorem dX3_takeAfter_106 : decode cX3_takeAfter 106 = .ok (.return_, 1) := by decide +kernel
theorem dX3_all_0 : decode cX3_all 0 = .ok (.iconst 1, 1) := by decide +kernel
theorem dX3_all_1 : decode cX3_all 1 = .ok (.aload_n 0, 1) := by decide +kernel
theorem dX3_all_2 : decode cX3_all 2 = .ok (.getfield 45, 3) := by decide +kernel
theorem dX3_all_5 : decode cX3_all 5 = .ok (.ishl, 1) := by decide +kernel
theorem dX3_all_6 : decode cX3_all 6 = .ok (.iconst 1, 1) := by decide +kernel
theorem dX3_all_7 : decode cX3_all 7 = .ok (.isub, 1) := by decide +kernel
theorem dX3_all_8 : decode cX3_all 8 = .ok (.ireturn, 1) := by decide +kernel
theorem dX3_get_0 : decode cX3_get 0 = .ok (.iload_n 1, 1) := by decide +kernel
theorem dX3_get_1 : decode cX3_get 1 = .ok (.bipush 8, 2) := by decide +kernel
theorem dX3_get_3 : decode cX3_get 3 = .ok (.invokestatic 57, 3) := by decide +kernel
theorem dX3_get_6 : decode cX3_get 6 = .ok (.ifCond .eq 10, 3) := by decide +kernel
theorem dX3_get_9 : decode cX3_get 9 = .ok (.aload_n 0, 1) := by decide +kernel
theorem dX3_get_10 : decode cX3_get 10 = .ok (.getfield 9, 3) := by decide +kernel
theorem dX3_get_13 : decode cX3_get 13 = .ok (.iload_n 1, 1) := by decide +kernel
theorem dX3_get_14 : decode cX3_get 14 = .ok (.iaload, 1) := by decide +kernel
theorem dX3_get_15 : decode cX3_get 15 = .ok (.ireturn, 1) := by decide +kernel
theorem dX3_get_16 : decode cX3_get 16 = .ok (.iload_n 1, 1) := by decide +kernel
theorem dX3_get_17 : decode cX3_get 17 = .ok (.bipush 8, 2) := by decide +kernel
theorem dX3_get_19 : decode cX3_get 19 = .ok (.isub, 1) := by decide +kernel
theorem dX3_get_20 : decode cX3_get 20 = .ok (.bipush 6, 2) := by decide +kernel
theorem dX3_get_22 : decode cX3_get 22 = .ok (.invokestatic 57, 3) := by decide +kernel
theorem dX3_get_25 : decode cX3_get 25 = .ok (.ifCond .eq 16, 3) := by decide +kernel
theorem dX3_get_28 : decode cX3_get 28 = .ok (.iload_n 2, 1) := by decide +kernel
theorem dX3_get_29 : decode cX3_get 29 = .ok (.bipush 7, 2) := by decide +kernel
theorem dX3_get_31 : decode cX3_get 31 = .ok (.invokestatic 57, 3) := by decide +kernel
theorem dX3_get_34 : decode cX3_get 34 = .ok (.ifCond .eq 7, 3) := by decide +kernel
theorem dX3_get_37 : decode cX3_get 37 = .ok (.iconst 1, 1) := by decide +kernel
theorem dX3_get_38 : decode cX3_get 38 = .ok (.goto 4, 3) := by decide +kernel
theorem dX3_get_41 : decode cX3_get 41 = .ok (.iconst 0, 1) := by decide +kernel
theorem dX3_get_42 : decode cX3_get 42 = .ok (.istore_n 3, 1) := by decide +kernel
theorem dX3_get_43 : decode cX3_get 43 = .ok (.iload_n 3, 1) := by decide +kernel
theorem dX3_get_44 : decode cX3_get 44 = .ok (.ifCond .eq 17, 3) := by decide +kernel
theorem dX3_get_47 : decode cX3_get 47 = .ok (.aload_n 0, 1) := by decide +kernel
theorem dX3_get_48 : decode cX3_get 48 = .ok (.getfield 17, 3) := by decide +kernel
theorem dX3_get_51 : decode cX3_get 51 = .ok (.iload_n 1, 1) := by decide +kernel
theorem dX3_get_52 : decode cX3_get 52 = .ok (.bipush 8, 2) := by decide +kernel
theorem dX3_get_54 : decode cX3_get 54 = .ok (.isub, 1) := by decide +kernel
theorem dX3_get_55 : decode cX3_get 55 = .ok (.aaload, 1) := by decide +kernel
theorem dX3_get_56 : decode cX3_get 56 = .ok (.iload_n 2, 1) := by decide +kernel
theorem dX3_get_57 : decode cX3_get 57 = .ok (.iaload, 1) := by decide +kernel
theorem dX3_get_58 : decode cX3_get 58 = .ok (.goto 5, 3) := by decide +kernel
theorem dX3_get_61 : decode cX3_get 61 = .ok (.bipush (-2), 2) := by decide +kernel
theorem dX3_get_63 : decode cX3_get 63 = .ok (.ireturn, 1) := by decide +kernel
theorem dX3_allows_0 : decode cX3_allows 0 = .ok (.iload_n 1, 1) := by decide +kernel
theorem dX3_allows_1 : decode cX3_allows 1 = .ok (.getstatic 61, 3) := by decide +kernel
theorem dX3_allows_4 : decode cX3_allows 4 = .ok (.arraylength, 1) := by decide +kernel
theorem dX3_allows_5 : decode cX3_allows 5 = .ok (.invokestatic 57, 3) := by decide +kernel
theorem dX3_allows_8 : decode cX3_allows 8 = .ok (.ifCond .eq 16, 3) := by decide +kernel
theorem dX3_allows_11 : decode cX3_allows 11 = .ok (.iload_n 3, 1) := by decide +kernel
theorem dX3_allows_12 : decode cX3_allows 12 = .ok (.ifCond .lt 12, 3) := by decide +kernel
theorem dX3_allows_15 : decode cX3_allows 15 = .ok (.iload_n 3, 1) := by decide +kernel
theorem dX3_allows_16 : decode cX3_allows 16 = .ok (.getstatic 61, 3) := by decide +kernel
theorem dX3_allows_19 : decode cX3_allows 19 = .ok (.iload_n 1, 1) := by decide +kernel
theorem dX3_allows_20 : decode cX3_allows 20 = .ok (.iaload, 1) := by decide +kernel
theorem dX3_allows_21 : decode cX3_allows 21 = .ok (.if_icmp .le 5, 3) := by decide +kernel
theorem dX3_allows_24 : decode cX3_allows 24 = .ok (.iconst 0, 1) := by decide +kernel
theorem dX3_allows_25 : decode cX3_allows 25 = .ok (.ireturn, 1) := by decide +kernel
theorem dX3_allows_26 : decode cX3_allows 26 = .ok (.iload_n 1, 1) := by decide +kernel
theorem dX3_allows_27 : decode cX3_allows 27 = .ok (.bipush 8, 2) := by decide +kernel
theorem dX3_allows_29 : decode cX3_allows 29 = .ok (.if_icmp .lt 16, 3) := by decide +kernel
theorem dX3_allows_32 : decode cX3_allows 32 = .ok (.iload_n 2, 1) := by decide +kernel
theorem dX3_allows_33 : decode cX3_allows 33 = .ok (.aload_n 0, 1) := by decide +kernel
theorem dX3_allows_34 : decode cX3_allows 34 = .ok (.getfield 45, 3) := by decide +kernel
theorem dX3_allows_37 : decode cX3_allows 37 = .ok (.invokestatic 57, 3) := by decide +kernel
theorem dX3_allows_40 : decode cX3_allows 40 = .ok (.ifCond .ne 5, 3) := by decide +kernel
theorem dX3_allows_43 : decode cX3_allows 43 = .ok (.iconst 0, 1) := by decide +kernel
theorem dX3_allows_44 : decode cX3_allows 44 = .ok (.ireturn, 1) := by decide +kernel
theorem dX3_allows_45 : decode cX3_allows 45 = .ok (.iload_n 1, 1) := by decide +kernel
theorem dX3_allows_46 : decode cX3_allows 46 = .ok (.bipush 10, 2) := by decide +kernel
theorem dX3_allows_48 : decode cX3_allows 48 = .ok (.if_icmp .ne 14, 3) := by decide +kernel
theorem dX3_allows_51 : decode cX3_allows 51 = .ok (.iload_n 3, 1) := by decide +kernel
theorem dX3_allows_52 : decode cX3_allows 52 = .ok (.aload_n 0, 1) := by decide +kernel
theorem dX3_allows_53 : decode cX3_allows 53 = .ok (.bipush 11, 2) := by decide +kernel
theorem dX3_allows_55 : decode cX3_allows 55 = .ok (.iload_n 2, 1) := by decide +kernel
theorem dX3_allows_56 : decode cX3_allows 56 = .ok (.invokevirtual 64, 3) := by decide +kernel
theorem dX3_allows_59 : decode cX3_allows 59 = .ok (.if_icmp .gt 24, 3) := by decide +kernel
theorem dX3_allows_62 : decode cX3_allows 62 = .ok (.iload_n 1, 1) := by decide +kernel
theorem dX3_allows_63 : decode cX3_allows 63 = .ok (.bipush 11, 2) := by decide +kernel
theorem dX3_allows_65 : decode cX3_allows 65 = .ok (.if_icmp .ne 14, 3) := by decide +kernel
theorem dX3_allows_68 : decode cX3_allows 68 = .ok (.iload_n 3, 1) := by decide +kernel
theorem dX3_allows_69 : decode cX3_allows 69 = .ok (.aload_n 0, 1) := by decide +kernel
theorem dX3_allows_70 : decode cX3_allows 70 = .ok (.bipush 10, 2) := by decide +kernel
theorem dX3_allows_72 : decode cX3_allows 72 = .ok (.iload_n 2, 1) := by decide +kernel
theorem dX3_allows_73 : decode cX3_allows 73 = .ok (.invokevirtual 64, 3) := by decide +kernel
theorem dX3_allows_76 : decode cX3_allows 76 = .ok (.if_icmp .lt 7, 3) := by decide +kernel
theorem dX3_allows_79 : decode cX3_allows 79 = .ok (.iconst 1, 1) := by decide +kernel
theorem dX3_allows_80 : decode cX3_allows 80 = .ok (.goto 4, 3) := by decide +kernel
theorem dX3_allows_83 : decode cX3_allows 83 = .ok (.iconst 0, 1) := by decide +kernel
theorem dX3_allows_84 : decode cX3_allows 84 = .ok (.ireturn, 1) := by decide +kernel
theorem dX3_change_0 : decode cX3_change 0 = .ok (.aload_n 0, 1) := by decide +kernel
theorem dX3_change_1 : decode cX3_change 1 = .ok (.iload_n 1, 1) := by decide +kernel
theorem dX3_change_2 : decode cX3_change 2 = .ok (.iload_n 2, 1) := by decide +kernel
theorem dX3_change_3 : decode cX3_change 3 = .ok (.invokevirtual 64, 3) := by decide +kernel
theorem dX3_change_6 : decode cX3_change 6 = .ok (.istore 4, 2) := by decide +kernel
theorem dX3_change_8 : decode cX3_change 8 = .ok (.iload_n 1, 1) := by decide +kernel
theorem dX3_change_9 : decode cX3_change 9 = .ok (.bipush 8, 2) := by decide +kernel
theorem dX3_change_11 : decode cX3_change 11 = .ok (.invokestatic 57, 3) := by decide +kernel
theorem dX3_change_14 : decode cX3_change 14 = .ok (.ifCond .eq 31, 3) := by decide +kernel
theorem dX3_change_17 : decode cX3_change 17 = .ok (.aload_n 0, 1) := by decide +kernel
theorem dX3_change_18 : decode cX3_change 18 = .ok (.getfield 9, 3) := by decide +kernel
theorem dX3_change_21 : decode cX3_change 21 = .ok (.iload_n 1, 1) := by decide +kernel
theorem dX3_change_22 : decode cX3_change 22 = .ok (.iload_n 3, 1) := by decide +kernel
theorem dX3_change_23 : decode cX3_change 23 = .ok (.iastore, 1) := by decide +kernel
theorem dX3_change_24 : decode cX3_change 24 = .ok (.iload_n 1, 1) := by decide +kernel
theorem dX3_change_25 : decode cX3_change 25 = .ok (.iconst 1, 1) := by decide +kernel
theorem dX3_change_26 : decode cX3_change 26 = .ok (.if_icmp .lt 64, 3) := by decide +kernel
theorem dX3_change_29 : decode cX3_change 29 = .ok (.iload_n 1, 1) := by decide +kernel
theorem dX3_change_30 : decode cX3_change 30 = .ok (.iconst 4, 1) := by decide +kernel
theorem dX3_change_31 : decode cX3_change 31 = .ok (.if_icmp .gt 59, 3) := by decide +kernel
theorem dX3_change_34 : decode cX3_change 34 = .ok (.aload_n 0, 1) := by decide +kernel
theorem dX3_change_35 : decode cX3_change 35 = .ok (.aload_n 0, 1) := by decide +kernel
theorem dX3_change_36 : decode cX3_change 36 = .ok (.invokevirtual 68, 3) := by decide +kernel
theorem dX3_change_39 : decode cX3_change 39 = .ok (.putfield 41, 3) := by decide +kernel
theorem dX3_change_42 : decode cX3_change 42 = .ok (.goto 48, 3) := by decide +kernel
theorem dX3_change_45 : decode cX3_change 45 = .ok (.iload_n 1, 1) := by decide +kernel
theorem dX3_change_46 : decode cX3_change 46 = .ok (.bipush 8, 2) := by decide +kernel
theorem dX3_change_48 : decode cX3_change 48 = .ok (.isub, 1) := by decide +kernel
theorem dX3_change_49 : decode cX3_change 49 = .ok (.bipush 6, 2) := by decide +kernel
theorem dX3_change_51 : decode cX3_change 51 = .ok (.invokestatic 57, 3) := by decide +kernel
theorem dX3_change_54 : decode cX3_change 54 = .ok (.ifCond .eq 36, 3) := by decide +kernel
theorem dX3_change_57 : decode cX3_change 57 = .ok (.iload_n 2, 1) := by decide +kernel
theorem dX3_change_58 : decode cX3_change 58 = .ok (.bipush 7, 2) := by decide +kernel
theorem dX3_change_60 : decode cX3_change 60 = .ok (.invokestatic 57, 3) := by decide +kernel
theorem dX3_change_63 : decode cX3_change 63 = .ok (.ifCond .eq 27, 3) := by decide +kernel
theorem dX3_change_66 : decode cX3_change 66 = .ok (.aload_n 0, 1) := by decide +kernel
theorem dX3_change_67 : decode cX3_change 67 = .ok (.getfield 17, 3) := by decide +kernel
theorem dX3_change_70 : decode cX3_change 70 = .ok (.iload_n 1, 1) := by decide +kernel
theorem dX3_change_71 : decode cX3_change 71 = .ok (.bipush 8, 2) := by decide +kernel
theorem dX3_change_73 : decode cX3_change 73 = .ok (.isub, 1) := by decide +kernel
theorem dX3_change_74 : decode cX3_change 74 = .ok (.aaload, 1) := by decide +kernel
theorem dX3_change_75 : decode cX3_change 75 = .ok (.iload_n 2, 1) := by decide +kernel
theorem dX3_change_76 : decode cX3_change 76 = .ok (.iload_n 3, 1) := by decide +kernel
theorem dX3_change_77 : decode cX3_change 77 = .ok (.iastore, 1) := by decide +kernel
theorem dX3_change_78 : decode cX3_change 78 = .ok (.aload_n 0, 1) := by decide +kernel
theorem dX3_change_79 : decode cX3_change 79 = .ok (.dup, 1) := by decide +kernel
theorem dX3_change_80 : decode cX3_change 80 = .ok (.getfield 41, 3) := by decide +kernel
theorem dX3_change_83 : decode cX3_change 83 = .ok (.iconst 1, 1) := by decide +kernel
theorem dX3_change_84 : decode cX3_change 84 = .ok (.iload_n 2, 1) := by decide +kernel
theorem dX3_change_85 : decode cX3_change 85 = .ok (.ishl, 1) := by decide +kernel
theorem dX3_change_86 : decode cX3_change 86 = .ok (.ior, 1) := by decide +kernel
theorem dX3_change_87 : decode cX3_change 87 = .ok (.putfield 41, 3) := by decide +kernel
theorem dX3_change_90 : decode cX3_change 90 = .ok (.iload 4, 2) := by decide +kernel
theorem dX3_change_92 : decode cX3_change 92 = .ok (.ireturn, 1) := by decide +kernel
theorem dX3_add_0 : decode cX3_add 0 = .ok (.aload_n 0, 1) := by decide +kernel
theorem dX3_add_1 : decode cX3_add 1 = .ok (.getfield 45, 3) := by decide +kernel
theorem dX3_add_4 : decode cX3_add 4 = .ok (.bipush 7, 2) := by decide +kernel
theorem dX3_add_6 : decode cX3_add 6 = .ok (.if_icmp .lt 6, 3) := by decide +kernel
theorem dX3_add_9 : decode cX3_add 9 = .ok (.bipush (-4), 2) := by decide +kernel
theorem dX3_add_11 : decode cX3_add 11 = .ok (.ireturn, 1) := by decide +kernel
theorem dX3_add_12 : decode cX3_add 12 = .ok (.aload_n 0, 1) := by decide +kernel
theorem dX3_add_13 : decode cX3_add 13 = .ok (.getfield 45, 3) := by decide +kernel
theorem dX3_add_16 : decode cX3_add 16 = .ok (.istore 4, 2) := by decide +kernel
theorem dX3_add_18 : decode cX3_add 18 = .ok (.aload_n 0, 1) := by decide +kernel
theorem dX3_add_19 : decode cX3_add 19 = .ok (.dup, 1) := by decide +kernel
theorem dX3_add_20 : decode cX3_add 20 = .ok (.getfield 45, 3) := by decide +kernel
theorem dX3_add_23 : decode cX3_add 23 = .ok (.iconst 1, 1) := by decide +kernel
theorem dX3_add_24 : decode cX3_add 24 = .ok (.iadd, 1) := by decide +kernel
theorem dX3_add_25 : decode cX3_add 25 = .ok (.putfield 45, 3) := by decide +kernel
theorem dX3_add_28 : decode cX3_add 28 = .ok (.aload_n 0, 1) := by decide +kernel
theorem dX3_add_29 : decode cX3_add 29 = .ok (.bipush 13, 2) := by decide +kernel
theorem dX3_add_31 : decode cX3_add 31 = .ok (.iload 4, 2) := by decide +kernel
theorem dX3_add_33 : decode cX3_add 33 = .ok (.iload_n 1, 1) := by decide +kernel
theorem dX3_add_34 : decode cX3_add 34 = .ok (.invokevirtual 72, 3) := by decide +kernel
theorem dX3_add_37 : decode cX3_add 37 = .ok (.pop, 1) := by decide +kernel
theorem dX3_add_38 : decode cX3_add 38 = .ok (.aload_n 0, 1) := by decide +kernel
theorem dX3_add_39 : decode cX3_add 39 = .ok (.bipush 8, 2) := by decide +kernel
theorem dX3_add_41 : decode cX3_add 41 = .ok (.iload 4, 2) := by decide +kernel
theorem dX3_add_43 : decode cX3_add 43 = .ok (.iload_n 2, 1) := by decide +kernel
theorem dX3_add_44 : decode cX3_add 44 = .ok (.invokevirtual 72, 3) := by decide +kernel
theorem dX3_add_47 : decode cX3_add 47 = .ok (.pop, 1) := by decide +kernel
theorem dX3_add_48 : decode cX3_add 48 = .ok (.aload_n 0, 1) := by decide +kernel
theorem dX3_add_49 : decode cX3_add 49 = .ok (.bipush 9, 2) := by decide +kernel
theorem dX3_add_51 : decode cX3_add 51 = .ok (.iload 4, 2) := by decide +kernel
theorem dX3_add_53 : decode cX3_add 53 = .ok (.iload_n 3, 1) := by decide +kernel
theorem dX3_add_54 : decode cX3_add 54 = .ok (.invokevirtual 72, 3) := by decide +kernel
theorem dX3_add_57 : decode cX3_add 57 = .ok (.pop, 1) := by decide +kernel
theorem dX3_add_58 : decode cX3_add 58 = .ok (.aload_n 0, 1) := by decide +kernel
theorem dX3_add_59 : decode cX3_add 59 = .ok (.bipush 10, 2) := by decide +kernel
theorem dX3_add_61 : decode cX3_add 61 = .ok (.iload 4, 2) := by decide +kernel
theorem dX3_add_63 : decode cX3_add 63 = .ok (.iconst 0, 1) := by decide +kernel
theorem dX3_add_64 : decode cX3_add 64 = .ok (.invokevirtual 72, 3) := by decide +kernel
theorem dX3_add_67 : decode cX3_add 67 = .ok (.pop, 1) := by decide +kernel
theorem dX3_add_68 : decode cX3_add 68 = .ok (.aload_n 0, 1) := by decide +kernel
theorem dX3_add_69 : decode cX3_add 69 = .ok (.bipush 11, 2) := by decide +kernel
theorem dX3_add_71 : decode cX3_add 71 = .ok (.iload 4, 2) := by decide +kernel
theorem dX3_add_73 : decode cX3_add 73 = .ok (.sipush 199, 3) := by decide +kernel
theorem dX3_add_76 : decode cX3_add 76 = .ok (.invokevirtual 72, 3) := by decide +kernel
theorem dX3_add_79 : decode cX3_add 79 = .ok (.pop, 1) := by decide +kernel
theorem dX3_add_80 : decode cX3_add 80 = .ok (.aload_n 0, 1) := by decide +kernel
theorem dX3_add_81 : decode cX3_add 81 = .ok (.bipush 12, 2) := by decide +kernel
theorem dX3_add_83 : decode cX3_add 83 = .ok (.iload 4, 2) := by decide +kernel
theorem dX3_add_85 : decode cX3_add 85 = .ok (.bipush 10, 2) := by decide +kernel
theorem dX3_add_87 : decode cX3_add 87 = .ok (.invokevirtual 72, 3) := by decide +kernel
theorem dX3_add_90 : decode cX3_add 90 = .ok (.pop, 1) := by decide +kernel
theorem dX3_add_91 : decode cX3_add 91 = .ok (.iload 4, 2) := by decide +kernel
theorem dX3_add_93 : decode cX3_add 93 = .ok (.ireturn, 1) := by decide +kernel
theorem dX3_isUp_0 : decode cX3_isUp 0 = .ok (.iload_n 1, 1) := by decide +kernel
theorem dX3_isUp_1 : decode cX3_isUp 1 = .ok (.bipush 7, 2) := by decide +kernel
theorem dX3_isUp_3 : decode cX3_isUp 3 = .ok (.invokestatic 57, 3) := by decide +kernel
theorem dX3_isUp_6 : decode cX3_isUp 6 = .ok (.ifCond .eq 13, 3) := by decide +kernel
theorem dX3_isUp_9 : decode cX3_isUp 9 = .ok (.iload_n 2, 1) := by decide +kernel
theorem dX3_isUp_10 : decode cX3_isUp 10 = .ok (.aload_n 0, 1) := by decide +kernel
theorem dX3_isUp_11 : decode cX3_isUp 11 = .ok (.getfield 26, 3) := by decide +kernel
theorem dX3_isUp_14 : decode cX3_isUp 14 = .ok (.iload_n 1, 1) := by decide +kernel
theorem dX3_isUp_15 : decode cX3_isUp 15 = .ok (.iaload, 1) := by decide +kernel
theorem dX3_isUp_16 : decode cX3_isUp 16 = .ok (.if_icmp .ge 5, 3) := by decide +kernel
theorem dX3_isUp_19 : decode cX3_isUp 19 = .ok (.iconst 0, 1) := by decide +kernel
theorem dX3_isUp_20 : decode cX3_isUp 20 = .ok (.ireturn, 1) := by decide +kernel
theorem dX3_isUp_21 : decode cX3_isUp 21 = .ok (.aload_n 0, 1) := by decide +kernel
theorem dX3_isUp_22 : decode cX3_isUp 22 = .ok (.getfield 20, 3) := by decide +kernel
theorem dX3_isUp_25 : decode cX3_isUp 25 = .ok (.iload_n 1, 1) := by decide +kernel
theorem dX3_isUp_26 : decode cX3_isUp 26 = .ok (.iaload, 1) := by decide +kernel
theorem dX3_isUp_27 : decode cX3_isUp 27 = .ok (.istore_n 3, 1) := by decide +kernel
theorem dX3_isUp_28 : decode cX3_isUp 28 = .ok (.iload_n 2, 1) := by decide +kernel
theorem dX3_isUp_29 : decode cX3_isUp 29 = .ok (.aload_n 0, 1) := by decide +kernel
theorem dX3_isUp_30 : decode cX3_isUp 30 = .ok (.getfield 29, 3) := by decide +kernel
theorem dX3_isUp_33 : decode cX3_isUp 33 = .ok (.iload_n 1, 1) := by decide +kernel
theorem dX3_isUp_34 : decode cX3_isUp 34 = .ok (.iaload, 1) := by decide +kernel
theorem dX3_isUp_35 : decode cX3_isUp 35 = .ok (.if_icmp .gt 7, 3) := by decide +kernel
theorem dX3_isUp_38 : decode cX3_isUp 38 = .ok (.iconst 1, 1) := by decide +kernel
theorem dX3_isUp_39 : decode cX3_isUp 39 = .ok (.goto 4, 3) := by decide +kernel
theorem dX3_isUp_42 : decode cX3_isUp 42 = .ok (.iconst 0, 1) := by decide +kernel
theorem dX3_isUp_43 : decode cX3_isUp 43 = .ok (.istore 4, 2) := by decide +kernel
theorem dX3_isUp_45 : decode cX3_isUp 45 = .ok (.aload_n 0, 1) := by decide +kernel
theorem dX3_isUp_46 : decode cX3_isUp 46 = .ok (.getfield 35, 3) := by decide +kernel
theorem dX3_isUp_49 : decode cX3_isUp 49 = .ok (.iload_n 1, 1) := by decide +kernel
theorem dX3_isUp_50 : decode cX3_isUp 50 = .ok (.iaload, 1) := by decide +kernel
theorem dX3_isUp_51 : decode cX3_isUp 51 = .ok (.tableswitch 97 1 5 #[33, 56, 33, 56, 74], 33) := by decide +kernel
theorem dX3_isUp_84 : decode cX3_isUp 84 = .ok (.iload 4, 2) := by decide +kernel
theorem dX3_isUp_86 : decode cX3_isUp 86 = .ok (.ifCond .eq 19, 3) := by decide +kernel
theorem dX3_isUp_89 : decode cX3_isUp 89 = .ok (.iload_n 2, 1) := by decide +kernel
theorem dX3_isUp_90 : decode cX3_isUp 90 = .ok (.aload_n 0, 1) := by decide +kernel
theorem dX3_isUp_91 : decode cX3_isUp 91 = .ok (.getfield 26, 3) := by decide +kernel
theorem dX3_isUp_94 : decode cX3_isUp 94 = .ok (.iload_n 1, 1) := by decide +kernel
theorem dX3_isUp_95 : decode cX3_isUp 95 = .ok (.iaload, 1) := by decide +kernel
theorem dX3_isUp_96 : decode cX3_isUp 96 = .ok (.iload_n 3, 1) := by decide +kernel
theorem dX3_isUp_97 : decode cX3_isUp 97 = .ok (.iadd, 1) := by decide +kernel
theorem dX3_isUp_98 : decode cX3_isUp 98 = .ok (.if_icmp .lt 7, 3) := by decide +kernel
theorem dX3_isUp_101 : decode cX3_isUp 101 = .ok (.iconst 1, 1) := by decide +kernel
theorem dX3_isUp_102 : decode cX3_isUp 102 = .ok (.goto 4, 3) := by decide +kernel
theorem dX3_isUp_105 : decode cX3_isUp 105 = .ok (.iconst 0, 1) := by decide +kernel
theorem dX3_isUp_106 : decode cX3_isUp 106 = .ok (.ireturn, 1) := by decide +kernel
theorem dX3_isUp_107 : decode cX3_isUp 107 = .ok (.iload_n 2, 1) := by decide +kernel
theorem dX3_isUp_108 : decode cX3_isUp 108 = .ok (.aload_n 0, 1) := by decide +kernel
theorem dX3_isUp_109 : decode cX3_isUp 109 = .ok (.getfield 29, 3) := by decide +kernel
theorem dX3_isUp_112 : decode cX3_isUp 112 = .ok (.iload_n 1, 1) := by decide +kernel
theorem dX3_isUp_113 : decode cX3_isUp 113 = .ok (.iaload, 1) := by decide +kernel
theorem dX3_isUp_114 : decode cX3_isUp 114 = .ok (.iload_n 3, 1) := by decide +kernel
theorem dX3_isUp_115 : decode cX3_isUp 115 = .ok (.iadd, 1) := by decide +kernel
theorem dX3_isUp_116 : decode cX3_isUp 116 = .ok (.if_icmp .gt 7, 3) := by decide +kernel
theorem dX3_isUp_119 : decode cX3_isUp 119 = .ok (.iconst 1, 1) := by decide +kernel
theorem dX3_isUp_120 : decode cX3_isUp 120 = .ok (.goto 4, 3) := by decide +kernel
theorem dX3_isUp_123 : decode cX3_isUp 123 = .ok (.iconst 0, 1) := by decide +kernel
theorem dX3_isUp_124 : decode cX3_isUp 124 = .ok (.ireturn, 1) := by decide +kernel
theorem dX3_isUp_125 : decode cX3_isUp 125 = .ok (.iload 4, 2) := by decide +kernel
theorem dX3_isUp_127 : decode cX3_isUp 127 = .ok (.ifCond .eq 19, 3) := by decide +kernel
theorem dX3_isUp_130 : decode cX3_isUp 130 = .ok (.iload_n 2, 1) := by decide +kernel
theorem dX3_isUp_131 : decode cX3_isUp 131 = .ok (.iload_n 3, 1) := by decide +kernel
theorem dX3_isUp_132 : decode cX3_isUp 132 = .ok (.iconst 2, 1) := by decide +kernel
theorem dX3_isUp_133 : decode cX3_isUp 133 = .ok (.iadd, 1) := by decide +kernel
theorem dX3_isUp_134 : decode cX3_isUp 134 = .ok (.iconst 2, 1) := by decide +kernel
theorem dX3_isUp_135 : decode cX3_isUp 135 = .ok (.invokestatic 76, 3) := by decide +kernel
theorem dX3_isUp_138 : decode cX3_isUp 138 = .ok (.irem, 1) := by decide +kernel
theorem dX3_isUp_139 : decode cX3_isUp 139 = .ok (.ifCond .eq 7, 3) := by decide +kernel
theorem dX3_isUp_142 : decode cX3_isUp 142 = .ok (.iconst 1, 1) := by decide +kernel
theorem dX3_isUp_143 : decode cX3_isUp 143 = .ok (.goto 4, 3) := by decide +kernel
theorem dX3_isUp_146 : decode cX3_isUp 146 = .ok (.iconst 0, 1) := by decide +kernel
theorem dX3_isUp_147 : decode cX3_isUp 147 = .ok (.ireturn, 1) := by decide +kernel
theorem dX3_isUp_148 : decode cX3_isUp 148 = .ok (.iload 4, 2) := by decide +kernel
theorem dX3_isUp_150 : decode cX3_isUp 150 = .ok (.ireturn, 1) := by decide +kernel
theorem dX3_isClouded_0 : decode cX3_isClouded 0 = .ok (.iload_n 1, 1) := by decide +kernel
theorem dX3_isClouded_1 : decode cX3_isClouded 1 = .ok (.bipush 7, 2) := by decide +kernel
theorem dX3_isClouded_3 : decode cX3_isClouded 3 = .ok (.invokestatic 57, 3) := by decide +kernel
theorem dX3_isClouded_6 : decode cX3_isClouded 6 = .ok (.ifCond .ne 5, 3) := by decide +kernel
theorem dX3_isClouded_9 : decode cX3_isClouded 9 = .ok (.iconst 0, 1) := by decide +kernel
theorem dX3_isClouded_10 : decode cX3_isClouded 10 = .ok (.ireturn, 1) := by decide +kernel
theorem dX3_isClouded_11 : decode cX3_isClouded 11 = .ok (.aload_n 0, 1) := by decide +kernel
theorem dX3_isClouded_12 : decode cX3_isClouded 12 = .ok (.getfield 23, 3) := by decide +kernel
theorem dX3_isClouded_15 : decode cX3_isClouded 15 = .ok (.iload_n 1, 1) := by decide +kernel
theorem dX3_isClouded_16 : decode cX3_isClouded 16 = .ok (.iaload, 1) := by decide +kernel
theorem dX3_isClouded_17 : decode cX3_isClouded 17 = .ok (.bipush 10, 2) := by decide +kernel
theorem dX3_isClouded_19 : decode cX3_isClouded 19 = .ok (.irem, 1) := by decide +kernel
theorem dX3_isClouded_20 : decode cX3_isClouded 20 = .ok (.istore_n 3, 1) := by decide +kernel
theorem dX3_isClouded_21 : decode cX3_isClouded 21 = .ok (.iload_n 3, 1) := by decide +kernel
theorem dX3_isClouded_22 : decode cX3_isClouded 22 = .ok (.aload_n 0, 1) := by decide +kernel
theorem dX3_isClouded_23 : decode cX3_isClouded 23 = .ok (.getfield 9, 3) := by decide +kernel
theorem dX3_isClouded_26 : decode cX3_isClouded 26 = .ok (.iconst 1, 1) := by decide +kernel
theorem dX3_isClouded_27 : decode cX3_isClouded 27 = .ok (.iaload, 1) := by decide +kernel
theorem dX3_isClouded_28 : decode cX3_isClouded 28 = .ok (.if_icmp .lt 37, 3) := by decide +kernel
theorem dX3_isClouded_31 : decode cX3_isClouded 31 = .ok (.iload_n 3, 1) := by decide +kernel
theorem dX3_isClouded_32 : decode cX3_isClouded 32 = .ok (.aload_n 0, 1) := by decide +kernel
theorem dX3_isClouded_33 : decode cX3_isClouded 33 = .ok (.getfield 9, 3) := by decide +kernel
theorem dX3_isClouded_36 : decode cX3_isClouded 36 = .ok (.iconst 2, 1) := by decide +kernel
theorem dX3_isClouded_37 : decode cX3_isClouded 37 = .ok (.iaload, 1) := by decide +kernel
theorem dX3_isClouded_38 : decode cX3_isClouded 38 = .ok (.if_icmp .gt 27, 3) := by decide +kernel
theorem dX3_isClouded_41 : decode cX3_isClouded 41 = .ok (.iload_n 2, 1) := by decide +kernel
theorem dX3_isClouded_42 : decode cX3_isClouded 42 = .ok (.aload_n 0, 1) := by decide +kernel
theorem dX3_isClouded_43 : decode cX3_isClouded 43 = .ok (.getfield 9, 3) := by decide +kernel
theorem dX3_isClouded_46 : decode cX3_isClouded 46 = .ok (.iconst 3, 1) := by decide +kernel
theorem dX3_isClouded_47 : decode cX3_isClouded 47 = .ok (.iaload, 1) := by decide +kernel
theorem dX3_isClouded_48 : decode cX3_isClouded 48 = .ok (.if_icmp .lt 17, 3) := by decide +kernel
theorem dX3_isClouded_51 : decode cX3_isClouded 51 = .ok (.iload_n 2, 1) := by decide +kernel
theorem dX3_isClouded_52 : decode cX3_isClouded 52 = .ok (.aload_n 0, 1) := by decide +kernel
theorem dX3_isClouded_53 : decode cX3_isClouded 53 = .ok (.getfield 9, 3) := by decide +kernel
theorem dX3_isClouded_56 : decode cX3_isClouded 56 = .ok (.iconst 4, 1) := by decide +kernel
theorem dX3_isClouded_57 : decode cX3_isClouded 57 = .ok (.iaload, 1) := by decide +kernel
theorem dX3_isClouded_58 : decode cX3_isClouded 58 = .ok (.if_icmp .gt 7, 3) := by decide +kernel
theorem dX3_isClouded_61 : decode cX3_isClouded 61 = .ok (.iconst 1, 1) := by decide +kernel
theorem dX3_isClouded_62 : decode cX3_isClouded 62 = .ok (.goto 4, 3) := by decide +kernel
theorem dX3_isClouded_65 : decode cX3_isClouded 65 = .ok (.iconst 0, 1) := by decide +kernel
theorem dX3_isClouded_66 : decode cX3_isClouded 66 = .ok (.ireturn, 1) := by decide +kernel
theorem dX3_needs_0 : decode cX3_needs 0 = .ok (.iload_n 1, 1) := by decide +kernel
theorem dX3_needs_1 : decode cX3_needs 1 = .ok (.bipush 7, 2) := by decide +kernel
theorem dX3_needs_3 : decode cX3_needs 3 = .ok (.invokestatic 57, 3) := by decide +kernel
theorem dX3_needs_6 : decode cX3_needs 6 = .ok (.ifCond .ne 5, 3) := by decide +kernel
theorem dX3_needs_9 : decode cX3_needs 9 = .ok (.iconst 1, 1) := by decide +kernel
theorem dX3_needs_10 : decode cX3_needs 10 = .ok (.ireturn, 1) := by decide +kernel
theorem dX3_needs_11 : decode cX3_needs 11 = .ok (.iload_n 2, 1) := by decide +kernel
theorem dX3_needs_12 : decode cX3_needs 12 = .ok (.istore_n 3, 1) := by decide +kernel
theorem dX3_needs_13 : decode cX3_needs 13 = .ok (.aload_n 0, 1) := by decide +kernel
theorem dX3_needs_14 : decode cX3_needs 14 = .ok (.getfield 35, 3) := by decide +kernel
theorem dX3_needs_17 : decode cX3_needs 17 = .ok (.iload_n 1, 1) := by decide +kernel
theorem dX3_needs_18 : decode cX3_needs 18 = .ok (.iaload, 1) := by decide +kernel
theorem dX3_needs_19 : decode cX3_needs 19 = .ok (.tableswitch 76 1 4 #[29, 41, 48, 62], 29) := by decide +kernel
theorem dX3_needs_48 : decode cX3_needs 48 = .ok (.iload_n 2, 1) := by decide +kernel
theorem dX3_needs_49 : decode cX3_needs 49 = .ok (.aload_n 0, 1) := by decide +kernel
theorem dX3_needs_50 : decode cX3_needs 50 = .ok (.getfield 9, 3) := by decide +kernel
theorem dX3_needs_53 : decode cX3_needs 53 = .ok (.iconst 0, 1) := by decide +kernel
theorem dX3_needs_54 : decode cX3_needs 54 = .ok (.iaload, 1) := by decide +kernel
theorem dX3_needs_55 : decode cX3_needs 55 = .ok (.iadd, 1) := by decide +kernel
theorem dX3_needs_56 : decode cX3_needs 56 = .ok (.istore_n 3, 1) := by decide +kernel
theorem dX3_needs_57 : decode cX3_needs 57 = .ok (.goto 38, 3) := by decide +kernel
theorem dX3_needs_60 : decode cX3_needs 60 = .ok (.iload_n 2, 1) := by decide +kernel
theorem dX3_needs_61 : decode cX3_needs 61 = .ok (.iconst 2, 1) := by decide +kernel
theorem dX3_needs_62 : decode cX3_needs 62 = .ok (.idiv, 1) := by decide +kernel
theorem dX3_needs_63 : decode cX3_needs 63 = .ok (.istore_n 3, 1) := by decide +kernel
theorem dX3_needs_64 : decode cX3_needs 64 = .ok (.goto 31, 3) := by decide +kernel
theorem dX3_needs_67 : decode cX3_needs 67 = .ok (.iconst 2, 1) := by decide +kernel
theorem dX3_needs_68 : decode cX3_needs 68 = .ok (.iload_n 2, 1) := by decide +kernel
theorem dX3_needs_69 : decode cX3_needs 69 = .ok (.aload_n 0, 1) := by decide +kernel
theorem dX3_needs_70 : decode cX3_needs 70 = .ok (.getfield 9, 3) := by decide +kernel
theorem dX3_needs_73 : decode cX3_needs 73 = .ok (.iconst 0, 1) := by decide +kernel
theorem dX3_needs_74 : decode cX3_needs 74 = .ok (.iaload, 1) := by decide +kernel
theorem dX3_needs_75 : decode cX3_needs 75 = .ok (.iadd, 1) := by decide +kernel
theorem dX3_needs_76 : decode cX3_needs 76 = .ok (.imul, 1) := by decide +kernel
theorem dX3_needs_77 : decode cX3_needs 77 = .ok (.istore_n 3, 1) := by decide +kernel
theorem dX3_needs_78 : decode cX3_needs 78 = .ok (.goto 17, 3) := by decide +kernel
theorem dX3_needs_81 : decode cX3_needs 81 = .ok (.iload_n 2, 1) := by decide +kernel
theorem dX3_needs_82 : decode cX3_needs 82 = .ok (.iconst 2, 1) := by decide +kernel
theorem dX3_needs_83 : decode cX3_needs 83 = .ok (.idiv, 1) := by decide +kernel
theorem dX3_needs_84 : decode cX3_needs 84 = .ok (.aload_n 0, 1) := by decide +kernel
theorem dX3_needs_85 : decode cX3_needs 85 = .ok (.getfield 20, 3) := by decide +kernel
theorem dX3_needs_88 : decode cX3_needs 88 = .ok (.iload_n 1, 1) := by decide +kernel
theorem dX3_needs_89 : decode cX3_needs 89 = .ok (.iaload, 1) := by decide +kernel
theorem dX3_needs_90 : decode cX3_needs 90 = .ok (.iadd, 1) := by decide +kernel
theorem dX3_needs_91 : decode cX3_needs 91 = .ok (.istore_n 3, 1) := by decide +kernel
theorem dX3_needs_92 : decode cX3_needs 92 = .ok (.goto 3, 3) := by decide +kernel
theorem dX3_needs_95 : decode cX3_needs 95 = .ok (.iload_n 3, 1) := by decide +kernel
theorem dX3_needs_96 : decode cX3_needs 96 = .ok (.iconst 1, 1) := by decide +kernel
theorem dX3_needs_97 : decode cX3_needs 97 = .ok (.invokestatic 76, 3) := by decide +kernel
theorem dX3_needs_100 : decode cX3_needs 100 = .ok (.ireturn, 1) := by decide +kernel
theorem dX3_pays_0 : decode cX3_pays 0 = .ok (.iload_n 1, 1) := by decide +kernel
theorem dX3_pays_1 : decode cX3_pays 1 = .ok (.bipush 7, 2) := by decide +kernel
theorem dX3_pays_3 : decode cX3_pays 3 = .ok (.invokestatic 57, 3) := by decide +kernel
theorem dX3_pays_6 : decode cX3_pays 6 = .ok (.ifCond .ne 5, 3) := by decide +kernel
theorem dX3_pays_9 : decode cX3_pays 9 = .ok (.iconst 0, 1) := by decide +kernel
theorem dX3_pays_10 : decode cX3_pays 10 = .ok (.ireturn, 1) := by decide +kernel
theorem dX3_pays_11 : decode cX3_pays 11 = .ok (.aload_n 0, 1) := by decide +kernel
theorem dX3_pays_12 : decode cX3_pays 12 = .ok (.getfield 32, 3) := by decide +kernel
theorem dX3_pays_15 : decode cX3_pays 15 = .ok (.iload_n 1, 1) := by decide +kernel
theorem dX3_pays_16 : decode cX3_pays 16 = .ok (.iaload, 1) := by decide +kernel
theorem dX3_pays_17 : decode cX3_pays 17 = .ok (.istore_n 2, 1) := by decide +kernel
theorem dX3_pays_18 : decode cX3_pays 18 = .ok (.aload_n 0, 1) := by decide +kernel
theorem dX3_pays_19 : decode cX3_pays 19 = .ok (.getfield 35, 3) := by decide +kernel
theorem dX3_pays_22 : decode cX3_pays 22 = .ok (.iload_n 1, 1) := by decide +kernel
theorem dX3_pays_23 : decode cX3_pays 23 = .ok (.iaload, 1) := by decide +kernel
theorem dX3_pays_24 : decode cX3_pays 24 = .ok (.tableswitch 56 1 4 #[32, 56, 41, 52], 32) := by decide +kernel
theorem dX3_pays_56 : decode cX3_pays 56 = .ok (.iload_n 2, 1) := by decide +kernel
theorem dX3_pays_57 : decode cX3_pays 57 = .ok (.aload_n 0, 1) := by decide +kernel
theorem dX3_pays_58 : decode cX3_pays 58 = .ok (.getfield 20, 3) := by decide +kernel
theorem dX3_pays_61 : decode cX3_pays 61 = .ok (.iload_n 1, 1) := by decide +kernel
theorem dX3_pays_62 : decode cX3_pays 62 = .ok (.iaload, 1) := by decide +kernel
theorem dX3_pays_63 : decode cX3_pays 63 = .ok (.iadd, 1) := by decide +kernel
theorem dX3_pays_64 : decode cX3_pays 64 = .ok (.ireturn, 1) := by decide +kernel
theorem dX3_pays_65 : decode cX3_pays 65 = .ok (.iconst 2, 1) := by decide +kernel
theorem dX3_pays_66 : decode cX3_pays 66 = .ok (.iload_n 2, 1) := by decide +kernel
theorem dX3_pays_67 : decode cX3_pays 67 = .ok (.aload_n 0, 1) := by decide +kernel
theorem dX3_pays_68 : decode cX3_pays 68 = .ok (.getfield 20, 3) := by decide +kernel
theorem dX3_pays_71 : decode cX3_pays 71 = .ok (.iload_n 1, 1) := by decide +kernel
theorem dX3_pays_72 : decode cX3_pays 72 = .ok (.iaload, 1) := by decide +kernel
theorem dX3_pays_73 : decode cX3_pays 73 = .ok (.iadd, 1) := by decide +kernel
theorem dX3_pays_74 : decode cX3_pays 74 = .ok (.imul, 1) := by decide +kernel
theorem dX3_pays_75 : decode cX3_pays 75 = .ok (.ireturn, 1) := by decide +kernel
theorem dX3_pays_76 : decode cX3_pays 76 = .ok (.iload_n 2, 1) := by decide +kernel
theorem dX3_pays_77 : decode cX3_pays 77 = .ok (.iconst 1, 1) := by decide +kernel
theorem dX3_pays_78 : decode cX3_pays 78 = .ok (.iadd, 1) := by decide +kernel
theorem dX3_pays_79 : decode cX3_pays 79 = .ok (.ireturn, 1) := by decide +kernel
theorem dX3_pays_80 : decode cX3_pays 80 = .ok (.iload_n 2, 1) := by decide +kernel
theorem dX3_pays_81 : decode cX3_pays 81 = .ok (.ireturn, 1) := by decide +kernel
theorem dX3_paysOfAll_0 : decode cX3_paysOfAll 0 = .ok (.iconst 0, 1) := by decide +kernel
theorem dX3_paysOfAll_1 : decode cX3_paysOfAll 1 = .ok (.istore_n 1, 1) := by decide +kernel
theorem dX3_paysOfAll_2 : decode cX3_paysOfAll 2 = .ok (.iconst 0, 1) := by decide +kernel
theorem dX3_paysOfAll_3 : decode cX3_paysOfAll 3 = .ok (.istore_n 2, 1) := by decide +kernel
theorem dX3_paysOfAll_4 : decode cX3_paysOfAll 4 = .ok (.iload_n 2, 1) := by decide +kernel
theorem dX3_paysOfAll_5 : decode cX3_paysOfAll 5 = .ok (.aload_n 0, 1) := by decide +kernel
theorem dX3_paysOfAll_6 : decode cX3_paysOfAll 6 = .ok (.getfield 45, 3) := by decide +kernel
theorem dX3_paysOfAll_9 : decode cX3_paysOfAll 9 = .ok (.if_icmp .ge 17, 3) := by decide +kernel
theorem dX3_paysOfAll_12 : decode cX3_paysOfAll 12 = .ok (.iload_n 1, 1) := by decide +kernel
theorem dX3_paysOfAll_13 : decode cX3_paysOfAll 13 = .ok (.aload_n 0, 1) := by decide +kernel
theorem dX3_paysOfAll_14 : decode cX3_paysOfAll 14 = .ok (.iload_n 2, 1) := by decide +kernel
theorem dX3_paysOfAll_15 : decode cX3_paysOfAll 15 = .ok (.invokevirtual 81, 3) := by decide +kernel
theorem dX3_paysOfAll_18 : decode cX3_paysOfAll 18 = .ok (.iadd, 1) := by decide +kernel
theorem dX3_paysOfAll_19 : decode cX3_paysOfAll 19 = .ok (.istore_n 1, 1) := by decide +kernel
theorem dX3_paysOfAll_20 : decode cX3_paysOfAll 20 = .ok (.iinc 2 1, 3) := by decide +kernel
theorem dX3_paysOfAll_23 : decode cX3_paysOfAll 23 = .ok (.goto (-19), 3) := by decide +kernel
theorem dX3_paysOfAll_26 : decode cX3_paysOfAll 26 = .ok (.iload_n 1, 1) := by decide +kernel
theorem dX3_paysOfAll_27 : decode cX3_paysOfAll 27 = .ok (.ireturn, 1) := by decide +kernel
theorem dX3_firstClear_0 : decode cX3_firstClear 0 = .ok (.iload_n 1, 1) := by decide +kernel
theorem dX3_firstClear_1 : decode cX3_firstClear 1 = .ok (.bipush 7, 2) := by decide +kernel
theorem dX3_firstClear_3 : decode cX3_firstClear 3 = .ok (.invokestatic 57, 3) := by decide +kernel
theorem dX3_firstClear_6 : decode cX3_firstClear 6 = .ok (.ifCond .eq 7, 3) := by decide +kernel
theorem dX3_firstClear_9 : decode cX3_firstClear 9 = .ok (.iload_n 2, 1) := by decide +kernel
theorem dX3_firstClear_10 : decode cX3_firstClear 10 = .ok (.ifCond .ge 5, 3) := by decide +kernel
theorem dX3_firstClear_13 : decode cX3_firstClear 13 = .ok (.iconst (-1), 1) := by decide +kernel
theorem dX3_firstClear_14 : decode cX3_firstClear 14 = .ok (.ireturn, 1) := by decide +kernel
theorem dX3_firstClear_15 : decode cX3_firstClear 15 = .ok (.iload_n 2, 1) := by decide +kernel
theorem dX3_firstClear_16 : decode cX3_firstClear 16 = .ok (.aload_n 0, 1) := by decide +kernel
theorem dX3_firstClear_17 : decode cX3_firstClear 17 = .ok (.getfield 9, 3) := by decide +kernel
theorem dX3_firstClear_20 : decode cX3_firstClear 20 = .ok (.bipush 7, 2) := by decide +kernel
theorem dX3_firstClear_22 : decode cX3_firstClear 22 = .ok (.iaload, 1) := by decide +kernel
theorem dX3_firstClear_23 : decode cX3_firstClear 23 = .ok (.iadd, 1) := by decide +kernel
theorem dX3_firstClear_24 : decode cX3_firstClear 24 = .ok (.sipush 199, 3) := by decide +kernel
theorem dX3_firstClear_27 : decode cX3_firstClear 27 = .ok (.invokestatic 85, 3) := by decide +kernel
theorem dX3_firstClear_30 : decode cX3_firstClear 30 = .ok (.istore 4, 2) := by decide +kernel
theorem dX3_firstClear_32 : decode cX3_firstClear 32 = .ok (.iload_n 2, 1) := by decide +kernel
theorem dX3_firstClear_33 : decode cX3_firstClear 33 = .ok (.istore 5, 2) := by decide +kernel
theorem dX3_firstClear_35 : decode cX3_firstClear 35 = .ok (.iload 5, 2) := by decide +kernel
theorem dX3_firstClear_37 : decode cX3_firstClear 37 = .ok (.iload 4, 2) := by decide +kernel
theorem dX3_firstClear_39 : decode cX3_firstClear 39 = .ok (.if_icmp .gt 25, 3) := by decide +kernel
theorem dX3_firstClear_42 : decode cX3_firstClear 42 = .ok (.aload_n 0, 1) := by decide +kernel
theorem dX3_firstClear_43 : decode cX3_firstClear 43 = .ok (.getfield 38, 3) := by decide +kernel
theorem dX3_firstClear_46 : decode cX3_firstClear 46 = .ok (.iload_n 1, 1) := by decide +kernel
theorem dX3_firstClear_47 : decode cX3_firstClear 47 = .ok (.aaload, 1) := by decide +kernel
theorem dX3_firstClear_48 : decode cX3_firstClear 48 = .ok (.iload 5, 2) := by decide +kernel
theorem dX3_firstClear_50 : decode cX3_firstClear 50 = .ok (.iaload, 1) := by decide +kernel
theorem dX3_firstClear_51 : decode cX3_firstClear 51 = .ok (.iload_n 3, 1) := by decide +kernel
theorem dX3_firstClear_52 : decode cX3_firstClear 52 = .ok (.if_icmp .lt 6, 3) := by decide +kernel
theorem dX3_firstClear_55 : decode cX3_firstClear 55 = .ok (.iload 5, 2) := by decide +kernel
theorem dX3_firstClear_57 : decode cX3_firstClear 57 = .ok (.ireturn, 1) := by decide +kernel
theorem dX3_firstClear_58 : decode cX3_firstClear 58 = .ok (.iinc 5 1, 3) := by decide +kernel
theorem dX3_firstClear_61 : decode cX3_firstClear 61 = .ok (.goto (-26), 3) := by decide +kernel
theorem dX3_firstClear_64 : decode cX3_firstClear 64 = .ok (.iconst (-1), 1) := by decide +kernel
theorem dX3_firstClear_65 : decode cX3_firstClear 65 = .ok (.ireturn, 1) := by decide +kernel
theorem dX3_lookAhead_0 : decode cX3_lookAhead 0 = .ok (.iconst 0, 1) := by decide +kernel
theorem dX3_lookAhead_1 : decode cX3_lookAhead 1 = .ok (.istore_n 1, 1) := by decide +kernel
theorem dX3_lookAhead_2 : decode cX3_lookAhead 2 = .ok (.iload_n 1, 1) := by decide +kernel
theorem dX3_lookAhead_3 : decode cX3_lookAhead 3 = .ok (.aload_n 0, 1) := by decide +kernel
theorem dX3_lookAhead_4 : decode cX3_lookAhead 4 = .ok (.getfield 45, 3) := by decide +kernel
theorem dX3_lookAhead_7 : decode cX3_lookAhead 7 = .ok (.if_icmp .ge 80, 3) := by decide +kernel
theorem dX3_lookAhead_10 : decode cX3_lookAhead 10 = .ok (.iload_n 1, 1) := by decide +kernel
theorem dX3_lookAhead_11 : decode cX3_lookAhead 11 = .ok (.bipush 7, 2) := by decide +kernel
theorem dX3_lookAhead_13 : decode cX3_lookAhead 13 = .ok (.if_icmp .ge 74, 3) := by decide +kernel
theorem dX3_lookAhead_16 : decode cX3_lookAhead 16 = .ok (.aload_n 0, 1) := by decide +kernel
theorem dX3_lookAhead_17 : decode cX3_lookAhead 17 = .ok (.getfield 41, 3) := by decide +kernel
theorem dX3_lookAhead_20 : decode cX3_lookAhead 20 = .ok (.iload_n 1, 1) := by decide +kernel
theorem dX3_lookAhead_21 : decode cX3_lookAhead 21 = .ok (.ishr, 1) := by decide +kernel
theorem dX3_lookAhead_22 : decode cX3_lookAhead 22 = .ok (.iconst 1, 1) := by decide +kernel
theorem dX3_lookAhead_23 : decode cX3_lookAhead 23 = .ok (.iand, 1) := by decide +kernel
theorem dX3_lookAhead_24 : decode cX3_lookAhead 24 = .ok (.ifCond .ne 6, 3) := by decide +kernel
theorem dX3_lookAhead_27 : decode cX3_lookAhead 27 = .ok (.goto 54, 3) := by decide +kernel
theorem dX3_lookAhead_30 : decode cX3_lookAhead 30 = .ok (.iconst 0, 1) := by decide +kernel
theorem dX3_lookAhead_31 : decode cX3_lookAhead 31 = .ok (.istore_n 2, 1) := by decide +kernel
theorem dX3_lookAhead_32 : decode cX3_lookAhead 32 = .ok (.sipush 199, 3) := by decide +kernel
theorem dX3_lookAhead_35 : decode cX3_lookAhead 35 = .ok (.istore_n 3, 1) := by decide +kernel
theorem dX3_lookAhead_36 : decode cX3_lookAhead 36 = .ok (.iload_n 3, 1) := by decide +kernel
theorem dX3_lookAhead_37 : decode cX3_lookAhead 37 = .ok (.ifCond .lt 44, 3) := by decide +kernel
theorem dX3_lookAhead_40 : decode cX3_lookAhead 40 = .ok (.aload_n 0, 1) := by decide +kernel
theorem dX3_lookAhead_41 : decode cX3_lookAhead 41 = .ok (.iload_n 1, 1) := by decide +kernel
theorem dX3_lookAhead_42 : decode cX3_lookAhead 42 = .ok (.iload_n 3, 1) := by decide +kernel
theorem dX3_lookAhead_43 : decode cX3_lookAhead 43 = .ok (.invokevirtual 88, 3) := by decide +kernel
theorem dX3_lookAhead_46 : decode cX3_lookAhead 46 = .ok (.ifCond .eq 18, 3) := by decide +kernel
theorem dX3_lookAhead_49 : decode cX3_lookAhead 49 = .ok (.aload_n 0, 1) := by decide +kernel
theorem dX3_lookAhead_50 : decode cX3_lookAhead 50 = .ok (.iload_n 1, 1) := by decide +kernel
theorem dX3_lookAhead_51 : decode cX3_lookAhead 51 = .ok (.iload_n 3, 1) := by decide +kernel
theorem dX3_lookAhead_52 : decode cX3_lookAhead 52 = .ok (.invokevirtual 91, 3) := by decide +kernel
theorem dX3_lookAhead_55 : decode cX3_lookAhead 55 = .ok (.ifCond .ne 9, 3) := by decide +kernel
theorem dX3_lookAhead_58 : decode cX3_lookAhead 58 = .ok (.iload_n 2, 1) := by decide +kernel
theorem dX3_lookAhead_59 : decode cX3_lookAhead 59 = .ok (.iconst 1, 1) := by decide +kernel
theorem dX3_lookAhead_60 : decode cX3_lookAhead 60 = .ok (.iadd, 1) := by decide +kernel
theorem dX3_lookAhead_61 : decode cX3_lookAhead 61 = .ok (.goto 4, 3) := by decide +kernel
theorem dX3_lookAhead_64 : decode cX3_lookAhead 64 = .ok (.iconst 0, 1) := by decide +kernel
theorem dX3_lookAhead_65 : decode cX3_lookAhead 65 = .ok (.istore_n 2, 1) := by decide +kernel
theorem dX3_lookAhead_66 : decode cX3_lookAhead 66 = .ok (.aload_n 0, 1) := by decide +kernel
theorem dX3_lookAhead_67 : decode cX3_lookAhead 67 = .ok (.getfield 38, 3) := by decide +kernel
theorem dX3_lookAhead_70 : decode cX3_lookAhead 70 = .ok (.iload_n 1, 1) := by decide +kernel
theorem dX3_lookAhead_71 : decode cX3_lookAhead 71 = .ok (.aaload, 1) := by decide +kernel
theorem dX3_lookAhead_72 : decode cX3_lookAhead 72 = .ok (.iload_n 3, 1) := by decide +kernel
theorem dX3_lookAhead_73 : decode cX3_lookAhead 73 = .ok (.iload_n 2, 1) := by decide +kernel
theorem dX3_lookAhead_74 : decode cX3_lookAhead 74 = .ok (.iastore, 1) := by decide +kernel
theorem dX3_lookAhead_75 : decode cX3_lookAhead 75 = .ok (.iinc 3 (-1), 3) := by decide +kernel
theorem dX3_lookAhead_78 : decode cX3_lookAhead 78 = .ok (.goto (-42), 3) := by decide +kernel
theorem dX3_lookAhead_81 : decode cX3_lookAhead 81 = .ok (.iinc 1 1, 3) := by decide +kernel
theorem dX3_lookAhead_84 : decode cX3_lookAhead 84 = .ok (.goto (-82), 3) := by decide +kernel
theorem dX3_lookAhead_87 : decode cX3_lookAhead 87 = .ok (.aload_n 0, 1) := by decide +kernel
theorem dX3_lookAhead_88 : decode cX3_lookAhead 88 = .ok (.iconst 0, 1) := by decide +kernel
theorem dX3_lookAhead_89 : decode cX3_lookAhead 89 = .ok (.putfield 41, 3) := by decide +kernel
theorem dX3_lookAhead_92 : decode cX3_lookAhead 92 = .ok (.return_, 1) := by decide +kernel
theorem dX4_init_0 : decode cX4_init 0 = .ok (.aload_n 0, 1) := by decide +kernel
theorem dX4_init_1 : decode cX4_init 1 = .ok (.invokespecial 3, 3) := by decide +kernel
theorem dX4_init_4 : decode cX4_init 4 = .ok (.aload_n 0, 1) := by decide +kernel
theorem dX4_init_5 : decode cX4_init 5 = .ok (.sipush 160, 3) := by decide +kernel
theorem dX4_init_8 : decode cX4_init 8 = .ok (.newarray .int, 2) := by decide +kernel
theorem dX4_init_10 : decode cX4_init 10 = .ok (.putfield 9, 3) := by decide +kernel
theorem dX4_init_13 : decode cX4_init 13 = .ok (.aload_n 0, 1) := by decide +kernel
theorem dX4_init_14 : decode cX4_init 14 = .ok (.iconst 3, 1) := by decide +kernel
theorem dX4_init_15 : decode cX4_init 15 = .ok (.newarray .int, 2) := by decide +kernel
theorem dX4_init_17 : decode cX4_init 17 = .ok (.putfield 15, 3) := by decide +kernel
theorem dX4_init_20 : decode cX4_init 20 = .ok (.aload_n 0, 1) := by decide +kernel
theorem dX4_init_21 : decode cX4_init 21 = .ok (.iconst 0, 1) := by decide +kernel
theorem dX4_init_22 : decode cX4_init 22 = .ok (.putfield 18, 3) := by decide +kernel
theorem dX4_init_25 : decode cX4_init 25 = .ok (.return_, 1) := by decide +kernel
theorem dX4_empty_0 : decode cX4_empty 0 = .ok (.aload_n 0, 1) := by decide +kernel
theorem dX4_empty_1 : decode cX4_empty 1 = .ok (.iconst 0, 1) := by decide +kernel
theorem dX4_empty_2 : decode cX4_empty 2 = .ok (.putfield 18, 3) := by decide +kernel
theorem dX4_empty_5 : decode cX4_empty 5 = .ok (.return_, 1) := by decide +kernel
theorem dX4_add_0 : decode cX4_add 0 = .ok (.aload_n 0, 1) := by decide +kernel
theorem dX4_add_1 : decode cX4_add 1 = .ok (.getfield 18, 3) := by decide +kernel
theorem dX4_add_4 : decode cX4_add 4 = .ok (.aload_n 0, 1) := by decide +kernel
theorem dX4_add_5 : decode cX4_add 5 = .ok (.getfield 9, 3) := by decide +kernel
theorem dX4_add_8 : decode cX4_add 8 = .ok (.arraylength, 1) := by decide +kernel
theorem dX4_add_9 : decode cX4_add 9 = .ok (.if_icmp .ge 23, 3) := by decide +kernel
theorem dX4_add_12 : decode cX4_add 12 = .ok (.aload_n 0, 1) := by decide +kernel
theorem dX4_add_13 : decode cX4_add 13 = .ok (.getfield 9, 3) := by decide +kernel
theorem dX4_add_16 : decode cX4_add 16 = .ok (.aload_n 0, 1) := by decide +kernel
theorem dX4_add_17 : decode cX4_add 17 = .ok (.getfield 18, 3) := by decide +kernel
theorem dX4_add_20 : decode cX4_add 20 = .ok (.iload_n 1, 1) := by decide +kernel
theorem dX4_add_21 : decode cX4_add 21 = .ok (.iastore, 1) := by decide +kernel
theorem dX4_add_22 : decode cX4_add 22 = .ok (.aload_n 0, 1) := by decide +kernel
theorem dX4_add_23 : decode cX4_add 23 = .ok (.dup, 1) := by decide +kernel
theorem dX4_add_24 : decode cX4_add 24 = .ok (.getfield 18, 3) := by decide +kernel
theorem dX4_add_27 : decode cX4_add 27 = .ok (.iconst 1, 1) := by decide +kernel
theorem dX4_add_28 : decode cX4_add 28 = .ok (.iadd, 1) := by decide +kernel
theorem dX4_add_29 : decode cX4_add 29 = .ok (.putfield 18, 3) := by decide +kernel
theorem dX4_add_32 : decode cX4_add 32 = .ok (.return_, 1) := by decide +kernel
theorem dX4_endPart_0 : decode cX4_endPart 0 = .ok (.iload_n 1, 1) := by decide +kernel
theorem dX4_endPart_1 : decode cX4_endPart 1 = .ok (.iconst 3, 1) := by decide +kernel
theorem dX4_endPart_2 : decode cX4_endPart 2 = .ok (.invokestatic 22, 3) := by decide +kernel
theorem dX4_endPart_5 : decode cX4_endPart 5 = .ok (.ifCond .eq 13, 3) := by decide +kernel
theorem dX4_endPart_8 : decode cX4_endPart 8 = .ok (.aload_n 0, 1) := by decide +kernel
theorem dX4_endPart_9 : decode cX4_endPart 9 = .ok (.getfield 15, 3) := by decide +kernel
theorem dX4_endPart_12 : decode cX4_endPart 12 = .ok (.iload_n 1, 1) := by decide +kernel
theorem dX4_endPart_13 : decode cX4_endPart 13 = .ok (.aload_n 0, 1) := by decide +kernel
theorem dX4_endPart_14 : decode cX4_endPart 14 = .ok (.getfield 18, 3) := by decide +kernel
theorem dX4_endPart_17 : decode cX4_endPart 17 = .ok (.iastore, 1) := by decide +kernel
theorem dX4_endPart_18 : decode cX4_endPart 18 = .ok (.return_, 1) := by decide +kernel
theorem dX4_value_0 : decode cX4_value 0 = .ok (.iload_n 1, 1) := by decide +kernel
theorem dX4_value_1 : decode cX4_value 1 = .ok (.iconst 3, 1) := by decide +kernel
theorem dX4_value_2 : decode cX4_value 2 = .ok (.invokestatic 22, 3) := by decide +kernel
theorem dX4_value_5 : decode cX4_value 5 = .ok (.ifCond .ne 6, 3) := by decide +kernel
theorem dX4_value_8 : decode cX4_value 8 = .ok (.bipush (-2), 2) := by decide +kernel
theorem dX4_value_10 : decode cX4_value 10 = .ok (.ireturn, 1) := by decide +kernel
theorem dX4_value_11 : decode cX4_value 11 = .ok (.iconst 0, 1) := by decide +kernel
theorem dX4_value_12 : decode cX4_value 12 = .ok (.istore 4, 2) := by decide +kernel
theorem dX4_value_14 : decode cX4_value 14 = .ok (.iload_n 1, 1) := by decide +kernel
theorem dX4_value_15 : decode cX4_value 15 = .ok (.ifCond .ne 7, 3) := by decide +kernel
theorem dX4_value_18 : decode cX4_value 18 = .ok (.iconst 0, 1) := by decide +kernel
theorem dX4_value_19 : decode cX4_value 19 = .ok (.goto 11, 3) := by decide +kernel
theorem dX4_value_22 : decode cX4_value 22 = .ok (.aload_n 0, 1) := by decide +kernel
theorem dX4_value_23 : decode cX4_value 23 = .ok (.getfield 15, 3) := by decide +kernel
theorem dX4_value_26 : decode cX4_value 26 = .ok (.iload_n 1, 1) := by decide +kernel
theorem dX4_value_27 : decode cX4_value 27 = .ok (.iconst 1, 1) := by decide +kernel
theorem dX4_value_28 : decode cX4_value 28 = .ok (.isub, 1) := by decide +kernel
theorem dX4_value_29 : decode cX4_value 29 = .ok (.iaload, 1) := by decide +kernel
theorem dX4_value_30 : decode cX4_value 30 = .ok (.istore 5, 2) := by decide +kernel
theorem dX4_value_32 : decode cX4_value 32 = .ok (.iload 5, 2) := by decide +kernel
theorem dX4_value_34 : decode cX4_value 34 = .ok (.aload_n 0, 1) := by decide +kernel
theorem dX4_value_35 : decode cX4_value 35 = .ok (.getfield 15, 3) := by decide +kernel
theorem dX4_value_38 : decode cX4_value 38 = .ok (.iload_n 1, 1) := by decide +kernel
theorem dX4_value_39 : decode cX4_value 39 = .ok (.iaload, 1) := by decide +kernel
theorem dX4_value_40 : decode cX4_value 40 = .ok (.if_icmp .ge 161, 3) := by decide +kernel
theorem dX4_value_43 : decode cX4_value 43 = .ok (.iload 5, 2) := by decide +kernel
theorem dX4_value_45 : decode cX4_value 45 = .ok (.aload_n 0, 1) := by decide +kernel
theorem dX4_value_46 : decode cX4_value 46 = .ok (.getfield 9, 3) := by decide +kernel
theorem dX4_value_49 : decode cX4_value 49 = .ok (.arraylength, 1) := by decide +kernel
theorem dX4_value_50 : decode cX4_value 50 = .ok (.if_icmp .ge 151, 3) := by decide +kernel
theorem dX4_value_53 : decode cX4_value 53 = .ok (.aload_n 0, 1) := by decide +kernel
theorem dX4_value_54 : decode cX4_value 54 = .ok (.getfield 9, 3) := by decide +kernel
theorem dX4_value_57 : decode cX4_value 57 = .ok (.iload 5, 2) := by decide +kernel
theorem dX4_value_59 : decode cX4_value 59 = .ok (.iaload, 1) := by decide +kernel
theorem dX4_value_60 : decode cX4_value 60 = .ok (.istore 6, 2) := by decide +kernel
theorem dX4_value_62 : decode cX4_value 62 = .ok (.iload 6, 2) := by decide +kernel
theorem dX4_value_64 : decode cX4_value 64 = .ok (.bipush (-7), 2) := by decide +kernel
theorem dX4_value_66 : decode cX4_value 66 = .ok (.if_icmp .le 45, 3) := by decide +kernel
theorem dX4_value_69 : decode cX4_value 69 = .ok (.iload 4, 2) := by decide +kernel
theorem dX4_value_71 : decode cX4_value 71 = .ok (.aload_n 3, 1) := by decide +kernel
theorem dX4_value_72 : decode cX4_value 72 = .ok (.arraylength, 1) := by decide +kernel
theorem dX4_value_73 : decode cX4_value 73 = .ok (.if_icmp .ge 122, 3) := by decide +kernel
theorem dX4_value_76 : decode cX4_value 76 = .ok (.aload_n 3, 1) := by decide +kernel
theorem dX4_value_77 : decode cX4_value 77 = .ok (.iload 4, 2) := by decide +kernel
theorem dX4_value_79 : decode cX4_value 79 = .ok (.iload 6, 2) := by decide +kernel
theorem dX4_value_81 : decode cX4_value 81 = .ok (.ifCond .ge 12, 3) := by decide +kernel
theorem dX4_value_84 : decode cX4_value 84 = .ok (.iconst (-1), 1) := by decide +kernel
theorem dX4_value_85 : decode cX4_value 85 = .ok (.iload 6, 2) := by decide +kernel
theorem dX4_value_87 : decode cX4_value 87 = .ok (.isub, 1) := by decide +kernel
theorem dX4_value_88 : decode cX4_value 88 = .ok (.aload_n 2, 1) := by decide +kernel
theorem dX4_value_89 : decode cX4_value 89 = .ok (.arraylength, 1) := by decide +kernel
theorem dX4_value_90 : decode cX4_value 90 = .ok (.if_icmp .lt 8, 3) := by decide +kernel
theorem dX4_value_93 : decode cX4_value 93 = .ok (.iload 6, 2) := by decide +kernel
theorem dX4_value_95 : decode cX4_value 95 = .ok (.goto 9, 3) := by decide +kernel
theorem dX4_value_98 : decode cX4_value 98 = .ok (.aload_n 2, 1) := by decide +kernel
theorem dX4_value_99 : decode cX4_value 99 = .ok (.iconst (-1), 1) := by decide +kernel
theorem dX4_value_100 : decode cX4_value 100 = .ok (.iload 6, 2) := by decide +kernel
theorem dX4_value_102 : decode cX4_value 102 = .ok (.isub, 1) := by decide +kernel
theorem dX4_value_103 : decode cX4_value 103 = .ok (.iaload, 1) := by decide +kernel
theorem dX4_value_104 : decode cX4_value 104 = .ok (.iastore, 1) := by decide +kernel
theorem dX4_value_105 : decode cX4_value 105 = .ok (.iinc 4 1, 3) := by decide +kernel
theorem dX4_value_108 : decode cX4_value 108 = .ok (.goto 87, 3) := by decide +kernel
theorem dX4_value_111 : decode cX4_value 111 = .ok (.iload 6, 2) := by decide +kernel
theorem dX4_value_113 : decode cX4_value 113 = .ok (.bipush (-8), 2) := by decide +kernel
theorem dX4_value_115 : decode cX4_value 115 = .ok (.if_icmp .lt 48, 3) := by decide +kernel
theorem dX4_value_118 : decode cX4_value 118 = .ok (.iload 4, 2) := by decide +kernel
theorem dX4_value_120 : decode cX4_value 120 = .ok (.ifCond .le 75, 3) := by decide +kernel
theorem dX4_value_123 : decode cX4_value 123 = .ok (.aload_n 3, 1) := by decide +kernel
theorem dX4_value_124 : decode cX4_value 124 = .ok (.iload 4, 2) := by decide +kernel
theorem dX4_value_126 : decode cX4_value 126 = .ok (.iconst 1, 1) := by decide +kernel
theorem dX4_value_127 : decode cX4_value 127 = .ok (.isub, 1) := by decide +kernel
theorem dX4_value_128 : decode cX4_value 128 = .ok (.iload 6, 2) := by decide +kernel
theorem dX4_value_130 : decode cX4_value 130 = .ok (.bipush (-7), 2) := by decide +kernel
theorem dX4_value_132 : decode cX4_value 132 = .ok (.if_icmp .ne 13, 3) := by decide +kernel
theorem dX4_value_135 : decode cX4_value 135 = .ok (.aload_n 3, 1) := by decide +kernel
theorem dX4_value_136 : decode cX4_value 136 = .ok (.iload 4, 2) := by decide +kernel
theorem dX4_value_138 : decode cX4_value 138 = .ok (.iconst 1, 1) := by decide +kernel
theorem dX4_value_139 : decode cX4_value 139 = .ok (.isub, 1) := by decide +kernel
theorem dX4_value_140 : decode cX4_value 140 = .ok (.iaload, 1) := by decide +kernel
theorem dX4_value_141 : decode cX4_value 141 = .ok (.ineg, 1) := by decide +kernel
theorem dX4_value_142 : decode cX4_value 142 = .ok (.goto 17, 3) := by decide +kernel
theorem dX4_value_145 : decode cX4_value 145 = .ok (.aload_n 3, 1) := by decide +kernel
theorem dX4_value_146 : decode cX4_value 146 = .ok (.iload 4, 2) := by decide +kernel
theorem dX4_value_148 : decode cX4_value 148 = .ok (.iconst 1, 1) := by decide +kernel
theorem dX4_value_149 : decode cX4_value 149 = .ok (.isub, 1) := by decide +kernel
theorem dX4_value_150 : decode cX4_value 150 = .ok (.iaload, 1) := by decide +kernel
theorem dX4_value_151 : decode cX4_value 151 = .ok (.ifCond .ne 7, 3) := by decide +kernel
theorem dX4_value_154 : decode cX4_value 154 = .ok (.iconst 1, 1) := by decide +kernel
theorem dX4_value_155 : decode cX4_value 155 = .ok (.goto 4, 3) := by decide +kernel
theorem dX4_value_158 : decode cX4_value 158 = .ok (.iconst 0, 1) := by decide +kernel
theorem dX4_value_159 : decode cX4_value 159 = .ok (.iastore, 1) := by decide +kernel
theorem dX4_value_160 : decode cX4_value 160 = .ok (.goto 35, 3) := by decide +kernel
theorem dX4_value_163 : decode cX4_value 163 = .ok (.iload 4, 2) := by decide +kernel
theorem dX4_value_165 : decode cX4_value 165 = .ok (.iconst 1, 1) := by decide +kernel
theorem dX4_value_166 : decode cX4_value 166 = .ok (.if_icmp .le 29, 3) := by decide +kernel
theorem dX4_value_169 : decode cX4_value 169 = .ok (.aload_n 3, 1) := by decide +kernel
theorem dX4_value_170 : decode cX4_value 170 = .ok (.iload 4, 2) := by decide +kernel
theorem dX4_value_172 : decode cX4_value 172 = .ok (.iconst 2, 1) := by decide +kernel
theorem dX4_value_173 : decode cX4_value 173 = .ok (.isub, 1) := by decide +kernel
theorem dX4_value_174 : decode cX4_value 174 = .ok (.iload 6, 2) := by decide +kernel
theorem dX4_value_176 : decode cX4_value 176 = .ok (.aload_n 3, 1) := by decide +kernel
theorem dX4_value_177 : decode cX4_value 177 = .ok (.iload 4, 2) := by decide +kernel
theorem dX4_value_179 : decode cX4_value 179 = .ok (.iconst 2, 1) := by decide +kernel
theorem dX4_value_180 : decode cX4_value 180 = .ok (.isub, 1) := by decide +kernel
theorem dX4_value_181 : decode cX4_value 181 = .ok (.iaload, 1) := by decide +kernel
theorem dX4_value_182 : decode cX4_value 182 = .ok (.aload_n 3, 1) := by decide +kernel
theorem dX4_value_183 : decode cX4_value 183 = .ok (.iload 4, 2) := by decide +kernel
theorem dX4_value_185 : decode cX4_value 185 = .ok (.iconst 1, 1) := by decide +kernel
theorem dX4_value_186 : decode cX4_value 186 = .ok (.isub, 1) := by decide +kernel
theorem dX4_value_187 : decode cX4_value 187 = .ok (.iaload, 1) := by decide +kernel
theorem dX4_value_188 : decode cX4_value 188 = .ok (.invokestatic 26, 3) := by decide +kernel
theorem dX4_value_191 : decode cX4_value 191 = .ok (.iastore, 1) := by decide +kernel
theorem dX4_value_192 : decode cX4_value 192 = .ok (.iinc 4 (-1), 3) := by decide +kernel
theorem dX4_value_195 : decode cX4_value 195 = .ok (.iinc 5 1, 3) := by decide +kernel
theorem dX4_value_198 : decode cX4_value 198 = .ok (.goto (-166), 3) := by decide +kernel
theorem dX4_value_201 : decode cX4_value 201 = .ok (.iload 4, 2) := by decide +kernel
theorem dX4_value_203 : decode cX4_value 203 = .ok (.ifCond .le 12, 3) := by decide +kernel
theorem dX4_value_206 : decode cX4_value 206 = .ok (.aload_n 3, 1) := by decide +kernel
theorem dX4_value_207 : decode cX4_value 207 = .ok (.iload 4, 2) := by decide +kernel
theorem dX4_value_209 : decode cX4_value 209 = .ok (.iconst 1, 1) := by decide +kernel
theorem dX4_value_210 : decode cX4_value 210 = .ok (.isub, 1) := by decide +kernel
theorem dX4_value_211 : decode cX4_value 211 = .ok (.iaload, 1) := by decide +kernel
theorem dX4_value_212 : decode cX4_value 212 = .ok (.goto 4, 3) := by decide +kernel
theorem dX4_value_215 : decode cX4_value 215 = .ok (.iconst 0, 1) := by decide +kernel
theorem dX4_value_216 : decode cX4_value 216 = .ok (.istore 5, 2) := by decide +kernel
theorem dX4_value_218 : decode cX4_value 218 = .ok (.iload 5, 2) := by decide +kernel
theorem dX4_value_220 : decode cX4_value 220 = .ok (.getstatic 30, 3) := by decide +kernel
theorem dX4_value_223 : decode cX4_value 223 = .ok (.iload_n 1, 1) := by decide +kernel
theorem dX4_value_224 : decode cX4_value 224 = .ok (.iaload, 1) := by decide +kernel
theorem dX4_value_225 : decode cX4_value 225 = .ok (.invokestatic 33, 3) := by decide +kernel
theorem dX4_value_228 : decode cX4_value 228 = .ok (.getstatic 39, 3) := by decide +kernel
theorem dX4_value_231 : decode cX4_value 231 = .ok (.iload_n 1, 1) := by decide +kernel
theorem dX4_value_232 : decode cX4_value 232 = .ok (.iaload, 1) := by decide +kernel
theorem dX4_value_233 : decode cX4_value 233 = .ok (.invokestatic 42, 3) := by decide +kernel
theorem dX4_value_236 : decode cX4_value 236 = .ok (.ireturn, 1) := by decide +kernel
theorem dX4_joined_0 : decode cX4_joined 0 = .ok (.iload_n 0, 1) := by decide +kernel
theorem dX4_joined_1 : decode cX4_joined 1 = .ok (.tableswitch 97 (-14) (-9) #[93, 89, 78, 67, 53, 39], 39) := by decide +kernel
theorem dX4_joined_40 : decode cX4_joined 40 = .ok (.iload_n 1, 1) := by decide +kernel
theorem dX4_joined_41 : decode cX4_joined 41 = .ok (.ifCond .ne 7, 3) := by decide +kernel
theorem dX4_joined_44 : decode cX4_joined 44 = .ok (.iload_n 2, 1) := by decide +kernel
theorem dX4_joined_45 : decode cX4_joined 45 = .ok (.ifCond .eq 7, 3) := by decide +kernel
theorem dX4_joined_48 : decode cX4_joined 48 = .ok (.iconst 1, 1) := by decide +kernel
theorem dX4_joined_49 : decode cX4_joined 49 = .ok (.goto 4, 3) := by decide +kernel
theorem dX4_joined_52 : decode cX4_joined 52 = .ok (.iconst 0, 1) := by decide +kernel
theorem dX4_joined_53 : decode cX4_joined 53 = .ok (.ireturn, 1) := by decide +kernel
theorem dX4_joined_54 : decode cX4_joined 54 = .ok (.iload_n 1, 1) := by decide +kernel
theorem dX4_joined_55 : decode cX4_joined 55 = .ok (.ifCond .eq 11, 3) := by decide +kernel
theorem dX4_joined_58 : decode cX4_joined 58 = .ok (.iload_n 2, 1) := by decide +kernel
theorem dX4_joined_59 : decode cX4_joined 59 = .ok (.ifCond .eq 7, 3) := by decide +kernel
theorem dX4_joined_62 : decode cX4_joined 62 = .ok (.iconst 1, 1) := by decide +kernel
theorem dX4_joined_63 : decode cX4_joined 63 = .ok (.goto 4, 3) := by decide +kernel
theorem dX4_joined_66 : decode cX4_joined 66 = .ok (.iconst 0, 1) := by decide +kernel
theorem dX4_joined_67 : decode cX4_joined 67 = .ok (.ireturn, 1) := by decide +kernel
theorem dX4_joined_68 : decode cX4_joined 68 = .ok (.iload_n 1, 1) := by decide +kernel
theorem dX4_joined_69 : decode cX4_joined 69 = .ok (.iload_n 2, 1) := by decide +kernel
theorem dX4_joined_70 : decode cX4_joined 70 = .ok (.if_icmp .ge 7, 3) := by decide +kernel
theorem dX4_joined_73 : decode cX4_joined 73 = .ok (.iconst 1, 1) := by decide +kernel
theorem dX4_joined_74 : decode cX4_joined 74 = .ok (.goto 4, 3) := by decide +kernel
theorem dX4_joined_77 : decode cX4_joined 77 = .ok (.iconst 0, 1) := by decide +kernel
theorem dX4_joined_78 : decode cX4_joined 78 = .ok (.ireturn, 1) := by decide +kernel
theorem dX4_joined_79 : decode cX4_joined 79 = .ok (.iload_n 1, 1) := by decide +kernel
theorem dX4_joined_80 : decode cX4_joined 80 = .ok (.iload_n 2, 1) := by decide +kernel
theorem dX4_joined_81 : decode cX4_joined 81 = .ok (.if_icmp .ne 7, 3) := by decide +kernel
theorem dX4_joined_84 : decode cX4_joined 84 = .ok (.iconst 1, 1) := by decide +kernel
theorem dX4_joined_85 : decode cX4_joined 85 = .ok (.goto 4, 3) := by decide +kernel
theorem dX4_joined_88 : decode cX4_joined 88 = .ok (.iconst 0, 1) := by decide +kernel
theorem dX4_joined_89 : decode cX4_joined 89 = .ok (.ireturn, 1) := by decide +kernel
theorem dX4_joined_90 : decode cX4_joined 90 = .ok (.iload_n 1, 1) := by decide +kernel
theorem dX4_joined_91 : decode cX4_joined 91 = .ok (.iload_n 2, 1) := by decide +kernel
theorem dX4_joined_92 : decode cX4_joined 92 = .ok (.iadd, 1) := by decide +kernel
theorem dX4_joined_93 : decode cX4_joined 93 = .ok (.ireturn, 1) := by decide +kernel
theorem dX4_joined_94 : decode cX4_joined 94 = .ok (.iload_n 1, 1) := by decide +kernel
theorem dX4_joined_95 : decode cX4_joined 95 = .ok (.iload_n 2, 1) := by decide +kernel
theorem dX4_joined_96 : decode cX4_joined 96 = .ok (.isub, 1) := by decide +kernel
theorem dX4_joined_97 : decode cX4_joined 97 = .ok (.ireturn, 1) := by decide +kernel
theorem dX4_joined_98 : decode cX4_joined 98 = .ok (.iload_n 1, 1) := by decide +kernel
theorem dX4_joined_99 : decode cX4_joined 99 = .ok (.iload_n 2, 1) := by decide +kernel
theorem dX4_joined_100 : decode cX4_joined 100 = .ok (.imul, 1) := by decide +kernel
theorem dX4_joined_101 : decode cX4_joined 101 = .ok (.ireturn, 1) := by decide +kernel
theorem dX5_init_0 : decode cX5_init 0 = .ok (.aload_n 0, 1) := by decide +kernel
theorem dX5_init_1 : decode cX5_init 1 = .ok (.invokespecial 3, 3) := by decide +kernel
theorem dX5_init_4 : decode cX5_init 4 = .ok (.aload_n 0, 1) := by decide +kernel
theorem dX5_init_5 : decode cX5_init 5 = .ok (.bipush 6, 2) := by decide +kernel
theorem dX5_init_7 : decode cX5_init 7 = .ok (.newarray .int, 2) := by decide +kernel
theorem dX5_init_9 : decode cX5_init 9 = .ok (.putfield 11, 3) := by decide +kernel
theorem dX5_init_12 : decode cX5_init 12 = .ok (.aload_n 0, 1) := by decide +kernel
theorem dX5_init_13 : decode cX5_init 13 = .ok (.sipush 160, 3) := by decide +kernel
theorem dX5_init_16 : decode cX5_init 16 = .ok (.newarray .int, 2) := by decide +kernel
theorem dX5_init_18 : decode cX5_init 18 = .ok (.putfield 17, 3) := by decide +kernel
theorem dX5_init_21 : decode cX5_init 21 = .ok (.aload_n 0, 1) := by decide +kernel
theorem dX5_init_22 : decode cX5_init 22 = .ok (.bipush 7, 2) := by decide +kernel
theorem dX5_init_24 : decode cX5_init 24 = .ok (.newarray .int, 2) := by decide +kernel
theorem dX5_init_26 : decode cX5_init 26 = .ok (.putfield 20, 3) := by decide +kernel
theorem dX5_init_29 : decode cX5_init 29 = .ok (.aload_n 0, 1) := by decide +kernel
theorem dX5_init_30 : decode cX5_init 30 = .ok (.bipush 7, 2) := by decide +kernel
theorem dX5_init_32 : decode cX5_init 32 = .ok (.newarray .int, 2) := by decide +kernel
theorem dX5_init_34 : decode cX5_init 34 = .ok (.putfield 23, 3) := by decide +kernel
theorem dX5_init_37 : decode cX5_init 37 = .ok (.aload_n 0, 1) := by decide +kernel
theorem dX5_init_38 : decode cX5_init 38 = .ok (.iconst 0, 1) := by decide +kernel
theorem dX5_init_39 : decode cX5_init 39 = .ok (.putfield 26, 3) := by decide +kernel
theorem dX5_init_42 : decode cX5_init 42 = .ok (.aload_n 0, 1) := by decide +kernel
theorem dX5_init_43 : decode cX5_init 43 = .ok (.iconst 0, 1) := by decide +kernel
theorem dX5_init_44 : decode cX5_init 44 = .ok (.putfield 30, 3) := by decide +kernel
theorem dX5_init_47 : decode cX5_init 47 = .ok (.aload_n 0, 1) := by decide +kernel
theorem dX5_init_48 : decode cX5_init 48 = .ok (.iconst 0, 1) := by decide +kernel
theorem dX5_init_49 : decode cX5_init 49 = .ok (.putfield 33, 3) := by decide +kernel
theorem dX5_init_52 : decode cX5_init 52 = .ok (.aload_n 0, 1) := by decide +kernel
theorem dX5_init_53 : decode cX5_init 53 = .ok (.iconst 0, 1) := by decide +kernel
theorem dX5_init_54 : decode cX5_init 54 = .ok (.putfield 36, 3) := by decide +kernel
theorem dX5_init_57 : decode cX5_init 57 = .ok (.aload_n 0, 1) := by decide +kernel
theorem dX5_init_58 : decode cX5_init 58 = .ok (.iconst 0, 1) := by decide +kernel
theorem dX5_init_59 : decode cX5_init 59 = .ok (.putfield 39, 3) := by decide +kernel
theorem dX5_init_62 : decode cX5_init 62 = .ok (.aload_n 0, 1) := by decide +kernel
theorem dX5_init_63 : decode cX5_init 63 = .ok (.aload_n 2, 1) := by decide +kernel
theorem dX5_init_64 : decode cX5_init 64 = .ok (.putfield 42, 3) := by decide +kernel
theorem dX5_init_67 : decode cX5_init 67 = .ok (.aload_n 0, 1) := by decide +kernel
theorem dX5_init_68 : decode cX5_init 68 = .ok (.aload_n 1, 1) := by decide +kernel
theorem dX5_init_69 : decode cX5_init 69 = .ok (.putfield 46, 3) := by decide +kernel
theorem dX5_init_72 : decode cX5_init 72 = .ok (.aload_n 0, 1) := by decide +kernel
theorem dX5_init_73 : decode cX5_init 73 = .ok (.aload_n 2, 1) := by decide +kernel
theorem dX5_init_74 : decode cX5_init 74 = .ok (.arraylength, 1) := by decide +kernel
theorem dX5_init_75 : decode cX5_init 75 = .ok (.ifCond .le 9, 3) := by decide +kernel
theorem dX5_init_78 : decode cX5_init 78 = .ok (.aload_n 2, 1) := by decide +kernel
theorem dX5_init_79 : decode cX5_init 79 = .ok (.iconst 0, 1) := by decide +kernel
theorem dX5_init_80 : decode cX5_init 80 = .ok (.aaload, 1) := by decide +kernel
theorem dX5_init_81 : decode cX5_init 81 = .ok (.goto 10, 3) := by decide +kernel
theorem dX5_init_84 : decode cX5_init 84 = .ok (.new 9, 3) := by decide +kernel
theorem dX5_init_87 : decode cX5_init 87 = .ok (.dup, 1) := by decide +kernel
theorem dX5_init_88 : decode cX5_init 88 = .ok (.invokespecial 50, 3) := by decide +kernel
theorem dX5_init_91 : decode cX5_init 91 = .ok (.putfield 51, 3) := by decide +kernel
theorem dX5_init_94 : decode cX5_init 94 = .ok (.return_, 1) := by decide +kernel
theorem dX5_begin_0 : decode cX5_begin 0 = .ok (.aload_n 0, 1) := by decide +kernel
theorem dX5_begin_1 : decode cX5_begin 1 = .ok (.aload_n 1, 1) := by decide +kernel
theorem dX5_begin_2 : decode cX5_begin 2 = .ok (.putfield 46, 3) := by decide +kernel
theorem dX5_begin_5 : decode cX5_begin 5 = .ok (.aload_n 1, 1) := by decide +kernel
theorem dX5_begin_6 : decode cX5_begin 6 = .ok (.invokevirtual 55, 3) := by decide +kernel
theorem dX5_begin_9 : decode cX5_begin 9 = .ok (.aload_n 1, 1) := by decide +kernel
theorem dX5_begin_10 : decode cX5_begin 10 = .ok (.getfield 60, 3) := by decide +kernel
theorem dX5_begin_13 : decode cX5_begin 13 = .ok (.aload_n 0, 1) := by decide +kernel
theorem dX5_begin_14 : decode cX5_begin 14 = .ok (.getfield 42, 3) := by decide +kernel
theorem dX5_begin_17 : decode cX5_begin 17 = .ok (.arraylength, 1) := by decide +kernel
theorem dX5_begin_18 : decode cX5_begin 18 = .ok (.invokestatic 62, 3) := by decide +kernel
theorem dX5_begin_21 : decode cX5_begin 21 = .ok (.ifCond .eq 16, 3) := by decide +kernel
theorem dX5_begin_24 : decode cX5_begin 24 = .ok (.aload_n 0, 1) := by decide +kernel
theorem dX5_begin_25 : decode cX5_begin 25 = .ok (.aload_n 0, 1) := by decide +kernel
theorem dX5_begin_26 : decode cX5_begin 26 = .ok (.getfield 42, 3) := by decide +kernel
theorem dX5_begin_29 : decode cX5_begin 29 = .ok (.aload_n 1, 1) := by decide +kernel
theorem dX5_begin_30 : decode cX5_begin 30 = .ok (.getfield 60, 3) := by decide +kernel
theorem dX5_begin_33 : decode cX5_begin 33 = .ok (.aaload, 1) := by decide +kernel
theorem dX5_begin_34 : decode cX5_begin 34 = .ok (.putfield 51, 3) := by decide +kernel
theorem dX5_begin_37 : decode cX5_begin 37 = .ok (.aload_n 0, 1) := by decide +kernel
theorem dX5_begin_38 : decode cX5_begin 38 = .ok (.aload_n 1, 1) := by decide +kernel
theorem dX5_begin_39 : decode cX5_begin 39 = .ok (.iconst 5, 1) := by decide +kernel
theorem dX5_begin_40 : decode cX5_begin 40 = .ok (.iconst 0, 1) := by decide +kernel
theorem dX5_begin_41 : decode cX5_begin 41 = .ok (.invokevirtual 66, 3) := by decide +kernel
theorem dX5_begin_44 : decode cX5_begin 44 = .ok (.putfield 26, 3) := by decide +kernel
theorem dX5_begin_47 : decode cX5_begin 47 = .ok (.aload_n 0, 1) := by decide +kernel
theorem dX5_begin_48 : decode cX5_begin 48 = .ok (.aload_n 1, 1) := by decide +kernel
theorem dX5_begin_49 : decode cX5_begin 49 = .ok (.bipush 6, 2) := by decide +kernel
theorem dX5_begin_51 : decode cX5_begin 51 = .ok (.iconst 0, 1) := by decide +kernel
theorem dX5_begin_52 : decode cX5_begin 52 = .ok (.invokevirtual 66, 3) := by decide +kernel
theorem dX5_begin_55 : decode cX5_begin 55 = .ok (.putfield 30, 3) := by decide +kernel
theorem dX5_begin_58 : decode cX5_begin 58 = .ok (.aload_n 0, 1) := by decide +kernel
theorem dX5_begin_59 : decode cX5_begin 59 = .ok (.iconst 0, 1) := by decide +kernel
theorem dX5_begin_60 : decode cX5_begin 60 = .ok (.putfield 33, 3) := by decide +kernel
theorem dX5_begin_63 : decode cX5_begin 63 = .ok (.aload_n 0, 1) := by decide +kernel
theorem dX5_begin_64 : decode cX5_begin 64 = .ok (.iconst 0, 1) := by decide +kernel
theorem dX5_begin_65 : decode cX5_begin 65 = .ok (.putfield 36, 3) := by decide +kernel
theorem dX5_begin_68 : decode cX5_begin 68 = .ok (.aload_n 0, 1) := by decide +kernel
theorem dX5_begin_69 : decode cX5_begin 69 = .ok (.iconst 0, 1) := by decide +kernel
theorem dX5_begin_70 : decode cX5_begin 70 = .ok (.putfield 39, 3) := by decide +kernel
theorem dX5_begin_73 : decode cX5_begin 73 = .ok (.aload_n 0, 1) := by decide +kernel
theorem dX5_begin_74 : decode cX5_begin 74 = .ok (.getfield 20, 3) := by decide +kernel
theorem dX5_begin_77 : decode cX5_begin 77 = .ok (.iconst (-1), 1) := by decide +kernel
theorem dX5_begin_78 : decode cX5_begin 78 = .ok (.invokestatic 70, 3) := by decide +kernel
theorem dX5_begin_81 : decode cX5_begin 81 = .ok (.aload_n 0, 1) := by decide +kernel
theorem dX5_begin_82 : decode cX5_begin 82 = .ok (.getfield 23, 3) := by decide +kernel
theorem dX5_begin_85 : decode cX5_begin 85 = .ok (.iconst (-1), 1) := by decide +kernel
theorem dX5_begin_86 : decode cX5_begin 86 = .ok (.invokestatic 70, 3) := by decide +kernel
theorem dX5_begin_89 : decode cX5_begin 89 = .ok (.return_, 1) := by decide +kernel
theorem dX5_goPlain_0 : decode cX5_goPlain 0 = .ok (.aload_n 0, 1) := by decide +kernel
theorem dX5_goPlain_1 : decode cX5_goPlain 1 = .ok (.aload_n 1, 1) := by decide +kernel
theorem dX5_goPlain_2 : decode cX5_goPlain 2 = .ok (.invokevirtual 76, 3) := by decide +kernel
theorem dX5_goPlain_5 : decode cX5_goPlain 5 = .ok (.iconst 0, 1) := by decide +kernel
theorem dX5_goPlain_6 : decode cX5_goPlain 6 = .ok (.istore_n 3, 1) := by decide +kernel
theorem dX5_goPlain_7 : decode cX5_goPlain 7 = .ok (.iconst 0, 1) := by decide +kernel
theorem dX5_goPlain_8 : decode cX5_goPlain 8 = .ok (.istore 4, 2) := by decide +kernel
theorem dX5_goPlain_10 : decode cX5_goPlain 10 = .ok (.iload 4, 2) := by decide +kernel
theorem dX5_goPlain_12 : decode cX5_goPlain 12 = .ok (.aload_n 1, 1) := by decide +kernel
theorem dX5_goPlain_13 : decode cX5_goPlain 13 = .ok (.getfield 80, 3) := by decide +kernel
theorem dX5_goPlain_16 : decode cX5_goPlain 16 = .ok (.if_icmp .ge 28, 3) := by decide +kernel
theorem dX5_goPlain_19 : decode cX5_goPlain 19 = .ok (.iload_n 2, 1) := by decide +kernel
theorem dX5_goPlain_20 : decode cX5_goPlain 20 = .ok (.iload 4, 2) := by decide +kernel
theorem dX5_goPlain_22 : decode cX5_goPlain 22 = .ok (.ishr, 1) := by decide +kernel
theorem dX5_goPlain_23 : decode cX5_goPlain 23 = .ok (.iconst 1, 1) := by decide +kernel
theorem dX5_goPlain_24 : decode cX5_goPlain 24 = .ok (.iand, 1) := by decide +kernel
theorem dX5_goPlain_25 : decode cX5_goPlain 25 = .ok (.ifCond .eq 13, 3) := by decide +kernel
theorem dX5_goPlain_28 : decode cX5_goPlain 28 = .ok (.aload_n 0, 1) := by decide +kernel
theorem dX5_goPlain_29 : decode cX5_goPlain 29 = .ok (.iload 4, 2) := by decide +kernel
theorem dX5_goPlain_31 : decode cX5_goPlain 31 = .ok (.iload_n 3, 1) := by decide +kernel
theorem dX5_goPlain_32 : decode cX5_goPlain 32 = .ok (.invokevirtual 83, 3) := by decide +kernel
theorem dX5_goPlain_35 : decode cX5_goPlain 35 = .ok (.iinc 3 1, 3) := by decide +kernel
theorem dX5_goPlain_38 : decode cX5_goPlain 38 = .ok (.iinc 4 1, 3) := by decide +kernel
theorem dX5_goPlain_41 : decode cX5_goPlain 41 = .ok (.goto (-31), 3) := by decide +kernel
theorem dX5_goPlain_44 : decode cX5_goPlain 44 = .ok (.aload_n 0, 1) := by decide +kernel
theorem dX5_goPlain_45 : decode cX5_goPlain 45 = .ok (.getfield 33, 3) := by decide +kernel
theorem dX5_goPlain_48 : decode cX5_goPlain 48 = .ok (.ireturn, 1) := by decide +kernel
theorem dX5_lookFor_0 : decode cX5_lookFor 0 = .ok (.iload_n 1, 1) := by decide +kernel
theorem dX5_lookFor_1 : decode cX5_lookFor 1 = .ok (.bipush 7, 2) := by decide +kernel
theorem dX5_lookFor_3 : decode cX5_lookFor 3 = .ok (.invokestatic 62, 3) := by decide +kernel
theorem dX5_lookFor_6 : decode cX5_lookFor 6 = .ok (.ifCond .ne 4, 3) := by decide +kernel
theorem dX5_lookFor_9 : decode cX5_lookFor 9 = .ok (.return_, 1) := by decide +kernel
theorem dX5_lookFor_10 : decode cX5_lookFor 10 = .ok (.aload_n 0, 1) := by decide +kernel
theorem dX5_lookFor_11 : decode cX5_lookFor 11 = .ok (.getfield 46, 3) := by decide +kernel
theorem dX5_lookFor_14 : decode cX5_lookFor 14 = .ok (.bipush 9, 2) := by decide +kernel
theorem dX5_lookFor_16 : decode cX5_lookFor 16 = .ok (.iload_n 1, 1) := by decide +kernel
theorem dX5_lookFor_17 : decode cX5_lookFor 17 = .ok (.invokevirtual 66, 3) := by decide +kernel
theorem dX5_lookFor_20 : decode cX5_lookFor 20 = .ok (.istore_n 3, 1) := by decide +kernel
theorem dX5_lookFor_21 : decode cX5_lookFor 21 = .ok (.aload_n 0, 1) := by decide +kernel
theorem dX5_lookFor_22 : decode cX5_lookFor 22 = .ok (.getfield 11, 3) := by decide +kernel
theorem dX5_lookFor_25 : decode cX5_lookFor 25 = .ok (.iconst 0, 1) := by decide +kernel
theorem dX5_lookFor_26 : decode cX5_lookFor 26 = .ok (.aload_n 0, 1) := by decide +kernel
theorem dX5_lookFor_27 : decode cX5_lookFor 27 = .ok (.getfield 30, 3) := by decide +kernel
theorem dX5_lookFor_30 : decode cX5_lookFor 30 = .ok (.iastore, 1) := by decide +kernel
theorem dX5_lookFor_31 : decode cX5_lookFor 31 = .ok (.aload_n 0, 1) := by decide +kernel
theorem dX5_lookFor_32 : decode cX5_lookFor 32 = .ok (.getfield 11, 3) := by decide +kernel
theorem dX5_lookFor_35 : decode cX5_lookFor 35 = .ok (.iconst 1, 1) := by decide +kernel
theorem dX5_lookFor_36 : decode cX5_lookFor 36 = .ok (.aload_n 0, 1) := by decide +kernel
theorem dX5_lookFor_37 : decode cX5_lookFor 37 = .ok (.getfield 26, 3) := by decide +kernel
theorem dX5_lookFor_40 : decode cX5_lookFor 40 = .ok (.bipush 10, 2) := by decide +kernel
theorem dX5_lookFor_42 : decode cX5_lookFor 42 = .ok (.irem, 1) := by decide +kernel
theorem dX5_lookFor_43 : decode cX5_lookFor 43 = .ok (.iload_n 3, 1) := by decide +kernel
theorem dX5_lookFor_44 : decode cX5_lookFor 44 = .ok (.bipush 10, 2) := by decide +kernel
theorem dX5_lookFor_46 : decode cX5_lookFor 46 = .ok (.irem, 1) := by decide +kernel
theorem dX5_lookFor_47 : decode cX5_lookFor 47 = .ok (.isub, 1) := by decide +kernel
theorem dX5_lookFor_48 : decode cX5_lookFor 48 = .ok (.invokestatic 87, 3) := by decide +kernel
theorem dX5_lookFor_51 : decode cX5_lookFor 51 = .ok (.aload_n 0, 1) := by decide +kernel
theorem dX5_lookFor_52 : decode cX5_lookFor 52 = .ok (.getfield 26, 3) := by decide +kernel
theorem dX5_lookFor_55 : decode cX5_lookFor 55 = .ok (.bipush 10, 2) := by decide +kernel
theorem dX5_lookFor_57 : decode cX5_lookFor 57 = .ok (.idiv, 1) := by decide +kernel
theorem dX5_lookFor_58 : decode cX5_lookFor 58 = .ok (.iload_n 3, 1) := by decide +kernel
theorem dX5_lookFor_59 : decode cX5_lookFor 59 = .ok (.bipush 10, 2) := by decide +kernel
theorem dX5_lookFor_61 : decode cX5_lookFor 61 = .ok (.idiv, 1) := by decide +kernel
theorem dX5_lookFor_62 : decode cX5_lookFor 62 = .ok (.isub, 1) := by decide +kernel
theorem dX5_lookFor_63 : decode cX5_lookFor 63 = .ok (.invokestatic 87, 3) := by decide +kernel
theorem dX5_lookFor_66 : decode cX5_lookFor 66 = .ok (.invokestatic 93, 3) := by decide +kernel
theorem dX5_lookFor_69 : decode cX5_lookFor 69 = .ok (.iastore, 1) := by decide +kernel
theorem dX5_lookFor_70 : decode cX5_lookFor 70 = .ok (.aload_n 0, 1) := by decide +kernel
theorem dX5_lookFor_71 : decode cX5_lookFor 71 = .ok (.getfield 11, 3) := by decide +kernel
theorem dX5_lookFor_74 : decode cX5_lookFor 74 = .ok (.iconst 2, 1) := by decide +kernel
theorem dX5_lookFor_75 : decode cX5_lookFor 75 = .ok (.aload_n 0, 1) := by decide +kernel
theorem dX5_lookFor_76 : decode cX5_lookFor 76 = .ok (.getfield 46, 3) := by decide +kernel
theorem dX5_lookFor_79 : decode cX5_lookFor 79 = .ok (.iconst 0, 1) := by decide +kernel
theorem dX5_lookFor_80 : decode cX5_lookFor 80 = .ok (.iconst 0, 1) := by decide +kernel
theorem dX5_lookFor_81 : decode cX5_lookFor 81 = .ok (.invokevirtual 66, 3) := by decide +kernel
theorem dX5_lookFor_84 : decode cX5_lookFor 84 = .ok (.iastore, 1) := by decide +kernel
theorem dX5_lookFor_85 : decode cX5_lookFor 85 = .ok (.aload_n 0, 1) := by decide +kernel
theorem dX5_lookFor_86 : decode cX5_lookFor 86 = .ok (.getfield 11, 3) := by decide +kernel
theorem dX5_lookFor_89 : decode cX5_lookFor 89 = .ok (.iconst 3, 1) := by decide +kernel
theorem dX5_lookFor_90 : decode cX5_lookFor 90 = .ok (.aload_n 0, 1) := by decide +kernel
theorem dX5_lookFor_91 : decode cX5_lookFor 91 = .ok (.getfield 46, 3) := by decide +kernel
theorem dX5_lookFor_94 : decode cX5_lookFor 94 = .ok (.bipush 8, 2) := by decide +kernel
theorem dX5_lookFor_96 : decode cX5_lookFor 96 = .ok (.iload_n 1, 1) := by decide +kernel
theorem dX5_lookFor_97 : decode cX5_lookFor 97 = .ok (.invokevirtual 66, 3) := by decide +kernel
theorem dX5_lookFor_100 : decode cX5_lookFor 100 = .ok (.iastore, 1) := by decide +kernel
theorem dX5_lookFor_101 : decode cX5_lookFor 101 = .ok (.aload_n 0, 1) := by decide +kernel
theorem dX5_lookFor_102 : decode cX5_lookFor 102 = .ok (.getfield 11, 3) := by decide +kernel
theorem dX5_lookFor_105 : decode cX5_lookFor 105 = .ok (.iconst 4, 1) := by decide +kernel
theorem dX5_lookFor_106 : decode cX5_lookFor 106 = .ok (.iload_n 3, 1) := by decide +kernel
theorem dX5_lookFor_107 : decode cX5_lookFor 107 = .ok (.bipush 10, 2) := by decide +kernel
theorem dX5_lookFor_109 : decode cX5_lookFor 109 = .ok (.idiv, 1) := by decide +kernel
theorem dX5_lookFor_110 : decode cX5_lookFor 110 = .ok (.iastore, 1) := by decide +kernel
theorem dX5_lookFor_111 : decode cX5_lookFor 111 = .ok (.aload_n 0, 1) := by decide +kernel
theorem dX5_lookFor_112 : decode cX5_lookFor 112 = .ok (.getfield 11, 3) := by decide +kernel
theorem dX5_lookFor_115 : decode cX5_lookFor 115 = .ok (.iconst 5, 1) := by decide +kernel
theorem dX5_lookFor_116 : decode cX5_lookFor 116 = .ok (.iload_n 2, 1) := by decide +kernel
theorem dX5_lookFor_117 : decode cX5_lookFor 117 = .ok (.iastore, 1) := by decide +kernel
theorem dX5_lookFor_118 : decode cX5_lookFor 118 = .ok (.aload_n 0, 1) := by decide +kernel
theorem dX5_lookFor_119 : decode cX5_lookFor 119 = .ok (.getfield 30, 3) := by decide +kernel
theorem dX5_lookFor_122 : decode cX5_lookFor 122 = .ok (.aload_n 0, 1) := by decide +kernel
theorem dX5_lookFor_123 : decode cX5_lookFor 123 = .ok (.getfield 51, 3) := by decide +kernel
theorem dX5_lookFor_126 : decode cX5_lookFor 126 = .ok (.iconst 0, 1) := by decide +kernel
theorem dX5_lookFor_127 : decode cX5_lookFor 127 = .ok (.aload_n 0, 1) := by decide +kernel
theorem dX5_lookFor_128 : decode cX5_lookFor 128 = .ok (.getfield 11, 3) := by decide +kernel
theorem dX5_lookFor_131 : decode cX5_lookFor 131 = .ok (.aload_n 0, 1) := by decide +kernel
theorem dX5_lookFor_132 : decode cX5_lookFor 132 = .ok (.getfield 17, 3) := by decide +kernel
theorem dX5_lookFor_135 : decode cX5_lookFor 135 = .ok (.invokevirtual 96, 3) := by decide +kernel
theorem dX5_lookFor_138 : decode cX5_lookFor 138 = .ok (.iadd, 1) := by decide +kernel
theorem dX5_lookFor_139 : decode cX5_lookFor 139 = .ok (.istore 4, 2) := by decide +kernel
theorem dX5_lookFor_141 : decode cX5_lookFor 141 = .ok (.aload_n 0, 1) := by decide +kernel
theorem dX5_lookFor_142 : decode cX5_lookFor 142 = .ok (.getfield 11, 3) := by decide +kernel
theorem dX5_lookFor_145 : decode cX5_lookFor 145 = .ok (.iconst 0, 1) := by decide +kernel
theorem dX5_lookFor_146 : decode cX5_lookFor 146 = .ok (.iload 4, 2) := by decide +kernel
theorem dX5_lookFor_148 : decode cX5_lookFor 148 = .ok (.iastore, 1) := by decide +kernel
theorem dX5_lookFor_149 : decode cX5_lookFor 149 = .ok (.aload_n 0, 1) := by decide +kernel
theorem dX5_lookFor_150 : decode cX5_lookFor 150 = .ok (.getfield 46, 3) := by decide +kernel
theorem dX5_lookFor_153 : decode cX5_lookFor 153 = .ok (.iload_n 1, 1) := by decide +kernel
theorem dX5_lookFor_154 : decode cX5_lookFor 154 = .ok (.aload_n 0, 1) := by decide +kernel
theorem dX5_lookFor_155 : decode cX5_lookFor 155 = .ok (.getfield 51, 3) := by decide +kernel
theorem dX5_lookFor_158 : decode cX5_lookFor 158 = .ok (.iconst 1, 1) := by decide +kernel
theorem dX5_lookFor_159 : decode cX5_lookFor 159 = .ok (.aload_n 0, 1) := by decide +kernel
theorem dX5_lookFor_160 : decode cX5_lookFor 160 = .ok (.getfield 11, 3) := by decide +kernel
theorem dX5_lookFor_163 : decode cX5_lookFor 163 = .ok (.aload_n 0, 1) := by decide +kernel
theorem dX5_lookFor_164 : decode cX5_lookFor 164 = .ok (.getfield 17, 3) := by decide +kernel
theorem dX5_lookFor_167 : decode cX5_lookFor 167 = .ok (.invokevirtual 96, 3) := by decide +kernel
theorem dX5_lookFor_170 : decode cX5_lookFor 170 = .ok (.invokevirtual 100, 3) := by decide +kernel
theorem dX5_lookFor_173 : decode cX5_lookFor 173 = .ok (.istore 5, 2) := by decide +kernel
theorem dX5_lookFor_175 : decode cX5_lookFor 175 = .ok (.aload_n 0, 1) := by decide +kernel
theorem dX5_lookFor_176 : decode cX5_lookFor 176 = .ok (.getfield 46, 3) := by decide +kernel
theorem dX5_lookFor_179 : decode cX5_lookFor 179 = .ok (.iload_n 1, 1) := by decide +kernel
theorem dX5_lookFor_180 : decode cX5_lookFor 180 = .ok (.iload 4, 2) := by decide +kernel
theorem dX5_lookFor_182 : decode cX5_lookFor 182 = .ok (.iload 5, 2) := by decide +kernel
theorem dX5_lookFor_184 : decode cX5_lookFor 184 = .ok (.invokevirtual 103, 3) := by decide +kernel
theorem dX5_lookFor_187 : decode cX5_lookFor 187 = .ok (.istore 6, 2) := by decide +kernel
theorem dX5_lookFor_189 : decode cX5_lookFor 189 = .ok (.iload 6, 2) := by decide +kernel
theorem dX5_lookFor_191 : decode cX5_lookFor 191 = .ok (.iconst (-1), 1) := by decide +kernel
theorem dX5_lookFor_192 : decode cX5_lookFor 192 = .ok (.if_icmp .ne 4, 3) := by decide +kernel
theorem dX5_lookFor_195 : decode cX5_lookFor 195 = .ok (.return_, 1) := by decide +kernel
theorem dX5_lookFor_196 : decode cX5_lookFor 196 = .ok (.iload 6, 2) := by decide +kernel
theorem dX5_lookFor_198 : decode cX5_lookFor 198 = .ok (.iload 4, 2) := by decide +kernel
theorem dX5_lookFor_200 : decode cX5_lookFor 200 = .ok (.isub, 1) := by decide +kernel
theorem dX5_lookFor_201 : decode cX5_lookFor 201 = .ok (.istore 7, 2) := by decide +kernel
theorem dX5_lookFor_203 : decode cX5_lookFor 203 = .ok (.iload 7, 2) := by decide +kernel
theorem dX5_lookFor_205 : decode cX5_lookFor 205 = .ok (.ifCond .le 31, 3) := by decide +kernel
theorem dX5_lookFor_208 : decode cX5_lookFor 208 = .ok (.aload_n 0, 1) := by decide +kernel
theorem dX5_lookFor_209 : decode cX5_lookFor 209 = .ok (.dup, 1) := by decide +kernel
theorem dX5_lookFor_210 : decode cX5_lookFor 210 = .ok (.getfield 33, 3) := by decide +kernel
theorem dX5_lookFor_213 : decode cX5_lookFor 213 = .ok (.iload 7, 2) := by decide +kernel
theorem dX5_lookFor_215 : decode cX5_lookFor 215 = .ok (.aload_n 0, 1) := by decide +kernel
theorem dX5_lookFor_216 : decode cX5_lookFor 216 = .ok (.getfield 51, 3) := by decide +kernel
theorem dX5_lookFor_219 : decode cX5_lookFor 219 = .ok (.iconst 2, 1) := by decide +kernel
theorem dX5_lookFor_220 : decode cX5_lookFor 220 = .ok (.aload_n 0, 1) := by decide +kernel
theorem dX5_lookFor_221 : decode cX5_lookFor 221 = .ok (.getfield 11, 3) := by decide +kernel
theorem dX5_lookFor_224 : decode cX5_lookFor 224 = .ok (.aload_n 0, 1) := by decide +kernel
theorem dX5_lookFor_225 : decode cX5_lookFor 225 = .ok (.getfield 17, 3) := by decide +kernel
theorem dX5_lookFor_228 : decode cX5_lookFor 228 = .ok (.invokevirtual 96, 3) := by decide +kernel
theorem dX5_lookFor_231 : decode cX5_lookFor 231 = .ok (.imul, 1) := by decide +kernel
theorem dX5_lookFor_232 : decode cX5_lookFor 232 = .ok (.isub, 1) := by decide +kernel
theorem dX5_lookFor_233 : decode cX5_lookFor 233 = .ok (.putfield 33, 3) := by decide +kernel
theorem dX5_lookFor_236 : decode cX5_lookFor 236 = .ok (.aload_n 0, 1) := by decide +kernel
theorem dX5_lookFor_237 : decode cX5_lookFor 237 = .ok (.dup, 1) := by decide +kernel
theorem dX5_lookFor_238 : decode cX5_lookFor 238 = .ok (.getfield 33, 3) := by decide +kernel
theorem dX5_lookFor_241 : decode cX5_lookFor 241 = .ok (.aload_n 0, 1) := by decide +kernel
theorem dX5_lookFor_242 : decode cX5_lookFor 242 = .ok (.getfield 46, 3) := by decide +kernel
theorem dX5_lookFor_245 : decode cX5_lookFor 245 = .ok (.iload_n 1, 1) := by decide +kernel
theorem dX5_lookFor_246 : decode cX5_lookFor 246 = .ok (.invokevirtual 107, 3) := by decide +kernel
theorem dX5_lookFor_249 : decode cX5_lookFor 249 = .ok (.iadd, 1) := by decide +kernel
theorem dX5_lookFor_250 : decode cX5_lookFor 250 = .ok (.putfield 33, 3) := by decide +kernel
theorem dX5_lookFor_253 : decode cX5_lookFor 253 = .ok (.aload_n 0, 1) := by decide +kernel
theorem dX5_lookFor_254 : decode cX5_lookFor 254 = .ok (.dup, 1) := by decide +kernel
theorem dX5_lookFor_255 : decode cX5_lookFor 255 = .ok (.getfield 39, 3) := by decide +kernel
theorem dX5_lookFor_258 : decode cX5_lookFor 258 = .ok (.iload 7, 2) := by decide +kernel
theorem dX5_lookFor_260 : decode cX5_lookFor 260 = .ok (.iadd, 1) := by decide +kernel
theorem dX5_lookFor_261 : decode cX5_lookFor 261 = .ok (.putfield 39, 3) := by decide +kernel
theorem dX5_lookFor_264 : decode cX5_lookFor 264 = .ok (.aload_n 0, 1) := by decide +kernel
theorem dX5_lookFor_265 : decode cX5_lookFor 265 = .ok (.dup, 1) := by decide +kernel
theorem dX5_lookFor_266 : decode cX5_lookFor 266 = .ok (.getfield 36, 3) := by decide +kernel
theorem dX5_lookFor_269 : decode cX5_lookFor 269 = .ok (.iconst 1, 1) := by decide +kernel
theorem dX5_lookFor_270 : decode cX5_lookFor 270 = .ok (.iload_n 1, 1) := by decide +kernel
theorem dX5_lookFor_271 : decode cX5_lookFor 271 = .ok (.ishl, 1) := by decide +kernel
theorem dX5_lookFor_272 : decode cX5_lookFor 272 = .ok (.ior, 1) := by decide +kernel
theorem dX5_lookFor_273 : decode cX5_lookFor 273 = .ok (.putfield 36, 3) := by decide +kernel
theorem dX5_lookFor_276 : decode cX5_lookFor 276 = .ok (.aload_n 0, 1) := by decide +kernel
theorem dX5_lookFor_277 : decode cX5_lookFor 277 = .ok (.getfield 23, 3) := by decide +kernel
theorem dX5_lookFor_280 : decode cX5_lookFor 280 = .ok (.iload_n 1, 1) := by decide +kernel
theorem dX5_lookFor_281 : decode cX5_lookFor 281 = .ok (.iload 7, 2) := by decide +kernel
theorem dX5_lookFor_283 : decode cX5_lookFor 283 = .ok (.iastore, 1) := by decide +kernel
theorem dX5_lookFor_284 : decode cX5_lookFor 284 = .ok (.aload_n 0, 1) := by decide +kernel
theorem dX5_lookFor_285 : decode cX5_lookFor 285 = .ok (.iload_n 3, 1) := by decide +kernel
theorem dX5_lookFor_286 : decode cX5_lookFor 286 = .ok (.putfield 26, 3) := by decide +kernel
theorem dX5_lookFor_289 : decode cX5_lookFor 289 = .ok (.aload_n 0, 1) := by decide +kernel
theorem dX5_lookFor_290 : decode cX5_lookFor 290 = .ok (.iload 6, 2) := by decide +kernel
theorem dX5_lookFor_292 : decode cX5_lookFor 292 = .ok (.iload 5, 2) := by decide +kernel
theorem dX5_lookFor_294 : decode cX5_lookFor 294 = .ok (.iadd, 1) := by decide +kernel
theorem dX5_lookFor_295 : decode cX5_lookFor 295 = .ok (.putfield 30, 3) := by decide +kernel
theorem dX5_lookFor_298 : decode cX5_lookFor 298 = .ok (.aload_n 0, 1) := by decide +kernel
theorem dX5_lookFor_299 : decode cX5_lookFor 299 = .ok (.getfield 20, 3) := by decide +kernel
theorem dX5_lookFor_302 : decode cX5_lookFor 302 = .ok (.iload_n 1, 1) := by decide +kernel
theorem dX5_lookFor_303 : decode cX5_lookFor 303 = .ok (.aload_n 0, 1) := by decide +kernel
theorem dX5_lookFor_304 : decode cX5_lookFor 304 = .ok (.getfield 30, 3) := by decide +kernel
theorem dX5_lookFor_307 : decode cX5_lookFor 307 = .ok (.iconst 1, 1) := by decide +kernel
theorem dX5_lookFor_308 : decode cX5_lookFor 308 = .ok (.isub, 1) := by decide +kernel
theorem dX5_lookFor_309 : decode cX5_lookFor 309 = .ok (.iastore, 1) := by decide +kernel
theorem dX5_lookFor_310 : decode cX5_lookFor 310 = .ok (.return_, 1) := by decide +kernel
theorem dX5_tickFound_0 : decode cX5_tickFound 0 = .ok (.iload_n 1, 1) := by decide +kernel
theorem dX5_tickFound_1 : decode cX5_tickFound 1 = .ok (.bipush 7, 2) := by decide +kernel
theorem dX5_tickFound_3 : decode cX5_tickFound 3 = .ok (.invokestatic 62, 3) := by decide +kernel
theorem dX5_tickFound_6 : decode cX5_tickFound 6 = .ok (.ifCond .eq 12, 3) := by decide +kernel
theorem dX5_tickFound_9 : decode cX5_tickFound 9 = .ok (.aload_n 0, 1) := by decide +kernel
theorem dX5_tickFound_10 : decode cX5_tickFound 10 = .ok (.getfield 20, 3) := by decide +kernel
theorem dX5_tickFound_13 : decode cX5_tickFound 13 = .ok (.iload_n 1, 1) := by decide +kernel
theorem dX5_tickFound_14 : decode cX5_tickFound 14 = .ok (.iaload, 1) := by decide +kernel
theorem dX5_tickFound_15 : decode cX5_tickFound 15 = .ok (.goto 4, 3) := by decide +kernel
theorem dX5_tickFound_18 : decode cX5_tickFound 18 = .ok (.iconst (-1), 1) := by decide +kernel
theorem dX5_tickFound_19 : decode cX5_tickFound 19 = .ok (.ireturn, 1) := by decide +kernel
theorem dX5_answer_0 : decode cX5_answer 0 = .ok (.iload_n 1, 1) := by decide +kernel
theorem dX5_answer_1 : decode cX5_answer 1 = .ok (.tableswitch 63 0 4 #[35, 40, 48, 53, 58], 35) := by decide +kernel
theorem dX5_answer_36 : decode cX5_answer 36 = .ok (.aload_n 0, 1) := by decide +kernel
theorem dX5_answer_37 : decode cX5_answer 37 = .ok (.getfield 33, 3) := by decide +kernel
theorem dX5_answer_40 : decode cX5_answer 40 = .ok (.ireturn, 1) := by decide +kernel
theorem dX5_answer_41 : decode cX5_answer 41 = .ok (.aload_n 0, 1) := by decide +kernel
theorem dX5_answer_42 : decode cX5_answer 42 = .ok (.getfield 36, 3) := by decide +kernel
theorem dX5_answer_45 : decode cX5_answer 45 = .ok (.invokestatic 110, 3) := by decide +kernel
theorem dX5_answer_48 : decode cX5_answer 48 = .ok (.ireturn, 1) := by decide +kernel
theorem dX5_answer_49 : decode cX5_answer 49 = .ok (.aload_n 0, 1) := by decide +kernel
theorem dX5_answer_50 : decode cX5_answer 50 = .ok (.getfield 36, 3) := by decide +kernel
theorem dX5_answer_53 : decode cX5_answer 53 = .ok (.ireturn, 1) := by decide +kernel
theorem dX5_answer_54 : decode cX5_answer 54 = .ok (.aload_n 0, 1) := by decide +kernel
theorem dX5_answer_55 : decode cX5_answer 55 = .ok (.getfield 30, 3) := by decide +kernel
theorem dX5_answer_58 : decode cX5_answer 58 = .ok (.ireturn, 1) := by decide +kernel
theorem dX5_answer_59 : decode cX5_answer 59 = .ok (.aload_n 0, 1) := by decide +kernel
theorem dX5_answer_60 : decode cX5_answer 60 = .ok (.getfield 39, 3) := by decide +kernel
theorem dX5_answer_63 : decode cX5_answer 63 = .ok (.ireturn, 1) := by decide +kernel
theorem dX5_answer_64 : decode cX5_answer 64 = .ok (.iload_n 1, 1) := by decide +kernel
theorem dX5_answer_65 : decode cX5_answer 65 = .ok (.bipush 10, 2) := by decide +kernel
theorem dX5_answer_67 : decode cX5_answer 67 = .ok (.irem, 1) := by decide +kernel
theorem dX5_answer_68 : decode cX5_answer 68 = .ok (.istore_n 2, 1) := by decide +kernel
theorem dX5_answer_69 : decode cX5_answer 69 = .ok (.iload_n 2, 1) := by decide +kernel
theorem dX5_answer_70 : decode cX5_answer 70 = .ok (.bipush 7, 2) := by decide +kernel
theorem dX5_answer_72 : decode cX5_answer 72 = .ok (.invokestatic 62, 3) := by decide +kernel
theorem dX5_answer_75 : decode cX5_answer 75 = .ok (.ifCond .ne 6, 3) := by decide +kernel
theorem dX5_answer_78 : decode cX5_answer 78 = .ok (.ldc 115, 2) := by decide +kernel
theorem dX5_answer_80 : decode cX5_answer 80 = .ok (.ireturn, 1) := by decide +kernel
theorem dX5_answer_81 : decode cX5_answer 81 = .ok (.iload_n 1, 1) := by decide +kernel
theorem dX5_answer_82 : decode cX5_answer 82 = .ok (.bipush 20, 2) := by decide +kernel
theorem dX5_answer_84 : decode cX5_answer 84 = .ok (.if_icmp .ge 12, 3) := by decide +kernel
theorem dX5_answer_87 : decode cX5_answer 87 = .ok (.aload_n 0, 1) := by decide +kernel
theorem dX5_answer_88 : decode cX5_answer 88 = .ok (.getfield 20, 3) := by decide +kernel
theorem dX5_answer_91 : decode cX5_answer 91 = .ok (.iload_n 2, 1) := by decide +kernel
theorem dX5_answer_92 : decode cX5_answer 92 = .ok (.iaload, 1) := by decide +kernel
theorem dX5_answer_93 : decode cX5_answer 93 = .ok (.goto 9, 3) := by decide +kernel
theorem dX5_answer_96 : decode cX5_answer 96 = .ok (.aload_n 0, 1) := by decide +kernel
theorem dX5_answer_97 : decode cX5_answer 97 = .ok (.getfield 23, 3) := by decide +kernel
theorem dX5_answer_100 : decode cX5_answer 100 = .ok (.iload_n 2, 1) := by decide +kernel
theorem dX5_answer_101 : decode cX5_answer 101 = .ok (.iaload, 1) := by decide +kernel
theorem dX5_answer_102 : decode cX5_answer 102 = .ok (.ireturn, 1) := by decide +kernel
end
section
theorem dX6_init_0 : decode cX6_init 0 = .ok (.aload_n 0, 1) := by decide +kernel
theorem dX6_init_1 : decode cX6_init 1 = .ok (.invokespecial 1, 3) := by decide +kernel
theorem dX6_init_4 : decode cX6_init 4 = .ok (.aload_n 0, 1) := by decide +kernel
theorem dX6_init_5 : decode cX6_init 5 = .ok (.new 7, 3) := by decide +kernel
theorem dX6_init_8 : decode cX6_init 8 = .ok (.dup, 1) := by decide +kernel
theorem dX6_init_9 : decode cX6_init 9 = .ok (.invokespecial 9, 3) := by decide +kernel
theorem dX6_init_12 : decode cX6_init 12 = .ok (.putfield 10, 3) := by decide +kernel
theorem dX6_init_15 : decode cX6_init 15 = .ok (.aload_n 0, 1) := by decide +kernel
theorem dX6_init_16 : decode cX6_init 16 = .ok (.new 7, 3) := by decide +kernel
theorem dX6_init_19 : decode cX6_init 19 = .ok (.dup, 1) := by decide +kernel
theorem dX6_init_20 : decode cX6_init 20 = .ok (.invokespecial 9, 3) := by decide +kernel
theorem dX6_init_23 : decode cX6_init 23 = .ok (.putfield 16, 3) := by decide +kernel
theorem dX6_init_26 : decode cX6_init 26 = .ok (.aload_n 0, 1) := by decide +kernel
theorem dX6_init_27 : decode cX6_init 27 = .ok (.new 7, 3) := by decide +kernel
theorem dX6_init_30 : decode cX6_init 30 = .ok (.dup, 1) := by decide +kernel
theorem dX6_init_31 : decode cX6_init 31 = .ok (.invokespecial 9, 3) := by decide +kernel
theorem dX6_init_34 : decode cX6_init 34 = .ok (.putfield 19, 3) := by decide +kernel
theorem dX6_init_37 : decode cX6_init 37 = .ok (.aload_n 0, 1) := by decide +kernel
theorem dX6_init_38 : decode cX6_init 38 = .ok (.iconst 0, 1) := by decide +kernel
theorem dX6_init_39 : decode cX6_init 39 = .ok (.putfield 22, 3) := by decide +kernel
theorem dX6_init_42 : decode cX6_init 42 = .ok (.aload_n 0, 1) := by decide +kernel
theorem dX6_init_43 : decode cX6_init 43 = .ok (.new 26, 3) := by decide +kernel
theorem dX6_init_46 : decode cX6_init 46 = .ok (.dup, 1) := by decide +kernel
theorem dX6_init_47 : decode cX6_init 47 = .ok (.invokespecial 28, 3) := by decide +kernel
theorem dX6_init_50 : decode cX6_init 50 = .ok (.putfield 29, 3) := by decide +kernel
theorem dX6_init_53 : decode cX6_init 53 = .ok (.aload_n 0, 1) := by decide +kernel
theorem dX6_init_54 : decode cX6_init 54 = .ok (.bipush 6, 2) := by decide +kernel
theorem dX6_init_56 : decode cX6_init 56 = .ok (.anewarray 33, 3) := by decide +kernel
theorem dX6_init_59 : decode cX6_init 59 = .ok (.putfield 35, 3) := by decide +kernel
theorem dX6_init_62 : decode cX6_init 62 = .ok (.aload_n 0, 1) := by decide +kernel
theorem dX6_init_63 : decode cX6_init 63 = .ok (.iconst 1, 1) := by decide +kernel
theorem dX6_init_64 : decode cX6_init 64 = .ok (.putfield 39, 3) := by decide +kernel
theorem dX6_init_67 : decode cX6_init 67 = .ok (.aload_n 0, 1) := by decide +kernel
theorem dX6_init_68 : decode cX6_init 68 = .ok (.iconst 4, 1) := by decide +kernel
theorem dX6_init_69 : decode cX6_init 69 = .ok (.anewarray 43, 3) := by decide +kernel
theorem dX6_init_72 : decode cX6_init 72 = .ok (.putfield 45, 3) := by decide +kernel
theorem dX6_init_75 : decode cX6_init 75 = .ok (.iconst 0, 1) := by decide +kernel
theorem dX6_init_76 : decode cX6_init 76 = .ok (.istore_n 1, 1) := by decide +kernel
theorem dX6_init_77 : decode cX6_init 77 = .ok (.iload_n 1, 1) := by decide +kernel
theorem dX6_init_78 : decode cX6_init 78 = .ok (.aload_n 0, 1) := by decide +kernel
theorem dX6_init_79 : decode cX6_init 79 = .ok (.getfield 35, 3) := by decide +kernel
theorem dX6_init_82 : decode cX6_init 82 = .ok (.arraylength, 1) := by decide +kernel
theorem dX6_init_83 : decode cX6_init 83 = .ok (.if_icmp .ge 22, 3) := by decide +kernel
theorem dX6_init_86 : decode cX6_init 86 = .ok (.aload_n 0, 1) := by decide +kernel
theorem dX6_init_87 : decode cX6_init 87 = .ok (.getfield 35, 3) := by decide +kernel
theorem dX6_init_90 : decode cX6_init 90 = .ok (.iload_n 1, 1) := by decide +kernel
theorem dX6_init_91 : decode cX6_init 91 = .ok (.new 33, 3) := by decide +kernel
theorem dX6_init_94 : decode cX6_init 94 = .ok (.dup, 1) := by decide +kernel
theorem dX6_init_95 : decode cX6_init 95 = .ok (.invokespecial 49, 3) := by decide +kernel
theorem dX6_init_98 : decode cX6_init 98 = .ok (.aastore, 1) := by decide +kernel
theorem dX6_init_99 : decode cX6_init 99 = .ok (.iinc 1 1, 3) := by decide +kernel
theorem dX6_init_102 : decode cX6_init 102 = .ok (.goto (-25), 3) := by decide +kernel
theorem dX6_init_105 : decode cX6_init 105 = .ok (.iconst 0, 1) := by decide +kernel
theorem dX6_init_106 : decode cX6_init 106 = .ok (.istore_n 1, 1) := by decide +kernel
theorem dX6_init_107 : decode cX6_init 107 = .ok (.iload_n 1, 1) := by decide +kernel
theorem dX6_init_108 : decode cX6_init 108 = .ok (.aload_n 0, 1) := by decide +kernel
theorem dX6_init_109 : decode cX6_init 109 = .ok (.getfield 45, 3) := by decide +kernel
theorem dX6_init_112 : decode cX6_init 112 = .ok (.arraylength, 1) := by decide +kernel
theorem dX6_init_113 : decode cX6_init 113 = .ok (.if_icmp .ge 22, 3) := by decide +kernel
theorem dX6_init_116 : decode cX6_init 116 = .ok (.aload_n 0, 1) := by decide +kernel
theorem dX6_init_117 : decode cX6_init 117 = .ok (.getfield 45, 3) := by decide +kernel
theorem dX6_init_120 : decode cX6_init 120 = .ok (.iload_n 1, 1) := by decide +kernel
theorem dX6_init_121 : decode cX6_init 121 = .ok (.new 43, 3) := by decide +kernel
theorem dX6_init_124 : decode cX6_init 124 = .ok (.dup, 1) := by decide +kernel
theorem dX6_init_125 : decode cX6_init 125 = .ok (.invokespecial 50, 3) := by decide +kernel
theorem dX6_init_128 : decode cX6_init 128 = .ok (.aastore, 1) := by decide +kernel
theorem dX6_init_129 : decode cX6_init 129 = .ok (.iinc 1 1, 3) := by decide +kernel
theorem dX6_init_132 : decode cX6_init 132 = .ok (.goto (-25), 3) := by decide +kernel
theorem dX6_init_135 : decode cX6_init 135 = .ok (.aload_n 0, 1) := by decide +kernel
theorem dX6_init_136 : decode cX6_init 136 = .ok (.new 51, 3) := by decide +kernel
theorem dX6_init_139 : decode cX6_init 139 = .ok (.dup, 1) := by decide +kernel
theorem dX6_init_140 : decode cX6_init 140 = .ok (.aload_n 0, 1) := by decide +kernel
theorem dX6_init_141 : decode cX6_init 141 = .ok (.getfield 10, 3) := by decide +kernel
theorem dX6_init_144 : decode cX6_init 144 = .ok (.aload_n 0, 1) := by decide +kernel
theorem dX6_init_145 : decode cX6_init 145 = .ok (.getfield 35, 3) := by decide +kernel
theorem dX6_init_148 : decode cX6_init 148 = .ok (.invokespecial 53, 3) := by decide +kernel
theorem dX6_init_151 : decode cX6_init 151 = .ok (.putfield 56, 3) := by decide +kernel
theorem dX6_init_154 : decode cX6_init 154 = .ok (.iconst 0, 1) := by decide +kernel
theorem dX6_init_155 : decode cX6_init 155 = .ok (.istore_n 1, 1) := by decide +kernel
theorem dX6_init_156 : decode cX6_init 156 = .ok (.iload_n 1, 1) := by decide +kernel
theorem dX6_init_157 : decode cX6_init 157 = .ok (.ldc 60, 2) := by decide +kernel
theorem dX6_init_159 : decode cX6_init 159 = .ok (.invokevirtual 62, 3) := by decide +kernel
theorem dX6_init_162 : decode cX6_init 162 = .ok (.if_icmp .ge 23, 3) := by decide +kernel
theorem dX6_init_165 : decode cX6_init 165 = .ok (.aload_n 0, 1) := by decide +kernel
theorem dX6_init_166 : decode cX6_init 166 = .ok (.getfield 29, 3) := by decide +kernel
theorem dX6_init_169 : decode cX6_init 169 = .ok (.ldc 60, 2) := by decide +kernel
theorem dX6_init_171 : decode cX6_init 171 = .ok (.iload_n 1, 1) := by decide +kernel
theorem dX6_init_172 : decode cX6_init 172 = .ok (.invokevirtual 68, 3) := by decide +kernel
theorem dX6_init_175 : decode cX6_init 175 = .ok (.invokevirtual 72, 3) := by decide +kernel
theorem dX6_init_178 : decode cX6_init 178 = .ok (.pop, 1) := by decide +kernel
theorem dX6_init_179 : decode cX6_init 179 = .ok (.iinc 1 1, 3) := by decide +kernel
theorem dX6_init_182 : decode cX6_init 182 = .ok (.goto (-26), 3) := by decide +kernel
theorem dX6_init_185 : decode cX6_init 185 = .ok (.aload_n 0, 1) := by decide +kernel
theorem dX6_init_186 : decode cX6_init 186 = .ok (.getfield 29, 3) := by decide +kernel
theorem dX6_init_189 : decode cX6_init 189 = .ok (.aload_n 0, 1) := by decide +kernel
theorem dX6_init_190 : decode cX6_init 190 = .ok (.getfield 35, 3) := by decide +kernel
theorem dX6_init_193 : decode cX6_init 193 = .ok (.iconst 0, 1) := by decide +kernel
theorem dX6_init_194 : decode cX6_init 194 = .ok (.aaload, 1) := by decide +kernel
theorem dX6_init_195 : decode cX6_init 195 = .ok (.invokevirtual 76, 3) := by decide +kernel
theorem dX6_init_198 : decode cX6_init 198 = .ok (.pop, 1) := by decide +kernel
theorem dX6_init_199 : decode cX6_init 199 = .ok (.return_, 1) := by decide +kernel
theorem dX6_set_0 : decode cX6_set 0 = .ok (.aload_n 0, 1) := by decide +kernel
theorem dX6_set_1 : decode cX6_set 1 = .ok (.getfield 10, 3) := by decide +kernel
theorem dX6_set_4 : decode cX6_set 4 = .ok (.iload_n 1, 1) := by decide +kernel
theorem dX6_set_5 : decode cX6_set 5 = .ok (.iload_n 2, 1) := by decide +kernel
theorem dX6_set_6 : decode cX6_set 6 = .ok (.iload_n 3, 1) := by decide +kernel
theorem dX6_set_7 : decode cX6_set 7 = .ok (.invokevirtual 80, 3) := by decide +kernel
theorem dX6_set_10 : decode cX6_set 10 = .ok (.ifCond .eq 16, 3) := by decide +kernel
theorem dX6_set_13 : decode cX6_set 13 = .ok (.aload_n 0, 1) := by decide +kernel
theorem dX6_set_14 : decode cX6_set 14 = .ok (.getfield 10, 3) := by decide +kernel
theorem dX6_set_17 : decode cX6_set 17 = .ok (.iload_n 1, 1) := by decide +kernel
theorem dX6_set_18 : decode cX6_set 18 = .ok (.iload_n 2, 1) := by decide +kernel
theorem dX6_set_19 : decode cX6_set 19 = .ok (.iload_n 3, 1) := by decide +kernel
theorem dX6_set_20 : decode cX6_set 20 = .ok (.invokevirtual 84, 3) := by decide +kernel
theorem dX6_set_23 : decode cX6_set 23 = .ok (.goto 5, 3) := by decide +kernel
theorem dX6_set_26 : decode cX6_set 26 = .ok (.bipush (-2), 2) := by decide +kernel
theorem dX6_set_28 : decode cX6_set 28 = .ok (.ireturn, 1) := by decide +kernel
theorem dX6_sight_0 : decode cX6_sight 0 = .ok (.iload_n 1, 1) := by decide +kernel
theorem dX6_sight_1 : decode cX6_sight 1 = .ok (.bipush 6, 2) := by decide +kernel
theorem dX6_sight_3 : decode cX6_sight 3 = .ok (.invokestatic 88, 3) := by decide +kernel
theorem dX6_sight_6 : decode cX6_sight 6 = .ok (.ifCond .eq 21, 3) := by decide +kernel
theorem dX6_sight_9 : decode cX6_sight 9 = .ok (.iload_n 2, 1) := by decide +kernel
theorem dX6_sight_10 : decode cX6_sight 10 = .ok (.bipush 10, 2) := by decide +kernel
theorem dX6_sight_12 : decode cX6_sight 12 = .ok (.invokestatic 88, 3) := by decide +kernel
theorem dX6_sight_15 : decode cX6_sight 15 = .ok (.ifCond .eq 12, 3) := by decide +kernel
theorem dX6_sight_18 : decode cX6_sight 18 = .ok (.iload_n 3, 1) := by decide +kernel
theorem dX6_sight_19 : decode cX6_sight 19 = .ok (.bipush 100, 2) := by decide +kernel
theorem dX6_sight_21 : decode cX6_sight 21 = .ok (.invokestatic 88, 3) := by decide +kernel
theorem dX6_sight_24 : decode cX6_sight 24 = .ok (.ifCond .ne 6, 3) := by decide +kernel
theorem dX6_sight_27 : decode cX6_sight 27 = .ok (.bipush (-2), 2) := by decide +kernel
theorem dX6_sight_29 : decode cX6_sight 29 = .ok (.ireturn, 1) := by decide +kernel
theorem dX6_sight_30 : decode cX6_sight 30 = .ok (.aload_n 0, 1) := by decide +kernel
theorem dX6_sight_31 : decode cX6_sight 31 = .ok (.getfield 10, 3) := by decide +kernel
theorem dX6_sight_34 : decode cX6_sight 34 = .ok (.iload_n 1, 1) := by decide +kernel
theorem dX6_sight_35 : decode cX6_sight 35 = .ok (.iload_n 2, 1) := by decide +kernel
theorem dX6_sight_36 : decode cX6_sight 36 = .ok (.iload_n 3, 1) := by decide +kernel
theorem dX6_sight_37 : decode cX6_sight 37 = .ok (.invokevirtual 92, 3) := by decide +kernel
theorem dX6_sight_40 : decode cX6_sight 40 = .ok (.ireturn, 1) := by decide +kernel
theorem dX6_told_0 : decode cX6_told 0 = .ok (.iload_n 2, 1) := by decide +kernel
theorem dX6_told_1 : decode cX6_told 1 = .ok (.bipush 15, 2) := by decide +kernel
theorem dX6_told_3 : decode cX6_told 3 = .ok (.invokestatic 88, 3) := by decide +kernel
theorem dX6_told_6 : decode cX6_told 6 = .ok (.ifCond .eq 23, 3) := by decide +kernel
theorem dX6_told_9 : decode cX6_told 9 = .ok (.iload_n 2, 1) := by decide +kernel
theorem dX6_told_10 : decode cX6_told 10 = .ok (.bipush 8, 2) := by decide +kernel
theorem dX6_told_12 : decode cX6_told 12 = .ok (.if_icmp .lt 20, 3) := by decide +kernel
theorem dX6_told_15 : decode cX6_told 15 = .ok (.iload_n 1, 1) := by decide +kernel
theorem dX6_told_16 : decode cX6_told 16 = .ok (.aload_n 0, 1) := by decide +kernel
theorem dX6_told_17 : decode cX6_told 17 = .ok (.getfield 10, 3) := by decide +kernel
theorem dX6_told_20 : decode cX6_told 20 = .ok (.getfield 95, 3) := by decide +kernel
theorem dX6_told_23 : decode cX6_told 23 = .ok (.invokestatic 88, 3) := by decide +kernel
theorem dX6_told_26 : decode cX6_told 26 = .ok (.ifCond .ne 6, 3) := by decide +kernel
theorem dX6_told_29 : decode cX6_told 29 = .ok (.bipush (-2), 2) := by decide +kernel
theorem dX6_told_31 : decode cX6_told 31 = .ok (.ireturn, 1) := by decide +kernel
theorem dX6_told_32 : decode cX6_told 32 = .ok (.iload_n 2, 1) := by decide +kernel
theorem dX6_told_33 : decode cX6_told 33 = .ok (.bipush 14, 2) := by decide +kernel
theorem dX6_told_35 : decode cX6_told 35 = .ok (.if_icmp .ne 14, 3) := by decide +kernel
theorem dX6_told_38 : decode cX6_told 38 = .ok (.aload_n 0, 1) := by decide +kernel
theorem dX6_told_39 : decode cX6_told 39 = .ok (.getfield 10, 3) := by decide +kernel
theorem dX6_told_42 : decode cX6_told 42 = .ok (.iload_n 1, 1) := by decide +kernel
theorem dX6_told_43 : decode cX6_told 43 = .ok (.invokevirtual 98, 3) := by decide +kernel
theorem dX6_told_46 : decode cX6_told 46 = .ok (.goto 12, 3) := by decide +kernel
theorem dX6_told_49 : decode cX6_told 49 = .ok (.aload_n 0, 1) := by decide +kernel
theorem dX6_told_50 : decode cX6_told 50 = .ok (.getfield 10, 3) := by decide +kernel
theorem dX6_told_53 : decode cX6_told 53 = .ok (.iload_n 2, 1) := by decide +kernel
theorem dX6_told_54 : decode cX6_told 54 = .ok (.iload_n 1, 1) := by decide +kernel
theorem dX6_told_55 : decode cX6_told 55 = .ok (.invokevirtual 101, 3) := by decide +kernel
theorem dX6_told_58 : decode cX6_told 58 = .ok (.ireturn, 1) := by decide +kernel
theorem dX6_shines_0 : decode cX6_shines 0 = .ok (.iload_n 1, 1) := by decide +kernel
theorem dX6_shines_1 : decode cX6_shines 1 = .ok (.aload_n 0, 1) := by decide +kernel
theorem dX6_shines_2 : decode cX6_shines 2 = .ok (.getfield 10, 3) := by decide +kernel
theorem dX6_shines_5 : decode cX6_shines 5 = .ok (.getfield 95, 3) := by decide +kernel
theorem dX6_shines_8 : decode cX6_shines 8 = .ok (.invokestatic 88, 3) := by decide +kernel
theorem dX6_shines_11 : decode cX6_shines 11 = .ok (.ifCond .eq 21, 3) := by decide +kernel
theorem dX6_shines_14 : decode cX6_shines 14 = .ok (.iload_n 2, 1) := by decide +kernel
theorem dX6_shines_15 : decode cX6_shines 15 = .ok (.sipush 200, 3) := by decide +kernel
theorem dX6_shines_18 : decode cX6_shines 18 = .ok (.invokestatic 88, 3) := by decide +kernel
theorem dX6_shines_21 : decode cX6_shines 21 = .ok (.ifCond .eq 11, 3) := by decide +kernel
theorem dX6_shines_24 : decode cX6_shines 24 = .ok (.iload_n 3, 1) := by decide +kernel
theorem dX6_shines_25 : decode cX6_shines 25 = .ok (.iconst 2, 1) := by decide +kernel
theorem dX6_shines_26 : decode cX6_shines 26 = .ok (.invokestatic 88, 3) := by decide +kernel
theorem dX6_shines_29 : decode cX6_shines 29 = .ok (.ifCond .ne 6, 3) := by decide +kernel
theorem dX6_shines_32 : decode cX6_shines 32 = .ok (.bipush (-2), 2) := by decide +kernel
theorem dX6_shines_34 : decode cX6_shines 34 = .ok (.ireturn, 1) := by decide +kernel
theorem dX6_shines_35 : decode cX6_shines 35 = .ok (.iload_n 3, 1) := by decide +kernel
theorem dX6_shines_36 : decode cX6_shines 36 = .ok (.ifCond .ne 15, 3) := by decide +kernel
theorem dX6_shines_39 : decode cX6_shines 39 = .ok (.aload_n 0, 1) := by decide +kernel
theorem dX6_shines_40 : decode cX6_shines 40 = .ok (.getfield 10, 3) := by decide +kernel
theorem dX6_shines_43 : decode cX6_shines 43 = .ok (.iload_n 1, 1) := by decide +kernel
theorem dX6_shines_44 : decode cX6_shines 44 = .ok (.iload_n 2, 1) := by decide +kernel
theorem dX6_shines_45 : decode cX6_shines 45 = .ok (.invokevirtual 105, 3) := by decide +kernel
theorem dX6_shines_48 : decode cX6_shines 48 = .ok (.goto 12, 3) := by decide +kernel
theorem dX6_shines_51 : decode cX6_shines 51 = .ok (.aload_n 0, 1) := by decide +kernel
theorem dX6_shines_52 : decode cX6_shines 52 = .ok (.getfield 10, 3) := by decide +kernel
theorem dX6_shines_55 : decode cX6_shines 55 = .ok (.iload_n 1, 1) := by decide +kernel
theorem dX6_shines_56 : decode cX6_shines 56 = .ok (.iload_n 2, 1) := by decide +kernel
theorem dX6_shines_57 : decode cX6_shines 57 = .ok (.invokevirtual 108, 3) := by decide +kernel
theorem dX6_shines_60 : decode cX6_shines 60 = .ok (.istore 4, 2) := by decide +kernel
theorem dX6_shines_62 : decode cX6_shines 62 = .ok (.iload 4, 2) := by decide +kernel
theorem dX6_shines_64 : decode cX6_shines 64 = .ok (.ifCond .eq 7, 3) := by decide +kernel
theorem dX6_shines_67 : decode cX6_shines 67 = .ok (.iconst 1, 1) := by decide +kernel
theorem dX6_shines_68 : decode cX6_shines 68 = .ok (.goto 4, 3) := by decide +kernel
theorem dX6_shines_71 : decode cX6_shines 71 = .ok (.iconst 0, 1) := by decide +kernel
theorem dX6_shines_72 : decode cX6_shines 72 = .ok (.ireturn, 1) := by decide +kernel
theorem dX6_feed_0 : decode cX6_feed 0 = .ok (.iload_n 1, 1) := by decide +kernel
theorem dX6_feed_1 : decode cX6_feed 1 = .ok (.sipush 256, 3) := by decide +kernel
theorem dX6_feed_4 : decode cX6_feed 4 = .ok (.invokestatic 88, 3) := by decide +kernel
theorem dX6_feed_7 : decode cX6_feed 7 = .ok (.ifCond .ne 6, 3) := by decide +kernel
theorem dX6_feed_10 : decode cX6_feed 10 = .ok (.bipush (-2), 2) := by decide +kernel
theorem dX6_feed_12 : decode cX6_feed 12 = .ok (.ireturn, 1) := by decide +kernel
theorem dX6_feed_13 : decode cX6_feed 13 = .ok (.aload_n 0, 1) := by decide +kernel
theorem dX6_feed_14 : decode cX6_feed 14 = .ok (.getfield 29, 3) := by decide +kernel
theorem dX6_feed_17 : decode cX6_feed 17 = .ok (.iload_n 1, 1) := by decide +kernel
theorem dX6_feed_18 : decode cX6_feed 18 = .ok (.invokevirtual 72, 3) := by decide +kernel
theorem dX6_feed_21 : decode cX6_feed 21 = .ok (.ireturn, 1) := by decide +kernel
theorem dX6_text_0 : decode cX6_text 0 = .ok (.aload_n 0, 1) := by decide +kernel
theorem dX6_text_1 : decode cX6_text 1 = .ok (.getfield 39, 3) := by decide +kernel
theorem dX6_text_4 : decode cX6_text 4 = .ok (.bipush 6, 2) := by decide +kernel
theorem dX6_text_6 : decode cX6_text 6 = .ok (.if_icmp .lt 6, 3) := by decide +kernel
theorem dX6_text_9 : decode cX6_text 9 = .ok (.bipush (-4), 2) := by decide +kernel
theorem dX6_text_11 : decode cX6_text 11 = .ok (.ireturn, 1) := by decide +kernel
theorem dX6_text_12 : decode cX6_text 12 = .ok (.aload_n 0, 1) := by decide +kernel
theorem dX6_text_13 : decode cX6_text 13 = .ok (.getfield 29, 3) := by decide +kernel
theorem dX6_text_16 : decode cX6_text 16 = .ok (.aload_n 0, 1) := by decide +kernel
theorem dX6_text_17 : decode cX6_text 17 = .ok (.getfield 35, 3) := by decide +kernel
theorem dX6_text_20 : decode cX6_text 20 = .ok (.aload_n 0, 1) := by decide +kernel
theorem dX6_text_21 : decode cX6_text 21 = .ok (.getfield 39, 3) := by decide +kernel
theorem dX6_text_24 : decode cX6_text 24 = .ok (.aaload, 1) := by decide +kernel
theorem dX6_text_25 : decode cX6_text 25 = .ok (.invokevirtual 76, 3) := by decide +kernel
theorem dX6_text_28 : decode cX6_text 28 = .ok (.istore_n 1, 1) := by decide +kernel
theorem dX6_text_29 : decode cX6_text 29 = .ok (.iload_n 1, 1) := by decide +kernel
theorem dX6_text_30 : decode cX6_text 30 = .ok (.iconst (-1), 1) := by decide +kernel
theorem dX6_text_31 : decode cX6_text 31 = .ok (.if_icmp .eq 8, 3) := by decide +kernel
theorem dX6_text_34 : decode cX6_text 34 = .ok (.bipush (-100), 2) := by decide +kernel
theorem dX6_text_36 : decode cX6_text 36 = .ok (.iload_n 1, 1) := by decide +kernel
theorem dX6_text_37 : decode cX6_text 37 = .ok (.isub, 1) := by decide +kernel
theorem dX6_text_38 : decode cX6_text 38 = .ok (.ireturn, 1) := by decide +kernel
theorem dX6_text_39 : decode cX6_text 39 = .ok (.aload_n 0, 1) := by decide +kernel
theorem dX6_text_40 : decode cX6_text 40 = .ok (.dup, 1) := by decide +kernel
theorem dX6_text_41 : decode cX6_text 41 = .ok (.getfield 39, 3) := by decide +kernel
theorem dX6_text_44 : decode cX6_text 44 = .ok (.iconst 1, 1) := by decide +kernel
theorem dX6_text_45 : decode cX6_text 45 = .ok (.iadd, 1) := by decide +kernel
theorem dX6_text_46 : decode cX6_text 46 = .ok (.putfield 39, 3) := by decide +kernel
theorem dX6_text_49 : decode cX6_text 49 = .ok (.aload_n 0, 1) := by decide +kernel
theorem dX6_text_50 : decode cX6_text 50 = .ok (.getfield 39, 3) := by decide +kernel
theorem dX6_text_53 : decode cX6_text 53 = .ok (.iconst 1, 1) := by decide +kernel
theorem dX6_text_54 : decode cX6_text 54 = .ok (.isub, 1) := by decide +kernel
theorem dX6_text_55 : decode cX6_text 55 = .ok (.ireturn, 1) := by decide +kernel
theorem dX6_force_0 : decode cX6_force 0 = .ok (.iload_n 1, 1) := by decide +kernel
theorem dX6_force_1 : decode cX6_force 1 = .ok (.aload_n 0, 1) := by decide +kernel
theorem dX6_force_2 : decode cX6_force 2 = .ok (.getfield 39, 3) := by decide +kernel
theorem dX6_force_5 : decode cX6_force 5 = .ok (.invokestatic 88, 3) := by decide +kernel
theorem dX6_force_8 : decode cX6_force 8 = .ok (.ifCond .ne 6, 3) := by decide +kernel
theorem dX6_force_11 : decode cX6_force 11 = .ok (.bipush (-2), 2) := by decide +kernel
theorem dX6_force_13 : decode cX6_force 13 = .ok (.ireturn, 1) := by decide +kernel
theorem dX6_force_14 : decode cX6_force 14 = .ok (.aload_n 0, 1) := by decide +kernel
theorem dX6_force_15 : decode cX6_force 15 = .ok (.getfield 10, 3) := by decide +kernel
theorem dX6_force_18 : decode cX6_force 18 = .ok (.getfield 111, 3) := by decide +kernel
theorem dX6_force_21 : decode cX6_force 21 = .ok (.istore_n 2, 1) := by decide +kernel
theorem dX6_force_22 : decode cX6_force 22 = .ok (.aload_n 0, 1) := by decide +kernel
theorem dX6_force_23 : decode cX6_force 23 = .ok (.getfield 10, 3) := by decide +kernel
theorem dX6_force_26 : decode cX6_force 26 = .ok (.iload_n 1, 1) := by decide +kernel
theorem dX6_force_27 : decode cX6_force 27 = .ok (.putfield 111, 3) := by decide +kernel
theorem dX6_force_30 : decode cX6_force 30 = .ok (.iload_n 2, 1) := by decide +kernel
theorem dX6_force_31 : decode cX6_force 31 = .ok (.ireturn, 1) := by decide +kernel
theorem dX6_night_0 : decode cX6_night 0 = .ok (.aload_n 0, 1) := by decide +kernel
theorem dX6_night_1 : decode cX6_night 1 = .ok (.iload_n 1, 1) := by decide +kernel
theorem dX6_night_2 : decode cX6_night 2 = .ok (.invokevirtual 114, 3) := by decide +kernel
theorem dX6_night_5 : decode cX6_night 5 = .ok (.ifCond .ne 6, 3) := by decide +kernel
theorem dX6_night_8 : decode cX6_night 8 = .ok (.ldc 118, 2) := by decide +kernel
theorem dX6_night_10 : decode cX6_night 10 = .ok (.ireturn, 1) := by decide +kernel
theorem dX6_night_11 : decode cX6_night 11 = .ok (.aload_n 0, 1) := by decide +kernel
theorem dX6_night_12 : decode cX6_night 12 = .ok (.getfield 56, 3) := by decide +kernel
theorem dX6_night_15 : decode cX6_night 15 = .ok (.aload_n 0, 1) := by decide +kernel
theorem dX6_night_16 : decode cX6_night 16 = .ok (.getfield 10, 3) := by decide +kernel
theorem dX6_night_19 : decode cX6_night 19 = .ok (.aload_n 0, 1) := by decide +kernel
theorem dX6_night_20 : decode cX6_night 20 = .ok (.getfield 10, 3) := by decide +kernel
theorem dX6_night_23 : decode cX6_night 23 = .ok (.invokevirtual 119, 3) := by decide +kernel
theorem dX6_night_26 : decode cX6_night 26 = .ok (.invokevirtual 122, 3) := by decide +kernel
theorem dX6_night_29 : decode cX6_night 29 = .ok (.pop, 1) := by decide +kernel
theorem dX6_night_30 : decode cX6_night 30 = .ok (.aload_n 0, 1) := by decide +kernel
theorem dX6_night_31 : decode cX6_night 31 = .ok (.getfield 56, 3) := by decide +kernel
theorem dX6_night_34 : decode cX6_night 34 = .ok (.iload_n 1, 1) := by decide +kernel
theorem dX6_night_35 : decode cX6_night 35 = .ok (.invokevirtual 126, 3) := by decide +kernel
theorem dX6_night_38 : decode cX6_night 38 = .ok (.ireturn, 1) := by decide +kernel
theorem dX6_order_0 : decode cX6_order 0 = .ok (.iload_n 1, 1) := by decide +kernel
theorem dX6_order_1 : decode cX6_order 1 = .ok (.iconst 4, 1) := by decide +kernel
theorem dX6_order_2 : decode cX6_order 2 = .ok (.invokestatic 88, 3) := by decide +kernel
theorem dX6_order_5 : decode cX6_order 5 = .ok (.ifCond .eq 11, 3) := by decide +kernel
theorem dX6_order_8 : decode cX6_order 8 = .ok (.aload_n 0, 1) := by decide +kernel
theorem dX6_order_9 : decode cX6_order 9 = .ok (.iload_n 2, 1) := by decide +kernel
theorem dX6_order_10 : decode cX6_order 10 = .ok (.invokevirtual 114, 3) := by decide +kernel
theorem dX6_order_13 : decode cX6_order 13 = .ok (.ifCond .ne 6, 3) := by decide +kernel
theorem dX6_order_16 : decode cX6_order 16 = .ok (.ldc 118, 2) := by decide +kernel
theorem dX6_order_18 : decode cX6_order 18 = .ok (.ireturn, 1) := by decide +kernel
theorem dX6_order_19 : decode cX6_order 19 = .ok (.aload_n 0, 1) := by decide +kernel
theorem dX6_order_20 : decode cX6_order 20 = .ok (.getfield 45, 3) := by decide +kernel
theorem dX6_order_23 : decode cX6_order 23 = .ok (.iload_n 1, 1) := by decide +kernel
theorem dX6_order_24 : decode cX6_order 24 = .ok (.aaload, 1) := by decide +kernel
theorem dX6_order_25 : decode cX6_order 25 = .ok (.astore_n 3, 1) := by decide +kernel
theorem dX6_order_26 : decode cX6_order 26 = .ok (.aload_n 0, 1) := by decide +kernel
theorem dX6_order_27 : decode cX6_order 27 = .ok (.aload_n 3, 1) := by decide +kernel
theorem dX6_order_28 : decode cX6_order 28 = .ok (.invokevirtual 129, 3) := by decide +kernel
theorem dX6_order_31 : decode cX6_order 31 = .ok (.ifCond .ne 6, 3) := by decide +kernel
theorem dX6_order_34 : decode cX6_order 34 = .ok (.ldc 118, 2) := by decide +kernel
theorem dX6_order_36 : decode cX6_order 36 = .ok (.ireturn, 1) := by decide +kernel
theorem dX6_order_37 : decode cX6_order 37 = .ok (.aload_n 0, 1) := by decide +kernel
theorem dX6_order_38 : decode cX6_order 38 = .ok (.getfield 56, 3) := by decide +kernel
theorem dX6_order_41 : decode cX6_order 41 = .ok (.aload_n 0, 1) := by decide +kernel
theorem dX6_order_42 : decode cX6_order 42 = .ok (.getfield 10, 3) := by decide +kernel
theorem dX6_order_45 : decode cX6_order 45 = .ok (.invokevirtual 133, 3) := by decide +kernel
theorem dX6_order_48 : decode cX6_order 48 = .ok (.iconst 0, 1) := by decide +kernel
theorem dX6_order_49 : decode cX6_order 49 = .ok (.istore 4, 2) := by decide +kernel
theorem dX6_order_51 : decode cX6_order 51 = .ok (.iload 4, 2) := by decide +kernel
theorem dX6_order_53 : decode cX6_order 53 = .ok (.aload_n 3, 1) := by decide +kernel
theorem dX6_order_54 : decode cX6_order 54 = .ok (.getfield 137, 3) := by decide +kernel
theorem dX6_order_57 : decode cX6_order 57 = .ok (.if_icmp .ge 24, 3) := by decide +kernel
theorem dX6_order_60 : decode cX6_order 60 = .ok (.aload_n 0, 1) := by decide +kernel
theorem dX6_order_61 : decode cX6_order 61 = .ok (.getfield 56, 3) := by decide +kernel
theorem dX6_order_64 : decode cX6_order 64 = .ok (.aload_n 3, 1) := by decide +kernel
theorem dX6_order_65 : decode cX6_order 65 = .ok (.iload 4, 2) := by decide +kernel
theorem dX6_order_67 : decode cX6_order 67 = .ok (.invokevirtual 138, 3) := by decide +kernel
theorem dX6_order_70 : decode cX6_order 70 = .ok (.iload 4, 2) := by decide +kernel
theorem dX6_order_72 : decode cX6_order 72 = .ok (.invokevirtual 141, 3) := by decide +kernel
theorem dX6_order_75 : decode cX6_order 75 = .ok (.iinc 4 1, 3) := by decide +kernel
theorem dX6_order_78 : decode cX6_order 78 = .ok (.goto (-27), 3) := by decide +kernel
theorem dX6_order_81 : decode cX6_order 81 = .ok (.aload_n 0, 1) := by decide +kernel
theorem dX6_order_82 : decode cX6_order 82 = .ok (.getfield 56, 3) := by decide +kernel
theorem dX6_order_85 : decode cX6_order 85 = .ok (.iload_n 2, 1) := by decide +kernel
theorem dX6_order_86 : decode cX6_order 86 = .ok (.invokevirtual 126, 3) := by decide +kernel
theorem dX6_order_89 : decode cX6_order 89 = .ok (.ireturn, 1) := by decide +kernel
theorem dX6_best_0 : decode cX6_best 0 = .ok (.iload_n 1, 1) := by decide +kernel
theorem dX6_best_1 : decode cX6_best 1 = .ok (.iconst 2, 1) := by decide +kernel
theorem dX6_best_2 : decode cX6_best 2 = .ok (.invokestatic 88, 3) := by decide +kernel
theorem dX6_best_5 : decode cX6_best 5 = .ok (.ifCond .ne 6, 3) := by decide +kernel
theorem dX6_best_8 : decode cX6_best 8 = .ok (.ldc 118, 2) := by decide +kernel
theorem dX6_best_10 : decode cX6_best 10 = .ok (.ireturn, 1) := by decide +kernel
theorem dX6_best_11 : decode cX6_best 11 = .ok (.new 145, 3) := by decide +kernel
theorem dX6_best_14 : decode cX6_best 14 = .ok (.dup, 1) := by decide +kernel
theorem dX6_best_15 : decode cX6_best 15 = .ok (.invokespecial 147, 3) := by decide +kernel
theorem dX6_best_18 : decode cX6_best 18 = .ok (.astore_n 2, 1) := by decide +kernel
theorem dX6_best_19 : decode cX6_best 19 = .ok (.aload_n 0, 1) := by decide +kernel
theorem dX6_best_20 : decode cX6_best 20 = .ok (.getfield 56, 3) := by decide +kernel
theorem dX6_best_23 : decode cX6_best 23 = .ok (.aload_n 0, 1) := by decide +kernel
theorem dX6_best_24 : decode cX6_best 24 = .ok (.getfield 10, 3) := by decide +kernel
theorem dX6_best_27 : decode cX6_best 27 = .ok (.invokevirtual 133, 3) := by decide +kernel
theorem dX6_best_30 : decode cX6_best 30 = .ok (.aload_n 2, 1) := by decide +kernel
theorem dX6_best_31 : decode cX6_best 31 = .ok (.aload_n 0, 1) := by decide +kernel
theorem dX6_best_32 : decode cX6_best 32 = .ok (.getfield 56, 3) := by decide +kernel
theorem dX6_best_35 : decode cX6_best 35 = .ok (.iconst 0, 1) := by decide +kernel
theorem dX6_best_36 : decode cX6_best 36 = .ok (.iconst 0, 1) := by decide +kernel
theorem dX6_best_37 : decode cX6_best 37 = .ok (.iconst 0, 1) := by decide +kernel
theorem dX6_best_38 : decode cX6_best 38 = .ok (.aload_n 0, 1) := by decide +kernel
theorem dX6_best_39 : decode cX6_best 39 = .ok (.getfield 10, 3) := by decide +kernel
theorem dX6_best_42 : decode cX6_best 42 = .ok (.invokevirtual 148, 3) := by decide +kernel
theorem dX6_best_45 : decode cX6_best 45 = .ok (.invokestatic 151, 3) := by decide +kernel
theorem dX6_best_48 : decode cX6_best 48 = .ok (.aload_n 2, 1) := by decide +kernel
theorem dX6_best_49 : decode cX6_best 49 = .ok (.iload_n 1, 1) := by decide +kernel
theorem dX6_best_50 : decode cX6_best 50 = .ok (.invokevirtual 155, 3) := by decide +kernel
theorem dX6_best_53 : decode cX6_best 53 = .ok (.ireturn, 1) := by decide +kernel
theorem dX6_setting_0 : decode cX6_setting 0 = .ok (.iload_n 1, 1) := by decide +kernel
theorem dX6_setting_1 : decode cX6_setting 1 = .ok (.iconst 2, 1) := by decide +kernel
theorem dX6_setting_2 : decode cX6_setting 2 = .ok (.invokestatic 88, 3) := by decide +kernel
theorem dX6_setting_5 : decode cX6_setting 5 = .ok (.ifCond .ne 6, 3) := by decide +kernel
theorem dX6_setting_8 : decode cX6_setting 8 = .ok (.ldc 118, 2) := by decide +kernel
theorem dX6_setting_10 : decode cX6_setting 10 = .ok (.ireturn, 1) := by decide +kernel
theorem dX6_setting_11 : decode cX6_setting 11 = .ok (.iconst 0, 1) := by decide +kernel
theorem dX6_setting_12 : decode cX6_setting 12 = .ok (.istore_n 2, 1) := by decide +kernel
theorem dX6_setting_13 : decode cX6_setting 13 = .ok (.iconst 0, 1) := by decide +kernel
theorem dX6_setting_14 : decode cX6_setting 14 = .ok (.istore_n 3, 1) := by decide +kernel
theorem dX6_setting_15 : decode cX6_setting 15 = .ok (.aload_n 0, 1) := by decide +kernel
theorem dX6_setting_16 : decode cX6_setting 16 = .ok (.getfield 56, 3) := by decide +kernel
theorem dX6_setting_19 : decode cX6_setting 19 = .ok (.aload_n 0, 1) := by decide +kernel
theorem dX6_setting_20 : decode cX6_setting 20 = .ok (.getfield 10, 3) := by decide +kernel
theorem dX6_setting_23 : decode cX6_setting 23 = .ok (.invokevirtual 133, 3) := by decide +kernel
theorem dX6_setting_26 : decode cX6_setting 26 = .ok (.iconst 0, 1) := by decide +kernel
theorem dX6_setting_27 : decode cX6_setting 27 = .ok (.istore 4, 2) := by decide +kernel
theorem dX6_setting_29 : decode cX6_setting 29 = .ok (.iload 4, 2) := by decide +kernel
theorem dX6_setting_31 : decode cX6_setting 31 = .ok (.aload_n 0, 1) := by decide +kernel
theorem dX6_setting_32 : decode cX6_setting 32 = .ok (.getfield 10, 3) := by decide +kernel
theorem dX6_setting_35 : decode cX6_setting 35 = .ok (.getfield 95, 3) := by decide +kernel
theorem dX6_setting_38 : decode cX6_setting 38 = .ok (.if_icmp .ge 44, 3) := by decide +kernel
theorem dX6_setting_41 : decode cX6_setting 41 = .ok (.aload_n 0, 1) := by decide +kernel
theorem dX6_setting_42 : decode cX6_setting 42 = .ok (.iload_n 2, 1) := by decide +kernel
theorem dX6_setting_43 : decode cX6_setting 43 = .ok (.invokevirtual 156, 3) := by decide +kernel
theorem dX6_setting_46 : decode cX6_setting 46 = .ok (.istore 5, 2) := by decide +kernel
theorem dX6_setting_48 : decode cX6_setting 48 = .ok (.iload_n 2, 1) := by decide +kernel
theorem dX6_setting_49 : decode cX6_setting 49 = .ok (.iconst 1, 1) := by decide +kernel
theorem dX6_setting_50 : decode cX6_setting 50 = .ok (.iload 5, 2) := by decide +kernel
theorem dX6_setting_52 : decode cX6_setting 52 = .ok (.ishl, 1) := by decide +kernel
theorem dX6_setting_53 : decode cX6_setting 53 = .ok (.ior, 1) := by decide +kernel
theorem dX6_setting_54 : decode cX6_setting 54 = .ok (.istore_n 2, 1) := by decide +kernel
theorem dX6_setting_55 : decode cX6_setting 55 = .ok (.iload_n 3, 1) := by decide +kernel
theorem dX6_setting_56 : decode cX6_setting 56 = .ok (.bipush 10, 2) := by decide +kernel
theorem dX6_setting_58 : decode cX6_setting 58 = .ok (.imul, 1) := by decide +kernel
theorem dX6_setting_59 : decode cX6_setting 59 = .ok (.iload 5, 2) := by decide +kernel
theorem dX6_setting_61 : decode cX6_setting 61 = .ok (.iadd, 1) := by decide +kernel
theorem dX6_setting_62 : decode cX6_setting 62 = .ok (.iconst 1, 1) := by decide +kernel
theorem dX6_setting_63 : decode cX6_setting 63 = .ok (.iadd, 1) := by decide +kernel
theorem dX6_setting_64 : decode cX6_setting 64 = .ok (.istore_n 3, 1) := by decide +kernel
theorem dX6_setting_65 : decode cX6_setting 65 = .ok (.aload_n 0, 1) := by decide +kernel
theorem dX6_setting_66 : decode cX6_setting 66 = .ok (.getfield 56, 3) := by decide +kernel
theorem dX6_setting_69 : decode cX6_setting 69 = .ok (.iload 5, 2) := by decide +kernel
theorem dX6_setting_71 : decode cX6_setting 71 = .ok (.iload 4, 2) := by decide +kernel
theorem dX6_setting_73 : decode cX6_setting 73 = .ok (.invokevirtual 141, 3) := by decide +kernel
theorem dX6_setting_76 : decode cX6_setting 76 = .ok (.iinc 4 1, 3) := by decide +kernel
theorem dX6_setting_79 : decode cX6_setting 79 = .ok (.goto (-50), 3) := by decide +kernel
theorem dX6_setting_82 : decode cX6_setting 82 = .ok (.iload_n 1, 1) := by decide +kernel
theorem dX6_setting_83 : decode cX6_setting 83 = .ok (.ifCond .ne 13, 3) := by decide +kernel
theorem dX6_setting_86 : decode cX6_setting 86 = .ok (.aload_n 0, 1) := by decide +kernel
theorem dX6_setting_87 : decode cX6_setting 87 = .ok (.getfield 56, 3) := by decide +kernel
theorem dX6_setting_90 : decode cX6_setting 90 = .ok (.getfield 159, 3) := by decide +kernel
theorem dX6_setting_93 : decode cX6_setting 93 = .ok (.goto 4, 3) := by decide +kernel
theorem dX6_setting_96 : decode cX6_setting 96 = .ok (.iload_n 3, 1) := by decide +kernel
theorem dX6_setting_97 : decode cX6_setting 97 = .ok (.ireturn, 1) := by decide +kernel
theorem dX6_late_0 : decode cX6_late 0 = .ok (.aload_n 0, 1) := by decide +kernel
theorem dX6_late_1 : decode cX6_late 1 = .ok (.aload_n 0, 1) := by decide +kernel
theorem dX6_late_2 : decode cX6_late 2 = .ok (.getfield 10, 3) := by decide +kernel
theorem dX6_late_5 : decode cX6_late 5 = .ok (.invokevirtual 162, 3) := by decide +kernel
theorem dX6_late_8 : decode cX6_late 8 = .ok (.istore_n 1, 1) := by decide +kernel
theorem dX6_late_9 : decode cX6_late 9 = .ok (.aload_n 0, 1) := by decide +kernel
theorem dX6_late_10 : decode cX6_late 10 = .ok (.getfield 19, 3) := by decide +kernel
theorem dX6_late_13 : decode cX6_late 13 = .ok (.aload_n 0, 1) := by decide +kernel
theorem dX6_late_14 : decode cX6_late 14 = .ok (.getfield 10, 3) := by decide +kernel
theorem dX6_late_17 : decode cX6_late 17 = .ok (.invokevirtual 166, 3) := by decide +kernel
theorem dX6_late_20 : decode cX6_late 20 = .ok (.sipush 199, 3) := by decide +kernel
theorem dX6_late_23 : decode cX6_late 23 = .ok (.istore_n 2, 1) := by decide +kernel
theorem dX6_late_24 : decode cX6_late 24 = .ok (.iload_n 2, 1) := by decide +kernel
theorem dX6_late_25 : decode cX6_late 25 = .ok (.ifCond .lt 35, 3) := by decide +kernel
theorem dX6_late_28 : decode cX6_late 28 = .ok (.aload_n 0, 1) := by decide +kernel
theorem dX6_late_29 : decode cX6_late 29 = .ok (.getfield 19, 3) := by decide +kernel
theorem dX6_late_32 : decode cX6_late 32 = .ok (.bipush 6, 2) := by decide +kernel
theorem dX6_late_34 : decode cX6_late 34 = .ok (.iconst 0, 1) := by decide +kernel
theorem dX6_late_35 : decode cX6_late 35 = .ok (.iload_n 2, 1) := by decide +kernel
theorem dX6_late_36 : decode cX6_late 36 = .ok (.invokevirtual 84, 3) := by decide +kernel
theorem dX6_late_39 : decode cX6_late 39 = .ok (.pop, 1) := by decide +kernel
theorem dX6_late_40 : decode cX6_late 40 = .ok (.aload_n 0, 1) := by decide +kernel
theorem dX6_late_41 : decode cX6_late 41 = .ok (.aload_n 0, 1) := by decide +kernel
theorem dX6_late_42 : decode cX6_late 42 = .ok (.getfield 19, 3) := by decide +kernel
theorem dX6_late_45 : decode cX6_late 45 = .ok (.invokevirtual 162, 3) := by decide +kernel
theorem dX6_late_48 : decode cX6_late 48 = .ok (.iload_n 1, 1) := by decide +kernel
theorem dX6_late_49 : decode cX6_late 49 = .ok (.if_icmp .lt 5, 3) := by decide +kernel
theorem dX6_late_52 : decode cX6_late 52 = .ok (.iload_n 2, 1) := by decide +kernel
theorem dX6_late_53 : decode cX6_late 53 = .ok (.ireturn, 1) := by decide +kernel
theorem dX6_late_54 : decode cX6_late 54 = .ok (.iinc 2 (-1), 3) := by decide +kernel
theorem dX6_late_57 : decode cX6_late 57 = .ok (.goto (-33), 3) := by decide +kernel
theorem dX6_late_60 : decode cX6_late 60 = .ok (.iconst (-1), 1) := by decide +kernel
theorem dX6_late_61 : decode cX6_late 61 = .ok (.ireturn, 1) := by decide +kernel
theorem dX6_sleep_0 : decode cX6_sleep 0 = .ok (.iload_n 1, 1) := by decide +kernel
theorem dX6_sleep_1 : decode cX6_sleep 1 = .ok (.iconst 1, 1) := by decide +kernel
theorem dX6_sleep_2 : decode cX6_sleep 2 = .ok (.if_icmp .lt 17, 3) := by decide +kernel
theorem dX6_sleep_5 : decode cX6_sleep 5 = .ok (.iload_n 1, 1) := by decide +kernel
theorem dX6_sleep_6 : decode cX6_sleep 6 = .ok (.bipush 99, 2) := by decide +kernel
theorem dX6_sleep_8 : decode cX6_sleep 8 = .ok (.if_icmp .gt 11, 3) := by decide +kernel
theorem dX6_sleep_11 : decode cX6_sleep 11 = .ok (.iload_n 2, 1) := by decide +kernel
theorem dX6_sleep_12 : decode cX6_sleep 12 = .ok (.iconst 2, 1) := by decide +kernel
theorem dX6_sleep_13 : decode cX6_sleep 13 = .ok (.invokestatic 88, 3) := by decide +kernel
theorem dX6_sleep_16 : decode cX6_sleep 16 = .ok (.ifCond .ne 6, 3) := by decide +kernel
theorem dX6_sleep_19 : decode cX6_sleep 19 = .ok (.ldc 118, 2) := by decide +kernel
theorem dX6_sleep_21 : decode cX6_sleep 21 = .ok (.ireturn, 1) := by decide +kernel
theorem dX6_sleep_22 : decode cX6_sleep 22 = .ok (.new 145, 3) := by decide +kernel
theorem dX6_sleep_25 : decode cX6_sleep 25 = .ok (.dup, 1) := by decide +kernel
theorem dX6_sleep_26 : decode cX6_sleep 26 = .ok (.invokespecial 147, 3) := by decide +kernel
theorem dX6_sleep_29 : decode cX6_sleep 29 = .ok (.astore_n 3, 1) := by decide +kernel
theorem dX6_sleep_30 : decode cX6_sleep 30 = .ok (.iconst 0, 1) := by decide +kernel
theorem dX6_sleep_31 : decode cX6_sleep 31 = .ok (.istore 4, 2) := by decide +kernel
theorem dX6_sleep_33 : decode cX6_sleep 33 = .ok (.iload 4, 2) := by decide +kernel
theorem dX6_sleep_35 : decode cX6_sleep 35 = .ok (.aload_n 0, 1) := by decide +kernel
theorem dX6_sleep_36 : decode cX6_sleep 36 = .ok (.getfield 10, 3) := by decide +kernel
theorem dX6_sleep_39 : decode cX6_sleep 39 = .ok (.getfield 95, 3) := by decide +kernel
theorem dX6_sleep_42 : decode cX6_sleep 42 = .ok (.if_icmp .gt 22, 3) := by decide +kernel
theorem dX6_sleep_45 : decode cX6_sleep 45 = .ok (.aload_n 3, 1) := by decide +kernel
theorem dX6_sleep_46 : decode cX6_sleep 46 = .ok (.iload 4, 2) := by decide +kernel
theorem dX6_sleep_48 : decode cX6_sleep 48 = .ok (.aload_n 0, 1) := by decide +kernel
theorem dX6_sleep_49 : decode cX6_sleep 49 = .ok (.iload 4, 2) := by decide +kernel
theorem dX6_sleep_51 : decode cX6_sleep 51 = .ok (.iload_n 1, 1) := by decide +kernel
theorem dX6_sleep_52 : decode cX6_sleep 52 = .ok (.invokevirtual 169, 3) := by decide +kernel
theorem dX6_sleep_55 : decode cX6_sleep 55 = .ok (.invokevirtual 172, 3) := by decide +kernel
theorem dX6_sleep_58 : decode cX6_sleep 58 = .ok (.iinc 4 1, 3) := by decide +kernel
theorem dX6_sleep_61 : decode cX6_sleep 61 = .ok (.goto (-28), 3) := by decide +kernel
theorem dX6_sleep_64 : decode cX6_sleep 64 = .ok (.aload_n 3, 1) := by decide +kernel
theorem dX6_sleep_65 : decode cX6_sleep 65 = .ok (.iconst 1, 1) := by decide +kernel
theorem dX6_sleep_66 : decode cX6_sleep 66 = .ok (.iload_n 2, 1) := by decide +kernel
theorem dX6_sleep_67 : decode cX6_sleep 67 = .ok (.isub, 1) := by decide +kernel
theorem dX6_sleep_68 : decode cX6_sleep 68 = .ok (.invokevirtual 155, 3) := by decide +kernel
theorem dX6_sleep_71 : decode cX6_sleep 71 = .ok (.ireturn, 1) := by decide +kernel
theorem dX6_moon_0 : decode cX6_moon 0 = .ok (.iload_n 1, 1) := by decide +kernel
theorem dX6_moon_1 : decode cX6_moon 1 = .ok (.iconst 2, 1) := by decide +kernel
theorem dX6_moon_2 : decode cX6_moon 2 = .ok (.invokestatic 88, 3) := by decide +kernel
theorem dX6_moon_5 : decode cX6_moon 5 = .ok (.ifCond .ne 6, 3) := by decide +kernel
theorem dX6_moon_8 : decode cX6_moon 8 = .ok (.ldc 118, 2) := by decide +kernel
theorem dX6_moon_10 : decode cX6_moon 10 = .ok (.ireturn, 1) := by decide +kernel
theorem dX6_moon_11 : decode cX6_moon 11 = .ok (.new 145, 3) := by decide +kernel
theorem dX6_moon_14 : decode cX6_moon 14 = .ok (.dup, 1) := by decide +kernel
theorem dX6_moon_15 : decode cX6_moon 15 = .ok (.invokespecial 147, 3) := by decide +kernel
theorem dX6_moon_18 : decode cX6_moon 18 = .ok (.astore_n 2, 1) := by decide +kernel
theorem dX6_moon_19 : decode cX6_moon 19 = .ok (.aload_n 0, 1) := by decide +kernel
theorem dX6_moon_20 : decode cX6_moon 20 = .ok (.getfield 19, 3) := by decide +kernel
theorem dX6_moon_23 : decode cX6_moon 23 = .ok (.aload_n 0, 1) := by decide +kernel
theorem dX6_moon_24 : decode cX6_moon 24 = .ok (.getfield 10, 3) := by decide +kernel
theorem dX6_moon_27 : decode cX6_moon 27 = .ok (.invokevirtual 166, 3) := by decide +kernel
theorem dX6_moon_30 : decode cX6_moon 30 = .ok (.iconst 0, 1) := by decide +kernel
theorem dX6_moon_31 : decode cX6_moon 31 = .ok (.istore_n 3, 1) := by decide +kernel
theorem dX6_moon_32 : decode cX6_moon 32 = .ok (.iload_n 3, 1) := by decide +kernel
theorem dX6_moon_33 : decode cX6_moon 33 = .ok (.bipush 10, 2) := by decide +kernel
theorem dX6_moon_35 : decode cX6_moon 35 = .ok (.if_icmp .ge 43, 3) := by decide +kernel
theorem dX6_moon_38 : decode cX6_moon 38 = .ok (.aload_n 0, 1) := by decide +kernel
theorem dX6_moon_39 : decode cX6_moon 39 = .ok (.getfield 19, 3) := by decide +kernel
theorem dX6_moon_42 : decode cX6_moon 42 = .ok (.iconst 0, 1) := by decide +kernel
theorem dX6_moon_43 : decode cX6_moon 43 = .ok (.iconst 0, 1) := by decide +kernel
theorem dX6_moon_44 : decode cX6_moon 44 = .ok (.iload_n 3, 1) := by decide +kernel
theorem dX6_moon_45 : decode cX6_moon 45 = .ok (.invokevirtual 84, 3) := by decide +kernel
theorem dX6_moon_48 : decode cX6_moon 48 = .ok (.pop, 1) := by decide +kernel
theorem dX6_moon_49 : decode cX6_moon 49 = .ok (.aload_n 2, 1) := by decide +kernel
theorem dX6_moon_50 : decode cX6_moon 50 = .ok (.iload_n 3, 1) := by decide +kernel
theorem dX6_moon_51 : decode cX6_moon 51 = .ok (.aload_n 0, 1) := by decide +kernel
theorem dX6_moon_52 : decode cX6_moon 52 = .ok (.getfield 56, 3) := by decide +kernel
theorem dX6_moon_55 : decode cX6_moon 55 = .ok (.aload_n 0, 1) := by decide +kernel
theorem dX6_moon_56 : decode cX6_moon 56 = .ok (.getfield 19, 3) := by decide +kernel
theorem dX6_moon_59 : decode cX6_moon 59 = .ok (.aload_n 0, 1) := by decide +kernel
theorem dX6_moon_60 : decode cX6_moon 60 = .ok (.getfield 19, 3) := by decide +kernel
theorem dX6_moon_63 : decode cX6_moon 63 = .ok (.invokevirtual 119, 3) := by decide +kernel
theorem dX6_moon_66 : decode cX6_moon 66 = .ok (.invokevirtual 122, 3) := by decide +kernel
theorem dX6_moon_69 : decode cX6_moon 69 = .ok (.invokevirtual 172, 3) := by decide +kernel
theorem dX6_moon_72 : decode cX6_moon 72 = .ok (.iinc 3 1, 3) := by decide +kernel
theorem dX6_moon_75 : decode cX6_moon 75 = .ok (.goto (-43), 3) := by decide +kernel
theorem dX6_moon_78 : decode cX6_moon 78 = .ok (.aload_n 2, 1) := by decide +kernel
theorem dX6_moon_79 : decode cX6_moon 79 = .ok (.iconst 1, 1) := by decide +kernel
theorem dX6_moon_80 : decode cX6_moon 80 = .ok (.iload_n 1, 1) := by decide +kernel
theorem dX6_moon_81 : decode cX6_moon 81 = .ok (.isub, 1) := by decide +kernel
theorem dX6_moon_82 : decode cX6_moon 82 = .ok (.invokevirtual 155, 3) := by decide +kernel
theorem dX6_moon_85 : decode cX6_moon 85 = .ok (.ireturn, 1) := by decide +kernel
theorem dX6_leave_0 : decode cX6_leave 0 = .ok (.iload_n 1, 1) := by decide +kernel
theorem dX6_leave_1 : decode cX6_leave 1 = .ok (.iconst 2, 1) := by decide +kernel
theorem dX6_leave_2 : decode cX6_leave 2 = .ok (.invokestatic 88, 3) := by decide +kernel
theorem dX6_leave_5 : decode cX6_leave 5 = .ok (.ifCond .ne 6, 3) := by decide +kernel
theorem dX6_leave_8 : decode cX6_leave 8 = .ok (.ldc 118, 2) := by decide +kernel
theorem dX6_leave_10 : decode cX6_leave 10 = .ok (.ireturn, 1) := by decide +kernel
theorem dX6_leave_11 : decode cX6_leave 11 = .ok (.new 145, 3) := by decide +kernel
theorem dX6_leave_14 : decode cX6_leave 14 = .ok (.dup, 1) := by decide +kernel
theorem dX6_leave_15 : decode cX6_leave 15 = .ok (.invokespecial 147, 3) := by decide +kernel
theorem dX6_leave_18 : decode cX6_leave 18 = .ok (.astore_n 2, 1) := by decide +kernel
theorem dX6_leave_19 : decode cX6_leave 19 = .ok (.aload_n 2, 1) := by decide +kernel
theorem dX6_leave_20 : decode cX6_leave 20 = .ok (.iconst (-1), 1) := by decide +kernel
theorem dX6_leave_21 : decode cX6_leave 21 = .ok (.aload_n 0, 1) := by decide +kernel
theorem dX6_leave_22 : decode cX6_leave 22 = .ok (.getfield 56, 3) := by decide +kernel
theorem dX6_leave_25 : decode cX6_leave 25 = .ok (.aload_n 0, 1) := by decide +kernel
theorem dX6_leave_26 : decode cX6_leave 26 = .ok (.getfield 10, 3) := by decide +kernel
theorem dX6_leave_29 : decode cX6_leave 29 = .ok (.aload_n 0, 1) := by decide +kernel
theorem dX6_leave_30 : decode cX6_leave 30 = .ok (.getfield 10, 3) := by decide +kernel
theorem dX6_leave_33 : decode cX6_leave 33 = .ok (.invokevirtual 119, 3) := by decide +kernel
theorem dX6_leave_36 : decode cX6_leave 36 = .ok (.invokevirtual 122, 3) := by decide +kernel
theorem dX6_leave_39 : decode cX6_leave 39 = .ok (.invokevirtual 172, 3) := by decide +kernel
theorem dX6_leave_42 : decode cX6_leave 42 = .ok (.iconst 0, 1) := by decide +kernel
theorem dX6_leave_43 : decode cX6_leave 43 = .ok (.istore_n 3, 1) := by decide +kernel
theorem dX6_leave_44 : decode cX6_leave 44 = .ok (.iload_n 3, 1) := by decide +kernel
theorem dX6_leave_45 : decode cX6_leave 45 = .ok (.aload_n 0, 1) := by decide +kernel
theorem dX6_leave_46 : decode cX6_leave 46 = .ok (.getfield 10, 3) := by decide +kernel
theorem dX6_leave_49 : decode cX6_leave 49 = .ok (.getfield 95, 3) := by decide +kernel
theorem dX6_leave_52 : decode cX6_leave 52 = .ok (.if_icmp .ge 38, 3) := by decide +kernel
theorem dX6_leave_55 : decode cX6_leave 55 = .ok (.aload_n 2, 1) := by decide +kernel
theorem dX6_leave_56 : decode cX6_leave 56 = .ok (.iload_n 3, 1) := by decide +kernel
theorem dX6_leave_57 : decode cX6_leave 57 = .ok (.aload_n 0, 1) := by decide +kernel
theorem dX6_leave_58 : decode cX6_leave 58 = .ok (.getfield 56, 3) := by decide +kernel
theorem dX6_leave_61 : decode cX6_leave 61 = .ok (.aload_n 0, 1) := by decide +kernel
theorem dX6_leave_62 : decode cX6_leave 62 = .ok (.getfield 10, 3) := by decide +kernel
theorem dX6_leave_65 : decode cX6_leave 65 = .ok (.aload_n 0, 1) := by decide +kernel
theorem dX6_leave_66 : decode cX6_leave 66 = .ok (.getfield 10, 3) := by decide +kernel
theorem dX6_leave_69 : decode cX6_leave 69 = .ok (.invokevirtual 119, 3) := by decide +kernel
theorem dX6_leave_72 : decode cX6_leave 72 = .ok (.iconst 1, 1) := by decide +kernel
theorem dX6_leave_73 : decode cX6_leave 73 = .ok (.iload_n 3, 1) := by decide +kernel
theorem dX6_leave_74 : decode cX6_leave 74 = .ok (.ishl, 1) := by decide +kernel
theorem dX6_leave_75 : decode cX6_leave 75 = .ok (.iconst (-1), 1) := by decide +kernel
theorem dX6_leave_76 : decode cX6_leave 76 = .ok (.ixor, 1) := by decide +kernel
theorem dX6_leave_77 : decode cX6_leave 77 = .ok (.iand, 1) := by decide +kernel
theorem dX6_leave_78 : decode cX6_leave 78 = .ok (.invokevirtual 122, 3) := by decide +kernel
theorem dX6_leave_81 : decode cX6_leave 81 = .ok (.invokevirtual 172, 3) := by decide +kernel
theorem dX6_leave_84 : decode cX6_leave 84 = .ok (.iinc 3 1, 3) := by decide +kernel
theorem dX6_leave_87 : decode cX6_leave 87 = .ok (.goto (-43), 3) := by decide +kernel
theorem dX6_leave_90 : decode cX6_leave 90 = .ok (.aload_n 2, 1) := by decide +kernel
theorem dX6_leave_91 : decode cX6_leave 91 = .ok (.iconst 1, 1) := by decide +kernel
theorem dX6_leave_92 : decode cX6_leave 92 = .ok (.iload_n 1, 1) := by decide +kernel
theorem dX6_leave_93 : decode cX6_leave 93 = .ok (.isub, 1) := by decide +kernel
theorem dX6_leave_94 : decode cX6_leave 94 = .ok (.invokevirtual 155, 3) := by decide +kernel
theorem dX6_leave_97 : decode cX6_leave 97 = .ok (.ireturn, 1) := by decide +kernel
theorem dX6_two_0 : decode cX6_two 0 = .ok (.iload_n 1, 1) := by decide +kernel
theorem dX6_two_1 : decode cX6_two 1 = .ok (.iconst 2, 1) := by decide +kernel
theorem dX6_two_2 : decode cX6_two 2 = .ok (.invokestatic 88, 3) := by decide +kernel
theorem dX6_two_5 : decode cX6_two 5 = .ok (.ifCond .ne 6, 3) := by decide +kernel
theorem dX6_two_8 : decode cX6_two 8 = .ok (.ldc 118, 2) := by decide +kernel
theorem dX6_two_10 : decode cX6_two 10 = .ok (.ireturn, 1) := by decide +kernel
theorem dX6_two_11 : decode cX6_two 11 = .ok (.new 145, 3) := by decide +kernel
theorem dX6_two_14 : decode cX6_two 14 = .ok (.dup, 1) := by decide +kernel
theorem dX6_two_15 : decode cX6_two 15 = .ok (.invokespecial 147, 3) := by decide +kernel
theorem dX6_two_18 : decode cX6_two 18 = .ok (.astore_n 2, 1) := by decide +kernel
theorem dX6_two_19 : decode cX6_two 19 = .ok (.aload_n 0, 1) := by decide +kernel
theorem dX6_two_20 : decode cX6_two 20 = .ok (.getfield 10, 3) := by decide +kernel
theorem dX6_two_23 : decode cX6_two 23 = .ok (.invokevirtual 119, 3) := by decide +kernel
theorem dX6_two_26 : decode cX6_two 26 = .ok (.istore_n 3, 1) := by decide +kernel
theorem dX6_two_27 : decode cX6_two 27 = .ok (.iconst 0, 1) := by decide +kernel
theorem dX6_two_28 : decode cX6_two 28 = .ok (.istore 4, 2) := by decide +kernel
theorem dX6_two_30 : decode cX6_two 30 = .ok (.iload 4, 2) := by decide +kernel
theorem dX6_two_32 : decode cX6_two 32 = .ok (.iload_n 3, 1) := by decide +kernel
theorem dX6_two_33 : decode cX6_two 33 = .ok (.if_icmp .gt 46, 3) := by decide +kernel
theorem dX6_two_36 : decode cX6_two 36 = .ok (.aload_n 2, 1) := by decide +kernel
theorem dX6_two_37 : decode cX6_two 37 = .ok (.iload 4, 2) := by decide +kernel
theorem dX6_two_39 : decode cX6_two 39 = .ok (.aload_n 0, 1) := by decide +kernel
theorem dX6_two_40 : decode cX6_two 40 = .ok (.getfield 56, 3) := by decide +kernel
theorem dX6_two_43 : decode cX6_two 43 = .ok (.aload_n 0, 1) := by decide +kernel
theorem dX6_two_44 : decode cX6_two 44 = .ok (.getfield 10, 3) := by decide +kernel
theorem dX6_two_47 : decode cX6_two 47 = .ok (.iload 4, 2) := by decide +kernel
theorem dX6_two_49 : decode cX6_two 49 = .ok (.invokevirtual 122, 3) := by decide +kernel
theorem dX6_two_52 : decode cX6_two 52 = .ok (.aload_n 0, 1) := by decide +kernel
theorem dX6_two_53 : decode cX6_two 53 = .ok (.getfield 56, 3) := by decide +kernel
theorem dX6_two_56 : decode cX6_two 56 = .ok (.aload_n 0, 1) := by decide +kernel
theorem dX6_two_57 : decode cX6_two 57 = .ok (.getfield 10, 3) := by decide +kernel
theorem dX6_two_60 : decode cX6_two 60 = .ok (.iload_n 3, 1) := by decide +kernel
theorem dX6_two_61 : decode cX6_two 61 = .ok (.iload 4, 2) := by decide +kernel
theorem dX6_two_63 : decode cX6_two 63 = .ok (.iconst (-1), 1) := by decide +kernel
theorem dX6_two_64 : decode cX6_two 64 = .ok (.ixor, 1) := by decide +kernel
theorem dX6_two_65 : decode cX6_two 65 = .ok (.iand, 1) := by decide +kernel
theorem dX6_two_66 : decode cX6_two 66 = .ok (.invokevirtual 122, 3) := by decide +kernel
theorem dX6_two_69 : decode cX6_two 69 = .ok (.iadd, 1) := by decide +kernel
theorem dX6_two_70 : decode cX6_two 70 = .ok (.invokevirtual 172, 3) := by decide +kernel
theorem dX6_two_73 : decode cX6_two 73 = .ok (.iinc 4 1, 3) := by decide +kernel
theorem dX6_two_76 : decode cX6_two 76 = .ok (.goto (-46), 3) := by decide +kernel
theorem dX6_two_79 : decode cX6_two 79 = .ok (.aload_n 2, 1) := by decide +kernel
theorem dX6_two_80 : decode cX6_two 80 = .ok (.iconst 1, 1) := by decide +kernel
theorem dX6_two_81 : decode cX6_two 81 = .ok (.iload_n 1, 1) := by decide +kernel
theorem dX6_two_82 : decode cX6_two 82 = .ok (.isub, 1) := by decide +kernel
theorem dX6_two_83 : decode cX6_two 83 = .ok (.invokevirtual 155, 3) := by decide +kernel
theorem dX6_two_86 : decode cX6_two 86 = .ok (.ireturn, 1) := by decide +kernel
theorem dX6_cloud_0 : decode cX6_cloud 0 = .ok (.aload_n 0, 1) := by decide +kernel
theorem dX6_cloud_1 : decode cX6_cloud 1 = .ok (.invokevirtual 175, 3) := by decide +kernel
theorem dX6_cloud_4 : decode cX6_cloud 4 = .ok (.aload_n 0, 1) := by decide +kernel
theorem dX6_cloud_5 : decode cX6_cloud 5 = .ok (.getfield 56, 3) := by decide +kernel
theorem dX6_cloud_8 : decode cX6_cloud 8 = .ok (.aload_n 0, 1) := by decide +kernel
theorem dX6_cloud_9 : decode cX6_cloud 9 = .ok (.getfield 10, 3) := by decide +kernel
theorem dX6_cloud_12 : decode cX6_cloud 12 = .ok (.aload_n 0, 1) := by decide +kernel
theorem dX6_cloud_13 : decode cX6_cloud 13 = .ok (.getfield 10, 3) := by decide +kernel
theorem dX6_cloud_16 : decode cX6_cloud 16 = .ok (.invokevirtual 119, 3) := by decide +kernel
theorem dX6_cloud_19 : decode cX6_cloud 19 = .ok (.invokevirtual 122, 3) := by decide +kernel
theorem dX6_cloud_22 : decode cX6_cloud 22 = .ok (.isub, 1) := by decide +kernel
theorem dX6_cloud_23 : decode cX6_cloud 23 = .ok (.ireturn, 1) := by decide +kernel
theorem dX6_lists_0 : decode cX6_lists 0 = .ok (.iload_n 1, 1) := by decide +kernel
theorem dX6_lists_1 : decode cX6_lists 1 = .ok (.iconst 4, 1) := by decide +kernel
theorem dX6_lists_2 : decode cX6_lists 2 = .ok (.invokestatic 88, 3) := by decide +kernel
theorem dX6_lists_5 : decode cX6_lists 5 = .ok (.ifCond .eq 19, 3) := by decide +kernel
theorem dX6_lists_8 : decode cX6_lists 8 = .ok (.aload_n 0, 1) := by decide +kernel
theorem dX6_lists_9 : decode cX6_lists 9 = .ok (.iload_n 2, 1) := by decide +kernel
theorem dX6_lists_10 : decode cX6_lists 10 = .ok (.invokevirtual 178, 3) := by decide +kernel
theorem dX6_lists_13 : decode cX6_lists 13 = .ok (.ifCond .ne 14, 3) := by decide +kernel
theorem dX6_lists_16 : decode cX6_lists 16 = .ok (.iload_n 2, 1) := by decide +kernel
theorem dX6_lists_17 : decode cX6_lists 17 = .ok (.iconst 5, 1) := by decide +kernel
theorem dX6_lists_18 : decode cX6_lists 18 = .ok (.invokestatic 88, 3) := by decide +kernel
theorem dX6_lists_21 : decode cX6_lists 21 = .ok (.ifCond .ne 6, 3) := by decide +kernel
theorem dX6_lists_24 : decode cX6_lists 24 = .ok (.bipush (-2), 2) := by decide +kernel
theorem dX6_lists_26 : decode cX6_lists 26 = .ok (.ireturn, 1) := by decide +kernel
theorem dX6_lists_27 : decode cX6_lists 27 = .ok (.aload_n 0, 1) := by decide +kernel
theorem dX6_lists_28 : decode cX6_lists 28 = .ok (.getfield 45, 3) := by decide +kernel
theorem dX6_lists_31 : decode cX6_lists 31 = .ok (.iload_n 1, 1) := by decide +kernel
theorem dX6_lists_32 : decode cX6_lists 32 = .ok (.aaload, 1) := by decide +kernel
theorem dX6_lists_33 : decode cX6_lists 33 = .ok (.astore_n 3, 1) := by decide +kernel
theorem dX6_lists_34 : decode cX6_lists 34 = .ok (.aload_n 3, 1) := by decide +kernel
theorem dX6_lists_35 : decode cX6_lists 35 = .ok (.invokevirtual 181, 3) := by decide +kernel
theorem dX6_lists_38 : decode cX6_lists 38 = .ok (.ifCond .eq 6, 3) := by decide +kernel
theorem dX6_lists_41 : decode cX6_lists 41 = .ok (.bipush (-11), 2) := by decide +kernel
theorem dX6_lists_43 : decode cX6_lists 43 = .ok (.ireturn, 1) := by decide +kernel
theorem dX6_lists_44 : decode cX6_lists 44 = .ok (.aload_n 3, 1) := by decide +kernel
theorem dX6_lists_45 : decode cX6_lists 45 = .ok (.getfield 137, 3) := by decide +kernel
theorem dX6_lists_48 : decode cX6_lists 48 = .ok (.aload_n 0, 1) := by decide +kernel
theorem dX6_lists_49 : decode cX6_lists 49 = .ok (.getfield 10, 3) := by decide +kernel
theorem dX6_lists_52 : decode cX6_lists 52 = .ok (.getfield 95, 3) := by decide +kernel
theorem dX6_lists_55 : decode cX6_lists 55 = .ok (.if_icmp .eq 6, 3) := by decide +kernel
theorem dX6_lists_58 : decode cX6_lists 58 = .ok (.bipush (-2), 2) := by decide +kernel
theorem dX6_lists_60 : decode cX6_lists 60 = .ok (.ireturn, 1) := by decide +kernel
theorem dX6_lists_61 : decode cX6_lists 61 = .ok (.aload_n 0, 1) := by decide +kernel
theorem dX6_lists_62 : decode cX6_lists 62 = .ok (.getfield 19, 3) := by decide +kernel
theorem dX6_lists_65 : decode cX6_lists 65 = .ok (.aload_n 0, 1) := by decide +kernel
theorem dX6_lists_66 : decode cX6_lists 66 = .ok (.getfield 10, 3) := by decide +kernel
theorem dX6_lists_69 : decode cX6_lists 69 = .ok (.invokevirtual 166, 3) := by decide +kernel
theorem dX6_lists_72 : decode cX6_lists 72 = .ok (.iload_n 2, 1) := by decide +kernel
theorem dX6_lists_73 : decode cX6_lists 73 = .ok (.tableswitch 71 0 4 #[35, 41, 48, 55, 65], 35) := by decide +kernel
theorem dX6_lists_108 : decode cX6_lists 108 = .ok (.aload_n 0, 1) := by decide +kernel
theorem dX6_lists_109 : decode cX6_lists 109 = .ok (.aload_n 3, 1) := by decide +kernel
theorem dX6_lists_110 : decode cX6_lists 110 = .ok (.invokevirtual 185, 3) := by decide +kernel
theorem dX6_lists_113 : decode cX6_lists 113 = .ok (.ireturn, 1) := by decide +kernel
theorem dX6_lists_114 : decode cX6_lists 114 = .ok (.aload_n 0, 1) := by decide +kernel
theorem dX6_lists_115 : decode cX6_lists 115 = .ok (.aload_n 3, 1) := by decide +kernel
theorem dX6_lists_116 : decode cX6_lists 116 = .ok (.iconst 1, 1) := by decide +kernel
theorem dX6_lists_117 : decode cX6_lists 117 = .ok (.invokevirtual 189, 3) := by decide +kernel
theorem dX6_lists_120 : decode cX6_lists 120 = .ok (.ireturn, 1) := by decide +kernel
theorem dX6_lists_121 : decode cX6_lists 121 = .ok (.aload_n 0, 1) := by decide +kernel
theorem dX6_lists_122 : decode cX6_lists 122 = .ok (.aload_n 3, 1) := by decide +kernel
theorem dX6_lists_123 : decode cX6_lists 123 = .ok (.iconst 0, 1) := by decide +kernel
theorem dX6_lists_124 : decode cX6_lists 124 = .ok (.invokevirtual 189, 3) := by decide +kernel
theorem dX6_lists_127 : decode cX6_lists 127 = .ok (.ireturn, 1) := by decide +kernel
theorem dX6_lists_128 : decode cX6_lists 128 = .ok (.aload_n 0, 1) := by decide +kernel
theorem dX6_lists_129 : decode cX6_lists 129 = .ok (.aload_n 3, 1) := by decide +kernel
theorem dX6_lists_130 : decode cX6_lists 130 = .ok (.iconst 0, 1) := by decide +kernel
theorem dX6_lists_131 : decode cX6_lists 131 = .ok (.iconst 0, 1) := by decide +kernel
theorem dX6_lists_132 : decode cX6_lists 132 = .ok (.bipush 10, 2) := by decide +kernel
theorem dX6_lists_134 : decode cX6_lists 134 = .ok (.invokevirtual 193, 3) := by decide +kernel
theorem dX6_lists_137 : decode cX6_lists 137 = .ok (.ireturn, 1) := by decide +kernel
theorem dX6_lists_138 : decode cX6_lists 138 = .ok (.aload_n 0, 1) := by decide +kernel
theorem dX6_lists_139 : decode cX6_lists 139 = .ok (.aload_n 3, 1) := by decide +kernel
theorem dX6_lists_140 : decode cX6_lists 140 = .ok (.invokevirtual 197, 3) := by decide +kernel
theorem dX6_lists_143 : decode cX6_lists 143 = .ok (.ireturn, 1) := by decide +kernel
theorem dX6_lists_144 : decode cX6_lists 144 = .ok (.iload_n 2, 1) := by decide +kernel
theorem dX6_lists_145 : decode cX6_lists 145 = .ok (.bipush 20, 2) := by decide +kernel
theorem dX6_lists_147 : decode cX6_lists 147 = .ok (.if_icmp .ge 19, 3) := by decide +kernel
theorem dX6_lists_150 : decode cX6_lists 150 = .ok (.aload_n 0, 1) := by decide +kernel
theorem dX6_lists_151 : decode cX6_lists 151 = .ok (.aload_n 3, 1) := by decide +kernel
theorem dX6_lists_152 : decode cX6_lists 152 = .ok (.bipush 13, 2) := by decide +kernel
theorem dX6_lists_154 : decode cX6_lists 154 = .ok (.iload_n 2, 1) := by decide +kernel
theorem dX6_lists_155 : decode cX6_lists 155 = .ok (.bipush 10, 2) := by decide +kernel
theorem dX6_lists_157 : decode cX6_lists 157 = .ok (.irem, 1) := by decide +kernel
theorem dX6_lists_158 : decode cX6_lists 158 = .ok (.bipush 6, 2) := by decide +kernel
theorem dX6_lists_160 : decode cX6_lists 160 = .ok (.invokevirtual 193, 3) := by decide +kernel
theorem dX6_lists_163 : decode cX6_lists 163 = .ok (.goto 16, 3) := by decide +kernel
theorem dX6_lists_166 : decode cX6_lists 166 = .ok (.aload_n 0, 1) := by decide +kernel
theorem dX6_lists_167 : decode cX6_lists 167 = .ok (.aload_n 3, 1) := by decide +kernel
theorem dX6_lists_168 : decode cX6_lists 168 = .ok (.bipush 8, 2) := by decide +kernel
theorem dX6_lists_170 : decode cX6_lists 170 = .ok (.iload_n 2, 1) := by decide +kernel
theorem dX6_lists_171 : decode cX6_lists 171 = .ok (.bipush 10, 2) := by decide +kernel
theorem dX6_lists_173 : decode cX6_lists 173 = .ok (.irem, 1) := by decide +kernel
theorem dX6_lists_174 : decode cX6_lists 174 = .ok (.bipush 10, 2) := by decide +kernel
theorem dX6_lists_176 : decode cX6_lists 176 = .ok (.invokevirtual 193, 3) := by decide +kernel
theorem dX6_lists_179 : decode cX6_lists 179 = .ok (.ireturn, 1) := by decide +kernel
theorem dX6_film_0 : decode cX6_film 0 = .ok (.iload_n 1, 1) := by decide +kernel
theorem dX6_film_1 : decode cX6_film 1 = .ok (.iconst 4, 1) := by decide +kernel
theorem dX6_film_2 : decode cX6_film 2 = .ok (.invokestatic 88, 3) := by decide +kernel
theorem dX6_film_5 : decode cX6_film 5 = .ok (.ifCond .ne 6, 3) := by decide +kernel
theorem dX6_film_8 : decode cX6_film 8 = .ok (.bipush (-2), 2) := by decide +kernel
theorem dX6_film_10 : decode cX6_film 10 = .ok (.ireturn, 1) := by decide +kernel
theorem dX6_film_11 : decode cX6_film 11 = .ok (.aload_n 0, 1) := by decide +kernel
theorem dX6_film_12 : decode cX6_film 12 = .ok (.getfield 45, 3) := by decide +kernel
theorem dX6_film_15 : decode cX6_film 15 = .ok (.iload_n 1, 1) := by decide +kernel
theorem dX6_film_16 : decode cX6_film 16 = .ok (.aaload, 1) := by decide +kernel
theorem dX6_film_17 : decode cX6_film 17 = .ok (.astore_n 2, 1) := by decide +kernel
theorem dX6_film_18 : decode cX6_film 18 = .ok (.aload_n 0, 1) := by decide +kernel
theorem dX6_film_19 : decode cX6_film 19 = .ok (.getfield 56, 3) := by decide +kernel
theorem dX6_film_22 : decode cX6_film 22 = .ok (.aload_n 0, 1) := by decide +kernel
theorem dX6_film_23 : decode cX6_film 23 = .ok (.getfield 10, 3) := by decide +kernel
theorem dX6_film_26 : decode cX6_film 26 = .ok (.aload_n 0, 1) := by decide +kernel
theorem dX6_film_27 : decode cX6_film 27 = .ok (.getfield 10, 3) := by decide +kernel
theorem dX6_film_30 : decode cX6_film 30 = .ok (.invokevirtual 119, 3) := by decide +kernel
theorem dX6_film_33 : decode cX6_film 33 = .ok (.invokevirtual 122, 3) := by decide +kernel
theorem dX6_film_36 : decode cX6_film 36 = .ok (.pop, 1) := by decide +kernel
theorem dX6_film_37 : decode cX6_film 37 = .ok (.aload_n 2, 1) := by decide +kernel
theorem dX6_film_38 : decode cX6_film 38 = .ok (.iconst 1, 1) := by decide +kernel
theorem dX6_film_39 : decode cX6_film 39 = .ok (.aload_n 0, 1) := by decide +kernel
theorem dX6_film_40 : decode cX6_film 40 = .ok (.getfield 10, 3) := by decide +kernel
theorem dX6_film_43 : decode cX6_film 43 = .ok (.getfield 95, 3) := by decide +kernel
theorem dX6_film_46 : decode cX6_film 46 = .ok (.invokevirtual 200, 3) := by decide +kernel
theorem dX6_film_49 : decode cX6_film 49 = .ok (.iconst 0, 1) := by decide +kernel
theorem dX6_film_50 : decode cX6_film 50 = .ok (.istore_n 3, 1) := by decide +kernel
theorem dX6_film_51 : decode cX6_film 51 = .ok (.iload_n 3, 1) := by decide +kernel
theorem dX6_film_52 : decode cX6_film 52 = .ok (.aload_n 0, 1) := by decide +kernel
theorem dX6_film_53 : decode cX6_film 53 = .ok (.getfield 10, 3) := by decide +kernel
theorem dX6_film_56 : decode cX6_film 56 = .ok (.getfield 95, 3) := by decide +kernel
theorem dX6_film_59 : decode cX6_film 59 = .ok (.if_icmp .ge 22, 3) := by decide +kernel
theorem dX6_film_62 : decode cX6_film 62 = .ok (.aload_n 2, 1) := by decide +kernel
theorem dX6_film_63 : decode cX6_film 63 = .ok (.iload_n 3, 1) := by decide +kernel
theorem dX6_film_64 : decode cX6_film 64 = .ok (.aload_n 0, 1) := by decide +kernel
theorem dX6_film_65 : decode cX6_film 65 = .ok (.getfield 56, 3) := by decide +kernel
theorem dX6_film_68 : decode cX6_film 68 = .ok (.iload_n 3, 1) := by decide +kernel
theorem dX6_film_69 : decode cX6_film 69 = .ok (.invokevirtual 203, 3) := by decide +kernel
theorem dX6_film_72 : decode cX6_film 72 = .ok (.invokevirtual 206, 3) := by decide +kernel
theorem dX6_film_75 : decode cX6_film 75 = .ok (.iinc 3 1, 3) := by decide +kernel
theorem dX6_film_78 : decode cX6_film 78 = .ok (.goto (-27), 3) := by decide +kernel
theorem dX6_film_81 : decode cX6_film 81 = .ok (.aload_n 0, 1) := by decide +kernel
theorem dX6_film_82 : decode cX6_film 82 = .ok (.getfield 10, 3) := by decide +kernel
theorem dX6_film_85 : decode cX6_film 85 = .ok (.getfield 95, 3) := by decide +kernel
theorem dX6_film_88 : decode cX6_film 88 = .ok (.ireturn, 1) := by decide +kernel
theorem dX6_drawn_0 : decode cX6_drawn 0 = .ok (.aload_n 0, 1) := by decide +kernel
theorem dX6_drawn_1 : decode cX6_drawn 1 = .ok (.iload_n 1, 1) := by decide +kernel
theorem dX6_drawn_2 : decode cX6_drawn 2 = .ok (.invokevirtual 209, 3) := by decide +kernel
theorem dX6_drawn_5 : decode cX6_drawn 5 = .ok (.ireturn, 1) := by decide +kernel
theorem dX6_chance_0 : decode cX6_chance 0 = .ok (.iload_n 2, 1) := by decide +kernel
theorem dX6_chance_1 : decode cX6_chance 1 = .ok (.iconst 1, 1) := by decide +kernel
theorem dX6_chance_2 : decode cX6_chance 2 = .ok (.if_icmp .lt 17, 3) := by decide +kernel
theorem dX6_chance_5 : decode cX6_chance 5 = .ok (.iload_n 2, 1) := by decide +kernel
theorem dX6_chance_6 : decode cX6_chance 6 = .ok (.bipush 20, 2) := by decide +kernel
theorem dX6_chance_8 : decode cX6_chance 8 = .ok (.if_icmp .gt 11, 3) := by decide +kernel
theorem dX6_chance_11 : decode cX6_chance 11 = .ok (.iload_n 3, 1) := by decide +kernel
theorem dX6_chance_12 : decode cX6_chance 12 = .ok (.iconst 2, 1) := by decide +kernel
theorem dX6_chance_13 : decode cX6_chance 13 = .ok (.invokestatic 88, 3) := by decide +kernel
theorem dX6_chance_16 : decode cX6_chance 16 = .ok (.ifCond .ne 7, 3) := by decide +kernel
theorem dX6_chance_19 : decode cX6_chance 19 = .ok (.ldc2_w 212, 3) := by decide +kernel
theorem dX6_chance_22 : decode cX6_chance 22 = .ok (.lreturn, 1) := by decide +kernel
theorem dX6_chance_23 : decode cX6_chance 23 = .ok (.aload_n 0, 1) := by decide +kernel
theorem dX6_chance_24 : decode cX6_chance 24 = .ok (.invokevirtual 175, 3) := by decide +kernel
theorem dX6_chance_27 : decode cX6_chance 27 = .ok (.istore 4, 2) := by decide +kernel
theorem dX6_chance_29 : decode cX6_chance 29 = .ok (.iconst 0, 1) := by decide +kernel
theorem dX6_chance_30 : decode cX6_chance 30 = .ok (.istore 5, 2) := by decide +kernel
theorem dX6_chance_32 : decode cX6_chance 32 = .ok (.iconst 0, 1) := by decide +kernel
theorem dX6_chance_33 : decode cX6_chance 33 = .ok (.istore 6, 2) := by decide +kernel
theorem dX6_chance_35 : decode cX6_chance 35 = .ok (.iload 6, 2) := by decide +kernel
theorem dX6_chance_37 : decode cX6_chance 37 = .ok (.iload_n 2, 1) := by decide +kernel
theorem dX6_chance_38 : decode cX6_chance 38 = .ok (.if_icmp .ge 25, 3) := by decide +kernel
theorem dX6_chance_41 : decode cX6_chance 41 = .ok (.aload_n 0, 1) := by decide +kernel
theorem dX6_chance_42 : decode cX6_chance 42 = .ok (.iload_n 1, 1) := by decide +kernel
theorem dX6_chance_43 : decode cX6_chance 43 = .ok (.iload 6, 2) := by decide +kernel
theorem dX6_chance_45 : decode cX6_chance 45 = .ok (.iadd, 1) := by decide +kernel
theorem dX6_chance_46 : decode cX6_chance 46 = .ok (.invokevirtual 209, 3) := by decide +kernel
theorem dX6_chance_49 : decode cX6_chance 49 = .ok (.iload 4, 2) := by decide +kernel
theorem dX6_chance_51 : decode cX6_chance 51 = .ok (.if_icmp .lt 6, 3) := by decide +kernel
theorem dX6_chance_54 : decode cX6_chance 54 = .ok (.iinc 5 1, 3) := by decide +kernel
theorem dX6_chance_57 : decode cX6_chance 57 = .ok (.iinc 6 1, 3) := by decide +kernel
theorem dX6_chance_60 : decode cX6_chance 60 = .ok (.goto (-25), 3) := by decide +kernel
theorem dX6_chance_63 : decode cX6_chance 63 = .ok (.iload_n 3, 1) := by decide +kernel
theorem dX6_chance_64 : decode cX6_chance 64 = .ok (.ifCond .ne 15, 3) := by decide +kernel
theorem dX6_chance_67 : decode cX6_chance 67 = .ok (.iload 5, 2) := by decide +kernel
theorem dX6_chance_69 : decode cX6_chance 69 = .ok (.iload 5, 2) := by decide +kernel
theorem dX6_chance_71 : decode cX6_chance 71 = .ok (.iload_n 2, 1) := by decide +kernel
theorem dX6_chance_72 : decode cX6_chance 72 = .ok (.invokestatic 214, 3) := by decide +kernel
theorem dX6_chance_75 : decode cX6_chance 75 = .ok (.i2l, 1) := by decide +kernel
theorem dX6_chance_76 : decode cX6_chance 76 = .ok (.goto 11, 3) := by decide +kernel
theorem dX6_chance_79 : decode cX6_chance 79 = .ok (.iload_n 2, 1) := by decide +kernel
theorem dX6_chance_80 : decode cX6_chance 80 = .ok (.iload 5, 2) := by decide +kernel
theorem dX6_chance_82 : decode cX6_chance 82 = .ok (.iload_n 2, 1) := by decide +kernel
theorem dX6_chance_83 : decode cX6_chance 83 = .ok (.invokestatic 214, 3) := by decide +kernel
theorem dX6_chance_86 : decode cX6_chance 86 = .ok (.i2l, 1) := by decide +kernel
theorem dX6_chance_87 : decode cX6_chance 87 = .ok (.lreturn, 1) := by decide +kernel
theorem dX6_image_0 : decode cX6_image 0 = .ok (.aload_n 0, 1) := by decide +kernel
theorem dX6_image_1 : decode cX6_image 1 = .ok (.getfield 16, 3) := by decide +kernel
theorem dX6_image_4 : decode cX6_image 4 = .ok (.aload_n 0, 1) := by decide +kernel
theorem dX6_image_5 : decode cX6_image 5 = .ok (.getfield 10, 3) := by decide +kernel
theorem dX6_image_8 : decode cX6_image 8 = .ok (.invokevirtual 166, 3) := by decide +kernel
theorem dX6_image_11 : decode cX6_image 11 = .ok (.aload_n 0, 1) := by decide +kernel
theorem dX6_image_12 : decode cX6_image 12 = .ok (.iconst 1, 1) := by decide +kernel
theorem dX6_image_13 : decode cX6_image 13 = .ok (.putfield 22, 3) := by decide +kernel
theorem dX6_image_16 : decode cX6_image 16 = .ok (.aload_n 0, 1) := by decide +kernel
theorem dX6_image_17 : decode cX6_image 17 = .ok (.getfield 16, 3) := by decide +kernel
theorem dX6_image_20 : decode cX6_image 20 = .ok (.getfield 95, 3) := by decide +kernel
theorem dX6_image_23 : decode cX6_image 23 = .ok (.ireturn, 1) := by decide +kernel
theorem dX6_back_0 : decode cX6_back 0 = .ok (.aload_n 0, 1) := by decide +kernel
theorem dX6_back_1 : decode cX6_back 1 = .ok (.getfield 22, 3) := by decide +kernel
theorem dX6_back_4 : decode cX6_back 4 = .ok (.ifCond .ne 6, 3) := by decide +kernel
theorem dX6_back_7 : decode cX6_back 7 = .ok (.bipush (-3), 2) := by decide +kernel
theorem dX6_back_9 : decode cX6_back 9 = .ok (.ireturn, 1) := by decide +kernel
theorem dX6_back_10 : decode cX6_back 10 = .ok (.aload_n 0, 1) := by decide +kernel
theorem dX6_back_11 : decode cX6_back 11 = .ok (.getfield 10, 3) := by decide +kernel
theorem dX6_back_14 : decode cX6_back 14 = .ok (.aload_n 0, 1) := by decide +kernel
theorem dX6_back_15 : decode cX6_back 15 = .ok (.getfield 16, 3) := by decide +kernel
theorem dX6_back_18 : decode cX6_back 18 = .ok (.invokevirtual 166, 3) := by decide +kernel
theorem dX6_back_21 : decode cX6_back 21 = .ok (.aload_n 0, 1) := by decide +kernel
theorem dX6_back_22 : decode cX6_back 22 = .ok (.getfield 10, 3) := by decide +kernel
theorem dX6_back_25 : decode cX6_back 25 = .ok (.getfield 95, 3) := by decide +kernel
theorem dX6_back_28 : decode cX6_back 28 = .ok (.ireturn, 1) := by decide +kernel
theorem dX6_count_0 : decode cX6_count 0 = .ok (.iload_n 1, 1) := by decide +kernel
theorem dX6_count_1 : decode cX6_count 1 = .ok (.tableswitch 60 0 3 #[31, 39, 44, 52], 31) := by decide +kernel
theorem dX6_count_32 : decode cX6_count 32 = .ok (.aload_n 0, 1) := by decide +kernel
theorem dX6_count_33 : decode cX6_count 33 = .ok (.getfield 10, 3) := by decide +kernel
theorem dX6_count_36 : decode cX6_count 36 = .ok (.getfield 95, 3) := by decide +kernel
theorem dX6_count_39 : decode cX6_count 39 = .ok (.ireturn, 1) := by decide +kernel
theorem dX6_count_40 : decode cX6_count 40 = .ok (.aload_n 0, 1) := by decide +kernel
theorem dX6_count_41 : decode cX6_count 41 = .ok (.getfield 39, 3) := by decide +kernel
theorem dX6_count_44 : decode cX6_count 44 = .ok (.ireturn, 1) := by decide +kernel
theorem dX6_count_45 : decode cX6_count 45 = .ok (.aload_n 0, 1) := by decide +kernel
theorem dX6_count_46 : decode cX6_count 46 = .ok (.getfield 29, 3) := by decide +kernel
theorem dX6_count_49 : decode cX6_count 49 = .ok (.getfield 217, 3) := by decide +kernel
theorem dX6_count_52 : decode cX6_count 52 = .ok (.ireturn, 1) := by decide +kernel
theorem dX6_count_53 : decode cX6_count 53 = .ok (.aload_n 0, 1) := by decide +kernel
theorem dX6_count_54 : decode cX6_count 54 = .ok (.getfield 10, 3) := by decide +kernel
theorem dX6_count_57 : decode cX6_count 57 = .ok (.getfield 111, 3) := by decide +kernel
theorem dX6_count_60 : decode cX6_count 60 = .ok (.ireturn, 1) := by decide +kernel
theorem dX6_count_61 : decode cX6_count 61 = .ok (.bipush (-2), 2) := by decide +kernel
theorem dX6_count_63 : decode cX6_count 63 = .ok (.ireturn, 1) := by decide +kernel
theorem dX6_sheet_0 : decode cX6_sheet 0 = .ok (.iload_n 1, 1) := by decide +kernel
theorem dX6_sheet_1 : decode cX6_sheet 1 = .ok (.iconst 4, 1) := by decide +kernel
theorem dX6_sheet_2 : decode cX6_sheet 2 = .ok (.invokestatic 88, 3) := by decide +kernel
theorem dX6_sheet_5 : decode cX6_sheet 5 = .ok (.ifCond .eq 15, 3) := by decide +kernel
theorem dX6_sheet_8 : decode cX6_sheet 8 = .ok (.iload_n 2, 1) := by decide +kernel
theorem dX6_sheet_9 : decode cX6_sheet 9 = .ok (.iconst (-1), 1) := by decide +kernel
theorem dX6_sheet_10 : decode cX6_sheet 10 = .ok (.if_icmp .eq 13, 3) := by decide +kernel
theorem dX6_sheet_13 : decode cX6_sheet 13 = .ok (.iload_n 2, 1) := by decide +kernel
theorem dX6_sheet_14 : decode cX6_sheet 14 = .ok (.invokestatic 218, 3) := by decide +kernel
theorem dX6_sheet_17 : decode cX6_sheet 17 = .ok (.ifCond .ne 6, 3) := by decide +kernel
theorem dX6_sheet_20 : decode cX6_sheet 20 = .ok (.bipush (-2), 2) := by decide +kernel
theorem dX6_sheet_22 : decode cX6_sheet 22 = .ok (.ireturn, 1) := by decide +kernel
theorem dX6_sheet_23 : decode cX6_sheet 23 = .ok (.iload_n 2, 1) := by decide +kernel
theorem dX6_sheet_24 : decode cX6_sheet 24 = .ok (.iconst (-1), 1) := by decide +kernel
theorem dX6_sheet_25 : decode cX6_sheet 25 = .ok (.if_icmp .ne 16, 3) := by decide +kernel
theorem dX6_sheet_28 : decode cX6_sheet 28 = .ok (.aload_n 0, 1) := by decide +kernel
theorem dX6_sheet_29 : decode cX6_sheet 29 = .ok (.getfield 45, 3) := by decide +kernel
theorem dX6_sheet_32 : decode cX6_sheet 32 = .ok (.iload_n 1, 1) := by decide +kernel
theorem dX6_sheet_33 : decode cX6_sheet 33 = .ok (.aaload, 1) := by decide +kernel
theorem dX6_sheet_34 : decode cX6_sheet 34 = .ok (.iconst (-1), 1) := by decide +kernel
theorem dX6_sheet_35 : decode cX6_sheet 35 = .ok (.iconst 0, 1) := by decide +kernel
theorem dX6_sheet_36 : decode cX6_sheet 36 = .ok (.invokevirtual 200, 3) := by decide +kernel
theorem dX6_sheet_39 : decode cX6_sheet 39 = .ok (.iconst 1, 1) := by decide +kernel
theorem dX6_sheet_40 : decode cX6_sheet 40 = .ok (.ireturn, 1) := by decide +kernel
theorem dX6_sheet_41 : decode cX6_sheet 41 = .ok (.iload_n 3, 1) := by decide +kernel
theorem dX6_sheet_42 : decode cX6_sheet 42 = .ok (.bipush 40, 2) := by decide +kernel
theorem dX6_sheet_44 : decode cX6_sheet 44 = .ok (.if_icmp .le 6, 3) := by decide +kernel
theorem dX6_sheet_47 : decode cX6_sheet 47 = .ok (.bipush (-2), 2) := by decide +kernel
theorem dX6_sheet_49 : decode cX6_sheet 49 = .ok (.ireturn, 1) := by decide +kernel
theorem dX6_sheet_50 : decode cX6_sheet 50 = .ok (.iload_n 3, 1) := by decide +kernel
theorem dX6_sheet_51 : decode cX6_sheet 51 = .ok (.ifCond .ge 6, 3) := by decide +kernel
theorem dX6_sheet_54 : decode cX6_sheet 54 = .ok (.bipush (-14), 2) := by decide +kernel
theorem dX6_sheet_56 : decode cX6_sheet 56 = .ok (.ireturn, 1) := by decide +kernel
theorem dX6_sheet_57 : decode cX6_sheet 57 = .ok (.aload_n 0, 1) := by decide +kernel
theorem dX6_sheet_58 : decode cX6_sheet 58 = .ok (.getfield 45, 3) := by decide +kernel
theorem dX6_sheet_61 : decode cX6_sheet 61 = .ok (.iload_n 1, 1) := by decide +kernel
theorem dX6_sheet_62 : decode cX6_sheet 62 = .ok (.aaload, 1) := by decide +kernel
theorem dX6_sheet_63 : decode cX6_sheet 63 = .ok (.iload_n 2, 1) := by decide +kernel
theorem dX6_sheet_64 : decode cX6_sheet 64 = .ok (.iload_n 3, 1) := by decide +kernel
theorem dX6_sheet_65 : decode cX6_sheet 65 = .ok (.invokevirtual 200, 3) := by decide +kernel
theorem dX6_sheet_68 : decode cX6_sheet 68 = .ok (.iconst 1, 1) := by decide +kernel
theorem dX6_sheet_69 : decode cX6_sheet 69 = .ok (.ireturn, 1) := by decide +kernel
theorem dX6_cell_0 : decode cX6_cell 0 = .ok (.iload_n 1, 1) := by decide +kernel
theorem dX6_cell_1 : decode cX6_cell 1 = .ok (.iconst 4, 1) := by decide +kernel
theorem dX6_cell_2 : decode cX6_cell 2 = .ok (.invokestatic 88, 3) := by decide +kernel
theorem dX6_cell_5 : decode cX6_cell 5 = .ok (.ifCond .ne 6, 3) := by decide +kernel
theorem dX6_cell_8 : decode cX6_cell 8 = .ok (.bipush (-2), 2) := by decide +kernel
theorem dX6_cell_10 : decode cX6_cell 10 = .ok (.ireturn, 1) := by decide +kernel
theorem dX6_cell_11 : decode cX6_cell 11 = .ok (.aload_n 0, 1) := by decide +kernel
theorem dX6_cell_12 : decode cX6_cell 12 = .ok (.getfield 45, 3) := by decide +kernel
theorem dX6_cell_15 : decode cX6_cell 15 = .ok (.iload_n 1, 1) := by decide +kernel
theorem dX6_cell_16 : decode cX6_cell 16 = .ok (.aaload, 1) := by decide +kernel
theorem dX6_cell_17 : decode cX6_cell 17 = .ok (.astore 4, 2) := by decide +kernel
theorem dX6_cell_19 : decode cX6_cell 19 = .ok (.aload 4, 2) := by decide +kernel
theorem dX6_cell_21 : decode cX6_cell 21 = .ok (.invokevirtual 181, 3) := by decide +kernel
theorem dX6_cell_24 : decode cX6_cell 24 = .ok (.ifCond .eq 6, 3) := by decide +kernel
theorem dX6_cell_27 : decode cX6_cell 27 = .ok (.bipush (-11), 2) := by decide +kernel
theorem dX6_cell_29 : decode cX6_cell 29 = .ok (.ireturn, 1) := by decide +kernel
theorem dX6_cell_30 : decode cX6_cell 30 = .ok (.iload_n 2, 1) := by decide +kernel
theorem dX6_cell_31 : decode cX6_cell 31 = .ok (.aload 4, 2) := by decide +kernel
theorem dX6_cell_33 : decode cX6_cell 33 = .ok (.getfield 137, 3) := by decide +kernel
theorem dX6_cell_36 : decode cX6_cell 36 = .ok (.invokestatic 88, 3) := by decide +kernel
theorem dX6_cell_39 : decode cX6_cell 39 = .ok (.ifCond .ne 6, 3) := by decide +kernel
theorem dX6_cell_42 : decode cX6_cell 42 = .ok (.bipush (-12), 2) := by decide +kernel
theorem dX6_cell_44 : decode cX6_cell 44 = .ok (.ireturn, 1) := by decide +kernel
theorem dX6_cell_45 : decode cX6_cell 45 = .ok (.aload 4, 2) := by decide +kernel
theorem dX6_cell_47 : decode cX6_cell 47 = .ok (.iload_n 2, 1) := by decide +kernel
theorem dX6_cell_48 : decode cX6_cell 48 = .ok (.iload_n 3, 1) := by decide +kernel
theorem dX6_cell_49 : decode cX6_cell 49 = .ok (.invokevirtual 206, 3) := by decide +kernel
theorem dX6_cell_52 : decode cX6_cell 52 = .ok (.iconst 1, 1) := by decide +kernel
theorem dX6_cell_53 : decode cX6_cell 53 = .ok (.ireturn, 1) := by decide +kernel
theorem dX6_copy_0 : decode cX6_copy 0 = .ok (.iload_n 1, 1) := by decide +kernel
theorem dX6_copy_1 : decode cX6_copy 1 = .ok (.iconst 4, 1) := by decide +kernel
theorem dX6_copy_2 : decode cX6_copy 2 = .ok (.invokestatic 88, 3) := by decide +kernel
theorem dX6_copy_5 : decode cX6_copy 5 = .ok (.ifCond .eq 11, 3) := by decide +kernel
theorem dX6_copy_8 : decode cX6_copy 8 = .ok (.iload_n 3, 1) := by decide +kernel
theorem dX6_copy_9 : decode cX6_copy 9 = .ok (.iconst 4, 1) := by decide +kernel
theorem dX6_copy_10 : decode cX6_copy 10 = .ok (.invokestatic 88, 3) := by decide +kernel
theorem dX6_copy_13 : decode cX6_copy 13 = .ok (.ifCond .ne 6, 3) := by decide +kernel
theorem dX6_copy_16 : decode cX6_copy 16 = .ok (.bipush (-2), 2) := by decide +kernel
theorem dX6_copy_18 : decode cX6_copy 18 = .ok (.ireturn, 1) := by decide +kernel
theorem dX6_copy_19 : decode cX6_copy 19 = .ok (.aload_n 0, 1) := by decide +kernel
theorem dX6_copy_20 : decode cX6_copy 20 = .ok (.getfield 45, 3) := by decide +kernel
theorem dX6_copy_23 : decode cX6_copy 23 = .ok (.iload_n 1, 1) := by decide +kernel
theorem dX6_copy_24 : decode cX6_copy 24 = .ok (.aaload, 1) := by decide +kernel
theorem dX6_copy_25 : decode cX6_copy 25 = .ok (.astore 6, 2) := by decide +kernel
theorem dX6_copy_27 : decode cX6_copy 27 = .ok (.aload_n 0, 1) := by decide +kernel
theorem dX6_copy_28 : decode cX6_copy 28 = .ok (.getfield 45, 3) := by decide +kernel
theorem dX6_copy_31 : decode cX6_copy 31 = .ok (.iload_n 3, 1) := by decide +kernel
theorem dX6_copy_32 : decode cX6_copy 32 = .ok (.aaload, 1) := by decide +kernel
theorem dX6_copy_33 : decode cX6_copy 33 = .ok (.astore 7, 2) := by decide +kernel
theorem dX6_copy_35 : decode cX6_copy 35 = .ok (.aload 6, 2) := by decide +kernel
theorem dX6_copy_37 : decode cX6_copy 37 = .ok (.invokevirtual 181, 3) := by decide +kernel
theorem dX6_copy_40 : decode cX6_copy 40 = .ok (.ifCond .ne 11, 3) := by decide +kernel
theorem dX6_copy_43 : decode cX6_copy 43 = .ok (.aload 7, 2) := by decide +kernel
theorem dX6_copy_45 : decode cX6_copy 45 = .ok (.invokevirtual 181, 3) := by decide +kernel
theorem dX6_copy_48 : decode cX6_copy 48 = .ok (.ifCond .eq 6, 3) := by decide +kernel
theorem dX6_copy_51 : decode cX6_copy 51 = .ok (.bipush (-11), 2) := by decide +kernel
theorem dX6_copy_53 : decode cX6_copy 53 = .ok (.ireturn, 1) := by decide +kernel
theorem dX6_copy_54 : decode cX6_copy 54 = .ok (.aload 6, 2) := by decide +kernel
theorem dX6_copy_56 : decode cX6_copy 56 = .ok (.getfield 221, 3) := by decide +kernel
theorem dX6_copy_59 : decode cX6_copy 59 = .ok (.aload 7, 2) := by decide +kernel
theorem dX6_copy_61 : decode cX6_copy 61 = .ok (.getfield 221, 3) := by decide +kernel
theorem dX6_copy_64 : decode cX6_copy 64 = .ok (.if_icmp .eq 6, 3) := by decide +kernel
theorem dX6_copy_67 : decode cX6_copy 67 = .ok (.bipush (-13), 2) := by decide +kernel
theorem dX6_copy_69 : decode cX6_copy 69 = .ok (.ireturn, 1) := by decide +kernel
theorem dX6_copy_70 : decode cX6_copy 70 = .ok (.aload 6, 2) := by decide +kernel
theorem dX6_copy_72 : decode cX6_copy 72 = .ok (.iload_n 2, 1) := by decide +kernel
theorem dX6_copy_73 : decode cX6_copy 73 = .ok (.iload 5, 2) := by decide +kernel
theorem dX6_copy_75 : decode cX6_copy 75 = .ok (.invokevirtual 224, 3) := by decide +kernel
theorem dX6_copy_78 : decode cX6_copy 78 = .ok (.ifCond .eq 15, 3) := by decide +kernel
theorem dX6_copy_81 : decode cX6_copy 81 = .ok (.aload 7, 2) := by decide +kernel
theorem dX6_copy_83 : decode cX6_copy 83 = .ok (.iload 4, 2) := by decide +kernel
theorem dX6_copy_85 : decode cX6_copy 85 = .ok (.iload 5, 2) := by decide +kernel
theorem dX6_copy_87 : decode cX6_copy 87 = .ok (.invokevirtual 224, 3) := by decide +kernel
theorem dX6_copy_90 : decode cX6_copy 90 = .ok (.ifCond .ne 6, 3) := by decide +kernel
theorem dX6_copy_93 : decode cX6_copy 93 = .ok (.bipush (-12), 2) := by decide +kernel
theorem dX6_copy_95 : decode cX6_copy 95 = .ok (.ireturn, 1) := by decide +kernel
theorem dX6_copy_96 : decode cX6_copy 96 = .ok (.aload 6, 2) := by decide +kernel
theorem dX6_copy_98 : decode cX6_copy 98 = .ok (.getfield 227, 3) := by decide +kernel
theorem dX6_copy_101 : decode cX6_copy 101 = .ok (.iload_n 2, 1) := by decide +kernel
theorem dX6_copy_102 : decode cX6_copy 102 = .ok (.aload 7, 2) := by decide +kernel
theorem dX6_copy_104 : decode cX6_copy 104 = .ok (.getfield 227, 3) := by decide +kernel
theorem dX6_copy_107 : decode cX6_copy 107 = .ok (.iload 4, 2) := by decide +kernel
theorem dX6_copy_109 : decode cX6_copy 109 = .ok (.iload 5, 2) := by decide +kernel
theorem dX6_copy_111 : decode cX6_copy 111 = .ok (.invokestatic 231, 3) := by decide +kernel
theorem dX6_copy_114 : decode cX6_copy 114 = .ok (.iload 5, 2) := by decide +kernel
theorem dX6_copy_116 : decode cX6_copy 116 = .ok (.ireturn, 1) := by decide +kernel
theorem dX6_sights_0 : decode cX6_sights 0 = .ok (.iload_n 1, 1) := by decide +kernel
theorem dX6_sights_1 : decode cX6_sights 1 = .ok (.iconst 4, 1) := by decide +kernel
theorem dX6_sights_2 : decode cX6_sights 2 = .ok (.invokestatic 88, 3) := by decide +kernel
theorem dX6_sights_5 : decode cX6_sights 5 = .ok (.ifCond .eq 20, 3) := by decide +kernel
theorem dX6_sights_8 : decode cX6_sights 8 = .ok (.iload_n 2, 1) := by decide +kernel
theorem dX6_sights_9 : decode cX6_sights 9 = .ok (.invokestatic 218, 3) := by decide +kernel
theorem dX6_sights_12 : decode cX6_sights 12 = .ok (.ifCond .eq 13, 3) := by decide +kernel
theorem dX6_sights_15 : decode cX6_sights 15 = .ok (.iload 4, 2) := by decide +kernel
theorem dX6_sights_17 : decode cX6_sights 17 = .ok (.bipush 8, 2) := by decide +kernel
theorem dX6_sights_19 : decode cX6_sights 19 = .ok (.invokestatic 88, 3) := by decide +kernel
theorem dX6_sights_22 : decode cX6_sights 22 = .ok (.ifCond .ne 6, 3) := by decide +kernel
theorem dX6_sights_25 : decode cX6_sights 25 = .ok (.bipush (-2), 2) := by decide +kernel
theorem dX6_sights_27 : decode cX6_sights 27 = .ok (.ireturn, 1) := by decide +kernel
theorem dX6_sights_28 : decode cX6_sights 28 = .ok (.aload_n 0, 1) := by decide +kernel
theorem dX6_sights_29 : decode cX6_sights 29 = .ok (.getfield 45, 3) := by decide +kernel
theorem dX6_sights_32 : decode cX6_sights 32 = .ok (.iload_n 1, 1) := by decide +kernel
theorem dX6_sights_33 : decode cX6_sights 33 = .ok (.aaload, 1) := by decide +kernel
theorem dX6_sights_34 : decode cX6_sights 34 = .ok (.astore 5, 2) := by decide +kernel
theorem dX6_sights_36 : decode cX6_sights 36 = .ok (.aload 5, 2) := by decide +kernel
theorem dX6_sights_38 : decode cX6_sights 38 = .ok (.invokevirtual 181, 3) := by decide +kernel
theorem dX6_sights_41 : decode cX6_sights 41 = .ok (.ifCond .ne 15, 3) := by decide +kernel
theorem dX6_sights_44 : decode cX6_sights 44 = .ok (.aload 5, 2) := by decide +kernel
theorem dX6_sights_46 : decode cX6_sights 46 = .ok (.getfield 221, 3) := by decide +kernel
theorem dX6_sights_49 : decode cX6_sights 49 = .ok (.iload_n 2, 1) := by decide +kernel
theorem dX6_sights_50 : decode cX6_sights 50 = .ok (.if_icmp .eq 6, 3) := by decide +kernel
theorem dX6_sights_53 : decode cX6_sights 53 = .ok (.bipush (-13), 2) := by decide +kernel
theorem dX6_sights_55 : decode cX6_sights 55 = .ok (.ireturn, 1) := by decide +kernel
theorem dX6_sights_56 : decode cX6_sights 56 = .ok (.aload 5, 2) := by decide +kernel
theorem dX6_sights_58 : decode cX6_sights 58 = .ok (.invokevirtual 181, 3) := by decide +kernel
theorem dX6_sights_61 : decode cX6_sights 61 = .ok (.ifCond .eq 6, 3) := by decide +kernel
theorem dX6_sights_64 : decode cX6_sights 64 = .ok (.bipush (-11), 2) := by decide +kernel
theorem dX6_sights_66 : decode cX6_sights 66 = .ok (.ireturn, 1) := by decide +kernel
theorem dX6_sights_67 : decode cX6_sights 67 = .ok (.iconst 0, 1) := by decide +kernel
theorem dX6_sights_68 : decode cX6_sights 68 = .ok (.istore 6, 2) := by decide +kernel
theorem dX6_sights_70 : decode cX6_sights 70 = .ok (.iload_n 3, 1) := by decide +kernel
theorem dX6_sights_71 : decode cX6_sights 71 = .ok (.istore 7, 2) := by decide +kernel
theorem dX6_sights_73 : decode cX6_sights 73 = .ok (.iconst 0, 1) := by decide +kernel
theorem dX6_sights_74 : decode cX6_sights 74 = .ok (.istore 8, 2) := by decide +kernel
theorem dX6_sights_76 : decode cX6_sights 76 = .ok (.iload 8, 2) := by decide +kernel
theorem dX6_sights_78 : decode cX6_sights 78 = .ok (.iload 4, 2) := by decide +kernel
theorem dX6_sights_80 : decode cX6_sights 80 = .ok (.if_icmp .ge 61, 3) := by decide +kernel
theorem dX6_sights_83 : decode cX6_sights 83 = .ok (.aload 5, 2) := by decide +kernel
theorem dX6_sights_85 : decode cX6_sights 85 = .ok (.iload 7, 2) := by decide +kernel
theorem dX6_sights_87 : decode cX6_sights 87 = .ok (.iconst 3, 1) := by decide +kernel
theorem dX6_sights_88 : decode cX6_sights 88 = .ok (.invokevirtual 224, 3) := by decide +kernel
theorem dX6_sights_91 : decode cX6_sights 91 = .ok (.ifCond .ne 6, 3) := by decide +kernel
theorem dX6_sights_94 : decode cX6_sights 94 = .ok (.bipush (-12), 2) := by decide +kernel
theorem dX6_sights_96 : decode cX6_sights 96 = .ok (.ireturn, 1) := by decide +kernel
theorem dX6_sights_97 : decode cX6_sights 97 = .ok (.aload_n 0, 1) := by decide +kernel
theorem dX6_sights_98 : decode cX6_sights 98 = .ok (.aload 5, 2) := by decide +kernel
theorem dX6_sights_100 : decode cX6_sights 100 = .ok (.iload 7, 2) := by decide +kernel
theorem dX6_sights_102 : decode cX6_sights 102 = .ok (.invokevirtual 138, 3) := by decide +kernel
theorem dX6_sights_105 : decode cX6_sights 105 = .ok (.aload 5, 2) := by decide +kernel
theorem dX6_sights_107 : decode cX6_sights 107 = .ok (.iload 7, 2) := by decide +kernel
theorem dX6_sights_109 : decode cX6_sights 109 = .ok (.iconst 1, 1) := by decide +kernel
theorem dX6_sights_110 : decode cX6_sights 110 = .ok (.iadd, 1) := by decide +kernel
theorem dX6_sights_111 : decode cX6_sights 111 = .ok (.invokevirtual 138, 3) := by decide +kernel
theorem dX6_sights_114 : decode cX6_sights 114 = .ok (.aload 5, 2) := by decide +kernel
theorem dX6_sights_116 : decode cX6_sights 116 = .ok (.iload 7, 2) := by decide +kernel
theorem dX6_sights_118 : decode cX6_sights 118 = .ok (.iconst 2, 1) := by decide +kernel
theorem dX6_sights_119 : decode cX6_sights 119 = .ok (.iadd, 1) := by decide +kernel
theorem dX6_sights_120 : decode cX6_sights 120 = .ok (.invokevirtual 138, 3) := by decide +kernel
theorem dX6_sights_123 : decode cX6_sights 123 = .ok (.invokevirtual 237, 3) := by decide +kernel
theorem dX6_sights_126 : decode cX6_sights 126 = .ok (.ifCond .lt 6, 3) := by decide +kernel
theorem dX6_sights_129 : decode cX6_sights 129 = .ok (.iinc 6 1, 3) := by decide +kernel
theorem dX6_sights_132 : decode cX6_sights 132 = .ok (.iinc 7 3, 3) := by decide +kernel
theorem dX6_sights_135 : decode cX6_sights 135 = .ok (.iinc 8 1, 3) := by decide +kernel
theorem dX6_sights_138 : decode cX6_sights 138 = .ok (.goto (-62), 3) := by decide +kernel
theorem dX6_sights_141 : decode cX6_sights 141 = .ok (.iload 6, 2) := by decide +kernel
theorem dX6_sights_143 : decode cX6_sights 143 = .ok (.ireturn, 1) := by decide +kernel
theorem dX6_taken_0 : decode cX6_taken 0 = .ok (.iload_n 2, 1) := by decide +kernel
theorem dX6_taken_1 : decode cX6_taken 1 = .ok (.bipush 6, 2) := by decide +kernel
theorem dX6_taken_3 : decode cX6_taken 3 = .ok (.invokestatic 88, 3) := by decide +kernel
theorem dX6_taken_6 : decode cX6_taken 6 = .ok (.ifCond .ne 6, 3) := by decide +kernel
theorem dX6_taken_9 : decode cX6_taken 9 = .ok (.bipush (-2), 2) := by decide +kernel
theorem dX6_taken_11 : decode cX6_taken 11 = .ok (.ireturn, 1) := by decide +kernel
theorem dX6_taken_12 : decode cX6_taken 12 = .ok (.iload_n 1, 1) := by decide +kernel
theorem dX6_taken_13 : decode cX6_taken 13 = .ok (.aload_n 0, 1) := by decide +kernel
theorem dX6_taken_14 : decode cX6_taken 14 = .ok (.getfield 10, 3) := by decide +kernel
theorem dX6_taken_17 : decode cX6_taken 17 = .ok (.getfield 95, 3) := by decide +kernel
theorem dX6_taken_20 : decode cX6_taken 20 = .ok (.invokestatic 88, 3) := by decide +kernel
theorem dX6_taken_23 : decode cX6_taken 23 = .ok (.ifCond .ne 6, 3) := by decide +kernel
theorem dX6_taken_26 : decode cX6_taken 26 = .ok (.bipush (-11), 2) := by decide +kernel
theorem dX6_taken_28 : decode cX6_taken 28 = .ok (.ireturn, 1) := by decide +kernel
theorem dX6_taken_29 : decode cX6_taken 29 = .ok (.aload_n 0, 1) := by decide +kernel
theorem dX6_taken_30 : decode cX6_taken 30 = .ok (.getfield 10, 3) := by decide +kernel
theorem dX6_taken_33 : decode cX6_taken 33 = .ok (.bipush 13, 2) := by decide +kernel
theorem dX6_taken_35 : decode cX6_taken 35 = .ok (.iload_n 1, 1) := by decide +kernel
theorem dX6_taken_36 : decode cX6_taken 36 = .ok (.invokevirtual 101, 3) := by decide +kernel
theorem dX6_taken_39 : decode cX6_taken 39 = .ok (.iload_n 2, 1) := by decide +kernel
theorem dX6_taken_40 : decode cX6_taken 40 = .ok (.invokestatic 240, 3) := by decide +kernel
theorem dX6_taken_43 : decode cX6_taken 43 = .ok (.ifCond .eq 16, 3) := by decide +kernel
theorem dX6_taken_46 : decode cX6_taken 46 = .ok (.aload_n 0, 1) := by decide +kernel
theorem dX6_taken_47 : decode cX6_taken 47 = .ok (.getfield 10, 3) := by decide +kernel
theorem dX6_taken_50 : decode cX6_taken 50 = .ok (.bipush 8, 2) := by decide +kernel
theorem dX6_taken_52 : decode cX6_taken 52 = .ok (.iload_n 1, 1) := by decide +kernel
theorem dX6_taken_53 : decode cX6_taken 53 = .ok (.invokevirtual 101, 3) := by decide +kernel
theorem dX6_taken_56 : decode cX6_taken 56 = .ok (.goto 5, 3) := by decide +kernel
theorem dX6_taken_59 : decode cX6_taken 59 = .ok (.bipush (-13), 2) := by decide +kernel
theorem dX6_taken_61 : decode cX6_taken 61 = .ok (.ireturn, 1) := by decide +kernel
theorem dX6_isBelow_0 : decode cX6_isBelow 0 = .ok (.iload_n 0, 1) := by decide +kernel
theorem dX6_isBelow_1 : decode cX6_isBelow 1 = .ok (.ifCond .lt 12, 3) := by decide +kernel
theorem dX6_isBelow_4 : decode cX6_isBelow 4 = .ok (.iload_n 0, 1) := by decide +kernel
theorem dX6_isBelow_5 : decode cX6_isBelow 5 = .ok (.iload_n 1, 1) := by decide +kernel
theorem dX6_isBelow_6 : decode cX6_isBelow 6 = .ok (.if_icmp .ge 7, 3) := by decide +kernel
theorem dX6_isBelow_9 : decode cX6_isBelow 9 = .ok (.iconst 1, 1) := by decide +kernel
theorem dX6_isBelow_10 : decode cX6_isBelow 10 = .ok (.goto 4, 3) := by decide +kernel
theorem dX6_isBelow_13 : decode cX6_isBelow 13 = .ok (.iconst 0, 1) := by decide +kernel
theorem dX6_isBelow_14 : decode cX6_isBelow 14 = .ok (.ireturn, 1) := by decide +kernel
theorem dX6_isSort_0 : decode cX6_isSort 0 = .ok (.iload_n 0, 1) := by decide +kernel
theorem dX6_isSort_1 : decode cX6_isSort 1 = .ok (.ifCond .lt 12, 3) := by decide +kernel
theorem dX6_isSort_4 : decode cX6_isSort 4 = .ok (.iload_n 0, 1) := by decide +kernel
theorem dX6_isSort_5 : decode cX6_isSort 5 = .ok (.iconst 2, 1) := by decide +kernel
theorem dX6_isSort_6 : decode cX6_isSort 6 = .ok (.if_icmp .gt 7, 3) := by decide +kernel
theorem dX6_isSort_9 : decode cX6_isSort 9 = .ok (.iconst 1, 1) := by decide +kernel
theorem dX6_isSort_10 : decode cX6_isSort 10 = .ok (.goto 4, 3) := by decide +kernel
theorem dX6_isSort_13 : decode cX6_isSort 13 = .ok (.iconst 0, 1) := by decide +kernel
theorem dX6_isSort_14 : decode cX6_isSort 14 = .ok (.ireturn, 1) := by decide +kernel
theorem dX6_isOfKind_0 : decode cX6_isOfKind 0 = .ok (.iload_n 0, 1) := by decide +kernel
theorem dX6_isOfKind_1 : decode cX6_isOfKind 1 = .ok (.istore_n 2, 1) := by decide +kernel
theorem dX6_isOfKind_2 : decode cX6_isOfKind 2 = .ok (.iconst 0, 1) := by decide +kernel
theorem dX6_isOfKind_3 : decode cX6_isOfKind 3 = .ok (.istore_n 3, 1) := by decide +kernel
theorem dX6_isOfKind_4 : decode cX6_isOfKind 4 = .ok (.iload_n 3, 1) := by decide +kernel
theorem dX6_isOfKind_5 : decode cX6_isOfKind 5 = .ok (.bipush 6, 2) := by decide +kernel
theorem dX6_isOfKind_7 : decode cX6_isOfKind 7 = .ok (.if_icmp .ge 31, 3) := by decide +kernel
theorem dX6_isOfKind_10 : decode cX6_isOfKind 10 = .ok (.iload_n 2, 1) := by decide +kernel
theorem dX6_isOfKind_11 : decode cX6_isOfKind 11 = .ok (.bipush 6, 2) := by decide +kernel
theorem dX6_isOfKind_13 : decode cX6_isOfKind 13 = .ok (.invokestatic 88, 3) := by decide +kernel
theorem dX6_isOfKind_16 : decode cX6_isOfKind 16 = .ok (.ifCond .eq 22, 3) := by decide +kernel
theorem dX6_isOfKind_19 : decode cX6_isOfKind 19 = .ok (.iload_n 2, 1) := by decide +kernel
theorem dX6_isOfKind_20 : decode cX6_isOfKind 20 = .ok (.iload_n 1, 1) := by decide +kernel
theorem dX6_isOfKind_21 : decode cX6_isOfKind 21 = .ok (.if_icmp .ne 5, 3) := by decide +kernel
theorem dX6_isOfKind_24 : decode cX6_isOfKind 24 = .ok (.iconst 1, 1) := by decide +kernel
theorem dX6_isOfKind_25 : decode cX6_isOfKind 25 = .ok (.ireturn, 1) := by decide +kernel
theorem dX6_isOfKind_26 : decode cX6_isOfKind 26 = .ok (.getstatic 243, 3) := by decide +kernel
theorem dX6_isOfKind_29 : decode cX6_isOfKind 29 = .ok (.iload_n 2, 1) := by decide +kernel
theorem dX6_isOfKind_30 : decode cX6_isOfKind 30 = .ok (.iaload, 1) := by decide +kernel
theorem dX6_isOfKind_31 : decode cX6_isOfKind 31 = .ok (.istore_n 2, 1) := by decide +kernel
theorem dX6_isOfKind_32 : decode cX6_isOfKind 32 = .ok (.iinc 3 1, 3) := by decide +kernel
theorem dX6_isOfKind_35 : decode cX6_isOfKind 35 = .ok (.goto (-31), 3) := by decide +kernel
theorem dX6_isOfKind_38 : decode cX6_isOfKind 38 = .ok (.iconst 0, 1) := by decide +kernel
theorem dX6_isOfKind_39 : decode cX6_isOfKind 39 = .ok (.ireturn, 1) := by decide +kernel
theorem dX6_asksOfSights_0 : decode cX6_asksOfSights 0 = .ok (.iload_n 1, 1) := by decide +kernel
theorem dX6_asksOfSights_1 : decode cX6_asksOfSights 1 = .ok (.bipush 10, 2) := by decide +kernel
theorem dX6_asksOfSights_3 : decode cX6_asksOfSights 3 = .ok (.if_icmp .lt 27, 3) := by decide +kernel
theorem dX6_asksOfSights_6 : decode cX6_asksOfSights 6 = .ok (.iload_n 1, 1) := by decide +kernel
theorem dX6_asksOfSights_7 : decode cX6_asksOfSights 7 = .ok (.bipush 30, 2) := by decide +kernel
theorem dX6_asksOfSights_9 : decode cX6_asksOfSights 9 = .ok (.if_icmp .ge 21, 3) := by decide +kernel
theorem dX6_asksOfSights_12 : decode cX6_asksOfSights 12 = .ok (.iload_n 1, 1) := by decide +kernel
theorem dX6_asksOfSights_13 : decode cX6_asksOfSights 13 = .ok (.bipush 10, 2) := by decide +kernel
theorem dX6_asksOfSights_15 : decode cX6_asksOfSights 15 = .ok (.irem, 1) := by decide +kernel
theorem dX6_asksOfSights_16 : decode cX6_asksOfSights 16 = .ok (.aload_n 0, 1) := by decide +kernel
theorem dX6_asksOfSights_17 : decode cX6_asksOfSights 17 = .ok (.getfield 10, 3) := by decide +kernel
theorem dX6_asksOfSights_20 : decode cX6_asksOfSights 20 = .ok (.getfield 95, 3) := by decide +kernel
theorem dX6_asksOfSights_23 : decode cX6_asksOfSights 23 = .ok (.if_icmp .ge 7, 3) := by decide +kernel
theorem dX6_asksOfSights_26 : decode cX6_asksOfSights 26 = .ok (.iconst 1, 1) := by decide +kernel
theorem dX6_asksOfSights_27 : decode cX6_asksOfSights 27 = .ok (.goto 4, 3) := by decide +kernel
theorem dX6_asksOfSights_30 : decode cX6_asksOfSights 30 = .ok (.iconst 0, 1) := by decide +kernel
theorem dX6_asksOfSights_31 : decode cX6_asksOfSights 31 = .ok (.ireturn, 1) := by decide +kernel
theorem dX6_asksOfNight_0 : decode cX6_asksOfNight 0 = .ok (.iload_n 1, 1) := by decide +kernel
theorem dX6_asksOfNight_1 : decode cX6_asksOfNight 1 = .ok (.iconst 5, 1) := by decide +kernel
theorem dX6_asksOfNight_2 : decode cX6_asksOfNight 2 = .ok (.invokestatic 88, 3) := by decide +kernel
theorem dX6_asksOfNight_5 : decode cX6_asksOfNight 5 = .ok (.ifCond .ne 11, 3) := by decide +kernel
theorem dX6_asksOfNight_8 : decode cX6_asksOfNight 8 = .ok (.aload_n 0, 1) := by decide +kernel
theorem dX6_asksOfNight_9 : decode cX6_asksOfNight 9 = .ok (.iload_n 1, 1) := by decide +kernel
theorem dX6_asksOfNight_10 : decode cX6_asksOfNight 10 = .ok (.invokevirtual 178, 3) := by decide +kernel
theorem dX6_asksOfNight_13 : decode cX6_asksOfNight 13 = .ok (.ifCond .eq 7, 3) := by decide +kernel
theorem dX6_asksOfNight_16 : decode cX6_asksOfNight 16 = .ok (.iconst 1, 1) := by decide +kernel
theorem dX6_asksOfNight_17 : decode cX6_asksOfNight 17 = .ok (.goto 4, 3) := by decide +kernel
theorem dX6_asksOfNight_20 : decode cX6_asksOfNight 20 = .ok (.iconst 0, 1) := by decide +kernel
theorem dX6_asksOfNight_21 : decode cX6_asksOfNight 21 = .ok (.ireturn, 1) := by decide +kernel
theorem dX6_tellsEachOnce_0 : decode cX6_tellsEachOnce 0 = .ok (.aload_n 1, 1) := by decide +kernel
theorem dX6_tellsEachOnce_1 : decode cX6_tellsEachOnce 1 = .ok (.invokevirtual 181, 3) := by decide +kernel
theorem dX6_tellsEachOnce_4 : decode cX6_tellsEachOnce 4 = .ok (.ifCond .ne 17, 3) := by decide +kernel
theorem dX6_tellsEachOnce_7 : decode cX6_tellsEachOnce 7 = .ok (.aload_n 1, 1) := by decide +kernel
theorem dX6_tellsEachOnce_8 : decode cX6_tellsEachOnce 8 = .ok (.getfield 137, 3) := by decide +kernel
theorem dX6_tellsEachOnce_11 : decode cX6_tellsEachOnce 11 = .ok (.aload_n 0, 1) := by decide +kernel
theorem dX6_tellsEachOnce_12 : decode cX6_tellsEachOnce 12 = .ok (.getfield 10, 3) := by decide +kernel
theorem dX6_tellsEachOnce_15 : decode cX6_tellsEachOnce 15 = .ok (.getfield 95, 3) := by decide +kernel
theorem dX6_tellsEachOnce_18 : decode cX6_tellsEachOnce 18 = .ok (.if_icmp .eq 5, 3) := by decide +kernel
theorem dX6_tellsEachOnce_21 : decode cX6_tellsEachOnce 21 = .ok (.iconst 0, 1) := by decide +kernel
theorem dX6_tellsEachOnce_22 : decode cX6_tellsEachOnce 22 = .ok (.ireturn, 1) := by decide +kernel
theorem dX6_tellsEachOnce_23 : decode cX6_tellsEachOnce 23 = .ok (.iconst 0, 1) := by decide +kernel
theorem dX6_tellsEachOnce_24 : decode cX6_tellsEachOnce 24 = .ok (.istore_n 2, 1) := by decide +kernel
theorem dX6_tellsEachOnce_25 : decode cX6_tellsEachOnce 25 = .ok (.iconst 0, 1) := by decide +kernel
theorem dX6_tellsEachOnce_26 : decode cX6_tellsEachOnce 26 = .ok (.istore_n 3, 1) := by decide +kernel
theorem dX6_tellsEachOnce_27 : decode cX6_tellsEachOnce 27 = .ok (.iload_n 3, 1) := by decide +kernel
theorem dX6_tellsEachOnce_28 : decode cX6_tellsEachOnce 28 = .ok (.aload_n 1, 1) := by decide +kernel
theorem dX6_tellsEachOnce_29 : decode cX6_tellsEachOnce 29 = .ok (.getfield 137, 3) := by decide +kernel
theorem dX6_tellsEachOnce_32 : decode cX6_tellsEachOnce 32 = .ok (.if_icmp .ge 40, 3) := by decide +kernel
theorem dX6_tellsEachOnce_35 : decode cX6_tellsEachOnce 35 = .ok (.aload_n 1, 1) := by decide +kernel
theorem dX6_tellsEachOnce_36 : decode cX6_tellsEachOnce 36 = .ok (.iload_n 3, 1) := by decide +kernel
theorem dX6_tellsEachOnce_37 : decode cX6_tellsEachOnce 37 = .ok (.invokevirtual 138, 3) := by decide +kernel
theorem dX6_tellsEachOnce_40 : decode cX6_tellsEachOnce 40 = .ok (.istore 4, 2) := by decide +kernel
theorem dX6_tellsEachOnce_42 : decode cX6_tellsEachOnce 42 = .ok (.iload 4, 2) := by decide +kernel
theorem dX6_tellsEachOnce_44 : decode cX6_tellsEachOnce 44 = .ok (.aload_n 0, 1) := by decide +kernel
theorem dX6_tellsEachOnce_45 : decode cX6_tellsEachOnce 45 = .ok (.getfield 10, 3) := by decide +kernel
theorem dX6_tellsEachOnce_48 : decode cX6_tellsEachOnce 48 = .ok (.getfield 95, 3) := by decide +kernel
theorem dX6_tellsEachOnce_51 : decode cX6_tellsEachOnce 51 = .ok (.invokestatic 88, 3) := by decide +kernel
theorem dX6_tellsEachOnce_54 : decode cX6_tellsEachOnce 54 = .ok (.ifCond .ne 5, 3) := by decide +kernel
theorem dX6_tellsEachOnce_57 : decode cX6_tellsEachOnce 57 = .ok (.iconst 0, 1) := by decide +kernel
theorem dX6_tellsEachOnce_58 : decode cX6_tellsEachOnce 58 = .ok (.ireturn, 1) := by decide +kernel
theorem dX6_tellsEachOnce_59 : decode cX6_tellsEachOnce 59 = .ok (.iload_n 2, 1) := by decide +kernel
theorem dX6_tellsEachOnce_60 : decode cX6_tellsEachOnce 60 = .ok (.iconst 1, 1) := by decide +kernel
theorem dX6_tellsEachOnce_61 : decode cX6_tellsEachOnce 61 = .ok (.iload 4, 2) := by decide +kernel
theorem dX6_tellsEachOnce_63 : decode cX6_tellsEachOnce 63 = .ok (.ishl, 1) := by decide +kernel
theorem dX6_tellsEachOnce_64 : decode cX6_tellsEachOnce 64 = .ok (.ior, 1) := by decide +kernel
theorem dX6_tellsEachOnce_65 : decode cX6_tellsEachOnce 65 = .ok (.istore_n 2, 1) := by decide +kernel
theorem dX6_tellsEachOnce_66 : decode cX6_tellsEachOnce 66 = .ok (.iinc 3 1, 3) := by decide +kernel
theorem dX6_tellsEachOnce_69 : decode cX6_tellsEachOnce 69 = .ok (.goto (-42), 3) := by decide +kernel
theorem dX6_tellsEachOnce_72 : decode cX6_tellsEachOnce 72 = .ok (.iload_n 2, 1) := by decide +kernel
theorem dX6_tellsEachOnce_73 : decode cX6_tellsEachOnce 73 = .ok (.aload_n 0, 1) := by decide +kernel
theorem dX6_tellsEachOnce_74 : decode cX6_tellsEachOnce 74 = .ok (.getfield 10, 3) := by decide +kernel
theorem dX6_tellsEachOnce_77 : decode cX6_tellsEachOnce 77 = .ok (.invokevirtual 119, 3) := by decide +kernel
theorem dX6_tellsEachOnce_80 : decode cX6_tellsEachOnce 80 = .ok (.if_icmp .ne 7, 3) := by decide +kernel
theorem dX6_tellsEachOnce_83 : decode cX6_tellsEachOnce 83 = .ok (.iconst 1, 1) := by decide +kernel
theorem dX6_tellsEachOnce_84 : decode cX6_tellsEachOnce 84 = .ok (.goto 4, 3) := by decide +kernel
theorem dX6_tellsEachOnce_87 : decode cX6_tellsEachOnce 87 = .ok (.iconst 0, 1) := by decide +kernel
theorem dX6_tellsEachOnce_88 : decode cX6_tellsEachOnce 88 = .ok (.ireturn, 1) := by decide +kernel
theorem dX6_tryOrders_0 : decode cX6_tryOrders 0 = .ok (.iload_n 2, 1) := by decide +kernel
theorem dX6_tryOrders_1 : decode cX6_tryOrders 1 = .ok (.aload_n 1, 1) := by decide +kernel
theorem dX6_tryOrders_2 : decode cX6_tryOrders 2 = .ok (.getfield 246, 3) := by decide +kernel
theorem dX6_tryOrders_5 : decode cX6_tryOrders 5 = .ok (.getfield 95, 3) := by decide +kernel
theorem dX6_tryOrders_8 : decode cX6_tryOrders 8 = .ok (.if_icmp .ge 9, 3) := by decide +kernel
theorem dX6_tryOrders_11 : decode cX6_tryOrders 11 = .ok (.iload_n 2, 1) := by decide +kernel
theorem dX6_tryOrders_12 : decode cX6_tryOrders 12 = .ok (.bipush 7, 2) := by decide +kernel
theorem dX6_tryOrders_14 : decode cX6_tryOrders 14 = .ok (.if_icmp .lt 14, 3) := by decide +kernel
theorem dX6_tryOrders_17 : decode cX6_tryOrders 17 = .ok (.aload_n 0, 1) := by decide +kernel
theorem dX6_tryOrders_18 : decode cX6_tryOrders 18 = .ok (.iload 4, 2) := by decide +kernel
theorem dX6_tryOrders_20 : decode cX6_tryOrders 20 = .ok (.aload_n 1, 1) := by decide +kernel
theorem dX6_tryOrders_21 : decode cX6_tryOrders 21 = .ok (.getfield 159, 3) := by decide +kernel
theorem dX6_tryOrders_24 : decode cX6_tryOrders 24 = .ok (.invokevirtual 172, 3) := by decide +kernel
theorem dX6_tryOrders_27 : decode cX6_tryOrders 27 = .ok (.return_, 1) := by decide +kernel
theorem dX6_tryOrders_28 : decode cX6_tryOrders 28 = .ok (.aload_n 1, 1) := by decide +kernel
theorem dX6_tryOrders_29 : decode cX6_tryOrders 29 = .ok (.getfield 247, 3) := by decide +kernel
theorem dX6_tryOrders_32 : decode cX6_tryOrders 32 = .ok (.istore 6, 2) := by decide +kernel
theorem dX6_tryOrders_34 : decode cX6_tryOrders 34 = .ok (.aload_n 1, 1) := by decide +kernel
theorem dX6_tryOrders_35 : decode cX6_tryOrders 35 = .ok (.getfield 250, 3) := by decide +kernel
theorem dX6_tryOrders_38 : decode cX6_tryOrders 38 = .ok (.istore 7, 2) := by decide +kernel
theorem dX6_tryOrders_40 : decode cX6_tryOrders 40 = .ok (.aload_n 1, 1) := by decide +kernel
theorem dX6_tryOrders_41 : decode cX6_tryOrders 41 = .ok (.getfield 159, 3) := by decide +kernel
theorem dX6_tryOrders_44 : decode cX6_tryOrders 44 = .ok (.istore 8, 2) := by decide +kernel
theorem dX6_tryOrders_46 : decode cX6_tryOrders 46 = .ok (.iconst 0, 1) := by decide +kernel
theorem dX6_tryOrders_47 : decode cX6_tryOrders 47 = .ok (.istore 9, 2) := by decide +kernel
theorem dX6_tryOrders_49 : decode cX6_tryOrders 49 = .ok (.iload 9, 2) := by decide +kernel
theorem dX6_tryOrders_51 : decode cX6_tryOrders 51 = .ok (.aload_n 1, 1) := by decide +kernel
theorem dX6_tryOrders_52 : decode cX6_tryOrders 52 = .ok (.getfield 246, 3) := by decide +kernel
theorem dX6_tryOrders_55 : decode cX6_tryOrders 55 = .ok (.getfield 95, 3) := by decide +kernel
theorem dX6_tryOrders_58 : decode cX6_tryOrders 58 = .ok (.if_icmp .ge 100, 3) := by decide +kernel
theorem dX6_tryOrders_61 : decode cX6_tryOrders 61 = .ok (.iload_n 3, 1) := by decide +kernel
theorem dX6_tryOrders_62 : decode cX6_tryOrders 62 = .ok (.iload 9, 2) := by decide +kernel
theorem dX6_tryOrders_64 : decode cX6_tryOrders 64 = .ok (.ishr, 1) := by decide +kernel
theorem dX6_tryOrders_65 : decode cX6_tryOrders 65 = .ok (.iconst 1, 1) := by decide +kernel
theorem dX6_tryOrders_66 : decode cX6_tryOrders 66 = .ok (.iand, 1) := by decide +kernel
theorem dX6_tryOrders_67 : decode cX6_tryOrders 67 = .ok (.ifCond .eq 6, 3) := by decide +kernel
theorem dX6_tryOrders_70 : decode cX6_tryOrders 70 = .ok (.goto 82, 3) := by decide +kernel
theorem dX6_tryOrders_73 : decode cX6_tryOrders 73 = .ok (.aload_n 1, 1) := by decide +kernel
theorem dX6_tryOrders_74 : decode cX6_tryOrders 74 = .ok (.iload 6, 2) := by decide +kernel
theorem dX6_tryOrders_76 : decode cX6_tryOrders 76 = .ok (.putfield 247, 3) := by decide +kernel
theorem dX6_tryOrders_79 : decode cX6_tryOrders 79 = .ok (.aload_n 1, 1) := by decide +kernel
theorem dX6_tryOrders_80 : decode cX6_tryOrders 80 = .ok (.iload 7, 2) := by decide +kernel
theorem dX6_tryOrders_82 : decode cX6_tryOrders 82 = .ok (.putfield 250, 3) := by decide +kernel
theorem dX6_tryOrders_85 : decode cX6_tryOrders 85 = .ok (.aload_n 1, 1) := by decide +kernel
theorem dX6_tryOrders_86 : decode cX6_tryOrders 86 = .ok (.iload 8, 2) := by decide +kernel
theorem dX6_tryOrders_88 : decode cX6_tryOrders 88 = .ok (.putfield 159, 3) := by decide +kernel
theorem dX6_tryOrders_91 : decode cX6_tryOrders 91 = .ok (.aload_n 1, 1) := by decide +kernel
theorem dX6_tryOrders_92 : decode cX6_tryOrders 92 = .ok (.iload 9, 2) := by decide +kernel
theorem dX6_tryOrders_94 : decode cX6_tryOrders 94 = .ok (.iload_n 2, 1) := by decide +kernel
theorem dX6_tryOrders_95 : decode cX6_tryOrders 95 = .ok (.invokevirtual 141, 3) := by decide +kernel
theorem dX6_tryOrders_98 : decode cX6_tryOrders 98 = .ok (.iload 5, 2) := by decide +kernel
theorem dX6_tryOrders_100 : decode cX6_tryOrders 100 = .ok (.aload_n 1, 1) := by decide +kernel
theorem dX6_tryOrders_101 : decode cX6_tryOrders 101 = .ok (.getfield 246, 3) := by decide +kernel
theorem dX6_tryOrders_104 : decode cX6_tryOrders 104 = .ok (.iload 9, 2) := by decide +kernel
theorem dX6_tryOrders_106 : decode cX6_tryOrders 106 = .ok (.invokevirtual 98, 3) := by decide +kernel
theorem dX6_tryOrders_109 : decode cX6_tryOrders 109 = .ok (.isub, 1) := by decide +kernel
theorem dX6_tryOrders_110 : decode cX6_tryOrders 110 = .ok (.istore 10, 2) := by decide +kernel
theorem dX6_tryOrders_112 : decode cX6_tryOrders 112 = .ok (.aload_n 1, 1) := by decide +kernel
theorem dX6_tryOrders_113 : decode cX6_tryOrders 113 = .ok (.getfield 159, 3) := by decide +kernel
theorem dX6_tryOrders_116 : decode cX6_tryOrders 116 = .ok (.iload 10, 2) := by decide +kernel
theorem dX6_tryOrders_118 : decode cX6_tryOrders 118 = .ok (.iadd, 1) := by decide +kernel
theorem dX6_tryOrders_119 : decode cX6_tryOrders 119 = .ok (.aload_n 0, 1) := by decide +kernel
theorem dX6_tryOrders_120 : decode cX6_tryOrders 120 = .ok (.getfield 253, 3) := by decide +kernel
theorem dX6_tryOrders_123 : decode cX6_tryOrders 123 = .ok (.if_icmp .le 29, 3) := by decide +kernel
theorem dX6_tryOrders_126 : decode cX6_tryOrders 126 = .ok (.aload_n 0, 1) := by decide +kernel
theorem dX6_tryOrders_127 : decode cX6_tryOrders 127 = .ok (.aload_n 1, 1) := by decide +kernel
theorem dX6_tryOrders_128 : decode cX6_tryOrders 128 = .ok (.iload_n 2, 1) := by decide +kernel
theorem dX6_tryOrders_129 : decode cX6_tryOrders 129 = .ok (.iconst 1, 1) := by decide +kernel
theorem dX6_tryOrders_130 : decode cX6_tryOrders 130 = .ok (.iadd, 1) := by decide +kernel
theorem dX6_tryOrders_131 : decode cX6_tryOrders 131 = .ok (.iload_n 3, 1) := by decide +kernel
theorem dX6_tryOrders_132 : decode cX6_tryOrders 132 = .ok (.iconst 1, 1) := by decide +kernel
theorem dX6_tryOrders_133 : decode cX6_tryOrders 133 = .ok (.iload 9, 2) := by decide +kernel
theorem dX6_tryOrders_135 : decode cX6_tryOrders 135 = .ok (.ishl, 1) := by decide +kernel
theorem dX6_tryOrders_136 : decode cX6_tryOrders 136 = .ok (.ior, 1) := by decide +kernel
theorem dX6_tryOrders_137 : decode cX6_tryOrders 137 = .ok (.iload 4, 2) := by decide +kernel
theorem dX6_tryOrders_139 : decode cX6_tryOrders 139 = .ok (.bipush 10, 2) := by decide +kernel
theorem dX6_tryOrders_141 : decode cX6_tryOrders 141 = .ok (.imul, 1) := by decide +kernel
theorem dX6_tryOrders_142 : decode cX6_tryOrders 142 = .ok (.iload 9, 2) := by decide +kernel
theorem dX6_tryOrders_144 : decode cX6_tryOrders 144 = .ok (.iadd, 1) := by decide +kernel
theorem dX6_tryOrders_145 : decode cX6_tryOrders 145 = .ok (.iconst 1, 1) := by decide +kernel
theorem dX6_tryOrders_146 : decode cX6_tryOrders 146 = .ok (.iadd, 1) := by decide +kernel
theorem dX6_tryOrders_147 : decode cX6_tryOrders 147 = .ok (.iload 10, 2) := by decide +kernel
theorem dX6_tryOrders_149 : decode cX6_tryOrders 149 = .ok (.invokestatic 151, 3) := by decide +kernel
theorem dX6_tryOrders_152 : decode cX6_tryOrders 152 = .ok (.iinc 9 1, 3) := by decide +kernel
theorem dX6_tryOrders_155 : decode cX6_tryOrders 155 = .ok (.goto (-106), 3) := by decide +kernel
theorem dX6_tryOrders_158 : decode cX6_tryOrders 158 = .ok (.return_, 1) := by decide +kernel
theorem dX6_firstToSet_0 : decode cX6_firstToSet 0 = .ok (.iconst 0, 1) := by decide +kernel
theorem dX6_firstToSet_1 : decode cX6_firstToSet 1 = .ok (.istore_n 2, 1) := by decide +kernel
theorem dX6_firstToSet_2 : decode cX6_firstToSet 2 = .ok (.sipush 200, 3) := by decide +kernel
theorem dX6_firstToSet_5 : decode cX6_firstToSet 5 = .ok (.istore_n 3, 1) := by decide +kernel
theorem dX6_firstToSet_6 : decode cX6_firstToSet 6 = .ok (.iconst 0, 1) := by decide +kernel
theorem dX6_firstToSet_7 : decode cX6_firstToSet 7 = .ok (.istore 4, 2) := by decide +kernel
theorem dX6_firstToSet_9 : decode cX6_firstToSet 9 = .ok (.iload 4, 2) := by decide +kernel
theorem dX6_firstToSet_11 : decode cX6_firstToSet 11 = .ok (.aload_n 0, 1) := by decide +kernel
theorem dX6_firstToSet_12 : decode cX6_firstToSet 12 = .ok (.getfield 10, 3) := by decide +kernel
theorem dX6_firstToSet_15 : decode cX6_firstToSet 15 = .ok (.getfield 95, 3) := by decide +kernel
theorem dX6_firstToSet_18 : decode cX6_firstToSet 18 = .ok (.if_icmp .ge 48, 3) := by decide +kernel
theorem dX6_firstToSet_21 : decode cX6_firstToSet 21 = .ok (.iload_n 1, 1) := by decide +kernel
theorem dX6_firstToSet_22 : decode cX6_firstToSet 22 = .ok (.iload 4, 2) := by decide +kernel
theorem dX6_firstToSet_24 : decode cX6_firstToSet 24 = .ok (.ishr, 1) := by decide +kernel
theorem dX6_firstToSet_25 : decode cX6_firstToSet 25 = .ok (.iconst 1, 1) := by decide +kernel
theorem dX6_firstToSet_26 : decode cX6_firstToSet 26 = .ok (.iand, 1) := by decide +kernel
theorem dX6_firstToSet_27 : decode cX6_firstToSet 27 = .ok (.ifCond .ne 33, 3) := by decide +kernel
theorem dX6_firstToSet_30 : decode cX6_firstToSet 30 = .ok (.aload_n 0, 1) := by decide +kernel
theorem dX6_firstToSet_31 : decode cX6_firstToSet 31 = .ok (.getfield 10, 3) := by decide +kernel
theorem dX6_firstToSet_34 : decode cX6_firstToSet 34 = .ok (.bipush 11, 2) := by decide +kernel
theorem dX6_firstToSet_36 : decode cX6_firstToSet 36 = .ok (.iload 4, 2) := by decide +kernel
theorem dX6_firstToSet_38 : decode cX6_firstToSet 38 = .ok (.invokevirtual 101, 3) := by decide +kernel
theorem dX6_firstToSet_41 : decode cX6_firstToSet 41 = .ok (.iload_n 3, 1) := by decide +kernel
theorem dX6_firstToSet_42 : decode cX6_firstToSet 42 = .ok (.if_icmp .ge 18, 3) := by decide +kernel
theorem dX6_firstToSet_45 : decode cX6_firstToSet 45 = .ok (.iload 4, 2) := by decide +kernel
theorem dX6_firstToSet_47 : decode cX6_firstToSet 47 = .ok (.istore_n 2, 1) := by decide +kernel
theorem dX6_firstToSet_48 : decode cX6_firstToSet 48 = .ok (.aload_n 0, 1) := by decide +kernel
theorem dX6_firstToSet_49 : decode cX6_firstToSet 49 = .ok (.getfield 10, 3) := by decide +kernel
theorem dX6_firstToSet_52 : decode cX6_firstToSet 52 = .ok (.bipush 11, 2) := by decide +kernel
theorem dX6_firstToSet_54 : decode cX6_firstToSet 54 = .ok (.iload 4, 2) := by decide +kernel
theorem dX6_firstToSet_56 : decode cX6_firstToSet 56 = .ok (.invokevirtual 101, 3) := by decide +kernel
theorem dX6_firstToSet_59 : decode cX6_firstToSet 59 = .ok (.istore_n 3, 1) := by decide +kernel
theorem dX6_firstToSet_60 : decode cX6_firstToSet 60 = .ok (.iinc 4 1, 3) := by decide +kernel
theorem dX6_firstToSet_63 : decode cX6_firstToSet 63 = .ok (.goto (-54), 3) := by decide +kernel
theorem dX6_firstToSet_66 : decode cX6_firstToSet 66 = .ok (.iload_n 2, 1) := by decide +kernel
theorem dX6_firstToSet_67 : decode cX6_firstToSet 67 = .ok (.ireturn, 1) := by decide +kernel
theorem dX6_foundPlain_0 : decode cX6_foundPlain 0 = .ok (.aload_n 0, 1) := by decide +kernel
theorem dX6_foundPlain_1 : decode cX6_foundPlain 1 = .ok (.getfield 56, 3) := by decide +kernel
theorem dX6_foundPlain_4 : decode cX6_foundPlain 4 = .ok (.aload_n 1, 1) := by decide +kernel
theorem dX6_foundPlain_5 : decode cX6_foundPlain 5 = .ok (.aload_n 1, 1) := by decide +kernel
theorem dX6_foundPlain_6 : decode cX6_foundPlain 6 = .ok (.invokevirtual 119, 3) := by decide +kernel
theorem dX6_foundPlain_9 : decode cX6_foundPlain 9 = .ok (.invokevirtual 122, 3) := by decide +kernel
theorem dX6_foundPlain_12 : decode cX6_foundPlain 12 = .ok (.pop, 1) := by decide +kernel
theorem dX6_foundPlain_13 : decode cX6_foundPlain 13 = .ok (.aload_n 0, 1) := by decide +kernel
theorem dX6_foundPlain_14 : decode cX6_foundPlain 14 = .ok (.getfield 56, 3) := by decide +kernel
theorem dX6_foundPlain_17 : decode cX6_foundPlain 17 = .ok (.getfield 254, 3) := by decide +kernel
theorem dX6_foundPlain_20 : decode cX6_foundPlain 20 = .ok (.invokestatic 257, 3) := by decide +kernel
theorem dX6_foundPlain_23 : decode cX6_foundPlain 23 = .ok (.ireturn, 1) := by decide +kernel
theorem dX6_worthSleeping_0 : decode cX6_worthSleeping 0 = .ok (.aload_n 0, 1) := by decide +kernel
theorem dX6_worthSleeping_1 : decode cX6_worthSleeping 1 = .ok (.getfield 56, 3) := by decide +kernel
theorem dX6_worthSleeping_4 : decode cX6_worthSleeping 4 = .ok (.aload_n 0, 1) := by decide +kernel
theorem dX6_worthSleeping_5 : decode cX6_worthSleeping 5 = .ok (.getfield 10, 3) := by decide +kernel
theorem dX6_worthSleeping_8 : decode cX6_worthSleeping 8 = .ok (.invokevirtual 133, 3) := by decide +kernel
theorem dX6_worthSleeping_11 : decode cX6_worthSleeping 11 = .ok (.iconst 0, 1) := by decide +kernel
theorem dX6_worthSleeping_12 : decode cX6_worthSleeping 12 = .ok (.istore_n 3, 1) := by decide +kernel
theorem dX6_worthSleeping_13 : decode cX6_worthSleeping 13 = .ok (.iload_n 3, 1) := by decide +kernel
theorem dX6_worthSleeping_14 : decode cX6_worthSleeping 14 = .ok (.aload_n 0, 1) := by decide +kernel
theorem dX6_worthSleeping_15 : decode cX6_worthSleeping 15 = .ok (.getfield 10, 3) := by decide +kernel
theorem dX6_worthSleeping_18 : decode cX6_worthSleeping 18 = .ok (.getfield 95, 3) := by decide +kernel
theorem dX6_worthSleeping_21 : decode cX6_worthSleeping 21 = .ok (.if_icmp .ge 36, 3) := by decide +kernel
theorem dX6_worthSleeping_24 : decode cX6_worthSleeping 24 = .ok (.iload_n 3, 1) := by decide +kernel
theorem dX6_worthSleeping_25 : decode cX6_worthSleeping 25 = .ok (.iload_n 1, 1) := by decide +kernel
theorem dX6_worthSleeping_26 : decode cX6_worthSleeping 26 = .ok (.if_icmp .ne 16, 3) := by decide +kernel
theorem dX6_worthSleeping_29 : decode cX6_worthSleeping 29 = .ok (.aload_n 0, 1) := by decide +kernel
theorem dX6_worthSleeping_30 : decode cX6_worthSleeping 30 = .ok (.getfield 56, 3) := by decide +kernel
theorem dX6_worthSleeping_33 : decode cX6_worthSleeping 33 = .ok (.dup, 1) := by decide +kernel
theorem dX6_worthSleeping_34 : decode cX6_worthSleeping 34 = .ok (.getfield 250, 3) := by decide +kernel
theorem dX6_worthSleeping_37 : decode cX6_worthSleeping 37 = .ok (.iload_n 2, 1) := by decide +kernel
theorem dX6_worthSleeping_38 : decode cX6_worthSleeping 38 = .ok (.iadd, 1) := by decide +kernel
theorem dX6_worthSleeping_39 : decode cX6_worthSleeping 39 = .ok (.putfield 250, 3) := by decide +kernel
theorem dX6_worthSleeping_42 : decode cX6_worthSleeping 42 = .ok (.aload_n 0, 1) := by decide +kernel
theorem dX6_worthSleeping_43 : decode cX6_worthSleeping 43 = .ok (.getfield 56, 3) := by decide +kernel
theorem dX6_worthSleeping_46 : decode cX6_worthSleeping 46 = .ok (.iload_n 3, 1) := by decide +kernel
theorem dX6_worthSleeping_47 : decode cX6_worthSleeping 47 = .ok (.iload_n 3, 1) := by decide +kernel
theorem dX6_worthSleeping_48 : decode cX6_worthSleeping 48 = .ok (.invokevirtual 141, 3) := by decide +kernel
theorem dX6_worthSleeping_51 : decode cX6_worthSleeping 51 = .ok (.iinc 3 1, 3) := by decide +kernel
theorem dX6_worthSleeping_54 : decode cX6_worthSleeping 54 = .ok (.goto (-41), 3) := by decide +kernel
theorem dX6_worthSleeping_57 : decode cX6_worthSleeping 57 = .ok (.aload_n 0, 1) := by decide +kernel
theorem dX6_worthSleeping_58 : decode cX6_worthSleeping 58 = .ok (.getfield 56, 3) := by decide +kernel
theorem dX6_worthSleeping_61 : decode cX6_worthSleeping 61 = .ok (.getfield 159, 3) := by decide +kernel
theorem dX6_worthSleeping_64 : decode cX6_worthSleeping 64 = .ok (.ireturn, 1) := by decide +kernel
theorem dX6_worthWithoutCloud_0 : decode cX6_worthWithoutCloud 0 = .ok (.aload_n 0, 1) := by decide +kernel
theorem dX6_worthWithoutCloud_1 : decode cX6_worthWithoutCloud 1 = .ok (.getfield 19, 3) := by decide +kernel
theorem dX6_worthWithoutCloud_4 : decode cX6_worthWithoutCloud 4 = .ok (.aload_n 0, 1) := by decide +kernel
theorem dX6_worthWithoutCloud_5 : decode cX6_worthWithoutCloud 5 = .ok (.getfield 10, 3) := by decide +kernel
theorem dX6_worthWithoutCloud_8 : decode cX6_worthWithoutCloud 8 = .ok (.invokevirtual 166, 3) := by decide +kernel
theorem dX6_worthWithoutCloud_11 : decode cX6_worthWithoutCloud 11 = .ok (.aload_n 0, 1) := by decide +kernel
theorem dX6_worthWithoutCloud_12 : decode cX6_worthWithoutCloud 12 = .ok (.getfield 19, 3) := by decide +kernel
theorem dX6_worthWithoutCloud_15 : decode cX6_worthWithoutCloud 15 = .ok (.iconst 1, 1) := by decide +kernel
theorem dX6_worthWithoutCloud_16 : decode cX6_worthWithoutCloud 16 = .ok (.iconst 0, 1) := by decide +kernel
theorem dX6_worthWithoutCloud_17 : decode cX6_worthWithoutCloud 17 = .ok (.bipush 9, 2) := by decide +kernel
theorem dX6_worthWithoutCloud_19 : decode cX6_worthWithoutCloud 19 = .ok (.invokevirtual 84, 3) := by decide +kernel
theorem dX6_worthWithoutCloud_22 : decode cX6_worthWithoutCloud 22 = .ok (.pop, 1) := by decide +kernel
theorem dX6_worthWithoutCloud_23 : decode cX6_worthWithoutCloud 23 = .ok (.aload_n 0, 1) := by decide +kernel
theorem dX6_worthWithoutCloud_24 : decode cX6_worthWithoutCloud 24 = .ok (.getfield 19, 3) := by decide +kernel
theorem dX6_worthWithoutCloud_27 : decode cX6_worthWithoutCloud 27 = .ok (.iconst 2, 1) := by decide +kernel
theorem dX6_worthWithoutCloud_28 : decode cX6_worthWithoutCloud 28 = .ok (.iconst 0, 1) := by decide +kernel
theorem dX6_worthWithoutCloud_29 : decode cX6_worthWithoutCloud 29 = .ok (.iconst 0, 1) := by decide +kernel
theorem dX6_worthWithoutCloud_30 : decode cX6_worthWithoutCloud 30 = .ok (.invokevirtual 84, 3) := by decide +kernel
theorem dX6_worthWithoutCloud_33 : decode cX6_worthWithoutCloud 33 = .ok (.pop, 1) := by decide +kernel
theorem dX6_worthWithoutCloud_34 : decode cX6_worthWithoutCloud 34 = .ok (.aload_n 0, 1) := by decide +kernel
theorem dX6_worthWithoutCloud_35 : decode cX6_worthWithoutCloud 35 = .ok (.getfield 56, 3) := by decide +kernel
theorem dX6_worthWithoutCloud_38 : decode cX6_worthWithoutCloud 38 = .ok (.aload_n 0, 1) := by decide +kernel
theorem dX6_worthWithoutCloud_39 : decode cX6_worthWithoutCloud 39 = .ok (.getfield 19, 3) := by decide +kernel
theorem dX6_worthWithoutCloud_42 : decode cX6_worthWithoutCloud 42 = .ok (.aload_n 0, 1) := by decide +kernel
theorem dX6_worthWithoutCloud_43 : decode cX6_worthWithoutCloud 43 = .ok (.getfield 19, 3) := by decide +kernel
theorem dX6_worthWithoutCloud_46 : decode cX6_worthWithoutCloud 46 = .ok (.invokevirtual 119, 3) := by decide +kernel
theorem dX6_worthWithoutCloud_49 : decode cX6_worthWithoutCloud 49 = .ok (.invokevirtual 122, 3) := by decide +kernel
theorem dX6_worthWithoutCloud_52 : decode cX6_worthWithoutCloud 52 = .ok (.ireturn, 1) := by decide +kernel
theorem dX6_worthDrawn_0 : decode cX6_worthDrawn 0 = .ok (.aload_n 0, 1) := by decide +kernel
theorem dX6_worthDrawn_1 : decode cX6_worthDrawn 1 = .ok (.getfield 19, 3) := by decide +kernel
theorem dX6_worthDrawn_4 : decode cX6_worthDrawn 4 = .ok (.aload_n 0, 1) := by decide +kernel
theorem dX6_worthDrawn_5 : decode cX6_worthDrawn 5 = .ok (.getfield 10, 3) := by decide +kernel
theorem dX6_worthDrawn_8 : decode cX6_worthDrawn 8 = .ok (.invokevirtual 166, 3) := by decide +kernel
theorem dX6_worthDrawn_11 : decode cX6_worthDrawn 11 = .ok (.iload_n 1, 1) := by decide +kernel
theorem dX6_worthDrawn_12 : decode cX6_worthDrawn 12 = .ok (.istore_n 2, 1) := by decide +kernel
theorem dX6_worthDrawn_13 : decode cX6_worthDrawn 13 = .ok (.iconst 1, 1) := by decide +kernel
theorem dX6_worthDrawn_14 : decode cX6_worthDrawn 14 = .ok (.istore_n 3, 1) := by decide +kernel
theorem dX6_worthDrawn_15 : decode cX6_worthDrawn 15 = .ok (.iload_n 3, 1) := by decide +kernel
theorem dX6_worthDrawn_16 : decode cX6_worthDrawn 16 = .ok (.iconst 4, 1) := by decide +kernel
theorem dX6_worthDrawn_17 : decode cX6_worthDrawn 17 = .ok (.if_icmp .gt 47, 3) := by decide +kernel
theorem dX6_worthDrawn_20 : decode cX6_worthDrawn 20 = .ok (.iload_n 2, 1) := by decide +kernel
theorem dX6_worthDrawn_21 : decode cX6_worthDrawn 21 = .ok (.ldc_w 262, 3) := by decide +kernel
theorem dX6_worthDrawn_24 : decode cX6_worthDrawn 24 = .ok (.imul, 1) := by decide +kernel
theorem dX6_worthDrawn_25 : decode cX6_worthDrawn 25 = .ok (.sipush 12345, 3) := by decide +kernel
theorem dX6_worthDrawn_28 : decode cX6_worthDrawn 28 = .ok (.iadd, 1) := by decide +kernel
theorem dX6_worthDrawn_29 : decode cX6_worthDrawn 29 = .ok (.istore_n 2, 1) := by decide +kernel
theorem dX6_worthDrawn_30 : decode cX6_worthDrawn 30 = .ok (.aload_n 0, 1) := by decide +kernel
theorem dX6_worthDrawn_31 : decode cX6_worthDrawn 31 = .ok (.getfield 19, 3) := by decide +kernel
theorem dX6_worthDrawn_34 : decode cX6_worthDrawn 34 = .ok (.iload_n 3, 1) := by decide +kernel
theorem dX6_worthDrawn_35 : decode cX6_worthDrawn 35 = .ok (.iconst 0, 1) := by decide +kernel
theorem dX6_worthDrawn_36 : decode cX6_worthDrawn 36 = .ok (.iload_n 2, 1) := by decide +kernel
theorem dX6_worthDrawn_37 : decode cX6_worthDrawn 37 = .ok (.bipush 9, 2) := by decide +kernel
theorem dX6_worthDrawn_39 : decode cX6_worthDrawn 39 = .ok (.iushr, 1) := by decide +kernel
theorem dX6_worthDrawn_40 : decode cX6_worthDrawn 40 = .ok (.iload_n 3, 1) := by decide +kernel
theorem dX6_worthDrawn_41 : decode cX6_worthDrawn 41 = .ok (.iconst 2, 1) := by decide +kernel
theorem dX6_worthDrawn_42 : decode cX6_worthDrawn 42 = .ok (.if_icmp .gt 8, 3) := by decide +kernel
theorem dX6_worthDrawn_45 : decode cX6_worthDrawn 45 = .ok (.bipush 10, 2) := by decide +kernel
theorem dX6_worthDrawn_47 : decode cX6_worthDrawn 47 = .ok (.goto 6, 3) := by decide +kernel
theorem dX6_worthDrawn_50 : decode cX6_worthDrawn 50 = .ok (.sipush 200, 3) := by decide +kernel
theorem dX6_worthDrawn_53 : decode cX6_worthDrawn 53 = .ok (.irem, 1) := by decide +kernel
theorem dX6_worthDrawn_54 : decode cX6_worthDrawn 54 = .ok (.invokevirtual 84, 3) := by decide +kernel
theorem dX6_worthDrawn_57 : decode cX6_worthDrawn 57 = .ok (.pop, 1) := by decide +kernel
theorem dX6_worthDrawn_58 : decode cX6_worthDrawn 58 = .ok (.iinc 3 1, 3) := by decide +kernel
theorem dX6_worthDrawn_61 : decode cX6_worthDrawn 61 = .ok (.goto (-46), 3) := by decide +kernel
theorem dX6_worthDrawn_64 : decode cX6_worthDrawn 64 = .ok (.aload_n 0, 1) := by decide +kernel
theorem dX6_worthDrawn_65 : decode cX6_worthDrawn 65 = .ok (.getfield 56, 3) := by decide +kernel
theorem dX6_worthDrawn_68 : decode cX6_worthDrawn 68 = .ok (.aload_n 0, 1) := by decide +kernel
theorem dX6_worthDrawn_69 : decode cX6_worthDrawn 69 = .ok (.getfield 19, 3) := by decide +kernel
theorem dX6_worthDrawn_72 : decode cX6_worthDrawn 72 = .ok (.aload_n 0, 1) := by decide +kernel
theorem dX6_worthDrawn_73 : decode cX6_worthDrawn 73 = .ok (.getfield 19, 3) := by decide +kernel
theorem dX6_worthDrawn_76 : decode cX6_worthDrawn 76 = .ok (.invokevirtual 119, 3) := by decide +kernel
theorem dX6_worthDrawn_79 : decode cX6_worthDrawn 79 = .ok (.invokevirtual 122, 3) := by decide +kernel
theorem dX6_worthDrawn_82 : decode cX6_worthDrawn 82 = .ok (.ireturn, 1) := by decide +kernel
theorem dX6_inLowestTerms_0 : decode cX6_inLowestTerms 0 = .ok (.iload_n 2, 1) := by decide +kernel
theorem dX6_inLowestTerms_1 : decode cX6_inLowestTerms 1 = .ok (.istore_n 3, 1) := by decide +kernel
theorem dX6_inLowestTerms_2 : decode cX6_inLowestTerms 2 = .ok (.iload_n 3, 1) := by decide +kernel
theorem dX6_inLowestTerms_3 : decode cX6_inLowestTerms 3 = .ok (.iconst 1, 1) := by decide +kernel
theorem dX6_inLowestTerms_4 : decode cX6_inLowestTerms 4 = .ok (.if_icmp .le 25, 3) := by decide +kernel
theorem dX6_inLowestTerms_7 : decode cX6_inLowestTerms 7 = .ok (.iload_n 1, 1) := by decide +kernel
theorem dX6_inLowestTerms_8 : decode cX6_inLowestTerms 8 = .ok (.iload_n 3, 1) := by decide +kernel
theorem dX6_inLowestTerms_9 : decode cX6_inLowestTerms 9 = .ok (.irem, 1) := by decide +kernel
theorem dX6_inLowestTerms_10 : decode cX6_inLowestTerms 10 = .ok (.ifCond .ne 13, 3) := by decide +kernel
theorem dX6_inLowestTerms_13 : decode cX6_inLowestTerms 13 = .ok (.iload_n 2, 1) := by decide +kernel
theorem dX6_inLowestTerms_14 : decode cX6_inLowestTerms 14 = .ok (.iload_n 3, 1) := by decide +kernel
theorem dX6_inLowestTerms_15 : decode cX6_inLowestTerms 15 = .ok (.irem, 1) := by decide +kernel
theorem dX6_inLowestTerms_16 : decode cX6_inLowestTerms 16 = .ok (.ifCond .ne 7, 3) := by decide +kernel
theorem dX6_inLowestTerms_19 : decode cX6_inLowestTerms 19 = .ok (.iload_n 0, 1) := by decide +kernel
theorem dX6_inLowestTerms_20 : decode cX6_inLowestTerms 20 = .ok (.iload_n 3, 1) := by decide +kernel
theorem dX6_inLowestTerms_21 : decode cX6_inLowestTerms 21 = .ok (.idiv, 1) := by decide +kernel
theorem dX6_inLowestTerms_22 : decode cX6_inLowestTerms 22 = .ok (.ireturn, 1) := by decide +kernel
theorem dX6_inLowestTerms_23 : decode cX6_inLowestTerms 23 = .ok (.iinc 3 (-1), 3) := by decide +kernel
theorem dX6_inLowestTerms_26 : decode cX6_inLowestTerms 26 = .ok (.goto (-24), 3) := by decide +kernel
theorem dX6_inLowestTerms_29 : decode cX6_inLowestTerms 29 = .ok (.iload_n 0, 1) := by decide +kernel
theorem dX6_inLowestTerms_30 : decode cX6_inLowestTerms 30 = .ok (.ireturn, 1) := by decide +kernel
theorem dX6_notAsListed_0 : decode cX6_notAsListed 0 = .ok (.iconst 0, 1) := by decide +kernel
theorem dX6_notAsListed_1 : decode cX6_notAsListed 1 = .ok (.istore_n 2, 1) := by decide +kernel
theorem dX6_notAsListed_2 : decode cX6_notAsListed 2 = .ok (.aload_n 0, 1) := by decide +kernel
theorem dX6_notAsListed_3 : decode cX6_notAsListed 3 = .ok (.getfield 56, 3) := by decide +kernel
theorem dX6_notAsListed_6 : decode cX6_notAsListed 6 = .ok (.aload_n 0, 1) := by decide +kernel
theorem dX6_notAsListed_7 : decode cX6_notAsListed 7 = .ok (.getfield 19, 3) := by decide +kernel
theorem dX6_notAsListed_10 : decode cX6_notAsListed 10 = .ok (.aload_n 0, 1) := by decide +kernel
theorem dX6_notAsListed_11 : decode cX6_notAsListed 11 = .ok (.getfield 19, 3) := by decide +kernel
theorem dX6_notAsListed_14 : decode cX6_notAsListed 14 = .ok (.invokevirtual 119, 3) := by decide +kernel
theorem dX6_notAsListed_17 : decode cX6_notAsListed 17 = .ok (.invokevirtual 122, 3) := by decide +kernel
theorem dX6_notAsListed_20 : decode cX6_notAsListed 20 = .ok (.pop, 1) := by decide +kernel
theorem dX6_notAsListed_21 : decode cX6_notAsListed 21 = .ok (.iconst 0, 1) := by decide +kernel
theorem dX6_notAsListed_22 : decode cX6_notAsListed 22 = .ok (.istore_n 3, 1) := by decide +kernel
theorem dX6_notAsListed_23 : decode cX6_notAsListed 23 = .ok (.iload_n 3, 1) := by decide +kernel
theorem dX6_notAsListed_24 : decode cX6_notAsListed 24 = .ok (.aload_n 0, 1) := by decide +kernel
theorem dX6_notAsListed_25 : decode cX6_notAsListed 25 = .ok (.getfield 19, 3) := by decide +kernel
theorem dX6_notAsListed_28 : decode cX6_notAsListed 28 = .ok (.getfield 95, 3) := by decide +kernel
theorem dX6_notAsListed_31 : decode cX6_notAsListed 31 = .ok (.if_icmp .ge 31, 3) := by decide +kernel
theorem dX6_notAsListed_34 : decode cX6_notAsListed 34 = .ok (.aload_n 0, 1) := by decide +kernel
theorem dX6_notAsListed_35 : decode cX6_notAsListed 35 = .ok (.getfield 56, 3) := by decide +kernel
theorem dX6_notAsListed_38 : decode cX6_notAsListed 38 = .ok (.iload_n 3, 1) := by decide +kernel
theorem dX6_notAsListed_39 : decode cX6_notAsListed 39 = .ok (.invokevirtual 203, 3) := by decide +kernel
theorem dX6_notAsListed_42 : decode cX6_notAsListed 42 = .ok (.aload_n 1, 1) := by decide +kernel
theorem dX6_notAsListed_43 : decode cX6_notAsListed 43 = .ok (.iload_n 3, 1) := by decide +kernel
theorem dX6_notAsListed_44 : decode cX6_notAsListed 44 = .ok (.invokevirtual 138, 3) := by decide +kernel
theorem dX6_notAsListed_47 : decode cX6_notAsListed 47 = .ok (.if_icmp .eq 9, 3) := by decide +kernel
theorem dX6_notAsListed_50 : decode cX6_notAsListed 50 = .ok (.iload_n 2, 1) := by decide +kernel
theorem dX6_notAsListed_51 : decode cX6_notAsListed 51 = .ok (.iconst 1, 1) := by decide +kernel
theorem dX6_notAsListed_52 : decode cX6_notAsListed 52 = .ok (.iload_n 3, 1) := by decide +kernel
theorem dX6_notAsListed_53 : decode cX6_notAsListed 53 = .ok (.ishl, 1) := by decide +kernel
theorem dX6_notAsListed_54 : decode cX6_notAsListed 54 = .ok (.ior, 1) := by decide +kernel
theorem dX6_notAsListed_55 : decode cX6_notAsListed 55 = .ok (.istore_n 2, 1) := by decide +kernel
theorem dX6_notAsListed_56 : decode cX6_notAsListed 56 = .ok (.iinc 3 1, 3) := by decide +kernel
theorem dX6_notAsListed_59 : decode cX6_notAsListed 59 = .ok (.goto (-36), 3) := by decide +kernel
theorem dX6_notAsListed_62 : decode cX6_notAsListed 62 = .ok (.iload_n 2, 1) := by decide +kernel
theorem dX6_notAsListed_63 : decode cX6_notAsListed 63 = .ok (.ireturn, 1) := by decide +kernel
theorem dX6_spotsThatFit_0 : decode cX6_spotsThatFit 0 = .ok (.iconst 0, 1) := by decide +kernel
theorem dX6_spotsThatFit_1 : decode cX6_spotsThatFit 1 = .ok (.istore_n 3, 1) := by decide +kernel
theorem dX6_spotsThatFit_2 : decode cX6_spotsThatFit 2 = .ok (.iconst (-1), 1) := by decide +kernel
theorem dX6_spotsThatFit_3 : decode cX6_spotsThatFit 3 = .ok (.istore 4, 2) := by decide +kernel
theorem dX6_spotsThatFit_5 : decode cX6_spotsThatFit 5 = .ok (.bipush 99, 2) := by decide +kernel
theorem dX6_spotsThatFit_7 : decode cX6_spotsThatFit 7 = .ok (.istore 5, 2) := by decide +kernel
theorem dX6_spotsThatFit_9 : decode cX6_spotsThatFit 9 = .ok (.iload 5, 2) := by decide +kernel
theorem dX6_spotsThatFit_11 : decode cX6_spotsThatFit 11 = .ok (.ifCond .lt 36, 3) := by decide +kernel
theorem dX6_spotsThatFit_14 : decode cX6_spotsThatFit 14 = .ok (.aload_n 0, 1) := by decide +kernel
theorem dX6_spotsThatFit_15 : decode cX6_spotsThatFit 15 = .ok (.getfield 19, 3) := by decide +kernel
theorem dX6_spotsThatFit_18 : decode cX6_spotsThatFit 18 = .ok (.iconst 5, 1) := by decide +kernel
theorem dX6_spotsThatFit_19 : decode cX6_spotsThatFit 19 = .ok (.iconst 0, 1) := by decide +kernel
theorem dX6_spotsThatFit_20 : decode cX6_spotsThatFit 20 = .ok (.iload 5, 2) := by decide +kernel
theorem dX6_spotsThatFit_22 : decode cX6_spotsThatFit 22 = .ok (.invokevirtual 84, 3) := by decide +kernel
theorem dX6_spotsThatFit_25 : decode cX6_spotsThatFit 25 = .ok (.pop, 1) := by decide +kernel
theorem dX6_spotsThatFit_26 : decode cX6_spotsThatFit 26 = .ok (.aload_n 0, 1) := by decide +kernel
theorem dX6_spotsThatFit_27 : decode cX6_spotsThatFit 27 = .ok (.aload_n 1, 1) := by decide +kernel
theorem dX6_spotsThatFit_28 : decode cX6_spotsThatFit 28 = .ok (.invokevirtual 185, 3) := by decide +kernel
theorem dX6_spotsThatFit_31 : decode cX6_spotsThatFit 31 = .ok (.ifCond .ne 10, 3) := by decide +kernel
theorem dX6_spotsThatFit_34 : decode cX6_spotsThatFit 34 = .ok (.iinc 3 1, 3) := by decide +kernel
theorem dX6_spotsThatFit_37 : decode cX6_spotsThatFit 37 = .ok (.iload 5, 2) := by decide +kernel
theorem dX6_spotsThatFit_39 : decode cX6_spotsThatFit 39 = .ok (.istore 4, 2) := by decide +kernel
theorem dX6_spotsThatFit_41 : decode cX6_spotsThatFit 41 = .ok (.iinc 5 (-1), 3) := by decide +kernel
theorem dX6_spotsThatFit_44 : decode cX6_spotsThatFit 44 = .ok (.goto (-35), 3) := by decide +kernel
theorem dX6_spotsThatFit_47 : decode cX6_spotsThatFit 47 = .ok (.iload_n 2, 1) := by decide +kernel
theorem dX6_spotsThatFit_48 : decode cX6_spotsThatFit 48 = .ok (.ifCond .eq 7, 3) := by decide +kernel
theorem dX6_spotsThatFit_51 : decode cX6_spotsThatFit 51 = .ok (.iload_n 3, 1) := by decide +kernel
theorem dX6_spotsThatFit_52 : decode cX6_spotsThatFit 52 = .ok (.goto 5, 3) := by decide +kernel
theorem dX6_spotsThatFit_55 : decode cX6_spotsThatFit 55 = .ok (.iload 4, 2) := by decide +kernel
theorem dX6_spotsThatFit_57 : decode cX6_spotsThatFit 57 = .ok (.ireturn, 1) := by decide +kernel
theorem dX6_bitsThatFit_0 : decode cX6_bitsThatFit 0 = .ok (.iconst 0, 1) := by decide +kernel
theorem dX6_bitsThatFit_1 : decode cX6_bitsThatFit 1 = .ok (.istore 5, 2) := by decide +kernel
theorem dX6_bitsThatFit_3 : decode cX6_bitsThatFit 3 = .ok (.iconst 0, 1) := by decide +kernel
theorem dX6_bitsThatFit_4 : decode cX6_bitsThatFit 4 = .ok (.istore 6, 2) := by decide +kernel
theorem dX6_bitsThatFit_6 : decode cX6_bitsThatFit 6 = .ok (.iload 6, 2) := by decide +kernel
theorem dX6_bitsThatFit_8 : decode cX6_bitsThatFit 8 = .ok (.iload 4, 2) := by decide +kernel
theorem dX6_bitsThatFit_10 : decode cX6_bitsThatFit 10 = .ok (.if_icmp .ge 38, 3) := by decide +kernel
theorem dX6_bitsThatFit_13 : decode cX6_bitsThatFit 13 = .ok (.aload_n 0, 1) := by decide +kernel
theorem dX6_bitsThatFit_14 : decode cX6_bitsThatFit 14 = .ok (.getfield 19, 3) := by decide +kernel
theorem dX6_bitsThatFit_17 : decode cX6_bitsThatFit 17 = .ok (.iload_n 2, 1) := by decide +kernel
theorem dX6_bitsThatFit_18 : decode cX6_bitsThatFit 18 = .ok (.iload_n 3, 1) := by decide +kernel
theorem dX6_bitsThatFit_19 : decode cX6_bitsThatFit 19 = .ok (.iload 6, 2) := by decide +kernel
theorem dX6_bitsThatFit_21 : decode cX6_bitsThatFit 21 = .ok (.invokevirtual 84, 3) := by decide +kernel
theorem dX6_bitsThatFit_24 : decode cX6_bitsThatFit 24 = .ok (.pop, 1) := by decide +kernel
theorem dX6_bitsThatFit_25 : decode cX6_bitsThatFit 25 = .ok (.aload_n 0, 1) := by decide +kernel
theorem dX6_bitsThatFit_26 : decode cX6_bitsThatFit 26 = .ok (.aload_n 1, 1) := by decide +kernel
theorem dX6_bitsThatFit_27 : decode cX6_bitsThatFit 27 = .ok (.invokevirtual 185, 3) := by decide +kernel
theorem dX6_bitsThatFit_30 : decode cX6_bitsThatFit 30 = .ok (.ifCond .ne 12, 3) := by decide +kernel
theorem dX6_bitsThatFit_33 : decode cX6_bitsThatFit 33 = .ok (.iload 5, 2) := by decide +kernel
theorem dX6_bitsThatFit_35 : decode cX6_bitsThatFit 35 = .ok (.iconst 1, 1) := by decide +kernel
theorem dX6_bitsThatFit_36 : decode cX6_bitsThatFit 36 = .ok (.iload 6, 2) := by decide +kernel
theorem dX6_bitsThatFit_38 : decode cX6_bitsThatFit 38 = .ok (.ishl, 1) := by decide +kernel
theorem dX6_bitsThatFit_39 : decode cX6_bitsThatFit 39 = .ok (.ior, 1) := by decide +kernel
theorem dX6_bitsThatFit_40 : decode cX6_bitsThatFit 40 = .ok (.istore 5, 2) := by decide +kernel
theorem dX6_bitsThatFit_42 : decode cX6_bitsThatFit 42 = .ok (.iinc 6 1, 3) := by decide +kernel
theorem dX6_bitsThatFit_45 : decode cX6_bitsThatFit 45 = .ok (.goto (-39), 3) := by decide +kernel
theorem dX6_bitsThatFit_48 : decode cX6_bitsThatFit 48 = .ok (.iload 5, 2) := by decide +kernel
theorem dX6_bitsThatFit_50 : decode cX6_bitsThatFit 50 = .ok (.ireturn, 1) := by decide +kernel
theorem dX6_textsThatFit_0 : decode cX6_textsThatFit 0 = .ok (.iconst 0, 1) := by decide +kernel
theorem dX6_textsThatFit_1 : decode cX6_textsThatFit 1 = .ok (.istore_n 2, 1) := by decide +kernel
theorem dX6_textsThatFit_2 : decode cX6_textsThatFit 2 = .ok (.iconst 0, 1) := by decide +kernel
theorem dX6_textsThatFit_3 : decode cX6_textsThatFit 3 = .ok (.istore_n 3, 1) := by decide +kernel
theorem dX6_textsThatFit_4 : decode cX6_textsThatFit 4 = .ok (.iload_n 3, 1) := by decide +kernel
theorem dX6_textsThatFit_5 : decode cX6_textsThatFit 5 = .ok (.aload_n 0, 1) := by decide +kernel
theorem dX6_textsThatFit_6 : decode cX6_textsThatFit 6 = .ok (.getfield 39, 3) := by decide +kernel
theorem dX6_textsThatFit_9 : decode cX6_textsThatFit 9 = .ok (.if_icmp .ge 31, 3) := by decide +kernel
theorem dX6_textsThatFit_12 : decode cX6_textsThatFit 12 = .ok (.aload_n 0, 1) := by decide +kernel
theorem dX6_textsThatFit_13 : decode cX6_textsThatFit 13 = .ok (.getfield 19, 3) := by decide +kernel
theorem dX6_textsThatFit_16 : decode cX6_textsThatFit 16 = .ok (.iload_n 3, 1) := by decide +kernel
theorem dX6_textsThatFit_17 : decode cX6_textsThatFit 17 = .ok (.putfield 111, 3) := by decide +kernel
theorem dX6_textsThatFit_20 : decode cX6_textsThatFit 20 = .ok (.aload_n 0, 1) := by decide +kernel
theorem dX6_textsThatFit_21 : decode cX6_textsThatFit 21 = .ok (.aload_n 1, 1) := by decide +kernel
theorem dX6_textsThatFit_22 : decode cX6_textsThatFit 22 = .ok (.invokevirtual 185, 3) := by decide +kernel
theorem dX6_textsThatFit_25 : decode cX6_textsThatFit 25 = .ok (.ifCond .ne 9, 3) := by decide +kernel
theorem dX6_textsThatFit_28 : decode cX6_textsThatFit 28 = .ok (.iload_n 2, 1) := by decide +kernel
theorem dX6_textsThatFit_29 : decode cX6_textsThatFit 29 = .ok (.iconst 1, 1) := by decide +kernel
theorem dX6_textsThatFit_30 : decode cX6_textsThatFit 30 = .ok (.iload_n 3, 1) := by decide +kernel
theorem dX6_textsThatFit_31 : decode cX6_textsThatFit 31 = .ok (.ishl, 1) := by decide +kernel
theorem dX6_textsThatFit_32 : decode cX6_textsThatFit 32 = .ok (.ior, 1) := by decide +kernel
theorem dX6_textsThatFit_33 : decode cX6_textsThatFit 33 = .ok (.istore_n 2, 1) := by decide +kernel
theorem dX6_textsThatFit_34 : decode cX6_textsThatFit 34 = .ok (.iinc 3 1, 3) := by decide +kernel
theorem dX6_textsThatFit_37 : decode cX6_textsThatFit 37 = .ok (.goto (-33), 3) := by decide +kernel
theorem dX6_textsThatFit_40 : decode cX6_textsThatFit 40 = .ok (.iload_n 2, 1) := by decide +kernel
theorem dX6_textsThatFit_41 : decode cX6_textsThatFit 41 = .ok (.ireturn, 1) := by decide +kernel
end
section
theorem dX7_in_0 : decode cX7_in 0 = .ok (.lload_n 0, 1) := by decide +kernel
theorem dX7_in_1 : decode cX7_in 1 = .ok (.lload_n 2, 1) := by decide +kernel
theorem dX7_in_2 : decode cX7_in 2 = .ok (.lcmp, 1) := by decide +kernel
theorem dX7_in_3 : decode cX7_in 3 = .ok (.ifCond .lt 14, 3) := by decide +kernel
theorem dX7_in_6 : decode cX7_in 6 = .ok (.lload_n 0, 1) := by decide +kernel
theorem dX7_in_7 : decode cX7_in 7 = .ok (.lload 4, 2) := by decide +kernel
theorem dX7_in_9 : decode cX7_in 9 = .ok (.lcmp, 1) := by decide +kernel
theorem dX7_in_10 : decode cX7_in 10 = .ok (.ifCond .gt 7, 3) := by decide +kernel
theorem dX7_in_13 : decode cX7_in 13 = .ok (.iconst 1, 1) := by decide +kernel
theorem dX7_in_14 : decode cX7_in 14 = .ok (.goto 4, 3) := by decide +kernel
theorem dX7_in_17 : decode cX7_in 17 = .ok (.iconst 0, 1) := by decide +kernel
theorem dX7_in_18 : decode cX7_in 18 = .ok (.ireturn, 1) := by decide +kernel
theorem dX7_within_0 : decode cX7_within 0 = .ok (.iload_n 0, 1) := by decide +kernel
theorem dX7_within_1 : decode cX7_within 1 = .ok (.iload_n 1, 1) := by decide +kernel
theorem dX7_within_2 : decode cX7_within 2 = .ok (.if_icmp .ge 7, 3) := by decide +kernel
theorem dX7_within_5 : decode cX7_within 5 = .ok (.iload_n 1, 1) := by decide +kernel
theorem dX7_within_6 : decode cX7_within 6 = .ok (.goto 13, 3) := by decide +kernel
theorem dX7_within_9 : decode cX7_within 9 = .ok (.iload_n 0, 1) := by decide +kernel
theorem dX7_within_10 : decode cX7_within 10 = .ok (.iload_n 2, 1) := by decide +kernel
theorem dX7_within_11 : decode cX7_within 11 = .ok (.if_icmp .le 7, 3) := by decide +kernel
theorem dX7_within_14 : decode cX7_within 14 = .ok (.iload_n 2, 1) := by decide +kernel
theorem dX7_within_15 : decode cX7_within 15 = .ok (.goto 4, 3) := by decide +kernel
theorem dX7_within_18 : decode cX7_within 18 = .ok (.iload_n 0, 1) := by decide +kernel
theorem dX7_within_19 : decode cX7_within 19 = .ok (.ireturn, 1) := by decide +kernel
theorem dX7_init_0 : decode cX7_init 0 = .ok (.aload_n 0, 1) := by decide +kernel
theorem dX7_init_1 : decode cX7_init 1 = .ok (.invokespecial 7, 3) := by decide +kernel
theorem dX7_init_4 : decode cX7_init 4 = .ok (.aload_n 0, 1) := by decide +kernel
theorem dX7_init_5 : decode cX7_init 5 = .ok (.sipush 960, 3) := by decide +kernel
theorem dX7_init_8 : decode cX7_init 8 = .ok (.newarray .int, 2) := by decide +kernel
theorem dX7_init_10 : decode cX7_init 10 = .ok (.putfield 13, 3) := by decide +kernel
theorem dX7_init_13 : decode cX7_init 13 = .ok (.aload_n 0, 1) := by decide +kernel
theorem dX7_init_14 : decode cX7_init 14 = .ok (.bipush 6, 2) := by decide +kernel
theorem dX7_init_16 : decode cX7_init 16 = .ok (.newarray .int, 2) := by decide +kernel
theorem dX7_init_18 : decode cX7_init 18 = .ok (.putfield 17, 3) := by decide +kernel
theorem dX7_init_21 : decode cX7_init 21 = .ok (.aload_n 0, 1) := by decide +kernel
theorem dX7_init_22 : decode cX7_init 22 = .ok (.sipush 160, 3) := by decide +kernel
theorem dX7_init_25 : decode cX7_init 25 = .ok (.newarray .int, 2) := by decide +kernel
theorem dX7_init_27 : decode cX7_init 27 = .ok (.putfield 20, 3) := by decide +kernel
theorem dX7_init_30 : decode cX7_init 30 = .ok (.aload_n 0, 1) := by decide +kernel
theorem dX7_init_31 : decode cX7_init 31 = .ok (.bipush 8, 2) := by decide +kernel
theorem dX7_init_33 : decode cX7_init 33 = .ok (.newarray .int, 2) := by decide +kernel
theorem dX7_init_35 : decode cX7_init 35 = .ok (.dup, 1) := by decide +kernel
theorem dX7_init_36 : decode cX7_init 36 = .ok (.iconst 0, 1) := by decide +kernel
theorem dX7_init_37 : decode cX7_init 37 = .ok (.iconst 0, 1) := by decide +kernel
theorem dX7_init_38 : decode cX7_init 38 = .ok (.iastore, 1) := by decide +kernel
theorem dX7_init_39 : decode cX7_init 39 = .ok (.dup, 1) := by decide +kernel
theorem dX7_init_40 : decode cX7_init 40 = .ok (.iconst 1, 1) := by decide +kernel
theorem dX7_init_41 : decode cX7_init 41 = .ok (.bipush 9, 2) := by decide +kernel
theorem dX7_init_43 : decode cX7_init 43 = .ok (.iastore, 1) := by decide +kernel
theorem dX7_init_44 : decode cX7_init 44 = .ok (.dup, 1) := by decide +kernel
theorem dX7_init_45 : decode cX7_init 45 = .ok (.iconst 2, 1) := by decide +kernel
theorem dX7_init_46 : decode cX7_init 46 = .ok (.iconst 0, 1) := by decide +kernel
theorem dX7_init_47 : decode cX7_init 47 = .ok (.iastore, 1) := by decide +kernel
theorem dX7_init_48 : decode cX7_init 48 = .ok (.dup, 1) := by decide +kernel
theorem dX7_init_49 : decode cX7_init 49 = .ok (.iconst 3, 1) := by decide +kernel
theorem dX7_init_50 : decode cX7_init 50 = .ok (.sipush 199, 3) := by decide +kernel
theorem dX7_init_53 : decode cX7_init 53 = .ok (.iastore, 1) := by decide +kernel
theorem dX7_init_54 : decode cX7_init 54 = .ok (.dup, 1) := by decide +kernel
theorem dX7_init_55 : decode cX7_init 55 = .ok (.iconst 4, 1) := by decide +kernel
theorem dX7_init_56 : decode cX7_init 56 = .ok (.iconst 0, 1) := by decide +kernel
theorem dX7_init_57 : decode cX7_init 57 = .ok (.iastore, 1) := by decide +kernel
theorem dX7_init_58 : decode cX7_init 58 = .ok (.dup, 1) := by decide +kernel
theorem dX7_init_59 : decode cX7_init 59 = .ok (.iconst 5, 1) := by decide +kernel
theorem dX7_init_60 : decode cX7_init 60 = .ok (.iconst 0, 1) := by decide +kernel
theorem dX7_init_61 : decode cX7_init 61 = .ok (.iastore, 1) := by decide +kernel
theorem dX7_init_62 : decode cX7_init 62 = .ok (.dup, 1) := by decide +kernel
theorem dX7_init_63 : decode cX7_init 63 = .ok (.bipush 6, 2) := by decide +kernel
theorem dX7_init_65 : decode cX7_init 65 = .ok (.iconst 0, 1) := by decide +kernel
theorem dX7_init_66 : decode cX7_init 66 = .ok (.iastore, 1) := by decide +kernel
theorem dX7_init_67 : decode cX7_init 67 = .ok (.dup, 1) := by decide +kernel
theorem dX7_init_68 : decode cX7_init 68 = .ok (.bipush 7, 2) := by decide +kernel
theorem dX7_init_70 : decode cX7_init 70 = .ok (.sipush 199, 3) := by decide +kernel
theorem dX7_init_73 : decode cX7_init 73 = .ok (.iastore, 1) := by decide +kernel
theorem dX7_init_74 : decode cX7_init 74 = .ok (.putfield 23, 3) := by decide +kernel
theorem dX7_init_77 : decode cX7_init 77 = .ok (.aload_n 0, 1) := by decide +kernel
theorem dX7_init_78 : decode cX7_init 78 = .ok (.bipush 7, 2) := by decide +kernel
theorem dX7_init_80 : decode cX7_init 80 = .ok (.newarray .int, 2) := by decide +kernel
theorem dX7_init_82 : decode cX7_init 82 = .ok (.putfield 26, 3) := by decide +kernel
theorem dX7_init_85 : decode cX7_init 85 = .ok (.aload_n 0, 1) := by decide +kernel
theorem dX7_init_86 : decode cX7_init 86 = .ok (.bipush 35, 2) := by decide +kernel
theorem dX7_init_88 : decode cX7_init 88 = .ok (.newarray .int, 2) := by decide +kernel
theorem dX7_init_90 : decode cX7_init 90 = .ok (.putfield 29, 3) := by decide +kernel
theorem dX7_init_93 : decode cX7_init 93 = .ok (.aload_n 0, 1) := by decide +kernel
theorem dX7_init_94 : decode cX7_init 94 = .ok (.bipush 7, 2) := by decide +kernel
theorem dX7_init_96 : decode cX7_init 96 = .ok (.newarray .int, 2) := by decide +kernel
theorem dX7_init_98 : decode cX7_init 98 = .ok (.putfield 32, 3) := by decide +kernel
theorem dX7_init_101 : decode cX7_init 101 = .ok (.aload_n 0, 1) := by decide +kernel
theorem dX7_init_102 : decode cX7_init 102 = .ok (.bipush 7, 2) := by decide +kernel
theorem dX7_init_104 : decode cX7_init 104 = .ok (.newarray .int, 2) := by decide +kernel
theorem dX7_init_106 : decode cX7_init 106 = .ok (.putfield 35, 3) := by decide +kernel
theorem dX7_init_109 : decode cX7_init 109 = .ok (.aload_n 0, 1) := by decide +kernel
theorem dX7_init_110 : decode cX7_init 110 = .ok (.iconst 4, 1) := by decide +kernel
theorem dX7_init_111 : decode cX7_init 111 = .ok (.newarray .int, 2) := by decide +kernel
theorem dX7_init_113 : decode cX7_init 113 = .ok (.putfield 38, 3) := by decide +kernel
theorem dX7_init_116 : decode cX7_init 116 = .ok (.aload_n 0, 1) := by decide +kernel
theorem dX7_init_117 : decode cX7_init 117 = .ok (.bipush 8, 2) := by decide +kernel
theorem dX7_init_119 : decode cX7_init 119 = .ok (.newarray .int, 2) := by decide +kernel
theorem dX7_init_121 : decode cX7_init 121 = .ok (.putfield 41, 3) := by decide +kernel
theorem dX7_init_124 : decode cX7_init 124 = .ok (.aload_n 0, 1) := by decide +kernel
theorem dX7_init_125 : decode cX7_init 125 = .ok (.bipush 35, 2) := by decide +kernel
theorem dX7_init_127 : decode cX7_init 127 = .ok (.newarray .int, 2) := by decide +kernel
theorem dX7_init_129 : decode cX7_init 129 = .ok (.putfield 44, 3) := by decide +kernel
theorem dX7_init_132 : decode cX7_init 132 = .ok (.aload_n 0, 1) := by decide +kernel
theorem dX7_init_133 : decode cX7_init 133 = .ok (.iconst (-1), 1) := by decide +kernel
theorem dX7_init_134 : decode cX7_init 134 = .ok (.putfield 47, 3) := by decide +kernel
theorem dX7_init_137 : decode cX7_init 137 = .ok (.aload_n 0, 1) := by decide +kernel
theorem dX7_init_138 : decode cX7_init 138 = .ok (.iconst 4, 1) := by decide +kernel
theorem dX7_init_139 : decode cX7_init 139 = .ok (.newarray .boolean, 2) := by decide +kernel
theorem dX7_init_141 : decode cX7_init 141 = .ok (.putfield 50, 3) := by decide +kernel
theorem dX7_init_144 : decode cX7_init 144 = .ok (.aload_n 0, 1) := by decide +kernel
theorem dX7_init_145 : decode cX7_init 145 = .ok (.iconst 4, 1) := by decide +kernel
theorem dX7_init_146 : decode cX7_init 146 = .ok (.newarray .int, 2) := by decide +kernel
theorem dX7_init_148 : decode cX7_init 148 = .ok (.putfield 54, 3) := by decide +kernel
theorem dX7_init_151 : decode cX7_init 151 = .ok (.aload_n 0, 1) := by decide +kernel
theorem dX7_init_152 : decode cX7_init 152 = .ok (.iconst 4, 1) := by decide +kernel
theorem dX7_init_153 : decode cX7_init 153 = .ok (.newarray .int, 2) := by decide +kernel
theorem dX7_init_155 : decode cX7_init 155 = .ok (.putfield 57, 3) := by decide +kernel
theorem dX7_init_158 : decode cX7_init 158 = .ok (.aload_n 0, 1) := by decide +kernel
theorem dX7_init_159 : decode cX7_init 159 = .ok (.sipush 160, 3) := by decide +kernel
theorem dX7_init_162 : decode cX7_init 162 = .ok (.newarray .int, 2) := by decide +kernel
theorem dX7_init_164 : decode cX7_init 164 = .ok (.putfield 60, 3) := by decide +kernel
theorem dX7_init_167 : decode cX7_init 167 = .ok (.aload_n 0, 1) := by decide +kernel
theorem dX7_init_168 : decode cX7_init 168 = .ok (.iconst 0, 1) := by decide +kernel
theorem dX7_init_169 : decode cX7_init 169 = .ok (.bipush 116, 2) := by decide +kernel
theorem dX7_init_171 : decode cX7_init 171 = .ok (.bipush 117, 2) := by decide +kernel
theorem dX7_init_173 : decode cX7_init 173 = .ok (.bipush 114, 2) := by decide +kernel
theorem dX7_init_175 : decode cX7_init 175 = .ok (.bipush 110, 2) := by decide +kernel
theorem dX7_init_177 : decode cX7_init 177 = .ok (.bipush 115, 2) := by decide +kernel
theorem dX7_init_179 : decode cX7_init 179 = .ok (.bipush 32, 2) := by decide +kernel
theorem dX7_init_181 : decode cX7_init 181 = .ok (.bipush 102, 2) := by decide +kernel
theorem dX7_init_183 : decode cX7_init 183 = .ok (.bipush 97, 2) := by decide +kernel
theorem dX7_init_185 : decode cX7_init 185 = .ok (.invokevirtual 63, 3) := by decide +kernel
theorem dX7_init_188 : decode cX7_init 188 = .ok (.aload_n 0, 1) := by decide +kernel
theorem dX7_init_189 : decode cX7_init 189 = .ok (.bipush 8, 2) := by decide +kernel
theorem dX7_init_191 : decode cX7_init 191 = .ok (.bipush 114, 2) := by decide +kernel
theorem dX7_init_193 : decode cX7_init 193 = .ok (.bipush 32, 2) := by decide +kernel
theorem dX7_init_195 : decode cX7_init 195 = .ok (.bipush 59, 2) := by decide +kernel
theorem dX7_init_197 : decode cX7_init 197 = .ok (.bipush 32, 2) := by decide +kernel
theorem dX7_init_199 : decode cX7_init 199 = .ok (.bipush 102, 2) := by decide +kernel
theorem dX7_init_201 : decode cX7_init 201 = .ok (.bipush 105, 2) := by decide +kernel
theorem dX7_init_203 : decode cX7_init 203 = .ok (.bipush 110, 2) := by decide +kernel
theorem dX7_init_205 : decode cX7_init 205 = .ok (.bipush 100, 2) := by decide +kernel
theorem dX7_init_207 : decode cX7_init 207 = .ok (.invokevirtual 63, 3) := by decide +kernel
theorem dX7_init_210 : decode cX7_init 210 = .ok (.aload_n 0, 1) := by decide +kernel
theorem dX7_init_211 : decode cX7_init 211 = .ok (.bipush 16, 2) := by decide +kernel
theorem dX7_init_213 : decode cX7_init 213 = .ok (.bipush 115, 2) := by decide +kernel
theorem dX7_init_215 : decode cX7_init 215 = .ok (.bipush 32, 2) := by decide +kernel
theorem dX7_init_217 : decode cX7_init 217 = .ok (.bipush 53, 2) := by decide +kernel
theorem dX7_init_219 : decode cX7_init 219 = .ok (.bipush 32, 2) := by decide +kernel
theorem dX7_init_221 : decode cX7_init 221 = .ok (.bipush 59, 2) := by decide +kernel
theorem dX7_init_223 : decode cX7_init 223 = .ok (.bipush 32, 2) := by decide +kernel
theorem dX7_init_225 : decode cX7_init 225 = .ok (.bipush 119, 2) := by decide +kernel
theorem dX7_init_227 : decode cX7_init 227 = .ok (.bipush 97, 2) := by decide +kernel
theorem dX7_init_229 : decode cX7_init 229 = .ok (.invokevirtual 63, 3) := by decide +kernel
theorem dX7_init_232 : decode cX7_init 232 = .ok (.aload_n 0, 1) := by decide +kernel
theorem dX7_init_233 : decode cX7_init 233 = .ok (.bipush 24, 2) := by decide +kernel
theorem dX7_init_235 : decode cX7_init 235 = .ok (.bipush 105, 2) := by decide +kernel
theorem dX7_init_237 : decode cX7_init 237 = .ok (.bipush 116, 2) := by decide +kernel
theorem dX7_init_239 : decode cX7_init 239 = .ok (.bipush 115, 2) := by decide +kernel
theorem dX7_init_241 : decode cX7_init 241 = .ok (.bipush 32, 2) := by decide +kernel
theorem dX7_init_243 : decode cX7_init 243 = .ok (.bipush 48, 2) := by decide +kernel
theorem dX7_init_245 : decode cX7_init 245 = .ok (.bipush 32, 2) := by decide +kernel
theorem dX7_init_247 : decode cX7_init 247 = .ok (.bipush 59, 2) := by decide +kernel
theorem dX7_init_249 : decode cX7_init 249 = .ok (.bipush 32, 2) := by decide +kernel
theorem dX7_init_251 : decode cX7_init 251 = .ok (.invokevirtual 63, 3) := by decide +kernel
theorem dX7_init_254 : decode cX7_init 254 = .ok (.aload_n 0, 1) := by decide +kernel
theorem dX7_init_255 : decode cX7_init 255 = .ok (.getfield 17, 3) := by decide +kernel
theorem dX7_init_258 : decode cX7_init 258 = .ok (.iconst 0, 1) := by decide +kernel
theorem dX7_init_259 : decode cX7_init 259 = .ok (.bipush 32, 2) := by decide +kernel
theorem dX7_init_261 : decode cX7_init 261 = .ok (.iastore, 1) := by decide +kernel
theorem dX7_init_262 : decode cX7_init 262 = .ok (.aload_n 0, 1) := by decide +kernel
theorem dX7_init_263 : decode cX7_init 263 = .ok (.iconst 1, 1) := by decide +kernel
theorem dX7_init_264 : decode cX7_init 264 = .ok (.putfield 67, 3) := by decide +kernel
theorem dX7_init_267 : decode cX7_init 267 = .ok (.return_, 1) := by decide +kernel
theorem dX7_spell_0 : decode cX7_spell 0 = .ok (.aload_n 0, 1) := by decide +kernel
theorem dX7_spell_1 : decode cX7_spell 1 = .ok (.getfield 13, 3) := by decide +kernel
theorem dX7_spell_4 : decode cX7_spell 4 = .ok (.iload_n 1, 1) := by decide +kernel
theorem dX7_spell_5 : decode cX7_spell 5 = .ok (.iload_n 2, 1) := by decide +kernel
theorem dX7_spell_6 : decode cX7_spell 6 = .ok (.iastore, 1) := by decide +kernel
theorem dX7_spell_7 : decode cX7_spell 7 = .ok (.aload_n 0, 1) := by decide +kernel
theorem dX7_spell_8 : decode cX7_spell 8 = .ok (.getfield 13, 3) := by decide +kernel
theorem dX7_spell_11 : decode cX7_spell 11 = .ok (.iload_n 1, 1) := by decide +kernel
theorem dX7_spell_12 : decode cX7_spell 12 = .ok (.iconst 1, 1) := by decide +kernel
theorem dX7_spell_13 : decode cX7_spell 13 = .ok (.iadd, 1) := by decide +kernel
theorem dX7_spell_14 : decode cX7_spell 14 = .ok (.iload_n 3, 1) := by decide +kernel
theorem dX7_spell_15 : decode cX7_spell 15 = .ok (.iastore, 1) := by decide +kernel
theorem dX7_spell_16 : decode cX7_spell 16 = .ok (.aload_n 0, 1) := by decide +kernel
theorem dX7_spell_17 : decode cX7_spell 17 = .ok (.getfield 13, 3) := by decide +kernel
theorem dX7_spell_20 : decode cX7_spell 20 = .ok (.iload_n 1, 1) := by decide +kernel
theorem dX7_spell_21 : decode cX7_spell 21 = .ok (.iconst 2, 1) := by decide +kernel
theorem dX7_spell_22 : decode cX7_spell 22 = .ok (.iadd, 1) := by decide +kernel
theorem dX7_spell_23 : decode cX7_spell 23 = .ok (.iload 4, 2) := by decide +kernel
theorem dX7_spell_25 : decode cX7_spell 25 = .ok (.iastore, 1) := by decide +kernel
theorem dX7_spell_26 : decode cX7_spell 26 = .ok (.aload_n 0, 1) := by decide +kernel
theorem dX7_spell_27 : decode cX7_spell 27 = .ok (.getfield 13, 3) := by decide +kernel
theorem dX7_spell_30 : decode cX7_spell 30 = .ok (.iload_n 1, 1) := by decide +kernel
theorem dX7_spell_31 : decode cX7_spell 31 = .ok (.iconst 3, 1) := by decide +kernel
theorem dX7_spell_32 : decode cX7_spell 32 = .ok (.iadd, 1) := by decide +kernel
theorem dX7_spell_33 : decode cX7_spell 33 = .ok (.iload 5, 2) := by decide +kernel
theorem dX7_spell_35 : decode cX7_spell 35 = .ok (.iastore, 1) := by decide +kernel
theorem dX7_spell_36 : decode cX7_spell 36 = .ok (.aload_n 0, 1) := by decide +kernel
theorem dX7_spell_37 : decode cX7_spell 37 = .ok (.getfield 13, 3) := by decide +kernel
theorem dX7_spell_40 : decode cX7_spell 40 = .ok (.iload_n 1, 1) := by decide +kernel
theorem dX7_spell_41 : decode cX7_spell 41 = .ok (.iconst 4, 1) := by decide +kernel
theorem dX7_spell_42 : decode cX7_spell 42 = .ok (.iadd, 1) := by decide +kernel
theorem dX7_spell_43 : decode cX7_spell 43 = .ok (.iload 6, 2) := by decide +kernel
theorem dX7_spell_45 : decode cX7_spell 45 = .ok (.iastore, 1) := by decide +kernel
theorem dX7_spell_46 : decode cX7_spell 46 = .ok (.aload_n 0, 1) := by decide +kernel
theorem dX7_spell_47 : decode cX7_spell 47 = .ok (.getfield 13, 3) := by decide +kernel
theorem dX7_spell_50 : decode cX7_spell 50 = .ok (.iload_n 1, 1) := by decide +kernel
theorem dX7_spell_51 : decode cX7_spell 51 = .ok (.iconst 5, 1) := by decide +kernel
theorem dX7_spell_52 : decode cX7_spell 52 = .ok (.iadd, 1) := by decide +kernel
theorem dX7_spell_53 : decode cX7_spell 53 = .ok (.iload 7, 2) := by decide +kernel
theorem dX7_spell_55 : decode cX7_spell 55 = .ok (.iastore, 1) := by decide +kernel
theorem dX7_spell_56 : decode cX7_spell 56 = .ok (.aload_n 0, 1) := by decide +kernel
theorem dX7_spell_57 : decode cX7_spell 57 = .ok (.getfield 13, 3) := by decide +kernel
theorem dX7_spell_60 : decode cX7_spell 60 = .ok (.iload_n 1, 1) := by decide +kernel
theorem dX7_spell_61 : decode cX7_spell 61 = .ok (.bipush 6, 2) := by decide +kernel
theorem dX7_spell_63 : decode cX7_spell 63 = .ok (.iadd, 1) := by decide +kernel
theorem dX7_spell_64 : decode cX7_spell 64 = .ok (.iload 8, 2) := by decide +kernel
theorem dX7_spell_66 : decode cX7_spell 66 = .ok (.iastore, 1) := by decide +kernel
theorem dX7_spell_67 : decode cX7_spell 67 = .ok (.aload_n 0, 1) := by decide +kernel
theorem dX7_spell_68 : decode cX7_spell 68 = .ok (.getfield 13, 3) := by decide +kernel
theorem dX7_spell_71 : decode cX7_spell 71 = .ok (.iload_n 1, 1) := by decide +kernel
theorem dX7_spell_72 : decode cX7_spell 72 = .ok (.bipush 7, 2) := by decide +kernel
theorem dX7_spell_74 : decode cX7_spell 74 = .ok (.iadd, 1) := by decide +kernel
theorem dX7_spell_75 : decode cX7_spell 75 = .ok (.iload 9, 2) := by decide +kernel
theorem dX7_spell_77 : decode cX7_spell 77 = .ok (.iastore, 1) := by decide +kernel
theorem dX7_spell_78 : decode cX7_spell 78 = .ok (.return_, 1) := by decide +kernel
theorem dX7_isSight_0 : decode cX7_isSight 0 = .ok (.iload_n 1, 1) := by decide +kernel
theorem dX7_isSight_1 : decode cX7_isSight 1 = .ok (.i2l, 1) := by decide +kernel
theorem dX7_isSight_2 : decode cX7_isSight 2 = .ok (.lconst 0, 1) := by decide +kernel
theorem dX7_isSight_3 : decode cX7_isSight 3 = .ok (.aload_n 0, 1) := by decide +kernel
theorem dX7_isSight_4 : decode cX7_isSight 4 = .ok (.getfield 70, 3) := by decide +kernel
theorem dX7_isSight_7 : decode cX7_isSight 7 = .ok (.iconst 1, 1) := by decide +kernel
theorem dX7_isSight_8 : decode cX7_isSight 8 = .ok (.isub, 1) := by decide +kernel
theorem dX7_isSight_9 : decode cX7_isSight 9 = .ok (.i2l, 1) := by decide +kernel
theorem dX7_isSight_10 : decode cX7_isSight 10 = .ok (.invokestatic 73, 3) := by decide +kernel
theorem dX7_isSight_13 : decode cX7_isSight 13 = .ok (.ireturn, 1) := by decide +kernel
theorem dX7_row_0 : decode cX7_row 0 = .ok (.aload_n 0, 1) := by decide +kernel
theorem dX7_row_1 : decode cX7_row 1 = .ok (.getfield 29, 3) := by decide +kernel
theorem dX7_row_4 : decode cX7_row 4 = .ok (.iconst 5, 1) := by decide +kernel
theorem dX7_row_5 : decode cX7_row 5 = .ok (.iload_n 1, 1) := by decide +kernel
theorem dX7_row_6 : decode cX7_row 6 = .ok (.imul, 1) := by decide +kernel
theorem dX7_row_7 : decode cX7_row 7 = .ok (.iload_n 2, 1) := by decide +kernel
theorem dX7_row_8 : decode cX7_row 8 = .ok (.iadd, 1) := by decide +kernel
theorem dX7_row_9 : decode cX7_row 9 = .ok (.iaload, 1) := by decide +kernel
theorem dX7_row_10 : decode cX7_row 10 = .ok (.ireturn, 1) := by decide +kernel
theorem dX7_mostOf_0 : decode cX7_mostOf 0 = .ok (.iload_n 0, 1) := by decide +kernel
theorem dX7_mostOf_1 : decode cX7_mostOf 1 = .ok (.bipush 8, 2) := by decide +kernel
theorem dX7_mostOf_3 : decode cX7_mostOf 3 = .ok (.if_icmp .ge 27, 3) := by decide +kernel
theorem dX7_mostOf_6 : decode cX7_mostOf 6 = .ok (.iload_n 0, 1) := by decide +kernel
theorem dX7_mostOf_7 : decode cX7_mostOf 7 = .ok (.iconst 3, 1) := by decide +kernel
theorem dX7_mostOf_8 : decode cX7_mostOf 8 = .ok (.if_icmp .ge 8, 3) := by decide +kernel
theorem dX7_mostOf_11 : decode cX7_mostOf 11 = .ok (.bipush 9, 2) := by decide +kernel
theorem dX7_mostOf_13 : decode cX7_mostOf 13 = .ok (.goto 16, 3) := by decide +kernel
theorem dX7_mostOf_16 : decode cX7_mostOf 16 = .ok (.iload_n 0, 1) := by decide +kernel
theorem dX7_mostOf_17 : decode cX7_mostOf 17 = .ok (.iconst 5, 1) := by decide +kernel
theorem dX7_mostOf_18 : decode cX7_mostOf 18 = .ok (.if_icmp .ne 8, 3) := by decide +kernel
theorem dX7_mostOf_21 : decode cX7_mostOf 21 = .ok (.bipush 99, 2) := by decide +kernel
theorem dX7_mostOf_23 : decode cX7_mostOf 23 = .ok (.goto 6, 3) := by decide +kernel
theorem dX7_mostOf_26 : decode cX7_mostOf 26 = .ok (.sipush 199, 3) := by decide +kernel
theorem dX7_mostOf_29 : decode cX7_mostOf 29 = .ok (.ireturn, 1) := by decide +kernel
theorem dX7_mostOf_30 : decode cX7_mostOf 30 = .ok (.iload_n 0, 1) := by decide +kernel
theorem dX7_mostOf_31 : decode cX7_mostOf 31 = .ok (.bipush 8, 2) := by decide +kernel
theorem dX7_mostOf_33 : decode cX7_mostOf 33 = .ok (.if_icmp .ne 8, 3) := by decide +kernel
theorem dX7_mostOf_36 : decode cX7_mostOf 36 = .ok (.bipush 9, 2) := by decide +kernel
theorem dX7_mostOf_38 : decode cX7_mostOf 38 = .ok (.goto 28, 3) := by decide +kernel
theorem dX7_mostOf_41 : decode cX7_mostOf 41 = .ok (.iload_n 0, 1) := by decide +kernel
theorem dX7_mostOf_42 : decode cX7_mostOf 42 = .ok (.bipush 9, 2) := by decide +kernel
theorem dX7_mostOf_44 : decode cX7_mostOf 44 = .ok (.if_icmp .ne 8, 3) := by decide +kernel
theorem dX7_mostOf_47 : decode cX7_mostOf 47 = .ok (.bipush 99, 2) := by decide +kernel
theorem dX7_mostOf_49 : decode cX7_mostOf 49 = .ok (.goto 17, 3) := by decide +kernel
theorem dX7_mostOf_52 : decode cX7_mostOf 52 = .ok (.iload_n 0, 1) := by decide +kernel
theorem dX7_mostOf_53 : decode cX7_mostOf 53 = .ok (.bipush 12, 2) := by decide +kernel
theorem dX7_mostOf_55 : decode cX7_mostOf 55 = .ok (.if_icmp .ne 8, 3) := by decide +kernel
theorem dX7_mostOf_58 : decode cX7_mostOf 58 = .ok (.bipush 99, 2) := by decide +kernel
theorem dX7_mostOf_60 : decode cX7_mostOf 60 = .ok (.goto 6, 3) := by decide +kernel
theorem dX7_mostOf_63 : decode cX7_mostOf 63 = .ok (.sipush 199, 3) := by decide +kernel
theorem dX7_mostOf_66 : decode cX7_mostOf 66 = .ok (.ireturn, 1) := by decide +kernel
theorem dX7_set_0 : decode cX7_set 0 = .ok (.iload_n 1, 1) := by decide +kernel
theorem dX7_set_1 : decode cX7_set 1 = .ok (.i2l, 1) := by decide +kernel
theorem dX7_set_2 : decode cX7_set 2 = .ok (.lconst 0, 1) := by decide +kernel
theorem dX7_set_3 : decode cX7_set 3 = .ok (.ldc2_w 77, 3) := by decide +kernel
theorem dX7_set_6 : decode cX7_set 6 = .ok (.invokestatic 73, 3) := by decide +kernel
theorem dX7_set_9 : decode cX7_set 9 = .ok (.ifCond .eq 31, 3) := by decide +kernel
theorem dX7_set_12 : decode cX7_set 12 = .ok (.iload_n 1, 1) := by decide +kernel
theorem dX7_set_13 : decode cX7_set 13 = .ok (.bipush 7, 2) := by decide +kernel
theorem dX7_set_15 : decode cX7_set 15 = .ok (.if_icmp .le 11, 3) := by decide +kernel
theorem dX7_set_18 : decode cX7_set 18 = .ok (.aload_n 0, 1) := by decide +kernel
theorem dX7_set_19 : decode cX7_set 19 = .ok (.iload_n 2, 1) := by decide +kernel
theorem dX7_set_20 : decode cX7_set 20 = .ok (.invokevirtual 79, 3) := by decide +kernel
theorem dX7_set_23 : decode cX7_set 23 = .ok (.ifCond .eq 17, 3) := by decide +kernel
theorem dX7_set_26 : decode cX7_set 26 = .ok (.iload_n 3, 1) := by decide +kernel
theorem dX7_set_27 : decode cX7_set 27 = .ok (.i2l, 1) := by decide +kernel
theorem dX7_set_28 : decode cX7_set 28 = .ok (.lconst 0, 1) := by decide +kernel
theorem dX7_set_29 : decode cX7_set 29 = .ok (.iload_n 1, 1) := by decide +kernel
theorem dX7_set_30 : decode cX7_set 30 = .ok (.invokestatic 83, 3) := by decide +kernel
theorem dX7_set_33 : decode cX7_set 33 = .ok (.i2l, 1) := by decide +kernel
theorem dX7_set_34 : decode cX7_set 34 = .ok (.invokestatic 73, 3) := by decide +kernel
theorem dX7_set_37 : decode cX7_set 37 = .ok (.ifCond .ne 6, 3) := by decide +kernel
theorem dX7_set_40 : decode cX7_set 40 = .ok (.bipush (-2), 2) := by decide +kernel
theorem dX7_set_42 : decode cX7_set 42 = .ok (.ireturn, 1) := by decide +kernel
theorem dX7_set_43 : decode cX7_set 43 = .ok (.iload_n 1, 1) := by decide +kernel
theorem dX7_set_44 : decode cX7_set 44 = .ok (.bipush 10, 2) := by decide +kernel
theorem dX7_set_46 : decode cX7_set 46 = .ok (.if_icmp .ne 13, 3) := by decide +kernel
theorem dX7_set_49 : decode cX7_set 49 = .ok (.iload_n 3, 1) := by decide +kernel
theorem dX7_set_50 : decode cX7_set 50 = .ok (.aload_n 0, 1) := by decide +kernel
theorem dX7_set_51 : decode cX7_set 51 = .ok (.iload_n 2, 1) := by decide +kernel
theorem dX7_set_52 : decode cX7_set 52 = .ok (.iconst 3, 1) := by decide +kernel
theorem dX7_set_53 : decode cX7_set 53 = .ok (.invokevirtual 87, 3) := by decide +kernel
theorem dX7_set_56 : decode cX7_set 56 = .ok (.if_icmp .gt 19, 3) := by decide +kernel
theorem dX7_set_59 : decode cX7_set 59 = .ok (.iload_n 1, 1) := by decide +kernel
theorem dX7_set_60 : decode cX7_set 60 = .ok (.bipush 11, 2) := by decide +kernel
theorem dX7_set_62 : decode cX7_set 62 = .ok (.if_icmp .ne 16, 3) := by decide +kernel
theorem dX7_set_65 : decode cX7_set 65 = .ok (.iload_n 3, 1) := by decide +kernel
theorem dX7_set_66 : decode cX7_set 66 = .ok (.aload_n 0, 1) := by decide +kernel
theorem dX7_set_67 : decode cX7_set 67 = .ok (.iload_n 2, 1) := by decide +kernel
theorem dX7_set_68 : decode cX7_set 68 = .ok (.iconst 2, 1) := by decide +kernel
theorem dX7_set_69 : decode cX7_set 69 = .ok (.invokevirtual 87, 3) := by decide +kernel
theorem dX7_set_72 : decode cX7_set 72 = .ok (.if_icmp .ge 6, 3) := by decide +kernel
theorem dX7_set_75 : decode cX7_set 75 = .ok (.bipush (-2), 2) := by decide +kernel
theorem dX7_set_77 : decode cX7_set 77 = .ok (.ireturn, 1) := by decide +kernel
theorem dX7_set_78 : decode cX7_set 78 = .ok (.aload_n 0, 1) := by decide +kernel
theorem dX7_set_79 : decode cX7_set 79 = .ok (.iload_n 2, 1) := by decide +kernel
theorem dX7_set_80 : decode cX7_set 80 = .ok (.iload_n 1, 1) := by decide +kernel
theorem dX7_set_81 : decode cX7_set 81 = .ok (.invokevirtual 91, 3) := by decide +kernel
theorem dX7_set_84 : decode cX7_set 84 = .ok (.istore 4, 2) := by decide +kernel
theorem dX7_set_86 : decode cX7_set 86 = .ok (.iload_n 1, 1) := by decide +kernel
theorem dX7_set_87 : decode cX7_set 87 = .ok (.bipush 8, 2) := by decide +kernel
theorem dX7_set_89 : decode cX7_set 89 = .ok (.if_icmp .ge 13, 3) := by decide +kernel
theorem dX7_set_92 : decode cX7_set 92 = .ok (.aload_n 0, 1) := by decide +kernel
theorem dX7_set_93 : decode cX7_set 93 = .ok (.getfield 23, 3) := by decide +kernel
theorem dX7_set_96 : decode cX7_set 96 = .ok (.iload_n 1, 1) := by decide +kernel
theorem dX7_set_97 : decode cX7_set 97 = .ok (.iload_n 3, 1) := by decide +kernel
theorem dX7_set_98 : decode cX7_set 98 = .ok (.iastore, 1) := by decide +kernel
theorem dX7_set_99 : decode cX7_set 99 = .ok (.goto 17, 3) := by decide +kernel
theorem dX7_set_102 : decode cX7_set 102 = .ok (.aload_n 0, 1) := by decide +kernel
theorem dX7_set_103 : decode cX7_set 103 = .ok (.getfield 29, 3) := by decide +kernel
theorem dX7_set_106 : decode cX7_set 106 = .ok (.iconst 5, 1) := by decide +kernel
theorem dX7_set_107 : decode cX7_set 107 = .ok (.iload_n 2, 1) := by decide +kernel
theorem dX7_set_108 : decode cX7_set 108 = .ok (.imul, 1) := by decide +kernel
theorem dX7_set_109 : decode cX7_set 109 = .ok (.iload_n 1, 1) := by decide +kernel
theorem dX7_set_110 : decode cX7_set 110 = .ok (.iadd, 1) := by decide +kernel
theorem dX7_set_111 : decode cX7_set 111 = .ok (.bipush 8, 2) := by decide +kernel
theorem dX7_set_113 : decode cX7_set 113 = .ok (.isub, 1) := by decide +kernel
theorem dX7_set_114 : decode cX7_set 114 = .ok (.iload_n 3, 1) := by decide +kernel
theorem dX7_set_115 : decode cX7_set 115 = .ok (.iastore, 1) := by decide +kernel
theorem dX7_set_116 : decode cX7_set 116 = .ok (.iload 4, 2) := by decide +kernel
theorem dX7_set_118 : decode cX7_set 118 = .ok (.ireturn, 1) := by decide +kernel
theorem dX7_sight_0 : decode cX7_sight 0 = .ok (.iload_n 1, 1) := by decide +kernel
theorem dX7_sight_1 : decode cX7_sight 1 = .ok (.i2l, 1) := by decide +kernel
theorem dX7_sight_2 : decode cX7_sight 2 = .ok (.lconst 0, 1) := by decide +kernel
theorem dX7_sight_3 : decode cX7_sight 3 = .ok (.ldc2_w 94, 3) := by decide +kernel
theorem dX7_sight_6 : decode cX7_sight 6 = .ok (.invokestatic 73, 3) := by decide +kernel
theorem dX7_sight_9 : decode cX7_sight 9 = .ok (.ifCond .eq 27, 3) := by decide +kernel
theorem dX7_sight_12 : decode cX7_sight 12 = .ok (.iload_n 2, 1) := by decide +kernel
theorem dX7_sight_13 : decode cX7_sight 13 = .ok (.i2l, 1) := by decide +kernel
theorem dX7_sight_14 : decode cX7_sight 14 = .ok (.lconst 0, 1) := by decide +kernel
theorem dX7_sight_15 : decode cX7_sight 15 = .ok (.ldc2_w 96, 3) := by decide +kernel
theorem dX7_sight_18 : decode cX7_sight 18 = .ok (.invokestatic 73, 3) := by decide +kernel
theorem dX7_sight_21 : decode cX7_sight 21 = .ok (.ifCond .eq 15, 3) := by decide +kernel
theorem dX7_sight_24 : decode cX7_sight 24 = .ok (.iload_n 3, 1) := by decide +kernel
theorem dX7_sight_25 : decode cX7_sight 25 = .ok (.i2l, 1) := by decide +kernel
theorem dX7_sight_26 : decode cX7_sight 26 = .ok (.lconst 0, 1) := by decide +kernel
theorem dX7_sight_27 : decode cX7_sight 27 = .ok (.ldc2_w 98, 3) := by decide +kernel
theorem dX7_sight_30 : decode cX7_sight 30 = .ok (.invokestatic 73, 3) := by decide +kernel
theorem dX7_sight_33 : decode cX7_sight 33 = .ok (.ifCond .ne 6, 3) := by decide +kernel
theorem dX7_sight_36 : decode cX7_sight 36 = .ok (.bipush (-2), 2) := by decide +kernel
theorem dX7_sight_38 : decode cX7_sight 38 = .ok (.ireturn, 1) := by decide +kernel
theorem dX7_sight_39 : decode cX7_sight 39 = .ok (.aload_n 0, 1) := by decide +kernel
theorem dX7_sight_40 : decode cX7_sight 40 = .ok (.getfield 70, 3) := by decide +kernel
theorem dX7_sight_43 : decode cX7_sight 43 = .ok (.bipush 7, 2) := by decide +kernel
theorem dX7_sight_45 : decode cX7_sight 45 = .ok (.if_icmp .ne 6, 3) := by decide +kernel
theorem dX7_sight_48 : decode cX7_sight 48 = .ok (.bipush (-4), 2) := by decide +kernel
theorem dX7_sight_50 : decode cX7_sight 50 = .ok (.ireturn, 1) := by decide +kernel
theorem dX7_sight_51 : decode cX7_sight 51 = .ok (.iconst 5, 1) := by decide +kernel
theorem dX7_sight_52 : decode cX7_sight 52 = .ok (.aload_n 0, 1) := by decide +kernel
theorem dX7_sight_53 : decode cX7_sight 53 = .ok (.getfield 70, 3) := by decide +kernel
theorem dX7_sight_56 : decode cX7_sight 56 = .ok (.imul, 1) := by decide +kernel
theorem dX7_sight_57 : decode cX7_sight 57 = .ok (.istore 4, 2) := by decide +kernel
theorem dX7_sight_59 : decode cX7_sight 59 = .ok (.aload_n 0, 1) := by decide +kernel
theorem dX7_sight_60 : decode cX7_sight 60 = .ok (.getfield 26, 3) := by decide +kernel
theorem dX7_sight_63 : decode cX7_sight 63 = .ok (.aload_n 0, 1) := by decide +kernel
theorem dX7_sight_64 : decode cX7_sight 64 = .ok (.getfield 70, 3) := by decide +kernel
theorem dX7_sight_67 : decode cX7_sight 67 = .ok (.iload_n 1, 1) := by decide +kernel
theorem dX7_sight_68 : decode cX7_sight 68 = .ok (.iastore, 1) := by decide +kernel
theorem dX7_sight_69 : decode cX7_sight 69 = .ok (.aload_n 0, 1) := by decide +kernel
theorem dX7_sight_70 : decode cX7_sight 70 = .ok (.getfield 29, 3) := by decide +kernel
theorem dX7_sight_73 : decode cX7_sight 73 = .ok (.iload 4, 2) := by decide +kernel
theorem dX7_sight_75 : decode cX7_sight 75 = .ok (.iload_n 2, 1) := by decide +kernel
theorem dX7_sight_76 : decode cX7_sight 76 = .ok (.iastore, 1) := by decide +kernel
theorem dX7_sight_77 : decode cX7_sight 77 = .ok (.aload_n 0, 1) := by decide +kernel
theorem dX7_sight_78 : decode cX7_sight 78 = .ok (.getfield 29, 3) := by decide +kernel
theorem dX7_sight_81 : decode cX7_sight 81 = .ok (.iload 4, 2) := by decide +kernel
theorem dX7_sight_83 : decode cX7_sight 83 = .ok (.iconst 1, 1) := by decide +kernel
theorem dX7_sight_84 : decode cX7_sight 84 = .ok (.iadd, 1) := by decide +kernel
theorem dX7_sight_85 : decode cX7_sight 85 = .ok (.iload_n 3, 1) := by decide +kernel
theorem dX7_sight_86 : decode cX7_sight 86 = .ok (.iastore, 1) := by decide +kernel
theorem dX7_sight_87 : decode cX7_sight 87 = .ok (.aload_n 0, 1) := by decide +kernel
theorem dX7_sight_88 : decode cX7_sight 88 = .ok (.getfield 29, 3) := by decide +kernel
theorem dX7_sight_91 : decode cX7_sight 91 = .ok (.iload 4, 2) := by decide +kernel
theorem dX7_sight_93 : decode cX7_sight 93 = .ok (.iconst 2, 1) := by decide +kernel
theorem dX7_sight_94 : decode cX7_sight 94 = .ok (.iadd, 1) := by decide +kernel
theorem dX7_sight_95 : decode cX7_sight 95 = .ok (.iconst 0, 1) := by decide +kernel
theorem dX7_sight_96 : decode cX7_sight 96 = .ok (.iastore, 1) := by decide +kernel
theorem dX7_sight_97 : decode cX7_sight 97 = .ok (.aload_n 0, 1) := by decide +kernel
theorem dX7_sight_98 : decode cX7_sight 98 = .ok (.getfield 29, 3) := by decide +kernel
theorem dX7_sight_101 : decode cX7_sight 101 = .ok (.iload 4, 2) := by decide +kernel
theorem dX7_sight_103 : decode cX7_sight 103 = .ok (.iconst 3, 1) := by decide +kernel
theorem dX7_sight_104 : decode cX7_sight 104 = .ok (.iadd, 1) := by decide +kernel
theorem dX7_sight_105 : decode cX7_sight 105 = .ok (.sipush 199, 3) := by decide +kernel
theorem dX7_sight_108 : decode cX7_sight 108 = .ok (.iastore, 1) := by decide +kernel
theorem dX7_sight_109 : decode cX7_sight 109 = .ok (.aload_n 0, 1) := by decide +kernel
theorem dX7_sight_110 : decode cX7_sight 110 = .ok (.getfield 29, 3) := by decide +kernel
theorem dX7_sight_113 : decode cX7_sight 113 = .ok (.iload 4, 2) := by decide +kernel
theorem dX7_sight_115 : decode cX7_sight 115 = .ok (.iconst 4, 1) := by decide +kernel
theorem dX7_sight_116 : decode cX7_sight 116 = .ok (.iadd, 1) := by decide +kernel
theorem dX7_sight_117 : decode cX7_sight 117 = .ok (.bipush 10, 2) := by decide +kernel
theorem dX7_sight_119 : decode cX7_sight 119 = .ok (.iastore, 1) := by decide +kernel
theorem dX7_sight_120 : decode cX7_sight 120 = .ok (.aload_n 0, 1) := by decide +kernel
theorem dX7_sight_121 : decode cX7_sight 121 = .ok (.dup, 1) := by decide +kernel
theorem dX7_sight_122 : decode cX7_sight 122 = .ok (.getfield 70, 3) := by decide +kernel
theorem dX7_sight_125 : decode cX7_sight 125 = .ok (.iconst 1, 1) := by decide +kernel
theorem dX7_sight_126 : decode cX7_sight 126 = .ok (.iadd, 1) := by decide +kernel
theorem dX7_sight_127 : decode cX7_sight 127 = .ok (.putfield 70, 3) := by decide +kernel
theorem dX7_sight_130 : decode cX7_sight 130 = .ok (.aload_n 0, 1) := by decide +kernel
theorem dX7_sight_131 : decode cX7_sight 131 = .ok (.getfield 70, 3) := by decide +kernel
theorem dX7_sight_134 : decode cX7_sight 134 = .ok (.iconst 1, 1) := by decide +kernel
theorem dX7_sight_135 : decode cX7_sight 135 = .ok (.isub, 1) := by decide +kernel
theorem dX7_sight_136 : decode cX7_sight 136 = .ok (.ireturn, 1) := by decide +kernel
theorem dX7_paysOf_0 : decode cX7_paysOf 0 = .ok (.aload_n 0, 1) := by decide +kernel
theorem dX7_paysOf_1 : decode cX7_paysOf 1 = .ok (.getfield 26, 3) := by decide +kernel
theorem dX7_paysOf_4 : decode cX7_paysOf 4 = .ok (.iload_n 1, 1) := by decide +kernel
theorem dX7_paysOf_5 : decode cX7_paysOf 5 = .ok (.iaload, 1) := by decide +kernel
theorem dX7_paysOf_6 : decode cX7_paysOf 6 = .ok (.istore_n 2, 1) := by decide +kernel
theorem dX7_paysOf_7 : decode cX7_paysOf 7 = .ok (.aload_n 0, 1) := by decide +kernel
theorem dX7_paysOf_8 : decode cX7_paysOf 8 = .ok (.iload_n 1, 1) := by decide +kernel
theorem dX7_paysOf_9 : decode cX7_paysOf 9 = .ok (.iconst 4, 1) := by decide +kernel
theorem dX7_paysOf_10 : decode cX7_paysOf 10 = .ok (.invokevirtual 87, 3) := by decide +kernel
theorem dX7_paysOf_13 : decode cX7_paysOf 13 = .ok (.aload_n 0, 1) := by decide +kernel
theorem dX7_paysOf_14 : decode cX7_paysOf 14 = .ok (.iload_n 1, 1) := by decide +kernel
theorem dX7_paysOf_15 : decode cX7_paysOf 15 = .ok (.iconst 0, 1) := by decide +kernel
theorem dX7_paysOf_16 : decode cX7_paysOf 16 = .ok (.invokevirtual 87, 3) := by decide +kernel
theorem dX7_paysOf_19 : decode cX7_paysOf 19 = .ok (.iadd, 1) := by decide +kernel
theorem dX7_paysOf_20 : decode cX7_paysOf 20 = .ok (.istore_n 3, 1) := by decide +kernel
theorem dX7_paysOf_21 : decode cX7_paysOf 21 = .ok (.iload_n 2, 1) := by decide +kernel
theorem dX7_paysOf_22 : decode cX7_paysOf 22 = .ok (.iconst 1, 1) := by decide +kernel
theorem dX7_paysOf_23 : decode cX7_paysOf 23 = .ok (.if_icmp .ne 7, 3) := by decide +kernel
theorem dX7_paysOf_26 : decode cX7_paysOf 26 = .ok (.iload_n 3, 1) := by decide +kernel
theorem dX7_paysOf_27 : decode cX7_paysOf 27 = .ok (.goto 36, 3) := by decide +kernel
theorem dX7_paysOf_30 : decode cX7_paysOf 30 = .ok (.iload_n 2, 1) := by decide +kernel
theorem dX7_paysOf_31 : decode cX7_paysOf 31 = .ok (.iconst 3, 1) := by decide +kernel
theorem dX7_paysOf_32 : decode cX7_paysOf 32 = .ok (.if_icmp .ne 9, 3) := by decide +kernel
theorem dX7_paysOf_35 : decode cX7_paysOf 35 = .ok (.iconst 2, 1) := by decide +kernel
theorem dX7_paysOf_36 : decode cX7_paysOf 36 = .ok (.iload_n 3, 1) := by decide +kernel
theorem dX7_paysOf_37 : decode cX7_paysOf 37 = .ok (.imul, 1) := by decide +kernel
theorem dX7_paysOf_38 : decode cX7_paysOf 38 = .ok (.goto 25, 3) := by decide +kernel
theorem dX7_paysOf_41 : decode cX7_paysOf 41 = .ok (.iload_n 2, 1) := by decide +kernel
theorem dX7_paysOf_42 : decode cX7_paysOf 42 = .ok (.iconst 4, 1) := by decide +kernel
theorem dX7_paysOf_43 : decode cX7_paysOf 43 = .ok (.if_icmp .ne 14, 3) := by decide +kernel
theorem dX7_paysOf_46 : decode cX7_paysOf 46 = .ok (.aload_n 0, 1) := by decide +kernel
theorem dX7_paysOf_47 : decode cX7_paysOf 47 = .ok (.iload_n 1, 1) := by decide +kernel
theorem dX7_paysOf_48 : decode cX7_paysOf 48 = .ok (.iconst 4, 1) := by decide +kernel
theorem dX7_paysOf_49 : decode cX7_paysOf 49 = .ok (.invokevirtual 87, 3) := by decide +kernel
theorem dX7_paysOf_52 : decode cX7_paysOf 52 = .ok (.iconst 1, 1) := by decide +kernel
theorem dX7_paysOf_53 : decode cX7_paysOf 53 = .ok (.iadd, 1) := by decide +kernel
theorem dX7_paysOf_54 : decode cX7_paysOf 54 = .ok (.goto 9, 3) := by decide +kernel
theorem dX7_paysOf_57 : decode cX7_paysOf 57 = .ok (.aload_n 0, 1) := by decide +kernel
theorem dX7_paysOf_58 : decode cX7_paysOf 58 = .ok (.iload_n 1, 1) := by decide +kernel
theorem dX7_paysOf_59 : decode cX7_paysOf 59 = .ok (.iconst 4, 1) := by decide +kernel
theorem dX7_paysOf_60 : decode cX7_paysOf 60 = .ok (.invokevirtual 87, 3) := by decide +kernel
theorem dX7_paysOf_63 : decode cX7_paysOf 63 = .ok (.ireturn, 1) := by decide +kernel
theorem dX7_told_0 : decode cX7_told 0 = .ok (.iload_n 2, 1) := by decide +kernel
theorem dX7_told_1 : decode cX7_told 1 = .ok (.i2l, 1) := by decide +kernel
theorem dX7_told_2 : decode cX7_told 2 = .ok (.lconst 0, 1) := by decide +kernel
theorem dX7_told_3 : decode cX7_told 3 = .ok (.ldc2_w 100, 3) := by decide +kernel
theorem dX7_told_6 : decode cX7_told 6 = .ok (.invokestatic 73, 3) := by decide +kernel
theorem dX7_told_9 : decode cX7_told 9 = .ok (.ifCond .eq 17, 3) := by decide +kernel
theorem dX7_told_12 : decode cX7_told 12 = .ok (.iload_n 2, 1) := by decide +kernel
theorem dX7_told_13 : decode cX7_told 13 = .ok (.bipush 7, 2) := by decide +kernel
theorem dX7_told_15 : decode cX7_told 15 = .ok (.if_icmp .le 14, 3) := by decide +kernel
theorem dX7_told_18 : decode cX7_told 18 = .ok (.aload_n 0, 1) := by decide +kernel
theorem dX7_told_19 : decode cX7_told 19 = .ok (.iload_n 1, 1) := by decide +kernel
theorem dX7_told_20 : decode cX7_told 20 = .ok (.invokevirtual 79, 3) := by decide +kernel
theorem dX7_told_23 : decode cX7_told 23 = .ok (.ifCond .ne 6, 3) := by decide +kernel
theorem dX7_told_26 : decode cX7_told 26 = .ok (.bipush (-2), 2) := by decide +kernel
theorem dX7_told_28 : decode cX7_told 28 = .ok (.ireturn, 1) := by decide +kernel
theorem dX7_told_29 : decode cX7_told 29 = .ok (.iload_n 2, 1) := by decide +kernel
theorem dX7_told_30 : decode cX7_told 30 = .ok (.bipush 8, 2) := by decide +kernel
theorem dX7_told_32 : decode cX7_told 32 = .ok (.if_icmp .ge 12, 3) := by decide +kernel
theorem dX7_told_35 : decode cX7_told 35 = .ok (.aload_n 0, 1) := by decide +kernel
theorem dX7_told_36 : decode cX7_told 36 = .ok (.getfield 23, 3) := by decide +kernel
theorem dX7_told_39 : decode cX7_told 39 = .ok (.iload_n 2, 1) := by decide +kernel
theorem dX7_told_40 : decode cX7_told 40 = .ok (.iaload, 1) := by decide +kernel
theorem dX7_told_41 : decode cX7_told 41 = .ok (.goto 41, 3) := by decide +kernel
theorem dX7_told_44 : decode cX7_told 44 = .ok (.iload_n 2, 1) := by decide +kernel
theorem dX7_told_45 : decode cX7_told 45 = .ok (.bipush 13, 2) := by decide +kernel
theorem dX7_told_47 : decode cX7_told 47 = .ok (.if_icmp .ge 15, 3) := by decide +kernel
theorem dX7_told_50 : decode cX7_told 50 = .ok (.aload_n 0, 1) := by decide +kernel
theorem dX7_told_51 : decode cX7_told 51 = .ok (.iload_n 1, 1) := by decide +kernel
theorem dX7_told_52 : decode cX7_told 52 = .ok (.iload_n 2, 1) := by decide +kernel
theorem dX7_told_53 : decode cX7_told 53 = .ok (.bipush 8, 2) := by decide +kernel
theorem dX7_told_55 : decode cX7_told 55 = .ok (.isub, 1) := by decide +kernel
theorem dX7_told_56 : decode cX7_told 56 = .ok (.invokevirtual 87, 3) := by decide +kernel
theorem dX7_told_59 : decode cX7_told 59 = .ok (.goto 23, 3) := by decide +kernel
theorem dX7_told_62 : decode cX7_told 62 = .ok (.iload_n 2, 1) := by decide +kernel
theorem dX7_told_63 : decode cX7_told 63 = .ok (.bipush 13, 2) := by decide +kernel
theorem dX7_told_65 : decode cX7_told 65 = .ok (.if_icmp .ne 12, 3) := by decide +kernel
theorem dX7_told_68 : decode cX7_told 68 = .ok (.aload_n 0, 1) := by decide +kernel
theorem dX7_told_69 : decode cX7_told 69 = .ok (.getfield 26, 3) := by decide +kernel
theorem dX7_told_72 : decode cX7_told 72 = .ok (.iload_n 1, 1) := by decide +kernel
theorem dX7_told_73 : decode cX7_told 73 = .ok (.iaload, 1) := by decide +kernel
theorem dX7_told_74 : decode cX7_told 74 = .ok (.goto 8, 3) := by decide +kernel
theorem dX7_told_77 : decode cX7_told 77 = .ok (.aload_n 0, 1) := by decide +kernel
theorem dX7_told_78 : decode cX7_told 78 = .ok (.iload_n 1, 1) := by decide +kernel
theorem dX7_told_79 : decode cX7_told 79 = .ok (.invokevirtual 102, 3) := by decide +kernel
theorem dX7_told_82 : decode cX7_told 82 = .ok (.ireturn, 1) := by decide +kernel
theorem dX7_isUp_0 : decode cX7_isUp 0 = .ok (.aload_n 0, 1) := by decide +kernel
theorem dX7_isUp_1 : decode cX7_isUp 1 = .ok (.getfield 26, 3) := by decide +kernel
theorem dX7_isUp_4 : decode cX7_isUp 4 = .ok (.iload_n 1, 1) := by decide +kernel
theorem dX7_isUp_5 : decode cX7_isUp 5 = .ok (.iaload, 1) := by decide +kernel
theorem dX7_isUp_6 : decode cX7_isUp 6 = .ok (.istore_n 3, 1) := by decide +kernel
theorem dX7_isUp_7 : decode cX7_isUp 7 = .ok (.aload_n 0, 1) := by decide +kernel
theorem dX7_isUp_8 : decode cX7_isUp 8 = .ok (.iload_n 1, 1) := by decide +kernel
theorem dX7_isUp_9 : decode cX7_isUp 9 = .ok (.iconst 0, 1) := by decide +kernel
theorem dX7_isUp_10 : decode cX7_isUp 10 = .ok (.invokevirtual 87, 3) := by decide +kernel
theorem dX7_isUp_13 : decode cX7_isUp 13 = .ok (.istore 4, 2) := by decide +kernel
theorem dX7_isUp_15 : decode cX7_isUp 15 = .ok (.iload_n 2, 1) := by decide +kernel
theorem dX7_isUp_16 : decode cX7_isUp 16 = .ok (.i2l, 1) := by decide +kernel
theorem dX7_isUp_17 : decode cX7_isUp 17 = .ok (.aload_n 0, 1) := by decide +kernel
theorem dX7_isUp_18 : decode cX7_isUp 18 = .ok (.iload_n 1, 1) := by decide +kernel
theorem dX7_isUp_19 : decode cX7_isUp 19 = .ok (.iconst 2, 1) := by decide +kernel
theorem dX7_isUp_20 : decode cX7_isUp 20 = .ok (.invokevirtual 87, 3) := by decide +kernel
theorem dX7_isUp_23 : decode cX7_isUp 23 = .ok (.i2l, 1) := by decide +kernel
theorem dX7_isUp_24 : decode cX7_isUp 24 = .ok (.aload_n 0, 1) := by decide +kernel
theorem dX7_isUp_25 : decode cX7_isUp 25 = .ok (.iload_n 1, 1) := by decide +kernel
theorem dX7_isUp_26 : decode cX7_isUp 26 = .ok (.iconst 3, 1) := by decide +kernel
theorem dX7_isUp_27 : decode cX7_isUp 27 = .ok (.invokevirtual 87, 3) := by decide +kernel
theorem dX7_isUp_30 : decode cX7_isUp 30 = .ok (.i2l, 1) := by decide +kernel
theorem dX7_isUp_31 : decode cX7_isUp 31 = .ok (.invokestatic 73, 3) := by decide +kernel
theorem dX7_isUp_34 : decode cX7_isUp 34 = .ok (.istore 5, 2) := by decide +kernel
theorem dX7_isUp_36 : decode cX7_isUp 36 = .ok (.iload_n 3, 1) := by decide +kernel
theorem dX7_isUp_37 : decode cX7_isUp 37 = .ok (.iconst 1, 1) := by decide +kernel
theorem dX7_isUp_38 : decode cX7_isUp 38 = .ok (.if_icmp .eq 8, 3) := by decide +kernel
theorem dX7_isUp_41 : decode cX7_isUp 41 = .ok (.iload_n 3, 1) := by decide +kernel
theorem dX7_isUp_42 : decode cX7_isUp 42 = .ok (.iconst 3, 1) := by decide +kernel
theorem dX7_isUp_43 : decode cX7_isUp 43 = .ok (.if_icmp .ne 27, 3) := by decide +kernel
theorem dX7_isUp_46 : decode cX7_isUp 46 = .ok (.iload 5, 2) := by decide +kernel
theorem dX7_isUp_48 : decode cX7_isUp 48 = .ok (.ifCond .eq 20, 3) := by decide +kernel
theorem dX7_isUp_51 : decode cX7_isUp 51 = .ok (.iload_n 2, 1) := by decide +kernel
theorem dX7_isUp_52 : decode cX7_isUp 52 = .ok (.aload_n 0, 1) := by decide +kernel
theorem dX7_isUp_53 : decode cX7_isUp 53 = .ok (.iload_n 1, 1) := by decide +kernel
theorem dX7_isUp_54 : decode cX7_isUp 54 = .ok (.iconst 2, 1) := by decide +kernel
theorem dX7_isUp_55 : decode cX7_isUp 55 = .ok (.invokevirtual 87, 3) := by decide +kernel
theorem dX7_isUp_58 : decode cX7_isUp 58 = .ok (.iload 4, 2) := by decide +kernel
theorem dX7_isUp_60 : decode cX7_isUp 60 = .ok (.iadd, 1) := by decide +kernel
theorem dX7_isUp_61 : decode cX7_isUp 61 = .ok (.if_icmp .lt 7, 3) := by decide +kernel
theorem dX7_isUp_64 : decode cX7_isUp 64 = .ok (.iconst 1, 1) := by decide +kernel
theorem dX7_isUp_65 : decode cX7_isUp 65 = .ok (.goto 4, 3) := by decide +kernel
theorem dX7_isUp_68 : decode cX7_isUp 68 = .ok (.iconst 0, 1) := by decide +kernel
theorem dX7_isUp_69 : decode cX7_isUp 69 = .ok (.ireturn, 1) := by decide +kernel
theorem dX7_isUp_70 : decode cX7_isUp 70 = .ok (.iload_n 3, 1) := by decide +kernel
theorem dX7_isUp_71 : decode cX7_isUp 71 = .ok (.iconst 2, 1) := by decide +kernel
theorem dX7_isUp_72 : decode cX7_isUp 72 = .ok (.if_icmp .eq 8, 3) := by decide +kernel
theorem dX7_isUp_75 : decode cX7_isUp 75 = .ok (.iload_n 3, 1) := by decide +kernel
theorem dX7_isUp_76 : decode cX7_isUp 76 = .ok (.iconst 4, 1) := by decide +kernel
theorem dX7_isUp_77 : decode cX7_isUp 77 = .ok (.if_icmp .ne 26, 3) := by decide +kernel
theorem dX7_isUp_80 : decode cX7_isUp 80 = .ok (.iload_n 2, 1) := by decide +kernel
theorem dX7_isUp_81 : decode cX7_isUp 81 = .ok (.i2l, 1) := by decide +kernel
theorem dX7_isUp_82 : decode cX7_isUp 82 = .ok (.aload_n 0, 1) := by decide +kernel
theorem dX7_isUp_83 : decode cX7_isUp 83 = .ok (.iload_n 1, 1) := by decide +kernel
theorem dX7_isUp_84 : decode cX7_isUp 84 = .ok (.iconst 2, 1) := by decide +kernel
theorem dX7_isUp_85 : decode cX7_isUp 85 = .ok (.invokevirtual 87, 3) := by decide +kernel
theorem dX7_isUp_88 : decode cX7_isUp 88 = .ok (.i2l, 1) := by decide +kernel
theorem dX7_isUp_89 : decode cX7_isUp 89 = .ok (.aload_n 0, 1) := by decide +kernel
theorem dX7_isUp_90 : decode cX7_isUp 90 = .ok (.iload_n 1, 1) := by decide +kernel
theorem dX7_isUp_91 : decode cX7_isUp 91 = .ok (.iconst 3, 1) := by decide +kernel
theorem dX7_isUp_92 : decode cX7_isUp 92 = .ok (.invokevirtual 87, 3) := by decide +kernel
theorem dX7_isUp_95 : decode cX7_isUp 95 = .ok (.iload 4, 2) := by decide +kernel
theorem dX7_isUp_97 : decode cX7_isUp 97 = .ok (.iadd, 1) := by decide +kernel
theorem dX7_isUp_98 : decode cX7_isUp 98 = .ok (.i2l, 1) := by decide +kernel
theorem dX7_isUp_99 : decode cX7_isUp 99 = .ok (.invokestatic 73, 3) := by decide +kernel
theorem dX7_isUp_102 : decode cX7_isUp 102 = .ok (.ireturn, 1) := by decide +kernel
theorem dX7_isUp_103 : decode cX7_isUp 103 = .ok (.iload 5, 2) := by decide +kernel
theorem dX7_isUp_105 : decode cX7_isUp 105 = .ok (.ifCond .eq 21, 3) := by decide +kernel
theorem dX7_isUp_108 : decode cX7_isUp 108 = .ok (.iload_n 3, 1) := by decide +kernel
theorem dX7_isUp_109 : decode cX7_isUp 109 = .ok (.iconst 5, 1) := by decide +kernel
theorem dX7_isUp_110 : decode cX7_isUp 110 = .ok (.if_icmp .ne 12, 3) := by decide +kernel
theorem dX7_isUp_113 : decode cX7_isUp 113 = .ok (.iload_n 2, 1) := by decide +kernel
theorem dX7_isUp_114 : decode cX7_isUp 114 = .ok (.iload 4, 2) := by decide +kernel
theorem dX7_isUp_116 : decode cX7_isUp 116 = .ok (.iconst 2, 1) := by decide +kernel
theorem dX7_isUp_117 : decode cX7_isUp 117 = .ok (.iadd, 1) := by decide +kernel
theorem dX7_isUp_118 : decode cX7_isUp 118 = .ok (.irem, 1) := by decide +kernel
theorem dX7_isUp_119 : decode cX7_isUp 119 = .ok (.ifCond .eq 7, 3) := by decide +kernel
theorem dX7_isUp_122 : decode cX7_isUp 122 = .ok (.iconst 1, 1) := by decide +kernel
theorem dX7_isUp_123 : decode cX7_isUp 123 = .ok (.goto 4, 3) := by decide +kernel
theorem dX7_isUp_126 : decode cX7_isUp 126 = .ok (.iconst 0, 1) := by decide +kernel
theorem dX7_isUp_127 : decode cX7_isUp 127 = .ok (.ireturn, 1) := by decide +kernel
theorem dX7_isClouded_0 : decode cX7_isClouded 0 = .ok (.aload_n 0, 1) := by decide +kernel
theorem dX7_isClouded_1 : decode cX7_isClouded 1 = .ok (.getfield 105, 3) := by decide +kernel
theorem dX7_isClouded_4 : decode cX7_isClouded 4 = .ok (.ifCond .ne 59, 3) := by decide +kernel
theorem dX7_isClouded_7 : decode cX7_isClouded 7 = .ok (.aload_n 0, 1) := by decide +kernel
theorem dX7_isClouded_8 : decode cX7_isClouded 8 = .ok (.iload_n 1, 1) := by decide +kernel
theorem dX7_isClouded_9 : decode cX7_isClouded 9 = .ok (.iconst 1, 1) := by decide +kernel
theorem dX7_isClouded_10 : decode cX7_isClouded 10 = .ok (.invokevirtual 87, 3) := by decide +kernel
theorem dX7_isClouded_13 : decode cX7_isClouded 13 = .ok (.bipush 10, 2) := by decide +kernel
theorem dX7_isClouded_15 : decode cX7_isClouded 15 = .ok (.irem, 1) := by decide +kernel
theorem dX7_isClouded_16 : decode cX7_isClouded 16 = .ok (.i2l, 1) := by decide +kernel
theorem dX7_isClouded_17 : decode cX7_isClouded 17 = .ok (.aload_n 0, 1) := by decide +kernel
theorem dX7_isClouded_18 : decode cX7_isClouded 18 = .ok (.getfield 23, 3) := by decide +kernel
theorem dX7_isClouded_21 : decode cX7_isClouded 21 = .ok (.iconst 1, 1) := by decide +kernel
theorem dX7_isClouded_22 : decode cX7_isClouded 22 = .ok (.iaload, 1) := by decide +kernel
theorem dX7_isClouded_23 : decode cX7_isClouded 23 = .ok (.i2l, 1) := by decide +kernel
theorem dX7_isClouded_24 : decode cX7_isClouded 24 = .ok (.aload_n 0, 1) := by decide +kernel
theorem dX7_isClouded_25 : decode cX7_isClouded 25 = .ok (.getfield 23, 3) := by decide +kernel
theorem dX7_isClouded_28 : decode cX7_isClouded 28 = .ok (.iconst 2, 1) := by decide +kernel
theorem dX7_isClouded_29 : decode cX7_isClouded 29 = .ok (.iaload, 1) := by decide +kernel
theorem dX7_isClouded_30 : decode cX7_isClouded 30 = .ok (.i2l, 1) := by decide +kernel
theorem dX7_isClouded_31 : decode cX7_isClouded 31 = .ok (.invokestatic 73, 3) := by decide +kernel
theorem dX7_isClouded_34 : decode cX7_isClouded 34 = .ok (.ifCond .eq 29, 3) := by decide +kernel
theorem dX7_isClouded_37 : decode cX7_isClouded 37 = .ok (.iload_n 2, 1) := by decide +kernel
theorem dX7_isClouded_38 : decode cX7_isClouded 38 = .ok (.i2l, 1) := by decide +kernel
theorem dX7_isClouded_39 : decode cX7_isClouded 39 = .ok (.aload_n 0, 1) := by decide +kernel
theorem dX7_isClouded_40 : decode cX7_isClouded 40 = .ok (.getfield 23, 3) := by decide +kernel
theorem dX7_isClouded_43 : decode cX7_isClouded 43 = .ok (.iconst 3, 1) := by decide +kernel
theorem dX7_isClouded_44 : decode cX7_isClouded 44 = .ok (.iaload, 1) := by decide +kernel
theorem dX7_isClouded_45 : decode cX7_isClouded 45 = .ok (.i2l, 1) := by decide +kernel
theorem dX7_isClouded_46 : decode cX7_isClouded 46 = .ok (.aload_n 0, 1) := by decide +kernel
theorem dX7_isClouded_47 : decode cX7_isClouded 47 = .ok (.getfield 23, 3) := by decide +kernel
theorem dX7_isClouded_50 : decode cX7_isClouded 50 = .ok (.iconst 4, 1) := by decide +kernel
theorem dX7_isClouded_51 : decode cX7_isClouded 51 = .ok (.iaload, 1) := by decide +kernel
theorem dX7_isClouded_52 : decode cX7_isClouded 52 = .ok (.i2l, 1) := by decide +kernel
theorem dX7_isClouded_53 : decode cX7_isClouded 53 = .ok (.invokestatic 73, 3) := by decide +kernel
theorem dX7_isClouded_56 : decode cX7_isClouded 56 = .ok (.ifCond .eq 7, 3) := by decide +kernel
theorem dX7_isClouded_59 : decode cX7_isClouded 59 = .ok (.iconst 1, 1) := by decide +kernel
theorem dX7_isClouded_60 : decode cX7_isClouded 60 = .ok (.goto 4, 3) := by decide +kernel
theorem dX7_isClouded_63 : decode cX7_isClouded 63 = .ok (.iconst 0, 1) := by decide +kernel
theorem dX7_isClouded_64 : decode cX7_isClouded 64 = .ok (.ireturn, 1) := by decide +kernel
theorem dX7_shines_0 : decode cX7_shines 0 = .ok (.aload_n 0, 1) := by decide +kernel
theorem dX7_shines_1 : decode cX7_shines 1 = .ok (.iload_n 1, 1) := by decide +kernel
theorem dX7_shines_2 : decode cX7_shines 2 = .ok (.invokevirtual 79, 3) := by decide +kernel
theorem dX7_shines_5 : decode cX7_shines 5 = .ok (.ifCond .eq 25, 3) := by decide +kernel
theorem dX7_shines_8 : decode cX7_shines 8 = .ok (.iload_n 2, 1) := by decide +kernel
theorem dX7_shines_9 : decode cX7_shines 9 = .ok (.i2l, 1) := by decide +kernel
theorem dX7_shines_10 : decode cX7_shines 10 = .ok (.lconst 0, 1) := by decide +kernel
theorem dX7_shines_11 : decode cX7_shines 11 = .ok (.ldc2_w 109, 3) := by decide +kernel
theorem dX7_shines_14 : decode cX7_shines 14 = .ok (.invokestatic 73, 3) := by decide +kernel
theorem dX7_shines_17 : decode cX7_shines 17 = .ok (.ifCond .eq 13, 3) := by decide +kernel
theorem dX7_shines_20 : decode cX7_shines 20 = .ok (.iload_n 3, 1) := by decide +kernel
theorem dX7_shines_21 : decode cX7_shines 21 = .ok (.i2l, 1) := by decide +kernel
theorem dX7_shines_22 : decode cX7_shines 22 = .ok (.lconst 0, 1) := by decide +kernel
theorem dX7_shines_23 : decode cX7_shines 23 = .ok (.lconst 1, 1) := by decide +kernel
theorem dX7_shines_24 : decode cX7_shines 24 = .ok (.invokestatic 73, 3) := by decide +kernel
theorem dX7_shines_27 : decode cX7_shines 27 = .ok (.ifCond .ne 6, 3) := by decide +kernel
theorem dX7_shines_30 : decode cX7_shines 30 = .ok (.bipush (-2), 2) := by decide +kernel
theorem dX7_shines_32 : decode cX7_shines 32 = .ok (.ireturn, 1) := by decide +kernel
theorem dX7_shines_33 : decode cX7_shines 33 = .ok (.iload_n 3, 1) := by decide +kernel
theorem dX7_shines_34 : decode cX7_shines 34 = .ok (.ifCond .ne 20, 3) := by decide +kernel
theorem dX7_shines_37 : decode cX7_shines 37 = .ok (.aload_n 0, 1) := by decide +kernel
theorem dX7_shines_38 : decode cX7_shines 38 = .ok (.iload_n 1, 1) := by decide +kernel
theorem dX7_shines_39 : decode cX7_shines 39 = .ok (.iload_n 2, 1) := by decide +kernel
theorem dX7_shines_40 : decode cX7_shines 40 = .ok (.invokevirtual 111, 3) := by decide +kernel
theorem dX7_shines_43 : decode cX7_shines 43 = .ok (.ifCond .eq 7, 3) := by decide +kernel
theorem dX7_shines_46 : decode cX7_shines 46 = .ok (.iconst 1, 1) := by decide +kernel
theorem dX7_shines_47 : decode cX7_shines 47 = .ok (.goto 21, 3) := by decide +kernel
theorem dX7_shines_50 : decode cX7_shines 50 = .ok (.iconst 0, 1) := by decide +kernel
theorem dX7_shines_51 : decode cX7_shines 51 = .ok (.goto 17, 3) := by decide +kernel
theorem dX7_shines_54 : decode cX7_shines 54 = .ok (.aload_n 0, 1) := by decide +kernel
theorem dX7_shines_55 : decode cX7_shines 55 = .ok (.iload_n 1, 1) := by decide +kernel
theorem dX7_shines_56 : decode cX7_shines 56 = .ok (.iload_n 2, 1) := by decide +kernel
theorem dX7_shines_57 : decode cX7_shines 57 = .ok (.invokevirtual 115, 3) := by decide +kernel
theorem dX7_shines_60 : decode cX7_shines 60 = .ok (.ifCond .eq 7, 3) := by decide +kernel
theorem dX7_shines_63 : decode cX7_shines 63 = .ok (.iconst 1, 1) := by decide +kernel
theorem dX7_shines_64 : decode cX7_shines 64 = .ok (.goto 4, 3) := by decide +kernel
theorem dX7_shines_67 : decode cX7_shines 67 = .ok (.iconst 0, 1) := by decide +kernel
theorem dX7_shines_68 : decode cX7_shines 68 = .ok (.ireturn, 1) := by decide +kernel
theorem dX7_farOf_0 : decode cX7_farOf 0 = .ok (.iload_n 0, 1) := by decide +kernel
theorem dX7_farOf_1 : decode cX7_farOf 1 = .ok (.bipush 10, 2) := by decide +kernel
theorem dX7_farOf_3 : decode cX7_farOf 3 = .ok (.irem, 1) := by decide +kernel
theorem dX7_farOf_4 : decode cX7_farOf 4 = .ok (.iload_n 1, 1) := by decide +kernel
theorem dX7_farOf_5 : decode cX7_farOf 5 = .ok (.bipush 10, 2) := by decide +kernel
theorem dX7_farOf_7 : decode cX7_farOf 7 = .ok (.irem, 1) := by decide +kernel
theorem dX7_farOf_8 : decode cX7_farOf 8 = .ok (.isub, 1) := by decide +kernel
theorem dX7_farOf_9 : decode cX7_farOf 9 = .ok (.istore_n 2, 1) := by decide +kernel
theorem dX7_farOf_10 : decode cX7_farOf 10 = .ok (.iload_n 0, 1) := by decide +kernel
theorem dX7_farOf_11 : decode cX7_farOf 11 = .ok (.bipush 10, 2) := by decide +kernel
theorem dX7_farOf_13 : decode cX7_farOf 13 = .ok (.idiv, 1) := by decide +kernel
theorem dX7_farOf_14 : decode cX7_farOf 14 = .ok (.iload_n 1, 1) := by decide +kernel
theorem dX7_farOf_15 : decode cX7_farOf 15 = .ok (.bipush 10, 2) := by decide +kernel
theorem dX7_farOf_17 : decode cX7_farOf 17 = .ok (.idiv, 1) := by decide +kernel
theorem dX7_farOf_18 : decode cX7_farOf 18 = .ok (.isub, 1) := by decide +kernel
theorem dX7_farOf_19 : decode cX7_farOf 19 = .ok (.istore_n 3, 1) := by decide +kernel
theorem dX7_farOf_20 : decode cX7_farOf 20 = .ok (.iload_n 2, 1) := by decide +kernel
theorem dX7_farOf_21 : decode cX7_farOf 21 = .ok (.ifCond .ge 8, 3) := by decide +kernel
theorem dX7_farOf_24 : decode cX7_farOf 24 = .ok (.iload_n 2, 1) := by decide +kernel
theorem dX7_farOf_25 : decode cX7_farOf 25 = .ok (.ineg, 1) := by decide +kernel
theorem dX7_farOf_26 : decode cX7_farOf 26 = .ok (.goto 4, 3) := by decide +kernel
theorem dX7_farOf_29 : decode cX7_farOf 29 = .ok (.iload_n 2, 1) := by decide +kernel
theorem dX7_farOf_30 : decode cX7_farOf 30 = .ok (.istore 4, 2) := by decide +kernel
theorem dX7_farOf_32 : decode cX7_farOf 32 = .ok (.iload_n 3, 1) := by decide +kernel
theorem dX7_farOf_33 : decode cX7_farOf 33 = .ok (.ifCond .ge 8, 3) := by decide +kernel
theorem dX7_farOf_36 : decode cX7_farOf 36 = .ok (.iload_n 3, 1) := by decide +kernel
theorem dX7_farOf_37 : decode cX7_farOf 37 = .ok (.ineg, 1) := by decide +kernel
theorem dX7_farOf_38 : decode cX7_farOf 38 = .ok (.goto 4, 3) := by decide +kernel
theorem dX7_farOf_41 : decode cX7_farOf 41 = .ok (.iload_n 3, 1) := by decide +kernel
theorem dX7_farOf_42 : decode cX7_farOf 42 = .ok (.istore 5, 2) := by decide +kernel
theorem dX7_farOf_44 : decode cX7_farOf 44 = .ok (.iload 4, 2) := by decide +kernel
theorem dX7_farOf_46 : decode cX7_farOf 46 = .ok (.iload 5, 2) := by decide +kernel
theorem dX7_farOf_48 : decode cX7_farOf 48 = .ok (.if_icmp .le 8, 3) := by decide +kernel
theorem dX7_farOf_51 : decode cX7_farOf 51 = .ok (.iload 4, 2) := by decide +kernel
theorem dX7_farOf_53 : decode cX7_farOf 53 = .ok (.goto 5, 3) := by decide +kernel
theorem dX7_farOf_56 : decode cX7_farOf 56 = .ok (.iload 5, 2) := by decide +kernel
theorem dX7_farOf_58 : decode cX7_farOf 58 = .ok (.ireturn, 1) := by decide +kernel
theorem dX7_feed_0 : decode cX7_feed 0 = .ok (.iload_n 1, 1) := by decide +kernel
theorem dX7_feed_1 : decode cX7_feed 1 = .ok (.i2l, 1) := by decide +kernel
theorem dX7_feed_2 : decode cX7_feed 2 = .ok (.lconst 0, 1) := by decide +kernel
theorem dX7_feed_3 : decode cX7_feed 3 = .ok (.ldc2_w 118, 3) := by decide +kernel
theorem dX7_feed_6 : decode cX7_feed 6 = .ok (.invokestatic 73, 3) := by decide +kernel
theorem dX7_feed_9 : decode cX7_feed 9 = .ok (.ifCond .ne 6, 3) := by decide +kernel
theorem dX7_feed_12 : decode cX7_feed 12 = .ok (.bipush (-2), 2) := by decide +kernel
theorem dX7_feed_14 : decode cX7_feed 14 = .ok (.ireturn, 1) := by decide +kernel
theorem dX7_feed_15 : decode cX7_feed 15 = .ok (.aload_n 0, 1) := by decide +kernel
theorem dX7_feed_16 : decode cX7_feed 16 = .ok (.getfield 120, 3) := by decide +kernel
theorem dX7_feed_19 : decode cX7_feed 19 = .ok (.sipush 160, 3) := by decide +kernel
theorem dX7_feed_22 : decode cX7_feed 22 = .ok (.if_icmp .ne 6, 3) := by decide +kernel
theorem dX7_feed_25 : decode cX7_feed 25 = .ok (.bipush (-4), 2) := by decide +kernel
theorem dX7_feed_27 : decode cX7_feed 27 = .ok (.ireturn, 1) := by decide +kernel
theorem dX7_feed_28 : decode cX7_feed 28 = .ok (.aload_n 0, 1) := by decide +kernel
theorem dX7_feed_29 : decode cX7_feed 29 = .ok (.getfield 20, 3) := by decide +kernel
theorem dX7_feed_32 : decode cX7_feed 32 = .ok (.aload_n 0, 1) := by decide +kernel
theorem dX7_feed_33 : decode cX7_feed 33 = .ok (.getfield 120, 3) := by decide +kernel
theorem dX7_feed_36 : decode cX7_feed 36 = .ok (.iload_n 1, 1) := by decide +kernel
theorem dX7_feed_37 : decode cX7_feed 37 = .ok (.iastore, 1) := by decide +kernel
theorem dX7_feed_38 : decode cX7_feed 38 = .ok (.aload_n 0, 1) := by decide +kernel
theorem dX7_feed_39 : decode cX7_feed 39 = .ok (.dup, 1) := by decide +kernel
theorem dX7_feed_40 : decode cX7_feed 40 = .ok (.getfield 120, 3) := by decide +kernel
theorem dX7_feed_43 : decode cX7_feed 43 = .ok (.iconst 1, 1) := by decide +kernel
theorem dX7_feed_44 : decode cX7_feed 44 = .ok (.iadd, 1) := by decide +kernel
theorem dX7_feed_45 : decode cX7_feed 45 = .ok (.putfield 120, 3) := by decide +kernel
theorem dX7_feed_48 : decode cX7_feed 48 = .ok (.aload_n 0, 1) := by decide +kernel
theorem dX7_feed_49 : decode cX7_feed 49 = .ok (.getfield 120, 3) := by decide +kernel
theorem dX7_feed_52 : decode cX7_feed 52 = .ok (.ireturn, 1) := by decide +kernel
theorem dX7_byteAt_0 : decode cX7_byteAt 0 = .ok (.iload_n 1, 1) := by decide +kernel
theorem dX7_byteAt_1 : decode cX7_byteAt 1 = .ok (.aload_n 0, 1) := by decide +kernel
theorem dX7_byteAt_2 : decode cX7_byteAt 2 = .ok (.getfield 123, 3) := by decide +kernel
theorem dX7_byteAt_5 : decode cX7_byteAt 5 = .ok (.if_icmp .ge 17, 3) := by decide +kernel
theorem dX7_byteAt_8 : decode cX7_byteAt 8 = .ok (.aload_n 0, 1) := by decide +kernel
theorem dX7_byteAt_9 : decode cX7_byteAt 9 = .ok (.getfield 13, 3) := by decide +kernel
theorem dX7_byteAt_12 : decode cX7_byteAt 12 = .ok (.aload_n 0, 1) := by decide +kernel
theorem dX7_byteAt_13 : decode cX7_byteAt 13 = .ok (.getfield 126, 3) := by decide +kernel
theorem dX7_byteAt_16 : decode cX7_byteAt 16 = .ok (.iload_n 1, 1) := by decide +kernel
theorem dX7_byteAt_17 : decode cX7_byteAt 17 = .ok (.iadd, 1) := by decide +kernel
theorem dX7_byteAt_18 : decode cX7_byteAt 18 = .ok (.iaload, 1) := by decide +kernel
theorem dX7_byteAt_19 : decode cX7_byteAt 19 = .ok (.goto 4, 3) := by decide +kernel
theorem dX7_byteAt_22 : decode cX7_byteAt 22 = .ok (.iconst (-1), 1) := by decide +kernel
theorem dX7_byteAt_23 : decode cX7_byteAt 23 = .ok (.ireturn, 1) := by decide +kernel
theorem dX7_next_0 : decode cX7_next 0 = .ok (.aload_n 0, 1) := by decide +kernel
theorem dX7_next_1 : decode cX7_next 1 = .ok (.aload_n 0, 1) := by decide +kernel
theorem dX7_next_2 : decode cX7_next 2 = .ok (.getfield 129, 3) := by decide +kernel
theorem dX7_next_5 : decode cX7_next 5 = .ok (.invokevirtual 132, 3) := by decide +kernel
theorem dX7_next_8 : decode cX7_next 8 = .ok (.bipush 32, 2) := by decide +kernel
theorem dX7_next_10 : decode cX7_next 10 = .ok (.if_icmp .eq 16, 3) := by decide +kernel
theorem dX7_next_13 : decode cX7_next 13 = .ok (.aload_n 0, 1) := by decide +kernel
theorem dX7_next_14 : decode cX7_next 14 = .ok (.aload_n 0, 1) := by decide +kernel
theorem dX7_next_15 : decode cX7_next 15 = .ok (.getfield 129, 3) := by decide +kernel
theorem dX7_next_18 : decode cX7_next 18 = .ok (.invokevirtual 132, 3) := by decide +kernel
theorem dX7_next_21 : decode cX7_next 21 = .ok (.bipush 10, 2) := by decide +kernel
theorem dX7_next_23 : decode cX7_next 23 = .ok (.if_icmp .ne 16, 3) := by decide +kernel
theorem dX7_next_26 : decode cX7_next 26 = .ok (.aload_n 0, 1) := by decide +kernel
theorem dX7_next_27 : decode cX7_next 27 = .ok (.dup, 1) := by decide +kernel
theorem dX7_next_28 : decode cX7_next 28 = .ok (.getfield 129, 3) := by decide +kernel
theorem dX7_next_31 : decode cX7_next 31 = .ok (.iconst 1, 1) := by decide +kernel
theorem dX7_next_32 : decode cX7_next 32 = .ok (.iadd, 1) := by decide +kernel
theorem dX7_next_33 : decode cX7_next 33 = .ok (.putfield 129, 3) := by decide +kernel
theorem dX7_next_36 : decode cX7_next 36 = .ok (.goto (-36), 3) := by decide +kernel
theorem dX7_next_39 : decode cX7_next 39 = .ok (.aload_n 0, 1) := by decide +kernel
theorem dX7_next_40 : decode cX7_next 40 = .ok (.aload_n 0, 1) := by decide +kernel
theorem dX7_next_41 : decode cX7_next 41 = .ok (.getfield 129, 3) := by decide +kernel
theorem dX7_next_44 : decode cX7_next 44 = .ok (.putfield 135, 3) := by decide +kernel
theorem dX7_next_47 : decode cX7_next 47 = .ok (.aload_n 0, 1) := by decide +kernel
theorem dX7_next_48 : decode cX7_next 48 = .ok (.aload_n 0, 1) := by decide +kernel
theorem dX7_next_49 : decode cX7_next 49 = .ok (.getfield 129, 3) := by decide +kernel
theorem dX7_next_52 : decode cX7_next 52 = .ok (.invokevirtual 132, 3) := by decide +kernel
theorem dX7_next_55 : decode cX7_next 55 = .ok (.istore_n 1, 1) := by decide +kernel
theorem dX7_next_56 : decode cX7_next 56 = .ok (.aload_n 0, 1) := by decide +kernel
theorem dX7_next_57 : decode cX7_next 57 = .ok (.iconst 4, 1) := by decide +kernel
theorem dX7_next_58 : decode cX7_next 58 = .ok (.putfield 138, 3) := by decide +kernel
theorem dX7_next_61 : decode cX7_next 61 = .ok (.iload_n 1, 1) := by decide +kernel
theorem dX7_next_62 : decode cX7_next 62 = .ok (.ifCond .ge 19, 3) := by decide +kernel
theorem dX7_next_65 : decode cX7_next 65 = .ok (.aload_n 0, 1) := by decide +kernel
theorem dX7_next_66 : decode cX7_next 66 = .ok (.iconst 0, 1) := by decide +kernel
theorem dX7_next_67 : decode cX7_next 67 = .ok (.putfield 138, 3) := by decide +kernel
theorem dX7_next_70 : decode cX7_next 70 = .ok (.aload_n 0, 1) := by decide +kernel
theorem dX7_next_71 : decode cX7_next 71 = .ok (.aload_n 0, 1) := by decide +kernel
theorem dX7_next_72 : decode cX7_next 72 = .ok (.getfield 123, 3) := by decide +kernel
theorem dX7_next_75 : decode cX7_next 75 = .ok (.putfield 135, 3) := by decide +kernel
theorem dX7_next_78 : decode cX7_next 78 = .ok (.goto 243, 3) := by decide +kernel
theorem dX7_next_81 : decode cX7_next 81 = .ok (.iload_n 1, 1) := by decide +kernel
theorem dX7_next_82 : decode cX7_next 82 = .ok (.i2l, 1) := by decide +kernel
theorem dX7_next_83 : decode cX7_next 83 = .ok (.ldc2_w 141, 3) := by decide +kernel
theorem dX7_next_86 : decode cX7_next 86 = .ok (.ldc2_w 143, 3) := by decide +kernel
theorem dX7_next_89 : decode cX7_next 89 = .ok (.invokestatic 73, 3) := by decide +kernel
theorem dX7_next_92 : decode cX7_next 92 = .ok (.ifCond .eq 42, 3) := by decide +kernel
theorem dX7_next_95 : decode cX7_next 95 = .ok (.aload_n 0, 1) := by decide +kernel
theorem dX7_next_96 : decode cX7_next 96 = .ok (.iconst 1, 1) := by decide +kernel
theorem dX7_next_97 : decode cX7_next 97 = .ok (.putfield 138, 3) := by decide +kernel
theorem dX7_next_100 : decode cX7_next 100 = .ok (.aload_n 0, 1) := by decide +kernel
theorem dX7_next_101 : decode cX7_next 101 = .ok (.aload_n 0, 1) := by decide +kernel
theorem dX7_next_102 : decode cX7_next 102 = .ok (.getfield 129, 3) := by decide +kernel
theorem dX7_next_105 : decode cX7_next 105 = .ok (.invokevirtual 132, 3) := by decide +kernel
theorem dX7_next_108 : decode cX7_next 108 = .ok (.i2l, 1) := by decide +kernel
theorem dX7_next_109 : decode cX7_next 109 = .ok (.ldc2_w 141, 3) := by decide +kernel
theorem dX7_next_112 : decode cX7_next 112 = .ok (.ldc2_w 143, 3) := by decide +kernel
theorem dX7_next_115 : decode cX7_next 115 = .ok (.invokestatic 73, 3) := by decide +kernel
theorem dX7_next_118 : decode cX7_next 118 = .ok (.ifCond .eq 203, 3) := by decide +kernel
theorem dX7_next_121 : decode cX7_next 121 = .ok (.aload_n 0, 1) := by decide +kernel
theorem dX7_next_122 : decode cX7_next 122 = .ok (.dup, 1) := by decide +kernel
theorem dX7_next_123 : decode cX7_next 123 = .ok (.getfield 129, 3) := by decide +kernel
theorem dX7_next_126 : decode cX7_next 126 = .ok (.iconst 1, 1) := by decide +kernel
theorem dX7_next_127 : decode cX7_next 127 = .ok (.iadd, 1) := by decide +kernel
theorem dX7_next_128 : decode cX7_next 128 = .ok (.putfield 129, 3) := by decide +kernel
theorem dX7_next_131 : decode cX7_next 131 = .ok (.goto (-31), 3) := by decide +kernel
theorem dX7_next_134 : decode cX7_next 134 = .ok (.iload_n 1, 1) := by decide +kernel
theorem dX7_next_135 : decode cX7_next 135 = .ok (.i2l, 1) := by decide +kernel
theorem dX7_next_136 : decode cX7_next 136 = .ok (.ldc2_w 145, 3) := by decide +kernel
theorem dX7_next_139 : decode cX7_next 139 = .ok (.ldc2_w 147, 3) := by decide +kernel
theorem dX7_next_142 : decode cX7_next 142 = .ok (.invokestatic 73, 3) := by decide +kernel
theorem dX7_next_145 : decode cX7_next 145 = .ok (.ifCond .eq 107, 3) := by decide +kernel
theorem dX7_next_148 : decode cX7_next 148 = .ok (.aload_n 0, 1) := by decide +kernel
theorem dX7_next_149 : decode cX7_next 149 = .ok (.iconst 2, 1) := by decide +kernel
theorem dX7_next_150 : decode cX7_next 150 = .ok (.putfield 138, 3) := by decide +kernel
theorem dX7_next_153 : decode cX7_next 153 = .ok (.aload_n 0, 1) := by decide +kernel
theorem dX7_next_154 : decode cX7_next 154 = .ok (.lconst 0, 1) := by decide +kernel
theorem dX7_next_155 : decode cX7_next 155 = .ok (.putfield 149, 3) := by decide +kernel
theorem dX7_next_158 : decode cX7_next 158 = .ok (.iconst 0, 1) := by decide +kernel
theorem dX7_next_159 : decode cX7_next 159 = .ok (.istore_n 2, 1) := by decide +kernel
theorem dX7_next_160 : decode cX7_next 160 = .ok (.aload_n 0, 1) := by decide +kernel
theorem dX7_next_161 : decode cX7_next 161 = .ok (.aload_n 0, 1) := by decide +kernel
theorem dX7_next_162 : decode cX7_next 162 = .ok (.getfield 129, 3) := by decide +kernel
theorem dX7_next_165 : decode cX7_next 165 = .ok (.invokevirtual 132, 3) := by decide +kernel
theorem dX7_next_168 : decode cX7_next 168 = .ok (.i2l, 1) := by decide +kernel
theorem dX7_next_169 : decode cX7_next 169 = .ok (.ldc2_w 145, 3) := by decide +kernel
theorem dX7_next_172 : decode cX7_next 172 = .ok (.ldc2_w 147, 3) := by decide +kernel
theorem dX7_next_175 : decode cX7_next 175 = .ok (.invokestatic 73, 3) := by decide +kernel
theorem dX7_next_178 : decode cX7_next 178 = .ok (.ifCond .eq 57, 3) := by decide +kernel
theorem dX7_next_181 : decode cX7_next 181 = .ok (.aload_n 0, 1) := by decide +kernel
theorem dX7_next_182 : decode cX7_next 182 = .ok (.iload_n 2, 1) := by decide +kernel
theorem dX7_next_183 : decode cX7_next 183 = .ok (.iconst 4, 1) := by decide +kernel
theorem dX7_next_184 : decode cX7_next 184 = .ok (.if_icmp .ge 28, 3) := by decide +kernel
theorem dX7_next_187 : decode cX7_next 187 = .ok (.ldc2_w 153, 3) := by decide +kernel
theorem dX7_next_190 : decode cX7_next 190 = .ok (.aload_n 0, 1) := by decide +kernel
theorem dX7_next_191 : decode cX7_next 191 = .ok (.getfield 149, 3) := by decide +kernel
theorem dX7_next_194 : decode cX7_next 194 = .ok (.lmul, 1) := by decide +kernel
theorem dX7_next_195 : decode cX7_next 195 = .ok (.aload_n 0, 1) := by decide +kernel
theorem dX7_next_196 : decode cX7_next 196 = .ok (.aload_n 0, 1) := by decide +kernel
theorem dX7_next_197 : decode cX7_next 197 = .ok (.getfield 129, 3) := by decide +kernel
theorem dX7_next_200 : decode cX7_next 200 = .ok (.invokevirtual 132, 3) := by decide +kernel
theorem dX7_next_203 : decode cX7_next 203 = .ok (.i2l, 1) := by decide +kernel
theorem dX7_next_204 : decode cX7_next 204 = .ok (.ladd, 1) := by decide +kernel
theorem dX7_next_205 : decode cX7_next 205 = .ok (.ldc2_w 145, 3) := by decide +kernel
theorem dX7_next_208 : decode cX7_next 208 = .ok (.lsub, 1) := by decide +kernel
theorem dX7_next_209 : decode cX7_next 209 = .ok (.goto 7, 3) := by decide +kernel
theorem dX7_next_212 : decode cX7_next 212 = .ok (.aload_n 0, 1) := by decide +kernel
theorem dX7_next_213 : decode cX7_next 213 = .ok (.getfield 149, 3) := by decide +kernel
theorem dX7_next_216 : decode cX7_next 216 = .ok (.putfield 149, 3) := by decide +kernel
theorem dX7_next_219 : decode cX7_next 219 = .ok (.iinc 2 1, 3) := by decide +kernel
theorem dX7_next_222 : decode cX7_next 222 = .ok (.aload_n 0, 1) := by decide +kernel
theorem dX7_next_223 : decode cX7_next 223 = .ok (.dup, 1) := by decide +kernel
theorem dX7_next_224 : decode cX7_next 224 = .ok (.getfield 129, 3) := by decide +kernel
theorem dX7_next_227 : decode cX7_next 227 = .ok (.iconst 1, 1) := by decide +kernel
theorem dX7_next_228 : decode cX7_next 228 = .ok (.iadd, 1) := by decide +kernel
theorem dX7_next_229 : decode cX7_next 229 = .ok (.putfield 129, 3) := by decide +kernel
theorem dX7_next_232 : decode cX7_next 232 = .ok (.goto (-72), 3) := by decide +kernel
theorem dX7_next_235 : decode cX7_next 235 = .ok (.aload_n 0, 1) := by decide +kernel
theorem dX7_next_236 : decode cX7_next 236 = .ok (.iload_n 2, 1) := by decide +kernel
theorem dX7_next_237 : decode cX7_next 237 = .ok (.iconst 4, 1) := by decide +kernel
theorem dX7_next_238 : decode cX7_next 238 = .ok (.if_icmp .le 7, 3) := by decide +kernel
theorem dX7_next_241 : decode cX7_next 241 = .ok (.iconst 4, 1) := by decide +kernel
theorem dX7_next_242 : decode cX7_next 242 = .ok (.goto 4, 3) := by decide +kernel
theorem dX7_next_245 : decode cX7_next 245 = .ok (.iconst 2, 1) := by decide +kernel
theorem dX7_next_246 : decode cX7_next 246 = .ok (.putfield 138, 3) := by decide +kernel
theorem dX7_next_249 : decode cX7_next 249 = .ok (.goto 72, 3) := by decide +kernel
theorem dX7_next_252 : decode cX7_next 252 = .ok (.iload_n 1, 1) := by decide +kernel
theorem dX7_next_253 : decode cX7_next 253 = .ok (.bipush 40, 2) := by decide +kernel
theorem dX7_next_255 : decode cX7_next 255 = .ok (.if_icmp .eq 45, 3) := by decide +kernel
theorem dX7_next_258 : decode cX7_next 258 = .ok (.iload_n 1, 1) := by decide +kernel
theorem dX7_next_259 : decode cX7_next 259 = .ok (.bipush 41, 2) := by decide +kernel
theorem dX7_next_261 : decode cX7_next 261 = .ok (.if_icmp .eq 39, 3) := by decide +kernel
theorem dX7_next_264 : decode cX7_next 264 = .ok (.iload_n 1, 1) := by decide +kernel
theorem dX7_next_265 : decode cX7_next 265 = .ok (.bipush 59, 2) := by decide +kernel
theorem dX7_next_267 : decode cX7_next 267 = .ok (.if_icmp .eq 33, 3) := by decide +kernel
theorem dX7_next_270 : decode cX7_next 270 = .ok (.iload_n 1, 1) := by decide +kernel
theorem dX7_next_271 : decode cX7_next 271 = .ok (.bipush 43, 2) := by decide +kernel
theorem dX7_next_273 : decode cX7_next 273 = .ok (.if_icmp .eq 27, 3) := by decide +kernel
theorem dX7_next_276 : decode cX7_next 276 = .ok (.iload_n 1, 1) := by decide +kernel
theorem dX7_next_277 : decode cX7_next 277 = .ok (.bipush 45, 2) := by decide +kernel
theorem dX7_next_279 : decode cX7_next 279 = .ok (.if_icmp .eq 21, 3) := by decide +kernel
theorem dX7_next_282 : decode cX7_next 282 = .ok (.iload_n 1, 1) := by decide +kernel
theorem dX7_next_283 : decode cX7_next 283 = .ok (.bipush 42, 2) := by decide +kernel
theorem dX7_next_285 : decode cX7_next 285 = .ok (.if_icmp .eq 15, 3) := by decide +kernel
theorem dX7_next_288 : decode cX7_next 288 = .ok (.iload_n 1, 1) := by decide +kernel
theorem dX7_next_289 : decode cX7_next 289 = .ok (.bipush 60, 2) := by decide +kernel
theorem dX7_next_291 : decode cX7_next 291 = .ok (.if_icmp .eq 9, 3) := by decide +kernel
theorem dX7_next_294 : decode cX7_next 294 = .ok (.iload_n 1, 1) := by decide +kernel
theorem dX7_next_295 : decode cX7_next 295 = .ok (.bipush 61, 2) := by decide +kernel
theorem dX7_next_297 : decode cX7_next 297 = .ok (.if_icmp .ne 24, 3) := by decide +kernel
theorem dX7_next_300 : decode cX7_next 300 = .ok (.aload_n 0, 1) := by decide +kernel
theorem dX7_next_301 : decode cX7_next 301 = .ok (.iconst 3, 1) := by decide +kernel
theorem dX7_next_302 : decode cX7_next 302 = .ok (.putfield 138, 3) := by decide +kernel
theorem dX7_next_305 : decode cX7_next 305 = .ok (.aload_n 0, 1) := by decide +kernel
theorem dX7_next_306 : decode cX7_next 306 = .ok (.iload_n 1, 1) := by decide +kernel
theorem dX7_next_307 : decode cX7_next 307 = .ok (.i2l, 1) := by decide +kernel
theorem dX7_next_308 : decode cX7_next 308 = .ok (.putfield 149, 3) := by decide +kernel
theorem dX7_next_311 : decode cX7_next 311 = .ok (.aload_n 0, 1) := by decide +kernel
theorem dX7_next_312 : decode cX7_next 312 = .ok (.dup, 1) := by decide +kernel
theorem dX7_next_313 : decode cX7_next 313 = .ok (.getfield 129, 3) := by decide +kernel
theorem dX7_next_316 : decode cX7_next 316 = .ok (.iconst 1, 1) := by decide +kernel
theorem dX7_next_317 : decode cX7_next 317 = .ok (.iadd, 1) := by decide +kernel
theorem dX7_next_318 : decode cX7_next 318 = .ok (.putfield 129, 3) := by decide +kernel
theorem dX7_next_321 : decode cX7_next 321 = .ok (.return_, 1) := by decide +kernel
theorem dX7_fail_0 : decode cX7_fail 0 = .ok (.aload_n 0, 1) := by decide +kernel
theorem dX7_fail_1 : decode cX7_fail 1 = .ok (.getfield 155, 3) := by decide +kernel
theorem dX7_fail_4 : decode cX7_fail 4 = .ok (.ifCond .ne 16, 3) := by decide +kernel
theorem dX7_fail_7 : decode cX7_fail 7 = .ok (.aload_n 0, 1) := by decide +kernel
theorem dX7_fail_8 : decode cX7_fail 8 = .ok (.iconst 1, 1) := by decide +kernel
theorem dX7_fail_9 : decode cX7_fail 9 = .ok (.putfield 155, 3) := by decide +kernel
theorem dX7_fail_12 : decode cX7_fail 12 = .ok (.aload_n 0, 1) := by decide +kernel
theorem dX7_fail_13 : decode cX7_fail 13 = .ok (.aload_n 0, 1) := by decide +kernel
theorem dX7_fail_14 : decode cX7_fail 14 = .ok (.getfield 135, 3) := by decide +kernel
theorem dX7_fail_17 : decode cX7_fail 17 = .ok (.putfield 158, 3) := by decide +kernel
theorem dX7_fail_20 : decode cX7_fail 20 = .ok (.return_, 1) := by decide +kernel
theorem dX7_isLetter_0 : decode cX7_isLetter 0 = .ok (.aload_n 0, 1) := by decide +kernel
theorem dX7_isLetter_1 : decode cX7_isLetter 1 = .ok (.getfield 135, 3) := by decide +kernel
theorem dX7_isLetter_4 : decode cX7_isLetter 4 = .ok (.iload_n 1, 1) := by decide +kernel
theorem dX7_isLetter_5 : decode cX7_isLetter 5 = .ok (.iadd, 1) := by decide +kernel
theorem dX7_isLetter_6 : decode cX7_isLetter 6 = .ok (.aload_n 0, 1) := by decide +kernel
theorem dX7_isLetter_7 : decode cX7_isLetter 7 = .ok (.getfield 129, 3) := by decide +kernel
theorem dX7_isLetter_10 : decode cX7_isLetter 10 = .ok (.if_icmp .ge 25, 3) := by decide +kernel
theorem dX7_isLetter_13 : decode cX7_isLetter 13 = .ok (.aload_n 0, 1) := by decide +kernel
theorem dX7_isLetter_14 : decode cX7_isLetter 14 = .ok (.aload_n 0, 1) := by decide +kernel
theorem dX7_isLetter_15 : decode cX7_isLetter 15 = .ok (.getfield 135, 3) := by decide +kernel
theorem dX7_isLetter_18 : decode cX7_isLetter 18 = .ok (.iload_n 1, 1) := by decide +kernel
theorem dX7_isLetter_19 : decode cX7_isLetter 19 = .ok (.iadd, 1) := by decide +kernel
theorem dX7_isLetter_20 : decode cX7_isLetter 20 = .ok (.invokevirtual 132, 3) := by decide +kernel
theorem dX7_isLetter_23 : decode cX7_isLetter 23 = .ok (.iload_n 2, 1) := by decide +kernel
theorem dX7_isLetter_24 : decode cX7_isLetter 24 = .ok (.if_icmp .ne 7, 3) := by decide +kernel
theorem dX7_isLetter_27 : decode cX7_isLetter 27 = .ok (.iconst 1, 1) := by decide +kernel
theorem dX7_isLetter_28 : decode cX7_isLetter 28 = .ok (.goto 16, 3) := by decide +kernel
theorem dX7_isLetter_31 : decode cX7_isLetter 31 = .ok (.iconst 0, 1) := by decide +kernel
theorem dX7_isLetter_32 : decode cX7_isLetter 32 = .ok (.goto 12, 3) := by decide +kernel
theorem dX7_isLetter_35 : decode cX7_isLetter 35 = .ok (.iload_n 2, 1) := by decide +kernel
theorem dX7_isLetter_36 : decode cX7_isLetter 36 = .ok (.ifCond .ne 7, 3) := by decide +kernel
theorem dX7_isLetter_39 : decode cX7_isLetter 39 = .ok (.iconst 1, 1) := by decide +kernel
theorem dX7_isLetter_40 : decode cX7_isLetter 40 = .ok (.goto 4, 3) := by decide +kernel
theorem dX7_isLetter_43 : decode cX7_isLetter 43 = .ok (.iconst 0, 1) := by decide +kernel
theorem dX7_isLetter_44 : decode cX7_isLetter 44 = .ok (.ireturn, 1) := by decide +kernel
theorem dX7_isWord_0 : decode cX7_isWord 0 = .ok (.aload_n 0, 1) := by decide +kernel
theorem dX7_isWord_1 : decode cX7_isWord 1 = .ok (.getfield 155, 3) := by decide +kernel
theorem dX7_isWord_4 : decode cX7_isWord 4 = .ok (.ifCond .ne 108, 3) := by decide +kernel
theorem dX7_isWord_7 : decode cX7_isWord 7 = .ok (.aload_n 0, 1) := by decide +kernel
theorem dX7_isWord_8 : decode cX7_isWord 8 = .ok (.getfield 138, 3) := by decide +kernel
theorem dX7_isWord_11 : decode cX7_isWord 11 = .ok (.iconst 1, 1) := by decide +kernel
theorem dX7_isWord_12 : decode cX7_isWord 12 = .ok (.if_icmp .ne 100, 3) := by decide +kernel
theorem dX7_isWord_15 : decode cX7_isWord 15 = .ok (.aload_n 0, 1) := by decide +kernel
theorem dX7_isWord_16 : decode cX7_isWord 16 = .ok (.getfield 129, 3) := by decide +kernel
theorem dX7_isWord_19 : decode cX7_isWord 19 = .ok (.aload_n 0, 1) := by decide +kernel
theorem dX7_isWord_20 : decode cX7_isWord 20 = .ok (.getfield 135, 3) := by decide +kernel
theorem dX7_isWord_23 : decode cX7_isWord 23 = .ok (.bipush 8, 2) := by decide +kernel
theorem dX7_isWord_25 : decode cX7_isWord 25 = .ok (.iadd, 1) := by decide +kernel
theorem dX7_isWord_26 : decode cX7_isWord 26 = .ok (.if_icmp .gt 86, 3) := by decide +kernel
theorem dX7_isWord_29 : decode cX7_isWord 29 = .ok (.aload_n 0, 1) := by decide +kernel
theorem dX7_isWord_30 : decode cX7_isWord 30 = .ok (.iconst 0, 1) := by decide +kernel
theorem dX7_isWord_31 : decode cX7_isWord 31 = .ok (.iload_n 1, 1) := by decide +kernel
theorem dX7_isWord_32 : decode cX7_isWord 32 = .ok (.invokevirtual 161, 3) := by decide +kernel
theorem dX7_isWord_35 : decode cX7_isWord 35 = .ok (.ifCond .eq 77, 3) := by decide +kernel
theorem dX7_isWord_38 : decode cX7_isWord 38 = .ok (.aload_n 0, 1) := by decide +kernel
theorem dX7_isWord_39 : decode cX7_isWord 39 = .ok (.iconst 1, 1) := by decide +kernel
theorem dX7_isWord_40 : decode cX7_isWord 40 = .ok (.iload_n 2, 1) := by decide +kernel
theorem dX7_isWord_41 : decode cX7_isWord 41 = .ok (.invokevirtual 161, 3) := by decide +kernel
theorem dX7_isWord_44 : decode cX7_isWord 44 = .ok (.ifCond .eq 68, 3) := by decide +kernel
theorem dX7_isWord_47 : decode cX7_isWord 47 = .ok (.aload_n 0, 1) := by decide +kernel
theorem dX7_isWord_48 : decode cX7_isWord 48 = .ok (.iconst 2, 1) := by decide +kernel
theorem dX7_isWord_49 : decode cX7_isWord 49 = .ok (.iload_n 3, 1) := by decide +kernel
theorem dX7_isWord_50 : decode cX7_isWord 50 = .ok (.invokevirtual 161, 3) := by decide +kernel
theorem dX7_isWord_53 : decode cX7_isWord 53 = .ok (.ifCond .eq 59, 3) := by decide +kernel
theorem dX7_isWord_56 : decode cX7_isWord 56 = .ok (.aload_n 0, 1) := by decide +kernel
theorem dX7_isWord_57 : decode cX7_isWord 57 = .ok (.iconst 3, 1) := by decide +kernel
theorem dX7_isWord_58 : decode cX7_isWord 58 = .ok (.iload 4, 2) := by decide +kernel
theorem dX7_isWord_60 : decode cX7_isWord 60 = .ok (.invokevirtual 161, 3) := by decide +kernel
theorem dX7_isWord_63 : decode cX7_isWord 63 = .ok (.ifCond .eq 49, 3) := by decide +kernel
theorem dX7_isWord_66 : decode cX7_isWord 66 = .ok (.aload_n 0, 1) := by decide +kernel
theorem dX7_isWord_67 : decode cX7_isWord 67 = .ok (.iconst 4, 1) := by decide +kernel
theorem dX7_isWord_68 : decode cX7_isWord 68 = .ok (.iload 5, 2) := by decide +kernel
theorem dX7_isWord_70 : decode cX7_isWord 70 = .ok (.invokevirtual 161, 3) := by decide +kernel
theorem dX7_isWord_73 : decode cX7_isWord 73 = .ok (.ifCond .eq 39, 3) := by decide +kernel
theorem dX7_isWord_76 : decode cX7_isWord 76 = .ok (.aload_n 0, 1) := by decide +kernel
theorem dX7_isWord_77 : decode cX7_isWord 77 = .ok (.iconst 5, 1) := by decide +kernel
theorem dX7_isWord_78 : decode cX7_isWord 78 = .ok (.iload 6, 2) := by decide +kernel
theorem dX7_isWord_80 : decode cX7_isWord 80 = .ok (.invokevirtual 161, 3) := by decide +kernel
theorem dX7_isWord_83 : decode cX7_isWord 83 = .ok (.ifCond .eq 29, 3) := by decide +kernel
theorem dX7_isWord_86 : decode cX7_isWord 86 = .ok (.aload_n 0, 1) := by decide +kernel
theorem dX7_isWord_87 : decode cX7_isWord 87 = .ok (.bipush 6, 2) := by decide +kernel
theorem dX7_isWord_89 : decode cX7_isWord 89 = .ok (.iload 7, 2) := by decide +kernel
theorem dX7_isWord_91 : decode cX7_isWord 91 = .ok (.invokevirtual 161, 3) := by decide +kernel
theorem dX7_isWord_94 : decode cX7_isWord 94 = .ok (.ifCond .eq 18, 3) := by decide +kernel
theorem dX7_isWord_97 : decode cX7_isWord 97 = .ok (.aload_n 0, 1) := by decide +kernel
theorem dX7_isWord_98 : decode cX7_isWord 98 = .ok (.bipush 7, 2) := by decide +kernel
theorem dX7_isWord_100 : decode cX7_isWord 100 = .ok (.iload 8, 2) := by decide +kernel
theorem dX7_isWord_102 : decode cX7_isWord 102 = .ok (.invokevirtual 161, 3) := by decide +kernel
theorem dX7_isWord_105 : decode cX7_isWord 105 = .ok (.ifCond .eq 7, 3) := by decide +kernel
theorem dX7_isWord_108 : decode cX7_isWord 108 = .ok (.iconst 1, 1) := by decide +kernel
theorem dX7_isWord_109 : decode cX7_isWord 109 = .ok (.goto 4, 3) := by decide +kernel
theorem dX7_isWord_112 : decode cX7_isWord 112 = .ok (.iconst 0, 1) := by decide +kernel
theorem dX7_isWord_113 : decode cX7_isWord 113 = .ok (.ireturn, 1) := by decide +kernel
theorem dX7_isSign_0 : decode cX7_isSign 0 = .ok (.aload_n 0, 1) := by decide +kernel
theorem dX7_isSign_1 : decode cX7_isSign 1 = .ok (.getfield 155, 3) := by decide +kernel
theorem dX7_isSign_4 : decode cX7_isSign 4 = .ok (.ifCond .ne 25, 3) := by decide +kernel
theorem dX7_isSign_7 : decode cX7_isSign 7 = .ok (.aload_n 0, 1) := by decide +kernel
theorem dX7_isSign_8 : decode cX7_isSign 8 = .ok (.getfield 138, 3) := by decide +kernel
theorem dX7_isSign_11 : decode cX7_isSign 11 = .ok (.iconst 3, 1) := by decide +kernel
theorem dX7_isSign_12 : decode cX7_isSign 12 = .ok (.if_icmp .ne 17, 3) := by decide +kernel
theorem dX7_isSign_15 : decode cX7_isSign 15 = .ok (.aload_n 0, 1) := by decide +kernel
theorem dX7_isSign_16 : decode cX7_isSign 16 = .ok (.getfield 149, 3) := by decide +kernel
theorem dX7_isSign_19 : decode cX7_isSign 19 = .ok (.iload_n 1, 1) := by decide +kernel
theorem dX7_isSign_20 : decode cX7_isSign 20 = .ok (.i2l, 1) := by decide +kernel
theorem dX7_isSign_21 : decode cX7_isSign 21 = .ok (.lcmp, 1) := by decide +kernel
theorem dX7_isSign_22 : decode cX7_isSign 22 = .ok (.ifCond .ne 7, 3) := by decide +kernel
theorem dX7_isSign_25 : decode cX7_isSign 25 = .ok (.iconst 1, 1) := by decide +kernel
theorem dX7_isSign_26 : decode cX7_isSign 26 = .ok (.goto 4, 3) := by decide +kernel
theorem dX7_isSign_29 : decode cX7_isSign 29 = .ok (.iconst 0, 1) := by decide +kernel
theorem dX7_isSign_30 : decode cX7_isSign 30 = .ok (.ireturn, 1) := by decide +kernel
theorem dX7_opens_0 : decode cX7_opens 0 = .ok (.aload_n 0, 1) := by decide +kernel
theorem dX7_opens_1 : decode cX7_opens 1 = .ok (.getfield 164, 3) := by decide +kernel
theorem dX7_opens_4 : decode cX7_opens 4 = .ok (.iconst 5, 1) := by decide +kernel
theorem dX7_opens_5 : decode cX7_opens 5 = .ok (.if_icmp .ne 9, 3) := by decide +kernel
theorem dX7_opens_8 : decode cX7_opens 8 = .ok (.aload_n 0, 1) := by decide +kernel
theorem dX7_opens_9 : decode cX7_opens 9 = .ok (.invokevirtual 167, 3) := by decide +kernel
theorem dX7_opens_12 : decode cX7_opens 12 = .ok (.iconst 0, 1) := by decide +kernel
theorem dX7_opens_13 : decode cX7_opens 13 = .ok (.ireturn, 1) := by decide +kernel
theorem dX7_opens_14 : decode cX7_opens 14 = .ok (.aload_n 0, 1) := by decide +kernel
theorem dX7_opens_15 : decode cX7_opens 15 = .ok (.dup, 1) := by decide +kernel
theorem dX7_opens_16 : decode cX7_opens 16 = .ok (.getfield 164, 3) := by decide +kernel
theorem dX7_opens_19 : decode cX7_opens 19 = .ok (.iconst 1, 1) := by decide +kernel
theorem dX7_opens_20 : decode cX7_opens 20 = .ok (.iadd, 1) := by decide +kernel
theorem dX7_opens_21 : decode cX7_opens 21 = .ok (.putfield 164, 3) := by decide +kernel
theorem dX7_opens_24 : decode cX7_opens 24 = .ok (.aload_n 0, 1) := by decide +kernel
theorem dX7_opens_25 : decode cX7_opens 25 = .ok (.invokevirtual 170, 3) := by decide +kernel
theorem dX7_opens_28 : decode cX7_opens 28 = .ok (.iconst 1, 1) := by decide +kernel
theorem dX7_opens_29 : decode cX7_opens 29 = .ok (.ireturn, 1) := by decide +kernel
theorem dX7_name_0 : decode cX7_name 0 = .ok (.aload_n 0, 1) := by decide +kernel
theorem dX7_name_1 : decode cX7_name 1 = .ok (.bipush 116, 2) := by decide +kernel
theorem dX7_name_3 : decode cX7_name 3 = .ok (.bipush 105, 2) := by decide +kernel
theorem dX7_name_5 : decode cX7_name 5 = .ok (.bipush 99, 2) := by decide +kernel
theorem dX7_name_7 : decode cX7_name 7 = .ok (.bipush 107, 2) := by decide +kernel
theorem dX7_name_9 : decode cX7_name 9 = .ok (.iconst 0, 1) := by decide +kernel
theorem dX7_name_10 : decode cX7_name 10 = .ok (.iconst 0, 1) := by decide +kernel
theorem dX7_name_11 : decode cX7_name 11 = .ok (.iconst 0, 1) := by decide +kernel
theorem dX7_name_12 : decode cX7_name 12 = .ok (.iconst 0, 1) := by decide +kernel
theorem dX7_name_13 : decode cX7_name 13 = .ok (.invokevirtual 173, 3) := by decide +kernel
theorem dX7_name_16 : decode cX7_name 16 = .ok (.ifCond .eq 8, 3) := by decide +kernel
theorem dX7_name_19 : decode cX7_name 19 = .ok (.aload_n 0, 1) := by decide +kernel
theorem dX7_name_20 : decode cX7_name 20 = .ok (.getfield 177, 3) := by decide +kernel
theorem dX7_name_23 : decode cX7_name 23 = .ok (.ireturn, 1) := by decide +kernel
theorem dX7_name_24 : decode cX7_name 24 = .ok (.aload_n 0, 1) := by decide +kernel
theorem dX7_name_25 : decode cX7_name 25 = .ok (.bipush 102, 2) := by decide +kernel
theorem dX7_name_27 : decode cX7_name 27 = .ok (.bipush 97, 2) := by decide +kernel
theorem dX7_name_29 : decode cX7_name 29 = .ok (.bipush 114, 2) := by decide +kernel
theorem dX7_name_31 : decode cX7_name 31 = .ok (.iconst 0, 1) := by decide +kernel
theorem dX7_name_32 : decode cX7_name 32 = .ok (.iconst 0, 1) := by decide +kernel
theorem dX7_name_33 : decode cX7_name 33 = .ok (.iconst 0, 1) := by decide +kernel
theorem dX7_name_34 : decode cX7_name 34 = .ok (.iconst 0, 1) := by decide +kernel
theorem dX7_name_35 : decode cX7_name 35 = .ok (.iconst 0, 1) := by decide +kernel
theorem dX7_name_36 : decode cX7_name 36 = .ok (.invokevirtual 173, 3) := by decide +kernel
theorem dX7_name_39 : decode cX7_name 39 = .ok (.ifCond .eq 8, 3) := by decide +kernel
theorem dX7_name_42 : decode cX7_name 42 = .ok (.aload_n 0, 1) := by decide +kernel
theorem dX7_name_43 : decode cX7_name 43 = .ok (.getfield 180, 3) := by decide +kernel
theorem dX7_name_46 : decode cX7_name 46 = .ok (.ireturn, 1) := by decide +kernel
theorem dX7_name_47 : decode cX7_name 47 = .ok (.aload_n 0, 1) := by decide +kernel
theorem dX7_name_48 : decode cX7_name 48 = .ok (.bipush 109, 2) := by decide +kernel
theorem dX7_name_50 : decode cX7_name 50 = .ok (.bipush 111, 2) := by decide +kernel
theorem dX7_name_52 : decode cX7_name 52 = .ok (.bipush 111, 2) := by decide +kernel
theorem dX7_name_54 : decode cX7_name 54 = .ok (.bipush 110, 2) := by decide +kernel
theorem dX7_name_56 : decode cX7_name 56 = .ok (.iconst 0, 1) := by decide +kernel
theorem dX7_name_57 : decode cX7_name 57 = .ok (.iconst 0, 1) := by decide +kernel
theorem dX7_name_58 : decode cX7_name 58 = .ok (.iconst 0, 1) := by decide +kernel
theorem dX7_name_59 : decode cX7_name 59 = .ok (.iconst 0, 1) := by decide +kernel
theorem dX7_name_60 : decode cX7_name 60 = .ok (.invokevirtual 173, 3) := by decide +kernel
theorem dX7_name_63 : decode cX7_name 63 = .ok (.ifCond .eq 8, 3) := by decide +kernel
theorem dX7_name_66 : decode cX7_name 66 = .ok (.aload_n 0, 1) := by decide +kernel
theorem dX7_name_67 : decode cX7_name 67 = .ok (.getfield 183, 3) := by decide +kernel
theorem dX7_name_70 : decode cX7_name 70 = .ok (.ireturn, 1) := by decide +kernel
theorem dX7_name_71 : decode cX7_name 71 = .ok (.aload_n 0, 1) := by decide +kernel
theorem dX7_name_72 : decode cX7_name 72 = .ok (.bipush 110, 2) := by decide +kernel
theorem dX7_name_74 : decode cX7_name 74 = .ok (.bipush 117, 2) := by decide +kernel
theorem dX7_name_76 : decode cX7_name 76 = .ok (.bipush 109, 2) := by decide +kernel
theorem dX7_name_78 : decode cX7_name 78 = .ok (.bipush 98, 2) := by decide +kernel
theorem dX7_name_80 : decode cX7_name 80 = .ok (.bipush 101, 2) := by decide +kernel
theorem dX7_name_82 : decode cX7_name 82 = .ok (.bipush 114, 2) := by decide +kernel
theorem dX7_name_84 : decode cX7_name 84 = .ok (.iconst 0, 1) := by decide +kernel
theorem dX7_name_85 : decode cX7_name 85 = .ok (.iconst 0, 1) := by decide +kernel
theorem dX7_name_86 : decode cX7_name 86 = .ok (.invokevirtual 173, 3) := by decide +kernel
theorem dX7_name_89 : decode cX7_name 89 = .ok (.ifCond .eq 8, 3) := by decide +kernel
theorem dX7_name_92 : decode cX7_name 92 = .ok (.aload_n 0, 1) := by decide +kernel
theorem dX7_name_93 : decode cX7_name 93 = .ok (.getfield 186, 3) := by decide +kernel
theorem dX7_name_96 : decode cX7_name 96 = .ok (.ireturn, 1) := by decide +kernel
theorem dX7_name_97 : decode cX7_name 97 = .ok (.aload_n 0, 1) := by decide +kernel
theorem dX7_name_98 : decode cX7_name 98 = .ok (.bipush 104, 2) := by decide +kernel
theorem dX7_name_100 : decode cX7_name 100 = .ok (.bipush 101, 2) := by decide +kernel
theorem dX7_name_102 : decode cX7_name 102 = .ok (.bipush 105, 2) := by decide +kernel
theorem dX7_name_104 : decode cX7_name 104 = .ok (.bipush 103, 2) := by decide +kernel
theorem dX7_name_106 : decode cX7_name 106 = .ok (.bipush 104, 2) := by decide +kernel
theorem dX7_name_108 : decode cX7_name 108 = .ok (.bipush 116, 2) := by decide +kernel
theorem dX7_name_110 : decode cX7_name 110 = .ok (.iconst 0, 1) := by decide +kernel
theorem dX7_name_111 : decode cX7_name 111 = .ok (.iconst 0, 1) := by decide +kernel
theorem dX7_name_112 : decode cX7_name 112 = .ok (.invokevirtual 173, 3) := by decide +kernel
theorem dX7_name_115 : decode cX7_name 115 = .ok (.ifCond .eq 8, 3) := by decide +kernel
theorem dX7_name_118 : decode cX7_name 118 = .ok (.aload_n 0, 1) := by decide +kernel
theorem dX7_name_119 : decode cX7_name 119 = .ok (.getfield 189, 3) := by decide +kernel
theorem dX7_name_122 : decode cX7_name 122 = .ok (.ireturn, 1) := by decide +kernel
theorem dX7_name_123 : decode cX7_name 123 = .ok (.aload_n 0, 1) := by decide +kernel
theorem dX7_name_124 : decode cX7_name 124 = .ok (.bipush 111, 2) := by decide +kernel
theorem dX7_name_126 : decode cX7_name 126 = .ok (.bipush 114, 2) := by decide +kernel
theorem dX7_name_128 : decode cX7_name 128 = .ok (.bipush 100, 2) := by decide +kernel
theorem dX7_name_130 : decode cX7_name 130 = .ok (.bipush 101, 2) := by decide +kernel
theorem dX7_name_132 : decode cX7_name 132 = .ok (.bipush 114, 2) := by decide +kernel
theorem dX7_name_134 : decode cX7_name 134 = .ok (.iconst 0, 1) := by decide +kernel
theorem dX7_name_135 : decode cX7_name 135 = .ok (.iconst 0, 1) := by decide +kernel
theorem dX7_name_136 : decode cX7_name 136 = .ok (.iconst 0, 1) := by decide +kernel
theorem dX7_name_137 : decode cX7_name 137 = .ok (.invokevirtual 173, 3) := by decide +kernel
theorem dX7_name_140 : decode cX7_name 140 = .ok (.ifCond .eq 8, 3) := by decide +kernel
theorem dX7_name_143 : decode cX7_name 143 = .ok (.aload_n 0, 1) := by decide +kernel
theorem dX7_name_144 : decode cX7_name 144 = .ok (.getfield 192, 3) := by decide +kernel
theorem dX7_name_147 : decode cX7_name 147 = .ok (.ireturn, 1) := by decide +kernel
theorem dX7_name_148 : decode cX7_name 148 = .ok (.aload_n 0, 1) := by decide +kernel
theorem dX7_name_149 : decode cX7_name 149 = .ok (.invokevirtual 167, 3) := by decide +kernel
theorem dX7_name_152 : decode cX7_name 152 = .ok (.iconst 0, 1) := by decide +kernel
theorem dX7_name_153 : decode cX7_name 153 = .ok (.ireturn, 1) := by decide +kernel
theorem dX7_atom_0 : decode cX7_atom 0 = .ok (.iconst 0, 1) := by decide +kernel
theorem dX7_atom_1 : decode cX7_atom 1 = .ok (.istore_n 1, 1) := by decide +kernel
theorem dX7_atom_2 : decode cX7_atom 2 = .ok (.aload_n 0, 1) := by decide +kernel
theorem dX7_atom_3 : decode cX7_atom 3 = .ok (.bipush 45, 2) := by decide +kernel
theorem dX7_atom_5 : decode cX7_atom 5 = .ok (.invokevirtual 195, 3) := by decide +kernel
theorem dX7_atom_8 : decode cX7_atom 8 = .ok (.ifCond .eq 29, 3) := by decide +kernel
theorem dX7_atom_11 : decode cX7_atom 11 = .ok (.aload_n 0, 1) := by decide +kernel
theorem dX7_atom_12 : decode cX7_atom 12 = .ok (.invokevirtual 198, 3) := by decide +kernel
theorem dX7_atom_15 : decode cX7_atom 15 = .ok (.ifCond .eq 146, 3) := by decide +kernel
theorem dX7_atom_18 : decode cX7_atom 18 = .ok (.aload_n 0, 1) := by decide +kernel
theorem dX7_atom_19 : decode cX7_atom 19 = .ok (.invokevirtual 202, 3) := by decide +kernel
theorem dX7_atom_22 : decode cX7_atom 22 = .ok (.ineg, 1) := by decide +kernel
theorem dX7_atom_23 : decode cX7_atom 23 = .ok (.istore_n 1, 1) := by decide +kernel
theorem dX7_atom_24 : decode cX7_atom 24 = .ok (.aload_n 0, 1) := by decide +kernel
theorem dX7_atom_25 : decode cX7_atom 25 = .ok (.dup, 1) := by decide +kernel
theorem dX7_atom_26 : decode cX7_atom 26 = .ok (.getfield 164, 3) := by decide +kernel
theorem dX7_atom_29 : decode cX7_atom 29 = .ok (.iconst 1, 1) := by decide +kernel
theorem dX7_atom_30 : decode cX7_atom 30 = .ok (.isub, 1) := by decide +kernel
theorem dX7_atom_31 : decode cX7_atom 31 = .ok (.putfield 164, 3) := by decide +kernel
theorem dX7_atom_34 : decode cX7_atom 34 = .ok (.goto 127, 3) := by decide +kernel
theorem dX7_atom_37 : decode cX7_atom 37 = .ok (.aload_n 0, 1) := by decide +kernel
theorem dX7_atom_38 : decode cX7_atom 38 = .ok (.bipush 40, 2) := by decide +kernel
theorem dX7_atom_40 : decode cX7_atom 40 = .ok (.invokevirtual 195, 3) := by decide +kernel
theorem dX7_atom_43 : decode cX7_atom 43 = .ok (.ifCond .eq 52, 3) := by decide +kernel
theorem dX7_atom_46 : decode cX7_atom 46 = .ok (.aload_n 0, 1) := by decide +kernel
theorem dX7_atom_47 : decode cX7_atom 47 = .ok (.invokevirtual 198, 3) := by decide +kernel
theorem dX7_atom_50 : decode cX7_atom 50 = .ok (.ifCond .eq 111, 3) := by decide +kernel
theorem dX7_atom_53 : decode cX7_atom 53 = .ok (.aload_n 0, 1) := by decide +kernel
theorem dX7_atom_54 : decode cX7_atom 54 = .ok (.invokevirtual 206, 3) := by decide +kernel
theorem dX7_atom_57 : decode cX7_atom 57 = .ok (.istore_n 1, 1) := by decide +kernel
theorem dX7_atom_58 : decode cX7_atom 58 = .ok (.aload_n 0, 1) := by decide +kernel
theorem dX7_atom_59 : decode cX7_atom 59 = .ok (.bipush 41, 2) := by decide +kernel
theorem dX7_atom_61 : decode cX7_atom 61 = .ok (.invokevirtual 195, 3) := by decide +kernel
theorem dX7_atom_64 : decode cX7_atom 64 = .ok (.ifCond .ne 7, 3) := by decide +kernel
theorem dX7_atom_67 : decode cX7_atom 67 = .ok (.aload_n 0, 1) := by decide +kernel
theorem dX7_atom_68 : decode cX7_atom 68 = .ok (.invokevirtual 167, 3) := by decide +kernel
theorem dX7_atom_71 : decode cX7_atom 71 = .ok (.aload_n 0, 1) := by decide +kernel
theorem dX7_atom_72 : decode cX7_atom 72 = .ok (.dup, 1) := by decide +kernel
theorem dX7_atom_73 : decode cX7_atom 73 = .ok (.getfield 164, 3) := by decide +kernel
theorem dX7_atom_76 : decode cX7_atom 76 = .ok (.iconst 1, 1) := by decide +kernel
theorem dX7_atom_77 : decode cX7_atom 77 = .ok (.isub, 1) := by decide +kernel
theorem dX7_atom_78 : decode cX7_atom 78 = .ok (.putfield 164, 3) := by decide +kernel
theorem dX7_atom_81 : decode cX7_atom 81 = .ok (.aload_n 0, 1) := by decide +kernel
theorem dX7_atom_82 : decode cX7_atom 82 = .ok (.getfield 155, 3) := by decide +kernel
theorem dX7_atom_85 : decode cX7_atom 85 = .ok (.ifCond .ne 76, 3) := by decide +kernel
theorem dX7_atom_88 : decode cX7_atom 88 = .ok (.aload_n 0, 1) := by decide +kernel
theorem dX7_atom_89 : decode cX7_atom 89 = .ok (.invokevirtual 170, 3) := by decide +kernel
theorem dX7_atom_92 : decode cX7_atom 92 = .ok (.goto 69, 3) := by decide +kernel
theorem dX7_atom_95 : decode cX7_atom 95 = .ok (.aload_n 0, 1) := by decide +kernel
theorem dX7_atom_96 : decode cX7_atom 96 = .ok (.getfield 155, 3) := by decide +kernel
theorem dX7_atom_99 : decode cX7_atom 99 = .ok (.ifCond .ne 24, 3) := by decide +kernel
theorem dX7_atom_102 : decode cX7_atom 102 = .ok (.aload_n 0, 1) := by decide +kernel
theorem dX7_atom_103 : decode cX7_atom 103 = .ok (.getfield 138, 3) := by decide +kernel
theorem dX7_atom_106 : decode cX7_atom 106 = .ok (.iconst 2, 1) := by decide +kernel
theorem dX7_atom_107 : decode cX7_atom 107 = .ok (.if_icmp .ne 16, 3) := by decide +kernel
theorem dX7_atom_110 : decode cX7_atom 110 = .ok (.aload_n 0, 1) := by decide +kernel
theorem dX7_atom_111 : decode cX7_atom 111 = .ok (.getfield 149, 3) := by decide +kernel
theorem dX7_atom_114 : decode cX7_atom 114 = .ok (.l2i, 1) := by decide +kernel
theorem dX7_atom_115 : decode cX7_atom 115 = .ok (.istore_n 1, 1) := by decide +kernel
theorem dX7_atom_116 : decode cX7_atom 116 = .ok (.aload_n 0, 1) := by decide +kernel
theorem dX7_atom_117 : decode cX7_atom 117 = .ok (.invokevirtual 170, 3) := by decide +kernel
theorem dX7_atom_120 : decode cX7_atom 120 = .ok (.goto 41, 3) := by decide +kernel
theorem dX7_atom_123 : decode cX7_atom 123 = .ok (.aload_n 0, 1) := by decide +kernel
theorem dX7_atom_124 : decode cX7_atom 124 = .ok (.getfield 155, 3) := by decide +kernel
theorem dX7_atom_127 : decode cX7_atom 127 = .ok (.ifCond .ne 30, 3) := by decide +kernel
theorem dX7_atom_130 : decode cX7_atom 130 = .ok (.aload_n 0, 1) := by decide +kernel
theorem dX7_atom_131 : decode cX7_atom 131 = .ok (.getfield 138, 3) := by decide +kernel
theorem dX7_atom_134 : decode cX7_atom 134 = .ok (.iconst 1, 1) := by decide +kernel
theorem dX7_atom_135 : decode cX7_atom 135 = .ok (.if_icmp .ne 22, 3) := by decide +kernel
theorem dX7_atom_138 : decode cX7_atom 138 = .ok (.aload_n 0, 1) := by decide +kernel
theorem dX7_atom_139 : decode cX7_atom 139 = .ok (.invokevirtual 209, 3) := by decide +kernel
theorem dX7_atom_142 : decode cX7_atom 142 = .ok (.istore_n 1, 1) := by decide +kernel
theorem dX7_atom_143 : decode cX7_atom 143 = .ok (.aload_n 0, 1) := by decide +kernel
theorem dX7_atom_144 : decode cX7_atom 144 = .ok (.getfield 155, 3) := by decide +kernel
theorem dX7_atom_147 : decode cX7_atom 147 = .ok (.ifCond .ne 14, 3) := by decide +kernel
theorem dX7_atom_150 : decode cX7_atom 150 = .ok (.aload_n 0, 1) := by decide +kernel
theorem dX7_atom_151 : decode cX7_atom 151 = .ok (.invokevirtual 170, 3) := by decide +kernel
theorem dX7_atom_154 : decode cX7_atom 154 = .ok (.goto 7, 3) := by decide +kernel
theorem dX7_atom_157 : decode cX7_atom 157 = .ok (.aload_n 0, 1) := by decide +kernel
theorem dX7_atom_158 : decode cX7_atom 158 = .ok (.invokevirtual 167, 3) := by decide +kernel
theorem dX7_atom_161 : decode cX7_atom 161 = .ok (.iload_n 1, 1) := by decide +kernel
theorem dX7_atom_162 : decode cX7_atom 162 = .ok (.ireturn, 1) := by decide +kernel
theorem dX7_term_0 : decode cX7_term 0 = .ok (.aload_n 0, 1) := by decide +kernel
theorem dX7_term_1 : decode cX7_term 1 = .ok (.invokevirtual 202, 3) := by decide +kernel
theorem dX7_term_4 : decode cX7_term 4 = .ok (.istore_n 1, 1) := by decide +kernel
theorem dX7_term_5 : decode cX7_term 5 = .ok (.aload_n 0, 1) := by decide +kernel
theorem dX7_term_6 : decode cX7_term 6 = .ok (.bipush 42, 2) := by decide +kernel
theorem dX7_term_8 : decode cX7_term 8 = .ok (.invokevirtual 195, 3) := by decide +kernel
theorem dX7_term_11 : decode cX7_term 11 = .ok (.ifCond .eq 17, 3) := by decide +kernel
theorem dX7_term_14 : decode cX7_term 14 = .ok (.aload_n 0, 1) := by decide +kernel
theorem dX7_term_15 : decode cX7_term 15 = .ok (.invokevirtual 170, 3) := by decide +kernel
theorem dX7_term_18 : decode cX7_term 18 = .ok (.iload_n 1, 1) := by decide +kernel
theorem dX7_term_19 : decode cX7_term 19 = .ok (.aload_n 0, 1) := by decide +kernel
theorem dX7_term_20 : decode cX7_term 20 = .ok (.invokevirtual 202, 3) := by decide +kernel
theorem dX7_term_23 : decode cX7_term 23 = .ok (.imul, 1) := by decide +kernel
theorem dX7_term_24 : decode cX7_term 24 = .ok (.istore_n 1, 1) := by decide +kernel
theorem dX7_term_25 : decode cX7_term 25 = .ok (.goto (-20), 3) := by decide +kernel
theorem dX7_term_28 : decode cX7_term 28 = .ok (.iload_n 1, 1) := by decide +kernel
theorem dX7_term_29 : decode cX7_term 29 = .ok (.ireturn, 1) := by decide +kernel
theorem dX7_added_0 : decode cX7_added 0 = .ok (.aload_n 0, 1) := by decide +kernel
theorem dX7_added_1 : decode cX7_added 1 = .ok (.invokevirtual 212, 3) := by decide +kernel
theorem dX7_added_4 : decode cX7_added 4 = .ok (.istore_n 1, 1) := by decide +kernel
theorem dX7_added_5 : decode cX7_added 5 = .ok (.aload_n 0, 1) := by decide +kernel
theorem dX7_added_6 : decode cX7_added 6 = .ok (.bipush 43, 2) := by decide +kernel
theorem dX7_added_8 : decode cX7_added 8 = .ok (.invokevirtual 195, 3) := by decide +kernel
theorem dX7_added_11 : decode cX7_added 11 = .ok (.ifCond .ne 12, 3) := by decide +kernel
theorem dX7_added_14 : decode cX7_added 14 = .ok (.aload_n 0, 1) := by decide +kernel
theorem dX7_added_15 : decode cX7_added 15 = .ok (.bipush 45, 2) := by decide +kernel
theorem dX7_added_17 : decode cX7_added 17 = .ok (.invokevirtual 195, 3) := by decide +kernel
theorem dX7_added_20 : decode cX7_added 20 = .ok (.ifCond .eq 46, 3) := by decide +kernel
theorem dX7_added_23 : decode cX7_added 23 = .ok (.aload_n 0, 1) := by decide +kernel
theorem dX7_added_24 : decode cX7_added 24 = .ok (.getfield 149, 3) := by decide +kernel
theorem dX7_added_27 : decode cX7_added 27 = .ok (.ldc2_w 215, 3) := by decide +kernel
theorem dX7_added_30 : decode cX7_added 30 = .ok (.lcmp, 1) := by decide +kernel
theorem dX7_added_31 : decode cX7_added 31 = .ok (.ifCond .ne 7, 3) := by decide +kernel
theorem dX7_added_34 : decode cX7_added 34 = .ok (.iconst 1, 1) := by decide +kernel
theorem dX7_added_35 : decode cX7_added 35 = .ok (.goto 4, 3) := by decide +kernel
theorem dX7_added_38 : decode cX7_added 38 = .ok (.iconst 0, 1) := by decide +kernel
theorem dX7_added_39 : decode cX7_added 39 = .ok (.istore_n 2, 1) := by decide +kernel
theorem dX7_added_40 : decode cX7_added 40 = .ok (.aload_n 0, 1) := by decide +kernel
theorem dX7_added_41 : decode cX7_added 41 = .ok (.invokevirtual 170, 3) := by decide +kernel
theorem dX7_added_44 : decode cX7_added 44 = .ok (.aload_n 0, 1) := by decide +kernel
theorem dX7_added_45 : decode cX7_added 45 = .ok (.invokevirtual 212, 3) := by decide +kernel
theorem dX7_added_48 : decode cX7_added 48 = .ok (.istore_n 3, 1) := by decide +kernel
theorem dX7_added_49 : decode cX7_added 49 = .ok (.iload_n 2, 1) := by decide +kernel
theorem dX7_added_50 : decode cX7_added 50 = .ok (.ifCond .eq 9, 3) := by decide +kernel
theorem dX7_added_53 : decode cX7_added 53 = .ok (.iload_n 1, 1) := by decide +kernel
theorem dX7_added_54 : decode cX7_added 54 = .ok (.iload_n 3, 1) := by decide +kernel
theorem dX7_added_55 : decode cX7_added 55 = .ok (.iadd, 1) := by decide +kernel
theorem dX7_added_56 : decode cX7_added 56 = .ok (.goto 6, 3) := by decide +kernel
theorem dX7_added_59 : decode cX7_added 59 = .ok (.iload_n 1, 1) := by decide +kernel
theorem dX7_added_60 : decode cX7_added 60 = .ok (.iload_n 3, 1) := by decide +kernel
theorem dX7_added_61 : decode cX7_added 61 = .ok (.isub, 1) := by decide +kernel
theorem dX7_added_62 : decode cX7_added 62 = .ok (.istore_n 1, 1) := by decide +kernel
theorem dX7_added_63 : decode cX7_added 63 = .ok (.goto (-58), 3) := by decide +kernel
theorem dX7_added_66 : decode cX7_added 66 = .ok (.iload_n 1, 1) := by decide +kernel
theorem dX7_added_67 : decode cX7_added 67 = .ok (.ireturn, 1) := by decide +kernel
theorem dX7_not_0 : decode cX7_not 0 = .ok (.aload_n 0, 1) := by decide +kernel
theorem dX7_not_1 : decode cX7_not 1 = .ok (.bipush 110, 2) := by decide +kernel
theorem dX7_not_3 : decode cX7_not 3 = .ok (.bipush 111, 2) := by decide +kernel
theorem dX7_not_5 : decode cX7_not 5 = .ok (.bipush 116, 2) := by decide +kernel
theorem dX7_not_7 : decode cX7_not 7 = .ok (.iconst 0, 1) := by decide +kernel
theorem dX7_not_8 : decode cX7_not 8 = .ok (.iconst 0, 1) := by decide +kernel
theorem dX7_not_9 : decode cX7_not 9 = .ok (.iconst 0, 1) := by decide +kernel
theorem dX7_not_10 : decode cX7_not 10 = .ok (.iconst 0, 1) := by decide +kernel
theorem dX7_not_11 : decode cX7_not 11 = .ok (.iconst 0, 1) := by decide +kernel
theorem dX7_not_12 : decode cX7_not 12 = .ok (.invokevirtual 173, 3) := by decide +kernel
theorem dX7_not_15 : decode cX7_not 15 = .ok (.ifCond .eq 37, 3) := by decide +kernel
theorem dX7_not_18 : decode cX7_not 18 = .ok (.aload_n 0, 1) := by decide +kernel
theorem dX7_not_19 : decode cX7_not 19 = .ok (.invokevirtual 198, 3) := by decide +kernel
theorem dX7_not_22 : decode cX7_not 22 = .ok (.ifCond .ne 5, 3) := by decide +kernel
theorem dX7_not_25 : decode cX7_not 25 = .ok (.iconst 0, 1) := by decide +kernel
theorem dX7_not_26 : decode cX7_not 26 = .ok (.ireturn, 1) := by decide +kernel
theorem dX7_not_27 : decode cX7_not 27 = .ok (.aload_n 0, 1) := by decide +kernel
theorem dX7_not_28 : decode cX7_not 28 = .ok (.invokevirtual 217, 3) := by decide +kernel
theorem dX7_not_31 : decode cX7_not 31 = .ok (.istore_n 1, 1) := by decide +kernel
theorem dX7_not_32 : decode cX7_not 32 = .ok (.aload_n 0, 1) := by decide +kernel
theorem dX7_not_33 : decode cX7_not 33 = .ok (.dup, 1) := by decide +kernel
theorem dX7_not_34 : decode cX7_not 34 = .ok (.getfield 164, 3) := by decide +kernel
theorem dX7_not_37 : decode cX7_not 37 = .ok (.iconst 1, 1) := by decide +kernel
theorem dX7_not_38 : decode cX7_not 38 = .ok (.isub, 1) := by decide +kernel
theorem dX7_not_39 : decode cX7_not 39 = .ok (.putfield 164, 3) := by decide +kernel
theorem dX7_not_42 : decode cX7_not 42 = .ok (.iload_n 1, 1) := by decide +kernel
theorem dX7_not_43 : decode cX7_not 43 = .ok (.ifCond .ne 7, 3) := by decide +kernel
theorem dX7_not_46 : decode cX7_not 46 = .ok (.iconst 1, 1) := by decide +kernel
theorem dX7_not_47 : decode cX7_not 47 = .ok (.goto 4, 3) := by decide +kernel
theorem dX7_not_50 : decode cX7_not 50 = .ok (.iconst 0, 1) := by decide +kernel
theorem dX7_not_51 : decode cX7_not 51 = .ok (.ireturn, 1) := by decide +kernel
theorem dX7_not_52 : decode cX7_not 52 = .ok (.aload_n 0, 1) := by decide +kernel
theorem dX7_not_53 : decode cX7_not 53 = .ok (.invokevirtual 220, 3) := by decide +kernel
theorem dX7_not_56 : decode cX7_not 56 = .ok (.istore_n 1, 1) := by decide +kernel
theorem dX7_not_57 : decode cX7_not 57 = .ok (.aload_n 0, 1) := by decide +kernel
theorem dX7_not_58 : decode cX7_not 58 = .ok (.bipush 60, 2) := by decide +kernel
theorem dX7_not_60 : decode cX7_not 60 = .ok (.invokevirtual 195, 3) := by decide +kernel
theorem dX7_not_63 : decode cX7_not 63 = .ok (.ifCond .ne 14, 3) := by decide +kernel
theorem dX7_not_66 : decode cX7_not 66 = .ok (.aload_n 0, 1) := by decide +kernel
theorem dX7_not_67 : decode cX7_not 67 = .ok (.bipush 61, 2) := by decide +kernel
theorem dX7_not_69 : decode cX7_not 69 = .ok (.invokevirtual 195, 3) := by decide +kernel
theorem dX7_not_72 : decode cX7_not 72 = .ok (.ifCond .ne 5, 3) := by decide +kernel
theorem dX7_not_75 : decode cX7_not 75 = .ok (.iload_n 1, 1) := by decide +kernel
theorem dX7_not_76 : decode cX7_not 76 = .ok (.ireturn, 1) := by decide +kernel
theorem dX7_not_77 : decode cX7_not 77 = .ok (.aload_n 0, 1) := by decide +kernel
theorem dX7_not_78 : decode cX7_not 78 = .ok (.getfield 149, 3) := by decide +kernel
theorem dX7_not_81 : decode cX7_not 81 = .ok (.ldc2_w 223, 3) := by decide +kernel
theorem dX7_not_84 : decode cX7_not 84 = .ok (.lcmp, 1) := by decide +kernel
theorem dX7_not_85 : decode cX7_not 85 = .ok (.ifCond .ne 7, 3) := by decide +kernel
theorem dX7_not_88 : decode cX7_not 88 = .ok (.iconst 1, 1) := by decide +kernel
theorem dX7_not_89 : decode cX7_not 89 = .ok (.goto 4, 3) := by decide +kernel
theorem dX7_not_92 : decode cX7_not 92 = .ok (.iconst 0, 1) := by decide +kernel
theorem dX7_not_93 : decode cX7_not 93 = .ok (.istore_n 2, 1) := by decide +kernel
theorem dX7_not_94 : decode cX7_not 94 = .ok (.aload_n 0, 1) := by decide +kernel
theorem dX7_not_95 : decode cX7_not 95 = .ok (.invokevirtual 170, 3) := by decide +kernel
theorem dX7_not_98 : decode cX7_not 98 = .ok (.aload_n 0, 1) := by decide +kernel
theorem dX7_not_99 : decode cX7_not 99 = .ok (.invokevirtual 220, 3) := by decide +kernel
theorem dX7_not_102 : decode cX7_not 102 = .ok (.istore_n 3, 1) := by decide +kernel
theorem dX7_not_103 : decode cX7_not 103 = .ok (.iload_n 2, 1) := by decide +kernel
theorem dX7_not_104 : decode cX7_not 104 = .ok (.ifCond .eq 11, 3) := by decide +kernel
theorem dX7_not_107 : decode cX7_not 107 = .ok (.iload_n 1, 1) := by decide +kernel
theorem dX7_not_108 : decode cX7_not 108 = .ok (.iload_n 3, 1) := by decide +kernel
theorem dX7_not_109 : decode cX7_not 109 = .ok (.if_icmp .ge 15, 3) := by decide +kernel
theorem dX7_not_112 : decode cX7_not 112 = .ok (.goto 8, 3) := by decide +kernel
theorem dX7_not_115 : decode cX7_not 115 = .ok (.iload_n 1, 1) := by decide +kernel
theorem dX7_not_116 : decode cX7_not 116 = .ok (.iload_n 3, 1) := by decide +kernel
theorem dX7_not_117 : decode cX7_not 117 = .ok (.if_icmp .ne 7, 3) := by decide +kernel
theorem dX7_not_120 : decode cX7_not 120 = .ok (.iconst 1, 1) := by decide +kernel
theorem dX7_not_121 : decode cX7_not 121 = .ok (.goto 4, 3) := by decide +kernel
theorem dX7_not_124 : decode cX7_not 124 = .ok (.iconst 0, 1) := by decide +kernel
theorem dX7_not_125 : decode cX7_not 125 = .ok (.ireturn, 1) := by decide +kernel
theorem dX7_both_0 : decode cX7_both 0 = .ok (.aload_n 0, 1) := by decide +kernel
theorem dX7_both_1 : decode cX7_both 1 = .ok (.invokevirtual 217, 3) := by decide +kernel
theorem dX7_both_4 : decode cX7_both 4 = .ok (.istore_n 1, 1) := by decide +kernel
theorem dX7_both_5 : decode cX7_both 5 = .ok (.aload_n 0, 1) := by decide +kernel
theorem dX7_both_6 : decode cX7_both 6 = .ok (.bipush 97, 2) := by decide +kernel
theorem dX7_both_8 : decode cX7_both 8 = .ok (.bipush 110, 2) := by decide +kernel
theorem dX7_both_10 : decode cX7_both 10 = .ok (.bipush 100, 2) := by decide +kernel
theorem dX7_both_12 : decode cX7_both 12 = .ok (.iconst 0, 1) := by decide +kernel
theorem dX7_both_13 : decode cX7_both 13 = .ok (.iconst 0, 1) := by decide +kernel
theorem dX7_both_14 : decode cX7_both 14 = .ok (.iconst 0, 1) := by decide +kernel
theorem dX7_both_15 : decode cX7_both 15 = .ok (.iconst 0, 1) := by decide +kernel
theorem dX7_both_16 : decode cX7_both 16 = .ok (.iconst 0, 1) := by decide +kernel
theorem dX7_both_17 : decode cX7_both 17 = .ok (.invokevirtual 173, 3) := by decide +kernel
theorem dX7_both_20 : decode cX7_both 20 = .ok (.ifCond .eq 29, 3) := by decide +kernel
theorem dX7_both_23 : decode cX7_both 23 = .ok (.aload_n 0, 1) := by decide +kernel
theorem dX7_both_24 : decode cX7_both 24 = .ok (.invokevirtual 170, 3) := by decide +kernel
theorem dX7_both_27 : decode cX7_both 27 = .ok (.aload_n 0, 1) := by decide +kernel
theorem dX7_both_28 : decode cX7_both 28 = .ok (.invokevirtual 217, 3) := by decide +kernel
theorem dX7_both_31 : decode cX7_both 31 = .ok (.istore_n 2, 1) := by decide +kernel
theorem dX7_both_32 : decode cX7_both 32 = .ok (.iload_n 1, 1) := by decide +kernel
theorem dX7_both_33 : decode cX7_both 33 = .ok (.ifCond .eq 11, 3) := by decide +kernel
theorem dX7_both_36 : decode cX7_both 36 = .ok (.iload_n 2, 1) := by decide +kernel
theorem dX7_both_37 : decode cX7_both 37 = .ok (.ifCond .eq 7, 3) := by decide +kernel
theorem dX7_both_40 : decode cX7_both 40 = .ok (.iconst 1, 1) := by decide +kernel
theorem dX7_both_41 : decode cX7_both 41 = .ok (.goto 4, 3) := by decide +kernel
theorem dX7_both_44 : decode cX7_both 44 = .ok (.iconst 0, 1) := by decide +kernel
theorem dX7_both_45 : decode cX7_both 45 = .ok (.istore_n 1, 1) := by decide +kernel
theorem dX7_both_46 : decode cX7_both 46 = .ok (.goto (-41), 3) := by decide +kernel
theorem dX7_both_49 : decode cX7_both 49 = .ok (.iload_n 1, 1) := by decide +kernel
theorem dX7_both_50 : decode cX7_both 50 = .ok (.ireturn, 1) := by decide +kernel
theorem dX7_either_0 : decode cX7_either 0 = .ok (.aload_n 0, 1) := by decide +kernel
theorem dX7_either_1 : decode cX7_either 1 = .ok (.invokevirtual 225, 3) := by decide +kernel
theorem dX7_either_4 : decode cX7_either 4 = .ok (.istore_n 1, 1) := by decide +kernel
theorem dX7_either_5 : decode cX7_either 5 = .ok (.aload_n 0, 1) := by decide +kernel
theorem dX7_either_6 : decode cX7_either 6 = .ok (.bipush 111, 2) := by decide +kernel
theorem dX7_either_8 : decode cX7_either 8 = .ok (.bipush 114, 2) := by decide +kernel
theorem dX7_either_10 : decode cX7_either 10 = .ok (.iconst 0, 1) := by decide +kernel
theorem dX7_either_11 : decode cX7_either 11 = .ok (.iconst 0, 1) := by decide +kernel
theorem dX7_either_12 : decode cX7_either 12 = .ok (.iconst 0, 1) := by decide +kernel
theorem dX7_either_13 : decode cX7_either 13 = .ok (.iconst 0, 1) := by decide +kernel
theorem dX7_either_14 : decode cX7_either 14 = .ok (.iconst 0, 1) := by decide +kernel
theorem dX7_either_15 : decode cX7_either 15 = .ok (.iconst 0, 1) := by decide +kernel
theorem dX7_either_16 : decode cX7_either 16 = .ok (.invokevirtual 173, 3) := by decide +kernel
theorem dX7_either_19 : decode cX7_either 19 = .ok (.ifCond .eq 29, 3) := by decide +kernel
theorem dX7_either_22 : decode cX7_either 22 = .ok (.aload_n 0, 1) := by decide +kernel
theorem dX7_either_23 : decode cX7_either 23 = .ok (.invokevirtual 170, 3) := by decide +kernel
theorem dX7_either_26 : decode cX7_either 26 = .ok (.aload_n 0, 1) := by decide +kernel
theorem dX7_either_27 : decode cX7_either 27 = .ok (.invokevirtual 225, 3) := by decide +kernel
theorem dX7_either_30 : decode cX7_either 30 = .ok (.istore_n 2, 1) := by decide +kernel
theorem dX7_either_31 : decode cX7_either 31 = .ok (.iload_n 1, 1) := by decide +kernel
theorem dX7_either_32 : decode cX7_either 32 = .ok (.ifCond .ne 7, 3) := by decide +kernel
theorem dX7_either_35 : decode cX7_either 35 = .ok (.iload_n 2, 1) := by decide +kernel
theorem dX7_either_36 : decode cX7_either 36 = .ok (.ifCond .eq 7, 3) := by decide +kernel
theorem dX7_either_39 : decode cX7_either 39 = .ok (.iconst 1, 1) := by decide +kernel
theorem dX7_either_40 : decode cX7_either 40 = .ok (.goto 4, 3) := by decide +kernel
theorem dX7_either_43 : decode cX7_either 43 = .ok (.iconst 0, 1) := by decide +kernel
theorem dX7_either_44 : decode cX7_either 44 = .ok (.istore_n 1, 1) := by decide +kernel
theorem dX7_either_45 : decode cX7_either 45 = .ok (.goto (-40), 3) := by decide +kernel
theorem dX7_either_48 : decode cX7_either 48 = .ok (.iload_n 1, 1) := by decide +kernel
theorem dX7_either_49 : decode cX7_either 49 = .ok (.ireturn, 1) := by decide +kernel
theorem dX7_part_0 : decode cX7_part 0 = .ok (.iload_n 1, 1) := by decide +kernel
theorem dX7_part_1 : decode cX7_part 1 = .ok (.ifCond .ne 7, 3) := by decide +kernel
theorem dX7_part_4 : decode cX7_part 4 = .ok (.aload_n 0, 1) := by decide +kernel
theorem dX7_part_5 : decode cX7_part 5 = .ok (.invokevirtual 167, 3) := by decide +kernel
theorem dX7_part_8 : decode cX7_part 8 = .ok (.aload_n 0, 1) := by decide +kernel
theorem dX7_part_9 : decode cX7_part 9 = .ok (.getfield 155, 3) := by decide +kernel
theorem dX7_part_12 : decode cX7_part 12 = .ok (.ifCond .ne 7, 3) := by decide +kernel
theorem dX7_part_15 : decode cX7_part 15 = .ok (.aload_n 0, 1) := by decide +kernel
theorem dX7_part_16 : decode cX7_part 16 = .ok (.invokevirtual 170, 3) := by decide +kernel
theorem dX7_part_19 : decode cX7_part 19 = .ok (.aload_n 0, 1) := by decide +kernel
theorem dX7_part_20 : decode cX7_part 20 = .ok (.getfield 155, 3) := by decide +kernel
theorem dX7_part_23 : decode cX7_part 23 = .ok (.ifCond .eq 7, 3) := by decide +kernel
theorem dX7_part_26 : decode cX7_part 26 = .ok (.iconst 0, 1) := by decide +kernel
theorem dX7_part_27 : decode cX7_part 27 = .ok (.goto 7, 3) := by decide +kernel
theorem dX7_part_30 : decode cX7_part 30 = .ok (.aload_n 0, 1) := by decide +kernel
theorem dX7_part_31 : decode cX7_part 31 = .ok (.invokevirtual 206, 3) := by decide +kernel
theorem dX7_part_34 : decode cX7_part 34 = .ok (.istore_n 2, 1) := by decide +kernel
theorem dX7_part_35 : decode cX7_part 35 = .ok (.aload_n 0, 1) := by decide +kernel
theorem dX7_part_36 : decode cX7_part 36 = .ok (.bipush 59, 2) := by decide +kernel
theorem dX7_part_38 : decode cX7_part 38 = .ok (.invokevirtual 195, 3) := by decide +kernel
theorem dX7_part_41 : decode cX7_part 41 = .ok (.ifCond .ne 7, 3) := by decide +kernel
theorem dX7_part_44 : decode cX7_part 44 = .ok (.aload_n 0, 1) := by decide +kernel
theorem dX7_part_45 : decode cX7_part 45 = .ok (.invokevirtual 167, 3) := by decide +kernel
theorem dX7_part_48 : decode cX7_part 48 = .ok (.aload_n 0, 1) := by decide +kernel
theorem dX7_part_49 : decode cX7_part 49 = .ok (.getfield 155, 3) := by decide +kernel
theorem dX7_part_52 : decode cX7_part 52 = .ok (.ifCond .ne 7, 3) := by decide +kernel
theorem dX7_part_55 : decode cX7_part 55 = .ok (.aload_n 0, 1) := by decide +kernel
theorem dX7_part_56 : decode cX7_part 56 = .ok (.invokevirtual 170, 3) := by decide +kernel
theorem dX7_part_59 : decode cX7_part 59 = .ok (.iload_n 2, 1) := by decide +kernel
theorem dX7_part_60 : decode cX7_part 60 = .ok (.ireturn, 1) := by decide +kernel
theorem dX7_read_0 : decode cX7_read 0 = .ok (.aload_n 0, 1) := by decide +kernel
theorem dX7_read_1 : decode cX7_read 1 = .ok (.sipush 160, 3) := by decide +kernel
theorem dX7_read_4 : decode cX7_read 4 = .ok (.iload_n 1, 1) := by decide +kernel
theorem dX7_read_5 : decode cX7_read 5 = .ok (.imul, 1) := by decide +kernel
theorem dX7_read_6 : decode cX7_read 6 = .ok (.putfield 126, 3) := by decide +kernel
theorem dX7_read_9 : decode cX7_read 9 = .ok (.aload_n 0, 1) := by decide +kernel
theorem dX7_read_10 : decode cX7_read 10 = .ok (.aload_n 0, 1) := by decide +kernel
theorem dX7_read_11 : decode cX7_read 11 = .ok (.getfield 17, 3) := by decide +kernel
theorem dX7_read_14 : decode cX7_read 14 = .ok (.iload_n 1, 1) := by decide +kernel
theorem dX7_read_15 : decode cX7_read 15 = .ok (.iaload, 1) := by decide +kernel
theorem dX7_read_16 : decode cX7_read 16 = .ok (.putfield 123, 3) := by decide +kernel
theorem dX7_read_19 : decode cX7_read 19 = .ok (.aload_n 0, 1) := by decide +kernel
theorem dX7_read_20 : decode cX7_read 20 = .ok (.iconst 0, 1) := by decide +kernel
theorem dX7_read_21 : decode cX7_read 21 = .ok (.putfield 129, 3) := by decide +kernel
theorem dX7_read_24 : decode cX7_read 24 = .ok (.aload_n 0, 1) := by decide +kernel
theorem dX7_read_25 : decode cX7_read 25 = .ok (.iconst 0, 1) := by decide +kernel
theorem dX7_read_26 : decode cX7_read 26 = .ok (.putfield 164, 3) := by decide +kernel
theorem dX7_read_29 : decode cX7_read 29 = .ok (.aload_n 0, 1) := by decide +kernel
theorem dX7_read_30 : decode cX7_read 30 = .ok (.iconst 0, 1) := by decide +kernel
theorem dX7_read_31 : decode cX7_read 31 = .ok (.putfield 155, 3) := by decide +kernel
theorem dX7_read_34 : decode cX7_read 34 = .ok (.aload_n 0, 1) := by decide +kernel
theorem dX7_read_35 : decode cX7_read 35 = .ok (.invokevirtual 170, 3) := by decide +kernel
theorem dX7_read_38 : decode cX7_read 38 = .ok (.aload_n 0, 1) := by decide +kernel
theorem dX7_read_39 : decode cX7_read 39 = .ok (.aload_n 0, 1) := by decide +kernel
theorem dX7_read_40 : decode cX7_read 40 = .ok (.bipush 116, 2) := by decide +kernel
theorem dX7_read_42 : decode cX7_read 42 = .ok (.bipush 117, 2) := by decide +kernel
theorem dX7_read_44 : decode cX7_read 44 = .ok (.bipush 114, 2) := by decide +kernel
theorem dX7_read_46 : decode cX7_read 46 = .ok (.bipush 110, 2) := by decide +kernel
theorem dX7_read_48 : decode cX7_read 48 = .ok (.bipush 115, 2) := by decide +kernel
theorem dX7_read_50 : decode cX7_read 50 = .ok (.iconst 0, 1) := by decide +kernel
theorem dX7_read_51 : decode cX7_read 51 = .ok (.iconst 0, 1) := by decide +kernel
theorem dX7_read_52 : decode cX7_read 52 = .ok (.iconst 0, 1) := by decide +kernel
theorem dX7_read_53 : decode cX7_read 53 = .ok (.invokevirtual 173, 3) := by decide +kernel
theorem dX7_read_56 : decode cX7_read 56 = .ok (.invokevirtual 228, 3) := by decide +kernel
theorem dX7_read_59 : decode cX7_read 59 = .ok (.istore_n 3, 1) := by decide +kernel
theorem dX7_read_60 : decode cX7_read 60 = .ok (.aload_n 0, 1) := by decide +kernel
theorem dX7_read_61 : decode cX7_read 61 = .ok (.getfield 155, 3) := by decide +kernel
theorem dX7_read_64 : decode cX7_read 64 = .ok (.ifCond .eq 7, 3) := by decide +kernel
theorem dX7_read_67 : decode cX7_read 67 = .ok (.iconst 0, 1) := by decide +kernel
theorem dX7_read_68 : decode cX7_read 68 = .ok (.goto 24, 3) := by decide +kernel
theorem dX7_read_71 : decode cX7_read 71 = .ok (.aload_n 0, 1) := by decide +kernel
theorem dX7_read_72 : decode cX7_read 72 = .ok (.aload_n 0, 1) := by decide +kernel
theorem dX7_read_73 : decode cX7_read 73 = .ok (.bipush 102, 2) := by decide +kernel
theorem dX7_read_75 : decode cX7_read 75 = .ok (.bipush 105, 2) := by decide +kernel
theorem dX7_read_77 : decode cX7_read 77 = .ok (.bipush 110, 2) := by decide +kernel
theorem dX7_read_79 : decode cX7_read 79 = .ok (.bipush 100, 2) := by decide +kernel
theorem dX7_read_81 : decode cX7_read 81 = .ok (.bipush 115, 2) := by decide +kernel
theorem dX7_read_83 : decode cX7_read 83 = .ok (.iconst 0, 1) := by decide +kernel
theorem dX7_read_84 : decode cX7_read 84 = .ok (.iconst 0, 1) := by decide +kernel
theorem dX7_read_85 : decode cX7_read 85 = .ok (.iconst 0, 1) := by decide +kernel
theorem dX7_read_86 : decode cX7_read 86 = .ok (.invokevirtual 173, 3) := by decide +kernel
theorem dX7_read_89 : decode cX7_read 89 = .ok (.invokevirtual 228, 3) := by decide +kernel
theorem dX7_read_92 : decode cX7_read 92 = .ok (.istore 4, 2) := by decide +kernel
theorem dX7_read_94 : decode cX7_read 94 = .ok (.aload_n 0, 1) := by decide +kernel
theorem dX7_read_95 : decode cX7_read 95 = .ok (.getfield 155, 3) := by decide +kernel
theorem dX7_read_98 : decode cX7_read 98 = .ok (.ifCond .eq 7, 3) := by decide +kernel
theorem dX7_read_101 : decode cX7_read 101 = .ok (.iconst 0, 1) := by decide +kernel
theorem dX7_read_102 : decode cX7_read 102 = .ok (.goto 24, 3) := by decide +kernel
theorem dX7_read_105 : decode cX7_read 105 = .ok (.aload_n 0, 1) := by decide +kernel
theorem dX7_read_106 : decode cX7_read 106 = .ok (.aload_n 0, 1) := by decide +kernel
theorem dX7_read_107 : decode cX7_read 107 = .ok (.bipush 119, 2) := by decide +kernel
theorem dX7_read_109 : decode cX7_read 109 = .ok (.bipush 97, 2) := by decide +kernel
theorem dX7_read_111 : decode cX7_read 111 = .ok (.bipush 105, 2) := by decide +kernel
theorem dX7_read_113 : decode cX7_read 113 = .ok (.bipush 116, 2) := by decide +kernel
theorem dX7_read_115 : decode cX7_read 115 = .ok (.bipush 115, 2) := by decide +kernel
theorem dX7_read_117 : decode cX7_read 117 = .ok (.iconst 0, 1) := by decide +kernel
theorem dX7_read_118 : decode cX7_read 118 = .ok (.iconst 0, 1) := by decide +kernel
theorem dX7_read_119 : decode cX7_read 119 = .ok (.iconst 0, 1) := by decide +kernel
theorem dX7_read_120 : decode cX7_read 120 = .ok (.invokevirtual 173, 3) := by decide +kernel
theorem dX7_read_123 : decode cX7_read 123 = .ok (.invokevirtual 228, 3) := by decide +kernel
theorem dX7_read_126 : decode cX7_read 126 = .ok (.istore 5, 2) := by decide +kernel
theorem dX7_read_128 : decode cX7_read 128 = .ok (.aload_n 0, 1) := by decide +kernel
theorem dX7_read_129 : decode cX7_read 129 = .ok (.getfield 155, 3) := by decide +kernel
theorem dX7_read_132 : decode cX7_read 132 = .ok (.ifCond .ne 14, 3) := by decide +kernel
theorem dX7_read_135 : decode cX7_read 135 = .ok (.aload_n 0, 1) := by decide +kernel
theorem dX7_read_136 : decode cX7_read 136 = .ok (.getfield 138, 3) := by decide +kernel
theorem dX7_read_139 : decode cX7_read 139 = .ok (.ifCond .eq 7, 3) := by decide +kernel
theorem dX7_read_142 : decode cX7_read 142 = .ok (.aload_n 0, 1) := by decide +kernel
theorem dX7_read_143 : decode cX7_read 143 = .ok (.invokevirtual 167, 3) := by decide +kernel
theorem dX7_read_146 : decode cX7_read 146 = .ok (.iload_n 2, 1) := by decide +kernel
theorem dX7_read_147 : decode cX7_read 147 = .ok (.ifCond .ne 7, 3) := by decide +kernel
theorem dX7_read_150 : decode cX7_read 150 = .ok (.iload_n 3, 1) := by decide +kernel
theorem dX7_read_151 : decode cX7_read 151 = .ok (.goto 15, 3) := by decide +kernel
theorem dX7_read_154 : decode cX7_read 154 = .ok (.iload_n 2, 1) := by decide +kernel
theorem dX7_read_155 : decode cX7_read 155 = .ok (.iconst 1, 1) := by decide +kernel
theorem dX7_read_156 : decode cX7_read 156 = .ok (.if_icmp .ne 8, 3) := by decide +kernel
theorem dX7_read_159 : decode cX7_read 159 = .ok (.iload 4, 2) := by decide +kernel
theorem dX7_read_161 : decode cX7_read 161 = .ok (.goto 5, 3) := by decide +kernel
theorem dX7_read_164 : decode cX7_read 164 = .ok (.iload 5, 2) := by decide +kernel
theorem dX7_read_166 : decode cX7_read 166 = .ok (.ireturn, 1) := by decide +kernel
theorem dX7_text_0 : decode cX7_text 0 = .ok (.aload_n 0, 1) := by decide +kernel
theorem dX7_text_1 : decode cX7_text 1 = .ok (.getfield 67, 3) := by decide +kernel
theorem dX7_text_4 : decode cX7_text 4 = .ok (.bipush 6, 2) := by decide +kernel
theorem dX7_text_6 : decode cX7_text 6 = .ok (.if_icmp .ne 6, 3) := by decide +kernel
theorem dX7_text_9 : decode cX7_text 9 = .ok (.bipush (-4), 2) := by decide +kernel
theorem dX7_text_11 : decode cX7_text 11 = .ok (.ireturn, 1) := by decide +kernel
theorem dX7_text_12 : decode cX7_text 12 = .ok (.iconst 0, 1) := by decide +kernel
theorem dX7_text_13 : decode cX7_text 13 = .ok (.istore_n 1, 1) := by decide +kernel
theorem dX7_text_14 : decode cX7_text 14 = .ok (.iload_n 1, 1) := by decide +kernel
theorem dX7_text_15 : decode cX7_text 15 = .ok (.aload_n 0, 1) := by decide +kernel
theorem dX7_text_16 : decode cX7_text 16 = .ok (.getfield 120, 3) := by decide +kernel
theorem dX7_text_19 : decode cX7_text 19 = .ok (.if_icmp .ge 30, 3) := by decide +kernel
theorem dX7_text_22 : decode cX7_text 22 = .ok (.aload_n 0, 1) := by decide +kernel
theorem dX7_text_23 : decode cX7_text 23 = .ok (.getfield 13, 3) := by decide +kernel
theorem dX7_text_26 : decode cX7_text 26 = .ok (.sipush 160, 3) := by decide +kernel
theorem dX7_text_29 : decode cX7_text 29 = .ok (.aload_n 0, 1) := by decide +kernel
theorem dX7_text_30 : decode cX7_text 30 = .ok (.getfield 67, 3) := by decide +kernel
theorem dX7_text_33 : decode cX7_text 33 = .ok (.imul, 1) := by decide +kernel
theorem dX7_text_34 : decode cX7_text 34 = .ok (.iload_n 1, 1) := by decide +kernel
theorem dX7_text_35 : decode cX7_text 35 = .ok (.iadd, 1) := by decide +kernel
theorem dX7_text_36 : decode cX7_text 36 = .ok (.aload_n 0, 1) := by decide +kernel
theorem dX7_text_37 : decode cX7_text 37 = .ok (.getfield 20, 3) := by decide +kernel
theorem dX7_text_40 : decode cX7_text 40 = .ok (.iload_n 1, 1) := by decide +kernel
theorem dX7_text_41 : decode cX7_text 41 = .ok (.iaload, 1) := by decide +kernel
theorem dX7_text_42 : decode cX7_text 42 = .ok (.iastore, 1) := by decide +kernel
theorem dX7_text_43 : decode cX7_text 43 = .ok (.iinc 1 1, 3) := by decide +kernel
theorem dX7_text_46 : decode cX7_text 46 = .ok (.goto (-32), 3) := by decide +kernel
theorem dX7_text_49 : decode cX7_text 49 = .ok (.aload_n 0, 1) := by decide +kernel
theorem dX7_text_50 : decode cX7_text 50 = .ok (.getfield 17, 3) := by decide +kernel
theorem dX7_text_53 : decode cX7_text 53 = .ok (.aload_n 0, 1) := by decide +kernel
theorem dX7_text_54 : decode cX7_text 54 = .ok (.getfield 67, 3) := by decide +kernel
theorem dX7_text_57 : decode cX7_text 57 = .ok (.aload_n 0, 1) := by decide +kernel
theorem dX7_text_58 : decode cX7_text 58 = .ok (.getfield 120, 3) := by decide +kernel
theorem dX7_text_61 : decode cX7_text 61 = .ok (.iastore, 1) := by decide +kernel
theorem dX7_text_62 : decode cX7_text 62 = .ok (.aload_n 0, 1) := by decide +kernel
theorem dX7_text_63 : decode cX7_text 63 = .ok (.iconst 0, 1) := by decide +kernel
theorem dX7_text_64 : decode cX7_text 64 = .ok (.putfield 120, 3) := by decide +kernel
theorem dX7_text_67 : decode cX7_text 67 = .ok (.aload_n 0, 1) := by decide +kernel
theorem dX7_text_68 : decode cX7_text 68 = .ok (.aload_n 0, 1) := by decide +kernel
theorem dX7_text_69 : decode cX7_text 69 = .ok (.getfield 67, 3) := by decide +kernel
theorem dX7_text_72 : decode cX7_text 72 = .ok (.iconst 0, 1) := by decide +kernel
theorem dX7_text_73 : decode cX7_text 73 = .ok (.invokevirtual 232, 3) := by decide +kernel
theorem dX7_text_76 : decode cX7_text 76 = .ok (.istore_n 1, 1) := by decide +kernel
theorem dX7_text_77 : decode cX7_text 77 = .ok (.aload_n 0, 1) := by decide +kernel
theorem dX7_text_78 : decode cX7_text 78 = .ok (.getfield 155, 3) := by decide +kernel
theorem dX7_text_81 : decode cX7_text 81 = .ok (.ifCond .eq 11, 3) := by decide +kernel
theorem dX7_text_84 : decode cX7_text 84 = .ok (.bipush (-100), 2) := by decide +kernel
theorem dX7_text_86 : decode cX7_text 86 = .ok (.aload_n 0, 1) := by decide +kernel
theorem dX7_text_87 : decode cX7_text 87 = .ok (.getfield 158, 3) := by decide +kernel
theorem dX7_text_90 : decode cX7_text 90 = .ok (.isub, 1) := by decide +kernel
theorem dX7_text_91 : decode cX7_text 91 = .ok (.ireturn, 1) := by decide +kernel
theorem dX7_text_92 : decode cX7_text 92 = .ok (.aload_n 0, 1) := by decide +kernel
theorem dX7_text_93 : decode cX7_text 93 = .ok (.dup, 1) := by decide +kernel
theorem dX7_text_94 : decode cX7_text 94 = .ok (.getfield 67, 3) := by decide +kernel
theorem dX7_text_97 : decode cX7_text 97 = .ok (.iconst 1, 1) := by decide +kernel
theorem dX7_text_98 : decode cX7_text 98 = .ok (.iadd, 1) := by decide +kernel
theorem dX7_text_99 : decode cX7_text 99 = .ok (.putfield 67, 3) := by decide +kernel
theorem dX7_text_102 : decode cX7_text 102 = .ok (.aload_n 0, 1) := by decide +kernel
theorem dX7_text_103 : decode cX7_text 103 = .ok (.getfield 67, 3) := by decide +kernel
theorem dX7_text_106 : decode cX7_text 106 = .ok (.iconst 1, 1) := by decide +kernel
theorem dX7_text_107 : decode cX7_text 107 = .ok (.isub, 1) := by decide +kernel
theorem dX7_text_108 : decode cX7_text 108 = .ok (.ireturn, 1) := by decide +kernel
theorem dX7_force_0 : decode cX7_force 0 = .ok (.iload_n 1, 1) := by decide +kernel
theorem dX7_force_1 : decode cX7_force 1 = .ok (.i2l, 1) := by decide +kernel
theorem dX7_force_2 : decode cX7_force 2 = .ok (.lconst 0, 1) := by decide +kernel
theorem dX7_force_3 : decode cX7_force 3 = .ok (.aload_n 0, 1) := by decide +kernel
theorem dX7_force_4 : decode cX7_force 4 = .ok (.getfield 67, 3) := by decide +kernel
theorem dX7_force_7 : decode cX7_force 7 = .ok (.iconst 1, 1) := by decide +kernel
theorem dX7_force_8 : decode cX7_force 8 = .ok (.isub, 1) := by decide +kernel
theorem dX7_force_9 : decode cX7_force 9 = .ok (.i2l, 1) := by decide +kernel
theorem dX7_force_10 : decode cX7_force 10 = .ok (.invokestatic 73, 3) := by decide +kernel
theorem dX7_force_13 : decode cX7_force 13 = .ok (.ifCond .ne 6, 3) := by decide +kernel
theorem dX7_force_16 : decode cX7_force 16 = .ok (.bipush (-2), 2) := by decide +kernel
theorem dX7_force_18 : decode cX7_force 18 = .ok (.ireturn, 1) := by decide +kernel
theorem dX7_force_19 : decode cX7_force 19 = .ok (.aload_n 0, 1) := by decide +kernel
theorem dX7_force_20 : decode cX7_force 20 = .ok (.getfield 235, 3) := by decide +kernel
theorem dX7_force_23 : decode cX7_force 23 = .ok (.istore_n 2, 1) := by decide +kernel
theorem dX7_force_24 : decode cX7_force 24 = .ok (.aload_n 0, 1) := by decide +kernel
theorem dX7_force_25 : decode cX7_force 25 = .ok (.iload_n 1, 1) := by decide +kernel
theorem dX7_force_26 : decode cX7_force 26 = .ok (.putfield 235, 3) := by decide +kernel
theorem dX7_force_29 : decode cX7_force 29 = .ok (.iload_n 2, 1) := by decide +kernel
theorem dX7_force_30 : decode cX7_force 30 = .ok (.ireturn, 1) := by decide +kernel
theorem dX7_says_0 : decode cX7_says 0 = .ok (.aload_n 0, 1) := by decide +kernel
theorem dX7_says_1 : decode cX7_says 1 = .ok (.iload_n 3, 1) := by decide +kernel
theorem dX7_says_2 : decode cX7_says 2 = .ok (.putfield 177, 3) := by decide +kernel
theorem dX7_says_5 : decode cX7_says 5 = .ok (.aload_n 0, 1) := by decide +kernel
theorem dX7_says_6 : decode cX7_says 6 = .ok (.iload 4, 2) := by decide +kernel
theorem dX7_says_8 : decode cX7_says 8 = .ok (.putfield 180, 3) := by decide +kernel
theorem dX7_says_11 : decode cX7_says 11 = .ok (.aload_n 0, 1) := by decide +kernel
theorem dX7_says_12 : decode cX7_says 12 = .ok (.aload_n 0, 1) := by decide +kernel
theorem dX7_says_13 : decode cX7_says 13 = .ok (.getfield 23, 3) := by decide +kernel
theorem dX7_says_16 : decode cX7_says 16 = .ok (.iconst 0, 1) := by decide +kernel
theorem dX7_says_17 : decode cX7_says 17 = .ok (.iaload, 1) := by decide +kernel
theorem dX7_says_18 : decode cX7_says 18 = .ok (.putfield 183, 3) := by decide +kernel
theorem dX7_says_21 : decode cX7_says 21 = .ok (.aload_n 0, 1) := by decide +kernel
theorem dX7_says_22 : decode cX7_says 22 = .ok (.aload_n 0, 1) := by decide +kernel
theorem dX7_says_23 : decode cX7_says 23 = .ok (.iload_n 2, 1) := by decide +kernel
theorem dX7_says_24 : decode cX7_says 24 = .ok (.iconst 0, 1) := by decide +kernel
theorem dX7_says_25 : decode cX7_says 25 = .ok (.invokevirtual 87, 3) := by decide +kernel
theorem dX7_says_28 : decode cX7_says 28 = .ok (.putfield 186, 3) := by decide +kernel
theorem dX7_says_31 : decode cX7_says 31 = .ok (.aload_n 0, 1) := by decide +kernel
theorem dX7_says_32 : decode cX7_says 32 = .ok (.aload_n 0, 1) := by decide +kernel
theorem dX7_says_33 : decode cX7_says 33 = .ok (.iload_n 2, 1) := by decide +kernel
theorem dX7_says_34 : decode cX7_says 34 = .ok (.iconst 1, 1) := by decide +kernel
theorem dX7_says_35 : decode cX7_says 35 = .ok (.invokevirtual 87, 3) := by decide +kernel
theorem dX7_says_38 : decode cX7_says 38 = .ok (.bipush 10, 2) := by decide +kernel
theorem dX7_says_40 : decode cX7_says 40 = .ok (.idiv, 1) := by decide +kernel
theorem dX7_says_41 : decode cX7_says 41 = .ok (.putfield 189, 3) := by decide +kernel
theorem dX7_says_44 : decode cX7_says 44 = .ok (.aload_n 0, 1) := by decide +kernel
theorem dX7_says_45 : decode cX7_says 45 = .ok (.iload 5, 2) := by decide +kernel
theorem dX7_says_47 : decode cX7_says 47 = .ok (.putfield 192, 3) := by decide +kernel
theorem dX7_says_50 : decode cX7_says 50 = .ok (.aload_n 0, 1) := by decide +kernel
theorem dX7_says_51 : decode cX7_says 51 = .ok (.aload_n 0, 1) := by decide +kernel
theorem dX7_says_52 : decode cX7_says 52 = .ok (.getfield 235, 3) := by decide +kernel
theorem dX7_says_55 : decode cX7_says 55 = .ok (.iload_n 1, 1) := by decide +kernel
theorem dX7_says_56 : decode cX7_says 56 = .ok (.invokevirtual 232, 3) := by decide +kernel
theorem dX7_says_59 : decode cX7_says 59 = .ok (.iload_n 1, 1) := by decide +kernel
theorem dX7_says_60 : decode cX7_says 60 = .ok (.iconst 1, 1) := by decide +kernel
theorem dX7_says_61 : decode cX7_says 61 = .ok (.if_icmp .ne 7, 3) := by decide +kernel
theorem dX7_says_64 : decode cX7_says 64 = .ok (.iconst 1, 1) := by decide +kernel
theorem dX7_says_65 : decode cX7_says 65 = .ok (.goto 4, 3) := by decide +kernel
theorem dX7_says_68 : decode cX7_says 68 = .ok (.iconst 0, 1) := by decide +kernel
theorem dX7_says_69 : decode cX7_says 69 = .ok (.iload_n 1, 1) := by decide +kernel
theorem dX7_says_70 : decode cX7_says 70 = .ok (.ifCond .ne 8, 3) := by decide +kernel
theorem dX7_says_73 : decode cX7_says 73 = .ok (.bipush 50, 2) := by decide +kernel
theorem dX7_says_75 : decode cX7_says 75 = .ok (.goto 15, 3) := by decide +kernel
theorem dX7_says_78 : decode cX7_says 78 = .ok (.iload_n 1, 1) := by decide +kernel
theorem dX7_says_79 : decode cX7_says 79 = .ok (.iconst 1, 1) := by decide +kernel
theorem dX7_says_80 : decode cX7_says 80 = .ok (.if_icmp .ne 8, 3) := by decide +kernel
theorem dX7_says_83 : decode cX7_says 83 = .ok (.bipush 99, 2) := by decide +kernel
theorem dX7_says_85 : decode cX7_says 85 = .ok (.goto 5, 3) := by decide +kernel
theorem dX7_says_88 : decode cX7_says 88 = .ok (.bipush 9, 2) := by decide +kernel
theorem dX7_says_90 : decode cX7_says 90 = .ok (.invokestatic 238, 3) := by decide +kernel
theorem dX7_says_93 : decode cX7_says 93 = .ok (.ireturn, 1) := by decide +kernel
theorem dX7_needsOf_0 : decode cX7_needsOf 0 = .ok (.aload_n 0, 1) := by decide +kernel
theorem dX7_needsOf_1 : decode cX7_needsOf 1 = .ok (.getfield 26, 3) := by decide +kernel
theorem dX7_needsOf_4 : decode cX7_needsOf 4 = .ok (.iload_n 1, 1) := by decide +kernel
theorem dX7_needsOf_5 : decode cX7_needsOf 5 = .ok (.iaload, 1) := by decide +kernel
theorem dX7_needsOf_6 : decode cX7_needsOf 6 = .ok (.istore_n 3, 1) := by decide +kernel
theorem dX7_needsOf_7 : decode cX7_needsOf 7 = .ok (.iload_n 3, 1) := by decide +kernel
theorem dX7_needsOf_8 : decode cX7_needsOf 8 = .ok (.iconst 1, 1) := by decide +kernel
theorem dX7_needsOf_9 : decode cX7_needsOf 9 = .ok (.if_icmp .ne 14, 3) := by decide +kernel
theorem dX7_needsOf_12 : decode cX7_needsOf 12 = .ok (.iload_n 2, 1) := by decide +kernel
theorem dX7_needsOf_13 : decode cX7_needsOf 13 = .ok (.aload_n 0, 1) := by decide +kernel
theorem dX7_needsOf_14 : decode cX7_needsOf 14 = .ok (.getfield 23, 3) := by decide +kernel
theorem dX7_needsOf_17 : decode cX7_needsOf 17 = .ok (.iconst 0, 1) := by decide +kernel
theorem dX7_needsOf_18 : decode cX7_needsOf 18 = .ok (.iaload, 1) := by decide +kernel
theorem dX7_needsOf_19 : decode cX7_needsOf 19 = .ok (.iadd, 1) := by decide +kernel
theorem dX7_needsOf_20 : decode cX7_needsOf 20 = .ok (.goto 51, 3) := by decide +kernel
theorem dX7_needsOf_23 : decode cX7_needsOf 23 = .ok (.iload_n 3, 1) := by decide +kernel
theorem dX7_needsOf_24 : decode cX7_needsOf 24 = .ok (.iconst 3, 1) := by decide +kernel
theorem dX7_needsOf_25 : decode cX7_needsOf 25 = .ok (.if_icmp .ne 16, 3) := by decide +kernel
theorem dX7_needsOf_28 : decode cX7_needsOf 28 = .ok (.iconst 2, 1) := by decide +kernel
theorem dX7_needsOf_29 : decode cX7_needsOf 29 = .ok (.iload_n 2, 1) := by decide +kernel
theorem dX7_needsOf_30 : decode cX7_needsOf 30 = .ok (.aload_n 0, 1) := by decide +kernel
theorem dX7_needsOf_31 : decode cX7_needsOf 31 = .ok (.getfield 23, 3) := by decide +kernel
theorem dX7_needsOf_34 : decode cX7_needsOf 34 = .ok (.iconst 0, 1) := by decide +kernel
theorem dX7_needsOf_35 : decode cX7_needsOf 35 = .ok (.iaload, 1) := by decide +kernel
theorem dX7_needsOf_36 : decode cX7_needsOf 36 = .ok (.iadd, 1) := by decide +kernel
theorem dX7_needsOf_37 : decode cX7_needsOf 37 = .ok (.imul, 1) := by decide +kernel
theorem dX7_needsOf_38 : decode cX7_needsOf 38 = .ok (.goto 33, 3) := by decide +kernel
theorem dX7_needsOf_41 : decode cX7_needsOf 41 = .ok (.iload_n 3, 1) := by decide +kernel
theorem dX7_needsOf_42 : decode cX7_needsOf 42 = .ok (.iconst 2, 1) := by decide +kernel
theorem dX7_needsOf_43 : decode cX7_needsOf 43 = .ok (.if_icmp .ne 9, 3) := by decide +kernel
theorem dX7_needsOf_46 : decode cX7_needsOf 46 = .ok (.iload_n 2, 1) := by decide +kernel
theorem dX7_needsOf_47 : decode cX7_needsOf 47 = .ok (.iconst 2, 1) := by decide +kernel
theorem dX7_needsOf_48 : decode cX7_needsOf 48 = .ok (.idiv, 1) := by decide +kernel
theorem dX7_needsOf_49 : decode cX7_needsOf 49 = .ok (.goto 22, 3) := by decide +kernel
theorem dX7_needsOf_52 : decode cX7_needsOf 52 = .ok (.iload_n 3, 1) := by decide +kernel
theorem dX7_needsOf_53 : decode cX7_needsOf 53 = .ok (.iconst 4, 1) := by decide +kernel
theorem dX7_needsOf_54 : decode cX7_needsOf 54 = .ok (.if_icmp .ne 16, 3) := by decide +kernel
theorem dX7_needsOf_57 : decode cX7_needsOf 57 = .ok (.iload_n 2, 1) := by decide +kernel
theorem dX7_needsOf_58 : decode cX7_needsOf 58 = .ok (.iconst 2, 1) := by decide +kernel
theorem dX7_needsOf_59 : decode cX7_needsOf 59 = .ok (.idiv, 1) := by decide +kernel
theorem dX7_needsOf_60 : decode cX7_needsOf 60 = .ok (.aload_n 0, 1) := by decide +kernel
theorem dX7_needsOf_61 : decode cX7_needsOf 61 = .ok (.iload_n 1, 1) := by decide +kernel
theorem dX7_needsOf_62 : decode cX7_needsOf 62 = .ok (.iconst 0, 1) := by decide +kernel
theorem dX7_needsOf_63 : decode cX7_needsOf 63 = .ok (.invokevirtual 87, 3) := by decide +kernel
theorem dX7_needsOf_66 : decode cX7_needsOf 66 = .ok (.iadd, 1) := by decide +kernel
theorem dX7_needsOf_67 : decode cX7_needsOf 67 = .ok (.goto 4, 3) := by decide +kernel
theorem dX7_needsOf_70 : decode cX7_needsOf 70 = .ok (.iload_n 2, 1) := by decide +kernel
theorem dX7_needsOf_71 : decode cX7_needsOf 71 = .ok (.istore 4, 2) := by decide +kernel
theorem dX7_needsOf_73 : decode cX7_needsOf 73 = .ok (.iload 4, 2) := by decide +kernel
theorem dX7_needsOf_75 : decode cX7_needsOf 75 = .ok (.iconst 1, 1) := by decide +kernel
theorem dX7_needsOf_76 : decode cX7_needsOf 76 = .ok (.if_icmp .ge 7, 3) := by decide +kernel
theorem dX7_needsOf_79 : decode cX7_needsOf 79 = .ok (.iconst 1, 1) := by decide +kernel
theorem dX7_needsOf_80 : decode cX7_needsOf 80 = .ok (.goto 5, 3) := by decide +kernel
theorem dX7_needsOf_83 : decode cX7_needsOf 83 = .ok (.iload 4, 2) := by decide +kernel
theorem dX7_needsOf_85 : decode cX7_needsOf 85 = .ok (.ireturn, 1) := by decide +kernel
theorem dX7_beginsNight_0 : decode cX7_beginsNight 0 = .ok (.aload_n 0, 1) := by decide +kernel
theorem dX7_beginsNight_1 : decode cX7_beginsNight 1 = .ok (.aload_n 0, 1) := by decide +kernel
theorem dX7_beginsNight_2 : decode cX7_beginsNight 2 = .ok (.getfield 23, 3) := by decide +kernel
theorem dX7_beginsNight_5 : decode cX7_beginsNight 5 = .ok (.iconst 5, 1) := by decide +kernel
theorem dX7_beginsNight_6 : decode cX7_beginsNight 6 = .ok (.iaload, 1) := by decide +kernel
theorem dX7_beginsNight_7 : decode cX7_beginsNight 7 = .ok (.putfield 242, 3) := by decide +kernel
theorem dX7_beginsNight_10 : decode cX7_beginsNight 10 = .ok (.aload_n 0, 1) := by decide +kernel
theorem dX7_beginsNight_11 : decode cX7_beginsNight 11 = .ok (.aload_n 0, 1) := by decide +kernel
theorem dX7_beginsNight_12 : decode cX7_beginsNight 12 = .ok (.getfield 23, 3) := by decide +kernel
theorem dX7_beginsNight_15 : decode cX7_beginsNight 15 = .ok (.bipush 6, 2) := by decide +kernel
theorem dX7_beginsNight_17 : decode cX7_beginsNight 17 = .ok (.iaload, 1) := by decide +kernel
theorem dX7_beginsNight_18 : decode cX7_beginsNight 18 = .ok (.putfield 245, 3) := by decide +kernel
theorem dX7_beginsNight_21 : decode cX7_beginsNight 21 = .ok (.aload_n 0, 1) := by decide +kernel
theorem dX7_beginsNight_22 : decode cX7_beginsNight 22 = .ok (.iconst 0, 1) := by decide +kernel
theorem dX7_beginsNight_23 : decode cX7_beginsNight 23 = .ok (.putfield 248, 3) := by decide +kernel
theorem dX7_beginsNight_26 : decode cX7_beginsNight 26 = .ok (.aload_n 0, 1) := by decide +kernel
theorem dX7_beginsNight_27 : decode cX7_beginsNight 27 = .ok (.iconst 0, 1) := by decide +kernel
theorem dX7_beginsNight_28 : decode cX7_beginsNight 28 = .ok (.putfield 251, 3) := by decide +kernel
theorem dX7_beginsNight_31 : decode cX7_beginsNight 31 = .ok (.aload_n 0, 1) := by decide +kernel
theorem dX7_beginsNight_32 : decode cX7_beginsNight 32 = .ok (.iconst 0, 1) := by decide +kernel
theorem dX7_beginsNight_33 : decode cX7_beginsNight 33 = .ok (.putfield 254, 3) := by decide +kernel
theorem dX7_beginsNight_36 : decode cX7_beginsNight 36 = .ok (.iconst 0, 1) := by decide +kernel
theorem dX7_beginsNight_37 : decode cX7_beginsNight 37 = .ok (.istore_n 1, 1) := by decide +kernel
theorem dX7_beginsNight_38 : decode cX7_beginsNight 38 = .ok (.iload_n 1, 1) := by decide +kernel
theorem dX7_beginsNight_39 : decode cX7_beginsNight 39 = .ok (.bipush 7, 2) := by decide +kernel
theorem dX7_beginsNight_41 : decode cX7_beginsNight 41 = .ok (.if_icmp .ge 23, 3) := by decide +kernel
theorem dX7_beginsNight_44 : decode cX7_beginsNight 44 = .ok (.aload_n 0, 1) := by decide +kernel
theorem dX7_beginsNight_45 : decode cX7_beginsNight 45 = .ok (.getfield 32, 3) := by decide +kernel
theorem dX7_beginsNight_48 : decode cX7_beginsNight 48 = .ok (.iload_n 1, 1) := by decide +kernel
theorem dX7_beginsNight_49 : decode cX7_beginsNight 49 = .ok (.iconst (-1), 1) := by decide +kernel
theorem dX7_beginsNight_50 : decode cX7_beginsNight 50 = .ok (.iastore, 1) := by decide +kernel
theorem dX7_beginsNight_51 : decode cX7_beginsNight 51 = .ok (.aload_n 0, 1) := by decide +kernel
theorem dX7_beginsNight_52 : decode cX7_beginsNight 52 = .ok (.getfield 35, 3) := by decide +kernel
theorem dX7_beginsNight_55 : decode cX7_beginsNight 55 = .ok (.iload_n 1, 1) := by decide +kernel
theorem dX7_beginsNight_56 : decode cX7_beginsNight 56 = .ok (.iconst (-1), 1) := by decide +kernel
theorem dX7_beginsNight_57 : decode cX7_beginsNight 57 = .ok (.iastore, 1) := by decide +kernel
theorem dX7_beginsNight_58 : decode cX7_beginsNight 58 = .ok (.iinc 1 1, 3) := by decide +kernel
theorem dX7_beginsNight_61 : decode cX7_beginsNight 61 = .ok (.goto (-23), 3) := by decide +kernel
theorem dX7_beginsNight_64 : decode cX7_beginsNight 64 = .ok (.return_, 1) := by decide +kernel
theorem dX7_firstFrom_0 : decode cX7_firstFrom 0 = .ok (.iconst 0, 1) := by decide +kernel
theorem dX7_firstFrom_1 : decode cX7_firstFrom 1 = .ok (.istore 4, 2) := by decide +kernel
theorem dX7_firstFrom_3 : decode cX7_firstFrom 3 = .ok (.iload_n 2, 1) := by decide +kernel
theorem dX7_firstFrom_4 : decode cX7_firstFrom 4 = .ok (.istore 5, 2) := by decide +kernel
theorem dX7_firstFrom_6 : decode cX7_firstFrom 6 = .ok (.iload 5, 2) := by decide +kernel
theorem dX7_firstFrom_8 : decode cX7_firstFrom 8 = .ok (.sipush 200, 3) := by decide +kernel
theorem dX7_firstFrom_11 : decode cX7_firstFrom 11 = .ok (.if_icmp .ge 87, 3) := by decide +kernel
theorem dX7_firstFrom_14 : decode cX7_firstFrom 14 = .ok (.iload 5, 2) := by decide +kernel
theorem dX7_firstFrom_16 : decode cX7_firstFrom 16 = .ok (.iload 4, 2) := by decide +kernel
theorem dX7_firstFrom_18 : decode cX7_firstFrom 18 = .ok (.isub, 1) := by decide +kernel
theorem dX7_firstFrom_19 : decode cX7_firstFrom 19 = .ok (.iload_n 2, 1) := by decide +kernel
theorem dX7_firstFrom_20 : decode cX7_firstFrom 20 = .ok (.aload_n 0, 1) := by decide +kernel
theorem dX7_firstFrom_21 : decode cX7_firstFrom 21 = .ok (.getfield 23, 3) := by decide +kernel
theorem dX7_firstFrom_24 : decode cX7_firstFrom 24 = .ok (.bipush 7, 2) := by decide +kernel
theorem dX7_firstFrom_26 : decode cX7_firstFrom 26 = .ok (.iaload, 1) := by decide +kernel
end
section
theorem dX7_firstFrom_27 : decode cX7_firstFrom 27 = .ok (.iadd, 1) := by decide +kernel
theorem dX7_firstFrom_28 : decode cX7_firstFrom 28 = .ok (.if_icmp .gt 70, 3) := by decide +kernel
theorem dX7_firstFrom_31 : decode cX7_firstFrom 31 = .ok (.aload_n 0, 1) := by decide +kernel
theorem dX7_firstFrom_32 : decode cX7_firstFrom 32 = .ok (.iload_n 1, 1) := by decide +kernel
theorem dX7_firstFrom_33 : decode cX7_firstFrom 33 = .ok (.iload 5, 2) := by decide +kernel
theorem dX7_firstFrom_35 : decode cX7_firstFrom 35 = .ok (.invokevirtual 111, 3) := by decide +kernel
theorem dX7_firstFrom_38 : decode cX7_firstFrom 38 = .ok (.ifCond .eq 20, 3) := by decide +kernel
theorem dX7_firstFrom_41 : decode cX7_firstFrom 41 = .ok (.aload_n 0, 1) := by decide +kernel
theorem dX7_firstFrom_42 : decode cX7_firstFrom 42 = .ok (.iload_n 1, 1) := by decide +kernel
theorem dX7_firstFrom_43 : decode cX7_firstFrom 43 = .ok (.iload 5, 2) := by decide +kernel
theorem dX7_firstFrom_45 : decode cX7_firstFrom 45 = .ok (.invokevirtual 115, 3) := by decide +kernel
theorem dX7_firstFrom_48 : decode cX7_firstFrom 48 = .ok (.ifCond .ne 10, 3) := by decide +kernel
theorem dX7_firstFrom_51 : decode cX7_firstFrom 51 = .ok (.iload 4, 2) := by decide +kernel
theorem dX7_firstFrom_53 : decode cX7_firstFrom 53 = .ok (.iconst 1, 1) := by decide +kernel
theorem dX7_firstFrom_54 : decode cX7_firstFrom 54 = .ok (.iadd, 1) := by decide +kernel
theorem dX7_firstFrom_55 : decode cX7_firstFrom 55 = .ok (.goto 4, 3) := by decide +kernel
theorem dX7_firstFrom_58 : decode cX7_firstFrom 58 = .ok (.iconst 0, 1) := by decide +kernel
theorem dX7_firstFrom_59 : decode cX7_firstFrom 59 = .ok (.istore 4, 2) := by decide +kernel
theorem dX7_firstFrom_61 : decode cX7_firstFrom 61 = .ok (.iload 4, 2) := by decide +kernel
theorem dX7_firstFrom_63 : decode cX7_firstFrom 63 = .ok (.iload_n 3, 1) := by decide +kernel
theorem dX7_firstFrom_64 : decode cX7_firstFrom 64 = .ok (.if_icmp .ne 28, 3) := by decide +kernel
theorem dX7_firstFrom_67 : decode cX7_firstFrom 67 = .ok (.iload 5, 2) := by decide +kernel
theorem dX7_firstFrom_69 : decode cX7_firstFrom 69 = .ok (.iload_n 3, 1) := by decide +kernel
theorem dX7_firstFrom_70 : decode cX7_firstFrom 70 = .ok (.isub, 1) := by decide +kernel
theorem dX7_firstFrom_71 : decode cX7_firstFrom 71 = .ok (.iconst 1, 1) := by decide +kernel
theorem dX7_firstFrom_72 : decode cX7_firstFrom 72 = .ok (.iadd, 1) := by decide +kernel
theorem dX7_firstFrom_73 : decode cX7_firstFrom 73 = .ok (.iload_n 2, 1) := by decide +kernel
theorem dX7_firstFrom_74 : decode cX7_firstFrom 74 = .ok (.aload_n 0, 1) := by decide +kernel
theorem dX7_firstFrom_75 : decode cX7_firstFrom 75 = .ok (.getfield 23, 3) := by decide +kernel
theorem dX7_firstFrom_78 : decode cX7_firstFrom 78 = .ok (.bipush 7, 2) := by decide +kernel
theorem dX7_firstFrom_80 : decode cX7_firstFrom 80 = .ok (.iaload, 1) := by decide +kernel
theorem dX7_firstFrom_81 : decode cX7_firstFrom 81 = .ok (.iadd, 1) := by decide +kernel
theorem dX7_firstFrom_82 : decode cX7_firstFrom 82 = .ok (.if_icmp .gt 10, 3) := by decide +kernel
theorem dX7_firstFrom_85 : decode cX7_firstFrom 85 = .ok (.iload 5, 2) := by decide +kernel
theorem dX7_firstFrom_87 : decode cX7_firstFrom 87 = .ok (.iload_n 3, 1) := by decide +kernel
theorem dX7_firstFrom_88 : decode cX7_firstFrom 88 = .ok (.isub, 1) := by decide +kernel
theorem dX7_firstFrom_89 : decode cX7_firstFrom 89 = .ok (.iconst 1, 1) := by decide +kernel
theorem dX7_firstFrom_90 : decode cX7_firstFrom 90 = .ok (.iadd, 1) := by decide +kernel
theorem dX7_firstFrom_91 : decode cX7_firstFrom 91 = .ok (.ireturn, 1) := by decide +kernel
theorem dX7_firstFrom_92 : decode cX7_firstFrom 92 = .ok (.iinc 5 1, 3) := by decide +kernel
theorem dX7_firstFrom_95 : decode cX7_firstFrom 95 = .ok (.goto (-89), 3) := by decide +kernel
theorem dX7_firstFrom_98 : decode cX7_firstFrom 98 = .ok (.iconst (-1), 1) := by decide +kernel
theorem dX7_firstFrom_99 : decode cX7_firstFrom 99 = .ok (.ireturn, 1) := by decide +kernel
theorem dX7_looksFor_0 : decode cX7_looksFor 0 = .ok (.aload_n 0, 1) := by decide +kernel
theorem dX7_looksFor_1 : decode cX7_looksFor 1 = .ok (.getfield 242, 3) := by decide +kernel
theorem dX7_looksFor_4 : decode cX7_looksFor 4 = .ok (.aload_n 0, 1) := by decide +kernel
theorem dX7_looksFor_5 : decode cX7_looksFor 5 = .ok (.iload_n 1, 1) := by decide +kernel
theorem dX7_looksFor_6 : decode cX7_looksFor 6 = .ok (.iconst 1, 1) := by decide +kernel
theorem dX7_looksFor_7 : decode cX7_looksFor 7 = .ok (.invokevirtual 87, 3) := by decide +kernel
theorem dX7_looksFor_10 : decode cX7_looksFor 10 = .ok (.invokestatic 257, 3) := by decide +kernel
theorem dX7_looksFor_13 : decode cX7_looksFor 13 = .ok (.istore_n 3, 1) := by decide +kernel
theorem dX7_looksFor_14 : decode cX7_looksFor 14 = .ok (.aload_n 0, 1) := by decide +kernel
theorem dX7_looksFor_15 : decode cX7_looksFor 15 = .ok (.getfield 245, 3) := by decide +kernel
theorem dX7_looksFor_18 : decode cX7_looksFor 18 = .ok (.aload_n 0, 1) := by decide +kernel
theorem dX7_looksFor_19 : decode cX7_looksFor 19 = .ok (.iconst 0, 1) := by decide +kernel
theorem dX7_looksFor_20 : decode cX7_looksFor 20 = .ok (.iload_n 1, 1) := by decide +kernel
theorem dX7_looksFor_21 : decode cX7_looksFor 21 = .ok (.aload_n 0, 1) := by decide +kernel
theorem dX7_looksFor_22 : decode cX7_looksFor 22 = .ok (.getfield 245, 3) := by decide +kernel
theorem dX7_looksFor_25 : decode cX7_looksFor 25 = .ok (.iload_n 3, 1) := by decide +kernel
theorem dX7_looksFor_26 : decode cX7_looksFor 26 = .ok (.iload_n 2, 1) := by decide +kernel
theorem dX7_looksFor_27 : decode cX7_looksFor 27 = .ok (.invokevirtual 260, 3) := by decide +kernel
theorem dX7_looksFor_30 : decode cX7_looksFor 30 = .ok (.iadd, 1) := by decide +kernel
theorem dX7_looksFor_31 : decode cX7_looksFor 31 = .ok (.istore 4, 2) := by decide +kernel
theorem dX7_looksFor_33 : decode cX7_looksFor 33 = .ok (.aload_n 0, 1) := by decide +kernel
theorem dX7_looksFor_34 : decode cX7_looksFor 34 = .ok (.iload_n 1, 1) := by decide +kernel
theorem dX7_looksFor_35 : decode cX7_looksFor 35 = .ok (.aload_n 0, 1) := by decide +kernel
theorem dX7_looksFor_36 : decode cX7_looksFor 36 = .ok (.iconst 1, 1) := by decide +kernel
theorem dX7_looksFor_37 : decode cX7_looksFor 37 = .ok (.iload_n 1, 1) := by decide +kernel
theorem dX7_looksFor_38 : decode cX7_looksFor 38 = .ok (.iload 4, 2) := by decide +kernel
theorem dX7_looksFor_40 : decode cX7_looksFor 40 = .ok (.iload_n 3, 1) := by decide +kernel
theorem dX7_looksFor_41 : decode cX7_looksFor 41 = .ok (.iload_n 2, 1) := by decide +kernel
theorem dX7_looksFor_42 : decode cX7_looksFor 42 = .ok (.invokevirtual 260, 3) := by decide +kernel
theorem dX7_looksFor_45 : decode cX7_looksFor 45 = .ok (.invokevirtual 264, 3) := by decide +kernel
theorem dX7_looksFor_48 : decode cX7_looksFor 48 = .ok (.istore 5, 2) := by decide +kernel
theorem dX7_looksFor_50 : decode cX7_looksFor 50 = .ok (.aload_n 0, 1) := by decide +kernel
theorem dX7_looksFor_51 : decode cX7_looksFor 51 = .ok (.iload_n 1, 1) := by decide +kernel
theorem dX7_looksFor_52 : decode cX7_looksFor 52 = .ok (.iload 4, 2) := by decide +kernel
theorem dX7_looksFor_54 : decode cX7_looksFor 54 = .ok (.iload 5, 2) := by decide +kernel
theorem dX7_looksFor_56 : decode cX7_looksFor 56 = .ok (.invokevirtual 267, 3) := by decide +kernel
theorem dX7_looksFor_59 : decode cX7_looksFor 59 = .ok (.istore 6, 2) := by decide +kernel
theorem dX7_looksFor_61 : decode cX7_looksFor 61 = .ok (.iload 6, 2) := by decide +kernel
theorem dX7_looksFor_63 : decode cX7_looksFor 63 = .ok (.iconst (-1), 1) := by decide +kernel
theorem dX7_looksFor_64 : decode cX7_looksFor 64 = .ok (.if_icmp .ne 4, 3) := by decide +kernel
theorem dX7_looksFor_67 : decode cX7_looksFor 67 = .ok (.return_, 1) := by decide +kernel
theorem dX7_looksFor_68 : decode cX7_looksFor 68 = .ok (.aload_n 0, 1) := by decide +kernel
theorem dX7_looksFor_69 : decode cX7_looksFor 69 = .ok (.dup, 1) := by decide +kernel
theorem dX7_looksFor_70 : decode cX7_looksFor 70 = .ok (.getfield 248, 3) := by decide +kernel
theorem dX7_looksFor_73 : decode cX7_looksFor 73 = .ok (.aload_n 0, 1) := by decide +kernel
theorem dX7_looksFor_74 : decode cX7_looksFor 74 = .ok (.iload_n 1, 1) := by decide +kernel
theorem dX7_looksFor_75 : decode cX7_looksFor 75 = .ok (.invokevirtual 102, 3) := by decide +kernel
theorem dX7_looksFor_78 : decode cX7_looksFor 78 = .ok (.aload_n 0, 1) := by decide +kernel
theorem dX7_looksFor_79 : decode cX7_looksFor 79 = .ok (.iconst 2, 1) := by decide +kernel
theorem dX7_looksFor_80 : decode cX7_looksFor 80 = .ok (.iload_n 1, 1) := by decide +kernel
theorem dX7_looksFor_81 : decode cX7_looksFor 81 = .ok (.iload 4, 2) := by decide +kernel
theorem dX7_looksFor_83 : decode cX7_looksFor 83 = .ok (.iload_n 3, 1) := by decide +kernel
theorem dX7_looksFor_84 : decode cX7_looksFor 84 = .ok (.iload_n 2, 1) := by decide +kernel
theorem dX7_looksFor_85 : decode cX7_looksFor 85 = .ok (.invokevirtual 260, 3) := by decide +kernel
theorem dX7_looksFor_88 : decode cX7_looksFor 88 = .ok (.iload 6, 2) := by decide +kernel
theorem dX7_looksFor_90 : decode cX7_looksFor 90 = .ok (.iload 4, 2) := by decide +kernel
theorem dX7_looksFor_92 : decode cX7_looksFor 92 = .ok (.isub, 1) := by decide +kernel
theorem dX7_looksFor_93 : decode cX7_looksFor 93 = .ok (.imul, 1) := by decide +kernel
theorem dX7_looksFor_94 : decode cX7_looksFor 94 = .ok (.isub, 1) := by decide +kernel
theorem dX7_looksFor_95 : decode cX7_looksFor 95 = .ok (.iadd, 1) := by decide +kernel
theorem dX7_looksFor_96 : decode cX7_looksFor 96 = .ok (.putfield 248, 3) := by decide +kernel
theorem dX7_looksFor_99 : decode cX7_looksFor 99 = .ok (.aload_n 0, 1) := by decide +kernel
theorem dX7_looksFor_100 : decode cX7_looksFor 100 = .ok (.dup, 1) := by decide +kernel
theorem dX7_looksFor_101 : decode cX7_looksFor 101 = .ok (.getfield 251, 3) := by decide +kernel
theorem dX7_looksFor_104 : decode cX7_looksFor 104 = .ok (.iconst 1, 1) := by decide +kernel
theorem dX7_looksFor_105 : decode cX7_looksFor 105 = .ok (.iload_n 1, 1) := by decide +kernel
theorem dX7_looksFor_106 : decode cX7_looksFor 106 = .ok (.ishl, 1) := by decide +kernel
theorem dX7_looksFor_107 : decode cX7_looksFor 107 = .ok (.ior, 1) := by decide +kernel
theorem dX7_looksFor_108 : decode cX7_looksFor 108 = .ok (.putfield 251, 3) := by decide +kernel
theorem dX7_looksFor_111 : decode cX7_looksFor 111 = .ok (.aload_n 0, 1) := by decide +kernel
theorem dX7_looksFor_112 : decode cX7_looksFor 112 = .ok (.dup, 1) := by decide +kernel
theorem dX7_looksFor_113 : decode cX7_looksFor 113 = .ok (.getfield 254, 3) := by decide +kernel
theorem dX7_looksFor_116 : decode cX7_looksFor 116 = .ok (.iload 6, 2) := by decide +kernel
theorem dX7_looksFor_118 : decode cX7_looksFor 118 = .ok (.iload 4, 2) := by decide +kernel
theorem dX7_looksFor_120 : decode cX7_looksFor 120 = .ok (.isub, 1) := by decide +kernel
theorem dX7_looksFor_121 : decode cX7_looksFor 121 = .ok (.iadd, 1) := by decide +kernel
theorem dX7_looksFor_122 : decode cX7_looksFor 122 = .ok (.putfield 254, 3) := by decide +kernel
theorem dX7_looksFor_125 : decode cX7_looksFor 125 = .ok (.aload_n 0, 1) := by decide +kernel
theorem dX7_looksFor_126 : decode cX7_looksFor 126 = .ok (.getfield 32, 3) := by decide +kernel
theorem dX7_looksFor_129 : decode cX7_looksFor 129 = .ok (.iload_n 1, 1) := by decide +kernel
theorem dX7_looksFor_130 : decode cX7_looksFor 130 = .ok (.iload 6, 2) := by decide +kernel
theorem dX7_looksFor_132 : decode cX7_looksFor 132 = .ok (.iload 5, 2) := by decide +kernel
theorem dX7_looksFor_134 : decode cX7_looksFor 134 = .ok (.iadd, 1) := by decide +kernel
theorem dX7_looksFor_135 : decode cX7_looksFor 135 = .ok (.iconst 1, 1) := by decide +kernel
theorem dX7_looksFor_136 : decode cX7_looksFor 136 = .ok (.isub, 1) := by decide +kernel
theorem dX7_looksFor_137 : decode cX7_looksFor 137 = .ok (.iastore, 1) := by decide +kernel
theorem dX7_looksFor_138 : decode cX7_looksFor 138 = .ok (.aload_n 0, 1) := by decide +kernel
theorem dX7_looksFor_139 : decode cX7_looksFor 139 = .ok (.getfield 35, 3) := by decide +kernel
theorem dX7_looksFor_142 : decode cX7_looksFor 142 = .ok (.iload_n 1, 1) := by decide +kernel
theorem dX7_looksFor_143 : decode cX7_looksFor 143 = .ok (.iload 6, 2) := by decide +kernel
theorem dX7_looksFor_145 : decode cX7_looksFor 145 = .ok (.iload 4, 2) := by decide +kernel
theorem dX7_looksFor_147 : decode cX7_looksFor 147 = .ok (.isub, 1) := by decide +kernel
theorem dX7_looksFor_148 : decode cX7_looksFor 148 = .ok (.iastore, 1) := by decide +kernel
theorem dX7_looksFor_149 : decode cX7_looksFor 149 = .ok (.aload_n 0, 1) := by decide +kernel
theorem dX7_looksFor_150 : decode cX7_looksFor 150 = .ok (.aload_n 0, 1) := by decide +kernel
theorem dX7_looksFor_151 : decode cX7_looksFor 151 = .ok (.iload_n 1, 1) := by decide +kernel
theorem dX7_looksFor_152 : decode cX7_looksFor 152 = .ok (.iconst 1, 1) := by decide +kernel
theorem dX7_looksFor_153 : decode cX7_looksFor 153 = .ok (.invokevirtual 87, 3) := by decide +kernel
theorem dX7_looksFor_156 : decode cX7_looksFor 156 = .ok (.putfield 242, 3) := by decide +kernel
theorem dX7_looksFor_159 : decode cX7_looksFor 159 = .ok (.aload_n 0, 1) := by decide +kernel
theorem dX7_looksFor_160 : decode cX7_looksFor 160 = .ok (.iload 6, 2) := by decide +kernel
theorem dX7_looksFor_162 : decode cX7_looksFor 162 = .ok (.iload 5, 2) := by decide +kernel
theorem dX7_looksFor_164 : decode cX7_looksFor 164 = .ok (.iadd, 1) := by decide +kernel
theorem dX7_looksFor_165 : decode cX7_looksFor 165 = .ok (.putfield 245, 3) := by decide +kernel
theorem dX7_looksFor_168 : decode cX7_looksFor 168 = .ok (.return_, 1) := by decide +kernel
theorem dX7_goes_0 : decode cX7_goes 0 = .ok (.aload_n 0, 1) := by decide +kernel
theorem dX7_goes_1 : decode cX7_goes 1 = .ok (.invokevirtual 270, 3) := by decide +kernel
theorem dX7_goes_4 : decode cX7_goes 4 = .ok (.iconst 0, 1) := by decide +kernel
theorem dX7_goes_5 : decode cX7_goes 5 = .ok (.istore 4, 2) := by decide +kernel
theorem dX7_goes_7 : decode cX7_goes 7 = .ok (.iconst 0, 1) := by decide +kernel
theorem dX7_goes_8 : decode cX7_goes 8 = .ok (.istore 5, 2) := by decide +kernel
theorem dX7_goes_10 : decode cX7_goes 10 = .ok (.iload 5, 2) := by decide +kernel
theorem dX7_goes_12 : decode cX7_goes 12 = .ok (.aload_n 0, 1) := by decide +kernel
theorem dX7_goes_13 : decode cX7_goes 13 = .ok (.getfield 70, 3) := by decide +kernel
theorem dX7_goes_16 : decode cX7_goes 16 = .ok (.if_icmp .ge 50, 3) := by decide +kernel
theorem dX7_goes_19 : decode cX7_goes 19 = .ok (.iload_n 1, 1) := by decide +kernel
theorem dX7_goes_20 : decode cX7_goes 20 = .ok (.iload 5, 2) := by decide +kernel
theorem dX7_goes_22 : decode cX7_goes 22 = .ok (.ishr, 1) := by decide +kernel
theorem dX7_goes_23 : decode cX7_goes 23 = .ok (.iconst 1, 1) := by decide +kernel
theorem dX7_goes_24 : decode cX7_goes 24 = .ok (.iand, 1) := by decide +kernel
theorem dX7_goes_25 : decode cX7_goes 25 = .ok (.iconst 1, 1) := by decide +kernel
theorem dX7_goes_26 : decode cX7_goes 26 = .ok (.if_icmp .ne 34, 3) := by decide +kernel
theorem dX7_goes_29 : decode cX7_goes 29 = .ok (.aload_n 0, 1) := by decide +kernel
theorem dX7_goes_30 : decode cX7_goes 30 = .ok (.dup, 1) := by decide +kernel
theorem dX7_goes_31 : decode cX7_goes 31 = .ok (.getfield 245, 3) := by decide +kernel
theorem dX7_goes_34 : decode cX7_goes 34 = .ok (.iload 4, 2) := by decide +kernel
theorem dX7_goes_36 : decode cX7_goes 36 = .ok (.iload_n 2, 1) := by decide +kernel
theorem dX7_goes_37 : decode cX7_goes 37 = .ok (.if_icmp .ne 7, 3) := by decide +kernel
theorem dX7_goes_40 : decode cX7_goes 40 = .ok (.iload_n 3, 1) := by decide +kernel
theorem dX7_goes_41 : decode cX7_goes 41 = .ok (.goto 4, 3) := by decide +kernel
theorem dX7_goes_44 : decode cX7_goes 44 = .ok (.iconst 0, 1) := by decide +kernel
theorem dX7_goes_45 : decode cX7_goes 45 = .ok (.iadd, 1) := by decide +kernel
theorem dX7_goes_46 : decode cX7_goes 46 = .ok (.putfield 245, 3) := by decide +kernel
theorem dX7_goes_49 : decode cX7_goes 49 = .ok (.aload_n 0, 1) := by decide +kernel
theorem dX7_goes_50 : decode cX7_goes 50 = .ok (.iload 5, 2) := by decide +kernel
theorem dX7_goes_52 : decode cX7_goes 52 = .ok (.iload 4, 2) := by decide +kernel
theorem dX7_goes_54 : decode cX7_goes 54 = .ok (.invokevirtual 273, 3) := by decide +kernel
theorem dX7_goes_57 : decode cX7_goes 57 = .ok (.iinc 4 1, 3) := by decide +kernel
theorem dX7_goes_60 : decode cX7_goes 60 = .ok (.iinc 5 1, 3) := by decide +kernel
theorem dX7_goes_63 : decode cX7_goes 63 = .ok (.goto (-53), 3) := by decide +kernel
theorem dX7_goes_66 : decode cX7_goes 66 = .ok (.return_, 1) := by decide +kernel
theorem dX7_all_0 : decode cX7_all 0 = .ok (.iconst 1, 1) := by decide +kernel
theorem dX7_all_1 : decode cX7_all 1 = .ok (.aload_n 0, 1) := by decide +kernel
theorem dX7_all_2 : decode cX7_all 2 = .ok (.getfield 70, 3) := by decide +kernel
theorem dX7_all_5 : decode cX7_all 5 = .ok (.ishl, 1) := by decide +kernel
theorem dX7_all_6 : decode cX7_all 6 = .ok (.iconst 1, 1) := by decide +kernel
theorem dX7_all_7 : decode cX7_all 7 = .ok (.isub, 1) := by decide +kernel
theorem dX7_all_8 : decode cX7_all 8 = .ok (.ireturn, 1) := by decide +kernel
theorem dX7_goesPlain_0 : decode cX7_goesPlain 0 = .ok (.aload_n 0, 1) := by decide +kernel
theorem dX7_goesPlain_1 : decode cX7_goesPlain 1 = .ok (.aload_n 0, 1) := by decide +kernel
theorem dX7_goesPlain_2 : decode cX7_goesPlain 2 = .ok (.invokevirtual 277, 3) := by decide +kernel
theorem dX7_goesPlain_5 : decode cX7_goesPlain 5 = .ok (.iconst (-1), 1) := by decide +kernel
theorem dX7_goesPlain_6 : decode cX7_goesPlain 6 = .ok (.iconst 0, 1) := by decide +kernel
theorem dX7_goesPlain_7 : decode cX7_goesPlain 7 = .ok (.invokevirtual 280, 3) := by decide +kernel
theorem dX7_goesPlain_10 : decode cX7_goesPlain 10 = .ok (.return_, 1) := by decide +kernel
theorem dX7_isTells_0 : decode cX7_isTells 0 = .ok (.iload_n 1, 1) := by decide +kernel
theorem dX7_isTells_1 : decode cX7_isTells 1 = .ok (.i2l, 1) := by decide +kernel
theorem dX7_isTells_2 : decode cX7_isTells 2 = .ok (.lconst 0, 1) := by decide +kernel
theorem dX7_isTells_3 : decode cX7_isTells 3 = .ok (.ldc2_w 284, 3) := by decide +kernel
theorem dX7_isTells_6 : decode cX7_isTells 6 = .ok (.invokestatic 73, 3) := by decide +kernel
theorem dX7_isTells_9 : decode cX7_isTells 9 = .ok (.ifCond .ne 28, 3) := by decide +kernel
theorem dX7_isTells_12 : decode cX7_isTells 12 = .ok (.iload_n 1, 1) := by decide +kernel
theorem dX7_isTells_13 : decode cX7_isTells 13 = .ok (.i2l, 1) := by decide +kernel
theorem dX7_isTells_14 : decode cX7_isTells 14 = .ok (.ldc2_w 153, 3) := by decide +kernel
theorem dX7_isTells_17 : decode cX7_isTells 17 = .ok (.ldc2_w 286, 3) := by decide +kernel
theorem dX7_isTells_20 : decode cX7_isTells 20 = .ok (.invokestatic 73, 3) := by decide +kernel
theorem dX7_isTells_23 : decode cX7_isTells 23 = .ok (.ifCond .eq 18, 3) := by decide +kernel
theorem dX7_isTells_26 : decode cX7_isTells 26 = .ok (.aload_n 0, 1) := by decide +kernel
theorem dX7_isTells_27 : decode cX7_isTells 27 = .ok (.iload_n 1, 1) := by decide +kernel
theorem dX7_isTells_28 : decode cX7_isTells 28 = .ok (.bipush 10, 2) := by decide +kernel
theorem dX7_isTells_30 : decode cX7_isTells 30 = .ok (.irem, 1) := by decide +kernel
theorem dX7_isTells_31 : decode cX7_isTells 31 = .ok (.invokevirtual 79, 3) := by decide +kernel
theorem dX7_isTells_34 : decode cX7_isTells 34 = .ok (.ifCond .eq 7, 3) := by decide +kernel
theorem dX7_isTells_37 : decode cX7_isTells 37 = .ok (.iconst 1, 1) := by decide +kernel
theorem dX7_isTells_38 : decode cX7_isTells 38 = .ok (.goto 4, 3) := by decide +kernel
theorem dX7_isTells_41 : decode cX7_isTells 41 = .ok (.iconst 0, 1) := by decide +kernel
theorem dX7_isTells_42 : decode cX7_isTells 42 = .ok (.ireturn, 1) := by decide +kernel
theorem dX7_bitsOf_0 : decode cX7_bitsOf 0 = .ok (.iconst 0, 1) := by decide +kernel
theorem dX7_bitsOf_1 : decode cX7_bitsOf 1 = .ok (.istore_n 1, 1) := by decide +kernel
theorem dX7_bitsOf_2 : decode cX7_bitsOf 2 = .ok (.iload_n 0, 1) := by decide +kernel
theorem dX7_bitsOf_3 : decode cX7_bitsOf 3 = .ok (.istore_n 2, 1) := by decide +kernel
theorem dX7_bitsOf_4 : decode cX7_bitsOf 4 = .ok (.iload_n 2, 1) := by decide +kernel
theorem dX7_bitsOf_5 : decode cX7_bitsOf 5 = .ok (.ifCond .eq 15, 3) := by decide +kernel
theorem dX7_bitsOf_8 : decode cX7_bitsOf 8 = .ok (.iinc 1 1, 3) := by decide +kernel
theorem dX7_bitsOf_11 : decode cX7_bitsOf 11 = .ok (.iload_n 2, 1) := by decide +kernel
theorem dX7_bitsOf_12 : decode cX7_bitsOf 12 = .ok (.iload_n 2, 1) := by decide +kernel
theorem dX7_bitsOf_13 : decode cX7_bitsOf 13 = .ok (.iconst 1, 1) := by decide +kernel
theorem dX7_bitsOf_14 : decode cX7_bitsOf 14 = .ok (.isub, 1) := by decide +kernel
theorem dX7_bitsOf_15 : decode cX7_bitsOf 15 = .ok (.iand, 1) := by decide +kernel
theorem dX7_bitsOf_16 : decode cX7_bitsOf 16 = .ok (.istore_n 2, 1) := by decide +kernel
theorem dX7_bitsOf_17 : decode cX7_bitsOf 17 = .ok (.goto (-13), 3) := by decide +kernel
theorem dX7_bitsOf_20 : decode cX7_bitsOf 20 = .ok (.iload_n 1, 1) := by decide +kernel
theorem dX7_bitsOf_21 : decode cX7_bitsOf 21 = .ok (.ireturn, 1) := by decide +kernel
theorem dX7_tells_0 : decode cX7_tells 0 = .ok (.iload_n 1, 1) := by decide +kernel
theorem dX7_tells_1 : decode cX7_tells 1 = .ok (.iconst 3, 1) := by decide +kernel
theorem dX7_tells_2 : decode cX7_tells 2 = .ok (.if_icmp .ge 34, 3) := by decide +kernel
theorem dX7_tells_5 : decode cX7_tells 5 = .ok (.iload_n 1, 1) := by decide +kernel
theorem dX7_tells_6 : decode cX7_tells 6 = .ok (.ifCond .ne 10, 3) := by decide +kernel
theorem dX7_tells_9 : decode cX7_tells 9 = .ok (.aload_n 0, 1) := by decide +kernel
theorem dX7_tells_10 : decode cX7_tells 10 = .ok (.getfield 248, 3) := by decide +kernel
theorem dX7_tells_13 : decode cX7_tells 13 = .ok (.goto 22, 3) := by decide +kernel
theorem dX7_tells_16 : decode cX7_tells 16 = .ok (.iload_n 1, 1) := by decide +kernel
theorem dX7_tells_17 : decode cX7_tells 17 = .ok (.iconst 1, 1) := by decide +kernel
theorem dX7_tells_18 : decode cX7_tells 18 = .ok (.if_icmp .ne 13, 3) := by decide +kernel
theorem dX7_tells_21 : decode cX7_tells 21 = .ok (.aload_n 0, 1) := by decide +kernel
theorem dX7_tells_22 : decode cX7_tells 22 = .ok (.getfield 251, 3) := by decide +kernel
theorem dX7_tells_25 : decode cX7_tells 25 = .ok (.invokestatic 288, 3) := by decide +kernel
theorem dX7_tells_28 : decode cX7_tells 28 = .ok (.goto 7, 3) := by decide +kernel
theorem dX7_tells_31 : decode cX7_tells 31 = .ok (.aload_n 0, 1) := by decide +kernel
theorem dX7_tells_32 : decode cX7_tells 32 = .ok (.getfield 251, 3) := by decide +kernel
theorem dX7_tells_35 : decode cX7_tells 35 = .ok (.ireturn, 1) := by decide +kernel
theorem dX7_tells_36 : decode cX7_tells 36 = .ok (.iload_n 1, 1) := by decide +kernel
theorem dX7_tells_37 : decode cX7_tells 37 = .ok (.iconst 5, 1) := by decide +kernel
theorem dX7_tells_38 : decode cX7_tells 38 = .ok (.if_icmp .ge 36, 3) := by decide +kernel
theorem dX7_tells_41 : decode cX7_tells 41 = .ok (.iload_n 1, 1) := by decide +kernel
theorem dX7_tells_42 : decode cX7_tells 42 = .ok (.iconst 4, 1) := by decide +kernel
theorem dX7_tells_43 : decode cX7_tells 43 = .ok (.if_icmp .ne 10, 3) := by decide +kernel
theorem dX7_tells_46 : decode cX7_tells 46 = .ok (.aload_n 0, 1) := by decide +kernel
theorem dX7_tells_47 : decode cX7_tells 47 = .ok (.getfield 254, 3) := by decide +kernel
theorem dX7_tells_50 : decode cX7_tells 50 = .ok (.goto 23, 3) := by decide +kernel
theorem dX7_tells_53 : decode cX7_tells 53 = .ok (.aload_n 0, 1) := by decide +kernel
theorem dX7_tells_54 : decode cX7_tells 54 = .ok (.getfield 245, 3) := by decide +kernel
theorem dX7_tells_57 : decode cX7_tells 57 = .ok (.sipush 200, 3) := by decide +kernel
theorem dX7_tells_60 : decode cX7_tells 60 = .ok (.if_icmp .le 9, 3) := by decide +kernel
theorem dX7_tells_63 : decode cX7_tells 63 = .ok (.sipush 200, 3) := by decide +kernel
theorem dX7_tells_66 : decode cX7_tells 66 = .ok (.goto 7, 3) := by decide +kernel
theorem dX7_tells_69 : decode cX7_tells 69 = .ok (.aload_n 0, 1) := by decide +kernel
theorem dX7_tells_70 : decode cX7_tells 70 = .ok (.getfield 245, 3) := by decide +kernel
theorem dX7_tells_73 : decode cX7_tells 73 = .ok (.ireturn, 1) := by decide +kernel
theorem dX7_tells_74 : decode cX7_tells 74 = .ok (.iload_n 1, 1) := by decide +kernel
theorem dX7_tells_75 : decode cX7_tells 75 = .ok (.bipush 20, 2) := by decide +kernel
theorem dX7_tells_77 : decode cX7_tells 77 = .ok (.if_icmp .ge 15, 3) := by decide +kernel
theorem dX7_tells_80 : decode cX7_tells 80 = .ok (.aload_n 0, 1) := by decide +kernel
theorem dX7_tells_81 : decode cX7_tells 81 = .ok (.getfield 32, 3) := by decide +kernel
theorem dX7_tells_84 : decode cX7_tells 84 = .ok (.iload_n 1, 1) := by decide +kernel
theorem dX7_tells_85 : decode cX7_tells 85 = .ok (.bipush 10, 2) := by decide +kernel
theorem dX7_tells_87 : decode cX7_tells 87 = .ok (.isub, 1) := by decide +kernel
theorem dX7_tells_88 : decode cX7_tells 88 = .ok (.iaload, 1) := by decide +kernel
theorem dX7_tells_89 : decode cX7_tells 89 = .ok (.goto 12, 3) := by decide +kernel
theorem dX7_tells_92 : decode cX7_tells 92 = .ok (.aload_n 0, 1) := by decide +kernel
theorem dX7_tells_93 : decode cX7_tells 93 = .ok (.getfield 35, 3) := by decide +kernel
theorem dX7_tells_96 : decode cX7_tells 96 = .ok (.iload_n 1, 1) := by decide +kernel
theorem dX7_tells_97 : decode cX7_tells 97 = .ok (.bipush 20, 2) := by decide +kernel
theorem dX7_tells_99 : decode cX7_tells 99 = .ok (.isub, 1) := by decide +kernel
theorem dX7_tells_100 : decode cX7_tells 100 = .ok (.iaload, 1) := by decide +kernel
theorem dX7_tells_101 : decode cX7_tells 101 = .ok (.ireturn, 1) := by decide +kernel
theorem dX7_night_0 : decode cX7_night 0 = .ok (.aload_n 0, 1) := by decide +kernel
theorem dX7_night_1 : decode cX7_night 1 = .ok (.iload_n 1, 1) := by decide +kernel
theorem dX7_night_2 : decode cX7_night 2 = .ok (.invokevirtual 291, 3) := by decide +kernel
theorem dX7_night_5 : decode cX7_night 5 = .ok (.ifCond .ne 7, 3) := by decide +kernel
theorem dX7_night_8 : decode cX7_night 8 = .ok (.ldc_w 294, 3) := by decide +kernel
theorem dX7_night_11 : decode cX7_night 11 = .ok (.ireturn, 1) := by decide +kernel
theorem dX7_night_12 : decode cX7_night 12 = .ok (.aload_n 0, 1) := by decide +kernel
theorem dX7_night_13 : decode cX7_night 13 = .ok (.invokevirtual 295, 3) := by decide +kernel
theorem dX7_night_16 : decode cX7_night 16 = .ok (.aload_n 0, 1) := by decide +kernel
theorem dX7_night_17 : decode cX7_night 17 = .ok (.iload_n 1, 1) := by decide +kernel
theorem dX7_night_18 : decode cX7_night 18 = .ok (.invokevirtual 298, 3) := by decide +kernel
theorem dX7_night_21 : decode cX7_night 21 = .ok (.ireturn, 1) := by decide +kernel
theorem dX7_goesBy_0 : decode cX7_goesBy 0 = .ok (.aload_n 0, 1) := by decide +kernel
theorem dX7_goesBy_1 : decode cX7_goesBy 1 = .ok (.getfield 57, 3) := by decide +kernel
theorem dX7_goesBy_4 : decode cX7_goesBy 4 = .ok (.iload_n 1, 1) := by decide +kernel
theorem dX7_goesBy_5 : decode cX7_goesBy 5 = .ok (.iaload, 1) := by decide +kernel
theorem dX7_goesBy_6 : decode cX7_goesBy 6 = .ok (.aload_n 0, 1) := by decide +kernel
theorem dX7_goesBy_7 : decode cX7_goesBy 7 = .ok (.getfield 70, 3) := by decide +kernel
theorem dX7_goesBy_10 : decode cX7_goesBy 10 = .ok (.if_icmp .eq 5, 3) := by decide +kernel
theorem dX7_goesBy_13 : decode cX7_goesBy 13 = .ok (.iconst 0, 1) := by decide +kernel
theorem dX7_goesBy_14 : decode cX7_goesBy 14 = .ok (.ireturn, 1) := by decide +kernel
theorem dX7_goesBy_15 : decode cX7_goesBy 15 = .ok (.iconst 0, 1) := by decide +kernel
theorem dX7_goesBy_16 : decode cX7_goesBy 16 = .ok (.istore_n 2, 1) := by decide +kernel
theorem dX7_goesBy_17 : decode cX7_goesBy 17 = .ok (.iconst 0, 1) := by decide +kernel
theorem dX7_goesBy_18 : decode cX7_goesBy 18 = .ok (.istore_n 3, 1) := by decide +kernel
theorem dX7_goesBy_19 : decode cX7_goesBy 19 = .ok (.iload_n 3, 1) := by decide +kernel
theorem dX7_goesBy_20 : decode cX7_goesBy 20 = .ok (.aload_n 0, 1) := by decide +kernel
theorem dX7_goesBy_21 : decode cX7_goesBy 21 = .ok (.getfield 70, 3) := by decide +kernel
theorem dX7_goesBy_24 : decode cX7_goesBy 24 = .ok (.if_icmp .ge 50, 3) := by decide +kernel
theorem dX7_goesBy_27 : decode cX7_goesBy 27 = .ok (.aload_n 0, 1) := by decide +kernel
theorem dX7_goesBy_28 : decode cX7_goesBy 28 = .ok (.getfield 60, 3) := by decide +kernel
theorem dX7_goesBy_31 : decode cX7_goesBy 31 = .ok (.bipush 40, 2) := by decide +kernel
theorem dX7_goesBy_33 : decode cX7_goesBy 33 = .ok (.iload_n 1, 1) := by decide +kernel
theorem dX7_goesBy_34 : decode cX7_goesBy 34 = .ok (.imul, 1) := by decide +kernel
theorem dX7_goesBy_35 : decode cX7_goesBy 35 = .ok (.iload_n 3, 1) := by decide +kernel
theorem dX7_goesBy_36 : decode cX7_goesBy 36 = .ok (.iadd, 1) := by decide +kernel
theorem dX7_goesBy_37 : decode cX7_goesBy 37 = .ok (.iaload, 1) := by decide +kernel
theorem dX7_goesBy_38 : decode cX7_goesBy 38 = .ok (.istore 4, 2) := by decide +kernel
theorem dX7_goesBy_40 : decode cX7_goesBy 40 = .ok (.aload_n 0, 1) := by decide +kernel
theorem dX7_goesBy_41 : decode cX7_goesBy 41 = .ok (.iload 4, 2) := by decide +kernel
theorem dX7_goesBy_43 : decode cX7_goesBy 43 = .ok (.invokevirtual 79, 3) := by decide +kernel
theorem dX7_goesBy_46 : decode cX7_goesBy 46 = .ok (.ifCond .eq 13, 3) := by decide +kernel
theorem dX7_goesBy_49 : decode cX7_goesBy 49 = .ok (.iload_n 2, 1) := by decide +kernel
theorem dX7_goesBy_50 : decode cX7_goesBy 50 = .ok (.iload 4, 2) := by decide +kernel
theorem dX7_goesBy_52 : decode cX7_goesBy 52 = .ok (.ishr, 1) := by decide +kernel
theorem dX7_goesBy_53 : decode cX7_goesBy 53 = .ok (.iconst 1, 1) := by decide +kernel
theorem dX7_goesBy_54 : decode cX7_goesBy 54 = .ok (.iand, 1) := by decide +kernel
theorem dX7_goesBy_55 : decode cX7_goesBy 55 = .ok (.iconst 1, 1) := by decide +kernel
theorem dX7_goesBy_56 : decode cX7_goesBy 56 = .ok (.if_icmp .ne 5, 3) := by decide +kernel
theorem dX7_goesBy_59 : decode cX7_goesBy 59 = .ok (.iconst 0, 1) := by decide +kernel
theorem dX7_goesBy_60 : decode cX7_goesBy 60 = .ok (.ireturn, 1) := by decide +kernel
theorem dX7_goesBy_61 : decode cX7_goesBy 61 = .ok (.iload_n 2, 1) := by decide +kernel
theorem dX7_goesBy_62 : decode cX7_goesBy 62 = .ok (.iconst 1, 1) := by decide +kernel
theorem dX7_goesBy_63 : decode cX7_goesBy 63 = .ok (.iload 4, 2) := by decide +kernel
theorem dX7_goesBy_65 : decode cX7_goesBy 65 = .ok (.ishl, 1) := by decide +kernel
theorem dX7_goesBy_66 : decode cX7_goesBy 66 = .ok (.ior, 1) := by decide +kernel
theorem dX7_goesBy_67 : decode cX7_goesBy 67 = .ok (.istore_n 2, 1) := by decide +kernel
theorem dX7_goesBy_68 : decode cX7_goesBy 68 = .ok (.iinc 3 1, 3) := by decide +kernel
theorem dX7_goesBy_71 : decode cX7_goesBy 71 = .ok (.goto (-52), 3) := by decide +kernel
theorem dX7_goesBy_74 : decode cX7_goesBy 74 = .ok (.aload_n 0, 1) := by decide +kernel
theorem dX7_goesBy_75 : decode cX7_goesBy 75 = .ok (.invokevirtual 270, 3) := by decide +kernel
theorem dX7_goesBy_78 : decode cX7_goesBy 78 = .ok (.iconst 0, 1) := by decide +kernel
theorem dX7_goesBy_79 : decode cX7_goesBy 79 = .ok (.istore_n 3, 1) := by decide +kernel
theorem dX7_goesBy_80 : decode cX7_goesBy 80 = .ok (.iload_n 3, 1) := by decide +kernel
theorem dX7_goesBy_81 : decode cX7_goesBy 81 = .ok (.aload_n 0, 1) := by decide +kernel
theorem dX7_goesBy_82 : decode cX7_goesBy 82 = .ok (.getfield 70, 3) := by decide +kernel
theorem dX7_goesBy_85 : decode cX7_goesBy 85 = .ok (.if_icmp .ge 25, 3) := by decide +kernel
theorem dX7_goesBy_88 : decode cX7_goesBy 88 = .ok (.aload_n 0, 1) := by decide +kernel
theorem dX7_goesBy_89 : decode cX7_goesBy 89 = .ok (.aload_n 0, 1) := by decide +kernel
theorem dX7_goesBy_90 : decode cX7_goesBy 90 = .ok (.getfield 60, 3) := by decide +kernel
theorem dX7_goesBy_93 : decode cX7_goesBy 93 = .ok (.bipush 40, 2) := by decide +kernel
theorem dX7_goesBy_95 : decode cX7_goesBy 95 = .ok (.iload_n 1, 1) := by decide +kernel
theorem dX7_goesBy_96 : decode cX7_goesBy 96 = .ok (.imul, 1) := by decide +kernel
theorem dX7_goesBy_97 : decode cX7_goesBy 97 = .ok (.iload_n 3, 1) := by decide +kernel
theorem dX7_goesBy_98 : decode cX7_goesBy 98 = .ok (.iadd, 1) := by decide +kernel
theorem dX7_goesBy_99 : decode cX7_goesBy 99 = .ok (.iaload, 1) := by decide +kernel
theorem dX7_goesBy_100 : decode cX7_goesBy 100 = .ok (.iload_n 3, 1) := by decide +kernel
theorem dX7_goesBy_101 : decode cX7_goesBy 101 = .ok (.invokevirtual 273, 3) := by decide +kernel
theorem dX7_goesBy_104 : decode cX7_goesBy 104 = .ok (.iinc 3 1, 3) := by decide +kernel
theorem dX7_goesBy_107 : decode cX7_goesBy 107 = .ok (.goto (-27), 3) := by decide +kernel
theorem dX7_goesBy_110 : decode cX7_goesBy 110 = .ok (.iconst 1, 1) := by decide +kernel
theorem dX7_goesBy_111 : decode cX7_goesBy 111 = .ok (.ireturn, 1) := by decide +kernel
theorem dX7_order_0 : decode cX7_order 0 = .ok (.iload_n 1, 1) := by decide +kernel
theorem dX7_order_1 : decode cX7_order 1 = .ok (.invokestatic 301, 3) := by decide +kernel
theorem dX7_order_4 : decode cX7_order 4 = .ok (.ifCond .eq 28, 3) := by decide +kernel
theorem dX7_order_7 : decode cX7_order 7 = .ok (.aload_n 0, 1) := by decide +kernel
theorem dX7_order_8 : decode cX7_order 8 = .ok (.iload_n 2, 1) := by decide +kernel
theorem dX7_order_9 : decode cX7_order 9 = .ok (.invokevirtual 291, 3) := by decide +kernel
theorem dX7_order_12 : decode cX7_order 12 = .ok (.ifCond .eq 20, 3) := by decide +kernel
theorem dX7_order_15 : decode cX7_order 15 = .ok (.aload_n 0, 1) := by decide +kernel
theorem dX7_order_16 : decode cX7_order 16 = .ok (.getfield 50, 3) := by decide +kernel
theorem dX7_order_19 : decode cX7_order 19 = .ok (.iload_n 1, 1) := by decide +kernel
theorem dX7_order_20 : decode cX7_order 20 = .ok (.baload, 1) := by decide +kernel
theorem dX7_order_21 : decode cX7_order 21 = .ok (.ifCond .eq 11, 3) := by decide +kernel
theorem dX7_order_24 : decode cX7_order 24 = .ok (.aload_n 0, 1) := by decide +kernel
theorem dX7_order_25 : decode cX7_order 25 = .ok (.iload_n 1, 1) := by decide +kernel
theorem dX7_order_26 : decode cX7_order 26 = .ok (.invokevirtual 304, 3) := by decide +kernel
theorem dX7_order_29 : decode cX7_order 29 = .ok (.ifCond .ne 7, 3) := by decide +kernel
theorem dX7_order_32 : decode cX7_order 32 = .ok (.ldc_w 294, 3) := by decide +kernel
theorem dX7_order_35 : decode cX7_order 35 = .ok (.ireturn, 1) := by decide +kernel
theorem dX7_order_36 : decode cX7_order 36 = .ok (.aload_n 0, 1) := by decide +kernel
theorem dX7_order_37 : decode cX7_order 37 = .ok (.iload_n 2, 1) := by decide +kernel
theorem dX7_order_38 : decode cX7_order 38 = .ok (.invokevirtual 298, 3) := by decide +kernel
theorem dX7_order_41 : decode cX7_order 41 = .ok (.ireturn, 1) := by decide +kernel
theorem dX7_triesFrom_0 : decode cX7_triesFrom 0 = .ok (.iload_n 1, 1) := by decide +kernel
theorem dX7_triesFrom_1 : decode cX7_triesFrom 1 = .ok (.aload_n 0, 1) := by decide +kernel
theorem dX7_triesFrom_2 : decode cX7_triesFrom 2 = .ok (.getfield 70, 3) := by decide +kernel
theorem dX7_triesFrom_5 : decode cX7_triesFrom 5 = .ok (.if_icmp .ne 36, 3) := by decide +kernel
theorem dX7_triesFrom_8 : decode cX7_triesFrom 8 = .ok (.aload_n 0, 1) := by decide +kernel
theorem dX7_triesFrom_9 : decode cX7_triesFrom 9 = .ok (.getfield 307, 3) := by decide +kernel
theorem dX7_triesFrom_12 : decode cX7_triesFrom 12 = .ok (.iconst (-1), 1) := by decide +kernel
theorem dX7_triesFrom_13 : decode cX7_triesFrom 13 = .ok (.if_icmp .eq 14, 3) := by decide +kernel
theorem dX7_triesFrom_16 : decode cX7_triesFrom 16 = .ok (.aload_n 0, 1) := by decide +kernel
theorem dX7_triesFrom_17 : decode cX7_triesFrom 17 = .ok (.getfield 248, 3) := by decide +kernel
theorem dX7_triesFrom_20 : decode cX7_triesFrom 20 = .ok (.aload_n 0, 1) := by decide +kernel
theorem dX7_triesFrom_21 : decode cX7_triesFrom 21 = .ok (.getfield 310, 3) := by decide +kernel
theorem dX7_triesFrom_24 : decode cX7_triesFrom 24 = .ok (.if_icmp .le 16, 3) := by decide +kernel
theorem dX7_triesFrom_27 : decode cX7_triesFrom 27 = .ok (.aload_n 0, 1) := by decide +kernel
theorem dX7_triesFrom_28 : decode cX7_triesFrom 28 = .ok (.aload_n 0, 1) := by decide +kernel
theorem dX7_triesFrom_29 : decode cX7_triesFrom 29 = .ok (.getfield 248, 3) := by decide +kernel
theorem dX7_triesFrom_32 : decode cX7_triesFrom 32 = .ok (.putfield 310, 3) := by decide +kernel
theorem dX7_triesFrom_35 : decode cX7_triesFrom 35 = .ok (.aload_n 0, 1) := by decide +kernel
theorem dX7_triesFrom_36 : decode cX7_triesFrom 36 = .ok (.iload_n 3, 1) := by decide +kernel
theorem dX7_triesFrom_37 : decode cX7_triesFrom 37 = .ok (.putfield 307, 3) := by decide +kernel
theorem dX7_triesFrom_40 : decode cX7_triesFrom 40 = .ok (.return_, 1) := by decide +kernel
theorem dX7_triesFrom_41 : decode cX7_triesFrom 41 = .ok (.aload_n 0, 1) := by decide +kernel
theorem dX7_triesFrom_42 : decode cX7_triesFrom 42 = .ok (.getfield 242, 3) := by decide +kernel
theorem dX7_triesFrom_45 : decode cX7_triesFrom 45 = .ok (.istore 4, 2) := by decide +kernel
theorem dX7_triesFrom_47 : decode cX7_triesFrom 47 = .ok (.aload_n 0, 1) := by decide +kernel
theorem dX7_triesFrom_48 : decode cX7_triesFrom 48 = .ok (.getfield 245, 3) := by decide +kernel
theorem dX7_triesFrom_51 : decode cX7_triesFrom 51 = .ok (.istore 5, 2) := by decide +kernel
theorem dX7_triesFrom_53 : decode cX7_triesFrom 53 = .ok (.aload_n 0, 1) := by decide +kernel
theorem dX7_triesFrom_54 : decode cX7_triesFrom 54 = .ok (.getfield 248, 3) := by decide +kernel
theorem dX7_triesFrom_57 : decode cX7_triesFrom 57 = .ok (.istore 6, 2) := by decide +kernel
theorem dX7_triesFrom_59 : decode cX7_triesFrom 59 = .ok (.iconst 0, 1) := by decide +kernel
theorem dX7_triesFrom_60 : decode cX7_triesFrom 60 = .ok (.istore 7, 2) := by decide +kernel
theorem dX7_triesFrom_62 : decode cX7_triesFrom 62 = .ok (.iload 7, 2) := by decide +kernel
theorem dX7_triesFrom_64 : decode cX7_triesFrom 64 = .ok (.aload_n 0, 1) := by decide +kernel
theorem dX7_triesFrom_65 : decode cX7_triesFrom 65 = .ok (.getfield 70, 3) := by decide +kernel
theorem dX7_triesFrom_68 : decode cX7_triesFrom 68 = .ok (.if_icmp .ge 65, 3) := by decide +kernel
theorem dX7_triesFrom_71 : decode cX7_triesFrom 71 = .ok (.iload_n 2, 1) := by decide +kernel
theorem dX7_triesFrom_72 : decode cX7_triesFrom 72 = .ok (.iload 7, 2) := by decide +kernel
theorem dX7_triesFrom_74 : decode cX7_triesFrom 74 = .ok (.ishr, 1) := by decide +kernel
theorem dX7_triesFrom_75 : decode cX7_triesFrom 75 = .ok (.iconst 1, 1) := by decide +kernel
theorem dX7_triesFrom_76 : decode cX7_triesFrom 76 = .ok (.iand, 1) := by decide +kernel
theorem dX7_triesFrom_77 : decode cX7_triesFrom 77 = .ok (.ifCond .ne 50, 3) := by decide +kernel
theorem dX7_triesFrom_80 : decode cX7_triesFrom 80 = .ok (.aload_n 0, 1) := by decide +kernel
theorem dX7_triesFrom_81 : decode cX7_triesFrom 81 = .ok (.iload 4, 2) := by decide +kernel
theorem dX7_triesFrom_83 : decode cX7_triesFrom 83 = .ok (.putfield 242, 3) := by decide +kernel
theorem dX7_triesFrom_86 : decode cX7_triesFrom 86 = .ok (.aload_n 0, 1) := by decide +kernel
theorem dX7_triesFrom_87 : decode cX7_triesFrom 87 = .ok (.iload 5, 2) := by decide +kernel
theorem dX7_triesFrom_89 : decode cX7_triesFrom 89 = .ok (.putfield 245, 3) := by decide +kernel
theorem dX7_triesFrom_92 : decode cX7_triesFrom 92 = .ok (.aload_n 0, 1) := by decide +kernel
theorem dX7_triesFrom_93 : decode cX7_triesFrom 93 = .ok (.iload 6, 2) := by decide +kernel
theorem dX7_triesFrom_95 : decode cX7_triesFrom 95 = .ok (.putfield 248, 3) := by decide +kernel
theorem dX7_triesFrom_98 : decode cX7_triesFrom 98 = .ok (.aload_n 0, 1) := by decide +kernel
theorem dX7_triesFrom_99 : decode cX7_triesFrom 99 = .ok (.iload 7, 2) := by decide +kernel
theorem dX7_triesFrom_101 : decode cX7_triesFrom 101 = .ok (.iload_n 1, 1) := by decide +kernel
theorem dX7_triesFrom_102 : decode cX7_triesFrom 102 = .ok (.invokevirtual 273, 3) := by decide +kernel
theorem dX7_triesFrom_105 : decode cX7_triesFrom 105 = .ok (.aload_n 0, 1) := by decide +kernel
theorem dX7_triesFrom_106 : decode cX7_triesFrom 106 = .ok (.iload_n 1, 1) := by decide +kernel
theorem dX7_triesFrom_107 : decode cX7_triesFrom 107 = .ok (.iconst 1, 1) := by decide +kernel
theorem dX7_triesFrom_108 : decode cX7_triesFrom 108 = .ok (.iadd, 1) := by decide +kernel
theorem dX7_triesFrom_109 : decode cX7_triesFrom 109 = .ok (.iload_n 2, 1) := by decide +kernel
theorem dX7_triesFrom_110 : decode cX7_triesFrom 110 = .ok (.iconst 1, 1) := by decide +kernel
theorem dX7_triesFrom_111 : decode cX7_triesFrom 111 = .ok (.iload 7, 2) := by decide +kernel
theorem dX7_triesFrom_113 : decode cX7_triesFrom 113 = .ok (.ishl, 1) := by decide +kernel
theorem dX7_triesFrom_114 : decode cX7_triesFrom 114 = .ok (.ior, 1) := by decide +kernel
theorem dX7_triesFrom_115 : decode cX7_triesFrom 115 = .ok (.bipush 10, 2) := by decide +kernel
theorem dX7_triesFrom_117 : decode cX7_triesFrom 117 = .ok (.iload_n 3, 1) := by decide +kernel
theorem dX7_triesFrom_118 : decode cX7_triesFrom 118 = .ok (.imul, 1) := by decide +kernel
theorem dX7_triesFrom_119 : decode cX7_triesFrom 119 = .ok (.iload 7, 2) := by decide +kernel
theorem dX7_triesFrom_121 : decode cX7_triesFrom 121 = .ok (.iadd, 1) := by decide +kernel
theorem dX7_triesFrom_122 : decode cX7_triesFrom 122 = .ok (.iconst 1, 1) := by decide +kernel
theorem dX7_triesFrom_123 : decode cX7_triesFrom 123 = .ok (.iadd, 1) := by decide +kernel
theorem dX7_triesFrom_124 : decode cX7_triesFrom 124 = .ok (.invokevirtual 313, 3) := by decide +kernel
theorem dX7_triesFrom_127 : decode cX7_triesFrom 127 = .ok (.iinc 7 1, 3) := by decide +kernel
theorem dX7_triesFrom_130 : decode cX7_triesFrom 130 = .ok (.goto (-68), 3) := by decide +kernel
theorem dX7_triesFrom_133 : decode cX7_triesFrom 133 = .ok (.return_, 1) := by decide +kernel
theorem dX7_best_0 : decode cX7_best 0 = .ok (.iload_n 1, 1) := by decide +kernel
theorem dX7_best_1 : decode cX7_best 1 = .ok (.i2l, 1) := by decide +kernel
theorem dX7_best_2 : decode cX7_best 2 = .ok (.lconst 0, 1) := by decide +kernel
theorem dX7_best_3 : decode cX7_best 3 = .ok (.lconst 1, 1) := by decide +kernel
theorem dX7_best_4 : decode cX7_best 4 = .ok (.invokestatic 73, 3) := by decide +kernel
theorem dX7_best_7 : decode cX7_best 7 = .ok (.ifCond .ne 7, 3) := by decide +kernel
theorem dX7_best_10 : decode cX7_best 10 = .ok (.ldc_w 294, 3) := by decide +kernel
theorem dX7_best_13 : decode cX7_best 13 = .ok (.ireturn, 1) := by decide +kernel
theorem dX7_best_14 : decode cX7_best 14 = .ok (.aload_n 0, 1) := by decide +kernel
theorem dX7_best_15 : decode cX7_best 15 = .ok (.invokevirtual 270, 3) := by decide +kernel
theorem dX7_best_18 : decode cX7_best 18 = .ok (.aload_n 0, 1) := by decide +kernel
theorem dX7_best_19 : decode cX7_best 19 = .ok (.iconst (-1), 1) := by decide +kernel
theorem dX7_best_20 : decode cX7_best 20 = .ok (.putfield 307, 3) := by decide +kernel
theorem dX7_best_23 : decode cX7_best 23 = .ok (.aload_n 0, 1) := by decide +kernel
theorem dX7_best_24 : decode cX7_best 24 = .ok (.iconst 0, 1) := by decide +kernel
theorem dX7_best_25 : decode cX7_best 25 = .ok (.iconst 0, 1) := by decide +kernel
theorem dX7_best_26 : decode cX7_best 26 = .ok (.iconst 0, 1) := by decide +kernel
theorem dX7_best_27 : decode cX7_best 27 = .ok (.invokevirtual 313, 3) := by decide +kernel
theorem dX7_best_30 : decode cX7_best 30 = .ok (.iload_n 1, 1) := by decide +kernel
theorem dX7_best_31 : decode cX7_best 31 = .ok (.ifCond .ne 10, 3) := by decide +kernel
theorem dX7_best_34 : decode cX7_best 34 = .ok (.aload_n 0, 1) := by decide +kernel
theorem dX7_best_35 : decode cX7_best 35 = .ok (.getfield 310, 3) := by decide +kernel
theorem dX7_best_38 : decode cX7_best 38 = .ok (.goto 7, 3) := by decide +kernel
theorem dX7_best_41 : decode cX7_best 41 = .ok (.aload_n 0, 1) := by decide +kernel
theorem dX7_best_42 : decode cX7_best 42 = .ok (.getfield 307, 3) := by decide +kernel
theorem dX7_best_45 : decode cX7_best 45 = .ok (.ireturn, 1) := by decide +kernel
theorem dX7_setting_0 : decode cX7_setting 0 = .ok (.iload_n 1, 1) := by decide +kernel
theorem dX7_setting_1 : decode cX7_setting 1 = .ok (.i2l, 1) := by decide +kernel
theorem dX7_setting_2 : decode cX7_setting 2 = .ok (.lconst 0, 1) := by decide +kernel
theorem dX7_setting_3 : decode cX7_setting 3 = .ok (.lconst 1, 1) := by decide +kernel
theorem dX7_setting_4 : decode cX7_setting 4 = .ok (.invokestatic 73, 3) := by decide +kernel
theorem dX7_setting_7 : decode cX7_setting 7 = .ok (.ifCond .ne 7, 3) := by decide +kernel
theorem dX7_setting_10 : decode cX7_setting 10 = .ok (.ldc_w 294, 3) := by decide +kernel
theorem dX7_setting_13 : decode cX7_setting 13 = .ok (.ireturn, 1) := by decide +kernel
theorem dX7_setting_14 : decode cX7_setting 14 = .ok (.aload_n 0, 1) := by decide +kernel
theorem dX7_setting_15 : decode cX7_setting 15 = .ok (.invokevirtual 270, 3) := by decide +kernel
theorem dX7_setting_18 : decode cX7_setting 18 = .ok (.iconst 0, 1) := by decide +kernel
theorem dX7_setting_19 : decode cX7_setting 19 = .ok (.istore_n 2, 1) := by decide +kernel
theorem dX7_setting_20 : decode cX7_setting 20 = .ok (.iconst 0, 1) := by decide +kernel
theorem dX7_setting_21 : decode cX7_setting 21 = .ok (.istore_n 3, 1) := by decide +kernel
theorem dX7_setting_22 : decode cX7_setting 22 = .ok (.iconst 0, 1) := by decide +kernel
theorem dX7_setting_23 : decode cX7_setting 23 = .ok (.istore 4, 2) := by decide +kernel
theorem dX7_setting_25 : decode cX7_setting 25 = .ok (.iload 4, 2) := by decide +kernel
theorem dX7_setting_27 : decode cX7_setting 27 = .ok (.aload_n 0, 1) := by decide +kernel
theorem dX7_setting_28 : decode cX7_setting 28 = .ok (.getfield 70, 3) := by decide +kernel
theorem dX7_setting_31 : decode cX7_setting 31 = .ok (.if_icmp .ge 96, 3) := by decide +kernel
theorem dX7_setting_34 : decode cX7_setting 34 = .ok (.iconst (-1), 1) := by decide +kernel
theorem dX7_setting_35 : decode cX7_setting 35 = .ok (.istore 5, 2) := by decide +kernel
theorem dX7_setting_37 : decode cX7_setting 37 = .ok (.iconst 0, 1) := by decide +kernel
theorem dX7_setting_38 : decode cX7_setting 38 = .ok (.istore 6, 2) := by decide +kernel
theorem dX7_setting_40 : decode cX7_setting 40 = .ok (.iload 6, 2) := by decide +kernel
theorem dX7_setting_42 : decode cX7_setting 42 = .ok (.aload_n 0, 1) := by decide +kernel
theorem dX7_setting_43 : decode cX7_setting 43 = .ok (.getfield 70, 3) := by decide +kernel
theorem dX7_setting_46 : decode cX7_setting 46 = .ok (.if_icmp .ge 50, 3) := by decide +kernel
theorem dX7_setting_49 : decode cX7_setting 49 = .ok (.iload_n 2, 1) := by decide +kernel
theorem dX7_setting_50 : decode cX7_setting 50 = .ok (.iload 6, 2) := by decide +kernel
theorem dX7_setting_52 : decode cX7_setting 52 = .ok (.ishr, 1) := by decide +kernel
theorem dX7_setting_53 : decode cX7_setting 53 = .ok (.iconst 1, 1) := by decide +kernel
theorem dX7_setting_54 : decode cX7_setting 54 = .ok (.iand, 1) := by decide +kernel
theorem dX7_setting_55 : decode cX7_setting 55 = .ok (.ifCond .ne 31, 3) := by decide +kernel
theorem dX7_setting_58 : decode cX7_setting 58 = .ok (.iload 5, 2) := by decide +kernel
theorem dX7_setting_60 : decode cX7_setting 60 = .ok (.iconst (-1), 1) := by decide +kernel
theorem dX7_setting_61 : decode cX7_setting 61 = .ok (.if_icmp .eq 20, 3) := by decide +kernel
theorem dX7_setting_64 : decode cX7_setting 64 = .ok (.aload_n 0, 1) := by decide +kernel
theorem dX7_setting_65 : decode cX7_setting 65 = .ok (.iload 6, 2) := by decide +kernel
theorem dX7_setting_67 : decode cX7_setting 67 = .ok (.iconst 3, 1) := by decide +kernel
theorem dX7_setting_68 : decode cX7_setting 68 = .ok (.invokevirtual 87, 3) := by decide +kernel
theorem dX7_setting_71 : decode cX7_setting 71 = .ok (.aload_n 0, 1) := by decide +kernel
theorem dX7_setting_72 : decode cX7_setting 72 = .ok (.iload 5, 2) := by decide +kernel
theorem dX7_setting_74 : decode cX7_setting 74 = .ok (.iconst 3, 1) := by decide +kernel
theorem dX7_setting_75 : decode cX7_setting 75 = .ok (.invokevirtual 87, 3) := by decide +kernel
theorem dX7_setting_78 : decode cX7_setting 78 = .ok (.if_icmp .ge 8, 3) := by decide +kernel
theorem dX7_setting_81 : decode cX7_setting 81 = .ok (.iload 6, 2) := by decide +kernel
theorem dX7_setting_83 : decode cX7_setting 83 = .ok (.goto 5, 3) := by decide +kernel
theorem dX7_setting_86 : decode cX7_setting 86 = .ok (.iload 5, 2) := by decide +kernel
theorem dX7_setting_88 : decode cX7_setting 88 = .ok (.istore 5, 2) := by decide +kernel
theorem dX7_setting_90 : decode cX7_setting 90 = .ok (.iinc 6 1, 3) := by decide +kernel
theorem dX7_setting_93 : decode cX7_setting 93 = .ok (.goto (-53), 3) := by decide +kernel
theorem dX7_setting_96 : decode cX7_setting 96 = .ok (.iload_n 2, 1) := by decide +kernel
theorem dX7_setting_97 : decode cX7_setting 97 = .ok (.iconst 1, 1) := by decide +kernel
theorem dX7_setting_98 : decode cX7_setting 98 = .ok (.iload 5, 2) := by decide +kernel
theorem dX7_setting_100 : decode cX7_setting 100 = .ok (.ishl, 1) := by decide +kernel
theorem dX7_setting_101 : decode cX7_setting 101 = .ok (.ior, 1) := by decide +kernel
theorem dX7_setting_102 : decode cX7_setting 102 = .ok (.istore_n 2, 1) := by decide +kernel
theorem dX7_setting_103 : decode cX7_setting 103 = .ok (.bipush 10, 2) := by decide +kernel
theorem dX7_setting_105 : decode cX7_setting 105 = .ok (.iload_n 3, 1) := by decide +kernel
theorem dX7_setting_106 : decode cX7_setting 106 = .ok (.imul, 1) := by decide +kernel
theorem dX7_setting_107 : decode cX7_setting 107 = .ok (.iload 5, 2) := by decide +kernel
theorem dX7_setting_109 : decode cX7_setting 109 = .ok (.iadd, 1) := by decide +kernel
theorem dX7_setting_110 : decode cX7_setting 110 = .ok (.iconst 1, 1) := by decide +kernel
theorem dX7_setting_111 : decode cX7_setting 111 = .ok (.iadd, 1) := by decide +kernel
theorem dX7_setting_112 : decode cX7_setting 112 = .ok (.istore_n 3, 1) := by decide +kernel
theorem dX7_setting_113 : decode cX7_setting 113 = .ok (.aload_n 0, 1) := by decide +kernel
theorem dX7_setting_114 : decode cX7_setting 114 = .ok (.iload 5, 2) := by decide +kernel
theorem dX7_setting_116 : decode cX7_setting 116 = .ok (.iload 4, 2) := by decide +kernel
theorem dX7_setting_118 : decode cX7_setting 118 = .ok (.invokevirtual 273, 3) := by decide +kernel
theorem dX7_setting_121 : decode cX7_setting 121 = .ok (.iinc 4 1, 3) := by decide +kernel
theorem dX7_setting_124 : decode cX7_setting 124 = .ok (.goto (-99), 3) := by decide +kernel
theorem dX7_setting_127 : decode cX7_setting 127 = .ok (.iload_n 1, 1) := by decide +kernel
theorem dX7_setting_128 : decode cX7_setting 128 = .ok (.ifCond .ne 10, 3) := by decide +kernel
theorem dX7_setting_131 : decode cX7_setting 131 = .ok (.aload_n 0, 1) := by decide +kernel
theorem dX7_setting_132 : decode cX7_setting 132 = .ok (.getfield 248, 3) := by decide +kernel
theorem dX7_setting_135 : decode cX7_setting 135 = .ok (.goto 4, 3) := by decide +kernel
theorem dX7_setting_138 : decode cX7_setting 138 = .ok (.iload_n 3, 1) := by decide +kernel
theorem dX7_setting_139 : decode cX7_setting 139 = .ok (.ireturn, 1) := by decide +kernel
theorem dX7_late_0 : decode cX7_late 0 = .ok (.aload_n 0, 1) := by decide +kernel
theorem dX7_late_1 : decode cX7_late 1 = .ok (.invokevirtual 295, 3) := by decide +kernel
theorem dX7_late_4 : decode cX7_late 4 = .ok (.aload_n 0, 1) := by decide +kernel
theorem dX7_late_5 : decode cX7_late 5 = .ok (.getfield 251, 3) := by decide +kernel
theorem dX7_late_8 : decode cX7_late 8 = .ok (.invokestatic 288, 3) := by decide +kernel
theorem dX7_late_11 : decode cX7_late 11 = .ok (.istore_n 1, 1) := by decide +kernel
theorem dX7_late_12 : decode cX7_late 12 = .ok (.aload_n 0, 1) := by decide +kernel
theorem dX7_late_13 : decode cX7_late 13 = .ok (.getfield 23, 3) := by decide +kernel
theorem dX7_late_16 : decode cX7_late 16 = .ok (.bipush 6, 2) := by decide +kernel
theorem dX7_late_18 : decode cX7_late 18 = .ok (.iaload, 1) := by decide +kernel
theorem dX7_late_19 : decode cX7_late 19 = .ok (.istore_n 2, 1) := by decide +kernel
theorem dX7_late_20 : decode cX7_late 20 = .ok (.iconst (-1), 1) := by decide +kernel
theorem dX7_late_21 : decode cX7_late 21 = .ok (.istore_n 3, 1) := by decide +kernel
theorem dX7_late_22 : decode cX7_late 22 = .ok (.iconst 0, 1) := by decide +kernel
theorem dX7_late_23 : decode cX7_late 23 = .ok (.istore 4, 2) := by decide +kernel
theorem dX7_late_25 : decode cX7_late 25 = .ok (.iload 4, 2) := by decide +kernel
theorem dX7_late_27 : decode cX7_late 27 = .ok (.sipush 200, 3) := by decide +kernel
theorem dX7_late_30 : decode cX7_late 30 = .ok (.if_icmp .ge 40, 3) := by decide +kernel
theorem dX7_late_33 : decode cX7_late 33 = .ok (.aload_n 0, 1) := by decide +kernel
theorem dX7_late_34 : decode cX7_late 34 = .ok (.getfield 23, 3) := by decide +kernel
theorem dX7_late_37 : decode cX7_late 37 = .ok (.bipush 6, 2) := by decide +kernel
theorem dX7_late_39 : decode cX7_late 39 = .ok (.iload 4, 2) := by decide +kernel
theorem dX7_late_41 : decode cX7_late 41 = .ok (.iastore, 1) := by decide +kernel
theorem dX7_late_42 : decode cX7_late 42 = .ok (.aload_n 0, 1) := by decide +kernel
theorem dX7_late_43 : decode cX7_late 43 = .ok (.invokevirtual 295, 3) := by decide +kernel
theorem dX7_late_46 : decode cX7_late 46 = .ok (.aload_n 0, 1) := by decide +kernel
theorem dX7_late_47 : decode cX7_late 47 = .ok (.getfield 251, 3) := by decide +kernel
theorem dX7_late_50 : decode cX7_late 50 = .ok (.invokestatic 288, 3) := by decide +kernel
theorem dX7_late_53 : decode cX7_late 53 = .ok (.iload_n 1, 1) := by decide +kernel
theorem dX7_late_54 : decode cX7_late 54 = .ok (.if_icmp .lt 8, 3) := by decide +kernel
theorem dX7_late_57 : decode cX7_late 57 = .ok (.iload 4, 2) := by decide +kernel
theorem dX7_late_59 : decode cX7_late 59 = .ok (.goto 4, 3) := by decide +kernel
theorem dX7_late_62 : decode cX7_late 62 = .ok (.iload_n 3, 1) := by decide +kernel
theorem dX7_late_63 : decode cX7_late 63 = .ok (.istore_n 3, 1) := by decide +kernel
theorem dX7_late_64 : decode cX7_late 64 = .ok (.iinc 4 1, 3) := by decide +kernel
theorem dX7_late_67 : decode cX7_late 67 = .ok (.goto (-42), 3) := by decide +kernel
theorem dX7_late_70 : decode cX7_late 70 = .ok (.aload_n 0, 1) := by decide +kernel
theorem dX7_late_71 : decode cX7_late 71 = .ok (.getfield 23, 3) := by decide +kernel
theorem dX7_late_74 : decode cX7_late 74 = .ok (.bipush 6, 2) := by decide +kernel
theorem dX7_late_76 : decode cX7_late 76 = .ok (.iload_n 2, 1) := by decide +kernel
theorem dX7_late_77 : decode cX7_late 77 = .ok (.iastore, 1) := by decide +kernel
theorem dX7_late_78 : decode cX7_late 78 = .ok (.iload_n 3, 1) := by decide +kernel
theorem dX7_late_79 : decode cX7_late 79 = .ok (.ireturn, 1) := by decide +kernel
theorem dX7_sleep_0 : decode cX7_sleep 0 = .ok (.iload_n 1, 1) := by decide +kernel
theorem dX7_sleep_1 : decode cX7_sleep 1 = .ok (.i2l, 1) := by decide +kernel
theorem dX7_sleep_2 : decode cX7_sleep 2 = .ok (.lconst 1, 1) := by decide +kernel
theorem dX7_sleep_3 : decode cX7_sleep 3 = .ok (.ldc2_w 98, 3) := by decide +kernel
theorem dX7_sleep_6 : decode cX7_sleep 6 = .ok (.invokestatic 73, 3) := by decide +kernel
theorem dX7_sleep_9 : decode cX7_sleep 9 = .ok (.ifCond .eq 13, 3) := by decide +kernel
theorem dX7_sleep_12 : decode cX7_sleep 12 = .ok (.iload_n 2, 1) := by decide +kernel
theorem dX7_sleep_13 : decode cX7_sleep 13 = .ok (.i2l, 1) := by decide +kernel
theorem dX7_sleep_14 : decode cX7_sleep 14 = .ok (.lconst 0, 1) := by decide +kernel
theorem dX7_sleep_15 : decode cX7_sleep 15 = .ok (.lconst 1, 1) := by decide +kernel
theorem dX7_sleep_16 : decode cX7_sleep 16 = .ok (.invokestatic 73, 3) := by decide +kernel
theorem dX7_sleep_19 : decode cX7_sleep 19 = .ok (.ifCond .ne 7, 3) := by decide +kernel
theorem dX7_sleep_22 : decode cX7_sleep 22 = .ok (.ldc_w 294, 3) := by decide +kernel
theorem dX7_sleep_25 : decode cX7_sleep 25 = .ok (.ireturn, 1) := by decide +kernel
theorem dX7_sleep_26 : decode cX7_sleep 26 = .ok (.iconst (-1), 1) := by decide +kernel
theorem dX7_sleep_27 : decode cX7_sleep 27 = .ok (.istore_n 3, 1) := by decide +kernel
theorem dX7_sleep_28 : decode cX7_sleep 28 = .ok (.iconst 0, 1) := by decide +kernel
theorem dX7_sleep_29 : decode cX7_sleep 29 = .ok (.istore 4, 2) := by decide +kernel
theorem dX7_sleep_31 : decode cX7_sleep 31 = .ok (.iconst 0, 1) := by decide +kernel
theorem dX7_sleep_32 : decode cX7_sleep 32 = .ok (.istore 5, 2) := by decide +kernel
theorem dX7_sleep_34 : decode cX7_sleep 34 = .ok (.iload 5, 2) := by decide +kernel
theorem dX7_sleep_36 : decode cX7_sleep 36 = .ok (.aload_n 0, 1) := by decide +kernel
theorem dX7_sleep_37 : decode cX7_sleep 37 = .ok (.getfield 70, 3) := by decide +kernel
theorem dX7_sleep_40 : decode cX7_sleep 40 = .ok (.if_icmp .gt 43, 3) := by decide +kernel
theorem dX7_sleep_43 : decode cX7_sleep 43 = .ok (.aload_n 0, 1) := by decide +kernel
theorem dX7_sleep_44 : decode cX7_sleep 44 = .ok (.aload_n 0, 1) := by decide +kernel
theorem dX7_sleep_45 : decode cX7_sleep 45 = .ok (.invokevirtual 277, 3) := by decide +kernel
theorem dX7_sleep_48 : decode cX7_sleep 48 = .ok (.iload 5, 2) := by decide +kernel
theorem dX7_sleep_50 : decode cX7_sleep 50 = .ok (.iload_n 1, 1) := by decide +kernel
theorem dX7_sleep_51 : decode cX7_sleep 51 = .ok (.invokevirtual 280, 3) := by decide +kernel
theorem dX7_sleep_54 : decode cX7_sleep 54 = .ok (.iload_n 3, 1) := by decide +kernel
theorem dX7_sleep_55 : decode cX7_sleep 55 = .ok (.iconst (-1), 1) := by decide +kernel
theorem dX7_sleep_56 : decode cX7_sleep 56 = .ok (.if_icmp .eq 12, 3) := by decide +kernel
theorem dX7_sleep_59 : decode cX7_sleep 59 = .ok (.aload_n 0, 1) := by decide +kernel
theorem dX7_sleep_60 : decode cX7_sleep 60 = .ok (.getfield 248, 3) := by decide +kernel
theorem dX7_sleep_63 : decode cX7_sleep 63 = .ok (.iload 4, 2) := by decide +kernel
theorem dX7_sleep_65 : decode cX7_sleep 65 = .ok (.if_icmp .le 12, 3) := by decide +kernel
theorem dX7_sleep_68 : decode cX7_sleep 68 = .ok (.iload 5, 2) := by decide +kernel
theorem dX7_sleep_70 : decode cX7_sleep 70 = .ok (.istore_n 3, 1) := by decide +kernel
theorem dX7_sleep_71 : decode cX7_sleep 71 = .ok (.aload_n 0, 1) := by decide +kernel
theorem dX7_sleep_72 : decode cX7_sleep 72 = .ok (.getfield 248, 3) := by decide +kernel
theorem dX7_sleep_75 : decode cX7_sleep 75 = .ok (.istore 4, 2) := by decide +kernel
theorem dX7_sleep_77 : decode cX7_sleep 77 = .ok (.iinc 5 1, 3) := by decide +kernel
theorem dX7_sleep_80 : decode cX7_sleep 80 = .ok (.goto (-46), 3) := by decide +kernel
theorem dX7_sleep_83 : decode cX7_sleep 83 = .ok (.iload_n 2, 1) := by decide +kernel
theorem dX7_sleep_84 : decode cX7_sleep 84 = .ok (.ifCond .ne 7, 3) := by decide +kernel
theorem dX7_sleep_87 : decode cX7_sleep 87 = .ok (.iload_n 3, 1) := by decide +kernel
theorem dX7_sleep_88 : decode cX7_sleep 88 = .ok (.goto 5, 3) := by decide +kernel
theorem dX7_sleep_91 : decode cX7_sleep 91 = .ok (.iload 4, 2) := by decide +kernel
theorem dX7_sleep_93 : decode cX7_sleep 93 = .ok (.ireturn, 1) := by decide +kernel
theorem dX7_moon_0 : decode cX7_moon 0 = .ok (.iload_n 1, 1) := by decide +kernel
theorem dX7_moon_1 : decode cX7_moon 1 = .ok (.i2l, 1) := by decide +kernel
theorem dX7_moon_2 : decode cX7_moon 2 = .ok (.lconst 0, 1) := by decide +kernel
theorem dX7_moon_3 : decode cX7_moon 3 = .ok (.lconst 1, 1) := by decide +kernel
theorem dX7_moon_4 : decode cX7_moon 4 = .ok (.invokestatic 73, 3) := by decide +kernel
theorem dX7_moon_7 : decode cX7_moon 7 = .ok (.ifCond .ne 7, 3) := by decide +kernel
theorem dX7_moon_10 : decode cX7_moon 10 = .ok (.ldc_w 294, 3) := by decide +kernel
theorem dX7_moon_13 : decode cX7_moon 13 = .ok (.ireturn, 1) := by decide +kernel
theorem dX7_moon_14 : decode cX7_moon 14 = .ok (.aload_n 0, 1) := by decide +kernel
theorem dX7_moon_15 : decode cX7_moon 15 = .ok (.getfield 23, 3) := by decide +kernel
theorem dX7_moon_18 : decode cX7_moon 18 = .ok (.iconst 0, 1) := by decide +kernel
theorem dX7_moon_19 : decode cX7_moon 19 = .ok (.iaload, 1) := by decide +kernel
theorem dX7_moon_20 : decode cX7_moon 20 = .ok (.istore_n 2, 1) := by decide +kernel
theorem dX7_moon_21 : decode cX7_moon 21 = .ok (.iconst (-1), 1) := by decide +kernel
theorem dX7_moon_22 : decode cX7_moon 22 = .ok (.istore_n 3, 1) := by decide +kernel
theorem dX7_moon_23 : decode cX7_moon 23 = .ok (.iconst 0, 1) := by decide +kernel
theorem dX7_moon_24 : decode cX7_moon 24 = .ok (.istore 4, 2) := by decide +kernel
theorem dX7_moon_26 : decode cX7_moon 26 = .ok (.iconst 0, 1) := by decide +kernel
theorem dX7_moon_27 : decode cX7_moon 27 = .ok (.istore 5, 2) := by decide +kernel
theorem dX7_moon_29 : decode cX7_moon 29 = .ok (.iload 5, 2) := by decide +kernel
theorem dX7_moon_31 : decode cX7_moon 31 = .ok (.bipush 10, 2) := by decide +kernel
theorem dX7_moon_33 : decode cX7_moon 33 = .ok (.if_icmp .ge 44, 3) := by decide +kernel
theorem dX7_moon_36 : decode cX7_moon 36 = .ok (.aload_n 0, 1) := by decide +kernel
theorem dX7_moon_37 : decode cX7_moon 37 = .ok (.getfield 23, 3) := by decide +kernel
theorem dX7_moon_40 : decode cX7_moon 40 = .ok (.iconst 0, 1) := by decide +kernel
theorem dX7_moon_41 : decode cX7_moon 41 = .ok (.iload 5, 2) := by decide +kernel
theorem dX7_moon_43 : decode cX7_moon 43 = .ok (.iastore, 1) := by decide +kernel
theorem dX7_moon_44 : decode cX7_moon 44 = .ok (.aload_n 0, 1) := by decide +kernel
theorem dX7_moon_45 : decode cX7_moon 45 = .ok (.invokevirtual 295, 3) := by decide +kernel
theorem dX7_moon_48 : decode cX7_moon 48 = .ok (.iload_n 3, 1) := by decide +kernel
theorem dX7_moon_49 : decode cX7_moon 49 = .ok (.iconst (-1), 1) := by decide +kernel
theorem dX7_moon_50 : decode cX7_moon 50 = .ok (.if_icmp .eq 12, 3) := by decide +kernel
theorem dX7_moon_53 : decode cX7_moon 53 = .ok (.aload_n 0, 1) := by decide +kernel
theorem dX7_moon_54 : decode cX7_moon 54 = .ok (.getfield 248, 3) := by decide +kernel
theorem dX7_moon_57 : decode cX7_moon 57 = .ok (.iload 4, 2) := by decide +kernel
theorem dX7_moon_59 : decode cX7_moon 59 = .ok (.if_icmp .le 12, 3) := by decide +kernel
theorem dX7_moon_62 : decode cX7_moon 62 = .ok (.iload 5, 2) := by decide +kernel
theorem dX7_moon_64 : decode cX7_moon 64 = .ok (.istore_n 3, 1) := by decide +kernel
theorem dX7_moon_65 : decode cX7_moon 65 = .ok (.aload_n 0, 1) := by decide +kernel
theorem dX7_moon_66 : decode cX7_moon 66 = .ok (.getfield 248, 3) := by decide +kernel
theorem dX7_moon_69 : decode cX7_moon 69 = .ok (.istore 4, 2) := by decide +kernel
theorem dX7_moon_71 : decode cX7_moon 71 = .ok (.iinc 5 1, 3) := by decide +kernel
theorem dX7_moon_74 : decode cX7_moon 74 = .ok (.goto (-45), 3) := by decide +kernel
theorem dX7_moon_77 : decode cX7_moon 77 = .ok (.aload_n 0, 1) := by decide +kernel
theorem dX7_moon_78 : decode cX7_moon 78 = .ok (.getfield 23, 3) := by decide +kernel
theorem dX7_moon_81 : decode cX7_moon 81 = .ok (.iconst 0, 1) := by decide +kernel
theorem dX7_moon_82 : decode cX7_moon 82 = .ok (.iload_n 2, 1) := by decide +kernel
theorem dX7_moon_83 : decode cX7_moon 83 = .ok (.iastore, 1) := by decide +kernel
theorem dX7_moon_84 : decode cX7_moon 84 = .ok (.iload_n 1, 1) := by decide +kernel
theorem dX7_moon_85 : decode cX7_moon 85 = .ok (.ifCond .ne 7, 3) := by decide +kernel
theorem dX7_moon_88 : decode cX7_moon 88 = .ok (.iload_n 3, 1) := by decide +kernel
theorem dX7_moon_89 : decode cX7_moon 89 = .ok (.goto 5, 3) := by decide +kernel
theorem dX7_moon_92 : decode cX7_moon 92 = .ok (.iload 4, 2) := by decide +kernel
theorem dX7_moon_94 : decode cX7_moon 94 = .ok (.ireturn, 1) := by decide +kernel
theorem dX7_leave_0 : decode cX7_leave 0 = .ok (.iload_n 1, 1) := by decide +kernel
theorem dX7_leave_1 : decode cX7_leave 1 = .ok (.i2l, 1) := by decide +kernel
theorem dX7_leave_2 : decode cX7_leave 2 = .ok (.lconst 0, 1) := by decide +kernel
theorem dX7_leave_3 : decode cX7_leave 3 = .ok (.lconst 1, 1) := by decide +kernel
theorem dX7_leave_4 : decode cX7_leave 4 = .ok (.invokestatic 73, 3) := by decide +kernel
theorem dX7_leave_7 : decode cX7_leave 7 = .ok (.ifCond .ne 7, 3) := by decide +kernel
theorem dX7_leave_10 : decode cX7_leave 10 = .ok (.ldc_w 294, 3) := by decide +kernel
theorem dX7_leave_13 : decode cX7_leave 13 = .ok (.ireturn, 1) := by decide +kernel
theorem dX7_leave_14 : decode cX7_leave 14 = .ok (.aload_n 0, 1) := by decide +kernel
theorem dX7_leave_15 : decode cX7_leave 15 = .ok (.invokevirtual 295, 3) := by decide +kernel
theorem dX7_leave_18 : decode cX7_leave 18 = .ok (.aload_n 0, 1) := by decide +kernel
theorem dX7_leave_19 : decode cX7_leave 19 = .ok (.getfield 248, 3) := by decide +kernel
theorem dX7_leave_22 : decode cX7_leave 22 = .ok (.istore_n 2, 1) := by decide +kernel
theorem dX7_leave_23 : decode cX7_leave 23 = .ok (.iconst (-1), 1) := by decide +kernel
theorem dX7_leave_24 : decode cX7_leave 24 = .ok (.istore_n 3, 1) := by decide +kernel
theorem dX7_leave_25 : decode cX7_leave 25 = .ok (.iconst 0, 1) := by decide +kernel
theorem dX7_leave_26 : decode cX7_leave 26 = .ok (.istore 4, 2) := by decide +kernel
theorem dX7_leave_28 : decode cX7_leave 28 = .ok (.iload 4, 2) := by decide +kernel
theorem dX7_leave_30 : decode cX7_leave 30 = .ok (.aload_n 0, 1) := by decide +kernel
theorem dX7_leave_31 : decode cX7_leave 31 = .ok (.getfield 70, 3) := by decide +kernel
theorem dX7_leave_34 : decode cX7_leave 34 = .ok (.if_icmp .ge 42, 3) := by decide +kernel
theorem dX7_leave_37 : decode cX7_leave 37 = .ok (.aload_n 0, 1) := by decide +kernel
theorem dX7_leave_38 : decode cX7_leave 38 = .ok (.aload_n 0, 1) := by decide +kernel
theorem dX7_leave_39 : decode cX7_leave 39 = .ok (.invokevirtual 277, 3) := by decide +kernel
theorem dX7_leave_42 : decode cX7_leave 42 = .ok (.iconst 1, 1) := by decide +kernel
theorem dX7_leave_43 : decode cX7_leave 43 = .ok (.iload 4, 2) := by decide +kernel
theorem dX7_leave_45 : decode cX7_leave 45 = .ok (.ishl, 1) := by decide +kernel
theorem dX7_leave_46 : decode cX7_leave 46 = .ok (.iconst (-1), 1) := by decide +kernel
theorem dX7_leave_47 : decode cX7_leave 47 = .ok (.ixor, 1) := by decide +kernel
theorem dX7_leave_48 : decode cX7_leave 48 = .ok (.iand, 1) := by decide +kernel
theorem dX7_leave_49 : decode cX7_leave 49 = .ok (.iconst (-1), 1) := by decide +kernel
theorem dX7_leave_50 : decode cX7_leave 50 = .ok (.iconst 0, 1) := by decide +kernel
theorem dX7_leave_51 : decode cX7_leave 51 = .ok (.invokevirtual 280, 3) := by decide +kernel
theorem dX7_leave_54 : decode cX7_leave 54 = .ok (.aload_n 0, 1) := by decide +kernel
theorem dX7_leave_55 : decode cX7_leave 55 = .ok (.getfield 248, 3) := by decide +kernel
theorem dX7_leave_58 : decode cX7_leave 58 = .ok (.iload_n 2, 1) := by decide +kernel
theorem dX7_leave_59 : decode cX7_leave 59 = .ok (.if_icmp .le 11, 3) := by decide +kernel
theorem dX7_leave_62 : decode cX7_leave 62 = .ok (.iload 4, 2) := by decide +kernel
theorem dX7_leave_64 : decode cX7_leave 64 = .ok (.istore_n 3, 1) := by decide +kernel
theorem dX7_leave_65 : decode cX7_leave 65 = .ok (.aload_n 0, 1) := by decide +kernel
theorem dX7_leave_66 : decode cX7_leave 66 = .ok (.getfield 248, 3) := by decide +kernel
theorem dX7_leave_69 : decode cX7_leave 69 = .ok (.istore_n 2, 1) := by decide +kernel
theorem dX7_leave_70 : decode cX7_leave 70 = .ok (.iinc 4 1, 3) := by decide +kernel
theorem dX7_leave_73 : decode cX7_leave 73 = .ok (.goto (-45), 3) := by decide +kernel
theorem dX7_leave_76 : decode cX7_leave 76 = .ok (.iload_n 1, 1) := by decide +kernel
theorem dX7_leave_77 : decode cX7_leave 77 = .ok (.ifCond .ne 7, 3) := by decide +kernel
theorem dX7_leave_80 : decode cX7_leave 80 = .ok (.iload_n 3, 1) := by decide +kernel
theorem dX7_leave_81 : decode cX7_leave 81 = .ok (.goto 4, 3) := by decide +kernel
theorem dX7_leave_84 : decode cX7_leave 84 = .ok (.iload_n 2, 1) := by decide +kernel
theorem dX7_leave_85 : decode cX7_leave 85 = .ok (.ireturn, 1) := by decide +kernel
theorem dX7_two_0 : decode cX7_two 0 = .ok (.iload_n 1, 1) := by decide +kernel
theorem dX7_two_1 : decode cX7_two 1 = .ok (.i2l, 1) := by decide +kernel
theorem dX7_two_2 : decode cX7_two 2 = .ok (.lconst 0, 1) := by decide +kernel
theorem dX7_two_3 : decode cX7_two 3 = .ok (.lconst 1, 1) := by decide +kernel
theorem dX7_two_4 : decode cX7_two 4 = .ok (.invokestatic 73, 3) := by decide +kernel
theorem dX7_two_7 : decode cX7_two 7 = .ok (.ifCond .ne 7, 3) := by decide +kernel
theorem dX7_two_10 : decode cX7_two 10 = .ok (.ldc_w 294, 3) := by decide +kernel
theorem dX7_two_13 : decode cX7_two 13 = .ok (.ireturn, 1) := by decide +kernel
theorem dX7_two_14 : decode cX7_two 14 = .ok (.iconst (-1), 1) := by decide +kernel
theorem dX7_two_15 : decode cX7_two 15 = .ok (.istore_n 2, 1) := by decide +kernel
theorem dX7_two_16 : decode cX7_two 16 = .ok (.iconst 0, 1) := by decide +kernel
theorem dX7_two_17 : decode cX7_two 17 = .ok (.istore_n 3, 1) := by decide +kernel
theorem dX7_two_18 : decode cX7_two 18 = .ok (.iconst 0, 1) := by decide +kernel
theorem dX7_two_19 : decode cX7_two 19 = .ok (.istore 4, 2) := by decide +kernel
theorem dX7_two_21 : decode cX7_two 21 = .ok (.iload 4, 2) := by decide +kernel
theorem dX7_two_23 : decode cX7_two 23 = .ok (.aload_n 0, 1) := by decide +kernel
theorem dX7_two_24 : decode cX7_two 24 = .ok (.invokevirtual 277, 3) := by decide +kernel
theorem dX7_two_27 : decode cX7_two 27 = .ok (.if_icmp .gt 65, 3) := by decide +kernel
theorem dX7_two_30 : decode cX7_two 30 = .ok (.aload_n 0, 1) := by decide +kernel
theorem dX7_two_31 : decode cX7_two 31 = .ok (.iload 4, 2) := by decide +kernel
theorem dX7_two_33 : decode cX7_two 33 = .ok (.iconst (-1), 1) := by decide +kernel
theorem dX7_two_34 : decode cX7_two 34 = .ok (.iconst 0, 1) := by decide +kernel
theorem dX7_two_35 : decode cX7_two 35 = .ok (.invokevirtual 280, 3) := by decide +kernel
theorem dX7_two_38 : decode cX7_two 38 = .ok (.aload_n 0, 1) := by decide +kernel
theorem dX7_two_39 : decode cX7_two 39 = .ok (.getfield 248, 3) := by decide +kernel
theorem dX7_two_42 : decode cX7_two 42 = .ok (.istore 5, 2) := by decide +kernel
theorem dX7_two_44 : decode cX7_two 44 = .ok (.aload_n 0, 1) := by decide +kernel
theorem dX7_two_45 : decode cX7_two 45 = .ok (.aload_n 0, 1) := by decide +kernel
theorem dX7_two_46 : decode cX7_two 46 = .ok (.invokevirtual 277, 3) := by decide +kernel
theorem dX7_two_49 : decode cX7_two 49 = .ok (.iload 4, 2) := by decide +kernel
theorem dX7_two_51 : decode cX7_two 51 = .ok (.iconst (-1), 1) := by decide +kernel
theorem dX7_two_52 : decode cX7_two 52 = .ok (.ixor, 1) := by decide +kernel
theorem dX7_two_53 : decode cX7_two 53 = .ok (.iand, 1) := by decide +kernel
theorem dX7_two_54 : decode cX7_two 54 = .ok (.iconst (-1), 1) := by decide +kernel
theorem dX7_two_55 : decode cX7_two 55 = .ok (.iconst 0, 1) := by decide +kernel
theorem dX7_two_56 : decode cX7_two 56 = .ok (.invokevirtual 280, 3) := by decide +kernel
theorem dX7_two_59 : decode cX7_two 59 = .ok (.iload_n 2, 1) := by decide +kernel
theorem dX7_two_60 : decode cX7_two 60 = .ok (.iconst (-1), 1) := by decide +kernel
theorem dX7_two_61 : decode cX7_two 61 = .ok (.if_icmp .eq 14, 3) := by decide +kernel
theorem dX7_two_64 : decode cX7_two 64 = .ok (.iload 5, 2) := by decide +kernel
theorem dX7_two_66 : decode cX7_two 66 = .ok (.aload_n 0, 1) := by decide +kernel
theorem dX7_two_67 : decode cX7_two 67 = .ok (.getfield 248, 3) := by decide +kernel
theorem dX7_two_70 : decode cX7_two 70 = .ok (.iadd, 1) := by decide +kernel
theorem dX7_two_71 : decode cX7_two 71 = .ok (.iload_n 3, 1) := by decide +kernel
theorem dX7_two_72 : decode cX7_two 72 = .ok (.if_icmp .le 14, 3) := by decide +kernel
theorem dX7_two_75 : decode cX7_two 75 = .ok (.iload 4, 2) := by decide +kernel
theorem dX7_two_77 : decode cX7_two 77 = .ok (.istore_n 2, 1) := by decide +kernel
theorem dX7_two_78 : decode cX7_two 78 = .ok (.iload 5, 2) := by decide +kernel
theorem dX7_two_80 : decode cX7_two 80 = .ok (.aload_n 0, 1) := by decide +kernel
theorem dX7_two_81 : decode cX7_two 81 = .ok (.getfield 248, 3) := by decide +kernel
theorem dX7_two_84 : decode cX7_two 84 = .ok (.iadd, 1) := by decide +kernel
theorem dX7_two_85 : decode cX7_two 85 = .ok (.istore_n 3, 1) := by decide +kernel
theorem dX7_two_86 : decode cX7_two 86 = .ok (.iinc 4 1, 3) := by decide +kernel
theorem dX7_two_89 : decode cX7_two 89 = .ok (.goto (-68), 3) := by decide +kernel
theorem dX7_two_92 : decode cX7_two 92 = .ok (.iload_n 1, 1) := by decide +kernel
theorem dX7_two_93 : decode cX7_two 93 = .ok (.ifCond .ne 7, 3) := by decide +kernel
theorem dX7_two_96 : decode cX7_two 96 = .ok (.iload_n 2, 1) := by decide +kernel
theorem dX7_two_97 : decode cX7_two 97 = .ok (.goto 4, 3) := by decide +kernel
theorem dX7_two_100 : decode cX7_two 100 = .ok (.iload_n 3, 1) := by decide +kernel
theorem dX7_two_101 : decode cX7_two 101 = .ok (.ireturn, 1) := by decide +kernel
theorem dX7_worthClear_0 : decode cX7_worthClear 0 = .ok (.aload_n 0, 1) := by decide +kernel
theorem dX7_worthClear_1 : decode cX7_worthClear 1 = .ok (.iconst 1, 1) := by decide +kernel
theorem dX7_worthClear_2 : decode cX7_worthClear 2 = .ok (.putfield 105, 3) := by decide +kernel
theorem dX7_worthClear_5 : decode cX7_worthClear 5 = .ok (.aload_n 0, 1) := by decide +kernel
theorem dX7_worthClear_6 : decode cX7_worthClear 6 = .ok (.invokevirtual 295, 3) := by decide +kernel
theorem dX7_worthClear_9 : decode cX7_worthClear 9 = .ok (.aload_n 0, 1) := by decide +kernel
theorem dX7_worthClear_10 : decode cX7_worthClear 10 = .ok (.iconst 0, 1) := by decide +kernel
theorem dX7_worthClear_11 : decode cX7_worthClear 11 = .ok (.putfield 105, 3) := by decide +kernel
theorem dX7_worthClear_14 : decode cX7_worthClear 14 = .ok (.aload_n 0, 1) := by decide +kernel
theorem dX7_worthClear_15 : decode cX7_worthClear 15 = .ok (.getfield 248, 3) := by decide +kernel
theorem dX7_worthClear_18 : decode cX7_worthClear 18 = .ok (.ireturn, 1) := by decide +kernel
theorem dX7_cloud_0 : decode cX7_cloud 0 = .ok (.aload_n 0, 1) := by decide +kernel
theorem dX7_cloud_1 : decode cX7_cloud 1 = .ok (.invokevirtual 316, 3) := by decide +kernel
theorem dX7_cloud_4 : decode cX7_cloud 4 = .ok (.istore_n 1, 1) := by decide +kernel
theorem dX7_cloud_5 : decode cX7_cloud 5 = .ok (.aload_n 0, 1) := by decide +kernel
theorem dX7_cloud_6 : decode cX7_cloud 6 = .ok (.invokevirtual 295, 3) := by decide +kernel
theorem dX7_cloud_9 : decode cX7_cloud 9 = .ok (.iload_n 1, 1) := by decide +kernel
theorem dX7_cloud_10 : decode cX7_cloud 10 = .ok (.aload_n 0, 1) := by decide +kernel
theorem dX7_cloud_11 : decode cX7_cloud 11 = .ok (.getfield 248, 3) := by decide +kernel
theorem dX7_cloud_14 : decode cX7_cloud 14 = .ok (.isub, 1) := by decide +kernel
theorem dX7_cloud_15 : decode cX7_cloud 15 = .ok (.ireturn, 1) := by decide +kernel
theorem dX7_notSo_0 : decode cX7_notSo 0 = .ok (.aload_n 0, 1) := by decide +kernel
theorem dX7_notSo_1 : decode cX7_notSo 1 = .ok (.invokevirtual 295, 3) := by decide +kernel
theorem dX7_notSo_4 : decode cX7_notSo 4 = .ok (.iconst 0, 1) := by decide +kernel
theorem dX7_notSo_5 : decode cX7_notSo 5 = .ok (.istore_n 2, 1) := by decide +kernel
theorem dX7_notSo_6 : decode cX7_notSo 6 = .ok (.iconst 0, 1) := by decide +kernel
theorem dX7_notSo_7 : decode cX7_notSo 7 = .ok (.istore_n 3, 1) := by decide +kernel
theorem dX7_notSo_8 : decode cX7_notSo 8 = .ok (.iload_n 3, 1) := by decide +kernel
theorem dX7_notSo_9 : decode cX7_notSo 9 = .ok (.aload_n 0, 1) := by decide +kernel
theorem dX7_notSo_10 : decode cX7_notSo 10 = .ok (.getfield 70, 3) := by decide +kernel
theorem dX7_notSo_13 : decode cX7_notSo 13 = .ok (.if_icmp .ge 39, 3) := by decide +kernel
theorem dX7_notSo_16 : decode cX7_notSo 16 = .ok (.iload_n 2, 1) := by decide +kernel
theorem dX7_notSo_17 : decode cX7_notSo 17 = .ok (.aload_n 0, 1) := by decide +kernel
theorem dX7_notSo_18 : decode cX7_notSo 18 = .ok (.getfield 32, 3) := by decide +kernel
theorem dX7_notSo_21 : decode cX7_notSo 21 = .ok (.iload_n 3, 1) := by decide +kernel
theorem dX7_notSo_22 : decode cX7_notSo 22 = .ok (.iaload, 1) := by decide +kernel
theorem dX7_notSo_23 : decode cX7_notSo 23 = .ok (.aload_n 0, 1) := by decide +kernel
theorem dX7_notSo_24 : decode cX7_notSo 24 = .ok (.getfield 60, 3) := by decide +kernel
theorem dX7_notSo_27 : decode cX7_notSo 27 = .ok (.bipush 40, 2) := by decide +kernel
theorem dX7_notSo_29 : decode cX7_notSo 29 = .ok (.iload_n 1, 1) := by decide +kernel
theorem dX7_notSo_30 : decode cX7_notSo 30 = .ok (.imul, 1) := by decide +kernel
theorem dX7_notSo_31 : decode cX7_notSo 31 = .ok (.iload_n 3, 1) := by decide +kernel
theorem dX7_notSo_32 : decode cX7_notSo 32 = .ok (.iadd, 1) := by decide +kernel
theorem dX7_notSo_33 : decode cX7_notSo 33 = .ok (.iaload, 1) := by decide +kernel
theorem dX7_notSo_34 : decode cX7_notSo 34 = .ok (.if_icmp .eq 7, 3) := by decide +kernel
theorem dX7_notSo_37 : decode cX7_notSo 37 = .ok (.iconst 1, 1) := by decide +kernel
theorem dX7_notSo_38 : decode cX7_notSo 38 = .ok (.goto 4, 3) := by decide +kernel
theorem dX7_notSo_41 : decode cX7_notSo 41 = .ok (.iconst 0, 1) := by decide +kernel
theorem dX7_notSo_42 : decode cX7_notSo 42 = .ok (.iload_n 3, 1) := by decide +kernel
theorem dX7_notSo_43 : decode cX7_notSo 43 = .ok (.ishl, 1) := by decide +kernel
theorem dX7_notSo_44 : decode cX7_notSo 44 = .ok (.ior, 1) := by decide +kernel
theorem dX7_notSo_45 : decode cX7_notSo 45 = .ok (.istore_n 2, 1) := by decide +kernel
theorem dX7_notSo_46 : decode cX7_notSo 46 = .ok (.iinc 3 1, 3) := by decide +kernel
theorem dX7_notSo_49 : decode cX7_notSo 49 = .ok (.goto (-41), 3) := by decide +kernel
theorem dX7_notSo_52 : decode cX7_notSo 52 = .ok (.iload_n 2, 1) := by decide +kernel
theorem dX7_notSo_53 : decode cX7_notSo 53 = .ok (.ireturn, 1) := by decide +kernel
theorem dX7_spotsOf_0 : decode cX7_spotsOf 0 = .ok (.aload_n 0, 1) := by decide +kernel
theorem dX7_spotsOf_1 : decode cX7_spotsOf 1 = .ok (.getfield 23, 3) := by decide +kernel
theorem dX7_spotsOf_4 : decode cX7_spotsOf 4 = .ok (.iconst 5, 1) := by decide +kernel
theorem dX7_spotsOf_5 : decode cX7_spotsOf 5 = .ok (.iaload, 1) := by decide +kernel
theorem dX7_spotsOf_6 : decode cX7_spotsOf 6 = .ok (.istore_n 3, 1) := by decide +kernel
theorem dX7_spotsOf_7 : decode cX7_spotsOf 7 = .ok (.iconst 0, 1) := by decide +kernel
theorem dX7_spotsOf_8 : decode cX7_spotsOf 8 = .ok (.istore 4, 2) := by decide +kernel
theorem dX7_spotsOf_10 : decode cX7_spotsOf 10 = .ok (.iconst (-1), 1) := by decide +kernel
theorem dX7_spotsOf_11 : decode cX7_spotsOf 11 = .ok (.istore 5, 2) := by decide +kernel
theorem dX7_spotsOf_13 : decode cX7_spotsOf 13 = .ok (.iconst 0, 1) := by decide +kernel
theorem dX7_spotsOf_14 : decode cX7_spotsOf 14 = .ok (.istore 6, 2) := by decide +kernel
theorem dX7_spotsOf_16 : decode cX7_spotsOf 16 = .ok (.iload 6, 2) := by decide +kernel
theorem dX7_spotsOf_18 : decode cX7_spotsOf 18 = .ok (.bipush 100, 2) := by decide +kernel
theorem dX7_spotsOf_20 : decode cX7_spotsOf 20 = .ok (.if_icmp .ge 43, 3) := by decide +kernel
theorem dX7_spotsOf_23 : decode cX7_spotsOf 23 = .ok (.aload_n 0, 1) := by decide +kernel
theorem dX7_spotsOf_24 : decode cX7_spotsOf 24 = .ok (.getfield 23, 3) := by decide +kernel
theorem dX7_spotsOf_27 : decode cX7_spotsOf 27 = .ok (.iconst 5, 1) := by decide +kernel
theorem dX7_spotsOf_28 : decode cX7_spotsOf 28 = .ok (.iload 6, 2) := by decide +kernel
theorem dX7_spotsOf_30 : decode cX7_spotsOf 30 = .ok (.iastore, 1) := by decide +kernel
theorem dX7_spotsOf_31 : decode cX7_spotsOf 31 = .ok (.aload_n 0, 1) := by decide +kernel
theorem dX7_spotsOf_32 : decode cX7_spotsOf 32 = .ok (.iload_n 1, 1) := by decide +kernel
theorem dX7_spotsOf_33 : decode cX7_spotsOf 33 = .ok (.invokevirtual 319, 3) := by decide +kernel
theorem dX7_spotsOf_36 : decode cX7_spotsOf 36 = .ok (.ifCond .ne 21, 3) := by decide +kernel
theorem dX7_spotsOf_39 : decode cX7_spotsOf 39 = .ok (.iinc 4 1, 3) := by decide +kernel
theorem dX7_spotsOf_42 : decode cX7_spotsOf 42 = .ok (.iload 5, 2) := by decide +kernel
theorem dX7_spotsOf_44 : decode cX7_spotsOf 44 = .ok (.iconst (-1), 1) := by decide +kernel
theorem dX7_spotsOf_45 : decode cX7_spotsOf 45 = .ok (.if_icmp .ne 8, 3) := by decide +kernel
theorem dX7_spotsOf_48 : decode cX7_spotsOf 48 = .ok (.iload 6, 2) := by decide +kernel
theorem dX7_spotsOf_50 : decode cX7_spotsOf 50 = .ok (.goto 5, 3) := by decide +kernel
theorem dX7_spotsOf_53 : decode cX7_spotsOf 53 = .ok (.iload 5, 2) := by decide +kernel
theorem dX7_spotsOf_55 : decode cX7_spotsOf 55 = .ok (.istore 5, 2) := by decide +kernel
theorem dX7_spotsOf_57 : decode cX7_spotsOf 57 = .ok (.iinc 6 1, 3) := by decide +kernel
theorem dX7_spotsOf_60 : decode cX7_spotsOf 60 = .ok (.goto (-44), 3) := by decide +kernel
theorem dX7_spotsOf_63 : decode cX7_spotsOf 63 = .ok (.aload_n 0, 1) := by decide +kernel
theorem dX7_spotsOf_64 : decode cX7_spotsOf 64 = .ok (.getfield 23, 3) := by decide +kernel
theorem dX7_spotsOf_67 : decode cX7_spotsOf 67 = .ok (.iconst 5, 1) := by decide +kernel
theorem dX7_spotsOf_68 : decode cX7_spotsOf 68 = .ok (.iload_n 3, 1) := by decide +kernel
theorem dX7_spotsOf_69 : decode cX7_spotsOf 69 = .ok (.iastore, 1) := by decide +kernel
theorem dX7_spotsOf_70 : decode cX7_spotsOf 70 = .ok (.iload_n 2, 1) := by decide +kernel
theorem dX7_spotsOf_71 : decode cX7_spotsOf 71 = .ok (.ifCond .eq 8, 3) := by decide +kernel
theorem dX7_spotsOf_74 : decode cX7_spotsOf 74 = .ok (.iload 5, 2) := by decide +kernel
theorem dX7_spotsOf_76 : decode cX7_spotsOf 76 = .ok (.goto 5, 3) := by decide +kernel
theorem dX7_spotsOf_79 : decode cX7_spotsOf 79 = .ok (.iload 4, 2) := by decide +kernel
theorem dX7_spotsOf_81 : decode cX7_spotsOf 81 = .ok (.ireturn, 1) := by decide +kernel
theorem dX7_tellsSort_0 : decode cX7_tellsSort 0 = .ok (.iload_n 1, 1) := by decide +kernel
theorem dX7_tellsSort_1 : decode cX7_tellsSort 1 = .ok (.iconst 3, 1) := by decide +kernel
theorem dX7_tellsSort_2 : decode cX7_tellsSort 2 = .ok (.if_icmp .ne 12, 3) := by decide +kernel
theorem dX7_tellsSort_5 : decode cX7_tellsSort 5 = .ok (.aload_n 0, 1) := by decide +kernel
theorem dX7_tellsSort_6 : decode cX7_tellsSort 6 = .ok (.getfield 23, 3) := by decide +kernel
theorem dX7_tellsSort_9 : decode cX7_tellsSort 9 = .ok (.iconst 0, 1) := by decide +kernel
theorem dX7_tellsSort_10 : decode cX7_tellsSort 10 = .ok (.iaload, 1) := by decide +kernel
theorem dX7_tellsSort_11 : decode cX7_tellsSort 11 = .ok (.goto 36, 3) := by decide +kernel
theorem dX7_tellsSort_14 : decode cX7_tellsSort 14 = .ok (.iload_n 1, 1) := by decide +kernel
theorem dX7_tellsSort_15 : decode cX7_tellsSort 15 = .ok (.iconst 4, 1) := by decide +kernel
theorem dX7_tellsSort_16 : decode cX7_tellsSort 16 = .ok (.if_icmp .ne 10, 3) := by decide +kernel
theorem dX7_tellsSort_19 : decode cX7_tellsSort 19 = .ok (.aload_n 0, 1) := by decide +kernel
theorem dX7_tellsSort_20 : decode cX7_tellsSort 20 = .ok (.getfield 235, 3) := by decide +kernel
theorem dX7_tellsSort_23 : decode cX7_tellsSort 23 = .ok (.goto 24, 3) := by decide +kernel
theorem dX7_tellsSort_26 : decode cX7_tellsSort 26 = .ok (.iload_n 1, 1) := by decide +kernel
theorem dX7_tellsSort_27 : decode cX7_tellsSort 27 = .ok (.bipush 20, 2) := by decide +kernel
theorem dX7_tellsSort_29 : decode cX7_tellsSort 29 = .ok (.if_icmp .ge 12, 3) := by decide +kernel
theorem dX7_tellsSort_32 : decode cX7_tellsSort 32 = .ok (.aload_n 0, 1) := by decide +kernel
theorem dX7_tellsSort_33 : decode cX7_tellsSort 33 = .ok (.getfield 26, 3) := by decide +kernel
theorem dX7_tellsSort_36 : decode cX7_tellsSort 36 = .ok (.iload_n 2, 1) := by decide +kernel
theorem dX7_tellsSort_37 : decode cX7_tellsSort 37 = .ok (.iaload, 1) := by decide +kernel
theorem dX7_tellsSort_38 : decode cX7_tellsSort 38 = .ok (.goto 9, 3) := by decide +kernel
theorem dX7_tellsSort_41 : decode cX7_tellsSort 41 = .ok (.aload_n 0, 1) := by decide +kernel
theorem dX7_tellsSort_42 : decode cX7_tellsSort 42 = .ok (.iload_n 2, 1) := by decide +kernel
theorem dX7_tellsSort_43 : decode cX7_tellsSort 43 = .ok (.iconst 0, 1) := by decide +kernel
theorem dX7_tellsSort_44 : decode cX7_tellsSort 44 = .ok (.invokevirtual 87, 3) := by decide +kernel
theorem dX7_tellsSort_47 : decode cX7_tellsSort 47 = .ok (.ireturn, 1) := by decide +kernel
theorem dX7_lays_0 : decode cX7_lays 0 = .ok (.iload_n 1, 1) := by decide +kernel
theorem dX7_lays_1 : decode cX7_lays 1 = .ok (.iconst 3, 1) := by decide +kernel
theorem dX7_lays_2 : decode cX7_lays 2 = .ok (.if_icmp .ne 13, 3) := by decide +kernel
theorem dX7_lays_5 : decode cX7_lays 5 = .ok (.aload_n 0, 1) := by decide +kernel
theorem dX7_lays_6 : decode cX7_lays 6 = .ok (.getfield 23, 3) := by decide +kernel
theorem dX7_lays_9 : decode cX7_lays 9 = .ok (.iconst 0, 1) := by decide +kernel
theorem dX7_lays_10 : decode cX7_lays 10 = .ok (.iload_n 3, 1) := by decide +kernel
theorem dX7_lays_11 : decode cX7_lays 11 = .ok (.iastore, 1) := by decide +kernel
theorem dX7_lays_12 : decode cX7_lays 12 = .ok (.goto 41, 3) := by decide +kernel
theorem dX7_lays_15 : decode cX7_lays 15 = .ok (.iload_n 1, 1) := by decide +kernel
theorem dX7_lays_16 : decode cX7_lays 16 = .ok (.iconst 4, 1) := by decide +kernel
theorem dX7_lays_17 : decode cX7_lays 17 = .ok (.if_icmp .ne 11, 3) := by decide +kernel
theorem dX7_lays_20 : decode cX7_lays 20 = .ok (.aload_n 0, 1) := by decide +kernel
theorem dX7_lays_21 : decode cX7_lays 21 = .ok (.iload_n 3, 1) := by decide +kernel
theorem dX7_lays_22 : decode cX7_lays 22 = .ok (.putfield 235, 3) := by decide +kernel
theorem dX7_lays_25 : decode cX7_lays 25 = .ok (.goto 28, 3) := by decide +kernel
theorem dX7_lays_28 : decode cX7_lays 28 = .ok (.iload_n 1, 1) := by decide +kernel
theorem dX7_lays_29 : decode cX7_lays 29 = .ok (.bipush 20, 2) := by decide +kernel
theorem dX7_lays_31 : decode cX7_lays 31 = .ok (.if_icmp .ge 13, 3) := by decide +kernel
theorem dX7_lays_34 : decode cX7_lays 34 = .ok (.aload_n 0, 1) := by decide +kernel
theorem dX7_lays_35 : decode cX7_lays 35 = .ok (.getfield 26, 3) := by decide +kernel
theorem dX7_lays_38 : decode cX7_lays 38 = .ok (.iload_n 2, 1) := by decide +kernel
theorem dX7_lays_39 : decode cX7_lays 39 = .ok (.iload_n 3, 1) := by decide +kernel
theorem dX7_lays_40 : decode cX7_lays 40 = .ok (.iastore, 1) := by decide +kernel
theorem dX7_lays_41 : decode cX7_lays 41 = .ok (.goto 12, 3) := by decide +kernel
theorem dX7_lays_44 : decode cX7_lays 44 = .ok (.aload_n 0, 1) := by decide +kernel
theorem dX7_lays_45 : decode cX7_lays 45 = .ok (.getfield 29, 3) := by decide +kernel
theorem dX7_lays_48 : decode cX7_lays 48 = .ok (.iconst 5, 1) := by decide +kernel
theorem dX7_lays_49 : decode cX7_lays 49 = .ok (.iload_n 2, 1) := by decide +kernel
theorem dX7_lays_50 : decode cX7_lays 50 = .ok (.imul, 1) := by decide +kernel
theorem dX7_lays_51 : decode cX7_lays 51 = .ok (.iload_n 3, 1) := by decide +kernel
theorem dX7_lays_52 : decode cX7_lays 52 = .ok (.iastore, 1) := by decide +kernel
theorem dX7_lays_53 : decode cX7_lays 53 = .ok (.return_, 1) := by decide +kernel
theorem dX7_lists_0 : decode cX7_lists 0 = .ok (.iload_n 1, 1) := by decide +kernel
theorem dX7_lists_1 : decode cX7_lists 1 = .ok (.invokestatic 301, 3) := by decide +kernel
theorem dX7_lists_4 : decode cX7_lists 4 = .ok (.ifCond .eq 40, 3) := by decide +kernel
theorem dX7_lists_7 : decode cX7_lists 7 = .ok (.iload_n 2, 1) := by decide +kernel
theorem dX7_lists_8 : decode cX7_lists 8 = .ok (.i2l, 1) := by decide +kernel
theorem dX7_lists_9 : decode cX7_lists 9 = .ok (.lconst 0, 1) := by decide +kernel
theorem dX7_lists_10 : decode cX7_lists 10 = .ok (.ldc2_w 284, 3) := by decide +kernel
theorem dX7_lists_13 : decode cX7_lists 13 = .ok (.invokestatic 73, 3) := by decide +kernel
theorem dX7_lists_16 : decode cX7_lists 16 = .ok (.ifCond .ne 31, 3) := by decide +kernel
theorem dX7_lists_19 : decode cX7_lists 19 = .ok (.iload_n 2, 1) := by decide +kernel
theorem dX7_lists_20 : decode cX7_lists 20 = .ok (.i2l, 1) := by decide +kernel
theorem dX7_lists_21 : decode cX7_lists 21 = .ok (.ldc2_w 153, 3) := by decide +kernel
theorem dX7_lists_24 : decode cX7_lists 24 = .ok (.ldc2_w 286, 3) := by decide +kernel
theorem dX7_lists_27 : decode cX7_lists 27 = .ok (.invokestatic 73, 3) := by decide +kernel
theorem dX7_lists_30 : decode cX7_lists 30 = .ok (.ifCond .eq 14, 3) := by decide +kernel
theorem dX7_lists_33 : decode cX7_lists 33 = .ok (.aload_n 0, 1) := by decide +kernel
theorem dX7_lists_34 : decode cX7_lists 34 = .ok (.iload_n 2, 1) := by decide +kernel
theorem dX7_lists_35 : decode cX7_lists 35 = .ok (.bipush 10, 2) := by decide +kernel
theorem dX7_lists_37 : decode cX7_lists 37 = .ok (.irem, 1) := by decide +kernel
theorem dX7_lists_38 : decode cX7_lists 38 = .ok (.invokevirtual 79, 3) := by decide +kernel
theorem dX7_lists_41 : decode cX7_lists 41 = .ok (.ifCond .ne 6, 3) := by decide +kernel
theorem dX7_lists_44 : decode cX7_lists 44 = .ok (.bipush (-2), 2) := by decide +kernel
theorem dX7_lists_46 : decode cX7_lists 46 = .ok (.ireturn, 1) := by decide +kernel
theorem dX7_lists_47 : decode cX7_lists 47 = .ok (.aload_n 0, 1) := by decide +kernel
theorem dX7_lists_48 : decode cX7_lists 48 = .ok (.getfield 50, 3) := by decide +kernel
theorem dX7_lists_51 : decode cX7_lists 51 = .ok (.iload_n 1, 1) := by decide +kernel
theorem dX7_lists_52 : decode cX7_lists 52 = .ok (.baload, 1) := by decide +kernel
theorem dX7_lists_53 : decode cX7_lists 53 = .ok (.ifCond .ne 6, 3) := by decide +kernel
theorem dX7_lists_56 : decode cX7_lists 56 = .ok (.bipush (-11), 2) := by decide +kernel
theorem dX7_lists_58 : decode cX7_lists 58 = .ok (.ireturn, 1) := by decide +kernel
theorem dX7_lists_59 : decode cX7_lists 59 = .ok (.aload_n 0, 1) := by decide +kernel
theorem dX7_lists_60 : decode cX7_lists 60 = .ok (.getfield 57, 3) := by decide +kernel
theorem dX7_lists_63 : decode cX7_lists 63 = .ok (.iload_n 1, 1) := by decide +kernel
theorem dX7_lists_64 : decode cX7_lists 64 = .ok (.iaload, 1) := by decide +kernel
theorem dX7_lists_65 : decode cX7_lists 65 = .ok (.aload_n 0, 1) := by decide +kernel
theorem dX7_lists_66 : decode cX7_lists 66 = .ok (.getfield 70, 3) := by decide +kernel
theorem dX7_lists_69 : decode cX7_lists 69 = .ok (.if_icmp .eq 6, 3) := by decide +kernel
theorem dX7_lists_72 : decode cX7_lists 72 = .ok (.bipush (-2), 2) := by decide +kernel
theorem dX7_lists_74 : decode cX7_lists 74 = .ok (.ireturn, 1) := by decide +kernel
theorem dX7_lists_75 : decode cX7_lists 75 = .ok (.iload_n 2, 1) := by decide +kernel
theorem dX7_lists_76 : decode cX7_lists 76 = .ok (.iconst 3, 1) := by decide +kernel
theorem dX7_lists_77 : decode cX7_lists 77 = .ok (.if_icmp .ge 31, 3) := by decide +kernel
theorem dX7_lists_80 : decode cX7_lists 80 = .ok (.iload_n 2, 1) := by decide +kernel
theorem dX7_lists_81 : decode cX7_lists 81 = .ok (.ifCond .ne 11, 3) := by decide +kernel
theorem dX7_lists_84 : decode cX7_lists 84 = .ok (.aload_n 0, 1) := by decide +kernel
theorem dX7_lists_85 : decode cX7_lists 85 = .ok (.iload_n 1, 1) := by decide +kernel
theorem dX7_lists_86 : decode cX7_lists 86 = .ok (.invokevirtual 319, 3) := by decide +kernel
theorem dX7_lists_89 : decode cX7_lists 89 = .ok (.goto 18, 3) := by decide +kernel
theorem dX7_lists_92 : decode cX7_lists 92 = .ok (.aload_n 0, 1) := by decide +kernel
theorem dX7_lists_93 : decode cX7_lists 93 = .ok (.iload_n 1, 1) := by decide +kernel
theorem dX7_lists_94 : decode cX7_lists 94 = .ok (.iload_n 2, 1) := by decide +kernel
theorem dX7_lists_95 : decode cX7_lists 95 = .ok (.iconst 2, 1) := by decide +kernel
theorem dX7_lists_96 : decode cX7_lists 96 = .ok (.if_icmp .ne 7, 3) := by decide +kernel
theorem dX7_lists_99 : decode cX7_lists 99 = .ok (.iconst 1, 1) := by decide +kernel
theorem dX7_lists_100 : decode cX7_lists 100 = .ok (.goto 4, 3) := by decide +kernel
theorem dX7_lists_103 : decode cX7_lists 103 = .ok (.iconst 0, 1) := by decide +kernel
theorem dX7_lists_104 : decode cX7_lists 104 = .ok (.invokevirtual 322, 3) := by decide +kernel
theorem dX7_lists_107 : decode cX7_lists 107 = .ok (.ireturn, 1) := by decide +kernel
theorem dX7_lists_108 : decode cX7_lists 108 = .ok (.iload_n 2, 1) := by decide +kernel
theorem dX7_lists_109 : decode cX7_lists 109 = .ok (.bipush 10, 2) := by decide +kernel
theorem dX7_lists_111 : decode cX7_lists 111 = .ok (.irem, 1) := by decide +kernel
theorem dX7_lists_112 : decode cX7_lists 112 = .ok (.istore_n 3, 1) := by decide +kernel
theorem dX7_lists_113 : decode cX7_lists 113 = .ok (.aload_n 0, 1) := by decide +kernel
theorem dX7_lists_114 : decode cX7_lists 114 = .ok (.iload_n 2, 1) := by decide +kernel
theorem dX7_lists_115 : decode cX7_lists 115 = .ok (.iload_n 3, 1) := by decide +kernel
theorem dX7_lists_116 : decode cX7_lists 116 = .ok (.invokevirtual 326, 3) := by decide +kernel
theorem dX7_lists_119 : decode cX7_lists 119 = .ok (.istore 4, 2) := by decide +kernel
theorem dX7_lists_121 : decode cX7_lists 121 = .ok (.iload_n 2, 1) := by decide +kernel
theorem dX7_lists_122 : decode cX7_lists 122 = .ok (.iconst 4, 1) := by decide +kernel
theorem dX7_lists_123 : decode cX7_lists 123 = .ok (.if_icmp .ne 10, 3) := by decide +kernel
theorem dX7_lists_126 : decode cX7_lists 126 = .ok (.aload_n 0, 1) := by decide +kernel
theorem dX7_lists_127 : decode cX7_lists 127 = .ok (.getfield 67, 3) := by decide +kernel
theorem dX7_lists_130 : decode cX7_lists 130 = .ok (.goto 22, 3) := by decide +kernel
theorem dX7_lists_133 : decode cX7_lists 133 = .ok (.iload_n 2, 1) := by decide +kernel
theorem dX7_lists_134 : decode cX7_lists 134 = .ok (.bipush 9, 2) := by decide +kernel
theorem dX7_lists_136 : decode cX7_lists 136 = .ok (.if_icmp .le 14, 3) := by decide +kernel
theorem dX7_lists_139 : decode cX7_lists 139 = .ok (.iload_n 2, 1) := by decide +kernel
theorem dX7_lists_140 : decode cX7_lists 140 = .ok (.bipush 20, 2) := by decide +kernel
theorem dX7_lists_142 : decode cX7_lists 142 = .ok (.if_icmp .ge 8, 3) := by decide +kernel
theorem dX7_lists_145 : decode cX7_lists 145 = .ok (.bipush 6, 2) := by decide +kernel
theorem dX7_lists_147 : decode cX7_lists 147 = .ok (.goto 5, 3) := by decide +kernel
theorem dX7_lists_150 : decode cX7_lists 150 = .ok (.bipush 10, 2) := by decide +kernel
theorem dX7_lists_152 : decode cX7_lists 152 = .ok (.istore 5, 2) := by decide +kernel
theorem dX7_lists_154 : decode cX7_lists 154 = .ok (.iconst 0, 1) := by decide +kernel
theorem dX7_lists_155 : decode cX7_lists 155 = .ok (.istore 6, 2) := by decide +kernel
theorem dX7_lists_157 : decode cX7_lists 157 = .ok (.iconst 0, 1) := by decide +kernel
theorem dX7_lists_158 : decode cX7_lists 158 = .ok (.istore 7, 2) := by decide +kernel
theorem dX7_lists_160 : decode cX7_lists 160 = .ok (.iload 7, 2) := by decide +kernel
theorem dX7_lists_162 : decode cX7_lists 162 = .ok (.iload 5, 2) := by decide +kernel
theorem dX7_lists_164 : decode cX7_lists 164 = .ok (.if_icmp .ge 38, 3) := by decide +kernel
theorem dX7_lists_167 : decode cX7_lists 167 = .ok (.aload_n 0, 1) := by decide +kernel
theorem dX7_lists_168 : decode cX7_lists 168 = .ok (.iload_n 2, 1) := by decide +kernel
theorem dX7_lists_169 : decode cX7_lists 169 = .ok (.iload_n 3, 1) := by decide +kernel
theorem dX7_lists_170 : decode cX7_lists 170 = .ok (.iload 7, 2) := by decide +kernel
theorem dX7_lists_172 : decode cX7_lists 172 = .ok (.invokevirtual 329, 3) := by decide +kernel
theorem dX7_lists_175 : decode cX7_lists 175 = .ok (.iload 6, 2) := by decide +kernel
theorem dX7_lists_177 : decode cX7_lists 177 = .ok (.aload_n 0, 1) := by decide +kernel
theorem dX7_lists_178 : decode cX7_lists 178 = .ok (.iload_n 1, 1) := by decide +kernel
theorem dX7_lists_179 : decode cX7_lists 179 = .ok (.invokevirtual 319, 3) := by decide +kernel
theorem dX7_lists_182 : decode cX7_lists 182 = .ok (.ifCond .ne 7, 3) := by decide +kernel
theorem dX7_lists_185 : decode cX7_lists 185 = .ok (.iconst 1, 1) := by decide +kernel
theorem dX7_lists_186 : decode cX7_lists 186 = .ok (.goto 4, 3) := by decide +kernel
theorem dX7_lists_189 : decode cX7_lists 189 = .ok (.iconst 0, 1) := by decide +kernel
theorem dX7_lists_190 : decode cX7_lists 190 = .ok (.iload 7, 2) := by decide +kernel
theorem dX7_lists_192 : decode cX7_lists 192 = .ok (.ishl, 1) := by decide +kernel
theorem dX7_lists_193 : decode cX7_lists 193 = .ok (.ior, 1) := by decide +kernel
theorem dX7_lists_194 : decode cX7_lists 194 = .ok (.istore 6, 2) := by decide +kernel
theorem dX7_lists_196 : decode cX7_lists 196 = .ok (.iinc 7 1, 3) := by decide +kernel
theorem dX7_lists_199 : decode cX7_lists 199 = .ok (.goto (-39), 3) := by decide +kernel
theorem dX7_lists_202 : decode cX7_lists 202 = .ok (.aload_n 0, 1) := by decide +kernel
theorem dX7_lists_203 : decode cX7_lists 203 = .ok (.iload_n 2, 1) := by decide +kernel
theorem dX7_lists_204 : decode cX7_lists 204 = .ok (.iload_n 3, 1) := by decide +kernel
theorem dX7_lists_205 : decode cX7_lists 205 = .ok (.iload 4, 2) := by decide +kernel
theorem dX7_lists_207 : decode cX7_lists 207 = .ok (.invokevirtual 329, 3) := by decide +kernel
theorem dX7_lists_210 : decode cX7_lists 210 = .ok (.iload 6, 2) := by decide +kernel
theorem dX7_lists_212 : decode cX7_lists 212 = .ok (.ireturn, 1) := by decide +kernel
theorem dX7_film_0 : decode cX7_film 0 = .ok (.iload_n 1, 1) := by decide +kernel
theorem dX7_film_1 : decode cX7_film 1 = .ok (.invokestatic 301, 3) := by decide +kernel
theorem dX7_film_4 : decode cX7_film 4 = .ok (.ifCond .ne 6, 3) := by decide +kernel
theorem dX7_film_7 : decode cX7_film 7 = .ok (.bipush (-2), 2) := by decide +kernel
theorem dX7_film_9 : decode cX7_film 9 = .ok (.ireturn, 1) := by decide +kernel
theorem dX7_film_10 : decode cX7_film 10 = .ok (.aload_n 0, 1) := by decide +kernel
theorem dX7_film_11 : decode cX7_film 11 = .ok (.invokevirtual 295, 3) := by decide +kernel
theorem dX7_film_14 : decode cX7_film 14 = .ok (.aload_n 0, 1) := by decide +kernel
theorem dX7_film_15 : decode cX7_film 15 = .ok (.iload_n 1, 1) := by decide +kernel
theorem dX7_film_16 : decode cX7_film 16 = .ok (.iconst 1, 1) := by decide +kernel
theorem dX7_film_17 : decode cX7_film 17 = .ok (.aload_n 0, 1) := by decide +kernel
theorem dX7_film_18 : decode cX7_film 18 = .ok (.getfield 70, 3) := by decide +kernel
theorem dX7_film_21 : decode cX7_film 21 = .ok (.invokevirtual 332, 3) := by decide +kernel
theorem dX7_film_24 : decode cX7_film 24 = .ok (.pop, 1) := by decide +kernel
theorem dX7_film_25 : decode cX7_film 25 = .ok (.iconst 0, 1) := by decide +kernel
theorem dX7_film_26 : decode cX7_film 26 = .ok (.istore_n 2, 1) := by decide +kernel
theorem dX7_film_27 : decode cX7_film 27 = .ok (.iload_n 2, 1) := by decide +kernel
theorem dX7_film_28 : decode cX7_film 28 = .ok (.aload_n 0, 1) := by decide +kernel
theorem dX7_film_29 : decode cX7_film 29 = .ok (.getfield 70, 3) := by decide +kernel
theorem dX7_film_32 : decode cX7_film 32 = .ok (.if_icmp .ge 26, 3) := by decide +kernel
theorem dX7_film_35 : decode cX7_film 35 = .ok (.aload_n 0, 1) := by decide +kernel
theorem dX7_film_36 : decode cX7_film 36 = .ok (.getfield 60, 3) := by decide +kernel
theorem dX7_film_39 : decode cX7_film 39 = .ok (.bipush 40, 2) := by decide +kernel
theorem dX7_film_41 : decode cX7_film 41 = .ok (.iload_n 1, 1) := by decide +kernel
theorem dX7_film_42 : decode cX7_film 42 = .ok (.imul, 1) := by decide +kernel
theorem dX7_film_43 : decode cX7_film 43 = .ok (.iload_n 2, 1) := by decide +kernel
theorem dX7_film_44 : decode cX7_film 44 = .ok (.iadd, 1) := by decide +kernel
theorem dX7_film_45 : decode cX7_film 45 = .ok (.aload_n 0, 1) := by decide +kernel
theorem dX7_film_46 : decode cX7_film 46 = .ok (.getfield 32, 3) := by decide +kernel
theorem dX7_film_49 : decode cX7_film 49 = .ok (.iload_n 2, 1) := by decide +kernel
theorem dX7_film_50 : decode cX7_film 50 = .ok (.iaload, 1) := by decide +kernel
theorem dX7_film_51 : decode cX7_film 51 = .ok (.iastore, 1) := by decide +kernel
theorem dX7_film_52 : decode cX7_film 52 = .ok (.iinc 2 1, 3) := by decide +kernel
theorem dX7_film_55 : decode cX7_film 55 = .ok (.goto (-28), 3) := by decide +kernel
theorem dX7_film_58 : decode cX7_film 58 = .ok (.aload_n 0, 1) := by decide +kernel
theorem dX7_film_59 : decode cX7_film 59 = .ok (.getfield 70, 3) := by decide +kernel
theorem dX7_film_62 : decode cX7_film 62 = .ok (.ireturn, 1) := by decide +kernel
theorem dX7_draws_0 : decode cX7_draws 0 = .ok (.iload_n 1, 1) := by decide +kernel
theorem dX7_draws_1 : decode cX7_draws 1 = .ok (.istore_n 2, 1) := by decide +kernel
theorem dX7_draws_2 : decode cX7_draws 2 = .ok (.iconst 0, 1) := by decide +kernel
theorem dX7_draws_3 : decode cX7_draws 3 = .ok (.istore_n 3, 1) := by decide +kernel
theorem dX7_draws_4 : decode cX7_draws 4 = .ok (.iload_n 3, 1) := by decide +kernel
theorem dX7_draws_5 : decode cX7_draws 5 = .ok (.iconst 4, 1) := by decide +kernel
theorem dX7_draws_6 : decode cX7_draws 6 = .ok (.if_icmp .ge 59, 3) := by decide +kernel
theorem dX7_draws_9 : decode cX7_draws 9 = .ok (.aload_n 0, 1) := by decide +kernel
theorem dX7_draws_10 : decode cX7_draws 10 = .ok (.getfield 38, 3) := by decide +kernel
theorem dX7_draws_13 : decode cX7_draws 13 = .ok (.iload_n 3, 1) := by decide +kernel
theorem dX7_draws_14 : decode cX7_draws 14 = .ok (.aload_n 0, 1) := by decide +kernel
theorem dX7_draws_15 : decode cX7_draws 15 = .ok (.getfield 23, 3) := by decide +kernel
theorem dX7_draws_18 : decode cX7_draws 18 = .ok (.iconst 1, 1) := by decide +kernel
theorem dX7_draws_19 : decode cX7_draws 19 = .ok (.iload_n 3, 1) := by decide +kernel
theorem dX7_draws_20 : decode cX7_draws 20 = .ok (.iadd, 1) := by decide +kernel
theorem dX7_draws_21 : decode cX7_draws 21 = .ok (.iaload, 1) := by decide +kernel
theorem dX7_draws_22 : decode cX7_draws 22 = .ok (.iastore, 1) := by decide +kernel
theorem dX7_draws_23 : decode cX7_draws 23 = .ok (.iload_n 2, 1) := by decide +kernel
theorem dX7_draws_24 : decode cX7_draws 24 = .ok (.ldc_w 335, 3) := by decide +kernel
theorem dX7_draws_27 : decode cX7_draws 27 = .ok (.imul, 1) := by decide +kernel
theorem dX7_draws_28 : decode cX7_draws 28 = .ok (.sipush 12345, 3) := by decide +kernel
theorem dX7_draws_31 : decode cX7_draws 31 = .ok (.iadd, 1) := by decide +kernel
theorem dX7_draws_32 : decode cX7_draws 32 = .ok (.istore_n 2, 1) := by decide +kernel
theorem dX7_draws_33 : decode cX7_draws 33 = .ok (.aload_n 0, 1) := by decide +kernel
theorem dX7_draws_34 : decode cX7_draws 34 = .ok (.getfield 23, 3) := by decide +kernel
theorem dX7_draws_37 : decode cX7_draws 37 = .ok (.iconst 1, 1) := by decide +kernel
theorem dX7_draws_38 : decode cX7_draws 38 = .ok (.iload_n 3, 1) := by decide +kernel
theorem dX7_draws_39 : decode cX7_draws 39 = .ok (.iadd, 1) := by decide +kernel
theorem dX7_draws_40 : decode cX7_draws 40 = .ok (.iload_n 2, 1) := by decide +kernel
theorem dX7_draws_41 : decode cX7_draws 41 = .ok (.bipush 9, 2) := by decide +kernel
theorem dX7_draws_43 : decode cX7_draws 43 = .ok (.iushr, 1) := by decide +kernel
theorem dX7_draws_44 : decode cX7_draws 44 = .ok (.iload_n 3, 1) := by decide +kernel
theorem dX7_draws_45 : decode cX7_draws 45 = .ok (.iconst 2, 1) := by decide +kernel
theorem dX7_draws_46 : decode cX7_draws 46 = .ok (.if_icmp .ge 8, 3) := by decide +kernel
theorem dX7_draws_49 : decode cX7_draws 49 = .ok (.bipush 10, 2) := by decide +kernel
theorem dX7_draws_51 : decode cX7_draws 51 = .ok (.goto 6, 3) := by decide +kernel
theorem dX7_draws_54 : decode cX7_draws 54 = .ok (.sipush 200, 3) := by decide +kernel
theorem dX7_draws_57 : decode cX7_draws 57 = .ok (.irem, 1) := by decide +kernel
theorem dX7_draws_58 : decode cX7_draws 58 = .ok (.iastore, 1) := by decide +kernel
theorem dX7_draws_59 : decode cX7_draws 59 = .ok (.iinc 3 1, 3) := by decide +kernel
theorem dX7_draws_62 : decode cX7_draws 62 = .ok (.goto (-58), 3) := by decide +kernel
theorem dX7_draws_65 : decode cX7_draws 65 = .ok (.aload_n 0, 1) := by decide +kernel
theorem dX7_draws_66 : decode cX7_draws 66 = .ok (.invokevirtual 295, 3) := by decide +kernel
theorem dX7_draws_69 : decode cX7_draws 69 = .ok (.iconst 0, 1) := by decide +kernel
theorem dX7_draws_70 : decode cX7_draws 70 = .ok (.istore_n 3, 1) := by decide +kernel
theorem dX7_draws_71 : decode cX7_draws 71 = .ok (.iload_n 3, 1) := by decide +kernel
theorem dX7_draws_72 : decode cX7_draws 72 = .ok (.iconst 4, 1) := by decide +kernel
theorem dX7_draws_73 : decode cX7_draws 73 = .ok (.if_icmp .ge 23, 3) := by decide +kernel
theorem dX7_draws_76 : decode cX7_draws 76 = .ok (.aload_n 0, 1) := by decide +kernel
theorem dX7_draws_77 : decode cX7_draws 77 = .ok (.getfield 23, 3) := by decide +kernel
theorem dX7_draws_80 : decode cX7_draws 80 = .ok (.iconst 1, 1) := by decide +kernel
theorem dX7_draws_81 : decode cX7_draws 81 = .ok (.iload_n 3, 1) := by decide +kernel
theorem dX7_draws_82 : decode cX7_draws 82 = .ok (.iadd, 1) := by decide +kernel
theorem dX7_draws_83 : decode cX7_draws 83 = .ok (.aload_n 0, 1) := by decide +kernel
theorem dX7_draws_84 : decode cX7_draws 84 = .ok (.getfield 38, 3) := by decide +kernel
theorem dX7_draws_87 : decode cX7_draws 87 = .ok (.iload_n 3, 1) := by decide +kernel
theorem dX7_draws_88 : decode cX7_draws 88 = .ok (.iaload, 1) := by decide +kernel
theorem dX7_draws_89 : decode cX7_draws 89 = .ok (.iastore, 1) := by decide +kernel
theorem dX7_draws_90 : decode cX7_draws 90 = .ok (.iinc 3 1, 3) := by decide +kernel
theorem dX7_draws_93 : decode cX7_draws 93 = .ok (.goto (-22), 3) := by decide +kernel
theorem dX7_draws_96 : decode cX7_draws 96 = .ok (.aload_n 0, 1) := by decide +kernel
theorem dX7_draws_97 : decode cX7_draws 97 = .ok (.getfield 248, 3) := by decide +kernel
theorem dX7_draws_100 : decode cX7_draws 100 = .ok (.ireturn, 1) := by decide +kernel
theorem dX7_drawn_0 : decode cX7_drawn 0 = .ok (.aload_n 0, 1) := by decide +kernel
theorem dX7_drawn_1 : decode cX7_drawn 1 = .ok (.iload_n 1, 1) := by decide +kernel
theorem dX7_drawn_2 : decode cX7_drawn 2 = .ok (.invokevirtual 336, 3) := by decide +kernel
theorem dX7_drawn_5 : decode cX7_drawn 5 = .ok (.ireturn, 1) := by decide +kernel
theorem dX7_chance_0 : decode cX7_chance 0 = .ok (.iload_n 2, 1) := by decide +kernel
theorem dX7_chance_1 : decode cX7_chance 1 = .ok (.i2l, 1) := by decide +kernel
theorem dX7_chance_2 : decode cX7_chance 2 = .ok (.lconst 1, 1) := by decide +kernel
theorem dX7_chance_3 : decode cX7_chance 3 = .ok (.ldc2_w 339, 3) := by decide +kernel
theorem dX7_chance_6 : decode cX7_chance 6 = .ok (.invokestatic 73, 3) := by decide +kernel
theorem dX7_chance_9 : decode cX7_chance 9 = .ok (.ifCond .eq 13, 3) := by decide +kernel
theorem dX7_chance_12 : decode cX7_chance 12 = .ok (.iload_n 3, 1) := by decide +kernel
theorem dX7_chance_13 : decode cX7_chance 13 = .ok (.i2l, 1) := by decide +kernel
theorem dX7_chance_14 : decode cX7_chance 14 = .ok (.lconst 0, 1) := by decide +kernel
theorem dX7_chance_15 : decode cX7_chance 15 = .ok (.lconst 1, 1) := by decide +kernel
theorem dX7_chance_16 : decode cX7_chance 16 = .ok (.invokestatic 73, 3) := by decide +kernel
theorem dX7_chance_19 : decode cX7_chance 19 = .ok (.ifCond .ne 7, 3) := by decide +kernel
theorem dX7_chance_22 : decode cX7_chance 22 = .ok (.ldc2_w 341, 3) := by decide +kernel
theorem dX7_chance_25 : decode cX7_chance 25 = .ok (.lreturn, 1) := by decide +kernel
theorem dX7_chance_26 : decode cX7_chance 26 = .ok (.aload_n 0, 1) := by decide +kernel
theorem dX7_chance_27 : decode cX7_chance 27 = .ok (.invokevirtual 316, 3) := by decide +kernel
theorem dX7_chance_30 : decode cX7_chance 30 = .ok (.istore 4, 2) := by decide +kernel
theorem dX7_chance_32 : decode cX7_chance 32 = .ok (.lconst 0, 1) := by decide +kernel
theorem dX7_chance_33 : decode cX7_chance 33 = .ok (.lstore 5, 2) := by decide +kernel
theorem dX7_chance_35 : decode cX7_chance 35 = .ok (.iconst 0, 1) := by decide +kernel
theorem dX7_chance_36 : decode cX7_chance 36 = .ok (.istore 7, 2) := by decide +kernel
theorem dX7_chance_38 : decode cX7_chance 38 = .ok (.iload 7, 2) := by decide +kernel
theorem dX7_chance_40 : decode cX7_chance 40 = .ok (.iload_n 2, 1) := by decide +kernel
theorem dX7_chance_41 : decode cX7_chance 41 = .ok (.if_icmp .ge 32, 3) := by decide +kernel
theorem dX7_chance_44 : decode cX7_chance 44 = .ok (.lload 5, 2) := by decide +kernel
theorem dX7_chance_46 : decode cX7_chance 46 = .ok (.aload_n 0, 1) := by decide +kernel
theorem dX7_chance_47 : decode cX7_chance 47 = .ok (.iload_n 1, 1) := by decide +kernel
theorem dX7_chance_48 : decode cX7_chance 48 = .ok (.iload 7, 2) := by decide +kernel
theorem dX7_chance_50 : decode cX7_chance 50 = .ok (.iadd, 1) := by decide +kernel
theorem dX7_chance_51 : decode cX7_chance 51 = .ok (.invokevirtual 336, 3) := by decide +kernel
theorem dX7_chance_54 : decode cX7_chance 54 = .ok (.iload 4, 2) := by decide +kernel
theorem dX7_chance_56 : decode cX7_chance 56 = .ok (.if_icmp .lt 7, 3) := by decide +kernel
theorem dX7_chance_59 : decode cX7_chance 59 = .ok (.lconst 1, 1) := by decide +kernel
theorem dX7_chance_60 : decode cX7_chance 60 = .ok (.goto 4, 3) := by decide +kernel
theorem dX7_chance_63 : decode cX7_chance 63 = .ok (.lconst 0, 1) := by decide +kernel
theorem dX7_chance_64 : decode cX7_chance 64 = .ok (.ladd, 1) := by decide +kernel
theorem dX7_chance_65 : decode cX7_chance 65 = .ok (.lstore 5, 2) := by decide +kernel
theorem dX7_chance_67 : decode cX7_chance 67 = .ok (.iinc 7 1, 3) := by decide +kernel
theorem dX7_chance_70 : decode cX7_chance 70 = .ok (.goto (-32), 3) := by decide +kernel
theorem dX7_chance_73 : decode cX7_chance 73 = .ok (.lload 5, 2) := by decide +kernel
theorem dX7_chance_75 : decode cX7_chance 75 = .ok (.lstore 7, 2) := by decide +kernel
theorem dX7_chance_77 : decode cX7_chance 77 = .ok (.iload_n 2, 1) := by decide +kernel
theorem dX7_chance_78 : decode cX7_chance 78 = .ok (.i2l, 1) := by decide +kernel
theorem dX7_chance_79 : decode cX7_chance 79 = .ok (.lstore 9, 2) := by decide +kernel
theorem dX7_chance_81 : decode cX7_chance 81 = .ok (.lload 9, 2) := by decide +kernel
theorem dX7_chance_83 : decode cX7_chance 83 = .ok (.lconst 0, 1) := by decide +kernel
theorem dX7_chance_84 : decode cX7_chance 84 = .ok (.lcmp, 1) := by decide +kernel
theorem dX7_chance_85 : decode cX7_chance 85 = .ok (.ifCond .eq 21, 3) := by decide +kernel
theorem dX7_chance_88 : decode cX7_chance 88 = .ok (.lload 7, 2) := by decide +kernel
theorem dX7_chance_90 : decode cX7_chance 90 = .ok (.lload 9, 2) := by decide +kernel
theorem dX7_chance_92 : decode cX7_chance 92 = .ok (.lrem, 1) := by decide +kernel
theorem dX7_chance_93 : decode cX7_chance 93 = .ok (.lstore 11, 2) := by decide +kernel
theorem dX7_chance_95 : decode cX7_chance 95 = .ok (.lload 9, 2) := by decide +kernel
theorem dX7_chance_97 : decode cX7_chance 97 = .ok (.lstore 7, 2) := by decide +kernel
theorem dX7_chance_99 : decode cX7_chance 99 = .ok (.lload 11, 2) := by decide +kernel
theorem dX7_chance_101 : decode cX7_chance 101 = .ok (.lstore 9, 2) := by decide +kernel
theorem dX7_chance_103 : decode cX7_chance 103 = .ok (.goto (-22), 3) := by decide +kernel
theorem dX7_chance_106 : decode cX7_chance 106 = .ok (.iload_n 3, 1) := by decide +kernel
theorem dX7_chance_107 : decode cX7_chance 107 = .ok (.ifCond .ne 11, 3) := by decide +kernel
theorem dX7_chance_110 : decode cX7_chance 110 = .ok (.lload 5, 2) := by decide +kernel
theorem dX7_chance_112 : decode cX7_chance 112 = .ok (.lload 7, 2) := by decide +kernel
theorem dX7_chance_114 : decode cX7_chance 114 = .ok (.ldiv, 1) := by decide +kernel
theorem dX7_chance_115 : decode cX7_chance 115 = .ok (.goto 8, 3) := by decide +kernel
theorem dX7_chance_118 : decode cX7_chance 118 = .ok (.iload_n 2, 1) := by decide +kernel
theorem dX7_chance_119 : decode cX7_chance 119 = .ok (.i2l, 1) := by decide +kernel
theorem dX7_chance_120 : decode cX7_chance 120 = .ok (.lload 7, 2) := by decide +kernel
theorem dX7_chance_122 : decode cX7_chance 122 = .ok (.ldiv, 1) := by decide +kernel
theorem dX7_chance_123 : decode cX7_chance 123 = .ok (.lreturn, 1) := by decide +kernel
theorem dX7_image_0 : decode cX7_image 0 = .ok (.iconst 0, 1) := by decide +kernel
theorem dX7_image_1 : decode cX7_image 1 = .ok (.istore_n 1, 1) := by decide +kernel
theorem dX7_image_2 : decode cX7_image 2 = .ok (.iload_n 1, 1) := by decide +kernel
theorem dX7_image_3 : decode cX7_image 3 = .ok (.bipush 8, 2) := by decide +kernel
theorem dX7_image_5 : decode cX7_image 5 = .ok (.if_icmp .ge 21, 3) := by decide +kernel
theorem dX7_image_8 : decode cX7_image 8 = .ok (.aload_n 0, 1) := by decide +kernel
theorem dX7_image_9 : decode cX7_image 9 = .ok (.getfield 41, 3) := by decide +kernel
theorem dX7_image_12 : decode cX7_image 12 = .ok (.iload_n 1, 1) := by decide +kernel
theorem dX7_image_13 : decode cX7_image 13 = .ok (.aload_n 0, 1) := by decide +kernel
theorem dX7_image_14 : decode cX7_image 14 = .ok (.getfield 23, 3) := by decide +kernel
theorem dX7_image_17 : decode cX7_image 17 = .ok (.iload_n 1, 1) := by decide +kernel
theorem dX7_image_18 : decode cX7_image 18 = .ok (.iaload, 1) := by decide +kernel
theorem dX7_image_19 : decode cX7_image 19 = .ok (.iastore, 1) := by decide +kernel
theorem dX7_image_20 : decode cX7_image 20 = .ok (.iinc 1 1, 3) := by decide +kernel
theorem dX7_image_23 : decode cX7_image 23 = .ok (.goto (-21), 3) := by decide +kernel
theorem dX7_image_26 : decode cX7_image 26 = .ok (.iconst 0, 1) := by decide +kernel
theorem dX7_image_27 : decode cX7_image 27 = .ok (.istore_n 1, 1) := by decide +kernel
theorem dX7_image_28 : decode cX7_image 28 = .ok (.iload_n 1, 1) := by decide +kernel
theorem dX7_image_29 : decode cX7_image 29 = .ok (.bipush 35, 2) := by decide +kernel
theorem dX7_image_31 : decode cX7_image 31 = .ok (.if_icmp .ge 21, 3) := by decide +kernel
theorem dX7_image_34 : decode cX7_image 34 = .ok (.aload_n 0, 1) := by decide +kernel
theorem dX7_image_35 : decode cX7_image 35 = .ok (.getfield 44, 3) := by decide +kernel
theorem dX7_image_38 : decode cX7_image 38 = .ok (.iload_n 1, 1) := by decide +kernel
theorem dX7_image_39 : decode cX7_image 39 = .ok (.aload_n 0, 1) := by decide +kernel
theorem dX7_image_40 : decode cX7_image 40 = .ok (.getfield 29, 3) := by decide +kernel
theorem dX7_image_43 : decode cX7_image 43 = .ok (.iload_n 1, 1) := by decide +kernel
theorem dX7_image_44 : decode cX7_image 44 = .ok (.iaload, 1) := by decide +kernel
theorem dX7_image_45 : decode cX7_image 45 = .ok (.iastore, 1) := by decide +kernel
theorem dX7_image_46 : decode cX7_image 46 = .ok (.iinc 1 1, 3) := by decide +kernel
theorem dX7_image_49 : decode cX7_image 49 = .ok (.goto (-21), 3) := by decide +kernel
theorem dX7_image_52 : decode cX7_image 52 = .ok (.aload_n 0, 1) := by decide +kernel
theorem dX7_image_53 : decode cX7_image 53 = .ok (.aload_n 0, 1) := by decide +kernel
theorem dX7_image_54 : decode cX7_image 54 = .ok (.getfield 70, 3) := by decide +kernel
theorem dX7_image_57 : decode cX7_image 57 = .ok (.putfield 47, 3) := by decide +kernel
theorem dX7_image_60 : decode cX7_image 60 = .ok (.aload_n 0, 1) := by decide +kernel
theorem dX7_image_61 : decode cX7_image 61 = .ok (.aload_n 0, 1) := by decide +kernel
theorem dX7_image_62 : decode cX7_image 62 = .ok (.getfield 235, 3) := by decide +kernel
theorem dX7_image_65 : decode cX7_image 65 = .ok (.putfield 343, 3) := by decide +kernel
theorem dX7_image_68 : decode cX7_image 68 = .ok (.aload_n 0, 1) := by decide +kernel
theorem dX7_image_69 : decode cX7_image 69 = .ok (.getfield 70, 3) := by decide +kernel
theorem dX7_image_72 : decode cX7_image 72 = .ok (.ireturn, 1) := by decide +kernel
theorem dX7_back_0 : decode cX7_back 0 = .ok (.aload_n 0, 1) := by decide +kernel
theorem dX7_back_1 : decode cX7_back 1 = .ok (.getfield 47, 3) := by decide +kernel
theorem dX7_back_4 : decode cX7_back 4 = .ok (.iconst (-1), 1) := by decide +kernel
theorem dX7_back_5 : decode cX7_back 5 = .ok (.if_icmp .ne 6, 3) := by decide +kernel
theorem dX7_back_8 : decode cX7_back 8 = .ok (.bipush (-3), 2) := by decide +kernel
theorem dX7_back_10 : decode cX7_back 10 = .ok (.ireturn, 1) := by decide +kernel
theorem dX7_back_11 : decode cX7_back 11 = .ok (.iconst 0, 1) := by decide +kernel
theorem dX7_back_12 : decode cX7_back 12 = .ok (.istore_n 1, 1) := by decide +kernel
theorem dX7_back_13 : decode cX7_back 13 = .ok (.iload_n 1, 1) := by decide +kernel
theorem dX7_back_14 : decode cX7_back 14 = .ok (.bipush 8, 2) := by decide +kernel
theorem dX7_back_16 : decode cX7_back 16 = .ok (.if_icmp .ge 21, 3) := by decide +kernel
theorem dX7_back_19 : decode cX7_back 19 = .ok (.aload_n 0, 1) := by decide +kernel
theorem dX7_back_20 : decode cX7_back 20 = .ok (.getfield 23, 3) := by decide +kernel
theorem dX7_back_23 : decode cX7_back 23 = .ok (.iload_n 1, 1) := by decide +kernel
theorem dX7_back_24 : decode cX7_back 24 = .ok (.aload_n 0, 1) := by decide +kernel
theorem dX7_back_25 : decode cX7_back 25 = .ok (.getfield 41, 3) := by decide +kernel
theorem dX7_back_28 : decode cX7_back 28 = .ok (.iload_n 1, 1) := by decide +kernel
theorem dX7_back_29 : decode cX7_back 29 = .ok (.iaload, 1) := by decide +kernel
theorem dX7_back_30 : decode cX7_back 30 = .ok (.iastore, 1) := by decide +kernel
theorem dX7_back_31 : decode cX7_back 31 = .ok (.iinc 1 1, 3) := by decide +kernel
theorem dX7_back_34 : decode cX7_back 34 = .ok (.goto (-21), 3) := by decide +kernel
theorem dX7_back_37 : decode cX7_back 37 = .ok (.iconst 0, 1) := by decide +kernel
theorem dX7_back_38 : decode cX7_back 38 = .ok (.istore_n 1, 1) := by decide +kernel
theorem dX7_back_39 : decode cX7_back 39 = .ok (.iload_n 1, 1) := by decide +kernel
theorem dX7_back_40 : decode cX7_back 40 = .ok (.bipush 35, 2) := by decide +kernel
theorem dX7_back_42 : decode cX7_back 42 = .ok (.if_icmp .ge 21, 3) := by decide +kernel
theorem dX7_back_45 : decode cX7_back 45 = .ok (.aload_n 0, 1) := by decide +kernel
theorem dX7_back_46 : decode cX7_back 46 = .ok (.getfield 29, 3) := by decide +kernel
theorem dX7_back_49 : decode cX7_back 49 = .ok (.iload_n 1, 1) := by decide +kernel
theorem dX7_back_50 : decode cX7_back 50 = .ok (.aload_n 0, 1) := by decide +kernel
theorem dX7_back_51 : decode cX7_back 51 = .ok (.getfield 44, 3) := by decide +kernel
theorem dX7_back_54 : decode cX7_back 54 = .ok (.iload_n 1, 1) := by decide +kernel
theorem dX7_back_55 : decode cX7_back 55 = .ok (.iaload, 1) := by decide +kernel
theorem dX7_back_56 : decode cX7_back 56 = .ok (.iastore, 1) := by decide +kernel
theorem dX7_back_57 : decode cX7_back 57 = .ok (.iinc 1 1, 3) := by decide +kernel
theorem dX7_back_60 : decode cX7_back 60 = .ok (.goto (-21), 3) := by decide +kernel
theorem dX7_back_63 : decode cX7_back 63 = .ok (.aload_n 0, 1) := by decide +kernel
theorem dX7_back_64 : decode cX7_back 64 = .ok (.aload_n 0, 1) := by decide +kernel
theorem dX7_back_65 : decode cX7_back 65 = .ok (.getfield 47, 3) := by decide +kernel
theorem dX7_back_68 : decode cX7_back 68 = .ok (.putfield 70, 3) := by decide +kernel
theorem dX7_back_71 : decode cX7_back 71 = .ok (.aload_n 0, 1) := by decide +kernel
theorem dX7_back_72 : decode cX7_back 72 = .ok (.aload_n 0, 1) := by decide +kernel
theorem dX7_back_73 : decode cX7_back 73 = .ok (.getfield 343, 3) := by decide +kernel
theorem dX7_back_76 : decode cX7_back 76 = .ok (.putfield 235, 3) := by decide +kernel
theorem dX7_back_79 : decode cX7_back 79 = .ok (.aload_n 0, 1) := by decide +kernel
theorem dX7_back_80 : decode cX7_back 80 = .ok (.getfield 70, 3) := by decide +kernel
theorem dX7_back_83 : decode cX7_back 83 = .ok (.ireturn, 1) := by decide +kernel
theorem dX7_count_0 : decode cX7_count 0 = .ok (.iload_n 1, 1) := by decide +kernel
theorem dX7_count_1 : decode cX7_count 1 = .ok (.ifCond .ne 10, 3) := by decide +kernel
theorem dX7_count_4 : decode cX7_count 4 = .ok (.aload_n 0, 1) := by decide +kernel
theorem dX7_count_5 : decode cX7_count 5 = .ok (.getfield 70, 3) := by decide +kernel
theorem dX7_count_8 : decode cX7_count 8 = .ok (.goto 41, 3) := by decide +kernel
theorem dX7_count_11 : decode cX7_count 11 = .ok (.iload_n 1, 1) := by decide +kernel
theorem dX7_count_12 : decode cX7_count 12 = .ok (.iconst 1, 1) := by decide +kernel
theorem dX7_count_13 : decode cX7_count 13 = .ok (.if_icmp .ne 10, 3) := by decide +kernel
theorem dX7_count_16 : decode cX7_count 16 = .ok (.aload_n 0, 1) := by decide +kernel
theorem dX7_count_17 : decode cX7_count 17 = .ok (.getfield 67, 3) := by decide +kernel
theorem dX7_count_20 : decode cX7_count 20 = .ok (.goto 29, 3) := by decide +kernel
theorem dX7_count_23 : decode cX7_count 23 = .ok (.iload_n 1, 1) := by decide +kernel
theorem dX7_count_24 : decode cX7_count 24 = .ok (.iconst 2, 1) := by decide +kernel
theorem dX7_count_25 : decode cX7_count 25 = .ok (.if_icmp .ne 10, 3) := by decide +kernel
theorem dX7_count_28 : decode cX7_count 28 = .ok (.aload_n 0, 1) := by decide +kernel
theorem dX7_count_29 : decode cX7_count 29 = .ok (.getfield 120, 3) := by decide +kernel
theorem dX7_count_32 : decode cX7_count 32 = .ok (.goto 17, 3) := by decide +kernel
theorem dX7_count_35 : decode cX7_count 35 = .ok (.iload_n 1, 1) := by decide +kernel
theorem dX7_count_36 : decode cX7_count 36 = .ok (.iconst 3, 1) := by decide +kernel
theorem dX7_count_37 : decode cX7_count 37 = .ok (.if_icmp .ne 10, 3) := by decide +kernel
theorem dX7_count_40 : decode cX7_count 40 = .ok (.aload_n 0, 1) := by decide +kernel
theorem dX7_count_41 : decode cX7_count 41 = .ok (.getfield 235, 3) := by decide +kernel
theorem dX7_count_44 : decode cX7_count 44 = .ok (.goto 5, 3) := by decide +kernel
theorem dX7_count_47 : decode cX7_count 47 = .ok (.bipush (-2), 2) := by decide +kernel
theorem dX7_count_49 : decode cX7_count 49 = .ok (.ireturn, 1) := by decide +kernel
theorem dX7_isSheet_0 : decode cX7_isSheet 0 = .ok (.iload_n 0, 1) := by decide +kernel
theorem dX7_isSheet_1 : decode cX7_isSheet 1 = .ok (.i2l, 1) := by decide +kernel
theorem dX7_isSheet_2 : decode cX7_isSheet 2 = .ok (.lconst 0, 1) := by decide +kernel
theorem dX7_isSheet_3 : decode cX7_isSheet 3 = .ok (.ldc2_w 346, 3) := by decide +kernel
theorem dX7_isSheet_6 : decode cX7_isSheet 6 = .ok (.invokestatic 73, 3) := by decide +kernel
theorem dX7_isSheet_9 : decode cX7_isSheet 9 = .ok (.ireturn, 1) := by decide +kernel
theorem dX7_sheet_0 : decode cX7_sheet 0 = .ok (.iload_n 1, 1) := by decide +kernel
theorem dX7_sheet_1 : decode cX7_sheet 1 = .ok (.invokestatic 301, 3) := by decide +kernel
theorem dX7_sheet_4 : decode cX7_sheet 4 = .ok (.ifCond .eq 27, 3) := by decide +kernel
theorem dX7_sheet_7 : decode cX7_sheet 7 = .ok (.iload_n 2, 1) := by decide +kernel
theorem dX7_sheet_8 : decode cX7_sheet 8 = .ok (.i2l, 1) := by decide +kernel
theorem dX7_sheet_9 : decode cX7_sheet 9 = .ok (.ldc2_w 348, 3) := by decide +kernel
theorem dX7_sheet_12 : decode cX7_sheet 12 = .ok (.ldc2_w 350, 3) := by decide +kernel
theorem dX7_sheet_15 : decode cX7_sheet 15 = .ok (.invokestatic 73, 3) := by decide +kernel
theorem dX7_sheet_18 : decode cX7_sheet 18 = .ok (.ifCond .eq 13, 3) := by decide +kernel
theorem dX7_sheet_21 : decode cX7_sheet 21 = .ok (.iload_n 2, 1) := by decide +kernel
theorem dX7_sheet_22 : decode cX7_sheet 22 = .ok (.ifCond .lt 12, 3) := by decide +kernel
theorem dX7_sheet_25 : decode cX7_sheet 25 = .ok (.iload_n 3, 1) := by decide +kernel
theorem dX7_sheet_26 : decode cX7_sheet 26 = .ok (.bipush 40, 2) := by decide +kernel
theorem dX7_sheet_28 : decode cX7_sheet 28 = .ok (.if_icmp .le 6, 3) := by decide +kernel
theorem dX7_sheet_31 : decode cX7_sheet 31 = .ok (.bipush (-2), 2) := by decide +kernel
theorem dX7_sheet_33 : decode cX7_sheet 33 = .ok (.ireturn, 1) := by decide +kernel
theorem dX7_sheet_34 : decode cX7_sheet 34 = .ok (.iload_n 2, 1) := by decide +kernel
theorem dX7_sheet_35 : decode cX7_sheet 35 = .ok (.ifCond .lt 10, 3) := by decide +kernel
theorem dX7_sheet_38 : decode cX7_sheet 38 = .ok (.iload_n 3, 1) := by decide +kernel
theorem dX7_sheet_39 : decode cX7_sheet 39 = .ok (.ifCond .ge 6, 3) := by decide +kernel
theorem dX7_sheet_42 : decode cX7_sheet 42 = .ok (.bipush (-14), 2) := by decide +kernel
theorem dX7_sheet_44 : decode cX7_sheet 44 = .ok (.ireturn, 1) := by decide +kernel
theorem dX7_sheet_45 : decode cX7_sheet 45 = .ok (.aload_n 0, 1) := by decide +kernel
theorem dX7_sheet_46 : decode cX7_sheet 46 = .ok (.getfield 50, 3) := by decide +kernel
theorem dX7_sheet_49 : decode cX7_sheet 49 = .ok (.iload_n 1, 1) := by decide +kernel
theorem dX7_sheet_50 : decode cX7_sheet 50 = .ok (.iload_n 2, 1) := by decide +kernel
theorem dX7_sheet_51 : decode cX7_sheet 51 = .ok (.ifCond .lt 7, 3) := by decide +kernel
theorem dX7_sheet_54 : decode cX7_sheet 54 = .ok (.iconst 1, 1) := by decide +kernel
theorem dX7_sheet_55 : decode cX7_sheet 55 = .ok (.goto 4, 3) := by decide +kernel
theorem dX7_sheet_58 : decode cX7_sheet 58 = .ok (.iconst 0, 1) := by decide +kernel
theorem dX7_sheet_59 : decode cX7_sheet 59 = .ok (.bastore, 1) := by decide +kernel
theorem dX7_sheet_60 : decode cX7_sheet 60 = .ok (.aload_n 0, 1) := by decide +kernel
theorem dX7_sheet_61 : decode cX7_sheet 61 = .ok (.getfield 54, 3) := by decide +kernel
theorem dX7_sheet_64 : decode cX7_sheet 64 = .ok (.iload_n 1, 1) := by decide +kernel
theorem dX7_sheet_65 : decode cX7_sheet 65 = .ok (.iload_n 2, 1) := by decide +kernel
theorem dX7_sheet_66 : decode cX7_sheet 66 = .ok (.iastore, 1) := by decide +kernel
theorem dX7_sheet_67 : decode cX7_sheet 67 = .ok (.aload_n 0, 1) := by decide +kernel
theorem dX7_sheet_68 : decode cX7_sheet 68 = .ok (.getfield 57, 3) := by decide +kernel
theorem dX7_sheet_71 : decode cX7_sheet 71 = .ok (.iload_n 1, 1) := by decide +kernel
theorem dX7_sheet_72 : decode cX7_sheet 72 = .ok (.iload_n 3, 1) := by decide +kernel
theorem dX7_sheet_73 : decode cX7_sheet 73 = .ok (.iastore, 1) := by decide +kernel
theorem dX7_sheet_74 : decode cX7_sheet 74 = .ok (.iconst 0, 1) := by decide +kernel
theorem dX7_sheet_75 : decode cX7_sheet 75 = .ok (.istore 4, 2) := by decide +kernel
theorem dX7_sheet_77 : decode cX7_sheet 77 = .ok (.iload 4, 2) := by decide +kernel
theorem dX7_sheet_79 : decode cX7_sheet 79 = .ok (.iload_n 3, 1) := by decide +kernel
theorem dX7_sheet_80 : decode cX7_sheet 80 = .ok (.if_icmp .ge 26, 3) := by decide +kernel
theorem dX7_sheet_83 : decode cX7_sheet 83 = .ok (.iload_n 2, 1) := by decide +kernel
theorem dX7_sheet_84 : decode cX7_sheet 84 = .ok (.ifCond .lt 22, 3) := by decide +kernel
theorem dX7_sheet_87 : decode cX7_sheet 87 = .ok (.aload_n 0, 1) := by decide +kernel
theorem dX7_sheet_88 : decode cX7_sheet 88 = .ok (.getfield 60, 3) := by decide +kernel
theorem dX7_sheet_91 : decode cX7_sheet 91 = .ok (.bipush 40, 2) := by decide +kernel
theorem dX7_sheet_93 : decode cX7_sheet 93 = .ok (.iload_n 1, 1) := by decide +kernel
theorem dX7_sheet_94 : decode cX7_sheet 94 = .ok (.imul, 1) := by decide +kernel
theorem dX7_sheet_95 : decode cX7_sheet 95 = .ok (.iload 4, 2) := by decide +kernel
theorem dX7_sheet_97 : decode cX7_sheet 97 = .ok (.iadd, 1) := by decide +kernel
theorem dX7_sheet_98 : decode cX7_sheet 98 = .ok (.iconst 0, 1) := by decide +kernel
theorem dX7_sheet_99 : decode cX7_sheet 99 = .ok (.iastore, 1) := by decide +kernel
theorem dX7_sheet_100 : decode cX7_sheet 100 = .ok (.iinc 4 1, 3) := by decide +kernel
theorem dX7_sheet_103 : decode cX7_sheet 103 = .ok (.goto (-26), 3) := by decide +kernel
theorem dX7_sheet_106 : decode cX7_sheet 106 = .ok (.iconst 1, 1) := by decide +kernel
theorem dX7_sheet_107 : decode cX7_sheet 107 = .ok (.ireturn, 1) := by decide +kernel
theorem dX7_cell_0 : decode cX7_cell 0 = .ok (.iload_n 1, 1) := by decide +kernel
theorem dX7_cell_1 : decode cX7_cell 1 = .ok (.invokestatic 301, 3) := by decide +kernel
theorem dX7_cell_4 : decode cX7_cell 4 = .ok (.ifCond .ne 6, 3) := by decide +kernel
theorem dX7_cell_7 : decode cX7_cell 7 = .ok (.bipush (-2), 2) := by decide +kernel
theorem dX7_cell_9 : decode cX7_cell 9 = .ok (.ireturn, 1) := by decide +kernel
theorem dX7_cell_10 : decode cX7_cell 10 = .ok (.aload_n 0, 1) := by decide +kernel
theorem dX7_cell_11 : decode cX7_cell 11 = .ok (.getfield 50, 3) := by decide +kernel
theorem dX7_cell_14 : decode cX7_cell 14 = .ok (.iload_n 1, 1) := by decide +kernel
theorem dX7_cell_15 : decode cX7_cell 15 = .ok (.baload, 1) := by decide +kernel
theorem dX7_cell_16 : decode cX7_cell 16 = .ok (.ifCond .ne 6, 3) := by decide +kernel
theorem dX7_cell_19 : decode cX7_cell 19 = .ok (.bipush (-11), 2) := by decide +kernel
theorem dX7_cell_21 : decode cX7_cell 21 = .ok (.ireturn, 1) := by decide +kernel
theorem dX7_cell_22 : decode cX7_cell 22 = .ok (.iload_n 2, 1) := by decide +kernel
theorem dX7_cell_23 : decode cX7_cell 23 = .ok (.i2l, 1) := by decide +kernel
theorem dX7_cell_24 : decode cX7_cell 24 = .ok (.lconst 0, 1) := by decide +kernel
theorem dX7_cell_25 : decode cX7_cell 25 = .ok (.aload_n 0, 1) := by decide +kernel
theorem dX7_cell_26 : decode cX7_cell 26 = .ok (.getfield 57, 3) := by decide +kernel
theorem dX7_cell_29 : decode cX7_cell 29 = .ok (.iload_n 1, 1) := by decide +kernel
theorem dX7_cell_30 : decode cX7_cell 30 = .ok (.iaload, 1) := by decide +kernel
theorem dX7_cell_31 : decode cX7_cell 31 = .ok (.iconst 1, 1) := by decide +kernel
theorem dX7_cell_32 : decode cX7_cell 32 = .ok (.isub, 1) := by decide +kernel
theorem dX7_cell_33 : decode cX7_cell 33 = .ok (.i2l, 1) := by decide +kernel
theorem dX7_cell_34 : decode cX7_cell 34 = .ok (.invokestatic 73, 3) := by decide +kernel
theorem dX7_cell_37 : decode cX7_cell 37 = .ok (.ifCond .ne 6, 3) := by decide +kernel
theorem dX7_cell_40 : decode cX7_cell 40 = .ok (.bipush (-12), 2) := by decide +kernel
theorem dX7_cell_42 : decode cX7_cell 42 = .ok (.ireturn, 1) := by decide +kernel
theorem dX7_cell_43 : decode cX7_cell 43 = .ok (.aload_n 0, 1) := by decide +kernel
theorem dX7_cell_44 : decode cX7_cell 44 = .ok (.getfield 60, 3) := by decide +kernel
theorem dX7_cell_47 : decode cX7_cell 47 = .ok (.bipush 40, 2) := by decide +kernel
theorem dX7_cell_49 : decode cX7_cell 49 = .ok (.iload_n 1, 1) := by decide +kernel
theorem dX7_cell_50 : decode cX7_cell 50 = .ok (.imul, 1) := by decide +kernel
theorem dX7_cell_51 : decode cX7_cell 51 = .ok (.iload_n 2, 1) := by decide +kernel
theorem dX7_cell_52 : decode cX7_cell 52 = .ok (.iadd, 1) := by decide +kernel
theorem dX7_cell_53 : decode cX7_cell 53 = .ok (.aload_n 0, 1) := by decide +kernel
theorem dX7_cell_54 : decode cX7_cell 54 = .ok (.getfield 54, 3) := by decide +kernel
theorem dX7_cell_57 : decode cX7_cell 57 = .ok (.iload_n 1, 1) := by decide +kernel
theorem dX7_cell_58 : decode cX7_cell 58 = .ok (.iaload, 1) := by decide +kernel
theorem dX7_cell_59 : decode cX7_cell 59 = .ok (.ifCond .ne 8, 3) := by decide +kernel
theorem dX7_cell_62 : decode cX7_cell 62 = .ok (.iload_n 3, 1) := by decide +kernel
theorem dX7_cell_63 : decode cX7_cell 63 = .ok (.i2b, 1) := by decide +kernel
theorem dX7_cell_64 : decode cX7_cell 64 = .ok (.goto 19, 3) := by decide +kernel
theorem dX7_cell_67 : decode cX7_cell 67 = .ok (.aload_n 0, 1) := by decide +kernel
theorem dX7_cell_68 : decode cX7_cell 68 = .ok (.getfield 54, 3) := by decide +kernel
theorem dX7_cell_71 : decode cX7_cell 71 = .ok (.iload_n 1, 1) := by decide +kernel
theorem dX7_cell_72 : decode cX7_cell 72 = .ok (.iaload, 1) := by decide +kernel
theorem dX7_cell_73 : decode cX7_cell 73 = .ok (.iconst 1, 1) := by decide +kernel
theorem dX7_cell_74 : decode cX7_cell 74 = .ok (.if_icmp .ne 8, 3) := by decide +kernel
theorem dX7_cell_77 : decode cX7_cell 77 = .ok (.iload_n 3, 1) := by decide +kernel
theorem dX7_cell_78 : decode cX7_cell 78 = .ok (.i2s, 1) := by decide +kernel
theorem dX7_cell_79 : decode cX7_cell 79 = .ok (.goto 4, 3) := by decide +kernel
theorem dX7_cell_82 : decode cX7_cell 82 = .ok (.iload_n 3, 1) := by decide +kernel
theorem dX7_cell_83 : decode cX7_cell 83 = .ok (.iastore, 1) := by decide +kernel
theorem dX7_cell_84 : decode cX7_cell 84 = .ok (.iconst 1, 1) := by decide +kernel
theorem dX7_cell_85 : decode cX7_cell 85 = .ok (.ireturn, 1) := by decide +kernel
theorem dX7_copy_0 : decode cX7_copy 0 = .ok (.iload_n 1, 1) := by decide +kernel
theorem dX7_copy_1 : decode cX7_copy 1 = .ok (.invokestatic 301, 3) := by decide +kernel
theorem dX7_copy_4 : decode cX7_copy 4 = .ok (.ifCond .eq 10, 3) := by decide +kernel
theorem dX7_copy_7 : decode cX7_copy 7 = .ok (.iload_n 3, 1) := by decide +kernel
theorem dX7_copy_8 : decode cX7_copy 8 = .ok (.invokestatic 301, 3) := by decide +kernel
theorem dX7_copy_11 : decode cX7_copy 11 = .ok (.ifCond .ne 6, 3) := by decide +kernel
theorem dX7_copy_14 : decode cX7_copy 14 = .ok (.bipush (-2), 2) := by decide +kernel
theorem dX7_copy_16 : decode cX7_copy 16 = .ok (.ireturn, 1) := by decide +kernel
theorem dX7_copy_17 : decode cX7_copy 17 = .ok (.aload_n 0, 1) := by decide +kernel
theorem dX7_copy_18 : decode cX7_copy 18 = .ok (.getfield 50, 3) := by decide +kernel
theorem dX7_copy_21 : decode cX7_copy 21 = .ok (.iload_n 1, 1) := by decide +kernel
theorem dX7_copy_22 : decode cX7_copy 22 = .ok (.baload, 1) := by decide +kernel
theorem dX7_copy_23 : decode cX7_copy 23 = .ok (.ifCond .eq 12, 3) := by decide +kernel
theorem dX7_copy_26 : decode cX7_copy 26 = .ok (.aload_n 0, 1) := by decide +kernel
theorem dX7_copy_27 : decode cX7_copy 27 = .ok (.getfield 50, 3) := by decide +kernel
theorem dX7_copy_30 : decode cX7_copy 30 = .ok (.iload_n 3, 1) := by decide +kernel
theorem dX7_copy_31 : decode cX7_copy 31 = .ok (.baload, 1) := by decide +kernel
theorem dX7_copy_32 : decode cX7_copy 32 = .ok (.ifCond .ne 6, 3) := by decide +kernel
theorem dX7_copy_35 : decode cX7_copy 35 = .ok (.bipush (-11), 2) := by decide +kernel
theorem dX7_copy_37 : decode cX7_copy 37 = .ok (.ireturn, 1) := by decide +kernel
theorem dX7_copy_38 : decode cX7_copy 38 = .ok (.aload_n 0, 1) := by decide +kernel
theorem dX7_copy_39 : decode cX7_copy 39 = .ok (.getfield 54, 3) := by decide +kernel
theorem dX7_copy_42 : decode cX7_copy 42 = .ok (.iload_n 1, 1) := by decide +kernel
theorem dX7_copy_43 : decode cX7_copy 43 = .ok (.iaload, 1) := by decide +kernel
theorem dX7_copy_44 : decode cX7_copy 44 = .ok (.aload_n 0, 1) := by decide +kernel
theorem dX7_copy_45 : decode cX7_copy 45 = .ok (.getfield 54, 3) := by decide +kernel
theorem dX7_copy_48 : decode cX7_copy 48 = .ok (.iload_n 3, 1) := by decide +kernel
theorem dX7_copy_49 : decode cX7_copy 49 = .ok (.iaload, 1) := by decide +kernel
theorem dX7_copy_50 : decode cX7_copy 50 = .ok (.if_icmp .eq 6, 3) := by decide +kernel
theorem dX7_copy_53 : decode cX7_copy 53 = .ok (.bipush (-13), 2) := by decide +kernel
theorem dX7_copy_55 : decode cX7_copy 55 = .ok (.ireturn, 1) := by decide +kernel
theorem dX7_copy_56 : decode cX7_copy 56 = .ok (.iload 5, 2) := by decide +kernel
theorem dX7_copy_58 : decode cX7_copy 58 = .ok (.ifCond .lt 39, 3) := by decide +kernel
theorem dX7_copy_61 : decode cX7_copy 61 = .ok (.iload_n 2, 1) := by decide +kernel
theorem dX7_copy_62 : decode cX7_copy 62 = .ok (.ifCond .lt 35, 3) := by decide +kernel
theorem dX7_copy_65 : decode cX7_copy 65 = .ok (.iload 4, 2) := by decide +kernel
theorem dX7_copy_67 : decode cX7_copy 67 = .ok (.ifCond .lt 30, 3) := by decide +kernel
theorem dX7_copy_70 : decode cX7_copy 70 = .ok (.iload_n 2, 1) := by decide +kernel
theorem dX7_copy_71 : decode cX7_copy 71 = .ok (.aload_n 0, 1) := by decide +kernel
theorem dX7_copy_72 : decode cX7_copy 72 = .ok (.getfield 57, 3) := by decide +kernel
theorem dX7_copy_75 : decode cX7_copy 75 = .ok (.iload_n 1, 1) := by decide +kernel
theorem dX7_copy_76 : decode cX7_copy 76 = .ok (.iaload, 1) := by decide +kernel
theorem dX7_copy_77 : decode cX7_copy 77 = .ok (.iload 5, 2) := by decide +kernel
theorem dX7_copy_79 : decode cX7_copy 79 = .ok (.isub, 1) := by decide +kernel
theorem dX7_copy_80 : decode cX7_copy 80 = .ok (.if_icmp .gt 17, 3) := by decide +kernel
theorem dX7_copy_83 : decode cX7_copy 83 = .ok (.iload 4, 2) := by decide +kernel
theorem dX7_copy_85 : decode cX7_copy 85 = .ok (.aload_n 0, 1) := by decide +kernel
theorem dX7_copy_86 : decode cX7_copy 86 = .ok (.getfield 57, 3) := by decide +kernel
theorem dX7_copy_89 : decode cX7_copy 89 = .ok (.iload_n 3, 1) := by decide +kernel
theorem dX7_copy_90 : decode cX7_copy 90 = .ok (.iaload, 1) := by decide +kernel
theorem dX7_copy_91 : decode cX7_copy 91 = .ok (.iload 5, 2) := by decide +kernel
theorem dX7_copy_93 : decode cX7_copy 93 = .ok (.isub, 1) := by decide +kernel
theorem dX7_copy_94 : decode cX7_copy 94 = .ok (.if_icmp .le 6, 3) := by decide +kernel
theorem dX7_copy_97 : decode cX7_copy 97 = .ok (.bipush (-12), 2) := by decide +kernel
theorem dX7_copy_99 : decode cX7_copy 99 = .ok (.ireturn, 1) := by decide +kernel
theorem dX7_copy_100 : decode cX7_copy 100 = .ok (.iload_n 1, 1) := by decide +kernel
theorem dX7_copy_101 : decode cX7_copy 101 = .ok (.iload_n 3, 1) := by decide +kernel
theorem dX7_copy_102 : decode cX7_copy 102 = .ok (.if_icmp .ne 13, 3) := by decide +kernel
theorem dX7_copy_105 : decode cX7_copy 105 = .ok (.iload_n 2, 1) := by decide +kernel
theorem dX7_copy_106 : decode cX7_copy 106 = .ok (.iload 4, 2) := by decide +kernel
theorem dX7_copy_108 : decode cX7_copy 108 = .ok (.if_icmp .ge 7, 3) := by decide +kernel
theorem dX7_copy_111 : decode cX7_copy 111 = .ok (.iconst 1, 1) := by decide +kernel
theorem dX7_copy_112 : decode cX7_copy 112 = .ok (.goto 4, 3) := by decide +kernel
theorem dX7_copy_115 : decode cX7_copy 115 = .ok (.iconst 0, 1) := by decide +kernel
theorem dX7_copy_116 : decode cX7_copy 116 = .ok (.istore 6, 2) := by decide +kernel
theorem dX7_copy_118 : decode cX7_copy 118 = .ok (.iconst 0, 1) := by decide +kernel
theorem dX7_copy_119 : decode cX7_copy 119 = .ok (.istore 7, 2) := by decide +kernel
theorem dX7_copy_121 : decode cX7_copy 121 = .ok (.iload 7, 2) := by decide +kernel
theorem dX7_copy_123 : decode cX7_copy 123 = .ok (.iload 5, 2) := by decide +kernel
theorem dX7_copy_125 : decode cX7_copy 125 = .ok (.if_icmp .ge 57, 3) := by decide +kernel
theorem dX7_copy_128 : decode cX7_copy 128 = .ok (.iload 6, 2) := by decide +kernel
theorem dX7_copy_130 : decode cX7_copy 130 = .ok (.ifCond .eq 13, 3) := by decide +kernel
theorem dX7_copy_133 : decode cX7_copy 133 = .ok (.iload 5, 2) := by decide +kernel
theorem dX7_copy_135 : decode cX7_copy 135 = .ok (.iconst 1, 1) := by decide +kernel
theorem dX7_copy_136 : decode cX7_copy 136 = .ok (.isub, 1) := by decide +kernel
theorem dX7_copy_137 : decode cX7_copy 137 = .ok (.iload 7, 2) := by decide +kernel
theorem dX7_copy_139 : decode cX7_copy 139 = .ok (.isub, 1) := by decide +kernel
theorem dX7_copy_140 : decode cX7_copy 140 = .ok (.goto 5, 3) := by decide +kernel
theorem dX7_copy_143 : decode cX7_copy 143 = .ok (.iload 7, 2) := by decide +kernel
theorem dX7_copy_145 : decode cX7_copy 145 = .ok (.istore 8, 2) := by decide +kernel
theorem dX7_copy_147 : decode cX7_copy 147 = .ok (.aload_n 0, 1) := by decide +kernel
theorem dX7_copy_148 : decode cX7_copy 148 = .ok (.getfield 60, 3) := by decide +kernel
theorem dX7_copy_151 : decode cX7_copy 151 = .ok (.bipush 40, 2) := by decide +kernel
theorem dX7_copy_153 : decode cX7_copy 153 = .ok (.iload_n 3, 1) := by decide +kernel
theorem dX7_copy_154 : decode cX7_copy 154 = .ok (.imul, 1) := by decide +kernel
theorem dX7_copy_155 : decode cX7_copy 155 = .ok (.iload 4, 2) := by decide +kernel
theorem dX7_copy_157 : decode cX7_copy 157 = .ok (.iadd, 1) := by decide +kernel
theorem dX7_copy_158 : decode cX7_copy 158 = .ok (.iload 8, 2) := by decide +kernel
theorem dX7_copy_160 : decode cX7_copy 160 = .ok (.iadd, 1) := by decide +kernel
theorem dX7_copy_161 : decode cX7_copy 161 = .ok (.aload_n 0, 1) := by decide +kernel
theorem dX7_copy_162 : decode cX7_copy 162 = .ok (.getfield 60, 3) := by decide +kernel
theorem dX7_copy_165 : decode cX7_copy 165 = .ok (.bipush 40, 2) := by decide +kernel
theorem dX7_copy_167 : decode cX7_copy 167 = .ok (.iload_n 1, 1) := by decide +kernel
theorem dX7_copy_168 : decode cX7_copy 168 = .ok (.imul, 1) := by decide +kernel
theorem dX7_copy_169 : decode cX7_copy 169 = .ok (.iload_n 2, 1) := by decide +kernel
theorem dX7_copy_170 : decode cX7_copy 170 = .ok (.iadd, 1) := by decide +kernel
theorem dX7_copy_171 : decode cX7_copy 171 = .ok (.iload 8, 2) := by decide +kernel
theorem dX7_copy_173 : decode cX7_copy 173 = .ok (.iadd, 1) := by decide +kernel
theorem dX7_copy_174 : decode cX7_copy 174 = .ok (.iaload, 1) := by decide +kernel
theorem dX7_copy_175 : decode cX7_copy 175 = .ok (.iastore, 1) := by decide +kernel
theorem dX7_copy_176 : decode cX7_copy 176 = .ok (.iinc 7 1, 3) := by decide +kernel
theorem dX7_copy_179 : decode cX7_copy 179 = .ok (.goto (-58), 3) := by decide +kernel
theorem dX7_copy_182 : decode cX7_copy 182 = .ok (.iload 5, 2) := by decide +kernel
theorem dX7_copy_184 : decode cX7_copy 184 = .ok (.ireturn, 1) := by decide +kernel
theorem dX7_sights_0 : decode cX7_sights 0 = .ok (.iload_n 1, 1) := by decide +kernel
theorem dX7_sights_1 : decode cX7_sights 1 = .ok (.invokestatic 301, 3) := by decide +kernel
theorem dX7_sights_4 : decode cX7_sights 4 = .ok (.ifCond .eq 28, 3) := by decide +kernel
theorem dX7_sights_7 : decode cX7_sights 7 = .ok (.iload_n 2, 1) := by decide +kernel
theorem dX7_sights_8 : decode cX7_sights 8 = .ok (.i2l, 1) := by decide +kernel
theorem dX7_sights_9 : decode cX7_sights 9 = .ok (.lconst 0, 1) := by decide +kernel
theorem dX7_sights_10 : decode cX7_sights 10 = .ok (.ldc2_w 350, 3) := by decide +kernel
theorem dX7_sights_13 : decode cX7_sights 13 = .ok (.invokestatic 73, 3) := by decide +kernel
theorem dX7_sights_16 : decode cX7_sights 16 = .ok (.ifCond .eq 16, 3) := by decide +kernel
theorem dX7_sights_19 : decode cX7_sights 19 = .ok (.iload 4, 2) := by decide +kernel
theorem dX7_sights_21 : decode cX7_sights 21 = .ok (.i2l, 1) := by decide +kernel
theorem dX7_sights_22 : decode cX7_sights 22 = .ok (.lconst 0, 1) := by decide +kernel
theorem dX7_sights_23 : decode cX7_sights 23 = .ok (.ldc2_w 352, 3) := by decide +kernel
theorem dX7_sights_26 : decode cX7_sights 26 = .ok (.invokestatic 73, 3) := by decide +kernel
theorem dX7_sights_29 : decode cX7_sights 29 = .ok (.ifCond .ne 6, 3) := by decide +kernel
theorem dX7_sights_32 : decode cX7_sights 32 = .ok (.bipush (-2), 2) := by decide +kernel
theorem dX7_sights_34 : decode cX7_sights 34 = .ok (.ireturn, 1) := by decide +kernel
theorem dX7_sights_35 : decode cX7_sights 35 = .ok (.aload_n 0, 1) := by decide +kernel
theorem dX7_sights_36 : decode cX7_sights 36 = .ok (.getfield 50, 3) := by decide +kernel
theorem dX7_sights_39 : decode cX7_sights 39 = .ok (.iload_n 1, 1) := by decide +kernel
theorem dX7_sights_40 : decode cX7_sights 40 = .ok (.baload, 1) := by decide +kernel
theorem dX7_sights_41 : decode cX7_sights 41 = .ok (.ifCond .eq 16, 3) := by decide +kernel
theorem dX7_sights_44 : decode cX7_sights 44 = .ok (.aload_n 0, 1) := by decide +kernel
theorem dX7_sights_45 : decode cX7_sights 45 = .ok (.getfield 54, 3) := by decide +kernel
theorem dX7_sights_48 : decode cX7_sights 48 = .ok (.iload_n 1, 1) := by decide +kernel
theorem dX7_sights_49 : decode cX7_sights 49 = .ok (.iaload, 1) := by decide +kernel
theorem dX7_sights_50 : decode cX7_sights 50 = .ok (.iload_n 2, 1) := by decide +kernel
theorem dX7_sights_51 : decode cX7_sights 51 = .ok (.if_icmp .eq 6, 3) := by decide +kernel
theorem dX7_sights_54 : decode cX7_sights 54 = .ok (.bipush (-13), 2) := by decide +kernel
theorem dX7_sights_56 : decode cX7_sights 56 = .ok (.ireturn, 1) := by decide +kernel
theorem dX7_sights_57 : decode cX7_sights 57 = .ok (.aload_n 0, 1) := by decide +kernel
theorem dX7_sights_58 : decode cX7_sights 58 = .ok (.getfield 50, 3) := by decide +kernel
theorem dX7_sights_61 : decode cX7_sights 61 = .ok (.iload_n 1, 1) := by decide +kernel
theorem dX7_sights_62 : decode cX7_sights 62 = .ok (.baload, 1) := by decide +kernel
theorem dX7_sights_63 : decode cX7_sights 63 = .ok (.ifCond .ne 6, 3) := by decide +kernel
theorem dX7_sights_66 : decode cX7_sights 66 = .ok (.bipush (-11), 2) := by decide +kernel
theorem dX7_sights_68 : decode cX7_sights 68 = .ok (.ireturn, 1) := by decide +kernel
theorem dX7_sights_69 : decode cX7_sights 69 = .ok (.iconst 0, 1) := by decide +kernel
theorem dX7_sights_70 : decode cX7_sights 70 = .ok (.istore 5, 2) := by decide +kernel
theorem dX7_sights_72 : decode cX7_sights 72 = .ok (.iconst 0, 1) := by decide +kernel
theorem dX7_sights_73 : decode cX7_sights 73 = .ok (.istore 6, 2) := by decide +kernel
theorem dX7_sights_75 : decode cX7_sights 75 = .ok (.iload 6, 2) := by decide +kernel
theorem dX7_sights_77 : decode cX7_sights 77 = .ok (.iload 4, 2) := by decide +kernel
theorem dX7_sights_79 : decode cX7_sights 79 = .ok (.if_icmp .ge 88, 3) := by decide +kernel
theorem dX7_sights_82 : decode cX7_sights 82 = .ok (.iload_n 3, 1) := by decide +kernel
theorem dX7_sights_83 : decode cX7_sights 83 = .ok (.ifCond .lt 20, 3) := by decide +kernel
theorem dX7_sights_86 : decode cX7_sights 86 = .ok (.iload_n 3, 1) := by decide +kernel
theorem dX7_sights_87 : decode cX7_sights 87 = .ok (.aload_n 0, 1) := by decide +kernel
theorem dX7_sights_88 : decode cX7_sights 88 = .ok (.getfield 57, 3) := by decide +kernel
theorem dX7_sights_91 : decode cX7_sights 91 = .ok (.iload_n 1, 1) := by decide +kernel
theorem dX7_sights_92 : decode cX7_sights 92 = .ok (.iaload, 1) := by decide +kernel
theorem dX7_sights_93 : decode cX7_sights 93 = .ok (.iconst 3, 1) := by decide +kernel
theorem dX7_sights_94 : decode cX7_sights 94 = .ok (.iload 6, 2) := by decide +kernel
theorem dX7_sights_96 : decode cX7_sights 96 = .ok (.imul, 1) := by decide +kernel
theorem dX7_sights_97 : decode cX7_sights 97 = .ok (.isub, 1) := by decide +kernel
theorem dX7_sights_98 : decode cX7_sights 98 = .ok (.iconst 3, 1) := by decide +kernel
theorem dX7_sights_99 : decode cX7_sights 99 = .ok (.isub, 1) := by decide +kernel
theorem dX7_sights_100 : decode cX7_sights 100 = .ok (.if_icmp .le 6, 3) := by decide +kernel
theorem dX7_sights_103 : decode cX7_sights 103 = .ok (.bipush (-12), 2) := by decide +kernel
theorem dX7_sights_105 : decode cX7_sights 105 = .ok (.ireturn, 1) := by decide +kernel
theorem dX7_sights_106 : decode cX7_sights 106 = .ok (.bipush 40, 2) := by decide +kernel
theorem dX7_sights_108 : decode cX7_sights 108 = .ok (.iload_n 1, 1) := by decide +kernel
theorem dX7_sights_109 : decode cX7_sights 109 = .ok (.imul, 1) := by decide +kernel
theorem dX7_sights_110 : decode cX7_sights 110 = .ok (.iload_n 3, 1) := by decide +kernel
theorem dX7_sights_111 : decode cX7_sights 111 = .ok (.iadd, 1) := by decide +kernel
theorem dX7_sights_112 : decode cX7_sights 112 = .ok (.iconst 3, 1) := by decide +kernel
theorem dX7_sights_113 : decode cX7_sights 113 = .ok (.iload 6, 2) := by decide +kernel
theorem dX7_sights_115 : decode cX7_sights 115 = .ok (.imul, 1) := by decide +kernel
theorem dX7_sights_116 : decode cX7_sights 116 = .ok (.iadd, 1) := by decide +kernel
theorem dX7_sights_117 : decode cX7_sights 117 = .ok (.istore 7, 2) := by decide +kernel
theorem dX7_sights_119 : decode cX7_sights 119 = .ok (.iload 5, 2) := by decide +kernel
theorem dX7_sights_121 : decode cX7_sights 121 = .ok (.aload_n 0, 1) := by decide +kernel
theorem dX7_sights_122 : decode cX7_sights 122 = .ok (.aload_n 0, 1) := by decide +kernel
theorem dX7_sights_123 : decode cX7_sights 123 = .ok (.getfield 60, 3) := by decide +kernel
theorem dX7_sights_126 : decode cX7_sights 126 = .ok (.iload 7, 2) := by decide +kernel
theorem dX7_sights_128 : decode cX7_sights 128 = .ok (.iaload, 1) := by decide +kernel
theorem dX7_sights_129 : decode cX7_sights 129 = .ok (.aload_n 0, 1) := by decide +kernel
theorem dX7_sights_130 : decode cX7_sights 130 = .ok (.getfield 60, 3) := by decide +kernel
theorem dX7_sights_133 : decode cX7_sights 133 = .ok (.iload 7, 2) := by decide +kernel
theorem dX7_sights_135 : decode cX7_sights 135 = .ok (.iconst 1, 1) := by decide +kernel
theorem dX7_sights_136 : decode cX7_sights 136 = .ok (.iadd, 1) := by decide +kernel
theorem dX7_sights_137 : decode cX7_sights 137 = .ok (.iaload, 1) := by decide +kernel
theorem dX7_sights_138 : decode cX7_sights 138 = .ok (.aload_n 0, 1) := by decide +kernel
theorem dX7_sights_139 : decode cX7_sights 139 = .ok (.getfield 60, 3) := by decide +kernel
theorem dX7_sights_142 : decode cX7_sights 142 = .ok (.iload 7, 2) := by decide +kernel
theorem dX7_sights_144 : decode cX7_sights 144 = .ok (.iconst 2, 1) := by decide +kernel
theorem dX7_sights_145 : decode cX7_sights 145 = .ok (.iadd, 1) := by decide +kernel
theorem dX7_sights_146 : decode cX7_sights 146 = .ok (.iaload, 1) := by decide +kernel
theorem dX7_sights_147 : decode cX7_sights 147 = .ok (.invokevirtual 354, 3) := by decide +kernel
theorem dX7_sights_150 : decode cX7_sights 150 = .ok (.ifCond .lt 7, 3) := by decide +kernel
theorem dX7_sights_153 : decode cX7_sights 153 = .ok (.iconst 1, 1) := by decide +kernel
theorem dX7_sights_154 : decode cX7_sights 154 = .ok (.goto 4, 3) := by decide +kernel
theorem dX7_sights_157 : decode cX7_sights 157 = .ok (.iconst 0, 1) := by decide +kernel
theorem dX7_sights_158 : decode cX7_sights 158 = .ok (.iadd, 1) := by decide +kernel
theorem dX7_sights_159 : decode cX7_sights 159 = .ok (.istore 5, 2) := by decide +kernel
theorem dX7_sights_161 : decode cX7_sights 161 = .ok (.iinc 6 1, 3) := by decide +kernel
theorem dX7_sights_164 : decode cX7_sights 164 = .ok (.goto (-89), 3) := by decide +kernel
theorem dX7_sights_167 : decode cX7_sights 167 = .ok (.iload 5, 2) := by decide +kernel
theorem dX7_sights_169 : decode cX7_sights 169 = .ok (.ireturn, 1) := by decide +kernel
theorem dX7_over_0 : decode cX7_over 0 = .ok (.iload_n 0, 1) := by decide +kernel
theorem dX7_over_1 : decode cX7_over 1 = .ok (.ifCond .ne 7, 3) := by decide +kernel
theorem dX7_over_4 : decode cX7_over 4 = .ok (.iconst (-1), 1) := by decide +kernel
theorem dX7_over_5 : decode cX7_over 5 = .ok (.goto 22, 3) := by decide +kernel
theorem dX7_over_8 : decode cX7_over 8 = .ok (.iload_n 0, 1) := by decide +kernel
theorem dX7_over_9 : decode cX7_over 9 = .ok (.iconst 3, 1) := by decide +kernel
theorem dX7_over_10 : decode cX7_over 10 = .ok (.if_icmp .ne 7, 3) := by decide +kernel
theorem dX7_over_13 : decode cX7_over 13 = .ok (.iconst 1, 1) := by decide +kernel
theorem dX7_over_14 : decode cX7_over 14 = .ok (.goto 13, 3) := by decide +kernel
theorem dX7_over_17 : decode cX7_over 17 = .ok (.iload_n 0, 1) := by decide +kernel
theorem dX7_over_18 : decode cX7_over 18 = .ok (.iconst 4, 1) := by decide +kernel
theorem dX7_over_19 : decode cX7_over 19 = .ok (.if_icmp .ne 7, 3) := by decide +kernel
theorem dX7_over_22 : decode cX7_over 22 = .ok (.iconst 2, 1) := by decide +kernel
theorem dX7_over_23 : decode cX7_over 23 = .ok (.goto 4, 3) := by decide +kernel
theorem dX7_over_26 : decode cX7_over 26 = .ok (.iconst 0, 1) := by decide +kernel
theorem dX7_over_27 : decode cX7_over 27 = .ok (.ireturn, 1) := by decide +kernel
theorem dX7_taken_0 : decode cX7_taken 0 = .ok (.iload_n 2, 1) := by decide +kernel
theorem dX7_taken_1 : decode cX7_taken 1 = .ok (.i2l, 1) := by decide +kernel
theorem dX7_taken_2 : decode cX7_taken 2 = .ok (.lconst 0, 1) := by decide +kernel
theorem dX7_taken_3 : decode cX7_taken 3 = .ok (.ldc2_w 94, 3) := by decide +kernel
theorem dX7_taken_6 : decode cX7_taken 6 = .ok (.invokestatic 73, 3) := by decide +kernel
theorem dX7_taken_9 : decode cX7_taken 9 = .ok (.ifCond .ne 6, 3) := by decide +kernel
theorem dX7_taken_12 : decode cX7_taken 12 = .ok (.bipush (-2), 2) := by decide +kernel
theorem dX7_taken_14 : decode cX7_taken 14 = .ok (.ireturn, 1) := by decide +kernel
theorem dX7_taken_15 : decode cX7_taken 15 = .ok (.aload_n 0, 1) := by decide +kernel
theorem dX7_taken_16 : decode cX7_taken 16 = .ok (.iload_n 1, 1) := by decide +kernel
theorem dX7_taken_17 : decode cX7_taken 17 = .ok (.invokevirtual 79, 3) := by decide +kernel
theorem dX7_taken_20 : decode cX7_taken 20 = .ok (.ifCond .ne 6, 3) := by decide +kernel
theorem dX7_taken_23 : decode cX7_taken 23 = .ok (.bipush (-11), 2) := by decide +kernel
theorem dX7_taken_25 : decode cX7_taken 25 = .ok (.ireturn, 1) := by decide +kernel
theorem dX7_taken_26 : decode cX7_taken 26 = .ok (.aload_n 0, 1) := by decide +kernel
theorem dX7_taken_27 : decode cX7_taken 27 = .ok (.getfield 26, 3) := by decide +kernel
theorem dX7_taken_30 : decode cX7_taken 30 = .ok (.iload_n 1, 1) := by decide +kernel
theorem dX7_taken_31 : decode cX7_taken 31 = .ok (.iaload, 1) := by decide +kernel
theorem dX7_taken_32 : decode cX7_taken 32 = .ok (.istore_n 3, 1) := by decide +kernel
theorem dX7_taken_33 : decode cX7_taken 33 = .ok (.iload_n 3, 1) := by decide +kernel
theorem dX7_taken_34 : decode cX7_taken 34 = .ok (.iconst (-1), 1) := by decide +kernel
theorem dX7_taken_35 : decode cX7_taken 35 = .ok (.if_icmp .eq 16, 3) := by decide +kernel
theorem dX7_taken_38 : decode cX7_taken 38 = .ok (.iload_n 3, 1) := by decide +kernel
theorem dX7_taken_39 : decode cX7_taken 39 = .ok (.iload_n 2, 1) := by decide +kernel
theorem dX7_taken_40 : decode cX7_taken 40 = .ok (.if_icmp .eq 11, 3) := by decide +kernel
theorem dX7_taken_43 : decode cX7_taken 43 = .ok (.iload_n 3, 1) := by decide +kernel
theorem dX7_taken_44 : decode cX7_taken 44 = .ok (.invokestatic 357, 3) := by decide +kernel
theorem dX7_taken_47 : decode cX7_taken 47 = .ok (.istore_n 3, 1) := by decide +kernel
theorem dX7_taken_48 : decode cX7_taken 48 = .ok (.goto (-15), 3) := by decide +kernel
theorem dX7_taken_51 : decode cX7_taken 51 = .ok (.iload_n 3, 1) := by decide +kernel
theorem dX7_taken_52 : decode cX7_taken 52 = .ok (.iload_n 2, 1) := by decide +kernel
theorem dX7_taken_53 : decode cX7_taken 53 = .ok (.if_icmp .ne 12, 3) := by decide +kernel
theorem dX7_taken_56 : decode cX7_taken 56 = .ok (.aload_n 0, 1) := by decide +kernel
theorem dX7_taken_57 : decode cX7_taken 57 = .ok (.iload_n 1, 1) := by decide +kernel
theorem dX7_taken_58 : decode cX7_taken 58 = .ok (.iconst 0, 1) := by decide +kernel
theorem dX7_taken_59 : decode cX7_taken 59 = .ok (.invokevirtual 87, 3) := by decide +kernel
theorem dX7_taken_62 : decode cX7_taken 62 = .ok (.goto 5, 3) := by decide +kernel
theorem dX7_taken_65 : decode cX7_taken 65 = .ok (.bipush (-13), 2) := by decide +kernel
theorem dX7_taken_67 : decode cX7_taken 67 = .ok (.ireturn, 1) := by decide +kernel
end
section
theorem dJ11_isValidCodePoint_9a6ad_0 : decode cJ11_isValidCodePoint_9a6ad 0 = .ok (.iload_n 0, 1) := by decide +kernel
theorem dJ11_isValidCodePoint_9a6ad_1 : decode cJ11_isValidCodePoint_9a6ad 1 = .ok (.bipush 16, 2) := by decide +kernel
theorem dJ11_isValidCodePoint_9a6ad_3 : decode cJ11_isValidCodePoint_9a6ad 3 = .ok (.iushr, 1) := by decide +kernel
theorem dJ11_isValidCodePoint_9a6ad_4 : decode cJ11_isValidCodePoint_9a6ad 4 = .ok (.istore_n 1, 1) := by decide +kernel
theorem dJ11_isValidCodePoint_9a6ad_5 : decode cJ11_isValidCodePoint_9a6ad 5 = .ok (.iload_n 1, 1) := by decide +kernel
theorem dJ11_isValidCodePoint_9a6ad_6 : decode cJ11_isValidCodePoint_9a6ad 6 = .ok (.bipush 17, 2) := by decide +kernel
theorem dJ11_isValidCodePoint_9a6ad_8 : decode cJ11_isValidCodePoint_9a6ad 8 = .ok (.if_icmp .ge 7, 3) := by decide +kernel
theorem dJ11_isValidCodePoint_9a6ad_11 : decode cJ11_isValidCodePoint_9a6ad 11 = .ok (.iconst 1, 1) := by decide +kernel
theorem dJ11_isValidCodePoint_9a6ad_12 : decode cJ11_isValidCodePoint_9a6ad 12 = .ok (.goto 4, 3) := by decide +kernel
theorem dJ11_isValidCodePoint_9a6ad_15 : decode cJ11_isValidCodePoint_9a6ad 15 = .ok (.iconst 0, 1) := by decide +kernel
theorem dJ11_isValidCodePoint_9a6ad_16 : decode cJ11_isValidCodePoint_9a6ad 16 = .ok (.ireturn, 1) := by decide +kernel
theorem dJ11_highSurrogate_5068e_0 : decode cJ11_highSurrogate_5068e 0 = .ok (.iload_n 0, 1) := by decide +kernel
theorem dJ11_highSurrogate_5068e_1 : decode cJ11_highSurrogate_5068e 1 = .ok (.bipush 10, 2) := by decide +kernel
theorem dJ11_highSurrogate_5068e_3 : decode cJ11_highSurrogate_5068e 3 = .ok (.iushr, 1) := by decide +kernel
theorem dJ11_highSurrogate_5068e_4 : decode cJ11_highSurrogate_5068e 4 = .ok (.ldc 110, 2) := by decide +kernel
theorem dJ11_highSurrogate_5068e_6 : decode cJ11_highSurrogate_5068e 6 = .ok (.iadd, 1) := by decide +kernel
theorem dJ11_highSurrogate_5068e_7 : decode cJ11_highSurrogate_5068e 7 = .ok (.i2c, 1) := by decide +kernel
theorem dJ11_highSurrogate_5068e_8 : decode cJ11_highSurrogate_5068e 8 = .ok (.ireturn, 1) := by decide +kernel
theorem dJ11_lowSurrogate_5068e_0 : decode cJ11_lowSurrogate_5068e 0 = .ok (.iload_n 0, 1) := by decide +kernel
theorem dJ11_lowSurrogate_5068e_1 : decode cJ11_lowSurrogate_5068e 1 = .ok (.sipush 1023, 3) := by decide +kernel
theorem dJ11_lowSurrogate_5068e_4 : decode cJ11_lowSurrogate_5068e 4 = .ok (.iand, 1) := by decide +kernel
theorem dJ11_lowSurrogate_5068e_5 : decode cJ11_lowSurrogate_5068e 5 = .ok (.ldc 76, 2) := by decide +kernel
theorem dJ11_lowSurrogate_5068e_7 : decode cJ11_lowSurrogate_5068e 7 = .ok (.iadd, 1) := by decide +kernel
theorem dJ11_lowSurrogate_5068e_8 : decode cJ11_lowSurrogate_5068e 8 = .ok (.i2c, 1) := by decide +kernel
theorem dJ11_lowSurrogate_5068e_9 : decode cJ11_lowSurrogate_5068e 9 = .ok (.ireturn, 1) := by decide +kernel
theorem dJ6_bitCount_0f7a4_0 : decode cJ6_bitCount_0f7a4 0 = .ok (.iload_n 0, 1) := by decide +kernel
theorem dJ6_bitCount_0f7a4_1 : decode cJ6_bitCount_0f7a4 1 = .ok (.iload_n 0, 1) := by decide +kernel
theorem dJ6_bitCount_0f7a4_2 : decode cJ6_bitCount_0f7a4 2 = .ok (.iconst 1, 1) := by decide +kernel
theorem dJ6_bitCount_0f7a4_3 : decode cJ6_bitCount_0f7a4 3 = .ok (.iushr, 1) := by decide +kernel
theorem dJ6_bitCount_0f7a4_4 : decode cJ6_bitCount_0f7a4 4 = .ok (.ldc_w 265, 3) := by decide +kernel
theorem dJ6_bitCount_0f7a4_7 : decode cJ6_bitCount_0f7a4 7 = .ok (.iand, 1) := by decide +kernel
theorem dJ6_bitCount_0f7a4_8 : decode cJ6_bitCount_0f7a4 8 = .ok (.isub, 1) := by decide +kernel
theorem dJ6_bitCount_0f7a4_9 : decode cJ6_bitCount_0f7a4 9 = .ok (.istore_n 0, 1) := by decide +kernel
theorem dJ6_bitCount_0f7a4_10 : decode cJ6_bitCount_0f7a4 10 = .ok (.iload_n 0, 1) := by decide +kernel
theorem dJ6_bitCount_0f7a4_11 : decode cJ6_bitCount_0f7a4 11 = .ok (.ldc_w 266, 3) := by decide +kernel
theorem dJ6_bitCount_0f7a4_14 : decode cJ6_bitCount_0f7a4 14 = .ok (.iand, 1) := by decide +kernel
theorem dJ6_bitCount_0f7a4_15 : decode cJ6_bitCount_0f7a4 15 = .ok (.iload_n 0, 1) := by decide +kernel
theorem dJ6_bitCount_0f7a4_16 : decode cJ6_bitCount_0f7a4 16 = .ok (.iconst 2, 1) := by decide +kernel
theorem dJ6_bitCount_0f7a4_17 : decode cJ6_bitCount_0f7a4 17 = .ok (.iushr, 1) := by decide +kernel
theorem dJ6_bitCount_0f7a4_18 : decode cJ6_bitCount_0f7a4 18 = .ok (.ldc_w 266, 3) := by decide +kernel
theorem dJ6_bitCount_0f7a4_21 : decode cJ6_bitCount_0f7a4 21 = .ok (.iand, 1) := by decide +kernel
theorem dJ6_bitCount_0f7a4_22 : decode cJ6_bitCount_0f7a4 22 = .ok (.iadd, 1) := by decide +kernel
theorem dJ6_bitCount_0f7a4_23 : decode cJ6_bitCount_0f7a4 23 = .ok (.istore_n 0, 1) := by decide +kernel
theorem dJ6_bitCount_0f7a4_24 : decode cJ6_bitCount_0f7a4 24 = .ok (.iload_n 0, 1) := by decide +kernel
theorem dJ6_bitCount_0f7a4_25 : decode cJ6_bitCount_0f7a4 25 = .ok (.iload_n 0, 1) := by decide +kernel
theorem dJ6_bitCount_0f7a4_26 : decode cJ6_bitCount_0f7a4 26 = .ok (.iconst 4, 1) := by decide +kernel
theorem dJ6_bitCount_0f7a4_27 : decode cJ6_bitCount_0f7a4 27 = .ok (.iushr, 1) := by decide +kernel
theorem dJ6_bitCount_0f7a4_28 : decode cJ6_bitCount_0f7a4 28 = .ok (.iadd, 1) := by decide +kernel
theorem dJ6_bitCount_0f7a4_29 : decode cJ6_bitCount_0f7a4 29 = .ok (.ldc_w 267, 3) := by decide +kernel
theorem dJ6_bitCount_0f7a4_32 : decode cJ6_bitCount_0f7a4 32 = .ok (.iand, 1) := by decide +kernel
theorem dJ6_bitCount_0f7a4_33 : decode cJ6_bitCount_0f7a4 33 = .ok (.istore_n 0, 1) := by decide +kernel
theorem dJ6_bitCount_0f7a4_34 : decode cJ6_bitCount_0f7a4 34 = .ok (.iload_n 0, 1) := by decide +kernel
theorem dJ6_bitCount_0f7a4_35 : decode cJ6_bitCount_0f7a4 35 = .ok (.iload_n 0, 1) := by decide +kernel
theorem dJ6_bitCount_0f7a4_36 : decode cJ6_bitCount_0f7a4 36 = .ok (.bipush 8, 2) := by decide +kernel
theorem dJ6_bitCount_0f7a4_38 : decode cJ6_bitCount_0f7a4 38 = .ok (.iushr, 1) := by decide +kernel
theorem dJ6_bitCount_0f7a4_39 : decode cJ6_bitCount_0f7a4 39 = .ok (.iadd, 1) := by decide +kernel
theorem dJ6_bitCount_0f7a4_40 : decode cJ6_bitCount_0f7a4 40 = .ok (.istore_n 0, 1) := by decide +kernel
theorem dJ6_bitCount_0f7a4_41 : decode cJ6_bitCount_0f7a4 41 = .ok (.iload_n 0, 1) := by decide +kernel
theorem dJ6_bitCount_0f7a4_42 : decode cJ6_bitCount_0f7a4 42 = .ok (.iload_n 0, 1) := by decide +kernel
theorem dJ6_bitCount_0f7a4_43 : decode cJ6_bitCount_0f7a4 43 = .ok (.bipush 16, 2) := by decide +kernel
theorem dJ6_bitCount_0f7a4_45 : decode cJ6_bitCount_0f7a4 45 = .ok (.iushr, 1) := by decide +kernel
theorem dJ6_bitCount_0f7a4_46 : decode cJ6_bitCount_0f7a4 46 = .ok (.iadd, 1) := by decide +kernel
theorem dJ6_bitCount_0f7a4_47 : decode cJ6_bitCount_0f7a4 47 = .ok (.istore_n 0, 1) := by decide +kernel
theorem dJ6_bitCount_0f7a4_48 : decode cJ6_bitCount_0f7a4 48 = .ok (.iload_n 0, 1) := by decide +kernel
theorem dJ6_bitCount_0f7a4_49 : decode cJ6_bitCount_0f7a4 49 = .ok (.bipush 63, 2) := by decide +kernel
theorem dJ6_bitCount_0f7a4_51 : decode cJ6_bitCount_0f7a4 51 = .ok (.iand, 1) := by decide +kernel
theorem dJ6_bitCount_0f7a4_52 : decode cJ6_bitCount_0f7a4 52 = .ok (.ireturn, 1) := by decide +kernel
theorem dJ9_abs_0f7a4_0 : decode cJ9_abs_0f7a4 0 = .ok (.iload_n 0, 1) := by decide +kernel
theorem dJ9_abs_0f7a4_1 : decode cJ9_abs_0f7a4 1 = .ok (.ifCond .ge 8, 3) := by decide +kernel
theorem dJ9_abs_0f7a4_4 : decode cJ9_abs_0f7a4 4 = .ok (.iload_n 0, 1) := by decide +kernel
theorem dJ9_abs_0f7a4_5 : decode cJ9_abs_0f7a4 5 = .ok (.ineg, 1) := by decide +kernel
theorem dJ9_abs_0f7a4_6 : decode cJ9_abs_0f7a4 6 = .ok (.goto 4, 3) := by decide +kernel
theorem dJ9_abs_0f7a4_9 : decode cJ9_abs_0f7a4 9 = .ok (.iload_n 0, 1) := by decide +kernel
theorem dJ9_abs_0f7a4_10 : decode cJ9_abs_0f7a4 10 = .ok (.ireturn, 1) := by decide +kernel
theorem dJ9_max_7cf53_0 : decode cJ9_max_7cf53 0 = .ok (.iload_n 0, 1) := by decide +kernel
theorem dJ9_max_7cf53_1 : decode cJ9_max_7cf53 1 = .ok (.iload_n 1, 1) := by decide +kernel
theorem dJ9_max_7cf53_2 : decode cJ9_max_7cf53 2 = .ok (.if_icmp .lt 7, 3) := by decide +kernel
theorem dJ9_max_7cf53_5 : decode cJ9_max_7cf53 5 = .ok (.iload_n 0, 1) := by decide +kernel
theorem dJ9_max_7cf53_6 : decode cJ9_max_7cf53 6 = .ok (.goto 4, 3) := by decide +kernel
theorem dJ9_max_7cf53_9 : decode cJ9_max_7cf53 9 = .ok (.iload_n 1, 1) := by decide +kernel
theorem dJ9_max_7cf53_10 : decode cJ9_max_7cf53 10 = .ok (.ireturn, 1) := by decide +kernel
theorem dJ9_min_7cf53_0 : decode cJ9_min_7cf53 0 = .ok (.iload_n 0, 1) := by decide +kernel
theorem dJ9_min_7cf53_1 : decode cJ9_min_7cf53 1 = .ok (.iload_n 1, 1) := by decide +kernel
theorem dJ9_min_7cf53_2 : decode cJ9_min_7cf53 2 = .ok (.if_icmp .gt 7, 3) := by decide +kernel
theorem dJ9_min_7cf53_5 : decode cJ9_min_7cf53 5 = .ok (.iload_n 0, 1) := by decide +kernel
theorem dJ9_min_7cf53_6 : decode cJ9_min_7cf53 6 = .ok (.goto 4, 3) := by decide +kernel
theorem dJ9_min_7cf53_9 : decode cJ9_min_7cf53 9 = .ok (.iload_n 1, 1) := by decide +kernel
theorem dJ9_min_7cf53_10 : decode cJ9_min_7cf53 10 = .ok (.ireturn, 1) := by decide +kernel
theorem dJ0_length_8abf5_0 : decode cJ0_length_8abf5 0 = .ok (.aload_n 0, 1) := by decide +kernel
theorem dJ0_length_8abf5_1 : decode cJ0_length_8abf5 1 = .ok (.getfield 9, 3) := by decide +kernel
theorem dJ0_length_8abf5_4 : decode cJ0_length_8abf5 4 = .ok (.arraylength, 1) := by decide +kernel
theorem dJ0_length_8abf5_5 : decode cJ0_length_8abf5 5 = .ok (.aload_n 0, 1) := by decide +kernel
theorem dJ0_length_8abf5_6 : decode cJ0_length_8abf5 6 = .ok (.invokevirtual 335, 3) := by decide +kernel
theorem dJ0_length_8abf5_9 : decode cJ0_length_8abf5 9 = .ok (.ishr, 1) := by decide +kernel
theorem dJ0_length_8abf5_10 : decode cJ0_length_8abf5 10 = .ok (.ireturn, 1) := by decide +kernel
theorem dJ0_charAt_5068e_0 : decode cJ0_charAt_5068e 0 = .ok (.aload_n 0, 1) := by decide +kernel
theorem dJ0_charAt_5068e_1 : decode cJ0_charAt_5068e 1 = .ok (.invokevirtual 492, 3) := by decide +kernel
theorem dJ0_charAt_5068e_4 : decode cJ0_charAt_5068e 4 = .ok (.ifCond .eq 12, 3) := by decide +kernel
theorem dJ0_charAt_5068e_7 : decode cJ0_charAt_5068e 7 = .ok (.aload_n 0, 1) := by decide +kernel
theorem dJ0_charAt_5068e_8 : decode cJ0_charAt_5068e 8 = .ok (.getfield 9, 3) := by decide +kernel
theorem dJ0_charAt_5068e_11 : decode cJ0_charAt_5068e 11 = .ok (.iload_n 1, 1) := by decide +kernel
theorem dJ0_charAt_5068e_12 : decode cJ0_charAt_5068e 12 = .ok (.invokestatic 495, 3) := by decide +kernel
theorem dJ0_charAt_5068e_15 : decode cJ0_charAt_5068e 15 = .ok (.ireturn, 1) := by decide +kernel
theorem dJ0_charAt_5068e_16 : decode cJ0_charAt_5068e 16 = .ok (.aload_n 0, 1) := by decide +kernel
theorem dJ0_charAt_5068e_17 : decode cJ0_charAt_5068e 17 = .ok (.getfield 9, 3) := by decide +kernel
theorem dJ0_charAt_5068e_20 : decode cJ0_charAt_5068e 20 = .ok (.iload_n 1, 1) := by decide +kernel
theorem dJ0_charAt_5068e_21 : decode cJ0_charAt_5068e 21 = .ok (.invokestatic 498, 3) := by decide +kernel
theorem dJ0_charAt_5068e_24 : decode cJ0_charAt_5068e 24 = .ok (.ireturn, 1) := by decide +kernel
theorem dJ0_indexOf_0f7a4_0 : decode cJ0_indexOf_0f7a4 0 = .ok (.aload_n 0, 1) := by decide +kernel
theorem dJ0_indexOf_0f7a4_1 : decode cJ0_indexOf_0f7a4 1 = .ok (.iload_n 1, 1) := by decide +kernel
theorem dJ0_indexOf_0f7a4_2 : decode cJ0_indexOf_0f7a4 2 = .ok (.iconst 0, 1) := by decide +kernel
theorem dJ0_indexOf_0f7a4_3 : decode cJ0_indexOf_0f7a4 3 = .ok (.invokevirtual 633, 3) := by decide +kernel
theorem dJ0_indexOf_0f7a4_6 : decode cJ0_indexOf_0f7a4 6 = .ok (.ireturn, 1) := by decide +kernel
theorem dJ0_indexOf_7cf53_0 : decode cJ0_indexOf_7cf53 0 = .ok (.aload_n 0, 1) := by decide +kernel
theorem dJ0_indexOf_7cf53_1 : decode cJ0_indexOf_7cf53 1 = .ok (.invokevirtual 492, 3) := by decide +kernel
theorem dJ0_indexOf_7cf53_4 : decode cJ0_indexOf_7cf53 4 = .ok (.ifCond .eq 19, 3) := by decide +kernel
theorem dJ0_indexOf_7cf53_7 : decode cJ0_indexOf_7cf53 7 = .ok (.aload_n 0, 1) := by decide +kernel
theorem dJ0_indexOf_7cf53_8 : decode cJ0_indexOf_7cf53 8 = .ok (.getfield 9, 3) := by decide +kernel
theorem dJ0_indexOf_7cf53_11 : decode cJ0_indexOf_7cf53 11 = .ok (.iload_n 1, 1) := by decide +kernel
theorem dJ0_indexOf_7cf53_12 : decode cJ0_indexOf_7cf53 12 = .ok (.iload_n 2, 1) := by decide +kernel
theorem dJ0_indexOf_7cf53_13 : decode cJ0_indexOf_7cf53 13 = .ok (.aload_n 0, 1) := by decide +kernel
theorem dJ0_indexOf_7cf53_14 : decode cJ0_indexOf_7cf53 14 = .ok (.invokevirtual 505, 3) := by decide +kernel
theorem dJ0_indexOf_7cf53_17 : decode cJ0_indexOf_7cf53 17 = .ok (.invokestatic 637, 3) := by decide +kernel
theorem dJ0_indexOf_7cf53_20 : decode cJ0_indexOf_7cf53 20 = .ok (.goto 16, 3) := by decide +kernel
theorem dJ0_indexOf_7cf53_23 : decode cJ0_indexOf_7cf53 23 = .ok (.aload_n 0, 1) := by decide +kernel
theorem dJ0_indexOf_7cf53_24 : decode cJ0_indexOf_7cf53 24 = .ok (.getfield 9, 3) := by decide +kernel
theorem dJ0_indexOf_7cf53_27 : decode cJ0_indexOf_7cf53 27 = .ok (.iload_n 1, 1) := by decide +kernel
theorem dJ0_indexOf_7cf53_28 : decode cJ0_indexOf_7cf53 28 = .ok (.iload_n 2, 1) := by decide +kernel
theorem dJ0_indexOf_7cf53_29 : decode cJ0_indexOf_7cf53 29 = .ok (.aload_n 0, 1) := by decide +kernel
theorem dJ0_indexOf_7cf53_30 : decode cJ0_indexOf_7cf53 30 = .ok (.invokevirtual 505, 3) := by decide +kernel
theorem dJ0_indexOf_7cf53_33 : decode cJ0_indexOf_7cf53 33 = .ok (.invokestatic 640, 3) := by decide +kernel
theorem dJ0_indexOf_7cf53_36 : decode cJ0_indexOf_7cf53 36 = .ok (.ireturn, 1) := by decide +kernel
theorem dJ0_coder_7d493_0 : decode cJ0_coder_7d493 0 = .ok (.getstatic 38, 3) := by decide +kernel
theorem dJ0_coder_7d493_3 : decode cJ0_coder_7d493 3 = .ok (.ifCond .eq 10, 3) := by decide +kernel
theorem dJ0_coder_7d493_6 : decode cJ0_coder_7d493 6 = .ok (.aload_n 0, 1) := by decide +kernel
theorem dJ0_coder_7d493_7 : decode cJ0_coder_7d493 7 = .ok (.getfield 15, 3) := by decide +kernel
theorem dJ0_coder_7d493_10 : decode cJ0_coder_7d493 10 = .ok (.goto 4, 3) := by decide +kernel
theorem dJ0_coder_7d493_13 : decode cJ0_coder_7d493 13 = .ok (.iconst 1, 1) := by decide +kernel
theorem dJ0_coder_7d493_14 : decode cJ0_coder_7d493 14 = .ok (.ireturn, 1) := by decide +kernel
theorem dJ0_isLatin1_aae02_0 : decode cJ0_isLatin1_aae02 0 = .ok (.getstatic 38, 3) := by decide +kernel
theorem dJ0_isLatin1_aae02_3 : decode cJ0_isLatin1_aae02 3 = .ok (.ifCond .eq 14, 3) := by decide +kernel
theorem dJ0_isLatin1_aae02_6 : decode cJ0_isLatin1_aae02 6 = .ok (.aload_n 0, 1) := by decide +kernel
theorem dJ0_isLatin1_aae02_7 : decode cJ0_isLatin1_aae02 7 = .ok (.getfield 15, 3) := by decide +kernel
theorem dJ0_isLatin1_aae02_10 : decode cJ0_isLatin1_aae02 10 = .ok (.ifCond .ne 7, 3) := by decide +kernel
theorem dJ0_isLatin1_aae02_13 : decode cJ0_isLatin1_aae02 13 = .ok (.iconst 1, 1) := by decide +kernel
theorem dJ0_isLatin1_aae02_14 : decode cJ0_isLatin1_aae02 14 = .ok (.goto 4, 3) := by decide +kernel
theorem dJ0_isLatin1_aae02_17 : decode cJ0_isLatin1_aae02 17 = .ok (.iconst 0, 1) := by decide +kernel
theorem dJ0_isLatin1_aae02_18 : decode cJ0_isLatin1_aae02 18 = .ok (.ireturn, 1) := by decide +kernel
theorem dJ0_checkIndex_df160_0 : decode cJ0_checkIndex_df160 0 = .ok (.iload_n 0, 1) := by decide +kernel
theorem dJ0_checkIndex_df160_1 : decode cJ0_checkIndex_df160 1 = .ok (.iload_n 1, 1) := by decide +kernel
theorem dJ0_checkIndex_df160_2 : decode cJ0_checkIndex_df160 2 = .ok (.getstatic 1053, 3) := by decide +kernel
theorem dJ0_checkIndex_df160_5 : decode cJ0_checkIndex_df160 5 = .ok (.invokestatic 1059, 3) := by decide +kernel
theorem dJ0_checkIndex_df160_8 : decode cJ0_checkIndex_df160 8 = .ok (.pop, 1) := by decide +kernel
theorem dJ0_checkIndex_df160_9 : decode cJ0_checkIndex_df160 9 = .ok (.return_, 1) := by decide +kernel
theorem dJ0_checkBoundsBeginEnd_23922_0 : decode cJ0_checkBoundsBeginEnd_23922 0 = .ok (.iload_n 0, 1) := by decide +kernel
theorem dJ0_checkBoundsBeginEnd_23922_1 : decode cJ0_checkBoundsBeginEnd_23922 1 = .ok (.iload_n 1, 1) := by decide +kernel
theorem dJ0_checkBoundsBeginEnd_23922_2 : decode cJ0_checkBoundsBeginEnd_23922 2 = .ok (.iload_n 2, 1) := by decide +kernel
theorem dJ0_checkBoundsBeginEnd_23922_3 : decode cJ0_checkBoundsBeginEnd_23922 3 = .ok (.getstatic 1053, 3) := by decide +kernel
theorem dJ0_checkBoundsBeginEnd_23922_6 : decode cJ0_checkBoundsBeginEnd_23922 6 = .ok (.invokestatic 1062, 3) := by decide +kernel
theorem dJ0_checkBoundsBeginEnd_23922_9 : decode cJ0_checkBoundsBeginEnd_23922 9 = .ok (.pop, 1) := by decide +kernel
theorem dJ0_checkBoundsBeginEnd_23922_10 : decode cJ0_checkBoundsBeginEnd_23922 10 = .ok (.return_, 1) := by decide +kernel
theorem dJ1_charAt_3b067_0 : decode cJ1_charAt_3b067 0 = .ok (.iload_n 1, 1) := by decide +kernel
theorem dJ1_charAt_3b067_1 : decode cJ1_charAt_3b067 1 = .ok (.aload_n 0, 1) := by decide +kernel
theorem dJ1_charAt_3b067_2 : decode cJ1_charAt_3b067 2 = .ok (.arraylength, 1) := by decide +kernel
theorem dJ1_charAt_3b067_3 : decode cJ1_charAt_3b067 3 = .ok (.invokestatic 9, 3) := by decide +kernel
theorem dJ1_charAt_3b067_6 : decode cJ1_charAt_3b067 6 = .ok (.aload_n 0, 1) := by decide +kernel
theorem dJ1_charAt_3b067_7 : decode cJ1_charAt_3b067 7 = .ok (.iload_n 1, 1) := by decide +kernel
theorem dJ1_charAt_3b067_8 : decode cJ1_charAt_3b067 8 = .ok (.baload, 1) := by decide +kernel
theorem dJ1_charAt_3b067_9 : decode cJ1_charAt_3b067 9 = .ok (.sipush 255, 3) := by decide +kernel
theorem dJ1_charAt_3b067_12 : decode cJ1_charAt_3b067 12 = .ok (.iand, 1) := by decide +kernel
theorem dJ1_charAt_3b067_13 : decode cJ1_charAt_3b067 13 = .ok (.i2c, 1) := by decide +kernel
theorem dJ1_charAt_3b067_14 : decode cJ1_charAt_3b067 14 = .ok (.ireturn, 1) := by decide +kernel
theorem dJ1_canEncode_9a6ad_0 : decode cJ1_canEncode_9a6ad 0 = .ok (.iload_n 0, 1) := by decide +kernel
theorem dJ1_canEncode_9a6ad_1 : decode cJ1_canEncode_9a6ad 1 = .ok (.ifCond .lt 14, 3) := by decide +kernel
theorem dJ1_canEncode_9a6ad_4 : decode cJ1_canEncode_9a6ad 4 = .ok (.iload_n 0, 1) := by decide +kernel
theorem dJ1_canEncode_9a6ad_5 : decode cJ1_canEncode_9a6ad 5 = .ok (.sipush 255, 3) := by decide +kernel
theorem dJ1_canEncode_9a6ad_8 : decode cJ1_canEncode_9a6ad 8 = .ok (.if_icmp .gt 7, 3) := by decide +kernel
theorem dJ1_canEncode_9a6ad_11 : decode cJ1_canEncode_9a6ad 11 = .ok (.iconst 1, 1) := by decide +kernel
theorem dJ1_canEncode_9a6ad_12 : decode cJ1_canEncode_9a6ad 12 = .ok (.goto 4, 3) := by decide +kernel
theorem dJ1_canEncode_9a6ad_15 : decode cJ1_canEncode_9a6ad 15 = .ok (.iconst 0, 1) := by decide +kernel
theorem dJ1_canEncode_9a6ad_16 : decode cJ1_canEncode_9a6ad 16 = .ok (.ireturn, 1) := by decide +kernel
theorem dJ1_indexOf_4cfef_0 : decode cJ1_indexOf_4cfef 0 = .ok (.iload_n 1, 1) := by decide +kernel
theorem dJ1_indexOf_4cfef_1 : decode cJ1_indexOf_4cfef 1 = .ok (.invokestatic 88, 3) := by decide +kernel
theorem dJ1_indexOf_4cfef_4 : decode cJ1_indexOf_4cfef 4 = .ok (.ifCond .ne 5, 3) := by decide +kernel
theorem dJ1_indexOf_4cfef_7 : decode cJ1_indexOf_4cfef 7 = .ok (.iconst (-1), 1) := by decide +kernel
theorem dJ1_indexOf_4cfef_8 : decode cJ1_indexOf_4cfef 8 = .ok (.ireturn, 1) := by decide +kernel
theorem dJ1_indexOf_4cfef_9 : decode cJ1_indexOf_4cfef 9 = .ok (.iload_n 2, 1) := by decide +kernel
theorem dJ1_indexOf_4cfef_10 : decode cJ1_indexOf_4cfef 10 = .ok (.iconst 0, 1) := by decide +kernel
theorem dJ1_indexOf_4cfef_11 : decode cJ1_indexOf_4cfef 11 = .ok (.invokestatic 92, 3) := by decide +kernel
theorem dJ1_indexOf_4cfef_14 : decode cJ1_indexOf_4cfef 14 = .ok (.istore_n 2, 1) := by decide +kernel
theorem dJ1_indexOf_4cfef_15 : decode cJ1_indexOf_4cfef 15 = .ok (.iload_n 3, 1) := by decide +kernel
theorem dJ1_indexOf_4cfef_16 : decode cJ1_indexOf_4cfef 16 = .ok (.aload_n 0, 1) := by decide +kernel
theorem dJ1_indexOf_4cfef_17 : decode cJ1_indexOf_4cfef 17 = .ok (.arraylength, 1) := by decide +kernel
theorem dJ1_indexOf_4cfef_18 : decode cJ1_indexOf_4cfef 18 = .ok (.invokestatic 38, 3) := by decide +kernel
theorem dJ1_indexOf_4cfef_21 : decode cJ1_indexOf_4cfef 21 = .ok (.istore_n 3, 1) := by decide +kernel
theorem dJ1_indexOf_4cfef_22 : decode cJ1_indexOf_4cfef 22 = .ok (.iload_n 2, 1) := by decide +kernel
theorem dJ1_indexOf_4cfef_23 : decode cJ1_indexOf_4cfef 23 = .ok (.iload_n 3, 1) := by decide +kernel
theorem dJ1_indexOf_4cfef_24 : decode cJ1_indexOf_4cfef 24 = .ok (.if_icmp .lt 5, 3) := by decide +kernel
theorem dJ1_indexOf_4cfef_27 : decode cJ1_indexOf_4cfef 27 = .ok (.iconst (-1), 1) := by decide +kernel
theorem dJ1_indexOf_4cfef_28 : decode cJ1_indexOf_4cfef 28 = .ok (.ireturn, 1) := by decide +kernel
theorem dJ1_indexOf_4cfef_29 : decode cJ1_indexOf_4cfef 29 = .ok (.aload_n 0, 1) := by decide +kernel
theorem dJ1_indexOf_4cfef_30 : decode cJ1_indexOf_4cfef 30 = .ok (.iload_n 1, 1) := by decide +kernel
theorem dJ1_indexOf_4cfef_31 : decode cJ1_indexOf_4cfef 31 = .ok (.iload_n 2, 1) := by decide +kernel
theorem dJ1_indexOf_4cfef_32 : decode cJ1_indexOf_4cfef 32 = .ok (.iload_n 3, 1) := by decide +kernel
theorem dJ1_indexOf_4cfef_33 : decode cJ1_indexOf_4cfef 33 = .ok (.invokestatic 95, 3) := by decide +kernel
theorem dJ1_indexOf_4cfef_36 : decode cJ1_indexOf_4cfef 36 = .ok (.ireturn, 1) := by decide +kernel
theorem dJ1_indexOfChar_4cfef_0 : decode cJ1_indexOfChar_4cfef 0 = .ok (.iload_n 1, 1) := by decide +kernel
theorem dJ1_indexOfChar_4cfef_1 : decode cJ1_indexOfChar_4cfef 1 = .ok (.i2b, 1) := by decide +kernel
theorem dJ1_indexOfChar_4cfef_2 : decode cJ1_indexOfChar_4cfef 2 = .ok (.istore 4, 2) := by decide +kernel
theorem dJ1_indexOfChar_4cfef_4 : decode cJ1_indexOfChar_4cfef 4 = .ok (.iload_n 2, 1) := by decide +kernel
theorem dJ1_indexOfChar_4cfef_5 : decode cJ1_indexOfChar_4cfef 5 = .ok (.istore 5, 2) := by decide +kernel
theorem dJ1_indexOfChar_4cfef_7 : decode cJ1_indexOfChar_4cfef 7 = .ok (.iload 5, 2) := by decide +kernel
theorem dJ1_indexOfChar_4cfef_9 : decode cJ1_indexOfChar_4cfef 9 = .ok (.iload_n 3, 1) := by decide +kernel
theorem dJ1_indexOfChar_4cfef_10 : decode cJ1_indexOfChar_4cfef 10 = .ok (.if_icmp .ge 21, 3) := by decide +kernel
theorem dJ1_indexOfChar_4cfef_13 : decode cJ1_indexOfChar_4cfef 13 = .ok (.aload_n 0, 1) := by decide +kernel
theorem dJ1_indexOfChar_4cfef_14 : decode cJ1_indexOfChar_4cfef 14 = .ok (.iload 5, 2) := by decide +kernel
theorem dJ1_indexOfChar_4cfef_16 : decode cJ1_indexOfChar_4cfef 16 = .ok (.baload, 1) := by decide +kernel
theorem dJ1_indexOfChar_4cfef_17 : decode cJ1_indexOfChar_4cfef 17 = .ok (.iload 4, 2) := by decide +kernel
theorem dJ1_indexOfChar_4cfef_19 : decode cJ1_indexOfChar_4cfef 19 = .ok (.if_icmp .ne 6, 3) := by decide +kernel
theorem dJ1_indexOfChar_4cfef_22 : decode cJ1_indexOfChar_4cfef 22 = .ok (.iload 5, 2) := by decide +kernel
theorem dJ1_indexOfChar_4cfef_24 : decode cJ1_indexOfChar_4cfef 24 = .ok (.ireturn, 1) := by decide +kernel
theorem dJ1_indexOfChar_4cfef_25 : decode cJ1_indexOfChar_4cfef 25 = .ok (.iinc 5 1, 3) := by decide +kernel
theorem dJ1_indexOfChar_4cfef_28 : decode cJ1_indexOfChar_4cfef 28 = .ok (.goto (-21), 3) := by decide +kernel
theorem dJ1_indexOfChar_4cfef_31 : decode cJ1_indexOfChar_4cfef 31 = .ok (.iconst (-1), 1) := by decide +kernel
theorem dJ1_indexOfChar_4cfef_32 : decode cJ1_indexOfChar_4cfef 32 = .ok (.ireturn, 1) := by decide +kernel
theorem dJ2_getChar_3b067_0 : decode cJ2_getChar_3b067 0 = .ok (.getstatic 44, 3) := by decide +kernel
theorem dJ2_getChar_3b067_3 : decode cJ2_getChar_3b067 3 = .ok (.ifCond .ne 25, 3) := by decide +kernel
theorem dJ2_getChar_3b067_6 : decode cJ2_getChar_3b067 6 = .ok (.iload_n 1, 1) := by decide +kernel
theorem dJ2_getChar_3b067_7 : decode cJ2_getChar_3b067 7 = .ok (.ifCond .lt 11, 3) := by decide +kernel
theorem dJ2_getChar_3b067_10 : decode cJ2_getChar_3b067 10 = .ok (.iload_n 1, 1) := by decide +kernel
theorem dJ2_getChar_3b067_11 : decode cJ2_getChar_3b067 11 = .ok (.aload_n 0, 1) := by decide +kernel
theorem dJ2_getChar_3b067_12 : decode cJ2_getChar_3b067 12 = .ok (.invokestatic 48, 3) := by decide +kernel
theorem dJ2_getChar_3b067_15 : decode cJ2_getChar_3b067 15 = .ok (.if_icmp .lt 13, 3) := by decide +kernel
theorem dJ2_getChar_3b067_18 : decode cJ2_getChar_3b067 18 = .ok (.new 52, 3) := by decide +kernel
theorem dJ2_getChar_3b067_21 : decode cJ2_getChar_3b067 21 = .ok (.dup, 1) := by decide +kernel
theorem dJ2_getChar_3b067_22 : decode cJ2_getChar_3b067 22 = .ok (.ldc 54, 2) := by decide +kernel
theorem dJ2_getChar_3b067_24 : decode cJ2_getChar_3b067 24 = .ok (.invokespecial 56, 3) := by decide +kernel
theorem dJ2_getChar_3b067_27 : decode cJ2_getChar_3b067 27 = .ok (.athrow, 1) := by decide +kernel
theorem dJ2_getChar_3b067_28 : decode cJ2_getChar_3b067 28 = .ok (.iload_n 1, 1) := by decide +kernel
theorem dJ2_getChar_3b067_29 : decode cJ2_getChar_3b067 29 = .ok (.iconst 1, 1) := by decide +kernel
theorem dJ2_getChar_3b067_30 : decode cJ2_getChar_3b067 30 = .ok (.ishl, 1) := by decide +kernel
theorem dJ2_getChar_3b067_31 : decode cJ2_getChar_3b067 31 = .ok (.istore_n 1, 1) := by decide +kernel
theorem dJ2_getChar_3b067_32 : decode cJ2_getChar_3b067 32 = .ok (.aload_n 0, 1) := by decide +kernel
theorem dJ2_getChar_3b067_33 : decode cJ2_getChar_3b067 33 = .ok (.iload_n 1, 1) := by decide +kernel
theorem dJ2_getChar_3b067_34 : decode cJ2_getChar_3b067 34 = .ok (.iinc 1 1, 3) := by decide +kernel
theorem dJ2_getChar_3b067_37 : decode cJ2_getChar_3b067 37 = .ok (.baload, 1) := by decide +kernel
theorem dJ2_getChar_3b067_38 : decode cJ2_getChar_3b067 38 = .ok (.sipush 255, 3) := by decide +kernel
theorem dJ2_getChar_3b067_41 : decode cJ2_getChar_3b067 41 = .ok (.iand, 1) := by decide +kernel
theorem dJ2_getChar_3b067_42 : decode cJ2_getChar_3b067 42 = .ok (.getstatic 59, 3) := by decide +kernel
theorem dJ2_getChar_3b067_45 : decode cJ2_getChar_3b067 45 = .ok (.ishl, 1) := by decide +kernel
theorem dJ2_getChar_3b067_46 : decode cJ2_getChar_3b067 46 = .ok (.aload_n 0, 1) := by decide +kernel
theorem dJ2_getChar_3b067_47 : decode cJ2_getChar_3b067 47 = .ok (.iload_n 1, 1) := by decide +kernel
theorem dJ2_getChar_3b067_48 : decode cJ2_getChar_3b067 48 = .ok (.baload, 1) := by decide +kernel
theorem dJ2_getChar_3b067_49 : decode cJ2_getChar_3b067 49 = .ok (.sipush 255, 3) := by decide +kernel
theorem dJ2_getChar_3b067_52 : decode cJ2_getChar_3b067 52 = .ok (.iand, 1) := by decide +kernel
theorem dJ2_getChar_3b067_53 : decode cJ2_getChar_3b067 53 = .ok (.getstatic 63, 3) := by decide +kernel
theorem dJ2_getChar_3b067_56 : decode cJ2_getChar_3b067 56 = .ok (.ishl, 1) := by decide +kernel
theorem dJ2_getChar_3b067_57 : decode cJ2_getChar_3b067 57 = .ok (.ior, 1) := by decide +kernel
theorem dJ2_getChar_3b067_58 : decode cJ2_getChar_3b067 58 = .ok (.i2c, 1) := by decide +kernel
theorem dJ2_getChar_3b067_59 : decode cJ2_getChar_3b067 59 = .ok (.ireturn, 1) := by decide +kernel
theorem dJ2_length_9d52b_0 : decode cJ2_length_9d52b 0 = .ok (.aload_n 0, 1) := by decide +kernel
theorem dJ2_length_9d52b_1 : decode cJ2_length_9d52b 1 = .ok (.arraylength, 1) := by decide +kernel
theorem dJ2_length_9d52b_2 : decode cJ2_length_9d52b 2 = .ok (.iconst 1, 1) := by decide +kernel
theorem dJ2_length_9d52b_3 : decode cJ2_length_9d52b 3 = .ok (.ishr, 1) := by decide +kernel
theorem dJ2_length_9d52b_4 : decode cJ2_length_9d52b 4 = .ok (.ireturn, 1) := by decide +kernel
theorem dJ2_indexOf_4cfef_0 : decode cJ2_indexOf_4cfef 0 = .ok (.iload_n 2, 1) := by decide +kernel
theorem dJ2_indexOf_4cfef_1 : decode cJ2_indexOf_4cfef 1 = .ok (.iconst 0, 1) := by decide +kernel
theorem dJ2_indexOf_4cfef_2 : decode cJ2_indexOf_4cfef 2 = .ok (.invokestatic 224, 3) := by decide +kernel
theorem dJ2_indexOf_4cfef_5 : decode cJ2_indexOf_4cfef 5 = .ok (.istore_n 2, 1) := by decide +kernel
theorem dJ2_indexOf_4cfef_6 : decode cJ2_indexOf_4cfef 6 = .ok (.iload_n 3, 1) := by decide +kernel
theorem dJ2_indexOf_4cfef_7 : decode cJ2_indexOf_4cfef 7 = .ok (.aload_n 0, 1) := by decide +kernel
theorem dJ2_indexOf_4cfef_8 : decode cJ2_indexOf_4cfef 8 = .ok (.arraylength, 1) := by decide +kernel
theorem dJ2_indexOf_4cfef_9 : decode cJ2_indexOf_4cfef 9 = .ok (.iconst 1, 1) := by decide +kernel
theorem dJ2_indexOf_4cfef_10 : decode cJ2_indexOf_4cfef 10 = .ok (.ishr, 1) := by decide +kernel
theorem dJ2_indexOf_4cfef_11 : decode cJ2_indexOf_4cfef 11 = .ok (.invokestatic 183, 3) := by decide +kernel
theorem dJ2_indexOf_4cfef_14 : decode cJ2_indexOf_4cfef 14 = .ok (.istore_n 3, 1) := by decide +kernel
theorem dJ2_indexOf_4cfef_15 : decode cJ2_indexOf_4cfef 15 = .ok (.iload_n 2, 1) := by decide +kernel
theorem dJ2_indexOf_4cfef_16 : decode cJ2_indexOf_4cfef 16 = .ok (.iload_n 3, 1) := by decide +kernel
theorem dJ2_indexOf_4cfef_17 : decode cJ2_indexOf_4cfef 17 = .ok (.if_icmp .lt 5, 3) := by decide +kernel
theorem dJ2_indexOf_4cfef_20 : decode cJ2_indexOf_4cfef 20 = .ok (.iconst (-1), 1) := by decide +kernel
theorem dJ2_indexOf_4cfef_21 : decode cJ2_indexOf_4cfef 21 = .ok (.ireturn, 1) := by decide +kernel
theorem dJ2_indexOf_4cfef_22 : decode cJ2_indexOf_4cfef 22 = .ok (.iload_n 1, 1) := by decide +kernel
theorem dJ2_indexOf_4cfef_23 : decode cJ2_indexOf_4cfef 23 = .ok (.ldc 227, 2) := by decide +kernel
theorem dJ2_indexOf_4cfef_25 : decode cJ2_indexOf_4cfef 25 = .ok (.if_icmp .ge 11, 3) := by decide +kernel
theorem dJ2_indexOf_4cfef_28 : decode cJ2_indexOf_4cfef 28 = .ok (.aload_n 0, 1) := by decide +kernel
theorem dJ2_indexOf_4cfef_29 : decode cJ2_indexOf_4cfef 29 = .ok (.iload_n 1, 1) := by decide +kernel
theorem dJ2_indexOf_4cfef_30 : decode cJ2_indexOf_4cfef 30 = .ok (.iload_n 2, 1) := by decide +kernel
theorem dJ2_indexOf_4cfef_31 : decode cJ2_indexOf_4cfef 31 = .ok (.iload_n 3, 1) := by decide +kernel
theorem dJ2_indexOf_4cfef_32 : decode cJ2_indexOf_4cfef 32 = .ok (.invokestatic 228, 3) := by decide +kernel
theorem dJ2_indexOf_4cfef_35 : decode cJ2_indexOf_4cfef 35 = .ok (.ireturn, 1) := by decide +kernel
theorem dJ2_indexOf_4cfef_36 : decode cJ2_indexOf_4cfef 36 = .ok (.aload_n 0, 1) := by decide +kernel
theorem dJ2_indexOf_4cfef_37 : decode cJ2_indexOf_4cfef 37 = .ok (.iload_n 1, 1) := by decide +kernel
theorem dJ2_indexOf_4cfef_38 : decode cJ2_indexOf_4cfef 38 = .ok (.iload_n 2, 1) := by decide +kernel
theorem dJ2_indexOf_4cfef_39 : decode cJ2_indexOf_4cfef 39 = .ok (.iload_n 3, 1) := by decide +kernel
theorem dJ2_indexOf_4cfef_40 : decode cJ2_indexOf_4cfef 40 = .ok (.invokestatic 232, 3) := by decide +kernel
theorem dJ2_indexOf_4cfef_43 : decode cJ2_indexOf_4cfef 43 = .ok (.ireturn, 1) := by decide +kernel
theorem dJ2_indexOfChar_4cfef_0 : decode cJ2_indexOfChar_4cfef 0 = .ok (.iload_n 2, 1) := by decide +kernel
theorem dJ2_indexOfChar_4cfef_1 : decode cJ2_indexOfChar_4cfef 1 = .ok (.iload_n 3, 1) := by decide +kernel
theorem dJ2_indexOfChar_4cfef_2 : decode cJ2_indexOfChar_4cfef 2 = .ok (.aload_n 0, 1) := by decide +kernel
theorem dJ2_indexOfChar_4cfef_3 : decode cJ2_indexOfChar_4cfef 3 = .ok (.invokestatic 96, 3) := by decide +kernel
theorem dJ2_indexOfChar_4cfef_6 : decode cJ2_indexOfChar_4cfef 6 = .ok (.aload_n 0, 1) := by decide +kernel
theorem dJ2_indexOfChar_4cfef_7 : decode cJ2_indexOfChar_4cfef 7 = .ok (.iload_n 1, 1) := by decide +kernel
theorem dJ2_indexOfChar_4cfef_8 : decode cJ2_indexOfChar_4cfef 8 = .ok (.iload_n 2, 1) := by decide +kernel
theorem dJ2_indexOfChar_4cfef_9 : decode cJ2_indexOfChar_4cfef 9 = .ok (.iload_n 3, 1) := by decide +kernel
theorem dJ2_indexOfChar_4cfef_10 : decode cJ2_indexOfChar_4cfef 10 = .ok (.invokestatic 244, 3) := by decide +kernel
theorem dJ2_indexOfChar_4cfef_13 : decode cJ2_indexOfChar_4cfef 13 = .ok (.ireturn, 1) := by decide +kernel
theorem dJ2_indexOfCharUnsafe_4cfef_0 : decode cJ2_indexOfCharUnsafe_4cfef 0 = .ok (.iload_n 2, 1) := by decide +kernel
theorem dJ2_indexOfCharUnsafe_4cfef_1 : decode cJ2_indexOfCharUnsafe_4cfef 1 = .ok (.istore 4, 2) := by decide +kernel
theorem dJ2_indexOfCharUnsafe_4cfef_3 : decode cJ2_indexOfCharUnsafe_4cfef 3 = .ok (.iload 4, 2) := by decide +kernel
theorem dJ2_indexOfCharUnsafe_4cfef_5 : decode cJ2_indexOfCharUnsafe_4cfef 5 = .ok (.iload_n 3, 1) := by decide +kernel
theorem dJ2_indexOfCharUnsafe_4cfef_6 : decode cJ2_indexOfCharUnsafe_4cfef 6 = .ok (.if_icmp .ge 22, 3) := by decide +kernel
theorem dJ2_indexOfCharUnsafe_4cfef_9 : decode cJ2_indexOfCharUnsafe_4cfef 9 = .ok (.aload_n 0, 1) := by decide +kernel
theorem dJ2_indexOfCharUnsafe_4cfef_10 : decode cJ2_indexOfCharUnsafe_4cfef 10 = .ok (.iload 4, 2) := by decide +kernel
theorem dJ2_indexOfCharUnsafe_4cfef_12 : decode cJ2_indexOfCharUnsafe_4cfef 12 = .ok (.invokestatic 71, 3) := by decide +kernel
theorem dJ2_indexOfCharUnsafe_4cfef_15 : decode cJ2_indexOfCharUnsafe_4cfef 15 = .ok (.iload_n 1, 1) := by decide +kernel
theorem dJ2_indexOfCharUnsafe_4cfef_16 : decode cJ2_indexOfCharUnsafe_4cfef 16 = .ok (.if_icmp .ne 6, 3) := by decide +kernel
theorem dJ2_indexOfCharUnsafe_4cfef_19 : decode cJ2_indexOfCharUnsafe_4cfef 19 = .ok (.iload 4, 2) := by decide +kernel
theorem dJ2_indexOfCharUnsafe_4cfef_21 : decode cJ2_indexOfCharUnsafe_4cfef 21 = .ok (.ireturn, 1) := by decide +kernel
theorem dJ2_indexOfCharUnsafe_4cfef_22 : decode cJ2_indexOfCharUnsafe_4cfef 22 = .ok (.iinc 4 1, 3) := by decide +kernel
theorem dJ2_indexOfCharUnsafe_4cfef_25 : decode cJ2_indexOfCharUnsafe_4cfef 25 = .ok (.goto (-22), 3) := by decide +kernel
theorem dJ2_indexOfCharUnsafe_4cfef_28 : decode cJ2_indexOfCharUnsafe_4cfef 28 = .ok (.iconst (-1), 1) := by decide +kernel
theorem dJ2_indexOfCharUnsafe_4cfef_29 : decode cJ2_indexOfCharUnsafe_4cfef 29 = .ok (.ireturn, 1) := by decide +kernel
theorem dJ2_indexOfSupplementary_4cfef_0 : decode cJ2_indexOfSupplementary_4cfef 0 = .ok (.iload_n 1, 1) := by decide +kernel
theorem dJ2_indexOfSupplementary_4cfef_1 : decode cJ2_indexOfSupplementary_4cfef 1 = .ok (.invokestatic 164, 3) := by decide +kernel
theorem dJ2_indexOfSupplementary_4cfef_4 : decode cJ2_indexOfSupplementary_4cfef 4 = .ok (.ifCond .eq 65, 3) := by decide +kernel
theorem dJ2_indexOfSupplementary_4cfef_7 : decode cJ2_indexOfSupplementary_4cfef 7 = .ok (.iload_n 1, 1) := by decide +kernel
theorem dJ2_indexOfSupplementary_4cfef_8 : decode cJ2_indexOfSupplementary_4cfef 8 = .ok (.invokestatic 157, 3) := by decide +kernel
theorem dJ2_indexOfSupplementary_4cfef_11 : decode cJ2_indexOfSupplementary_4cfef 11 = .ok (.istore 4, 2) := by decide +kernel
theorem dJ2_indexOfSupplementary_4cfef_13 : decode cJ2_indexOfSupplementary_4cfef 13 = .ok (.iload_n 1, 1) := by decide +kernel
theorem dJ2_indexOfSupplementary_4cfef_14 : decode cJ2_indexOfSupplementary_4cfef 14 = .ok (.invokestatic 161, 3) := by decide +kernel
theorem dJ2_indexOfSupplementary_4cfef_17 : decode cJ2_indexOfSupplementary_4cfef 17 = .ok (.istore 5, 2) := by decide +kernel
theorem dJ2_indexOfSupplementary_4cfef_19 : decode cJ2_indexOfSupplementary_4cfef 19 = .ok (.iload_n 2, 1) := by decide +kernel
theorem dJ2_indexOfSupplementary_4cfef_20 : decode cJ2_indexOfSupplementary_4cfef 20 = .ok (.iload_n 3, 1) := by decide +kernel
theorem dJ2_indexOfSupplementary_4cfef_21 : decode cJ2_indexOfSupplementary_4cfef 21 = .ok (.aload_n 0, 1) := by decide +kernel
theorem dJ2_indexOfSupplementary_4cfef_22 : decode cJ2_indexOfSupplementary_4cfef 22 = .ok (.invokestatic 96, 3) := by decide +kernel
theorem dJ2_indexOfSupplementary_4cfef_25 : decode cJ2_indexOfSupplementary_4cfef 25 = .ok (.iload_n 2, 1) := by decide +kernel
theorem dJ2_indexOfSupplementary_4cfef_26 : decode cJ2_indexOfSupplementary_4cfef 26 = .ok (.istore 6, 2) := by decide +kernel
theorem dJ2_indexOfSupplementary_4cfef_28 : decode cJ2_indexOfSupplementary_4cfef 28 = .ok (.iload 6, 2) := by decide +kernel
theorem dJ2_indexOfSupplementary_4cfef_30 : decode cJ2_indexOfSupplementary_4cfef 30 = .ok (.iload_n 3, 1) := by decide +kernel
theorem dJ2_indexOfSupplementary_4cfef_31 : decode cJ2_indexOfSupplementary_4cfef 31 = .ok (.iconst 1, 1) := by decide +kernel
theorem dJ2_indexOfSupplementary_4cfef_32 : decode cJ2_indexOfSupplementary_4cfef 32 = .ok (.isub, 1) := by decide +kernel
theorem dJ2_indexOfSupplementary_4cfef_33 : decode cJ2_indexOfSupplementary_4cfef 33 = .ok (.if_icmp .ge 36, 3) := by decide +kernel
theorem dJ2_indexOfSupplementary_4cfef_36 : decode cJ2_indexOfSupplementary_4cfef 36 = .ok (.aload_n 0, 1) := by decide +kernel
theorem dJ2_indexOfSupplementary_4cfef_37 : decode cJ2_indexOfSupplementary_4cfef 37 = .ok (.iload 6, 2) := by decide +kernel
theorem dJ2_indexOfSupplementary_4cfef_39 : decode cJ2_indexOfSupplementary_4cfef 39 = .ok (.invokestatic 71, 3) := by decide +kernel
theorem dJ2_indexOfSupplementary_4cfef_42 : decode cJ2_indexOfSupplementary_4cfef 42 = .ok (.iload 4, 2) := by decide +kernel
theorem dJ2_indexOfSupplementary_4cfef_44 : decode cJ2_indexOfSupplementary_4cfef 44 = .ok (.if_icmp .ne 19, 3) := by decide +kernel
theorem dJ2_indexOfSupplementary_4cfef_47 : decode cJ2_indexOfSupplementary_4cfef 47 = .ok (.aload_n 0, 1) := by decide +kernel
theorem dJ2_indexOfSupplementary_4cfef_48 : decode cJ2_indexOfSupplementary_4cfef 48 = .ok (.iload 6, 2) := by decide +kernel
theorem dJ2_indexOfSupplementary_4cfef_50 : decode cJ2_indexOfSupplementary_4cfef 50 = .ok (.iconst 1, 1) := by decide +kernel
theorem dJ2_indexOfSupplementary_4cfef_51 : decode cJ2_indexOfSupplementary_4cfef 51 = .ok (.iadd, 1) := by decide +kernel
theorem dJ2_indexOfSupplementary_4cfef_52 : decode cJ2_indexOfSupplementary_4cfef 52 = .ok (.invokestatic 71, 3) := by decide +kernel
theorem dJ2_indexOfSupplementary_4cfef_55 : decode cJ2_indexOfSupplementary_4cfef 55 = .ok (.iload 5, 2) := by decide +kernel
theorem dJ2_indexOfSupplementary_4cfef_57 : decode cJ2_indexOfSupplementary_4cfef 57 = .ok (.if_icmp .ne 6, 3) := by decide +kernel
theorem dJ2_indexOfSupplementary_4cfef_60 : decode cJ2_indexOfSupplementary_4cfef 60 = .ok (.iload 6, 2) := by decide +kernel
theorem dJ2_indexOfSupplementary_4cfef_62 : decode cJ2_indexOfSupplementary_4cfef 62 = .ok (.ireturn, 1) := by decide +kernel
theorem dJ2_indexOfSupplementary_4cfef_63 : decode cJ2_indexOfSupplementary_4cfef 63 = .ok (.iinc 6 1, 3) := by decide +kernel
theorem dJ2_indexOfSupplementary_4cfef_66 : decode cJ2_indexOfSupplementary_4cfef 66 = .ok (.goto (-38), 3) := by decide +kernel
theorem dJ2_indexOfSupplementary_4cfef_69 : decode cJ2_indexOfSupplementary_4cfef 69 = .ok (.iconst (-1), 1) := by decide +kernel
theorem dJ2_indexOfSupplementary_4cfef_70 : decode cJ2_indexOfSupplementary_4cfef 70 = .ok (.ireturn, 1) := by decide +kernel
theorem dJ2_charAt_3b067_0 : decode cJ2_charAt_3b067 0 = .ok (.iload_n 1, 1) := by decide +kernel
theorem dJ2_charAt_3b067_1 : decode cJ2_charAt_3b067 1 = .ok (.aload_n 0, 1) := by decide +kernel
theorem dJ2_charAt_3b067_2 : decode cJ2_charAt_3b067 2 = .ok (.invokestatic 67, 3) := by decide +kernel
theorem dJ2_charAt_3b067_5 : decode cJ2_charAt_3b067 5 = .ok (.aload_n 0, 1) := by decide +kernel
theorem dJ2_charAt_3b067_6 : decode cJ2_charAt_3b067 6 = .ok (.iload_n 1, 1) := by decide +kernel
theorem dJ2_charAt_3b067_7 : decode cJ2_charAt_3b067 7 = .ok (.invokestatic 71, 3) := by decide +kernel
theorem dJ2_charAt_3b067_10 : decode cJ2_charAt_3b067 10 = .ok (.ireturn, 1) := by decide +kernel
theorem dJ2_checkIndex_2214a_0 : decode cJ2_checkIndex_2214a 0 = .ok (.iload_n 0, 1) := by decide +kernel
theorem dJ2_checkIndex_2214a_1 : decode cJ2_checkIndex_2214a 1 = .ok (.aload_n 1, 1) := by decide +kernel
theorem dJ2_checkIndex_2214a_2 : decode cJ2_checkIndex_2214a 2 = .ok (.invokestatic 48, 3) := by decide +kernel
theorem dJ2_checkIndex_2214a_5 : decode cJ2_checkIndex_2214a 5 = .ok (.invokestatic 414, 3) := by decide +kernel
theorem dJ2_checkIndex_2214a_8 : decode cJ2_checkIndex_2214a 8 = .ok (.return_, 1) := by decide +kernel
theorem dJ2_checkBoundsBeginEnd_d044e_0 : decode cJ2_checkBoundsBeginEnd_d044e 0 = .ok (.iload_n 0, 1) := by decide +kernel
theorem dJ2_checkBoundsBeginEnd_d044e_1 : decode cJ2_checkBoundsBeginEnd_d044e 1 = .ok (.iload_n 1, 1) := by decide +kernel
theorem dJ2_checkBoundsBeginEnd_d044e_2 : decode cJ2_checkBoundsBeginEnd_d044e 2 = .ok (.aload_n 2, 1) := by decide +kernel
theorem dJ2_checkBoundsBeginEnd_d044e_3 : decode cJ2_checkBoundsBeginEnd_d044e 3 = .ok (.invokestatic 48, 3) := by decide +kernel
theorem dJ2_checkBoundsBeginEnd_d044e_6 : decode cJ2_checkBoundsBeginEnd_d044e 6 = .ok (.invokestatic 241, 3) := by decide +kernel
theorem dJ2_checkBoundsBeginEnd_d044e_9 : decode cJ2_checkBoundsBeginEnd_d044e 9 = .ok (.return_, 1) := by decide +kernel
theorem dJ7_fill_53178_0 : decode cJ7_fill_53178 0 = .ok (.iconst 0, 1) := by decide +kernel
theorem dJ7_fill_53178_1 : decode cJ7_fill_53178 1 = .ok (.istore_n 2, 1) := by decide +kernel
theorem dJ7_fill_53178_2 : decode cJ7_fill_53178 2 = .ok (.aload_n 0, 1) := by decide +kernel
theorem dJ7_fill_53178_3 : decode cJ7_fill_53178 3 = .ok (.arraylength, 1) := by decide +kernel
theorem dJ7_fill_53178_4 : decode cJ7_fill_53178 4 = .ok (.istore_n 3, 1) := by decide +kernel
theorem dJ7_fill_53178_5 : decode cJ7_fill_53178 5 = .ok (.iload_n 2, 1) := by decide +kernel
theorem dJ7_fill_53178_6 : decode cJ7_fill_53178 6 = .ok (.iload_n 3, 1) := by decide +kernel
theorem dJ7_fill_53178_7 : decode cJ7_fill_53178 7 = .ok (.if_icmp .ge 13, 3) := by decide +kernel
theorem dJ7_fill_53178_10 : decode cJ7_fill_53178 10 = .ok (.aload_n 0, 1) := by decide +kernel
theorem dJ7_fill_53178_11 : decode cJ7_fill_53178 11 = .ok (.iload_n 2, 1) := by decide +kernel
theorem dJ7_fill_53178_12 : decode cJ7_fill_53178 12 = .ok (.iload_n 1, 1) := by decide +kernel
theorem dJ7_fill_53178_13 : decode cJ7_fill_53178 13 = .ok (.iastore, 1) := by decide +kernel
theorem dJ7_fill_53178_14 : decode cJ7_fill_53178 14 = .ok (.iinc 2 1, 3) := by decide +kernel
theorem dJ7_fill_53178_17 : decode cJ7_fill_53178 17 = .ok (.goto (-12), 3) := by decide +kernel
theorem dJ7_fill_53178_20 : decode cJ7_fill_53178 20 = .ok (.return_, 1) := by decide +kernel
theorem dJ3_checkIndex_8e157_0 : decode cJ3_checkIndex_8e157 0 = .ok (.iload_n 0, 1) := by decide +kernel
theorem dJ3_checkIndex_8e157_1 : decode cJ3_checkIndex_8e157 1 = .ok (.ifCond .lt 8, 3) := by decide +kernel
theorem dJ3_checkIndex_8e157_4 : decode cJ3_checkIndex_8e157 4 = .ok (.iload_n 0, 1) := by decide +kernel
theorem dJ3_checkIndex_8e157_5 : decode cJ3_checkIndex_8e157 5 = .ok (.iload_n 1, 1) := by decide +kernel
theorem dJ3_checkIndex_8e157_6 : decode cJ3_checkIndex_8e157 6 = .ok (.if_icmp .lt 10, 3) := by decide +kernel
theorem dJ3_checkIndex_8e157_9 : decode cJ3_checkIndex_8e157 9 = .ok (.aload_n 2, 1) := by decide +kernel
theorem dJ3_checkIndex_8e157_10 : decode cJ3_checkIndex_8e157 10 = .ok (.iload_n 0, 1) := by decide +kernel
theorem dJ3_checkIndex_8e157_11 : decode cJ3_checkIndex_8e157 11 = .ok (.iload_n 1, 1) := by decide +kernel
theorem dJ3_checkIndex_8e157_12 : decode cJ3_checkIndex_8e157 12 = .ok (.invokestatic 95, 3) := by decide +kernel
theorem dJ3_checkIndex_8e157_15 : decode cJ3_checkIndex_8e157 15 = .ok (.athrow, 1) := by decide +kernel
theorem dJ3_checkIndex_8e157_16 : decode cJ3_checkIndex_8e157 16 = .ok (.iload_n 0, 1) := by decide +kernel
theorem dJ3_checkIndex_8e157_17 : decode cJ3_checkIndex_8e157 17 = .ok (.ireturn, 1) := by decide +kernel
theorem dJ3_checkFromToIndex_8c36e_0 : decode cJ3_checkFromToIndex_8c36e 0 = .ok (.iload_n 0, 1) := by decide +kernel
theorem dJ3_checkFromToIndex_8c36e_1 : decode cJ3_checkFromToIndex_8c36e 1 = .ok (.ifCond .lt 13, 3) := by decide +kernel
theorem dJ3_checkFromToIndex_8c36e_4 : decode cJ3_checkFromToIndex_8c36e 4 = .ok (.iload_n 0, 1) := by decide +kernel
theorem dJ3_checkFromToIndex_8c36e_5 : decode cJ3_checkFromToIndex_8c36e 5 = .ok (.iload_n 1, 1) := by decide +kernel
theorem dJ3_checkFromToIndex_8c36e_6 : decode cJ3_checkFromToIndex_8c36e 6 = .ok (.if_icmp .gt 8, 3) := by decide +kernel
theorem dJ3_checkFromToIndex_8c36e_9 : decode cJ3_checkFromToIndex_8c36e 9 = .ok (.iload_n 1, 1) := by decide +kernel
theorem dJ3_checkFromToIndex_8c36e_10 : decode cJ3_checkFromToIndex_8c36e 10 = .ok (.iload_n 2, 1) := by decide +kernel
theorem dJ3_checkFromToIndex_8c36e_11 : decode cJ3_checkFromToIndex_8c36e 11 = .ok (.if_icmp .le 11, 3) := by decide +kernel
theorem dJ3_checkFromToIndex_8c36e_14 : decode cJ3_checkFromToIndex_8c36e 14 = .ok (.aload_n 3, 1) := by decide +kernel
theorem dJ3_checkFromToIndex_8c36e_15 : decode cJ3_checkFromToIndex_8c36e 15 = .ok (.iload_n 0, 1) := by decide +kernel
theorem dJ3_checkFromToIndex_8c36e_16 : decode cJ3_checkFromToIndex_8c36e 16 = .ok (.iload_n 1, 1) := by decide +kernel
theorem dJ3_checkFromToIndex_8c36e_17 : decode cJ3_checkFromToIndex_8c36e 17 = .ok (.iload_n 2, 1) := by decide +kernel
theorem dJ3_checkFromToIndex_8c36e_18 : decode cJ3_checkFromToIndex_8c36e 18 = .ok (.invokestatic 99, 3) := by decide +kernel
theorem dJ3_checkFromToIndex_8c36e_21 : decode cJ3_checkFromToIndex_8c36e 21 = .ok (.athrow, 1) := by decide +kernel
theorem dJ3_checkFromToIndex_8c36e_22 : decode cJ3_checkFromToIndex_8c36e 22 = .ok (.iload_n 0, 1) := by decide +kernel
theorem dJ3_checkFromToIndex_8c36e_23 : decode cJ3_checkFromToIndex_8c36e 23 = .ok (.ireturn, 1) := by decide +kernel
theorem dL_law_0 : decode cL_law 0 = .ok (.new 7, 3) := by decide +kernel
theorem dL_law_3 : decode cL_law 3 = .ok (.dup, 1) := by decide +kernel
theorem dL_law_4 : decode cL_law 4 = .ok (.invokespecial 9, 3) := by decide +kernel
theorem dL_law_7 : decode cL_law 7 = .ok (.astore_n 1, 1) := by decide +kernel
theorem dL_law_8 : decode cL_law 8 = .ok (.new 10, 3) := by decide +kernel
theorem dL_law_11 : decode cL_law 11 = .ok (.dup, 1) := by decide +kernel
theorem dL_law_12 : decode cL_law 12 = .ok (.invokespecial 12, 3) := by decide +kernel
theorem dL_law_15 : decode cL_law 15 = .ok (.astore_n 2, 1) := by decide +kernel
theorem dL_law_16 : decode cL_law 16 = .ok (.iconst 0, 1) := by decide +kernel
theorem dL_law_17 : decode cL_law 17 = .ok (.istore_n 3, 1) := by decide +kernel
theorem dL_law_18 : decode cL_law 18 = .ok (.iload_n 3, 1) := by decide +kernel
theorem dL_law_19 : decode cL_law 19 = .ok (.aload_n 0, 1) := by decide +kernel
theorem dL_law_20 : decode cL_law 20 = .ok (.arraylength, 1) := by decide +kernel
theorem dL_law_21 : decode cL_law 21 = .ok (.bipush 6, 2) := by decide +kernel
theorem dL_law_23 : decode cL_law 23 = .ok (.isub, 1) := by decide +kernel
theorem dL_law_24 : decode cL_law 24 = .ok (.if_icmp .gt 1004, 3) := by decide +kernel
theorem dL_law_27 : decode cL_law 27 = .ok (.aload_n 0, 1) := by decide +kernel
theorem dL_law_28 : decode cL_law 28 = .ok (.iload_n 3, 1) := by decide +kernel
theorem dL_law_29 : decode cL_law 29 = .ok (.iaload, 1) := by decide +kernel
theorem dL_law_30 : decode cL_law 30 = .ok (.bipush 31, 2) := by decide +kernel
theorem dL_law_32 : decode cL_law 32 = .ok (.iand, 1) := by decide +kernel
theorem dL_law_33 : decode cL_law 33 = .ok (.tableswitch 989 0 28 #[131, 174, 217, 250, 293, 316, 329, 352, 375, 408, 431, 454, 467, 500, 523, 546, 569, 582, 615, 638, 661, 705, 718, 731, 754, 797, 840, 903, 956], 131) := by decide +kernel
theorem dL_law_164 : decode cL_law 164 = .ok (.aload_n 1, 1) := by decide +kernel
theorem dL_law_165 : decode cL_law 165 = .ok (.aload_n 0, 1) := by decide +kernel
theorem dL_law_166 : decode cL_law 166 = .ok (.iload_n 3, 1) := by decide +kernel
theorem dL_law_167 : decode cL_law 167 = .ok (.iconst 1, 1) := by decide +kernel
theorem dL_law_168 : decode cL_law 168 = .ok (.iadd, 1) := by decide +kernel
theorem dL_law_169 : decode cL_law 169 = .ok (.iaload, 1) := by decide +kernel
theorem dL_law_170 : decode cL_law 170 = .ok (.aload_n 0, 1) := by decide +kernel
theorem dL_law_171 : decode cL_law 171 = .ok (.iload_n 3, 1) := by decide +kernel
theorem dL_law_172 : decode cL_law 172 = .ok (.iconst 2, 1) := by decide +kernel
theorem dL_law_173 : decode cL_law 173 = .ok (.iadd, 1) := by decide +kernel
theorem dL_law_174 : decode cL_law 174 = .ok (.iaload, 1) := by decide +kernel
theorem dL_law_175 : decode cL_law 175 = .ok (.aload_n 0, 1) := by decide +kernel
theorem dL_law_176 : decode cL_law 176 = .ok (.iload_n 3, 1) := by decide +kernel
theorem dL_law_177 : decode cL_law 177 = .ok (.iconst 3, 1) := by decide +kernel
theorem dL_law_178 : decode cL_law 178 = .ok (.iadd, 1) := by decide +kernel
theorem dL_law_179 : decode cL_law 179 = .ok (.iaload, 1) := by decide +kernel
theorem dL_law_180 : decode cL_law 180 = .ok (.invokevirtual 13, 3) := by decide +kernel
theorem dL_law_183 : decode cL_law 183 = .ok (.aload_n 2, 1) := by decide +kernel
theorem dL_law_184 : decode cL_law 184 = .ok (.aload_n 0, 1) := by decide +kernel
theorem dL_law_185 : decode cL_law 185 = .ok (.iload_n 3, 1) := by decide +kernel
theorem dL_law_186 : decode cL_law 186 = .ok (.iconst 1, 1) := by decide +kernel
theorem dL_law_187 : decode cL_law 187 = .ok (.iadd, 1) := by decide +kernel
theorem dL_law_188 : decode cL_law 188 = .ok (.iaload, 1) := by decide +kernel
theorem dL_law_189 : decode cL_law 189 = .ok (.aload_n 0, 1) := by decide +kernel
theorem dL_law_190 : decode cL_law 190 = .ok (.iload_n 3, 1) := by decide +kernel
theorem dL_law_191 : decode cL_law 191 = .ok (.iconst 2, 1) := by decide +kernel
theorem dL_law_192 : decode cL_law 192 = .ok (.iadd, 1) := by decide +kernel
theorem dL_law_193 : decode cL_law 193 = .ok (.iaload, 1) := by decide +kernel
theorem dL_law_194 : decode cL_law 194 = .ok (.aload_n 0, 1) := by decide +kernel
theorem dL_law_195 : decode cL_law 195 = .ok (.iload_n 3, 1) := by decide +kernel
theorem dL_law_196 : decode cL_law 196 = .ok (.iconst 3, 1) := by decide +kernel
theorem dL_law_197 : decode cL_law 197 = .ok (.iadd, 1) := by decide +kernel
theorem dL_law_198 : decode cL_law 198 = .ok (.iaload, 1) := by decide +kernel
theorem dL_law_199 : decode cL_law 199 = .ok (.invokevirtual 17, 3) := by decide +kernel
theorem dL_law_202 : decode cL_law 202 = .ok (.if_icmp .eq 820, 3) := by decide +kernel
theorem dL_law_205 : decode cL_law 205 = .ok (.iconst 0, 1) := by decide +kernel
theorem dL_law_206 : decode cL_law 206 = .ok (.ireturn, 1) := by decide +kernel
theorem dL_law_207 : decode cL_law 207 = .ok (.aload_n 1, 1) := by decide +kernel
theorem dL_law_208 : decode cL_law 208 = .ok (.aload_n 0, 1) := by decide +kernel
theorem dL_law_209 : decode cL_law 209 = .ok (.iload_n 3, 1) := by decide +kernel
theorem dL_law_210 : decode cL_law 210 = .ok (.iconst 1, 1) := by decide +kernel
theorem dL_law_211 : decode cL_law 211 = .ok (.iadd, 1) := by decide +kernel
theorem dL_law_212 : decode cL_law 212 = .ok (.iaload, 1) := by decide +kernel
theorem dL_law_213 : decode cL_law 213 = .ok (.aload_n 0, 1) := by decide +kernel
theorem dL_law_214 : decode cL_law 214 = .ok (.iload_n 3, 1) := by decide +kernel
theorem dL_law_215 : decode cL_law 215 = .ok (.iconst 2, 1) := by decide +kernel
theorem dL_law_216 : decode cL_law 216 = .ok (.iadd, 1) := by decide +kernel
theorem dL_law_217 : decode cL_law 217 = .ok (.iaload, 1) := by decide +kernel
theorem dL_law_218 : decode cL_law 218 = .ok (.aload_n 0, 1) := by decide +kernel
theorem dL_law_219 : decode cL_law 219 = .ok (.iload_n 3, 1) := by decide +kernel
theorem dL_law_220 : decode cL_law 220 = .ok (.iconst 3, 1) := by decide +kernel
theorem dL_law_221 : decode cL_law 221 = .ok (.iadd, 1) := by decide +kernel
theorem dL_law_222 : decode cL_law 222 = .ok (.iaload, 1) := by decide +kernel
theorem dL_law_223 : decode cL_law 223 = .ok (.invokevirtual 18, 3) := by decide +kernel
theorem dL_law_226 : decode cL_law 226 = .ok (.aload_n 2, 1) := by decide +kernel
theorem dL_law_227 : decode cL_law 227 = .ok (.aload_n 0, 1) := by decide +kernel
theorem dL_law_228 : decode cL_law 228 = .ok (.iload_n 3, 1) := by decide +kernel
theorem dL_law_229 : decode cL_law 229 = .ok (.iconst 1, 1) := by decide +kernel
theorem dL_law_230 : decode cL_law 230 = .ok (.iadd, 1) := by decide +kernel
theorem dL_law_231 : decode cL_law 231 = .ok (.iaload, 1) := by decide +kernel
theorem dL_law_232 : decode cL_law 232 = .ok (.aload_n 0, 1) := by decide +kernel
theorem dL_law_233 : decode cL_law 233 = .ok (.iload_n 3, 1) := by decide +kernel
theorem dL_law_234 : decode cL_law 234 = .ok (.iconst 2, 1) := by decide +kernel
theorem dL_law_235 : decode cL_law 235 = .ok (.iadd, 1) := by decide +kernel
theorem dL_law_236 : decode cL_law 236 = .ok (.iaload, 1) := by decide +kernel
theorem dL_law_237 : decode cL_law 237 = .ok (.aload_n 0, 1) := by decide +kernel
theorem dL_law_238 : decode cL_law 238 = .ok (.iload_n 3, 1) := by decide +kernel
theorem dL_law_239 : decode cL_law 239 = .ok (.iconst 3, 1) := by decide +kernel
theorem dL_law_240 : decode cL_law 240 = .ok (.iadd, 1) := by decide +kernel
theorem dL_law_241 : decode cL_law 241 = .ok (.iaload, 1) := by decide +kernel
theorem dL_law_242 : decode cL_law 242 = .ok (.invokevirtual 21, 3) := by decide +kernel
theorem dL_law_245 : decode cL_law 245 = .ok (.if_icmp .eq 777, 3) := by decide +kernel
theorem dL_law_248 : decode cL_law 248 = .ok (.iconst 0, 1) := by decide +kernel
theorem dL_law_249 : decode cL_law 249 = .ok (.ireturn, 1) := by decide +kernel
theorem dL_law_250 : decode cL_law 250 = .ok (.aload_n 1, 1) := by decide +kernel
theorem dL_law_251 : decode cL_law 251 = .ok (.aload_n 0, 1) := by decide +kernel
theorem dL_law_252 : decode cL_law 252 = .ok (.iload_n 3, 1) := by decide +kernel
theorem dL_law_253 : decode cL_law 253 = .ok (.iconst 1, 1) := by decide +kernel
theorem dL_law_254 : decode cL_law 254 = .ok (.iadd, 1) := by decide +kernel
theorem dL_law_255 : decode cL_law 255 = .ok (.iaload, 1) := by decide +kernel
theorem dL_law_256 : decode cL_law 256 = .ok (.aload_n 0, 1) := by decide +kernel
theorem dL_law_257 : decode cL_law 257 = .ok (.iload_n 3, 1) := by decide +kernel
theorem dL_law_258 : decode cL_law 258 = .ok (.iconst 2, 1) := by decide +kernel
theorem dL_law_259 : decode cL_law 259 = .ok (.iadd, 1) := by decide +kernel
theorem dL_law_260 : decode cL_law 260 = .ok (.iaload, 1) := by decide +kernel
theorem dL_law_261 : decode cL_law 261 = .ok (.invokevirtual 22, 3) := by decide +kernel
theorem dL_law_264 : decode cL_law 264 = .ok (.aload_n 2, 1) := by decide +kernel
theorem dL_law_265 : decode cL_law 265 = .ok (.aload_n 0, 1) := by decide +kernel
theorem dL_law_266 : decode cL_law 266 = .ok (.iload_n 3, 1) := by decide +kernel
theorem dL_law_267 : decode cL_law 267 = .ok (.iconst 1, 1) := by decide +kernel
theorem dL_law_268 : decode cL_law 268 = .ok (.iadd, 1) := by decide +kernel
theorem dL_law_269 : decode cL_law 269 = .ok (.iaload, 1) := by decide +kernel
theorem dL_law_270 : decode cL_law 270 = .ok (.aload_n 0, 1) := by decide +kernel
theorem dL_law_271 : decode cL_law 271 = .ok (.iload_n 3, 1) := by decide +kernel
theorem dL_law_272 : decode cL_law 272 = .ok (.iconst 2, 1) := by decide +kernel
theorem dL_law_273 : decode cL_law 273 = .ok (.iadd, 1) := by decide +kernel
theorem dL_law_274 : decode cL_law 274 = .ok (.iaload, 1) := by decide +kernel
theorem dL_law_275 : decode cL_law 275 = .ok (.invokevirtual 26, 3) := by decide +kernel
theorem dL_law_278 : decode cL_law 278 = .ok (.if_icmp .eq 744, 3) := by decide +kernel
theorem dL_law_281 : decode cL_law 281 = .ok (.iconst 0, 1) := by decide +kernel
theorem dL_law_282 : decode cL_law 282 = .ok (.ireturn, 1) := by decide +kernel
theorem dL_law_283 : decode cL_law 283 = .ok (.aload_n 1, 1) := by decide +kernel
theorem dL_law_284 : decode cL_law 284 = .ok (.aload_n 0, 1) := by decide +kernel
theorem dL_law_285 : decode cL_law 285 = .ok (.iload_n 3, 1) := by decide +kernel
theorem dL_law_286 : decode cL_law 286 = .ok (.iconst 1, 1) := by decide +kernel
theorem dL_law_287 : decode cL_law 287 = .ok (.iadd, 1) := by decide +kernel
theorem dL_law_288 : decode cL_law 288 = .ok (.iaload, 1) := by decide +kernel
theorem dL_law_289 : decode cL_law 289 = .ok (.aload_n 0, 1) := by decide +kernel
theorem dL_law_290 : decode cL_law 290 = .ok (.iload_n 3, 1) := by decide +kernel
theorem dL_law_291 : decode cL_law 291 = .ok (.iconst 2, 1) := by decide +kernel
theorem dL_law_292 : decode cL_law 292 = .ok (.iadd, 1) := by decide +kernel
theorem dL_law_293 : decode cL_law 293 = .ok (.iaload, 1) := by decide +kernel
theorem dL_law_294 : decode cL_law 294 = .ok (.aload_n 0, 1) := by decide +kernel
theorem dL_law_295 : decode cL_law 295 = .ok (.iload_n 3, 1) := by decide +kernel
theorem dL_law_296 : decode cL_law 296 = .ok (.iconst 3, 1) := by decide +kernel
theorem dL_law_297 : decode cL_law 297 = .ok (.iadd, 1) := by decide +kernel
theorem dL_law_298 : decode cL_law 298 = .ok (.iaload, 1) := by decide +kernel
theorem dL_law_299 : decode cL_law 299 = .ok (.invokevirtual 27, 3) := by decide +kernel
theorem dL_law_302 : decode cL_law 302 = .ok (.aload_n 2, 1) := by decide +kernel
theorem dL_law_303 : decode cL_law 303 = .ok (.aload_n 0, 1) := by decide +kernel
theorem dL_law_304 : decode cL_law 304 = .ok (.iload_n 3, 1) := by decide +kernel
theorem dL_law_305 : decode cL_law 305 = .ok (.iconst 1, 1) := by decide +kernel
theorem dL_law_306 : decode cL_law 306 = .ok (.iadd, 1) := by decide +kernel
theorem dL_law_307 : decode cL_law 307 = .ok (.iaload, 1) := by decide +kernel
theorem dL_law_308 : decode cL_law 308 = .ok (.aload_n 0, 1) := by decide +kernel
theorem dL_law_309 : decode cL_law 309 = .ok (.iload_n 3, 1) := by decide +kernel
theorem dL_law_310 : decode cL_law 310 = .ok (.iconst 2, 1) := by decide +kernel
theorem dL_law_311 : decode cL_law 311 = .ok (.iadd, 1) := by decide +kernel
theorem dL_law_312 : decode cL_law 312 = .ok (.iaload, 1) := by decide +kernel
theorem dL_law_313 : decode cL_law 313 = .ok (.aload_n 0, 1) := by decide +kernel
theorem dL_law_314 : decode cL_law 314 = .ok (.iload_n 3, 1) := by decide +kernel
theorem dL_law_315 : decode cL_law 315 = .ok (.iconst 3, 1) := by decide +kernel
theorem dL_law_316 : decode cL_law 316 = .ok (.iadd, 1) := by decide +kernel
theorem dL_law_317 : decode cL_law 317 = .ok (.iaload, 1) := by decide +kernel
theorem dL_law_318 : decode cL_law 318 = .ok (.invokevirtual 30, 3) := by decide +kernel
theorem dL_law_321 : decode cL_law 321 = .ok (.if_icmp .eq 701, 3) := by decide +kernel
theorem dL_law_324 : decode cL_law 324 = .ok (.iconst 0, 1) := by decide +kernel
theorem dL_law_325 : decode cL_law 325 = .ok (.ireturn, 1) := by decide +kernel
theorem dL_law_326 : decode cL_law 326 = .ok (.aload_n 1, 1) := by decide +kernel
theorem dL_law_327 : decode cL_law 327 = .ok (.aload_n 0, 1) := by decide +kernel
theorem dL_law_328 : decode cL_law 328 = .ok (.iload_n 3, 1) := by decide +kernel
theorem dL_law_329 : decode cL_law 329 = .ok (.iconst 1, 1) := by decide +kernel
theorem dL_law_330 : decode cL_law 330 = .ok (.iadd, 1) := by decide +kernel
theorem dL_law_331 : decode cL_law 331 = .ok (.iaload, 1) := by decide +kernel
theorem dL_law_332 : decode cL_law 332 = .ok (.invokevirtual 31, 3) := by decide +kernel
theorem dL_law_335 : decode cL_law 335 = .ok (.aload_n 2, 1) := by decide +kernel
theorem dL_law_336 : decode cL_law 336 = .ok (.aload_n 0, 1) := by decide +kernel
theorem dL_law_337 : decode cL_law 337 = .ok (.iload_n 3, 1) := by decide +kernel
theorem dL_law_338 : decode cL_law 338 = .ok (.iconst 1, 1) := by decide +kernel
theorem dL_law_339 : decode cL_law 339 = .ok (.iadd, 1) := by decide +kernel
theorem dL_law_340 : decode cL_law 340 = .ok (.iaload, 1) := by decide +kernel
theorem dL_law_341 : decode cL_law 341 = .ok (.invokevirtual 35, 3) := by decide +kernel
theorem dL_law_344 : decode cL_law 344 = .ok (.if_icmp .eq 678, 3) := by decide +kernel
theorem dL_law_347 : decode cL_law 347 = .ok (.iconst 0, 1) := by decide +kernel
theorem dL_law_348 : decode cL_law 348 = .ok (.ireturn, 1) := by decide +kernel
theorem dL_law_349 : decode cL_law 349 = .ok (.aload_n 1, 1) := by decide +kernel
theorem dL_law_350 : decode cL_law 350 = .ok (.invokevirtual 36, 3) := by decide +kernel
theorem dL_law_353 : decode cL_law 353 = .ok (.aload_n 2, 1) := by decide +kernel
theorem dL_law_354 : decode cL_law 354 = .ok (.invokevirtual 40, 3) := by decide +kernel
theorem dL_law_357 : decode cL_law 357 = .ok (.if_icmp .eq 665, 3) := by decide +kernel
theorem dL_law_360 : decode cL_law 360 = .ok (.iconst 0, 1) := by decide +kernel
theorem dL_law_361 : decode cL_law 361 = .ok (.ireturn, 1) := by decide +kernel
theorem dL_law_362 : decode cL_law 362 = .ok (.aload_n 1, 1) := by decide +kernel
theorem dL_law_363 : decode cL_law 363 = .ok (.aload_n 0, 1) := by decide +kernel
theorem dL_law_364 : decode cL_law 364 = .ok (.iload_n 3, 1) := by decide +kernel
theorem dL_law_365 : decode cL_law 365 = .ok (.iconst 1, 1) := by decide +kernel
theorem dL_law_366 : decode cL_law 366 = .ok (.iadd, 1) := by decide +kernel
theorem dL_law_367 : decode cL_law 367 = .ok (.iaload, 1) := by decide +kernel
theorem dL_law_368 : decode cL_law 368 = .ok (.invokevirtual 41, 3) := by decide +kernel
theorem dL_law_371 : decode cL_law 371 = .ok (.aload_n 2, 1) := by decide +kernel
theorem dL_law_372 : decode cL_law 372 = .ok (.aload_n 0, 1) := by decide +kernel
theorem dL_law_373 : decode cL_law 373 = .ok (.iload_n 3, 1) := by decide +kernel
theorem dL_law_374 : decode cL_law 374 = .ok (.iconst 1, 1) := by decide +kernel
theorem dL_law_375 : decode cL_law 375 = .ok (.iadd, 1) := by decide +kernel
theorem dL_law_376 : decode cL_law 376 = .ok (.iaload, 1) := by decide +kernel
theorem dL_law_377 : decode cL_law 377 = .ok (.invokevirtual 44, 3) := by decide +kernel
theorem dL_law_380 : decode cL_law 380 = .ok (.if_icmp .eq 642, 3) := by decide +kernel
theorem dL_law_383 : decode cL_law 383 = .ok (.iconst 0, 1) := by decide +kernel
theorem dL_law_384 : decode cL_law 384 = .ok (.ireturn, 1) := by decide +kernel
theorem dL_law_385 : decode cL_law 385 = .ok (.aload_n 1, 1) := by decide +kernel
theorem dL_law_386 : decode cL_law 386 = .ok (.aload_n 0, 1) := by decide +kernel
theorem dL_law_387 : decode cL_law 387 = .ok (.iload_n 3, 1) := by decide +kernel
theorem dL_law_388 : decode cL_law 388 = .ok (.iconst 1, 1) := by decide +kernel
theorem dL_law_389 : decode cL_law 389 = .ok (.iadd, 1) := by decide +kernel
theorem dL_law_390 : decode cL_law 390 = .ok (.iaload, 1) := by decide +kernel
theorem dL_law_391 : decode cL_law 391 = .ok (.invokevirtual 45, 3) := by decide +kernel
theorem dL_law_394 : decode cL_law 394 = .ok (.aload_n 2, 1) := by decide +kernel
theorem dL_law_395 : decode cL_law 395 = .ok (.aload_n 0, 1) := by decide +kernel
theorem dL_law_396 : decode cL_law 396 = .ok (.iload_n 3, 1) := by decide +kernel
theorem dL_law_397 : decode cL_law 397 = .ok (.iconst 1, 1) := by decide +kernel
theorem dL_law_398 : decode cL_law 398 = .ok (.iadd, 1) := by decide +kernel
theorem dL_law_399 : decode cL_law 399 = .ok (.iaload, 1) := by decide +kernel
theorem dL_law_400 : decode cL_law 400 = .ok (.invokevirtual 48, 3) := by decide +kernel
theorem dL_law_403 : decode cL_law 403 = .ok (.if_icmp .eq 619, 3) := by decide +kernel
theorem dL_law_406 : decode cL_law 406 = .ok (.iconst 0, 1) := by decide +kernel
theorem dL_law_407 : decode cL_law 407 = .ok (.ireturn, 1) := by decide +kernel
theorem dL_law_408 : decode cL_law 408 = .ok (.aload_n 1, 1) := by decide +kernel
theorem dL_law_409 : decode cL_law 409 = .ok (.aload_n 0, 1) := by decide +kernel
theorem dL_law_410 : decode cL_law 410 = .ok (.iload_n 3, 1) := by decide +kernel
theorem dL_law_411 : decode cL_law 411 = .ok (.iconst 1, 1) := by decide +kernel
theorem dL_law_412 : decode cL_law 412 = .ok (.iadd, 1) := by decide +kernel
theorem dL_law_413 : decode cL_law 413 = .ok (.iaload, 1) := by decide +kernel
theorem dL_law_414 : decode cL_law 414 = .ok (.aload_n 0, 1) := by decide +kernel
theorem dL_law_415 : decode cL_law 415 = .ok (.iload_n 3, 1) := by decide +kernel
theorem dL_law_416 : decode cL_law 416 = .ok (.iconst 2, 1) := by decide +kernel
theorem dL_law_417 : decode cL_law 417 = .ok (.iadd, 1) := by decide +kernel
theorem dL_law_418 : decode cL_law 418 = .ok (.iaload, 1) := by decide +kernel
theorem dL_law_419 : decode cL_law 419 = .ok (.invokevirtual 49, 3) := by decide +kernel
theorem dL_law_422 : decode cL_law 422 = .ok (.aload_n 2, 1) := by decide +kernel
theorem dL_law_423 : decode cL_law 423 = .ok (.aload_n 0, 1) := by decide +kernel
theorem dL_law_424 : decode cL_law 424 = .ok (.iload_n 3, 1) := by decide +kernel
theorem dL_law_425 : decode cL_law 425 = .ok (.iconst 1, 1) := by decide +kernel
theorem dL_law_426 : decode cL_law 426 = .ok (.iadd, 1) := by decide +kernel
theorem dL_law_427 : decode cL_law 427 = .ok (.iaload, 1) := by decide +kernel
theorem dL_law_428 : decode cL_law 428 = .ok (.aload_n 0, 1) := by decide +kernel
theorem dL_law_429 : decode cL_law 429 = .ok (.iload_n 3, 1) := by decide +kernel
theorem dL_law_430 : decode cL_law 430 = .ok (.iconst 2, 1) := by decide +kernel
theorem dL_law_431 : decode cL_law 431 = .ok (.iadd, 1) := by decide +kernel
theorem dL_law_432 : decode cL_law 432 = .ok (.iaload, 1) := by decide +kernel
theorem dL_law_433 : decode cL_law 433 = .ok (.invokevirtual 52, 3) := by decide +kernel
theorem dL_law_436 : decode cL_law 436 = .ok (.if_icmp .eq 586, 3) := by decide +kernel
theorem dL_law_439 : decode cL_law 439 = .ok (.iconst 0, 1) := by decide +kernel
theorem dL_law_440 : decode cL_law 440 = .ok (.ireturn, 1) := by decide +kernel
theorem dL_law_441 : decode cL_law 441 = .ok (.aload_n 1, 1) := by decide +kernel
theorem dL_law_442 : decode cL_law 442 = .ok (.aload_n 0, 1) := by decide +kernel
theorem dL_law_443 : decode cL_law 443 = .ok (.iload_n 3, 1) := by decide +kernel
theorem dL_law_444 : decode cL_law 444 = .ok (.iconst 1, 1) := by decide +kernel
theorem dL_law_445 : decode cL_law 445 = .ok (.iadd, 1) := by decide +kernel
theorem dL_law_446 : decode cL_law 446 = .ok (.iaload, 1) := by decide +kernel
theorem dL_law_447 : decode cL_law 447 = .ok (.invokevirtual 53, 3) := by decide +kernel
theorem dL_law_450 : decode cL_law 450 = .ok (.aload_n 2, 1) := by decide +kernel
theorem dL_law_451 : decode cL_law 451 = .ok (.aload_n 0, 1) := by decide +kernel
theorem dL_law_452 : decode cL_law 452 = .ok (.iload_n 3, 1) := by decide +kernel
theorem dL_law_453 : decode cL_law 453 = .ok (.iconst 1, 1) := by decide +kernel
theorem dL_law_454 : decode cL_law 454 = .ok (.iadd, 1) := by decide +kernel
theorem dL_law_455 : decode cL_law 455 = .ok (.iaload, 1) := by decide +kernel
theorem dL_law_456 : decode cL_law 456 = .ok (.invokevirtual 56, 3) := by decide +kernel
theorem dL_law_459 : decode cL_law 459 = .ok (.if_icmp .eq 563, 3) := by decide +kernel
theorem dL_law_462 : decode cL_law 462 = .ok (.iconst 0, 1) := by decide +kernel
theorem dL_law_463 : decode cL_law 463 = .ok (.ireturn, 1) := by decide +kernel
theorem dL_law_464 : decode cL_law 464 = .ok (.aload_n 1, 1) := by decide +kernel
theorem dL_law_465 : decode cL_law 465 = .ok (.aload_n 0, 1) := by decide +kernel
theorem dL_law_466 : decode cL_law 466 = .ok (.iload_n 3, 1) := by decide +kernel
theorem dL_law_467 : decode cL_law 467 = .ok (.iconst 1, 1) := by decide +kernel
theorem dL_law_468 : decode cL_law 468 = .ok (.iadd, 1) := by decide +kernel
theorem dL_law_469 : decode cL_law 469 = .ok (.iaload, 1) := by decide +kernel
theorem dL_law_470 : decode cL_law 470 = .ok (.invokevirtual 57, 3) := by decide +kernel
theorem dL_law_473 : decode cL_law 473 = .ok (.aload_n 2, 1) := by decide +kernel
theorem dL_law_474 : decode cL_law 474 = .ok (.aload_n 0, 1) := by decide +kernel
theorem dL_law_475 : decode cL_law 475 = .ok (.iload_n 3, 1) := by decide +kernel
theorem dL_law_476 : decode cL_law 476 = .ok (.iconst 1, 1) := by decide +kernel
theorem dL_law_477 : decode cL_law 477 = .ok (.iadd, 1) := by decide +kernel
theorem dL_law_478 : decode cL_law 478 = .ok (.iaload, 1) := by decide +kernel
theorem dL_law_479 : decode cL_law 479 = .ok (.invokevirtual 60, 3) := by decide +kernel
theorem dL_law_482 : decode cL_law 482 = .ok (.if_icmp .eq 540, 3) := by decide +kernel
theorem dL_law_485 : decode cL_law 485 = .ok (.iconst 0, 1) := by decide +kernel
theorem dL_law_486 : decode cL_law 486 = .ok (.ireturn, 1) := by decide +kernel
theorem dL_law_487 : decode cL_law 487 = .ok (.aload_n 1, 1) := by decide +kernel
theorem dL_law_488 : decode cL_law 488 = .ok (.invokevirtual 61, 3) := by decide +kernel
theorem dL_law_491 : decode cL_law 491 = .ok (.aload_n 2, 1) := by decide +kernel
theorem dL_law_492 : decode cL_law 492 = .ok (.invokevirtual 64, 3) := by decide +kernel
theorem dL_law_495 : decode cL_law 495 = .ok (.if_icmp .eq 527, 3) := by decide +kernel
theorem dL_law_498 : decode cL_law 498 = .ok (.iconst 0, 1) := by decide +kernel
theorem dL_law_499 : decode cL_law 499 = .ok (.ireturn, 1) := by decide +kernel
theorem dL_law_500 : decode cL_law 500 = .ok (.aload_n 1, 1) := by decide +kernel
theorem dL_law_501 : decode cL_law 501 = .ok (.aload_n 0, 1) := by decide +kernel
theorem dL_law_502 : decode cL_law 502 = .ok (.iload_n 3, 1) := by decide +kernel
theorem dL_law_503 : decode cL_law 503 = .ok (.iconst 1, 1) := by decide +kernel
theorem dL_law_504 : decode cL_law 504 = .ok (.iadd, 1) := by decide +kernel
theorem dL_law_505 : decode cL_law 505 = .ok (.iaload, 1) := by decide +kernel
theorem dL_law_506 : decode cL_law 506 = .ok (.aload_n 0, 1) := by decide +kernel
theorem dL_law_507 : decode cL_law 507 = .ok (.iload_n 3, 1) := by decide +kernel
theorem dL_law_508 : decode cL_law 508 = .ok (.iconst 2, 1) := by decide +kernel
theorem dL_law_509 : decode cL_law 509 = .ok (.iadd, 1) := by decide +kernel
theorem dL_law_510 : decode cL_law 510 = .ok (.iaload, 1) := by decide +kernel
theorem dL_law_511 : decode cL_law 511 = .ok (.invokevirtual 65, 3) := by decide +kernel
theorem dL_law_514 : decode cL_law 514 = .ok (.aload_n 2, 1) := by decide +kernel
theorem dL_law_515 : decode cL_law 515 = .ok (.aload_n 0, 1) := by decide +kernel
theorem dL_law_516 : decode cL_law 516 = .ok (.iload_n 3, 1) := by decide +kernel
theorem dL_law_517 : decode cL_law 517 = .ok (.iconst 1, 1) := by decide +kernel
theorem dL_law_518 : decode cL_law 518 = .ok (.iadd, 1) := by decide +kernel
theorem dL_law_519 : decode cL_law 519 = .ok (.iaload, 1) := by decide +kernel
theorem dL_law_520 : decode cL_law 520 = .ok (.aload_n 0, 1) := by decide +kernel
theorem dL_law_521 : decode cL_law 521 = .ok (.iload_n 3, 1) := by decide +kernel
theorem dL_law_522 : decode cL_law 522 = .ok (.iconst 2, 1) := by decide +kernel
theorem dL_law_523 : decode cL_law 523 = .ok (.iadd, 1) := by decide +kernel
theorem dL_law_524 : decode cL_law 524 = .ok (.iaload, 1) := by decide +kernel
theorem dL_law_525 : decode cL_law 525 = .ok (.invokevirtual 68, 3) := by decide +kernel
theorem dL_law_528 : decode cL_law 528 = .ok (.if_icmp .eq 494, 3) := by decide +kernel
theorem dL_law_531 : decode cL_law 531 = .ok (.iconst 0, 1) := by decide +kernel
theorem dL_law_532 : decode cL_law 532 = .ok (.ireturn, 1) := by decide +kernel
theorem dL_law_533 : decode cL_law 533 = .ok (.aload_n 1, 1) := by decide +kernel
theorem dL_law_534 : decode cL_law 534 = .ok (.aload_n 0, 1) := by decide +kernel
theorem dL_law_535 : decode cL_law 535 = .ok (.iload_n 3, 1) := by decide +kernel
theorem dL_law_536 : decode cL_law 536 = .ok (.iconst 1, 1) := by decide +kernel
theorem dL_law_537 : decode cL_law 537 = .ok (.iadd, 1) := by decide +kernel
theorem dL_law_538 : decode cL_law 538 = .ok (.iaload, 1) := by decide +kernel
theorem dL_law_539 : decode cL_law 539 = .ok (.invokevirtual 69, 3) := by decide +kernel
theorem dL_law_542 : decode cL_law 542 = .ok (.aload_n 2, 1) := by decide +kernel
theorem dL_law_543 : decode cL_law 543 = .ok (.aload_n 0, 1) := by decide +kernel
theorem dL_law_544 : decode cL_law 544 = .ok (.iload_n 3, 1) := by decide +kernel
theorem dL_law_545 : decode cL_law 545 = .ok (.iconst 1, 1) := by decide +kernel
theorem dL_law_546 : decode cL_law 546 = .ok (.iadd, 1) := by decide +kernel
theorem dL_law_547 : decode cL_law 547 = .ok (.iaload, 1) := by decide +kernel
theorem dL_law_548 : decode cL_law 548 = .ok (.invokevirtual 72, 3) := by decide +kernel
theorem dL_law_551 : decode cL_law 551 = .ok (.if_icmp .eq 471, 3) := by decide +kernel
theorem dL_law_554 : decode cL_law 554 = .ok (.iconst 0, 1) := by decide +kernel
theorem dL_law_555 : decode cL_law 555 = .ok (.ireturn, 1) := by decide +kernel
theorem dL_law_556 : decode cL_law 556 = .ok (.aload_n 1, 1) := by decide +kernel
theorem dL_law_557 : decode cL_law 557 = .ok (.aload_n 0, 1) := by decide +kernel
theorem dL_law_558 : decode cL_law 558 = .ok (.iload_n 3, 1) := by decide +kernel
theorem dL_law_559 : decode cL_law 559 = .ok (.iconst 1, 1) := by decide +kernel
theorem dL_law_560 : decode cL_law 560 = .ok (.iadd, 1) := by decide +kernel
theorem dL_law_561 : decode cL_law 561 = .ok (.iaload, 1) := by decide +kernel
theorem dL_law_562 : decode cL_law 562 = .ok (.invokevirtual 73, 3) := by decide +kernel
theorem dL_law_565 : decode cL_law 565 = .ok (.aload_n 2, 1) := by decide +kernel
theorem dL_law_566 : decode cL_law 566 = .ok (.aload_n 0, 1) := by decide +kernel
theorem dL_law_567 : decode cL_law 567 = .ok (.iload_n 3, 1) := by decide +kernel
theorem dL_law_568 : decode cL_law 568 = .ok (.iconst 1, 1) := by decide +kernel
theorem dL_law_569 : decode cL_law 569 = .ok (.iadd, 1) := by decide +kernel
theorem dL_law_570 : decode cL_law 570 = .ok (.iaload, 1) := by decide +kernel
theorem dL_law_571 : decode cL_law 571 = .ok (.invokevirtual 76, 3) := by decide +kernel
theorem dL_law_574 : decode cL_law 574 = .ok (.if_icmp .eq 448, 3) := by decide +kernel
theorem dL_law_577 : decode cL_law 577 = .ok (.iconst 0, 1) := by decide +kernel
theorem dL_law_578 : decode cL_law 578 = .ok (.ireturn, 1) := by decide +kernel
theorem dL_law_579 : decode cL_law 579 = .ok (.aload_n 1, 1) := by decide +kernel
theorem dL_law_580 : decode cL_law 580 = .ok (.aload_n 0, 1) := by decide +kernel
theorem dL_law_581 : decode cL_law 581 = .ok (.iload_n 3, 1) := by decide +kernel
theorem dL_law_582 : decode cL_law 582 = .ok (.iconst 1, 1) := by decide +kernel
theorem dL_law_583 : decode cL_law 583 = .ok (.iadd, 1) := by decide +kernel
theorem dL_law_584 : decode cL_law 584 = .ok (.iaload, 1) := by decide +kernel
theorem dL_law_585 : decode cL_law 585 = .ok (.invokevirtual 77, 3) := by decide +kernel
theorem dL_law_588 : decode cL_law 588 = .ok (.aload_n 2, 1) := by decide +kernel
theorem dL_law_589 : decode cL_law 589 = .ok (.aload_n 0, 1) := by decide +kernel
theorem dL_law_590 : decode cL_law 590 = .ok (.iload_n 3, 1) := by decide +kernel
theorem dL_law_591 : decode cL_law 591 = .ok (.iconst 1, 1) := by decide +kernel
theorem dL_law_592 : decode cL_law 592 = .ok (.iadd, 1) := by decide +kernel
theorem dL_law_593 : decode cL_law 593 = .ok (.iaload, 1) := by decide +kernel
theorem dL_law_594 : decode cL_law 594 = .ok (.invokevirtual 80, 3) := by decide +kernel
theorem dL_law_597 : decode cL_law 597 = .ok (.if_icmp .eq 425, 3) := by decide +kernel
theorem dL_law_600 : decode cL_law 600 = .ok (.iconst 0, 1) := by decide +kernel
theorem dL_law_601 : decode cL_law 601 = .ok (.ireturn, 1) := by decide +kernel
theorem dL_law_602 : decode cL_law 602 = .ok (.aload_n 1, 1) := by decide +kernel
theorem dL_law_603 : decode cL_law 603 = .ok (.invokevirtual 81, 3) := by decide +kernel
theorem dL_law_606 : decode cL_law 606 = .ok (.aload_n 2, 1) := by decide +kernel
theorem dL_law_607 : decode cL_law 607 = .ok (.invokevirtual 84, 3) := by decide +kernel
theorem dL_law_610 : decode cL_law 610 = .ok (.if_icmp .eq 412, 3) := by decide +kernel
theorem dL_law_613 : decode cL_law 613 = .ok (.iconst 0, 1) := by decide +kernel
theorem dL_law_614 : decode cL_law 614 = .ok (.ireturn, 1) := by decide +kernel
theorem dL_law_615 : decode cL_law 615 = .ok (.aload_n 1, 1) := by decide +kernel
theorem dL_law_616 : decode cL_law 616 = .ok (.aload_n 0, 1) := by decide +kernel
theorem dL_law_617 : decode cL_law 617 = .ok (.iload_n 3, 1) := by decide +kernel
theorem dL_law_618 : decode cL_law 618 = .ok (.iconst 1, 1) := by decide +kernel
theorem dL_law_619 : decode cL_law 619 = .ok (.iadd, 1) := by decide +kernel
theorem dL_law_620 : decode cL_law 620 = .ok (.iaload, 1) := by decide +kernel
theorem dL_law_621 : decode cL_law 621 = .ok (.aload_n 0, 1) := by decide +kernel
theorem dL_law_622 : decode cL_law 622 = .ok (.iload_n 3, 1) := by decide +kernel
theorem dL_law_623 : decode cL_law 623 = .ok (.iconst 2, 1) := by decide +kernel
theorem dL_law_624 : decode cL_law 624 = .ok (.iadd, 1) := by decide +kernel
theorem dL_law_625 : decode cL_law 625 = .ok (.iaload, 1) := by decide +kernel
theorem dL_law_626 : decode cL_law 626 = .ok (.invokevirtual 85, 3) := by decide +kernel
theorem dL_law_629 : decode cL_law 629 = .ok (.aload_n 2, 1) := by decide +kernel
theorem dL_law_630 : decode cL_law 630 = .ok (.aload_n 0, 1) := by decide +kernel
theorem dL_law_631 : decode cL_law 631 = .ok (.iload_n 3, 1) := by decide +kernel
theorem dL_law_632 : decode cL_law 632 = .ok (.iconst 1, 1) := by decide +kernel
theorem dL_law_633 : decode cL_law 633 = .ok (.iadd, 1) := by decide +kernel
theorem dL_law_634 : decode cL_law 634 = .ok (.iaload, 1) := by decide +kernel
theorem dL_law_635 : decode cL_law 635 = .ok (.aload_n 0, 1) := by decide +kernel
theorem dL_law_636 : decode cL_law 636 = .ok (.iload_n 3, 1) := by decide +kernel
theorem dL_law_637 : decode cL_law 637 = .ok (.iconst 2, 1) := by decide +kernel
theorem dL_law_638 : decode cL_law 638 = .ok (.iadd, 1) := by decide +kernel
theorem dL_law_639 : decode cL_law 639 = .ok (.iaload, 1) := by decide +kernel
theorem dL_law_640 : decode cL_law 640 = .ok (.invokevirtual 88, 3) := by decide +kernel
theorem dL_law_643 : decode cL_law 643 = .ok (.if_icmp .eq 379, 3) := by decide +kernel
theorem dL_law_646 : decode cL_law 646 = .ok (.iconst 0, 1) := by decide +kernel
theorem dL_law_647 : decode cL_law 647 = .ok (.ireturn, 1) := by decide +kernel
theorem dL_law_648 : decode cL_law 648 = .ok (.aload_n 1, 1) := by decide +kernel
theorem dL_law_649 : decode cL_law 649 = .ok (.aload_n 0, 1) := by decide +kernel
theorem dL_law_650 : decode cL_law 650 = .ok (.iload_n 3, 1) := by decide +kernel
theorem dL_law_651 : decode cL_law 651 = .ok (.iconst 1, 1) := by decide +kernel
theorem dL_law_652 : decode cL_law 652 = .ok (.iadd, 1) := by decide +kernel
theorem dL_law_653 : decode cL_law 653 = .ok (.iaload, 1) := by decide +kernel
theorem dL_law_654 : decode cL_law 654 = .ok (.invokevirtual 89, 3) := by decide +kernel
theorem dL_law_657 : decode cL_law 657 = .ok (.aload_n 2, 1) := by decide +kernel
theorem dL_law_658 : decode cL_law 658 = .ok (.aload_n 0, 1) := by decide +kernel
theorem dL_law_659 : decode cL_law 659 = .ok (.iload_n 3, 1) := by decide +kernel
theorem dL_law_660 : decode cL_law 660 = .ok (.iconst 1, 1) := by decide +kernel
theorem dL_law_661 : decode cL_law 661 = .ok (.iadd, 1) := by decide +kernel
theorem dL_law_662 : decode cL_law 662 = .ok (.iaload, 1) := by decide +kernel
theorem dL_law_663 : decode cL_law 663 = .ok (.invokevirtual 92, 3) := by decide +kernel
theorem dL_law_666 : decode cL_law 666 = .ok (.if_icmp .eq 356, 3) := by decide +kernel
theorem dL_law_669 : decode cL_law 669 = .ok (.iconst 0, 1) := by decide +kernel
theorem dL_law_670 : decode cL_law 670 = .ok (.ireturn, 1) := by decide +kernel
theorem dL_law_671 : decode cL_law 671 = .ok (.aload_n 1, 1) := by decide +kernel
theorem dL_law_672 : decode cL_law 672 = .ok (.aload_n 0, 1) := by decide +kernel
theorem dL_law_673 : decode cL_law 673 = .ok (.iload_n 3, 1) := by decide +kernel
theorem dL_law_674 : decode cL_law 674 = .ok (.iconst 1, 1) := by decide +kernel
theorem dL_law_675 : decode cL_law 675 = .ok (.iadd, 1) := by decide +kernel
theorem dL_law_676 : decode cL_law 676 = .ok (.iaload, 1) := by decide +kernel
theorem dL_law_677 : decode cL_law 677 = .ok (.invokevirtual 93, 3) := by decide +kernel
theorem dL_law_680 : decode cL_law 680 = .ok (.aload_n 2, 1) := by decide +kernel
theorem dL_law_681 : decode cL_law 681 = .ok (.aload_n 0, 1) := by decide +kernel
theorem dL_law_682 : decode cL_law 682 = .ok (.iload_n 3, 1) := by decide +kernel
theorem dL_law_683 : decode cL_law 683 = .ok (.iconst 1, 1) := by decide +kernel
theorem dL_law_684 : decode cL_law 684 = .ok (.iadd, 1) := by decide +kernel
theorem dL_law_685 : decode cL_law 685 = .ok (.iaload, 1) := by decide +kernel
theorem dL_law_686 : decode cL_law 686 = .ok (.invokevirtual 96, 3) := by decide +kernel
theorem dL_law_689 : decode cL_law 689 = .ok (.if_icmp .eq 333, 3) := by decide +kernel
theorem dL_law_692 : decode cL_law 692 = .ok (.iconst 0, 1) := by decide +kernel
theorem dL_law_693 : decode cL_law 693 = .ok (.ireturn, 1) := by decide +kernel
theorem dL_law_694 : decode cL_law 694 = .ok (.aload_n 1, 1) := by decide +kernel
theorem dL_law_695 : decode cL_law 695 = .ok (.aload_n 0, 1) := by decide +kernel
theorem dL_law_696 : decode cL_law 696 = .ok (.iload_n 3, 1) := by decide +kernel
theorem dL_law_697 : decode cL_law 697 = .ok (.iconst 1, 1) := by decide +kernel
theorem dL_law_698 : decode cL_law 698 = .ok (.iadd, 1) := by decide +kernel
theorem dL_law_699 : decode cL_law 699 = .ok (.iaload, 1) := by decide +kernel
theorem dL_law_700 : decode cL_law 700 = .ok (.aload_n 0, 1) := by decide +kernel
theorem dL_law_701 : decode cL_law 701 = .ok (.iload_n 3, 1) := by decide +kernel
theorem dL_law_702 : decode cL_law 702 = .ok (.iconst 2, 1) := by decide +kernel
theorem dL_law_703 : decode cL_law 703 = .ok (.iadd, 1) := by decide +kernel
theorem dL_law_704 : decode cL_law 704 = .ok (.iaload, 1) := by decide +kernel
theorem dL_law_705 : decode cL_law 705 = .ok (.aload_n 0, 1) := by decide +kernel
theorem dL_law_706 : decode cL_law 706 = .ok (.iload_n 3, 1) := by decide +kernel
theorem dL_law_707 : decode cL_law 707 = .ok (.iconst 3, 1) := by decide +kernel
theorem dL_law_708 : decode cL_law 708 = .ok (.iadd, 1) := by decide +kernel
theorem dL_law_709 : decode cL_law 709 = .ok (.iaload, 1) := by decide +kernel
theorem dL_law_710 : decode cL_law 710 = .ok (.invokevirtual 97, 3) := by decide +kernel
theorem dL_law_713 : decode cL_law 713 = .ok (.aload_n 2, 1) := by decide +kernel
theorem dL_law_714 : decode cL_law 714 = .ok (.aload_n 0, 1) := by decide +kernel
theorem dL_law_715 : decode cL_law 715 = .ok (.iload_n 3, 1) := by decide +kernel
theorem dL_law_716 : decode cL_law 716 = .ok (.iconst 1, 1) := by decide +kernel
theorem dL_law_717 : decode cL_law 717 = .ok (.iadd, 1) := by decide +kernel
theorem dL_law_718 : decode cL_law 718 = .ok (.iaload, 1) := by decide +kernel
theorem dL_law_719 : decode cL_law 719 = .ok (.aload_n 0, 1) := by decide +kernel
theorem dL_law_720 : decode cL_law 720 = .ok (.iload_n 3, 1) := by decide +kernel
theorem dL_law_721 : decode cL_law 721 = .ok (.iconst 2, 1) := by decide +kernel
theorem dL_law_722 : decode cL_law 722 = .ok (.iadd, 1) := by decide +kernel
theorem dL_law_723 : decode cL_law 723 = .ok (.iaload, 1) := by decide +kernel
theorem dL_law_724 : decode cL_law 724 = .ok (.aload_n 0, 1) := by decide +kernel
theorem dL_law_725 : decode cL_law 725 = .ok (.iload_n 3, 1) := by decide +kernel
theorem dL_law_726 : decode cL_law 726 = .ok (.iconst 3, 1) := by decide +kernel
theorem dL_law_727 : decode cL_law 727 = .ok (.iadd, 1) := by decide +kernel
theorem dL_law_728 : decode cL_law 728 = .ok (.iaload, 1) := by decide +kernel
theorem dL_law_729 : decode cL_law 729 = .ok (.invokevirtual 101, 3) := by decide +kernel
theorem dL_law_732 : decode cL_law 732 = .ok (.lcmp, 1) := by decide +kernel
theorem dL_law_733 : decode cL_law 733 = .ok (.ifCond .eq 289, 3) := by decide +kernel
theorem dL_law_736 : decode cL_law 736 = .ok (.iconst 0, 1) := by decide +kernel
theorem dL_law_737 : decode cL_law 737 = .ok (.ireturn, 1) := by decide +kernel
theorem dL_law_738 : decode cL_law 738 = .ok (.aload_n 1, 1) := by decide +kernel
theorem dL_law_739 : decode cL_law 739 = .ok (.invokevirtual 102, 3) := by decide +kernel
theorem dL_law_742 : decode cL_law 742 = .ok (.aload_n 2, 1) := by decide +kernel
theorem dL_law_743 : decode cL_law 743 = .ok (.invokevirtual 105, 3) := by decide +kernel
theorem dL_law_746 : decode cL_law 746 = .ok (.if_icmp .eq 276, 3) := by decide +kernel
theorem dL_law_749 : decode cL_law 749 = .ok (.iconst 0, 1) := by decide +kernel
theorem dL_law_750 : decode cL_law 750 = .ok (.ireturn, 1) := by decide +kernel
theorem dL_law_751 : decode cL_law 751 = .ok (.aload_n 1, 1) := by decide +kernel
theorem dL_law_752 : decode cL_law 752 = .ok (.invokevirtual 106, 3) := by decide +kernel
theorem dL_law_755 : decode cL_law 755 = .ok (.aload_n 2, 1) := by decide +kernel
theorem dL_law_756 : decode cL_law 756 = .ok (.invokevirtual 109, 3) := by decide +kernel
theorem dL_law_759 : decode cL_law 759 = .ok (.if_icmp .eq 263, 3) := by decide +kernel
theorem dL_law_762 : decode cL_law 762 = .ok (.iconst 0, 1) := by decide +kernel
theorem dL_law_763 : decode cL_law 763 = .ok (.ireturn, 1) := by decide +kernel
theorem dL_law_764 : decode cL_law 764 = .ok (.aload_n 1, 1) := by decide +kernel
theorem dL_law_765 : decode cL_law 765 = .ok (.aload_n 0, 1) := by decide +kernel
theorem dL_law_766 : decode cL_law 766 = .ok (.iload_n 3, 1) := by decide +kernel
theorem dL_law_767 : decode cL_law 767 = .ok (.iconst 1, 1) := by decide +kernel
theorem dL_law_768 : decode cL_law 768 = .ok (.iadd, 1) := by decide +kernel
theorem dL_law_769 : decode cL_law 769 = .ok (.iaload, 1) := by decide +kernel
theorem dL_law_770 : decode cL_law 770 = .ok (.invokevirtual 110, 3) := by decide +kernel
theorem dL_law_773 : decode cL_law 773 = .ok (.aload_n 2, 1) := by decide +kernel
theorem dL_law_774 : decode cL_law 774 = .ok (.aload_n 0, 1) := by decide +kernel
theorem dL_law_775 : decode cL_law 775 = .ok (.iload_n 3, 1) := by decide +kernel
theorem dL_law_776 : decode cL_law 776 = .ok (.iconst 1, 1) := by decide +kernel
theorem dL_law_777 : decode cL_law 777 = .ok (.iadd, 1) := by decide +kernel
theorem dL_law_778 : decode cL_law 778 = .ok (.iaload, 1) := by decide +kernel
theorem dL_law_779 : decode cL_law 779 = .ok (.invokevirtual 113, 3) := by decide +kernel
theorem dL_law_782 : decode cL_law 782 = .ok (.if_icmp .eq 240, 3) := by decide +kernel
theorem dL_law_785 : decode cL_law 785 = .ok (.iconst 0, 1) := by decide +kernel
theorem dL_law_786 : decode cL_law 786 = .ok (.ireturn, 1) := by decide +kernel
theorem dL_law_787 : decode cL_law 787 = .ok (.aload_n 1, 1) := by decide +kernel
theorem dL_law_788 : decode cL_law 788 = .ok (.aload_n 0, 1) := by decide +kernel
theorem dL_law_789 : decode cL_law 789 = .ok (.iload_n 3, 1) := by decide +kernel
theorem dL_law_790 : decode cL_law 790 = .ok (.iconst 1, 1) := by decide +kernel
theorem dL_law_791 : decode cL_law 791 = .ok (.iadd, 1) := by decide +kernel
theorem dL_law_792 : decode cL_law 792 = .ok (.iaload, 1) := by decide +kernel
theorem dL_law_793 : decode cL_law 793 = .ok (.aload_n 0, 1) := by decide +kernel
theorem dL_law_794 : decode cL_law 794 = .ok (.iload_n 3, 1) := by decide +kernel
theorem dL_law_795 : decode cL_law 795 = .ok (.iconst 2, 1) := by decide +kernel
theorem dL_law_796 : decode cL_law 796 = .ok (.iadd, 1) := by decide +kernel
theorem dL_law_797 : decode cL_law 797 = .ok (.iaload, 1) := by decide +kernel
theorem dL_law_798 : decode cL_law 798 = .ok (.aload_n 0, 1) := by decide +kernel
theorem dL_law_799 : decode cL_law 799 = .ok (.iload_n 3, 1) := by decide +kernel
theorem dL_law_800 : decode cL_law 800 = .ok (.iconst 3, 1) := by decide +kernel
theorem dL_law_801 : decode cL_law 801 = .ok (.iadd, 1) := by decide +kernel
theorem dL_law_802 : decode cL_law 802 = .ok (.iaload, 1) := by decide +kernel
theorem dL_law_803 : decode cL_law 803 = .ok (.invokevirtual 114, 3) := by decide +kernel
theorem dL_law_806 : decode cL_law 806 = .ok (.aload_n 2, 1) := by decide +kernel
theorem dL_law_807 : decode cL_law 807 = .ok (.aload_n 0, 1) := by decide +kernel
theorem dL_law_808 : decode cL_law 808 = .ok (.iload_n 3, 1) := by decide +kernel
theorem dL_law_809 : decode cL_law 809 = .ok (.iconst 1, 1) := by decide +kernel
theorem dL_law_810 : decode cL_law 810 = .ok (.iadd, 1) := by decide +kernel
theorem dL_law_811 : decode cL_law 811 = .ok (.iaload, 1) := by decide +kernel
theorem dL_law_812 : decode cL_law 812 = .ok (.aload_n 0, 1) := by decide +kernel
theorem dL_law_813 : decode cL_law 813 = .ok (.iload_n 3, 1) := by decide +kernel
theorem dL_law_814 : decode cL_law 814 = .ok (.iconst 2, 1) := by decide +kernel
theorem dL_law_815 : decode cL_law 815 = .ok (.iadd, 1) := by decide +kernel
theorem dL_law_816 : decode cL_law 816 = .ok (.iaload, 1) := by decide +kernel
theorem dL_law_817 : decode cL_law 817 = .ok (.aload_n 0, 1) := by decide +kernel
theorem dL_law_818 : decode cL_law 818 = .ok (.iload_n 3, 1) := by decide +kernel
theorem dL_law_819 : decode cL_law 819 = .ok (.iconst 3, 1) := by decide +kernel
theorem dL_law_820 : decode cL_law 820 = .ok (.iadd, 1) := by decide +kernel
theorem dL_law_821 : decode cL_law 821 = .ok (.iaload, 1) := by decide +kernel
theorem dL_law_822 : decode cL_law 822 = .ok (.invokevirtual 117, 3) := by decide +kernel
theorem dL_law_825 : decode cL_law 825 = .ok (.if_icmp .eq 197, 3) := by decide +kernel
theorem dL_law_828 : decode cL_law 828 = .ok (.iconst 0, 1) := by decide +kernel
theorem dL_law_829 : decode cL_law 829 = .ok (.ireturn, 1) := by decide +kernel
theorem dL_law_830 : decode cL_law 830 = .ok (.aload_n 1, 1) := by decide +kernel
theorem dL_law_831 : decode cL_law 831 = .ok (.aload_n 0, 1) := by decide +kernel
theorem dL_law_832 : decode cL_law 832 = .ok (.iload_n 3, 1) := by decide +kernel
theorem dL_law_833 : decode cL_law 833 = .ok (.iconst 1, 1) := by decide +kernel
theorem dL_law_834 : decode cL_law 834 = .ok (.iadd, 1) := by decide +kernel
theorem dL_law_835 : decode cL_law 835 = .ok (.iaload, 1) := by decide +kernel
theorem dL_law_836 : decode cL_law 836 = .ok (.aload_n 0, 1) := by decide +kernel
theorem dL_law_837 : decode cL_law 837 = .ok (.iload_n 3, 1) := by decide +kernel
theorem dL_law_838 : decode cL_law 838 = .ok (.iconst 2, 1) := by decide +kernel
theorem dL_law_839 : decode cL_law 839 = .ok (.iadd, 1) := by decide +kernel
theorem dL_law_840 : decode cL_law 840 = .ok (.iaload, 1) := by decide +kernel
theorem dL_law_841 : decode cL_law 841 = .ok (.aload_n 0, 1) := by decide +kernel
theorem dL_law_842 : decode cL_law 842 = .ok (.iload_n 3, 1) := by decide +kernel
theorem dL_law_843 : decode cL_law 843 = .ok (.iconst 3, 1) := by decide +kernel
theorem dL_law_844 : decode cL_law 844 = .ok (.iadd, 1) := by decide +kernel
theorem dL_law_845 : decode cL_law 845 = .ok (.iaload, 1) := by decide +kernel
theorem dL_law_846 : decode cL_law 846 = .ok (.invokevirtual 118, 3) := by decide +kernel
theorem dL_law_849 : decode cL_law 849 = .ok (.aload_n 2, 1) := by decide +kernel
theorem dL_law_850 : decode cL_law 850 = .ok (.aload_n 0, 1) := by decide +kernel
theorem dL_law_851 : decode cL_law 851 = .ok (.iload_n 3, 1) := by decide +kernel
theorem dL_law_852 : decode cL_law 852 = .ok (.iconst 1, 1) := by decide +kernel
theorem dL_law_853 : decode cL_law 853 = .ok (.iadd, 1) := by decide +kernel
theorem dL_law_854 : decode cL_law 854 = .ok (.iaload, 1) := by decide +kernel
theorem dL_law_855 : decode cL_law 855 = .ok (.aload_n 0, 1) := by decide +kernel
theorem dL_law_856 : decode cL_law 856 = .ok (.iload_n 3, 1) := by decide +kernel
theorem dL_law_857 : decode cL_law 857 = .ok (.iconst 2, 1) := by decide +kernel
theorem dL_law_858 : decode cL_law 858 = .ok (.iadd, 1) := by decide +kernel
theorem dL_law_859 : decode cL_law 859 = .ok (.iaload, 1) := by decide +kernel
theorem dL_law_860 : decode cL_law 860 = .ok (.aload_n 0, 1) := by decide +kernel
theorem dL_law_861 : decode cL_law 861 = .ok (.iload_n 3, 1) := by decide +kernel
theorem dL_law_862 : decode cL_law 862 = .ok (.iconst 3, 1) := by decide +kernel
theorem dL_law_863 : decode cL_law 863 = .ok (.iadd, 1) := by decide +kernel
theorem dL_law_864 : decode cL_law 864 = .ok (.iaload, 1) := by decide +kernel
theorem dL_law_865 : decode cL_law 865 = .ok (.invokevirtual 121, 3) := by decide +kernel
theorem dL_law_868 : decode cL_law 868 = .ok (.if_icmp .eq 154, 3) := by decide +kernel
theorem dL_law_871 : decode cL_law 871 = .ok (.iconst 0, 1) := by decide +kernel
theorem dL_law_872 : decode cL_law 872 = .ok (.ireturn, 1) := by decide +kernel
theorem dL_law_873 : decode cL_law 873 = .ok (.aload_n 1, 1) := by decide +kernel
theorem dL_law_874 : decode cL_law 874 = .ok (.aload_n 0, 1) := by decide +kernel
theorem dL_law_875 : decode cL_law 875 = .ok (.iload_n 3, 1) := by decide +kernel
theorem dL_law_876 : decode cL_law 876 = .ok (.iconst 1, 1) := by decide +kernel
theorem dL_law_877 : decode cL_law 877 = .ok (.iadd, 1) := by decide +kernel
theorem dL_law_878 : decode cL_law 878 = .ok (.iaload, 1) := by decide +kernel
theorem dL_law_879 : decode cL_law 879 = .ok (.aload_n 0, 1) := by decide +kernel
theorem dL_law_880 : decode cL_law 880 = .ok (.iload_n 3, 1) := by decide +kernel
theorem dL_law_881 : decode cL_law 881 = .ok (.iconst 2, 1) := by decide +kernel
theorem dL_law_882 : decode cL_law 882 = .ok (.iadd, 1) := by decide +kernel
theorem dL_law_883 : decode cL_law 883 = .ok (.iaload, 1) := by decide +kernel
theorem dL_law_884 : decode cL_law 884 = .ok (.aload_n 0, 1) := by decide +kernel
theorem dL_law_885 : decode cL_law 885 = .ok (.iload_n 3, 1) := by decide +kernel
theorem dL_law_886 : decode cL_law 886 = .ok (.iconst 3, 1) := by decide +kernel
theorem dL_law_887 : decode cL_law 887 = .ok (.iadd, 1) := by decide +kernel
theorem dL_law_888 : decode cL_law 888 = .ok (.iaload, 1) := by decide +kernel
theorem dL_law_889 : decode cL_law 889 = .ok (.aload_n 0, 1) := by decide +kernel
theorem dL_law_890 : decode cL_law 890 = .ok (.iload_n 3, 1) := by decide +kernel
theorem dL_law_891 : decode cL_law 891 = .ok (.iconst 4, 1) := by decide +kernel
theorem dL_law_892 : decode cL_law 892 = .ok (.iadd, 1) := by decide +kernel
theorem dL_law_893 : decode cL_law 893 = .ok (.iaload, 1) := by decide +kernel
theorem dL_law_894 : decode cL_law 894 = .ok (.aload_n 0, 1) := by decide +kernel
theorem dL_law_895 : decode cL_law 895 = .ok (.iload_n 3, 1) := by decide +kernel
theorem dL_law_896 : decode cL_law 896 = .ok (.iconst 5, 1) := by decide +kernel
theorem dL_law_897 : decode cL_law 897 = .ok (.iadd, 1) := by decide +kernel
theorem dL_law_898 : decode cL_law 898 = .ok (.iaload, 1) := by decide +kernel
theorem dL_law_899 : decode cL_law 899 = .ok (.invokevirtual 122, 3) := by decide +kernel
theorem dL_law_902 : decode cL_law 902 = .ok (.aload_n 2, 1) := by decide +kernel
theorem dL_law_903 : decode cL_law 903 = .ok (.aload_n 0, 1) := by decide +kernel
theorem dL_law_904 : decode cL_law 904 = .ok (.iload_n 3, 1) := by decide +kernel
theorem dL_law_905 : decode cL_law 905 = .ok (.iconst 1, 1) := by decide +kernel
theorem dL_law_906 : decode cL_law 906 = .ok (.iadd, 1) := by decide +kernel
theorem dL_law_907 : decode cL_law 907 = .ok (.iaload, 1) := by decide +kernel
theorem dL_law_908 : decode cL_law 908 = .ok (.aload_n 0, 1) := by decide +kernel
theorem dL_law_909 : decode cL_law 909 = .ok (.iload_n 3, 1) := by decide +kernel
theorem dL_law_910 : decode cL_law 910 = .ok (.iconst 2, 1) := by decide +kernel
theorem dL_law_911 : decode cL_law 911 = .ok (.iadd, 1) := by decide +kernel
theorem dL_law_912 : decode cL_law 912 = .ok (.iaload, 1) := by decide +kernel
theorem dL_law_913 : decode cL_law 913 = .ok (.aload_n 0, 1) := by decide +kernel
theorem dL_law_914 : decode cL_law 914 = .ok (.iload_n 3, 1) := by decide +kernel
theorem dL_law_915 : decode cL_law 915 = .ok (.iconst 3, 1) := by decide +kernel
theorem dL_law_916 : decode cL_law 916 = .ok (.iadd, 1) := by decide +kernel
theorem dL_law_917 : decode cL_law 917 = .ok (.iaload, 1) := by decide +kernel
theorem dL_law_918 : decode cL_law 918 = .ok (.aload_n 0, 1) := by decide +kernel
theorem dL_law_919 : decode cL_law 919 = .ok (.iload_n 3, 1) := by decide +kernel
theorem dL_law_920 : decode cL_law 920 = .ok (.iconst 4, 1) := by decide +kernel
theorem dL_law_921 : decode cL_law 921 = .ok (.iadd, 1) := by decide +kernel
theorem dL_law_922 : decode cL_law 922 = .ok (.iaload, 1) := by decide +kernel
theorem dL_law_923 : decode cL_law 923 = .ok (.aload_n 0, 1) := by decide +kernel
theorem dL_law_924 : decode cL_law 924 = .ok (.iload_n 3, 1) := by decide +kernel
theorem dL_law_925 : decode cL_law 925 = .ok (.iconst 5, 1) := by decide +kernel
theorem dL_law_926 : decode cL_law 926 = .ok (.iadd, 1) := by decide +kernel
theorem dL_law_927 : decode cL_law 927 = .ok (.iaload, 1) := by decide +kernel
theorem dL_law_928 : decode cL_law 928 = .ok (.invokevirtual 126, 3) := by decide +kernel
theorem dL_law_931 : decode cL_law 931 = .ok (.if_icmp .eq 91, 3) := by decide +kernel
theorem dL_law_934 : decode cL_law 934 = .ok (.iconst 0, 1) := by decide +kernel
theorem dL_law_935 : decode cL_law 935 = .ok (.ireturn, 1) := by decide +kernel
theorem dL_law_936 : decode cL_law 936 = .ok (.aload_n 1, 1) := by decide +kernel
theorem dL_law_937 : decode cL_law 937 = .ok (.aload_n 0, 1) := by decide +kernel
theorem dL_law_938 : decode cL_law 938 = .ok (.iload_n 3, 1) := by decide +kernel
theorem dL_law_939 : decode cL_law 939 = .ok (.iconst 1, 1) := by decide +kernel
theorem dL_law_940 : decode cL_law 940 = .ok (.iadd, 1) := by decide +kernel
theorem dL_law_941 : decode cL_law 941 = .ok (.iaload, 1) := by decide +kernel
theorem dL_law_942 : decode cL_law 942 = .ok (.aload_n 0, 1) := by decide +kernel
theorem dL_law_943 : decode cL_law 943 = .ok (.iload_n 3, 1) := by decide +kernel
theorem dL_law_944 : decode cL_law 944 = .ok (.iconst 2, 1) := by decide +kernel
theorem dL_law_945 : decode cL_law 945 = .ok (.iadd, 1) := by decide +kernel
theorem dL_law_946 : decode cL_law 946 = .ok (.iaload, 1) := by decide +kernel
theorem dL_law_947 : decode cL_law 947 = .ok (.aload_n 0, 1) := by decide +kernel
theorem dL_law_948 : decode cL_law 948 = .ok (.iload_n 3, 1) := by decide +kernel
theorem dL_law_949 : decode cL_law 949 = .ok (.iconst 3, 1) := by decide +kernel
theorem dL_law_950 : decode cL_law 950 = .ok (.iadd, 1) := by decide +kernel
theorem dL_law_951 : decode cL_law 951 = .ok (.iaload, 1) := by decide +kernel
theorem dL_law_952 : decode cL_law 952 = .ok (.aload_n 0, 1) := by decide +kernel
theorem dL_law_953 : decode cL_law 953 = .ok (.iload_n 3, 1) := by decide +kernel
theorem dL_law_954 : decode cL_law 954 = .ok (.iconst 4, 1) := by decide +kernel
theorem dL_law_955 : decode cL_law 955 = .ok (.iadd, 1) := by decide +kernel
theorem dL_law_956 : decode cL_law 956 = .ok (.iaload, 1) := by decide +kernel
theorem dL_law_957 : decode cL_law 957 = .ok (.invokevirtual 127, 3) := by decide +kernel
theorem dL_law_960 : decode cL_law 960 = .ok (.aload_n 2, 1) := by decide +kernel
theorem dL_law_961 : decode cL_law 961 = .ok (.aload_n 0, 1) := by decide +kernel
theorem dL_law_962 : decode cL_law 962 = .ok (.iload_n 3, 1) := by decide +kernel
theorem dL_law_963 : decode cL_law 963 = .ok (.iconst 1, 1) := by decide +kernel
theorem dL_law_964 : decode cL_law 964 = .ok (.iadd, 1) := by decide +kernel
theorem dL_law_965 : decode cL_law 965 = .ok (.iaload, 1) := by decide +kernel
theorem dL_law_966 : decode cL_law 966 = .ok (.aload_n 0, 1) := by decide +kernel
theorem dL_law_967 : decode cL_law 967 = .ok (.iload_n 3, 1) := by decide +kernel
theorem dL_law_968 : decode cL_law 968 = .ok (.iconst 2, 1) := by decide +kernel
theorem dL_law_969 : decode cL_law 969 = .ok (.iadd, 1) := by decide +kernel
theorem dL_law_970 : decode cL_law 970 = .ok (.iaload, 1) := by decide +kernel
theorem dL_law_971 : decode cL_law 971 = .ok (.aload_n 0, 1) := by decide +kernel
theorem dL_law_972 : decode cL_law 972 = .ok (.iload_n 3, 1) := by decide +kernel
theorem dL_law_973 : decode cL_law 973 = .ok (.iconst 3, 1) := by decide +kernel
theorem dL_law_974 : decode cL_law 974 = .ok (.iadd, 1) := by decide +kernel
theorem dL_law_975 : decode cL_law 975 = .ok (.iaload, 1) := by decide +kernel
theorem dL_law_976 : decode cL_law 976 = .ok (.aload_n 0, 1) := by decide +kernel
theorem dL_law_977 : decode cL_law 977 = .ok (.iload_n 3, 1) := by decide +kernel
theorem dL_law_978 : decode cL_law 978 = .ok (.iconst 4, 1) := by decide +kernel
theorem dL_law_979 : decode cL_law 979 = .ok (.iadd, 1) := by decide +kernel
theorem dL_law_980 : decode cL_law 980 = .ok (.iaload, 1) := by decide +kernel
theorem dL_law_981 : decode cL_law 981 = .ok (.invokevirtual 131, 3) := by decide +kernel
theorem dL_law_984 : decode cL_law 984 = .ok (.if_icmp .eq 38, 3) := by decide +kernel
theorem dL_law_987 : decode cL_law 987 = .ok (.iconst 0, 1) := by decide +kernel
theorem dL_law_988 : decode cL_law 988 = .ok (.ireturn, 1) := by decide +kernel
theorem dL_law_989 : decode cL_law 989 = .ok (.aload_n 1, 1) := by decide +kernel
theorem dL_law_990 : decode cL_law 990 = .ok (.aload_n 0, 1) := by decide +kernel
theorem dL_law_991 : decode cL_law 991 = .ok (.iload_n 3, 1) := by decide +kernel
theorem dL_law_992 : decode cL_law 992 = .ok (.iconst 1, 1) := by decide +kernel
theorem dL_law_993 : decode cL_law 993 = .ok (.iadd, 1) := by decide +kernel
theorem dL_law_994 : decode cL_law 994 = .ok (.iaload, 1) := by decide +kernel
theorem dL_law_995 : decode cL_law 995 = .ok (.aload_n 0, 1) := by decide +kernel
theorem dL_law_996 : decode cL_law 996 = .ok (.iload_n 3, 1) := by decide +kernel
theorem dL_law_997 : decode cL_law 997 = .ok (.iconst 2, 1) := by decide +kernel
theorem dL_law_998 : decode cL_law 998 = .ok (.iadd, 1) := by decide +kernel
theorem dL_law_999 : decode cL_law 999 = .ok (.iaload, 1) := by decide +kernel
theorem dL_law_1000 : decode cL_law 1000 = .ok (.invokevirtual 132, 3) := by decide +kernel
theorem dL_law_1003 : decode cL_law 1003 = .ok (.aload_n 2, 1) := by decide +kernel
theorem dL_law_1004 : decode cL_law 1004 = .ok (.aload_n 0, 1) := by decide +kernel
theorem dL_law_1005 : decode cL_law 1005 = .ok (.iload_n 3, 1) := by decide +kernel
theorem dL_law_1006 : decode cL_law 1006 = .ok (.iconst 1, 1) := by decide +kernel
theorem dL_law_1007 : decode cL_law 1007 = .ok (.iadd, 1) := by decide +kernel
theorem dL_law_1008 : decode cL_law 1008 = .ok (.iaload, 1) := by decide +kernel
theorem dL_law_1009 : decode cL_law 1009 = .ok (.aload_n 0, 1) := by decide +kernel
theorem dL_law_1010 : decode cL_law 1010 = .ok (.iload_n 3, 1) := by decide +kernel
theorem dL_law_1011 : decode cL_law 1011 = .ok (.iconst 2, 1) := by decide +kernel
theorem dL_law_1012 : decode cL_law 1012 = .ok (.iadd, 1) := by decide +kernel
theorem dL_law_1013 : decode cL_law 1013 = .ok (.iaload, 1) := by decide +kernel
theorem dL_law_1014 : decode cL_law 1014 = .ok (.invokevirtual 135, 3) := by decide +kernel
theorem dL_law_1017 : decode cL_law 1017 = .ok (.if_icmp .eq 5, 3) := by decide +kernel
theorem dL_law_1020 : decode cL_law 1020 = .ok (.iconst 0, 1) := by decide +kernel
theorem dL_law_1021 : decode cL_law 1021 = .ok (.ireturn, 1) := by decide +kernel
theorem dL_law_1022 : decode cL_law 1022 = .ok (.iinc 3 6, 3) := by decide +kernel
theorem dL_law_1025 : decode cL_law 1025 = .ok (.goto (-1007), 3) := by decide +kernel
theorem dL_law_1028 : decode cL_law 1028 = .ok (.iconst 1, 1) := by decide +kernel
theorem dL_law_1029 : decode cL_law 1029 = .ok (.ireturn, 1) := by decide +kernel
end
section
/-! THE ABSTRACT MACHINE: a method's record, the parameters of a run, the abstract heap (ints, longs, references by place) -/
abbrev MD : Type := MethodName × ByteArray × Nat × Option FieldType
abbrev GP : Type := Launch × (Nat → Nat) × va_G × Heap × Value × Nat
abbrev TI : Type := Nat → Nat → Int32
abbrev TJ : Type := Nat → Nat → Int64
abbrev TR : Type := Nat → Nat → Nat
abbrev TQ : Type := Option Value → Nat → TI → TJ → TR → Prop
abbrev gL (g : GP) : Launch := g.1
abbrev gS (g : GP) : Nat → Nat := g.2.1
abbrev gD (g : GP) : va_G := g.2.2.1
abbrev gH (g : GP) : Heap := g.2.2.2.1
abbrev gO (g : GP) : Value := g.2.2.2.2.1
abbrev gN (g : GP) : Nat := g.2.2.2.2.2
abbrev gA (g : GP) : Nat → Prop := fun q => (gH g).size ≤ q
def ad (g : GP) (a : Nat) : Nat := if a < 12 then gS g a else (gH g).size + (a - 12)
def cv (g : GP) : Value → Value
  | .ref a => .ref (ad g a)
  | .retAddr _ => gO g
  | v => v
def rv (g : GP) (r : Nat) : Value := if r = 0 then .null else .ref (ad g r)
def tyT (ci : Nat) : Nat → FieldType := match ci with
  | 0 => tyX0
  | 1 => tyX1
  | 2 => tyX2
  | 3 => tyX3
  | 4 => tyX4
  | 5 => tyX5
  | 6 => tyX6
  | _ => tyX7
abbrev vwCl : List vw_C := [(RX0, TX0, 2), (RX1, TX1, 8), (RX2, TX2, 3), (RX3, TX3, 12), (RX4, TX4, 3), (RX5, TX5, 12), (RX6, TX6, 9), (RX7, TX7, 45)]
def fvl (g : GP) (I : TI) (J : TJ) (R : TR) (ty : FieldType) (a k : Nat) : Value := match ty with
  | .int => .int (I a k)
  | .boolean => .int (I a k)
  | .long => .long (J a k)
  | _ => rv g (R a k)
/-- the places, in the order in which they are made: kind (0 .. 7 an object of that class, 8 int[], 9 boolean[], 10 int[][], 11 Text[], 12 Sheet[]) and size -/
def skyL : List (Nat × Nat) := [(3, 12), (8, 8), (10, 6), (8, 7), (8, 7), (8, 7), (8, 7), (8, 7), (8, 7), (10, 7), (8, 200), (8, 200), (8, 200), (8, 200), (8, 200), (8, 200), (8, 200)]
def layL : List (Nat × Nat) := List.replicate 12 (99, 0) ++ ((6, 9) :: (skyL ++ skyL ++ skyL ++ [(1, 8), (8, 160), (4, 3), (8, 160), (8, 3), (11, 6), (12, 4)] ++ (List.replicate 6 [(4, 3), (8, 160), (8, 3)]).flatten ++ (List.replicate 4 [(2, 3), (8, 40)]).flatten ++ [(5, 12), (8, 6), (8, 160), (8, 7), (8, 7)] ++ [(7, 45), (8, 960), (8, 6), (8, 160), (8, 8), (8, 7), (8, 35), (8, 7), (8, 7), (8, 4), (8, 8), (8, 35), (9, 4), (8, 4), (8, 4), (8, 160)]))
def LAY (a : Nat) : Nat × Nat := layL.getD a (0, 2)
def CellK (g : GP) (U : State) (H : Heap) (I : TI) (J : TJ) (R : TR) (a kd len : Nat) : Prop :=
  if kd = 8 then ∃ cA, H[ad g a]? = some (arrV cA len (fun j => .int (I a j))) ∧ ArrOfT U cA .int
  else if kd = 9 then ∃ cA, H[ad g a]? = some (arrV cA len (fun j => .int (I a j))) ∧ ArrOfT U cA .boolean
  else if kd = 10 then ∃ cA, H[ad g a]? = some (arrV cA len (fun j => rv g (R a j))) ∧ ArrOfT U cA (.array .int)
  else if kd = 11 then ∃ cA, H[ad g a]? = some (arrV cA len (fun j => rv g (R a j))) ∧ ArrOfT U cA (.object RX4) ∧ va_RA U cA (.object RX4)
  else if kd = 12 then ∃ cA, H[ad g a]? = some (arrV cA len (fun j => rv g (R a j))) ∧ ArrOfT U cA (.object RX2) ∧ va_RA U cA (.object RX2)
  else kd < 8 ∧ t_OB (ad g a) ((gD g).1 kd) len ((gD g).2 kd) H (fun k => fvl g I J R (tyT kd k) a k)
/-- the static arrays: kind and size -/
def SL (g : GP) (a : Nat) : Option (FieldType × Nat) := match a with
  | 1 => some (.int, gN g)
  | 2 => some (.int, 13)
  | 3 => some (.int, 6)
  | 4 => some (.int, 3)
  | 5 => some (.int, 3)
  | 9 => some (.byte, 31)
  | 10 => some (.byte, 64)
  | 11 => some (.byte, 8)
  | _ => none
def WR (g : GP) (U : State) (H : Heap) (n : Nat) (I : TI) (J : TJ) (R : TR) : Prop :=
  H.size = (gH g).size + n ∧ (∀ q : Nat, q < (gH g).size → H[q]? = (gH g)[q]?) ∧ (∀ a : Nat, 12 ≤ a → a < 12 + n → CellK g U H I J R a (LAY a).1 (LAY a).2) ∧
  ∀ (a : Nat) (q : FieldType × Nat), SL g a = some q → va_T q.1 (gS g a) q.2 (fun j => .int (I a j)) (gA g) U (gH g)
def GW : List Cond := lw_tbl.filter goodWord
/-- the words of private members of nest mates -/
def nestW : List Cond := [.methodLinkNest RX6 9 yX3_init RX6, .methodLinkNest RX6 28 yX1_init RX6, .methodLinkNest RX1 21 yX4_init RX6, .methodLinkNest RX6 49 yX4_init RX6, .methodLinkNest RX6 50 yX2_init RX6, .methodLinkNest RX5 50 yX4_init RX6, .methodLinkNest RX4 22 yX6_isBelow RX6, .methodLinkNest RX3 57 yX6_isBelow RX6, .methodLinkNest RX5 62 yX6_isBelow RX6, .methodLinkNest RX2 28 yX6_isBelow RX6, .methodLinkNest RX6 147 yX0_init RX6, .fieldLinkNest RX3 61 RX6 "MOST" "[I" RX6]
/-- the statics that are read -/
def zsL (g : GP) : List (String × String × String × Value) := [(RX6, "MOST", "[I", .ref (gS g 2)), (RX6, "KIND_ABOVE", "[I", .ref (gS g 3)), (RX4, "LEAST_VALUE", "[I", .ref (gS g 4)), (RX4, "MOST_VALUE", "[I", .ref (gS g 5)), ("java/lang/String", "COMPACT_STRINGS", "Z", .int 1), ("jdk/internal/util/Preconditions", "SIOOBE_FORMATTER", "Ljava/util/function/BiFunction;", gO g)]
def strK : List (String × Nat × String) := [(RX6, 60, "turns far ; finds 5 ; waits 0 ;"), (RX1, 113, " tick far moon number height order turns finds waits or and not "), (RX1, 105, "();+-*<=")]
def VOK (g : GP) (U : State) : Prop :=
  va_K (gD g) vwCl [] U ∧ (∀ q ∈ zsL g, va_Z q.1 q.2.1 q.2.2.1 q.2.2.2 (gA g) U (gH g)) ∧
  (∀ i : Nat, i < 3 → va_O "java/lang/String" (gS g (6 + i)) (gA g) U (gH g) ∧ va_OF "java/lang/String" "coder" "B" (.int 0) (gS g (6 + i)) (gA g) U (gH g) ∧ va_OF "java/lang/String" "value" "[B" (.ref (gS g (9 + i))) (gS g (6 + i)) (gA g) U (gH g)) ∧
  (∀ (i : Nat) (q : String × Nat × String), strK[i]? = some q → vk_R q.1 q.2.1 q.2.2 (gS g (6 + i)) U) ∧
  (∀ w ∈ nestW, va_Nw w U) ∧ (gO g = .null ∨ ∃ t, gO g = .ref t) ∧ va_AO RX4 U ∧ va_AO RX2 U
def LO (g : GP) (ls : Array Slot) (nL : Nat) (L : List Value) : Prop := ls.size = nL ∧ lv_wf ls ∧ L.length = nL ∧ ∀ (i : Nat) (v : Value), L[i]? = some v → v ≠ .null → ls[i]? = some (.val (cv g v))
def PQ (g : GP) (Q : TQ) : Array Value → State → Outcome → State → Prop := fun _ _ o t => ∃ (r : Option Value) (n : Nat) (I : TI) (J : TJ) (R : TR), o = .returned (r.map (cv g)) ∧ Q r n I J R ∧ WR g t t.heap n I J R
def Cx (g : GP) (d : Nat) (M : MD) (p : Program) (Rm : Room) (s : State) (m : MethodId) (args : Array Value) (meth : Method) (c : Code) : Prop :=
  p.tables.exec = Jvm.exec ∧ c.code = M.2.1 ∧ c.maxLocals = M.2.2.1 ∧ meth.sig.returnType = M.2.2.2 ∧ s.vm.findClass M.1.cls = some m.cls ∧ (∀ w ∈ GW, w.before args s = true) ∧ VOK g s ∧ meth.locks = false ∧ meth.name = M.1.name ∧ d ≤ Rm.frames ∧ 64 * d ≤ Rm.locals
def Wp (g : GP) (d : Nat) (M : MD) (pc : Nat) (L st : List Value) (bc bs n : Nat) (I : TI) (J : TJ) (R : TR) (Q : TQ) : Prop :=
  ∀ (p : Program) (e : Env) (Rm : Room) (s : State) (m : MethodId) (args : Array Value) (below : List Frame) (meth : Method) (c : Code) (H : Heap) (locs : List Loc) (cells slots : Nat) (ls : Array Slot),
    Cx g d M p Rm s m args meth c → WR g s H n I J R → LO g ls M.2.2.1 L → (∀ q ∈ locs, gA g q.base) → cells + bc ≤ Rm.cells → slots + bs ≤ Rm.slots →
    W p (gL g) e Rm s m args below meth c H locs cells slots (MQ below (PQ g Q) args s Rm.cells Rm.slots (gA g)) (F0 m pc ls (st.map (cv g)))
theorem cv_cat {g : GP} (h : gO g = .null ∨ ∃ t, gO g = .ref t) (v : Value) : (cv g v).category = v.category := by
  cases v <;> simp only [cv, Value.category]
  rcases h with h | ⟨t, h⟩ <;> rw [h]
theorem cv_sum {g : GP} (h : gO g = .null ∨ ∃ t, gO g = .ref t) (st : List Value) : ((st.map (cv g)).map fun v => v.category).sum = (st.map fun v => v.category).sum := by
  induction st with
  | nil => rfl
  | cons v st ih => simp only [List.map_cons, List.sum_cons, cv_cat h, ih]
def lvL (g : GP) (L : List Value) : List (Nat × Value) := L.zipIdx.filterMap fun q => if q.1 = .null then none else some (q.2, cv g q.1)
theorem lvL_mem {g : GP} {L : List Value} {i : Nat} {v : Value} (h : L[i]? = some v) (hn : v ≠ .null) : (i, cv g v) ∈ lvL g L :=
  List.mem_filterMap.mpr ⟨(v, i), List.mk_mem_zipIdx_iff_getElem?.mpr h, by rw [if_neg hn]⟩
theorem lvL_of {g : GP} {L : List Value} {q : Nat × Value} (h : q ∈ lvL g L) : ∃ v, L[q.1]? = some v ∧ v ≠ .null ∧ q.2 = cv g v := by
  obtain ⟨⟨v, i⟩, h1, h2⟩ := List.mem_filterMap.mp h
  by_cases hn : v = .null
  · rw [if_pos hn] at h2; cases h2
  · rw [if_neg hn] at h2
    cases h2
    exact ⟨v, List.mk_mem_zipIdx_iff_getElem?.mp h1, hn, rfl⟩
theorem LO.has {g : GP} {ls : Array Slot} {nL : Nat} {L : List Value} (h : LO g ls nL L) : lv_has ls nL (lvL g L) := ⟨h.1, h.2.1, fun q hq => by
  obtain ⟨v, h1, h2, h3⟩ := lvL_of hq
  rw [h3]
  exact h.2.2.2 _ v h1 h2⟩
theorem LO.at {g : GP} {ls : Array Slot} {nL : Nat} {L : List Value} (h : LO g ls nL L) {i : Nat} {v : Value} (hi : L[i]? = some v) (hn : v ≠ .null) : ls[i]? = some (.val (cv g v)) := h.2.2.2 i v hi hn
def okSt (L : List Value) : Nat → Bool
  | 0 => true
  | j + 1 => match L[j]? with
    | some v => v.category == 1
    | none => true
theorem LO.of1 {g : GP} (hO : gO g = .null ∨ ∃ t, gO g = .ref t) {ls : Array Slot} {nL i : Nat} {L : List Value} {v : Value} (hl : L.length = nL) (hp : okSt L i = true) (h : lv_has ls nL ((i, cv g v) :: (lvL g L).filter (fun q => !(q.1 == i) && !(q.1 + 1 == i && q.2.category == 2)))) : LO g ls nL (L.set i v) := by
  refine ⟨h.1, h.2.1, by simp [hl], fun j w hj hw => ?_⟩
  by_cases e : j = i
  · subst e
    have hlt : j < L.length := by
      have := (List.getElem?_eq_some_iff.mp hj).1
      simpa using this
    rw [List.getElem?_set_self hlt] at hj
    cases hj
    exact h.2.2 (j, cv g v) List.mem_cons_self
  · rw [List.getElem?_set_ne (Ne.symm e)] at hj
    refine h.2.2 (j, cv g w) (List.mem_cons_of_mem _ (List.mem_filter.mpr ⟨lvL_mem hj hw, ?_⟩))
    have h2 : ¬ (j + 1 = i ∧ (cv g w).category = 2) := by
      rintro ⟨e1, e2⟩
      subst e1
      simp only [okSt, hj] at hp
      rw [cv_cat hO] at e2
      rw [e2] at hp
      exact absurd hp (by decide)
    simp only [Bool.and_eq_true, Bool.not_eq_true', beq_eq_false_iff_ne, ne_eq, Bool.and_eq_false_iff]
    refine ⟨e, ?_⟩
    by_cases c1 : j + 1 = i
    · exact Or.inr (fun z => h2 ⟨c1, z⟩)
    · exact Or.inl c1
theorem LO.of2 {g : GP} (hO : gO g = .null ∨ ∃ t, gO g = .ref t) {ls : Array Slot} {nL i : Nat} {L : List Value} {v : Value} (hl : L.length = nL) (hp : okSt L i = true) (h : lv_has ls nL ((i, cv g v) :: (lvL g L).filter (fun q => !(q.1 == i) && (!(q.1 == i + 1) && !(q.1 + 1 == i && q.2.category == 2))))) : LO g ls nL ((L.set i v).set (i + 1) .null) := by
  refine ⟨h.1, h.2.1, by simp [hl], fun j w hj hw => ?_⟩
  by_cases e1 : j = i + 1
  · subst e1
    have hlt : i + 1 < (L.set i v).length := by
      have := (List.getElem?_eq_some_iff.mp hj).1
      simpa using this
    rw [List.getElem?_set_self hlt] at hj
    cases hj
    exact absurd rfl hw
  · rw [List.getElem?_set_ne (Ne.symm e1)] at hj
    by_cases e : j = i
    · subst e
      have hlt : j < L.length := by
        have := (List.getElem?_eq_some_iff.mp hj).1
        simpa using this
      rw [List.getElem?_set_self hlt] at hj
      cases hj
      exact h.2.2 (j, cv g v) List.mem_cons_self
    · rw [List.getElem?_set_ne (Ne.symm e)] at hj
      refine h.2.2 (j, cv g w) (List.mem_cons_of_mem _ (List.mem_filter.mpr ⟨lvL_mem hj hw, ?_⟩))
      have h2 : ¬ (j + 1 = i ∧ (cv g w).category = 2) := by
        rintro ⟨e1, e2⟩
        subst e1
        simp only [okSt, hj] at hp
        rw [cv_cat hO] at e2
        rw [e2] at hp
        exact absurd hp (by decide)
      simp only [Bool.and_eq_true, Bool.not_eq_true', beq_eq_false_iff_ne, ne_eq, Bool.and_eq_false_iff]
      refine ⟨e, e1, ?_⟩
      by_cases c1 : j + 1 = i
      · exact Or.inr (fun z => h2 ⟨c1, z⟩)
      · exact Or.inl c1
end
section
section XR
variable {g : GP} {d : Nat} {M : MD} {pc : Nat} {L st : List Value} {bc bs n : Nat} {I : TI} {J : TJ} {R : TR} {Q : TQ}
theorem r_iadd {x y : Int32} (hd : decode M.2.1 pc = .ok (.iadd, 1))  (K : Wp g d M (pc + 1) L (.int (x + y) :: st) bc bs n I J R Q) : Wp g d M pc L (.int y :: .int x :: st) bc bs n I J R Q := fun p e Rm s m args below meth c H locs cells slots ls C hW hL hlc hc hs => lv_iadd C.1 C.2.1 hd  (K p e Rm s m args below meth c H locs cells slots ls C hW hL hlc hc hs)
theorem r_isub {x y : Int32} (hd : decode M.2.1 pc = .ok (.isub, 1))  (K : Wp g d M (pc + 1) L (.int (x - y) :: st) bc bs n I J R Q) : Wp g d M pc L (.int y :: .int x :: st) bc bs n I J R Q := fun p e Rm s m args below meth c H locs cells slots ls C hW hL hlc hc hs => lv_isub C.1 C.2.1 hd  (K p e Rm s m args below meth c H locs cells slots ls C hW hL hlc hc hs)
theorem r_imul {x y : Int32} (hd : decode M.2.1 pc = .ok (.imul, 1))  (K : Wp g d M (pc + 1) L (.int (x * y) :: st) bc bs n I J R Q) : Wp g d M pc L (.int y :: .int x :: st) bc bs n I J R Q := fun p e Rm s m args below meth c H locs cells slots ls C hW hL hlc hc hs => lv_imul C.1 C.2.1 hd  (K p e Rm s m args below meth c H locs cells slots ls C hW hL hlc hc hs)
theorem r_iand {x y : Int32} (hd : decode M.2.1 pc = .ok (.iand, 1))  (K : Wp g d M (pc + 1) L (.int (x &&& y) :: st) bc bs n I J R Q) : Wp g d M pc L (.int y :: .int x :: st) bc bs n I J R Q := fun p e Rm s m args below meth c H locs cells slots ls C hW hL hlc hc hs => lv_iand C.1 C.2.1 hd  (K p e Rm s m args below meth c H locs cells slots ls C hW hL hlc hc hs)
theorem r_ior {x y : Int32} (hd : decode M.2.1 pc = .ok (.ior, 1))  (K : Wp g d M (pc + 1) L (.int (x ||| y) :: st) bc bs n I J R Q) : Wp g d M pc L (.int y :: .int x :: st) bc bs n I J R Q := fun p e Rm s m args below meth c H locs cells slots ls C hW hL hlc hc hs => lv_ior C.1 C.2.1 hd  (K p e Rm s m args below meth c H locs cells slots ls C hW hL hlc hc hs)
theorem r_ixor {x y : Int32} (hd : decode M.2.1 pc = .ok (.ixor, 1))  (K : Wp g d M (pc + 1) L (.int (x ^^^ y) :: st) bc bs n I J R Q) : Wp g d M pc L (.int y :: .int x :: st) bc bs n I J R Q := fun p e Rm s m args below meth c H locs cells slots ls C hW hL hlc hc hs => lv_ixor C.1 C.2.1 hd  (K p e Rm s m args below meth c H locs cells slots ls C hW hL hlc hc hs)
theorem r_ishl {x y : Int32} (hd : decode M.2.1 pc = .ok (.ishl, 1))  (K : Wp g d M (pc + 1) L (.int (x <<< (y &&& 31)) :: st) bc bs n I J R Q) : Wp g d M pc L (.int y :: .int x :: st) bc bs n I J R Q := fun p e Rm s m args below meth c H locs cells slots ls C hW hL hlc hc hs => lv_ishl C.1 C.2.1 hd  (K p e Rm s m args below meth c H locs cells slots ls C hW hL hlc hc hs)
theorem r_ishr {x y : Int32} (hd : decode M.2.1 pc = .ok (.ishr, 1))  (K : Wp g d M (pc + 1) L (.int (x >>> (y &&& 31)) :: st) bc bs n I J R Q) : Wp g d M pc L (.int y :: .int x :: st) bc bs n I J R Q := fun p e Rm s m args below meth c H locs cells slots ls C hW hL hlc hc hs => lv_ishr C.1 C.2.1 hd  (K p e Rm s m args below meth c H locs cells slots ls C hW hL hlc hc hs)
theorem r_ineg {x : Int32} (hd : decode M.2.1 pc = .ok (.ineg, 1))  (K : Wp g d M (pc + 1) L (.int (-x) :: st) bc bs n I J R Q) : Wp g d M pc L (.int x :: st) bc bs n I J R Q := fun p e Rm s m args below meth c H locs cells slots ls C hW hL hlc hc hs => lv_ineg C.1 C.2.1 hd  (K p e Rm s m args below meth c H locs cells slots ls C hW hL hlc hc hs)
theorem r_idiv {x y : Int32} (hd : decode M.2.1 pc = .ok (.idiv, 1)) (hne : ¬ y = 0) (K : Wp g d M (pc + 1) L (.int (x / y) :: st) bc bs n I J R Q) : Wp g d M pc L (.int y :: .int x :: st) bc bs n I J R Q := fun p e Rm s m args below meth c H locs cells slots ls C hW hL hlc hc hs => lv_idiv C.1 C.2.1 hd hne (K p e Rm s m args below meth c H locs cells slots ls C hW hL hlc hc hs)
theorem r_irem {x y : Int32} (hd : decode M.2.1 pc = .ok (.irem, 1)) (hne : ¬ y = 0) (K : Wp g d M (pc + 1) L (.int (x - x / y * y) :: st) bc bs n I J R Q) : Wp g d M pc L (.int y :: .int x :: st) bc bs n I J R Q := fun p e Rm s m args below meth c H locs cells slots ls C hW hL hlc hc hs => lv_irem C.1 C.2.1 hd hne (K p e Rm s m args below meth c H locs cells slots ls C hW hL hlc hc hs)
theorem r_iushr {x y : Int32} (hd : decode M.2.1 pc = .ok (.iushr, 1))  (K : Wp g d M (pc + 1) L (.int (x.toUInt32 >>> (y.toUInt32 &&& Int32.toUInt32 31)).toInt32 :: st) bc bs n I J R Q) : Wp g d M pc L (.int y :: .int x :: st) bc bs n I J R Q := fun p e Rm s m args below meth c H locs cells slots ls C hW hL hlc hc hs => lv_iushr C.1 C.2.1 hd rfl (K p e Rm s m args below meth c H locs cells slots ls C hW hL hlc hc hs)
theorem r_ladd {x y : Int64} (hd : decode M.2.1 pc = .ok (.ladd, 1))  (K : Wp g d M (pc + 1) L (.long (x + y) :: st) bc bs n I J R Q) : Wp g d M pc L (.long y :: .long x :: st) bc bs n I J R Q := fun p e Rm s m args below meth c H locs cells slots ls C hW hL hlc hc hs => lv_ladd C.1 C.2.1 hd  (K p e Rm s m args below meth c H locs cells slots ls C hW hL hlc hc hs)
theorem r_lsub {x y : Int64} (hd : decode M.2.1 pc = .ok (.lsub, 1))  (K : Wp g d M (pc + 1) L (.long (x - y) :: st) bc bs n I J R Q) : Wp g d M pc L (.long y :: .long x :: st) bc bs n I J R Q := fun p e Rm s m args below meth c H locs cells slots ls C hW hL hlc hc hs => lv_lsub C.1 C.2.1 hd  (K p e Rm s m args below meth c H locs cells slots ls C hW hL hlc hc hs)
theorem r_lmul {x y : Int64} (hd : decode M.2.1 pc = .ok (.lmul, 1))  (K : Wp g d M (pc + 1) L (.long (x * y) :: st) bc bs n I J R Q) : Wp g d M pc L (.long y :: .long x :: st) bc bs n I J R Q := fun p e Rm s m args below meth c H locs cells slots ls C hW hL hlc hc hs => lv_lmul C.1 C.2.1 hd  (K p e Rm s m args below meth c H locs cells slots ls C hW hL hlc hc hs)
theorem r_ldiv {x y : Int64} (hd : decode M.2.1 pc = .ok (.ldiv, 1)) (hne : ¬ y = 0) (K : Wp g d M (pc + 1) L (.long (x / y) :: st) bc bs n I J R Q) : Wp g d M pc L (.long y :: .long x :: st) bc bs n I J R Q := fun p e Rm s m args below meth c H locs cells slots ls C hW hL hlc hc hs => lv_ldiv C.1 C.2.1 hd hne (K p e Rm s m args below meth c H locs cells slots ls C hW hL hlc hc hs)
theorem r_lrem {x y : Int64} (hd : decode M.2.1 pc = .ok (.lrem, 1)) (hne : ¬ y = 0) (K : Wp g d M (pc + 1) L (.long (x - x / y * y) :: st) bc bs n I J R Q) : Wp g d M pc L (.long y :: .long x :: st) bc bs n I J R Q := fun p e Rm s m args below meth c H locs cells slots ls C hW hL hlc hc hs => lv_lrem C.1 C.2.1 hd hne (K p e Rm s m args below meth c H locs cells slots ls C hW hL hlc hc hs)
theorem r_lcmp {x y : Int64} (hd : decode M.2.1 pc = .ok (.lcmp, 1))  (K : Wp g d M (pc + 1) L (.int (lg_cmp x y) :: st) bc bs n I J R Q) : Wp g d M pc L (.long y :: .long x :: st) bc bs n I J R Q := fun p e Rm s m args below meth c H locs cells slots ls C hW hL hlc hc hs => W.lcmp C.1 C.2.1 hd  (K p e Rm s m args below meth c H locs cells slots ls C hW hL hlc hc hs)
theorem r_i2l {x : Int32} (hd : decode M.2.1 pc = .ok (.i2l, 1))  (K : Wp g d M (pc + 1) L (.long x.toInt64 :: st) bc bs n I J R Q) : Wp g d M pc L (.int x :: st) bc bs n I J R Q := fun p e Rm s m args below meth c H locs cells slots ls C hW hL hlc hc hs => lv_i2l C.1 C.2.1 hd rfl (K p e Rm s m args below meth c H locs cells slots ls C hW hL hlc hc hs)
theorem r_l2i {x : Int64} (hd : decode M.2.1 pc = .ok (.l2i, 1))  (K : Wp g d M (pc + 1) L (.int x.toInt32 :: st) bc bs n I J R Q) : Wp g d M pc L (.long x :: st) bc bs n I J R Q := fun p e Rm s m args below meth c H locs cells slots ls C hW hL hlc hc hs => lv_l2i C.1 C.2.1 hd rfl (K p e Rm s m args below meth c H locs cells slots ls C hW hL hlc hc hs)
theorem r_i2b {x : Int32} (hd : decode M.2.1 pc = .ok (.i2b, 1))  (K : Wp g d M (pc + 1) L (.int x.toInt8.toInt32 :: st) bc bs n I J R Q) : Wp g d M pc L (.int x :: st) bc bs n I J R Q := fun p e Rm s m args below meth c H locs cells slots ls C hW hL hlc hc hs => lv_i2b C.1 C.2.1 hd rfl (K p e Rm s m args below meth c H locs cells slots ls C hW hL hlc hc hs)
theorem r_i2s {x : Int32} (hd : decode M.2.1 pc = .ok (.i2s, 1))  (K : Wp g d M (pc + 1) L (.int x.toInt16.toInt32 :: st) bc bs n I J R Q) : Wp g d M pc L (.int x :: st) bc bs n I J R Q := fun p e Rm s m args below meth c H locs cells slots ls C hW hL hlc hc hs => lv_i2s C.1 C.2.1 hd rfl (K p e Rm s m args below meth c H locs cells slots ls C hW hL hlc hc hs)
theorem r_i2c {x : Int32} (hd : decode M.2.1 pc = .ok (.i2c, 1))  (K : Wp g d M (pc + 1) L (.int (x.toUInt32 % 65536).toInt32 :: st) bc bs n I J R Q) : Wp g d M pc L (.int x :: st) bc bs n I J R Q := fun p e Rm s m args below meth c H locs cells slots ls C hW hL hlc hc hs => lv_i2c C.1 C.2.1 hd rfl (K p e Rm s m args below meth c H locs cells slots ls C hW hL hlc hc hs)
theorem r_iconst {k : Int} {v : Int32} (hd : decode M.2.1 pc = .ok (.iconst k, 1)) (hv : Int32.ofInt k = v) (K : Wp g d M (pc + 1) L (.int v :: st) bc bs n I J R Q) : Wp g d M pc L st bc bs n I J R Q := fun p e Rm s m args below meth c H locs cells slots ls C hW hL hlc hc hs => lv_iconst C.1 C.2.1 hd hv (K p e Rm s m args below meth c H locs cells slots ls C hW hL hlc hc hs)
theorem r_bipush {k : Int} {v : Int32} (hd : decode M.2.1 pc = .ok (.bipush k, 2)) (hv : (Int8.ofInt k).toInt32 = v) (K : Wp g d M (pc + 2) L (.int v :: st) bc bs n I J R Q) : Wp g d M pc L st bc bs n I J R Q := fun p e Rm s m args below meth c H locs cells slots ls C hW hL hlc hc hs => lv_bipush C.1 C.2.1 hd hv (K p e Rm s m args below meth c H locs cells slots ls C hW hL hlc hc hs)
theorem r_sipush {k : Int} {v : Int32} (hd : decode M.2.1 pc = .ok (.sipush k, 3)) (hv : (Int16.ofInt k).toInt32 = v) (K : Wp g d M (pc + 3) L (.int v :: st) bc bs n I J R Q) : Wp g d M pc L st bc bs n I J R Q := fun p e Rm s m args below meth c H locs cells slots ls C hW hL hlc hc hs => lv_sipush C.1 C.2.1 hd hv (K p e Rm s m args below meth c H locs cells slots ls C hW hL hlc hc hs)
theorem r_lconst {k : Fin 2} {v : Int64} (hd : decode M.2.1 pc = .ok (.lconst k, 1)) (hv : Int64.ofNat (k : Nat) = v) (K : Wp g d M (pc + 1) L (.long v :: st) bc bs n I J R Q) : Wp g d M pc L st bc bs n I J R Q := fun p e Rm s m args below meth c H locs cells slots ls C hW hL hlc hc hs => lv_lconst C.1 C.2.1 hd hv (K p e Rm s m args below meth c H locs cells slots ls C hW hL hlc hc hs)
theorem GWb {g : GP} {d : Nat} {M : MD} {p : Program} {Rm : Room} {s : State} {m : MethodId} {args : Array Value} {meth : Method} {c : Code} (C : Cx g d M p Rm s m args meth c) {w : Cond} (h : w ∈ GW) : w.before args s = true := C.2.2.2.2.2.1 w h
theorem r_ldcI {idx : Nat} {v : Int32} (hd : decode M.2.1 pc = .ok (.ldc idx, 2)) (hw : Cond.constant M.1.cls idx v ∈ GW) (K : Wp g d M (pc + 2) L (.int v :: st) bc bs n I J R Q) : Wp g d M pc L st bc bs n I J R Q := fun p e Rm s m args below meth c H locs cells slots ls C hW hL hlc hc hs => lv_ldc C.1 C.2.1 C.2.2.2.2.1 (GWb C hw) hd (K p e Rm s m args below meth c H locs cells slots ls C hW hL hlc hc hs)
theorem r_ldcwI {idx : Nat} {v : Int32} (hd : decode M.2.1 pc = .ok (.ldc_w idx, 3)) (hw : Cond.constant M.1.cls idx v ∈ GW) (K : Wp g d M (pc + 3) L (.int v :: st) bc bs n I J R Q) : Wp g d M pc L st bc bs n I J R Q := fun p e Rm s m args below meth c H locs cells slots ls C hW hL hlc hc hs => lv_ldcw C.1 C.2.1 C.2.2.2.2.1 (GWb C hw) hd (K p e Rm s m args below meth c H locs cells slots ls C hW hL hlc hc hs)
theorem r_ldc2 {idx : Nat} {v : Int64} (hd : decode M.2.1 pc = .ok (.ldc2_w idx, 3)) (hw : Cond.constantLong M.1.cls idx v ∈ GW) (K : Wp g d M (pc + 3) L (.long v :: st) bc bs n I J R Q) : Wp g d M pc L st bc bs n I J R Q := fun p e Rm s m args below meth c H locs cells slots ls C hW hL hlc hc hs => lv_ldc2 C.1 C.2.1 C.2.2.2.2.1 (GWb C hw) hd (K p e Rm s m args below meth c H locs cells slots ls C hW hL hlc hc hs)
theorem r_ldcS {idx i : Nat} {tx : String} (hd : decode M.2.1 pc = .ok (.ldc idx, 2)) (hi : strK[i]? = some (M.1.cls, idx, tx)) (h6 : 6 + i < 12) (K : Wp g d M (pc + 2) L (.ref (6 + i) :: st) bc bs n I J R Q) : Wp g d M pc L st bc bs n I J R Q := fun p e Rm s m args below meth c H locs cells slots ls C hW hL hlc hc hs => va_ldcS C.1 C.2.1 C.2.2.2.2.1 (C.2.2.2.2.2.2.1.2.2.2.1 i _ hi) hd (by have h := (K p e Rm s m args below meth c H locs cells slots ls C hW hL hlc hc hs); simp only [List.map_cons, cv, ad, if_pos h6] at h; exact h)
theorem r_iload_n {k : Fin 4} {x : Int32} (hd : decode M.2.1 pc = .ok (.iload_n k, 1)) (hl : L[(k : Nat)]? = some (.int x)) (K : Wp g d M (pc + 1) L (.int x :: st) bc bs n I J R Q) : Wp g d M pc L st bc bs n I J R Q := fun p e Rm s m args below meth c H locs cells slots ls C hW hL hlc hc hs => lv_iload_n C.1 C.2.1 hd rfl (hL.at hl (fun h => by cases h)) (K p e Rm s m args below meth c H locs cells slots ls C hW hL hlc hc hs)
theorem r_iload {k : Nat} {x : Int32} (hd : decode M.2.1 pc = .ok (.iload k, 2)) (hl : L[k]? = some (.int x)) (K : Wp g d M (pc + 2) L (.int x :: st) bc bs n I J R Q) : Wp g d M pc L st bc bs n I J R Q := fun p e Rm s m args below meth c H locs cells slots ls C hW hL hlc hc hs => lv_iload C.1 C.2.1 hd (hL.at hl (fun h => by cases h)) (K p e Rm s m args below meth c H locs cells slots ls C hW hL hlc hc hs)
theorem r_lload_n {k : Fin 4} {x : Int64} (hd : decode M.2.1 pc = .ok (.lload_n k, 1)) (hl : L[(k : Nat)]? = some (.long x)) (K : Wp g d M (pc + 1) L (.long x :: st) bc bs n I J R Q) : Wp g d M pc L st bc bs n I J R Q := fun p e Rm s m args below meth c H locs cells slots ls C hW hL hlc hc hs => lv_lload_n C.1 C.2.1 hd rfl (hL.at hl (fun h => by cases h)) (K p e Rm s m args below meth c H locs cells slots ls C hW hL hlc hc hs)
theorem r_lload {k : Nat} {x : Int64} (hd : decode M.2.1 pc = .ok (.lload k, 2)) (hl : L[k]? = some (.long x)) (K : Wp g d M (pc + 2) L (.long x :: st) bc bs n I J R Q) : Wp g d M pc L st bc bs n I J R Q := fun p e Rm s m args below meth c H locs cells slots ls C hW hL hlc hc hs => lv_lload C.1 C.2.1 hd (hL.at hl (fun h => by cases h)) (K p e Rm s m args below meth c H locs cells slots ls C hW hL hlc hc hs)
theorem r_aload_n {k : Fin 4} {x : Nat} (hd : decode M.2.1 pc = .ok (.aload_n k, 1)) (hl : L[(k : Nat)]? = some (.ref x)) (K : Wp g d M (pc + 1) L (.ref x :: st) bc bs n I J R Q) : Wp g d M pc L st bc bs n I J R Q := fun p e Rm s m args below meth c H locs cells slots ls C hW hL hlc hc hs => lv_aload_n C.1 C.2.1 hd rfl (hL.at hl (fun h => by cases h)) (K p e Rm s m args below meth c H locs cells slots ls C hW hL hlc hc hs)
theorem r_aload {k : Nat} {x : Nat} (hd : decode M.2.1 pc = .ok (.aload k, 2)) (hl : L[k]? = some (.ref x)) (K : Wp g d M (pc + 2) L (.ref x :: st) bc bs n I J R Q) : Wp g d M pc L st bc bs n I J R Q := fun p e Rm s m args below meth c H locs cells slots ls C hW hL hlc hc hs => lv_aload C.1 C.2.1 hd (hL.at hl (fun h => by cases h)) (K p e Rm s m args below meth c H locs cells slots ls C hW hL hlc hc hs)
theorem r_istore_n {k : Fin 4} {x : Int32} (hd : decode M.2.1 pc = .ok (.istore_n k, 1)) (hn : (k : Nat) < M.2.2.1) (hp : okSt L (k : Nat) = true) (K : Wp g d M (pc + 1) (L.set (k : Nat) (.int x)) st bc bs n I J R Q) : Wp g d M pc L (.int x :: st) bc bs n I J R Q := fun p e Rm s m args below meth c H locs cells slots ls C hW hL hlc hc hs => lv_istore_n C.1 C.2.1 hd rfl hL.has hn rfl (fun ls2 h2 => K p e Rm s m args below meth c H locs cells slots ls2 C hW (LO.of1 C.2.2.2.2.2.2.1.2.2.2.2.2.1 hL.2.2.1 hp h2) hlc hc hs)
theorem r_istore {k : Nat} {x : Int32} (hd : decode M.2.1 pc = .ok (.istore k, 2)) (hn : k < M.2.2.1) (hp : okSt L k = true) (K : Wp g d M (pc + 2) (L.set k (.int x)) st bc bs n I J R Q) : Wp g d M pc L (.int x :: st) bc bs n I J R Q := fun p e Rm s m args below meth c H locs cells slots ls C hW hL hlc hc hs => lv_istore C.1 C.2.1 hd hL.has hn rfl (fun ls2 h2 => K p e Rm s m args below meth c H locs cells slots ls2 C hW (LO.of1 C.2.2.2.2.2.2.1.2.2.2.2.2.1 hL.2.2.1 hp h2) hlc hc hs)
theorem r_astore_n {k : Fin 4} {x : Nat} (hd : decode M.2.1 pc = .ok (.astore_n k, 1)) (hn : (k : Nat) < M.2.2.1) (hp : okSt L (k : Nat) = true) (K : Wp g d M (pc + 1) (L.set (k : Nat) (.ref x)) st bc bs n I J R Q) : Wp g d M pc L (.ref x :: st) bc bs n I J R Q := fun p e Rm s m args below meth c H locs cells slots ls C hW hL hlc hc hs => lv_astore_n C.1 C.2.1 hd rfl hL.has hn rfl (fun ls2 h2 => K p e Rm s m args below meth c H locs cells slots ls2 C hW (LO.of1 C.2.2.2.2.2.2.1.2.2.2.2.2.1 hL.2.2.1 hp h2) hlc hc hs)
theorem r_astore {k : Nat} {x : Nat} (hd : decode M.2.1 pc = .ok (.astore k, 2)) (hn : k < M.2.2.1) (hp : okSt L k = true) (K : Wp g d M (pc + 2) (L.set k (.ref x)) st bc bs n I J R Q) : Wp g d M pc L (.ref x :: st) bc bs n I J R Q := fun p e Rm s m args below meth c H locs cells slots ls C hW hL hlc hc hs => lv_astore C.1 C.2.1 hd hL.has hn rfl (fun ls2 h2 => K p e Rm s m args below meth c H locs cells slots ls2 C hW (LO.of1 C.2.2.2.2.2.2.1.2.2.2.2.2.1 hL.2.2.1 hp h2) hlc hc hs)
theorem r_lstore_n {k : Fin 4} {x : Int64} (hd : decode M.2.1 pc = .ok (.lstore_n k, 1)) (hn : (k : Nat) + 1 < M.2.2.1) (hp : okSt L (k : Nat) = true) (K : Wp g d M (pc + 1) ((L.set (k : Nat) (.long x)).set ((k : Nat) + 1) .null) st bc bs n I J R Q) : Wp g d M pc L (.long x :: st) bc bs n I J R Q := fun p e Rm s m args below meth c H locs cells slots ls C hW hL hlc hc hs => lv_lstore_n C.1 C.2.1 hd rfl hL.has hn rfl (fun ls2 h2 => K p e Rm s m args below meth c H locs cells slots ls2 C hW (LO.of2 C.2.2.2.2.2.2.1.2.2.2.2.2.1 hL.2.2.1 hp h2) hlc hc hs)
theorem r_lstore {k : Nat} {x : Int64} (hd : decode M.2.1 pc = .ok (.lstore k, 2)) (hn : k + 1 < M.2.2.1) (hp : okSt L k = true) (K : Wp g d M (pc + 2) ((L.set k (.long x)).set (k + 1) .null) st bc bs n I J R Q) : Wp g d M pc L (.long x :: st) bc bs n I J R Q := fun p e Rm s m args below meth c H locs cells slots ls C hW hL hlc hc hs => lv_lstore C.1 C.2.1 hd hL.has hn rfl (fun ls2 h2 => K p e Rm s m args below meth c H locs cells slots ls2 C hW (LO.of2 C.2.2.2.2.2.2.1.2.2.2.2.2.1 hL.2.2.1 hp h2) hlc hc hs)
theorem r_iinc {k : Nat} {z : Int} {x v : Int32} (hd : decode M.2.1 pc = .ok (.iinc k z, 3)) (hl : L[k]? = some (.int x)) (hv : x + Int32.ofInt z = v) (hp : okSt L k = true) (K : Wp g d M (pc + 3) (L.set k (.int v)) st bc bs n I J R Q) : Wp g d M pc L st bc bs n I J R Q := fun p e Rm s m args below meth c H locs cells slots ls C hW hL hlc hc hs => by
  obtain ⟨j, hj⟩ := List.getElem?_of_mem (lvL_mem (g := g) hl (fun h => by cases h))
  have hn : k < M.2.2.1 := by rw [← hL.2.2.1]; exact (List.getElem?_eq_some_iff.mp hl).1
  exact lv_iinc C.1 C.2.1 hd hL.has hj hv hn rfl (fun ls2 h2 => K p e Rm s m args below meth c H locs cells slots ls2 C hW (LO.of1 C.2.2.2.2.2.2.1.2.2.2.2.2.1 hL.2.2.1 hp h2) hlc hc hs)
theorem r_dup {v : Value} (hd : decode M.2.1 pc = .ok (.dup, 1)) (hv : v.category = 1) (K : Wp g d M (pc + 1) L (v :: v :: st) bc bs n I J R Q) : Wp g d M pc L (v :: st) bc bs n I J R Q := fun p e Rm s m args below meth c H locs cells slots ls C hW hL hlc hc hs => lv_dup C.1 C.2.1 hd (by rw [cv_cat C.2.2.2.2.2.2.1.2.2.2.2.2.1]; exact hv) (K p e Rm s m args below meth c H locs cells slots ls C hW hL hlc hc hs)
theorem r_pop {v : Value} (hd : decode M.2.1 pc = .ok (.pop, 1)) (hv : v.category = 1) (K : Wp g d M (pc + 1) L st bc bs n I J R Q) : Wp g d M pc L (v :: st) bc bs n I J R Q := fun p e Rm s m args below meth c H locs cells slots ls C hW hL hlc hc hs => lv_pop C.1 C.2.1 hd (by rw [cv_cat C.2.2.2.2.2.2.1.2.2.2.2.2.1]; exact hv) (K p e Rm s m args below meth c H locs cells slots ls C hW hL hlc hc hs)
theorem r_if_eq {x : Int32} {off : Int} {tgt : Nat} (hd : decode M.2.1 pc = .ok (.ifCond .eq off, 3)) (ht : (pc : Int) + off = (tgt : Int)) (Kt : x = 0 → Wp g d M tgt L st bc bs n I J R Q) (Kf : ¬ (x = 0) → Wp g d M (pc + 3) L st bc bs n I J R Q) : Wp g d M pc L (.int x :: st) bc bs n I J R Q := fun p e Rm s m args below meth c H locs cells slots ls C hW hL hlc hc hs => lv_if_eq C.1 C.2.1 hd ht (fun hh => Kt hh p e Rm s m args below meth c H locs cells slots ls C hW hL hlc hc hs) (fun hh => Kf hh p e Rm s m args below meth c H locs cells slots ls C hW hL hlc hc hs)
theorem r_if_ne {x : Int32} {off : Int} {tgt : Nat} (hd : decode M.2.1 pc = .ok (.ifCond .ne off, 3)) (ht : (pc : Int) + off = (tgt : Int)) (Kt : x ≠ 0 → Wp g d M tgt L st bc bs n I J R Q) (Kf : x = 0 → Wp g d M (pc + 3) L st bc bs n I J R Q) : Wp g d M pc L (.int x :: st) bc bs n I J R Q := fun p e Rm s m args below meth c H locs cells slots ls C hW hL hlc hc hs => lv_if_ne C.1 C.2.1 hd ht (fun hh => Kt hh p e Rm s m args below meth c H locs cells slots ls C hW hL hlc hc hs) (fun hh => Kf hh p e Rm s m args below meth c H locs cells slots ls C hW hL hlc hc hs)
theorem r_if_lt {x : Int32} {off : Int} {tgt : Nat} (hd : decode M.2.1 pc = .ok (.ifCond .lt off, 3)) (ht : (pc : Int) + off = (tgt : Int)) (Kt : x < 0 → Wp g d M tgt L st bc bs n I J R Q) (Kf : ¬ (x < 0) → Wp g d M (pc + 3) L st bc bs n I J R Q) : Wp g d M pc L (.int x :: st) bc bs n I J R Q := fun p e Rm s m args below meth c H locs cells slots ls C hW hL hlc hc hs => lv_if_lt C.1 C.2.1 hd ht (fun hh => Kt hh p e Rm s m args below meth c H locs cells slots ls C hW hL hlc hc hs) (fun hh => Kf hh p e Rm s m args below meth c H locs cells slots ls C hW hL hlc hc hs)
theorem r_if_ge {x : Int32} {off : Int} {tgt : Nat} (hd : decode M.2.1 pc = .ok (.ifCond .ge off, 3)) (ht : (pc : Int) + off = (tgt : Int)) (Kt : 0 ≤ x → Wp g d M tgt L st bc bs n I J R Q) (Kf : ¬ (0 ≤ x) → Wp g d M (pc + 3) L st bc bs n I J R Q) : Wp g d M pc L (.int x :: st) bc bs n I J R Q := fun p e Rm s m args below meth c H locs cells slots ls C hW hL hlc hc hs => lv_if_ge C.1 C.2.1 hd ht (fun hh => Kt hh p e Rm s m args below meth c H locs cells slots ls C hW hL hlc hc hs) (fun hh => Kf hh p e Rm s m args below meth c H locs cells slots ls C hW hL hlc hc hs)
theorem r_if_gt {x : Int32} {off : Int} {tgt : Nat} (hd : decode M.2.1 pc = .ok (.ifCond .gt off, 3)) (ht : (pc : Int) + off = (tgt : Int)) (Kt : 0 < x → Wp g d M tgt L st bc bs n I J R Q) (Kf : ¬ (0 < x) → Wp g d M (pc + 3) L st bc bs n I J R Q) : Wp g d M pc L (.int x :: st) bc bs n I J R Q := fun p e Rm s m args below meth c H locs cells slots ls C hW hL hlc hc hs => lv_if_gt C.1 C.2.1 hd ht (fun hh => Kt hh p e Rm s m args below meth c H locs cells slots ls C hW hL hlc hc hs) (fun hh => Kf hh p e Rm s m args below meth c H locs cells slots ls C hW hL hlc hc hs)
theorem r_if_le {x : Int32} {off : Int} {tgt : Nat} (hd : decode M.2.1 pc = .ok (.ifCond .le off, 3)) (ht : (pc : Int) + off = (tgt : Int)) (Kt : x ≤ 0 → Wp g d M tgt L st bc bs n I J R Q) (Kf : ¬ (x ≤ 0) → Wp g d M (pc + 3) L st bc bs n I J R Q) : Wp g d M pc L (.int x :: st) bc bs n I J R Q := fun p e Rm s m args below meth c H locs cells slots ls C hW hL hlc hc hs => lv_if_le C.1 C.2.1 hd ht (fun hh => Kt hh p e Rm s m args below meth c H locs cells slots ls C hW hL hlc hc hs) (fun hh => Kf hh p e Rm s m args below meth c H locs cells slots ls C hW hL hlc hc hs)
theorem r_icmp_eq {x y : Int32} {off : Int} {tgt : Nat} (hd : decode M.2.1 pc = .ok (.if_icmp .eq off, 3)) (ht : (pc : Int) + off = (tgt : Int)) (Kt : x = y → Wp g d M tgt L st bc bs n I J R Q) (Kf : ¬ (x = y) → Wp g d M (pc + 3) L st bc bs n I J R Q) : Wp g d M pc L (.int y :: .int x :: st) bc bs n I J R Q := fun p e Rm s m args below meth c H locs cells slots ls C hW hL hlc hc hs => lv_icmp_eq C.1 C.2.1 hd ht (fun hh => Kt hh p e Rm s m args below meth c H locs cells slots ls C hW hL hlc hc hs) (fun hh => Kf hh p e Rm s m args below meth c H locs cells slots ls C hW hL hlc hc hs)
theorem r_icmp_ne {x y : Int32} {off : Int} {tgt : Nat} (hd : decode M.2.1 pc = .ok (.if_icmp .ne off, 3)) (ht : (pc : Int) + off = (tgt : Int)) (Kt : x ≠ y → Wp g d M tgt L st bc bs n I J R Q) (Kf : x = y → Wp g d M (pc + 3) L st bc bs n I J R Q) : Wp g d M pc L (.int y :: .int x :: st) bc bs n I J R Q := fun p e Rm s m args below meth c H locs cells slots ls C hW hL hlc hc hs => lv_icmp_ne C.1 C.2.1 hd ht (fun hh => Kt hh p e Rm s m args below meth c H locs cells slots ls C hW hL hlc hc hs) (fun hh => Kf hh p e Rm s m args below meth c H locs cells slots ls C hW hL hlc hc hs)
theorem r_icmp_lt {x y : Int32} {off : Int} {tgt : Nat} (hd : decode M.2.1 pc = .ok (.if_icmp .lt off, 3)) (ht : (pc : Int) + off = (tgt : Int)) (Kt : x < y → Wp g d M tgt L st bc bs n I J R Q) (Kf : ¬ (x < y) → Wp g d M (pc + 3) L st bc bs n I J R Q) : Wp g d M pc L (.int y :: .int x :: st) bc bs n I J R Q := fun p e Rm s m args below meth c H locs cells slots ls C hW hL hlc hc hs => lv_icmp_lt C.1 C.2.1 hd ht (fun hh => Kt hh p e Rm s m args below meth c H locs cells slots ls C hW hL hlc hc hs) (fun hh => Kf hh p e Rm s m args below meth c H locs cells slots ls C hW hL hlc hc hs)
theorem r_icmp_ge {x y : Int32} {off : Int} {tgt : Nat} (hd : decode M.2.1 pc = .ok (.if_icmp .ge off, 3)) (ht : (pc : Int) + off = (tgt : Int)) (Kt : y ≤ x → Wp g d M tgt L st bc bs n I J R Q) (Kf : ¬ (y ≤ x) → Wp g d M (pc + 3) L st bc bs n I J R Q) : Wp g d M pc L (.int y :: .int x :: st) bc bs n I J R Q := fun p e Rm s m args below meth c H locs cells slots ls C hW hL hlc hc hs => lv_icmp_ge C.1 C.2.1 hd ht (fun hh => Kt hh p e Rm s m args below meth c H locs cells slots ls C hW hL hlc hc hs) (fun hh => Kf hh p e Rm s m args below meth c H locs cells slots ls C hW hL hlc hc hs)
theorem r_icmp_gt {x y : Int32} {off : Int} {tgt : Nat} (hd : decode M.2.1 pc = .ok (.if_icmp .gt off, 3)) (ht : (pc : Int) + off = (tgt : Int)) (Kt : y < x → Wp g d M tgt L st bc bs n I J R Q) (Kf : ¬ (y < x) → Wp g d M (pc + 3) L st bc bs n I J R Q) : Wp g d M pc L (.int y :: .int x :: st) bc bs n I J R Q := fun p e Rm s m args below meth c H locs cells slots ls C hW hL hlc hc hs => lv_icmp_gt C.1 C.2.1 hd ht (fun hh => Kt hh p e Rm s m args below meth c H locs cells slots ls C hW hL hlc hc hs) (fun hh => Kf hh p e Rm s m args below meth c H locs cells slots ls C hW hL hlc hc hs)
theorem r_icmp_le {x y : Int32} {off : Int} {tgt : Nat} (hd : decode M.2.1 pc = .ok (.if_icmp .le off, 3)) (ht : (pc : Int) + off = (tgt : Int)) (Kt : x ≤ y → Wp g d M tgt L st bc bs n I J R Q) (Kf : ¬ (x ≤ y) → Wp g d M (pc + 3) L st bc bs n I J R Q) : Wp g d M pc L (.int y :: .int x :: st) bc bs n I J R Q := fun p e Rm s m args below meth c H locs cells slots ls C hW hL hlc hc hs => lv_icmp_le C.1 C.2.1 hd ht (fun hh => Kt hh p e Rm s m args below meth c H locs cells slots ls C hW hL hlc hc hs) (fun hh => Kf hh p e Rm s m args below meth c H locs cells slots ls C hW hL hlc hc hs)
theorem r_goto {off : Int} {tgt : Nat} (hd : decode M.2.1 pc = .ok (.goto off, 3)) (ht : (pc : Int) + off = (tgt : Int)) (K : Wp g d M tgt L st bc bs n I J R Q) : Wp g d M pc L st bc bs n I J R Q := fun p e Rm s m args below meth c H locs cells slots ls C hW hL hlc hc hs => lv_goto C.1 C.2.1 hd ht (K p e Rm s m args below meth c H locs cells slots ls C hW hL hlc hc hs)
theorem r_tabOut {dflt lo hi : Int} {offs : Array Int} {len : Nat} {x : Int32} {tgt : Nat} (hd : decode M.2.1 pc = .ok (.tableswitch dflt lo hi offs, len)) (h : x.toInt < lo ∨ hi < x.toInt) (ht : (pc : Int) + dflt = (tgt : Int)) (K : Wp g d M tgt L st bc bs n I J R Q) : Wp g d M pc L (.int x :: st) bc bs n I J R Q := fun p e Rm s m args below meth c H locs cells slots ls C hW hL hlc hc hs => lv_tableOut C.1 C.2.1 hd h ht (K p e Rm s m args below meth c H locs cells slots ls C hW hL hlc hc hs)
theorem r_tabIn {dflt lo hi : Int} {offs : Array Int} {len : Nat} {x : Int32} {off : Int} {tgt : Nat} (hd : decode M.2.1 pc = .ok (.tableswitch dflt lo hi offs, len)) (h1 : ¬ x.toInt < lo) (h2 : ¬ hi < x.toInt) (ho : offs[(x.toInt - lo).toNat]? = some off) (ht : (pc : Int) + off = (tgt : Int)) (K : Wp g d M tgt L st bc bs n I J R Q) : Wp g d M pc L (.int x :: st) bc bs n I J R Q := fun p e Rm s m args below meth c H locs cells slots ls C hW hL hlc hc hs => lv_tableIn C.1 C.2.1 hd h1 h2 ho ht (K p e Rm s m args below meth c H locs cells slots ls C hW hL hlc hc hs)
theorem r_eq {st2 : List Value} (h : st = st2) (K : Wp g d M pc L st2 bc bs n I J R Q) : Wp g d M pc L st bc bs n I J R Q := h ▸ K
theorem Wp.mono {Q2 : TQ} (h : ∀ r n I J R, Q r n I J R → Q2 r n I J R) (K : Wp g d M pc L st bc bs n I J R Q) : Wp g d M pc L st bc bs n I J R Q2 := by
  intro p e Rm s m args below meth c H locs cells slots ls C hW hL hlc hc hs T hT X
  obtain ⟨t, a, o, b1, b2, ⟨r, n2, I2, J2, R2, c1, c2, c3⟩, b4⟩ := K p e Rm s m args below meth c H locs cells slots ls C hW hL hlc hc hs T hT X
  exact ⟨t, a, o, b1, b2, ⟨r, n2, I2, J2, R2, c1, h _ _ _ _ _ c2, c3⟩, b4⟩
end XR
end
section
/-! returns, fields, arrays -/
theorem va_T.moved' {ty : FieldType} {t N : Nat} {f : Nat → Value} {A : Nat → Prop} {u U : State} {H : Heap} (hvm : u.vm.Alike U.vm) (h : va_T ty t N f A u H) : va_T ty t N f A U H := va_T.moved hvm h
theorem CellK.moved {g : GP} {u U : State} (hvm : u.vm.Alike U.vm) {H : Heap} {I : TI} {J : TJ} {R : TR} {a kd len : Nat} (h : CellK g u H I J R a kd len) : CellK g U H I J R a kd len := by
  unfold CellK at h ⊢
  by_cases h8 : kd = 8
  · rw [if_pos h8] at h ⊢
    obtain ⟨cA, h1, h2⟩ := h
    exact ⟨cA, h1, arrOfT_moved hvm h2⟩
  rw [if_neg h8] at h ⊢
  by_cases h9 : kd = 9
  · rw [if_pos h9] at h ⊢
    obtain ⟨cA, h1, h2⟩ := h
    exact ⟨cA, h1, arrOfT_moved hvm h2⟩
  rw [if_neg h9] at h ⊢
  by_cases h10 : kd = 10
  · rw [if_pos h10] at h ⊢
    obtain ⟨cA, h1, h2⟩ := h
    exact ⟨cA, h1, arrOfT_moved hvm h2⟩
  rw [if_neg h10] at h ⊢
  by_cases h11 : kd = 11
  · rw [if_pos h11] at h ⊢
    obtain ⟨cA, h1, h2, h3⟩ := h
    exact ⟨cA, h1, arrOfT_moved hvm h2, h3.moved hvm⟩
  rw [if_neg h11] at h ⊢
  by_cases h12 : kd = 12
  · rw [if_pos h12] at h ⊢
    obtain ⟨cA, h1, h2, h3⟩ := h
    exact ⟨cA, h1, arrOfT_moved hvm h2, h3.moved hvm⟩
  rw [if_neg h12] at h ⊢
  exact h
theorem WR.moved {g : GP} {u U : State} (hvm : u.vm.Alike U.vm) {H : Heap} {n : Nat} {I : TI} {J : TJ} {R : TR} (h : WR g u H n I J R) : WR g U H n I J R :=
  ⟨h.1, h.2.1, fun a h1 h2 => (h.2.2.1 a h1 h2).moved hvm, fun a q hq => (h.2.2.2 a q hq).moved hvm⟩
theorem VOK.warm {g : GP} {s U : State} (hW : s.WarmedH U.vm) (h : VOK g s) : VOK g U :=
  ⟨va_K.moved hW.alike h.1, fun q hq => va_Z.moved hW.alike (h.2.1 q hq), fun i hi => ⟨va_O.moved hW.alike (h.2.2.1 i hi).1, va_OF.moved hW.alike (h.2.2.1 i hi).2.1, va_OF.moved hW.alike (h.2.2.1 i hi).2.2⟩, fun i q hq => vk_R.warm hW (h.2.2.2.1 i q hq),
    fun w hw => by
      have h1 := h.2.2.2.2.1 w hw
      simp only [nestW, List.mem_cons, List.not_mem_nil, or_false] at hw
      rcases hw with rfl | rfl | rfl | rfl | rfl | rfl | rfl | rfl | rfl | rfl | rfl | rfl <;> first | exact va_Nw.warmM hW h1 | exact va_Nw.warmF hW h1, h.2.2.2.2.2.1, va_AO.moved hW.alike h.2.2.2.2.2.2.1, va_AO.moved hW.alike h.2.2.2.2.2.2.2⟩
theorem VOK.same {g : GP} {s U : State} (hv : s.vm = U.vm) (h : VOK g s) : VOK g U :=
  have hal : s.vm.Alike U.vm := by rw [hv]; exact Vm.Alike.refl _
  ⟨va_K.moved hal h.1, fun q hq => va_Z.moved hal (h.2.1 q hq), fun i hi => ⟨va_O.moved hal (h.2.2.1 i hi).1, va_OF.moved hal (h.2.2.1 i hi).2.1, va_OF.moved hal (h.2.2.1 i hi).2.2⟩, fun i q hq => vk_R.same hv.symm (h.2.2.2.1 i q hq),
    fun w hw => by
      have h1 := h.2.2.2.2.1 w hw
      simp only [nestW, List.mem_cons, List.not_mem_nil, or_false] at hw
      rcases hw with rfl | rfl | rfl | rfl | rfl | rfl | rfl | rfl | rfl | rfl | rfl | rfl <;> exact va_Nw.same rfl hv h1, h.2.2.2.2.2.1, va_AO.moved hal h.2.2.2.2.2.2.1, va_AO.moved hal h.2.2.2.2.2.2.2⟩
section XRet
variable {g : GP} {d : Nat} {M : MD} {pc : Nat} {L st : List Value} {bc bs n : Nat} {I : TI} {J : TJ} {R : TR} {Q : TQ}
theorem r_iret {v : Int32} (hd : decode M.2.1 pc = .ok (.ireturn, 1)) (hr : M.2.2.2 = some .int) (hq : Q (some (.int v)) n I J R) : Wp g d M pc L [.int v] bc bs n I J R Q := by
  intro p e Rm s m args below meth c H locs cells slots ls C hW hL hlc hc hs
  have hlocks : meth.locks = false := C.2.2.2.2.2.2.2.1
  refine W.widen (k := Rm.cells) (n := Rm.slots) (by omega) (by omega) ?_
  exact W.iret (v := v) C.1 C.2.1 (C.2.2.2.1.trans hr) (fun t ht hw => ⟨some (.int v), n, I, J, R, rfl, hq, by rw [ht]; exact hW.moved hw.alike⟩) hlc hd
theorem r_zret {v : Int32} {ty : FieldType} (hd : decode M.2.1 pc = .ok (.ireturn, 1)) (hr : M.2.2.2 = some ty) (hn : narrow ty (.int v) = .int v) (hq : Q (some (.int v)) n I J R) : Wp g d M pc L [.int v] bc bs n I J R Q := by
  intro p e Rm s m args below meth c H locs cells slots ls C hW hL hlc hc hs
  have hlocks : meth.locks = false := C.2.2.2.2.2.2.2.1
  refine W.widen (k := Rm.cells) (n := Rm.slots) (by omega) (by omega) ?_
  exact W.zret (v := v) C.1 C.2.1 (C.2.2.2.1.trans hr) hn (fun t ht hw => ⟨some (.int v), n, I, J, R, rfl, hq, by rw [ht]; exact hW.moved hw.alike⟩) hlc hd
theorem r_lret {v : Int64} (hd : decode M.2.1 pc = .ok (.lreturn, 1)) (hr : M.2.2.2 = some .long) (hq : Q (some (.long v)) n I J R) : Wp g d M pc L [.long v] bc bs n I J R Q := by
  intro p e Rm s m args below meth c H locs cells slots ls C hW hL hlc hc hs
  have hlocks : meth.locks = false := C.2.2.2.2.2.2.2.1
  refine W.widen (k := Rm.cells) (n := Rm.slots) (by omega) (by omega) ?_
  exact W.lret (v := v) C.1 C.2.1 (C.2.2.2.1.trans hr) (fun t ht hw => ⟨some (.long v), n, I, J, R, rfl, hq, by rw [ht]; exact hW.moved hw.alike⟩) hlc hd
theorem r_vret (hd : decode M.2.1 pc = .ok (.return_, 1)) (hr : M.2.2.2 = none) (hq : Q none n I J R) : Wp g d M pc L [] bc bs n I J R Q := by
  intro p e Rm s m args below meth c H locs cells slots ls C hW hL hlc hc hs
  have hlocks : meth.locks = false := C.2.2.2.2.2.2.2.1
  refine W.widen (k := Rm.cells) (n := Rm.slots) (by omega) (by omega) ?_
  exact W.vret C.1 C.2.1 (C.2.2.2.1.trans hr) (fun t ht hw => ⟨none, n, I, J, R, rfl, hq, by rw [ht]; exact hW.moved hw.alike⟩) hlc hd
end XRet
/-! fields -/
def up2 {α : Type} (f : Nat → Nat → α) (a k : Nat) (v : α) : Nat → Nat → α := fun x => if x = a then (fun j => if j = k then v else f a j) else f x
theorem up2_at {α : Type} (f : Nat → Nat → α) (a k : Nat) (v : α) : up2 f a k v a k = v := by simp [up2]
theorem up2_k {α : Type} (f : Nat → Nat → α) {a k j : Nat} (v : α) (h : j ≠ k) : up2 f a k v a j = f a j := by simp [up2, h]
theorem up2_a {α : Type} (f : Nat → Nat → α) {a b : Nat} (k : Nat) (v : α) (h : b ≠ a) : up2 f a k v b = f b := by simp [up2, h]
def Al (n a kd len : Nat) : Prop := LAY a = (kd, len) ∧ 12 ≤ a ∧ a < 12 + n
/-- what a class's table says, by a program -/
def CL (ci : Nat) (q : vw_C) : Prop := ci < 8 ∧ vwCl[ci]? = some q ∧ (∀ w ∈ u_ws q.1 q.2.1 q.2.2, w ∈ GW) ∧ (∀ k, k < q.2.2 → parseFieldDescriptor (q.2.1 k).2.2.1 = some (tyT ci k)) ∧ (∀ a, a < q.2.2 → ∀ b, b < q.2.2 → a ≠ b → (q.2.1 a).2.1 ≠ (q.2.1 b).2.1) ∧ ∀ k, k < q.2.2 → (q.2.1 k).1 = q.1
def FL (own : String) (idx ci : Nat) (q : vw_C) (k : Nat) : Prop := CL ci q ∧ k < q.2.2 ∧ Cond.fieldLink own idx q.1 (q.2.1 k).2.1 (q.2.1 k).2.2.1 ∈ GW
theorem ad_ne {g : GP} {a b : Nat} (ha : 12 ≤ a) (hb : 12 ≤ b) (h : b ≠ a) : ad g b ≠ ad g a := by
  unfold ad
  rw [if_neg (by omega), if_neg (by omega)]
  omega
theorem ad_ge {g : GP} {a : Nat} (ha : 12 ≤ a) : gA g (ad g a) := by
  unfold ad
  rw [if_neg (by omega)]
  show (gH g).size ≤ (gH g).size + (a - 12)
  omega
theorem CellK.congr {g : GP} {U : State} {H H' : Heap} {I I' : TI} {J J' : TJ} {R R' : TR} {a kd len : Nat} (hI : I' a = I a) (hJ : J' a = J a) (hR : R' a = R a) (hq : H'[ad g a]? = H[ad g a]?) (h : CellK g U H I J R a kd len) : CellK g U H' I' J' R' a kd len := by
  have e : (fun k => fvl g I' J' R' (tyT kd k) a k) = fun k => fvl g I J R (tyT kd k) a k := by
    funext k
    unfold fvl
    rw [hI, hJ, hR]
  unfold CellK at h ⊢
  rw [hI, hR, hq, e]
  split at h
  · next h1 => rw [if_pos h1]; exact h
  · next h1 =>
    rw [if_neg h1]
    split at h
    · next h2 => rw [if_pos h2]; exact h
    · next h2 =>
      rw [if_neg h2]
      split at h
      · next h3 => rw [if_pos h3]; exact h
      · next h3 =>
        rw [if_neg h3]
        split at h
        · next h4 => rw [if_pos h4]; exact h
        · next h4 =>
          rw [if_neg h4]
          split at h
          · next h5 => rw [if_pos h5]; exact h
          · next h5 =>
            rw [if_neg h5]
            exact ⟨h.1, h.2.kept hq⟩
theorem SL_lt {g : GP} {a : Nat} {q : FieldType × Nat} (h : SL g a = some q) : a < 12 := by
  unfold SL at h
  split at h <;> first | omega | cases h
theorem WR.put {g : GP} {U : State} {H H' : Heap} {n : Nat} {I I' : TI} {J J' : TJ} {R R' : TR} (hW : WR g U H n I J R) {a : Nat} (h12 : 12 ≤ a) (hz : H'.size = H.size) (oq : ∀ q, q ≠ ad g a → H'[q]? = H[q]?) (hI : ∀ b, b ≠ a → I' b = I b) (hJ : ∀ b, b ≠ a → J' b = J b) (hR : ∀ b, b ≠ a → R' b = R b) (hc : CellK g U H' I' J' R' a (LAY a).1 (LAY a).2) : WR g U H' n I' J' R' := by
  refine ⟨by rw [hz]; exact hW.1, fun q hq => ?_, fun b h1 h2 => ?_, fun b q hq => ?_⟩
  · have hge : (gH g).size ≤ ad g a := ad_ge h12
    rw [oq q (by omega)]
    exact hW.2.1 q hq
  · by_cases e : b = a
    · subst e; exact hc
    · exact (hW.2.2.1 b h1 h2).congr (hI b e) (hJ b e) (hR b e) (oq _ (ad_ne h12 h1 e))
  · have hb : b ≠ a := by have := SL_lt hq; omega
    rw [hI b hb]
    exact hW.2.2.2 b q hq
theorem WR.obj {g : GP} {U : State} {H : Heap} {n : Nat} {I : TI} {J : TJ} {R : TR} (hW : WR g U H n I J R) {a ci len : Nat} (ha : Al n a ci len) (hci : ci < 8) : t_OB (ad g a) ((gD g).1 ci) len ((gD g).2 ci) H (fun k => fvl g I J R (tyT ci k) a k) := by
  have h := hW.2.2.1 a ha.2.1 ha.2.2
  rw [ha.1] at h
  unfold CellK at h
  rw [if_neg (by omega), if_neg (by omega), if_neg (by omega), if_neg (by omega), if_neg (by omega)] at h
  exact h.2
section XF
variable {g : GP} {d : Nat} {M : MD} {pc : Nat} {L st : List Value} {bc bs n : Nat} {I : TI} {J : TJ} {R : TR} {Q : TQ}
theorem getf_core {idx ci a k : Nat} {q : vw_C} {w : Value} (hd : decode M.2.1 pc = .ok (.getfield idx, 3)) (hF : FL M.1.cls idx ci q k) (ha : Al n a ci q.2.2) (hw : ∀ g, cv g w = fvl g I J R (tyT ci k) a k) (K : Wp g d M (pc + 3) L (w :: st) bc bs n I J R Q) : Wp g d M pc L (.ref a :: st) bc bs n I J R Q := by
  intro p e Rm s m args below meth c H locs cells slots ls C hW hL hlc hc hs
  obtain ⟨⟨hci, hcl, hin, hty, hnm, hdc⟩, hk, hlink⟩ := hF
  obtain ⟨cell, q1, q2, q3, q4⟩ := hW.obj ha hci
  obtain ⟨hS, hfc, kC, hkC, hkind⟩ := C.2.2.2.2.2.2.1.1.1 ci _ hcl
  obtain ⟨cf, kf, fi, f, hi, hsl⟩ := hS k hk
  have hts : ∀ w ∈ GW, w.before args s = true := fun w h => GWb C h
  have hi2 := hi
  rw [hdc k hk] at hi2
  have K2 := K p e Rm s m args below meth c H locs cells slots ls C hW hL hlc hc hs
  rw [List.map_cons, hw g] at K2
  exact W.getf C.1 C.2.1 C.2.2.2.2.1 (GWb C hlink) hi2 (u_facts hfc hkC (u_lays hts hin hk) hi).1 q1 (by rw [q3]; exact fun h => by cases h) (by rw [hsl]; exact q4 k hk) rfl rfl hd K2
theorem r_getI {idx ci a k : Nat} {q : vw_C} (hd : decode M.2.1 pc = .ok (.getfield idx, 3)) (hF : FL M.1.cls idx ci q k) (ha : Al n a ci q.2.2) (hty : tyT ci k = .int ∨ tyT ci k = .boolean) (K : Wp g d M (pc + 3) L (.int (I a k) :: st) bc bs n I J R Q) : Wp g d M pc L (.ref a :: st) bc bs n I J R Q :=
  getf_core (w := .int (I a k)) hd hF ha (fun g => by rcases hty with h | h <;> rw [h] <;> rfl) K
theorem r_getJ {idx ci a k : Nat} {q : vw_C} (hd : decode M.2.1 pc = .ok (.getfield idx, 3)) (hF : FL M.1.cls idx ci q k) (ha : Al n a ci q.2.2) (hty : tyT ci k = .long) (K : Wp g d M (pc + 3) L (.long (J a k) :: st) bc bs n I J R Q) : Wp g d M pc L (.ref a :: st) bc bs n I J R Q :=
  getf_core (w := .long (J a k)) hd hF ha (fun g => by rw [hty] <;> rfl) K
theorem r_getR {idx ci a k b : Nat} {q : vw_C} (hd : decode M.2.1 pc = .ok (.getfield idx, 3)) (hF : FL M.1.cls idx ci q k) (ha : Al n a ci q.2.2) (hty : (∃ t, tyT ci k = .array t) ∨ ∃ t, tyT ci k = .object t) (hR : R a k = b) (hb : b ≠ 0) (K : Wp g d M (pc + 3) L (.ref b :: st) bc bs n I J R Q) : Wp g d M pc L (.ref a :: st) bc bs n I J R Q :=
  getf_core (w := .ref b) hd hF ha (fun g => by rcases hty with ⟨t, h⟩ | ⟨t, h⟩ <;> rw [h] <;> simp only [fvl, rv, hR, if_neg hb, cv]) K
theorem putf_core {idx ci a k : Nat} {q : vw_C} {w : Value} {I' : TI} {J' : TJ} {R' : TR} (hd : decode M.2.1 pc = .ok (.putfield idx, 3)) (hF : FL M.1.cls idx ci q k) (ha : Al n a ci q.2.2) (hfin : (q.2.1 k).2.2.2 = false ∨ (M.1.name = "<init>" ∧ q.1 = M.1.cls)) (hn : ∀ g, narrow (tyT ci k) (cv g w) = cv g w) (hfit : ∀ g, fits (tyT ci k) (cv g w) = true)
    (hI : ∀ b, b ≠ a → I' b = I b) (hJ : ∀ b, b ≠ a → J' b = J b) (hR : ∀ b, b ≠ a → R' b = R b) (hV : ∀ (g : GP) (j : Nat), j < q.2.2 → updV (fun k => fvl g I J R (tyT ci k) a k) k (cv g w) j = fvl g I' J' R' (tyT ci j) a j)
    (K : Wp g d M (pc + 3) L st bc bs n I' J' R' Q) : Wp g d M pc L (w :: .ref a :: st) bc bs n I J R Q := by
  intro p e Rm s m args below meth c H locs cells slots ls C hW hL hlc hc hs
  obtain ⟨⟨hci, hcl, hin, hty, hnm, hdc⟩, hk, hlink⟩ := hF
  obtain ⟨cell, q1, q2, q3, q4⟩ := hW.obj ha hci
  have hts : ∀ w ∈ GW, w.before args s = true := fun w h => GWb C h
  have hK : va_K (gD g) vwCl [] s := C.2.2.2.2.2.2.1.1
  have hap := va_apart (own := M.1.cls) hts hin (tyT ci) hty hnm hK hcl
  obtain ⟨hS, hfc, kC, hkC, hkind⟩ := hK.1 ci _ hcl
  obtain ⟨cf, kf, fi, f, hi, hsl⟩ := hS k hk
  have hi2 := hi
  rw [hdc k hk] at hi2
  have hst := (u_facts hfc hkC (u_lays hts hin hk) hi).1
  have hlay := hts _ (hin _ (u_in_lay hk))
  have fin : ∀ (H' : Heap), H'[ad g a]? = some (cell.setSlot f.slot (cv g w)) → H'.size = H.size → (∀ x, x ≠ ad g a → H'[x]? = H[x]?) → W p (gL g) e Rm s m args below meth c H' (locs ++ [⟨ad g a, f.slot⟩]) cells slots (MQ below (PQ g Q) args s Rm.cells Rm.slots (gA g)) (F0 m (pc + 3) ls (st.map (cv g))) := by
    intro H' e1 e2 e3
    rw [hsl] at e1
    refine K p e Rm s m args below meth c H' _ cells slots ls C (hW.put ha.2.1 e2 e3 hI hJ hR ?_) hL (fun x hx => ?_) hc hs
    · rw [ha.1]
      unfold CellK
      rw [if_neg (by omega), if_neg (by omega), if_neg (by omega), if_neg (by omega), if_neg (by omega)]
      exact ⟨hci, t_OB.to (V := updV (fun k => fvl g I J R (tyT ci k) a k) k (cv g w)) ⟨_, e1, q2, q3, t_set q4 hap hk (cv g w)⟩ (fun j hj => hV g j hj)⟩
    · rcases List.mem_append.mp hx with h | h
      · exact hlc x h
      · rw [List.mem_singleton.mp h]
        exact ad_ge ha.2.1
  rcases Bool.eq_false_or_eq_true (q.2.1 k).2.2.2 with hf | hf
  · rcases hfin with h0 | ⟨h0, h00⟩
    · rw [h0] at hf; cases hf
    unfold u_lay at hlay
    rw [if_pos hf] at hlay
    have hcf : m.cls = cf := by
      obtain ⟨_, _, c', _, _, _, -, -, hf', -, -, -, hown2, -⟩ := Cond.laysFinal_spec hlay
      have e1 : c' = cf := by have := hi.symm.trans hf'; simp at this; exact this.1.symm
      rw [hdc k hk, h00] at hown2
      rw [← e1]; exact Option.some.inj (C.2.2.2.2.1.symm.trans hown2)
    have h6 := u_fits hfc hkC hkind (Or.inr hlay) hi (hty k hk) (hn g) (hfit g)
    exact W.putFinK C.1 C.2.1 C.2.2.2.2.1 (GWb C hlink) hi2 hst hcf (C.2.2.2.2.2.2.2.2.1.trans h0) (by rw [q2]; exact h6) q1 q3 (by rw [hsl]; exact k2_hasslot (q4 k hk)) rfl rfl hd fin
  · unfold u_lay at hlay
    rw [if_neg (by rw [hf]; decide)] at hlay
    have h6 := u_store hfc hkC hkind hlay hi (hty k hk) (hn g) (hfit g)
    exact W.putK C.1 C.2.1 (f := f) ⟨C.2.2.2.2.1, GWb C hlink, ⟨_, _, _, hi2⟩, hst⟩ (by rw [q2]; exact h6) q1 q3 (by rw [hsl]; exact k2_hasslot (q4 k hk)) rfl rfl hd fin
theorem fvl_I {g : GP} {I : TI} {J : TJ} {R : TR} {ty : FieldType} {a k j : Nat} {x : Int32} : fvl g (up2 I a k x) J R ty a j = if j = k ∧ (ty = .int ∨ ty = .boolean) then .int x else fvl g I J R ty a j := by
  by_cases h : j = k
  · subst h
    cases ty <;> simp [fvl, up2]
  · cases ty <;> simp [fvl, up2, h]
theorem fvl_J {g : GP} {I : TI} {J : TJ} {R : TR} {ty : FieldType} {a k j : Nat} {x : Int64} : fvl g I (up2 J a k x) R ty a j = if j = k ∧ ty = .long then .long x else fvl g I J R ty a j := by
  by_cases h : j = k
  · subst h
    cases ty <;> simp [fvl, up2]
  · cases ty <;> simp [fvl, up2, h]
theorem r_putI {idx ci a k : Nat} {q : vw_C} {x : Int32} (hd : decode M.2.1 pc = .ok (.putfield idx, 3)) (hF : FL M.1.cls idx ci q k) (ha : Al n a ci q.2.2) (hfin : (q.2.1 k).2.2.2 = false ∨ (M.1.name = "<init>" ∧ q.1 = M.1.cls)) (hty : tyT ci k = .int) (K : Wp g d M (pc + 3) L st bc bs n (up2 I a k x) J R Q) : Wp g d M pc L (.int x :: .ref a :: st) bc bs n I J R Q := by
  refine putf_core (w := .int x) (I' := up2 I a k x) (J' := J) (R' := R) hd hF ha hfin (fun g => by rw [hty]; rfl) (fun g => by rw [hty]; rfl) (fun b hb => up2_a I k x hb) (fun _ _ => rfl) (fun _ _ => rfl) (fun g j hj => ?_) K
  rw [fvl_I]
  by_cases e : j = k
  · subst e
    simp [updV, hty, cv]
  · simp [updV, e]
theorem r_putZ {idx ci a k : Nat} {q : vw_C} {x : Int32} (hd : decode M.2.1 pc = .ok (.putfield idx, 3)) (hF : FL M.1.cls idx ci q k) (ha : Al n a ci q.2.2) (hfin : (q.2.1 k).2.2.2 = false ∨ (M.1.name = "<init>" ∧ q.1 = M.1.cls)) (hty : tyT ci k = .boolean) (hx : x = 0 ∨ x = 1) (K : Wp g d M (pc + 3) L st bc bs n (up2 I a k x) J R Q) : Wp g d M pc L (.int x :: .ref a :: st) bc bs n I J R Q := by
  refine putf_core (w := .int x) (I' := up2 I a k x) (J' := J) (R' := R) hd hF ha hfin (fun g => by rw [hty]; rcases hx with rfl | rfl <;> rfl) (fun g => by rw [hty]; rcases hx with rfl | rfl <;> rfl) (fun b hb => up2_a I k x hb) (fun _ _ => rfl) (fun _ _ => rfl) (fun g j hj => ?_) K
  rw [fvl_I]
  by_cases e : j = k
  · subst e
    simp [updV, hty, cv]
  · simp [updV, e]
theorem r_putJ {idx ci a k : Nat} {q : vw_C} {x : Int64} (hd : decode M.2.1 pc = .ok (.putfield idx, 3)) (hF : FL M.1.cls idx ci q k) (ha : Al n a ci q.2.2) (hfin : (q.2.1 k).2.2.2 = false ∨ (M.1.name = "<init>" ∧ q.1 = M.1.cls)) (hty : tyT ci k = .long) (K : Wp g d M (pc + 3) L st bc bs n I (up2 J a k x) R Q) : Wp g d M pc L (.long x :: .ref a :: st) bc bs n I J R Q := by
  refine putf_core (w := .long x) (I' := I) (J' := up2 J a k x) (R' := R) hd hF ha hfin (fun g => by rw [hty]; rfl) (fun g => by rw [hty]; rfl) (fun _ _ => rfl) (fun b hb => up2_a J k x hb) (fun _ _ => rfl) (fun g j hj => ?_) K
  rw [fvl_J]
  by_cases e : j = k
  · subst e
    simp [updV, hty, cv]
  · simp [updV, e]
theorem r_putR {idx ci a k b : Nat} {q : vw_C} (hd : decode M.2.1 pc = .ok (.putfield idx, 3)) (hF : FL M.1.cls idx ci q k) (ha : Al n a ci q.2.2) (hfin : (q.2.1 k).2.2.2 = false ∨ (M.1.name = "<init>" ∧ q.1 = M.1.cls)) (hty : (∃ t, tyT ci k = .array t) ∨ ∃ t, tyT ci k = .object t) (hb : b ≠ 0) (K : Wp g d M (pc + 3) L st bc bs n I J (up2 R a k b) Q) : Wp g d M pc L (.ref b :: .ref a :: st) bc bs n I J R Q := by
  refine putf_core (w := .ref b) (I' := I) (J' := J) (R' := up2 R a k b) hd hF ha hfin (fun g => by rcases hty with ⟨t, h⟩ | ⟨t, h⟩ <;> rw [h] <;> rfl) (fun g => by rcases hty with ⟨t, h⟩ | ⟨t, h⟩ <;> rw [h] <;> rfl) (fun _ _ => rfl) (fun _ _ => rfl) (fun x hx => up2_a R k b hx) (fun g j hj => ?_) K
  by_cases e : j = k
  · subst e
    rcases hty with ⟨t, h⟩ | ⟨t, h⟩ <;> simp [updV, h, cv, fvl, up2, rv, hb]
  · cases h : tyT ci j <;> simp [updV, e, fvl, up2, h]
end XF
end
section
/-! arrays, statics -/
theorem LAY_len (a : Nat) : (LAY a).2 ≤ 960 := by
  unfold LAY
  have h : ∀ q ∈ layL, q.2 ≤ 960 := by decide +kernel
  rw [List.getD_eq_getElem?_getD]
  cases e : layL[a]? with
  | none => exact Nat.le_of_ble_eq_true rfl
  | some q => exact h q (List.mem_of_getElem? e)
theorem Al.len {n a kd len : Nat} (h : Al n a kd len) : len ≤ 960 := by
  have := LAY_len a
  rw [h.1] at this
  exact this
theorem WR.ck {g : GP} {U : State} {H : Heap} {n : Nat} {I : TI} {J : TJ} {R : TR} (hW : WR g U H n I J R) {a kd len : Nat} (ha : Al n a kd len) : CellK g U H I J R a kd len := by
  have h := hW.2.2.1 a ha.2.1 ha.2.2
  rw [ha.1] at h
  exact h
theorem WR.arrI {g : GP} {U : State} {H : Heap} {n : Nat} {I : TI} {J : TJ} {R : TR} (hW : WR g U H n I J R) {a len : Nat} (ha : Al n a 8 len) : ∃ cA, H[ad g a]? = some (arrV cA len (fun j => .int (I a j))) ∧ ArrOfT U cA .int := by
  have h := hW.ck ha
  unfold CellK at h
  rw [if_pos rfl] at h
  exact h
theorem WR.arrZ {g : GP} {U : State} {H : Heap} {n : Nat} {I : TI} {J : TJ} {R : TR} (hW : WR g U H n I J R) {a len : Nat} (ha : Al n a 9 len) : ∃ cA, H[ad g a]? = some (arrV cA len (fun j => .int (I a j))) ∧ ArrOfT U cA .boolean := by
  have h := hW.ck ha
  unfold CellK at h
  rw [if_neg (by decide), if_pos rfl] at h
  exact h
theorem WR.arrR {g : GP} {U : State} {H : Heap} {n : Nat} {I : TI} {J : TJ} {R : TR} (hW : WR g U H n I J R) {a kd len : Nat} (ha : Al n a kd len) (hk : kd = 10 ∨ kd = 11 ∨ kd = 12) : ∃ (cA : ClassId) (ty : FieldType), ty.isReference = true ∧ H[ad g a]? = some (arrV cA len (fun j => rv g (R a j))) ∧ ArrOfT U cA ty := by
  have h := hW.ck ha
  unfold CellK at h
  rcases hk with rfl | rfl | rfl
  · rw [if_neg (by decide), if_neg (by decide), if_pos rfl] at h
    obtain ⟨cA, h1, h2⟩ := h
    exact ⟨cA, _, rfl, h1, h2⟩
  · rw [if_neg (by decide), if_neg (by decide), if_neg (by decide), if_pos rfl] at h
    obtain ⟨cA, h1, h2, -⟩ := h
    exact ⟨cA, _, rfl, h1, h2⟩
  · rw [if_neg (by decide), if_neg (by decide), if_neg (by decide), if_neg (by decide), if_pos rfl] at h
    obtain ⟨cA, h1, h2, -⟩ := h
    exact ⟨cA, _, rfl, h1, h2⟩
theorem WR.stat {g : GP} {U : State} {H : Heap} {n : Nat} {I : TI} {J : TJ} {R : TR} (hW : WR g U H n I J R) {a : Nat} {q : FieldType × Nat} (h : SL g a = some q) : ∃ cell : Cell, H[ad g a]? = some cell ∧ U.isArrayOf cell q.1 ∧ cell.vm ≠ .unknown ∧ q.2 ≤ cell.slots.size ∧ cell.slots.size.toInt32 = Int32.ofNat q.2 ∧ ∀ j : Nat, j < q.2 → cell.slots[j]? = some (.int (I a j)) := by
  obtain ⟨cell, h1, h2, h3, h4, h5, h6, -⟩ := hW.2.2.2 a q h
  have e : ad g a = gS g a := by unfold ad; rw [if_pos (SL_lt h)]
  refine ⟨cell, ?_, h2, h3, h4, h5, h6⟩
  rw [e, hW.2.1 _ (Array.getElem?_eq_some_iff.mp h1).1]
  exact h1
theorem in_nI {j len : Nat} (hj : j < len) (hl : len < 2 ^ 31) : ¬ (nI j < 0 ∨ len ≤ (nI j).toNatClampNeg) := nI_in hj hl
section XA
variable {g : GP} {d : Nat} {M : MD} {pc : Nat} {L st : List Value} {bc bs n : Nat} {I : TI} {J : TJ} {R : TR} {Q : TQ}
theorem r_iald {a j len : Nat} {x : Int32} (hd : decode M.2.1 pc = .ok (.iaload, 1)) (ha : Al n a 8 len) (hj : j < len) (hx : x = nI j) (K : Wp g d M (pc + 1) L (.int (I a j) :: st) bc bs n I J R Q) : Wp g d M pc L (.int x :: .ref a :: st) bc bs n I J R Q := by
  intro p e Rm s m args below meth c H locs cells slots ls C hW hL hlc hc hs
  subst hx
  have h960 := ha.len
  obtain ⟨cA, h1, h2⟩ := hW.arrI ha
  exact W.iald (v := .int (I a j)) C.1 C.2.1 h1 (h2 _ _) (fun q => by cases q) (by rw [arrV_size]; exact in_nI hj (by omega)) (by rw [nI_clamp (by omega), arrV_read _ _ hj]) rfl rfl hd (K p e Rm s m args below meth c H locs cells slots ls C hW hL hlc hc hs)
theorem r_zald {a j len : Nat} {x : Int32} (hd : decode M.2.1 pc = .ok (.baload, 1)) (ha : Al n a 9 len) (hj : j < len) (hx : x = nI j) (K : Wp g d M (pc + 1) L (.int (I a j) :: st) bc bs n I J R Q) : Wp g d M pc L (.int x :: .ref a :: st) bc bs n I J R Q := by
  intro p e Rm s m args below meth c H locs cells slots ls C hW hL hlc hc hs
  subst hx
  have h960 := ha.len
  obtain ⟨cA, h1, h2⟩ := hW.arrZ ha
  exact W.zald (v := .int (I a j)) C.1 C.2.1 h1 (h2 _ _) (fun q => by cases q) (by rw [arrV_size]; exact in_nI hj (by omega)) (by rw [nI_clamp (by omega), arrV_read _ _ hj]) rfl rfl hd (K p e Rm s m args below meth c H locs cells slots ls C hW hL hlc hc hs)
theorem r_aald {a j b kd len : Nat} {x : Int32} (hd : decode M.2.1 pc = .ok (.aaload, 1)) (ha : Al n a kd len) (hk : kd = 10 ∨ kd = 11 ∨ kd = 12) (hj : j < len) (hx : x = nI j) (hR : R a j = b) (hb : b ≠ 0) (K : Wp g d M (pc + 1) L (.ref b :: st) bc bs n I J R Q) : Wp g d M pc L (.int x :: .ref a :: st) bc bs n I J R Q := by
  intro p e Rm s m args below meth c H locs cells slots ls C hW hL hlc hc hs
  subst hx
  have h960 := ha.len
  obtain ⟨cA, ty, h0, h1, h2⟩ := hW.arrR ha hk
  exact W.aald (v := .ref (ad g b)) C.1 C.2.1 h1 (h2 _ _) h0 (fun q => by cases q) (by rw [arrV_size]; exact in_nI hj (by omega)) (by rw [nI_clamp (by omega), arrV_read _ _ hj, hR, rv, if_neg hb]) rfl rfl hd (K p e Rm s m args below meth c H locs cells slots ls C hW hL hlc hc hs)
theorem r_ialdS {a j len : Nat} {x : Int32} (hd : decode M.2.1 pc = .ok (.iaload, 1)) (hS : SL g a = some (.int, len)) (hj : j < len) (hl : len < 2 ^ 31) (hx : x = nI j) (K : Wp g d M (pc + 1) L (.int (I a j) :: st) bc bs n I J R Q) : Wp g d M pc L (.int x :: .ref a :: st) bc bs n I J R Q := by
  intro p e Rm s m args below meth c H locs cells slots ls C hW hL hlc hc hs
  subst hx
  obtain ⟨cell, h1, h2, h3, h4, h5, h6⟩ := hW.stat hS
  exact W.iald (v := .int (I a j)) C.1 C.2.1 h1 h2 h3 (by rw [nI_clamp (by omega)]; rintro (q | q); exact nI_pos (by omega) q; omega) (by rw [nI_clamp (by omega)]; exact h6 j hj) rfl rfl hd (K p e Rm s m args below meth c H locs cells slots ls C hW hL hlc hc hs)
theorem r_baldS {a j len : Nat} {x : Int32} (hd : decode M.2.1 pc = .ok (.baload, 1)) (hS : SL g a = some (.byte, len)) (hj : j < len) (hl : len < 2 ^ 31) (hx : x = nI j) (K : Wp g d M (pc + 1) L (.int (I a j) :: st) bc bs n I J R Q) : Wp g d M pc L (.int x :: .ref a :: st) bc bs n I J R Q := by
  intro p e Rm s m args below meth c H locs cells slots ls C hW hL hlc hc hs
  subst hx
  obtain ⟨cell, h1, h2, h3, h4, h5, h6⟩ := hW.stat hS
  exact W.bald (v := .int (I a j)) C.1 C.2.1 h1 h2 h3 (by rw [nI_clamp (by omega)]; rintro (q | q); exact nI_pos (by omega) q; omega) (by rw [nI_clamp (by omega)]; exact h6 j hj) rfl rfl hd (K p e Rm s m args below meth c H locs cells slots ls C hW hL hlc hc hs)
theorem r_alenS {a len : Nat} {ty : FieldType} (hd : decode M.2.1 pc = .ok (.arraylength, 1)) (hS : SL g a = some (ty, len)) (K : Wp g d M (pc + 1) L (.int (nI len) :: st) bc bs n I J R Q) : Wp g d M pc L (.ref a :: st) bc bs n I J R Q := by
  intro p e Rm s m args below meth c H locs cells slots ls C hW hL hlc hc hs
  obtain ⟨cell, h1, h2, h3, h4, h5, h6⟩ := hW.stat hS
  exact W.alen (n := nI len) C.1 C.2.1 h1 h2 h5 rfl rfl hd (K p e Rm s m args below meth c H locs cells slots ls C hW hL hlc hc hs)
theorem r_alen {a kd len : Nat} (hd : decode M.2.1 pc = .ok (.arraylength, 1)) (ha : Al n a kd len) (hk : kd = 8 ∨ kd = 9 ∨ kd = 10 ∨ kd = 11 ∨ kd = 12) (K : Wp g d M (pc + 1) L (.int (nI len) :: st) bc bs n I J R Q) : Wp g d M pc L (.ref a :: st) bc bs n I J R Q := by
  intro p e Rm s m args below meth c H locs cells slots ls C hW hL hlc hc hs
  have hg : ∃ (cell : Cell) (ty : FieldType), H[ad g a]? = some cell ∧ s.isArrayOf cell ty ∧ cell.slots.size.toInt32 = nI len := by
    rcases hk with rfl | rfl | h
    · obtain ⟨cA, h1, h2⟩ := hW.arrI ha
      exact ⟨_, _, h1, h2 _ _, by rw [arrV_size]; rfl⟩
    · obtain ⟨cA, h1, h2⟩ := hW.arrZ ha
      exact ⟨_, _, h1, h2 _ _, by rw [arrV_size]; rfl⟩
    · obtain ⟨cA, ty, h0, h1, h2⟩ := hW.arrR ha h
      exact ⟨_, _, h1, h2 _ _, by rw [arrV_size]; rfl⟩
  obtain ⟨cell, ty, h1, h2, h3⟩ := hg
  exact W.alen (n := nI len) C.1 C.2.1 h1 h2 h3 rfl rfl hd (K p e Rm s m args below meth c H locs cells slots ls C hW hL hlc hc hs)
theorem locs_app {g : GP} {locs : List Loc} {b k : Nat} (h : ∀ q ∈ locs, gA g q.base) (hb : gA g b) : ∀ q ∈ locs ++ [(⟨b, k⟩ : Loc)], gA g q.base := fun x hx => by
  rcases List.mem_append.mp hx with h1 | h1
  · exact h x h1
  · rw [List.mem_singleton.mp h1]; exact hb
theorem r_iast {a j len : Nat} {x y : Int32} (hd : decode M.2.1 pc = .ok (.iastore, 1)) (ha : Al n a 8 len) (hj : j < len) (hx : x = nI j) (K : Wp g d M (pc + 1) L st bc bs n (up2 I a j y) J R Q) : Wp g d M pc L (.int y :: .int x :: .ref a :: st) bc bs n I J R Q := by
  intro p e Rm s m args below meth c H locs cells slots ls C hW hL hlc hc hs
  subst hx
  have h960 := ha.len
  obtain ⟨cA, h1, h2⟩ := hW.arrI ha
  refine W.iast C.1 C.2.1 h1 (h2 _ _) (fun q => by cases q) (by rw [arrV_size]; exact in_nI hj (by omega)) rfl rfl hd (fun H1 e1 e2 e3 => ?_)
  refine K p e Rm s m args below meth c H1 _ cells slots ls C (hW.put ha.2.1 e2 e3 (fun b hb => up2_a I j y hb) (fun _ _ => rfl) (fun _ _ => rfl) ?_) hL (locs_app hlc (ad_ge ha.2.1)) hc hs
  rw [ha.1]
  unfold CellK
  rw [if_pos rfl]
  refine ⟨cA, ?_, h2⟩
  rw [e1, nI_clamp (by omega), arrV_store]
  congr 2
  funext q
  by_cases hq : q = j
  · simp [updV, up2, hq]
  · simp [updV, up2, hq]
theorem r_zast {a j len : Nat} {x y : Int32} (hd : decode M.2.1 pc = .ok (.bastore, 1)) (ha : Al n a 9 len) (hj : j < len) (hx : x = nI j) (hy : y = 0 ∨ y = 1) (K : Wp g d M (pc + 1) L st bc bs n (up2 I a j y) J R Q) : Wp g d M pc L (.int y :: .int x :: .ref a :: st) bc bs n I J R Q := by
  intro p e Rm s m args below meth c H locs cells slots ls C hW hL hlc hc hs
  subst hx
  have h960 := ha.len
  obtain ⟨cA, h1, h2⟩ := hW.arrZ ha
  refine W.zast C.1 C.2.1 h1 (h2 _ _) (fun q => by cases q) (by rw [arrV_size]; exact in_nI hj (by omega)) rfl rfl hd (fun H1 e1 e2 e3 => ?_)
  refine K p e Rm s m args below meth c H1 _ cells slots ls C (hW.put ha.2.1 e2 e3 (fun b hb => up2_a I j y hb) (fun _ _ => rfl) (fun _ _ => rfl) ?_) hL (locs_app hlc (ad_ge ha.2.1)) hc hs
  rw [ha.1]
  show CellK _ _ _ _ _ _ _ 9 len
  unfold CellK
  rw [if_neg (by decide), if_pos rfl]
  refine ⟨cA, ?_, h2⟩
  have hn : narrow .boolean (.int y) = .int y := by rcases hy with rfl | rfl <;> rfl
  rw [e1, nI_clamp (by omega), hn, arrV_store]
  congr 2
  funext q
  by_cases hq : q = j
  · simp [updV, up2, hq]
  · simp [updV, up2, hq]
theorem r_aast {a j b kd ci len : Nat} {q : vw_C} {x : Int32} (hd : decode M.2.1 pc = .ok (.aastore, 1)) (ha : Al n a kd len) (hj : j < len) (hx : x = nI j) (hb : Al n b ci q.2.2) (hq : CL ci q) (hk : (kd = 11 ∧ q.1 = RX4) ∨ (kd = 12 ∧ q.1 = RX2)) (K : Wp g d M (pc + 1) L st bc bs n I J (up2 R a j b) Q) : Wp g d M pc L (.ref b :: .int x :: .ref a :: st) bc bs n I J R Q := by
  intro p e Rm s m args below meth c H locs cells slots ls C hW hL hlc hc hs
  subst hx
  have h960 := ha.len
  have hA : ∃ cA, H[ad g a]? = some (arrV cA len (fun j => rv g (R a j))) ∧ ArrOfT s cA (.object q.1) ∧ va_RA s cA (.object q.1) := by
    have h := hW.ck ha
    unfold CellK at h
    rcases hk with ⟨rfl, h0⟩ | ⟨rfl, h0⟩
    · rw [if_neg (by decide), if_neg (by decide), if_neg (by decide), if_pos rfl] at h
      rw [h0]; exact h
    · rw [if_neg (by decide), if_neg (by decide), if_neg (by decide), if_neg (by decide), if_pos rfl] at h
      rw [h0]; exact h
  obtain ⟨cA, h1, h2, kA, comp, k1, k2, k3, k4⟩ := hA
  obtain ⟨cellV, g1, g2, g3, -⟩ := hW.obj hb hq.1
  have hcls := (C.2.2.2.2.2.2.1.1.1 ci q hq.2.1).2
  have hcomp : comp = (gD g).1 ci := Option.some.inj (k3.symm.trans hcls.1)
  subst hcomp
  obtain ⟨kC, hkC, -⟩ := hcls.2
  have hb0 : b ≠ 0 := by have := hb.2.1; omega
  refine W.aast C.1 C.2.1 h1 (fun q h => by cases h) (fun h => by cases h) k1 k2 rfl hkC ⟨fun z => nI_pos (by omega) z, by rw [arrV_size, nI_clamp (by omega)]; exact hj⟩ g1 (fun q h => by rw [g3] at h; cases h) (by rw [g2]; exact hkC) (by rw [g2]; exact va_assign hcls) rfl rfl hd (fun H1 e1 e2 e3 => ?_)
  refine K p e Rm s m args below meth c H1 _ cells slots ls C (hW.put ha.2.1 e2 e3 (fun _ _ => rfl) (fun _ _ => rfl) (fun x hx => up2_a R j b hx) ?_) hL (locs_app hlc (ad_ge ha.2.1)) hc hs
  have key : H1[ad g a]? = some (arrV cA len (fun j' => rv g (up2 R a j b a j'))) := by
    rw [e1, nI_clamp (by omega), arrV_store]
    congr 2
    funext q
    by_cases hq : q = j
    · simp [updV, up2, hq, rv, hb0]
    · simp [updV, up2, hq]
  rw [ha.1]
  show CellK _ _ _ _ _ _ _ kd len
  unfold CellK
  rcases hk with ⟨rfl, h0⟩ | ⟨rfl, h0⟩
  · rw [if_neg (by decide), if_neg (by decide), if_neg (by decide), if_pos rfl]
    rw [h0] at h2 k2 k3 k4
    exact ⟨cA, key, h2, kA, _, k1, k2, k3, k4⟩
  · rw [if_neg (by decide), if_neg (by decide), if_neg (by decide), if_neg (by decide), if_pos rfl]
    rw [h0] at h2 k2 k3 k4
    exact ⟨cA, key, h2, kA, _, k1, k2, k3, k4⟩
theorem gets_core {idx : Nat} {q : String × String × String × Value} {v : Value} (hd : decode M.2.1 pc = .ok (.getstatic idx, 3)) (hz : ∀ g, (q.1, q.2.1, q.2.2.1, cv g v) ∈ zsL g) (hlink : Cond.fieldLink M.1.cls idx q.1 q.2.1 q.2.2.1 ∈ GW) (K : Wp g d M (pc + 3) L (v :: st) bc bs n I J R Q) : Wp g d M pc L st bc bs n I J R Q := by
  intro p e Rm s m args below meth c H locs cells slots ls C hW hL hlc hc hs
  obtain ⟨cf, kf, fi, f, a, cell, h1, h2, h3, h4, h5, h6, h7, h8⟩ := C.2.2.2.2.2.2.1.2.1 _ (hz g)
  exact W.gets (v := cv g v) C.1 C.2.1 C.2.2.2.2.1 (GWb C hlink) h1 h2 h3 h4 (by rw [hW.2.1 a (Array.getElem?_eq_some_iff.mp h5).1]; exact h5) (fun e => by rw [e] at h6; cases h6) h7 rfl hd (K p e Rm s m args below meth c H locs cells slots ls C hW hL hlc hc hs)
theorem getsN_core {idx : Nat} {q : String × String × String × Value} {v : Value} (hd : decode M.2.1 pc = .ok (.getstatic idx, 3)) (hz : ∀ g, (q.1, q.2.1, q.2.2.1, cv g v) ∈ zsL g) (hlink : Cond.fieldLinkNest M.1.cls idx q.1 q.2.1 q.2.2.1 RX6 ∈ nestW) (K : Wp g d M (pc + 3) L (v :: st) bc bs n I J R Q) : Wp g d M pc L st bc bs n I J R Q := by
  intro p e Rm s m args below meth c H locs cells slots ls C hW hL hlc hc hs
  obtain ⟨cf, kf, fi, f, a, cell, h1, h2, h3, h4, h5, h6, h7, h8⟩ := C.2.2.2.2.2.2.1.2.1 _ (hz g)
  exact va_WgetsN (v := cv g v) C.1 C.2.1 C.2.2.2.2.1 (va_Nw.use rfl (C.2.2.2.2.2.2.1.2.2.2.2.1 _ hlink)) h1 h2 h3 h4 (by rw [hW.2.1 a (Array.getElem?_eq_some_iff.mp h5).1]; exact h5) (fun e => by rw [e] at h6; cases h6) h7 rfl hd (K p e Rm s m args below meth c H locs cells slots ls C hW hL hlc hc hs)
theorem r_getStr {idx i : Nat} {w : Value} {nm ds : String} (hd : decode M.2.1 pc = .ok (.getfield idx, 3)) (hi : i < 3) (hw : (nm = "coder" ∧ ds = "B" ∧ w = .int 0) ∨ (nm = "value" ∧ ds = "[B" ∧ w = .ref (9 + i))) (hlink : Cond.fieldLink M.1.cls idx "java/lang/String" nm ds ∈ GW) (K : Wp g d M (pc + 3) L (w :: st) bc bs n I J R Q) : Wp g d M pc L (.ref (6 + i) :: st) bc bs n I J R Q := by
  intro p e Rm s m args below meth c H locs cells slots ls C hW hL hlc hc hs
  obtain ⟨-, h1, h2⟩ := C.2.2.2.2.2.2.1.2.2.1 i hi
  have e6 : ad g (6 + i) = gS g (6 + i) := by unfold ad; rw [if_pos (by omega)]
  have e9 : ad g (9 + i) = gS g (9 + i) := by unfold ad; rw [if_pos (by omega)]
  have hOF : va_OF "java/lang/String" nm ds (cv g w) (gS g (6 + i)) (gA g) s (gH g) := by
    rcases hw with ⟨rfl, rfl, rfl⟩ | ⟨rfl, rfl, rfl⟩
    · exact h1
    · show va_OF _ _ _ (.ref (ad g (9 + i))) _ _ _ _
      rw [e9]; exact h2
  obtain ⟨cf, k, fi, f, cell, q1, q2, q3, q4, q5, q6⟩ := hOF
  show W p (gL g) e Rm s m args below meth c H locs cells slots _ (F0 m pc ls (.ref (ad g (6 + i)) :: st.map (cv g)))
  rw [e6]
  exact W.getf C.1 C.2.1 C.2.2.2.2.1 (GWb C hlink) q1 q2 (by rw [hW.2.1 _ (Array.getElem?_eq_some_iff.mp q3).1]; exact q3) q4 (v := cv g w) q5 rfl rfl hd (K p e Rm s m args below meth c H locs cells slots ls C hW hL hlc hc hs)
end XA
end
section
/-! calls: a walk from a method's entry is its contract; a call goes on behind it -/
def wsM (M : MD) : List Cond := .code M.1 M.2.1 M.2.2.1 M.2.2.2 :: GW
def rmD (d bc bs : Nat) : Room := { frames := d, cells := bc, slots := bs, locals := 64 * d }
def PcM (g : GP) (av : List Value) (n : Nat) (I : TI) (J : TJ) (R : TR) : Array Value → State → Prop := va_Pc (av.map (cv g)) (fun U => VOK g U ∧ WR g U U.heap n I J R)
def entL : List Value → List Value
  | [] => []
  | v :: vs => if v.category = 2 then v :: .null :: entL vs else v :: entL vs
def entry (M : MD) (av : List Value) : List Value := entL av ++ List.replicate (M.2.2.1 - (entL av).length) .null
theorem entL_cons (v : Value) (vs : List Value) : entL (v :: vs) = if v.category = 2 then v :: .null :: entL vs else v :: entL vs := rfl
theorem entL_len {g : GP} (hO : gO g = .null ∨ ∃ t, gO g = .ref t) (av : List Value) : (lg_sl (av.map (cv g))).length = (entL av).length := by
  induction av with
  | nil => rfl
  | cons v av ih =>
    have e : lg_sl ((v :: av).map (cv g)) = (if (cv g v).category = 2 then [.val (cv g v), .second] else [.val (cv g v)]) ++ lg_sl (av.map (cv g)) := rfl
    rw [e, List.length_append, ih, cv_cat hO, entL_cons]
    by_cases h : v.category = 2
    · rw [if_pos h, if_pos h]; simp; omega
    · rw [if_neg h, if_neg h]; simp; omega
theorem entL_args {g : GP} (hO : gO g = .null ∨ ∃ t, gO g = .ref t) : ∀ (av : List Value) (k i : Nat) (v : Value), (entL av)[i]? = some v → v ≠ .null → (k + i, cv g v) ∈ lv_args k (av.map (cv g))
  | [], k, i, v, h, _ => by simp [entL] at h
  | w :: av, k, i, v, h, hn => by
    have e : lv_args k ((w :: av).map (cv g)) = (k, cv g w) :: lv_args (if (cv g w).category = 2 then k + 2 else k + 1) (av.map (cv g)) := rfl
    rw [e, cv_cat hO]
    rw [entL_cons] at h
    by_cases hc : w.category = 2
    · rw [if_pos hc] at h ⊢
      rcases i with _ | _ | i
      · cases h; exact List.mem_cons_self
      · cases h; exact absurd rfl hn
      · have := entL_args hO av (k + 2) i v h hn
        rw [show k + (i + 1 + 1) = k + 2 + i by omega]
        exact List.mem_cons_of_mem _ this
    · rw [if_neg hc] at h ⊢
      rcases i with _ | i
      · cases h; exact List.mem_cons_self
      · have := entL_args hO av (k + 1) i v h hn
        rw [show k + (i + 1) = k + 1 + i by omega]
        exact List.mem_cons_of_mem _ this
theorem LO.entry {g : GP} (hO : gO g = .null ∨ ∃ t, gO g = .ref t) {M : MD} {av : List Value} (hlen : (entL av).length ≤ M.2.2.1) : LO g ((lg_sl (av.map (cv g)) ++ List.replicate (M.2.2.1 - (lg_sl (av.map (cv g))).length) Slot.unset).toArray) M.2.2.1 (entry M av) := by
  have h := lv_entry (av.map (cv g)) (n := M.2.2.1) (by rw [entL_len hO]; exact hlen)
  refine ⟨h.1, h.2.1, by simp only [Jvm.Pilot.CAHundredSightsLaw_law_r2727_48d368.entry, List.length_append, List.length_replicate]; omega, fun i v hi hv => ?_⟩
  have hm : (entL av)[i]? = some v := by
    unfold Jvm.Pilot.CAHundredSightsLaw_law_r2727_48d368.entry at hi
    by_cases hl : i < (entL av).length
    · rwa [List.getElem?_append_left hl] at hi
    · rw [List.getElem?_append_right (by omega)] at hi
      have := List.mem_of_getElem? hi
      exact absurd (List.mem_replicate.mp this).2 hv
  have := entL_args hO av 0 i v hm hv
  rw [Nat.zero_add] at this
  exact h.2.2 _ this
theorem met_of {g : GP} {d : Nat} {M : MD} {av : List Value} {bc bs n : Nat} {I : TI} {J : TJ} {R : TR} {Q : TQ} (hpl : plainName M.1.cls = true) (hlen : (entL av).length ≤ M.2.2.1) (h : Wp g d M 0 (entry M av) [] bc bs n I J R Q) : Met (gL g) M.1 (wsM M) (rmD d bc bs) (PcM g av n I J R) (PQ g Q) bc bs (gA g) := by
  refine Met.ofW (cc := M.2.1) (maxL := M.2.2.1) (ret := M.2.2.2) hpl rfl ?_
  intro p e s m args below meth c s₁ B hml hv
  obtain ⟨rfl, hV, hWR⟩ := hv
  have hO := hV.2.2.2.2.2.1
  have hts := atoms_spec (ws := wsM M) B.pre
  have hown : s.vm.findClass M.1.cls = some m.cls := findClass_of_methodNamed B.named
  rw [lg_entry_eq]
  exact h p e (rmD d bc bs) s m _ below meth c s.heap [] 0 0 _ ⟨B.exec, B.bytes, hml, B.returns, hown, fun w hw => hts w (List.mem_cons_of_mem _ hw), hV, B.notSynchronized, (name_of_methodNamed B.named B.method).1, Nat.le_refl _, Nat.le_refl _⟩ hWR (LO.entry hO hlen) (fun q hq => by cases hq) (Nat.le_of_eq (Nat.zero_add _)) (Nat.le_of_eq (Nat.zero_add _))
theorem GW_good {w : Cond} (h : w ∈ GW) : goodWord w = true := (List.mem_filter.mp h).2
/-- what a program says of a method: its code stands in the tables, its class may run, so many parameters -/
def MO (M : MD) (k : Nat) : Prop := plainName M.1.cls = true ∧ (M.1.cls ≠ "java/lang/invoke/MethodHandle" ∧ M.1.cls ≠ "java/lang/invoke/VarHandle" ∧ (parseMethodDescriptor M.1.desc).map (fun d => d.parameters.length) = some k) ∧ M.2.2.1 ≤ 45 ∧ Cond.code M.1 M.2.1 M.2.2.1 M.2.2.2 ∈ GW ∧ Cond.initialized M.1.cls ∈ GW
theorem blindM {g : GP} {av : List Value} {n : Nat} {I : TI} {J : TJ} {R : TR} : FrameBlind (PcM g av n I J R) := fun a U fr mk q => by
  obtain ⟨q0, q1, q2⟩ := q
  exact ⟨q0, VOK.same (s := U) (U := U.calling fr mk a) rfl q1, WR.moved (u := U) (U := U.calling fr mk a) (Vm.Alike.refl U.vm) q2⟩
theorem preM {g : GP} {av : List Value} {n : Nat} {I : TI} {J : TJ} {R : TR} {s : State} {H : Heap} (hV : VOK g s) (hW : WR g s H n I J R) : ∀ U : State, U.heap = H → s.WarmedH U.vm → PcM g av n I J R (av.map (cv g)).toArray U := fun U hU hw => ⟨rfl, hV.warm hw, by rw [hU]; exact hW.moved hw.alike⟩
theorem goodM {M : MD} {k : Nat} (h : MO M k) : GoodIn GW (wsM M) := fun w hw => by
  rcases List.mem_cons.mp hw with rfl | hw
  · exact ⟨h.2.2.2.1, good_of_word (GW_good h.2.2.2.1)⟩
  · exact ⟨hw, good_of_word (GW_good hw)⟩
theorem call_core {g : GP} {d : Nat} {M : MD} {pc : Nat} {L rest : List Value} {bc1 bs1 bc2 bs2 : Nat} {Q Q' : TQ} {p : Program} {e : Env} {Rm : Room} {s : State} {m : MethodId} {args : Array Value} {below : List Frame} {meth : Method} {c : Code} {H : Heap} {locs : List Loc} {cells slots : Nat} {ls : Array Slot} {st0 : List Value} {a : Array Value}
    (C : Cx g d M p Rm s m args meth c) (hL : LO g ls M.2.2.1 L) (hlc : ∀ q ∈ locs, gA g q.base) (hc : cells + (bc1 + bc2) ≤ Rm.cells) (hs : slots + (bs1 + bs2) ≤ Rm.slots)
    (hr : va_Run p (gL g) e Rm s m args below meth c H locs cells slots bc1 bs1 (F0 m pc ls st0) (rest.map (cv g)) (PQ g Q' a) (gA g))
    (K : ∀ (r : Option Value) (n' : Nat) (I' : TI) (J' : TJ) (R' : TR), Q' r n' I' J' R' → Wp g d M (pc + 3) L (r.toList ++ rest) bc2 bs2 n' I' J' R' Q) :
    W p (gL g) e Rm s m args below meth c H locs cells slots (MQ below (PQ g Q) args s Rm.cells Rm.slots (gA g)) (F0 m pc ls st0) := by
  intro T hT X
  obtain ⟨v, st₀, t, T', L2, h0, X', hL2, e1, e2, ⟨r, n', I', J', R', hv, hq, hw⟩, st⟩ := hr T hT X
  cases hv
  have hal : t.vm.Alike s.vm := by rw [← e2]; exact X'.warmed.alike.symm
  obtain ⟨t2, a1, b1⟩ := K r n' I' J' R' hq p e Rm s m args below meth c T'.heap (locs ++ L2) (cells + bc1) (slots + bs1) ls C (by rw [e1]; exact hw.moved hal) hL (fun q hq => by
    rcases List.mem_append.mp hq with h | h
    · exact hlc q h
    · exact hL2 q h) (by omega) (by omega) T' rfl X'
  refine ⟨t2, st t2 ?_, b1⟩
  have e3 : (r.toList ++ rest).map (cv g) = (r.map (cv g)).toList ++ rest.map (cv g) := by cases r <;> simp
  rw [e3] at a1
  exact a1
section XC
variable {g : GP} {d : Nat} {M M' : MD} {pc idx k : Nat} {L rest av : List Value} {bc1 bs1 bc2 bs2 n : Nat} {I : TI} {J : TJ} {R : TR} {Q Q' : TQ}
theorem callB_M {p : Program} {Rm : Room} {s : State} {m : MethodId} {args : Array Value} {meth : Method} {c : Code} (C : Cx g (d + 1) M p Rm s m args meth c) (hM : MO M' k) (hl : Cond.methodLink M.1.cls idx M'.1 ∈ GW) : CallB Rm s args M.1.cls idx M'.1 M'.2.1 M'.2.2.1 M'.2.2.2 (wsM M') (rmD d bc1 bs1) bc1 bs1 k := by
  have hx := C.2.2.2.2.2.2.2.2.2
  have h45 := hM.2.2.1
  exact callB_of k (fun w hw => GWb C hw) (goodM hM) rfl rfl rfl (GWb C hM.2.2.2.2) (GWb C hl) hM.2.1 ⟨by show d + 1 ≤ _; exact hx.1, by show 8 + (M'.2.2.1 + 11) + 64 * d ≤ _; have := hx.2; omega⟩
theorem callN_M {p : Program} {Rm : Room} {s : State} {m : MethodId} {args : Array Value} {meth : Method} {c : Code} (C : Cx g (d + 1) M p Rm s m args meth c) (hM : MO M' k) (hl : Cond.methodLinkNest M.1.cls idx M'.1 RX6 ∈ nestW) : va_CN Rm s args M.1.cls idx M'.1 RX6 M'.2.1 M'.2.2.1 M'.2.2.2 (wsM M') (rmD d bc1 bs1) bc1 bs1 k := by
  have hx := C.2.2.2.2.2.2.2.2.2
  have h45 := hM.2.2.1
  exact va_cnB k (fun w hw => GWb C hw) (goodM hM) rfl rfl rfl (C.2.2.2.2.2.2.1.2.2.2.2.1 _ hl) (GWb C hM.2.2.2.2) hM.2.1 ⟨by show d + 1 ≤ _; exact hx.1, by show 8 + (M'.2.2.1 + 11) + 64 * d ≤ _; have := hx.2; omega⟩
theorem r_callS (hd : decode M.2.1 pc = .ok (.invokestatic idx, 3)) (hM : MO M' k) (hl : Cond.methodLink M.1.cls idx M'.1 ∈ GW) (hst : Cond.static M'.1 ∈ GW) (hk : av.length = k) (hlen : (entL av).length ≤ M'.2.2.1) (h8 : (rest.map fun v => v.category).sum ≤ 8) (h : Wp g d M' 0 (entry M' av) [] bc1 bs1 n I J R Q')
    (K : ∀ (r : Option Value) (n' : Nat) (I' : TI) (J' : TJ) (R' : TR), Q' r n' I' J' R' → Wp g (d + 1) M (pc + 3) L (r.toList ++ rest) bc2 bs2 n' I' J' R' Q) : Wp g (d + 1) M pc L (av.reverse ++ rest) (bc1 + bc2) (bs1 + bs2) n I J R Q := by
  intro p e Rm s m args below meth c H locs cells slots ls C hW hL hlc hc hs
  have hV := C.2.2.2.2.2.2.1
  refine call_core (a := (av.map (cv g)).toArray) C hL hlc hc hs (va_runS (As := av.map (cv g)) ⟨C.1, C.2.1, C.2.2.1, C.2.2.2.2.1, fun w hw => GWb C hw⟩ (met_of hM.1 hlen h) ⟨callB_M C hM hl, GWb C hst⟩ ⟨blindM, preM hV hW⟩ rfl (by rw [List.length_map]; exact hk) hL.1 (by show (av.reverse ++ rest).map (cv g) = _; simp) ?_ hd ⟨by omega, by omega⟩) K
  show 2 * 0 + _ ≤ 8
  rw [cv_sum hV.2.2.2.2.2.1]
  omega
theorem r_callSN (hd : decode M.2.1 pc = .ok (.invokestatic idx, 3)) (hM : MO M' k) (hl : Cond.methodLinkNest M.1.cls idx M'.1 RX6 ∈ nestW) (hst : Cond.static M'.1 ∈ GW) (hk : av.length = k) (hlen : (entL av).length ≤ M'.2.2.1) (h8 : (rest.map fun v => v.category).sum ≤ 8) (h : Wp g d M' 0 (entry M' av) [] bc1 bs1 n I J R Q')
    (K : ∀ (r : Option Value) (n' : Nat) (I' : TI) (J' : TJ) (R' : TR), Q' r n' I' J' R' → Wp g (d + 1) M (pc + 3) L (r.toList ++ rest) bc2 bs2 n' I' J' R' Q) : Wp g (d + 1) M pc L (av.reverse ++ rest) (bc1 + bc2) (bs1 + bs2) n I J R Q := by
  intro p e Rm s m args below meth c H locs cells slots ls C hW hL hlc hc hs
  have hV := C.2.2.2.2.2.2.1
  refine call_core (a := (av.map (cv g)).toArray) C hL hlc hc hs (va_runSN (host := RX6) (As := av.map (cv g)) ⟨C.1, C.2.1, C.2.2.1, C.2.2.2.2.1, fun w hw => GWb C hw⟩ (met_of hM.1 hlen h) ⟨callN_M C hM hl, GWb C hst, trivial⟩ ⟨blindM, preM hV hW⟩ rfl (by rw [List.length_map]; exact hk) hL.1 (by show (av.reverse ++ rest).map (cv g) = _; simp) ?_ hd ⟨by omega, by omega⟩) K
  show 2 * 0 + _ ≤ 8
  rw [cv_sum hV.2.2.2.2.2.1]
  omega
theorem recvM {b ci : Nat} {q : vw_C} {s : State} {H : Heap} (hV : VOK g s) (hW : WR g s H n I J R) (hb : Al n b ci q.2.2) (hq : CL ci q) : ∃ cellB : Cell, H[ad g b]? = some cellB ∧ cellB.vm.isStatics = false ∧ s.vm.findClass q.1 = some cellB.cls := by
  obtain ⟨cell, g1, g2, g3, -⟩ := hW.obj hb hq.1
  exact ⟨cell, g1, by rw [g3]; rfl, by rw [g2]; exact (hV.1.1 ci q hq.2.1).2.1⟩
theorem r_callV {b ci : Nat} {q : vw_C} (hd : decode M.2.1 pc = .ok (.invokevirtual idx, 3)) (hM : MO M' k) (hl : Cond.methodLink M.1.cls idx M'.1 ∈ GW) (hin : Cond.instanceMethod M'.1 ∈ GW) (hse : Cond.selects M'.1.cls M'.1 M'.1 ∈ GW) (hb : Al n b ci q.2.2) (hq : CL ci q) (hcl : q.1 = M'.1.cls) (hk : av.length = k) (hlen : (entL (.ref b :: av)).length ≤ M'.2.2.1) (h8 : (rest.map fun v => v.category).sum ≤ 8) (h : Wp g d M' 0 (entry M' (.ref b :: av)) [] bc1 bs1 n I J R Q')
    (K : ∀ (r : Option Value) (n' : Nat) (I' : TI) (J' : TJ) (R' : TR), Q' r n' I' J' R' → Wp g (d + 1) M (pc + 3) L (r.toList ++ rest) bc2 bs2 n' I' J' R' Q) : Wp g (d + 1) M pc L (av.reverse ++ .ref b :: rest) (bc1 + bc2) (bs1 + bs2) n I J R Q := by
  intro p e Rm s m args below meth c H locs cells slots ls C hW hL hlc hc hs
  have hV := C.2.2.2.2.2.2.1
  refine call_core (a := ((.ref b :: av).map (cv g)).toArray) C hL hlc hc hs (va_runV (C := M'.1.cls) (b := ad g b) (As := av.map (cv g)) ⟨C.1, C.2.1, C.2.2.1, C.2.2.2.2.1, fun w hw => GWb C hw⟩ (met_of hM.1 hlen h) ⟨callB_M C hM hl, GWb C hin, GWb C hse⟩ ⟨blindM, by rw [← hcl]; exact recvM hV hW hb hq, preM (av := .ref b :: av) hV hW⟩ rfl (by rw [List.length_map]; exact hk) hL.1 (by show (av.reverse ++ .ref b :: rest).map (cv g) = _; simp [cv]) ?_ hd ⟨by omega, by omega⟩) K
  show 2 * 0 + _ ≤ 8
  rw [cv_sum hV.2.2.2.2.2.1]
  omega
theorem r_callVS {i : Nat} (hd : decode M.2.1 pc = .ok (.invokevirtual idx, 3)) (hM : MO M' k) (hl : Cond.methodLink M.1.cls idx M'.1 ∈ GW) (hin : Cond.instanceMethod M'.1 ∈ GW) (hse : Cond.selects M'.1.cls M'.1 M'.1 ∈ GW) (hi : i < 3) (hcl : "java/lang/String" = M'.1.cls) (hk : av.length = k) (hlen : (entL (.ref (6 + i) :: av)).length ≤ M'.2.2.1) (h8 : (rest.map fun v => v.category).sum ≤ 8) (h : Wp g d M' 0 (entry M' (.ref (6 + i) :: av)) [] bc1 bs1 n I J R Q')
    (K : ∀ (r : Option Value) (n' : Nat) (I' : TI) (J' : TJ) (R' : TR), Q' r n' I' J' R' → Wp g (d + 1) M (pc + 3) L (r.toList ++ rest) bc2 bs2 n' I' J' R' Q) : Wp g (d + 1) M pc L (av.reverse ++ .ref (6 + i) :: rest) (bc1 + bc2) (bs1 + bs2) n I J R Q := by
  intro p e Rm s m args below meth c H locs cells slots ls C hW hL hlc hc hs
  have hV := C.2.2.2.2.2.2.1
  have hrv : ∃ cellB : Cell, H[ad g (6 + i)]? = some cellB ∧ cellB.vm.isStatics = false ∧ s.vm.findClass "java/lang/String" = some cellB.cls := by
    obtain ⟨⟨cell, h1, h2, h3, -⟩, -, -⟩ := hV.2.2.1 i hi
    have e6 : ad g (6 + i) = gS g (6 + i) := by unfold ad; rw [if_pos (by omega)]
    exact ⟨cell, by rw [e6, hW.2.1 _ (Array.getElem?_eq_some_iff.mp h1).1]; exact h1, h2, h3⟩
  refine call_core (a := ((.ref (6 + i) :: av).map (cv g)).toArray) C hL hlc hc hs (va_runV (C := M'.1.cls) (b := ad g (6 + i)) (As := av.map (cv g)) ⟨C.1, C.2.1, C.2.2.1, C.2.2.2.2.1, fun w hw => GWb C hw⟩ (met_of hM.1 hlen h) ⟨callB_M C hM hl, GWb C hin, GWb C hse⟩ ⟨blindM, by rw [← hcl]; exact hrv, preM (av := .ref (6 + i) :: av) hV hW⟩ rfl (by rw [List.length_map]; exact hk) hL.1 (by show (av.reverse ++ .ref (6 + i) :: rest).map (cv g) = _; simp [cv]) ?_ hd ⟨by omega, by omega⟩) K
  show 2 * 0 + _ ≤ 8
  rw [cv_sum hV.2.2.2.2.2.1]
  omega
theorem r_callI {b : Nat} (hd : decode M.2.1 pc = .ok (.invokespecial idx, 3)) (hM : MO M' k) (hr : M'.2.2.2 = none) (hnm : M'.1.name = "<init>") (hl : Cond.methodLink M.1.cls idx M'.1 ∈ GW) (hin : Cond.instanceMethod M'.1 ∈ GW) (hk : av.length = k) (hlen : (entL (.ref b :: av)).length ≤ M'.2.2.1) (h8 : (rest.map fun v => v.category).sum ≤ 8) (h : Wp g d M' 0 (entry M' (.ref b :: av)) [] bc1 bs1 n I J R Q')
    (K : ∀ (r : Option Value) (n' : Nat) (I' : TI) (J' : TJ) (R' : TR), Q' r n' I' J' R' → Wp g (d + 1) M (pc + 3) L (r.toList ++ rest) bc2 bs2 n' I' J' R' Q) : Wp g (d + 1) M pc L (av.reverse ++ .ref b :: rest) (bc1 + bc2) (bs1 + bs2) n I J R Q := by
  intro p e Rm s m args below meth c H locs cells slots ls C hW hL hlc hc hs
  have hV := C.2.2.2.2.2.2.1
  have hcb := callB_M (bc1 := bc1) (bs1 := bs1) C hM hl
  rw [hr] at hcb
  refine call_core (a := ((.ref b :: av).map (cv g)).toArray) C hL hlc hc hs (va_runI (b := ad g b) (As := av.map (cv g)) ⟨C.1, C.2.1, C.2.2.1, C.2.2.2.2.1, fun w hw => GWb C hw⟩ (met_of hM.1 hlen h) ⟨hcb, hnm, GWb C hin⟩ ⟨blindM, preM (av := .ref b :: av) hV hW⟩ rfl (by rw [List.length_map]; exact hk) hL.1 (by show (av.reverse ++ .ref b :: rest).map (cv g) = _; simp [cv]) ?_ hd ⟨by omega, by omega⟩) K
  show 2 * 0 + _ ≤ 8
  rw [cv_sum hV.2.2.2.2.2.1]
  omega
theorem r_callIN {b : Nat} (hd : decode M.2.1 pc = .ok (.invokespecial idx, 3)) (hM : MO M' k) (hr : M'.2.2.2 = none) (hnm : M'.1.name = "<init>") (hl : Cond.methodLinkNest M.1.cls idx M'.1 RX6 ∈ nestW) (hin : Cond.instanceMethod M'.1 ∈ GW) (hk : av.length = k) (hlen : (entL (.ref b :: av)).length ≤ M'.2.2.1) (h8 : (rest.map fun v => v.category).sum ≤ 8) (h : Wp g d M' 0 (entry M' (.ref b :: av)) [] bc1 bs1 n I J R Q')
    (K : ∀ (r : Option Value) (n' : Nat) (I' : TI) (J' : TJ) (R' : TR), Q' r n' I' J' R' → Wp g (d + 1) M (pc + 3) L (r.toList ++ rest) bc2 bs2 n' I' J' R' Q) : Wp g (d + 1) M pc L (av.reverse ++ .ref b :: rest) (bc1 + bc2) (bs1 + bs2) n I J R Q := by
  intro p e Rm s m args below meth c H locs cells slots ls C hW hL hlc hc hs
  have hV := C.2.2.2.2.2.2.1
  have hcb := callN_M (bc1 := bc1) (bs1 := bs1) C hM hl
  rw [hr] at hcb
  refine call_core (a := ((.ref b :: av).map (cv g)).toArray) C hL hlc hc hs (va_runIN (host := RX6) (b := ad g b) (As := av.map (cv g)) ⟨C.1, C.2.1, C.2.2.1, C.2.2.2.2.1, fun w hw => GWb C hw⟩ (met_of hM.1 hlen h) ⟨hcb, hnm, GWb C hin⟩ ⟨blindM, preM (av := .ref b :: av) hV hW⟩ rfl (by rw [List.length_map]; exact hk) hL.1 (by show (av.reverse ++ .ref b :: rest).map (cv g) = _; simp [cv]) ?_ hd ⟨by omega, by omega⟩) K
  show 2 * 0 + _ ≤ 8
  rw [cv_sum hV.2.2.2.2.2.1]
  omega
theorem r_objInit {b bc bs : Nat} (hd : decode M.2.1 pc = .ok (.invokespecial idx, 3)) (hl : Cond.methodLink M.1.cls idx Lib.objectInit ∈ GW) (hin : Cond.instanceMethod Lib.objectInit ∈ GW) (hco : Cond.code Lib.objectInit ⟨#[0xb1]⟩ 1 none ∈ GW) (h8 : (rest.map fun v => v.category).sum ≤ 8) (K : Wp g (d + 1) M (pc + 3) L rest bc bs n I J R Q) : Wp g (d + 1) M pc L (.ref b :: rest) bc bs n I J R Q := by
  intro p e Rm s m args below meth c H locs cells slots ls C hW hL hlc hc hs
  have hV := C.2.2.2.2.2.2.1
  have hx := C.2.2.2.2.2.2.2.2.2
  refine W.objInit C.1 C.2.1 C.2.2.2.2.1 (GWb C hl) (GWb C hin) (GWb C hco) rfl (by rw [C.2.2.1]; exact hL.1) rfl hd (by omega) ?_ (K p e Rm s m args below meth c H locs cells slots ls C hW hL hlc hc hs)
  show 2 * 0 + _ + 12 ≤ _
  rw [cv_sum hV.2.2.2.2.2.1]
  omega
end XC
end
section
theorem last_dummy : True := trivial
end

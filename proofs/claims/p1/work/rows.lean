section
-- ===== PART A: goes FIRST, ahead of the names: the tables' words, and 'selects' of the private methods out of them =====
/-- a private method of a class that the tables say can be made, by its rows of tables_1 -/
def lw_okq (q : MethodName × Nat) : Prop := (q.1.cls ≠ "java/lang/invoke/MethodHandle" ∧ q.1.cls ≠ "java/lang/invoke/VarHandle") ∧ Cond.instantiable q.1.cls q.2 ∈ tables_1 ∧ Cond.privateMethod q.1 ∈ tables_1 ∧ Cond.instanceMethod q.1 ∈ tables_1
theorem lw_p0 : lw_okq (⟨"ZoeStrips", "refuseBad", "(I)I"⟩, 18) := ⟨⟨by decide +kernel, by decide +kernel⟩, List.mem_of_getElem? (i := 20) (by decide +kernel), List.mem_of_getElem? (i := 319) (by decide +kernel), List.mem_of_getElem? (i := 320) (by decide +kernel)⟩
theorem lw_p1 : lw_okq (⟨"ZoeStrips", "refuseFull", "()I"⟩, 18) := ⟨⟨by decide +kernel, by decide +kernel⟩, List.mem_of_getElem? (i := 20) (by decide +kernel), List.mem_of_getElem? (i := 352) (by decide +kernel), List.mem_of_getElem? (i := 353) (by decide +kernel)⟩
theorem lw_p2 : lw_okq (⟨"ZoeStrips$Text", "splitTokens", "()I"⟩, 8) := ⟨⟨by decide +kernel, by decide +kernel⟩, List.mem_of_getElem? (i := 151) (by decide +kernel), List.mem_of_getElem? (i := 392) (by decide +kernel), List.mem_of_getElem? (i := 393) (by decide +kernel)⟩
theorem lw_p3 : lw_okq (⟨"ZoeStrips$Text", "nameTokens", "(I)V"⟩, 8) := ⟨⟨by decide +kernel, by decide +kernel⟩, List.mem_of_getElem? (i := 151) (by decide +kernel), List.mem_of_getElem? (i := 402) (by decide +kernel), List.mem_of_getElem? (i := 403) (by decide +kernel)⟩
theorem lw_p4 : lw_okq (⟨"ZoeStrips$Text", "tokenFrom", "(II)I"⟩, 8) := ⟨⟨by decide +kernel, by decide +kernel⟩, List.mem_of_getElem? (i := 151) (by decide +kernel), List.mem_of_getElem? (i := 406) (by decide +kernel), List.mem_of_getElem? (i := 407) (by decide +kernel)⟩
theorem lw_p5 : lw_okq (⟨"ZoeStrips$Text", "wordFrom", "(II)I"⟩, 8) := ⟨⟨by decide +kernel, by decide +kernel⟩, List.mem_of_getElem? (i := 151) (by decide +kernel), List.mem_of_getElem? (i := 410) (by decide +kernel), List.mem_of_getElem? (i := 411) (by decide +kernel)⟩
theorem lw_p6 : lw_okq (⟨"ZoeStrips$Text", "isWord", "(Ljava/lang/String;II)Z"⟩, 8) := ⟨⟨by decide +kernel, by decide +kernel⟩, List.mem_of_getElem? (i := 151) (by decide +kernel), List.mem_of_getElem? (i := 415) (by decide +kernel), List.mem_of_getElem? (i := 416) (by decide +kernel)⟩
theorem lw_p7 : lw_okq (⟨"ZoeStrips$Text", "numberFrom", "(II)I"⟩, 8) := ⟨⟨by decide +kernel, by decide +kernel⟩, List.mem_of_getElem? (i := 151) (by decide +kernel), List.mem_of_getElem? (i := 471) (by decide +kernel), List.mem_of_getElem? (i := 472) (by decide +kernel)⟩
theorem lw_p8 : lw_okq (⟨"ZoeStrips$Text", "token", "()I"⟩, 8) := ⟨⟨by decide +kernel, by decide +kernel⟩, List.mem_of_getElem? (i := 151) (by decide +kernel), List.mem_of_getElem? (i := 475) (by decide +kernel), List.mem_of_getElem? (i := 476) (by decide +kernel)⟩
theorem lw_p9 : lw_okq (⟨"ZoeStrips$Text", "takeDrum", "()Z"⟩, 8) := ⟨⟨by decide +kernel, by decide +kernel⟩, List.mem_of_getElem? (i := 151) (by decide +kernel), List.mem_of_getElem? (i := 479) (by decide +kernel), List.mem_of_getElem? (i := 480) (by decide +kernel)⟩
theorem lw_p10 : lw_okq (⟨"ZoeStrips$Text", "takeNumber", "(II)Z"⟩, 8) := ⟨⟨by decide +kernel, by decide +kernel⟩, List.mem_of_getElem? (i := 151) (by decide +kernel), List.mem_of_getElem? (i := 483) (by decide +kernel), List.mem_of_getElem? (i := 484) (by decide +kernel)⟩
theorem lw_p11 : lw_okq (⟨"ZoeStrips$Text", "value", "()I"⟩, 8) := ⟨⟨by decide +kernel, by decide +kernel⟩, List.mem_of_getElem? (i := 151) (by decide +kernel), List.mem_of_getElem? (i := 487) (by decide +kernel), List.mem_of_getElem? (i := 488) (by decide +kernel)⟩
theorem lw_p12 : lw_okq (⟨"ZoeStrips$Text", "takeStop", "()Z"⟩, 8) := ⟨⟨by decide +kernel, by decide +kernel⟩, List.mem_of_getElem? (i := 151) (by decide +kernel), List.mem_of_getElem? (i := 493) (by decide +kernel), List.mem_of_getElem? (i := 494) (by decide +kernel)⟩
theorem lw_p13 : lw_okq (⟨"ZoeStrips$Text", "fault", "()I"⟩, 8) := ⟨⟨by decide +kernel, by decide +kernel⟩, List.mem_of_getElem? (i := 151) (by decide +kernel), List.mem_of_getElem? (i := 497) (by decide +kernel), List.mem_of_getElem? (i := 498) (by decide +kernel)⟩
theorem lw_p14 : lw_okq (⟨"ZoeStrips$Text", "takeItem", "()Z"⟩, 8) := ⟨⟨by decide +kernel, by decide +kernel⟩, List.mem_of_getElem? (i := 151) (by decide +kernel), List.mem_of_getElem? (i := 501) (by decide +kernel), List.mem_of_getElem? (i := 502) (by decide +kernel)⟩
theorem lw_p15 : lw_okq (⟨"ZoeStrips$Text", "takeDraw", "()Z"⟩, 8) := ⟨⟨by decide +kernel, by decide +kernel⟩, List.mem_of_getElem? (i := 151) (by decide +kernel), List.mem_of_getElem? (i := 505) (by decide +kernel), List.mem_of_getElem? (i := 506) (by decide +kernel)⟩
def lw_privs_1 : List (MethodName × Nat) := [(⟨"ZoeStrips", "refuseBad", "(I)I"⟩, 18), (⟨"ZoeStrips", "refuseFull", "()I"⟩, 18), (⟨"ZoeStrips$Text", "splitTokens", "()I"⟩, 8), (⟨"ZoeStrips$Text", "nameTokens", "(I)V"⟩, 8), (⟨"ZoeStrips$Text", "tokenFrom", "(II)I"⟩, 8), (⟨"ZoeStrips$Text", "wordFrom", "(II)I"⟩, 8), (⟨"ZoeStrips$Text", "isWord", "(Ljava/lang/String;II)Z"⟩, 8), (⟨"ZoeStrips$Text", "numberFrom", "(II)I"⟩, 8), (⟨"ZoeStrips$Text", "token", "()I"⟩, 8), (⟨"ZoeStrips$Text", "takeDrum", "()Z"⟩, 8), (⟨"ZoeStrips$Text", "takeNumber", "(II)Z"⟩, 8), (⟨"ZoeStrips$Text", "value", "()I"⟩, 8), (⟨"ZoeStrips$Text", "takeStop", "()Z"⟩, 8), (⟨"ZoeStrips$Text", "fault", "()I"⟩, 8), (⟨"ZoeStrips$Text", "takeItem", "()Z"⟩, 8), (⟨"ZoeStrips$Text", "takeDraw", "()Z"⟩, 8)]
theorem lw_r1 : ∀ q ∈ lw_privs_1, lw_okq q := List.forall_mem_cons.mpr ⟨lw_p0, List.forall_mem_cons.mpr ⟨lw_p1, List.forall_mem_cons.mpr ⟨lw_p2, List.forall_mem_cons.mpr ⟨lw_p3, List.forall_mem_cons.mpr ⟨lw_p4, List.forall_mem_cons.mpr ⟨lw_p5, List.forall_mem_cons.mpr ⟨lw_p6, List.forall_mem_cons.mpr ⟨lw_p7, List.forall_mem_cons.mpr ⟨lw_p8, List.forall_mem_cons.mpr ⟨lw_p9, List.forall_mem_cons.mpr ⟨lw_p10, List.forall_mem_cons.mpr ⟨lw_p11, List.forall_mem_cons.mpr ⟨lw_p12, List.forall_mem_cons.mpr ⟨lw_p13, List.forall_mem_cons.mpr ⟨lw_p14, List.forall_mem_cons.mpr ⟨lw_p15, fun _ h => absurd h List.not_mem_nil⟩⟩⟩⟩⟩⟩⟩⟩⟩⟩⟩⟩⟩⟩⟩⟩
theorem lw_p16 : lw_okq (⟨"ZoeStrips$Past", "dropOldest", "()V"⟩, 2) := ⟨⟨by decide +kernel, by decide +kernel⟩, List.mem_of_getElem? (i := 75) (by decide +kernel), List.mem_of_getElem? (i := 591) (by decide +kernel), List.mem_of_getElem? (i := 592) (by decide +kernel)⟩
theorem lw_p17 : lw_okq (⟨"ZoeStrips", "refuseNo", "()I"⟩, 18) := ⟨⟨by decide +kernel, by decide +kernel⟩, List.mem_of_getElem? (i := 20) (by decide +kernel), List.mem_of_getElem? (i := 608) (by decide +kernel), List.mem_of_getElem? (i := 609) (by decide +kernel)⟩
theorem lw_p18 : lw_okq (⟨"ZoeStrips", "isFrame", "(I)Z"⟩, 18) := ⟨⟨by decide +kernel, by decide +kernel⟩, List.mem_of_getElem? (i := 20) (by decide +kernel), List.mem_of_getElem? (i := 616) (by decide +kernel), List.mem_of_getElem? (i := 617) (by decide +kernel)⟩
theorem lw_p19 : lw_okq (⟨"ZoeStrips", "isEye", "(I)Z"⟩, 18) := ⟨⟨by decide +kernel, by decide +kernel⟩, List.mem_of_getElem? (i := 20) (by decide +kernel), List.mem_of_getElem? (i := 641) (by decide +kernel), List.mem_of_getElem? (i := 642) (by decide +kernel)⟩
theorem lw_p20 : lw_okq (⟨"ZoeStrips", "tryFlashes", "(II)V"⟩, 18) := ⟨⟨by decide +kernel, by decide +kernel⟩, List.mem_of_getElem? (i := 20) (by decide +kernel), List.mem_of_getElem? (i := 653) (by decide +kernel), List.mem_of_getElem? (i := 654) (by decide +kernel)⟩
theorem lw_p21 : lw_okq (⟨"ZoeStrips", "startTrial", "(I)V"⟩, 18) := ⟨⟨by decide +kernel, by decide +kernel⟩, List.mem_of_getElem? (i := 20) (by decide +kernel), List.mem_of_getElem? (i := 657) (by decide +kernel), List.mem_of_getElem? (i := 658) (by decide +kernel)⟩
theorem lw_p22 : lw_okq (⟨"ZoeStrips", "trialIsAsNow", "()Z"⟩, 18) := ⟨⟨by decide +kernel, by decide +kernel⟩, List.mem_of_getElem? (i := 20) (by decide +kernel), List.mem_of_getElem? (i := 672) (by decide +kernel), List.mem_of_getElem? (i := 673) (by decide +kernel)⟩
theorem lw_p23 : lw_okq (⟨"ZoeStrips", "standsStill", "(II)Z"⟩, 18) := ⟨⟨by decide +kernel, by decide +kernel⟩, List.mem_of_getElem? (i := 20) (by decide +kernel), List.mem_of_getElem? (i := 680) (by decide +kernel), List.mem_of_getElem? (i := 681) (by decide +kernel)⟩
theorem lw_p24 : lw_okq (⟨"ZoeStrips$Strip", "fillCosts", "([III)V"⟩, 3) := ⟨⟨by decide +kernel, by decide +kernel⟩, List.mem_of_getElem? (i := 188) (by decide +kernel), List.mem_of_getElem? (i := 698) (by decide +kernel), List.mem_of_getElem? (i := 699) (by decide +kernel)⟩
theorem lw_p25 : lw_okq (⟨"ZoeStrips$Strip", "bestBeside", "(II)I"⟩, 3) := ⟨⟨by decide +kernel, by decide +kernel⟩, List.mem_of_getElem? (i := 188) (by decide +kernel), List.mem_of_getElem? (i := 707) (by decide +kernel), List.mem_of_getElem? (i := 708) (by decide +kernel)⟩
theorem lw_p26 : lw_okq (⟨"ZoeStrips$Strip", "cost", "(II)I"⟩, 3) := ⟨⟨by decide +kernel, by decide +kernel⟩, List.mem_of_getElem? (i := 188) (by decide +kernel), List.mem_of_getElem? (i := 712) (by decide +kernel), List.mem_of_getElem? (i := 713) (by decide +kernel)⟩
theorem lw_p27 : lw_okq (⟨"ZoeStrips$Beginnings", "fillPassed", "(I)V"⟩, 3) := ⟨⟨by decide +kernel, by decide +kernel⟩, List.mem_of_getElem? (i := 206) (by decide +kernel), List.mem_of_getElem? (i := 739) (by decide +kernel), List.mem_of_getElem? (i := 740) (by decide +kernel)⟩
theorem lw_p28 : lw_okq (⟨"ZoeStrips$Beginnings", "fits", "(ILZoeStrips$Show;)Z"⟩, 3) := ⟨⟨by decide +kernel, by decide +kernel⟩, List.mem_of_getElem? (i := 206) (by decide +kernel), List.mem_of_getElem? (i := 745) (by decide +kernel), List.mem_of_getElem? (i := 746) (by decide +kernel)⟩
theorem lw_p29 : lw_okq (⟨"ZoeStrips$Beginnings", "drawingAt", "(IILZoeStrips$Show;)I"⟩, 3) := ⟨⟨by decide +kernel, by decide +kernel⟩, List.mem_of_getElem? (i := 206) (by decide +kernel), List.mem_of_getElem? (i := 754) (by decide +kernel), List.mem_of_getElem? (i := 755) (by decide +kernel)⟩
theorem lw_p30 : lw_okq (⟨"ZoeStrips", "eyeKinds", "(I)I"⟩, 18) := ⟨⟨by decide +kernel, by decide +kernel⟩, List.mem_of_getElem? (i := 20) (by decide +kernel), List.mem_of_getElem? (i := 798) (by decide +kernel), List.mem_of_getElem? (i := 799) (by decide +kernel)⟩
theorem lw_p31 : lw_okq (⟨"ZoeStrips", "eyeFits", "(II)Z"⟩, 18) := ⟨⟨by decide +kernel, by decide +kernel⟩, List.mem_of_getElem? (i := 20) (by decide +kernel), List.mem_of_getElem? (i := 802) (by decide +kernel), List.mem_of_getElem? (i := 803) (by decide +kernel)⟩
def lw_privs_2 : List (MethodName × Nat) := [(⟨"ZoeStrips$Past", "dropOldest", "()V"⟩, 2), (⟨"ZoeStrips", "refuseNo", "()I"⟩, 18), (⟨"ZoeStrips", "isFrame", "(I)Z"⟩, 18), (⟨"ZoeStrips", "isEye", "(I)Z"⟩, 18), (⟨"ZoeStrips", "tryFlashes", "(II)V"⟩, 18), (⟨"ZoeStrips", "startTrial", "(I)V"⟩, 18), (⟨"ZoeStrips", "trialIsAsNow", "()Z"⟩, 18), (⟨"ZoeStrips", "standsStill", "(II)Z"⟩, 18), (⟨"ZoeStrips$Strip", "fillCosts", "([III)V"⟩, 3), (⟨"ZoeStrips$Strip", "bestBeside", "(II)I"⟩, 3), (⟨"ZoeStrips$Strip", "cost", "(II)I"⟩, 3), (⟨"ZoeStrips$Beginnings", "fillPassed", "(I)V"⟩, 3), (⟨"ZoeStrips$Beginnings", "fits", "(ILZoeStrips$Show;)Z"⟩, 3), (⟨"ZoeStrips$Beginnings", "drawingAt", "(IILZoeStrips$Show;)I"⟩, 3), (⟨"ZoeStrips", "eyeKinds", "(I)I"⟩, 18), (⟨"ZoeStrips", "eyeFits", "(II)Z"⟩, 18)]
theorem lw_r2 : ∀ q ∈ lw_privs_2, lw_okq q := List.forall_mem_cons.mpr ⟨lw_p16, List.forall_mem_cons.mpr ⟨lw_p17, List.forall_mem_cons.mpr ⟨lw_p18, List.forall_mem_cons.mpr ⟨lw_p19, List.forall_mem_cons.mpr ⟨lw_p20, List.forall_mem_cons.mpr ⟨lw_p21, List.forall_mem_cons.mpr ⟨lw_p22, List.forall_mem_cons.mpr ⟨lw_p23, List.forall_mem_cons.mpr ⟨lw_p24, List.forall_mem_cons.mpr ⟨lw_p25, List.forall_mem_cons.mpr ⟨lw_p26, List.forall_mem_cons.mpr ⟨lw_p27, List.forall_mem_cons.mpr ⟨lw_p28, List.forall_mem_cons.mpr ⟨lw_p29, List.forall_mem_cons.mpr ⟨lw_p30, List.forall_mem_cons.mpr ⟨lw_p31, fun _ h => absurd h List.not_mem_nil⟩⟩⟩⟩⟩⟩⟩⟩⟩⟩⟩⟩⟩⟩⟩⟩
theorem lw_p32 : lw_okq (⟨"ZoeStrips", "bestLook", "(I)I"⟩, 18) := ⟨⟨by decide +kernel, by decide +kernel⟩, List.mem_of_getElem? (i := 20) (by decide +kernel), List.mem_of_getElem? (i := 812) (by decide +kernel), List.mem_of_getElem? (i := 813) (by decide +kernel)⟩
theorem lw_p33 : lw_okq (⟨"ZoeStrips", "lampKinds", "()I"⟩, 18) := ⟨⟨by decide +kernel, by decide +kernel⟩, List.mem_of_getElem? (i := 20) (by decide +kernel), List.mem_of_getElem? (i := 825) (by decide +kernel), List.mem_of_getElem? (i := 826) (by decide +kernel)⟩
theorem lw_p34 : lw_okq (⟨"ZoeStrips", "lampFits", "(I)Z"⟩, 18) := ⟨⟨by decide +kernel, by decide +kernel⟩, List.mem_of_getElem? (i := 20) (by decide +kernel), List.mem_of_getElem? (i := 829) (by decide +kernel), List.mem_of_getElem? (i := 830) (by decide +kernel)⟩
theorem lw_p35 : lw_okq (⟨"ZoeStrips", "bestAsk", "(I)I"⟩, 18) := ⟨⟨by decide +kernel, by decide +kernel⟩, List.mem_of_getElem? (i := 20) (by decide +kernel), List.mem_of_getElem? (i := 838) (by decide +kernel), List.mem_of_getElem? (i := 839) (by decide +kernel)⟩
theorem lw_p36 : lw_okq (⟨"ZoeStrips", "tallyPassing", "(III)V"⟩, 18) := ⟨⟨by decide +kernel, by decide +kernel⟩, List.mem_of_getElem? (i := 20) (by decide +kernel), List.mem_of_getElem? (i := 842) (by decide +kernel), List.mem_of_getElem? (i := 843) (by decide +kernel)⟩
theorem lw_p37 : lw_okq (⟨"ZoeStrips", "fillGains", "(II)V"⟩, 18) := ⟨⟨by decide +kernel, by decide +kernel⟩, List.mem_of_getElem? (i := 20) (by decide +kernel), List.mem_of_getElem? (i := 850) (by decide +kernel), List.mem_of_getElem? (i := 851) (by decide +kernel)⟩
theorem lw_p38 : lw_okq (⟨"ZoeStrips", "rests", "(II)Z"⟩, 18) := ⟨⟨by decide +kernel, by decide +kernel⟩, List.mem_of_getElem? (i := 20) (by decide +kernel), List.mem_of_getElem? (i := 854) (by decide +kernel), List.mem_of_getElem? (i := 855) (by decide +kernel)⟩
theorem lw_p39 : lw_okq (⟨"ZoeStrips$Smear", "add", "(II)V"⟩, 2) := ⟨⟨by decide +kernel, by decide +kernel⟩, List.mem_of_getElem? (i := 238) (by decide +kernel), List.mem_of_getElem? (i := 877) (by decide +kernel), List.mem_of_getElem? (i := 878) (by decide +kernel)⟩
theorem lw_p40 : lw_okq (⟨"ZoeStrips", "keepFraction", "(JJ)V"⟩, 18) := ⟨⟨by decide +kernel, by decide +kernel⟩, List.mem_of_getElem? (i := 20) (by decide +kernel), List.mem_of_getElem? (i := 888) (by decide +kernel), List.mem_of_getElem? (i := 889) (by decide +kernel)⟩
theorem lw_p41 : lw_okq (⟨"ZoeStrips", "countOf", "(I)I"⟩, 18) := ⟨⟨by decide +kernel, by decide +kernel⟩, List.mem_of_getElem? (i := 20) (by decide +kernel), List.mem_of_getElem? (i := 929) (by decide +kernel), List.mem_of_getElem? (i := 930) (by decide +kernel)⟩
theorem lw_p42 : lw_okq (⟨"ZoeStripsModel", "begins", "(III)V"⟩, 19) := ⟨⟨by decide +kernel, by decide +kernel⟩, List.mem_of_getElem? (i := 945) (by decide +kernel), List.mem_of_getElem? (i := 951) (by decide +kernel), List.mem_of_getElem? (i := 952) (by decide +kernel)⟩
theorem lw_p43 : lw_okq (⟨"ZoeStripsModel", "bad", "()I"⟩, 19) := ⟨⟨by decide +kernel, by decide +kernel⟩, List.mem_of_getElem? (i := 945) (by decide +kernel), List.mem_of_getElem? (i := 1024) (by decide +kernel), List.mem_of_getElem? (i := 1025) (by decide +kernel)⟩
theorem lw_p44 : lw_okq (⟨"ZoeStripsModel", "full", "()I"⟩, 19) := ⟨⟨by decide +kernel, by decide +kernel⟩, List.mem_of_getElem? (i := 945) (by decide +kernel), List.mem_of_getElem? (i := 1036) (by decide +kernel), List.mem_of_getElem? (i := 1037) (by decide +kernel)⟩
theorem lw_p45 : lw_okq (⟨"ZoeStripsModel", "comes", "(I)I"⟩, 19) := ⟨⟨by decide +kernel, by decide +kernel⟩, List.mem_of_getElem? (i := 945) (by decide +kernel), List.mem_of_getElem? (i := 1040) (by decide +kernel), List.mem_of_getElem? (i := 1041) (by decide +kernel)⟩
theorem lw_p46 : lw_okq (⟨"ZoeStripsModel", "goesThrough", "(Z)I"⟩, 19) := ⟨⟨by decide +kernel, by decide +kernel⟩, List.mem_of_getElem? (i := 945) (by decide +kernel), List.mem_of_getElem? (i := 1057) (by decide +kernel), List.mem_of_getElem? (i := 1058) (by decide +kernel)⟩
theorem lw_p47 : lw_okq (⟨"ZoeStripsModel", "token", "()I"⟩, 19) := ⟨⟨by decide +kernel, by decide +kernel⟩, List.mem_of_getElem? (i := 945) (by decide +kernel), List.mem_of_getElem? (i := 1061) (by decide +kernel), List.mem_of_getElem? (i := 1062) (by decide +kernel)⟩
def lw_privs_3 : List (MethodName × Nat) := [(⟨"ZoeStrips", "bestLook", "(I)I"⟩, 18), (⟨"ZoeStrips", "lampKinds", "()I"⟩, 18), (⟨"ZoeStrips", "lampFits", "(I)Z"⟩, 18), (⟨"ZoeStrips", "bestAsk", "(I)I"⟩, 18), (⟨"ZoeStrips", "tallyPassing", "(III)V"⟩, 18), (⟨"ZoeStrips", "fillGains", "(II)V"⟩, 18), (⟨"ZoeStrips", "rests", "(II)Z"⟩, 18), (⟨"ZoeStrips$Smear", "add", "(II)V"⟩, 2), (⟨"ZoeStrips", "keepFraction", "(JJ)V"⟩, 18), (⟨"ZoeStrips", "countOf", "(I)I"⟩, 18), (⟨"ZoeStripsModel", "begins", "(III)V"⟩, 19), (⟨"ZoeStripsModel", "bad", "()I"⟩, 19), (⟨"ZoeStripsModel", "full", "()I"⟩, 19), (⟨"ZoeStripsModel", "comes", "(I)I"⟩, 19), (⟨"ZoeStripsModel", "goesThrough", "(Z)I"⟩, 19), (⟨"ZoeStripsModel", "token", "()I"⟩, 19)]
theorem lw_r3 : ∀ q ∈ lw_privs_3, lw_okq q := List.forall_mem_cons.mpr ⟨lw_p32, List.forall_mem_cons.mpr ⟨lw_p33, List.forall_mem_cons.mpr ⟨lw_p34, List.forall_mem_cons.mpr ⟨lw_p35, List.forall_mem_cons.mpr ⟨lw_p36, List.forall_mem_cons.mpr ⟨lw_p37, List.forall_mem_cons.mpr ⟨lw_p38, List.forall_mem_cons.mpr ⟨lw_p39, List.forall_mem_cons.mpr ⟨lw_p40, List.forall_mem_cons.mpr ⟨lw_p41, List.forall_mem_cons.mpr ⟨lw_p42, List.forall_mem_cons.mpr ⟨lw_p43, List.forall_mem_cons.mpr ⟨lw_p44, List.forall_mem_cons.mpr ⟨lw_p45, List.forall_mem_cons.mpr ⟨lw_p46, List.forall_mem_cons.mpr ⟨lw_p47, fun _ h => absurd h List.not_mem_nil⟩⟩⟩⟩⟩⟩⟩⟩⟩⟩⟩⟩⟩⟩⟩⟩
theorem lw_p48 : lw_okq (⟨"ZoeStripsModel", "byteAt", "(I)I"⟩, 19) := ⟨⟨by decide +kernel, by decide +kernel⟩, List.mem_of_getElem? (i := 945) (by decide +kernel), List.mem_of_getElem? (i := 1065) (by decide +kernel), List.mem_of_getElem? (i := 1066) (by decide +kernel)⟩
theorem lw_p49 : lw_okq (⟨"ZoeStripsModel", "item", "(I)V"⟩, 19) := ⟨⟨by decide +kernel, by decide +kernel⟩, List.mem_of_getElem? (i := 945) (by decide +kernel), List.mem_of_getElem? (i := 1073) (by decide +kernel), List.mem_of_getElem? (i := 1074) (by decide +kernel)⟩
theorem lw_p50 : lw_okq (⟨"ZoeStripsModel", "word", "()J"⟩, 19) := ⟨⟨by decide +kernel, by decide +kernel⟩, List.mem_of_getElem? (i := 945) (by decide +kernel), List.mem_of_getElem? (i := 1077) (by decide +kernel), List.mem_of_getElem? (i := 1078) (by decide +kernel)⟩
theorem lw_p51 : lw_okq (⟨"ZoeStripsModel", "drawItem", "()V"⟩, 19) := ⟨⟨by decide +kernel, by decide +kernel⟩, List.mem_of_getElem? (i := 945) (by decide +kernel), List.mem_of_getElem? (i := 1087) (by decide +kernel), List.mem_of_getElem? (i := 1088) (by decide +kernel)⟩
theorem lw_p52 : lw_okq (⟨"ZoeStripsModel", "drumItem", "()V"⟩, 19) := ⟨⟨by decide +kernel, by decide +kernel⟩, List.mem_of_getElem? (i := 945) (by decide +kernel), List.mem_of_getElem? (i := 1092) (by decide +kernel), List.mem_of_getElem? (i := 1093) (by decide +kernel)⟩
theorem lw_p53 : lw_okq (⟨"ZoeStripsModel", "wants", "(II)I"⟩, 19) := ⟨⟨by decide +kernel, by decide +kernel⟩, List.mem_of_getElem? (i := 945) (by decide +kernel), List.mem_of_getElem? (i := 1096) (by decide +kernel), List.mem_of_getElem? (i := 1097) (by decide +kernel)⟩
theorem lw_p54 : lw_okq (⟨"ZoeStripsModel", "act", "(J)V"⟩, 19) := ⟨⟨by decide +kernel, by decide +kernel⟩, List.mem_of_getElem? (i := 945) (by decide +kernel), List.mem_of_getElem? (i := 1100) (by decide +kernel), List.mem_of_getElem? (i := 1101) (by decide +kernel)⟩
theorem lw_p55 : lw_okq (⟨"ZoeStripsModel", "flash", "(IIZ)V"⟩, 19) := ⟨⟨by decide +kernel, by decide +kernel⟩, List.mem_of_getElem? (i := 945) (by decide +kernel), List.mem_of_getElem? (i := 1106) (by decide +kernel), List.mem_of_getElem? (i := 1107) (by decide +kernel)⟩
theorem lw_p56 : lw_okq (⟨"ZoeStripsModel", "known", "()V"⟩, 19) := ⟨⟨by decide +kernel, by decide +kernel⟩, List.mem_of_getElem? (i := 945) (by decide +kernel), List.mem_of_getElem? (i := 1124) (by decide +kernel), List.mem_of_getElem? (i := 1125) (by decide +kernel)⟩
theorem lw_p57 : lw_okq (⟨"ZoeStripsModel", "copies", "(II)V"⟩, 19) := ⟨⟨by decide +kernel, by decide +kernel⟩, List.mem_of_getElem? (i := 945) (by decide +kernel), List.mem_of_getElem? (i := 1128) (by decide +kernel), List.mem_of_getElem? (i := 1129) (by decide +kernel)⟩
theorem lw_p58 : lw_okq (⟨"ZoeStripsModel", "no", "()I"⟩, 19) := ⟨⟨by decide +kernel, by decide +kernel⟩, List.mem_of_getElem? (i := 945) (by decide +kernel), List.mem_of_getElem? (i := 1136) (by decide +kernel), List.mem_of_getElem? (i := 1137) (by decide +kernel)⟩
theorem lw_p59 : lw_okq (⟨"ZoeStripsModel", "isFrame", "(I)Z"⟩, 19) := ⟨⟨by decide +kernel, by decide +kernel⟩, List.mem_of_getElem? (i := 945) (by decide +kernel), List.mem_of_getElem? (i := 1144) (by decide +kernel), List.mem_of_getElem? (i := 1145) (by decide +kernel)⟩
theorem lw_p60 : lw_okq (⟨"ZoeStripsModel", "isEye", "(I)Z"⟩, 19) := ⟨⟨by decide +kernel, by decide +kernel⟩, List.mem_of_getElem? (i := 945) (by decide +kernel), List.mem_of_getElem? (i := 1156) (by decide +kernel), List.mem_of_getElem? (i := 1157) (by decide +kernel)⟩
theorem lw_p61 : lw_okq (⟨"ZoeStripsModel", "tries", "()V"⟩, 19) := ⟨⟨by decide +kernel, by decide +kernel⟩, List.mem_of_getElem? (i := 945) (by decide +kernel), List.mem_of_getElem? (i := 1168) (by decide +kernel), List.mem_of_getElem? (i := 1169) (by decide +kernel)⟩
theorem lw_p62 : lw_okq (⟨"ZoeStripsModel", "flashes", "(II)V"⟩, 19) := ⟨⟨by decide +kernel, by decide +kernel⟩, List.mem_of_getElem? (i := 945) (by decide +kernel), List.mem_of_getElem? (i := 1172) (by decide +kernel), List.mem_of_getElem? (i := 1173) (by decide +kernel)⟩
theorem lw_p63 : lw_okq (⟨"ZoeStripsModel", "bad10", "()I"⟩, 19) := ⟨⟨by decide +kernel, by decide +kernel⟩, List.mem_of_getElem? (i := 945) (by decide +kernel), List.mem_of_getElem? (i := 1197) (by decide +kernel), List.mem_of_getElem? (i := 1198) (by decide +kernel)⟩
def lw_privs_4 : List (MethodName × Nat) := [(⟨"ZoeStripsModel", "byteAt", "(I)I"⟩, 19), (⟨"ZoeStripsModel", "item", "(I)V"⟩, 19), (⟨"ZoeStripsModel", "word", "()J"⟩, 19), (⟨"ZoeStripsModel", "drawItem", "()V"⟩, 19), (⟨"ZoeStripsModel", "drumItem", "()V"⟩, 19), (⟨"ZoeStripsModel", "wants", "(II)I"⟩, 19), (⟨"ZoeStripsModel", "act", "(J)V"⟩, 19), (⟨"ZoeStripsModel", "flash", "(IIZ)V"⟩, 19), (⟨"ZoeStripsModel", "known", "()V"⟩, 19), (⟨"ZoeStripsModel", "copies", "(II)V"⟩, 19), (⟨"ZoeStripsModel", "no", "()I"⟩, 19), (⟨"ZoeStripsModel", "isFrame", "(I)Z"⟩, 19), (⟨"ZoeStripsModel", "isEye", "(I)Z"⟩, 19), (⟨"ZoeStripsModel", "tries", "()V"⟩, 19), (⟨"ZoeStripsModel", "flashes", "(II)V"⟩, 19), (⟨"ZoeStripsModel", "bad10", "()I"⟩, 19)]
theorem lw_r4 : ∀ q ∈ lw_privs_4, lw_okq q := List.forall_mem_cons.mpr ⟨lw_p48, List.forall_mem_cons.mpr ⟨lw_p49, List.forall_mem_cons.mpr ⟨lw_p50, List.forall_mem_cons.mpr ⟨lw_p51, List.forall_mem_cons.mpr ⟨lw_p52, List.forall_mem_cons.mpr ⟨lw_p53, List.forall_mem_cons.mpr ⟨lw_p54, List.forall_mem_cons.mpr ⟨lw_p55, List.forall_mem_cons.mpr ⟨lw_p56, List.forall_mem_cons.mpr ⟨lw_p57, List.forall_mem_cons.mpr ⟨lw_p58, List.forall_mem_cons.mpr ⟨lw_p59, List.forall_mem_cons.mpr ⟨lw_p60, List.forall_mem_cons.mpr ⟨lw_p61, List.forall_mem_cons.mpr ⟨lw_p62, List.forall_mem_cons.mpr ⟨lw_p63, fun _ h => absurd h List.not_mem_nil⟩⟩⟩⟩⟩⟩⟩⟩⟩⟩⟩⟩⟩⟩⟩⟩
theorem lw_p64 : lw_okq (⟨"ZoeStripsModel", "costOf", "(I)I"⟩, 19) := ⟨⟨by decide +kernel, by decide +kernel⟩, List.mem_of_getElem? (i := 945) (by decide +kernel), List.mem_of_getElem? (i := 1201) (by decide +kernel), List.mem_of_getElem? (i := 1202) (by decide +kernel)⟩
theorem lw_p65 : lw_okq (⟨"ZoeStripsModel", "isSo", "(I)Z"⟩, 19) := ⟨⟨by decide +kernel, by decide +kernel⟩, List.mem_of_getElem? (i := 945) (by decide +kernel), List.mem_of_getElem? (i := 1214) (by decide +kernel), List.mem_of_getElem? (i := 1215) (by decide +kernel)⟩
theorem lw_p66 : lw_okq (⟨"ZoeStripsModel", "shown", "(II)I"⟩, 19) := ⟨⟨by decide +kernel, by decide +kernel⟩, List.mem_of_getElem? (i := 945) (by decide +kernel), List.mem_of_getElem? (i := 1218) (by decide +kernel), List.mem_of_getElem? (i := 1219) (by decide +kernel)⟩
theorem lw_p67 : lw_okq (⟨"ZoeStripsModel", "eyesThat", "(I)I"⟩, 19) := ⟨⟨by decide +kernel, by decide +kernel⟩, List.mem_of_getElem? (i := 945) (by decide +kernel), List.mem_of_getElem? (i := 1243) (by decide +kernel), List.mem_of_getElem? (i := 1244) (by decide +kernel)⟩
theorem lw_p68 : lw_okq (⟨"ZoeStripsModel", "rests", "(II)Z"⟩, 19) := ⟨⟨by decide +kernel, by decide +kernel⟩, List.mem_of_getElem? (i := 945) (by decide +kernel), List.mem_of_getElem? (i := 1267) (by decide +kernel), List.mem_of_getElem? (i := 1268) (by decide +kernel)⟩
theorem lw_p69 : lw_okq (⟨"ZoeStripsModel", "movesOf", "(I)I"⟩, 19) := ⟨⟨by decide +kernel, by decide +kernel⟩, List.mem_of_getElem? (i := 945) (by decide +kernel), List.mem_of_getElem? (i := 1286) (by decide +kernel), List.mem_of_getElem? (i := 1287) (by decide +kernel)⟩
theorem lw_p70 : lw_okq (⟨"ZoeStripsModel", "carries", "(IIII)V"⟩, 19) := ⟨⟨by decide +kernel, by decide +kernel⟩, List.mem_of_getElem? (i := 945) (by decide +kernel), List.mem_of_getElem? (i := 1298) (by decide +kernel), List.mem_of_getElem? (i := 1299) (by decide +kernel)⟩
theorem lw_p71 : lw_okq (⟨"ZoeStripsModel", "countOf", "(I)I"⟩, 19) := ⟨⟨by decide +kernel, by decide +kernel⟩, List.mem_of_getElem? (i := 945) (by decide +kernel), List.mem_of_getElem? (i := 1314) (by decide +kernel), List.mem_of_getElem? (i := 1315) (by decide +kernel)⟩
def lw_privs_5 : List (MethodName × Nat) := [(⟨"ZoeStripsModel", "costOf", "(I)I"⟩, 19), (⟨"ZoeStripsModel", "isSo", "(I)Z"⟩, 19), (⟨"ZoeStripsModel", "shown", "(II)I"⟩, 19), (⟨"ZoeStripsModel", "eyesThat", "(I)I"⟩, 19), (⟨"ZoeStripsModel", "rests", "(II)Z"⟩, 19), (⟨"ZoeStripsModel", "movesOf", "(I)I"⟩, 19), (⟨"ZoeStripsModel", "carries", "(IIII)V"⟩, 19), (⟨"ZoeStripsModel", "countOf", "(I)I"⟩, 19)]
theorem lw_r5 : ∀ q ∈ lw_privs_5, lw_okq q := List.forall_mem_cons.mpr ⟨lw_p64, List.forall_mem_cons.mpr ⟨lw_p65, List.forall_mem_cons.mpr ⟨lw_p66, List.forall_mem_cons.mpr ⟨lw_p67, List.forall_mem_cons.mpr ⟨lw_p68, List.forall_mem_cons.mpr ⟨lw_p69, List.forall_mem_cons.mpr ⟨lw_p70, List.forall_mem_cons.mpr ⟨lw_p71, fun _ h => absurd h List.not_mem_nil⟩⟩⟩⟩⟩⟩⟩⟩
def lw_privs : List (MethodName × Nat) := lw_privs_1 ++ (lw_privs_2 ++ (lw_privs_3 ++ (lw_privs_4 ++ (lw_privs_5))))
def lw_tbl : List Cond := k2_sels lw_privs ++ tables_1
theorem lw_privs_ok : ∀ q ∈ lw_privs, lw_okq q := by
  show ∀ q ∈ lw_privs_1 ++ (lw_privs_2 ++ (lw_privs_3 ++ (lw_privs_4 ++ (lw_privs_5)))), lw_okq q
  exact List.forall_mem_append.mpr ⟨lw_r1, List.forall_mem_append.mpr ⟨lw_r2, List.forall_mem_append.mpr ⟨lw_r3, List.forall_mem_append.mpr ⟨lw_r4, lw_r5⟩⟩⟩⟩
end
section
def RX0 : String := "ZoeStrips$Beginnings"
def TX0 : u_T := fun k => match k with
  | 0 => ("ZoeStrips$Beginnings", "passed", "[I", true)
  | 1 => ("ZoeStrips$Beginnings", "fitting", "[I", true)
  | _ => ("ZoeStrips$Beginnings", "size", "I", false)
def tyX0 : Nat → FieldType := fun k => match k with
  | 0 => .array .int
  | 1 => .array .int
  | _ => .int
theorem nmX0 : ∀ a, a < 3 → ∀ b, b < 3 → a ≠ b → (TX0 a).2.1 ≠ (TX0 b).2.1 := by decide +kernel
theorem tyX0_ok : ∀ k, k < 3 → parseFieldDescriptor (TX0 k).2.2.1 = some (tyX0 k) := by decide +kernel
abbrev cX0_init : ByteArray := prog_2_method_1_code
def yX0_init : MethodName := ⟨RX0, "<init>", "()V"⟩
abbrev cX0_gather : ByteArray := prog_2_method_2_code
def yX0_gather : MethodName := ⟨RX0, "gather", "(LZoeStrips$Show;)V"⟩
abbrev cX0_tallyAt : ByteArray := prog_2_method_3_code
def yX0_tallyAt : MethodName := ⟨RX0, "tallyAt", "(ILZoeStrips$Show;LZoeStrips$Tally;)V"⟩
abbrev cX0_fillPassed : ByteArray := prog_2_method_4_code
def yX0_fillPassed : MethodName := ⟨RX0, "fillPassed", "(I)V"⟩
abbrev cX0_fits : ByteArray := prog_2_method_5_code
def yX0_fits : MethodName := ⟨RX0, "fits", "(ILZoeStrips$Show;)Z"⟩
abbrev cX0_drawingAt : ByteArray := prog_2_method_6_code
def yX0_drawingAt : MethodName := ⟨RX0, "drawingAt", "(IILZoeStrips$Show;)I"⟩
def RX1 : String := "ZoeStrips$Eyes"
def TX1 : u_T := fun k => match k with
  | _ => ("", "", "", false)
def tyX1 : Nat → FieldType := fun k => match k with
  | _ => .int
theorem nmX1 : ∀ a, a < 0 → ∀ b, b < 0 → a ≠ b → (TX1 a).2.1 ≠ (TX1 b).2.1 := by decide +kernel
theorem tyX1_ok : ∀ k, k < 0 → parseFieldDescriptor (TX1 k).2.2.1 = some (tyX1 k) := by decide +kernel
abbrev cX1_sight : ByteArray := prog_3_method_2_code
def yX1_sight : MethodName := ⟨RX1, "sight", "(III)I"⟩
abbrev cX1_lazy : ByteArray := prog_3_method_3_code
def yX1_lazy : MethodName := ⟨RX1, "lazy", "(II)I"⟩
abbrev cX1_sharp : ByteArray := prog_3_method_4_code
def yX1_sharp : MethodName := ⟨RX1, "sharp", "(II)I"⟩
abbrev cX1_child : ByteArray := prog_3_method_5_code
def yX1_child : MethodName := ⟨RX1, "child", "(II)I"⟩
def RX2 : String := "ZoeStrips$Lamps"
def TX2 : u_T := fun k => match k with
  | _ => ("", "", "", false)
def tyX2 : Nat → FieldType := fun k => match k with
  | _ => .int
theorem nmX2 : ∀ a, a < 0 → ∀ b, b < 0 → a ≠ b → (TX2 a).2.1 ≠ (TX2 b).2.1 := by decide +kernel
theorem tyX2_ok : ∀ k, k < 0 → parseFieldDescriptor (TX2 k).2.2.1 = some (tyX2 k) := by decide +kernel
abbrev cX2_passing : ByteArray := prog_4_method_2_code
def yX2_passing : MethodName := ⟨RX2, "passing", "(III)I"⟩
abbrev cX2_twice : ByteArray := prog_4_method_3_code
def yX2_twice : MethodName := ⟨RX2, "twice", "(I)I"⟩
abbrev cX2_jerk : ByteArray := prog_4_method_4_code
def yX2_jerk : MethodName := ⟨RX2, "jerk", "(II)I"⟩
def RX3 : String := "ZoeStrips$Moment"
def TX3 : u_T := fun k => match k with
  | 0 => ("ZoeStrips$Moment", "frame", "I", false)
  | 1 => ("ZoeStrips$Moment", "flash", "I", false)
  | 2 => ("ZoeStrips$Moment", "step", "I", false)
  | 3 => ("ZoeStrips$Moment", "drawings", "[I", true)
  | 4 => ("ZoeStrips$Moment", "keeps", "[I", true)
  | _ => ("ZoeStrips$Moment", "moves", "[I", true)
def tyX3 : Nat → FieldType := fun k => match k with
  | 0 => .int
  | 1 => .int
  | 2 => .int
  | 3 => .array .int
  | 4 => .array .int
  | _ => .array .int
theorem nmX3 : ∀ a, a < 6 → ∀ b, b < 6 → a ≠ b → (TX3 a).2.1 ≠ (TX3 b).2.1 := by decide +kernel
theorem tyX3_ok : ∀ k, k < 6 → parseFieldDescriptor (TX3 k).2.2.1 = some (tyX3 k) := by decide +kernel
abbrev cX3_init : ByteArray := prog_5_method_1_code
def yX3_init : MethodName := ⟨RX3, "<init>", "()V"⟩
abbrev cX3_begin : ByteArray := prog_5_method_2_code
def yX3_begin : MethodName := ⟨RX3, "begin", "(I)V"⟩
abbrev cX3_become : ByteArray := prog_5_method_3_code
def yX3_become : MethodName := ⟨RX3, "become", "(LZoeStrips$Moment;)V"⟩
abbrev cX3_writeTo : ByteArray := prog_5_method_4_code
def yX3_writeTo : MethodName := ⟨RX3, "writeTo", "([II)V"⟩
abbrev cX3_takeFrom : ByteArray := prog_5_method_5_code
def yX3_takeFrom : MethodName := ⟨RX3, "takeFrom", "([II)V"⟩
def RX4 : String := "ZoeStrips$Past"
def TX4 : u_T := fun k => match k with
  | 0 => ("ZoeStrips$Past", "cells", "[I", true)
  | _ => ("ZoeStrips$Past", "size", "I", false)
def tyX4 : Nat → FieldType := fun k => match k with
  | 0 => .array .int
  | _ => .int
theorem nmX4 : ∀ a, a < 2 → ∀ b, b < 2 → a ≠ b → (TX4 a).2.1 ≠ (TX4 b).2.1 := by decide +kernel
theorem tyX4_ok : ∀ k, k < 2 → parseFieldDescriptor (TX4 k).2.2.1 = some (tyX4 k) := by decide +kernel
abbrev cX4_init : ByteArray := prog_6_method_1_code
def yX4_init : MethodName := ⟨RX4, "<init>", "()V"⟩
abbrev cX4_empty : ByteArray := prog_6_method_2_code
def yX4_empty : MethodName := ⟨RX4, "empty", "()V"⟩
abbrev cX4_push : ByteArray := prog_6_method_3_code
def yX4_push : MethodName := ⟨RX4, "push", "(LZoeStrips$Moment;)V"⟩
abbrev cX4_pop : ByteArray := prog_6_method_4_code
def yX4_pop : MethodName := ⟨RX4, "pop", "(LZoeStrips$Moment;)V"⟩
abbrev cX4_become : ByteArray := prog_6_method_5_code
def yX4_become : MethodName := ⟨RX4, "become", "(LZoeStrips$Past;)V"⟩
abbrev cX4_dropOldest : ByteArray := prog_6_method_6_code
def yX4_dropOldest : MethodName := ⟨RX4, "dropOldest", "()V"⟩
def RX5 : String := "ZoeStrips$Rows"
def TX5 : u_T := fun k => match k with
  | 0 => ("ZoeStrips$Rows", "width", "I", true)
  | 1 => ("ZoeStrips$Rows", "cells", "[I", true)
  | _ => ("ZoeStrips$Rows", "size", "I", false)
def tyX5 : Nat → FieldType := fun k => match k with
  | 0 => .int
  | 1 => .array .int
  | _ => .int
theorem nmX5 : ∀ a, a < 3 → ∀ b, b < 3 → a ≠ b → (TX5 a).2.1 ≠ (TX5 b).2.1 := by decide +kernel
theorem tyX5_ok : ∀ k, k < 3 → parseFieldDescriptor (TX5 k).2.2.1 = some (tyX5 k) := by decide +kernel
abbrev cX5_init : ByteArray := prog_7_method_1_code
def yX5_init : MethodName := ⟨RX5, "<init>", "(I)V"⟩
abbrev cX5_isFull : ByteArray := prog_7_method_2_code
def yX5_isFull : MethodName := ⟨RX5, "isFull", "()Z"⟩
abbrev cX5_add : ByteArray := prog_7_method_3_code
def yX5_add : MethodName := ⟨RX5, "add", "(IIII)I"⟩
abbrev cX5_value : ByteArray := prog_7_method_4_code
def yX5_value : MethodName := ⟨RX5, "value", "(II)I"⟩
abbrev cX5_empty : ByteArray := prog_7_method_5_code
def yX5_empty : MethodName := ⟨RX5, "empty", "()I"⟩
abbrev cX5_become : ByteArray := prog_7_method_6_code
def yX5_become : MethodName := ⟨RX5, "become", "(LZoeStrips$Rows;)V"⟩
abbrev cX5_digestOnto : ByteArray := prog_7_method_7_code
def yX5_digestOnto : MethodName := ⟨RX5, "digestOnto", "(J)J"⟩
def RX6 : String := "ZoeStrips$Show"
def TX6 : u_T := fun k => match k with
  | 0 => ("ZoeStrips$Show", "frames", "I", false)
  | 1 => ("ZoeStrips$Show", "lamp", "I", false)
  | 2 => ("ZoeStrips$Show", "eyes", "I", false)
  | 3 => ("ZoeStrips$Show", "kinds", "[I", true)
  | 4 => ("ZoeStrips$Show", "moment", "LZoeStrips$Moment;", true)
  | 5 => ("ZoeStrips$Show", "past", "LZoeStrips$Past;", true)
  | 6 => ("ZoeStrips$Show", "seen", "LZoeStrips$Rows;", true)
  | 7 => ("ZoeStrips$Show", "notes", "LZoeStrips$Rows;", true)
  | _ => ("ZoeStrips$Show", "marks", "LZoeStrips$Rows;", true)
def tyX6 : Nat → FieldType := fun k => match k with
  | 0 => .int
  | 1 => .int
  | 2 => .int
  | 3 => .array .int
  | 4 => .object "ZoeStrips$Moment"
  | 5 => .object "ZoeStrips$Past"
  | 6 => .object "ZoeStrips$Rows"
  | 7 => .object "ZoeStrips$Rows"
  | _ => .object "ZoeStrips$Rows"
theorem nmX6 : ∀ a, a < 9 → ∀ b, b < 9 → a ≠ b → (TX6 a).2.1 ≠ (TX6 b).2.1 := by decide +kernel
theorem tyX6_ok : ∀ k, k < 9 → parseFieldDescriptor (TX6 k).2.2.1 = some (tyX6 k) := by decide +kernel
abbrev cX6_init : ByteArray := prog_8_method_1_code
def yX6_init : MethodName := ⟨RX6, "<init>", "()V"⟩
abbrev cX6_begin : ByteArray := prog_8_method_2_code
def yX6_begin : MethodName := ⟨RX6, "begin", "(III)V"⟩
abbrev cX6_become : ByteArray := prog_8_method_3_code
def yX6_become : MethodName := ⟨RX6, "become", "(LZoeStrips$Show;)V"⟩
abbrev cX6_addEye : ByteArray := prog_8_method_4_code
def yX6_addEye : MethodName := ⟨RX6, "addEye", "(I)V"⟩
abbrev cX6_turn : ByteArray := prog_8_method_5_code
def yX6_turn : MethodName := ⟨RX6, "turn", "(I)V"⟩
abbrev cX6_flash : ByteArray := prog_8_method_6_code
def yX6_flash : MethodName := ⟨RX6, "flash", "(LZoeStrips$Moment;)V"⟩
abbrev cX6_drawingAtHand : ByteArray := prog_8_method_7_code
def yX6_drawingAtHand : MethodName := ⟨RX6, "drawingAtHand", "(LZoeStrips$Moment;)I"⟩
abbrev cX6_movesTogether : ByteArray := prog_8_method_8_code
def yX6_movesTogether : MethodName := ⟨RX6, "movesTogether", "(LZoeStrips$Moment;)I"⟩
def RX7 : String := "ZoeStrips$Smear"
def TX7 : u_T := fun k => match k with
  | 0 => ("ZoeStrips$Smear", "weights", "[I", true)
  | _ => ("ZoeStrips$Smear", "before", "[I", true)
def tyX7 : Nat → FieldType := fun k => match k with
  | 0 => .array .int
  | _ => .array .int
theorem nmX7 : ∀ a, a < 2 → ∀ b, b < 2 → a ≠ b → (TX7 a).2.1 ≠ (TX7 b).2.1 := by decide +kernel
theorem tyX7_ok : ∀ k, k < 2 → parseFieldDescriptor (TX7 k).2.2.1 = some (tyX7 k) := by decide +kernel
abbrev cX7_init : ByteArray := prog_9_method_1_code
def yX7_init : MethodName := ⟨RX7, "<init>", "()V"⟩
abbrev cX7_begin : ByteArray := prog_9_method_2_code
def yX7_begin : MethodName := ⟨RX7, "begin", "(I)V"⟩
abbrev cX7_flash : ByteArray := prog_9_method_3_code
def yX7_flash : MethodName := ⟨RX7, "flash", "(III)V"⟩
abbrev cX7_weightOf : ByteArray := prog_9_method_4_code
def yX7_weightOf : MethodName := ⟨RX7, "weightOf", "(I)I"⟩
abbrev cX7_add : ByteArray := prog_9_method_5_code
def yX7_add : MethodName := ⟨RX7, "add", "(II)V"⟩
def RX8 : String := "ZoeStrips$Strip"
def TX8 : u_T := fun k => match k with
  | 0 => ("ZoeStrips$Strip", "costs", "[I", true)
  | 1 => ("ZoeStrips$Strip", "best", "[I", true)
  | _ => ("ZoeStrips$Strip", "fewest", "I", false)
def tyX8 : Nat → FieldType := fun k => match k with
  | 0 => .array .int
  | 1 => .array .int
  | _ => .int
theorem nmX8 : ∀ a, a < 3 → ∀ b, b < 3 → a ≠ b → (TX8 a).2.1 ≠ (TX8 b).2.1 := by decide +kernel
theorem tyX8_ok : ∀ k, k < 3 → parseFieldDescriptor (TX8 k).2.2.1 = some (tyX8 k) := by decide +kernel
abbrev cX8_init : ByteArray := prog_10_method_1_code
def yX8_init : MethodName := ⟨RX8, "<init>", "()V"⟩
abbrev cX8_plan : ByteArray := prog_10_method_2_code
def yX8_plan : MethodName := ⟨RX8, "plan", "([II)V"⟩
abbrev cX8_fillCosts : ByteArray := prog_10_method_3_code
def yX8_fillCosts : MethodName := ⟨RX8, "fillCosts", "([III)V"⟩
abbrev cX8_closing : ByteArray := prog_10_method_4_code
def yX8_closing : MethodName := ⟨RX8, "closing", "(II)I"⟩
abbrev cX8_bestBeside : ByteArray := prog_10_method_5_code
def yX8_bestBeside : MethodName := ⟨RX8, "bestBeside", "(II)I"⟩
abbrev cX8_cost : ByteArray := prog_10_method_6_code
def yX8_cost : MethodName := ⟨RX8, "cost", "(II)I"⟩
def RX9 : String := "ZoeStrips$Tally"
def TX9 : u_T := fun k => match k with
  | 0 => ("ZoeStrips$Tally", "counts", "[I", true)
  | _ => ("ZoeStrips$Tally", "most", "I", false)
def tyX9 : Nat → FieldType := fun k => match k with
  | 0 => .array .int
  | _ => .int
theorem nmX9 : ∀ a, a < 2 → ∀ b, b < 2 → a ≠ b → (TX9 a).2.1 ≠ (TX9 b).2.1 := by decide +kernel
theorem tyX9_ok : ∀ k, k < 2 → parseFieldDescriptor (TX9 k).2.2.1 = some (tyX9 k) := by decide +kernel
abbrev cX9_init : ByteArray := prog_11_method_1_code
def yX9_init : MethodName := ⟨RX9, "<init>", "()V"⟩
abbrev cX9_begin : ByteArray := prog_11_method_2_code
def yX9_begin : MethodName := ⟨RX9, "begin", "()V"⟩
abbrev cX9_add : ByteArray := prog_11_method_3_code
def yX9_add : MethodName := ⟨RX9, "add", "(I)V"⟩
def RX10 : String := "ZoeStrips$Text"
def TX10 : u_T := fun k => match k with
  | 0 => ("ZoeStrips$Text", "bytes", "[I", true)
  | 1 => ("ZoeStrips$Text", "length", "I", false)
  | 2 => ("ZoeStrips$Text", "draft", "LZoeStrips$Show;", true)
  | 3 => ("ZoeStrips$Text", "starts", "[I", true)
  | 4 => ("ZoeStrips$Text", "ends", "[I", true)
  | 5 => ("ZoeStrips$Text", "tokens", "[I", true)
  | 6 => ("ZoeStrips$Text", "values", "[I", true)
  | _ => ("ZoeStrips$Text", "current", "I", false)
def tyX10 : Nat → FieldType := fun k => match k with
  | 0 => .array .int
  | 1 => .int
  | 2 => .object "ZoeStrips$Show"
  | 3 => .array .int
  | 4 => .array .int
  | 5 => .array .int
  | 6 => .array .int
  | _ => .int
theorem nmX10 : ∀ a, a < 8 → ∀ b, b < 8 → a ≠ b → (TX10 a).2.1 ≠ (TX10 b).2.1 := by decide +kernel
theorem tyX10_ok : ∀ k, k < 8 → parseFieldDescriptor (TX10 k).2.2.1 = some (tyX10 k) := by decide +kernel
abbrev cX10_init : ByteArray := prog_12_method_1_code
def yX10_init : MethodName := ⟨RX10, "<init>", "()V"⟩
abbrev cX10_isFull : ByteArray := prog_12_method_2_code
def yX10_isFull : MethodName := ⟨RX10, "isFull", "()Z"⟩
abbrev cX10_add : ByteArray := prog_12_method_3_code
def yX10_add : MethodName := ⟨RX10, "add", "(I)I"⟩
abbrev cX10_empty : ByteArray := prog_12_method_4_code
def yX10_empty : MethodName := ⟨RX10, "empty", "()I"⟩
abbrev cX10_readDraft : ByteArray := prog_12_method_5_code
def yX10_readDraft : MethodName := ⟨RX10, "readDraft", "()I"⟩
abbrev cX10_fault : ByteArray := prog_12_method_6_code
def yX10_fault : MethodName := ⟨RX10, "fault", "()I"⟩
abbrev cX10_takeDrum : ByteArray := prog_12_method_7_code
def yX10_takeDrum : MethodName := ⟨RX10, "takeDrum", "()Z"⟩
abbrev cX10_takeItem : ByteArray := prog_12_method_8_code
def yX10_takeItem : MethodName := ⟨RX10, "takeItem", "()Z"⟩
abbrev cX10_takeDraw : ByteArray := prog_12_method_9_code
def yX10_takeDraw : MethodName := ⟨RX10, "takeDraw", "()Z"⟩
abbrev cX10_takeNumber : ByteArray := prog_12_method_10_code
def yX10_takeNumber : MethodName := ⟨RX10, "takeNumber", "(II)Z"⟩
abbrev cX10_takeStop : ByteArray := prog_12_method_11_code
def yX10_takeStop : MethodName := ⟨RX10, "takeStop", "()Z"⟩
abbrev cX10_token : ByteArray := prog_12_method_12_code
def yX10_token : MethodName := ⟨RX10, "token", "()I"⟩
abbrev cX10_value : ByteArray := prog_12_method_13_code
def yX10_value : MethodName := ⟨RX10, "value", "()I"⟩
abbrev cX10_splitTokens : ByteArray := prog_12_method_14_code
def yX10_splitTokens : MethodName := ⟨RX10, "splitTokens", "()I"⟩
abbrev cX10_nameTokens : ByteArray := prog_12_method_15_code
def yX10_nameTokens : MethodName := ⟨RX10, "nameTokens", "(I)V"⟩
abbrev cX10_tokenFrom : ByteArray := prog_12_method_16_code
def yX10_tokenFrom : MethodName := ⟨RX10, "tokenFrom", "(II)I"⟩
abbrev cX10_wordFrom : ByteArray := prog_12_method_17_code
def yX10_wordFrom : MethodName := ⟨RX10, "wordFrom", "(II)I"⟩
abbrev cX10_isWord : ByteArray := prog_12_method_18_code
def yX10_isWord : MethodName := ⟨RX10, "isWord", "(Ljava/lang/String;II)Z"⟩
abbrev cX10_numberFrom : ByteArray := prog_12_method_19_code
def yX10_numberFrom : MethodName := ⟨RX10, "numberFrom", "(II)I"⟩
abbrev cX10_sortOf : ByteArray := prog_12_method_20_code
def yX10_sortOf : MethodName := ⟨RX10, "sortOf", "(I)I"⟩
def RX11 : String := "ZoeStrips"
def TX11 : u_T := fun k => match k with
  | 0 => ("ZoeStrips", "now", "LZoeStrips$Show;", true)
  | 1 => ("ZoeStrips", "firstImage", "LZoeStrips$Show;", true)
  | 2 => ("ZoeStrips", "secondImage", "LZoeStrips$Show;", true)
  | 3 => ("ZoeStrips", "firstKept", "Z", false)
  | 4 => ("ZoeStrips", "secondKept", "Z", false)
  | 5 => ("ZoeStrips", "text", "LZoeStrips$Text;", true)
  | 6 => ("ZoeStrips", "above", "J", false)
  | 7 => ("ZoeStrips", "below", "J", false)
  | 8 => ("ZoeStrips", "badCalls", "I", false)
  | 9 => ("ZoeStrips", "noCalls", "I", false)
  | 10 => ("ZoeStrips", "fullCalls", "I", false)
  | 11 => ("ZoeStrips", "trial", "LZoeStrips$Moment;", true)
  | 12 => ("ZoeStrips", "strip", "LZoeStrips$Strip;", true)
  | 13 => ("ZoeStrips", "beginnings", "LZoeStrips$Beginnings;", true)
  | 14 => ("ZoeStrips", "tally", "LZoeStrips$Tally;", true)
  | 15 => ("ZoeStrips", "haze", "LZoeStrips$Smear;", true)
  | 16 => ("ZoeStrips", "gainsOfOne", "[I", true)
  | _ => ("ZoeStrips", "gainsOfOther", "[I", true)
def tyX11 : Nat → FieldType := fun k => match k with
  | 0 => .object "ZoeStrips$Show"
  | 1 => .object "ZoeStrips$Show"
  | 2 => .object "ZoeStrips$Show"
  | 3 => .boolean
  | 4 => .boolean
  | 5 => .object "ZoeStrips$Text"
  | 6 => .long
  | 7 => .long
  | 8 => .int
  | 9 => .int
  | 10 => .int
  | 11 => .object "ZoeStrips$Moment"
  | 12 => .object "ZoeStrips$Strip"
  | 13 => .object "ZoeStrips$Beginnings"
  | 14 => .object "ZoeStrips$Tally"
  | 15 => .object "ZoeStrips$Smear"
  | 16 => .array .int
  | _ => .array .int
theorem nmX11 : ∀ a, a < 18 → ∀ b, b < 18 → a ≠ b → (TX11 a).2.1 ≠ (TX11 b).2.1 := by decide +kernel
theorem tyX11_ok : ∀ k, k < 18 → parseFieldDescriptor (TX11 k).2.2.1 = some (tyX11 k) := by decide +kernel
abbrev cX11_init : ByteArray := prog_1_method_1_code
def yX11_init : MethodName := ⟨RX11, "<init>", "()V"⟩
abbrev cX11_drum : ByteArray := prog_1_method_2_code
def yX11_drum : MethodName := ⟨RX11, "drum", "(III)I"⟩
abbrev cX11_lamp : ByteArray := prog_1_method_3_code
def yX11_lamp : MethodName := ⟨RX11, "lamp", "(I)I"⟩
abbrev cX11_eye : ByteArray := prog_1_method_4_code
def yX11_eye : MethodName := ⟨RX11, "eye", "(I)I"⟩
abbrev cX11_type : ByteArray := prog_1_method_5_code
def yX11_type : MethodName := ⟨RX11, "type", "(I)I"⟩
abbrev cX11_clear : ByteArray := prog_1_method_6_code
def yX11_clear : MethodName := ⟨RX11, "clear", "()I"⟩
abbrev cX11_read : ByteArray := prog_1_method_7_code
def yX11_read : MethodName := ⟨RX11, "read", "()I"⟩
abbrev cX11_spins : ByteArray := prog_1_method_8_code
def yX11_spins : MethodName := ⟨RX11, "spins", "(I)I"⟩
abbrev cX11_steps : ByteArray := prog_1_method_9_code
def yX11_steps : MethodName := ⟨RX11, "steps", "(I)I"⟩
abbrev cX11_draws : ByteArray := prog_1_method_10_code
def yX11_draws : MethodName := ⟨RX11, "draws", "(II)I"⟩
abbrev cX11_undo : ByteArray := prog_1_method_11_code
def yX11_undo : MethodName := ⟨RX11, "undo", "()I"⟩
abbrev cX11_of : ByteArray := prog_1_method_12_code
def yX11_of : MethodName := ⟨RX11, "of", "(II)I"⟩
abbrev cX11_drawn : ByteArray := prog_1_method_13_code
def yX11_drawn : MethodName := ⟨RX11, "drawn", "(I)I"⟩
abbrev cX11_at : ByteArray := prog_1_method_14_code
def yX11_at : MethodName := ⟨RX11, "at", "(I)I"⟩
abbrev cX11_sees : ByteArray := prog_1_method_15_code
def yX11_sees : MethodName := ⟨RX11, "sees", "(II)I"⟩
abbrev cX11_round : ByteArray := prog_1_method_16_code
def yX11_round : MethodName := ⟨RX11, "round", "()I"⟩
abbrev cX11_still : ByteArray := prog_1_method_17_code
def yX11_still : MethodName := ⟨RX11, "still", "(I)I"⟩
abbrev cX11_most : ByteArray := prog_1_method_18_code
def yX11_most : MethodName := ⟨RX11, "most", "(III)I"⟩
abbrev cX11_smooth : ByteArray := prog_1_method_19_code
def yX11_smooth : MethodName := ⟨RX11, "smooth", "(I)I"⟩
abbrev cX11_seen : ByteArray := prog_1_method_20_code
def yX11_seen : MethodName := ⟨RX11, "seen", "(II)I"⟩
abbrev cX11_began : ByteArray := prog_1_method_21_code
def yX11_began : MethodName := ⟨RX11, "began", "(I)I"⟩
abbrev cX11_tell : ByteArray := prog_1_method_22_code
def yX11_tell : MethodName := ⟨RX11, "tell", "()I"⟩
abbrev cX11_note : ByteArray := prog_1_method_23_code
def yX11_note : MethodName := ⟨RX11, "note", "(IIII)I"⟩
abbrev cX11_mark : ByteArray := prog_1_method_24_code
def yX11_mark : MethodName := ⟨RX11, "mark", "(III)I"⟩
abbrev cX11_forget : ByteArray := prog_1_method_25_code
def yX11_forget : MethodName := ⟨RX11, "forget", "(I)I"⟩
abbrev cX11_is : ByteArray := prog_1_method_26_code
def yX11_is : MethodName := ⟨RX11, "is", "(I)I"⟩
abbrev cX11_look : ByteArray := prog_1_method_27_code
def yX11_look : MethodName := ⟨RX11, "look", "(I)I"⟩
abbrev cX11_kinds : ByteArray := prog_1_method_28_code
def yX11_kinds : MethodName := ⟨RX11, "kinds", "()I"⟩
abbrev cX11_ask : ByteArray := prog_1_method_29_code
def yX11_ask : MethodName := ⟨RX11, "ask", "()I"⟩
abbrev cX11_hands : ByteArray := prog_1_method_30_code
def yX11_hands : MethodName := ⟨RX11, "hands", "(III)I"⟩
abbrev cX11_smear : ByteArray := prog_1_method_31_code
def yX11_smear : MethodName := ⟨RX11, "smear", "(IIII)I"⟩
abbrev cX11_nights : ByteArray := prog_1_method_32_code
def yX11_nights : MethodName := ⟨RX11, "nights", "(II)I"⟩
abbrev cX11_part : ByteArray := prog_1_method_33_code
def yX11_part : MethodName := ⟨RX11, "part", "(I)J"⟩
abbrev cX11_image : ByteArray := prog_1_method_34_code
def yX11_image : MethodName := ⟨RX11, "image", "(I)I"⟩
abbrev cX11_from : ByteArray := prog_1_method_35_code
def yX11_from : MethodName := ⟨RX11, "from", "(I)I"⟩
abbrev cX11_status : ByteArray := prog_1_method_36_code
def yX11_status : MethodName := ⟨RX11, "status", "(I)I"⟩
abbrev cX11_count : ByteArray := prog_1_method_37_code
def yX11_count : MethodName := ⟨RX11, "count", "(I)I"⟩
abbrev cX11_digest : ByteArray := prog_1_method_38_code
def yX11_digest : MethodName := ⟨RX11, "digest", "()J"⟩
abbrev cX11_refuseBad : ByteArray := prog_1_method_39_code
def yX11_refuseBad : MethodName := ⟨RX11, "refuseBad", "(I)I"⟩
abbrev cX11_refuseNo : ByteArray := prog_1_method_40_code
def yX11_refuseNo : MethodName := ⟨RX11, "refuseNo", "()I"⟩
abbrev cX11_refuseFull : ByteArray := prog_1_method_41_code
def yX11_refuseFull : MethodName := ⟨RX11, "refuseFull", "()I"⟩
abbrev cX11_within : ByteArray := prog_1_method_42_code
def yX11_within : MethodName := ⟨RX11, "within", "(III)Z"⟩
abbrev cX11_isKind : ByteArray := prog_1_method_43_code
def yX11_isKind : MethodName := ⟨RX11, "isKind", "(I)Z"⟩
abbrev cX11_isStep : ByteArray := prog_1_method_44_code
def yX11_isStep : MethodName := ⟨RX11, "isStep", "(I)Z"⟩
abbrev cX11_isDrawing : ByteArray := prog_1_method_45_code
def yX11_isDrawing : MethodName := ⟨RX11, "isDrawing", "(I)Z"⟩
abbrev cX11_isFrame : ByteArray := prog_1_method_46_code
def yX11_isFrame : MethodName := ⟨RX11, "isFrame", "(I)Z"⟩
abbrev cX11_isEye : ByteArray := prog_1_method_47_code
def yX11_isEye : MethodName := ⟨RX11, "isEye", "(I)Z"⟩
abbrev cX11_cell : ByteArray := prog_1_method_48_code
def yX11_cell : MethodName := ⟨RX11, "cell", "([II)I"⟩
abbrev cX11_put : ByteArray := prog_1_method_49_code
def yX11_put : MethodName := ⟨RX11, "put", "([III)V"⟩
abbrev cX11_fill : ByteArray := prog_1_method_50_code
def yX11_fill : MethodName := ⟨RX11, "fill", "([II)V"⟩
abbrev cX11_copyRow : ByteArray := prog_1_method_51_code
def yX11_copyRow : MethodName := ⟨RX11, "copyRow", "([I[I)V"⟩
abbrev cX11_wrap : ByteArray := prog_1_method_52_code
def yX11_wrap : MethodName := ⟨RX11, "wrap", "(II)I"⟩
abbrev cX11_startTrial : ByteArray := prog_1_method_53_code
def yX11_startTrial : MethodName := ⟨RX11, "startTrial", "(I)V"⟩
abbrev cX11_tryFlashes : ByteArray := prog_1_method_54_code
def yX11_tryFlashes : MethodName := ⟨RX11, "tryFlashes", "(II)V"⟩
abbrev cX11_trialIsAsNow : ByteArray := prog_1_method_55_code
def yX11_trialIsAsNow : MethodName := ⟨RX11, "trialIsAsNow", "()Z"⟩
abbrev cX11_standsStill : ByteArray := prog_1_method_56_code
def yX11_standsStill : MethodName := ⟨RX11, "standsStill", "(II)Z"⟩
abbrev cX11_eyeKinds : ByteArray := prog_1_method_57_code
def yX11_eyeKinds : MethodName := ⟨RX11, "eyeKinds", "(I)I"⟩
abbrev cX11_eyeFits : ByteArray := prog_1_method_58_code
def yX11_eyeFits : MethodName := ⟨RX11, "eyeFits", "(II)Z"⟩
abbrev cX11_bestLook : ByteArray := prog_1_method_59_code
def yX11_bestLook : MethodName := ⟨RX11, "bestLook", "(I)I"⟩
abbrev cX11_lampKinds : ByteArray := prog_1_method_60_code
def yX11_lampKinds : MethodName := ⟨RX11, "lampKinds", "()I"⟩
abbrev cX11_lampFits : ByteArray := prog_1_method_61_code
def yX11_lampFits : MethodName := ⟨RX11, "lampFits", "(I)Z"⟩
abbrev cX11_bestAsk : ByteArray := prog_1_method_62_code
def yX11_bestAsk : MethodName := ⟨RX11, "bestAsk", "(I)I"⟩
abbrev cX11_tallyPassing : ByteArray := prog_1_method_63_code
def yX11_tallyPassing : MethodName := ⟨RX11, "tallyPassing", "(III)V"⟩
abbrev cX11_hasBit : ByteArray := prog_1_method_64_code
def yX11_hasBit : MethodName := ⟨RX11, "hasBit", "(II)Z"⟩
abbrev cX11_fillGains : ByteArray := prog_1_method_65_code
def yX11_fillGains : MethodName := ⟨RX11, "fillGains", "(II)V"⟩
abbrev cX11_gain : ByteArray := prog_1_method_66_code
def yX11_gain : MethodName := ⟨RX11, "gain", "([III)I"⟩
abbrev cX11_rests : ByteArray := prog_1_method_67_code
def yX11_rests : MethodName := ⟨RX11, "rests", "(II)Z"⟩
abbrev cX11_keepFraction : ByteArray := prog_1_method_68_code
def yX11_keepFraction : MethodName := ⟨RX11, "keepFraction", "(JJ)V"⟩
abbrev cX11_greatestDivisor : ByteArray := prog_1_method_69_code
def yX11_greatestDivisor : MethodName := ⟨RX11, "greatestDivisor", "(JJ)J"⟩
abbrev cX11_countOf : ByteArray := prog_1_method_70_code
def yX11_countOf : MethodName := ⟨RX11, "countOf", "(I)I"⟩
def RX12 : String := "ZoeStripsModel"
def TX12 : u_T := fun k => match k with
  | 0 => ("ZoeStripsModel", "slot", "[I", true)
  | 1 => ("ZoeStripsModel", "told", "[I", true)
  | 2 => ("ZoeStripsModel", "kept", "[I", true)
  | 3 => ("ZoeStripsModel", "length", "I", false)
  | 4 => ("ZoeStripsModel", "text", "[B", true)
  | 5 => ("ZoeStripsModel", "next", "I", false)
  | 6 => ("ZoeStripsModel", "place", "I", false)
  | 7 => ("ZoeStripsModel", "isWrong", "Z", false)
  | 8 => ("ZoeStripsModel", "isDone", "Z", false)
  | 9 => ("ZoeStripsModel", "eyesThen", "I", false)
  | 10 => ("ZoeStripsModel", "framesThen", "I", false)
  | 11 => ("ZoeStripsModel", "number", "I", false)
  | 12 => ("ZoeStripsModel", "above", "J", false)
  | 13 => ("ZoeStripsModel", "below", "J", false)
  | 14 => ("ZoeStripsModel", "refused", "[I", true)
  | 15 => ("ZoeStripsModel", "costs", "[I", true)
  | 16 => ("ZoeStripsModel", "often", "[I", true)
  | 17 => ("ZoeStripsModel", "one", "[I", true)
  | _ => ("ZoeStripsModel", "two", "[I", true)
def tyX12 : Nat → FieldType := fun k => match k with
  | 0 => .array .int
  | 1 => .array .int
  | 2 => .array .int
  | 3 => .int
  | 4 => .array .byte
  | 5 => .int
  | 6 => .int
  | 7 => .boolean
  | 8 => .boolean
  | 9 => .int
  | 10 => .int
  | 11 => .int
  | 12 => .long
  | 13 => .long
  | 14 => .array .int
  | 15 => .array .int
  | 16 => .array .int
  | 17 => .array .int
  | _ => .array .int
theorem nmX12 : ∀ a, a < 19 → ∀ b, b < 19 → a ≠ b → (TX12 a).2.1 ≠ (TX12 b).2.1 := by decide +kernel
theorem tyX12_ok : ∀ k, k < 19 → parseFieldDescriptor (TX12 k).2.2.1 = some (tyX12 k) := by decide +kernel
abbrev cX12_init : ByteArray := prog_14_method_1_code
def yX12_init : MethodName := ⟨RX12, "<init>", "()V"⟩
abbrev cX12_in : ByteArray := prog_14_method_2_code
def yX12_in : MethodName := ⟨RX12, "in", "(JJJ)Z"⟩
abbrev cX12_has : ByteArray := prog_14_method_3_code
def yX12_has : MethodName := ⟨RX12, "has", "(II)Z"⟩
abbrev cX12_apart : ByteArray := prog_14_method_4_code
def yX12_apart : MethodName := ⟨RX12, "apart", "(II)I"⟩
abbrev cX12_bad : ByteArray := prog_14_method_5_code
def yX12_bad : MethodName := ⟨RX12, "bad", "()I"⟩
abbrev cX12_no : ByteArray := prog_14_method_6_code
def yX12_no : MethodName := ⟨RX12, "no", "()I"⟩
abbrev cX12_full : ByteArray := prog_14_method_7_code
def yX12_full : MethodName := ⟨RX12, "full", "()I"⟩
abbrev cX12_bad10 : ByteArray := prog_14_method_8_code
def yX12_bad10 : MethodName := ⟨RX12, "bad10", "()I"⟩
abbrev cX12_begins : ByteArray := prog_14_method_9_code
def yX12_begins : MethodName := ⟨RX12, "begins", "(III)V"⟩
abbrev cX12_passes : ByteArray := prog_14_method_10_code
def yX12_passes : MethodName := ⟨RX12, "passes", "(III)I"⟩
abbrev cX12_looks : ByteArray := prog_14_method_11_code
def yX12_looks : MethodName := ⟨RX12, "looks", "(III)I"⟩
abbrev cX12_drum : ByteArray := prog_14_method_12_code
def yX12_drum : MethodName := ⟨RX12, "drum", "(III)I"⟩
abbrev cX12_lamp : ByteArray := prog_14_method_13_code
def yX12_lamp : MethodName := ⟨RX12, "lamp", "(I)I"⟩
abbrev cX12_comes : ByteArray := prog_14_method_14_code
def yX12_comes : MethodName := ⟨RX12, "comes", "(I)I"⟩
abbrev cX12_eye : ByteArray := prog_14_method_15_code
def yX12_eye : MethodName := ⟨RX12, "eye", "(I)I"⟩
abbrev cX12_type : ByteArray := prog_14_method_16_code
def yX12_type : MethodName := ⟨RX12, "type", "(I)I"⟩
abbrev cX12_clear : ByteArray := prog_14_method_17_code
def yX12_clear : MethodName := ⟨RX12, "clear", "()I"⟩
abbrev cX12_byteAt : ByteArray := prog_14_method_18_code
def yX12_byteAt : MethodName := ⟨RX12, "byteAt", "(I)I"⟩
abbrev cX12_token : ByteArray := prog_14_method_19_code
def yX12_token : MethodName := ⟨RX12, "token", "()I"⟩
abbrev cX12_word : ByteArray := prog_14_method_20_code
def yX12_word : MethodName := ⟨RX12, "word", "()J"⟩
abbrev cX12_wants : ByteArray := prog_14_method_21_code
def yX12_wants : MethodName := ⟨RX12, "wants", "(II)I"⟩
abbrev cX12_drumItem : ByteArray := prog_14_method_22_code
def yX12_drumItem : MethodName := ⟨RX12, "drumItem", "()V"⟩
abbrev cX12_drawItem : ByteArray := prog_14_method_23_code
def yX12_drawItem : MethodName := ⟨RX12, "drawItem", "()V"⟩
abbrev cX12_act : ByteArray := prog_14_method_24_code
def yX12_act : MethodName := ⟨RX12, "act", "(J)V"⟩
abbrev cX12_item : ByteArray := prog_14_method_25_code
def yX12_item : MethodName := ⟨RX12, "item", "(I)V"⟩
abbrev cX12_goesThrough : ByteArray := prog_14_method_26_code
def yX12_goesThrough : MethodName := ⟨RX12, "goesThrough", "(Z)I"⟩
abbrev cX12_read : ByteArray := prog_14_method_27_code
def yX12_read : MethodName := ⟨RX12, "read", "()I"⟩
abbrev cX12_flash : ByteArray := prog_14_method_28_code
def yX12_flash : MethodName := ⟨RX12, "flash", "(IIZ)V"⟩
abbrev cX12_copies : ByteArray := prog_14_method_29_code
def yX12_copies : MethodName := ⟨RX12, "copies", "(II)V"⟩
abbrev cX12_known : ByteArray := prog_14_method_30_code
def yX12_known : MethodName := ⟨RX12, "known", "()V"⟩
abbrev cX12_spins : ByteArray := prog_14_method_31_code
def yX12_spins : MethodName := ⟨RX12, "spins", "(I)I"⟩
abbrev cX12_steps : ByteArray := prog_14_method_32_code
def yX12_steps : MethodName := ⟨RX12, "steps", "(I)I"⟩
abbrev cX12_isFrame : ByteArray := prog_14_method_33_code
def yX12_isFrame : MethodName := ⟨RX12, "isFrame", "(I)Z"⟩
abbrev cX12_isEye : ByteArray := prog_14_method_34_code
def yX12_isEye : MethodName := ⟨RX12, "isEye", "(I)Z"⟩
abbrev cX12_draws : ByteArray := prog_14_method_35_code
def yX12_draws : MethodName := ⟨RX12, "draws", "(II)I"⟩
abbrev cX12_undo : ByteArray := prog_14_method_36_code
def yX12_undo : MethodName := ⟨RX12, "undo", "()I"⟩
abbrev cX12_of : ByteArray := prog_14_method_37_code
def yX12_of : MethodName := ⟨RX12, "of", "(II)I"⟩
abbrev cX12_drawn : ByteArray := prog_14_method_38_code
def yX12_drawn : MethodName := ⟨RX12, "drawn", "(I)I"⟩
abbrev cX12_tries : ByteArray := prog_14_method_39_code
def yX12_tries : MethodName := ⟨RX12, "tries", "()V"⟩
abbrev cX12_flashes : ByteArray := prog_14_method_40_code
def yX12_flashes : MethodName := ⟨RX12, "flashes", "(II)V"⟩
abbrev cX12_at : ByteArray := prog_14_method_41_code
def yX12_at : MethodName := ⟨RX12, "at", "(I)I"⟩
abbrev cX12_sees : ByteArray := prog_14_method_42_code
def yX12_sees : MethodName := ⟨RX12, "sees", "(II)I"⟩
abbrev cX12_round : ByteArray := prog_14_method_43_code
def yX12_round : MethodName := ⟨RX12, "round", "()I"⟩
abbrev cX12_still : ByteArray := prog_14_method_44_code
def yX12_still : MethodName := ⟨RX12, "still", "(I)I"⟩
abbrev cX12_most : ByteArray := prog_14_method_45_code
def yX12_most : MethodName := ⟨RX12, "most", "(III)I"⟩
abbrev cX12_costOf : ByteArray := prog_14_method_46_code
def yX12_costOf : MethodName := ⟨RX12, "costOf", "(I)I"⟩
abbrev cX12_smooth : ByteArray := prog_14_method_47_code
def yX12_smooth : MethodName := ⟨RX12, "smooth", "(I)I"⟩
abbrev cX12_seen : ByteArray := prog_14_method_48_code
def yX12_seen : MethodName := ⟨RX12, "seen", "(II)I"⟩
abbrev cX12_shown : ByteArray := prog_14_method_49_code
def yX12_shown : MethodName := ⟨RX12, "shown", "(II)I"⟩
abbrev cX12_isSo : ByteArray := prog_14_method_50_code
def yX12_isSo : MethodName := ⟨RX12, "isSo", "(I)Z"⟩
abbrev cX12_began : ByteArray := prog_14_method_51_code
def yX12_began : MethodName := ⟨RX12, "began", "(I)I"⟩
abbrev cX12_tell : ByteArray := prog_14_method_52_code
def yX12_tell : MethodName := ⟨RX12, "tell", "()I"⟩
abbrev cX12_note : ByteArray := prog_14_method_53_code
def yX12_note : MethodName := ⟨RX12, "note", "(IIII)I"⟩
abbrev cX12_mark : ByteArray := prog_14_method_54_code
def yX12_mark : MethodName := ⟨RX12, "mark", "(III)I"⟩
abbrev cX12_forget : ByteArray := prog_14_method_55_code
def yX12_forget : MethodName := ⟨RX12, "forget", "(I)I"⟩
abbrev cX12_eyesThat : ByteArray := prog_14_method_56_code
def yX12_eyesThat : MethodName := ⟨RX12, "eyesThat", "(I)I"⟩
abbrev cX12_is : ByteArray := prog_14_method_57_code
def yX12_is : MethodName := ⟨RX12, "is", "(I)I"⟩
abbrev cX12_look : ByteArray := prog_14_method_58_code
def yX12_look : MethodName := ⟨RX12, "look", "(I)I"⟩
abbrev cX12_kinds : ByteArray := prog_14_method_59_code
def yX12_kinds : MethodName := ⟨RX12, "kinds", "()I"⟩
abbrev cX12_ask : ByteArray := prog_14_method_60_code
def yX12_ask : MethodName := ⟨RX12, "ask", "()I"⟩
abbrev cX12_rests : ByteArray := prog_14_method_61_code
def yX12_rests : MethodName := ⟨RX12, "rests", "(II)Z"⟩
abbrev cX12_hands : ByteArray := prog_14_method_62_code
def yX12_hands : MethodName := ⟨RX12, "hands", "(III)I"⟩
abbrev cX12_smear : ByteArray := prog_14_method_63_code
def yX12_smear : MethodName := ⟨RX12, "smear", "(IIII)I"⟩
abbrev cX12_nights : ByteArray := prog_14_method_64_code
def yX12_nights : MethodName := ⟨RX12, "nights", "(II)I"⟩
abbrev cX12_movesOf : ByteArray := prog_14_method_65_code
def yX12_movesOf : MethodName := ⟨RX12, "movesOf", "(I)I"⟩
abbrev cX12_part : ByteArray := prog_14_method_66_code
def yX12_part : MethodName := ⟨RX12, "part", "(I)J"⟩
abbrev cX12_carries : ByteArray := prog_14_method_67_code
def yX12_carries : MethodName := ⟨RX12, "carries", "(IIII)V"⟩
abbrev cX12_image : ByteArray := prog_14_method_68_code
def yX12_image : MethodName := ⟨RX12, "image", "(I)I"⟩
abbrev cX12_from : ByteArray := prog_14_method_69_code
def yX12_from : MethodName := ⟨RX12, "from", "(I)I"⟩
abbrev cX12_status : ByteArray := prog_14_method_70_code
def yX12_status : MethodName := ⟨RX12, "status", "(I)I"⟩
abbrev cX12_countOf : ByteArray := prog_14_method_71_code
def yX12_countOf : MethodName := ⟨RX12, "countOf", "(I)I"⟩
abbrev cX12_count : ByteArray := prog_14_method_72_code
def yX12_count : MethodName := ⟨RX12, "count", "(I)I"⟩
abbrev cX12_digest : ByteArray := prog_14_method_73_code
def yX12_digest : MethodName := ⟨RX12, "digest", "()J"⟩
def RJ9 : String := "java/lang/Math"
def TJ9 : u_T := fun k => match k with
  | _ => ("", "", "", false)
def tyJ9 : Nat → FieldType := fun k => match k with
  | _ => .int
theorem nmJ9 : ∀ a, a < 0 → ∀ b, b < 0 → a ≠ b → (TJ9 a).2.1 ≠ (TJ9 b).2.1 := by decide +kernel
theorem tyJ9_ok : ∀ k, k < 0 → parseFieldDescriptor (TJ9 k).2.2.1 = some (tyJ9 k) := by decide +kernel
abbrev cJ9_floorMod_7cf53 : ByteArray := prog_15_method_50_code
def yJ9_floorMod_7cf53 : MethodName := ⟨RJ9, "floorMod", "(II)I"⟩
abbrev cJ9_abs_0f7a4 : ByteArray := prog_15_method_59_code
def yJ9_abs_0f7a4 : MethodName := ⟨RJ9, "abs", "(I)I"⟩
abbrev cJ9_max_7cf53 : ByteArray := prog_15_method_65_code
def yJ9_max_7cf53 : MethodName := ⟨RJ9, "max", "(II)I"⟩
abbrev cJ9_min_7cf53 : ByteArray := prog_15_method_69_code
def yJ9_min_7cf53 : MethodName := ⟨RJ9, "min", "(II)I"⟩
def RJ0 : String := "java/lang/String"
def TJ0 : u_T := fun k => match k with
  | _ => ("", "", "", false)
def tyJ0 : Nat → FieldType := fun k => match k with
  | _ => .int
theorem nmJ0 : ∀ a, a < 0 → ∀ b, b < 0 → a ≠ b → (TJ0 a).2.1 ≠ (TJ0 b).2.1 := by decide +kernel
theorem tyJ0_ok : ∀ k, k < 0 → parseFieldDescriptor (TJ0 k).2.2.1 = some (tyJ0 k) := by decide +kernel
abbrev cJ0_length_8abf5 : ByteArray := prog_16_method_54_code
def yJ0_length_8abf5 : MethodName := ⟨RJ0, "length", "()I"⟩
abbrev cJ0_charAt_5068e : ByteArray := prog_16_method_56_code
def yJ0_charAt_5068e : MethodName := ⟨RJ0, "charAt", "(I)C"⟩
abbrev cJ0_coder_7d493 : ByteArray := prog_16_method_152_code
def yJ0_coder_7d493 : MethodName := ⟨RJ0, "coder", "()B"⟩
abbrev cJ0_isLatin1_aae02 : ByteArray := prog_16_method_154_code
def yJ0_isLatin1_aae02 : MethodName := ⟨RJ0, "isLatin1", "()Z"⟩
abbrev cJ0_checkIndex_df160 : ByteArray := prog_16_method_155_code
def yJ0_checkIndex_df160 : MethodName := ⟨RJ0, "checkIndex", "(II)V"⟩
def RJ1 : String := "java/lang/StringLatin1"
def TJ1 : u_T := fun k => match k with
  | _ => ("", "", "", false)
def tyJ1 : Nat → FieldType := fun k => match k with
  | _ => .int
theorem nmJ1 : ∀ a, a < 0 → ∀ b, b < 0 → a ≠ b → (TJ1 a).2.1 ≠ (TJ1 b).2.1 := by decide +kernel
theorem tyJ1_ok : ∀ k, k < 0 → parseFieldDescriptor (TJ1 k).2.2.1 = some (tyJ1 k) := by decide +kernel
abbrev cJ1_charAt_3b067 : ByteArray := prog_17_method_2_code
def yJ1_charAt_3b067 : MethodName := ⟨RJ1, "charAt", "([BI)C"⟩
def RJ2 : String := "java/lang/StringUTF16"
def TJ2 : u_T := fun k => match k with
  | _ => ("", "", "", false)
def tyJ2 : Nat → FieldType := fun k => match k with
  | _ => .int
theorem nmJ2 : ∀ a, a < 0 → ∀ b, b < 0 → a ≠ b → (TJ2 a).2.1 ≠ (TJ2 b).2.1 := by decide +kernel
theorem tyJ2_ok : ∀ k, k < 0 → parseFieldDescriptor (TJ2 k).2.2.1 = some (tyJ2 k) := by decide +kernel
abbrev cJ2_getChar_3b067 : ByteArray := prog_18_method_5_code
def yJ2_getChar_3b067 : MethodName := ⟨RJ2, "getChar", "([BI)C"⟩
abbrev cJ2_length_9d52b : ByteArray := prog_18_method_6_code
def yJ2_length_9d52b : MethodName := ⟨RJ2, "length", "([B)I"⟩
abbrev cJ2_charAt_3b067 : ByteArray := prog_18_method_83_code
def yJ2_charAt_3b067 : MethodName := ⟨RJ2, "charAt", "([BI)C"⟩
abbrev cJ2_checkIndex_2214a : ByteArray := prog_18_method_91_code
def yJ2_checkIndex_2214a : MethodName := ⟨RJ2, "checkIndex", "(I[B)V"⟩
def RJ3 : String := "jdk/internal/util/Preconditions"
def TJ3 : u_T := fun k => match k with
  | _ => ("", "", "", false)
def tyJ3 : Nat → FieldType := fun k => match k with
  | _ => .int
theorem nmJ3 : ∀ a, a < 0 → ∀ b, b < 0 → a ≠ b → (TJ3 a).2.1 ≠ (TJ3 b).2.1 := by decide +kernel
theorem tyJ3_ok : ∀ k, k < 0 → parseFieldDescriptor (TJ3 k).2.2.1 = some (tyJ3 k) := by decide +kernel
abbrev cJ3_checkIndex_8e157 : ByteArray := prog_19_method_11_code
def yJ3_checkIndex_8e157 : MethodName := ⟨RJ3, "checkIndex", "(IILjava/util/function/BiFunction;)I"⟩
def RL : String := "ZoeStripsLaw"
abbrev cL_law : ByteArray := code
def yL_law : MethodName := ⟨RL, "law", "([I)Z"⟩
abbrev vwCl : List vw_C := [(RX0, TX0, 3), (RX3, TX3, 6), (RX4, TX4, 2), (RX5, TX5, 3), (RX6, TX6, 9), (RX7, TX7, 2), (RX8, TX8, 3), (RX9, TX9, 2), (RX10, TX10, 8), (RX11, TX11, 18), (RX12, TX12, 19)]
end
section
/-! the cells of the system, by number: .inl (0 int, 1 byte; length), .inr (its class's number in vwCl; fields: 0 an int, 1 a long, k + 2 the cell k) -/
def zs_n : Nat := 90
def zs_sh : Nat → (Nat × Nat) ⊕ (Nat × List Nat) := fun a => match a with
  | 0 => .inr (9, [3, 17, 31, 0, 0, 45, 1, 1, 0, 0, 0, 65, 69, 72, 75, 77, 80, 81])
  | 1 => .inr (4, [0, 0, 0, 4, 5, 9, 11, 13, 15])
  | 2 => .inl (0, 5)
  | 3 => .inr (1, [0, 0, 0, 6, 7, 8])
  | 4 => .inl (0, 12)
  | 5 => .inl (0, 5)
  | 6 => .inl (0, 5)
  | 7 => .inr (2, [10, 0])
  | 8 => .inl (0, 200)
  | 9 => .inr (3, [0, 12, 0])
  | 10 => .inl (0, 24)
  | 11 => .inr (3, [0, 14, 0])
  | 12 => .inl (0, 24)
  | 13 => .inr (3, [0, 16, 0])
  | 14 => .inl (0, 24)
  | 15 => .inr (4, [0, 0, 0, 18, 19, 23, 25, 27, 29])
  | 16 => .inl (0, 5)
  | 17 => .inr (1, [0, 0, 0, 20, 21, 22])
  | 18 => .inl (0, 12)
  | 19 => .inl (0, 5)
  | 20 => .inl (0, 5)
  | 21 => .inr (2, [24, 0])
  | 22 => .inl (0, 200)
  | 23 => .inr (3, [0, 26, 0])
  | 24 => .inl (0, 24)
  | 25 => .inr (3, [0, 28, 0])
  | 26 => .inl (0, 24)
  | 27 => .inr (3, [0, 30, 0])
  | 28 => .inl (0, 24)
  | 29 => .inr (4, [0, 0, 0, 32, 33, 37, 39, 41, 43])
  | 30 => .inl (0, 5)
  | 31 => .inr (1, [0, 0, 0, 34, 35, 36])
  | 32 => .inl (0, 12)
  | 33 => .inl (0, 5)
  | 34 => .inl (0, 5)
  | 35 => .inr (2, [38, 0])
  | 36 => .inl (0, 200)
  | 37 => .inr (3, [0, 40, 0])
  | 38 => .inl (0, 24)
  | 39 => .inr (3, [0, 42, 0])
  | 40 => .inl (0, 24)
  | 41 => .inr (3, [0, 44, 0])
  | 42 => .inl (0, 24)
  | 43 => .inr (8, [46, 0, 47, 61, 62, 63, 64, 0])
  | 44 => .inl (0, 150)
  | 45 => .inr (4, [0, 0, 0, 48, 49, 53, 55, 57, 59])
  | 46 => .inl (0, 5)
  | 47 => .inr (1, [0, 0, 0, 50, 51, 52])
  | 48 => .inl (0, 12)
  | 49 => .inl (0, 5)
  | 50 => .inl (0, 5)
  | 51 => .inr (2, [54, 0])
  | 52 => .inl (0, 200)
  | 53 => .inr (3, [0, 56, 0])
  | 54 => .inl (0, 24)
  | 55 => .inr (3, [0, 58, 0])
  | 56 => .inl (0, 24)
  | 57 => .inr (3, [0, 60, 0])
  | 58 => .inl (0, 24)
  | 59 => .inl (0, 151)
  | 60 => .inl (0, 151)
  | 61 => .inl (0, 151)
  | 62 => .inl (0, 151)
  | 63 => .inr (1, [0, 0, 0, 66, 67, 68])
  | 64 => .inl (0, 12)
  | 65 => .inl (0, 5)
  | 66 => .inl (0, 5)
  | 67 => .inr (6, [70, 71, 0])
  | 68 => .inl (0, 120)
  | 69 => .inl (0, 12)
  | 70 => .inr (0, [73, 74, 0])
  | 71 => .inl (0, 372)
  | 72 => .inl (0, 144)
  | 73 => .inr (7, [76, 0])
  | 74 => .inl (0, 32)
  | 75 => .inr (5, [78, 79])
  | 76 => .inl (0, 10)
  | 77 => .inl (0, 10)
  | 78 => .inl (0, 8)
  | 79 => .inl (0, 8)
  | 80 => .inr (10, [83, 84, 85, 0, 86, 0, 0, 0, 0, 0, 0, 0, 1, 1, 87, 88, 89, 90, 91])
  | 81 => .inl (0, 700)
  | 82 => .inl (0, 198)
  | 83 => .inl (0, 2)
  | 84 => .inl (1, 150)
  | 85 => .inl (0, 3)
  | 86 => .inl (0, 120)
  | 87 => .inl (0, 10)
  | 88 => .inl (0, 16)
  | 89 => .inl (0, 16)
  | _ => .inl (2, 0)
def zs_lk : List (Nat × Value) → Nat → Option Value
  | [], _ => none
  | (j, v) :: r, i => if j = i then some v else zs_lk r i
def zs_nst : List (String × Nat × MethodName × String) := [(RX11, 9, yX6_init, "ZoeStrips"), (RX6, 21, yX3_init, "ZoeStrips"), (RX6, 28, yX4_init, "ZoeStrips"), (RX11, 24, yX10_init, "ZoeStrips"), (RX10, 17, yX6_init, "ZoeStrips"), (RX11, 35, yX3_init, "ZoeStrips"), (RX11, 42, yX8_init, "ZoeStrips"), (RX11, 49, yX0_init, "ZoeStrips"), (RX11, 56, yX9_init, "ZoeStrips"), (RX11, 63, yX7_init, "ZoeStrips"), (RX6, 54, yX11_fill, "ZoeStrips"), (RX3, 31, yX11_fill, "ZoeStrips"), (RX6, 81, yX11_put, "ZoeStrips"), (RX10, 38, yX11_put, "ZoeStrips"), (RX10, 66, yX11_cell, "ZoeStrips"), (RX10, 111, yX11_within, "ZoeStrips"), (RX6, 108, yX11_wrap, "ZoeStrips"), (RX6, 116, yX11_cell, "ZoeStrips"), (RX6, 67, yX11_copyRow, "ZoeStrips"), (RX3, 35, yX11_copyRow, "ZoeStrips"), (RX4, 31, yX11_copyRow, "ZoeStrips"), (RX5, 30, yX11_copyRow, "ZoeStrips"), (RX4, 35, yX11_cell, "ZoeStrips"), (RX4, 39, yX11_put, "ZoeStrips"), (RX3, 39, yX11_put, "ZoeStrips"), (RX3, 43, yX11_cell, "ZoeStrips"), (RX8, 34, yX11_cell, "ZoeStrips"), (RX8, 31, yX11_put, "ZoeStrips"), (RX5, 22, yX11_put, "ZoeStrips"), (RX0, 38, yX11_put, "ZoeStrips"), (RX5, 26, yX11_cell, "ZoeStrips"), (RX0, 47, yX11_cell, "ZoeStrips"), (RX0, 84, yX11_wrap, "ZoeStrips"), (RX9, 13, yX11_fill, "ZoeStrips"), (RX9, 23, yX11_cell, "ZoeStrips"), (RX9, 27, yX11_put, "ZoeStrips"), (RX7, 18, yX11_fill, "ZoeStrips"), (RX7, 22, yX11_put, "ZoeStrips"), (RX7, 26, yX11_copyRow, "ZoeStrips"), (RX7, 30, yX11_cell, "ZoeStrips")]
/-! THE PICTURE OF THE WHOLE SYSTEM: cells by number; what they hold: S.1 a j (an int: field j of the object a, or place j of the array a), S.2 a j (a long field); references never change -/
abbrev zs_S : Type := (Nat → Nat → Int32) × (Nat → Nat → Int64)
abbrev zs_E : Type := (Nat → ClassId) × (Nat → Nat → Nat) × (Nat → ClassId) × (Nat → Nat)
/-- a method: name, bytes, locals, what it returns, its room -/
abbrev zs_M : Type := MethodName × ByteArray × Nat × Option FieldType × Room
abbrev zs_O : Type := Option Value × zs_S
def zs_tbl : List Cond := lw_tbl.filter goodWord
theorem zs_in {w : Cond} (i : Nat) (h : lw_tbl[i]? = some w) (hg : goodWord w = true) : w ∈ zs_tbl := List.mem_filter.mpr ⟨List.mem_of_getElem? h, hg⟩
theorem zs_good : GoodIn zs_tbl zs_tbl := fun w hw => ⟨hw, good_of_word (List.mem_filter.mp hw).2⟩
theorem zs_uw0 : ∀ w ∈ u_ws RX0 TX0 3, w ∈ zs_tbl := by
  show ∀ w ∈ [u_lay RX0 TX0 0, u_lay RX0 TX0 1, u_lay RX0 TX0 2], w ∈ zs_tbl
  exact List.forall_mem_cons.mpr ⟨zs_in 288 (by decide +kernel) rfl, List.forall_mem_cons.mpr ⟨zs_in 290 (by decide +kernel) rfl, List.forall_mem_cons.mpr ⟨zs_in 292 (by decide +kernel) rfl, fun w h => absurd h List.not_mem_nil⟩⟩⟩
theorem zs_uw1 : ∀ w ∈ u_ws RX3 TX3 6, w ∈ zs_tbl := by
  show ∀ w ∈ [u_lay RX3 TX3 0, u_lay RX3 TX3 1, u_lay RX3 TX3 2, u_lay RX3 TX3 3, u_lay RX3 TX3 4, u_lay RX3 TX3 5], w ∈ zs_tbl
  exact List.forall_mem_cons.mpr ⟨zs_in 132 (by decide +kernel) rfl, List.forall_mem_cons.mpr ⟨zs_in 134 (by decide +kernel) rfl, List.forall_mem_cons.mpr ⟨zs_in 136 (by decide +kernel) rfl, List.forall_mem_cons.mpr ⟨zs_in 138 (by decide +kernel) rfl, List.forall_mem_cons.mpr ⟨zs_in 140 (by decide +kernel) rfl, List.forall_mem_cons.mpr ⟨zs_in 142 (by decide +kernel) rfl, fun w h => absurd h List.not_mem_nil⟩⟩⟩⟩⟩⟩
theorem zs_uw2 : ∀ w ∈ u_ws RX4 TX4 2, w ∈ zs_tbl := by
  show ∀ w ∈ [u_lay RX4 TX4 0, u_lay RX4 TX4 1], w ∈ zs_tbl
  exact List.forall_mem_cons.mpr ⟨zs_in 155 (by decide +kernel) rfl, List.forall_mem_cons.mpr ⟨zs_in 157 (by decide +kernel) rfl, fun w h => absurd h List.not_mem_nil⟩⟩
theorem zs_uw3 : ∀ w ∈ u_ws RX5 TX5 3, w ∈ zs_tbl := by
  show ∀ w ∈ [u_lay RX5 TX5 0, u_lay RX5 TX5 1, u_lay RX5 TX5 2], w ∈ zs_tbl
  exact List.forall_mem_cons.mpr ⟨zs_in 171 (by decide +kernel) rfl, List.forall_mem_cons.mpr ⟨zs_in 173 (by decide +kernel) rfl, List.forall_mem_cons.mpr ⟨zs_in 175 (by decide +kernel) rfl, fun w h => absurd h List.not_mem_nil⟩⟩⟩
theorem zs_uw4 : ∀ w ∈ u_ws RX6 TX6 9, w ∈ zs_tbl := by
  show ∀ w ∈ [u_lay RX6 TX6 0, u_lay RX6 TX6 1, u_lay RX6 TX6 2, u_lay RX6 TX6 3, u_lay RX6 TX6 4, u_lay RX6 TX6 5, u_lay RX6 TX6 6, u_lay RX6 TX6 7, u_lay RX6 TX6 8], w ∈ zs_tbl
  exact List.forall_mem_cons.mpr ⟨zs_in 203 (by decide +kernel) rfl, List.forall_mem_cons.mpr ⟨zs_in 205 (by decide +kernel) rfl, List.forall_mem_cons.mpr ⟨zs_in 207 (by decide +kernel) rfl, List.forall_mem_cons.mpr ⟨zs_in 209 (by decide +kernel) rfl, List.forall_mem_cons.mpr ⟨zs_in 211 (by decide +kernel) rfl, List.forall_mem_cons.mpr ⟨zs_in 213 (by decide +kernel) rfl, List.forall_mem_cons.mpr ⟨zs_in 215 (by decide +kernel) rfl, List.forall_mem_cons.mpr ⟨zs_in 217 (by decide +kernel) rfl, List.forall_mem_cons.mpr ⟨zs_in 219 (by decide +kernel) rfl, fun w h => absurd h List.not_mem_nil⟩⟩⟩⟩⟩⟩⟩⟩⟩
theorem zs_uw5 : ∀ w ∈ u_ws RX7 TX7 2, w ∈ zs_tbl := by
  show ∀ w ∈ [u_lay RX7 TX7 0, u_lay RX7 TX7 1], w ∈ zs_tbl
  exact List.forall_mem_cons.mpr ⟨zs_in 317 (by decide +kernel) rfl, List.forall_mem_cons.mpr ⟨zs_in 319 (by decide +kernel) rfl, fun w h => absurd h List.not_mem_nil⟩⟩
theorem zs_uw6 : ∀ w ∈ u_ws RX8 TX8 3, w ∈ zs_tbl := by
  show ∀ w ∈ [u_lay RX8 TX8 0, u_lay RX8 TX8 1, u_lay RX8 TX8 2], w ∈ zs_tbl
  exact List.forall_mem_cons.mpr ⟨zs_in 270 (by decide +kernel) rfl, List.forall_mem_cons.mpr ⟨zs_in 272 (by decide +kernel) rfl, List.forall_mem_cons.mpr ⟨zs_in 274 (by decide +kernel) rfl, fun w h => absurd h List.not_mem_nil⟩⟩⟩
theorem zs_uw7 : ∀ w ∈ u_ws RX9 TX9 2, w ∈ zs_tbl := by
  show ∀ w ∈ [u_lay RX9 TX9 0, u_lay RX9 TX9 1], w ∈ zs_tbl
  exact List.forall_mem_cons.mpr ⟨zs_in 304 (by decide +kernel) rfl, List.forall_mem_cons.mpr ⟨zs_in 306 (by decide +kernel) rfl, fun w h => absurd h List.not_mem_nil⟩⟩
theorem zs_uw8 : ∀ w ∈ u_ws RX10 TX10 8, w ∈ zs_tbl := by
  show ∀ w ∈ [u_lay RX10 TX10 0, u_lay RX10 TX10 1, u_lay RX10 TX10 2, u_lay RX10 TX10 3, u_lay RX10 TX10 4, u_lay RX10 TX10 5, u_lay RX10 TX10 6, u_lay RX10 TX10 7], w ∈ zs_tbl
  exact List.forall_mem_cons.mpr ⟨zs_in 240 (by decide +kernel) rfl, List.forall_mem_cons.mpr ⟨zs_in 242 (by decide +kernel) rfl, List.forall_mem_cons.mpr ⟨zs_in 244 (by decide +kernel) rfl, List.forall_mem_cons.mpr ⟨zs_in 246 (by decide +kernel) rfl, List.forall_mem_cons.mpr ⟨zs_in 248 (by decide +kernel) rfl, List.forall_mem_cons.mpr ⟨zs_in 250 (by decide +kernel) rfl, List.forall_mem_cons.mpr ⟨zs_in 252 (by decide +kernel) rfl, List.forall_mem_cons.mpr ⟨zs_in 254 (by decide +kernel) rfl, fun w h => absurd h List.not_mem_nil⟩⟩⟩⟩⟩⟩⟩⟩
theorem zs_uw9 : ∀ w ∈ u_ws RX11 TX11 18, w ∈ zs_tbl := by
  show ∀ w ∈ [u_lay RX11 TX11 0, u_lay RX11 TX11 1, u_lay RX11 TX11 2, u_lay RX11 TX11 3, u_lay RX11 TX11 4, u_lay RX11 TX11 5, u_lay RX11 TX11 6, u_lay RX11 TX11 7, u_lay RX11 TX11 8, u_lay RX11 TX11 9, u_lay RX11 TX11 10, u_lay RX11 TX11 11, u_lay RX11 TX11 12, u_lay RX11 TX11 13, u_lay RX11 TX11 14, u_lay RX11 TX11 15, u_lay RX11 TX11 16, u_lay RX11 TX11 17], w ∈ zs_tbl
  exact List.forall_mem_cons.mpr ⟨zs_in 340 (by decide +kernel) rfl, List.forall_mem_cons.mpr ⟨zs_in 342 (by decide +kernel) rfl, List.forall_mem_cons.mpr ⟨zs_in 344 (by decide +kernel) rfl, List.forall_mem_cons.mpr ⟨zs_in 346 (by decide +kernel) rfl, List.forall_mem_cons.mpr ⟨zs_in 348 (by decide +kernel) rfl, List.forall_mem_cons.mpr ⟨zs_in 350 (by decide +kernel) rfl, List.forall_mem_cons.mpr ⟨zs_in 352 (by decide +kernel) rfl, List.forall_mem_cons.mpr ⟨zs_in 354 (by decide +kernel) rfl, List.forall_mem_cons.mpr ⟨zs_in 356 (by decide +kernel) rfl, List.forall_mem_cons.mpr ⟨zs_in 358 (by decide +kernel) rfl, List.forall_mem_cons.mpr ⟨zs_in 360 (by decide +kernel) rfl, List.forall_mem_cons.mpr ⟨zs_in 362 (by decide +kernel) rfl, List.forall_mem_cons.mpr ⟨zs_in 364 (by decide +kernel) rfl, List.forall_mem_cons.mpr ⟨zs_in 366 (by decide +kernel) rfl, List.forall_mem_cons.mpr ⟨zs_in 368 (by decide +kernel) rfl, List.forall_mem_cons.mpr ⟨zs_in 370 (by decide +kernel) rfl, List.forall_mem_cons.mpr ⟨zs_in 372 (by decide +kernel) rfl, List.forall_mem_cons.mpr ⟨zs_in 374 (by decide +kernel) rfl, fun w h => absurd h List.not_mem_nil⟩⟩⟩⟩⟩⟩⟩⟩⟩⟩⟩⟩⟩⟩⟩⟩⟩⟩
theorem zs_uw10 : ∀ w ∈ u_ws RX12 TX12 19, w ∈ zs_tbl := by
  show ∀ w ∈ [u_lay RX12 TX12 0, u_lay RX12 TX12 1, u_lay RX12 TX12 2, u_lay RX12 TX12 3, u_lay RX12 TX12 4, u_lay RX12 TX12 5, u_lay RX12 TX12 6, u_lay RX12 TX12 7, u_lay RX12 TX12 8, u_lay RX12 TX12 9, u_lay RX12 TX12 10, u_lay RX12 TX12 11, u_lay RX12 TX12 12, u_lay RX12 TX12 13, u_lay RX12 TX12 14, u_lay RX12 TX12 15, u_lay RX12 TX12 16, u_lay RX12 TX12 17, u_lay RX12 TX12 18], w ∈ zs_tbl
  exact List.forall_mem_cons.mpr ⟨zs_in 1045 (by decide +kernel) rfl, List.forall_mem_cons.mpr ⟨zs_in 1047 (by decide +kernel) rfl, List.forall_mem_cons.mpr ⟨zs_in 1049 (by decide +kernel) rfl, List.forall_mem_cons.mpr ⟨zs_in 1051 (by decide +kernel) rfl, List.forall_mem_cons.mpr ⟨zs_in 1053 (by decide +kernel) rfl, List.forall_mem_cons.mpr ⟨zs_in 1055 (by decide +kernel) rfl, List.forall_mem_cons.mpr ⟨zs_in 1057 (by decide +kernel) rfl, List.forall_mem_cons.mpr ⟨zs_in 1059 (by decide +kernel) rfl, List.forall_mem_cons.mpr ⟨zs_in 1061 (by decide +kernel) rfl, List.forall_mem_cons.mpr ⟨zs_in 1063 (by decide +kernel) rfl, List.forall_mem_cons.mpr ⟨zs_in 1065 (by decide +kernel) rfl, List.forall_mem_cons.mpr ⟨zs_in 1067 (by decide +kernel) rfl, List.forall_mem_cons.mpr ⟨zs_in 1069 (by decide +kernel) rfl, List.forall_mem_cons.mpr ⟨zs_in 1071 (by decide +kernel) rfl, List.forall_mem_cons.mpr ⟨zs_in 1073 (by decide +kernel) rfl, List.forall_mem_cons.mpr ⟨zs_in 1075 (by decide +kernel) rfl, List.forall_mem_cons.mpr ⟨zs_in 1077 (by decide +kernel) rfl, List.forall_mem_cons.mpr ⟨zs_in 1079 (by decide +kernel) rfl, List.forall_mem_cons.mpr ⟨zs_in 1081 (by decide +kernel) rfl, fun w h => absurd h List.not_mem_nil⟩⟩⟩⟩⟩⟩⟩⟩⟩⟩⟩⟩⟩⟩⟩⟩⟩⟩⟩
theorem zs_cls {ci : Nat} {C : String} {T : u_T} {N : Nat} (hc : vwCl[ci]? = some (C, T, N)) : (∀ w ∈ u_ws C T N, w ∈ zs_tbl) ∧ ∃ ty0 : Nat → FieldType, (∀ k, k < N → parseFieldDescriptor (T k).2.2.1 = some (ty0 k)) ∧ (∀ a, a < N → ∀ b, b < N → a ≠ b → (T a).2.1 ≠ (T b).2.1) := by
  match ci, hc with
  | 0, hc => cases hc; exact ⟨zs_uw0, tyX0, tyX0_ok, nmX0⟩
  | 1, hc => cases hc; exact ⟨zs_uw1, tyX3, tyX3_ok, nmX3⟩
  | 2, hc => cases hc; exact ⟨zs_uw2, tyX4, tyX4_ok, nmX4⟩
  | 3, hc => cases hc; exact ⟨zs_uw3, tyX5, tyX5_ok, nmX5⟩
  | 4, hc => cases hc; exact ⟨zs_uw4, tyX6, tyX6_ok, nmX6⟩
  | 5, hc => cases hc; exact ⟨zs_uw5, tyX7, tyX7_ok, nmX7⟩
  | 6, hc => cases hc; exact ⟨zs_uw6, tyX8, tyX8_ok, nmX8⟩
  | 7, hc => cases hc; exact ⟨zs_uw7, tyX9, tyX9_ok, nmX9⟩
  | 8, hc => cases hc; exact ⟨zs_uw8, tyX10, tyX10_ok, nmX10⟩
  | 9, hc => cases hc; exact ⟨zs_uw9, tyX11, tyX11_ok, nmX11⟩
  | 10, hc => cases hc; exact ⟨zs_uw10, tyX12, tyX12_ok, nmX12⟩
  | k + 11, hc => simp [vwCl] at hc
def zs_up (f : Nat → Nat → Int32) (a j : Nat) (v : Int32) : Nat → Nat → Int32 := fun b i => if b = a ∧ i = j then v else f b i
def zs_upL (f : Nat → Nat → Int64) (a j : Nat) (v : Int64) : Nat → Nat → Int64 := fun b i => if b = a ∧ i = j then v else f b i
def zs_v (E : zs_E) : Value → Value
  | .ref a => .ref (E.2.2.2 a)
  | .int x => .int x
  | .long x => .long x
  | .float x => .float x
  | .double x => .double x
  | .null => .null
  | .retAddr x => .retAddr x
def zs_fv (E : zs_E) (S : zs_S) (a j : Nat) : Nat → Value
  | 0 => .int (S.1 a j)
  | 1 => .long (S.2 a j)
  | k + 2 => .ref (E.2.2.2 k)
def zs_fl (E : zs_E) (S : zs_S) (a : Nat) : Nat → List Nat → List Value
  | _, [] => []
  | j, t :: r => zs_fv E S a j t :: zs_fl E S a (j + 1) r
def zs_c (E : zs_E) (S : zs_S) (a : Nat) : va_E := match zs_sh a with
  | .inl q => .inl (E.2.2.1 q.1, q.2, .inl (S.1 a))
  | .inr q => .inr (q.1, zs_fl E S a 0 q.2)
def zs_ws (E : zs_E) (S : zs_S) : va_W := (List.range zs_n).map fun a => (E.2.2.2 a, zs_c E S a)
abbrev zs_D (E : zs_E) : va_G := (E.1, E.2.1)
abbrev zs_ty (E : zs_E) : List (ClassId × FieldType) := [(E.2.2.1 0, .int), (E.2.2.1 1, .byte)]
def zs_inj (E : zs_E) : Prop := ∀ i j, i < zs_n → j < zs_n → E.2.2.2 i = E.2.2.2 j → i = j
def zs_A (E : zs_E) : Nat → Prop := fun q => ∃ k, k < zs_n ∧ q = E.2.2.2 k
def zs_N (U : State) : Prop := ∀ q ∈ zs_nst, va_Nw (.methodLinkNest q.1 q.2.1 q.2.2.1 q.2.2.2) U
def zs_Z (E : zs_E) (U : State) : Prop := va_K (zs_D E) vwCl (zs_ty E) U ∧ zs_N U ∧ zs_inj E
def zs_h (E : zs_E) (S : zs_S) (U : State) : Prop := va_P (zs_D E) vwCl (zs_ws E S) U.heap ∧ zs_Z E U
def zs_Q (E : zs_E) (r : zs_O) : Array Value → State → Outcome → State → Prop := fun _ st oc t => oc = .returned (r.1.map (zs_v E)) ∧ va_P (zs_D E) vwCl (zs_ws E r.2) t.heap ∧ va_F (zs_A E) st t
abbrev zs_lr (E : zs_E) (lv : List (Nat × Value)) : List (Nat × Value) := lv.map fun q => (q.1, zs_v E q.2)
/-- what stands at a frame of the method M -/
def zs_B (M : zs_M) (p : Program) (s : State) (m : MethodId) (args : Array Value) (meth : Method) (c : Code) : Prop :=
  p.tables.exec = Jvm.exec ∧ c.code = M.2.1 ∧ meth.sig.returnType = M.2.2.2.1 ∧ c.maxLocals = M.2.2.1 ∧ s.vm.findClass M.1.cls = some m.cls ∧ (∀ w ∈ zs_tbl, w.before args s = true) ∧ meth.locks = false
/-- from pc, with these locals and this stack, in the picture S, the method M comes to its end: r.1 answered, r.2 the picture -/
def zs_G (M : zs_M) (pc : Nat) (lv : List (Nat × Value)) (st : List Value) (S : zs_S) (r : zs_O) : Prop :=
  ∀ (p : Program) (l : Launch) (e : Env) (s : State) (m : MethodId) (args : Array Value) (below : List Frame) (meth : Method) (c : Code) (E : zs_E) (H : Heap) (locs : List Loc) (ls : Array Slot),
    zs_B M p s m args meth c → zs_Z E s → va_P (zs_D E) vwCl (zs_ws E S) H → va_S (zs_A E) s.heap H locs → lv_has ls M.2.2.1 (zs_lr E lv) →
    W p l e M.2.2.2.2 s m args below meth c H locs 0 0 (MQ below (zs_Q E r) args s 0 0 (zs_A E)) (F0 m pc ls (st.map (zs_v E)))
/-- the method M, called with args in the picture S, answers r.1 and leaves r.2 -/
def zs_X (M : zs_M) (args : List Value) (S : zs_S) (r : zs_O) : Prop :=
  ∀ (l : Launch) (E : zs_E), Met l M.1 (Cond.code M.1 M.2.1 M.2.2.1 M.2.2.2.1 :: zs_tbl) M.2.2.2.2 (va_Pc (args.map (zs_v E)) (zs_h E S)) (zs_Q E r) 0 0 (zs_A E)
theorem zs_cat (E : zs_E) (v : Value) : (zs_v E v).category = v.category := by cases v <;> rfl
theorem zs_ws_get {E : zs_E} {S : zs_S} {a : Nat} (ha : a < zs_n) : (zs_ws E S)[a]? = some (E.2.2.2 a, zs_c E S a) := by
  simp [zs_ws, ha]
theorem zs_ws_of {E : zs_E} {S : zs_S} {k : Nat} {q : Nat × va_E} (h : (zs_ws E S)[k]? = some q) : k < zs_n ∧ q = (E.2.2.2 k, zs_c E S k) := by
  by_cases hk : k < zs_n
  · rw [zs_ws_get hk] at h
    exact ⟨hk, (Option.some.inj h).symm⟩
  · simp [zs_ws, hk] at h
theorem zs_Dd {E : zs_E} {S : zs_S} (hI : zs_inj E) : va_D (zs_A E) (zs_ws E S) := by
  refine ⟨fun i j p q hp hq hpq => ?_, fun k q hk => ?_⟩
  · obtain ⟨h1, rfl⟩ := zs_ws_of hp
    obtain ⟨h2, rfl⟩ := zs_ws_of hq
    exact hI i j h1 h2 hpq
  · obtain ⟨h1, rfl⟩ := zs_ws_of hk
    exact ⟨k, h1, rfl⟩
theorem zs_ws_set {E : zs_E} {S S' : zs_S} {a : Nat} {x : va_E} (h1 : zs_c E S' a = x) (h2 : ∀ b, b ≠ a → zs_c E S' b = zs_c E S b) : (zs_ws E S).set a (E.2.2.2 a, x) = zs_ws E S' := by
  apply List.ext_getElem?
  intro k
  rw [List.getElem?_set]
  by_cases hk : k < zs_n
  · by_cases hka : a = k
    · subst hka
      simp [zs_ws, hk, h1]
    · rw [if_neg hka, zs_ws_get hk, zs_ws_get hk, h2 k (fun q => hka q.symm)]
  · by_cases hka : a = k
    · subst hka
      simp [zs_ws, hk]
    · rw [if_neg hka]
      simp [zs_ws, hk]
theorem zs_fl_get {E : zs_E} {S : zs_S} {a : Nat} : ∀ (fl : List Nat) (i j t : Nat), fl[j]? = some t → (zs_fl E S a i fl)[j]? = some (zs_fv E S a (i + j) t) := by
  intro fl
  induction fl with
  | nil => intro i j t h; simp at h
  | cons x r ih =>
    intro i j t h
    cases j with
    | zero =>
      simp at h
      subst h
      simp [zs_fl]
    | succ j =>
      simp at h
      have := ih (i + 1) j t h
      simp only [zs_fl, List.getElem?_cons_succ]
      rw [this]
      congr 2
      omega
theorem zs_fl_len {E : zs_E} {S : zs_S} {a : Nat} : ∀ (fl : List Nat) (i : Nat), (zs_fl E S a i fl).length = fl.length := by
  intro fl
  induction fl with
  | nil => intro i; rfl
  | cons x r ih => intro i; simp [zs_fl, ih]
theorem zs_fl_same {E : zs_E} {S S' : zs_S} {a : Nat} : ∀ (fl : List Nat) (i : Nat), (∀ j, i ≤ j → S'.1 a j = S.1 a j ∧ S'.2 a j = S.2 a j) → zs_fl E S' a i fl = zs_fl E S a i fl := by
  intro fl
  induction fl with
  | nil => intro i _; rfl
  | cons x r ih =>
    intro i h
    simp only [zs_fl]
    rw [ih (i + 1) (fun j hj => h j (by omega))]
    congr 1
    match x with
    | 0 => simp [zs_fv, (h i (Nat.le_refl i)).1]
    | 1 => simp [zs_fv, (h i (Nat.le_refl i)).2]
    | k + 2 => rfl
theorem zs_fl_set {E : zs_E} {S S' : zs_S} {a : Nat} {v : Value} : ∀ (fl : List Nat) (i j t : Nat), fl[j]? = some t → zs_fv E S' a (i + j) t = v → (∀ k, k ≠ i + j → S'.1 a k = S.1 a k ∧ S'.2 a k = S.2 a k) → zs_fl E S' a i fl = (zs_fl E S a i fl).set j v := by
  intro fl
  induction fl with
  | nil => intro i j t h; simp at h
  | cons x r ih =>
    intro i j t h hv ho
    cases j with
    | zero =>
      simp at h
      subst h
      simp only [zs_fl, List.set_cons_zero]
      rw [zs_fl_same r (i + 1) (fun k hk => ho k (by omega))]
      congr 1
    | succ j =>
      simp at h
      simp only [zs_fl, List.set_cons_succ]
      rw [ih (i + 1) j t h (by rw [show i + 1 + j = i + (j + 1) by omega]; exact hv) (fun k hk => ho k (by omega))]
      congr 1
      match x with
      | 0 => simp [zs_fv, (ho i (by omega)).1]
      | 1 => simp [zs_fv, (ho i (by omega)).2]
      | k + 2 => rfl
theorem zs_lk_at {E : zs_E} {ls : Array Slot} {n : Nat} {lv : List (Nat × Value)} (h : lv_has ls n (zs_lr E lv)) {i : Nat} {v : Value} (hk : zs_lk lv i = some v) : ls[i]? = some (.val (zs_v E v)) := by
  have : (i, v) ∈ lv := by
    clear h
    induction lv with
    | nil => simp [zs_lk] at hk
    | cons x r ih =>
      obtain ⟨j, w⟩ := x
      simp only [zs_lk] at hk
      split at hk
      next e => subst e; cases hk; exact List.mem_cons_self
      next => exact List.mem_cons_of_mem _ (ih hk)
  exact h.2.2 (i, zs_v E v) (List.mem_map.mpr ⟨(i, v), this, rfl⟩)
theorem zs_f1 (E : zs_E) (lv : List (Nat × Value)) (i : Nat) : (zs_lr E lv).filter (fun q => !(q.1 == i) && !(q.1 + 1 == i && q.2.category == 2)) = zs_lr E (lv.filter (fun q => !(q.1 == i) && !(q.1 + 1 == i && q.2.category == 2))) := by
  rw [zs_lr, zs_lr, List.filter_map]
  congr 1
  congr 1
  funext q
  simp [zs_cat]
theorem zs_f2 (E : zs_E) (lv : List (Nat × Value)) (i : Nat) : (zs_lr E lv).filter (fun q => !(q.1 == i) && (!(q.1 == i + 1) && !(q.1 + 1 == i && q.2.category == 2))) = zs_lr E (lv.filter (fun q => !(q.1 == i) && (!(q.1 == i + 1) && !(q.1 + 1 == i && q.2.category == 2)))) := by
  rw [zs_lr, zs_lr, List.filter_map]
  congr 1
  congr 1
  funext q
  simp [zs_cat]
theorem zs_la (E : zs_E) : ∀ (vs : List Value) (i : Nat), lv_args i (vs.map (zs_v E)) = zs_lr E (lv_args i vs) := by
  intro vs
  induction vs with
  | nil => intro i; rfl
  | cons v r ih =>
    intro i
    simp only [List.map_cons, lv_args, zs_cat, ih, zs_lr]
theorem zs_ln (E : zs_E) : ∀ (vs : List Value), (lg_sl (vs.map (zs_v E))).length = (lg_sl vs).length := by
  intro vs
  induction vs with
  | nil => rfl
  | cons v r ih =>
    simp only [lg_sl, List.map_cons, List.flatMap_cons, List.length_append, zs_cat] at ih ⊢
    rw [ih]
    split <;> rfl
theorem zs_Zw {E : zs_E} {s U : State} (h : zs_Z E s) (hW : s.WarmedH U.vm) : zs_Z E U := ⟨va_K.moved hW.alike h.1, fun q hq => va_Nw.warmM hW (h.2.1 q hq), h.2.2⟩
theorem zs_bl {E : zs_E} {S : zs_S} {av : List Value} : FrameBlind (va_Pc av (zs_h E S)) := by
  intro a U g mk q
  obtain ⟨q0, qP, qK, qN, qI⟩ := q
  exact ⟨q0, qP, va_K.moved (u := U) (U := U.calling g mk a) (Vm.Alike.refl U.vm) qK, fun w hw => va_Nw.same rfl rfl (qN w hw), qI⟩
set_option maxHeartbeats 1000000 in
/-- a method's contract out of its walk -/
theorem zs_X.of {M : zs_M} {args : List Value} {S : zs_S} {r : zs_O} (hy : plainName M.1.cls = true) (hlen : (lg_sl args).length ≤ M.2.2.1) (h : zs_G M 0 (lv_args 0 args) [] S r) : zs_X M args S r := by
  intro l E
  refine Met.ofW (cc := M.2.1) (maxL := M.2.2.1) (ret := M.2.2.2.1) hy rfl ?_
  intro p e s m args' below meth c s₁ B hml hv
  obtain ⟨rfl, hP, hZ⟩ := hv
  have hts := atoms_spec (ws := Cond.code M.1 M.2.1 M.2.2.1 M.2.2.2.1 :: zs_tbl) B.pre
  have hl := lv_entry (args.map (zs_v E)) (n := M.2.2.1) (by rw [zs_ln]; exact hlen)
  rw [lg_entry_eq]
  rw [zs_la] at hl
  exact h p l e s m _ below meth c E s.heap [] _ ⟨B.exec, B.bytes, B.returns, hml, findClass_of_methodNamed B.named, fun w hw => hts w (List.mem_cons_of_mem _ hw), B.notSynchronized⟩ hZ hP va_S.rf hl
theorem zs_c_same {E : zs_E} {S S' : zs_S} {b : Nat} (h : ∀ i, S'.1 b i = S.1 b i ∧ S'.2 b i = S.2 b i) : zs_c E S' b = zs_c E S b := by
  have e1 : S'.1 b = S.1 b := funext fun i => (h i).1
  unfold zs_c
  split
  · rw [e1]
  · rw [zs_fl_same _ 0 (fun j _ => h j)]
end
section
/-- from here the method M comes to its end with Q of the answer and the picture -/
def zs_P (M : zs_M) (pc : Nat) (lv : List (Nat × Value)) (st : List Value) (S : zs_S) (Q : Option Value → zs_S → Prop) : Prop := ∃ r : zs_O, zs_G M pc lv st S r ∧ Q r.1 r.2
def zs_C (M : zs_M) (args : List Value) (S : zs_S) (Q : Option Value → zs_S → Prop) : Prop := ∃ r : zs_O, zs_X M args S r ∧ Q r.1 r.2
abbrev zs_Ci (M : zs_M) (args : List Value) (S : zs_S) (Q : Int32 → zs_S → Prop) : Prop := zs_C M args S (fun v S' => ∃ x, v = some (.int x) ∧ Q x S')
abbrev zs_Cl (M : zs_M) (args : List Value) (S : zs_S) (Q : Int64 → zs_S → Prop) : Prop := zs_C M args S (fun v S' => ∃ x, v = some (.long x) ∧ Q x S')
abbrev zs_Cv (M : zs_M) (args : List Value) (S : zs_S) (Q : zs_S → Prop) : Prop := zs_C M args S (fun v S' => v = none ∧ Q S')
theorem zs_C.of {M : zs_M} {args : List Value} {S : zs_S} {Q : Option Value → zs_S → Prop} (hy : plainName M.1.cls = true) (hlen : (lg_sl args).length ≤ M.2.2.1) (h : zs_P M 0 (lv_args 0 args) [] S Q) : zs_C M args S Q := let ⟨r, g, q⟩ := h; ⟨r, zs_X.of hy hlen g, q⟩
theorem zs_C.mono {M : zs_M} {args : List Value} {S : zs_S} {Q Q' : Option Value → zs_S → Prop} (h : zs_C M args S Q) (hq : ∀ v S', Q v S' → Q' v S') : zs_C M args S Q' := let ⟨r, g, q⟩ := h; ⟨r, g, hq _ _ q⟩
theorem zs_P.mono {M : zs_M} {pc : Nat} {lv : List (Nat × Value)} {st : List Value} {S : zs_S} {Q Q' : Option Value → zs_S → Prop} (h : zs_P M pc lv st S Q) (hq : ∀ v S', Q v S' → Q' v S') : zs_P M pc lv st S Q' := let ⟨r, g, q⟩ := h; ⟨r, g, hq _ _ q⟩
theorem zs_P.lv {M : zs_M} {pc : Nat} {lv lv2 : List (Nat × Value)} {st : List Value} {S : zs_S} {Q : Option Value → zs_S → Prop} (h : zs_P M pc lv2 st S Q) (hs : ∀ q ∈ lv2, q ∈ lv) : zs_P M pc lv st S Q := let ⟨r, g, q⟩ := h; ⟨r, fun p l e s m args below meth c E H locs ls B hZ hP hS hl => g p l e s m args below meth c E H locs ls B hZ hP hS ⟨hl.1, hl.2.1, fun x hx => by
    obtain ⟨y, hy, rfl⟩ := List.mem_map.mp hx
    exact hl.2.2 _ (List.mem_map.mpr ⟨y, hs y hy, rfl⟩)⟩, q⟩
section zs_rows
variable {M : zs_M} {pc : Nat} {lv lv' : List (Nat × Value)} {st : List Value} {S : zs_S} {Q : Option Value → zs_S → Prop}
theorem g_iconst {n : Int} {v : Int32} (hd : decode M.2.1 pc = .ok (.iconst n, 1)) (hv : Int32.ofInt n = v) (k : zs_P M (pc + 1) lv (.int v :: st) S Q) : zs_P M pc lv (st) S Q := let ⟨r, g, q⟩ := k; ⟨r, fun p l e s m args below meth c E H locs ls B hZ hP hS hl => lv_iconst B.1 B.2.1 hd hv (g p l e s m args below meth c E H locs ls B hZ hP hS hl), q⟩
theorem g_bipush {n : Int} {v : Int32} (hd : decode M.2.1 pc = .ok (.bipush n, 2)) (hv : (Int8.ofInt n).toInt32 = v) (k : zs_P M (pc + 2) lv (.int v :: st) S Q) : zs_P M pc lv (st) S Q := let ⟨r, g, q⟩ := k; ⟨r, fun p l e s m args below meth c E H locs ls B hZ hP hS hl => lv_bipush B.1 B.2.1 hd hv (g p l e s m args below meth c E H locs ls B hZ hP hS hl), q⟩
theorem g_sipush {n : Int} {v : Int32} (hd : decode M.2.1 pc = .ok (.sipush n, 3)) (hv : (Int16.ofInt n).toInt32 = v) (k : zs_P M (pc + 3) lv (.int v :: st) S Q) : zs_P M pc lv (st) S Q := let ⟨r, g, q⟩ := k; ⟨r, fun p l e s m args below meth c E H locs ls B hZ hP hS hl => lv_sipush B.1 B.2.1 hd hv (g p l e s m args below meth c E H locs ls B hZ hP hS hl), q⟩
theorem g_lconst {n : Fin 2} {v : Int64} (hd : decode M.2.1 pc = .ok (.lconst n, 1)) (hv : Int64.ofNat (n : Nat) = v) (k : zs_P M (pc + 1) lv (.long v :: st) S Q) : zs_P M pc lv (st) S Q := let ⟨r, g, q⟩ := k; ⟨r, fun p l e s m args below meth c E H locs ls B hZ hP hS hl => lv_lconst B.1 B.2.1 hd hv (g p l e s m args below meth c E H locs ls B hZ hP hS hl), q⟩
theorem g_ldc {i : Nat} {v : Int32} (hd : decode M.2.1 pc = .ok (.ldc i, 2)) (hw : Cond.constant M.1.cls i v ∈ zs_tbl) (k : zs_P M (pc + 2) lv (.int v :: st) S Q) : zs_P M pc lv (st) S Q := let ⟨r, g, q⟩ := k; ⟨r, fun p l e s m args below meth c E H locs ls B hZ hP hS hl => lv_ldc B.1 B.2.1 B.2.2.2.2.1 (B.2.2.2.2.2.1 _ hw) hd (g p l e s m args below meth c E H locs ls B hZ hP hS hl), q⟩
theorem g_ldc2 {i : Nat} {v : Int64} (hd : decode M.2.1 pc = .ok (.ldc2_w i, 3)) (hw : Cond.constantLong M.1.cls i v ∈ zs_tbl) (k : zs_P M (pc + 3) lv (.long v :: st) S Q) : zs_P M pc lv (st) S Q := let ⟨r, g, q⟩ := k; ⟨r, fun p l e s m args below meth c E H locs ls B hZ hP hS hl => lv_ldc2 B.1 B.2.1 B.2.2.2.2.1 (B.2.2.2.2.2.1 _ hw) hd (g p l e s m args below meth c E H locs ls B hZ hP hS hl), q⟩
theorem g_iload_n {j : Fin 4} {i : Nat} {x : Int32} (hd : decode M.2.1 pc = .ok (.iload_n j, 1)) (hi : (j : Nat) = i) (hk : zs_lk lv i = some (.int x)) (k : zs_P M (pc + 1) lv (.int x :: st) S Q) : zs_P M pc lv (st) S Q := let ⟨r, g, q⟩ := k; ⟨r, fun p l e s m args below meth c E H locs ls B hZ hP hS hl => lv_iload_n B.1 B.2.1 hd hi (zs_lk_at hl hk) (g p l e s m args below meth c E H locs ls B hZ hP hS hl), q⟩
theorem g_iload {i : Nat} {x : Int32} (hd : decode M.2.1 pc = .ok (.iload i, 2)) (hk : zs_lk lv i = some (.int x)) (k : zs_P M (pc + 2) lv (.int x :: st) S Q) : zs_P M pc lv (st) S Q := let ⟨r, g, q⟩ := k; ⟨r, fun p l e s m args below meth c E H locs ls B hZ hP hS hl => lv_iload B.1 B.2.1 hd (zs_lk_at hl hk) (g p l e s m args below meth c E H locs ls B hZ hP hS hl), q⟩
theorem g_lload_n {j : Fin 4} {i : Nat} {x : Int64} (hd : decode M.2.1 pc = .ok (.lload_n j, 1)) (hi : (j : Nat) = i) (hk : zs_lk lv i = some (.long x)) (k : zs_P M (pc + 1) lv (.long x :: st) S Q) : zs_P M pc lv (st) S Q := let ⟨r, g, q⟩ := k; ⟨r, fun p l e s m args below meth c E H locs ls B hZ hP hS hl => lv_lload_n B.1 B.2.1 hd hi (zs_lk_at hl hk) (g p l e s m args below meth c E H locs ls B hZ hP hS hl), q⟩
theorem g_lload {i : Nat} {x : Int64} (hd : decode M.2.1 pc = .ok (.lload i, 2)) (hk : zs_lk lv i = some (.long x)) (k : zs_P M (pc + 2) lv (.long x :: st) S Q) : zs_P M pc lv (st) S Q := let ⟨r, g, q⟩ := k; ⟨r, fun p l e s m args below meth c E H locs ls B hZ hP hS hl => lv_lload B.1 B.2.1 hd (zs_lk_at hl hk) (g p l e s m args below meth c E H locs ls B hZ hP hS hl), q⟩
theorem g_aload_n {j : Fin 4} {i : Nat} {x : Nat} (hd : decode M.2.1 pc = .ok (.aload_n j, 1)) (hi : (j : Nat) = i) (hk : zs_lk lv i = some (.ref x)) (k : zs_P M (pc + 1) lv (.ref x :: st) S Q) : zs_P M pc lv (st) S Q := let ⟨r, g, q⟩ := k; ⟨r, fun p l e s m args below meth c E H locs ls B hZ hP hS hl => lv_aload_n B.1 B.2.1 hd hi (zs_lk_at hl hk) (g p l e s m args below meth c E H locs ls B hZ hP hS hl), q⟩
theorem g_aload {i : Nat} {x : Nat} (hd : decode M.2.1 pc = .ok (.aload i, 2)) (hk : zs_lk lv i = some (.ref x)) (k : zs_P M (pc + 2) lv (.ref x :: st) S Q) : zs_P M pc lv (st) S Q := let ⟨r, g, q⟩ := k; ⟨r, fun p l e s m args below meth c E H locs ls B hZ hP hS hl => lv_aload B.1 B.2.1 hd (zs_lk_at hl hk) (g p l e s m args below meth c E H locs ls B hZ hP hS hl), q⟩
theorem g_istore_n {j : Fin 4} {i : Nat} {x : Int32} (hd : decode M.2.1 pc = .ok (.istore_n j, 1)) (hi : (j : Nat) = i) (hn : i < M.2.2.1) (he : (i, Value.int x) :: lv.filter (fun q => !(q.1 == i) && !(q.1 + 1 == i && q.2.category == 2)) = lv') (k : zs_P M (pc + 1) lv' st S Q) : zs_P M pc lv (.int x :: st) S Q := let ⟨r, g, q⟩ := k; ⟨r, fun p l e s m args below meth c E H locs ls B hZ hP hS hl => lv_istore_n (lv' := zs_lr E lv') B.1 B.2.1 hd hi hl hn (by rw [← he, zs_f1]; rfl) (fun ls hl => g p l e s m args below meth c E H locs ls B hZ hP hS hl), q⟩
theorem g_istore {i : Nat} {x : Int32} (hd : decode M.2.1 pc = .ok (.istore i, 2)) (hn : i < M.2.2.1) (he : (i, Value.int x) :: lv.filter (fun q => !(q.1 == i) && !(q.1 + 1 == i && q.2.category == 2)) = lv') (k : zs_P M (pc + 2) lv' st S Q) : zs_P M pc lv (.int x :: st) S Q := let ⟨r, g, q⟩ := k; ⟨r, fun p l e s m args below meth c E H locs ls B hZ hP hS hl => lv_istore (lv' := zs_lr E lv') B.1 B.2.1 hd hl hn (by rw [← he, zs_f1]; rfl) (fun ls hl => g p l e s m args below meth c E H locs ls B hZ hP hS hl), q⟩
theorem g_lstore_n {j : Fin 4} {i : Nat} {x : Int64} (hd : decode M.2.1 pc = .ok (.lstore_n j, 1)) (hi : (j : Nat) = i) (hn : i + 1 < M.2.2.1) (he : (i, Value.long x) :: lv.filter (fun q => !(q.1 == i) && (!(q.1 == i + 1) && !(q.1 + 1 == i && q.2.category == 2))) = lv') (k : zs_P M (pc + 1) lv' st S Q) : zs_P M pc lv (.long x :: st) S Q := let ⟨r, g, q⟩ := k; ⟨r, fun p l e s m args below meth c E H locs ls B hZ hP hS hl => lv_lstore_n (lv' := zs_lr E lv') B.1 B.2.1 hd hi hl hn (by rw [← he, zs_f2]; rfl) (fun ls hl => g p l e s m args below meth c E H locs ls B hZ hP hS hl), q⟩
theorem g_lstore {i : Nat} {x : Int64} (hd : decode M.2.1 pc = .ok (.lstore i, 2)) (hn : i + 1 < M.2.2.1) (he : (i, Value.long x) :: lv.filter (fun q => !(q.1 == i) && (!(q.1 == i + 1) && !(q.1 + 1 == i && q.2.category == 2))) = lv') (k : zs_P M (pc + 2) lv' st S Q) : zs_P M pc lv (.long x :: st) S Q := let ⟨r, g, q⟩ := k; ⟨r, fun p l e s m args below meth c E H locs ls B hZ hP hS hl => lv_lstore (lv' := zs_lr E lv') B.1 B.2.1 hd hl hn (by rw [← he, zs_f2]; rfl) (fun ls hl => g p l e s m args below meth c E H locs ls B hZ hP hS hl), q⟩
theorem g_astore_n {j : Fin 4} {i : Nat} {x : Nat} (hd : decode M.2.1 pc = .ok (.astore_n j, 1)) (hi : (j : Nat) = i) (hn : i < M.2.2.1) (he : (i, Value.ref x) :: lv.filter (fun q => !(q.1 == i) && !(q.1 + 1 == i && q.2.category == 2)) = lv') (k : zs_P M (pc + 1) lv' st S Q) : zs_P M pc lv (.ref x :: st) S Q := let ⟨r, g, q⟩ := k; ⟨r, fun p l e s m args below meth c E H locs ls B hZ hP hS hl => lv_astore_n (lv' := zs_lr E lv') B.1 B.2.1 hd hi hl hn (by rw [← he, zs_f1]; rfl) (fun ls hl => g p l e s m args below meth c E H locs ls B hZ hP hS hl), q⟩
theorem g_astore {i : Nat} {x : Nat} (hd : decode M.2.1 pc = .ok (.astore i, 2)) (hn : i < M.2.2.1) (he : (i, Value.ref x) :: lv.filter (fun q => !(q.1 == i) && !(q.1 + 1 == i && q.2.category == 2)) = lv') (k : zs_P M (pc + 2) lv' st S Q) : zs_P M pc lv (.ref x :: st) S Q := let ⟨r, g, q⟩ := k; ⟨r, fun p l e s m args below meth c E H locs ls B hZ hP hS hl => lv_astore (lv' := zs_lr E lv') B.1 B.2.1 hd hl hn (by rw [← he, zs_f1]; rfl) (fun ls hl => g p l e s m args below meth c E H locs ls B hZ hP hS hl), q⟩
theorem zs_lk_pl {E : zs_E} {lv : List (Nat × Value)} {i : Nat} {v : Value} (hk : zs_lk lv i = some v) : ∃ k : Nat, (zs_lr E lv)[k]? = some (i, zs_v E v) := by
  have : (i, v) ∈ lv := by
    induction lv with
    | nil => simp [zs_lk] at hk
    | cons x r ih =>
      obtain ⟨j, w⟩ := x
      simp only [zs_lk] at hk
      split at hk
      next e => subst e; cases hk; exact List.mem_cons_self
      next => exact List.mem_cons_of_mem _ (ih hk)
  exact List.getElem?_of_mem (List.mem_map.mpr ⟨(i, v), this, rfl⟩)
theorem g_iinc {i : Nat} {n : Int} {x v : Int32} (hd : decode M.2.1 pc = .ok (.iinc i n, 3)) (hk : zs_lk lv i = some (.int x)) (hv : x + Int32.ofInt n = v) (hn : i < M.2.2.1) (he : (i, Value.int v) :: lv.filter (fun q => !(q.1 == i) && !(q.1 + 1 == i && q.2.category == 2)) = lv') (k : zs_P M (pc + 3) lv' st S Q) : zs_P M pc lv st S Q := by
  obtain ⟨r, g, q⟩ := k
  refine ⟨r, ?_, q⟩
  intro p l e s m args below meth c E H locs ls B hZ hP hS hl
  obtain ⟨kk, hkk⟩ := zs_lk_pl (E := E) hk
  exact lv_iinc (lv' := zs_lr E lv') B.1 B.2.1 hd hl hkk hv hn (by rw [← he, zs_f1]; rfl) (fun ls hl => g p l e s m args below meth c E H locs ls B hZ hP hS hl)
theorem g_iadd {x y : Int32} (hd : decode M.2.1 pc = .ok (.iadd, 1))  (k : zs_P M (pc + 1) lv (.int (x + y) :: st) S Q) : zs_P M pc lv (.int y :: .int x :: st) S Q := let ⟨r, g, q⟩ := k; ⟨r, fun p l e s m args below meth c E H locs ls B hZ hP hS hl => lv_iadd B.1 B.2.1 hd (g p l e s m args below meth c E H locs ls B hZ hP hS hl), q⟩
theorem g_isub {x y : Int32} (hd : decode M.2.1 pc = .ok (.isub, 1))  (k : zs_P M (pc + 1) lv (.int (x - y) :: st) S Q) : zs_P M pc lv (.int y :: .int x :: st) S Q := let ⟨r, g, q⟩ := k; ⟨r, fun p l e s m args below meth c E H locs ls B hZ hP hS hl => lv_isub B.1 B.2.1 hd (g p l e s m args below meth c E H locs ls B hZ hP hS hl), q⟩
theorem g_imul {x y : Int32} (hd : decode M.2.1 pc = .ok (.imul, 1))  (k : zs_P M (pc + 1) lv (.int (x * y) :: st) S Q) : zs_P M pc lv (.int y :: .int x :: st) S Q := let ⟨r, g, q⟩ := k; ⟨r, fun p l e s m args below meth c E H locs ls B hZ hP hS hl => lv_imul B.1 B.2.1 hd (g p l e s m args below meth c E H locs ls B hZ hP hS hl), q⟩
theorem g_iand {x y : Int32} (hd : decode M.2.1 pc = .ok (.iand, 1))  (k : zs_P M (pc + 1) lv (.int (x &&& y) :: st) S Q) : zs_P M pc lv (.int y :: .int x :: st) S Q := let ⟨r, g, q⟩ := k; ⟨r, fun p l e s m args below meth c E H locs ls B hZ hP hS hl => lv_iand B.1 B.2.1 hd (g p l e s m args below meth c E H locs ls B hZ hP hS hl), q⟩
theorem g_ior {x y : Int32} (hd : decode M.2.1 pc = .ok (.ior, 1))  (k : zs_P M (pc + 1) lv (.int (x ||| y) :: st) S Q) : zs_P M pc lv (.int y :: .int x :: st) S Q := let ⟨r, g, q⟩ := k; ⟨r, fun p l e s m args below meth c E H locs ls B hZ hP hS hl => lv_ior B.1 B.2.1 hd (g p l e s m args below meth c E H locs ls B hZ hP hS hl), q⟩
theorem g_ixor {x y : Int32} (hd : decode M.2.1 pc = .ok (.ixor, 1))  (k : zs_P M (pc + 1) lv (.int (x ^^^ y) :: st) S Q) : zs_P M pc lv (.int y :: .int x :: st) S Q := let ⟨r, g, q⟩ := k; ⟨r, fun p l e s m args below meth c E H locs ls B hZ hP hS hl => lv_ixor B.1 B.2.1 hd (g p l e s m args below meth c E H locs ls B hZ hP hS hl), q⟩
theorem g_ishl {x y : Int32} (hd : decode M.2.1 pc = .ok (.ishl, 1))  (k : zs_P M (pc + 1) lv (.int (x <<< (y &&& 31)) :: st) S Q) : zs_P M pc lv (.int y :: .int x :: st) S Q := let ⟨r, g, q⟩ := k; ⟨r, fun p l e s m args below meth c E H locs ls B hZ hP hS hl => lv_ishl B.1 B.2.1 hd (g p l e s m args below meth c E H locs ls B hZ hP hS hl), q⟩
theorem g_ishr {x y : Int32} (hd : decode M.2.1 pc = .ok (.ishr, 1))  (k : zs_P M (pc + 1) lv (.int (x >>> (y &&& 31)) :: st) S Q) : zs_P M pc lv (.int y :: .int x :: st) S Q := let ⟨r, g, q⟩ := k; ⟨r, fun p l e s m args below meth c E H locs ls B hZ hP hS hl => lv_ishr B.1 B.2.1 hd (g p l e s m args below meth c E H locs ls B hZ hP hS hl), q⟩
theorem g_idiv {x y : Int32} (hd : decode M.2.1 pc = .ok (.idiv, 1)) (hne : ¬ y = 0) (k : zs_P M (pc + 1) lv (.int (x / y) :: st) S Q) : zs_P M pc lv (.int y :: .int x :: st) S Q := let ⟨r, g, q⟩ := k; ⟨r, fun p l e s m args below meth c E H locs ls B hZ hP hS hl => lv_idiv B.1 B.2.1 hd hne (g p l e s m args below meth c E H locs ls B hZ hP hS hl), q⟩
theorem g_irem {x y : Int32} (hd : decode M.2.1 pc = .ok (.irem, 1)) (hne : ¬ y = 0) (k : zs_P M (pc + 1) lv (.int (x - x / y * y) :: st) S Q) : zs_P M pc lv (.int y :: .int x :: st) S Q := let ⟨r, g, q⟩ := k; ⟨r, fun p l e s m args below meth c E H locs ls B hZ hP hS hl => lv_irem B.1 B.2.1 hd hne (g p l e s m args below meth c E H locs ls B hZ hP hS hl), q⟩
theorem g_ineg {x : Int32} (hd : decode M.2.1 pc = .ok (.ineg, 1))  (k : zs_P M (pc + 1) lv (.int (-x) :: st) S Q) : zs_P M pc lv (.int x :: st) S Q := let ⟨r, g, q⟩ := k; ⟨r, fun p l e s m args below meth c E H locs ls B hZ hP hS hl => lv_ineg B.1 B.2.1 hd (g p l e s m args below meth c E H locs ls B hZ hP hS hl), q⟩
theorem g_ladd {x y : Int64} (hd : decode M.2.1 pc = .ok (.ladd, 1))  (k : zs_P M (pc + 1) lv (.long (x + y) :: st) S Q) : zs_P M pc lv (.long y :: .long x :: st) S Q := let ⟨r, g, q⟩ := k; ⟨r, fun p l e s m args below meth c E H locs ls B hZ hP hS hl => lv_ladd B.1 B.2.1 hd (g p l e s m args below meth c E H locs ls B hZ hP hS hl), q⟩
theorem g_lsub {x y : Int64} (hd : decode M.2.1 pc = .ok (.lsub, 1))  (k : zs_P M (pc + 1) lv (.long (x - y) :: st) S Q) : zs_P M pc lv (.long y :: .long x :: st) S Q := let ⟨r, g, q⟩ := k; ⟨r, fun p l e s m args below meth c E H locs ls B hZ hP hS hl => lv_lsub B.1 B.2.1 hd (g p l e s m args below meth c E H locs ls B hZ hP hS hl), q⟩
theorem g_lmul {x y : Int64} (hd : decode M.2.1 pc = .ok (.lmul, 1))  (k : zs_P M (pc + 1) lv (.long (x * y) :: st) S Q) : zs_P M pc lv (.long y :: .long x :: st) S Q := let ⟨r, g, q⟩ := k; ⟨r, fun p l e s m args below meth c E H locs ls B hZ hP hS hl => lv_lmul B.1 B.2.1 hd (g p l e s m args below meth c E H locs ls B hZ hP hS hl), q⟩
theorem g_ldiv {x y : Int64} (hd : decode M.2.1 pc = .ok (.ldiv, 1)) (hne : ¬ y = 0) (k : zs_P M (pc + 1) lv (.long (x / y) :: st) S Q) : zs_P M pc lv (.long y :: .long x :: st) S Q := let ⟨r, g, q⟩ := k; ⟨r, fun p l e s m args below meth c E H locs ls B hZ hP hS hl => lv_ldiv B.1 B.2.1 hd hne (g p l e s m args below meth c E H locs ls B hZ hP hS hl), q⟩
theorem g_lrem {x y : Int64} (hd : decode M.2.1 pc = .ok (.lrem, 1)) (hne : ¬ y = 0) (k : zs_P M (pc + 1) lv (.long (x - x / y * y) :: st) S Q) : zs_P M pc lv (.long y :: .long x :: st) S Q := let ⟨r, g, q⟩ := k; ⟨r, fun p l e s m args below meth c E H locs ls B hZ hP hS hl => lv_lrem B.1 B.2.1 hd hne (g p l e s m args below meth c E H locs ls B hZ hP hS hl), q⟩
theorem g_i2l {x : Int32} {v : Int64} (hd : decode M.2.1 pc = .ok (.i2l, 1)) (hv : x.toInt64 = v) (k : zs_P M (pc + 1) lv (.long v :: st) S Q) : zs_P M pc lv (.int x :: st) S Q := let ⟨r, g, q⟩ := k; ⟨r, fun p l e s m args below meth c E H locs ls B hZ hP hS hl => lv_i2l B.1 B.2.1 hd hv (g p l e s m args below meth c E H locs ls B hZ hP hS hl), q⟩
theorem g_l2i {x : Int64} {v : Int32} (hd : decode M.2.1 pc = .ok (.l2i, 1)) (hv : x.toInt32 = v) (k : zs_P M (pc + 1) lv (.int v :: st) S Q) : zs_P M pc lv (.long x :: st) S Q := let ⟨r, g, q⟩ := k; ⟨r, fun p l e s m args below meth c E H locs ls B hZ hP hS hl => lv_l2i B.1 B.2.1 hd hv (g p l e s m args below meth c E H locs ls B hZ hP hS hl), q⟩
theorem g_i2b {x : Int32} {v : Int32} (hd : decode M.2.1 pc = .ok (.i2b, 1)) (hv : x.toInt8.toInt32 = v) (k : zs_P M (pc + 1) lv (.int v :: st) S Q) : zs_P M pc lv (.int x :: st) S Q := let ⟨r, g, q⟩ := k; ⟨r, fun p l e s m args below meth c E H locs ls B hZ hP hS hl => lv_i2b B.1 B.2.1 hd hv (g p l e s m args below meth c E H locs ls B hZ hP hS hl), q⟩
theorem g_lcmp {x y : Int64} (hd : decode M.2.1 pc = .ok (.lcmp, 1))  (k : zs_P M (pc + 1) lv (.int (lg_cmp x y) :: st) S Q) : zs_P M pc lv (.long y :: .long x :: st) S Q := let ⟨r, g, q⟩ := k; ⟨r, fun p l e s m args below meth c E H locs ls B hZ hP hS hl => W.lcmp B.1 B.2.1 hd (g p l e s m args below meth c E H locs ls B hZ hP hS hl), q⟩
theorem g_dup {va : Value} (hd : decode M.2.1 pc = .ok (.dup, 1)) (hc : va.category = 1) (k : zs_P M (pc + 1) lv (va :: va :: st) S Q) : zs_P M pc lv (va :: st) S Q := let ⟨r, g, q⟩ := k; ⟨r, fun p l e s m args below meth c E H locs ls B hZ hP hS hl => lv_dup B.1 B.2.1 hd (by rw [zs_cat]; exact hc) (g p l e s m args below meth c E H locs ls B hZ hP hS hl), q⟩
theorem g_pop {va : Value} (hd : decode M.2.1 pc = .ok (.pop, 1)) (hc : va.category = 1) (k : zs_P M (pc + 1) lv (st) S Q) : zs_P M pc lv (va :: st) S Q := let ⟨r, g, q⟩ := k; ⟨r, fun p l e s m args below meth c E H locs ls B hZ hP hS hl => lv_pop B.1 B.2.1 hd (by rw [zs_cat]; exact hc) (g p l e s m args below meth c E H locs ls B hZ hP hS hl), q⟩
theorem g_dup2 {va vb : Value} (hd : decode M.2.1 pc = .ok (.dup2, 1)) (hc : va.category = 1) (hc2 : vb.category = 1) (k : zs_P M (pc + 1) lv (va :: vb :: va :: vb :: st) S Q) : zs_P M pc lv (va :: vb :: st) S Q := let ⟨r, g, q⟩ := k; ⟨r, fun p l e s m args below meth c E H locs ls B hZ hP hS hl => lv_dup2_11 B.1 B.2.1 hd (by rw [zs_cat]; exact hc) (by rw [zs_cat]; exact hc2) (g p l e s m args below meth c E H locs ls B hZ hP hS hl), q⟩
theorem g_goto {off : Int} (tgt : Nat) (hd : decode M.2.1 pc = .ok (.goto off, 3)) (ht : (pc : Int) + off = (tgt : Int)) (k : zs_P M tgt lv st S Q) : zs_P M pc lv st S Q := let ⟨r, g, q⟩ := k; ⟨r, fun p l e s m args below meth c E H locs ls B hZ hP hS hl => lv_goto B.1 B.2.1 hd ht (g p l e s m args below meth c E H locs ls B hZ hP hS hl), q⟩
theorem g_if_eq {x : Int32} {off : Int} (tgt : Nat) (hd : decode M.2.1 pc = .ok (.ifCond .eq off, 3)) (ht : (pc : Int) + off = (tgt : Int)) (kt : x = 0 → zs_P M tgt lv st S Q) (kf : ¬ x = 0 → zs_P M (pc + 3) lv st S Q) : zs_P M pc lv (.int x :: st) S Q := by
  by_cases hc : x = 0
  · obtain ⟨r, g, q⟩ := kt hc
    exact ⟨r, fun p l e s m args below meth c E H locs ls B hZ hP hS hl => lv_if_eq B.1 B.2.1 hd ht (fun _ => g p l e s m args below meth c E H locs ls B hZ hP hS hl) (fun z => absurd hc z), q⟩
  · obtain ⟨r, g, q⟩ := kf hc
    exact ⟨r, fun p l e s m args below meth c E H locs ls B hZ hP hS hl => lv_if_eq B.1 B.2.1 hd ht (fun z => absurd z hc) (fun _ => g p l e s m args below meth c E H locs ls B hZ hP hS hl), q⟩
theorem g_ic_eq {x y : Int32} {off : Int} (tgt : Nat) (hd : decode M.2.1 pc = .ok (.if_icmp .eq off, 3)) (ht : (pc : Int) + off = (tgt : Int)) (kt : x = y → zs_P M tgt lv st S Q) (kf : ¬ x = y → zs_P M (pc + 3) lv st S Q) : zs_P M pc lv (.int y :: .int x :: st) S Q := by
  by_cases hc : x = y
  · obtain ⟨r, g, q⟩ := kt hc
    exact ⟨r, fun p l e s m args below meth c E H locs ls B hZ hP hS hl => lv_icmp_eq B.1 B.2.1 hd ht (fun _ => g p l e s m args below meth c E H locs ls B hZ hP hS hl) (fun z => absurd hc z), q⟩
  · obtain ⟨r, g, q⟩ := kf hc
    exact ⟨r, fun p l e s m args below meth c E H locs ls B hZ hP hS hl => lv_icmp_eq B.1 B.2.1 hd ht (fun z => absurd z hc) (fun _ => g p l e s m args below meth c E H locs ls B hZ hP hS hl), q⟩
theorem g_if_ne {x : Int32} {off : Int} (tgt : Nat) (hd : decode M.2.1 pc = .ok (.ifCond .ne off, 3)) (ht : (pc : Int) + off = (tgt : Int)) (kt : ¬ x = 0 → zs_P M tgt lv st S Q) (kf : x = 0 → zs_P M (pc + 3) lv st S Q) : zs_P M pc lv (.int x :: st) S Q := by
  by_cases hc : x = 0
  · obtain ⟨r, g, q⟩ := kf hc
    exact ⟨r, fun p l e s m args below meth c E H locs ls B hZ hP hS hl => lv_if_ne B.1 B.2.1 hd ht (fun z => absurd hc z) (fun _ => g p l e s m args below meth c E H locs ls B hZ hP hS hl), q⟩
  · obtain ⟨r, g, q⟩ := kt hc
    exact ⟨r, fun p l e s m args below meth c E H locs ls B hZ hP hS hl => lv_if_ne B.1 B.2.1 hd ht (fun _ => g p l e s m args below meth c E H locs ls B hZ hP hS hl) (fun z => absurd z hc), q⟩
theorem g_ic_ne {x y : Int32} {off : Int} (tgt : Nat) (hd : decode M.2.1 pc = .ok (.if_icmp .ne off, 3)) (ht : (pc : Int) + off = (tgt : Int)) (kt : ¬ x = y → zs_P M tgt lv st S Q) (kf : x = y → zs_P M (pc + 3) lv st S Q) : zs_P M pc lv (.int y :: .int x :: st) S Q := by
  by_cases hc : x = y
  · obtain ⟨r, g, q⟩ := kf hc
    exact ⟨r, fun p l e s m args below meth c E H locs ls B hZ hP hS hl => lv_icmp_ne B.1 B.2.1 hd ht (fun z => absurd hc z) (fun _ => g p l e s m args below meth c E H locs ls B hZ hP hS hl), q⟩
  · obtain ⟨r, g, q⟩ := kt hc
    exact ⟨r, fun p l e s m args below meth c E H locs ls B hZ hP hS hl => lv_icmp_ne B.1 B.2.1 hd ht (fun _ => g p l e s m args below meth c E H locs ls B hZ hP hS hl) (fun z => absurd z hc), q⟩
theorem g_if_lt {x : Int32} {off : Int} (tgt : Nat) (hd : decode M.2.1 pc = .ok (.ifCond .lt off, 3)) (ht : (pc : Int) + off = (tgt : Int)) (kt : x < 0 → zs_P M tgt lv st S Q) (kf : ¬ x < 0 → zs_P M (pc + 3) lv st S Q) : zs_P M pc lv (.int x :: st) S Q := by
  by_cases hc : x < 0
  · obtain ⟨r, g, q⟩ := kt hc
    exact ⟨r, fun p l e s m args below meth c E H locs ls B hZ hP hS hl => lv_if_lt B.1 B.2.1 hd ht (fun _ => g p l e s m args below meth c E H locs ls B hZ hP hS hl) (fun z => absurd hc z), q⟩
  · obtain ⟨r, g, q⟩ := kf hc
    exact ⟨r, fun p l e s m args below meth c E H locs ls B hZ hP hS hl => lv_if_lt B.1 B.2.1 hd ht (fun z => absurd z hc) (fun _ => g p l e s m args below meth c E H locs ls B hZ hP hS hl), q⟩
theorem g_ic_lt {x y : Int32} {off : Int} (tgt : Nat) (hd : decode M.2.1 pc = .ok (.if_icmp .lt off, 3)) (ht : (pc : Int) + off = (tgt : Int)) (kt : x < y → zs_P M tgt lv st S Q) (kf : ¬ x < y → zs_P M (pc + 3) lv st S Q) : zs_P M pc lv (.int y :: .int x :: st) S Q := by
  by_cases hc : x < y
  · obtain ⟨r, g, q⟩ := kt hc
    exact ⟨r, fun p l e s m args below meth c E H locs ls B hZ hP hS hl => lv_icmp_lt B.1 B.2.1 hd ht (fun _ => g p l e s m args below meth c E H locs ls B hZ hP hS hl) (fun z => absurd hc z), q⟩
  · obtain ⟨r, g, q⟩ := kf hc
    exact ⟨r, fun p l e s m args below meth c E H locs ls B hZ hP hS hl => lv_icmp_lt B.1 B.2.1 hd ht (fun z => absurd z hc) (fun _ => g p l e s m args below meth c E H locs ls B hZ hP hS hl), q⟩
theorem g_if_ge {x : Int32} {off : Int} (tgt : Nat) (hd : decode M.2.1 pc = .ok (.ifCond .ge off, 3)) (ht : (pc : Int) + off = (tgt : Int)) (kt : 0 ≤ x → zs_P M tgt lv st S Q) (kf : ¬ 0 ≤ x → zs_P M (pc + 3) lv st S Q) : zs_P M pc lv (.int x :: st) S Q := by
  by_cases hc : 0 ≤ x
  · obtain ⟨r, g, q⟩ := kt hc
    exact ⟨r, fun p l e s m args below meth c E H locs ls B hZ hP hS hl => lv_if_ge B.1 B.2.1 hd ht (fun _ => g p l e s m args below meth c E H locs ls B hZ hP hS hl) (fun z => absurd hc z), q⟩
  · obtain ⟨r, g, q⟩ := kf hc
    exact ⟨r, fun p l e s m args below meth c E H locs ls B hZ hP hS hl => lv_if_ge B.1 B.2.1 hd ht (fun z => absurd z hc) (fun _ => g p l e s m args below meth c E H locs ls B hZ hP hS hl), q⟩
theorem g_ic_ge {x y : Int32} {off : Int} (tgt : Nat) (hd : decode M.2.1 pc = .ok (.if_icmp .ge off, 3)) (ht : (pc : Int) + off = (tgt : Int)) (kt : y ≤ x → zs_P M tgt lv st S Q) (kf : ¬ y ≤ x → zs_P M (pc + 3) lv st S Q) : zs_P M pc lv (.int y :: .int x :: st) S Q := by
  by_cases hc : y ≤ x
  · obtain ⟨r, g, q⟩ := kt hc
    exact ⟨r, fun p l e s m args below meth c E H locs ls B hZ hP hS hl => lv_icmp_ge B.1 B.2.1 hd ht (fun _ => g p l e s m args below meth c E H locs ls B hZ hP hS hl) (fun z => absurd hc z), q⟩
  · obtain ⟨r, g, q⟩ := kf hc
    exact ⟨r, fun p l e s m args below meth c E H locs ls B hZ hP hS hl => lv_icmp_ge B.1 B.2.1 hd ht (fun z => absurd z hc) (fun _ => g p l e s m args below meth c E H locs ls B hZ hP hS hl), q⟩
theorem g_if_gt {x : Int32} {off : Int} (tgt : Nat) (hd : decode M.2.1 pc = .ok (.ifCond .gt off, 3)) (ht : (pc : Int) + off = (tgt : Int)) (kt : 0 < x → zs_P M tgt lv st S Q) (kf : ¬ 0 < x → zs_P M (pc + 3) lv st S Q) : zs_P M pc lv (.int x :: st) S Q := by
  by_cases hc : 0 < x
  · obtain ⟨r, g, q⟩ := kt hc
    exact ⟨r, fun p l e s m args below meth c E H locs ls B hZ hP hS hl => lv_if_gt B.1 B.2.1 hd ht (fun _ => g p l e s m args below meth c E H locs ls B hZ hP hS hl) (fun z => absurd hc z), q⟩
  · obtain ⟨r, g, q⟩ := kf hc
    exact ⟨r, fun p l e s m args below meth c E H locs ls B hZ hP hS hl => lv_if_gt B.1 B.2.1 hd ht (fun z => absurd z hc) (fun _ => g p l e s m args below meth c E H locs ls B hZ hP hS hl), q⟩
theorem g_ic_gt {x y : Int32} {off : Int} (tgt : Nat) (hd : decode M.2.1 pc = .ok (.if_icmp .gt off, 3)) (ht : (pc : Int) + off = (tgt : Int)) (kt : y < x → zs_P M tgt lv st S Q) (kf : ¬ y < x → zs_P M (pc + 3) lv st S Q) : zs_P M pc lv (.int y :: .int x :: st) S Q := by
  by_cases hc : y < x
  · obtain ⟨r, g, q⟩ := kt hc
    exact ⟨r, fun p l e s m args below meth c E H locs ls B hZ hP hS hl => lv_icmp_gt B.1 B.2.1 hd ht (fun _ => g p l e s m args below meth c E H locs ls B hZ hP hS hl) (fun z => absurd hc z), q⟩
  · obtain ⟨r, g, q⟩ := kf hc
    exact ⟨r, fun p l e s m args below meth c E H locs ls B hZ hP hS hl => lv_icmp_gt B.1 B.2.1 hd ht (fun z => absurd z hc) (fun _ => g p l e s m args below meth c E H locs ls B hZ hP hS hl), q⟩
theorem g_if_le {x : Int32} {off : Int} (tgt : Nat) (hd : decode M.2.1 pc = .ok (.ifCond .le off, 3)) (ht : (pc : Int) + off = (tgt : Int)) (kt : x ≤ 0 → zs_P M tgt lv st S Q) (kf : ¬ x ≤ 0 → zs_P M (pc + 3) lv st S Q) : zs_P M pc lv (.int x :: st) S Q := by
  by_cases hc : x ≤ 0
  · obtain ⟨r, g, q⟩ := kt hc
    exact ⟨r, fun p l e s m args below meth c E H locs ls B hZ hP hS hl => lv_if_le B.1 B.2.1 hd ht (fun _ => g p l e s m args below meth c E H locs ls B hZ hP hS hl) (fun z => absurd hc z), q⟩
  · obtain ⟨r, g, q⟩ := kf hc
    exact ⟨r, fun p l e s m args below meth c E H locs ls B hZ hP hS hl => lv_if_le B.1 B.2.1 hd ht (fun z => absurd z hc) (fun _ => g p l e s m args below meth c E H locs ls B hZ hP hS hl), q⟩
theorem g_ic_le {x y : Int32} {off : Int} (tgt : Nat) (hd : decode M.2.1 pc = .ok (.if_icmp .le off, 3)) (ht : (pc : Int) + off = (tgt : Int)) (kt : x ≤ y → zs_P M tgt lv st S Q) (kf : ¬ x ≤ y → zs_P M (pc + 3) lv st S Q) : zs_P M pc lv (.int y :: .int x :: st) S Q := by
  by_cases hc : x ≤ y
  · obtain ⟨r, g, q⟩ := kt hc
    exact ⟨r, fun p l e s m args below meth c E H locs ls B hZ hP hS hl => lv_icmp_le B.1 B.2.1 hd ht (fun _ => g p l e s m args below meth c E H locs ls B hZ hP hS hl) (fun z => absurd hc z), q⟩
  · obtain ⟨r, g, q⟩ := kf hc
    exact ⟨r, fun p l e s m args below meth c E H locs ls B hZ hP hS hl => lv_icmp_le B.1 B.2.1 hd ht (fun z => absurd z hc) (fun _ => g p l e s m args below meth c E H locs ls B hZ hP hS hl), q⟩
theorem g_tin {x : Int32} {dflt lo hi off : Int} {offs : Array Int} {len : Nat} (tgt : Nat) (hd : decode M.2.1 pc = .ok (.tableswitch dflt lo hi offs, len)) (h1 : ¬ x.toInt < lo) (h2 : ¬ hi < x.toInt) (ho : offs[(x.toInt - lo).toNat]? = some off) (ht : (pc : Int) + off = (tgt : Int)) (k : zs_P M tgt lv st S Q) : zs_P M pc lv (.int x :: st) S Q := let ⟨r, g, q⟩ := k; ⟨r, fun p l e s m args below meth c E H locs ls B hZ hP hS hl => lv_tableIn B.1 B.2.1 hd h1 h2 ho ht (g p l e s m args below meth c E H locs ls B hZ hP hS hl), q⟩
theorem g_tout {x : Int32} {dflt lo hi : Int} {offs : Array Int} {len : Nat} (tgt : Nat) (hd : decode M.2.1 pc = .ok (.tableswitch dflt lo hi offs, len)) (h : x.toInt < lo ∨ hi < x.toInt) (ht : (pc : Int) + dflt = (tgt : Int)) (k : zs_P M tgt lv st S Q) : zs_P M pc lv (.int x :: st) S Q := let ⟨r, g, q⟩ := k; ⟨r, fun p l e s m args below meth c E H locs ls B hZ hP hS hl => lv_tableOut B.1 B.2.1 hd h ht (g p l e s m args below meth c E H locs ls B hZ hP hS hl), q⟩
theorem g_lsw {x : Int32} {dflt off : Int} {ps : Array (Int × Int)} {len : Nat} (tgt : Nat) (hd : decode M.2.1 pc = .ok (.lookupswitch dflt ps, len)) (hp : (ps.toList.zip (ps.toList.drop 1)).all (fun (a, next) => a.1 < next.1) = true) (ho : Op.lookupswitch.offset ps.toList dflt x.toInt = off) (ht : (pc : Int) + off = (tgt : Int)) (k : zs_P M tgt lv st S Q) : zs_P M pc lv (.int x :: st) S Q := let ⟨r, g, q⟩ := k; ⟨r, fun p l e s m args below meth c E H locs ls B hZ hP hS hl => lv_lookup B.1 B.2.1 hd hp ho ht (g p l e s m args below meth c E H locs ls B hZ hP hS hl), q⟩
/-- the picture's cell of an object -/
theorem zs_obj {E : zs_E} {S : zs_S} {a ci : Nat} {fl : List Nat} (ha : a < zs_n) (hs : zs_sh a = .inr (ci, fl)) : (zs_ws E S)[a]? = some (E.2.2.2 a, .inr (ci, zs_fl E S a 0 fl)) := by
  rw [zs_ws_get ha]
  simp only [zs_c, hs]
theorem zs_arr {E : zs_E} {S : zs_S} {a t n : Nat} (ha : a < zs_n) (hs : zs_sh a = .inl (t, n)) : (zs_ws E S)[a]? = some (E.2.2.2 a, .inl (E.2.2.1 t, n, .inl (S.1 a))) := by
  rw [zs_ws_get ha]
  simp only [zs_c, hs]
theorem g_get {a ci idx j t N : Nat} {fl : List Nat} {C : String} {T : u_T} {v : Value} (hd : decode M.2.1 pc = .ok (.getfield idx, 3)) (ha : a < zs_n) (hs : zs_sh a = .inr (ci, fl)) (hc : vwCl[ci]? = some (C, T, N)) (hj : j < N) (hf : fl[j]? = some t) (hw : Cond.fieldLink M.1.cls idx (T j).1 (T j).2.1 (T j).2.2.1 ∈ zs_tbl) (hv : ∀ E : zs_E, zs_fv E S a j t = zs_v E v) (k : zs_P M (pc + 3) lv (v :: st) S Q) : zs_P M pc lv (.ref a :: st) S Q := by
  obtain ⟨r, g, q⟩ := k
  refine ⟨r, ?_, q⟩
  intro p l e s m args below meth c E H locs ls B hZ hP hS hl
  refine va_get (D := zs_D E) (Ts := zs_tbl) (own := M.1.cls) B.1 B.2.1 B.2.2.2.2.2.1 (zs_cls hc).1 B.2.2.2.2.1 hZ.1 hP a (zs_obj ha hs) hc j hj (B.2.2.2.2.2.1 _ hw) (fun _ h => h) (v := zs_v E v) ?_ hd (g p l e s m args below meth c E H locs ls B hZ hP hS hl)
  rw [zs_fl_get fl 0 j t hf, ← hv E, Nat.zero_add]
theorem g_getI {a ci idx N : Nat} (j : Nat) {fl : List Nat} {C : String} {T : u_T} (hd : decode M.2.1 pc = .ok (.getfield idx, 3)) (ha : a < zs_n) (hs : zs_sh a = .inr (ci, fl)) (hc : vwCl[ci]? = some (C, T, N)) (hj : j < N) (hf : fl[j]? = some 0) (hw : Cond.fieldLink M.1.cls idx (T j).1 (T j).2.1 (T j).2.2.1 ∈ zs_tbl) (k : zs_P M (pc + 3) lv (.int (S.1 a j) :: st) S Q) : zs_P M pc lv (.ref a :: st) S Q := g_get hd ha hs hc hj hf hw (fun _ => rfl) k
theorem g_getL {a ci idx N : Nat} (j : Nat) {fl : List Nat} {C : String} {T : u_T} (hd : decode M.2.1 pc = .ok (.getfield idx, 3)) (ha : a < zs_n) (hs : zs_sh a = .inr (ci, fl)) (hc : vwCl[ci]? = some (C, T, N)) (hj : j < N) (hf : fl[j]? = some 1) (hw : Cond.fieldLink M.1.cls idx (T j).1 (T j).2.1 (T j).2.2.1 ∈ zs_tbl) (k : zs_P M (pc + 3) lv (.long (S.2 a j) :: st) S Q) : zs_P M pc lv (.ref a :: st) S Q := g_get hd ha hs hc hj hf hw (fun _ => rfl) k
theorem g_getR {a ci idx N : Nat} (j b : Nat) {fl : List Nat} {C : String} {T : u_T} (hd : decode M.2.1 pc = .ok (.getfield idx, 3)) (ha : a < zs_n) (hs : zs_sh a = .inr (ci, fl)) (hc : vwCl[ci]? = some (C, T, N)) (hj : j < N) (hf : fl[j]? = some (b + 2)) (hw : Cond.fieldLink M.1.cls idx (T j).1 (T j).2.1 (T j).2.2.1 ∈ zs_tbl) (k : zs_P M (pc + 3) lv (.ref b :: st) S Q) : zs_P M pc lv (.ref a :: st) S Q := g_get hd ha hs hc hj hf hw (fun _ => rfl) k
theorem g_put {a ci idx j t N : Nat} {fl : List Nat} {C : String} {T : u_T} {v : Value} {ty : FieldType} {S' : zs_S} (hd : decode M.2.1 pc = .ok (.putfield idx, 3)) (ha : a < zs_n) (hs : zs_sh a = .inr (ci, fl)) (hc : vwCl[ci]? = some (C, T, N)) (hj : j < N) (hf : fl[j]? = some t) (hw : Cond.fieldLink M.1.cls idx (T j).1 (T j).2.1 (T j).2.2.1 ∈ zs_tbl) (hfin : (T j).2.2.2 = false) (hty : parseFieldDescriptor (T j).2.2.1 = some ty) (hn : ∀ E : zs_E, narrow ty (zs_v E v) = zs_v E v ∧ fits ty (zs_v E v) = true)
    (hv : ∀ E : zs_E, zs_fv E S' a j t = zs_v E v) (ho : ∀ b i, ¬ (b = a ∧ i = j) → S'.1 b i = S.1 b i ∧ S'.2 b i = S.2 b i) (k : zs_P M (pc + 3) lv st S' Q) : zs_P M pc lv (v :: .ref a :: st) S Q := by
  obtain ⟨r, g, q⟩ := k
  refine ⟨r, ?_, q⟩
  intro p l e s m args below meth c E H locs ls B hZ hP hS hl
  refine va_put (D := zs_D E) (Ts := zs_tbl) (own := M.1.cls) (v := zs_v E v) (ty := ty) B.1 B.2.1 B.2.2.2.2.2.1 (zs_cls hc).1 (zs_cls hc).2.choose (zs_cls hc).2.choose_spec.1 (zs_cls hc).2.choose_spec.2 B.2.2.2.2.1 hZ.1 hP (zs_Dd hZ.2.2) hS a (zs_obj ha hs) hc j hj (B.2.2.2.2.2.1 _ hw) (fun _ h => h) hfin hty (hn E).1 (hn E).2 (by rw [zs_fl_len]; exact (List.getElem?_eq_some_iff.mp hf).1) hd (fun H locs hP _ hS => ?_)
  have e2 : (zs_ws E S).set a (E.2.2.2 a, .inr (ci, (zs_fl E S a 0 fl).set j (zs_v E v))) = zs_ws E S' := by
    refine zs_ws_set ?_ (fun b hb => zs_c_same (fun i => ho b i (fun q => hb q.1)))
    simp only [zs_c, hs]
    rw [zs_fl_set (E := E) (S := S) (S' := S') (a := a) (v := zs_v E v) fl 0 j t hf (by rw [Nat.zero_add]; exact hv E) (fun i hi => ho a i (fun q => hi (by rw [q.2, Nat.zero_add])))]
  rw [e2] at hP
  exact g p l e s m args below meth c E H locs ls B hZ hP hS hl
theorem g_putI {a ci idx N : Nat} (j : Nat) {fl : List Nat} {C : String} {T : u_T} {x : Int32} {ty : FieldType} (hd : decode M.2.1 pc = .ok (.putfield idx, 3)) (ha : a < zs_n) (hs : zs_sh a = .inr (ci, fl)) (hc : vwCl[ci]? = some (C, T, N)) (hj : j < N) (hf : fl[j]? = some 0) (hw : Cond.fieldLink M.1.cls idx (T j).1 (T j).2.1 (T j).2.2.1 ∈ zs_tbl) (hfin : (T j).2.2.2 = false) (hty : parseFieldDescriptor (T j).2.2.1 = some ty) (hn : narrow ty (.int x) = .int x ∧ fits ty (.int x) = true) (k : zs_P M (pc + 3) lv st (zs_up S.1 a j x, S.2) Q) : zs_P M pc lv (.int x :: .ref a :: st) S Q :=
  g_put (S' := (zs_up S.1 a j x, S.2)) hd ha hs hc hj hf hw hfin hty (fun _ => hn) (fun E => by simp [zs_fv, zs_up, zs_v]) (fun b i h => ⟨by simp only [zs_up]; rw [if_neg h], rfl⟩) k
theorem g_putL {a ci idx N : Nat} (j : Nat) {fl : List Nat} {C : String} {T : u_T} {x : Int64} (hd : decode M.2.1 pc = .ok (.putfield idx, 3)) (ha : a < zs_n) (hs : zs_sh a = .inr (ci, fl)) (hc : vwCl[ci]? = some (C, T, N)) (hj : j < N) (hf : fl[j]? = some 1) (hw : Cond.fieldLink M.1.cls idx (T j).1 (T j).2.1 (T j).2.2.1 ∈ zs_tbl) (hfin : (T j).2.2.2 = false) (hty : parseFieldDescriptor (T j).2.2.1 = some .long) (k : zs_P M (pc + 3) lv st (S.1, zs_upL S.2 a j x) Q) : zs_P M pc lv (.long x :: .ref a :: st) S Q :=
  g_put (S' := (S.1, zs_upL S.2 a j x)) hd ha hs hc hj hf hw hfin hty (fun _ => ⟨rfl, rfl⟩) (fun E => by simp [zs_fv, zs_upL, zs_v]) (fun b i h => ⟨rfl, by simp only [zs_upL]; rw [if_neg h]⟩) k
theorem g_iald {a n : Nat} {i : Int32} (hd : decode M.2.1 pc = .ok (.iaload, 1)) (ha : a < zs_n) (hs : zs_sh a = .inl (0, n)) (hin : vp_in i n) (k : zs_P M (pc + 1) lv (.int (S.1 a i.toNatClampNeg) :: st) S Q) : zs_P M pc lv (.int i :: .ref a :: st) S Q := let ⟨r, g, q⟩ := k; ⟨r, fun p l e s m args below meth c E H locs ls B hZ hP hS hl => va_iald (D := zs_D E) B.1 B.2.1 hZ.1 hP a 0 (zs_arr ha hs) rfl hin hd (g p l e s m args below meth c E H locs ls B hZ hP hS hl), q⟩
theorem g_bald {a n : Nat} {i : Int32} (hd : decode M.2.1 pc = .ok (.baload, 1)) (ha : a < zs_n) (hs : zs_sh a = .inl (1, n)) (hin : vp_in i n) (k : zs_P M (pc + 1) lv (.int (S.1 a i.toNatClampNeg) :: st) S Q) : zs_P M pc lv (.int i :: .ref a :: st) S Q := let ⟨r, g, q⟩ := k; ⟨r, fun p l e s m args below meth c E H locs ls B hZ hP hS hl => va_bald (D := zs_D E) B.1 B.2.1 hZ.1 hP a 1 (zs_arr ha hs) rfl hin hd (g p l e s m args below meth c E H locs ls B hZ hP hS hl), q⟩
theorem g_alen {a t n : Nat} {v : Int32} (hd : decode M.2.1 pc = .ok (.arraylength, 1)) (ha : a < zs_n) (hs : zs_sh a = .inl (t, n)) (ht : t < 2) (hv : Int32.ofNat n = v) (k : zs_P M (pc + 1) lv (.int v :: st) S Q) : zs_P M pc lv (.ref a :: st) S Q := by
  obtain ⟨r, g, q⟩ := k
  refine ⟨r, ?_, q⟩
  intro p l e s m args below meth c E H locs ls B hZ hP hS hl
  match t, ht with
  | 0, _ => exact va_alen (D := zs_D E) B.1 B.2.1 hZ.1 hP a 0 (zs_arr ha hs) (ty := .int) rfl hv hd (g p l e s m args below meth c E H locs ls B hZ hP hS hl)
  | 1, _ => exact va_alen (D := zs_D E) B.1 B.2.1 hZ.1 hP a 1 (zs_arr ha hs) (ty := .byte) rfl hv hd (g p l e s m args below meth c E H locs ls B hZ hP hS hl)
theorem zs_wsa {E : zs_E} {S : zs_S} {a t n i : Nat} {x : Int32} (hs : zs_sh a = .inl (t, n)) : (zs_ws E S).set a (E.2.2.2 a, .inl (E.2.2.1 t, n, .inl (upd (S.1 a) i x))) = zs_ws E (zs_up S.1 a i x, S.2) := by
  refine zs_ws_set ?_ (fun b hb => zs_c_same (fun j => ⟨by simp [zs_up, hb], rfl⟩))
  simp only [zs_c, hs]
  congr 4
  funext j
  simp [zs_up, upd]
theorem g_iast {a n : Nat} {i x : Int32} (hd : decode M.2.1 pc = .ok (.iastore, 1)) (ha : a < zs_n) (hs : zs_sh a = .inl (0, n)) (hin : vp_in i n) (k : zs_P M (pc + 1) lv st (zs_up S.1 a i.toNatClampNeg x, S.2) Q) : zs_P M pc lv (.int x :: .int i :: .ref a :: st) S Q := let ⟨r, g, q⟩ := k; ⟨r, fun p l e s m args below meth c E H locs ls B hZ hP hS hl => va_iast (D := zs_D E) B.1 B.2.1 hZ.1 hP (zs_Dd hZ.2.2) hS a 0 (zs_arr ha hs) rfl hin hd (fun H locs hP _ hS => by
    rw [zs_wsa hs] at hP
    exact g p l e s m args below meth c E H locs ls B hZ hP hS hl), q⟩
theorem g_bast {a n : Nat} {i x : Int32} (hd : decode M.2.1 pc = .ok (.bastore, 1)) (ha : a < zs_n) (hs : zs_sh a = .inl (1, n)) (hin : vp_in i n) (k : zs_P M (pc + 1) lv st (zs_up S.1 a i.toNatClampNeg (vp_nar .byte x), S.2) Q) : zs_P M pc lv (.int x :: .int i :: .ref a :: st) S Q := let ⟨r, g, q⟩ := k; ⟨r, fun p l e s m args below meth c E H locs ls B hZ hP hS hl => va_bast (D := zs_D E) B.1 B.2.1 hZ.1 hP (zs_Dd hZ.2.2) hS a 1 (zs_arr ha hs) rfl hin hd (fun H locs hP _ hS => by
    rw [zs_wsa hs] at hP
    exact g p l e s m args below meth c E H locs ls B hZ hP hS hl), q⟩
theorem g_iret {v : Int32} {ty : FieldType} (hd : decode M.2.1 pc = .ok (.ireturn, 1)) (hr : M.2.2.2.1 = some ty) (hn : narrow ty (.int v) = .int v) (hq : Q (some (.int v)) S) : zs_P M pc lv [.int v] S Q :=
  ⟨(some (.int v), S), fun p l e s m args below meth c E H locs ls B hZ hP hS hl => W.zret (ty := ty) B.1 B.2.1 (B.2.2.1.trans hr) hn (fun t ht _ => ⟨rfl, by rw [ht]; exact hP, hS.F ht⟩) hS.2.2 hd (hlocks := B.2.2.2.2.2.2), hq⟩
theorem g_lret {v : Int64} (hd : decode M.2.1 pc = .ok (.lreturn, 1)) (hr : M.2.2.2.1 = some .long) (hq : Q (some (.long v)) S) : zs_P M pc lv [.long v] S Q :=
  ⟨(some (.long v), S), fun p l e s m args below meth c E H locs ls B hZ hP hS hl => W.lret B.1 B.2.1 (B.2.2.1.trans hr) (fun t ht _ => ⟨rfl, by rw [ht]; exact hP, hS.F ht⟩) hS.2.2 hd (hlocks := B.2.2.2.2.2.2), hq⟩
theorem g_ret (hd : decode M.2.1 pc = .ok (.return_, 1)) (hr : M.2.2.2.1 = none) (hq : Q none S) : zs_P M pc lv [] S Q :=
  ⟨(none, S), fun p l e s m args below meth c E H locs ls B hZ hP hS hl => W.vret B.1 B.2.1 (B.2.2.1.trans hr) (fun t ht _ => ⟨rfl, by rw [ht]; exact hP, hS.F ht⟩) hS.2.2 hd (hlocks := B.2.2.2.2.2.2), hq⟩
theorem zs_cont {p : Program} {l : Launch} {e : Env} {R : Room} {s : State} {m : MethodId} {args a : Array Value} {below : List Frame} {meth : Method} {c : Code} {H H0 : Heap} {locs : List Loc} {ls : Array Slot} {st0 rest : List Value} {E : zs_E} {q : zs_O} {QQ : State → Prop}
    (hr : va_Run p l e R s m args below meth c H locs 0 0 0 0 (F0 m pc ls st0) rest (zs_Q E q a) (zs_A E)) (hS : va_S (zs_A E) H0 H locs)
    (kk : ∀ (H1 : Heap) (locs1 : List Loc), va_P (zs_D E) vwCl (zs_ws E q.2) H1 → va_S (zs_A E) H0 H1 locs1 → W p l e R s m args below meth c H1 locs1 0 0 QQ (F0 m (pc + 3) ls ((q.1.map (zs_v E)).toList ++ rest))) : W p l e R s m args below meth c H locs 0 0 QQ (F0 m pc ls st0) := by
  intro T hT X
  obtain ⟨v, st₀, t, T', L, h0, X', hL, e1, e2, ⟨hv, hp, hz, hk⟩, st⟩ := hr T hT X
  cases hv
  rw [h0] at hz hk
  obtain ⟨t2, a1, b1⟩ := kk T'.heap (locs ++ L) (by rw [e1]; exact hp)
    ⟨Nat.le_trans hS.1 (by rw [e1]; exact hz), fun q h1 h2 => by rw [e1, hk q (Nat.lt_of_lt_of_le h1 hS.1) h2]; exact hS.2.1 q h1 h2, fun q hq => by
      rcases List.mem_append.mp hq with h | h
      · exact hS.2.2 q h
      · exact hL q h⟩ T' rfl X'
  exact ⟨t2, st t2 a1, b1⟩
/-- what a call of N out of M takes of the tables, but for its link: room, code, class, number of arguments -/
def zs_K (M N : zs_M) (n : Nat) : Prop := (N.2.2.2.2.cells = 0 ∧ N.2.2.2.2.slots = 0 ∧ N.2.2.2.2.frames + 1 ≤ M.2.2.2.2.frames ∧ 8 + (N.2.2.1 + 11) + N.2.2.2.2.locals ≤ M.2.2.2.2.locals) ∧ Cond.code N.1 N.2.1 N.2.2.1 N.2.2.2.1 ∈ zs_tbl ∧ Cond.initialized N.1.cls ∈ zs_tbl ∧ (N.1.cls ≠ "java/lang/invoke/MethodHandle" ∧ N.1.cls ≠ "java/lang/invoke/VarHandle") ∧ (parseMethodDescriptor N.1.desc).map (fun d => d.parameters.length) = some n
theorem zs_pay {s : State} {args : Array Value} {N : zs_M} (hts : ∀ w ∈ zs_tbl, w.before args s = true) (hc : Cond.code N.1 N.2.1 N.2.2.1 N.2.2.2.1 ∈ zs_tbl) : ∀ w ∈ Cond.code N.1 N.2.1 N.2.2.1 N.2.2.2.1 :: zs_tbl, ∀ (a' : Array Value) (U : State), s.WarmedH U.vm → w.before a' U = true := by
  intro w hw a' U hW
  have hm : w ∈ zs_tbl := by
    rcases List.mem_cons.mp hw with h | h
    · rw [h]; exact hc
    · exact h
  exact word_at hW (zs_good w hm).2 (hts w hm)
theorem zs_len {n : Nat} {d : String} (h : (parseMethodDescriptor d).map (fun d => d.parameters.length) = some n) : ∀ sig, parseMethodDescriptor d = some sig → n = sig.parameters.length := by
  intro sig hs
  rw [hs] at h
  exact (Option.some.inj h).symm
theorem zs_ct {E : zs_E} {rest : List Value} (h : (rest.map fun v => v.category).sum ≤ 8) : ((rest.map (zs_v E)).map fun v => v.category).sum ≤ 8 := by
  rw [List.map_map]
  have : ((fun v : Value => v.category) ∘ zs_v E) = fun v => v.category := by funext v; exact zs_cat E v
  rw [this]; exact h
theorem zs_tl {E : zs_E} (o : Option Value) (rest : List Value) : ((o.map (zs_v E)).toList ++ rest.map (zs_v E)) = (o.toList ++ rest).map (zs_v E) := by cases o <;> rfl
/-- an instance method -/
theorem g_callV {N : zs_M} {a ci idx n NN : Nat} {fl : List Nat} {T : u_T} {As : List Value} (rest : List Value) {st0 : List Value} {Q1 : Option Value → zs_S → Prop} (hX : zs_C N (.ref a :: As) S Q1) (hd : decode M.2.1 pc = .ok (.invokevirtual idx, 3)) (hK : zs_K M N n) (hl1 : Cond.methodLink M.1.cls idx N.1 ∈ zs_tbl) (hl2 : Cond.instanceMethod N.1 ∈ zs_tbl) (hl3 : Cond.selects N.1.cls N.1 N.1 ∈ zs_tbl) (ha : a < zs_n) (hs : zs_sh a = .inr (ci, fl)) (hc : vwCl[ci]? = some (N.1.cls, T, NN)) (hn : As.length = n) (hst : st0 = As.reverse ++ .ref a :: rest) (hcat : (rest.map fun v => v.category).sum ≤ 8)
    (k : ∀ v S', Q1 v S' → zs_P M (pc + 3) lv (v.toList ++ rest) S' Q) : zs_P M pc lv st0 S Q := by
  obtain ⟨o, hX, hq1⟩ := hX
  obtain ⟨r, g, q⟩ := k _ _ hq1
  refine ⟨r, ?_, q⟩
  intro p l e s m args below meth c E H locs ls B hZ hP hS hl
  obtain ⟨⟨k1, k2, k3, k4⟩, k5, k6, k7, k8⟩ := hK
  have hts := B.2.2.2.2.2.1
  refine zs_cont (q := o) (rest := rest.map (zs_v E)) (va_runV (C := N.1.cls) (As := As.map (zs_v E)) (n := n) (Ts := zs_tbl) ⟨B.1, B.2.1, B.2.2.2.1, B.2.2.2.2.1, hts⟩ (hX l E) ⟨⟨k1, k2, k3, k4, zs_pay hts k5, List.mem_cons_self, hts _ k5, hts _ k6, k7, zs_len k8, hts _ hl1⟩, hts _ hl2, hts _ hl3⟩ ⟨zs_bl, va_recv hZ.1 hP hc (zs_obj ha hs), fun U hU hW => ⟨rfl, by rw [hU]; exact hP, zs_Zw hZ hW⟩⟩ rfl (by rw [List.length_map]; exact hn) hl.1 (by rw [hst]; simp [zs_v]) (lv_room (zs_ct hcat)) hd ⟨Nat.zero_le _, Nat.zero_le _⟩) hS (fun H locs hP hS => ?_)
  rw [zs_tl]
  exact g p l e s m args below meth c E H locs ls B hZ hP hS hl
/-- a static method of the own class, or of any that may be called -/
theorem g_callS {N : zs_M} {idx n : Nat} (As rest : List Value) {st0 : List Value} {Q1 : Option Value → zs_S → Prop} (hX : zs_C N As S Q1) (hd : decode M.2.1 pc = .ok (.invokestatic idx, 3)) (hK : zs_K M N n) (hl1 : Cond.methodLink M.1.cls idx N.1 ∈ zs_tbl) (hl2 : Cond.static N.1 ∈ zs_tbl) (hn : As.length = n) (hst : st0 = As.reverse ++ rest) (hcat : (rest.map fun v => v.category).sum ≤ 8)
    (k : ∀ v S', Q1 v S' → zs_P M (pc + 3) lv (v.toList ++ rest) S' Q) : zs_P M pc lv st0 S Q := by
  obtain ⟨o, hX, hq1⟩ := hX
  obtain ⟨r, g, q⟩ := k _ _ hq1
  refine ⟨r, ?_, q⟩
  intro p l e s m args below meth c E H locs ls B hZ hP hS hl
  obtain ⟨⟨k1, k2, k3, k4⟩, k5, k6, k7, k8⟩ := hK
  have hts := B.2.2.2.2.2.1
  refine zs_cont (q := o) (rest := rest.map (zs_v E)) (va_runS (As := As.map (zs_v E)) (n := n) (Ts := zs_tbl) ⟨B.1, B.2.1, B.2.2.2.1, B.2.2.2.2.1, hts⟩ (hX l E) ⟨⟨k1, k2, k3, k4, zs_pay hts k5, List.mem_cons_self, hts _ k5, hts _ k6, k7, zs_len k8, hts _ hl1⟩, hts _ hl2⟩ ⟨zs_bl, fun U hU hW => ⟨rfl, by rw [hU]; exact hP, zs_Zw hZ hW⟩⟩ rfl (by rw [List.length_map]; exact hn) hl.1 (by rw [hst]; simp) (lv_room (zs_ct hcat)) hd ⟨Nat.zero_le _, Nat.zero_le _⟩) hS (fun H locs hP hS => ?_)
  rw [zs_tl]
  exact g p l e s m args below meth c E H locs ls B hZ hP hS hl
/-- a private static method of a nest mate -/
theorem g_callN {N : zs_M} {idx n : Nat} {host : String} (As rest : List Value) {st0 : List Value} {Q1 : Option Value → zs_S → Prop} (hX : zs_C N As S Q1) (hd : decode M.2.1 pc = .ok (.invokestatic idx, 3)) (hK : zs_K M N n) (hl1 : (M.1.cls, idx, N.1, host) ∈ zs_nst) (hl2 : Cond.static N.1 ∈ zs_tbl) (hn : As.length = n) (hst : st0 = As.reverse ++ rest) (hcat : (rest.map fun v => v.category).sum ≤ 8)
    (k : ∀ v S', Q1 v S' → zs_P M (pc + 3) lv (v.toList ++ rest) S' Q) : zs_P M pc lv st0 S Q := by
  obtain ⟨o, hX, hq1⟩ := hX
  obtain ⟨r, g, q⟩ := k _ _ hq1
  refine ⟨r, ?_, q⟩
  intro p l e s m args below meth c E H locs ls B hZ hP hS hl
  obtain ⟨⟨k1, k2, k3, k4⟩, k5, k6, k7, k8⟩ := hK
  have hts := B.2.2.2.2.2.1
  refine zs_cont (q := o) (rest := rest.map (zs_v E)) (va_runSN (As := As.map (zs_v E)) (n := n) (Ts := zs_tbl) (host := host) ⟨B.1, B.2.1, B.2.2.2.1, B.2.2.2.2.1, hts⟩ (hX l E) ⟨⟨⟨k1, k2, k3, k4, zs_pay hts k5, List.mem_cons_self⟩, hts _ k5, hts _ k6, k7, zs_len k8, va_Nw.use rfl (hZ.2.1 _ hl1)⟩, hts _ hl2, trivial⟩ ⟨zs_bl, fun U hU hW => ⟨rfl, by rw [hU]; exact hP, zs_Zw hZ hW⟩⟩ rfl (by rw [List.length_map]; exact hn) hl.1 (by rw [hst]; simp) (lv_room (zs_ct hcat)) hd ⟨Nat.zero_le _, Nat.zero_le _⟩) hS (fun H locs hP hS => ?_)
  rw [zs_tl]
  exact g p l e s m args below meth c E H locs ls B hZ hP hS hl
end zs_rows
end

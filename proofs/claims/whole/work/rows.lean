section
-- ===== PART A: goes FIRST, ahead of the names: the tables' words, and 'selects' of the private methods out of them =====
/-- a private method of a class that the tables say can be made, by its rows of tables_1 -/
def lw_okq (q : MethodName × Nat) : Prop := (q.1.cls ≠ "java/lang/invoke/MethodHandle" ∧ q.1.cls ≠ "java/lang/invoke/VarHandle") ∧ Cond.instantiable q.1.cls q.2 ∈ tables_1 ∧ Cond.privateMethod q.1 ∈ tables_1 ∧ Cond.instanceMethod q.1 ∈ tables_1
theorem lw_p0 : lw_okq (⟨"WindBrides$Book", "holds", "(I[I)Z"⟩, 6) := ⟨⟨by decide +kernel, by decide +kernel⟩, List.mem_of_getElem? (i := 65) (by decide +kernel), List.mem_of_getElem? (i := 335) (by decide +kernel), List.mem_of_getElem? (i := 336) (by decide +kernel)⟩
theorem lw_p1 : lw_okq (⟨"WindBrides$Book", "compares", "(I[I)Z"⟩, 6) := ⟨⟨by decide +kernel, by decide +kernel⟩, List.mem_of_getElem? (i := 65) (by decide +kernel), List.mem_of_getElem? (i := 339) (by decide +kernel), List.mem_of_getElem? (i := 340) (by decide +kernel)⟩
theorem lw_p2 : lw_okq (⟨"WindBrides$Tape", "split", "()V"⟩, 5) := ⟨⟨by decide +kernel, by decide +kernel⟩, List.mem_of_getElem? (i := 170) (by decide +kernel), List.mem_of_getElem? (i := 430) (by decide +kernel), List.mem_of_getElem? (i := 431) (by decide +kernel)⟩
theorem lw_p3 : lw_okq (⟨"WindBrides$Tape", "goesOn", "(I)Z"⟩, 5) := ⟨⟨by decide +kernel, by decide +kernel⟩, List.mem_of_getElem? (i := 170) (by decide +kernel), List.mem_of_getElem? (i := 434) (by decide +kernel), List.mem_of_getElem? (i := 435) (by decide +kernel)⟩
theorem lw_p4 : lw_okq (⟨"WindBrides$Tape", "tokenOf", "(I)I"⟩, 5) := ⟨⟨by decide +kernel, by decide +kernel⟩, List.mem_of_getElem? (i := 170) (by decide +kernel), List.mem_of_getElem? (i := 444) (by decide +kernel), List.mem_of_getElem? (i := 445) (by decide +kernel)⟩
theorem lw_p5 : lw_okq (⟨"WindBrides$Tape", "wordOf", "(II)I"⟩, 5) := ⟨⟨by decide +kernel, by decide +kernel⟩, List.mem_of_getElem? (i := 170) (by decide +kernel), List.mem_of_getElem? (i := 448) (by decide +kernel), List.mem_of_getElem? (i := 449) (by decide +kernel)⟩
theorem lw_p6 : lw_okq (⟨"WindBrides$Tape", "isWord", "(III)Z"⟩, 5) := ⟨⟨by decide +kernel, by decide +kernel⟩, List.mem_of_getElem? (i := 170) (by decide +kernel), List.mem_of_getElem? (i := 452) (by decide +kernel), List.mem_of_getElem? (i := 453) (by decide +kernel)⟩
theorem lw_p7 : lw_okq (⟨"WindBrides$Tape", "numberOf", "(II)I"⟩, 5) := ⟨⟨by decide +kernel, by decide +kernel⟩, List.mem_of_getElem? (i := 170) (by decide +kernel), List.mem_of_getElem? (i := 497) (by decide +kernel), List.mem_of_getElem? (i := 498) (by decide +kernel)⟩
theorem lw_p8 : lw_okq (⟨"WindBrides$Tape", "readRule", "(LWindBrides$Book;)Z"⟩, 5) := ⟨⟨by decide +kernel, by decide +kernel⟩, List.mem_of_getElem? (i := 170) (by decide +kernel), List.mem_of_getElem? (i := 505) (by decide +kernel), List.mem_of_getElem? (i := 506) (by decide +kernel)⟩
theorem lw_p9 : lw_okq (⟨"WindBrides$Tape", "reads", "(I)Z"⟩, 5) := ⟨⟨by decide +kernel, by decide +kernel⟩, List.mem_of_getElem? (i := 170) (by decide +kernel), List.mem_of_getElem? (i := 510) (by decide +kernel), List.mem_of_getElem? (i := 511) (by decide +kernel)⟩
theorem lw_p10 : lw_okq (⟨"WindBrides$Tape", "readCondition", "(LWindBrides$Book;I)Z"⟩, 5) := ⟨⟨by decide +kernel, by decide +kernel⟩, List.mem_of_getElem? (i := 170) (by decide +kernel), List.mem_of_getElem? (i := 514) (by decide +kernel), List.mem_of_getElem? (i := 515) (by decide +kernel)⟩
theorem lw_p11 : lw_okq (⟨"WindBrides$Tape", "readOne", "(LWindBrides$Book;I)Z"⟩, 5) := ⟨⟨by decide +kernel, by decide +kernel⟩, List.mem_of_getElem? (i := 170) (by decide +kernel), List.mem_of_getElem? (i := 518) (by decide +kernel), List.mem_of_getElem? (i := 519) (by decide +kernel)⟩
theorem lw_p12 : lw_okq (⟨"WindBrides$Tape", "readComparison", "(LWindBrides$Book;)Z"⟩, 5) := ⟨⟨by decide +kernel, by decide +kernel⟩, List.mem_of_getElem? (i := 170) (by decide +kernel), List.mem_of_getElem? (i := 522) (by decide +kernel), List.mem_of_getElem? (i := 523) (by decide +kernel)⟩
theorem lw_p13 : lw_okq (⟨"WindBrides", "passMonth", "(I)I"⟩, 15) := ⟨⟨by decide +kernel, by decide +kernel⟩, List.mem_of_getElem? (i := 21) (by decide +kernel), List.mem_of_getElem? (i := 549) (by decide +kernel), List.mem_of_getElem? (i := 550) (by decide +kernel)⟩
theorem lw_p14 : lw_okq (⟨"WindBrides$Course", "meetsCalm", "(LWindBrides$Coast;II)V"⟩, 5) := ⟨⟨by decide +kernel, by decide +kernel⟩, List.mem_of_getElem? (i := 35) (by decide +kernel), List.mem_of_getElem? (i := 559) (by decide +kernel), List.mem_of_getElem? (i := 560) (by decide +kernel)⟩
theorem lw_p15 : lw_okq (⟨"WindBrides$Course", "freeWindFor", "(LWindBrides$Coast;I)I"⟩, 5) := ⟨⟨by decide +kernel, by decide +kernel⟩, List.mem_of_getElem? (i := 35) (by decide +kernel), List.mem_of_getElem? (i := 564) (by decide +kernel), List.mem_of_getElem? (i := 565) (by decide +kernel)⟩
def lw_privs_1 : List (MethodName × Nat) := [(⟨"WindBrides$Book", "holds", "(I[I)Z"⟩, 6), (⟨"WindBrides$Book", "compares", "(I[I)Z"⟩, 6), (⟨"WindBrides$Tape", "split", "()V"⟩, 5), (⟨"WindBrides$Tape", "goesOn", "(I)Z"⟩, 5), (⟨"WindBrides$Tape", "tokenOf", "(I)I"⟩, 5), (⟨"WindBrides$Tape", "wordOf", "(II)I"⟩, 5), (⟨"WindBrides$Tape", "isWord", "(III)Z"⟩, 5), (⟨"WindBrides$Tape", "numberOf", "(II)I"⟩, 5), (⟨"WindBrides$Tape", "readRule", "(LWindBrides$Book;)Z"⟩, 5), (⟨"WindBrides$Tape", "reads", "(I)Z"⟩, 5), (⟨"WindBrides$Tape", "readCondition", "(LWindBrides$Book;I)Z"⟩, 5), (⟨"WindBrides$Tape", "readOne", "(LWindBrides$Book;I)Z"⟩, 5), (⟨"WindBrides$Tape", "readComparison", "(LWindBrides$Book;)Z"⟩, 5), (⟨"WindBrides", "passMonth", "(I)I"⟩, 15), (⟨"WindBrides$Course", "meetsCalm", "(LWindBrides$Coast;II)V"⟩, 5), (⟨"WindBrides$Course", "freeWindFor", "(LWindBrides$Coast;I)I"⟩, 5)]
theorem lw_r1 : ∀ q ∈ lw_privs_1, lw_okq q := List.forall_mem_cons.mpr ⟨lw_p0, List.forall_mem_cons.mpr ⟨lw_p1, List.forall_mem_cons.mpr ⟨lw_p2, List.forall_mem_cons.mpr ⟨lw_p3, List.forall_mem_cons.mpr ⟨lw_p4, List.forall_mem_cons.mpr ⟨lw_p5, List.forall_mem_cons.mpr ⟨lw_p6, List.forall_mem_cons.mpr ⟨lw_p7, List.forall_mem_cons.mpr ⟨lw_p8, List.forall_mem_cons.mpr ⟨lw_p9, List.forall_mem_cons.mpr ⟨lw_p10, List.forall_mem_cons.mpr ⟨lw_p11, List.forall_mem_cons.mpr ⟨lw_p12, List.forall_mem_cons.mpr ⟨lw_p13, List.forall_mem_cons.mpr ⟨lw_p14, List.forall_mem_cons.mpr ⟨lw_p15, fun _ h => absurd h List.not_mem_nil⟩⟩⟩⟩⟩⟩⟩⟩⟩⟩⟩⟩⟩⟩⟩⟩
theorem lw_p16 : lw_okq (⟨"WindBrides$Course", "windsWithBrides", "(LWindBrides$Coast;)I"⟩, 5) := ⟨⟨by decide +kernel, by decide +kernel⟩, List.mem_of_getElem? (i := 35) (by decide +kernel), List.mem_of_getElem? (i := 568) (by decide +kernel), List.mem_of_getElem? (i := 569) (by decide +kernel)⟩
theorem lw_p17 : lw_okq (⟨"WindBrides$Course", "wearsOut", "(LWindBrides$Coast;I)V"⟩, 5) := ⟨⟨by decide +kernel, by decide +kernel⟩, List.mem_of_getElem? (i := 35) (by decide +kernel), List.mem_of_getElem? (i := 573) (by decide +kernel), List.mem_of_getElem? (i := 574) (by decide +kernel)⟩
theorem lw_p18 : lw_okq (⟨"WindBrides", "trialRest", "()I"⟩, 15) := ⟨⟨by decide +kernel, by decide +kernel⟩, List.mem_of_getElem? (i := 21) (by decide +kernel), List.mem_of_getElem? (i := 598) (by decide +kernel), List.mem_of_getElem? (i := 599) (by decide +kernel)⟩
theorem lw_p19 : lw_okq (⟨"WindBrides$Coast", "girlLikes", "(III)Z"⟩, 17) := ⟨⟨by decide +kernel, by decide +kernel⟩, List.mem_of_getElem? (i := 29) (by decide +kernel), List.mem_of_getElem? (i := 614) (by decide +kernel), List.mem_of_getElem? (i := 615) (by decide +kernel)⟩
theorem lw_p20 : lw_okq (⟨"WindBrides$Coast", "heldMonth", "()I"⟩, 17) := ⟨⟨by decide +kernel, by decide +kernel⟩, List.mem_of_getElem? (i := 29) (by decide +kernel), List.mem_of_getElem? (i := 618) (by decide +kernel), List.mem_of_getElem? (i := 619) (by decide +kernel)⟩
theorem lw_p21 : lw_okq (⟨"WindBrides$Coast", "windLikes", "(III)Z"⟩, 17) := ⟨⟨by decide +kernel, by decide +kernel⟩, List.mem_of_getElem? (i := 29) (by decide +kernel), List.mem_of_getElem? (i := 623) (by decide +kernel), List.mem_of_getElem? (i := 624) (by decide +kernel)⟩
theorem lw_p22 : lw_okq (⟨"WindBrides$Coast", "nextLiked", "(II)I"⟩, 17) := ⟨⟨by decide +kernel, by decide +kernel⟩, List.mem_of_getElem? (i := 29) (by decide +kernel), List.mem_of_getElem? (i := 639) (by decide +kernel), List.mem_of_getElem? (i := 640) (by decide +kernel)⟩
theorem lw_p23 : lw_okq (⟨"WindBrides$Coast", "refusedGirl", "()I"⟩, 17) := ⟨⟨by decide +kernel, by decide +kernel⟩, List.mem_of_getElem? (i := 29) (by decide +kernel), List.mem_of_getElem? (i := 643) (by decide +kernel), List.mem_of_getElem? (i := 644) (by decide +kernel)⟩
theorem lw_p24 : lw_okq (⟨"WindBrides$Coast", "envied", "(I)I"⟩, 17) := ⟨⟨by decide +kernel, by decide +kernel⟩, List.mem_of_getElem? (i := 29) (by decide +kernel), List.mem_of_getElem? (i := 655) (by decide +kernel), List.mem_of_getElem? (i := 656) (by decide +kernel)⟩
theorem lw_p25 : lw_okq (⟨"WindBrides$Plans", "begin", "(LWindBrides$Coast;I)V"⟩, 13) := ⟨⟨by decide +kernel, by decide +kernel⟩, List.mem_of_getElem? (i := 195) (by decide +kernel), List.mem_of_getElem? (i := 670) (by decide +kernel), List.mem_of_getElem? (i := 671) (by decide +kernel)⟩
theorem lw_p26 : lw_okq (⟨"WindBrides$Plans", "tryActs", "(III)V"⟩, 13) := ⟨⟨by decide +kernel, by decide +kernel⟩, List.mem_of_getElem? (i := 195) (by decide +kernel), List.mem_of_getElem? (i := 675) (by decide +kernel), List.mem_of_getElem? (i := 676) (by decide +kernel)⟩
theorem lw_p27 : lw_okq (⟨"WindBrides$Plans", "weigh", "(II)V"⟩, 13) := ⟨⟨by decide +kernel, by decide +kernel⟩, List.mem_of_getElem? (i := 195) (by decide +kernel), List.mem_of_getElem? (i := 679) (by decide +kernel), List.mem_of_getElem? (i := 680) (by decide +kernel)⟩
theorem lw_p28 : lw_okq (⟨"WindBrides", "isSetOfGirls", "(I)Z"⟩, 15) := ⟨⟨by decide +kernel, by decide +kernel⟩, List.mem_of_getElem? (i := 21) (by decide +kernel), List.mem_of_getElem? (i := 701) (by decide +kernel), List.mem_of_getElem? (i := 702) (by decide +kernel)⟩
theorem lw_p29 : lw_okq (⟨"WindBrides$Plans", "gameValue", "(I)I"⟩, 13) := ⟨⟨by decide +kernel, by decide +kernel⟩, List.mem_of_getElem? (i := 195) (by decide +kernel), List.mem_of_getElem? (i := 721) (by decide +kernel), List.mem_of_getElem? (i := 722) (by decide +kernel)⟩
theorem lw_p30 : lw_okq (⟨"WindBrides", "hasItem", "(II)Z"⟩, 15) := ⟨⟨by decide +kernel, by decide +kernel⟩, List.mem_of_getElem? (i := 21) (by decide +kernel), List.mem_of_getElem? (i := 819) (by decide +kernel), List.mem_of_getElem? (i := 820) (by decide +kernel)⟩
theorem lw_p31 : lw_okq (⟨"WindBrides", "refusalAs", "(II)I"⟩, 15) := ⟨⟨by decide +kernel, by decide +kernel⟩, List.mem_of_getElem? (i := 21) (by decide +kernel), List.mem_of_getElem? (i := 830) (by decide +kernel), List.mem_of_getElem? (i := 831) (by decide +kernel)⟩
def lw_privs_2 : List (MethodName × Nat) := [(⟨"WindBrides$Course", "windsWithBrides", "(LWindBrides$Coast;)I"⟩, 5), (⟨"WindBrides$Course", "wearsOut", "(LWindBrides$Coast;I)V"⟩, 5), (⟨"WindBrides", "trialRest", "()I"⟩, 15), (⟨"WindBrides$Coast", "girlLikes", "(III)Z"⟩, 17), (⟨"WindBrides$Coast", "heldMonth", "()I"⟩, 17), (⟨"WindBrides$Coast", "windLikes", "(III)Z"⟩, 17), (⟨"WindBrides$Coast", "nextLiked", "(II)I"⟩, 17), (⟨"WindBrides$Coast", "refusedGirl", "()I"⟩, 17), (⟨"WindBrides$Coast", "envied", "(I)I"⟩, 17), (⟨"WindBrides$Plans", "begin", "(LWindBrides$Coast;I)V"⟩, 13), (⟨"WindBrides$Plans", "tryActs", "(III)V"⟩, 13), (⟨"WindBrides$Plans", "weigh", "(II)V"⟩, 13), (⟨"WindBrides", "isSetOfGirls", "(I)Z"⟩, 15), (⟨"WindBrides$Plans", "gameValue", "(I)I"⟩, 13), (⟨"WindBrides", "hasItem", "(II)Z"⟩, 15), (⟨"WindBrides", "refusalAs", "(II)I"⟩, 15)]
theorem lw_r2 : ∀ q ∈ lw_privs_2, lw_okq q := List.forall_mem_cons.mpr ⟨lw_p16, List.forall_mem_cons.mpr ⟨lw_p17, List.forall_mem_cons.mpr ⟨lw_p18, List.forall_mem_cons.mpr ⟨lw_p19, List.forall_mem_cons.mpr ⟨lw_p20, List.forall_mem_cons.mpr ⟨lw_p21, List.forall_mem_cons.mpr ⟨lw_p22, List.forall_mem_cons.mpr ⟨lw_p23, List.forall_mem_cons.mpr ⟨lw_p24, List.forall_mem_cons.mpr ⟨lw_p25, List.forall_mem_cons.mpr ⟨lw_p26, List.forall_mem_cons.mpr ⟨lw_p27, List.forall_mem_cons.mpr ⟨lw_p28, List.forall_mem_cons.mpr ⟨lw_p29, List.forall_mem_cons.mpr ⟨lw_p30, List.forall_mem_cons.mpr ⟨lw_p31, fun _ h => absurd h List.not_mem_nil⟩⟩⟩⟩⟩⟩⟩⟩⟩⟩⟩⟩⟩⟩⟩⟩
theorem lw_p32 : lw_okq (⟨"WindBrides", "putRow", "(II)V"⟩, 15) := ⟨⟨by decide +kernel, by decide +kernel⟩, List.mem_of_getElem? (i := 21) (by decide +kernel), List.mem_of_getElem? (i := 850) (by decide +kernel), List.mem_of_getElem? (i := 851) (by decide +kernel)⟩
theorem lw_p33 : lw_okq (⟨"WindBrides", "heldOn", "(I)I"⟩, 15) := ⟨⟨by decide +kernel, by decide +kernel⟩, List.mem_of_getElem? (i := 21) (by decide +kernel), List.mem_of_getElem? (i := 858) (by decide +kernel), List.mem_of_getElem? (i := 859) (by decide +kernel)⟩
theorem lw_p34 : lw_okq (⟨"WindBrides", "thingOf", "(I)LWindBrides$Girl;"⟩, 15) := ⟨⟨by decide +kernel, by decide +kernel⟩, List.mem_of_getElem? (i := 21) (by decide +kernel), List.mem_of_getElem? (i := 867) (by decide +kernel), List.mem_of_getElem? (i := 868) (by decide +kernel)⟩
theorem lw_p35 : lw_okq (⟨"WindBridesModel", "put", "(III)V"⟩, 34) := ⟨⟨by decide +kernel, by decide +kernel⟩, List.mem_of_getElem? (i := 1089) (by decide +kernel), List.mem_of_getElem? (i := 1207) (by decide +kernel), List.mem_of_getElem? (i := 1208) (by decide +kernel)⟩
theorem lw_p36 : lw_okq (⟨"WindBridesModel", "isGirl", "(I)Z"⟩, 34) := ⟨⟨by decide +kernel, by decide +kernel⟩, List.mem_of_getElem? (i := 1089) (by decide +kernel), List.mem_of_getElem? (i := 1215) (by decide +kernel), List.mem_of_getElem? (i := 1216) (by decide +kernel)⟩
theorem lw_p37 : lw_okq (⟨"WindBridesModel", "does", "(I)I"⟩, 34) := ⟨⟨by decide +kernel, by decide +kernel⟩, List.mem_of_getElem? (i := 1089) (by decide +kernel), List.mem_of_getElem? (i := 1219) (by decide +kernel), List.mem_of_getElem? (i := 1220) (by decide +kernel)⟩
theorem lw_p38 : lw_okq (⟨"WindBridesModel", "of", "(II)I"⟩, 34) := ⟨⟨by decide +kernel, by decide +kernel⟩, List.mem_of_getElem? (i := 1089) (by decide +kernel), List.mem_of_getElem? (i := 1223) (by decide +kernel), List.mem_of_getElem? (i := 1224) (by decide +kernel)⟩
theorem lw_p39 : lw_okq (⟨"WindBridesModel", "isHolding", "(II)Z"⟩, 34) := ⟨⟨by decide +kernel, by decide +kernel⟩, List.mem_of_getElem? (i := 1089) (by decide +kernel), List.mem_of_getElem? (i := 1230) (by decide +kernel), List.mem_of_getElem? (i := 1231) (by decide +kernel)⟩
theorem lw_p40 : lw_okq (⟨"WindBridesModel", "factOf", "(II)I"⟩, 34) := ⟨⟨by decide +kernel, by decide +kernel⟩, List.mem_of_getElem? (i := 1089) (by decide +kernel), List.mem_of_getElem? (i := 1234) (by decide +kernel), List.mem_of_getElem? (i := 1235) (by decide +kernel)⟩
theorem lw_p41 : lw_okq (⟨"WindBridesModel", "becomes", "(II)I"⟩, 34) := ⟨⟨by decide +kernel, by decide +kernel⟩, List.mem_of_getElem? (i := 1089) (by decide +kernel), List.mem_of_getElem? (i := 1248) (by decide +kernel), List.mem_of_getElem? (i := 1249) (by decide +kernel)⟩
theorem lw_p42 : lw_okq (⟨"WindBridesModel", "isWind", "(I)Z"⟩, 34) := ⟨⟨by decide +kernel, by decide +kernel⟩, List.mem_of_getElem? (i := 1089) (by decide +kernel), List.mem_of_getElem? (i := 1264) (by decide +kernel), List.mem_of_getElem? (i := 1265) (by decide +kernel)⟩
theorem lw_p43 : lw_okq (⟨"WindBridesModel", "blowing", "(II)I"⟩, 34) := ⟨⟨by decide +kernel, by decide +kernel⟩, List.mem_of_getElem? (i := 1089) (by decide +kernel), List.mem_of_getElem? (i := 1268) (by decide +kernel), List.mem_of_getElem? (i := 1269) (by decide +kernel)⟩
theorem lw_p44 : lw_okq (⟨"WindBridesModel", "promisedTo", "(I)I"⟩, 34) := ⟨⟨by decide +kernel, by decide +kernel⟩, List.mem_of_getElem? (i := 1089) (by decide +kernel), List.mem_of_getElem? (i := 1272) (by decide +kernel), List.mem_of_getElem? (i := 1273) (by decide +kernel)⟩
theorem lw_p45 : lw_okq (⟨"WindBridesModel", "blows", "(II)Z"⟩, 34) := ⟨⟨by decide +kernel, by decide +kernel⟩, List.mem_of_getElem? (i := 1089) (by decide +kernel), List.mem_of_getElem? (i := 1276) (by decide +kernel), List.mem_of_getElem? (i := 1277) (by decide +kernel)⟩
theorem lw_p46 : lw_okq (⟨"WindBridesModel", "gets", "(II)V"⟩, 34) := ⟨⟨by decide +kernel, by decide +kernel⟩, List.mem_of_getElem? (i := 1089) (by decide +kernel), List.mem_of_getElem? (i := 1284) (by decide +kernel), List.mem_of_getElem? (i := 1285) (by decide +kernel)⟩
theorem lw_p47 : lw_okq (⟨"WindBridesModel", "gainOf", "(III)I"⟩, 34) := ⟨⟨by decide +kernel, by decide +kernel⟩, List.mem_of_getElem? (i := 1089) (by decide +kernel), List.mem_of_getElem? (i := 1292) (by decide +kernel), List.mem_of_getElem? (i := 1293) (by decide +kernel)⟩
def lw_privs_3 : List (MethodName × Nat) := [(⟨"WindBrides", "putRow", "(II)V"⟩, 15), (⟨"WindBrides", "heldOn", "(I)I"⟩, 15), (⟨"WindBrides", "thingOf", "(I)LWindBrides$Girl;"⟩, 15), (⟨"WindBridesModel", "put", "(III)V"⟩, 34), (⟨"WindBridesModel", "isGirl", "(I)Z"⟩, 34), (⟨"WindBridesModel", "does", "(I)I"⟩, 34), (⟨"WindBridesModel", "of", "(II)I"⟩, 34), (⟨"WindBridesModel", "isHolding", "(II)Z"⟩, 34), (⟨"WindBridesModel", "factOf", "(II)I"⟩, 34), (⟨"WindBridesModel", "becomes", "(II)I"⟩, 34), (⟨"WindBridesModel", "isWind", "(I)Z"⟩, 34), (⟨"WindBridesModel", "blowing", "(II)I"⟩, 34), (⟨"WindBridesModel", "promisedTo", "(I)I"⟩, 34), (⟨"WindBridesModel", "blows", "(II)Z"⟩, 34), (⟨"WindBridesModel", "gets", "(II)V"⟩, 34), (⟨"WindBridesModel", "gainOf", "(III)I"⟩, 34)]
theorem lw_r3 : ∀ q ∈ lw_privs_3, lw_okq q := List.forall_mem_cons.mpr ⟨lw_p32, List.forall_mem_cons.mpr ⟨lw_p33, List.forall_mem_cons.mpr ⟨lw_p34, List.forall_mem_cons.mpr ⟨lw_p35, List.forall_mem_cons.mpr ⟨lw_p36, List.forall_mem_cons.mpr ⟨lw_p37, List.forall_mem_cons.mpr ⟨lw_p38, List.forall_mem_cons.mpr ⟨lw_p39, List.forall_mem_cons.mpr ⟨lw_p40, List.forall_mem_cons.mpr ⟨lw_p41, List.forall_mem_cons.mpr ⟨lw_p42, List.forall_mem_cons.mpr ⟨lw_p43, List.forall_mem_cons.mpr ⟨lw_p44, List.forall_mem_cons.mpr ⟨lw_p45, List.forall_mem_cons.mpr ⟨lw_p46, List.forall_mem_cons.mpr ⟨lw_p47, fun _ h => absurd h List.not_mem_nil⟩⟩⟩⟩⟩⟩⟩⟩⟩⟩⟩⟩⟩⟩⟩⟩
theorem lw_p48 : lw_okq (⟨"WindBridesModel", "turnOf", "(II)I"⟩, 34) := ⟨⟨by decide +kernel, by decide +kernel⟩, List.mem_of_getElem? (i := 1089) (by decide +kernel), List.mem_of_getElem? (i := 1296) (by decide +kernel), List.mem_of_getElem? (i := 1297) (by decide +kernel)⟩
theorem lw_p49 : lw_okq (⟨"WindBridesModel", "isOver", "()Z"⟩, 34) := ⟨⟨by decide +kernel, by decide +kernel⟩, List.mem_of_getElem? (i := 1089) (by decide +kernel), List.mem_of_getElem? (i := 1318) (by decide +kernel), List.mem_of_getElem? (i := 1319) (by decide +kernel)⟩
theorem lw_p50 : lw_okq (⟨"WindBridesModel", "thinks", "()V"⟩, 34) := ⟨⟨by decide +kernel, by decide +kernel⟩, List.mem_of_getElem? (i := 1089) (by decide +kernel), List.mem_of_getElem? (i := 1331) (by decide +kernel), List.mem_of_getElem? (i := 1332) (by decide +kernel)⟩
theorem lw_p51 : lw_okq (⟨"WindBridesModel", "reads", "()V"⟩, 34) := ⟨⟨by decide +kernel, by decide +kernel⟩, List.mem_of_getElem? (i := 1089) (by decide +kernel), List.mem_of_getElem? (i := 1338) (by decide +kernel), List.mem_of_getElem? (i := 1339) (by decide +kernel)⟩
theorem lw_p52 : lw_okq (⟨"WindBridesModel", "isByte", "(III)Z"⟩, 34) := ⟨⟨by decide +kernel, by decide +kernel⟩, List.mem_of_getElem? (i := 1089) (by decide +kernel), List.mem_of_getElem? (i := 1342) (by decide +kernel), List.mem_of_getElem? (i := 1343) (by decide +kernel)⟩
theorem lw_p53 : lw_okq (⟨"WindBridesModel", "wordHere", "()I"⟩, 34) := ⟨⟨by decide +kernel, by decide +kernel⟩, List.mem_of_getElem? (i := 1089) (by decide +kernel), List.mem_of_getElem? (i := 1346) (by decide +kernel), List.mem_of_getElem? (i := 1347) (by decide +kernel)⟩
theorem lw_p54 : lw_okq (⟨"WindBridesModel", "isName", "(II)Z"⟩, 34) := ⟨⟨by decide +kernel, by decide +kernel⟩, List.mem_of_getElem? (i := 1089) (by decide +kernel), List.mem_of_getElem? (i := 1350) (by decide +kernel), List.mem_of_getElem? (i := 1351) (by decide +kernel)⟩
theorem lw_p55 : lw_okq (⟨"WindBridesModel", "ruleHere", "()V"⟩, 34) := ⟨⟨by decide +kernel, by decide +kernel⟩, List.mem_of_getElem? (i := 1089) (by decide +kernel), List.mem_of_getElem? (i := 1359) (by decide +kernel), List.mem_of_getElem? (i := 1360) (by decide +kernel)⟩
theorem lw_p56 : lw_okq (⟨"WindBridesModel", "passes", "(I)Z"⟩, 34) := ⟨⟨by decide +kernel, by decide +kernel⟩, List.mem_of_getElem? (i := 1089) (by decide +kernel), List.mem_of_getElem? (i := 1363) (by decide +kernel), List.mem_of_getElem? (i := 1364) (by decide +kernel)⟩
theorem lw_p57 : lw_okq (⟨"WindBridesModel", "condition", "()V"⟩, 34) := ⟨⟨by decide +kernel, by decide +kernel⟩, List.mem_of_getElem? (i := 1089) (by decide +kernel), List.mem_of_getElem? (i := 1367) (by decide +kernel), List.mem_of_getElem? (i := 1368) (by decide +kernel)⟩
theorem lw_p58 : lw_okq (⟨"WindBridesModel", "all", "()V"⟩, 34) := ⟨⟨by decide +kernel, by decide +kernel⟩, List.mem_of_getElem? (i := 1089) (by decide +kernel), List.mem_of_getElem? (i := 1371) (by decide +kernel), List.mem_of_getElem? (i := 1372) (by decide +kernel)⟩
theorem lw_p59 : lw_okq (⟨"WindBridesModel", "one", "()V"⟩, 34) := ⟨⟨by decide +kernel, by decide +kernel⟩, List.mem_of_getElem? (i := 1089) (by decide +kernel), List.mem_of_getElem? (i := 1375) (by decide +kernel), List.mem_of_getElem? (i := 1376) (by decide +kernel)⟩
theorem lw_p60 : lw_okq (⟨"WindBridesModel", "side", "()I"⟩, 34) := ⟨⟨by decide +kernel, by decide +kernel⟩, List.mem_of_getElem? (i := 1089) (by decide +kernel), List.mem_of_getElem? (i := 1379) (by decide +kernel), List.mem_of_getElem? (i := 1380) (by decide +kernel)⟩
theorem lw_p61 : lw_okq (⟨"WindBridesModel", "step", "(I)V"⟩, 34) := ⟨⟨by decide +kernel, by decide +kernel⟩, List.mem_of_getElem? (i := 1089) (by decide +kernel), List.mem_of_getElem? (i := 1383) (by decide +kernel), List.mem_of_getElem? (i := 1384) (by decide +kernel)⟩
theorem lw_p62 : lw_okq (⟨"WindBridesModel", "putsBack", "()V"⟩, 34) := ⟨⟨by decide +kernel, by decide +kernel⟩, List.mem_of_getElem? (i := 1089) (by decide +kernel), List.mem_of_getElem? (i := 1387) (by decide +kernel), List.mem_of_getElem? (i := 1388) (by decide +kernel)⟩
theorem lw_p63 : lw_okq (⟨"WindBridesModel", "goes", "(I)I"⟩, 34) := ⟨⟨by decide +kernel, by decide +kernel⟩, List.mem_of_getElem? (i := 1089) (by decide +kernel), List.mem_of_getElem? (i := 1395) (by decide +kernel), List.mem_of_getElem? (i := 1396) (by decide +kernel)⟩
def lw_privs_4 : List (MethodName × Nat) := [(⟨"WindBridesModel", "turnOf", "(II)I"⟩, 34), (⟨"WindBridesModel", "isOver", "()Z"⟩, 34), (⟨"WindBridesModel", "thinks", "()V"⟩, 34), (⟨"WindBridesModel", "reads", "()V"⟩, 34), (⟨"WindBridesModel", "isByte", "(III)Z"⟩, 34), (⟨"WindBridesModel", "wordHere", "()I"⟩, 34), (⟨"WindBridesModel", "isName", "(II)Z"⟩, 34), (⟨"WindBridesModel", "ruleHere", "()V"⟩, 34), (⟨"WindBridesModel", "passes", "(I)Z"⟩, 34), (⟨"WindBridesModel", "condition", "()V"⟩, 34), (⟨"WindBridesModel", "all", "()V"⟩, 34), (⟨"WindBridesModel", "one", "()V"⟩, 34), (⟨"WindBridesModel", "side", "()I"⟩, 34), (⟨"WindBridesModel", "step", "(I)V"⟩, 34), (⟨"WindBridesModel", "putsBack", "()V"⟩, 34), (⟨"WindBridesModel", "goes", "(I)I"⟩, 34)]
theorem lw_r4 : ∀ q ∈ lw_privs_4, lw_okq q := List.forall_mem_cons.mpr ⟨lw_p48, List.forall_mem_cons.mpr ⟨lw_p49, List.forall_mem_cons.mpr ⟨lw_p50, List.forall_mem_cons.mpr ⟨lw_p51, List.forall_mem_cons.mpr ⟨lw_p52, List.forall_mem_cons.mpr ⟨lw_p53, List.forall_mem_cons.mpr ⟨lw_p54, List.forall_mem_cons.mpr ⟨lw_p55, List.forall_mem_cons.mpr ⟨lw_p56, List.forall_mem_cons.mpr ⟨lw_p57, List.forall_mem_cons.mpr ⟨lw_p58, List.forall_mem_cons.mpr ⟨lw_p59, List.forall_mem_cons.mpr ⟨lw_p60, List.forall_mem_cons.mpr ⟨lw_p61, List.forall_mem_cons.mpr ⟨lw_p62, List.forall_mem_cons.mpr ⟨lw_p63, fun _ h => absurd h List.not_mem_nil⟩⟩⟩⟩⟩⟩⟩⟩⟩⟩⟩⟩⟩⟩⟩⟩
theorem lw_p64 : lw_okq (⟨"WindBridesModel", "isCalmFor", "(I)Z"⟩, 34) := ⟨⟨by decide +kernel, by decide +kernel⟩, List.mem_of_getElem? (i := 1089) (by decide +kernel), List.mem_of_getElem? (i := 1399) (by decide +kernel), List.mem_of_getElem? (i := 1400) (by decide +kernel)⟩
theorem lw_p65 : lw_okq (⟨"WindBridesModel", "acts", "(I)V"⟩, 34) := ⟨⟨by decide +kernel, by decide +kernel⟩, List.mem_of_getElem? (i := 1089) (by decide +kernel), List.mem_of_getElem? (i := 1403) (by decide +kernel), List.mem_of_getElem? (i := 1404) (by decide +kernel)⟩
theorem lw_p66 : lw_okq (⟨"WindBridesModel", "turns", "(I)V"⟩, 34) := ⟨⟨by decide +kernel, by decide +kernel⟩, List.mem_of_getElem? (i := 1089) (by decide +kernel), List.mem_of_getElem? (i := 1407) (by decide +kernel), List.mem_of_getElem? (i := 1408) (by decide +kernel)⟩
theorem lw_p67 : lw_okq (⟨"WindBridesModel", "restOf", "(I)I"⟩, 34) := ⟨⟨by decide +kernel, by decide +kernel⟩, List.mem_of_getElem? (i := 1089) (by decide +kernel), List.mem_of_getElem? (i := 1415) (by decide +kernel), List.mem_of_getElem? (i := 1416) (by decide +kernel)⟩
theorem lw_p68 : lw_okq (⟨"WindBridesModel", "wouldLeave", "(II)Z"⟩, 34) := ⟨⟨by decide +kernel, by decide +kernel⟩, List.mem_of_getElem? (i := 1089) (by decide +kernel), List.mem_of_getElem? (i := 1439) (by decide +kernel), List.mem_of_getElem? (i := 1440) (by decide +kernel)⟩
theorem lw_p69 : lw_okq (⟨"WindBridesModel", "likes", "(III)Z"⟩, 34) := ⟨⟨by decide +kernel, by decide +kernel⟩, List.mem_of_getElem? (i := 1089) (by decide +kernel), List.mem_of_getElem? (i := 1443) (by decide +kernel), List.mem_of_getElem? (i := 1444) (by decide +kernel)⟩
theorem lw_p70 : lw_okq (⟨"WindBridesModel", "monthNow", "()I"⟩, 34) := ⟨⟨by decide +kernel, by decide +kernel⟩, List.mem_of_getElem? (i := 1089) (by decide +kernel), List.mem_of_getElem? (i := 1447) (by decide +kernel), List.mem_of_getElem? (i := 1448) (by decide +kernel)⟩
theorem lw_p71 : lw_okq (⟨"WindBridesModel", "isLiked", "(III)Z"⟩, 34) := ⟨⟨by decide +kernel, by decide +kernel⟩, List.mem_of_getElem? (i := 1089) (by decide +kernel), List.mem_of_getElem? (i := 1451) (by decide +kernel), List.mem_of_getElem? (i := 1452) (by decide +kernel)⟩
theorem lw_p72 : lw_okq (⟨"WindBridesModel", "asks", "()Z"⟩, 34) := ⟨⟨by decide +kernel, by decide +kernel⟩, List.mem_of_getElem? (i := 1089) (by decide +kernel), List.mem_of_getElem? (i := 1463) (by decide +kernel), List.mem_of_getElem? (i := 1464) (by decide +kernel)⟩
theorem lw_p73 : lw_okq (⟨"WindBridesModel", "nextFor", "(I)I"⟩, 34) := ⟨⟨by decide +kernel, by decide +kernel⟩, List.mem_of_getElem? (i := 1089) (by decide +kernel), List.mem_of_getElem? (i := 1467) (by decide +kernel), List.mem_of_getElem? (i := 1468) (by decide +kernel)⟩
theorem lw_p74 : lw_okq (⟨"WindBridesModel", "wouldSwap", "(II)Z"⟩, 34) := ⟨⟨by decide +kernel, by decide +kernel⟩, List.mem_of_getElem? (i := 1089) (by decide +kernel), List.mem_of_getElem? (i := 1475) (by decide +kernel), List.mem_of_getElem? (i := 1476) (by decide +kernel)⟩
theorem lw_p75 : lw_okq (⟨"WindBridesModel", "findBest", "(I)V"⟩, 34) := ⟨⟨by decide +kernel, by decide +kernel⟩, List.mem_of_getElem? (i := 1089) (by decide +kernel), List.mem_of_getElem? (i := 1483) (by decide +kernel), List.mem_of_getElem? (i := 1484) (by decide +kernel)⟩
theorem lw_p76 : lw_okq (⟨"WindBridesModel", "monthsOf", "(I)I"⟩, 34) := ⟨⟨by decide +kernel, by decide +kernel⟩, List.mem_of_getElem? (i := 1089) (by decide +kernel), List.mem_of_getElem? (i := 1487) (by decide +kernel), List.mem_of_getElem? (i := 1488) (by decide +kernel)⟩
theorem lw_p77 : lw_okq (⟨"WindBridesModel", "plansOf", "(I)I"⟩, 34) := ⟨⟨by decide +kernel, by decide +kernel⟩, List.mem_of_getElem? (i := 1089) (by decide +kernel), List.mem_of_getElem? (i := 1491) (by decide +kernel), List.mem_of_getElem? (i := 1492) (by decide +kernel)⟩
theorem lw_p78 : lw_okq (⟨"WindBridesModel", "worthOf", "(II)I"⟩, 34) := ⟨⟨by decide +kernel, by decide +kernel⟩, List.mem_of_getElem? (i := 1089) (by decide +kernel), List.mem_of_getElem? (i := 1495) (by decide +kernel), List.mem_of_getElem? (i := 1496) (by decide +kernel)⟩
theorem lw_p79 : lw_okq (⟨"WindBridesModel", "promised", "()I"⟩, 34) := ⟨⟨by decide +kernel, by decide +kernel⟩, List.mem_of_getElem? (i := 1089) (by decide +kernel), List.mem_of_getElem? (i := 1502) (by decide +kernel), List.mem_of_getElem? (i := 1503) (by decide +kernel)⟩
def lw_privs_5 : List (MethodName × Nat) := [(⟨"WindBridesModel", "isCalmFor", "(I)Z"⟩, 34), (⟨"WindBridesModel", "acts", "(I)V"⟩, 34), (⟨"WindBridesModel", "turns", "(I)V"⟩, 34), (⟨"WindBridesModel", "restOf", "(I)I"⟩, 34), (⟨"WindBridesModel", "wouldLeave", "(II)Z"⟩, 34), (⟨"WindBridesModel", "likes", "(III)Z"⟩, 34), (⟨"WindBridesModel", "monthNow", "()I"⟩, 34), (⟨"WindBridesModel", "isLiked", "(III)Z"⟩, 34), (⟨"WindBridesModel", "asks", "()Z"⟩, 34), (⟨"WindBridesModel", "nextFor", "(I)I"⟩, 34), (⟨"WindBridesModel", "wouldSwap", "(II)Z"⟩, 34), (⟨"WindBridesModel", "findBest", "(I)V"⟩, 34), (⟨"WindBridesModel", "monthsOf", "(I)I"⟩, 34), (⟨"WindBridesModel", "plansOf", "(I)I"⟩, 34), (⟨"WindBridesModel", "worthOf", "(II)I"⟩, 34), (⟨"WindBridesModel", "promised", "()I"⟩, 34)]
theorem lw_r5 : ∀ q ∈ lw_privs_5, lw_okq q := List.forall_mem_cons.mpr ⟨lw_p64, List.forall_mem_cons.mpr ⟨lw_p65, List.forall_mem_cons.mpr ⟨lw_p66, List.forall_mem_cons.mpr ⟨lw_p67, List.forall_mem_cons.mpr ⟨lw_p68, List.forall_mem_cons.mpr ⟨lw_p69, List.forall_mem_cons.mpr ⟨lw_p70, List.forall_mem_cons.mpr ⟨lw_p71, List.forall_mem_cons.mpr ⟨lw_p72, List.forall_mem_cons.mpr ⟨lw_p73, List.forall_mem_cons.mpr ⟨lw_p74, List.forall_mem_cons.mpr ⟨lw_p75, List.forall_mem_cons.mpr ⟨lw_p76, List.forall_mem_cons.mpr ⟨lw_p77, List.forall_mem_cons.mpr ⟨lw_p78, List.forall_mem_cons.mpr ⟨lw_p79, fun _ h => absurd h List.not_mem_nil⟩⟩⟩⟩⟩⟩⟩⟩⟩⟩⟩⟩⟩⟩⟩⟩
theorem lw_p80 : lw_okq (⟨"WindBridesModel", "isSet", "(I)Z"⟩, 34) := ⟨⟨by decide +kernel, by decide +kernel⟩, List.mem_of_getElem? (i := 1089) (by decide +kernel), List.mem_of_getElem? (i := 1518) (by decide +kernel), List.mem_of_getElem? (i := 1519) (by decide +kernel)⟩
theorem lw_p81 : lw_okq (⟨"WindBridesModel", "actsIn", "(II)I"⟩, 34) := ⟨⟨by decide +kernel, by decide +kernel⟩, List.mem_of_getElem? (i := 1089) (by decide +kernel), List.mem_of_getElem? (i := 1522) (by decide +kernel), List.mem_of_getElem? (i := 1523) (by decide +kernel)⟩
theorem lw_p82 : lw_okq (⟨"WindBridesModel", "gameOn", "(IZ)I"⟩, 34) := ⟨⟨by decide +kernel, by decide +kernel⟩, List.mem_of_getElem? (i := 1089) (by decide +kernel), List.mem_of_getElem? (i := 1534) (by decide +kernel), List.mem_of_getElem? (i := 1535) (by decide +kernel)⟩
theorem lw_p83 : lw_okq (⟨"WindBridesModel", "strange", "(I)I"⟩, 34) := ⟨⟨by decide +kernel, by decide +kernel⟩, List.mem_of_getElem? (i := 1089) (by decide +kernel), List.mem_of_getElem? (i := 1554) (by decide +kernel), List.mem_of_getElem? (i := 1555) (by decide +kernel)⟩
theorem lw_p84 : lw_okq (⟨"WindBridesModel", "fits", "(III)Z"⟩, 34) := ⟨⟨by decide +kernel, by decide +kernel⟩, List.mem_of_getElem? (i := 1089) (by decide +kernel), List.mem_of_getElem? (i := 1558) (by decide +kernel), List.mem_of_getElem? (i := 1559) (by decide +kernel)⟩
theorem lw_p85 : lw_okq (⟨"WindBridesModel", "byLot", "()I"⟩, 34) := ⟨⟨by decide +kernel, by decide +kernel⟩, List.mem_of_getElem? (i := 1089) (by decide +kernel), List.mem_of_getElem? (i := 1574) (by decide +kernel), List.mem_of_getElem? (i := 1575) (by decide +kernel)⟩
theorem lw_p86 : lw_okq (⟨"WindBridesModel", "isRow", "(II)Z"⟩, 34) := ⟨⟨by decide +kernel, by decide +kernel⟩, List.mem_of_getElem? (i := 1089) (by decide +kernel), List.mem_of_getElem? (i := 1591) (by decide +kernel), List.mem_of_getElem? (i := 1592) (by decide +kernel)⟩
theorem lw_p87 : lw_okq (⟨"WindBridesModel", "notActs", "(II)I"⟩, 34) := ⟨⟨by decide +kernel, by decide +kernel⟩, List.mem_of_getElem? (i := 1089) (by decide +kernel), List.mem_of_getElem? (i := 1622) (by decide +kernel), List.mem_of_getElem? (i := 1623) (by decide +kernel)⟩
theorem lw_p88 : lw_okq (⟨"WindBridesModel", "isPlace", "(IJ)Z"⟩, 34) := ⟨⟨by decide +kernel, by decide +kernel⟩, List.mem_of_getElem? (i := 1089) (by decide +kernel), List.mem_of_getElem? (i := 1626) (by decide +kernel), List.mem_of_getElem? (i := 1627) (by decide +kernel)⟩
theorem lw_p89 : lw_okq (⟨"WindBridesModel", "hasGirl", "(I)Z"⟩, 34) := ⟨⟨by decide +kernel, by decide +kernel⟩, List.mem_of_getElem? (i := 1089) (by decide +kernel), List.mem_of_getElem? (i := 1642) (by decide +kernel), List.mem_of_getElem? (i := 1643) (by decide +kernel)⟩
theorem lw_p90 : lw_okq (⟨"WindBridesModel", "sails", "(II)I"⟩, 34) := ⟨⟨by decide +kernel, by decide +kernel⟩, List.mem_of_getElem? (i := 1089) (by decide +kernel), List.mem_of_getElem? (i := 1650) (by decide +kernel), List.mem_of_getElem? (i := 1651) (by decide +kernel)⟩
theorem lw_p91 : lw_okq (⟨"WindBridesModel", "begins", "(I)V"⟩, 34) := ⟨⟨by decide +kernel, by decide +kernel⟩, List.mem_of_getElem? (i := 1089) (by decide +kernel), List.mem_of_getElem? (i := 1654) (by decide +kernel), List.mem_of_getElem? (i := 1655) (by decide +kernel)⟩
theorem lw_p92 : lw_okq (⟨"WindBridesModel", "plainSails", "(II)I"⟩, 34) := ⟨⟨by decide +kernel, by decide +kernel⟩, List.mem_of_getElem? (i := 1089) (by decide +kernel), List.mem_of_getElem? (i := 1658) (by decide +kernel), List.mem_of_getElem? (i := 1659) (by decide +kernel)⟩
theorem lw_p93 : lw_okq (⟨"WindBridesModel", "calls", "(II)I"⟩, 34) := ⟨⟨by decide +kernel, by decide +kernel⟩, List.mem_of_getElem? (i := 1089) (by decide +kernel), List.mem_of_getElem? (i := 1662) (by decide +kernel), List.mem_of_getElem? (i := 1663) (by decide +kernel)⟩
theorem lw_p94 : lw_okq (⟨"WindBridesModel", "plainCalls", "(II)I"⟩, 34) := ⟨⟨by decide +kernel, by decide +kernel⟩, List.mem_of_getElem? (i := 1089) (by decide +kernel), List.mem_of_getElem? (i := 1666) (by decide +kernel), List.mem_of_getElem? (i := 1667) (by decide +kernel)⟩
theorem lw_p95 : lw_okq (⟨"WindBridesModel", "shares", "(II)I"⟩, 34) := ⟨⟨by decide +kernel, by decide +kernel⟩, List.mem_of_getElem? (i := 1089) (by decide +kernel), List.mem_of_getElem? (i := 1670) (by decide +kernel), List.mem_of_getElem? (i := 1671) (by decide +kernel)⟩
def lw_privs_6 : List (MethodName × Nat) := [(⟨"WindBridesModel", "isSet", "(I)Z"⟩, 34), (⟨"WindBridesModel", "actsIn", "(II)I"⟩, 34), (⟨"WindBridesModel", "gameOn", "(IZ)I"⟩, 34), (⟨"WindBridesModel", "strange", "(I)I"⟩, 34), (⟨"WindBridesModel", "fits", "(III)Z"⟩, 34), (⟨"WindBridesModel", "byLot", "()I"⟩, 34), (⟨"WindBridesModel", "isRow", "(II)Z"⟩, 34), (⟨"WindBridesModel", "notActs", "(II)I"⟩, 34), (⟨"WindBridesModel", "isPlace", "(IJ)Z"⟩, 34), (⟨"WindBridesModel", "hasGirl", "(I)Z"⟩, 34), (⟨"WindBridesModel", "sails", "(II)I"⟩, 34), (⟨"WindBridesModel", "begins", "(I)V"⟩, 34), (⟨"WindBridesModel", "plainSails", "(II)I"⟩, 34), (⟨"WindBridesModel", "calls", "(II)I"⟩, 34), (⟨"WindBridesModel", "plainCalls", "(II)I"⟩, 34), (⟨"WindBridesModel", "shares", "(II)I"⟩, 34)]
theorem lw_r6 : ∀ q ∈ lw_privs_6, lw_okq q := List.forall_mem_cons.mpr ⟨lw_p80, List.forall_mem_cons.mpr ⟨lw_p81, List.forall_mem_cons.mpr ⟨lw_p82, List.forall_mem_cons.mpr ⟨lw_p83, List.forall_mem_cons.mpr ⟨lw_p84, List.forall_mem_cons.mpr ⟨lw_p85, List.forall_mem_cons.mpr ⟨lw_p86, List.forall_mem_cons.mpr ⟨lw_p87, List.forall_mem_cons.mpr ⟨lw_p88, List.forall_mem_cons.mpr ⟨lw_p89, List.forall_mem_cons.mpr ⟨lw_p90, List.forall_mem_cons.mpr ⟨lw_p91, List.forall_mem_cons.mpr ⟨lw_p92, List.forall_mem_cons.mpr ⟨lw_p93, List.forall_mem_cons.mpr ⟨lw_p94, List.forall_mem_cons.mpr ⟨lw_p95, fun _ h => absurd h List.not_mem_nil⟩⟩⟩⟩⟩⟩⟩⟩⟩⟩⟩⟩⟩⟩⟩⟩
theorem lw_p96 : lw_okq (⟨"WindBridesModel", "lateShares", "(II)I"⟩, 34) := ⟨⟨by decide +kernel, by decide +kernel⟩, List.mem_of_getElem? (i := 1089) (by decide +kernel), List.mem_of_getElem? (i := 1674) (by decide +kernel), List.mem_of_getElem? (i := 1675) (by decide +kernel)⟩
theorem lw_p97 : lw_okq (⟨"WindBridesModel", "plainShares", "(II)I"⟩, 34) := ⟨⟨by decide +kernel, by decide +kernel⟩, List.mem_of_getElem? (i := 1089) (by decide +kernel), List.mem_of_getElem? (i := 1678) (by decide +kernel), List.mem_of_getElem? (i := 1679) (by decide +kernel)⟩
theorem lw_p98 : lw_okq (⟨"WindBridesModel", "weds", "(II)I"⟩, 34) := ⟨⟨by decide +kernel, by decide +kernel⟩, List.mem_of_getElem? (i := 1089) (by decide +kernel), List.mem_of_getElem? (i := 1682) (by decide +kernel), List.mem_of_getElem? (i := 1683) (by decide +kernel)⟩
theorem lw_p99 : lw_okq (⟨"WindBridesModel", "plainWeds", "(II)I"⟩, 34) := ⟨⟨by decide +kernel, by decide +kernel⟩, List.mem_of_getElem? (i := 1089) (by decide +kernel), List.mem_of_getElem? (i := 1686) (by decide +kernel), List.mem_of_getElem? (i := 1687) (by decide +kernel)⟩
def lw_privs_7 : List (MethodName × Nat) := [(⟨"WindBridesModel", "lateShares", "(II)I"⟩, 34), (⟨"WindBridesModel", "plainShares", "(II)I"⟩, 34), (⟨"WindBridesModel", "weds", "(II)I"⟩, 34), (⟨"WindBridesModel", "plainWeds", "(II)I"⟩, 34)]
theorem lw_r7 : ∀ q ∈ lw_privs_7, lw_okq q := List.forall_mem_cons.mpr ⟨lw_p96, List.forall_mem_cons.mpr ⟨lw_p97, List.forall_mem_cons.mpr ⟨lw_p98, List.forall_mem_cons.mpr ⟨lw_p99, fun _ h => absurd h List.not_mem_nil⟩⟩⟩⟩
def lw_privs : List (MethodName × Nat) := lw_privs_1 ++ (lw_privs_2 ++ (lw_privs_3 ++ (lw_privs_4 ++ (lw_privs_5 ++ (lw_privs_6 ++ (lw_privs_7))))))
def lw_tbl : List Cond := k2_sels lw_privs ++ tables_1
theorem lw_privs_ok : ∀ q ∈ lw_privs, lw_okq q := by
  show ∀ q ∈ lw_privs_1 ++ (lw_privs_2 ++ (lw_privs_3 ++ (lw_privs_4 ++ (lw_privs_5 ++ (lw_privs_6 ++ (lw_privs_7)))))), lw_okq q
  exact List.forall_mem_append.mpr ⟨lw_r1, List.forall_mem_append.mpr ⟨lw_r2, List.forall_mem_append.mpr ⟨lw_r3, List.forall_mem_append.mpr ⟨lw_r4, List.forall_mem_append.mpr ⟨lw_r5, List.forall_mem_append.mpr ⟨lw_r6, lw_r7⟩⟩⟩⟩⟩⟩
end
section
def R_Bk : String := "WindBrides$Book"
def F_Bk : u_T := fun k => match k with
  | 0 => ("WindBrides$Book", "count", "I", false)
  | 1 => ("WindBrides$Book", "kinds", "[I", true)
  | 2 => ("WindBrides$Book", "deeds", "[I", true)
  | 3 => ("WindBrides$Book", "begins", "[I", true)
  | 4 => ("WindBrides$Book", "code", "[I", true)
  | _ => ("WindBrides$Book", "size", "I", false)
def t_Bk : Nat → FieldType := fun k => match k with
  | 0 => .int
  | 1 => .array .int
  | 2 => .array .int
  | 3 => .array .int
  | 4 => .array .int
  | _ => .int
theorem n_Bk : ∀ a, a < 6 → ∀ b, b < 6 → a ≠ b → (F_Bk a).2.1 ≠ (F_Bk b).2.1 := by decide +kernel
theorem t_Bk_ok : ∀ k, k < 6 → parseFieldDescriptor (F_Bk k).2.2.1 = some (t_Bk k) := by decide +kernel
def R_Br : String := "WindBrides$Bred"
def F_Br : u_T := fun k => match k with
  | 0 => ("WindBrides$Girl", "n", "I", true)
  | 1 => ("WindBrides$Girl", "a", "I", true)
  | 2 => ("WindBrides$Girl", "traced", "[I", true)
  | 3 => ("WindBrides$Girl", "begun", "I", false)
  | _ => ("WindBrides$Girl", "parted", "Z", false)
def t_Br : Nat → FieldType := fun k => match k with
  | 0 => .int
  | 1 => .int
  | 2 => .array .int
  | 3 => .int
  | _ => .boolean
theorem n_Br : ∀ a, a < 5 → ∀ b, b < 5 → a ≠ b → (F_Br a).2.1 ≠ (F_Br b).2.1 := by decide +kernel
theorem t_Br_ok : ∀ k, k < 5 → parseFieldDescriptor (F_Br k).2.2.1 = some (t_Br k) := by decide +kernel
def R_Ca : String := "WindBrides$Calm"
def F_Ca : u_T := fun k => match k with
  | 0 => ("WindBrides$Girl", "n", "I", true)
  | 1 => ("WindBrides$Girl", "a", "I", true)
  | 2 => ("WindBrides$Girl", "traced", "[I", true)
  | 3 => ("WindBrides$Girl", "begun", "I", false)
  | _ => ("WindBrides$Girl", "parted", "Z", false)
def t_Ca : Nat → FieldType := fun k => match k with
  | 0 => .int
  | 1 => .int
  | 2 => .array .int
  | 3 => .int
  | _ => .boolean
theorem n_Ca : ∀ a, a < 5 → ∀ b, b < 5 → a ≠ b → (F_Ca a).2.1 ≠ (F_Ca b).2.1 := by decide +kernel
theorem t_Ca_ok : ∀ k, k < 5 → parseFieldDescriptor (F_Ca k).2.2.1 = some (t_Ca k) := by decide +kernel
def R_Co : String := "WindBrides$Coast"
def F_Co : u_T := fun k => match k with
  | 0 => ("WindBrides$Coast", "girls", "I", false)
  | 1 => ("WindBrides$Coast", "kind", "[I", true)
  | 2 => ("WindBrides$Coast", "house", "[I", true)
  | 3 => ("WindBrides$Coast", "dowry", "[I", true)
  | 4 => ("WindBrides$Coast", "winds", "I", false)
  | 5 => ("WindBrides$Coast", "point", "[I", true)
  | 6 => ("WindBrides$Coast", "force", "[I", true)
  | 7 => ("WindBrides$Coast", "from", "[I", true)
  | 8 => ("WindBrides$Coast", "to", "[I", true)
  | 9 => ("WindBrides$Coast", "end", "I", false)
  | 10 => ("WindBrides$Coast", "score", "I", false)
  | 11 => ("WindBrides$Coast", "chance", "I", false)
  | 12 => ("WindBrides$Coast", "now", "LWindBrides$Course;", true)
  | 13 => ("WindBrides$Coast", "book", "LWindBrides$Book;", true)
  | 14 => ("WindBrides$Coast", "reports", "I", false)
  | 15 => ("WindBrides$Coast", "reported", "[I", true)
  | _ => ("WindBrides$Coast", "choice", "[I", true)
def t_Co : Nat → FieldType := fun k => match k with
  | 0 => .int
  | 1 => .array .int
  | 2 => .array .int
  | 3 => .array .int
  | 4 => .int
  | 5 => .array .int
  | 6 => .array .int
  | 7 => .array .int
  | 8 => .array .int
  | 9 => .int
  | 10 => .int
  | 11 => .int
  | 12 => .object "WindBrides$Course"
  | 13 => .object "WindBrides$Book"
  | 14 => .int
  | 15 => .array .int
  | _ => .array .int
theorem n_Co : ∀ a, a < 17 → ∀ b, b < 17 → a ≠ b → (F_Co a).2.1 ≠ (F_Co b).2.1 := by decide +kernel
theorem t_Co_ok : ∀ k, k < 17 → parseFieldDescriptor (F_Co k).2.2.1 = some (t_Co k) := by decide +kernel
def R_Cr : String := "WindBrides$Course"
def F_Cr : u_T := fun k => match k with
  | 0 => ("WindBrides$Course", "month", "I", false)
  | 1 => ("WindBrides$Course", "promised", "[I", true)
  | 2 => ("WindBrides$Course", "faith", "[I", true)
  | 3 => ("WindBrides$Course", "courtedSet", "I", false)
  | _ => ("WindBrides$Course", "facts", "[I", true)
def t_Cr : Nat → FieldType := fun k => match k with
  | 0 => .int
  | 1 => .array .int
  | 2 => .array .int
  | 3 => .int
  | _ => .array .int
theorem n_Cr : ∀ a, a < 5 → ∀ b, b < 5 → a ≠ b → (F_Cr a).2.1 ≠ (F_Cr b).2.1 := by decide +kernel
theorem t_Cr_ok : ∀ k, k < 5 → parseFieldDescriptor (F_Cr k).2.2.1 = some (t_Cr k) := by decide +kernel
def R_Gi : String := "WindBrides$Girl"
def F_Gi : u_T := fun k => match k with
  | 0 => ("WindBrides$Girl", "n", "I", true)
  | 1 => ("WindBrides$Girl", "a", "I", true)
  | 2 => ("WindBrides$Girl", "traced", "[I", true)
  | 3 => ("WindBrides$Girl", "begun", "I", false)
  | _ => ("WindBrides$Girl", "parted", "Z", false)
def t_Gi : Nat → FieldType := fun k => match k with
  | 0 => .int
  | 1 => .int
  | 2 => .array .int
  | 3 => .int
  | _ => .boolean
theorem n_Gi : ∀ a, a < 5 → ∀ b, b < 5 → a ≠ b → (F_Gi a).2.1 ≠ (F_Gi b).2.1 := by decide +kernel
theorem t_Gi_ok : ∀ k, k < 5 → parseFieldDescriptor (F_Gi k).2.2.1 = some (t_Gi k) := by decide +kernel
def R_La : String := "WindBrides$Late"
def F_La : u_T := fun k => match k with
  | 0 => ("WindBrides$Girl", "n", "I", true)
  | 1 => ("WindBrides$Girl", "a", "I", true)
  | 2 => ("WindBrides$Girl", "traced", "[I", true)
  | 3 => ("WindBrides$Girl", "begun", "I", false)
  | _ => ("WindBrides$Girl", "parted", "Z", false)
def t_La : Nat → FieldType := fun k => match k with
  | 0 => .int
  | 1 => .int
  | 2 => .array .int
  | 3 => .int
  | _ => .boolean
theorem n_La : ∀ a, a < 5 → ∀ b, b < 5 → a ≠ b → (F_La a).2.1 ≠ (F_La b).2.1 := by decide +kernel
theorem t_La_ok : ∀ k, k < 5 → parseFieldDescriptor (F_La k).2.2.1 = some (t_La k) := by decide +kernel
def R_Pl : String := "WindBrides$Plans"
def F_Pl : u_T := fun k => match k with
  | 0 => ("WindBrides$Plans", "months", "I", false)
  | 1 => ("WindBrides$Plans", "most", "I", false)
  | 2 => ("WindBrides$Plans", "bestOnes", "I", false)
  | 3 => ("WindBrides$Plans", "bestActs", "[I", true)
  | 4 => ("WindBrides$Plans", "fewest", "I", false)
  | 5 => ("WindBrides$Plans", "everPromised", "I", false)
  | 6 => ("WindBrides$Plans", "opening", "I", false)
  | 7 => ("WindBrides$Plans", "rowCount", "I", false)
  | 8 => ("WindBrides$Plans", "rows", "[I", true)
  | 9 => ("WindBrides$Plans", "coast", "LWindBrides$Coast;", false)
  | 10 => ("WindBrides$Plans", "wanted", "I", false)
  | 11 => ("WindBrides$Plans", "acts", "[I", true)
  | _ => ("WindBrides$Plans", "behind", "[LWindBrides$Course;", true)
def t_Pl : Nat → FieldType := fun k => match k with
  | 0 => .int
  | 1 => .int
  | 2 => .int
  | 3 => .array .int
  | 4 => .int
  | 5 => .int
  | 6 => .int
  | 7 => .int
  | 8 => .array .int
  | 9 => .object "WindBrides$Coast"
  | 10 => .int
  | 11 => .array .int
  | _ => .array (.object "WindBrides$Course")
theorem n_Pl : ∀ a, a < 13 → ∀ b, b < 13 → a ≠ b → (F_Pl a).2.1 ≠ (F_Pl b).2.1 := by decide +kernel
theorem t_Pl_ok : ∀ k, k < 13 → parseFieldDescriptor (F_Pl k).2.2.1 = some (t_Pl k) := by decide +kernel
def R_Sh : String := "WindBrides$Shared"
def F_Sh : u_T := fun k => match k with
  | 0 => ("WindBrides$Girl", "n", "I", true)
  | 1 => ("WindBrides$Girl", "a", "I", true)
  | 2 => ("WindBrides$Girl", "traced", "[I", true)
  | 3 => ("WindBrides$Girl", "begun", "I", false)
  | _ => ("WindBrides$Girl", "parted", "Z", false)
def t_Sh : Nat → FieldType := fun k => match k with
  | 0 => .int
  | 1 => .int
  | 2 => .array .int
  | 3 => .int
  | _ => .boolean
theorem n_Sh : ∀ a, a < 5 → ∀ b, b < 5 → a ≠ b → (F_Sh a).2.1 ≠ (F_Sh b).2.1 := by decide +kernel
theorem t_Sh_ok : ∀ k, k < 5 → parseFieldDescriptor (F_Sh k).2.2.1 = some (t_Sh k) := by decide +kernel
def R_Ta : String := "WindBrides$Tape"
def F_Ta : u_T := fun k => match k with
  | 0 => ("WindBrides$Tape", "length", "I", false)
  | 1 => ("WindBrides$Tape", "bytes", "[I", true)
  | 2 => ("WindBrides$Tape", "tokens", "[I", true)
  | 3 => ("WindBrides$Tape", "places", "[I", true)
  | _ => ("WindBrides$Tape", "at", "I", false)
def t_Ta : Nat → FieldType := fun k => match k with
  | 0 => .int
  | 1 => .array .int
  | 2 => .array .int
  | 3 => .array .int
  | _ => .int
theorem n_Ta : ∀ a, a < 5 → ∀ b, b < 5 → a ≠ b → (F_Ta a).2.1 ≠ (F_Ta b).2.1 := by decide +kernel
theorem t_Ta_ok : ∀ k, k < 5 → parseFieldDescriptor (F_Ta k).2.2.1 = some (t_Ta k) := by decide +kernel
def R_Tw : String := "WindBrides$Twice"
def F_Tw : u_T := fun k => match k with
  | 0 => ("WindBrides$Girl", "n", "I", true)
  | 1 => ("WindBrides$Girl", "a", "I", true)
  | 2 => ("WindBrides$Girl", "traced", "[I", true)
  | 3 => ("WindBrides$Girl", "begun", "I", false)
  | _ => ("WindBrides$Girl", "parted", "Z", false)
def t_Tw : Nat → FieldType := fun k => match k with
  | 0 => .int
  | 1 => .int
  | 2 => .array .int
  | 3 => .int
  | _ => .boolean
theorem n_Tw : ∀ a, a < 5 → ∀ b, b < 5 → a ≠ b → (F_Tw a).2.1 ≠ (F_Tw b).2.1 := by decide +kernel
theorem t_Tw_ok : ∀ k, k < 5 → parseFieldDescriptor (F_Tw k).2.2.1 = some (t_Tw k) := by decide +kernel
def R_Wb : String := "WindBrides"
def F_Wb : u_T := fun k => match k with
  | 0 => ("WindBrides", "coast", "LWindBrides$Coast;", true)
  | 1 => ("WindBrides", "keptCoast", "LWindBrides$Coast;", true)
  | 2 => ("WindBrides", "hasKept", "Z", false)
  | 3 => ("WindBrides", "trial", "LWindBrides$Course;", true)
  | 4 => ("WindBrides", "tape", "LWindBrides$Tape;", true)
  | 5 => ("WindBrides", "draft", "LWindBrides$Book;", true)
  | 6 => ("WindBrides", "plans", "LWindBrides$Plans;", true)
  | 7 => ("WindBrides", "sheetSort", "[I", true)
  | 8 => ("WindBrides", "sheetSize", "[I", true)
  | 9 => ("WindBrides", "sheetItems", "[I", true)
  | 10 => ("WindBrides", "shelfHolds", "[I", true)
  | 11 => ("WindBrides", "shelfNumber", "[I", true)
  | 12 => ("WindBrides", "shelfSort", "[I", true)
  | 13 => ("WindBrides", "traced", "[I", true)
  | _ => ("WindBrides", "actor", "LWindBrides$Girl;", false)
def t_Wb : Nat → FieldType := fun k => match k with
  | 0 => .object "WindBrides$Coast"
  | 1 => .object "WindBrides$Coast"
  | 2 => .boolean
  | 3 => .object "WindBrides$Course"
  | 4 => .object "WindBrides$Tape"
  | 5 => .object "WindBrides$Book"
  | 6 => .object "WindBrides$Plans"
  | 7 => .array .int
  | 8 => .array .int
  | 9 => .array .int
  | 10 => .array .int
  | 11 => .array .int
  | 12 => .array .int
  | 13 => .array .int
  | _ => .object "WindBrides$Girl"
theorem n_Wb : ∀ a, a < 15 → ∀ b, b < 15 → a ≠ b → (F_Wb a).2.1 ≠ (F_Wb b).2.1 := by decide +kernel
theorem t_Wb_ok : ∀ k, k < 15 → parseFieldDescriptor (F_Wb k).2.2.1 = some (t_Wb k) := by decide +kernel
def R_Mo : String := "WindBridesModel"
def F_Mo : u_T := fun k => match k with
  | 0 => ("WindBridesModel", "m", "[I", true)
  | 1 => ("WindBridesModel", "kept", "[I", true)
  | 2 => ("WindBridesModel", "was", "[I", true)
  | 3 => ("WindBridesModel", "isKept", "Z", false)
  | 4 => ("WindBridesModel", "tape", "[I", true)
  | 5 => ("WindBridesModel", "taped", "I", false)
  | 6 => ("WindBridesModel", "token", "I", false)
  | 7 => ("WindBridesModel", "begin", "I", false)
  | 8 => ("WindBridesModel", "at", "I", false)
  | 9 => ("WindBridesModel", "value", "I", false)
  | 10 => ("WindBridesModel", "bad", "Z", false)
  | 11 => ("WindBridesModel", "opened", "I", false)
  | 12 => ("WindBridesModel", "laid", "I", false)
  | 13 => ("WindBridesModel", "pile", "[Z", true)
  | 14 => ("WindBridesModel", "who", "I", false)
  | 15 => ("WindBridesModel", "mate", "[I", true)
  | 16 => ("WindBridesModel", "asked", "[I", true)
  | 17 => ("WindBridesModel", "promisedBehind", "I", false)
  | 18 => ("WindBridesModel", "bestPlan", "I", false)
  | 19 => ("WindBridesModel", "bestWorth", "I", false)
  | 20 => ("WindBridesModel", "bestMany", "I", false)
  | 21 => ("WindBridesModel", "turn", "[I", true)
  | 22 => ("WindBridesModel", "ahead", "[I", true)
  | 23 => ("WindBridesModel", "rows", "I", false)
  | 24 => ("WindBridesModel", "row", "[I", true)
  | 25 => ("WindBridesModel", "sorts", "[I", true)
  | 26 => ("WindBridesModel", "sizes", "[I", true)
  | 27 => ("WindBridesModel", "cells", "[J", true)
  | 28 => ("WindBridesModel", "holds", "[I", true)
  | 29 => ("WindBridesModel", "held", "[I", true)
  | 30 => ("WindBridesModel", "heldSize", "[I", true)
  | 31 => ("WindBridesModel", "trace", "[I", true)
  | 32 => ("WindBridesModel", "traced", "I", false)
  | _ => ("WindBridesModel", "isParted", "Z", false)
def t_Mo : Nat → FieldType := fun k => match k with
  | 0 => .array .int
  | 1 => .array .int
  | 2 => .array .int
  | 3 => .boolean
  | 4 => .array .int
  | 5 => .int
  | 6 => .int
  | 7 => .int
  | 8 => .int
  | 9 => .int
  | 10 => .boolean
  | 11 => .int
  | 12 => .int
  | 13 => .array .boolean
  | 14 => .int
  | 15 => .array .int
  | 16 => .array .int
  | 17 => .int
  | 18 => .int
  | 19 => .int
  | 20 => .int
  | 21 => .array .int
  | 22 => .array .int
  | 23 => .int
  | 24 => .array .int
  | 25 => .array .int
  | 26 => .array .int
  | 27 => .array .long
  | 28 => .array .int
  | 29 => .array .int
  | 30 => .array .int
  | 31 => .array .int
  | 32 => .int
  | _ => .boolean
theorem n_Mo : ∀ a, a < 34 → ∀ b, b < 34 → a ≠ b → (F_Mo a).2.1 ≠ (F_Mo b).2.1 := by decide +kernel
theorem t_Mo_ok : ∀ k, k < 34 → parseFieldDescriptor (F_Mo k).2.2.1 = some (t_Mo k) := by decide +kernel
abbrev zCl : List vw_C := [(R_Bk, F_Bk, 6), (R_Br, F_Br, 5), (R_Ca, F_Ca, 5), (R_Co, F_Co, 17), (R_Cr, F_Cr, 5), (R_Gi, F_Gi, 5), (R_La, F_La, 5), (R_Pl, F_Pl, 13), (R_Sh, F_Sh, 5), (R_Ta, F_Ta, 5), (R_Tw, F_Tw, 5), (R_Wb, F_Wb, 15), (R_Mo, F_Mo, 34)]
def R_Lw : String := "WindBridesLaw"
/-- the words that are kept by every call -/
def zT : List Cond := lw_tbl.filter goodWord
theorem i_Bk : ∀ w ∈ u_ws R_Bk F_Bk 6, w ∈ zT := by decide +kernel
theorem i_Br : ∀ w ∈ u_ws R_Br F_Br 5, w ∈ zT := by decide +kernel
theorem i_Ca : ∀ w ∈ u_ws R_Ca F_Ca 5, w ∈ zT := by decide +kernel
theorem i_Co : ∀ w ∈ u_ws R_Co F_Co 17, w ∈ zT := by decide +kernel
theorem i_Cr : ∀ w ∈ u_ws R_Cr F_Cr 5, w ∈ zT := by decide +kernel
theorem i_Gi : ∀ w ∈ u_ws R_Gi F_Gi 5, w ∈ zT := by decide +kernel
theorem i_La : ∀ w ∈ u_ws R_La F_La 5, w ∈ zT := by decide +kernel
theorem i_Pl : ∀ w ∈ u_ws R_Pl F_Pl 13, w ∈ zT := by decide +kernel
theorem i_Sh : ∀ w ∈ u_ws R_Sh F_Sh 5, w ∈ zT := by decide +kernel
theorem i_Ta : ∀ w ∈ u_ws R_Ta F_Ta 5, w ∈ zT := by decide +kernel
theorem i_Tw : ∀ w ∈ u_ws R_Tw F_Tw 5, w ∈ zT := by decide +kernel
theorem i_Wb : ∀ w ∈ u_ws R_Wb F_Wb 15, w ∈ zT := by decide +kernel
theorem i_Mo : ∀ w ∈ u_ws R_Mo F_Mo 34, w ∈ zT := by decide +kernel
/-- a method: its class, its name, its code, its locals, its answer, its instructions -/
abbrev zM : Type := String × MethodName × ByteArray × Nat × Option FieldType × List (Nat × Instr × Nat)
abbrev mO (M : zM) : String := M.1
abbrev mY (M : zM) : MethodName := M.2.1
abbrev mC (M : zM) : ByteArray := M.2.2.1
abbrev mL (M : zM) : Nat := M.2.2.2.1
abbrev mR (M : zM) : Option FieldType := M.2.2.2.2.1
abbrev mI (M : zM) : List (Nat × Instr × Nat) := M.2.2.2.2.2
abbrev mOk (M : zM) : Prop := (mI M).all (fun e => decide (decode (mC M) e.1 = .ok e.2)) = true
end
section
def M_Co_init : zM := ("WindBrides$Coast", ⟨"WindBrides$Coast", "<init>", "()V"⟩, prog_5_method_1_code, 1, none, [
  (0, .aload_n 0, 1), (1, .invokespecial 3, 3), (4, .aload_n 0, 1), (5, .bipush 6, 2), (7, .newarray .int, 2), (9, .putfield 9, 3),
  (12, .aload_n 0, 1), (13, .bipush 6, 2), (15, .newarray .int, 2), (17, .putfield 15, 3), (20, .aload_n 0, 1), (21, .bipush 6, 2),
  (23, .newarray .int, 2), (25, .putfield 18, 3), (28, .aload_n 0, 1), (29, .bipush 6, 2), (31, .newarray .int, 2), (33, .putfield 21, 3),
  (36, .aload_n 0, 1), (37, .bipush 6, 2), (39, .newarray .int, 2), (41, .putfield 24, 3), (44, .aload_n 0, 1), (45, .bipush 6, 2),
  (47, .newarray .int, 2), (49, .putfield 27, 3), (52, .aload_n 0, 1), (53, .bipush 6, 2), (55, .newarray .int, 2), (57, .putfield 30, 3),
  (60, .aload_n 0, 1), (61, .bipush 12, 2), (63, .putfield 33, 3), (66, .aload_n 0, 1), (67, .iconst 1, 1), (68, .putfield 37, 3),
  (71, .aload_n 0, 1), (72, .new 40, 3), (75, .dup, 1), (76, .invokespecial 42, 3), (79, .putfield 43, 3), (82, .aload_n 0, 1),
  (83, .new 47, 3), (86, .dup, 1), (87, .invokespecial 49, 3), (90, .putfield 50, 3), (93, .aload_n 0, 1), (94, .bipush 24, 2),
  (96, .newarray .int, 2), (98, .putfield 54, 3), (101, .aload_n 0, 1), (102, .bipush 6, 2), (104, .newarray .int, 2), (106, .putfield 57, 3),
  (109, .return_, 1)])
set_option maxRecDepth 100000 in
theorem K_Co_init : mOk M_Co_init := by decide +kernel
def M_Cr_init : zM := ("WindBrides$Course", ⟨"WindBrides$Course", "<init>", "()V"⟩, prog_6_method_1_code, 1, none, [
  (0, .aload_n 0, 1), (1, .invokespecial 3, 3), (4, .aload_n 0, 1), (5, .bipush 6, 2), (7, .newarray .int, 2), (9, .putfield 9, 3),
  (12, .aload_n 0, 1), (13, .bipush 6, 2), (15, .newarray .int, 2), (17, .putfield 15, 3), (20, .aload_n 0, 1), (21, .iconst 5, 1),
  (22, .newarray .int, 2), (24, .putfield 20, 3), (27, .return_, 1)])
set_option maxRecDepth 100000 in
theorem K_Cr_init : mOk M_Cr_init := by decide +kernel
def M_Bk_init : zM := ("WindBrides$Book", ⟨"WindBrides$Book", "<init>", "()V"⟩, prog_2_method_1_code, 1, none, [
  (0, .aload_n 0, 1), (1, .invokespecial 3, 3), (4, .aload_n 0, 1), (5, .bipush 8, 2), (7, .newarray .int, 2), (9, .putfield 11, 3),
  (12, .aload_n 0, 1), (13, .bipush 8, 2), (15, .newarray .int, 2), (17, .putfield 15, 3), (20, .aload_n 0, 1), (21, .bipush 9, 2),
  (23, .newarray .int, 2), (25, .putfield 18, 3), (28, .aload_n 0, 1), (29, .sipush 200, 3), (32, .newarray .int, 2), (34, .putfield 23, 3),
  (37, .return_, 1)])
set_option maxRecDepth 100000 in
theorem K_Bk_init : mOk M_Bk_init := by decide +kernel
def M_Ta_init : zM := ("WindBrides$Tape", ⟨"WindBrides$Tape", "<init>", "()V"⟩, prog_11_method_1_code, 1, none, [
  (0, .aload_n 0, 1), (1, .invokespecial 3, 3), (4, .aload_n 0, 1), (5, .sipush 200, 3), (8, .newarray .int, 2), (10, .putfield 11, 3),
  (13, .aload_n 0, 1), (14, .sipush 201, 3), (17, .newarray .int, 2), (19, .putfield 15, 3), (22, .aload_n 0, 1), (23, .sipush 201, 3),
  (26, .newarray .int, 2), (28, .putfield 18, 3), (31, .return_, 1)])
set_option maxRecDepth 100000 in
theorem K_Ta_init : mOk M_Ta_init := by decide +kernel
def M_Pl_init : zM := ("WindBrides$Plans", ⟨"WindBrides$Plans", "<init>", "()V"⟩, prog_9_method_1_code, 2, none, [
  (0, .aload_n 0, 1), (1, .invokespecial 3, 3), (4, .aload_n 0, 1), (5, .iconst 4, 1), (6, .newarray .int, 2), (8, .putfield 9, 3),
  (11, .aload_n 0, 1), (12, .bipush 12, 2), (14, .newarray .int, 2), (16, .putfield 15, 3), (19, .aload_n 0, 1), (20, .iconst 4, 1),
  (21, .newarray .int, 2), (23, .putfield 18, 3), (26, .aload_n 0, 1), (27, .iconst 5, 1), (28, .anewarray 21, 3), (31, .putfield 23, 3),
  (34, .iconst 0, 1), (35, .istore_n 1, 1), (36, .iload_n 1, 1), (37, .iconst 4, 1), (38, .if_icmp .gt 22, 3), (41, .aload_n 0, 1),
  (42, .getfield 23, 3), (45, .iload_n 1, 1), (46, .new 21, 3), (49, .dup, 1), (50, .invokespecial 27, 3), (53, .aastore, 1),
  (54, .iinc 1 1, 3), (57, .goto (-21), 3), (60, .return_, 1)])
set_option maxRecDepth 100000 in
theorem K_Pl_init : mOk M_Pl_init := by decide +kernel
def M_Co_addGirl : zM := ("WindBrides$Coast", ⟨"WindBrides$Coast", "addGirl", "(III)I"⟩, prog_5_method_7_code, 5, (some .int), [
  (0, .aload_n 0, 1), (1, .getfield 60, 3), (4, .istore 4, 2), (6, .aload_n 0, 1), (7, .getfield 9, 3), (10, .iload 4, 2),
  (12, .iload_n 1, 1), (13, .iastore, 1), (14, .aload_n 0, 1), (15, .getfield 15, 3), (18, .iload 4, 2), (20, .iload_n 2, 1),
  (21, .iastore, 1), (22, .aload_n 0, 1), (23, .getfield 18, 3), (26, .iload 4, 2), (28, .iload_n 3, 1), (29, .iastore, 1),
  (30, .aload_n 0, 1), (31, .getfield 43, 3), (34, .aload_n 0, 1), (35, .iload 4, 2), (37, .bipush 6, 2), (39, .invokevirtual 88, 3),
  (42, .aload_n 0, 1), (43, .dup, 1), (44, .getfield 60, 3), (47, .iconst 1, 1), (48, .iadd, 1), (49, .putfield 60, 3),
  (52, .iload 4, 2), (54, .ireturn, 1)])
set_option maxRecDepth 100000 in
theorem K_Co_addGirl : mOk M_Co_addGirl := by decide +kernel
def M_Cr_promiseTo : zM := ("WindBrides$Course", ⟨"WindBrides$Course", "promiseTo", "(LWindBrides$Coast;II)V"⟩, prog_6_method_3_code, 4, none, [
  (0, .aload_n 0, 1), (1, .getfield 9, 3), (4, .iload_n 2, 1), (5, .iload_n 3, 1), (6, .iastore, 1), (7, .aload_n 0, 1),
  (8, .getfield 15, 3), (11, .iload_n 2, 1), (12, .aload_n 1, 1), (13, .getfield 36, 3), (16, .iload_n 2, 1), (17, .iaload, 1),
  (18, .iastore, 1), (19, .return_, 1)])
set_option maxRecDepth 100000 in
theorem K_Cr_promiseTo : mOk M_Cr_promiseTo := by decide +kernel
def M_Co_hasGirl : zM := ("WindBrides$Coast", ⟨"WindBrides$Coast", "hasGirl", "(I)Z"⟩, prog_5_method_3_code, 2, (some .boolean), [
  (0, .iload_n 1, 1), (1, .ifCond .lt 15, 3), (4, .iload_n 1, 1), (5, .aload_n 0, 1), (6, .getfield 60, 3), (9, .if_icmp .ge 7, 3),
  (12, .iconst 1, 1), (13, .goto 4, 3), (16, .iconst 0, 1), (17, .ireturn, 1)])
set_option maxRecDepth 100000 in
theorem K_Co_hasGirl : mOk M_Co_hasGirl := by decide +kernel
def M_Cr_doesInCalm : zM := ("WindBrides$Course", ⟨"WindBrides$Course", "doesInCalm", "(LWindBrides$Coast;I)I"⟩, prog_6_method_7_code, 3, (some .int), [
  (0, .aload_n 0, 1), (1, .getfield 20, 3), (4, .iconst 0, 1), (5, .aload_n 0, 1), (6, .getfield 23, 3), (9, .iastore, 1),
  (10, .aload_n 0, 1), (11, .getfield 20, 3), (14, .iconst 1, 1), (15, .aload_n 0, 1), (16, .getfield 15, 3), (19, .iload_n 2, 1),
  (20, .iaload, 1), (21, .iastore, 1), (22, .aload_n 0, 1), (23, .getfield 20, 3), (26, .iconst 2, 1), (27, .aload_n 1, 1),
  (28, .getfield 36, 3), (31, .iload_n 2, 1), (32, .iaload, 1), (33, .iastore, 1), (34, .aload_n 0, 1), (35, .getfield 20, 3),
  (38, .iconst 3, 1), (39, .aload_n 1, 1), (40, .getfield 44, 3), (43, .iload_n 2, 1), (44, .iaload, 1), (45, .iastore, 1),
  (46, .aload_n 0, 1), (47, .getfield 20, 3), (50, .iconst 4, 1), (51, .iload_n 2, 1), (52, .iastore, 1), (53, .aload_n 1, 1),
  (54, .getfield 47, 3), (57, .aload_n 1, 1), (58, .getfield 51, 3), (61, .iload_n 2, 1), (62, .iaload, 1), (63, .aload_n 0, 1),
  (64, .getfield 20, 3), (67, .invokevirtual 54, 3), (70, .ireturn, 1)])
set_option maxRecDepth 100000 in
theorem K_Cr_doesInCalm : mOk M_Cr_doesInCalm := by decide +kernel
def M_Bk_tells : zM := ("WindBrides$Book", ⟨"WindBrides$Book", "tells", "(I[I)I"⟩, prog_2_method_6_code, 4, (some .int), [
  (0, .iconst 0, 1), (1, .istore_n 3, 1), (2, .iload_n 3, 1), (3, .aload_n 0, 1), (4, .getfield 26, 3), (7, .if_icmp .ge 38, 3),
  (10, .iload_n 1, 1), (11, .aload_n 0, 1), (12, .getfield 11, 3), (15, .iload_n 3, 1), (16, .iaload, 1), (17, .invokestatic 39, 3),
  (20, .ifCond .eq 19, 3), (23, .aload_n 0, 1), (24, .iload_n 3, 1), (25, .aload_n 2, 1), (26, .invokevirtual 43, 3), (29, .ifCond .eq 10, 3),
  (32, .aload_n 0, 1), (33, .getfield 15, 3), (36, .iload_n 3, 1), (37, .iaload, 1), (38, .ireturn, 1), (39, .iinc 3 1, 3),
  (42, .goto (-40), 3), (45, .iconst 0, 1), (46, .ireturn, 1)])
set_option maxRecDepth 100000 in
theorem K_Bk_tells : mOk M_Bk_tells := by decide +kernel
def M_Bk_holds : zM := ("WindBrides$Book", ⟨"WindBrides$Book", "holds", "(I[I)Z"⟩, prog_2_method_7_code, 5, (some .boolean), [
  (0, .iconst 1, 1), (1, .istore_n 3, 1), (2, .aload_n 0, 1), (3, .getfield 18, 3), (6, .iload_n 1, 1), (7, .iaload, 1),
  (8, .istore 4, 2), (10, .iload 4, 2), (12, .aload_n 0, 1), (13, .getfield 18, 3), (16, .iload_n 1, 1), (17, .iconst 1, 1),
  (18, .iadd, 1), (19, .iaload, 1), (20, .if_icmp .ge 115, 3), (23, .aload_n 0, 1), (24, .getfield 23, 3), (27, .iload 4, 2),
  (29, .iaload, 1), (30, .tableswitch 76 10 12 #[55, 33, 26], 26), (56, .iload_n 3, 1), (57, .iconst 1, 1), (58, .ixor, 1), (59, .istore_n 3, 1),
  (60, .goto 69, 3), (63, .iload_n 3, 1), (64, .iconst 1, 1), (65, .iand, 1), (66, .ifCond .eq 9, 3), (69, .iload_n 3, 1),
  (70, .iconst 1, 1), (71, .ishr, 1), (72, .goto 9, 3), (75, .iload_n 3, 1), (76, .iconst 1, 1), (77, .ishr, 1),
  (78, .bipush (-2), 2), (80, .iand, 1), (81, .istore_n 3, 1), (82, .goto 47, 3), (85, .iload_n 3, 1), (86, .iconst 1, 1),
  (87, .iand, 1), (88, .ifCond .eq 11, 3), (91, .iload_n 3, 1), (92, .iconst 1, 1), (93, .ishr, 1), (94, .iconst 1, 1),
  (95, .ior, 1), (96, .goto 6, 3), (99, .iload_n 3, 1), (100, .iconst 1, 1), (101, .ishr, 1), (102, .istore_n 3, 1),
  (103, .goto 26, 3), (106, .iload_n 3, 1), (107, .iconst 1, 1), (108, .ishl, 1), (109, .aload_n 0, 1), (110, .iload 4, 2),
  (112, .aload_n 2, 1), (113, .invokevirtual 47, 3), (116, .ifCond .eq 7, 3), (119, .iconst 1, 1), (120, .goto 4, 3), (123, .iconst 0, 1),
  (124, .ior, 1), (125, .istore_n 3, 1), (126, .iinc 4 2, 3), (129, .iinc 4 1, 3), (132, .goto (-122), 3), (135, .iload_n 3, 1),
  (136, .iconst 1, 1), (137, .iand, 1), (138, .ifCond .eq 7, 3), (141, .iconst 1, 1), (142, .goto 4, 3), (145, .iconst 0, 1),
  (146, .ireturn, 1)])
set_option maxRecDepth 100000 in
theorem K_Bk_holds : mOk M_Bk_holds := by decide +kernel
def M_Bk_compares : zM := ("WindBrides$Book", ⟨"WindBrides$Book", "compares", "(I[I)Z"⟩, prog_2_method_8_code, 5, (some .boolean), [
  (0, .iload_n 1, 1), (1, .iconst 2, 1), (2, .iadd, 1), (3, .aload_n 0, 1), (4, .getfield 23, 3), (7, .arraylength, 1),
  (8, .if_icmp .lt 5, 3), (11, .iconst 0, 1), (12, .ireturn, 1), (13, .aload_n 0, 1), (14, .getfield 23, 3), (17, .iload_n 1, 1),
  (18, .iconst 1, 1), (19, .iadd, 1), (20, .iaload, 1), (21, .bipush 100, 2), (23, .if_icmp .lt 17, 3), (26, .aload_n 0, 1),
  (27, .getfield 23, 3), (30, .iload_n 1, 1), (31, .iconst 1, 1), (32, .iadd, 1), (33, .iaload, 1), (34, .bipush 100, 2),
  (36, .isub, 1), (37, .goto 16, 3), (40, .aload_n 2, 1), (41, .aload_n 0, 1), (42, .getfield 23, 3), (45, .iload_n 1, 1),
  (46, .iconst 1, 1), (47, .iadd, 1), (48, .iaload, 1), (49, .bipush 13, 2), (51, .isub, 1), (52, .iaload, 1),
  (53, .istore_n 3, 1), (54, .aload_n 0, 1), (55, .getfield 23, 3), (58, .iload_n 1, 1), (59, .iconst 2, 1), (60, .iadd, 1),
  (61, .iaload, 1), (62, .bipush 100, 2), (64, .if_icmp .lt 17, 3), (67, .aload_n 0, 1), (68, .getfield 23, 3), (71, .iload_n 1, 1),
  (72, .iconst 2, 1), (73, .iadd, 1), (74, .iaload, 1), (75, .bipush 100, 2), (77, .isub, 1), (78, .goto 16, 3),
  (81, .aload_n 2, 1), (82, .aload_n 0, 1), (83, .getfield 23, 3), (86, .iload_n 1, 1), (87, .iconst 2, 1), (88, .iadd, 1),
  (89, .iaload, 1), (90, .bipush 13, 2), (92, .isub, 1), (93, .iaload, 1), (94, .istore 4, 2), (96, .aload_n 0, 1),
  (97, .getfield 23, 3), (100, .iload_n 1, 1), (101, .iaload, 1), (102, .lookupswitch 50 #[(21, 26), (22, 38)], 26), (128, .iload_n 3, 1), (129, .iload 4, 2),
  (131, .if_icmp .ge 7, 3), (134, .iconst 1, 1), (135, .goto 4, 3), (138, .iconst 0, 1), (139, .ireturn, 1), (140, .iload_n 3, 1),
  (141, .iload 4, 2), (143, .if_icmp .ne 7, 3), (146, .iconst 1, 1), (147, .goto 4, 3), (150, .iconst 0, 1), (151, .ireturn, 1),
  (152, .iload_n 3, 1), (153, .iload 4, 2), (155, .if_icmp .le 7, 3), (158, .iconst 1, 1), (159, .goto 4, 3), (162, .iconst 0, 1),
  (163, .ireturn, 1)])
set_option maxRecDepth 100000 in
theorem K_Bk_compares : mOk M_Bk_compares := by decide +kernel
def M_Co_addWind : zM := ("WindBrides$Coast", ⟨"WindBrides$Coast", "addWind", "(IIII)I"⟩, prog_5_method_8_code, 6, (some .int), [
  (0, .aload_n 0, 1), (1, .getfield 69, 3), (4, .istore 5, 2), (6, .aload_n 0, 1), (7, .getfield 21, 3), (10, .iload 5, 2),
  (12, .iload_n 1, 1), (13, .iastore, 1), (14, .aload_n 0, 1), (15, .getfield 24, 3), (18, .iload 5, 2), (20, .iload_n 2, 1),
  (21, .iastore, 1), (22, .aload_n 0, 1), (23, .getfield 27, 3), (26, .iload 5, 2), (28, .iload_n 3, 1), (29, .iastore, 1),
  (30, .aload_n 0, 1), (31, .getfield 30, 3), (34, .iload 5, 2), (36, .iload 4, 2), (38, .iastore, 1), (39, .aload_n 0, 1),
  (40, .dup, 1), (41, .getfield 69, 3), (44, .iconst 1, 1), (45, .iadd, 1), (46, .putfield 69, 3), (49, .iload 5, 2),
  (51, .ireturn, 1)])
set_option maxRecDepth 100000 in
theorem K_Co_addWind : mOk M_Co_addWind := by decide +kernel
def M_Co_hasWind : zM := ("WindBrides$Coast", ⟨"WindBrides$Coast", "hasWind", "(I)Z"⟩, prog_5_method_4_code, 2, (some .boolean), [
  (0, .iload_n 1, 1), (1, .ifCond .lt 15, 3), (4, .iload_n 1, 1), (5, .aload_n 0, 1), (6, .getfield 69, 3), (9, .if_icmp .ge 7, 3),
  (12, .iconst 1, 1), (13, .goto 4, 3), (16, .iconst 0, 1), (17, .ireturn, 1)])
set_option maxRecDepth 100000 in
theorem K_Co_hasWind : mOk M_Co_hasWind := by decide +kernel
def M_Cr_bridesOf : zM := ("WindBrides$Course", ⟨"WindBrides$Course", "bridesOf", "(LWindBrides$Coast;I)I"⟩, prog_6_method_5_code, 5, (some .int), [
  (0, .iconst 0, 1), (1, .istore_n 3, 1), (2, .iconst 0, 1), (3, .istore 4, 2), (5, .iload 4, 2), (7, .aload_n 1, 1),
  (8, .getfield 41, 3), (11, .if_icmp .ge 31, 3), (14, .iload_n 3, 1), (15, .aload_n 0, 1), (16, .getfield 9, 3), (19, .iload 4, 2),
  (21, .iaload, 1), (22, .iload_n 2, 1), (23, .if_icmp .ne 10, 3), (26, .iconst 1, 1), (27, .iload 4, 2), (29, .ishl, 1),
  (30, .goto 4, 3), (33, .iconst 0, 1), (34, .ior, 1), (35, .istore_n 3, 1), (36, .iinc 4 1, 3), (39, .goto (-34), 3),
  (42, .iload_n 3, 1), (43, .ireturn, 1)])
set_option maxRecDepth 100000 in
theorem K_Cr_bridesOf : mOk M_Cr_bridesOf := by decide +kernel
def M_Co_blows : zM := ("WindBrides$Coast", ⟨"WindBrides$Coast", "blows", "(II)Z"⟩, prog_5_method_9_code, 3, (some .boolean), [
  (0, .iload_n 1, 1), (1, .aload_n 0, 1), (2, .getfield 69, 3), (5, .if_icmp .ge 27, 3), (8, .aload_n 0, 1), (9, .getfield 27, 3),
  (12, .iload_n 1, 1), (13, .iaload, 1), (14, .iload_n 2, 1), (15, .if_icmp .gt 17, 3), (18, .iload_n 2, 1), (19, .aload_n 0, 1),
  (20, .getfield 30, 3), (23, .iload_n 1, 1), (24, .iaload, 1), (25, .if_icmp .gt 7, 3), (28, .iconst 1, 1), (29, .goto 4, 3),
  (32, .iconst 0, 1), (33, .ireturn, 1)])
set_option maxRecDepth 100000 in
theorem K_Co_blows : mOk M_Co_blows := by decide +kernel
def M_Co_gainBy : zM := ("WindBrides$Coast", ⟨"WindBrides$Coast", "gainBy", "(III)I"⟩, prog_5_method_10_code, 4, (some .int), [
  (0, .aload_n 0, 1), (1, .getfield 9, 3), (4, .iload_n 1, 1), (5, .iaload, 1), (6, .aload_n 0, 1), (7, .getfield 24, 3),
  (10, .iload_n 2, 1), (11, .iaload, 1), (12, .aload_n 0, 1), (13, .getfield 21, 3), (16, .iload_n 2, 1), (17, .iaload, 1),
  (18, .aload_n 0, 1), (19, .getfield 15, 3), (22, .iload_n 1, 1), (23, .iaload, 1), (24, .invokestatic 92, 3), (27, .iload_n 3, 1),
  (28, .invokestatic 96, 3), (31, .ireturn, 1)])
set_option maxRecDepth 100000 in
theorem K_Co_gainBy : mOk M_Co_gainBy := by decide +kernel
def M_Co_isOver : zM := ("WindBrides$Coast", ⟨"WindBrides$Coast", "isOver", "()Z"⟩, prog_5_method_5_code, 1, (some .boolean), [
  (0, .aload_n 0, 1), (1, .getfield 43, 3), (4, .getfield 85, 3), (7, .aload_n 0, 1), (8, .getfield 33, 3), (11, .if_icmp .lt 7, 3),
  (14, .iconst 1, 1), (15, .goto 4, 3), (18, .iconst 0, 1), (19, .ireturn, 1)])
set_option maxRecDepth 100000 in
theorem K_Co_isOver : mOk M_Co_isOver := by decide +kernel
def M_Ta_hasRoomFor : zM := ("WindBrides$Tape", ⟨"WindBrides$Tape", "hasRoomFor", "(I)Z"⟩, prog_11_method_2_code, 2, (some .boolean), [
  (0, .aload_n 0, 1), (1, .getfield 21, 3), (4, .iload_n 1, 1), (5, .iadd, 1), (6, .sipush 200, 3), (9, .if_icmp .gt 7, 3),
  (12, .iconst 1, 1), (13, .goto 4, 3), (16, .iconst 0, 1), (17, .ireturn, 1)])
set_option maxRecDepth 100000 in
theorem K_Ta_hasRoomFor : mOk M_Ta_hasRoomFor := by decide +kernel
def M_Ta_takes : zM := ("WindBrides$Tape", ⟨"WindBrides$Tape", "takes", "(JI)I"⟩, prog_11_method_3_code, 5, (some .int), [
  (0, .iconst 0, 1), (1, .istore 4, 2), (3, .iload 4, 2), (5, .iload_n 3, 1), (6, .if_icmp .ge 50, 3), (9, .aload_n 0, 1),
  (10, .getfield 21, 3), (13, .sipush 200, 3), (16, .if_icmp .ge 40, 3), (19, .aload_n 0, 1), (20, .getfield 11, 3), (23, .aload_n 0, 1),
  (24, .getfield 21, 3), (27, .lload_n 1, 1), (28, .bipush 8, 2), (30, .iload 4, 2), (32, .imul, 1), (33, .lushr, 1),
  (34, .l2i, 1), (35, .sipush 255, 3), (38, .iand, 1), (39, .iastore, 1), (40, .aload_n 0, 1), (41, .dup, 1),
  (42, .getfield 21, 3), (45, .iconst 1, 1), (46, .iadd, 1), (47, .putfield 21, 3), (50, .iinc 4 1, 3), (53, .goto (-50), 3),
  (56, .aload_n 0, 1), (57, .getfield 21, 3), (60, .ireturn, 1)])
set_option maxRecDepth 100000 in
theorem K_Ta_takes : mOk M_Ta_takes := by decide +kernel
def M_Ta_readInto : zM := ("WindBrides$Tape", ⟨"WindBrides$Tape", "readInto", "(LWindBrides$Book;)I"⟩, prog_11_method_4_code, 4, (some .int), [
  (0, .aload_n 0, 1), (1, .invokevirtual 25, 3), (4, .aload_n 0, 1), (5, .iconst 0, 1), (6, .putfield 21, 3), (9, .aload_n 0, 1),
  (10, .iconst 0, 1), (11, .putfield 28, 3), (14, .aload_n 1, 1), (15, .invokevirtual 31, 3), (18, .iconst 1, 1), (19, .istore_n 2, 1),
  (20, .iconst 0, 1), (21, .istore_n 3, 1), (22, .iload_n 3, 1), (23, .bipush 8, 2), (25, .if_icmp .ge 33, 3), (28, .iload_n 2, 1),
  (29, .ifCond .eq 29, 3), (32, .aload_n 0, 1), (33, .getfield 15, 3), (36, .aload_n 0, 1), (37, .getfield 28, 3), (40, .iaload, 1),
  (41, .bipush 25, 2), (43, .if_icmp .eq 15, 3), (46, .aload_n 0, 1), (47, .aload_n 1, 1), (48, .invokevirtual 36, 3), (51, .istore_n 2, 1),
  (52, .iinc 3 1, 3), (55, .goto (-33), 3), (58, .iload_n 2, 1), (59, .ifCond .eq 24, 3), (62, .aload_n 0, 1), (63, .getfield 15, 3),
  (66, .aload_n 0, 1), (67, .getfield 28, 3), (70, .iaload, 1), (71, .bipush 25, 2), (73, .if_icmp .ne 10, 3), (76, .aload_n 1, 1),
  (77, .getfield 40, 3), (80, .goto 15, 3), (83, .bipush (-100), 2), (85, .aload_n 0, 1), (86, .getfield 18, 3), (89, .aload_n 0, 1),
  (90, .getfield 28, 3), (93, .iaload, 1), (94, .isub, 1), (95, .ireturn, 1)])
set_option maxRecDepth 100000 in
theorem K_Ta_readInto : mOk M_Ta_readInto := by decide +kernel
def M_Ta_split : zM := ("WindBrides$Tape", ⟨"WindBrides$Tape", "split", "()V"⟩, prog_11_method_5_code, 3, none, [
  (0, .iconst 0, 1), (1, .istore_n 1, 1), (2, .iconst 0, 1), (3, .istore_n 2, 1), (4, .iload_n 2, 1), (5, .aload_n 0, 1),
  (6, .getfield 21, 3), (9, .if_icmp .ge 49, 3), (12, .aload_n 0, 1), (13, .getfield 11, 3), (16, .iload_n 2, 1), (17, .iaload, 1),
  (18, .bipush 32, 2), (20, .if_icmp .eq 32, 3), (23, .aload_n 0, 1), (24, .iload_n 2, 1), (25, .invokevirtual 43, 3), (28, .ifCond .ne 24, 3),
  (31, .aload_n 0, 1), (32, .getfield 15, 3), (35, .iload_n 1, 1), (36, .aload_n 0, 1), (37, .iload_n 2, 1), (38, .invokevirtual 47, 3),
  (41, .iastore, 1), (42, .aload_n 0, 1), (43, .getfield 18, 3), (46, .iload_n 1, 1), (47, .iload_n 2, 1), (48, .iastore, 1),
  (49, .iinc 1 1, 3), (52, .iinc 2 1, 3), (55, .goto (-51), 3), (58, .aload_n 0, 1), (59, .getfield 15, 3), (62, .iload_n 1, 1),
  (63, .bipush 25, 2), (65, .iastore, 1), (66, .aload_n 0, 1), (67, .getfield 18, 3), (70, .iload_n 1, 1), (71, .aload_n 0, 1),
  (72, .getfield 21, 3), (75, .iastore, 1), (76, .return_, 1)])
set_option maxRecDepth 100000 in
theorem K_Ta_split : mOk M_Ta_split := by decide +kernel
def M_Ta_goesOn : zM := ("WindBrides$Tape", ⟨"WindBrides$Tape", "goesOn", "(I)Z"⟩, prog_11_method_8_code, 2, (some .boolean), [
  (0, .iload_n 1, 1), (1, .ifCond .ne 5, 3), (4, .iconst 0, 1), (5, .ireturn, 1), (6, .aload_n 0, 1), (7, .getfield 11, 3),
  (10, .iload_n 1, 1), (11, .iconst 1, 1), (12, .isub, 1), (13, .iaload, 1), (14, .invokestatic 51, 3), (17, .ifCond .eq 15, 3),
  (20, .aload_n 0, 1), (21, .getfield 11, 3), (24, .iload_n 1, 1), (25, .iaload, 1), (26, .invokestatic 51, 3), (29, .ifCond .ne 29, 3),
  (32, .aload_n 0, 1), (33, .getfield 11, 3), (36, .iload_n 1, 1), (37, .iconst 1, 1), (38, .isub, 1), (39, .iaload, 1),
  (40, .invokestatic 54, 3), (43, .ifCond .eq 19, 3), (46, .aload_n 0, 1), (47, .getfield 11, 3), (50, .iload_n 1, 1), (51, .iaload, 1),
  (52, .invokestatic 54, 3), (55, .ifCond .eq 7, 3), (58, .iconst 1, 1), (59, .goto 4, 3), (62, .iconst 0, 1), (63, .ireturn, 1)])
set_option maxRecDepth 100000 in
theorem K_Ta_goesOn : mOk M_Ta_goesOn := by decide +kernel
def M_Ta_isLetter : zM := ("WindBrides$Tape", ⟨"WindBrides$Tape", "isLetter", "(I)Z"⟩, prog_11_method_6_code, 1, (some .boolean), [
  (0, .iload_n 0, 1), (1, .bipush 97, 2), (3, .if_icmp .lt 13, 3), (6, .iload_n 0, 1), (7, .bipush 122, 2), (9, .if_icmp .gt 7, 3),
  (12, .iconst 1, 1), (13, .goto 4, 3), (16, .iconst 0, 1), (17, .ireturn, 1)])
set_option maxRecDepth 100000 in
theorem K_Ta_isLetter : mOk M_Ta_isLetter := by decide +kernel
def M_Ta_isDigit : zM := ("WindBrides$Tape", ⟨"WindBrides$Tape", "isDigit", "(I)Z"⟩, prog_11_method_7_code, 1, (some .boolean), [
  (0, .iload_n 0, 1), (1, .bipush 48, 2), (3, .if_icmp .lt 13, 3), (6, .iload_n 0, 1), (7, .bipush 57, 2), (9, .if_icmp .gt 7, 3),
  (12, .iconst 1, 1), (13, .goto 4, 3), (16, .iconst 0, 1), (17, .ireturn, 1)])
set_option maxRecDepth 100000 in
theorem K_Ta_isDigit : mOk M_Ta_isDigit := by decide +kernel
def M_Ta_tokenOf : zM := ("WindBrides$Tape", ⟨"WindBrides$Tape", "tokenOf", "(I)I"⟩, prog_11_method_9_code, 3, (some .int), [
  (0, .iload_n 1, 1), (1, .iconst 1, 1), (2, .iadd, 1), (3, .istore_n 2, 1), (4, .iload_n 2, 1), (5, .aload_n 0, 1),
  (6, .getfield 21, 3), (9, .if_icmp .ge 17, 3), (12, .aload_n 0, 1), (13, .iload_n 2, 1), (14, .invokevirtual 43, 3), (17, .ifCond .eq 9, 3),
  (20, .iinc 2 1, 3), (23, .goto (-19), 3), (26, .aload_n 0, 1), (27, .getfield 11, 3), (30, .iload_n 1, 1), (31, .iaload, 1),
  (32, .invokestatic 51, 3), (35, .ifCond .eq 12, 3), (38, .aload_n 0, 1), (39, .iload_n 1, 1), (40, .iload_n 2, 1), (41, .iload_n 1, 1),
  (42, .isub, 1), (43, .invokevirtual 57, 3), (46, .ireturn, 1), (47, .aload_n 0, 1), (48, .getfield 11, 3), (51, .iload_n 1, 1),
  (52, .iaload, 1), (53, .invokestatic 54, 3), (56, .ifCond .eq 10, 3), (59, .aload_n 0, 1), (60, .iload_n 1, 1), (61, .iload_n 2, 1),
  (62, .invokevirtual 61, 3), (65, .ireturn, 1), (66, .aload_n 0, 1), (67, .getfield 11, 3), (70, .iload_n 1, 1), (71, .iaload, 1),
  (72, .lookupswitch 78 #[(40, 63), (41, 66), (59, 60), (60, 69), (61, 72), (62, 75)], 60), (132, .bipush 18, 2), (134, .ireturn, 1), (135, .bipush 19, 2), (137, .ireturn, 1), (138, .bipush 20, 2),
  (140, .ireturn, 1), (141, .bipush 21, 2), (143, .ireturn, 1), (144, .bipush 22, 2), (146, .ireturn, 1), (147, .bipush 23, 2),
  (149, .ireturn, 1), (150, .bipush 24, 2), (152, .ireturn, 1)])
set_option maxRecDepth 100000 in
theorem K_Ta_tokenOf : mOk M_Ta_tokenOf := by decide +kernel
def M_Ta_wordOf : zM := ("WindBrides$Tape", ⟨"WindBrides$Tape", "wordOf", "(II)I"⟩, prog_11_method_11_code, 4, (some .int), [
  (0, .iconst 0, 1), (1, .istore_n 3, 1), (2, .iload_n 3, 1), (3, .bipush 18, 2), (5, .if_icmp .ge 27, 3), (8, .iload_n 2, 1),
  (9, .bipush 7, 2), (11, .if_icmp .ge 21, 3), (14, .aload_n 0, 1), (15, .iload_n 3, 1), (16, .iload_n 1, 1), (17, .iload_n 2, 1),
  (18, .invokevirtual 64, 3), (21, .ifCond .eq 5, 3), (24, .iload_n 3, 1), (25, .ireturn, 1), (26, .iinc 3 1, 3), (29, .goto (-27), 3),
  (32, .bipush 24, 2), (34, .ireturn, 1)])
set_option maxRecDepth 100000 in
theorem K_Ta_wordOf : mOk M_Ta_wordOf := by decide +kernel
def M_Ta_isWord : zM := ("WindBrides$Tape", ⟨"WindBrides$Tape", "isWord", "(III)Z"⟩, prog_11_method_12_code, 5, (some .boolean), [
  (0, .iconst 0, 1), (1, .istore 4, 2), (3, .iload 4, 2), (5, .iload_n 3, 1), (6, .if_icmp .ge 35, 3), (9, .aload_n 0, 1),
  (10, .getfield 11, 3), (13, .iload_n 2, 1), (14, .iload 4, 2), (16, .iadd, 1), (17, .iaload, 1), (18, .ldc 68, 2),
  (20, .iload_n 1, 1), (21, .bipush 7, 2), (23, .imul, 1), (24, .iload 4, 2), (26, .iadd, 1), (27, .invokevirtual 70, 3),
  (30, .if_icmp .eq 5, 3), (33, .iconst 0, 1), (34, .ireturn, 1), (35, .iinc 4 1, 3), (38, .goto (-35), 3), (41, .ldc 68, 2),
  (43, .iload_n 1, 1), (44, .bipush 7, 2), (46, .imul, 1), (47, .iload_n 3, 1), (48, .iadd, 1), (49, .invokevirtual 70, 3),
  (52, .bipush 32, 2), (54, .if_icmp .ne 7, 3), (57, .iconst 1, 1), (58, .goto 4, 3), (61, .iconst 0, 1), (62, .ireturn, 1)])
set_option maxRecDepth 100000 in
theorem K_Ta_isWord : mOk M_Ta_isWord := by decide +kernel
def M_Ta_numberOf : zM := ("WindBrides$Tape", ⟨"WindBrides$Tape", "numberOf", "(II)I"⟩, prog_11_method_10_code, 5, (some .int), [
  (0, .iload_n 2, 1), (1, .iload_n 1, 1), (2, .isub, 1), (3, .iconst 4, 1), (4, .if_icmp .le 6, 3), (7, .bipush 24, 2),
  (9, .ireturn, 1), (10, .iconst 0, 1), (11, .istore_n 3, 1), (12, .iload_n 1, 1), (13, .istore 4, 2), (15, .iload 4, 2),
  (17, .iload_n 2, 1), (18, .if_icmp .ge 25, 3), (21, .bipush 10, 2), (23, .iload_n 3, 1), (24, .imul, 1), (25, .aload_n 0, 1),
  (26, .getfield 11, 3), (29, .iload 4, 2), (31, .iaload, 1), (32, .iadd, 1), (33, .bipush 48, 2), (35, .isub, 1),
  (36, .istore_n 3, 1), (37, .iinc 4 1, 3), (40, .goto (-25), 3), (43, .bipush 100, 2), (45, .iload_n 3, 1), (46, .iadd, 1),
  (47, .ireturn, 1)])
set_option maxRecDepth 100000 in
theorem K_Ta_numberOf : mOk M_Ta_numberOf := by decide +kernel
def M_Bk_clear : zM := ("WindBrides$Book", ⟨"WindBrides$Book", "clear", "()V"⟩, prog_2_method_3_code, 1, none, [
  (0, .aload_n 0, 1), (1, .iconst 0, 1), (2, .putfield 26, 3), (5, .aload_n 0, 1), (6, .iconst 0, 1), (7, .putfield 30, 3),
  (10, .return_, 1)])
set_option maxRecDepth 100000 in
theorem K_Bk_clear : mOk M_Bk_clear := by decide +kernel
def M_Ta_readRule : zM := ("WindBrides$Tape", ⟨"WindBrides$Tape", "readRule", "(LWindBrides$Book;)Z"⟩, prog_11_method_14_code, 4, (some .boolean), [
  (0, .aload_n 0, 1), (1, .getfield 15, 3), (4, .aload_n 0, 1), (5, .getfield 28, 3), (8, .iaload, 1), (9, .istore_n 2, 1),
  (10, .iload_n 2, 1), (11, .iconst 0, 1), (12, .iconst 5, 1), (13, .invokestatic 76, 3), (16, .ifCond .ne 5, 3), (19, .iconst 0, 1),
  (20, .ireturn, 1), (21, .aload_n 0, 1), (22, .dup, 1), (23, .getfield 28, 3), (26, .iconst 1, 1), (27, .iadd, 1),
  (28, .putfield 28, 3), (31, .aload_n 0, 1), (32, .bipush 9, 2), (34, .invokevirtual 79, 3), (37, .ifCond .eq 14, 3), (40, .aload_n 0, 1),
  (41, .aload_n 1, 1), (42, .iconst 0, 1), (43, .invokevirtual 82, 3), (46, .ifCond .ne 5, 3), (49, .iconst 0, 1), (50, .ireturn, 1),
  (51, .aload_n 0, 1), (52, .getfield 15, 3), (55, .aload_n 0, 1), (56, .getfield 28, 3), (59, .iaload, 1), (60, .istore_n 3, 1),
  (61, .iload_n 3, 1), (62, .bipush 6, 2), (64, .bipush 8, 2), (66, .invokestatic 76, 3), (69, .ifCond .ne 5, 3), (72, .iconst 0, 1),
  (73, .ireturn, 1), (74, .aload_n 0, 1), (75, .dup, 1), (76, .getfield 28, 3), (79, .iconst 1, 1), (80, .iadd, 1),
  (81, .putfield 28, 3), (84, .aload_n 1, 1), (85, .iload_n 2, 1), (86, .iload_n 3, 1), (87, .bipush 6, 2), (89, .isub, 1),
  (90, .invokevirtual 86, 3), (93, .aload_n 0, 1), (94, .bipush 18, 2), (96, .invokevirtual 79, 3), (99, .ireturn, 1)])
set_option maxRecDepth 100000 in
theorem K_Ta_readRule : mOk M_Ta_readRule := by decide +kernel
def M_Ta_reads : zM := ("WindBrides$Tape", ⟨"WindBrides$Tape", "reads", "(I)Z"⟩, prog_11_method_13_code, 3, (some .boolean), [
  (0, .aload_n 0, 1), (1, .getfield 15, 3), (4, .aload_n 0, 1), (5, .getfield 28, 3), (8, .iaload, 1), (9, .iload_n 1, 1),
  (10, .if_icmp .ne 7, 3), (13, .iconst 1, 1), (14, .goto 4, 3), (17, .iconst 0, 1), (18, .istore_n 2, 1), (19, .aload_n 0, 1),
  (20, .dup, 1), (21, .getfield 28, 3), (24, .iload_n 2, 1), (25, .ifCond .eq 7, 3), (28, .iconst 1, 1), (29, .goto 4, 3),
  (32, .iconst 0, 1), (33, .iadd, 1), (34, .putfield 28, 3), (37, .iload_n 2, 1), (38, .ireturn, 1)])
set_option maxRecDepth 100000 in
theorem K_Ta_reads : mOk M_Ta_reads := by decide +kernel
def M_Ta_readCondition : zM := ("WindBrides$Tape", ⟨"WindBrides$Tape", "readCondition", "(LWindBrides$Book;I)Z"⟩, prog_11_method_15_code, 6, (some .boolean), [
  (0, .iconst 0, 1), (1, .istore_n 3, 1), (2, .iconst 0, 1), (3, .istore 4, 2), (5, .iconst 0, 1), (6, .istore 5, 2),
  (8, .iload 5, 2), (10, .sipush 200, 3), (13, .if_icmp .ge 70, 3), (16, .aload_n 0, 1), (17, .aload_n 1, 1), (18, .iload_n 2, 1),
  (19, .invokevirtual 90, 3), (22, .ifCond .ne 5, 3), (25, .iconst 0, 1), (26, .ireturn, 1), (27, .iload_n 3, 1), (28, .ifCond .eq 9, 3),
  (31, .aload_n 1, 1), (32, .bipush 11, 2), (34, .invokevirtual 93, 3), (37, .aload_n 0, 1), (38, .bipush 11, 2), (40, .invokevirtual 79, 3),
  (43, .istore_n 3, 1), (44, .iload_n 3, 1), (45, .ifCond .eq 6, 3), (48, .goto 29, 3), (51, .iload 4, 2), (53, .ifCond .eq 9, 3),
  (56, .aload_n 1, 1), (57, .bipush 10, 2), (59, .invokevirtual 93, 3), (62, .aload_n 0, 1), (63, .bipush 10, 2), (65, .invokevirtual 79, 3),
  (68, .istore 4, 2), (70, .iload 4, 2), (72, .ifCond .ne 5, 3), (75, .iconst 1, 1), (76, .ireturn, 1), (77, .iinc 5 1, 3),
  (80, .goto (-72), 3), (83, .iconst 0, 1), (84, .ireturn, 1)])
set_option maxRecDepth 100000 in
theorem K_Ta_readCondition : mOk M_Ta_readCondition := by decide +kernel
def M_Ta_readOne : zM := ("WindBrides$Tape", ⟨"WindBrides$Tape", "readOne", "(LWindBrides$Book;I)Z"⟩, prog_11_method_16_code, 5, (some .boolean), [
  (0, .iconst 0, 1), (1, .istore_n 3, 1), (2, .aload_n 0, 1), (3, .getfield 28, 3), (6, .sipush 200, 3), (9, .if_icmp .ge 40, 3),
  (12, .aload_n 0, 1), (13, .getfield 15, 3), (16, .aload_n 0, 1), (17, .getfield 28, 3), (20, .iaload, 1), (21, .bipush 12, 2),
  (23, .if_icmp .ne 26, 3), (26, .iload_n 3, 1), (27, .ifCond .ne 7, 3), (30, .iconst 1, 1), (31, .goto 4, 3), (34, .iconst 0, 1),
  (35, .istore_n 3, 1), (36, .aload_n 0, 1), (37, .dup, 1), (38, .getfield 28, 3), (41, .iconst 1, 1), (42, .iadd, 1),
  (43, .putfield 28, 3), (46, .goto (-44), 3), (49, .aload_n 0, 1), (50, .getfield 15, 3), (53, .aload_n 0, 1), (54, .getfield 28, 3),
  (57, .iaload, 1), (58, .bipush 19, 2), (60, .if_icmp .ne 48, 3), (63, .iload_n 2, 1), (64, .iconst 3, 1), (65, .if_icmp .ge 43, 3),
  (68, .aload_n 0, 1), (69, .dup, 1), (70, .getfield 28, 3), (73, .iconst 1, 1), (74, .iadd, 1), (75, .putfield 28, 3),
  (78, .aload_n 0, 1), (79, .aload_n 1, 1), (80, .iload_n 2, 1), (81, .iconst 1, 1), (82, .iadd, 1), (83, .invokevirtual 82, 3),
  (86, .ifCond .eq 16, 3), (89, .aload_n 0, 1), (90, .bipush 20, 2), (92, .invokevirtual 79, 3), (95, .ifCond .eq 7, 3), (98, .iconst 1, 1),
  (99, .goto 4, 3), (102, .iconst 0, 1), (103, .istore 4, 2), (105, .goto 10, 3), (108, .aload_n 0, 1), (109, .aload_n 1, 1),
  (110, .invokevirtual 97, 3), (113, .istore 4, 2), (115, .iload 4, 2), (117, .ifCond .eq 13, 3), (120, .iload_n 3, 1), (121, .ifCond .eq 9, 3),
  (124, .aload_n 1, 1), (125, .bipush 12, 2), (127, .invokevirtual 93, 3), (130, .iload 4, 2), (132, .ireturn, 1)])
set_option maxRecDepth 100000 in
theorem K_Ta_readOne : mOk M_Ta_readOne := by decide +kernel
def M_Ta_readComparison : zM := ("WindBrides$Tape", ⟨"WindBrides$Tape", "readComparison", "(LWindBrides$Book;)Z"⟩, prog_11_method_18_code, 5, (some .boolean), [
  (0, .aload_n 0, 1), (1, .getfield 15, 3), (4, .aload_n 0, 1), (5, .getfield 28, 3), (8, .iaload, 1), (9, .istore_n 2, 1),
  (10, .iload_n 2, 1), (11, .invokestatic 100, 3), (14, .ifCond .ne 5, 3), (17, .iconst 0, 1), (18, .ireturn, 1), (19, .aload_n 0, 1),
  (20, .dup, 1), (21, .getfield 28, 3), (24, .iconst 1, 1), (25, .iadd, 1), (26, .putfield 28, 3), (29, .aload_n 0, 1),
  (30, .getfield 15, 3), (33, .aload_n 0, 1), (34, .getfield 28, 3), (37, .iaload, 1), (38, .istore_n 3, 1), (39, .iload_n 3, 1),
  (40, .bipush 21, 2), (42, .bipush 23, 2), (44, .invokestatic 76, 3), (47, .ifCond .ne 5, 3), (50, .iconst 0, 1), (51, .ireturn, 1),
  (52, .aload_n 0, 1), (53, .dup, 1), (54, .getfield 28, 3), (57, .iconst 1, 1), (58, .iadd, 1), (59, .putfield 28, 3),
  (62, .aload_n 0, 1), (63, .getfield 15, 3), (66, .aload_n 0, 1), (67, .getfield 28, 3), (70, .iaload, 1), (71, .istore 4, 2),
  (73, .iload 4, 2), (75, .invokestatic 100, 3), (78, .ifCond .ne 5, 3), (81, .iconst 0, 1), (82, .ireturn, 1), (83, .aload_n 0, 1),
  (84, .dup, 1), (85, .getfield 28, 3), (88, .iconst 1, 1), (89, .iadd, 1), (90, .putfield 28, 3), (93, .aload_n 1, 1),
  (94, .iload_n 3, 1), (95, .invokevirtual 93, 3), (98, .aload_n 1, 1), (99, .iload_n 2, 1), (100, .invokevirtual 93, 3), (103, .aload_n 1, 1),
  (104, .iload 4, 2), (106, .invokevirtual 93, 3), (109, .iconst 1, 1), (110, .ireturn, 1)])
set_option maxRecDepth 100000 in
theorem K_Ta_readComparison : mOk M_Ta_readComparison := by decide +kernel
def M_Ta_isValue : zM := ("WindBrides$Tape", ⟨"WindBrides$Tape", "isValue", "(I)Z"⟩, prog_11_method_17_code, 1, (some .boolean), [
  (0, .iload_n 0, 1), (1, .bipush 100, 2), (3, .if_icmp .ge 14, 3), (6, .iload_n 0, 1), (7, .bipush 13, 2), (9, .bipush 17, 2),
  (11, .invokestatic 76, 3), (14, .ifCond .eq 7, 3), (17, .iconst 1, 1), (18, .goto 4, 3), (21, .iconst 0, 1), (22, .ireturn, 1)])
set_option maxRecDepth 100000 in
theorem K_Ta_isValue : mOk M_Ta_isValue := by decide +kernel
def M_Bk_writes : zM := ("WindBrides$Book", ⟨"WindBrides$Book", "writes", "(I)V"⟩, prog_2_method_4_code, 2, none, [
  (0, .aload_n 0, 1), (1, .getfield 30, 3), (4, .aload_n 0, 1), (5, .getfield 23, 3), (8, .arraylength, 1), (9, .if_icmp .ge 23, 3),
  (12, .aload_n 0, 1), (13, .getfield 23, 3), (16, .aload_n 0, 1), (17, .getfield 30, 3), (20, .iload_n 1, 1), (21, .iastore, 1),
  (22, .aload_n 0, 1), (23, .dup, 1), (24, .getfield 30, 3), (27, .iconst 1, 1), (28, .iadd, 1), (29, .putfield 30, 3),
  (32, .return_, 1)])
set_option maxRecDepth 100000 in
theorem K_Bk_writes : mOk M_Bk_writes := by decide +kernel
def M_Bk_addRule : zM := ("WindBrides$Book", ⟨"WindBrides$Book", "addRule", "(II)V"⟩, prog_2_method_5_code, 3, none, [
  (0, .aload_n 0, 1), (1, .getfield 26, 3), (4, .bipush 8, 2), (6, .if_icmp .ge 46, 3), (9, .aload_n 0, 1), (10, .getfield 11, 3),
  (13, .aload_n 0, 1), (14, .getfield 26, 3), (17, .iload_n 1, 1), (18, .iastore, 1), (19, .aload_n 0, 1), (20, .getfield 15, 3),
  (23, .aload_n 0, 1), (24, .getfield 26, 3), (27, .iload_n 2, 1), (28, .iastore, 1), (29, .aload_n 0, 1), (30, .dup, 1),
  (31, .getfield 26, 3), (34, .iconst 1, 1), (35, .iadd, 1), (36, .putfield 26, 3), (39, .aload_n 0, 1), (40, .getfield 18, 3),
  (43, .aload_n 0, 1), (44, .getfield 26, 3), (47, .aload_n 0, 1), (48, .getfield 30, 3), (51, .iastore, 1), (52, .return_, 1)])
set_option maxRecDepth 100000 in
theorem K_Bk_addRule : mOk M_Bk_addRule := by decide +kernel
def M_Bk_copyFrom : zM := ("WindBrides$Book", ⟨"WindBrides$Book", "copyFrom", "(LWindBrides$Book;)V"⟩, prog_2_method_2_code, 2, none, [
  (0, .aload_n 0, 1), (1, .aload_n 1, 1), (2, .getfield 26, 3), (5, .putfield 26, 3), (8, .aload_n 0, 1), (9, .aload_n 1, 1),
  (10, .getfield 30, 3), (13, .putfield 30, 3), (16, .aload_n 1, 1), (17, .getfield 11, 3), (20, .iconst 0, 1), (21, .aload_n 0, 1),
  (22, .getfield 11, 3), (25, .iconst 0, 1), (26, .bipush 8, 2), (28, .invokestatic 33, 3), (31, .aload_n 1, 1), (32, .getfield 15, 3),
  (35, .iconst 0, 1), (36, .aload_n 0, 1), (37, .getfield 15, 3), (40, .iconst 0, 1), (41, .bipush 8, 2), (43, .invokestatic 33, 3),
  (46, .aload_n 1, 1), (47, .getfield 18, 3), (50, .iconst 0, 1), (51, .aload_n 0, 1), (52, .getfield 18, 3), (55, .iconst 0, 1),
  (56, .bipush 9, 2), (58, .invokestatic 33, 3), (61, .aload_n 1, 1), (62, .getfield 23, 3), (65, .iconst 0, 1), (66, .aload_n 0, 1),
  (67, .getfield 23, 3), (70, .iconst 0, 1), (71, .aload_n 1, 1), (72, .getfield 30, 3), (75, .invokestatic 33, 3), (78, .return_, 1)])
set_option maxRecDepth 100000 in
theorem K_Bk_copyFrom : mOk M_Bk_copyFrom := by decide +kernel
def M_Cr_passes : zM := ("WindBrides$Course", ⟨"WindBrides$Course", "passes", "(LWindBrides$Coast;I)I"⟩, prog_6_method_8_code, 7, (some .int), [
  (0, .iconst 0, 1), (1, .istore_n 3, 1), (2, .iconst 0, 1), (3, .istore 4, 2), (5, .aload_n 0, 1), (6, .iconst 0, 1),
  (7, .putfield 27, 3), (10, .iconst 0, 1), (11, .istore 5, 2), (13, .iload 5, 2), (15, .aload_n 1, 1), (16, .getfield 41, 3),
  (19, .if_icmp .ge 152, 3), (22, .iload 5, 2), (24, .iconst 1, 1), (25, .iadd, 1), (26, .iload_n 2, 1), (27, .if_icmp .ne 6, 3),
  (30, .goto 135, 3), (33, .aload_n 1, 1), (34, .aload_n 0, 1), (35, .getfield 9, 3), (38, .iload 5, 2), (40, .iaload, 1),
  (41, .aload_n 0, 1), (42, .getfield 23, 3), (45, .invokevirtual 60, 3), (48, .ifCond .ne 17, 3), (51, .aload_n 0, 1), (52, .aload_n 1, 1),
  (53, .iload 5, 2), (55, .aload_n 0, 1), (56, .aload_n 1, 1), (57, .iload 5, 2), (59, .invokevirtual 64, 3), (62, .invokevirtual 68, 3),
  (65, .aload_n 0, 1), (66, .getfield 9, 3), (69, .iload 5, 2), (71, .iaload, 1), (72, .istore 6, 2), (74, .aload_n 1, 1),
  (75, .iload 6, 2), (77, .aload_n 0, 1), (78, .getfield 23, 3), (81, .invokevirtual 60, 3), (84, .ifCond .eq 67, 3), (87, .iload 4, 2),
  (89, .iload 6, 2), (91, .ishr, 1), (92, .iconst 1, 1), (93, .iand, 1), (94, .ifCond .ne 57, 3), (97, .iload 4, 2),
  (99, .iconst 1, 1), (100, .iload 6, 2), (102, .ishl, 1), (103, .ior, 1), (104, .istore 4, 2), (106, .aload_n 0, 1),
  (107, .dup, 1), (108, .getfield 27, 3), (111, .iconst 1, 1), (112, .iload 5, 2), (114, .ishl, 1), (115, .ior, 1),
  (116, .putfield 27, 3), (119, .aload_n 0, 1), (120, .getfield 15, 3), (123, .iload 5, 2), (125, .aload_n 1, 1), (126, .getfield 36, 3),
  (129, .iload 5, 2), (131, .iaload, 1), (132, .iastore, 1), (133, .iload_n 3, 1), (134, .aload_n 1, 1), (135, .iload 5, 2),
  (137, .iload 6, 2), (139, .aload_n 0, 1), (140, .getfield 23, 3), (143, .invokevirtual 72, 3), (146, .iadd, 1), (147, .istore_n 3, 1),
  (148, .goto 17, 3), (151, .iload 6, 2), (153, .bipush 6, 2), (155, .if_icmp .eq 10, 3), (158, .aload_n 0, 1), (159, .aload_n 1, 1),
  (160, .iload 5, 2), (162, .invokevirtual 76, 3), (165, .iinc 5 1, 3), (168, .goto (-155), 3), (171, .aload_n 0, 1), (172, .dup, 1),
  (173, .getfield 23, 3), (176, .iconst 1, 1), (177, .iadd, 1), (178, .putfield 23, 3), (181, .iload_n 3, 1), (182, .ireturn, 1)])
set_option maxRecDepth 100000 in
theorem K_Cr_passes : mOk M_Cr_passes := by decide +kernel
def M_Cr_meetsCalm : zM := ("WindBrides$Course", ⟨"WindBrides$Course", "meetsCalm", "(LWindBrides$Coast;II)V"⟩, prog_6_method_10_code, 5, none, [
  (0, .iload_n 3, 1), (1, .iconst 2, 1), (2, .if_icmp .ne 14, 3), (5, .aload_n 0, 1), (6, .aload_n 1, 1), (7, .iload_n 2, 1),
  (8, .bipush 6, 2), (10, .invokevirtual 80, 3), (13, .goto 31, 3), (16, .iload_n 3, 1), (17, .iconst 1, 1), (18, .if_icmp .ne 26, 3),
  (21, .aload_n 0, 1), (22, .aload_n 1, 1), (23, .iload_n 2, 1), (24, .invokevirtual 83, 3), (27, .istore 4, 2), (29, .iload 4, 2),
  (31, .bipush 6, 2), (33, .if_icmp .eq 11, 3), (36, .aload_n 0, 1), (37, .aload_n 1, 1), (38, .iload_n 2, 1), (39, .iload 4, 2),
  (41, .invokevirtual 80, 3), (44, .return_, 1)])
set_option maxRecDepth 100000 in
theorem K_Cr_meetsCalm : mOk M_Cr_meetsCalm := by decide +kernel
def M_Cr_freeWindFor : zM := ("WindBrides$Course", ⟨"WindBrides$Course", "freeWindFor", "(LWindBrides$Coast;I)I"⟩, prog_6_method_11_code, 8, (some .int), [
  (0, .bipush 6, 2), (2, .istore_n 3, 1), (3, .iconst (-1), 1), (4, .istore 4, 2), (6, .aload_n 0, 1), (7, .aload_n 1, 1),
  (8, .invokevirtual 86, 3), (11, .istore 5, 2), (13, .iconst 0, 1), (14, .istore 6, 2), (16, .iload 6, 2), (18, .aload_n 1, 1),
  (19, .getfield 90, 3), (22, .if_icmp .ge 59, 3), (25, .aload_n 1, 1), (26, .iload 6, 2), (28, .aload_n 0, 1), (29, .getfield 23, 3),
  (32, .invokevirtual 60, 3), (35, .ifCond .eq 40, 3), (38, .iload 5, 2), (40, .iload 6, 2), (42, .ishr, 1), (43, .iconst 1, 1),
  (44, .iand, 1), (45, .ifCond .ne 30, 3), (48, .aload_n 1, 1), (49, .iload_n 2, 1), (50, .iload 6, 2), (52, .aload_n 0, 1),
  (53, .getfield 23, 3), (56, .invokevirtual 72, 3), (59, .istore 7, 2), (61, .iload 7, 2), (63, .iload 4, 2), (65, .if_icmp .le 10, 3),
  (68, .iload 7, 2), (70, .istore 4, 2), (72, .iload 6, 2), (74, .istore_n 3, 1), (75, .iinc 6 1, 3), (78, .goto (-62), 3),
  (81, .iload_n 3, 1), (82, .ireturn, 1)])
set_option maxRecDepth 100000 in
theorem K_Cr_freeWindFor : mOk M_Cr_freeWindFor := by decide +kernel
def M_Cr_windsWithBrides : zM := ("WindBrides$Course", ⟨"WindBrides$Course", "windsWithBrides", "(LWindBrides$Coast;)I"⟩, prog_6_method_6_code, 4, (some .int), [
  (0, .iconst 0, 1), (1, .istore_n 2, 1), (2, .iconst 0, 1), (3, .istore_n 3, 1), (4, .iload_n 3, 1), (5, .aload_n 1, 1),
  (6, .getfield 41, 3), (9, .if_icmp .ge 20, 3), (12, .iload_n 2, 1), (13, .iconst 1, 1), (14, .aload_n 0, 1), (15, .getfield 9, 3),
  (18, .iload_n 3, 1), (19, .iaload, 1), (20, .ishl, 1), (21, .ior, 1), (22, .istore_n 2, 1), (23, .iinc 3 1, 3),
  (26, .goto (-22), 3), (29, .iload_n 2, 1), (30, .ireturn, 1)])
set_option maxRecDepth 100000 in
theorem K_Cr_windsWithBrides : mOk M_Cr_windsWithBrides := by decide +kernel
def M_Cr_wearsOut : zM := ("WindBrides$Course", ⟨"WindBrides$Course", "wearsOut", "(LWindBrides$Coast;I)V"⟩, prog_6_method_9_code, 3, none, [
  (0, .aload_n 0, 1), (1, .getfield 15, 3), (4, .iload_n 2, 1), (5, .dup2, 1), (6, .iaload, 1), (7, .iconst 1, 1),
  (8, .isub, 1), (9, .iastore, 1), (10, .aload_n 0, 1), (11, .getfield 15, 3), (14, .iload_n 2, 1), (15, .iaload, 1),
  (16, .ifCond .gt 11, 3), (19, .aload_n 0, 1), (20, .aload_n 1, 1), (21, .iload_n 2, 1), (22, .bipush 6, 2), (24, .invokevirtual 80, 3),
  (27, .return_, 1)])
set_option maxRecDepth 100000 in
theorem K_Cr_wearsOut : mOk M_Cr_wearsOut := by decide +kernel
def M_Cr_copyFrom : zM := ("WindBrides$Course", ⟨"WindBrides$Course", "copyFrom", "(LWindBrides$Course;)V"⟩, prog_6_method_2_code, 2, none, [
  (0, .aload_n 0, 1), (1, .aload_n 1, 1), (2, .getfield 23, 3), (5, .putfield 23, 3), (8, .aload_n 0, 1), (9, .aload_n 1, 1),
  (10, .getfield 27, 3), (13, .putfield 27, 3), (16, .aload_n 1, 1), (17, .getfield 9, 3), (20, .iconst 0, 1), (21, .aload_n 0, 1),
  (22, .getfield 9, 3), (25, .iconst 0, 1), (26, .bipush 6, 2), (28, .invokestatic 30, 3), (31, .aload_n 1, 1), (32, .getfield 15, 3),
  (35, .iconst 0, 1), (36, .aload_n 0, 1), (37, .getfield 15, 3), (40, .iconst 0, 1), (41, .bipush 6, 2), (43, .invokestatic 30, 3),
  (46, .return_, 1)])
set_option maxRecDepth 100000 in
theorem K_Cr_copyFrom : mOk M_Cr_copyFrom := by decide +kernel
def M_Co_pairLeaves : zM := ("WindBrides$Coast", ⟨"WindBrides$Coast", "pairLeaves", "(II)Z"⟩, prog_5_method_15_code, 4, (some .boolean), [
  (0, .aload_n 0, 1), (1, .getfield 43, 3), (4, .getfield 109, 3), (7, .iload_n 1, 1), (8, .iaload, 1), (9, .iload_n 2, 1),
  (10, .if_icmp .eq 21, 3), (13, .aload_n 0, 1), (14, .iload_n 1, 1), (15, .iload_n 2, 1), (16, .aload_n 0, 1), (17, .getfield 43, 3),
  (20, .getfield 109, 3), (23, .iload_n 1, 1), (24, .iaload, 1), (25, .invokevirtual 112, 3), (28, .ifCond .ne 5, 3), (31, .iconst 0, 1),
  (32, .ireturn, 1), (33, .iconst 0, 1), (34, .istore_n 3, 1), (35, .iload_n 3, 1), (36, .aload_n 0, 1), (37, .getfield 60, 3),
  (40, .if_icmp .ge 34, 3), (43, .aload_n 0, 1), (44, .getfield 43, 3), (47, .getfield 109, 3), (50, .iload_n 3, 1), (51, .iaload, 1),
  (52, .iload_n 2, 1), (53, .if_icmp .ne 15, 3), (56, .aload_n 0, 1), (57, .iload_n 2, 1), (58, .iload_n 1, 1), (59, .iload_n 3, 1),
  (60, .invokevirtual 116, 3), (63, .ifCond .ne 5, 3), (66, .iconst 0, 1), (67, .ireturn, 1), (68, .iinc 3 1, 3), (71, .goto (-36), 3),
  (74, .iconst 1, 1), (75, .ireturn, 1)])
set_option maxRecDepth 100000 in
theorem K_Co_pairLeaves : mOk M_Co_pairLeaves := by decide +kernel
def M_Co_girlLikes : zM := ("WindBrides$Coast", ⟨"WindBrides$Coast", "girlLikes", "(III)Z"⟩, prog_5_method_13_code, 7, (some .boolean), [
  (0, .iload_n 3, 1), (1, .bipush 6, 2), (3, .if_icmp .ne 5, 3), (6, .iconst 1, 1), (7, .ireturn, 1), (8, .aload_n 0, 1),
  (9, .invokevirtual 101, 3), (12, .istore 4, 2), (14, .aload_n 0, 1), (15, .iload_n 1, 1), (16, .iload_n 2, 1), (17, .iload 4, 2),
  (19, .invokevirtual 105, 3), (22, .istore 5, 2), (24, .aload_n 0, 1), (25, .iload_n 1, 1), (26, .iload_n 3, 1), (27, .iload 4, 2),
  (29, .invokevirtual 105, 3), (32, .istore 6, 2), (34, .iload 5, 2), (36, .iload 6, 2), (38, .if_icmp .gt 15, 3), (41, .iload 5, 2),
  (43, .iload 6, 2), (45, .if_icmp .ne 12, 3), (48, .iload_n 2, 1), (49, .iload_n 3, 1), (50, .if_icmp .ge 7, 3), (53, .iconst 1, 1),
  (54, .goto 4, 3), (57, .iconst 0, 1), (58, .ireturn, 1)])
set_option maxRecDepth 100000 in
theorem K_Co_girlLikes : mOk M_Co_girlLikes := by decide +kernel
def M_Co_heldMonth : zM := ("WindBrides$Coast", ⟨"WindBrides$Coast", "heldMonth", "()I"⟩, prog_5_method_12_code, 1, (some .int), [
  (0, .aload_n 0, 1), (1, .getfield 43, 3), (4, .getfield 85, 3), (7, .bipush 15, 2), (9, .if_icmp .ge 13, 3), (12, .aload_n 0, 1),
  (13, .getfield 43, 3), (16, .getfield 85, 3), (19, .goto 5, 3), (22, .bipush 15, 2), (24, .ireturn, 1)])
set_option maxRecDepth 100000 in
theorem K_Co_heldMonth : mOk M_Co_heldMonth := by decide +kernel
def M_Co_windLikes : zM := ("WindBrides$Coast", ⟨"WindBrides$Coast", "windLikes", "(III)Z"⟩, prog_5_method_14_code, 6, (some .boolean), [
  (0, .aload_n 0, 1), (1, .getfield 21, 3), (4, .iload_n 1, 1), (5, .iaload, 1), (6, .aload_n 0, 1), (7, .getfield 15, 3),
  (10, .iload_n 2, 1), (11, .iaload, 1), (12, .invokestatic 92, 3), (15, .istore 4, 2), (17, .aload_n 0, 1), (18, .getfield 21, 3),
  (21, .iload_n 1, 1), (22, .iaload, 1), (23, .aload_n 0, 1), (24, .getfield 15, 3), (27, .iload_n 3, 1), (28, .iaload, 1),
  (29, .invokestatic 92, 3), (32, .istore 5, 2), (34, .iload 4, 2), (36, .iload 5, 2), (38, .if_icmp .lt 15, 3), (41, .iload 4, 2),
  (43, .iload 5, 2), (45, .if_icmp .ne 12, 3), (48, .iload_n 2, 1), (49, .iload_n 3, 1), (50, .if_icmp .ge 7, 3), (53, .iconst 1, 1),
  (54, .goto 4, 3), (57, .iconst 0, 1), (58, .ireturn, 1)])
set_option maxRecDepth 100000 in
theorem K_Co_windLikes : mOk M_Co_windLikes := by decide +kernel
def M_Co_keptWind : zM := ("WindBrides$Coast", ⟨"WindBrides$Coast", "keptWind", "(I)I"⟩, prog_5_method_16_code, 4, (some .int), [
  (0, .iconst 0, 1), (1, .istore_n 2, 1), (2, .iload_n 2, 1), (3, .aload_n 0, 1), (4, .getfield 60, 3), (7, .if_icmp .ge 22, 3),
  (10, .aload_n 0, 1), (11, .getfield 57, 3), (14, .iload_n 2, 1), (15, .aload_n 0, 1), (16, .iload_n 2, 1), (17, .bipush 6, 2),
  (19, .invokevirtual 119, 3), (22, .iastore, 1), (23, .iinc 2 1, 3), (26, .goto (-24), 3), (29, .iconst 0, 1), (30, .istore_n 2, 1),
  (31, .iload_n 2, 1), (32, .bipush 36, 2), (34, .if_icmp .gt 38, 3), (37, .aload_n 0, 1), (38, .invokevirtual 122, 3), (41, .istore_n 3, 1),
  (42, .iload_n 3, 1), (43, .ifCond .ge 6, 3), (46, .goto 26, 3), (49, .aload_n 0, 1), (50, .getfield 57, 3), (53, .iload_n 3, 1),
  (54, .aload_n 0, 1), (55, .iload_n 3, 1), (56, .aload_n 0, 1), (57, .getfield 57, 3), (60, .iload_n 3, 1), (61, .iaload, 1),
  (62, .invokevirtual 119, 3), (65, .iastore, 1), (66, .iinc 2 1, 3), (69, .goto (-38), 3), (72, .aload_n 0, 1), (73, .getfield 57, 3),
  (76, .iload_n 1, 1), (77, .iaload, 1), (78, .ireturn, 1)])
set_option maxRecDepth 100000 in
theorem K_Co_keptWind : mOk M_Co_keptWind := by decide +kernel
def M_Co_nextLiked : zM := ("WindBrides$Coast", ⟨"WindBrides$Coast", "nextLiked", "(II)I"⟩, prog_5_method_17_code, 6, (some .int), [
  (0, .bipush 6, 2), (2, .istore_n 3, 1), (3, .iconst 0, 1), (4, .istore 4, 2), (6, .iload 4, 2), (8, .aload_n 0, 1),
  (9, .getfield 69, 3), (12, .if_icmp .ge 58, 3), (15, .iload_n 2, 1), (16, .bipush 6, 2), (18, .if_icmp .eq 20, 3), (21, .iload 4, 2),
  (23, .iload_n 2, 1), (24, .if_icmp .eq 18, 3), (27, .aload_n 0, 1), (28, .iload_n 1, 1), (29, .iload_n 2, 1), (30, .iload 4, 2),
  (32, .invokevirtual 112, 3), (35, .ifCond .eq 7, 3), (38, .iconst 1, 1), (39, .goto 4, 3), (42, .iconst 0, 1), (43, .istore 5, 2),
  (45, .iload 5, 2), (47, .ifCond .eq 17, 3), (50, .aload_n 0, 1), (51, .iload_n 1, 1), (52, .iload 4, 2), (54, .iload_n 3, 1),
  (55, .invokevirtual 112, 3), (58, .ifCond .eq 6, 3), (61, .iload 4, 2), (63, .istore_n 3, 1), (64, .iinc 4 1, 3), (67, .goto (-61), 3),
  (70, .iload_n 3, 1), (71, .ireturn, 1)])
set_option maxRecDepth 100000 in
theorem K_Co_nextLiked : mOk M_Co_nextLiked := by decide +kernel
def M_Co_refusedGirl : zM := ("WindBrides$Coast", ⟨"WindBrides$Coast", "refusedGirl", "()I"⟩, prog_5_method_18_code, 3, (some .int), [
  (0, .iconst 0, 1), (1, .istore_n 1, 1), (2, .iload_n 1, 1), (3, .aload_n 0, 1), (4, .getfield 60, 3), (7, .if_icmp .ge 74, 3),
  (10, .iload_n 1, 1), (11, .iconst 1, 1), (12, .iadd, 1), (13, .istore_n 2, 1), (14, .iload_n 2, 1), (15, .aload_n 0, 1),
  (16, .getfield 60, 3), (19, .if_icmp .ge 56, 3), (22, .aload_n 0, 1), (23, .getfield 57, 3), (26, .iload_n 1, 1), (27, .iaload, 1),
  (28, .bipush 6, 2), (30, .if_icmp .eq 39, 3), (33, .aload_n 0, 1), (34, .getfield 57, 3), (37, .iload_n 1, 1), (38, .iaload, 1),
  (39, .aload_n 0, 1), (40, .getfield 57, 3), (43, .iload_n 2, 1), (44, .iaload, 1), (45, .if_icmp .ne 24, 3), (48, .aload_n 0, 1),
  (49, .aload_n 0, 1), (50, .getfield 57, 3), (53, .iload_n 1, 1), (54, .iaload, 1), (55, .iload_n 1, 1), (56, .iload_n 2, 1),
  (57, .invokevirtual 116, 3), (60, .ifCond .eq 7, 3), (63, .iload_n 2, 1), (64, .goto 4, 3), (67, .iload_n 1, 1), (68, .ireturn, 1),
  (69, .iinc 2 1, 3), (72, .goto (-58), 3), (75, .iinc 1 1, 3), (78, .goto (-76), 3), (81, .iconst (-1), 1), (82, .ireturn, 1)])
set_option maxRecDepth 100000 in
theorem K_Co_refusedGirl : mOk M_Co_refusedGirl := by decide +kernel
def M_Co_ringOf : zM := ("WindBrides$Coast", ⟨"WindBrides$Coast", "ringOf", "(I)I"⟩, prog_5_method_20_code, 6, (some .int), [
  (0, .iconst 1, 1), (1, .iload_n 1, 1), (2, .ishl, 1), (3, .istore_n 2, 1), (4, .iconst 1, 1), (5, .istore_n 3, 1),
  (6, .iload_n 3, 1), (7, .aload_n 0, 1), (8, .getfield 60, 3), (11, .if_icmp .gt 68, 3), (14, .iconst 0, 1), (15, .istore 4, 2),
  (17, .iconst 0, 1), (18, .istore 5, 2), (20, .iload 5, 2), (22, .aload_n 0, 1), (23, .getfield 60, 3), (26, .if_icmp .ge 33, 3),
  (29, .iload 4, 2), (31, .iload_n 2, 1), (32, .iload 5, 2), (34, .ishr, 1), (35, .iconst 1, 1), (36, .iand, 1),
  (37, .ifCond .eq 12, 3), (40, .aload_n 0, 1), (41, .iload 5, 2), (43, .invokevirtual 125, 3), (46, .goto 4, 3), (49, .iconst 0, 1),
  (50, .ior, 1), (51, .istore 4, 2), (53, .iinc 5 1, 3), (56, .goto (-36), 3), (59, .iload 4, 2), (61, .iload_n 1, 1),
  (62, .ishr, 1), (63, .iconst 1, 1), (64, .iand, 1), (65, .ifCond .eq 5, 3), (68, .iload_n 3, 1), (69, .ireturn, 1),
  (70, .iload 4, 2), (72, .istore_n 2, 1), (73, .iinc 3 1, 3), (76, .goto (-70), 3), (79, .bipush (-3), 2), (81, .ireturn, 1)])
set_option maxRecDepth 100000 in
theorem K_Co_ringOf : mOk M_Co_ringOf := by decide +kernel
def M_Co_envied : zM := ("WindBrides$Coast", ⟨"WindBrides$Coast", "envied", "(I)I"⟩, prog_5_method_19_code, 7, (some .int), [
  (0, .iconst 0, 1), (1, .istore_n 2, 1), (2, .aload_n 0, 1), (3, .invokevirtual 101, 3), (6, .istore_n 3, 1), (7, .aload_n 0, 1),
  (8, .getfield 43, 3), (11, .getfield 109, 3), (14, .iload_n 1, 1), (15, .iaload, 1), (16, .bipush 6, 2), (18, .if_icmp .ne 5, 3),
  (21, .iconst 0, 1), (22, .ireturn, 1), (23, .aload_n 0, 1), (24, .iload_n 1, 1), (25, .aload_n 0, 1), (26, .getfield 43, 3),
  (29, .getfield 109, 3), (32, .iload_n 1, 1), (33, .iaload, 1), (34, .iload_n 3, 1), (35, .invokevirtual 105, 3), (38, .istore 4, 2),
  (40, .iconst 0, 1), (41, .istore 5, 2), (43, .iload 5, 2), (45, .aload_n 0, 1), (46, .getfield 60, 3), (49, .if_icmp .ge 48, 3),
  (52, .aload_n 0, 1), (53, .getfield 43, 3), (56, .getfield 109, 3), (59, .iload 5, 2), (61, .iaload, 1), (62, .istore 6, 2),
  (64, .iload 6, 2), (66, .bipush 6, 2), (68, .if_icmp .eq 23, 3), (71, .aload_n 0, 1), (72, .iload_n 1, 1), (73, .iload 6, 2),
  (75, .iload_n 3, 1), (76, .invokevirtual 105, 3), (79, .iload 4, 2), (81, .if_icmp .le 10, 3), (84, .iload_n 2, 1), (85, .iconst 1, 1),
  (86, .iload 5, 2), (88, .ishl, 1), (89, .ior, 1), (90, .istore_n 2, 1), (91, .iinc 5 1, 3), (94, .goto (-51), 3),
  (97, .iload_n 2, 1), (98, .ireturn, 1)])
set_option maxRecDepth 100000 in
theorem K_Co_envied : mOk M_Co_envied := by decide +kernel
def M_Pl_search : zM := ("WindBrides$Plans", ⟨"WindBrides$Plans", "search", "(LWindBrides$Coast;II)V"⟩, prog_9_method_3_code, 4, none, [
  (0, .aload_n 0, 1), (1, .aload_n 1, 1), (2, .iload_n 2, 1), (3, .invokevirtual 52, 3), (6, .aload_n 0, 1), (7, .iload_n 3, 1),
  (8, .putfield 56, 3), (11, .aload_n 0, 1), (12, .iconst (-1), 1), (13, .putfield 59, 3), (16, .aload_n 0, 1), (17, .iconst 5, 1),
  (18, .putfield 62, 3), (21, .aload_n 0, 1), (22, .iconst 0, 1), (23, .putfield 65, 3), (26, .aload_n 0, 1), (27, .iconst 0, 1),
  (28, .iconst 0, 1), (29, .iconst 0, 1), (30, .invokevirtual 68, 3), (33, .return_, 1)])
set_option maxRecDepth 100000 in
theorem K_Pl_search : mOk M_Pl_search := by decide +kernel
def M_Pl_begin : zM := ("WindBrides$Plans", ⟨"WindBrides$Plans", "begin", "(LWindBrides$Coast;I)V"⟩, prog_9_method_2_code, 4, none, [
  (0, .aload_n 0, 1), (1, .aload_n 1, 1), (2, .putfield 28, 3), (5, .aload_n 1, 1), (6, .getfield 32, 3), (9, .aload_n 1, 1),
  (10, .getfield 38, 3), (13, .getfield 42, 3), (16, .isub, 1), (17, .istore_n 3, 1), (18, .aload_n 0, 1), (19, .iload_n 3, 1),
  (20, .iload_n 2, 1), (21, .if_icmp .ge 7, 3), (24, .iload_n 3, 1), (25, .goto 4, 3), (28, .iload_n 2, 1), (29, .putfield 45, 3),
  (32, .aload_n 0, 1), (33, .getfield 23, 3), (36, .iconst 0, 1), (37, .aaload, 1), (38, .aload_n 1, 1), (39, .getfield 38, 3),
  (42, .invokevirtual 48, 3), (45, .return_, 1)])
set_option maxRecDepth 100000 in
theorem K_Pl_begin : mOk M_Pl_begin := by decide +kernel
def M_Pl_tryActs : zM := ("WindBrides$Plans", ⟨"WindBrides$Plans", "tryActs", "(III)V"⟩, prog_9_method_4_code, 6, none, [
  (0, .iload_n 1, 1), (1, .aload_n 0, 1), (2, .getfield 45, 3), (5, .if_icmp .lt 10, 3), (8, .aload_n 0, 1), (9, .iload_n 2, 1),
  (10, .iload_n 3, 1), (11, .invokevirtual 72, 3), (14, .return_, 1), (15, .iconst 0, 1), (16, .istore 4, 2), (18, .iload 4, 2),
  (20, .aload_n 0, 1), (21, .getfield 28, 3), (24, .getfield 76, 3), (27, .if_icmp .gt 76, 3), (30, .aload_n 0, 1), (31, .getfield 18, 3),
  (34, .iload_n 1, 1), (35, .iload 4, 2), (37, .iastore, 1), (38, .aload_n 0, 1), (39, .getfield 23, 3), (42, .iload_n 1, 1),
  (43, .iconst 1, 1), (44, .iadd, 1), (45, .aaload, 1), (46, .aload_n 0, 1), (47, .getfield 23, 3), (50, .iload_n 1, 1),
  (51, .aaload, 1), (52, .invokevirtual 48, 3), (55, .aload_n 0, 1), (56, .getfield 23, 3), (59, .iload_n 1, 1), (60, .iconst 1, 1),
  (61, .iadd, 1), (62, .aaload, 1), (63, .aload_n 0, 1), (64, .getfield 28, 3), (67, .iload 4, 2), (69, .invokevirtual 79, 3),
  (72, .istore 5, 2), (74, .aload_n 0, 1), (75, .iload_n 1, 1), (76, .iconst 1, 1), (77, .iadd, 1), (78, .iload_n 2, 1),
  (79, .iload 5, 2), (81, .iadd, 1), (82, .iload 4, 2), (84, .ifCond .ne 7, 3), (87, .iload_n 3, 1), (88, .goto 6, 3),
  (91, .iload_n 3, 1), (92, .iconst 1, 1), (93, .iadd, 1), (94, .invokevirtual 68, 3), (97, .iinc 4 1, 3), (100, .goto (-82), 3),
  (103, .return_, 1)])
set_option maxRecDepth 100000 in
theorem K_Pl_tryActs : mOk M_Pl_tryActs := by decide +kernel
def M_Pl_weigh : zM := ("WindBrides$Plans", ⟨"WindBrides$Plans", "weigh", "(II)V"⟩, prog_9_method_5_code, 4, none, [
  (0, .iload_n 1, 1), (1, .aload_n 0, 1), (2, .getfield 59, 3), (5, .if_icmp .le 27, 3), (8, .aload_n 0, 1), (9, .iload_n 1, 1),
  (10, .putfield 59, 3), (13, .aload_n 0, 1), (14, .iconst 0, 1), (15, .putfield 83, 3), (18, .aload_n 0, 1), (19, .getfield 18, 3),
  (22, .iconst 0, 1), (23, .aload_n 0, 1), (24, .getfield 9, 3), (27, .iconst 0, 1), (28, .iconst 4, 1), (29, .invokestatic 86, 3),
  (32, .aload_n 0, 1), (33, .dup, 1), (34, .getfield 83, 3), (37, .iload_n 1, 1), (38, .aload_n 0, 1), (39, .getfield 59, 3),
  (42, .if_icmp .ne 7, 3), (45, .iconst 1, 1), (46, .goto 4, 3), (49, .iconst 0, 1), (50, .iadd, 1), (51, .putfield 83, 3),
  (54, .aload_n 0, 1), (55, .getfield 23, 3), (58, .aload_n 0, 1), (59, .getfield 45, 3), (62, .aaload, 1), (63, .aload_n 0, 1),
  (64, .getfield 28, 3), (67, .invokevirtual 92, 3), (70, .istore_n 3, 1), (71, .aload_n 0, 1), (72, .dup, 1), (73, .getfield 65, 3),
  (76, .iload_n 3, 1), (77, .ior, 1), (78, .putfield 65, 3), (81, .aload_n 0, 1), (82, .getfield 56, 3), (85, .iload_n 3, 1),
  (86, .iconst (-1), 1), (87, .ixor, 1), (88, .iand, 1), (89, .ifCond .ne 16, 3), (92, .iload_n 2, 1), (93, .aload_n 0, 1),
  (94, .getfield 62, 3), (97, .if_icmp .ge 8, 3), (100, .aload_n 0, 1), (101, .iload_n 2, 1), (102, .putfield 62, 3), (105, .return_, 1)])
set_option maxRecDepth 100000 in
theorem K_Pl_weigh : mOk M_Pl_weigh := by decide +kernel
def M_Cr_promisedSet : zM := ("WindBrides$Course", ⟨"WindBrides$Course", "promisedSet", "(LWindBrides$Coast;)I"⟩, prog_6_method_4_code, 4, (some .int), [
  (0, .iconst 0, 1), (1, .istore_n 2, 1), (2, .iconst 0, 1), (3, .istore_n 3, 1), (4, .iload_n 3, 1), (5, .aload_n 1, 1),
  (6, .getfield 41, 3), (9, .if_icmp .ge 30, 3), (12, .iload_n 2, 1), (13, .aload_n 0, 1), (14, .getfield 9, 3), (17, .iload_n 3, 1),
  (18, .iaload, 1), (19, .bipush 6, 2), (21, .if_icmp .ne 7, 3), (24, .iconst 0, 1), (25, .goto 6, 3), (28, .iconst 1, 1),
  (29, .iload_n 3, 1), (30, .ishl, 1), (31, .ior, 1), (32, .istore_n 2, 1), (33, .iinc 3 1, 3), (36, .goto (-32), 3),
  (39, .iload_n 2, 1), (40, .ireturn, 1)])
set_option maxRecDepth 100000 in
theorem K_Cr_promisedSet : mOk M_Cr_promisedSet := by decide +kernel
def M_Ji_numberOfTrailingZeros : zM := ("java/lang/Integer", ⟨"java/lang/Integer", "numberOfTrailingZeros", "(I)I"⟩, prog_15_method_48_code, 2, (some .int), [
  (0, .iload_n 0, 1), (1, .iconst (-1), 1), (2, .ixor, 1), (3, .iload_n 0, 1), (4, .iconst 1, 1), (5, .isub, 1),
  (6, .iand, 1), (7, .istore_n 0, 1), (8, .iload_n 0, 1), (9, .ifCond .gt 8, 3), (12, .iload_n 0, 1), (13, .bipush 32, 2),
  (15, .iand, 1), (16, .ireturn, 1), (17, .iconst 1, 1), (18, .istore_n 1, 1), (19, .iload_n 0, 1), (20, .ldc_w 264, 3),
  (23, .if_icmp .le 11, 3), (26, .iinc 1 16, 3), (29, .iload_n 0, 1), (30, .bipush 16, 2), (32, .iushr, 1), (33, .istore_n 0, 1),
  (34, .iload_n 0, 1), (35, .sipush 256, 3), (38, .if_icmp .le 11, 3), (41, .iinc 1 8, 3), (44, .iload_n 0, 1), (45, .bipush 8, 2),
  (47, .iushr, 1), (48, .istore_n 0, 1), (49, .iload_n 0, 1), (50, .bipush 16, 2), (52, .if_icmp .le 10, 3), (55, .iinc 1 4, 3),
  (58, .iload_n 0, 1), (59, .iconst 4, 1), (60, .iushr, 1), (61, .istore_n 0, 1), (62, .iload_n 0, 1), (63, .iconst 4, 1),
  (64, .if_icmp .le 10, 3), (67, .iinc 1 2, 3), (70, .iload_n 0, 1), (71, .iconst 2, 1), (72, .iushr, 1), (73, .istore_n 0, 1),
  (74, .iload_n 1, 1), (75, .iload_n 0, 1), (76, .iconst 1, 1), (77, .iushr, 1), (78, .iadd, 1), (79, .ireturn, 1)])
set_option maxRecDepth 100000 in
theorem K_Ji_numberOfTrailingZeros : mOk M_Ji_numberOfTrailingZeros := by decide +kernel
def M_Pl_gameFrom : zM := ("WindBrides$Plans", ⟨"WindBrides$Plans", "gameFrom", "(LWindBrides$Coast;I)I"⟩, prog_9_method_6_code, 3, (some .int), [
  (0, .aload_n 0, 1), (1, .aload_n 1, 1), (2, .iload_n 2, 1), (3, .invokevirtual 52, 3), (6, .aload_n 0, 1), (7, .iconst 0, 1),
  (8, .invokevirtual 96, 3), (11, .ireturn, 1)])
set_option maxRecDepth 100000 in
theorem K_Pl_gameFrom : mOk M_Pl_gameFrom := by decide +kernel
def M_Pl_gameValue : zM := ("WindBrides$Plans", ⟨"WindBrides$Plans", "gameValue", "(I)I"⟩, prog_9_method_7_code, 6, (some .int), [
  (0, .iload_n 1, 1), (1, .aload_n 0, 1), (2, .getfield 45, 3), (5, .if_icmp .lt 5, 3), (8, .iconst 0, 1), (9, .ireturn, 1),
  (10, .iconst 0, 1), (11, .istore_n 2, 1), (12, .iconst 0, 1), (13, .istore_n 3, 1), (14, .iload_n 3, 1), (15, .aload_n 0, 1),
  (16, .getfield 28, 3), (19, .getfield 76, 3), (22, .if_icmp .gt 117, 3), (25, .aload_n 0, 1), (26, .getfield 23, 3), (29, .iload_n 1, 1),
  (30, .iconst 1, 1), (31, .iadd, 1), (32, .aaload, 1), (33, .aload_n 0, 1), (34, .getfield 23, 3), (37, .iload_n 1, 1),
  (38, .aaload, 1), (39, .invokevirtual 48, 3), (42, .aload_n 0, 1), (43, .getfield 23, 3), (46, .iload_n 1, 1), (47, .iconst 1, 1),
  (48, .iadd, 1), (49, .aaload, 1), (50, .aload_n 0, 1), (51, .getfield 28, 3), (54, .iload_n 3, 1), (55, .invokevirtual 79, 3),
  (58, .istore 4, 2), (60, .iload 4, 2), (62, .aload_n 0, 1), (63, .iload_n 1, 1), (64, .iconst 1, 1), (65, .iadd, 1),
  (66, .invokevirtual 96, 3), (69, .iadd, 1), (70, .istore 4, 2), (72, .iload_n 1, 1), (73, .iconst 2, 1), (74, .irem, 1),
  (75, .ifCond .ne 17, 3), (78, .iload 4, 2), (80, .iload_n 2, 1), (81, .if_icmp .le 7, 3), (84, .iconst 1, 1), (85, .goto 18, 3),
  (88, .iconst 0, 1), (89, .goto 14, 3), (92, .iload 4, 2), (94, .iload_n 2, 1), (95, .if_icmp .ge 7, 3), (98, .iconst 1, 1),
  (99, .goto 4, 3), (102, .iconst 0, 1), (103, .istore 5, 2), (105, .iload_n 3, 1), (106, .ifCond .eq 8, 3), (109, .iload 5, 2),
  (111, .ifCond .eq 22, 3), (114, .iload 4, 2), (116, .istore_n 2, 1), (117, .aload_n 0, 1), (118, .iload_n 1, 1), (119, .ifCond .ne 7, 3),
  (122, .iload_n 3, 1), (123, .goto 7, 3), (126, .aload_n 0, 1), (127, .getfield 100, 3), (130, .putfield 100, 3), (133, .iinc 3 1, 3),
  (136, .goto (-122), 3), (139, .iload_n 2, 1), (140, .ireturn, 1)])
set_option maxRecDepth 100000 in
theorem K_Pl_gameValue : mOk M_Pl_gameValue := by decide +kernel
def M_Co_addReport : zM := ("WindBrides$Coast", ⟨"WindBrides$Coast", "addReport", "(IIII)I"⟩, prog_5_method_21_code, 6, (some .int), [
  (0, .aload_n 0, 1), (1, .getfield 82, 3), (4, .istore 5, 2), (6, .aload_n 0, 1), (7, .getfield 54, 3), (10, .iconst 4, 1),
  (11, .iload 5, 2), (13, .imul, 1), (14, .iload_n 1, 1), (15, .iastore, 1), (16, .aload_n 0, 1), (17, .getfield 54, 3),
  (20, .iconst 4, 1), (21, .iload 5, 2), (23, .imul, 1), (24, .iconst 1, 1), (25, .iadd, 1), (26, .iload_n 2, 1),
  (27, .iastore, 1), (28, .aload_n 0, 1), (29, .getfield 54, 3), (32, .iconst 4, 1), (33, .iload 5, 2), (35, .imul, 1),
  (36, .iconst 2, 1), (37, .iadd, 1), (38, .iload_n 3, 1), (39, .iastore, 1), (40, .aload_n 0, 1), (41, .getfield 54, 3),
  (44, .iconst 4, 1), (45, .iload 5, 2), (47, .imul, 1), (48, .iconst 3, 1), (49, .iadd, 1), (50, .iload 4, 2),
  (52, .iastore, 1), (53, .aload_n 0, 1), (54, .dup, 1), (55, .getfield 82, 3), (58, .iconst 1, 1), (59, .iadd, 1),
  (60, .putfield 82, 3), (63, .iload 5, 2), (65, .ireturn, 1)])
set_option maxRecDepth 100000 in
theorem K_Co_addReport : mOk M_Co_addReport := by decide +kernel
def M_Co_fittingWinds : zM := ("WindBrides$Coast", ⟨"WindBrides$Coast", "fittingWinds", "(I)I"⟩, prog_5_method_23_code, 5, (some .int), [
  (0, .iconst 0, 1), (1, .istore_n 2, 1), (2, .iconst 0, 1), (3, .istore_n 3, 1), (4, .iload_n 3, 1), (5, .bipush 8, 2),
  (7, .if_icmp .ge 44, 3), (10, .iconst 1, 1), (11, .istore 4, 2), (13, .iload 4, 2), (15, .bipush 9, 2), (17, .if_icmp .gt 28, 3),
  (20, .iload_n 2, 1), (21, .aload_n 0, 1), (22, .iload_n 3, 1), (23, .iload 4, 2), (25, .iload_n 1, 1), (26, .invokevirtual 129, 3),
  (29, .ifCond .eq 7, 3), (32, .iconst 1, 1), (33, .goto 4, 3), (36, .iconst 0, 1), (37, .iadd, 1), (38, .istore_n 2, 1),
  (39, .iinc 4 1, 3), (42, .goto (-29), 3), (45, .iinc 3 1, 3), (48, .goto (-44), 3), (51, .iload_n 2, 1), (52, .ireturn, 1)])
set_option maxRecDepth 100000 in
theorem K_Co_fittingWinds : mOk M_Co_fittingWinds := by decide +kernel
def M_Co_fits : zM := ("WindBrides$Coast", ⟨"WindBrides$Coast", "fits", "(III)Z"⟩, prog_5_method_22_code, 7, (some .boolean), [
  (0, .iconst 0, 1), (1, .istore 4, 2), (3, .iload 4, 2), (5, .aload_n 0, 1), (6, .getfield 82, 3), (9, .if_icmp .ge 84, 3),
  (12, .iload_n 1, 1), (13, .aload_n 0, 1), (14, .getfield 54, 3), (17, .iconst 4, 1), (18, .iload 4, 2), (20, .imul, 1),
  (21, .iconst 1, 1), (22, .iadd, 1), (23, .iaload, 1), (24, .invokestatic 92, 3), (27, .istore 5, 2), (29, .aload_n 0, 1),
  (30, .getfield 54, 3), (33, .iconst 4, 1), (34, .iload 4, 2), (36, .imul, 1), (37, .iaload, 1), (38, .iload_n 2, 1),
  (39, .iload 5, 2), (41, .iconst 3, 1), (42, .invokestatic 96, 3), (45, .istore 6, 2), (47, .iload 4, 2), (49, .iload_n 3, 1),
  (50, .if_icmp .eq 37, 3), (53, .iload 6, 2), (55, .aload_n 0, 1), (56, .getfield 54, 3), (59, .iconst 4, 1), (60, .iload 4, 2),
  (62, .imul, 1), (63, .iconst 2, 1), (64, .iadd, 1), (65, .iaload, 1), (66, .if_icmp .lt 19, 3), (69, .iload 6, 2),
  (71, .aload_n 0, 1), (72, .getfield 54, 3), (75, .iconst 4, 1), (76, .iload 4, 2), (78, .imul, 1), (79, .iconst 3, 1),
  (80, .iadd, 1), (81, .iaload, 1), (82, .if_icmp .le 5, 3), (85, .iconst 0, 1), (86, .ireturn, 1), (87, .iinc 4 1, 3),
  (90, .goto (-87), 3), (93, .iconst 1, 1), (94, .ireturn, 1)])
set_option maxRecDepth 100000 in
theorem K_Co_fits : mOk M_Co_fits := by decide +kernel
def M_Co_drawAct : zM := ("WindBrides$Coast", ⟨"WindBrides$Coast", "drawAct", "()I"⟩, prog_5_method_11_code, 1, (some .int), [
  (0, .aload_n 0, 1), (1, .aload_n 0, 1), (2, .getfield 37, 3), (5, .ldc 100, 2), (7, .imul, 1), (8, .sipush 12345, 3),
  (11, .iadd, 1), (12, .putfield 37, 3), (15, .aload_n 0, 1), (16, .getfield 37, 3), (19, .bipush 16, 2), (21, .iushr, 1),
  (22, .aload_n 0, 1), (23, .getfield 60, 3), (26, .iconst 1, 1), (27, .iadd, 1), (28, .irem, 1), (29, .ireturn, 1)])
set_option maxRecDepth 100000 in
theorem K_Co_drawAct : mOk M_Co_drawAct := by decide +kernel
def M_Pl_writeRows : zM := ("WindBrides$Plans", ⟨"WindBrides$Plans", "writeRows", "()I"⟩, prog_9_method_8_code, 3, (some .int), [
  (0, .aload_n 0, 1), (1, .getfield 23, 3), (4, .iconst 0, 1), (5, .aaload, 1), (6, .astore_n 1, 1), (7, .iconst 0, 1),
  (8, .istore_n 2, 1), (9, .iload_n 2, 1), (10, .aload_n 0, 1), (11, .getfield 45, 3), (14, .if_icmp .ge 65, 3), (17, .aload_n 0, 1),
  (18, .getfield 15, 3), (21, .iconst 3, 1), (22, .iload_n 2, 1), (23, .imul, 1), (24, .aload_n 0, 1), (25, .getfield 9, 3),
  (28, .iload_n 2, 1), (29, .iaload, 1), (30, .iastore, 1), (31, .aload_n 0, 1), (32, .getfield 15, 3), (35, .iconst 3, 1),
  (36, .iload_n 2, 1), (37, .imul, 1), (38, .iconst 1, 1), (39, .iadd, 1), (40, .aload_n 1, 1), (41, .aload_n 0, 1),
  (42, .getfield 28, 3), (45, .aload_n 0, 1), (46, .getfield 9, 3), (49, .iload_n 2, 1), (50, .iaload, 1), (51, .invokevirtual 79, 3),
  (54, .iastore, 1), (55, .aload_n 0, 1), (56, .getfield 15, 3), (59, .iconst 3, 1), (60, .iload_n 2, 1), (61, .imul, 1),
  (62, .iconst 2, 1), (63, .iadd, 1), (64, .aload_n 1, 1), (65, .aload_n 0, 1), (66, .getfield 28, 3), (69, .invokevirtual 92, 3),
  (72, .iastore, 1), (73, .iinc 2 1, 3), (76, .goto (-67), 3), (79, .aload_n 0, 1), (80, .aload_n 0, 1), (81, .getfield 45, 3),
  (84, .putfield 103, 3), (87, .aload_n 0, 1), (88, .getfield 103, 3), (91, .ireturn, 1)])
set_option maxRecDepth 100000 in
theorem K_Pl_writeRows : mOk M_Pl_writeRows := by decide +kernel
def M_Pl_hasCell : zM := ("WindBrides$Plans", ⟨"WindBrides$Plans", "hasCell", "(II)Z"⟩, prog_9_method_9_code, 3, (some .boolean), [
  (0, .iload_n 1, 1), (1, .iconst 0, 1), (2, .aload_n 0, 1), (3, .getfield 103, 3), (6, .iconst 1, 1), (7, .isub, 1),
  (8, .invokestatic 106, 3), (11, .ifCond .eq 16, 3), (14, .iload_n 2, 1), (15, .iconst 0, 1), (16, .iconst 2, 1), (17, .invokestatic 106, 3),
  (20, .ifCond .eq 7, 3), (23, .iconst 1, 1), (24, .goto 4, 3), (27, .iconst 0, 1), (28, .ireturn, 1)])
set_option maxRecDepth 100000 in
theorem K_Pl_hasCell : mOk M_Pl_hasCell := by decide +kernel
def M_Pl_firstWrongRow : zM := ("WindBrides$Plans", ⟨"WindBrides$Plans", "firstWrongRow", "(LWindBrides$Coast;)I"⟩, prog_9_method_10_code, 5, (some .int), [
  (0, .aload_n 0, 1), (1, .aload_n 1, 1), (2, .aload_n 0, 1), (3, .getfield 103, 3), (6, .invokevirtual 52, 3), (9, .aload_n 0, 1),
  (10, .getfield 23, 3), (13, .iconst 0, 1), (14, .aaload, 1), (15, .astore_n 2, 1), (16, .iconst 0, 1), (17, .istore_n 3, 1),
  (18, .iload_n 3, 1), (19, .aload_n 0, 1), (20, .getfield 103, 3), (23, .if_icmp .ge 92, 3), (26, .iload_n 3, 1), (27, .aload_n 0, 1),
  (28, .getfield 45, 3), (31, .if_icmp .ge 66, 3), (34, .aload_n 1, 1), (35, .aload_n 0, 1), (36, .getfield 15, 3), (39, .iconst 3, 1),
  (40, .iload_n 3, 1), (41, .imul, 1), (42, .iaload, 1), (43, .invokevirtual 110, 3), (46, .ifCond .eq 51, 3), (49, .aload_n 0, 1),
  (50, .getfield 15, 3), (53, .iconst 3, 1), (54, .iload_n 3, 1), (55, .imul, 1), (56, .iconst 1, 1), (57, .iadd, 1),
  (58, .iaload, 1), (59, .aload_n 2, 1), (60, .aload_n 1, 1), (61, .aload_n 0, 1), (62, .getfield 15, 3), (65, .iconst 3, 1),
  (66, .iload_n 3, 1), (67, .imul, 1), (68, .iaload, 1), (69, .invokevirtual 79, 3), (72, .if_icmp .ne 25, 3), (75, .aload_n 0, 1),
  (76, .getfield 15, 3), (79, .iconst 3, 1), (80, .iload_n 3, 1), (81, .imul, 1), (82, .iconst 2, 1), (83, .iadd, 1),
  (84, .iaload, 1), (85, .aload_n 2, 1), (86, .aload_n 1, 1), (87, .invokevirtual 92, 3), (90, .if_icmp .ne 7, 3), (93, .iconst 1, 1),
  (94, .goto 4, 3), (97, .iconst 0, 1), (98, .istore 4, 2), (100, .iload 4, 2), (102, .ifCond .ne 7, 3), (105, .iload_n 3, 1),
  (106, .iconst 1, 1), (107, .iadd, 1), (108, .ireturn, 1), (109, .iinc 3 1, 3), (112, .goto (-94), 3), (115, .iconst 0, 1),
  (116, .ireturn, 1)])
set_option maxRecDepth 100000 in
theorem K_Pl_firstWrongRow : mOk M_Pl_firstWrongRow := by decide +kernel
def M_Co_isAct : zM := ("WindBrides$Coast", ⟨"WindBrides$Coast", "isAct", "(I)Z"⟩, prog_5_method_6_code, 2, (some .boolean), [
  (0, .iload_n 1, 1), (1, .ifCond .lt 15, 3), (4, .iload_n 1, 1), (5, .aload_n 0, 1), (6, .getfield 60, 3), (9, .if_icmp .gt 7, 3),
  (12, .iconst 1, 1), (13, .goto 4, 3), (16, .iconst 0, 1), (17, .ireturn, 1)])
set_option maxRecDepth 100000 in
theorem K_Co_isAct : mOk M_Co_isAct := by decide +kernel
def M_Sh_init : zM := ("WindBrides$Shared", ⟨"WindBrides$Shared", "<init>", "(II[I)V"⟩, prog_10_method_1_code, 4, none, [
  (0, .aload_n 0, 1), (1, .iload_n 1, 1), (2, .iload_n 2, 1), (3, .aload_n 3, 1), (4, .invokespecial 1, 3), (7, .return_, 1)])
set_option maxRecDepth 100000 in
theorem K_Sh_init : mOk M_Sh_init := by decide +kernel
def M_Gi_init : zM := ("WindBrides$Girl", ⟨"WindBrides$Girl", "<init>", "(II[I)V"⟩, prog_7_method_1_code, 4, none, [
  (0, .aload_n 0, 1), (1, .invokespecial 1, 3), (4, .aload_n 0, 1), (5, .iload_n 1, 1), (6, .putfield 7, 3), (9, .aload_n 0, 1),
  (10, .iload_n 2, 1), (11, .putfield 13, 3), (14, .aload_n 0, 1), (15, .aload_n 3, 1), (16, .putfield 16, 3), (19, .return_, 1)])
set_option maxRecDepth 100000 in
theorem K_Gi_init : mOk M_Gi_init := by decide +kernel
def M_Br_init : zM := ("WindBrides$Bred", ⟨"WindBrides$Bred", "<init>", "(II[I)V"⟩, prog_3_method_1_code, 4, none, [
  (0, .aload_n 0, 1), (1, .iload_n 1, 1), (2, .iload_n 2, 1), (3, .aload_n 3, 1), (4, .invokespecial 1, 3), (7, .return_, 1)])
set_option maxRecDepth 100000 in
theorem K_Br_init : mOk M_Br_init := by decide +kernel
def M_Tw_init : zM := ("WindBrides$Twice", ⟨"WindBrides$Twice", "<init>", "(II[I)V"⟩, prog_12_method_1_code, 4, none, [
  (0, .aload_n 0, 1), (1, .iload_n 1, 1), (2, .iload_n 2, 1), (3, .aload_n 3, 1), (4, .invokespecial 1, 3), (7, .return_, 1)])
set_option maxRecDepth 100000 in
theorem K_Tw_init : mOk M_Tw_init := by decide +kernel
def M_La_init : zM := ("WindBrides$Late", ⟨"WindBrides$Late", "<init>", "(II[I)V"⟩, prog_8_method_1_code, 4, none, [
  (0, .aload_n 0, 1), (1, .iload_n 1, 1), (2, .iload_n 2, 1), (3, .aload_n 3, 1), (4, .invokespecial 1, 3), (7, .return_, 1)])
set_option maxRecDepth 100000 in
theorem K_La_init : mOk M_La_init := by decide +kernel
def M_Ca_init : zM := ("WindBrides$Calm", ⟨"WindBrides$Calm", "<init>", "(II[I)V"⟩, prog_4_method_1_code, 4, none, [
  (0, .aload_n 0, 1), (1, .iload_n 1, 1), (2, .iload_n 2, 1), (3, .aload_n 3, 1), (4, .invokespecial 1, 3), (7, .return_, 1)])
set_option maxRecDepth 100000 in
theorem K_Ca_init : mOk M_Ca_init := by decide +kernel
def M_Sh_sails : zM := ("WindBrides$Shared", ⟨"WindBrides$Shared", "sails", "(I)I"⟩, prog_10_method_2_code, 2, (some .int), [
  (0, .aload_n 0, 1), (1, .bipush 20, 2), (3, .invokevirtual 7, 3), (6, .aload_n 0, 1), (7, .iload_n 1, 1), (8, .invokespecial 13, 3),
  (11, .iconst 2, 1), (12, .isub, 1), (13, .ireturn, 1)])
set_option maxRecDepth 100000 in
theorem K_Sh_sails : mOk M_Sh_sails := by decide +kernel
def M_Gi_begins : zM := ("WindBrides$Girl", ⟨"WindBrides$Girl", "begins", "(I)V"⟩, prog_7_method_2_code, 2, none, [
  (0, .aload_n 0, 1), (1, .getfield 20, 3), (4, .ifCond .ne 35, 3), (7, .aload_n 0, 1), (8, .getfield 24, 3), (11, .aload_n 0, 1),
  (12, .getfield 16, 3), (15, .arraylength, 1), (16, .if_icmp .ge 23, 3), (19, .aload_n 0, 1), (20, .getfield 16, 3), (23, .aload_n 0, 1),
  (24, .getfield 24, 3), (27, .iload_n 1, 1), (28, .iastore, 1), (29, .aload_n 0, 1), (30, .dup, 1), (31, .getfield 24, 3),
  (34, .iconst 1, 1), (35, .iadd, 1), (36, .putfield 24, 3), (39, .return_, 1)])
set_option maxRecDepth 100000 in
theorem K_Gi_begins : mOk M_Gi_begins := by decide +kernel
def M_Tw_sails : zM := ("WindBrides$Twice", ⟨"WindBrides$Twice", "sails", "(I)I"⟩, prog_12_method_2_code, 2, (some .int), [
  (0, .aload_n 0, 1), (1, .bipush 50, 2), (3, .invokevirtual 7, 3), (6, .aload_n 0, 1), (7, .iload_n 1, 1), (8, .iconst 1, 1),
  (9, .iadd, 1), (10, .invokespecial 13, 3), (13, .ireturn, 1)])
set_option maxRecDepth 100000 in
theorem K_Tw_sails : mOk M_Tw_sails := by decide +kernel
def M_Gi_sails : zM := ("WindBrides$Girl", ⟨"WindBrides$Girl", "sails", "(I)I"⟩, prog_7_method_3_code, 2, (some .int), [
  (0, .aload_n 0, 1), (1, .bipush 10, 2), (3, .invokevirtual 27, 3), (6, .iload_n 1, 1), (7, .iconst 3, 1), (8, .imul, 1),
  (9, .aload_n 0, 1), (10, .getfield 7, 3), (13, .isub, 1), (14, .ireturn, 1)])
set_option maxRecDepth 100000 in
theorem K_Gi_sails : mOk M_Gi_sails := by decide +kernel
def M_Br_calls : zM := ("WindBrides$Bred", ⟨"WindBrides$Bred", "calls", "(I)I"⟩, prog_3_method_2_code, 2, (some .int), [
  (0, .aload_n 0, 1), (1, .bipush 30, 2), (3, .invokevirtual 7, 3), (6, .aload_n 0, 1), (7, .iload_n 1, 1), (8, .invokespecial 13, 3),
  (11, .aload_n 0, 1), (12, .getfield 17, 3), (15, .ixor, 1), (16, .ireturn, 1)])
set_option maxRecDepth 100000 in
theorem K_Br_calls : mOk M_Br_calls := by decide +kernel
def M_Ca_calls : zM := ("WindBrides$Calm", ⟨"WindBrides$Calm", "calls", "(I)I"⟩, prog_4_method_2_code, 2, (some .int), [
  (0, .aload_n 0, 1), (1, .bipush 60, 2), (3, .invokevirtual 7, 3), (6, .iconst 1, 1), (7, .aload_n 0, 1), (8, .iload_n 1, 1),
  (9, .invokespecial 13, 3), (12, .isub, 1), (13, .ireturn, 1)])
set_option maxRecDepth 100000 in
theorem K_Ca_calls : mOk M_Ca_calls := by decide +kernel
def M_Gi_calls : zM := ("WindBrides$Girl", ⟨"WindBrides$Girl", "calls", "(I)I"⟩, prog_7_method_4_code, 2, (some .int), [
  (0, .aload_n 0, 1), (1, .bipush 11, 2), (3, .invokevirtual 27, 3), (6, .aload_n 0, 1), (7, .iload_n 1, 1), (8, .invokevirtual 31, 3),
  (11, .aload_n 0, 1), (12, .getfield 13, 3), (15, .iadd, 1), (16, .ireturn, 1)])
set_option maxRecDepth 100000 in
theorem K_Gi_calls : mOk M_Gi_calls := by decide +kernel
def M_Ca_shares : zM := ("WindBrides$Calm", ⟨"WindBrides$Calm", "shares", "(I)I"⟩, prog_4_method_3_code, 3, (some .int), [
  (0, .aload_n 0, 1), (1, .bipush 61, 2), (3, .invokevirtual 7, 3), (6, .aload_n 0, 1), (7, .iload_n 1, 1), (8, .invokespecial 17, 3),
  (11, .istore_n 2, 1), (12, .iload_n 2, 1), (13, .aload_n 0, 1), (14, .aload_n 0, 1), (15, .getfield 20, 3), (18, .invokevirtual 24, 3),
  (21, .ixor, 1), (22, .ireturn, 1)])
set_option maxRecDepth 100000 in
theorem K_Ca_shares : mOk M_Ca_shares := by decide +kernel
def M_La_shares : zM := ("WindBrides$Late", ⟨"WindBrides$Late", "shares", "(I)I"⟩, prog_8_method_2_code, 2, (some .int), [
  (0, .aload_n 0, 1), (1, .bipush 40, 2), (3, .invokevirtual 7, 3), (6, .aload_n 0, 1), (7, .iload_n 1, 1), (8, .invokespecial 13, 3),
  (11, .iconst 2, 1), (12, .imul, 1), (13, .ireturn, 1)])
set_option maxRecDepth 100000 in
theorem K_La_shares : mOk M_La_shares := by decide +kernel
def M_Gi_shares : zM := ("WindBrides$Girl", ⟨"WindBrides$Girl", "shares", "(I)I"⟩, prog_7_method_5_code, 2, (some .int), [
  (0, .aload_n 0, 1), (1, .bipush 12, 2), (3, .invokevirtual 27, 3), (6, .aload_n 0, 1), (7, .getfield 7, 3), (10, .aload_n 0, 1),
  (11, .getfield 13, 3), (14, .if_icmp .ne 10, 3), (17, .aload_n 0, 1), (18, .iconst 1, 1), (19, .putfield 20, 3), (22, .iconst 0, 1),
  (23, .ireturn, 1), (24, .iload_n 1, 1), (25, .aload_n 0, 1), (26, .getfield 7, 3), (29, .aload_n 0, 1), (30, .getfield 13, 3),
  (33, .isub, 1), (34, .irem, 1), (35, .ireturn, 1)])
set_option maxRecDepth 100000 in
theorem K_Gi_shares : mOk M_Gi_shares := by decide +kernel
def M_Tw_weds : zM := ("WindBrides$Twice", ⟨"WindBrides$Twice", "weds", "(I)I"⟩, prog_12_method_3_code, 3, (some .int), [
  (0, .aload_n 0, 1), (1, .bipush 51, 2), (3, .invokevirtual 7, 3), (6, .aload_n 0, 1), (7, .iload_n 1, 1), (8, .invokespecial 17, 3),
  (11, .istore_n 2, 1), (12, .iload_n 2, 1), (13, .aload_n 0, 1), (14, .aload_n 0, 1), (15, .getfield 20, 3), (18, .invokevirtual 24, 3),
  (21, .iadd, 1), (22, .ireturn, 1)])
set_option maxRecDepth 100000 in
theorem K_Tw_weds : mOk M_Tw_weds := by decide +kernel
def M_Gi_weds : zM := ("WindBrides$Girl", ⟨"WindBrides$Girl", "weds", "(I)I"⟩, prog_7_method_6_code, 3, (some .int), [
  (0, .aload_n 0, 1), (1, .bipush 13, 2), (3, .invokevirtual 27, 3), (6, .aload_n 0, 1), (7, .iload_n 1, 1), (8, .invokevirtual 35, 3),
  (11, .istore_n 2, 1), (12, .iload_n 2, 1), (13, .aload_n 0, 1), (14, .iload_n 1, 1), (15, .invokevirtual 38, 3), (18, .isub, 1),
  (19, .ireturn, 1)])
set_option maxRecDepth 100000 in
theorem K_Gi_weds : mOk M_Gi_weds := by decide +kernel
def M_Ji_bitCount : zM := ("java/lang/Integer", ⟨"java/lang/Integer", "bitCount", "(I)I"⟩, prog_15_method_49_code, 1, (some .int), [
  (0, .iload_n 0, 1), (1, .iload_n 0, 1), (2, .iconst 1, 1), (3, .iushr, 1), (4, .ldc_w 265, 3), (7, .iand, 1),
  (8, .isub, 1), (9, .istore_n 0, 1), (10, .iload_n 0, 1), (11, .ldc_w 266, 3), (14, .iand, 1), (15, .iload_n 0, 1),
  (16, .iconst 2, 1), (17, .iushr, 1), (18, .ldc_w 266, 3), (21, .iand, 1), (22, .iadd, 1), (23, .istore_n 0, 1),
  (24, .iload_n 0, 1), (25, .iload_n 0, 1), (26, .iconst 4, 1), (27, .iushr, 1), (28, .iadd, 1), (29, .ldc_w 267, 3),
  (32, .iand, 1), (33, .istore_n 0, 1), (34, .iload_n 0, 1), (35, .iload_n 0, 1), (36, .bipush 8, 2), (38, .iushr, 1),
  (39, .iadd, 1), (40, .istore_n 0, 1), (41, .iload_n 0, 1), (42, .iload_n 0, 1), (43, .bipush 16, 2), (45, .iushr, 1),
  (46, .iadd, 1), (47, .istore_n 0, 1), (48, .iload_n 0, 1), (49, .bipush 63, 2), (51, .iand, 1), (52, .ireturn, 1)])
set_option maxRecDepth 100000 in
theorem K_Ji_bitCount : mOk M_Ji_bitCount := by decide +kernel
def M_Co_copyFrom : zM := ("WindBrides$Coast", ⟨"WindBrides$Coast", "copyFrom", "(LWindBrides$Coast;)V"⟩, prog_5_method_2_code, 2, none, [
  (0, .aload_n 0, 1), (1, .aload_n 1, 1), (2, .getfield 60, 3), (5, .putfield 60, 3), (8, .aload_n 1, 1), (9, .getfield 9, 3),
  (12, .iconst 0, 1), (13, .aload_n 0, 1), (14, .getfield 9, 3), (17, .iconst 0, 1), (18, .bipush 6, 2), (20, .invokestatic 63, 3),
  (23, .aload_n 1, 1), (24, .getfield 15, 3), (27, .iconst 0, 1), (28, .aload_n 0, 1), (29, .getfield 15, 3), (32, .iconst 0, 1),
  (33, .bipush 6, 2), (35, .invokestatic 63, 3), (38, .aload_n 1, 1), (39, .getfield 18, 3), (42, .iconst 0, 1), (43, .aload_n 0, 1),
  (44, .getfield 18, 3), (47, .iconst 0, 1), (48, .bipush 6, 2), (50, .invokestatic 63, 3), (53, .aload_n 0, 1), (54, .aload_n 1, 1),
  (55, .getfield 69, 3), (58, .putfield 69, 3), (61, .aload_n 1, 1), (62, .getfield 21, 3), (65, .iconst 0, 1), (66, .aload_n 0, 1),
  (67, .getfield 21, 3), (70, .iconst 0, 1), (71, .bipush 6, 2), (73, .invokestatic 63, 3), (76, .aload_n 1, 1), (77, .getfield 24, 3),
  (80, .iconst 0, 1), (81, .aload_n 0, 1), (82, .getfield 24, 3), (85, .iconst 0, 1), (86, .bipush 6, 2), (88, .invokestatic 63, 3),
  (91, .aload_n 1, 1), (92, .getfield 27, 3), (95, .iconst 0, 1), (96, .aload_n 0, 1), (97, .getfield 27, 3), (100, .iconst 0, 1),
  (101, .bipush 6, 2), (103, .invokestatic 63, 3), (106, .aload_n 1, 1), (107, .getfield 30, 3), (110, .iconst 0, 1), (111, .aload_n 0, 1),
  (112, .getfield 30, 3), (115, .iconst 0, 1), (116, .bipush 6, 2), (118, .invokestatic 63, 3), (121, .aload_n 0, 1), (122, .aload_n 1, 1),
  (123, .getfield 33, 3), (126, .putfield 33, 3), (129, .aload_n 0, 1), (130, .aload_n 1, 1), (131, .getfield 72, 3), (134, .putfield 72, 3),
  (137, .aload_n 0, 1), (138, .aload_n 1, 1), (139, .getfield 37, 3), (142, .putfield 37, 3), (145, .aload_n 0, 1), (146, .getfield 43, 3),
  (149, .aload_n 1, 1), (150, .getfield 43, 3), (153, .invokevirtual 75, 3), (156, .aload_n 0, 1), (157, .getfield 50, 3), (160, .aload_n 1, 1),
  (161, .getfield 50, 3), (164, .invokevirtual 79, 3), (167, .aload_n 0, 1), (168, .aload_n 1, 1), (169, .getfield 82, 3), (172, .putfield 82, 3),
  (175, .aload_n 1, 1), (176, .getfield 54, 3), (179, .iconst 0, 1), (180, .aload_n 0, 1), (181, .getfield 54, 3), (184, .iconst 0, 1),
  (185, .bipush 24, 2), (187, .invokestatic 63, 3), (190, .return_, 1)])
set_option maxRecDepth 100000 in
theorem K_Co_copyFrom : mOk M_Co_copyFrom := by decide +kernel
end
section
def M_Wb_init : zM := ("WindBrides", ⟨"WindBrides", "<init>", "()V"⟩, prog_1_method_1_code, 1, none, [
  (0, .aload_n 0, 1), (1, .invokespecial 1, 3), (4, .aload_n 0, 1), (5, .new 7, 3), (8, .dup, 1), (9, .invokespecial 9, 3),
  (12, .putfield 10, 3), (15, .aload_n 0, 1), (16, .new 7, 3), (19, .dup, 1), (20, .invokespecial 9, 3), (23, .putfield 16, 3),
  (26, .aload_n 0, 1), (27, .new 19, 3), (30, .dup, 1), (31, .invokespecial 21, 3), (34, .putfield 22, 3), (37, .aload_n 0, 1),
  (38, .new 26, 3), (41, .dup, 1), (42, .invokespecial 28, 3), (45, .putfield 29, 3), (48, .aload_n 0, 1), (49, .new 33, 3),
  (52, .dup, 1), (53, .invokespecial 35, 3), (56, .putfield 36, 3), (59, .aload_n 0, 1), (60, .new 40, 3), (63, .dup, 1),
  (64, .invokespecial 42, 3), (67, .putfield 43, 3), (70, .aload_n 0, 1), (71, .iconst 4, 1), (72, .newarray .int, 2), (74, .dup, 1),
  (75, .iconst 0, 1), (76, .iconst (-1), 1), (77, .iastore, 1), (78, .dup, 1), (79, .iconst 1, 1), (80, .iconst (-1), 1),
  (81, .iastore, 1), (82, .dup, 1), (83, .iconst 2, 1), (84, .iconst (-1), 1), (85, .iastore, 1), (86, .dup, 1),
  (87, .iconst 3, 1), (88, .iconst (-1), 1), (89, .iastore, 1), (90, .putfield 47, 3), (93, .aload_n 0, 1), (94, .iconst 4, 1),
  (95, .newarray .int, 2), (97, .putfield 51, 3), (100, .aload_n 0, 1), (101, .sipush 160, 3), (104, .newarray .int, 2), (106, .putfield 54, 3),
  (109, .aload_n 0, 1), (110, .iconst 4, 1), (111, .newarray .int, 2), (113, .dup, 1), (114, .iconst 0, 1), (115, .iconst 2, 1),
  (116, .iastore, 1), (117, .dup, 1), (118, .iconst 1, 1), (119, .iconst 2, 1), (120, .iastore, 1), (121, .dup, 1),
  (122, .iconst 2, 1), (123, .iconst 2, 1), (124, .iastore, 1), (125, .dup, 1), (126, .iconst 3, 1), (127, .iconst 2, 1),
  (128, .iastore, 1), (129, .putfield 57, 3), (132, .aload_n 0, 1), (133, .iconst 4, 1), (134, .newarray .int, 2), (136, .putfield 60, 3),
  (139, .aload_n 0, 1), (140, .iconst 4, 1), (141, .newarray .int, 2), (143, .putfield 63, 3), (146, .aload_n 0, 1), (147, .bipush 30, 2),
  (149, .newarray .int, 2), (151, .putfield 66, 3), (154, .return_, 1)])
set_option maxRecDepth 100000 in
theorem K_Wb_init : mOk M_Wb_init := by decide +kernel
def M_Wb_girl : zM := ("WindBrides", ⟨"WindBrides", "girl", "(III)I"⟩, prog_1_method_6_code, 4, (some .int), [
  (0, .iload_n 1, 1), (1, .iconst 1, 1), (2, .iconst 5, 1), (3, .invokestatic 72, 3), (6, .ifCond .eq 23, 3), (9, .iload_n 2, 1),
  (10, .iconst 0, 1), (11, .bipush 7, 2), (13, .invokestatic 72, 3), (16, .ifCond .eq 13, 3), (19, .iload_n 3, 1), (20, .iconst 1, 1),
  (21, .bipush 9, 2), (23, .invokestatic 72, 3), (26, .ifCond .ne 5, 3), (29, .iconst (-1), 1), (30, .ireturn, 1), (31, .aload_n 0, 1),
  (32, .getfield 10, 3), (35, .getfield 76, 3), (38, .bipush 6, 2), (40, .if_icmp .ne 6, 3), (43, .bipush (-2), 2), (45, .ireturn, 1),
  (46, .aload_n 0, 1), (47, .getfield 10, 3), (50, .iload_n 1, 1), (51, .iload_n 2, 1), (52, .iload_n 3, 1), (53, .invokevirtual 80, 3),
  (56, .ireturn, 1)])
set_option maxRecDepth 100000 in
theorem K_Wb_girl : mOk M_Wb_girl := by decide +kernel
def M_Wb_within : zM := ("WindBrides", ⟨"WindBrides", "within", "(III)Z"⟩, prog_1_method_2_code, 3, (some .boolean), [
  (0, .iload_n 0, 1), (1, .iload_n 1, 1), (2, .if_icmp .lt 12, 3), (5, .iload_n 0, 1), (6, .iload_n 2, 1), (7, .if_icmp .gt 7, 3),
  (10, .iconst 1, 1), (11, .goto 4, 3), (14, .iconst 0, 1), (15, .ireturn, 1)])
set_option maxRecDepth 100000 in
theorem K_Wb_within : mOk M_Wb_within := by decide +kernel
def M_Wb_girlOf : zM := ("WindBrides", ⟨"WindBrides", "girlOf", "(II)I"⟩, prog_1_method_7_code, 3, (some .int), [
  (0, .aload_n 0, 1), (1, .getfield 10, 3), (4, .iload_n 1, 1), (5, .invokevirtual 84, 3), (8, .ifCond .ne 5, 3), (11, .iconst (-1), 1),
  (12, .ireturn, 1), (13, .iload_n 2, 1), (14, .tableswitch 110 0 5 #[38, 48, 58, 68, 81, 94], 38), (52, .aload_n 0, 1), (53, .getfield 10, 3), (56, .getfield 88, 3),
  (59, .iload_n 1, 1), (60, .iaload, 1), (61, .ireturn, 1), (62, .aload_n 0, 1), (63, .getfield 10, 3), (66, .getfield 91, 3),
  (69, .iload_n 1, 1), (70, .iaload, 1), (71, .ireturn, 1), (72, .aload_n 0, 1), (73, .getfield 10, 3), (76, .getfield 94, 3),
  (79, .iload_n 1, 1), (80, .iaload, 1), (81, .ireturn, 1), (82, .aload_n 0, 1), (83, .getfield 10, 3), (86, .getfield 97, 3),
  (89, .getfield 100, 3), (92, .iload_n 1, 1), (93, .iaload, 1), (94, .ireturn, 1), (95, .aload_n 0, 1), (96, .getfield 10, 3),
  (99, .getfield 97, 3), (102, .getfield 103, 3), (105, .iload_n 1, 1), (106, .iaload, 1), (107, .ireturn, 1), (108, .aload_n 0, 1),
  (109, .getfield 10, 3), (112, .getfield 97, 3), (115, .aload_n 0, 1), (116, .getfield 10, 3), (119, .iload_n 1, 1), (120, .invokevirtual 106, 3),
  (123, .ireturn, 1), (124, .iconst (-1), 1), (125, .ireturn, 1)])
set_option maxRecDepth 100000 in
theorem K_Wb_girlOf : mOk M_Wb_girlOf := by decide +kernel
def M_Wb_isUnder : zM := ("WindBrides", ⟨"WindBrides", "isUnder", "(II)Z"⟩, prog_1_method_3_code, 2, (some .boolean), [
  (0, .getstatic 69, 3), (3, .iload_n 0, 1), (4, .iaload, 1), (5, .iload_n 1, 1), (6, .ishr, 1), (7, .iconst 1, 1),
  (8, .iand, 1), (9, .ifCond .eq 7, 3), (12, .iconst 1, 1), (13, .goto 4, 3), (16, .iconst 0, 1), (17, .ireturn, 1)])
set_option maxRecDepth 100000 in
theorem K_Wb_isUnder : mOk M_Wb_isUnder := by decide +kernel
def M_Wb_change : zM := ("WindBrides", ⟨"WindBrides", "change", "(III)I"⟩, prog_1_method_8_code, 5, (some .int), [
  (0, .aload_n 0, 1), (1, .getfield 10, 3), (4, .iload_n 1, 1), (5, .invokevirtual 84, 3), (8, .ifCond .ne 5, 3), (11, .iconst (-1), 1),
  (12, .ireturn, 1), (13, .iload_n 2, 1), (14, .iconst 1, 1), (15, .if_icmp .ne 37, 3), (18, .iload_n 3, 1), (19, .iconst 0, 1),
  (20, .bipush 7, 2), (22, .invokestatic 72, 3), (25, .ifCond .eq 27, 3), (28, .aload_n 0, 1), (29, .getfield 10, 3), (32, .getfield 91, 3),
  (35, .iload_n 1, 1), (36, .iaload, 1), (37, .istore 4, 2), (39, .aload_n 0, 1), (40, .getfield 10, 3), (43, .getfield 91, 3),
  (46, .iload_n 1, 1), (47, .iload_n 3, 1), (48, .iastore, 1), (49, .iload 4, 2), (51, .ireturn, 1), (52, .iload_n 2, 1),
  (53, .iconst 2, 1), (54, .if_icmp .ne 37, 3), (57, .iload_n 3, 1), (58, .iconst 1, 1), (59, .bipush 9, 2), (61, .invokestatic 72, 3),
  (64, .ifCond .eq 27, 3), (67, .aload_n 0, 1), (68, .getfield 10, 3), (71, .getfield 94, 3), (74, .iload_n 1, 1), (75, .iaload, 1),
  (76, .istore 4, 2), (78, .aload_n 0, 1), (79, .getfield 10, 3), (82, .getfield 94, 3), (85, .iload_n 1, 1), (86, .iload_n 3, 1),
  (87, .iastore, 1), (88, .iload 4, 2), (90, .ireturn, 1), (91, .iconst (-1), 1), (92, .ireturn, 1)])
set_option maxRecDepth 100000 in
theorem K_Wb_change : mOk M_Wb_change := by decide +kernel
def M_Wb_remake : zM := ("WindBrides", ⟨"WindBrides", "remake", "(II)I"⟩, prog_1_method_9_code, 4, (some .int), [
  (0, .aload_n 0, 1), (1, .getfield 10, 3), (4, .iload_n 1, 1), (5, .invokevirtual 84, 3), (8, .ifCond .eq 12, 3), (11, .iload_n 2, 1),
  (12, .iconst 1, 1), (13, .iconst 5, 1), (14, .invokestatic 72, 3), (17, .ifCond .ne 5, 3), (20, .iconst (-1), 1), (21, .ireturn, 1),
  (22, .aload_n 0, 1), (23, .getfield 10, 3), (26, .getfield 88, 3), (29, .iload_n 1, 1), (30, .iaload, 1), (31, .istore_n 3, 1),
  (32, .aload_n 0, 1), (33, .getfield 10, 3), (36, .getfield 88, 3), (39, .iload_n 1, 1), (40, .iload_n 2, 1), (41, .iastore, 1),
  (42, .iload_n 3, 1), (43, .ireturn, 1)])
set_option maxRecDepth 100000 in
theorem K_Wb_remake : mOk M_Wb_remake := by decide +kernel
def M_Wb_wind : zM := ("WindBrides", ⟨"WindBrides", "wind", "(IIII)I"⟩, prog_1_method_10_code, 5, (some .int), [
  (0, .iload_n 1, 1), (1, .iconst 0, 1), (2, .bipush 7, 2), (4, .invokestatic 72, 3), (7, .ifCond .eq 34, 3), (10, .iload_n 2, 1),
  (11, .iconst 1, 1), (12, .bipush 9, 2), (14, .invokestatic 72, 3), (17, .ifCond .eq 24, 3), (20, .iload_n 3, 1), (21, .iconst 0, 1),
  (22, .bipush 15, 2), (24, .invokestatic 72, 3), (27, .ifCond .eq 14, 3), (30, .iload 4, 2), (32, .iload_n 3, 1), (33, .bipush 15, 2),
  (35, .invokestatic 72, 3), (38, .ifCond .ne 5, 3), (41, .iconst (-1), 1), (42, .ireturn, 1), (43, .aload_n 0, 1), (44, .getfield 10, 3),
  (47, .getfield 110, 3), (50, .bipush 6, 2), (52, .if_icmp .ne 6, 3), (55, .bipush (-2), 2), (57, .ireturn, 1), (58, .aload_n 0, 1),
  (59, .getfield 10, 3), (62, .iload_n 1, 1), (63, .iload_n 2, 1), (64, .iload_n 3, 1), (65, .iload 4, 2), (67, .invokevirtual 113, 3),
  (70, .ireturn, 1)])
set_option maxRecDepth 100000 in
theorem K_Wb_wind : mOk M_Wb_wind := by decide +kernel
def M_Wb_windOf : zM := ("WindBrides", ⟨"WindBrides", "windOf", "(II)I"⟩, prog_1_method_11_code, 3, (some .int), [
  (0, .aload_n 0, 1), (1, .getfield 10, 3), (4, .iload_n 1, 1), (5, .invokevirtual 117, 3), (8, .ifCond .ne 5, 3), (11, .iconst (-1), 1),
  (12, .ireturn, 1), (13, .iload_n 2, 1), (14, .tableswitch 121 0 5 #[38, 48, 58, 68, 78, 94], 38), (52, .aload_n 0, 1), (53, .getfield 10, 3), (56, .getfield 120, 3),
  (59, .iload_n 1, 1), (60, .iaload, 1), (61, .ireturn, 1), (62, .aload_n 0, 1), (63, .getfield 10, 3), (66, .getfield 123, 3),
  (69, .iload_n 1, 1), (70, .iaload, 1), (71, .ireturn, 1), (72, .aload_n 0, 1), (73, .getfield 10, 3), (76, .getfield 126, 3),
  (79, .iload_n 1, 1), (80, .iaload, 1), (81, .ireturn, 1), (82, .aload_n 0, 1), (83, .getfield 10, 3), (86, .getfield 129, 3),
  (89, .iload_n 1, 1), (90, .iaload, 1), (91, .ireturn, 1), (92, .aload_n 0, 1), (93, .getfield 10, 3), (96, .getfield 97, 3),
  (99, .aload_n 0, 1), (100, .getfield 10, 3), (103, .iload_n 1, 1), (104, .invokevirtual 132, 3), (107, .ireturn, 1), (108, .aload_n 0, 1),
  (109, .getfield 10, 3), (112, .iload_n 1, 1), (113, .aload_n 0, 1), (114, .getfield 10, 3), (117, .getfield 97, 3), (120, .getfield 135, 3),
  (123, .invokevirtual 138, 3), (126, .ifCond .eq 7, 3), (129, .iconst 1, 1), (130, .goto 4, 3), (133, .iconst 0, 1), (134, .ireturn, 1),
  (135, .iconst (-1), 1), (136, .ireturn, 1)])
set_option maxRecDepth 100000 in
theorem K_Wb_windOf : mOk M_Wb_windOf := by decide +kernel
def M_Wb_promise : zM := ("WindBrides", ⟨"WindBrides", "promise", "(II)I"⟩, prog_1_method_12_code, 4, (some .int), [
  (0, .aload_n 0, 1), (1, .getfield 10, 3), (4, .iload_n 1, 1), (5, .invokevirtual 84, 3), (8, .ifCond .eq 19, 3), (11, .iload_n 2, 1),
  (12, .iconst (-1), 1), (13, .if_icmp .eq 16, 3), (16, .aload_n 0, 1), (17, .getfield 10, 3), (20, .iload_n 2, 1), (21, .invokevirtual 117, 3),
  (24, .ifCond .ne 5, 3), (27, .iconst (-1), 1), (28, .ireturn, 1), (29, .aload_n 0, 1), (30, .getfield 10, 3), (33, .getfield 97, 3),
  (36, .getfield 100, 3), (39, .iload_n 1, 1), (40, .iaload, 1), (41, .istore_n 3, 1), (42, .aload_n 0, 1), (43, .getfield 10, 3),
  (46, .getfield 97, 3), (49, .aload_n 0, 1), (50, .getfield 10, 3), (53, .iload_n 1, 1), (54, .iload_n 2, 1), (55, .iconst (-1), 1),
  (56, .if_icmp .ne 8, 3), (59, .bipush 6, 2), (61, .goto 4, 3), (64, .iload_n 2, 1), (65, .invokevirtual 142, 3), (68, .iload_n 3, 1),
  (69, .ireturn, 1)])
set_option maxRecDepth 100000 in
theorem K_Wb_promise : mOk M_Wb_promise := by decide +kernel
def M_Wb_gain : zM := ("WindBrides", ⟨"WindBrides", "gain", "(III)I"⟩, prog_1_method_13_code, 4, (some .int), [
  (0, .aload_n 0, 1), (1, .getfield 10, 3), (4, .iload_n 1, 1), (5, .invokevirtual 84, 3), (8, .ifCond .eq 24, 3), (11, .aload_n 0, 1),
  (12, .getfield 10, 3), (15, .iload_n 2, 1), (16, .invokevirtual 117, 3), (19, .ifCond .eq 13, 3), (22, .iload_n 3, 1), (23, .iconst 0, 1),
  (24, .bipush 15, 2), (26, .invokestatic 72, 3), (29, .ifCond .ne 5, 3), (32, .iconst (-1), 1), (33, .ireturn, 1), (34, .aload_n 0, 1),
  (35, .getfield 10, 3), (38, .iload_n 1, 1), (39, .iload_n 2, 1), (40, .iload_n 3, 1), (41, .invokevirtual 146, 3), (44, .ireturn, 1)])
set_option maxRecDepth 100000 in
theorem K_Wb_gain : mOk M_Wb_gain := by decide +kernel
def M_Wb_turnBetween : zM := ("WindBrides", ⟨"WindBrides", "turnBetween", "(II)I"⟩, prog_1_method_4_code, 3, (some .int), [
  (0, .iload_n 0, 1), (1, .iload_n 1, 1), (2, .if_icmp .le 9, 3), (5, .iload_n 0, 1), (6, .iload_n 1, 1), (7, .isub, 1),
  (8, .goto 6, 3), (11, .iload_n 1, 1), (12, .iload_n 0, 1), (13, .isub, 1), (14, .istore_n 2, 1), (15, .iload_n 2, 1),
  (16, .bipush 8, 2), (18, .iload_n 2, 1), (19, .isub, 1), (20, .if_icmp .le 10, 3), (23, .bipush 8, 2), (25, .iload_n 2, 1),
  (26, .isub, 1), (27, .goto 4, 3), (30, .iload_n 2, 1), (31, .ireturn, 1)])
set_option maxRecDepth 100000 in
theorem K_Wb_turnBetween : mOk M_Wb_turnBetween := by decide +kernel
def M_Wb_gainOf : zM := ("WindBrides", ⟨"WindBrides", "gainOf", "(IIII)I"⟩, prog_1_method_5_code, 7, (some .int), [
  (0, .iload_n 1, 1), (1, .iload_n 2, 1), (2, .if_icmp .le 9, 3), (5, .iload_n 1, 1), (6, .iload_n 2, 1), (7, .isub, 1),
  (8, .goto 4, 3), (11, .iconst 0, 1), (12, .istore 4, 2), (14, .iload_n 1, 1), (15, .iload_n 2, 1), (16, .iconst 2, 1),
  (17, .idiv, 1), (18, .if_icmp .le 11, 3), (21, .iload_n 1, 1), (22, .iload_n 2, 1), (23, .iconst 2, 1), (24, .idiv, 1),
  (25, .isub, 1), (26, .goto 4, 3), (29, .iconst 0, 1), (30, .istore 5, 2), (32, .iload_n 3, 1), (33, .iconst 3, 1),
  (34, .if_icmp .ge 7, 3), (37, .iconst 0, 1), (38, .goto 5, 3), (41, .iload 4, 2), (43, .istore 6, 2), (45, .iload_n 0, 1),
  (46, .tableswitch 58 1 5 #[34, 39, 42, 47, 50], 34), (80, .iload 4, 2), (82, .iconst 2, 1), (83, .idiv, 1), (84, .ireturn, 1), (85, .iload 5, 2),
  (87, .ireturn, 1), (88, .iload 5, 2), (90, .iconst 1, 1), (91, .iadd, 1), (92, .ireturn, 1), (93, .iload 6, 2),
  (95, .ireturn, 1), (96, .iload 6, 2), (98, .bipush 9, 2), (100, .iadd, 1), (101, .iload_n 1, 1), (102, .isub, 1),
  (103, .ireturn, 1), (104, .iload 4, 2), (106, .ireturn, 1)])
set_option maxRecDepth 100000 in
theorem K_Wb_gainOf : mOk M_Wb_gainOf := by decide +kernel
def M_Wb_ends : zM := ("WindBrides", ⟨"WindBrides", "ends", "(I)I"⟩, prog_1_method_14_code, 3, (some .int), [
  (0, .iload_n 1, 1), (1, .iconst 1, 1), (2, .bipush 16, 2), (4, .invokestatic 72, 3), (7, .ifCond .ne 5, 3), (10, .iconst (-1), 1),
  (11, .ireturn, 1), (12, .iload_n 1, 1), (13, .aload_n 0, 1), (14, .getfield 10, 3), (17, .getfield 97, 3), (20, .getfield 135, 3),
  (23, .if_icmp .ge 6, 3), (26, .bipush (-4), 2), (28, .ireturn, 1), (29, .aload_n 0, 1), (30, .getfield 10, 3), (33, .getfield 149, 3),
  (36, .istore_n 2, 1), (37, .aload_n 0, 1), (38, .getfield 10, 3), (41, .iload_n 1, 1), (42, .putfield 149, 3), (45, .iload_n 2, 1),
  (46, .ireturn, 1)])
set_option maxRecDepth 100000 in
theorem K_Wb_ends : mOk M_Wb_ends := by decide +kernel
def M_Wb_anew : zM := ("WindBrides", ⟨"WindBrides", "anew", "()I"⟩, prog_1_method_15_code, 3, (some .int), [
  (0, .aload_n 0, 1), (1, .getfield 10, 3), (4, .getfield 97, 3), (7, .getfield 135, 3), (10, .istore_n 1, 1), (11, .aload_n 0, 1),
  (12, .getfield 10, 3), (15, .getfield 97, 3), (18, .iconst 0, 1), (19, .putfield 135, 3), (22, .aload_n 0, 1), (23, .getfield 10, 3),
  (26, .iconst 0, 1), (27, .putfield 152, 3), (30, .iconst 0, 1), (31, .istore_n 2, 1), (32, .iload_n 2, 1), (33, .aload_n 0, 1),
  (34, .getfield 10, 3), (37, .getfield 76, 3), (40, .if_icmp .ge 30, 3), (43, .aload_n 0, 1), (44, .getfield 10, 3), (47, .getfield 97, 3),
  (50, .getfield 103, 3), (53, .iload_n 2, 1), (54, .aload_n 0, 1), (55, .getfield 10, 3), (58, .getfield 94, 3), (61, .iload_n 2, 1),
  (62, .iaload, 1), (63, .iastore, 1), (64, .iinc 2 1, 3), (67, .goto (-35), 3), (70, .iload_n 1, 1), (71, .ireturn, 1)])
set_option maxRecDepth 100000 in
theorem K_Wb_anew : mOk M_Wb_anew := by decide +kernel
def M_Wb_state : zM := ("WindBrides", ⟨"WindBrides", "state", "(I)I"⟩, prog_1_method_16_code, 2, (some .int), [
  (0, .iload_n 1, 1), (1, .tableswitch 74 0 3 #[31, 42, 50, 58], 31), (32, .aload_n 0, 1), (33, .getfield 10, 3), (36, .getfield 97, 3), (39, .getfield 135, 3),
  (42, .ireturn, 1), (43, .aload_n 0, 1), (44, .getfield 10, 3), (47, .getfield 149, 3), (50, .ireturn, 1), (51, .aload_n 0, 1),
  (52, .getfield 10, 3), (55, .getfield 152, 3), (58, .ireturn, 1), (59, .aload_n 0, 1), (60, .getfield 10, 3), (63, .invokevirtual 155, 3),
  (66, .ifCond .eq 7, 3), (69, .iconst 1, 1), (70, .goto 4, 3), (73, .iconst 0, 1), (74, .ireturn, 1), (75, .iconst (-1), 1),
  (76, .ireturn, 1)])
set_option maxRecDepth 100000 in
theorem K_Wb_state : mOk M_Wb_state := by decide +kernel
def M_Wb_feed : zM := ("WindBrides", ⟨"WindBrides", "feed", "(JI)I"⟩, prog_1_method_17_code, 4, (some .int), [
  (0, .iload_n 3, 1), (1, .iconst 1, 1), (2, .bipush 8, 2), (4, .invokestatic 72, 3), (7, .ifCond .ne 5, 3), (10, .iconst (-1), 1),
  (11, .ireturn, 1), (12, .aload_n 0, 1), (13, .getfield 29, 3), (16, .iload_n 3, 1), (17, .invokevirtual 159, 3), (20, .ifCond .ne 6, 3),
  (23, .bipush (-2), 2), (25, .ireturn, 1), (26, .aload_n 0, 1), (27, .getfield 29, 3), (30, .lload_n 1, 1), (31, .iload_n 3, 1),
  (32, .invokevirtual 162, 3), (35, .ireturn, 1)])
set_option maxRecDepth 100000 in
theorem K_Wb_feed : mOk M_Wb_feed := by decide +kernel
def M_Wb_rules : zM := ("WindBrides", ⟨"WindBrides", "rules", "()I"⟩, prog_1_method_18_code, 2, (some .int), [
  (0, .aload_n 0, 1), (1, .getfield 29, 3), (4, .aload_n 0, 1), (5, .getfield 36, 3), (8, .invokevirtual 166, 3), (11, .istore_n 1, 1),
  (12, .iload_n 1, 1), (13, .ifCond .lt 17, 3), (16, .aload_n 0, 1), (17, .getfield 10, 3), (20, .getfield 170, 3), (23, .aload_n 0, 1),
  (24, .getfield 36, 3), (27, .invokevirtual 173, 3), (30, .iload_n 1, 1), (31, .ireturn, 1)])
set_option maxRecDepth 100000 in
theorem K_Wb_rules : mOk M_Wb_rules := by decide +kernel
def M_Wb_month : zM := ("WindBrides", ⟨"WindBrides", "month", "()I"⟩, prog_1_method_19_code, 1, (some .int), [
  (0, .aload_n 0, 1), (1, .getfield 10, 3), (4, .invokevirtual 155, 3), (7, .ifCond .eq 8, 3), (10, .bipush (-4), 2), (12, .goto 8, 3),
  (15, .aload_n 0, 1), (16, .iconst 0, 1), (17, .invokevirtual 177, 3), (20, .ireturn, 1)])
set_option maxRecDepth 100000 in
theorem K_Wb_month : mOk M_Wb_month := by decide +kernel
def M_Wb_passMonth : zM := ("WindBrides", ⟨"WindBrides", "passMonth", "(I)I"⟩, prog_1_method_20_code, 3, (some .int), [
  (0, .aload_n 0, 1), (1, .getfield 10, 3), (4, .getfield 97, 3), (7, .aload_n 0, 1), (8, .getfield 10, 3), (11, .iload_n 1, 1),
  (12, .invokevirtual 181, 3), (15, .istore_n 2, 1), (16, .aload_n 0, 1), (17, .getfield 10, 3), (20, .dup, 1), (21, .getfield 152, 3),
  (24, .iload_n 2, 1), (25, .iadd, 1), (26, .putfield 152, 3), (29, .iload_n 2, 1), (30, .ireturn, 1)])
set_option maxRecDepth 100000 in
theorem K_Wb_passMonth : mOk M_Wb_passMonth := by decide +kernel
def M_Wb_on : zM := ("WindBrides", ⟨"WindBrides", "on", "(I)I"⟩, prog_1_method_21_code, 4, (some .int), [
  (0, .iload_n 1, 1), (1, .iconst 0, 1), (2, .bipush 16, 2), (4, .invokestatic 72, 3), (7, .ifCond .ne 5, 3), (10, .iconst (-1), 1),
  (11, .ireturn, 1), (12, .aload_n 0, 1), (13, .getfield 22, 3), (16, .aload_n 0, 1), (17, .getfield 10, 3), (20, .getfield 97, 3),
  (23, .invokevirtual 184, 3), (26, .iconst 0, 1), (27, .istore_n 2, 1), (28, .iconst 0, 1), (29, .istore_n 3, 1), (30, .iload_n 3, 1),
  (31, .iload_n 1, 1), (32, .if_icmp .ge 41, 3), (35, .aload_n 0, 1), (36, .getfield 22, 3), (39, .getfield 135, 3), (42, .aload_n 0, 1),
  (43, .getfield 10, 3), (46, .getfield 149, 3), (49, .if_icmp .ge 24, 3), (52, .iload_n 2, 1), (53, .aload_n 0, 1), (54, .getfield 22, 3),
  (57, .aload_n 0, 1), (58, .getfield 10, 3), (61, .iconst 0, 1), (62, .invokevirtual 181, 3), (65, .iadd, 1), (66, .istore_n 2, 1),
  (67, .iinc 3 1, 3), (70, .goto (-40), 3), (73, .iload_n 2, 1), (74, .ireturn, 1)])
set_option maxRecDepth 100000 in
theorem K_Wb_on : mOk M_Wb_on := by decide +kernel
def M_Wb_courted : zM := ("WindBrides", ⟨"WindBrides", "courted", "(I)I"⟩, prog_1_method_22_code, 4, (some .int), [
  (0, .aload_n 0, 1), (1, .getfield 10, 3), (4, .iload_n 1, 1), (5, .invokevirtual 84, 3), (8, .ifCond .ne 5, 3), (11, .iconst (-1), 1),
  (12, .ireturn, 1), (13, .aload_n 0, 1), (14, .getfield 22, 3), (17, .aload_n 0, 1), (18, .getfield 10, 3), (21, .getfield 97, 3),
  (24, .invokevirtual 184, 3), (27, .iconst 0, 1), (28, .istore_n 2, 1), (29, .aload_n 0, 1), (30, .getfield 22, 3), (33, .getfield 135, 3),
  (36, .istore_n 3, 1), (37, .iload_n 3, 1), (38, .aload_n 0, 1), (39, .getfield 10, 3), (42, .getfield 149, 3), (45, .if_icmp .ge 36, 3),
  (48, .aload_n 0, 1), (49, .getfield 22, 3), (52, .aload_n 0, 1), (53, .getfield 10, 3), (56, .iconst 0, 1), (57, .invokevirtual 181, 3),
  (60, .pop, 1), (61, .iload_n 2, 1), (62, .aload_n 0, 1), (63, .getfield 22, 3), (66, .getfield 187, 3), (69, .iload_n 1, 1),
  (70, .ishr, 1), (71, .iconst 1, 1), (72, .iand, 1), (73, .iadd, 1), (74, .istore_n 2, 1), (75, .iinc 3 1, 3),
  (78, .goto (-41), 3), (81, .iload_n 2, 1), (82, .ireturn, 1)])
set_option maxRecDepth 100000 in
theorem K_Wb_courted : mOk M_Wb_courted := by decide +kernel
def M_Wb_breaks : zM := ("WindBrides", ⟨"WindBrides", "breaks", "(I)I"⟩, prog_1_method_23_code, 4, (some .int), [
  (0, .aload_n 0, 1), (1, .getfield 10, 3), (4, .iload_n 1, 1), (5, .invokevirtual 84, 3), (8, .ifCond .ne 5, 3), (11, .iconst (-1), 1),
  (12, .ireturn, 1), (13, .aload_n 0, 1), (14, .getfield 10, 3), (17, .getfield 97, 3), (20, .getfield 100, 3), (23, .iload_n 1, 1),
  (24, .iaload, 1), (25, .istore_n 2, 1), (26, .iload_n 2, 1), (27, .bipush 6, 2), (29, .if_icmp .ne 6, 3), (32, .bipush (-3), 2),
  (34, .ireturn, 1), (35, .aload_n 0, 1), (36, .getfield 22, 3), (39, .aload_n 0, 1), (40, .getfield 10, 3), (43, .getfield 97, 3),
  (46, .invokevirtual 184, 3), (49, .aload_n 0, 1), (50, .getfield 22, 3), (53, .getfield 135, 3), (56, .istore_n 3, 1), (57, .iload_n 3, 1),
  (58, .aload_n 0, 1), (59, .getfield 10, 3), (62, .getfield 149, 3), (65, .if_icmp .ge 37, 3), (68, .aload_n 0, 1), (69, .getfield 22, 3),
  (72, .aload_n 0, 1), (73, .getfield 10, 3), (76, .iconst 0, 1), (77, .invokevirtual 181, 3), (80, .pop, 1), (81, .aload_n 0, 1),
  (82, .getfield 22, 3), (85, .getfield 100, 3), (88, .iload_n 1, 1), (89, .iaload, 1), (90, .iload_n 2, 1), (91, .if_icmp .eq 5, 3),
  (94, .iload_n 3, 1), (95, .ireturn, 1), (96, .iinc 3 1, 3), (99, .goto (-42), 3), (102, .bipush (-3), 2), (104, .ireturn, 1)])
set_option maxRecDepth 100000 in
theorem K_Wb_breaks : mOk M_Wb_breaks := by decide +kernel
def M_Wb_windFor : zM := ("WindBrides", ⟨"WindBrides", "windFor", "(I)I"⟩, prog_1_method_25_code, 7, (some .int), [
  (0, .aload_n 0, 1), (1, .getfield 10, 3), (4, .iload_n 1, 1), (5, .invokevirtual 84, 3), (8, .ifCond .ne 5, 3), (11, .iconst (-1), 1),
  (12, .ireturn, 1), (13, .bipush 6, 2), (15, .istore_n 2, 1), (16, .iconst (-1), 1), (17, .istore_n 3, 1), (18, .iconst 0, 1),
  (19, .istore 4, 2), (21, .iload 4, 2), (23, .aload_n 0, 1), (24, .getfield 10, 3), (27, .getfield 110, 3), (30, .if_icmp .gt 76, 3),
  (33, .iload 4, 2), (35, .aload_n 0, 1), (36, .getfield 10, 3), (39, .getfield 110, 3), (42, .if_icmp .ge 8, 3), (45, .iload 4, 2),
  (47, .goto 5, 3), (50, .bipush 6, 2), (52, .istore 5, 2), (54, .aload_n 0, 1), (55, .getfield 22, 3), (58, .aload_n 0, 1),
  (59, .getfield 10, 3), (62, .getfield 97, 3), (65, .invokevirtual 184, 3), (68, .aload_n 0, 1), (69, .getfield 22, 3), (72, .aload_n 0, 1),
  (73, .getfield 10, 3), (76, .iload_n 1, 1), (77, .iload 5, 2), (79, .invokevirtual 142, 3), (82, .aload_n 0, 1), (83, .invokevirtual 190, 3),
  (86, .istore 6, 2), (88, .iload 6, 2), (90, .iload_n 3, 1), (91, .if_icmp .le 9, 3), (94, .iload 6, 2), (96, .istore_n 3, 1),
  (97, .iload 5, 2), (99, .istore_n 2, 1), (100, .iinc 4 1, 3), (103, .goto (-82), 3), (106, .iload_n 2, 1), (107, .ireturn, 1)])
set_option maxRecDepth 100000 in
theorem K_Wb_windFor : mOk M_Wb_windFor := by decide +kernel
def M_Wb_trialRest : zM := ("WindBrides", ⟨"WindBrides", "trialRest", "()I"⟩, prog_1_method_24_code, 3, (some .int), [
  (0, .iconst 0, 1), (1, .istore_n 1, 1), (2, .aload_n 0, 1), (3, .getfield 22, 3), (6, .getfield 135, 3), (9, .istore_n 2, 1),
  (10, .iload_n 2, 1), (11, .aload_n 0, 1), (12, .getfield 10, 3), (15, .getfield 149, 3), (18, .if_icmp .ge 24, 3), (21, .iload_n 1, 1),
  (22, .aload_n 0, 1), (23, .getfield 22, 3), (26, .aload_n 0, 1), (27, .getfield 10, 3), (30, .iconst 0, 1), (31, .invokevirtual 181, 3),
  (34, .iadd, 1), (35, .istore_n 1, 1), (36, .iinc 2 1, 3), (39, .goto (-29), 3), (42, .iload_n 1, 1), (43, .ireturn, 1)])
set_option maxRecDepth 100000 in
theorem K_Wb_trialRest : mOk M_Wb_trialRest := by decide +kernel
def M_Wb_dowryFor : zM := ("WindBrides", ⟨"WindBrides", "dowryFor", "(I)I"⟩, prog_1_method_26_code, 7, (some .int), [
  (0, .aload_n 0, 1), (1, .getfield 10, 3), (4, .iload_n 1, 1), (5, .invokevirtual 84, 3), (8, .ifCond .ne 5, 3), (11, .iconst (-1), 1),
  (12, .ireturn, 1), (13, .aload_n 0, 1), (14, .getfield 10, 3), (17, .getfield 94, 3), (20, .iload_n 1, 1), (21, .iaload, 1),
  (22, .istore_n 2, 1), (23, .iconst 1, 1), (24, .istore_n 3, 1), (25, .iconst (-1), 1), (26, .istore 4, 2), (28, .iconst 1, 1),
  (29, .istore 5, 2), (31, .iload 5, 2), (33, .bipush 9, 2), (35, .if_icmp .gt 65, 3), (38, .aload_n 0, 1), (39, .getfield 10, 3),
  (42, .getfield 94, 3), (45, .iload_n 1, 1), (46, .iload 5, 2), (48, .iastore, 1), (49, .aload_n 0, 1), (50, .getfield 22, 3),
  (53, .aload_n 0, 1), (54, .getfield 10, 3), (57, .getfield 97, 3), (60, .invokevirtual 184, 3), (63, .aload_n 0, 1), (64, .getfield 22, 3),
  (67, .getfield 103, 3), (70, .iload_n 1, 1), (71, .iload 5, 2), (73, .iastore, 1), (74, .aload_n 0, 1), (75, .invokevirtual 190, 3),
  (78, .istore 6, 2), (80, .iload 6, 2), (82, .iload 4, 2), (84, .if_icmp .le 10, 3), (87, .iload 6, 2), (89, .istore 4, 2),
  (91, .iload 5, 2), (93, .istore_n 3, 1), (94, .iinc 5 1, 3), (97, .goto (-66), 3), (100, .aload_n 0, 1), (101, .getfield 10, 3),
  (104, .getfield 94, 3), (107, .iload_n 1, 1), (108, .iload_n 2, 1), (109, .iastore, 1), (110, .iload_n 3, 1), (111, .ireturn, 1)])
set_option maxRecDepth 100000 in
theorem K_Wb_dowryFor : mOk M_Wb_dowryFor := by decide +kernel
def M_Wb_leave : zM := ("WindBrides", ⟨"WindBrides", "leave", "()I"⟩, prog_1_method_27_code, 4, (some .int), [
  (0, .iconst 0, 1), (1, .istore_n 1, 1), (2, .iconst 0, 1), (3, .istore_n 2, 1), (4, .iload_n 2, 1), (5, .aload_n 0, 1),
  (6, .getfield 10, 3), (9, .getfield 76, 3), (12, .if_icmp .ge 48, 3), (15, .iconst 0, 1), (16, .istore_n 3, 1), (17, .iload_n 3, 1),
  (18, .aload_n 0, 1), (19, .getfield 10, 3), (22, .getfield 110, 3), (25, .if_icmp .ge 29, 3), (28, .iload_n 1, 1), (29, .aload_n 0, 1),
  (30, .getfield 10, 3), (33, .iload_n 2, 1), (34, .iload_n 3, 1), (35, .invokevirtual 194, 3), (38, .ifCond .eq 7, 3), (41, .iconst 1, 1),
  (42, .goto 4, 3), (45, .iconst 0, 1), (46, .iadd, 1), (47, .istore_n 1, 1), (48, .iinc 3 1, 3), (51, .goto (-34), 3),
  (54, .iinc 2 1, 3), (57, .goto (-53), 3), (60, .iload_n 1, 1), (61, .ireturn, 1)])
set_option maxRecDepth 100000 in
theorem K_Wb_leave : mOk M_Wb_leave := by decide +kernel
def M_Wb_first : zM := ("WindBrides", ⟨"WindBrides", "first", "()I"⟩, prog_1_method_28_code, 3, (some .int), [
  (0, .iconst 0, 1), (1, .istore_n 1, 1), (2, .iload_n 1, 1), (3, .aload_n 0, 1), (4, .getfield 10, 3), (7, .getfield 76, 3),
  (10, .if_icmp .ge 47, 3), (13, .iconst 0, 1), (14, .istore_n 2, 1), (15, .iload_n 2, 1), (16, .aload_n 0, 1), (17, .getfield 10, 3),
  (20, .getfield 110, 3), (23, .if_icmp .ge 28, 3), (26, .aload_n 0, 1), (27, .getfield 10, 3), (30, .iload_n 1, 1), (31, .iload_n 2, 1),
  (32, .invokevirtual 194, 3), (35, .ifCond .eq 10, 3), (38, .bipush 10, 2), (40, .iload_n 1, 1), (41, .imul, 1), (42, .iload_n 2, 1),
  (43, .iadd, 1), (44, .ireturn, 1), (45, .iinc 2 1, 3), (48, .goto (-33), 3), (51, .iinc 1 1, 3), (54, .goto (-52), 3),
  (57, .bipush (-3), 2), (59, .ireturn, 1)])
set_option maxRecDepth 100000 in
theorem K_Wb_first : mOk M_Wb_first := by decide +kernel
def M_Wb_kept : zM := ("WindBrides", ⟨"WindBrides", "kept", "(I)I"⟩, prog_1_method_29_code, 2, (some .int), [
  (0, .aload_n 0, 1), (1, .getfield 10, 3), (4, .iload_n 1, 1), (5, .invokevirtual 84, 3), (8, .ifCond .eq 14, 3), (11, .aload_n 0, 1),
  (12, .getfield 10, 3), (15, .iload_n 1, 1), (16, .invokevirtual 197, 3), (19, .goto 4, 3), (22, .iconst (-1), 1), (23, .ireturn, 1)])
set_option maxRecDepth 100000 in
theorem K_Wb_kept : mOk M_Wb_kept := by decide +kernel
def M_Wb_ring : zM := ("WindBrides", ⟨"WindBrides", "ring", "(I)I"⟩, prog_1_method_30_code, 2, (some .int), [
  (0, .aload_n 0, 1), (1, .getfield 10, 3), (4, .iload_n 1, 1), (5, .invokevirtual 84, 3), (8, .ifCond .eq 14, 3), (11, .aload_n 0, 1),
  (12, .getfield 10, 3), (15, .iload_n 1, 1), (16, .invokevirtual 200, 3), (19, .goto 4, 3), (22, .iconst (-1), 1), (23, .ireturn, 1)])
set_option maxRecDepth 100000 in
theorem K_Wb_ring : mOk M_Wb_ring := by decide +kernel
def M_Wb_best : zM := ("WindBrides", ⟨"WindBrides", "best", "(I)I"⟩, prog_1_method_33_code, 2, (some .int), [
  (0, .iload_n 1, 1), (1, .invokestatic 203, 3), (4, .ifCond .ne 5, 3), (7, .iconst (-1), 1), (8, .ireturn, 1), (9, .aload_n 0, 1),
  (10, .getfield 43, 3), (13, .aload_n 0, 1), (14, .getfield 10, 3), (17, .iload_n 1, 1), (18, .iconst 0, 1), (19, .invokevirtual 206, 3),
  (22, .aload_n 0, 1), (23, .getfield 43, 3), (26, .getfield 209, 3), (29, .ireturn, 1)])
set_option maxRecDepth 100000 in
theorem K_Wb_best : mOk M_Wb_best := by decide +kernel
def M_Wb_isPlanLength : zM := ("WindBrides", ⟨"WindBrides", "isPlanLength", "(I)Z"⟩, prog_1_method_31_code, 1, (some .boolean), [
  (0, .iload_n 0, 1), (1, .iconst 0, 1), (2, .iconst 4, 1), (3, .invokestatic 72, 3), (6, .ireturn, 1)])
set_option maxRecDepth 100000 in
theorem K_Wb_isPlanLength : mOk M_Wb_isPlanLength := by decide +kernel
def M_Wb_ith : zM := ("WindBrides", ⟨"WindBrides", "ith", "(II)I"⟩, prog_1_method_34_code, 3, (some .int), [
  (0, .iload_n 1, 1), (1, .invokestatic 203, 3), (4, .ifCond .eq 12, 3), (7, .iload_n 2, 1), (8, .iconst 0, 1), (9, .iconst 3, 1),
  (10, .invokestatic 72, 3), (13, .ifCond .ne 5, 3), (16, .iconst (-1), 1), (17, .ireturn, 1), (18, .aload_n 0, 1), (19, .getfield 43, 3),
  (22, .aload_n 0, 1), (23, .getfield 10, 3), (26, .iload_n 1, 1), (27, .iconst 0, 1), (28, .invokevirtual 206, 3), (31, .iload_n 2, 1),
  (32, .aload_n 0, 1), (33, .getfield 43, 3), (36, .getfield 212, 3), (39, .if_icmp .ge 15, 3), (42, .aload_n 0, 1), (43, .getfield 43, 3),
  (46, .getfield 215, 3), (49, .iload_n 2, 1), (50, .iaload, 1), (51, .goto 5, 3), (54, .bipush (-3), 2), (56, .ireturn, 1)])
set_option maxRecDepth 100000 in
theorem K_Wb_ith : mOk M_Wb_ith := by decide +kernel
def M_Wb_ways : zM := ("WindBrides", ⟨"WindBrides", "ways", "(I)I"⟩, prog_1_method_35_code, 2, (some .int), [
  (0, .iload_n 1, 1), (1, .invokestatic 203, 3), (4, .ifCond .ne 5, 3), (7, .iconst (-1), 1), (8, .ireturn, 1), (9, .aload_n 0, 1),
  (10, .getfield 43, 3), (13, .aload_n 0, 1), (14, .getfield 10, 3), (17, .iload_n 1, 1), (18, .iconst 0, 1), (19, .invokevirtual 206, 3),
  (22, .aload_n 0, 1), (23, .getfield 43, 3), (26, .getfield 218, 3), (29, .ireturn, 1)])
set_option maxRecDepth 100000 in
theorem K_Wb_ways : mOk M_Wb_ways := by decide +kernel
def M_Wb_bound : zM := ("WindBrides", ⟨"WindBrides", "bound", "(II)I"⟩, prog_1_method_36_code, 3, (some .int), [
  (0, .iload_n 1, 1), (1, .invokestatic 203, 3), (4, .ifCond .eq 11, 3), (7, .aload_n 0, 1), (8, .iload_n 2, 1), (9, .invokevirtual 221, 3),
  (12, .ifCond .ne 5, 3), (15, .iconst (-1), 1), (16, .ireturn, 1), (17, .aload_n 0, 1), (18, .getfield 43, 3), (21, .aload_n 0, 1),
  (22, .getfield 10, 3), (25, .iload_n 1, 1), (26, .iload_n 2, 1), (27, .invokevirtual 206, 3), (30, .aload_n 0, 1), (31, .getfield 43, 3),
  (34, .getfield 224, 3), (37, .iconst 4, 1), (38, .if_icmp .gt 13, 3), (41, .aload_n 0, 1), (42, .getfield 43, 3), (45, .getfield 224, 3),
  (48, .goto 5, 3), (51, .bipush (-3), 2), (53, .ireturn, 1)])
set_option maxRecDepth 100000 in
theorem K_Wb_bound : mOk M_Wb_bound := by decide +kernel
def M_Wb_isSetOfGirls : zM := ("WindBrides", ⟨"WindBrides", "isSetOfGirls", "(I)Z"⟩, prog_1_method_32_code, 2, (some .boolean), [
  (0, .iload_n 1, 1), (1, .aload_n 0, 1), (2, .getfield 10, 3), (5, .getfield 76, 3), (8, .ishr, 1), (9, .ifCond .ne 7, 3),
  (12, .iconst 1, 1), (13, .goto 4, 3), (16, .iconst 0, 1), (17, .ireturn, 1)])
set_option maxRecDepth 100000 in
theorem K_Wb_isSetOfGirls : mOk M_Wb_isSetOfGirls := by decide +kernel
def M_Wb_bars : zM := ("WindBrides", ⟨"WindBrides", "bars", "(II)I"⟩, prog_1_method_37_code, 4, (some .int), [
  (0, .iload_n 1, 1), (1, .invokestatic 203, 3), (4, .ifCond .eq 11, 3), (7, .aload_n 0, 1), (8, .iload_n 2, 1), (9, .invokevirtual 221, 3),
  (12, .ifCond .ne 5, 3), (15, .iconst (-1), 1), (16, .ireturn, 1), (17, .aload_n 0, 1), (18, .getfield 43, 3), (21, .aload_n 0, 1),
  (22, .getfield 10, 3), (25, .iload_n 1, 1), (26, .iload_n 2, 1), (27, .invokevirtual 206, 3), (30, .iload_n 2, 1), (31, .aload_n 0, 1),
  (32, .getfield 43, 3), (35, .getfield 227, 3), (38, .iconst (-1), 1), (39, .ixor, 1), (40, .iand, 1), (41, .istore_n 3, 1),
  (42, .iload_n 3, 1), (43, .ifCond .ne 8, 3), (46, .bipush (-3), 2), (48, .goto 7, 3), (51, .iload_n 3, 1), (52, .invokestatic 230, 3),
  (55, .ireturn, 1)])
set_option maxRecDepth 100000 in
theorem K_Wb_bars : mOk M_Wb_bars := by decide +kernel
def M_Wb_game : zM := ("WindBrides", ⟨"WindBrides", "game", "(I)I"⟩, prog_1_method_38_code, 2, (some .int), [
  (0, .iload_n 1, 1), (1, .iconst 1, 1), (2, .iconst 4, 1), (3, .invokestatic 72, 3), (6, .ifCond .ne 5, 3), (9, .iconst (-1), 1),
  (10, .ireturn, 1), (11, .aload_n 0, 1), (12, .getfield 43, 3), (15, .aload_n 0, 1), (16, .getfield 10, 3), (19, .iload_n 1, 1),
  (20, .invokevirtual 235, 3), (23, .ireturn, 1)])
set_option maxRecDepth 100000 in
theorem K_Wb_game : mOk M_Wb_game := by decide +kernel
def M_Wb_play : zM := ("WindBrides", ⟨"WindBrides", "play", "(I)I"⟩, prog_1_method_39_code, 2, (some .int), [
  (0, .iload_n 1, 1), (1, .iconst 1, 1), (2, .iconst 4, 1), (3, .invokestatic 72, 3), (6, .ifCond .ne 5, 3), (9, .iconst (-1), 1),
  (10, .ireturn, 1), (11, .aload_n 0, 1), (12, .getfield 10, 3), (15, .invokevirtual 155, 3), (18, .ifCond .eq 6, 3), (21, .bipush (-3), 2),
  (23, .ireturn, 1), (24, .aload_n 0, 1), (25, .getfield 43, 3), (28, .aload_n 0, 1), (29, .getfield 10, 3), (32, .iload_n 1, 1),
  (33, .invokevirtual 235, 3), (36, .pop, 1), (37, .aload_n 0, 1), (38, .getfield 43, 3), (41, .getfield 238, 3), (44, .ireturn, 1)])
set_option maxRecDepth 100000 in
theorem K_Wb_play : mOk M_Wb_play := by decide +kernel
def M_Wb_report : zM := ("WindBrides", ⟨"WindBrides", "report", "(IIII)I"⟩, prog_1_method_40_code, 5, (some .int), [
  (0, .iload_n 1, 1), (1, .iconst 1, 1), (2, .iconst 5, 1), (3, .invokestatic 72, 3), (6, .ifCond .eq 34, 3), (9, .iload_n 2, 1),
  (10, .iconst 0, 1), (11, .bipush 7, 2), (13, .invokestatic 72, 3), (16, .ifCond .eq 24, 3), (19, .iload_n 3, 1), (20, .iconst 0, 1),
  (21, .bipush 99, 2), (23, .invokestatic 72, 3), (26, .ifCond .eq 14, 3), (29, .iload 4, 2), (31, .iload_n 3, 1), (32, .bipush 99, 2),
  (34, .invokestatic 72, 3), (37, .ifCond .ne 5, 3), (40, .iconst (-1), 1), (41, .ireturn, 1), (42, .aload_n 0, 1), (43, .getfield 10, 3),
  (46, .getfield 241, 3), (49, .bipush 6, 2), (51, .if_icmp .ne 6, 3), (54, .bipush (-2), 2), (56, .ireturn, 1), (57, .aload_n 0, 1),
  (58, .getfield 10, 3), (61, .iload_n 1, 1), (62, .iload_n 2, 1), (63, .iload_n 3, 1), (64, .iload 4, 2), (66, .invokevirtual 244, 3),
  (69, .ireturn, 1)])
set_option maxRecDepth 100000 in
theorem K_Wb_report : mOk M_Wb_report := by decide +kernel
def M_Wb_forget : zM := ("WindBrides", ⟨"WindBrides", "forget", "()I"⟩, prog_1_method_41_code, 2, (some .int), [
  (0, .aload_n 0, 1), (1, .getfield 10, 3), (4, .getfield 241, 3), (7, .istore_n 1, 1), (8, .aload_n 0, 1), (9, .getfield 10, 3),
  (12, .iconst 0, 1), (13, .putfield 241, 3), (16, .iload_n 1, 1), (17, .ireturn, 1)])
set_option maxRecDepth 100000 in
theorem K_Wb_forget : mOk M_Wb_forget := by decide +kernel
def M_Wb_span : zM := ("WindBrides", ⟨"WindBrides", "span", "(I)I"⟩, prog_1_method_42_code, 4, (some .int), [
  (0, .iload_n 1, 1), (1, .iconst 0, 1), (2, .iconst 2, 1), (3, .invokestatic 72, 3), (6, .ifCond .ne 5, 3), (9, .iconst (-1), 1),
  (10, .ireturn, 1), (11, .iload_n 1, 1), (12, .ifCond .ne 12, 3), (15, .aload_n 0, 1), (16, .getfield 10, 3), (19, .iconst (-1), 1),
  (20, .invokevirtual 247, 3), (23, .ireturn, 1), (24, .iconst 0, 1), (25, .istore_n 2, 1), (26, .iload_n 2, 1), (27, .bipush 8, 2),
  (29, .if_icmp .ge 47, 3), (32, .iconst 1, 1), (33, .istore_n 3, 1), (34, .iload_n 3, 1), (35, .bipush 9, 2), (37, .if_icmp .gt 33, 3),
  (40, .aload_n 0, 1), (41, .getfield 10, 3), (44, .iload_n 2, 1), (45, .iload_n 3, 1), (46, .iconst (-1), 1), (47, .invokevirtual 250, 3),
  (50, .ifCond .eq 14, 3), (53, .iload_n 1, 1), (54, .iconst 1, 1), (55, .if_icmp .ne 7, 3), (58, .iload_n 2, 1), (59, .goto 4, 3),
  (62, .iload_n 3, 1), (63, .ireturn, 1), (64, .iinc 3 1, 3), (67, .goto (-33), 3), (70, .iinc 2 1, 3), (73, .goto (-47), 3),
  (76, .bipush (-3), 2), (78, .ireturn, 1)])
set_option maxRecDepth 100000 in
theorem K_Wb_span : mOk M_Wb_span := by decide +kernel
def M_Wb_liar : zM := ("WindBrides", ⟨"WindBrides", "liar", "()I"⟩, prog_1_method_43_code, 2, (some .int), [
  (0, .aload_n 0, 1), (1, .getfield 10, 3), (4, .iconst (-1), 1), (5, .invokevirtual 247, 3), (8, .ifCond .le 6, 3), (11, .bipush (-3), 2),
  (13, .ireturn, 1), (14, .iconst 0, 1), (15, .istore_n 1, 1), (16, .iload_n 1, 1), (17, .aload_n 0, 1), (18, .getfield 10, 3),
  (21, .getfield 241, 3), (24, .if_icmp .ge 22, 3), (27, .aload_n 0, 1), (28, .getfield 10, 3), (31, .iload_n 1, 1), (32, .invokevirtual 247, 3),
  (35, .ifCond .le 5, 3), (38, .iload_n 1, 1), (39, .ireturn, 1), (40, .iinc 1 1, 3), (43, .goto (-27), 3), (46, .bipush (-3), 2),
  (48, .ireturn, 1)])
set_option maxRecDepth 100000 in
theorem K_Wb_liar : mOk M_Wb_liar := by decide +kernel
def M_Wb_seed : zM := ("WindBrides", ⟨"WindBrides", "seed", "(I)I"⟩, prog_1_method_44_code, 3, (some .int), [
  (0, .aload_n 0, 1), (1, .getfield 10, 3), (4, .getfield 253, 3), (7, .istore_n 2, 1), (8, .aload_n 0, 1), (9, .getfield 10, 3),
  (12, .iload_n 1, 1), (13, .putfield 253, 3), (16, .iload_n 2, 1), (17, .ireturn, 1)])
set_option maxRecDepth 100000 in
theorem K_Wb_seed : mOk M_Wb_seed := by decide +kernel
def M_Wb_lot : zM := ("WindBrides", ⟨"WindBrides", "lot", "()I"⟩, prog_1_method_45_code, 1, (some .int), [
  (0, .aload_n 0, 1), (1, .getfield 10, 3), (4, .invokevirtual 155, 3), (7, .ifCond .eq 8, 3), (10, .bipush (-4), 2), (12, .goto 14, 3),
  (15, .aload_n 0, 1), (16, .aload_n 0, 1), (17, .getfield 10, 3), (20, .invokevirtual 256, 3), (23, .invokevirtual 177, 3), (26, .ireturn, 1)])
set_option maxRecDepth 100000 in
theorem K_Wb_lot : mOk M_Wb_lot := by decide +kernel
def M_Wb_often : zM := ("WindBrides", ⟨"WindBrides", "often", "(II)I"⟩, prog_1_method_46_code, 8, (some .int), [
  (0, .iload_n 1, 1), (1, .iconst 1, 1), (2, .bipush 40, 2), (4, .invokestatic 72, 3), (7, .ifCond .eq 14, 3), (10, .iload_n 2, 1),
  (11, .iconst 0, 1), (12, .sipush 999, 3), (15, .invokestatic 72, 3), (18, .ifCond .ne 5, 3), (21, .iconst (-1), 1), (22, .ireturn, 1),
  (23, .aload_n 0, 1), (24, .getfield 10, 3), (27, .getfield 253, 3), (30, .istore_n 3, 1), (31, .iconst 0, 1), (32, .istore 4, 2),
  (34, .iconst 0, 1), (35, .istore 5, 2), (37, .iload 5, 2), (39, .iload_n 1, 1), (40, .if_icmp .ge 92, 3), (43, .aload_n 0, 1),
  (44, .getfield 22, 3), (47, .aload_n 0, 1), (48, .getfield 10, 3), (51, .getfield 97, 3), (54, .invokevirtual 184, 3), (57, .iconst 0, 1),
  (58, .istore 6, 2), (60, .aload_n 0, 1), (61, .getfield 22, 3), (64, .getfield 135, 3), (67, .istore 7, 2), (69, .iload 7, 2),
  (71, .aload_n 0, 1), (72, .getfield 10, 3), (75, .getfield 149, 3), (78, .if_icmp .ge 32, 3), (81, .iload 6, 2), (83, .aload_n 0, 1),
  (84, .getfield 22, 3), (87, .aload_n 0, 1), (88, .getfield 10, 3), (91, .aload_n 0, 1), (92, .getfield 10, 3), (95, .invokevirtual 256, 3),
  (98, .invokevirtual 181, 3), (101, .iadd, 1), (102, .istore 6, 2), (104, .iinc 7 1, 3), (107, .goto (-38), 3), (110, .iload 4, 2),
  (112, .iload 6, 2), (114, .iload_n 2, 1), (115, .if_icmp .lt 7, 3), (118, .iconst 1, 1), (119, .goto 4, 3), (122, .iconst 0, 1),
  (123, .iadd, 1), (124, .istore 4, 2), (126, .iinc 5 1, 3), (129, .goto (-92), 3), (132, .aload_n 0, 1), (133, .getfield 10, 3),
  (136, .iload_n 3, 1), (137, .putfield 253, 3), (140, .iload 4, 2), (142, .ireturn, 1)])
set_option maxRecDepth 100000 in
theorem K_Wb_often : mOk M_Wb_often := by decide +kernel
def M_Wb_prove : zM := ("WindBrides", ⟨"WindBrides", "prove", "(I)I"⟩, prog_1_method_47_code, 2, (some .int), [
  (0, .iload_n 1, 1), (1, .invokestatic 203, 3), (4, .ifCond .ne 5, 3), (7, .iconst (-1), 1), (8, .ireturn, 1), (9, .aload_n 0, 1),
  (10, .getfield 43, 3), (13, .aload_n 0, 1), (14, .getfield 10, 3), (17, .iload_n 1, 1), (18, .iconst 0, 1), (19, .invokevirtual 206, 3),
  (22, .aload_n 0, 1), (23, .getfield 43, 3), (26, .invokevirtual 259, 3), (29, .ireturn, 1)])
set_option maxRecDepth 100000 in
theorem K_Wb_prove : mOk M_Wb_prove := by decide +kernel
def M_Wb_row : zM := ("WindBrides", ⟨"WindBrides", "row", "(II)I"⟩, prog_1_method_48_code, 3, (some .int), [
  (0, .aload_n 0, 1), (1, .getfield 43, 3), (4, .iload_n 1, 1), (5, .iload_n 2, 1), (6, .invokevirtual 262, 3), (9, .ifCond .eq 19, 3),
  (12, .aload_n 0, 1), (13, .getfield 43, 3), (16, .getfield 265, 3), (19, .iconst 3, 1), (20, .iload_n 1, 1), (21, .imul, 1),
  (22, .iload_n 2, 1), (23, .iadd, 1), (24, .iaload, 1), (25, .goto 5, 3), (28, .bipush (-9), 2), (30, .ireturn, 1)])
set_option maxRecDepth 100000 in
theorem K_Wb_row : mOk M_Wb_row := by decide +kernel
def M_Wb_alterRow : zM := ("WindBrides", ⟨"WindBrides", "alterRow", "(III)I"⟩, prog_1_method_49_code, 5, (some .int), [
  (0, .aload_n 0, 1), (1, .getfield 43, 3), (4, .iload_n 1, 1), (5, .iload_n 2, 1), (6, .invokevirtual 262, 3), (9, .ifCond .ne 6, 3),
  (12, .bipush (-9), 2), (14, .ireturn, 1), (15, .aload_n 0, 1), (16, .getfield 43, 3), (19, .getfield 265, 3), (22, .iconst 3, 1),
  (23, .iload_n 1, 1), (24, .imul, 1), (25, .iload_n 2, 1), (26, .iadd, 1), (27, .iaload, 1), (28, .istore 4, 2),
  (30, .aload_n 0, 1), (31, .getfield 43, 3), (34, .getfield 265, 3), (37, .iconst 3, 1), (38, .iload_n 1, 1), (39, .imul, 1),
  (40, .iload_n 2, 1), (41, .iadd, 1), (42, .iload_n 3, 1), (43, .iastore, 1), (44, .iload 4, 2), (46, .ireturn, 1)])
set_option maxRecDepth 100000 in
theorem K_Wb_alterRow : mOk M_Wb_alterRow := by decide +kernel
def M_Wb_judge : zM := ("WindBrides", ⟨"WindBrides", "judge", "()I"⟩, prog_1_method_50_code, 1, (some .int), [
  (0, .aload_n 0, 1), (1, .getfield 43, 3), (4, .aload_n 0, 1), (5, .getfield 10, 3), (8, .invokevirtual 268, 3), (11, .ireturn, 1)])
set_option maxRecDepth 100000 in
theorem K_Wb_judge : mOk M_Wb_judge := by decide +kernel
def M_Wb_sheet : zM := ("WindBrides", ⟨"WindBrides", "sheet", "(III)I"⟩, prog_1_method_53_code, 6, (some .int), [
  (0, .iload_n 1, 1), (1, .invokestatic 272, 3), (4, .ifCond .eq 12, 3), (7, .iload_n 2, 1), (8, .iconst (-1), 1), (9, .iconst 4, 1),
  (10, .invokestatic 72, 3), (13, .ifCond .ne 5, 3), (16, .iconst (-1), 1), (17, .ireturn, 1), (18, .iload_n 2, 1), (19, .iconst (-1), 1),
  (20, .if_icmp .ne 7, 3), (23, .iconst 0, 1), (24, .goto 4, 3), (27, .iload_n 3, 1), (28, .istore 4, 2), (30, .iload 4, 2),
  (32, .bipush 40, 2), (34, .if_icmp .le 5, 3), (37, .iconst (-1), 1), (38, .ireturn, 1), (39, .iload 4, 2), (41, .ifCond .ge 6, 3),
  (44, .bipush (-14), 2), (46, .ireturn, 1), (47, .aload_n 0, 1), (48, .getfield 47, 3), (51, .iload_n 1, 1), (52, .iload_n 2, 1),
  (53, .iastore, 1), (54, .aload_n 0, 1), (55, .getfield 51, 3), (58, .iload_n 1, 1), (59, .iload 4, 2), (61, .iastore, 1),
  (62, .iconst 0, 1), (63, .istore 5, 2), (65, .iload 5, 2), (67, .iload 4, 2), (69, .if_icmp .ge 22, 3), (72, .aload_n 0, 1),
  (73, .getfield 54, 3), (76, .iload_n 1, 1), (77, .bipush 40, 2), (79, .imul, 1), (80, .iload 5, 2), (82, .iadd, 1),
  (83, .iconst 0, 1), (84, .iastore, 1), (85, .iinc 5 1, 3), (88, .goto (-23), 3), (91, .iconst 1, 1), (92, .ireturn, 1)])
set_option maxRecDepth 100000 in
theorem K_Wb_sheet : mOk M_Wb_sheet := by decide +kernel
def M_Wb_isSheet : zM := ("WindBrides", ⟨"WindBrides", "isSheet", "(I)Z"⟩, prog_1_method_51_code, 1, (some .boolean), [
  (0, .iload_n 0, 1), (1, .iconst 0, 1), (2, .iconst 3, 1), (3, .invokestatic 72, 3), (6, .ireturn, 1)])
set_option maxRecDepth 100000 in
theorem K_Wb_isSheet : mOk M_Wb_isSheet := by decide +kernel
def M_Wb_write : zM := ("WindBrides", ⟨"WindBrides", "write", "(III)I"⟩, prog_1_method_56_code, 4, (some .int), [
  (0, .iload_n 1, 1), (1, .invokestatic 272, 3), (4, .ifCond .ne 5, 3), (7, .iconst (-1), 1), (8, .ireturn, 1), (9, .aload_n 0, 1),
  (10, .getfield 47, 3), (13, .iload_n 1, 1), (14, .iaload, 1), (15, .iconst (-1), 1), (16, .if_icmp .ne 6, 3), (19, .bipush (-11), 2),
  (21, .ireturn, 1), (22, .aload_n 0, 1), (23, .iload_n 1, 1), (24, .iload_n 2, 1), (25, .invokevirtual 275, 3), (28, .ifCond .ne 6, 3),
  (31, .bipush (-12), 2), (33, .ireturn, 1), (34, .aload_n 0, 1), (35, .getfield 54, 3), (38, .iload_n 1, 1), (39, .bipush 40, 2),
  (41, .imul, 1), (42, .iload_n 2, 1), (43, .iadd, 1), (44, .aload_n 0, 1), (45, .getfield 47, 3), (48, .iload_n 1, 1),
  (49, .iaload, 1), (50, .iload_n 3, 1), (51, .invokestatic 278, 3), (54, .iastore, 1), (55, .iconst 1, 1), (56, .ireturn, 1)])
set_option maxRecDepth 100000 in
theorem K_Wb_write : mOk M_Wb_write := by decide +kernel
def M_Wb_hasItem : zM := ("WindBrides", ⟨"WindBrides", "hasItem", "(II)Z"⟩, prog_1_method_55_code, 3, (some .boolean), [
  (0, .iload_n 2, 1), (1, .ifCond .lt 17, 3), (4, .iload_n 2, 1), (5, .aload_n 0, 1), (6, .getfield 51, 3), (9, .iload_n 1, 1),
  (10, .iaload, 1), (11, .if_icmp .ge 7, 3), (14, .iconst 1, 1), (15, .goto 4, 3), (18, .iconst 0, 1), (19, .ireturn, 1)])
set_option maxRecDepth 100000 in
theorem K_Wb_hasItem : mOk M_Wb_hasItem := by decide +kernel
def M_Wb_narrowed : zM := ("WindBrides", ⟨"WindBrides", "narrowed", "(II)I"⟩, prog_1_method_54_code, 2, (some .int), [
  (0, .iload_n 0, 1), (1, .tableswitch 51 0 4 #[35, 38, 51, 51, 41], 35), (36, .iload_n 1, 1), (37, .i2b, 1), (38, .ireturn, 1), (39, .iload_n 1, 1),
  (40, .i2s, 1), (41, .ireturn, 1), (42, .iload_n 1, 1), (43, .ifCond .eq 7, 3), (46, .iconst 1, 1), (47, .goto 4, 3),
  (50, .iconst 0, 1), (51, .ireturn, 1), (52, .iload_n 1, 1), (53, .ireturn, 1)])
set_option maxRecDepth 100000 in
theorem K_Wb_narrowed : mOk M_Wb_narrowed := by decide +kernel
def M_Wb_item : zM := ("WindBrides", ⟨"WindBrides", "item", "(III)I"⟩, prog_1_method_58_code, 5, (some .int), [
  (0, .iload_n 1, 1), (1, .invokestatic 272, 3), (4, .ifCond .eq 12, 3), (7, .iload_n 2, 1), (8, .iconst 0, 1), (9, .iconst 4, 1),
  (10, .invokestatic 72, 3), (13, .ifCond .ne 5, 3), (16, .iconst (-1), 1), (17, .ireturn, 1), (18, .aload_n 0, 1), (19, .iload_n 1, 1),
  (20, .iload_n 2, 1), (21, .invokevirtual 282, 3), (24, .istore 4, 2), (26, .iload 4, 2), (28, .ifCond .eq 6, 3), (31, .iload 4, 2),
  (33, .ireturn, 1), (34, .aload_n 0, 1), (35, .iload_n 1, 1), (36, .iload_n 3, 1), (37, .invokevirtual 275, 3), (40, .ifCond .eq 17, 3),
  (43, .aload_n 0, 1), (44, .getfield 54, 3), (47, .iload_n 1, 1), (48, .bipush 40, 2), (50, .imul, 1), (51, .iload_n 3, 1),
  (52, .iadd, 1), (53, .iaload, 1), (54, .goto 5, 3), (57, .bipush (-12), 2), (59, .ireturn, 1)])
set_option maxRecDepth 100000 in
theorem K_Wb_item : mOk M_Wb_item := by decide +kernel
def M_Wb_refusalAs : zM := ("WindBrides", ⟨"WindBrides", "refusalAs", "(II)I"⟩, prog_1_method_57_code, 3, (some .int), [
  (0, .aload_n 0, 1), (1, .getfield 47, 3), (4, .iload_n 1, 1), (5, .iaload, 1), (6, .iconst (-1), 1), (7, .if_icmp .ne 6, 3),
  (10, .bipush (-11), 2), (12, .ireturn, 1), (13, .aload_n 0, 1), (14, .getfield 47, 3), (17, .iload_n 1, 1), (18, .iaload, 1),
  (19, .iload_n 2, 1), (20, .if_icmp .ne 7, 3), (23, .iconst 0, 1), (24, .goto 5, 3), (27, .bipush (-13), 2), (29, .ireturn, 1)])
set_option maxRecDepth 100000 in
theorem K_Wb_refusalAs : mOk M_Wb_refusalAs := by decide +kernel
def M_Wb_goAll : zM := ("WindBrides", ⟨"WindBrides", "goAll", "(III)I"⟩, prog_1_method_59_code, 8, (some .int), [
  (0, .iload_n 1, 1), (1, .invokestatic 272, 3), (4, .ifCond .eq 13, 3), (7, .iload_n 3, 1), (8, .iconst 0, 1), (9, .bipush 20, 2),
  (11, .invokestatic 72, 3), (14, .ifCond .ne 5, 3), (17, .iconst (-1), 1), (18, .ireturn, 1), (19, .aload_n 0, 1), (20, .iload_n 1, 1),
  (21, .iconst 0, 1), (22, .invokevirtual 282, 3), (25, .istore 4, 2), (27, .iload 4, 2), (29, .ifCond .eq 6, 3), (32, .iload 4, 2),
  (34, .ireturn, 1), (35, .iconst 0, 1), (36, .istore 5, 2), (38, .iconst 0, 1), (39, .istore 6, 2), (41, .iload 6, 2),
  (43, .iload_n 3, 1), (44, .if_icmp .ge 73, 3), (47, .aload_n 0, 1), (48, .iload_n 1, 1), (49, .iload_n 2, 1), (50, .iload 6, 2),
  (52, .iadd, 1), (53, .invokevirtual 275, 3), (56, .ifCond .ne 6, 3), (59, .bipush (-12), 2), (61, .ireturn, 1), (62, .aload_n 0, 1),
  (63, .getfield 54, 3), (66, .iload_n 1, 1), (67, .bipush 40, 2), (69, .imul, 1), (70, .iload_n 2, 1), (71, .iadd, 1),
  (72, .iload 6, 2), (74, .iadd, 1), (75, .iaload, 1), (76, .istore 7, 2), (78, .aload_n 0, 1), (79, .getfield 10, 3),
  (82, .iload 7, 2), (84, .invokevirtual 285, 3), (87, .ifCond .eq 24, 3), (90, .aload_n 0, 1), (91, .getfield 10, 3), (94, .invokevirtual 155, 3),
  (97, .ifCond .ne 14, 3), (100, .iload 5, 2), (102, .aload_n 0, 1), (103, .iload 7, 2), (105, .invokevirtual 177, 3), (108, .iadd, 1),
  (109, .istore 5, 2), (111, .iinc 6 1, 3), (114, .goto (-73), 3), (117, .iload 5, 2), (119, .ireturn, 1)])
set_option maxRecDepth 100000 in
theorem K_Wb_goAll : mOk M_Wb_goAll := by decide +kernel
def M_Wb_wouldBe : zM := ("WindBrides", ⟨"WindBrides", "wouldBe", "(III)I"⟩, prog_1_method_60_code, 8, (some .int), [
  (0, .iload_n 1, 1), (1, .invokestatic 272, 3), (4, .ifCond .eq 13, 3), (7, .iload_n 3, 1), (8, .iconst 0, 1), (9, .bipush 20, 2),
  (11, .invokestatic 72, 3), (14, .ifCond .ne 5, 3), (17, .iconst (-1), 1), (18, .ireturn, 1), (19, .aload_n 0, 1), (20, .iload_n 1, 1),
  (21, .iconst 0, 1), (22, .invokevirtual 282, 3), (25, .istore 4, 2), (27, .iload 4, 2), (29, .ifCond .eq 6, 3), (32, .iload 4, 2),
  (34, .ireturn, 1), (35, .aload_n 0, 1), (36, .getfield 22, 3), (39, .aload_n 0, 1), (40, .getfield 10, 3), (43, .getfield 97, 3),
  (46, .invokevirtual 184, 3), (49, .iconst 0, 1), (50, .istore 5, 2), (52, .iconst 0, 1), (53, .istore 6, 2), (55, .iload 6, 2),
  (57, .iload_n 3, 1), (58, .if_icmp .ge 90, 3), (61, .aload_n 0, 1), (62, .iload_n 1, 1), (63, .iload_n 2, 1), (64, .iload 6, 2),
  (66, .iadd, 1), (67, .invokevirtual 275, 3), (70, .ifCond .ne 6, 3), (73, .bipush (-12), 2), (75, .ireturn, 1), (76, .aload_n 0, 1),
  (77, .getfield 54, 3), (80, .iload_n 1, 1), (81, .bipush 40, 2), (83, .imul, 1), (84, .iload_n 2, 1), (85, .iadd, 1),
  (86, .iload 6, 2), (88, .iadd, 1), (89, .iaload, 1), (90, .istore 7, 2), (92, .aload_n 0, 1), (93, .getfield 10, 3),
  (96, .iload 7, 2), (98, .invokevirtual 285, 3), (101, .ifCond .eq 20, 3), (104, .aload_n 0, 1), (105, .getfield 22, 3), (108, .getfield 135, 3),
  (111, .aload_n 0, 1), (112, .getfield 10, 3), (115, .getfield 149, 3), (118, .if_icmp .lt 6, 3), (121, .bipush (-4), 2), (123, .ireturn, 1),
  (124, .iload 5, 2), (126, .aload_n 0, 1), (127, .getfield 22, 3), (130, .aload_n 0, 1), (131, .getfield 10, 3), (134, .iload 7, 2),
  (136, .invokevirtual 181, 3), (139, .iadd, 1), (140, .istore 5, 2), (142, .iinc 6 1, 3), (145, .goto (-90), 3), (148, .iload 5, 2),
  (150, .ireturn, 1)])
set_option maxRecDepth 100000 in
theorem K_Wb_wouldBe : mOk M_Wb_wouldBe := by decide +kernel
def M_Wb_shelf : zM := ("WindBrides", ⟨"WindBrides", "shelf", "(III)I"⟩, prog_1_method_61_code, 4, (some .int), [
  (0, .iload_n 1, 1), (1, .invokestatic 288, 3), (4, .ifCond .eq 39, 3), (7, .iload_n 2, 1), (8, .iconst 0, 1), (9, .iconst 2, 1),
  (10, .invokestatic 72, 3), (13, .ifCond .eq 30, 3), (16, .iload_n 2, 1), (17, .ifCond .ne 14, 3), (20, .aload_n 0, 1), (21, .getfield 10, 3),
  (24, .iload_n 3, 1), (25, .invokevirtual 84, 3), (28, .ifCond .eq 15, 3), (31, .iload_n 2, 1), (32, .iconst 1, 1), (33, .if_icmp .ne 12, 3),
  (36, .iload_n 3, 1), (37, .invokestatic 272, 3), (40, .ifCond .ne 5, 3), (43, .iconst (-1), 1), (44, .ireturn, 1), (45, .aload_n 0, 1),
  (46, .getfield 57, 3), (49, .iload_n 1, 1), (50, .iload_n 2, 1), (51, .iastore, 1), (52, .iload_n 2, 1), (53, .ifCond .ne 10, 3),
  (56, .aload_n 0, 1), (57, .getfield 60, 3), (60, .iload_n 1, 1), (61, .iload_n 3, 1), (62, .iastore, 1), (63, .iload_n 2, 1),
  (64, .iconst 1, 1), (65, .if_icmp .ne 9, 3), (68, .aload_n 0, 1), (69, .iload_n 1, 1), (70, .iload_n 3, 1), (71, .invokevirtual 291, 3),
  (74, .iconst 1, 1), (75, .ireturn, 1)])
set_option maxRecDepth 100000 in
theorem K_Wb_shelf : mOk M_Wb_shelf := by decide +kernel
def M_Wb_isShelf : zM := ("WindBrides", ⟨"WindBrides", "isShelf", "(I)Z"⟩, prog_1_method_52_code, 1, (some .boolean), [
  (0, .iload_n 0, 1), (1, .iconst 0, 1), (2, .iconst 3, 1), (3, .invokestatic 72, 3), (6, .ireturn, 1)])
set_option maxRecDepth 100000 in
theorem K_Wb_isShelf : mOk M_Wb_isShelf := by decide +kernel
def M_Wb_putRow : zM := ("WindBrides", ⟨"WindBrides", "putRow", "(II)V"⟩, prog_1_method_62_code, 3, none, [
  (0, .aload_n 0, 1), (1, .getfield 47, 3), (4, .iload_n 2, 1), (5, .iaload, 1), (6, .iconst (-1), 1), (7, .if_icmp .ne 13, 3),
  (10, .aload_n 0, 1), (11, .getfield 57, 3), (14, .iload_n 1, 1), (15, .iconst 2, 1), (16, .iastore, 1), (17, .goto 27, 3),
  (20, .aload_n 0, 1), (21, .getfield 63, 3), (24, .iload_n 1, 1), (25, .aload_n 0, 1), (26, .getfield 47, 3), (29, .iload_n 2, 1),
  (30, .iaload, 1), (31, .iastore, 1), (32, .aload_n 0, 1), (33, .getfield 60, 3), (36, .iload_n 1, 1), (37, .aload_n 0, 1),
  (38, .getfield 51, 3), (41, .iload_n 2, 1), (42, .iaload, 1), (43, .iastore, 1), (44, .return_, 1)])
set_option maxRecDepth 100000 in
theorem K_Wb_putRow : mOk M_Wb_putRow := by decide +kernel
def M_Wb_taken : zM := ("WindBrides", ⟨"WindBrides", "taken", "(II)I"⟩, prog_1_method_64_code, 6, (some .int), [
  (0, .iload_n 2, 1), (1, .iconst 0, 1), (2, .iconst 5, 1), (3, .invokestatic 72, 3), (6, .istore_n 3, 1), (7, .iload_n 1, 1),
  (8, .invokestatic 288, 3), (11, .ifCond .eq 18, 3), (14, .iload_n 3, 1), (15, .ifCond .ne 16, 3), (18, .iload_n 2, 1), (19, .bipush 10, 2),
  (21, .bipush 14, 2), (23, .invokestatic 72, 3), (26, .ifCond .ne 5, 3), (29, .iconst (-1), 1), (30, .ireturn, 1), (31, .aload_n 0, 1),
  (32, .iload_n 1, 1), (33, .invokevirtual 295, 3), (36, .istore 4, 2), (38, .iload 4, 2), (40, .iconst 2, 1), (41, .if_icmp .ne 6, 3),
  (44, .bipush (-11), 2), (46, .ireturn, 1), (47, .iload 4, 2), (49, .ifCond .ne 36, 3), (52, .iload_n 3, 1), (53, .ifCond .eq 28, 3),
  (56, .aload_n 0, 1), (57, .getfield 10, 3), (60, .getfield 88, 3), (63, .aload_n 0, 1), (64, .getfield 60, 3), (67, .iload_n 1, 1),
  (68, .iaload, 1), (69, .iaload, 1), (70, .iload_n 2, 1), (71, .invokestatic 298, 3), (74, .ifCond .eq 7, 3), (77, .iconst 1, 1),
  (78, .goto 25, 3), (81, .iconst 0, 1), (82, .goto 21, 3), (85, .aload_n 0, 1), (86, .getfield 63, 3), (89, .iload_n 1, 1),
  (90, .iaload, 1), (91, .iload_n 2, 1), (92, .bipush 10, 2), (94, .isub, 1), (95, .if_icmp .ne 7, 3), (98, .iconst 1, 1),
  (99, .goto 4, 3), (102, .iconst 0, 1), (103, .istore 5, 2), (105, .iload 5, 2), (107, .ifCond .eq 12, 3), (110, .aload_n 0, 1),
  (111, .getfield 60, 3), (114, .iload_n 1, 1), (115, .iaload, 1), (116, .goto 5, 3), (119, .bipush (-13), 2), (121, .ireturn, 1)])
set_option maxRecDepth 100000 in
theorem K_Wb_taken : mOk M_Wb_taken := by decide +kernel
def M_Wb_heldOn : zM := ("WindBrides", ⟨"WindBrides", "heldOn", "(I)I"⟩, prog_1_method_63_code, 3, (some .int), [
  (0, .aload_n 0, 1), (1, .getfield 57, 3), (4, .iload_n 1, 1), (5, .iaload, 1), (6, .ifCond .ne 23, 3), (9, .aload_n 0, 1),
  (10, .getfield 10, 3), (13, .aload_n 0, 1), (14, .getfield 60, 3), (17, .iload_n 1, 1), (18, .iaload, 1), (19, .invokevirtual 84, 3),
  (22, .ifCond .ne 7, 3), (25, .iconst 1, 1), (26, .goto 4, 3), (29, .iconst 0, 1), (30, .istore_n 2, 1), (31, .iload_n 2, 1),
  (32, .ifCond .eq 7, 3), (35, .iconst 2, 1), (36, .goto 9, 3), (39, .aload_n 0, 1), (40, .getfield 57, 3), (43, .iload_n 1, 1),
  (44, .iaload, 1), (45, .ireturn, 1)])
set_option maxRecDepth 100000 in
theorem K_Wb_heldOn : mOk M_Wb_heldOn := by decide +kernel
def M_Wb_act : zM := ("WindBrides", ⟨"WindBrides", "act", "(III)I"⟩, prog_1_method_65_code, 6, (some .int), [
  (0, .aload_n 0, 1), (1, .aconst_null, 1), (2, .putfield 301, 3), (5, .iload_n 1, 1), (6, .invokestatic 288, 3), (9, .ifCond .eq 20, 3),
  (12, .iload_n 2, 1), (13, .iconst 0, 1), (14, .iconst 3, 1), (15, .invokestatic 72, 3), (18, .ifCond .eq 11, 3), (21, .aload_n 0, 1),
  (22, .iload_n 1, 1), (23, .invokevirtual 295, 3), (26, .ifCond .eq 5, 3), (29, .iconst 0, 1), (30, .ireturn, 1), (31, .aload_n 0, 1),
  (32, .aload_n 0, 1), (33, .getfield 60, 3), (36, .iload_n 1, 1), (37, .iaload, 1), (38, .invokevirtual 305, 3), (41, .astore 4, 2),
  (43, .aload_n 0, 1), (44, .aload 4, 2), (46, .putfield 301, 3), (49, .iload_n 2, 1), (50, .tableswitch 59 0 2 #[26, 37, 48], 26), (76, .aload 4, 2),
  (78, .iload_n 3, 1), (79, .invokevirtual 309, 3), (82, .istore 5, 2), (84, .goto 33, 3), (87, .aload 4, 2), (89, .iload_n 3, 1),
  (90, .invokevirtual 314, 3), (93, .istore 5, 2), (95, .goto 22, 3), (98, .aload 4, 2), (100, .iload_n 3, 1), (101, .invokevirtual 317, 3),
  (104, .istore 5, 2), (106, .goto 11, 3), (109, .aload 4, 2), (111, .iload_n 3, 1), (112, .invokevirtual 320, 3), (115, .istore 5, 2),
  (117, .aload 4, 2), (119, .getfield 323, 3), (122, .ifCond .eq 8, 3), (125, .bipush (-15), 2), (127, .goto 5, 3), (130, .iload 5, 2),
  (132, .ireturn, 1)])
set_option maxRecDepth 100000 in
theorem K_Wb_act : mOk M_Wb_act := by decide +kernel
def M_Wb_thingOf : zM := ("WindBrides", ⟨"WindBrides", "thingOf", "(I)LWindBrides$Girl;"⟩, prog_1_method_66_code, 3, (some (.object "WindBrides$Girl")), [
  (0, .aload_n 0, 1), (1, .getfield 10, 3), (4, .getfield 94, 3), (7, .iload_n 1, 1), (8, .iaload, 1), (9, .istore_n 2, 1),
  (10, .aload_n 0, 1), (11, .getfield 10, 3), (14, .getfield 88, 3), (17, .iload_n 1, 1), (18, .iaload, 1), (19, .tableswitch 103 1 5 #[33, 47, 61, 75, 89], 33),
  (52, .new 327, 3), (55, .dup, 1), (56, .iload_n 1, 1), (57, .iload_n 2, 1), (58, .aload_n 0, 1), (59, .getfield 66, 3),
  (62, .invokespecial 329, 3), (65, .areturn, 1), (66, .new 332, 3), (69, .dup, 1), (70, .iload_n 1, 1), (71, .iload_n 2, 1),
  (72, .aload_n 0, 1), (73, .getfield 66, 3), (76, .invokespecial 334, 3), (79, .areturn, 1), (80, .new 335, 3), (83, .dup, 1),
  (84, .iload_n 1, 1), (85, .iload_n 2, 1), (86, .aload_n 0, 1), (87, .getfield 66, 3), (90, .invokespecial 337, 3), (93, .areturn, 1),
  (94, .new 338, 3), (97, .dup, 1), (98, .iload_n 1, 1), (99, .iload_n 2, 1), (100, .aload_n 0, 1), (101, .getfield 66, 3),
  (104, .invokespecial 340, 3), (107, .areturn, 1), (108, .new 341, 3), (111, .dup, 1), (112, .iload_n 1, 1), (113, .iload_n 2, 1),
  (114, .aload_n 0, 1), (115, .getfield 66, 3), (118, .invokespecial 343, 3), (121, .areturn, 1), (122, .new 310, 3), (125, .dup, 1),
  (126, .iload_n 1, 1), (127, .iload_n 2, 1), (128, .aload_n 0, 1), (129, .getfield 66, 3), (132, .invokespecial 344, 3), (135, .areturn, 1)])
set_option maxRecDepth 100000 in
theorem K_Wb_thingOf : mOk M_Wb_thingOf := by decide +kernel
def M_Wb_trace : zM := ("WindBrides", ⟨"WindBrides", "trace", "(I)I"⟩, prog_1_method_67_code, 2, (some .int), [
  (0, .aload_n 0, 1), (1, .getfield 301, 3), (4, .ifnull 27, 3), (7, .iload_n 1, 1), (8, .ifCond .lt 23, 3), (11, .iload_n 1, 1),
  (12, .aload_n 0, 1), (13, .getfield 301, 3), (16, .getfield 345, 3), (19, .if_icmp .ge 12, 3), (22, .aload_n 0, 1), (23, .getfield 66, 3),
  (26, .iload_n 1, 1), (27, .iaload, 1), (28, .goto 5, 3), (31, .bipush (-3), 2), (33, .ireturn, 1)])
set_option maxRecDepth 100000 in
theorem K_Wb_trace : mOk M_Wb_trace := by decide +kernel
def M_Wb_many : zM := ("WindBrides", ⟨"WindBrides", "many", "(I)I"⟩, prog_1_method_68_code, 2, (some .int), [
  (0, .iload_n 1, 1), (1, .tableswitch 135 0 7 #[47, 55, 66, 74, 82, 90, 98, 117], 47), (48, .aload_n 0, 1), (49, .getfield 10, 3), (52, .getfield 76, 3), (55, .ireturn, 1),
  (56, .aload_n 0, 1), (57, .getfield 10, 3), (60, .getfield 170, 3), (63, .getfield 348, 3), (66, .ireturn, 1), (67, .aload_n 0, 1),
  (68, .getfield 10, 3), (71, .getfield 110, 3), (74, .ireturn, 1), (75, .aload_n 0, 1), (76, .getfield 10, 3), (79, .getfield 241, 3),
  (82, .ireturn, 1), (83, .aload_n 0, 1), (84, .getfield 43, 3), (87, .getfield 351, 3), (90, .ireturn, 1), (91, .aload_n 0, 1),
  (92, .getfield 29, 3), (95, .getfield 354, 3), (98, .ireturn, 1), (99, .aload_n 0, 1), (100, .getfield 301, 3), (103, .ifnonnull 7, 3),
  (106, .iconst 0, 1), (107, .goto 10, 3), (110, .aload_n 0, 1), (111, .getfield 301, 3), (114, .getfield 345, 3), (117, .ireturn, 1),
  (118, .aload_n 0, 1), (119, .getfield 10, 3), (122, .getfield 97, 3), (125, .aload_n 0, 1), (126, .getfield 10, 3), (129, .invokevirtual 357, 3),
  (132, .invokestatic 360, 3), (135, .ireturn, 1), (136, .iconst (-1), 1), (137, .ireturn, 1)])
set_option maxRecDepth 100000 in
theorem K_Wb_many : mOk M_Wb_many := by decide +kernel
def M_Wb_keep : zM := ("WindBrides", ⟨"WindBrides", "keep", "()I"⟩, prog_1_method_69_code, 1, (some .int), [
  (0, .aload_n 0, 1), (1, .getfield 16, 3), (4, .aload_n 0, 1), (5, .getfield 10, 3), (8, .invokevirtual 363, 3), (11, .aload_n 0, 1),
  (12, .iconst 1, 1), (13, .putfield 366, 3), (16, .iconst 1, 1), (17, .ireturn, 1)])
set_option maxRecDepth 100000 in
theorem K_Wb_keep : mOk M_Wb_keep := by decide +kernel
def M_Wb_again : zM := ("WindBrides", ⟨"WindBrides", "again", "()I"⟩, prog_1_method_70_code, 1, (some .int), [
  (0, .aload_n 0, 1), (1, .getfield 366, 3), (4, .ifCond .ne 6, 3), (7, .bipush (-3), 2), (9, .ireturn, 1), (10, .aload_n 0, 1),
  (11, .getfield 10, 3), (14, .aload_n 0, 1), (15, .getfield 16, 3), (18, .invokevirtual 363, 3), (21, .aload_n 0, 1), (22, .getfield 10, 3),
  (25, .getfield 76, 3), (28, .ireturn, 1)])
set_option maxRecDepth 100000 in
theorem K_Wb_again : mOk M_Wb_again := by decide +kernel
end
section
def M_Mo_init : zM := ("WindBridesModel", ⟨"WindBridesModel", "<init>", "()V"⟩, prog_14_method_1_code, 1, none, [
  (0, .aload_n 0, 1), (1, .invokespecial 1, 3), (4, .aload_n 0, 1), (5, .sipush 618, 3), (8, .newarray .int, 2), (10, .putfield 9, 3),
  (13, .aload_n 0, 1), (14, .sipush 618, 3), (17, .newarray .int, 2), (19, .putfield 13, 3), (22, .aload_n 0, 1), (23, .sipush 618, 3),
  (26, .newarray .int, 2), (28, .putfield 16, 3), (31, .aload_n 0, 1), (32, .sipush 200, 3), (35, .newarray .int, 2), (37, .putfield 19, 3),
  (40, .aload_n 0, 1), (41, .bipush 100, 2), (43, .newarray .boolean, 2), (45, .putfield 22, 3), (48, .aload_n 0, 1), (49, .bipush 6, 2),
  (51, .newarray .int, 2), (53, .putfield 26, 3), (56, .aload_n 0, 1), (57, .bipush 6, 2), (59, .newarray .int, 2), (61, .putfield 29, 3),
  (64, .aload_n 0, 1), (65, .sipush 2472, 3), (68, .newarray .int, 2), (70, .putfield 32, 3), (73, .aload_n 0, 1), (74, .sipush 618, 3),
  (77, .newarray .int, 2), (79, .putfield 35, 3), (82, .aload_n 0, 1), (83, .bipush 12, 2), (85, .newarray .int, 2), (87, .putfield 38, 3),
  (90, .aload_n 0, 1), (91, .iconst 4, 1), (92, .newarray .int, 2), (94, .dup, 1), (95, .iconst 0, 1), (96, .iconst (-1), 1),
  (97, .iastore, 1), (98, .dup, 1), (99, .iconst 1, 1), (100, .iconst (-1), 1), (101, .iastore, 1), (102, .dup, 1),
  (103, .iconst 2, 1), (104, .iconst (-1), 1), (105, .iastore, 1), (106, .dup, 1), (107, .iconst 3, 1), (108, .iconst (-1), 1),
  (109, .iastore, 1), (110, .putfield 41, 3), (113, .aload_n 0, 1), (114, .iconst 4, 1), (115, .newarray .int, 2), (117, .putfield 44, 3),
  (120, .aload_n 0, 1), (121, .sipush 160, 3), (124, .newarray .long, 2), (126, .putfield 47, 3), (129, .aload_n 0, 1), (130, .iconst 4, 1),
  (131, .newarray .int, 2), (133, .dup, 1), (134, .iconst 0, 1), (135, .iconst 2, 1), (136, .iastore, 1), (137, .dup, 1),
  (138, .iconst 1, 1), (139, .iconst 2, 1), (140, .iastore, 1), (141, .dup, 1), (142, .iconst 2, 1), (143, .iconst 2, 1),
  (144, .iastore, 1), (145, .dup, 1), (146, .iconst 3, 1), (147, .iconst 2, 1), (148, .iastore, 1), (149, .putfield 51, 3),
  (152, .aload_n 0, 1), (153, .iconst 4, 1), (154, .newarray .int, 2), (156, .putfield 54, 3), (159, .aload_n 0, 1), (160, .iconst 4, 1),
  (161, .newarray .int, 2), (163, .putfield 57, 3), (166, .aload_n 0, 1), (167, .bipush 30, 2), (169, .newarray .int, 2), (171, .putfield 60, 3),
  (174, .aload_n 0, 1), (175, .getfield 9, 3), (178, .iconst 0, 1), (179, .bipush 12, 2), (181, .iastore, 1), (182, .aload_n 0, 1),
  (183, .getfield 9, 3), (186, .iconst 5, 1), (187, .iconst 1, 1), (188, .iastore, 1), (189, .return_, 1)])
set_option maxRecDepth 100000 in
theorem K_Mo_init : mOk M_Mo_init := by decide +kernel
def M_Mo_girl : zM := ("WindBridesModel", ⟨"WindBridesModel", "girl", "(III)I"⟩, prog_14_method_19_code, 5, (some .int), [
  (0, .iload_n 1, 1), (1, .iconst 1, 1), (2, .iconst 5, 1), (3, .invokestatic 67, 3), (6, .ifCond .eq 23, 3), (9, .iload_n 2, 1),
  (10, .iconst 0, 1), (11, .bipush 7, 2), (13, .invokestatic 67, 3), (16, .ifCond .eq 13, 3), (19, .iload_n 3, 1), (20, .iconst 1, 1),
  (21, .bipush 9, 2), (23, .invokestatic 67, 3), (26, .ifCond .ne 5, 3), (29, .iconst (-1), 1), (30, .ireturn, 1), (31, .aload_n 0, 1),
  (32, .getfield 9, 3), (35, .iconst 3, 1), (36, .iaload, 1), (37, .istore 4, 2), (39, .iload 4, 2), (41, .bipush 6, 2),
  (43, .if_icmp .ne 6, 3), (46, .bipush (-2), 2), (48, .ireturn, 1), (49, .aload_n 0, 1), (50, .getfield 9, 3), (53, .iconst 3, 1),
  (54, .dup2, 1), (55, .iaload, 1), (56, .iconst 1, 1), (57, .iadd, 1), (58, .iastore, 1), (59, .aload_n 0, 1),
  (60, .iload 4, 2), (62, .iconst 0, 1), (63, .iload_n 1, 1), (64, .invokevirtual 88, 3), (67, .aload_n 0, 1), (68, .iload 4, 2),
  (70, .iconst 1, 1), (71, .iload_n 2, 1), (72, .invokevirtual 88, 3), (75, .aload_n 0, 1), (76, .iload 4, 2), (78, .iconst 2, 1),
  (79, .iload_n 3, 1), (80, .invokevirtual 88, 3), (83, .aload_n 0, 1), (84, .iload 4, 2), (86, .iconst 3, 1), (87, .iconst (-1), 1),
  (88, .invokevirtual 88, 3), (91, .aload_n 0, 1), (92, .iload 4, 2), (94, .iconst 4, 1), (95, .iload_n 3, 1), (96, .invokevirtual 88, 3),
  (99, .iload 4, 2), (101, .ireturn, 1)])
set_option maxRecDepth 100000 in
theorem K_Mo_girl : mOk M_Mo_girl := by decide +kernel
def M_Mo_in : zM := ("WindBridesModel", ⟨"WindBridesModel", "in", "(III)Z"⟩, prog_14_method_2_code, 3, (some .boolean), [
  (0, .iload_n 0, 1), (1, .iload_n 1, 1), (2, .if_icmp .lt 12, 3), (5, .iload_n 0, 1), (6, .iload_n 2, 1), (7, .if_icmp .gt 7, 3),
  (10, .iconst 1, 1), (11, .goto 4, 3), (14, .iconst 0, 1), (15, .ireturn, 1)])
set_option maxRecDepth 100000 in
theorem K_Mo_in : mOk M_Mo_in := by decide +kernel
def M_Mo_put : zM := ("WindBridesModel", ⟨"WindBridesModel", "put", "(III)V"⟩, prog_14_method_10_code, 4, none, [
  (0, .aload_n 0, 1), (1, .getfield 9, 3), (4, .bipush 32, 2), (6, .iconst 5, 1), (7, .iload_n 1, 1), (8, .imul, 1),
  (9, .iadd, 1), (10, .iload_n 2, 1), (11, .iadd, 1), (12, .iload_n 3, 1), (13, .iastore, 1), (14, .return_, 1)])
set_option maxRecDepth 100000 in
theorem K_Mo_put : mOk M_Mo_put := by decide +kernel
def M_Mo_girlOf : zM := ("WindBridesModel", ⟨"WindBridesModel", "girlOf", "(II)I"⟩, prog_14_method_21_code, 3, (some .int), [
  (0, .aload_n 0, 1), (1, .iload_n 1, 1), (2, .invokevirtual 92, 3), (5, .ifCond .eq 12, 3), (8, .iload_n 2, 1), (9, .iconst 0, 1),
  (10, .iconst 5, 1), (11, .invokestatic 67, 3), (14, .ifCond .ne 5, 3), (17, .iconst (-1), 1), (18, .ireturn, 1), (19, .iload_n 2, 1),
  (20, .iconst 5, 1), (21, .if_icmp .ne 11, 3), (24, .aload_n 0, 1), (25, .iload_n 1, 1), (26, .invokevirtual 96, 3), (29, .goto 26, 3),
  (32, .iload_n 2, 1), (33, .iconst 3, 1), (34, .if_icmp .ne 15, 3), (37, .aload_n 0, 1), (38, .iload_n 1, 1), (39, .iconst 3, 1),
  (40, .invokevirtual 75, 3), (43, .invokestatic 100, 3), (46, .goto 9, 3), (49, .aload_n 0, 1), (50, .iload_n 1, 1), (51, .iload_n 2, 1),
  (52, .invokevirtual 75, 3), (55, .ireturn, 1)])
set_option maxRecDepth 100000 in
theorem K_Mo_girlOf : mOk M_Mo_girlOf := by decide +kernel
def M_Mo_isGirl : zM := ("WindBridesModel", ⟨"WindBridesModel", "isGirl", "(I)Z"⟩, prog_14_method_7_code, 2, (some .boolean), [
  (0, .iload_n 1, 1), (1, .iconst 0, 1), (2, .aload_n 0, 1), (3, .getfield 9, 3), (6, .iconst 3, 1), (7, .iaload, 1),
  (8, .iconst 1, 1), (9, .isub, 1), (10, .invokestatic 67, 3), (13, .ireturn, 1)])
set_option maxRecDepth 100000 in
theorem K_Mo_isGirl : mOk M_Mo_isGirl := by decide +kernel
def M_Mo_does : zM := ("WindBridesModel", ⟨"WindBridesModel", "does", "(I)I"⟩, prog_14_method_51_code, 4, (some .int), [
  (0, .iconst 0, 1), (1, .istore_n 2, 1), (2, .iload_n 2, 1), (3, .aload_n 0, 1), (4, .getfield 9, 3), (7, .bipush 7, 2),
  (9, .iaload, 1), (10, .if_icmp .ge 52, 3), (13, .bipush 86, 2), (15, .iconst 4, 1), (16, .iload_n 2, 1), (17, .imul, 1),
  (18, .iadd, 1), (19, .istore_n 3, 1), (20, .aload_n 0, 1), (21, .iload_n 1, 1), (22, .iconst 0, 1), (23, .invokevirtual 75, 3),
  (26, .aload_n 0, 1), (27, .getfield 9, 3), (30, .iload_n 3, 1), (31, .iaload, 1), (32, .invokestatic 209, 3), (35, .ifCond .eq 21, 3),
  (38, .aload_n 0, 1), (39, .iload_n 1, 1), (40, .iload_n 3, 1), (41, .invokevirtual 212, 3), (44, .ifCond .eq 12, 3), (47, .aload_n 0, 1),
  (48, .getfield 9, 3), (51, .iload_n 3, 1), (52, .iconst 1, 1), (53, .iadd, 1), (54, .iaload, 1), (55, .ireturn, 1),
  (56, .iinc 2 1, 3), (59, .goto (-57), 3), (62, .iconst 0, 1), (63, .ireturn, 1)])
set_option maxRecDepth 100000 in
theorem K_Mo_does : mOk M_Mo_does := by decide +kernel
def M_Mo_of : zM := ("WindBridesModel", ⟨"WindBridesModel", "of", "(II)I"⟩, prog_14_method_9_code, 3, (some .int), [
  (0, .aload_n 0, 1), (1, .getfield 9, 3), (4, .bipush 32, 2), (6, .iconst 5, 1), (7, .iload_n 1, 1), (8, .imul, 1),
  (9, .iadd, 1), (10, .iload_n 2, 1), (11, .iadd, 1), (12, .iaload, 1), (13, .ireturn, 1)])
set_option maxRecDepth 100000 in
theorem K_Mo_of : mOk M_Mo_of := by decide +kernel
def M_Mo_isUnder : zM := ("WindBridesModel", ⟨"WindBridesModel", "isUnder", "(II)Z"⟩, prog_14_method_18_code, 2, (some .boolean), [
  (0, .iload_n 1, 1), (1, .ifCond .eq 28, 3), (4, .iload_n 0, 1), (5, .iload_n 1, 1), (6, .if_icmp .eq 23, 3), (9, .iload_n 1, 1),
  (10, .iconst 2, 1), (11, .if_icmp .ne 8, 3), (14, .iload_n 0, 1), (15, .iconst 3, 1), (16, .if_icmp .eq 13, 3), (19, .iload_n 1, 1),
  (20, .iconst 4, 1), (21, .if_icmp .ne 12, 3), (24, .iload_n 0, 1), (25, .iconst 5, 1), (26, .if_icmp .ne 7, 3), (29, .iconst 1, 1),
  (30, .goto 4, 3), (33, .iconst 0, 1), (34, .ireturn, 1)])
set_option maxRecDepth 100000 in
theorem K_Mo_isUnder : mOk M_Mo_isUnder := by decide +kernel
def M_Mo_isHolding : zM := ("WindBridesModel", ⟨"WindBridesModel", "isHolding", "(II)Z"⟩, prog_14_method_50_code, 8, (some .boolean), [
  (0, .iconst 0, 1), (1, .istore_n 3, 1), (2, .bipush 118, 2), (4, .aload_n 0, 1), (5, .getfield 9, 3), (8, .iload_n 2, 1),
  (9, .iconst 2, 1), (10, .iadd, 1), (11, .iaload, 1), (12, .iadd, 1), (13, .istore 4, 2), (15, .bipush 118, 2),
  (17, .aload_n 0, 1), (18, .getfield 9, 3), (21, .iload_n 2, 1), (22, .iconst 3, 1), (23, .iadd, 1), (24, .iaload, 1),
  (25, .iadd, 1), (26, .istore 5, 2), (28, .iload 4, 2), (30, .iload 5, 2), (32, .if_icmp .ne 7, 3), (35, .iconst 1, 1),
  (36, .goto 4, 3), (39, .iconst 0, 1), (40, .istore 6, 2), (42, .iload 4, 2), (44, .iload 5, 2), (46, .if_icmp .ge 188, 3),
  (49, .aload_n 0, 1), (50, .getfield 9, 3), (53, .iload 4, 2), (55, .iaload, 1), (56, .istore 7, 2), (58, .iload 7, 2),
  (60, .bipush 17, 2), (62, .if_icmp .ne 33, 3), (65, .aload_n 0, 1), (66, .getfield 22, 3), (69, .iload_n 3, 1), (70, .iconst 1, 1),
  (71, .isub, 1), (72, .aload_n 0, 1), (73, .getfield 22, 3), (76, .iload_n 3, 1), (77, .iconst 1, 1), (78, .isub, 1),
  (79, .baload, 1), (80, .ifCond .ne 7, 3), (83, .iconst 1, 1), (84, .goto 4, 3), (87, .iconst 0, 1), (88, .bastore, 1),
  (89, .iinc 4 1, 3), (92, .goto 139, 3), (95, .iload 7, 2), (97, .bipush 16, 2), (99, .if_icmp .eq 10, 3), (102, .iload 7, 2),
  (104, .bipush 15, 2), (106, .if_icmp .ne 80, 3), (109, .iinc 3 (-1), 3), (112, .aload_n 0, 1), (113, .getfield 22, 3), (116, .iload_n 3, 1),
  (117, .iconst 1, 1), (118, .isub, 1), (119, .iload 7, 2), (121, .bipush 16, 2), (123, .if_icmp .ne 31, 3), (126, .aload_n 0, 1),
  (127, .getfield 22, 3), (130, .iload_n 3, 1), (131, .iconst 1, 1), (132, .isub, 1), (133, .baload, 1), (134, .ifCond .eq 16, 3),
  (137, .aload_n 0, 1), (138, .getfield 22, 3), (141, .iload_n 3, 1), (142, .baload, 1), (143, .ifCond .eq 7, 3), (146, .iconst 1, 1),
  (147, .goto 32, 3), (150, .iconst 0, 1), (151, .goto 28, 3), (154, .aload_n 0, 1), (155, .getfield 22, 3), (158, .iload_n 3, 1),
  (159, .iconst 1, 1), (160, .isub, 1), (161, .baload, 1), (162, .ifCond .ne 12, 3), (165, .aload_n 0, 1), (166, .getfield 22, 3),
  (169, .iload_n 3, 1), (170, .baload, 1), (171, .ifCond .eq 7, 3), (174, .iconst 1, 1), (175, .goto 4, 3), (178, .iconst 0, 1),
  (179, .bastore, 1), (180, .iinc 4 1, 3), (183, .goto 48, 3), (186, .aload_n 0, 1), (187, .getfield 22, 3), (190, .iload_n 3, 1),
  (191, .iload 7, 2), (193, .aload_n 0, 1), (194, .iload_n 1, 1), (195, .aload_n 0, 1), (196, .getfield 9, 3), (199, .iload 4, 2),
  (201, .iconst 1, 1), (202, .iadd, 1), (203, .iaload, 1), (204, .invokevirtual 203, 3), (207, .aload_n 0, 1), (208, .iload_n 1, 1),
  (209, .aload_n 0, 1), (210, .getfield 9, 3), (213, .iload 4, 2), (215, .iconst 2, 1), (216, .iadd, 1), (217, .iaload, 1),
  (218, .invokevirtual 203, 3), (221, .invokestatic 206, 3), (224, .bastore, 1), (225, .iinc 3 1, 3), (228, .iinc 4 3, 3), (231, .goto (-189), 3),
  (234, .iload 6, 2), (236, .ifCond .ne 12, 3), (239, .aload_n 0, 1), (240, .getfield 22, 3), (243, .iconst 0, 1), (244, .baload, 1),
  (245, .ifCond .eq 7, 3), (248, .iconst 1, 1), (249, .goto 4, 3), (252, .iconst 0, 1), (253, .ireturn, 1)])
set_option maxRecDepth 100000 in
theorem K_Mo_isHolding : mOk M_Mo_isHolding := by decide +kernel
def M_Mo_factOf : zM := ("WindBridesModel", ⟨"WindBridesModel", "factOf", "(II)I"⟩, prog_14_method_48_code, 3, (some .int), [
  (0, .iload_n 2, 1), (1, .tableswitch 65 (-5) (-1) #[63, 56, 49, 42, 35], 35), (36, .aload_n 0, 1), (37, .getfield 9, 3), (40, .iconst 1, 1), (41, .iaload, 1),
  (42, .ireturn, 1), (43, .aload_n 0, 1), (44, .iload_n 1, 1), (45, .iconst 4, 1), (46, .invokevirtual 75, 3), (49, .ireturn, 1),
  (50, .aload_n 0, 1), (51, .iload_n 1, 1), (52, .iconst 2, 1), (53, .invokevirtual 75, 3), (56, .ireturn, 1), (57, .aload_n 0, 1),
  (58, .iload_n 1, 1), (59, .iconst 1, 1), (60, .invokevirtual 75, 3), (63, .ireturn, 1), (64, .iload_n 1, 1), (65, .ireturn, 1),
  (66, .iload_n 2, 1), (67, .ireturn, 1)])
set_option maxRecDepth 100000 in
theorem K_Mo_factOf : mOk M_Mo_factOf := by decide +kernel
def M_Mo_isSo : zM := ("WindBridesModel", ⟨"WindBridesModel", "isSo", "(III)Z"⟩, prog_14_method_49_code, 3, (some .boolean), [
  (0, .iload_n 0, 1), (1, .bipush 60, 2), (3, .if_icmp .ne 16, 3), (6, .iload_n 1, 1), (7, .iload_n 2, 1), (8, .if_icmp .ge 7, 3),
  (11, .iconst 1, 1), (12, .goto 36, 3), (15, .iconst 0, 1), (16, .goto 32, 3), (19, .iload_n 0, 1), (20, .bipush 61, 2),
  (22, .if_icmp .ne 16, 3), (25, .iload_n 1, 1), (26, .iload_n 2, 1), (27, .if_icmp .ne 7, 3), (30, .iconst 1, 1), (31, .goto 17, 3),
  (34, .iconst 0, 1), (35, .goto 13, 3), (38, .iload_n 1, 1), (39, .iload_n 2, 1), (40, .if_icmp .le 7, 3), (43, .iconst 1, 1),
  (44, .goto 4, 3), (47, .iconst 0, 1), (48, .ireturn, 1)])
set_option maxRecDepth 100000 in
theorem K_Mo_isSo : mOk M_Mo_isSo := by decide +kernel
def M_Mo_orSix : zM := ("WindBridesModel", ⟨"WindBridesModel", "orSix", "(I)I"⟩, prog_14_method_20_code, 1, (some .int), [
  (0, .iload_n 0, 1), (1, .ifCond .ge 8, 3), (4, .bipush 6, 2), (6, .goto 4, 3), (9, .iload_n 0, 1), (10, .ireturn, 1)])
set_option maxRecDepth 100000 in
theorem K_Mo_orSix : mOk M_Mo_orSix := by decide +kernel
def M_Mo_change : zM := ("WindBridesModel", ⟨"WindBridesModel", "change", "(III)I"⟩, prog_14_method_22_code, 5, (some .int), [
  (0, .aload_n 0, 1), (1, .iload_n 1, 1), (2, .invokevirtual 92, 3), (5, .ifCond .eq 38, 3), (8, .iload_n 2, 1), (9, .iconst 1, 1),
  (10, .iconst 2, 1), (11, .invokestatic 67, 3), (14, .ifCond .eq 29, 3), (17, .iload_n 3, 1), (18, .iload_n 2, 1), (19, .iconst 1, 1),
  (20, .isub, 1), (21, .iload_n 2, 1), (22, .iconst 1, 1), (23, .if_icmp .ne 8, 3), (26, .bipush 7, 2), (28, .goto 5, 3),
  (31, .bipush 9, 2), (33, .invokestatic 67, 3), (36, .ifCond .eq 7, 3), (39, .iconst 1, 1), (40, .goto 4, 3), (43, .iconst 0, 1),
  (44, .istore 4, 2), (46, .iload 4, 2), (48, .ifCond .eq 19, 3), (51, .aload_n 0, 1), (52, .bipush 32, 2), (54, .iconst 5, 1),
  (55, .iload_n 1, 1), (56, .imul, 1), (57, .iadd, 1), (58, .iload_n 2, 1), (59, .iadd, 1), (60, .iload_n 3, 1),
  (61, .invokevirtual 103, 3), (64, .goto 4, 3), (67, .iconst (-1), 1), (68, .ireturn, 1)])
set_option maxRecDepth 100000 in
theorem K_Mo_change : mOk M_Mo_change := by decide +kernel
def M_Mo_becomes : zM := ("WindBridesModel", ⟨"WindBridesModel", "becomes", "(II)I"⟩, prog_14_method_6_code, 4, (some .int), [
  (0, .aload_n 0, 1), (1, .getfield 9, 3), (4, .iload_n 1, 1), (5, .iaload, 1), (6, .istore_n 3, 1), (7, .aload_n 0, 1),
  (8, .getfield 9, 3), (11, .iload_n 1, 1), (12, .iload_n 2, 1), (13, .iastore, 1), (14, .iload_n 3, 1), (15, .ireturn, 1)])
set_option maxRecDepth 100000 in
theorem K_Mo_becomes : mOk M_Mo_becomes := by decide +kernel
def M_Mo_remake : zM := ("WindBridesModel", ⟨"WindBridesModel", "remake", "(II)I"⟩, prog_14_method_23_code, 3, (some .int), [
  (0, .aload_n 0, 1), (1, .iload_n 1, 1), (2, .invokevirtual 92, 3), (5, .ifCond .eq 26, 3), (8, .iload_n 2, 1), (9, .iconst 1, 1),
  (10, .iconst 5, 1), (11, .invokestatic 67, 3), (14, .ifCond .eq 17, 3), (17, .aload_n 0, 1), (18, .bipush 32, 2), (20, .iconst 5, 1),
  (21, .iload_n 1, 1), (22, .imul, 1), (23, .iadd, 1), (24, .iload_n 2, 1), (25, .invokevirtual 103, 3), (28, .goto 4, 3),
  (31, .iconst (-1), 1), (32, .ireturn, 1)])
set_option maxRecDepth 100000 in
theorem K_Mo_remake : mOk M_Mo_remake := by decide +kernel
def M_Mo_wind : zM := ("WindBridesModel", ⟨"WindBridesModel", "wind", "(IIII)I"⟩, prog_14_method_24_code, 6, (some .int), [
  (0, .iload_n 1, 1), (1, .iconst 0, 1), (2, .bipush 7, 2), (4, .invokestatic 67, 3), (7, .ifCond .eq 34, 3), (10, .iload_n 2, 1),
  (11, .iconst 1, 1), (12, .bipush 9, 2), (14, .invokestatic 67, 3), (17, .ifCond .eq 24, 3), (20, .iload_n 3, 1), (21, .iconst 0, 1),
  (22, .bipush 15, 2), (24, .invokestatic 67, 3), (27, .ifCond .eq 14, 3), (30, .iload 4, 2), (32, .iload_n 3, 1), (33, .bipush 15, 2),
  (35, .invokestatic 67, 3), (38, .ifCond .ne 5, 3), (41, .iconst (-1), 1), (42, .ireturn, 1), (43, .aload_n 0, 1), (44, .getfield 9, 3),
  (47, .iconst 2, 1), (48, .iaload, 1), (49, .istore 5, 2), (51, .iload 5, 2), (53, .bipush 6, 2), (55, .if_icmp .ne 6, 3),
  (58, .bipush (-2), 2), (60, .ireturn, 1), (61, .aload_n 0, 1), (62, .getfield 9, 3), (65, .iconst 2, 1), (66, .dup2, 1),
  (67, .iaload, 1), (68, .iconst 1, 1), (69, .iadd, 1), (70, .iastore, 1), (71, .aload_n 0, 1), (72, .getfield 9, 3),
  (75, .bipush 8, 2), (77, .iconst 4, 1), (78, .iload 5, 2), (80, .imul, 1), (81, .iadd, 1), (82, .iload_n 1, 1),
  (83, .iastore, 1), (84, .aload_n 0, 1), (85, .getfield 9, 3), (88, .bipush 8, 2), (90, .iconst 4, 1), (91, .iload 5, 2),
  (93, .imul, 1), (94, .iadd, 1), (95, .iconst 1, 1), (96, .iadd, 1), (97, .iload_n 2, 1), (98, .iastore, 1),
  (99, .aload_n 0, 1), (100, .getfield 9, 3), (103, .bipush 8, 2), (105, .iconst 4, 1), (106, .iload 5, 2), (108, .imul, 1),
  (109, .iadd, 1), (110, .iconst 2, 1), (111, .iadd, 1), (112, .iload_n 3, 1), (113, .iastore, 1), (114, .aload_n 0, 1),
  (115, .getfield 9, 3), (118, .bipush 8, 2), (120, .iconst 4, 1), (121, .iload 5, 2), (123, .imul, 1), (124, .iadd, 1),
  (125, .iconst 3, 1), (126, .iadd, 1), (127, .iload 4, 2), (129, .iastore, 1), (130, .iload 5, 2), (132, .ireturn, 1)])
set_option maxRecDepth 100000 in
theorem K_Mo_wind : mOk M_Mo_wind := by decide +kernel
def M_Mo_windOf : zM := ("WindBridesModel", ⟨"WindBridesModel", "windOf", "(II)I"⟩, prog_14_method_27_code, 3, (some .int), [
  (0, .aload_n 0, 1), (1, .iload_n 1, 1), (2, .invokevirtual 106, 3), (5, .ifCond .eq 12, 3), (8, .iload_n 2, 1), (9, .iconst 0, 1),
  (10, .iconst 5, 1), (11, .invokestatic 67, 3), (14, .ifCond .ne 5, 3), (17, .iconst (-1), 1), (18, .ireturn, 1), (19, .iload_n 2, 1),
  (20, .iconst 4, 1), (21, .if_icmp .ge 12, 3), (24, .aload_n 0, 1), (25, .iload_n 1, 1), (26, .iload_n 2, 1), (27, .invokevirtual 71, 3),
  (30, .goto 35, 3), (33, .iload_n 2, 1), (34, .iconst 4, 1), (35, .if_icmp .ne 11, 3), (38, .aload_n 0, 1), (39, .iload_n 1, 1),
  (40, .invokevirtual 109, 3), (43, .goto 22, 3), (46, .aload_n 0, 1), (47, .iload_n 1, 1), (48, .aload_n 0, 1), (49, .getfield 9, 3),
  (52, .iconst 1, 1), (53, .iaload, 1), (54, .invokevirtual 112, 3), (57, .ifCond .eq 7, 3), (60, .iconst 1, 1), (61, .goto 4, 3),
  (64, .iconst 0, 1), (65, .ireturn, 1)])
set_option maxRecDepth 100000 in
theorem K_Mo_windOf : mOk M_Mo_windOf := by decide +kernel
def M_Mo_isWind : zM := ("WindBridesModel", ⟨"WindBridesModel", "isWind", "(I)Z"⟩, prog_14_method_8_code, 2, (some .boolean), [
  (0, .iload_n 1, 1), (1, .iconst 0, 1), (2, .aload_n 0, 1), (3, .getfield 9, 3), (6, .iconst 2, 1), (7, .iaload, 1),
  (8, .iconst 1, 1), (9, .isub, 1), (10, .invokestatic 67, 3), (13, .ireturn, 1)])
set_option maxRecDepth 100000 in
theorem K_Mo_isWind : mOk M_Mo_isWind := by decide +kernel
def M_Mo_blowing : zM := ("WindBridesModel", ⟨"WindBridesModel", "blowing", "(II)I"⟩, prog_14_method_11_code, 3, (some .int), [
  (0, .aload_n 0, 1), (1, .getfield 9, 3), (4, .bipush 8, 2), (6, .iconst 4, 1), (7, .iload_n 1, 1), (8, .imul, 1),
  (9, .iadd, 1), (10, .iload_n 2, 1), (11, .iadd, 1), (12, .iaload, 1), (13, .ireturn, 1)])
set_option maxRecDepth 100000 in
theorem K_Mo_blowing : mOk M_Mo_blowing := by decide +kernel
def M_Mo_promisedTo : zM := ("WindBridesModel", ⟨"WindBridesModel", "promisedTo", "(I)I"⟩, prog_14_method_25_code, 4, (some .int), [
  (0, .iconst 0, 1), (1, .istore_n 2, 1), (2, .iconst 0, 1), (3, .istore_n 3, 1), (4, .iload_n 3, 1), (5, .aload_n 0, 1),
  (6, .getfield 9, 3), (9, .iconst 3, 1), (10, .iaload, 1), (11, .if_icmp .ge 29, 3), (14, .iload_n 2, 1), (15, .aload_n 0, 1),
  (16, .iload_n 3, 1), (17, .iconst 3, 1), (18, .invokevirtual 75, 3), (21, .iload_n 1, 1), (22, .if_icmp .ne 9, 3), (25, .iconst 1, 1),
  (26, .iload_n 3, 1), (27, .ishl, 1), (28, .goto 4, 3), (31, .iconst 0, 1), (32, .ior, 1), (33, .istore_n 2, 1),
  (34, .iinc 3 1, 3), (37, .goto (-33), 3), (40, .iload_n 2, 1), (41, .ireturn, 1)])
set_option maxRecDepth 100000 in
theorem K_Mo_promisedTo : mOk M_Mo_promisedTo := by decide +kernel
def M_Mo_blows : zM := ("WindBridesModel", ⟨"WindBridesModel", "blows", "(II)Z"⟩, prog_14_method_12_code, 3, (some .boolean), [
  (0, .iload_n 2, 1), (1, .aload_n 0, 1), (2, .iload_n 1, 1), (3, .iconst 2, 1), (4, .invokevirtual 71, 3), (7, .aload_n 0, 1),
  (8, .iload_n 1, 1), (9, .iconst 3, 1), (10, .invokevirtual 71, 3), (13, .invokestatic 67, 3), (16, .ireturn, 1)])
set_option maxRecDepth 100000 in
theorem K_Mo_blows : mOk M_Mo_blows := by decide +kernel
def M_Mo_promise : zM := ("WindBridesModel", ⟨"WindBridesModel", "promise", "(II)I"⟩, prog_14_method_29_code, 4, (some .int), [
  (0, .aload_n 0, 1), (1, .iload_n 1, 1), (2, .invokevirtual 92, 3), (5, .ifCond .eq 16, 3), (8, .iload_n 2, 1), (9, .iconst (-1), 1),
  (10, .if_icmp .eq 13, 3), (13, .aload_n 0, 1), (14, .iload_n 2, 1), (15, .invokevirtual 106, 3), (18, .ifCond .ne 5, 3), (21, .iconst (-1), 1),
  (22, .ireturn, 1), (23, .aload_n 0, 1), (24, .iload_n 1, 1), (25, .iconst 3, 1), (26, .invokevirtual 75, 3), (29, .invokestatic 100, 3),
  (32, .istore_n 3, 1), (33, .aload_n 0, 1), (34, .iload_n 1, 1), (35, .iload_n 2, 1), (36, .invokevirtual 116, 3), (39, .iload_n 3, 1),
  (40, .ireturn, 1)])
set_option maxRecDepth 100000 in
theorem K_Mo_promise : mOk M_Mo_promise := by decide +kernel
def M_Mo_gets : zM := ("WindBridesModel", ⟨"WindBridesModel", "gets", "(II)V"⟩, prog_14_method_28_code, 3, none, [
  (0, .aload_n 0, 1), (1, .iload_n 1, 1), (2, .iconst 3, 1), (3, .iload_n 2, 1), (4, .invokevirtual 88, 3), (7, .aload_n 0, 1),
  (8, .iload_n 1, 1), (9, .iconst 4, 1), (10, .aload_n 0, 1), (11, .iload_n 1, 1), (12, .iconst 2, 1), (13, .invokevirtual 75, 3),
  (16, .invokevirtual 88, 3), (19, .return_, 1)])
set_option maxRecDepth 100000 in
theorem K_Mo_gets : mOk M_Mo_gets := by decide +kernel
def M_Mo_gain : zM := ("WindBridesModel", ⟨"WindBridesModel", "gain", "(III)I"⟩, prog_14_method_30_code, 4, (some .int), [
  (0, .aload_n 0, 1), (1, .iload_n 1, 1), (2, .invokevirtual 92, 3), (5, .ifCond .eq 31, 3), (8, .aload_n 0, 1), (9, .iload_n 2, 1),
  (10, .invokevirtual 106, 3), (13, .ifCond .eq 23, 3), (16, .iload_n 3, 1), (17, .iconst 0, 1), (18, .bipush 15, 2), (20, .invokestatic 67, 3),
  (23, .ifCond .eq 13, 3), (26, .aload_n 0, 1), (27, .iload_n 1, 1), (28, .iload_n 2, 1), (29, .iload_n 3, 1), (30, .invokevirtual 120, 3),
  (33, .goto 4, 3), (36, .iconst (-1), 1), (37, .ireturn, 1)])
set_option maxRecDepth 100000 in
theorem K_Mo_gain : mOk M_Mo_gain := by decide +kernel
def M_Mo_gainOf : zM := ("WindBridesModel", ⟨"WindBridesModel", "gainOf", "(III)I"⟩, prog_14_method_17_code, 4, (some .int), [
  (0, .aload_n 0, 1), (1, .iload_n 1, 1), (2, .iconst 0, 1), (3, .invokevirtual 75, 3), (6, .aload_n 0, 1), (7, .iload_n 1, 1),
  (8, .iload_n 2, 1), (9, .invokevirtual 81, 3), (12, .aload_n 0, 1), (13, .iload_n 2, 1), (14, .iconst 1, 1), (15, .invokevirtual 71, 3),
  (18, .iload_n 3, 1), (19, .invokestatic 84, 3), (22, .ireturn, 1)])
set_option maxRecDepth 100000 in
theorem K_Mo_gainOf : mOk M_Mo_gainOf := by decide +kernel
def M_Mo_turnOf : zM := ("WindBridesModel", ⟨"WindBridesModel", "turnOf", "(II)I"⟩, prog_14_method_16_code, 3, (some .int), [
  (0, .aload_n 0, 1), (1, .iload_n 1, 1), (2, .iconst 1, 1), (3, .invokevirtual 75, 3), (6, .aload_n 0, 1), (7, .iload_n 2, 1),
  (8, .iconst 0, 1), (9, .invokevirtual 71, 3), (12, .invokestatic 78, 3), (15, .ireturn, 1)])
set_option maxRecDepth 100000 in
theorem K_Mo_turnOf : mOk M_Mo_turnOf := by decide +kernel
def M_Mo_apart : zM := ("WindBridesModel", ⟨"WindBridesModel", "apart", "(II)I"⟩, prog_14_method_14_code, 3, (some .int), [
  (0, .iload_n 0, 1), (1, .iload_n 1, 1), (2, .if_icmp .ge 9, 3), (5, .iload_n 1, 1), (6, .iload_n 0, 1), (7, .isub, 1),
  (8, .goto 6, 3), (11, .iload_n 0, 1), (12, .iload_n 1, 1), (13, .isub, 1), (14, .istore_n 2, 1), (15, .iload_n 2, 1),
  (16, .bipush 8, 2), (18, .iload_n 2, 1), (19, .isub, 1), (20, .if_icmp .ge 7, 3), (23, .iload_n 2, 1), (24, .goto 7, 3),
  (27, .bipush 8, 2), (29, .iload_n 2, 1), (30, .isub, 1), (31, .ireturn, 1)])
set_option maxRecDepth 100000 in
theorem K_Mo_apart : mOk M_Mo_apart := by decide +kernel
def M_Mo_gains : zM := ("WindBridesModel", ⟨"WindBridesModel", "gains", "(IIII)I"⟩, prog_14_method_15_code, 7, (some .int), [
  (0, .iload_n 2, 1), (1, .iload_n 1, 1), (2, .if_icmp .le 9, 3), (5, .iload_n 2, 1), (6, .iload_n 1, 1), (7, .isub, 1),
  (8, .goto 4, 3), (11, .iconst 0, 1), (12, .istore 4, 2), (14, .iload_n 2, 1), (15, .iload_n 1, 1), (16, .iconst 2, 1),
  (17, .idiv, 1), (18, .if_icmp .le 11, 3), (21, .iload_n 2, 1), (22, .iload_n 1, 1), (23, .iconst 2, 1), (24, .idiv, 1),
  (25, .isub, 1), (26, .goto 4, 3), (29, .iconst 0, 1), (30, .istore 5, 2), (32, .iload_n 3, 1), (33, .iconst 3, 1),
  (34, .if_icmp .ge 7, 3), (37, .iconst 0, 1), (38, .goto 5, 3), (41, .iload 4, 2), (43, .istore 6, 2), (45, .iload_n 0, 1),
  (46, .tableswitch 58 1 5 #[34, 39, 42, 47, 50], 34), (80, .iload 4, 2), (82, .iconst 2, 1), (83, .idiv, 1), (84, .ireturn, 1), (85, .iload 5, 2),
  (87, .ireturn, 1), (88, .iload 5, 2), (90, .iconst 1, 1), (91, .iadd, 1), (92, .ireturn, 1), (93, .iload 6, 2),
  (95, .ireturn, 1), (96, .iload 6, 2), (98, .bipush 9, 2), (100, .iadd, 1), (101, .iload_n 2, 1), (102, .isub, 1),
  (103, .ireturn, 1), (104, .iload 4, 2), (106, .ireturn, 1)])
set_option maxRecDepth 100000 in
theorem K_Mo_gains : mOk M_Mo_gains := by decide +kernel
def M_Mo_ends : zM := ("WindBridesModel", ⟨"WindBridesModel", "ends", "(I)I"⟩, prog_14_method_31_code, 2, (some .int), [
  (0, .iload_n 1, 1), (1, .iconst 1, 1), (2, .bipush 16, 2), (4, .invokestatic 67, 3), (7, .ifCond .ne 5, 3), (10, .iconst (-1), 1),
  (11, .ireturn, 1), (12, .iload_n 1, 1), (13, .aload_n 0, 1), (14, .getfield 9, 3), (17, .iconst 1, 1), (18, .iaload, 1),
  (19, .if_icmp .ge 8, 3), (22, .bipush (-4), 2), (24, .goto 9, 3), (27, .aload_n 0, 1), (28, .iconst 0, 1), (29, .iload_n 1, 1),
  (30, .invokevirtual 103, 3), (33, .ireturn, 1)])
set_option maxRecDepth 100000 in
theorem K_Mo_ends : mOk M_Mo_ends := by decide +kernel
def M_Mo_anew : zM := ("WindBridesModel", ⟨"WindBridesModel", "anew", "()I"⟩, prog_14_method_32_code, 3, (some .int), [
  (0, .aload_n 0, 1), (1, .getfield 9, 3), (4, .iconst 1, 1), (5, .iaload, 1), (6, .istore_n 1, 1), (7, .aload_n 0, 1),
  (8, .getfield 9, 3), (11, .iconst 1, 1), (12, .iconst 0, 1), (13, .iastore, 1), (14, .aload_n 0, 1), (15, .getfield 9, 3),
  (18, .iconst 4, 1), (19, .iconst 0, 1), (20, .iastore, 1), (21, .iconst 0, 1), (22, .istore_n 2, 1), (23, .iload_n 2, 1),
  (24, .aload_n 0, 1), (25, .getfield 9, 3), (28, .iconst 3, 1), (29, .iaload, 1), (30, .if_icmp .ge 21, 3), (33, .aload_n 0, 1),
  (34, .iload_n 2, 1), (35, .iconst 4, 1), (36, .aload_n 0, 1), (37, .iload_n 2, 1), (38, .iconst 2, 1), (39, .invokevirtual 75, 3),
  (42, .invokevirtual 88, 3), (45, .iinc 2 1, 3), (48, .goto (-25), 3), (51, .iload_n 1, 1), (52, .ireturn, 1)])
set_option maxRecDepth 100000 in
theorem K_Mo_anew : mOk M_Mo_anew := by decide +kernel
def M_Mo_state : zM := ("WindBridesModel", ⟨"WindBridesModel", "state", "(I)I"⟩, prog_14_method_33_code, 2, (some .int), [
  (0, .iload_n 1, 1), (1, .tableswitch 65 0 3 #[31, 38, 45, 52], 31), (32, .aload_n 0, 1), (33, .getfield 9, 3), (36, .iconst 1, 1), (37, .iaload, 1),
  (38, .ireturn, 1), (39, .aload_n 0, 1), (40, .getfield 9, 3), (43, .iconst 0, 1), (44, .iaload, 1), (45, .ireturn, 1),
  (46, .aload_n 0, 1), (47, .getfield 9, 3), (50, .iconst 4, 1), (51, .iaload, 1), (52, .ireturn, 1), (53, .aload_n 0, 1),
  (54, .invokevirtual 124, 3), (57, .ifCond .eq 7, 3), (60, .iconst 1, 1), (61, .goto 4, 3), (64, .iconst 0, 1), (65, .ireturn, 1),
  (66, .iconst (-1), 1), (67, .ireturn, 1)])
set_option maxRecDepth 100000 in
theorem K_Mo_state : mOk M_Mo_state := by decide +kernel
def M_Mo_isOver : zM := ("WindBridesModel", ⟨"WindBridesModel", "isOver", "()Z"⟩, prog_14_method_13_code, 1, (some .boolean), [
  (0, .aload_n 0, 1), (1, .getfield 9, 3), (4, .iconst 1, 1), (5, .iaload, 1), (6, .aload_n 0, 1), (7, .getfield 9, 3),
  (10, .iconst 0, 1), (11, .iaload, 1), (12, .if_icmp .lt 7, 3), (15, .iconst 1, 1), (16, .goto 4, 3), (19, .iconst 0, 1),
  (20, .ireturn, 1)])
set_option maxRecDepth 100000 in
theorem K_Mo_isOver : mOk M_Mo_isOver := by decide +kernel
def M_Mo_feed : zM := ("WindBridesModel", ⟨"WindBridesModel", "feed", "(JI)I"⟩, prog_14_method_34_code, 5, (some .int), [
  (0, .iload_n 3, 1), (1, .iconst 1, 1), (2, .bipush 8, 2), (4, .invokestatic 67, 3), (7, .ifCond .ne 5, 3), (10, .iconst (-1), 1),
  (11, .ireturn, 1), (12, .aload_n 0, 1), (13, .getfield 128, 3), (16, .iload_n 3, 1), (17, .iadd, 1), (18, .sipush 200, 3),
  (21, .if_icmp .le 6, 3), (24, .bipush (-2), 2), (26, .ireturn, 1), (27, .iconst 0, 1), (28, .istore 4, 2), (30, .iload 4, 2),
  (32, .iload_n 3, 1), (33, .if_icmp .ge 40, 3), (36, .aload_n 0, 1), (37, .getfield 19, 3), (40, .aload_n 0, 1), (41, .getfield 128, 3),
  (44, .lload_n 1, 1), (45, .bipush 8, 2), (47, .iload 4, 2), (49, .imul, 1), (50, .lshr, 1), (51, .ldc2_w 132, 3),
  (54, .land, 1), (55, .l2i, 1), (56, .iastore, 1), (57, .aload_n 0, 1), (58, .dup, 1), (59, .getfield 128, 3),
  (62, .iconst 1, 1), (63, .iadd, 1), (64, .putfield 128, 3), (67, .iinc 4 1, 3), (70, .goto (-40), 3), (73, .aload_n 0, 1),
  (74, .getfield 128, 3), (77, .ireturn, 1)])
set_option maxRecDepth 100000 in
theorem K_Mo_feed : mOk M_Mo_feed := by decide +kernel
def M_Mo_rules : zM := ("WindBridesModel", ⟨"WindBridesModel", "rules", "()I"⟩, prog_14_method_47_code, 1, (some .int), [
  (0, .aload_n 0, 1), (1, .invokevirtual 194, 3), (4, .aload_n 0, 1), (5, .getfield 9, 3), (8, .bipush 7, 2), (10, .iconst 0, 1),
  (11, .iastore, 1), (12, .aload_n 0, 1), (13, .iconst 0, 1), (14, .putfield 140, 3), (17, .aload_n 0, 1), (18, .iconst 0, 1),
  (19, .putfield 162, 3), (22, .aload_n 0, 1), (23, .iconst 0, 1), (24, .putfield 175, 3), (27, .aload_n 0, 1), (28, .iconst 0, 1),
  (29, .putfield 169, 3), (32, .aload_n 0, 1), (33, .invokevirtual 166, 3), (36, .aload_n 0, 1), (37, .getfield 162, 3), (40, .ifCond .ne 19, 3),
  (43, .aload_n 0, 1), (44, .getfield 152, 3), (47, .bipush 25, 2), (49, .if_icmp .eq 10, 3), (52, .aload_n 0, 1), (53, .invokevirtual 197, 3),
  (56, .goto (-20), 3), (59, .aload_n 0, 1), (60, .iconst 0, 1), (61, .putfield 128, 3), (64, .aload_n 0, 1), (65, .getfield 162, 3),
  (68, .ifCond .eq 15, 3), (71, .aload_n 0, 1), (72, .invokevirtual 200, 3), (75, .bipush (-100), 2), (77, .aload_n 0, 1), (78, .getfield 137, 3),
  (81, .isub, 1), (82, .ireturn, 1), (83, .aload_n 0, 1), (84, .getfield 9, 3), (87, .bipush 7, 2), (89, .iaload, 1),
  (90, .ireturn, 1)])
set_option maxRecDepth 100000 in
theorem K_Mo_rules : mOk M_Mo_rules := by decide +kernel
def M_Mo_thinks : zM := ("WindBridesModel", ⟨"WindBridesModel", "thinks", "()V"⟩, prog_14_method_4_code, 1, none, [
  (0, .aload_n 0, 1), (1, .getfield 9, 3), (4, .aload_n 0, 1), (5, .getfield 16, 3), (8, .invokestatic 63, 3), (11, .return_, 1)])
set_option maxRecDepth 100000 in
theorem K_Mo_thinks : mOk M_Mo_thinks := by decide +kernel
def M_Mo_copyAll : zM := ("WindBridesModel", ⟨"WindBridesModel", "copyAll", "([I[I)V"⟩, prog_14_method_3_code, 3, none, [
  (0, .iconst 0, 1), (1, .istore_n 2, 1), (2, .iload_n 2, 1), (3, .sipush 618, 3), (6, .if_icmp .ge 15, 3), (9, .aload_n 1, 1),
  (10, .iload_n 2, 1), (11, .aload_n 0, 1), (12, .iload_n 2, 1), (13, .iaload, 1), (14, .iastore, 1), (15, .iinc 2 1, 3),
  (18, .goto (-16), 3), (21, .return_, 1)])
set_option maxRecDepth 100000 in
theorem K_Mo_copyAll : mOk M_Mo_copyAll := by decide +kernel
def M_Mo_reads : zM := ("WindBridesModel", ⟨"WindBridesModel", "reads", "()V"⟩, prog_14_method_39_code, 1, none, [
  (0, .aload_n 0, 1), (1, .aload_n 0, 1), (2, .getfield 140, 3), (5, .bipush 32, 2), (7, .bipush 32, 2), (9, .invokevirtual 146, 3),
  (12, .ifCond .eq 16, 3), (15, .aload_n 0, 1), (16, .dup, 1), (17, .getfield 140, 3), (20, .iconst 1, 1), (21, .iadd, 1),
  (22, .putfield 140, 3), (25, .goto (-25), 3), (28, .aload_n 0, 1), (29, .aload_n 0, 1), (30, .getfield 140, 3), (33, .putfield 137, 3),
  (36, .aload_n 0, 1), (37, .iconst 0, 1), (38, .putfield 149, 3), (41, .aload_n 0, 1), (42, .getfield 140, 3), (45, .aload_n 0, 1),
  (46, .getfield 128, 3), (49, .if_icmp .ne 12, 3), (52, .aload_n 0, 1), (53, .bipush 25, 2), (55, .putfield 152, 3), (58, .goto 210, 3),
  (61, .aload_n 0, 1), (62, .aload_n 0, 1), (63, .getfield 140, 3), (66, .bipush 97, 2), (68, .bipush 122, 2), (70, .invokevirtual 146, 3),
  (73, .ifCond .eq 42, 3), (76, .aload_n 0, 1), (77, .aload_n 0, 1), (78, .getfield 140, 3), (81, .bipush 97, 2), (83, .bipush 122, 2),
  (85, .invokevirtual 146, 3), (88, .ifCond .eq 16, 3), (91, .aload_n 0, 1), (92, .dup, 1), (93, .getfield 140, 3), (96, .iconst 1, 1),
  (97, .iadd, 1), (98, .putfield 140, 3), (101, .goto (-25), 3), (104, .aload_n 0, 1), (105, .aload_n 0, 1), (106, .invokevirtual 155, 3),
  (109, .putfield 152, 3), (112, .goto 156, 3), (115, .aload_n 0, 1), (116, .aload_n 0, 1), (117, .getfield 140, 3), (120, .bipush 48, 2),
  (122, .bipush 57, 2), (124, .invokevirtual 146, 3), (127, .ifCond .eq 102, 3), (130, .aload_n 0, 1), (131, .aload_n 0, 1), (132, .getfield 140, 3),
  (135, .bipush 48, 2), (137, .bipush 57, 2), (139, .invokevirtual 146, 3), (142, .ifCond .eq 60, 3), (145, .aload_n 0, 1), (146, .aload_n 0, 1),
  (147, .getfield 140, 3), (150, .aload_n 0, 1), (151, .getfield 137, 3), (154, .isub, 1), (155, .iconst 3, 1), (156, .if_icmp .le 10, 3),
  (159, .aload_n 0, 1), (160, .getfield 149, 3), (163, .goto 23, 3), (166, .bipush 10, 2), (168, .aload_n 0, 1), (169, .getfield 149, 3),
  (172, .imul, 1), (173, .aload_n 0, 1), (174, .getfield 19, 3), (177, .aload_n 0, 1), (178, .getfield 140, 3), (181, .iaload, 1),
  (182, .iadd, 1), (183, .bipush 48, 2), (185, .isub, 1), (186, .putfield 149, 3), (189, .aload_n 0, 1), (190, .dup, 1),
  (191, .getfield 140, 3), (194, .iconst 1, 1), (195, .iadd, 1), (196, .putfield 140, 3), (199, .goto (-69), 3), (202, .aload_n 0, 1),
  (203, .aload_n 0, 1), (204, .getfield 140, 3), (207, .aload_n 0, 1), (208, .getfield 137, 3), (211, .isub, 1), (212, .iconst 4, 1),
  (213, .if_icmp .le 8, 3), (216, .bipush 26, 2), (218, .goto 5, 3), (221, .bipush 20, 2), (223, .putfield 152, 3), (226, .goto 42, 3),
  (229, .aload_n 0, 1), (230, .aload_n 0, 1), (231, .getfield 19, 3), (234, .aload_n 0, 1), (235, .getfield 140, 3), (238, .iaload, 1),
  (239, .invokestatic 159, 3), (242, .putfield 152, 3), (245, .aload_n 0, 1), (246, .aload_n 0, 1), (247, .getfield 19, 3), (250, .aload_n 0, 1),
  (251, .getfield 140, 3), (254, .iaload, 1), (255, .putfield 149, 3), (258, .aload_n 0, 1), (259, .dup, 1), (260, .getfield 140, 3),
  (263, .iconst 1, 1), (264, .iadd, 1), (265, .putfield 140, 3), (268, .return_, 1)])
set_option maxRecDepth 100000 in
theorem K_Mo_reads : mOk M_Mo_reads := by decide +kernel
def M_Mo_isByte : zM := ("WindBridesModel", ⟨"WindBridesModel", "isByte", "(III)Z"⟩, prog_14_method_35_code, 4, (some .boolean), [
  (0, .iload_n 1, 1), (1, .aload_n 0, 1), (2, .getfield 128, 3), (5, .if_icmp .ge 21, 3), (8, .aload_n 0, 1), (9, .getfield 19, 3),
  (12, .iload_n 1, 1), (13, .iaload, 1), (14, .iload_n 2, 1), (15, .iload_n 3, 1), (16, .invokestatic 67, 3), (19, .ifCond .eq 7, 3),
  (22, .iconst 1, 1), (23, .goto 4, 3), (26, .iconst 0, 1), (27, .ireturn, 1)])
set_option maxRecDepth 100000 in
theorem K_Mo_isByte : mOk M_Mo_isByte := by decide +kernel
def M_Mo_wordHere : zM := ("WindBridesModel", ⟨"WindBridesModel", "wordHere", "()I"⟩, prog_14_method_37_code, 2, (some .int), [
  (0, .iconst 0, 1), (1, .istore_n 1, 1), (2, .iload_n 1, 1), (3, .bipush 18, 2), (5, .if_icmp .ge 26, 3), (8, .aload_n 0, 1),
  (9, .iload_n 1, 1), (10, .aload_n 0, 1), (11, .getfield 140, 3), (14, .aload_n 0, 1), (15, .getfield 137, 3), (18, .isub, 1),
  (19, .invokevirtual 143, 3), (22, .ifCond .ne 9, 3), (25, .iinc 1 1, 3), (28, .goto (-26), 3), (31, .iload_n 1, 1), (32, .bipush 18, 2),
  (34, .if_icmp .ge 7, 3), (37, .iload_n 1, 1), (38, .goto 5, 3), (41, .bipush 26, 2), (43, .ireturn, 1)])
set_option maxRecDepth 100000 in
theorem K_Mo_wordHere : mOk M_Mo_wordHere := by decide +kernel
def M_Mo_isName : zM := ("WindBridesModel", ⟨"WindBridesModel", "isName", "(II)Z"⟩, prog_14_method_36_code, 5, (some .boolean), [
  (0, .iload_n 2, 1), (1, .bipush 6, 2), (3, .if_icmp .gt 26, 3), (6, .iload_n 2, 1), (7, .bipush 6, 2), (9, .if_icmp .eq 16, 3),
  (12, .getstatic 134, 3), (15, .bipush 6, 2), (17, .iload_n 1, 1), (18, .imul, 1), (19, .iload_n 2, 1), (20, .iadd, 1),
  (21, .iaload, 1), (22, .ifCond .ne 7, 3), (25, .iconst 1, 1), (26, .goto 4, 3), (29, .iconst 0, 1), (30, .istore_n 3, 1),
  (31, .iconst 0, 1), (32, .istore 4, 2), (34, .iload 4, 2), (36, .iload_n 2, 1), (37, .if_icmp .ge 45, 3), (40, .iload_n 3, 1),
  (41, .ifCond .eq 41, 3), (44, .getstatic 134, 3), (47, .bipush 6, 2), (49, .iload_n 1, 1), (50, .imul, 1), (51, .iload 4, 2),
  (53, .iadd, 1), (54, .iaload, 1), (55, .aload_n 0, 1), (56, .getfield 19, 3), (59, .aload_n 0, 1), (60, .getfield 137, 3),
  (63, .iload 4, 2), (65, .iadd, 1), (66, .iaload, 1), (67, .if_icmp .ne 7, 3), (70, .iconst 1, 1), (71, .goto 4, 3),
  (74, .iconst 0, 1), (75, .istore_n 3, 1), (76, .iinc 4 1, 3), (79, .goto (-45), 3), (82, .iload_n 3, 1), (83, .ireturn, 1)])
set_option maxRecDepth 100000 in
theorem K_Mo_isName : mOk M_Mo_isName := by decide +kernel
def M_Mo_signOf : zM := ("WindBridesModel", ⟨"WindBridesModel", "signOf", "(I)I"⟩, prog_14_method_38_code, 1, (some .int), [
  (0, .iload_n 0, 1), (1, .lookupswitch 71 #[(40, 62), (41, 65), (59, 68), (60, 59), (61, 59), (62, 59)], 59), (60, .bipush 21, 2), (62, .ireturn, 1), (63, .bipush 22, 2), (65, .ireturn, 1),
  (66, .bipush 23, 2), (68, .ireturn, 1), (69, .bipush 24, 2), (71, .ireturn, 1), (72, .bipush 26, 2), (74, .ireturn, 1)])
set_option maxRecDepth 100000 in
theorem K_Mo_signOf : mOk M_Mo_signOf := by decide +kernel
def M_Mo_ruleHere : zM := ("WindBridesModel", ⟨"WindBridesModel", "ruleHere", "()V"⟩, prog_14_method_46_code, 2, none, [
  (0, .bipush 86, 2), (2, .iconst 4, 1), (3, .aload_n 0, 1), (4, .getfield 9, 3), (7, .bipush 7, 2), (9, .iaload, 1),
  (10, .imul, 1), (11, .iadd, 1), (12, .istore_n 1, 1), (13, .aload_n 0, 1), (14, .aload_n 0, 1), (15, .getfield 152, 3),
  (18, .iconst 5, 1), (19, .if_icmp .gt 15, 3), (22, .aload_n 0, 1), (23, .getfield 9, 3), (26, .bipush 7, 2), (28, .iaload, 1),
  (29, .bipush 8, 2), (31, .if_icmp .ne 7, 3), (34, .iconst 1, 1), (35, .goto 4, 3), (38, .iconst 0, 1), (39, .putfield 162, 3),
  (42, .aload_n 0, 1), (43, .getfield 162, 3), (46, .ifCond .eq 4, 3), (49, .return_, 1), (50, .aload_n 0, 1), (51, .getfield 9, 3),
  (54, .iload_n 1, 1), (55, .aload_n 0, 1), (56, .getfield 152, 3), (59, .iastore, 1), (60, .aload_n 0, 1), (61, .getfield 9, 3),
  (64, .iload_n 1, 1), (65, .iconst 2, 1), (66, .iadd, 1), (67, .aload_n 0, 1), (68, .getfield 169, 3), (71, .iastore, 1),
  (72, .aload_n 0, 1), (73, .invokevirtual 166, 3), (76, .aload_n 0, 1), (77, .bipush 14, 2), (79, .invokevirtual 172, 3), (82, .ifCond .eq 7, 3),
  (85, .aload_n 0, 1), (86, .invokevirtual 178, 3), (89, .aload_n 0, 1), (90, .getfield 9, 3), (93, .iload_n 1, 1), (94, .iconst 3, 1),
  (95, .iadd, 1), (96, .aload_n 0, 1), (97, .getfield 169, 3), (100, .iastore, 1), (101, .aload_n 0, 1), (102, .getfield 9, 3),
  (105, .iload_n 1, 1), (106, .iconst 1, 1), (107, .iadd, 1), (108, .aload_n 0, 1), (109, .getfield 152, 3), (112, .bipush 6, 2),
  (114, .isub, 1), (115, .iastore, 1), (116, .aload_n 0, 1), (117, .aload_n 0, 1), (118, .getfield 162, 3), (121, .ifCond .ne 17, 3),
  (124, .aload_n 0, 1), (125, .getfield 152, 3), (128, .bipush 6, 2), (130, .bipush 8, 2), (132, .invokestatic 67, 3), (135, .ifCond .ne 7, 3),
  (138, .iconst 1, 1), (139, .goto 4, 3), (142, .iconst 0, 1), (143, .putfield 162, 3), (146, .aload_n 0, 1), (147, .getfield 162, 3),
  (150, .ifCond .ne 36, 3), (153, .aload_n 0, 1), (154, .invokevirtual 166, 3), (157, .aload_n 0, 1), (158, .aload_n 0, 1), (159, .bipush 24, 2),
  (161, .invokevirtual 172, 3), (164, .ifCond .ne 7, 3), (167, .iconst 1, 1), (168, .goto 4, 3), (171, .iconst 0, 1), (172, .putfield 162, 3),
  (175, .aload_n 0, 1), (176, .getfield 9, 3), (179, .bipush 7, 2), (181, .dup2, 1), (182, .iaload, 1), (183, .iconst 1, 1),
  (184, .iadd, 1), (185, .iastore, 1), (186, .return_, 1)])
set_option maxRecDepth 100000 in
theorem K_Mo_ruleHere : mOk M_Mo_ruleHere := by decide +kernel
def M_Mo_passes : zM := ("WindBridesModel", ⟨"WindBridesModel", "passes", "(I)Z"⟩, prog_14_method_40_code, 2, (some .boolean), [
  (0, .aload_n 0, 1), (1, .getfield 162, 3), (4, .ifCond .ne 11, 3), (7, .aload_n 0, 1), (8, .getfield 152, 3), (11, .iload_n 1, 1),
  (12, .if_icmp .eq 5, 3), (15, .iconst 0, 1), (16, .ireturn, 1), (17, .aload_n 0, 1), (18, .invokevirtual 166, 3), (21, .iconst 1, 1),
  (22, .ireturn, 1)])
set_option maxRecDepth 100000 in
theorem K_Mo_passes : mOk M_Mo_passes := by decide +kernel
def M_Mo_condition : zM := ("WindBridesModel", ⟨"WindBridesModel", "condition", "()V"⟩, prog_14_method_45_code, 1, none, [
  (0, .aload_n 0, 1), (1, .invokevirtual 191, 3), (4, .aload_n 0, 1), (5, .bipush 15, 2), (7, .invokevirtual 172, 3), (10, .ifCond .eq 16, 3),
  (13, .aload_n 0, 1), (14, .invokevirtual 191, 3), (17, .aload_n 0, 1), (18, .bipush 15, 2), (20, .invokevirtual 184, 3), (23, .goto (-19), 3),
  (26, .return_, 1)])
set_option maxRecDepth 100000 in
theorem K_Mo_condition : mOk M_Mo_condition := by decide +kernel
def M_Mo_all : zM := ("WindBridesModel", ⟨"WindBridesModel", "all", "()V"⟩, prog_14_method_44_code, 1, none, [
  (0, .aload_n 0, 1), (1, .invokevirtual 188, 3), (4, .aload_n 0, 1), (5, .bipush 16, 2), (7, .invokevirtual 172, 3), (10, .ifCond .eq 16, 3),
  (13, .aload_n 0, 1), (14, .invokevirtual 188, 3), (17, .aload_n 0, 1), (18, .bipush 16, 2), (20, .invokevirtual 184, 3), (23, .goto (-19), 3),
  (26, .return_, 1)])
set_option maxRecDepth 100000 in
theorem K_Mo_all : mOk M_Mo_all := by decide +kernel
def M_Mo_one : zM := ("WindBridesModel", ⟨"WindBridesModel", "one", "()V"⟩, prog_14_method_43_code, 5, none, [
  (0, .iconst 0, 1), (1, .istore_n 1, 1), (2, .aload_n 0, 1), (3, .bipush 17, 2), (5, .invokevirtual 172, 3), (8, .ifCond .eq 9, 3),
  (11, .iinc 1 1, 3), (14, .goto (-12), 3), (17, .aload_n 0, 1), (18, .getfield 152, 3), (21, .bipush 22, 2), (23, .if_icmp .ne 72, 3),
  (26, .aload_n 0, 1), (27, .getfield 175, 3), (30, .iconst 3, 1), (31, .if_icmp .ge 64, 3), (34, .aload_n 0, 1), (35, .bipush 22, 2),
  (37, .invokevirtual 172, 3), (40, .ifCond .eq 55, 3), (43, .aload_n 0, 1), (44, .dup, 1), (45, .getfield 175, 3), (48, .iconst 1, 1),
  (49, .iadd, 1), (50, .putfield 175, 3), (53, .aload_n 0, 1), (54, .invokevirtual 178, 3), (57, .aload_n 0, 1), (58, .aload_n 0, 1),
  (59, .getfield 162, 3), (62, .ifCond .ne 12, 3), (65, .aload_n 0, 1), (66, .bipush 23, 2), (68, .invokevirtual 172, 3), (71, .ifCond .ne 7, 3),
  (74, .iconst 1, 1), (75, .goto 4, 3), (78, .iconst 0, 1), (79, .putfield 162, 3), (82, .aload_n 0, 1), (83, .dup, 1),
  (84, .getfield 175, 3), (87, .iconst 1, 1), (88, .isub, 1), (89, .putfield 175, 3), (92, .goto 67, 3), (95, .aload_n 0, 1),
  (96, .invokevirtual 181, 3), (99, .istore_n 2, 1), (100, .aload_n 0, 1), (101, .getfield 149, 3), (104, .istore_n 3, 1), (105, .aload_n 0, 1),
  (106, .aload_n 0, 1), (107, .getfield 162, 3), (110, .ifCond .ne 12, 3), (113, .aload_n 0, 1), (114, .bipush 21, 2), (116, .invokevirtual 172, 3),
  (119, .ifCond .ne 7, 3), (122, .iconst 1, 1), (123, .goto 4, 3), (126, .iconst 0, 1), (127, .putfield 162, 3), (130, .aload_n 0, 1),
  (131, .invokevirtual 181, 3), (134, .istore 4, 2), (136, .aload_n 0, 1), (137, .getfield 162, 3), (140, .ifCond .ne 19, 3), (143, .aload_n 0, 1),
  (144, .iload_n 3, 1), (145, .invokevirtual 184, 3), (148, .aload_n 0, 1), (149, .iload_n 2, 1), (150, .invokevirtual 184, 3), (153, .aload_n 0, 1),
  (154, .iload 4, 2), (156, .invokevirtual 184, 3), (159, .iconst 0, 1), (160, .istore_n 2, 1), (161, .iload_n 2, 1), (162, .iload_n 1, 1),
  (163, .if_icmp .ge 22, 3), (166, .aload_n 0, 1), (167, .getfield 162, 3), (170, .ifCond .ne 15, 3), (173, .aload_n 0, 1), (174, .bipush 17, 2),
  (176, .invokevirtual 184, 3), (179, .iinc 2 1, 3), (182, .goto (-21), 3), (185, .return_, 1)])
set_option maxRecDepth 100000 in
theorem K_Mo_one : mOk M_Mo_one := by decide +kernel
def M_Mo_side : zM := ("WindBridesModel", ⟨"WindBridesModel", "side", "()I"⟩, prog_14_method_42_code, 2, (some .int), [
  (0, .aload_n 0, 1), (1, .getfield 152, 3), (4, .bipush 20, 2), (6, .if_icmp .ne 10, 3), (9, .aload_n 0, 1), (10, .getfield 149, 3),
  (13, .goto 10, 3), (16, .bipush 8, 2), (18, .aload_n 0, 1), (19, .getfield 152, 3), (22, .isub, 1), (23, .istore_n 1, 1),
  (24, .aload_n 0, 1), (25, .aload_n 0, 1), (26, .getfield 162, 3), (29, .ifCond .ne 26, 3), (32, .aload_n 0, 1), (33, .getfield 152, 3),
  (36, .bipush 20, 2), (38, .if_icmp .eq 21, 3), (41, .aload_n 0, 1), (42, .getfield 152, 3), (45, .bipush 9, 2), (47, .bipush 13, 2),
  (49, .invokestatic 67, 3), (52, .ifCond .ne 7, 3), (55, .iconst 1, 1), (56, .goto 4, 3), (59, .iconst 0, 1), (60, .putfield 162, 3),
  (63, .aload_n 0, 1), (64, .getfield 162, 3), (67, .ifCond .ne 7, 3), (70, .aload_n 0, 1), (71, .invokevirtual 166, 3), (74, .iload_n 1, 1),
  (75, .ireturn, 1)])
set_option maxRecDepth 100000 in
theorem K_Mo_side : mOk M_Mo_side := by decide +kernel
def M_Mo_step : zM := ("WindBridesModel", ⟨"WindBridesModel", "step", "(I)V"⟩, prog_14_method_41_code, 2, none, [
  (0, .aload_n 0, 1), (1, .getfield 9, 3), (4, .bipush 118, 2), (6, .aload_n 0, 1), (7, .getfield 169, 3), (10, .iadd, 1),
  (11, .iload_n 1, 1), (12, .iastore, 1), (13, .aload_n 0, 1), (14, .dup, 1), (15, .getfield 169, 3), (18, .iconst 1, 1),
  (19, .iadd, 1), (20, .putfield 169, 3), (23, .return_, 1)])
set_option maxRecDepth 100000 in
theorem K_Mo_step : mOk M_Mo_step := by decide +kernel
def M_Mo_putsBack : zM := ("WindBridesModel", ⟨"WindBridesModel", "putsBack", "()V"⟩, prog_14_method_5_code, 1, none, [
  (0, .aload_n 0, 1), (1, .getfield 16, 3), (4, .aload_n 0, 1), (5, .getfield 9, 3), (8, .invokestatic 63, 3), (11, .return_, 1)])
set_option maxRecDepth 100000 in
theorem K_Mo_putsBack : mOk M_Mo_putsBack := by decide +kernel
def M_Mo_month : zM := ("WindBridesModel", ⟨"WindBridesModel", "month", "()I"⟩, prog_14_method_56_code, 1, (some .int), [
  (0, .aload_n 0, 1), (1, .invokevirtual 124, 3), (4, .ifCond .eq 8, 3), (7, .bipush (-4), 2), (9, .goto 8, 3), (12, .aload_n 0, 1),
  (13, .iconst (-1), 1), (14, .invokevirtual 227, 3), (17, .ireturn, 1)])
set_option maxRecDepth 100000 in
theorem K_Mo_month : mOk M_Mo_month := by decide +kernel
def M_Mo_goes : zM := ("WindBridesModel", ⟨"WindBridesModel", "goes", "(I)I"⟩, prog_14_method_55_code, 6, (some .int), [
  (0, .iconst 0, 1), (1, .istore_n 2, 1), (2, .iconst 0, 1), (3, .istore_n 3, 1), (4, .aload_n 0, 1), (5, .iconst 0, 1),
  (6, .putfield 218, 3), (9, .iconst 0, 1), (10, .istore 4, 2), (12, .iload 4, 2), (14, .aload_n 0, 1), (15, .getfield 9, 3),
  (18, .iconst 3, 1), (19, .iaload, 1), (20, .if_icmp .ge 152, 3), (23, .iload 4, 2), (25, .iload_n 1, 1), (26, .if_icmp .ne 6, 3),
  (29, .goto 137, 3), (32, .aload_n 0, 1), (33, .iload 4, 2), (35, .invokevirtual 221, 3), (38, .ifCond .eq 9, 3), (41, .aload_n 0, 1),
  (42, .iload 4, 2), (44, .invokevirtual 224, 3), (47, .aload_n 0, 1), (48, .iload 4, 2), (50, .iconst 3, 1), (51, .invokevirtual 75, 3),
  (54, .istore 5, 2), (56, .aload_n 0, 1), (57, .iload 4, 2), (59, .invokevirtual 221, 3), (62, .ifCond .ne 66, 3), (65, .iload_n 2, 1),
  (66, .iload 5, 2), (68, .ishr, 1), (69, .iconst 1, 1), (70, .iand, 1), (71, .ifCond .ne 57, 3), (74, .iload_n 2, 1),
  (75, .iconst 1, 1), (76, .iload 5, 2), (78, .ishl, 1), (79, .ior, 1), (80, .istore_n 2, 1), (81, .aload_n 0, 1),
  (82, .dup, 1), (83, .getfield 218, 3), (86, .iconst 1, 1), (87, .iload 4, 2), (89, .ishl, 1), (90, .ior, 1),
  (91, .putfield 218, 3), (94, .iload_n 3, 1), (95, .aload_n 0, 1), (96, .iload 4, 2), (98, .iload 5, 2), (100, .aload_n 0, 1),
  (101, .getfield 9, 3), (104, .iconst 1, 1), (105, .iaload, 1), (106, .invokevirtual 120, 3), (109, .iadd, 1), (110, .istore_n 3, 1),
  (111, .aload_n 0, 1), (112, .iload 4, 2), (114, .iconst 4, 1), (115, .aload_n 0, 1), (116, .iload 4, 2), (118, .iconst 2, 1),
  (119, .invokevirtual 75, 3), (122, .invokevirtual 88, 3), (125, .goto 41, 3), (128, .iload 5, 2), (130, .ifCond .lt 36, 3), (133, .aload_n 0, 1),
  (134, .iload 4, 2), (136, .iconst 4, 1), (137, .aload_n 0, 1), (138, .iload 4, 2), (140, .iconst 4, 1), (141, .invokevirtual 75, 3),
  (144, .iconst 1, 1), (145, .isub, 1), (146, .invokevirtual 88, 3), (149, .aload_n 0, 1), (150, .iload 4, 2), (152, .iconst 4, 1),
  (153, .invokevirtual 75, 3), (156, .ifCond .ne 10, 3), (159, .aload_n 0, 1), (160, .iload 4, 2), (162, .iconst (-1), 1), (163, .invokevirtual 116, 3),
  (166, .iinc 4 1, 3), (169, .goto (-157), 3), (172, .aload_n 0, 1), (173, .getfield 9, 3), (176, .iconst 4, 1), (177, .dup2, 1),
  (178, .iaload, 1), (179, .iload_n 3, 1), (180, .iadd, 1), (181, .iastore, 1), (182, .aload_n 0, 1), (183, .getfield 9, 3),
  (186, .iconst 1, 1), (187, .dup2, 1), (188, .iaload, 1), (189, .iconst 1, 1), (190, .iadd, 1), (191, .iastore, 1),
  (192, .iload_n 3, 1), (193, .ireturn, 1)])
set_option maxRecDepth 100000 in
theorem K_Mo_goes : mOk M_Mo_goes := by decide +kernel
def M_Mo_isCalmFor : zM := ("WindBridesModel", ⟨"WindBridesModel", "isCalmFor", "(I)Z"⟩, prog_14_method_52_code, 2, (some .boolean), [
  (0, .aload_n 0, 1), (1, .iload_n 1, 1), (2, .iconst 3, 1), (3, .invokevirtual 75, 3), (6, .ifCond .lt 22, 3), (9, .aload_n 0, 1),
  (10, .aload_n 0, 1), (11, .iload_n 1, 1), (12, .iconst 3, 1), (13, .invokevirtual 75, 3), (16, .aload_n 0, 1), (17, .getfield 9, 3),
  (20, .iconst 1, 1), (21, .iaload, 1), (22, .invokevirtual 112, 3), (25, .ifCond .ne 7, 3), (28, .iconst 1, 1), (29, .goto 4, 3),
  (32, .iconst 0, 1), (33, .ireturn, 1)])
set_option maxRecDepth 100000 in
theorem K_Mo_isCalmFor : mOk M_Mo_isCalmFor := by decide +kernel
def M_Mo_acts : zM := ("WindBridesModel", ⟨"WindBridesModel", "acts", "(I)V"⟩, prog_14_method_54_code, 3, none, [
  (0, .aload_n 0, 1), (1, .iload_n 1, 1), (2, .invokevirtual 96, 3), (5, .istore_n 2, 1), (6, .iload_n 2, 1), (7, .iconst 1, 1),
  (8, .if_icmp .ne 11, 3), (11, .aload_n 0, 1), (12, .iload_n 1, 1), (13, .invokevirtual 215, 3), (16, .goto 14, 3), (19, .iload_n 2, 1),
  (20, .iconst 2, 1), (21, .if_icmp .ne 9, 3), (24, .aload_n 0, 1), (25, .iload_n 1, 1), (26, .iconst (-1), 1), (27, .invokevirtual 116, 3),
  (30, .return_, 1)])
set_option maxRecDepth 100000 in
theorem K_Mo_acts : mOk M_Mo_acts := by decide +kernel
def M_Mo_turns : zM := ("WindBridesModel", ⟨"WindBridesModel", "turns", "(I)V"⟩, prog_14_method_53_code, 5, none, [
  (0, .iconst (-1), 1), (1, .istore_n 2, 1), (2, .iconst 0, 1), (3, .istore_n 3, 1), (4, .iload_n 3, 1), (5, .aload_n 0, 1),
  (6, .getfield 9, 3), (9, .iconst 2, 1), (10, .iaload, 1), (11, .if_icmp .ge 76, 3), (14, .aload_n 0, 1), (15, .iload_n 3, 1),
  (16, .aload_n 0, 1), (17, .getfield 9, 3), (20, .iconst 1, 1), (21, .iaload, 1), (22, .invokevirtual 112, 3), (25, .ifCond .eq 15, 3),
  (28, .aload_n 0, 1), (29, .iload_n 3, 1), (30, .invokevirtual 109, 3), (33, .ifCond .ne 7, 3), (36, .iconst 1, 1), (37, .goto 4, 3),
  (40, .iconst 0, 1), (41, .istore 4, 2), (43, .iload 4, 2), (45, .ifCond .eq 36, 3), (48, .iload_n 2, 1), (49, .ifCond .lt 30, 3),
  (52, .aload_n 0, 1), (53, .iload_n 1, 1), (54, .iload_n 3, 1), (55, .aload_n 0, 1), (56, .getfield 9, 3), (59, .iconst 1, 1),
  (60, .iaload, 1), (61, .invokevirtual 120, 3), (64, .aload_n 0, 1), (65, .iload_n 1, 1), (66, .iload_n 2, 1), (67, .aload_n 0, 1),
  (68, .getfield 9, 3), (71, .iconst 1, 1), (72, .iaload, 1), (73, .invokevirtual 120, 3), (76, .if_icmp .le 5, 3), (79, .iload_n 3, 1),
  (80, .istore_n 2, 1), (81, .iinc 3 1, 3), (84, .goto (-80), 3), (87, .iload_n 2, 1), (88, .ifCond .lt 9, 3), (91, .aload_n 0, 1),
  (92, .iload_n 1, 1), (93, .iload_n 2, 1), (94, .invokevirtual 116, 3), (97, .return_, 1)])
set_option maxRecDepth 100000 in
theorem K_Mo_turns : mOk M_Mo_turns := by decide +kernel
def M_Mo_on : zM := ("WindBridesModel", ⟨"WindBridesModel", "on", "(I)I"⟩, prog_14_method_58_code, 2, (some .int), [
  (0, .iload_n 1, 1), (1, .iconst 0, 1), (2, .bipush 16, 2), (4, .invokestatic 67, 3), (7, .ifCond .ne 5, 3), (10, .iconst (-1), 1),
  (11, .ireturn, 1), (12, .aload_n 0, 1), (13, .invokevirtual 194, 3), (16, .aload_n 0, 1), (17, .iload_n 1, 1), (18, .invokevirtual 230, 3),
  (21, .ireturn, 1)])
set_option maxRecDepth 100000 in
theorem K_Mo_on : mOk M_Mo_on := by decide +kernel
def M_Mo_restOf : zM := ("WindBridesModel", ⟨"WindBridesModel", "restOf", "(I)I"⟩, prog_14_method_57_code, 4, (some .int), [
  (0, .iconst 0, 1), (1, .istore_n 2, 1), (2, .iconst 0, 1), (3, .istore_n 3, 1), (4, .iload_n 3, 1), (5, .iload_n 1, 1),
  (6, .if_icmp .ge 24, 3), (9, .aload_n 0, 1), (10, .invokevirtual 124, 3), (13, .ifCond .ne 17, 3), (16, .iload_n 2, 1), (17, .aload_n 0, 1),
  (18, .iconst (-1), 1), (19, .invokevirtual 227, 3), (22, .iadd, 1), (23, .istore_n 2, 1), (24, .iinc 3 1, 3), (27, .goto (-23), 3),
  (30, .aload_n 0, 1), (31, .invokevirtual 200, 3), (34, .iload_n 2, 1), (35, .ireturn, 1)])
set_option maxRecDepth 100000 in
theorem K_Mo_restOf : mOk M_Mo_restOf := by decide +kernel
def M_Mo_courted : zM := ("WindBridesModel", ⟨"WindBridesModel", "courted", "(I)I"⟩, prog_14_method_59_code, 3, (some .int), [
  (0, .aload_n 0, 1), (1, .iload_n 1, 1), (2, .invokevirtual 92, 3), (5, .ifCond .ne 5, 3), (8, .iconst (-1), 1), (9, .ireturn, 1),
  (10, .aload_n 0, 1), (11, .invokevirtual 194, 3), (14, .iconst 0, 1), (15, .istore_n 2, 1), (16, .aload_n 0, 1), (17, .invokevirtual 124, 3),
  (20, .ifCond .ne 23, 3), (23, .aload_n 0, 1), (24, .iconst (-1), 1), (25, .invokevirtual 227, 3), (28, .pop, 1), (29, .iload_n 2, 1),
  (30, .aload_n 0, 1), (31, .getfield 218, 3), (34, .iload_n 1, 1), (35, .ishr, 1), (36, .iconst 1, 1), (37, .iand, 1),
  (38, .iadd, 1), (39, .istore_n 2, 1), (40, .goto (-24), 3), (43, .aload_n 0, 1), (44, .invokevirtual 200, 3), (47, .iload_n 2, 1),
  (48, .ireturn, 1)])
set_option maxRecDepth 100000 in
theorem K_Mo_courted : mOk M_Mo_courted := by decide +kernel
def M_Mo_breaks : zM := ("WindBridesModel", ⟨"WindBridesModel", "breaks", "(I)I"⟩, prog_14_method_60_code, 4, (some .int), [
  (0, .aload_n 0, 1), (1, .iload_n 1, 1), (2, .invokevirtual 92, 3), (5, .ifCond .ne 5, 3), (8, .iconst (-1), 1), (9, .ireturn, 1),
  (10, .aload_n 0, 1), (11, .iload_n 1, 1), (12, .iconst 3, 1), (13, .invokevirtual 75, 3), (16, .istore_n 2, 1), (17, .aload_n 0, 1),
  (18, .invokevirtual 194, 3), (21, .bipush (-3), 2), (23, .istore_n 3, 1), (24, .iload_n 2, 1), (25, .ifCond .lt 47, 3), (28, .iload_n 3, 1),
  (29, .ifCond .ge 43, 3), (32, .aload_n 0, 1), (33, .invokevirtual 124, 3), (36, .ifCond .ne 36, 3), (39, .aload_n 0, 1), (40, .iconst (-1), 1),
  (41, .invokevirtual 227, 3), (44, .pop, 1), (45, .aload_n 0, 1), (46, .iload_n 1, 1), (47, .iconst 3, 1), (48, .invokevirtual 75, 3),
  (51, .iload_n 2, 1), (52, .if_icmp .ne 8, 3), (55, .bipush (-3), 2), (57, .goto 11, 3), (60, .aload_n 0, 1), (61, .getfield 9, 3),
  (64, .iconst 1, 1), (65, .iaload, 1), (66, .iconst 1, 1), (67, .isub, 1), (68, .istore_n 3, 1), (69, .goto (-45), 3),
  (72, .aload_n 0, 1), (73, .invokevirtual 200, 3), (76, .iload_n 3, 1), (77, .ireturn, 1)])
set_option maxRecDepth 100000 in
theorem K_Mo_breaks : mOk M_Mo_breaks := by decide +kernel
def M_Mo_windFor : zM := ("WindBridesModel", ⟨"WindBridesModel", "windFor", "(I)I"⟩, prog_14_method_61_code, 6, (some .int), [
  (0, .aload_n 0, 1), (1, .iload_n 1, 1), (2, .invokevirtual 92, 3), (5, .ifCond .ne 5, 3), (8, .iconst (-1), 1), (9, .ireturn, 1),
  (10, .aload_n 0, 1), (11, .invokevirtual 194, 3), (14, .iconst (-1), 1), (15, .istore_n 2, 1), (16, .iconst (-1), 1), (17, .istore_n 3, 1),
  (18, .iconst 0, 1), (19, .istore 4, 2), (21, .iload 4, 2), (23, .aload_n 0, 1), (24, .getfield 9, 3), (27, .iconst 2, 1),
  (28, .iaload, 1), (29, .if_icmp .gt 80, 3), (32, .aload_n 0, 1), (33, .iload_n 1, 1), (34, .iload 4, 2), (36, .aload_n 0, 1),
  (37, .getfield 9, 3), (40, .iconst 2, 1), (41, .iaload, 1), (42, .if_icmp .ge 8, 3), (45, .iload 4, 2), (47, .goto 4, 3),
  (50, .iconst (-1), 1), (51, .invokevirtual 116, 3), (54, .aload_n 0, 1), (55, .bipush 16, 2), (57, .invokevirtual 230, 3), (60, .istore 5, 2),
  (62, .iload 5, 2), (64, .iload_n 3, 1), (65, .if_icmp .le 23, 3), (68, .iload 4, 2), (70, .aload_n 0, 1), (71, .getfield 9, 3),
  (74, .iconst 2, 1), (75, .iaload, 1), (76, .if_icmp .ge 8, 3), (79, .iload 4, 2), (81, .goto 8, 3), (84, .iconst (-1), 1),
  (85, .goto 4, 3), (88, .iload_n 2, 1), (89, .istore_n 2, 1), (90, .iload 5, 2), (92, .iload_n 3, 1), (93, .if_icmp .le 8, 3),
  (96, .iload 5, 2), (98, .goto 4, 3), (101, .iload_n 3, 1), (102, .istore_n 3, 1), (103, .iinc 4 1, 3), (106, .goto (-85), 3),
  (109, .iload_n 2, 1), (110, .invokestatic 100, 3), (113, .ireturn, 1)])
set_option maxRecDepth 100000 in
theorem K_Mo_windFor : mOk M_Mo_windFor := by decide +kernel
def M_Mo_dowryFor : zM := ("WindBridesModel", ⟨"WindBridesModel", "dowryFor", "(I)I"⟩, prog_14_method_62_code, 6, (some .int), [
  (0, .aload_n 0, 1), (1, .iload_n 1, 1), (2, .invokevirtual 92, 3), (5, .ifCond .ne 5, 3), (8, .iconst (-1), 1), (9, .ireturn, 1),
  (10, .aload_n 0, 1), (11, .invokevirtual 194, 3), (14, .iconst 0, 1), (15, .istore_n 2, 1), (16, .iconst (-1), 1), (17, .istore_n 3, 1),
  (18, .iconst 1, 1), (19, .istore 4, 2), (21, .iload 4, 2), (23, .bipush 10, 2), (25, .if_icmp .ge 59, 3), (28, .aload_n 0, 1),
  (29, .iload_n 1, 1), (30, .iconst 2, 1), (31, .iload 4, 2), (33, .invokevirtual 88, 3), (36, .aload_n 0, 1), (37, .iload_n 1, 1),
  (38, .iconst 4, 1), (39, .iload 4, 2), (41, .invokevirtual 88, 3), (44, .aload_n 0, 1), (45, .bipush 16, 2), (47, .invokevirtual 230, 3),
  (50, .istore 5, 2), (52, .iload 5, 2), (54, .iload_n 3, 1), (55, .if_icmp .le 8, 3), (58, .iload 4, 2), (60, .goto 4, 3),
  (63, .iload_n 2, 1), (64, .istore_n 2, 1), (65, .iload 5, 2), (67, .iload_n 3, 1), (68, .if_icmp .le 8, 3), (71, .iload 5, 2),
  (73, .goto 4, 3), (76, .iload_n 3, 1), (77, .istore_n 3, 1), (78, .iinc 4 1, 3), (81, .goto (-60), 3), (84, .iload_n 2, 1),
  (85, .ireturn, 1)])
set_option maxRecDepth 100000 in
theorem K_Mo_dowryFor : mOk M_Mo_dowryFor := by decide +kernel
def M_Mo_leave : zM := ("WindBridesModel", ⟨"WindBridesModel", "leave", "()I"⟩, prog_14_method_67_code, 4, (some .int), [
  (0, .iconst 0, 1), (1, .istore_n 1, 1), (2, .iconst 0, 1), (3, .istore_n 2, 1), (4, .iload_n 2, 1), (5, .aload_n 0, 1),
  (6, .getfield 9, 3), (9, .iconst 3, 1), (10, .iaload, 1), (11, .if_icmp .ge 44, 3), (14, .iconst 0, 1), (15, .istore_n 3, 1),
  (16, .iload_n 3, 1), (17, .aload_n 0, 1), (18, .getfield 9, 3), (21, .iconst 2, 1), (22, .iaload, 1), (23, .if_icmp .ge 26, 3),
  (26, .iload_n 1, 1), (27, .aload_n 0, 1), (28, .iload_n 2, 1), (29, .iload_n 3, 1), (30, .invokevirtual 242, 3), (33, .ifCond .eq 7, 3),
  (36, .iconst 1, 1), (37, .goto 4, 3), (40, .iconst 0, 1), (41, .iadd, 1), (42, .istore_n 1, 1), (43, .iinc 3 1, 3),
  (46, .goto (-30), 3), (49, .iinc 2 1, 3), (52, .goto (-48), 3), (55, .iload_n 1, 1), (56, .ireturn, 1)])
set_option maxRecDepth 100000 in
theorem K_Mo_leave : mOk M_Mo_leave := by decide +kernel
def M_Mo_wouldLeave : zM := ("WindBridesModel", ⟨"WindBridesModel", "wouldLeave", "(II)Z"⟩, prog_14_method_66_code, 5, (some .boolean), [
  (0, .aload_n 0, 1), (1, .iload_n 1, 1), (2, .iconst 3, 1), (3, .invokevirtual 75, 3), (6, .iload_n 2, 1), (7, .if_icmp .eq 22, 3),
  (10, .aload_n 0, 1), (11, .iload_n 1, 1), (12, .iload_n 2, 1), (13, .aload_n 0, 1), (14, .iload_n 1, 1), (15, .iconst 3, 1),
  (16, .invokevirtual 75, 3), (19, .invokevirtual 236, 3), (22, .ifCond .eq 7, 3), (25, .iconst 1, 1), (26, .goto 4, 3), (29, .iconst 0, 1),
  (30, .istore_n 3, 1), (31, .iconst 0, 1), (32, .istore 4, 2), (34, .iload 4, 2), (36, .aload_n 0, 1), (37, .getfield 9, 3),
  (40, .iconst 3, 1), (41, .iaload, 1), (42, .if_icmp .ge 41, 3), (45, .iload_n 3, 1), (46, .ifCond .eq 37, 3), (49, .aload_n 0, 1),
  (50, .iload 4, 2), (52, .iconst 3, 1), (53, .invokevirtual 75, 3), (56, .iload_n 2, 1), (57, .if_icmp .ne 14, 3), (60, .aload_n 0, 1),
  (61, .iload_n 2, 1), (62, .iload_n 1, 1), (63, .iload 4, 2), (65, .invokevirtual 239, 3), (68, .ifCond .eq 7, 3), (71, .iconst 1, 1),
  (72, .goto 4, 3), (75, .iconst 0, 1), (76, .istore_n 3, 1), (77, .iinc 4 1, 3), (80, .goto (-46), 3), (83, .iload_n 3, 1),
  (84, .ireturn, 1)])
set_option maxRecDepth 100000 in
theorem K_Mo_wouldLeave : mOk M_Mo_wouldLeave := by decide +kernel
def M_Mo_likes : zM := ("WindBridesModel", ⟨"WindBridesModel", "likes", "(III)Z"⟩, prog_14_method_64_code, 6, (some .boolean), [
  (0, .iload_n 3, 1), (1, .ifCond .ge 5, 3), (4, .iconst 1, 1), (5, .ireturn, 1), (6, .aload_n 0, 1), (7, .iload_n 1, 1),
  (8, .iload_n 2, 1), (9, .aload_n 0, 1), (10, .invokevirtual 233, 3), (13, .invokevirtual 120, 3), (16, .istore 4, 2), (18, .aload_n 0, 1),
  (19, .iload_n 1, 1), (20, .iload_n 3, 1), (21, .aload_n 0, 1), (22, .invokevirtual 233, 3), (25, .invokevirtual 120, 3), (28, .istore 5, 2),
  (30, .iload 4, 2), (32, .iload 5, 2), (34, .if_icmp .gt 15, 3), (37, .iload 4, 2), (39, .iload 5, 2), (41, .if_icmp .ne 12, 3),
  (44, .iload_n 2, 1), (45, .iload_n 3, 1), (46, .if_icmp .ge 7, 3), (49, .iconst 1, 1), (50, .goto 4, 3), (53, .iconst 0, 1),
  (54, .ireturn, 1)])
set_option maxRecDepth 100000 in
theorem K_Mo_likes : mOk M_Mo_likes := by decide +kernel
def M_Mo_monthNow : zM := ("WindBridesModel", ⟨"WindBridesModel", "monthNow", "()I"⟩, prog_14_method_63_code, 1, (some .int), [
  (0, .aload_n 0, 1), (1, .getfield 9, 3), (4, .iconst 1, 1), (5, .iaload, 1), (6, .bipush 15, 2), (8, .if_icmp .le 8, 3),
  (11, .bipush 15, 2), (13, .goto 9, 3), (16, .aload_n 0, 1), (17, .getfield 9, 3), (20, .iconst 1, 1), (21, .iaload, 1),
  (22, .ireturn, 1)])
set_option maxRecDepth 100000 in
theorem K_Mo_monthNow : mOk M_Mo_monthNow := by decide +kernel
def M_Mo_isLiked : zM := ("WindBridesModel", ⟨"WindBridesModel", "isLiked", "(III)Z"⟩, prog_14_method_65_code, 6, (some .boolean), [
  (0, .aload_n 0, 1), (1, .iload_n 2, 1), (2, .iload_n 1, 1), (3, .invokevirtual 81, 3), (6, .istore 4, 2), (8, .aload_n 0, 1),
  (9, .iload_n 3, 1), (10, .iload_n 1, 1), (11, .invokevirtual 81, 3), (14, .istore 5, 2), (16, .iload 4, 2), (18, .iload 5, 2),
  (20, .if_icmp .lt 15, 3), (23, .iload 4, 2), (25, .iload 5, 2), (27, .if_icmp .ne 12, 3), (30, .iload_n 2, 1), (31, .iload_n 3, 1),
  (32, .if_icmp .ge 7, 3), (35, .iconst 1, 1), (36, .goto 4, 3), (39, .iconst 0, 1), (40, .ireturn, 1)])
set_option maxRecDepth 100000 in
theorem K_Mo_isLiked : mOk M_Mo_isLiked := by decide +kernel
def M_Mo_first : zM := ("WindBridesModel", ⟨"WindBridesModel", "first", "()I"⟩, prog_14_method_68_code, 3, (some .int), [
  (0, .iconst 0, 1), (1, .istore_n 1, 1), (2, .iload_n 1, 1), (3, .aload_n 0, 1), (4, .getfield 9, 3), (7, .iconst 3, 1),
  (8, .iaload, 1), (9, .if_icmp .ge 43, 3), (12, .iconst 0, 1), (13, .istore_n 2, 1), (14, .iload_n 2, 1), (15, .aload_n 0, 1),
  (16, .getfield 9, 3), (19, .iconst 2, 1), (20, .iaload, 1), (21, .if_icmp .ge 25, 3), (24, .aload_n 0, 1), (25, .iload_n 1, 1),
  (26, .iload_n 2, 1), (27, .invokevirtual 242, 3), (30, .ifCond .eq 10, 3), (33, .bipush 10, 2), (35, .iload_n 1, 1), (36, .imul, 1),
  (37, .iload_n 2, 1), (38, .iadd, 1), (39, .ireturn, 1), (40, .iinc 2 1, 3), (43, .goto (-29), 3), (46, .iinc 1 1, 3),
  (49, .goto (-47), 3), (52, .bipush (-3), 2), (54, .ireturn, 1)])
set_option maxRecDepth 100000 in
theorem K_Mo_first : mOk M_Mo_first := by decide +kernel
def M_Mo_kept : zM := ("WindBridesModel", ⟨"WindBridesModel", "kept", "(I)I"⟩, prog_14_method_71_code, 3, (some .int), [
  (0, .aload_n 0, 1), (1, .iload_n 1, 1), (2, .invokevirtual 92, 3), (5, .ifCond .ne 5, 3), (8, .iconst (-1), 1), (9, .ireturn, 1),
  (10, .iconst 0, 1), (11, .istore_n 2, 1), (12, .iload_n 2, 1), (13, .bipush 6, 2), (15, .if_icmp .ge 23, 3), (18, .aload_n 0, 1),
  (19, .getfield 26, 3), (22, .iload_n 2, 1), (23, .iconst (-1), 1), (24, .iastore, 1), (25, .aload_n 0, 1), (26, .getfield 29, 3),
  (29, .iload_n 2, 1), (30, .iconst 0, 1), (31, .iastore, 1), (32, .iinc 2 1, 3), (35, .goto (-23), 3), (38, .iconst 1, 1),
  (39, .istore_n 2, 1), (40, .iload_n 2, 1), (41, .ifCond .eq 11, 3), (44, .aload_n 0, 1), (45, .invokevirtual 248, 3), (48, .istore_n 2, 1),
  (49, .goto (-9), 3), (52, .aload_n 0, 1), (53, .getfield 26, 3), (56, .iload_n 1, 1), (57, .iaload, 1), (58, .invokestatic 100, 3),
  (61, .ireturn, 1)])
set_option maxRecDepth 100000 in
theorem K_Mo_kept : mOk M_Mo_kept := by decide +kernel
def M_Mo_asks : zM := ("WindBridesModel", ⟨"WindBridesModel", "asks", "()Z"⟩, prog_14_method_70_code, 5, (some .boolean), [
  (0, .iconst 0, 1), (1, .istore_n 1, 1), (2, .iload_n 1, 1), (3, .aload_n 0, 1), (4, .getfield 9, 3), (7, .iconst 3, 1),
  (8, .iaload, 1), (9, .if_icmp .ge 118, 3), (12, .aload_n 0, 1), (13, .getfield 26, 3), (16, .iload_n 1, 1), (17, .iaload, 1),
  (18, .ifCond .ge 11, 3), (21, .aload_n 0, 1), (22, .iload_n 1, 1), (23, .invokevirtual 245, 3), (26, .goto 4, 3), (29, .iconst (-1), 1),
  (30, .istore_n 2, 1), (31, .iload_n 2, 1), (32, .ifCond .lt 89, 3), (35, .aload_n 0, 1), (36, .getfield 29, 3), (39, .iload_n 1, 1),
  (40, .dup2, 1), (41, .iaload, 1), (42, .iconst 1, 1), (43, .iload_n 2, 1), (44, .ishl, 1), (45, .ior, 1),
  (46, .iastore, 1), (47, .iconst (-1), 1), (48, .istore_n 3, 1), (49, .iconst 0, 1), (50, .istore 4, 2), (52, .iload 4, 2),
  (54, .aload_n 0, 1), (55, .getfield 9, 3), (58, .iconst 3, 1), (59, .iaload, 1), (60, .if_icmp .ge 27, 3), (63, .aload_n 0, 1),
  (64, .getfield 26, 3), (67, .iload 4, 2), (69, .iaload, 1), (70, .iload_n 2, 1), (71, .if_icmp .ne 8, 3), (74, .iload 4, 2),
  (76, .goto 4, 3), (79, .iload_n 3, 1), (80, .istore_n 3, 1), (81, .iinc 4 1, 3), (84, .goto (-32), 3), (87, .iload_n 3, 1),
  (88, .ifCond .lt 13, 3), (91, .aload_n 0, 1), (92, .iload_n 2, 1), (93, .iload_n 1, 1), (94, .iload_n 3, 1), (95, .invokevirtual 239, 3),
  (98, .ifCond .eq 21, 3), (101, .aload_n 0, 1), (102, .getfield 26, 3), (105, .iload_n 1, 1), (106, .iload_n 2, 1), (107, .iastore, 1),
  (108, .iload_n 3, 1), (109, .ifCond .lt 10, 3), (112, .aload_n 0, 1), (113, .getfield 26, 3), (116, .iload_n 3, 1), (117, .iconst (-1), 1),
  (118, .iastore, 1), (119, .iconst 1, 1), (120, .ireturn, 1), (121, .iinc 1 1, 3), (124, .goto (-122), 3), (127, .iconst 0, 1),
  (128, .ireturn, 1)])
set_option maxRecDepth 100000 in
theorem K_Mo_asks : mOk M_Mo_asks := by decide +kernel
def M_Mo_nextFor : zM := ("WindBridesModel", ⟨"WindBridesModel", "nextFor", "(I)I"⟩, prog_14_method_69_code, 4, (some .int), [
  (0, .iconst (-1), 1), (1, .istore_n 2, 1), (2, .iconst 0, 1), (3, .istore_n 3, 1), (4, .iload_n 3, 1), (5, .aload_n 0, 1),
  (6, .getfield 9, 3), (9, .iconst 2, 1), (10, .iaload, 1), (11, .if_icmp .ge 38, 3), (14, .aload_n 0, 1), (15, .getfield 29, 3),
  (18, .iload_n 1, 1), (19, .iaload, 1), (20, .iload_n 3, 1), (21, .ishr, 1), (22, .iconst 1, 1), (23, .iand, 1),
  (24, .ifCond .ne 17, 3), (27, .aload_n 0, 1), (28, .iload_n 1, 1), (29, .iload_n 3, 1), (30, .iload_n 2, 1), (31, .invokevirtual 236, 3),
  (34, .ifCond .eq 7, 3), (37, .iload_n 3, 1), (38, .goto 4, 3), (41, .iload_n 2, 1), (42, .istore_n 2, 1), (43, .iinc 3 1, 3),
  (46, .goto (-42), 3), (49, .iload_n 2, 1), (50, .ireturn, 1)])
set_option maxRecDepth 100000 in
theorem K_Mo_nextFor : mOk M_Mo_nextFor := by decide +kernel
def M_Mo_ring : zM := ("WindBridesModel", ⟨"WindBridesModel", "ring", "(I)I"⟩, prog_14_method_73_code, 7, (some .int), [
  (0, .aload_n 0, 1), (1, .iload_n 1, 1), (2, .invokevirtual 92, 3), (5, .ifCond .ne 5, 3), (8, .iconst (-1), 1), (9, .ireturn, 1),
  (10, .iconst 1, 1), (11, .iload_n 1, 1), (12, .ishl, 1), (13, .istore_n 2, 1), (14, .iconst 1, 1), (15, .istore_n 3, 1),
  (16, .iload_n 3, 1), (17, .bipush 6, 2), (19, .if_icmp .gt 101, 3), (22, .iconst 0, 1), (23, .istore 4, 2), (25, .iconst 0, 1),
  (26, .istore 5, 2), (28, .iload 5, 2), (30, .aload_n 0, 1), (31, .getfield 9, 3), (34, .iconst 3, 1), (35, .iaload, 1),
  (36, .if_icmp .ge 63, 3), (39, .iconst 0, 1), (40, .istore 6, 2), (42, .iload 6, 2), (44, .aload_n 0, 1), (45, .getfield 9, 3),
  (48, .iconst 3, 1), (49, .iaload, 1), (50, .if_icmp .ge 43, 3), (53, .iload 4, 2), (55, .iload_n 2, 1), (56, .iload 5, 2),
  (58, .ishr, 1), (59, .iconst 1, 1), (60, .iand, 1), (61, .iconst 1, 1), (62, .if_icmp .ne 21, 3), (65, .aload_n 0, 1),
  (66, .iload 5, 2), (68, .iload 6, 2), (70, .invokevirtual 251, 3), (73, .ifCond .eq 10, 3), (76, .iconst 1, 1), (77, .iload 6, 2),
  (79, .ishl, 1), (80, .goto 4, 3), (83, .iconst 0, 1), (84, .ior, 1), (85, .istore 4, 2), (87, .iinc 6 1, 3),
  (90, .goto (-48), 3), (93, .iinc 5 1, 3), (96, .goto (-68), 3), (99, .iload 4, 2), (101, .iload_n 1, 1), (102, .ishr, 1),
  (103, .iconst 1, 1), (104, .iand, 1), (105, .iconst 1, 1), (106, .if_icmp .ne 5, 3), (109, .iload_n 3, 1), (110, .ireturn, 1),
  (111, .iload 4, 2), (113, .istore_n 2, 1), (114, .iinc 3 1, 3), (117, .goto (-101), 3), (120, .bipush (-3), 2), (122, .ireturn, 1)])
set_option maxRecDepth 100000 in
theorem K_Mo_ring : mOk M_Mo_ring := by decide +kernel
def M_Mo_wouldSwap : zM := ("WindBridesModel", ⟨"WindBridesModel", "wouldSwap", "(II)Z"⟩, prog_14_method_72_code, 4, (some .boolean), [
  (0, .iload_n 1, 1), (1, .iload_n 2, 1), (2, .if_icmp .eq 25, 3), (5, .aload_n 0, 1), (6, .iload_n 1, 1), (7, .iconst 3, 1),
  (8, .invokevirtual 75, 3), (11, .ifCond .lt 16, 3), (14, .aload_n 0, 1), (15, .iload_n 2, 1), (16, .iconst 3, 1), (17, .invokevirtual 75, 3),
  (20, .ifCond .lt 7, 3), (23, .iconst 1, 1), (24, .goto 4, 3), (27, .iconst 0, 1), (28, .istore_n 3, 1), (29, .iload_n 3, 1),
  (30, .ifCond .eq 40, 3), (33, .aload_n 0, 1), (34, .iload_n 1, 1), (35, .aload_n 0, 1), (36, .iload_n 2, 1), (37, .iconst 3, 1),
  (38, .invokevirtual 75, 3), (41, .aload_n 0, 1), (42, .invokevirtual 233, 3), (45, .invokevirtual 120, 3), (48, .aload_n 0, 1), (49, .iload_n 1, 1),
  (50, .aload_n 0, 1), (51, .iload_n 1, 1), (52, .iconst 3, 1), (53, .invokevirtual 75, 3), (56, .aload_n 0, 1), (57, .invokevirtual 233, 3),
  (60, .invokevirtual 120, 3), (63, .if_icmp .le 7, 3), (66, .iconst 1, 1), (67, .goto 4, 3), (70, .iconst 0, 1), (71, .ireturn, 1)])
set_option maxRecDepth 100000 in
theorem K_Mo_wouldSwap : mOk M_Mo_wouldSwap := by decide +kernel
def M_Mo_best : zM := ("WindBridesModel", ⟨"WindBridesModel", "best", "(I)I"⟩, prog_14_method_79_code, 2, (some .int), [
  (0, .iload_n 1, 1), (1, .iconst 0, 1), (2, .iconst 4, 1), (3, .invokestatic 67, 3), (6, .ifCond .ne 5, 3), (9, .iconst (-1), 1),
  (10, .ireturn, 1), (11, .aload_n 0, 1), (12, .iload_n 1, 1), (13, .invokevirtual 281, 3), (16, .aload_n 0, 1), (17, .getfield 269, 3),
  (20, .ireturn, 1)])
set_option maxRecDepth 100000 in
theorem K_Mo_best : mOk M_Mo_best := by decide +kernel
def M_Mo_findBest : zM := ("WindBridesModel", ⟨"WindBridesModel", "findBest", "(I)V"⟩, prog_14_method_78_code, 6, none, [
  (0, .aload_n 0, 1), (1, .iload_n 1, 1), (2, .invokevirtual 254, 3), (5, .istore_n 2, 1), (6, .aload_n 0, 1), (7, .iload_n 1, 1),
  (8, .invokevirtual 266, 3), (11, .istore_n 3, 1), (12, .aload_n 0, 1), (13, .invokevirtual 194, 3), (16, .aload_n 0, 1), (17, .iconst (-1), 1),
  (18, .putfield 269, 3), (21, .iconst 0, 1), (22, .istore 4, 2), (24, .iload 4, 2), (26, .iload_n 3, 1), (27, .if_icmp .ge 101, 3),
  (30, .aload_n 0, 1), (31, .iload 4, 2), (33, .iload_n 2, 1), (34, .invokevirtual 272, 3), (37, .istore 5, 2), (39, .aload_n 0, 1),
  (40, .iload 5, 2), (42, .aload_n 0, 1), (43, .getfield 269, 3), (46, .if_icmp .le 7, 3), (49, .iconst 1, 1), (50, .goto 25, 3),
  (53, .iload 5, 2), (55, .aload_n 0, 1), (56, .getfield 269, 3), (59, .if_icmp .ne 12, 3), (62, .aload_n 0, 1), (63, .getfield 275, 3),
  (66, .iconst 1, 1), (67, .iadd, 1), (68, .goto 7, 3), (71, .aload_n 0, 1), (72, .getfield 275, 3), (75, .putfield 275, 3),
  (78, .aload_n 0, 1), (79, .iload 5, 2), (81, .aload_n 0, 1), (82, .getfield 269, 3), (85, .if_icmp .le 8, 3), (88, .iload 4, 2),
  (90, .goto 7, 3), (93, .aload_n 0, 1), (94, .getfield 278, 3), (97, .putfield 278, 3), (100, .aload_n 0, 1), (101, .iload 5, 2),
  (103, .aload_n 0, 1), (104, .getfield 269, 3), (107, .if_icmp .le 8, 3), (110, .iload 5, 2), (112, .goto 7, 3), (115, .aload_n 0, 1),
  (116, .getfield 269, 3), (119, .putfield 269, 3), (122, .iinc 4 1, 3), (125, .goto (-101), 3), (128, .return_, 1)])
set_option maxRecDepth 100000 in
theorem K_Mo_findBest : mOk M_Mo_findBest := by decide +kernel
def M_Mo_monthsOf : zM := ("WindBridesModel", ⟨"WindBridesModel", "monthsOf", "(I)I"⟩, prog_14_method_74_code, 3, (some .int), [
  (0, .aload_n 0, 1), (1, .getfield 9, 3), (4, .iconst 0, 1), (5, .iaload, 1), (6, .aload_n 0, 1), (7, .getfield 9, 3),
  (10, .iconst 1, 1), (11, .iaload, 1), (12, .isub, 1), (13, .istore_n 2, 1), (14, .iload_n 2, 1), (15, .iload_n 1, 1),
  (16, .if_icmp .ge 7, 3), (19, .iload_n 2, 1), (20, .goto 4, 3), (23, .iload_n 1, 1), (24, .ireturn, 1)])
set_option maxRecDepth 100000 in
theorem K_Mo_monthsOf : mOk M_Mo_monthsOf := by decide +kernel
def M_Mo_plansOf : zM := ("WindBridesModel", ⟨"WindBridesModel", "plansOf", "(I)I"⟩, prog_14_method_75_code, 4, (some .int), [
  (0, .iconst 1, 1), (1, .istore_n 2, 1), (2, .iconst 0, 1), (3, .istore_n 3, 1), (4, .iload_n 3, 1), (5, .aload_n 0, 1),
  (6, .iload_n 1, 1), (7, .invokevirtual 254, 3), (10, .if_icmp .ge 20, 3), (13, .iload_n 2, 1), (14, .aload_n 0, 1), (15, .getfield 9, 3),
  (18, .iconst 3, 1), (19, .iaload, 1), (20, .iconst 1, 1), (21, .iadd, 1), (22, .imul, 1), (23, .istore_n 2, 1),
  (24, .iinc 3 1, 3), (27, .goto (-23), 3), (30, .iload_n 2, 1), (31, .ireturn, 1)])
set_option maxRecDepth 100000 in
theorem K_Mo_plansOf : mOk M_Mo_plansOf := by decide +kernel
def M_Mo_worthOf : zM := ("WindBridesModel", ⟨"WindBridesModel", "worthOf", "(II)I"⟩, prog_14_method_77_code, 6, (some .int), [
  (0, .aload_n 0, 1), (1, .getfield 9, 3), (4, .iconst 3, 1), (5, .iaload, 1), (6, .iconst 1, 1), (7, .iadd, 1),
  (8, .istore_n 3, 1), (9, .iconst 0, 1), (10, .istore 4, 2), (12, .iconst 0, 1), (13, .istore 5, 2), (15, .iload 5, 2),
  (17, .iload_n 2, 1), (18, .if_icmp .ge 28, 3), (21, .iload 4, 2), (23, .aload_n 0, 1), (24, .iload_n 1, 1), (25, .iload_n 3, 1),
  (26, .iload 5, 2), (28, .iload_n 2, 1), (29, .invokestatic 257, 3), (32, .iconst 1, 1), (33, .isub, 1), (34, .invokevirtual 227, 3),
  (37, .iadd, 1), (38, .istore 4, 2), (40, .iinc 5 1, 3), (43, .goto (-28), 3), (46, .aload_n 0, 1), (47, .aload_n 0, 1),
  (48, .invokevirtual 260, 3), (51, .putfield 263, 3), (54, .aload_n 0, 1), (55, .invokevirtual 200, 3), (58, .iload 4, 2), (60, .ireturn, 1)])
set_option maxRecDepth 100000 in
theorem K_Mo_worthOf : mOk M_Mo_worthOf := by decide +kernel
def M_Mo_digit : zM := ("WindBridesModel", ⟨"WindBridesModel", "digit", "(IIII)I"⟩, prog_14_method_76_code, 6, (some .int), [
  (0, .iload_n 0, 1), (1, .istore 4, 2), (3, .iload_n 2, 1), (4, .iconst 1, 1), (5, .iadd, 1), (6, .istore 5, 2),
  (8, .iload 5, 2), (10, .iload_n 3, 1), (11, .if_icmp .ge 15, 3), (14, .iload 4, 2), (16, .iload_n 1, 1), (17, .idiv, 1),
  (18, .istore 4, 2), (20, .iinc 5 1, 3), (23, .goto (-15), 3), (26, .iload 4, 2), (28, .iload_n 1, 1), (29, .irem, 1),
  (30, .ireturn, 1)])
set_option maxRecDepth 100000 in
theorem K_Mo_digit : mOk M_Mo_digit := by decide +kernel
def M_Mo_promised : zM := ("WindBridesModel", ⟨"WindBridesModel", "promised", "()I"⟩, prog_14_method_26_code, 3, (some .int), [
  (0, .iconst 0, 1), (1, .istore_n 1, 1), (2, .iconst 0, 1), (3, .istore_n 2, 1), (4, .iload_n 2, 1), (5, .aload_n 0, 1),
  (6, .getfield 9, 3), (9, .iconst 3, 1), (10, .iaload, 1), (11, .if_icmp .ge 28, 3), (14, .iload_n 1, 1), (15, .aload_n 0, 1),
  (16, .iload_n 2, 1), (17, .iconst 3, 1), (18, .invokevirtual 75, 3), (21, .ifCond .lt 9, 3), (24, .iconst 1, 1), (25, .iload_n 2, 1),
  (26, .ishl, 1), (27, .goto 4, 3), (30, .iconst 0, 1), (31, .ior, 1), (32, .istore_n 1, 1), (33, .iinc 2 1, 3),
  (36, .goto (-32), 3), (39, .iload_n 1, 1), (40, .ireturn, 1)])
set_option maxRecDepth 100000 in
theorem K_Mo_promised : mOk M_Mo_promised := by decide +kernel
def M_Mo_ith : zM := ("WindBridesModel", ⟨"WindBridesModel", "ith", "(II)I"⟩, prog_14_method_80_code, 4, (some .int), [
  (0, .iload_n 1, 1), (1, .iconst 0, 1), (2, .iconst 4, 1), (3, .invokestatic 67, 3), (6, .ifCond .eq 12, 3), (9, .iload_n 2, 1),
  (10, .iconst 0, 1), (11, .iconst 3, 1), (12, .invokestatic 67, 3), (15, .ifCond .ne 5, 3), (18, .iconst (-1), 1), (19, .ireturn, 1),
  (20, .aload_n 0, 1), (21, .iload_n 1, 1), (22, .invokevirtual 254, 3), (25, .istore_n 3, 1), (26, .iload_n 2, 1), (27, .iload_n 3, 1),
  (28, .if_icmp .lt 6, 3), (31, .bipush (-3), 2), (33, .ireturn, 1), (34, .aload_n 0, 1), (35, .iload_n 1, 1), (36, .invokevirtual 281, 3),
  (39, .aload_n 0, 1), (40, .getfield 278, 3), (43, .aload_n 0, 1), (44, .getfield 9, 3), (47, .iconst 3, 1), (48, .iaload, 1),
  (49, .iconst 1, 1), (50, .iadd, 1), (51, .iload_n 2, 1), (52, .iload_n 3, 1), (53, .invokestatic 257, 3), (56, .ireturn, 1)])
set_option maxRecDepth 100000 in
theorem K_Mo_ith : mOk M_Mo_ith := by decide +kernel
def M_Mo_ways : zM := ("WindBridesModel", ⟨"WindBridesModel", "ways", "(I)I"⟩, prog_14_method_81_code, 2, (some .int), [
  (0, .iload_n 1, 1), (1, .iconst 0, 1), (2, .iconst 4, 1), (3, .invokestatic 67, 3), (6, .ifCond .ne 5, 3), (9, .iconst (-1), 1),
  (10, .ireturn, 1), (11, .aload_n 0, 1), (12, .iload_n 1, 1), (13, .invokevirtual 281, 3), (16, .aload_n 0, 1), (17, .getfield 275, 3),
  (20, .ireturn, 1)])
set_option maxRecDepth 100000 in
theorem K_Mo_ways : mOk M_Mo_ways := by decide +kernel
def M_Mo_bound : zM := ("WindBridesModel", ⟨"WindBridesModel", "bound", "(II)I"⟩, prog_14_method_84_code, 9, (some .int), [
  (0, .iload_n 1, 1), (1, .iconst 0, 1), (2, .iconst 4, 1), (3, .invokestatic 67, 3), (6, .ifCond .eq 11, 3), (9, .aload_n 0, 1),
  (10, .iload_n 2, 1), (11, .invokevirtual 284, 3), (14, .ifCond .ne 5, 3), (17, .iconst (-1), 1), (18, .ireturn, 1), (19, .aload_n 0, 1),
  (20, .iload_n 1, 1), (21, .invokevirtual 254, 3), (24, .istore_n 3, 1), (25, .aload_n 0, 1), (26, .iload_n 1, 1), (27, .invokevirtual 266, 3),
  (30, .istore 4, 2), (32, .aload_n 0, 1), (33, .invokevirtual 194, 3), (36, .bipush (-3), 2), (38, .istore 5, 2), (40, .iconst 0, 1),
  (41, .istore 6, 2), (43, .iload 6, 2), (45, .iload 4, 2), (47, .if_icmp .ge 70, 3), (50, .aload_n 0, 1), (51, .iload 6, 2),
  (53, .iload_n 3, 1), (54, .invokevirtual 272, 3), (57, .pop, 1), (58, .aload_n 0, 1), (59, .iload 6, 2), (61, .iload_n 3, 1),
  (62, .invokevirtual 287, 3), (65, .istore 7, 2), (67, .iload_n 2, 1), (68, .aload_n 0, 1), (69, .getfield 263, 3), (72, .iconst (-1), 1),
  (73, .ixor, 1), (74, .iand, 1), (75, .ifCond .ne 19, 3), (78, .iload 5, 2), (80, .ifCond .lt 10, 3), (83, .iload 7, 2),
  (85, .iload 5, 2), (87, .if_icmp .ge 7, 3), (90, .iconst 1, 1), (91, .goto 4, 3), (94, .iconst 0, 1), (95, .istore 8, 2),
  (97, .iload 8, 2), (99, .ifCond .eq 8, 3), (102, .iload 7, 2), (104, .goto 5, 3), (107, .iload 5, 2), (109, .istore 5, 2),
  (111, .iinc 6 1, 3), (114, .goto (-71), 3), (117, .iload 5, 2), (119, .ireturn, 1)])
set_option maxRecDepth 100000 in
theorem K_Mo_bound : mOk M_Mo_bound := by decide +kernel
def M_Mo_isSet : zM := ("WindBridesModel", ⟨"WindBridesModel", "isSet", "(I)Z"⟩, prog_14_method_82_code, 2, (some .boolean), [
  (0, .iload_n 1, 1), (1, .iconst 0, 1), (2, .iconst 1, 1), (3, .aload_n 0, 1), (4, .getfield 9, 3), (7, .iconst 3, 1),
  (8, .iaload, 1), (9, .ishl, 1), (10, .iconst 1, 1), (11, .isub, 1), (12, .invokestatic 67, 3), (15, .ireturn, 1)])
set_option maxRecDepth 100000 in
theorem K_Mo_isSet : mOk M_Mo_isSet := by decide +kernel
def M_Mo_actsIn : zM := ("WindBridesModel", ⟨"WindBridesModel", "actsIn", "(II)I"⟩, prog_14_method_83_code, 5, (some .int), [
  (0, .iconst 0, 1), (1, .istore_n 3, 1), (2, .iconst 0, 1), (3, .istore 4, 2), (5, .iload 4, 2), (7, .iload_n 2, 1),
  (8, .if_icmp .ge 35, 3), (11, .iload_n 3, 1), (12, .iload_n 1, 1), (13, .aload_n 0, 1), (14, .getfield 9, 3), (17, .iconst 3, 1),
  (18, .iaload, 1), (19, .iconst 1, 1), (20, .iadd, 1), (21, .iload 4, 2), (23, .iload_n 2, 1), (24, .invokestatic 257, 3),
  (27, .ifCond .le 7, 3), (30, .iconst 1, 1), (31, .goto 4, 3), (34, .iconst 0, 1), (35, .iadd, 1), (36, .istore_n 3, 1),
  (37, .iinc 4 1, 3), (40, .goto (-35), 3), (43, .iload_n 3, 1), (44, .ireturn, 1)])
set_option maxRecDepth 100000 in
theorem K_Mo_actsIn : mOk M_Mo_actsIn := by decide +kernel
def M_Mo_bars : zM := ("WindBridesModel", ⟨"WindBridesModel", "bars", "(II)I"⟩, prog_14_method_85_code, 8, (some .int), [
  (0, .iload_n 1, 1), (1, .iconst 0, 1), (2, .iconst 4, 1), (3, .invokestatic 67, 3), (6, .ifCond .eq 11, 3), (9, .aload_n 0, 1),
  (10, .iload_n 2, 1), (11, .invokevirtual 284, 3), (14, .ifCond .ne 5, 3), (17, .iconst (-1), 1), (18, .ireturn, 1), (19, .aload_n 0, 1),
  (20, .iload_n 1, 1), (21, .invokevirtual 254, 3), (24, .istore_n 3, 1), (25, .aload_n 0, 1), (26, .iload_n 1, 1), (27, .invokevirtual 266, 3),
  (30, .istore 4, 2), (32, .aload_n 0, 1), (33, .invokevirtual 194, 3), (36, .iconst 0, 1), (37, .istore 5, 2), (39, .iconst 0, 1),
  (40, .istore 6, 2), (42, .iload 6, 2), (44, .iload 4, 2), (46, .if_icmp .ge 26, 3), (49, .aload_n 0, 1), (50, .iload 6, 2),
  (52, .iload_n 3, 1), (53, .invokevirtual 272, 3), (56, .pop, 1), (57, .iload 5, 2), (59, .aload_n 0, 1), (60, .getfield 263, 3),
  (63, .ior, 1), (64, .istore 5, 2), (66, .iinc 6 1, 3), (69, .goto (-27), 3), (72, .iload_n 2, 1), (73, .iload 5, 2),
  (75, .iconst (-1), 1), (76, .ixor, 1), (77, .iand, 1), (78, .istore 6, 2), (80, .iconst 0, 1), (81, .istore 7, 2),
  (83, .iload 7, 2), (85, .aload_n 0, 1), (86, .getfield 9, 3), (89, .iconst 3, 1), (90, .iaload, 1), (91, .if_icmp .ge 23, 3),
  (94, .iload 6, 2), (96, .iload 7, 2), (98, .ishr, 1), (99, .iconst 1, 1), (100, .iand, 1), (101, .iconst 1, 1),
  (102, .if_icmp .ne 6, 3), (105, .iload 7, 2), (107, .ireturn, 1), (108, .iinc 7 1, 3), (111, .goto (-28), 3), (114, .bipush (-3), 2),
  (116, .ireturn, 1)])
set_option maxRecDepth 100000 in
theorem K_Mo_bars : mOk M_Mo_bars := by decide +kernel
def M_Mo_game : zM := ("WindBridesModel", ⟨"WindBridesModel", "game", "(I)I"⟩, prog_14_method_87_code, 2, (some .int), [
  (0, .iload_n 1, 1), (1, .iconst 1, 1), (2, .iconst 4, 1), (3, .invokestatic 67, 3), (6, .ifCond .eq 12, 3), (9, .aload_n 0, 1),
  (10, .iload_n 1, 1), (11, .iconst 1, 1), (12, .invokevirtual 290, 3), (15, .goto 4, 3), (18, .iconst (-1), 1), (19, .ireturn, 1)])
set_option maxRecDepth 100000 in
theorem K_Mo_game : mOk M_Mo_game := by decide +kernel
def M_Mo_gameOn : zM := ("WindBridesModel", ⟨"WindBridesModel", "gameOn", "(IZ)I"⟩, prog_14_method_86_code, 8, (some .int), [
  (0, .iload_n 1, 1), (1, .ifCond .eq 10, 3), (4, .aload_n 0, 1), (5, .invokevirtual 124, 3), (8, .ifCond .eq 5, 3), (11, .iconst 0, 1),
  (12, .ireturn, 1), (13, .iconst 0, 1), (14, .istore_n 3, 1), (15, .iload_n 3, 1), (16, .sipush 618, 3), (19, .if_icmp .ge 29, 3),
  (22, .aload_n 0, 1), (23, .getfield 32, 3), (26, .sipush 618, 3), (29, .iload_n 1, 1), (30, .iconst 1, 1), (31, .isub, 1),
  (32, .imul, 1), (33, .iload_n 3, 1), (34, .iadd, 1), (35, .aload_n 0, 1), (36, .getfield 9, 3), (39, .iload_n 3, 1),
  (40, .iaload, 1), (41, .iastore, 1), (42, .iinc 3 1, 3), (45, .goto (-30), 3), (48, .iconst 0, 1), (49, .istore_n 3, 1),
  (50, .aload_n 0, 1), (51, .getfield 9, 3), (54, .iconst 3, 1), (55, .iaload, 1), (56, .istore 4, 2), (58, .iconst 0, 1),
  (59, .istore 5, 2), (61, .iload 5, 2), (63, .iload 4, 2), (65, .if_icmp .gt 122, 3), (68, .aload_n 0, 1), (69, .iload 5, 2),
  (71, .iconst 1, 1), (72, .isub, 1), (73, .invokevirtual 227, 3), (76, .istore 6, 2), (78, .iload 6, 2), (80, .aload_n 0, 1),
  (81, .iload_n 1, 1), (82, .iconst 1, 1), (83, .isub, 1), (84, .iload_n 2, 1), (85, .ifCond .ne 7, 3), (88, .iconst 1, 1),
  (89, .goto 4, 3), (92, .iconst 0, 1), (93, .invokevirtual 290, 3), (96, .iadd, 1), (97, .istore 6, 2), (99, .iconst 0, 1),
  (100, .istore 7, 2), (102, .iload 7, 2), (104, .sipush 618, 3), (107, .if_icmp .ge 31, 3), (110, .aload_n 0, 1), (111, .getfield 9, 3),
  (114, .iload 7, 2), (116, .aload_n 0, 1), (117, .getfield 32, 3), (120, .sipush 618, 3), (123, .iload_n 1, 1), (124, .iconst 1, 1),
  (125, .isub, 1), (126, .imul, 1), (127, .iload 7, 2), (129, .iadd, 1), (130, .iaload, 1), (131, .iastore, 1),
  (132, .iinc 7 1, 3), (135, .goto (-33), 3), (138, .iload 5, 2), (140, .ifCond .eq 22, 3), (143, .iload_n 2, 1), (144, .ifCond .eq 12, 3),
  (147, .iload 6, 2), (149, .iload_n 3, 1), (150, .if_icmp .le 16, 3), (153, .goto 9, 3), (156, .iload 6, 2), (158, .iload_n 3, 1),
  (159, .if_icmp .ge 7, 3), (162, .iconst 1, 1), (163, .goto 4, 3), (166, .iconst 0, 1), (167, .istore 7, 2), (169, .iload 7, 2),
  (171, .ifCond .eq 8, 3), (174, .iload 6, 2), (176, .goto 4, 3), (179, .iload_n 3, 1), (180, .istore_n 3, 1), (181, .iinc 5 1, 3),
  (184, .goto (-123), 3), (187, .iload_n 3, 1), (188, .ireturn, 1)])
set_option maxRecDepth 100000 in
theorem K_Mo_gameOn : mOk M_Mo_gameOn := by decide +kernel
def M_Mo_play : zM := ("WindBridesModel", ⟨"WindBridesModel", "play", "(I)I"⟩, prog_14_method_88_code, 5, (some .int), [
  (0, .iload_n 1, 1), (1, .iconst 1, 1), (2, .iconst 4, 1), (3, .invokestatic 67, 3), (6, .ifCond .ne 5, 3), (9, .iconst (-1), 1),
  (10, .ireturn, 1), (11, .aload_n 0, 1), (12, .invokevirtual 124, 3), (15, .ifCond .eq 6, 3), (18, .bipush (-3), 2), (20, .ireturn, 1),
  (21, .aload_n 0, 1), (22, .iload_n 1, 1), (23, .iconst 1, 1), (24, .invokevirtual 290, 3), (27, .istore_n 2, 1), (28, .iconst 0, 1),
  (29, .istore_n 3, 1), (30, .iload_n 3, 1), (31, .aload_n 0, 1), (32, .getfield 9, 3), (35, .iconst 3, 1), (36, .iaload, 1),
  (37, .if_icmp .gt 61, 3), (40, .aload_n 0, 1), (41, .getfield 9, 3), (44, .aload_n 0, 1), (45, .getfield 35, 3), (48, .invokestatic 63, 3),
  (51, .aload_n 0, 1), (52, .iload_n 3, 1), (53, .iconst 1, 1), (54, .isub, 1), (55, .invokevirtual 227, 3), (58, .istore 4, 2),
  (60, .iload 4, 2), (62, .aload_n 0, 1), (63, .iload_n 1, 1), (64, .iconst 1, 1), (65, .isub, 1), (66, .iconst 0, 1),
  (67, .invokevirtual 290, 3), (70, .iadd, 1), (71, .istore 4, 2), (73, .aload_n 0, 1), (74, .getfield 35, 3), (77, .aload_n 0, 1),
  (78, .getfield 9, 3), (81, .invokestatic 63, 3), (84, .iload 4, 2), (86, .iload_n 2, 1), (87, .if_icmp .ne 5, 3), (90, .iload_n 3, 1),
  (91, .ireturn, 1), (92, .iinc 3 1, 3), (95, .goto (-65), 3), (98, .bipush (-3), 2), (100, .ireturn, 1)])
set_option maxRecDepth 100000 in
theorem K_Mo_play : mOk M_Mo_play := by decide +kernel
def M_Mo_report : zM := ("WindBridesModel", ⟨"WindBridesModel", "report", "(IIII)I"⟩, prog_14_method_89_code, 6, (some .int), [
  (0, .iload_n 1, 1), (1, .iconst 1, 1), (2, .iconst 5, 1), (3, .invokestatic 67, 3), (6, .ifCond .eq 34, 3), (9, .iload_n 2, 1),
  (10, .iconst 0, 1), (11, .bipush 7, 2), (13, .invokestatic 67, 3), (16, .ifCond .eq 24, 3), (19, .iload_n 3, 1), (20, .iconst 0, 1),
  (21, .bipush 99, 2), (23, .invokestatic 67, 3), (26, .ifCond .eq 14, 3), (29, .iload 4, 2), (31, .iload_n 3, 1), (32, .bipush 99, 2),
  (34, .invokestatic 67, 3), (37, .ifCond .ne 5, 3), (40, .iconst (-1), 1), (41, .ireturn, 1), (42, .aload_n 0, 1), (43, .getfield 9, 3),
  (46, .bipush 6, 2), (48, .iaload, 1), (49, .istore 5, 2), (51, .iload 5, 2), (53, .bipush 6, 2), (55, .if_icmp .ne 6, 3),
  (58, .bipush (-2), 2), (60, .ireturn, 1), (61, .aload_n 0, 1), (62, .getfield 9, 3), (65, .bipush 6, 2), (67, .dup2, 1),
  (68, .iaload, 1), (69, .iconst 1, 1), (70, .iadd, 1), (71, .iastore, 1), (72, .aload_n 0, 1), (73, .getfield 9, 3),
  (76, .bipush 62, 2), (78, .iconst 4, 1), (79, .iload 5, 2), (81, .imul, 1), (82, .iadd, 1), (83, .iload_n 1, 1),
  (84, .iastore, 1), (85, .aload_n 0, 1), (86, .getfield 9, 3), (89, .bipush 62, 2), (91, .iconst 4, 1), (92, .iload 5, 2),
  (94, .imul, 1), (95, .iadd, 1), (96, .iconst 1, 1), (97, .iadd, 1), (98, .iload_n 2, 1), (99, .iastore, 1),
  (100, .aload_n 0, 1), (101, .getfield 9, 3), (104, .bipush 62, 2), (106, .iconst 4, 1), (107, .iload 5, 2), (109, .imul, 1),
  (110, .iadd, 1), (111, .iconst 2, 1), (112, .iadd, 1), (113, .iload_n 3, 1), (114, .iastore, 1), (115, .aload_n 0, 1),
  (116, .getfield 9, 3), (119, .bipush 62, 2), (121, .iconst 4, 1), (122, .iload 5, 2), (124, .imul, 1), (125, .iadd, 1),
  (126, .iconst 3, 1), (127, .iadd, 1), (128, .iload 4, 2), (130, .iastore, 1), (131, .iload 5, 2), (133, .ireturn, 1)])
set_option maxRecDepth 100000 in
theorem K_Mo_report : mOk M_Mo_report := by decide +kernel
def M_Mo_forget : zM := ("WindBridesModel", ⟨"WindBridesModel", "forget", "()I"⟩, prog_14_method_90_code, 1, (some .int), [
  (0, .aload_n 0, 1), (1, .bipush 6, 2), (3, .iconst 0, 1), (4, .invokevirtual 103, 3), (7, .ireturn, 1)])
set_option maxRecDepth 100000 in
theorem K_Mo_forget : mOk M_Mo_forget := by decide +kernel
def M_Mo_span : zM := ("WindBridesModel", ⟨"WindBridesModel", "span", "(I)I"⟩, prog_14_method_93_code, 4, (some .int), [
  (0, .iload_n 1, 1), (1, .iconst 0, 1), (2, .iconst 2, 1), (3, .invokestatic 67, 3), (6, .ifCond .ne 5, 3), (9, .iconst (-1), 1),
  (10, .ireturn, 1), (11, .iload_n 1, 1), (12, .ifCond .le 35, 3), (15, .aload_n 0, 1), (16, .iconst (-1), 1), (17, .invokevirtual 297, 3),
  (20, .istore_n 2, 1), (21, .iload_n 2, 1), (22, .ifCond .ge 8, 3), (25, .bipush (-3), 2), (27, .goto 19, 3), (30, .iload_n 1, 1),
  (31, .iconst 1, 1), (32, .if_icmp .ne 10, 3), (35, .iload_n 2, 1), (36, .bipush 10, 2), (38, .idiv, 1), (39, .goto 7, 3),
  (42, .iload_n 2, 1), (43, .bipush 10, 2), (45, .irem, 1), (46, .ireturn, 1), (47, .iconst 0, 1), (48, .istore_n 2, 1),
  (49, .iconst 0, 1), (50, .istore_n 3, 1), (51, .iload_n 3, 1), (52, .bipush 80, 2), (54, .if_icmp .ge 40, 3), (57, .iload_n 2, 1),
  (58, .iload_n 3, 1), (59, .bipush 10, 2), (61, .irem, 1), (62, .ifCond .le 23, 3), (65, .aload_n 0, 1), (66, .iload_n 3, 1),
  (67, .bipush 10, 2), (69, .idiv, 1), (70, .iload_n 3, 1), (71, .bipush 10, 2), (73, .irem, 1), (74, .iconst (-1), 1),
  (75, .invokevirtual 294, 3), (78, .ifCond .eq 7, 3), (81, .iconst 1, 1), (82, .goto 4, 3), (85, .iconst 0, 1), (86, .iadd, 1),
  (87, .istore_n 2, 1), (88, .iinc 3 1, 3), (91, .goto (-40), 3), (94, .iload_n 2, 1), (95, .ireturn, 1)])
set_option maxRecDepth 100000 in
theorem K_Mo_span : mOk M_Mo_span := by decide +kernel
def M_Mo_strange : zM := ("WindBridesModel", ⟨"WindBridesModel", "strange", "(I)I"⟩, prog_14_method_92_code, 3, (some .int), [
  (0, .iconst 0, 1), (1, .istore_n 2, 1), (2, .iload_n 2, 1), (3, .bipush 80, 2), (5, .if_icmp .ge 34, 3), (8, .iload_n 2, 1),
  (9, .bipush 10, 2), (11, .irem, 1), (12, .ifCond .le 21, 3), (15, .aload_n 0, 1), (16, .iload_n 2, 1), (17, .bipush 10, 2),
  (19, .idiv, 1), (20, .iload_n 2, 1), (21, .bipush 10, 2), (23, .irem, 1), (24, .iload_n 1, 1), (25, .invokevirtual 294, 3),
  (28, .ifCond .eq 5, 3), (31, .iload_n 2, 1), (32, .ireturn, 1), (33, .iinc 2 1, 3), (36, .goto (-34), 3), (39, .iconst (-1), 1),
  (40, .ireturn, 1)])
set_option maxRecDepth 100000 in
theorem K_Mo_strange : mOk M_Mo_strange := by decide +kernel
def M_Mo_fits : zM := ("WindBridesModel", ⟨"WindBridesModel", "fits", "(III)Z"⟩, prog_14_method_91_code, 8, (some .boolean), [
  (0, .iconst 1, 1), (1, .istore 4, 2), (3, .iconst 0, 1), (4, .istore 5, 2), (6, .iload 5, 2), (8, .aload_n 0, 1),
  (9, .getfield 9, 3), (12, .bipush 6, 2), (14, .iaload, 1), (15, .if_icmp .ge 89, 3), (18, .bipush 62, 2), (20, .iconst 4, 1),
  (21, .iload 5, 2), (23, .imul, 1), (24, .iadd, 1), (25, .istore 6, 2), (27, .aload_n 0, 1), (28, .getfield 9, 3),
  (31, .iload 6, 2), (33, .iaload, 1), (34, .aload_n 0, 1), (35, .getfield 9, 3), (38, .iload 6, 2), (40, .iconst 1, 1),
  (41, .iadd, 1), (42, .iaload, 1), (43, .iload_n 1, 1), (44, .invokestatic 78, 3), (47, .iload_n 2, 1), (48, .iconst 3, 1),
  (49, .invokestatic 84, 3), (52, .istore 7, 2), (54, .iload 4, 2), (56, .ifCond .eq 39, 3), (59, .iload 5, 2), (61, .iload_n 3, 1),
  (62, .if_icmp .eq 29, 3), (65, .iload 7, 2), (67, .aload_n 0, 1), (68, .getfield 9, 3), (71, .iload 6, 2), (73, .iconst 2, 1),
  (74, .iadd, 1), (75, .iaload, 1), (76, .aload_n 0, 1), (77, .getfield 9, 3), (80, .iload 6, 2), (82, .iconst 3, 1),
  (83, .iadd, 1), (84, .iaload, 1), (85, .invokestatic 67, 3), (88, .ifCond .eq 7, 3), (91, .iconst 1, 1), (92, .goto 4, 3),
  (95, .iconst 0, 1), (96, .istore 4, 2), (98, .iinc 5 1, 3), (101, .goto (-95), 3), (104, .iload 4, 2), (106, .ireturn, 1)])
set_option maxRecDepth 100000 in
theorem K_Mo_fits : mOk M_Mo_fits := by decide +kernel
def M_Mo_liar : zM := ("WindBridesModel", ⟨"WindBridesModel", "liar", "()I"⟩, prog_14_method_94_code, 2, (some .int), [
  (0, .aload_n 0, 1), (1, .iconst (-1), 1), (2, .invokevirtual 297, 3), (5, .ifCond .lt 6, 3), (8, .bipush (-3), 2), (10, .ireturn, 1),
  (11, .iconst 0, 1), (12, .istore_n 1, 1), (13, .iload_n 1, 1), (14, .aload_n 0, 1), (15, .getfield 9, 3), (18, .bipush 6, 2),
  (20, .iaload, 1), (21, .if_icmp .ge 19, 3), (24, .aload_n 0, 1), (25, .iload_n 1, 1), (26, .invokevirtual 297, 3), (29, .ifCond .lt 5, 3),
  (32, .iload_n 1, 1), (33, .ireturn, 1), (34, .iinc 1 1, 3), (37, .goto (-24), 3), (40, .bipush (-3), 2), (42, .ireturn, 1)])
set_option maxRecDepth 100000 in
theorem K_Mo_liar : mOk M_Mo_liar := by decide +kernel
def M_Mo_seed : zM := ("WindBridesModel", ⟨"WindBridesModel", "seed", "(I)I"⟩, prog_14_method_95_code, 2, (some .int), [
  (0, .aload_n 0, 1), (1, .iconst 5, 1), (2, .iload_n 1, 1), (3, .invokevirtual 103, 3), (6, .ireturn, 1)])
set_option maxRecDepth 100000 in
theorem K_Mo_seed : mOk M_Mo_seed := by decide +kernel
def M_Mo_lot : zM := ("WindBridesModel", ⟨"WindBridesModel", "lot", "()I"⟩, prog_14_method_97_code, 1, (some .int), [
  (0, .aload_n 0, 1), (1, .invokevirtual 124, 3), (4, .ifCond .eq 8, 3), (7, .bipush (-4), 2), (9, .goto 7, 3), (12, .aload_n 0, 1),
  (13, .invokevirtual 301, 3), (16, .ireturn, 1)])
set_option maxRecDepth 100000 in
theorem K_Mo_lot : mOk M_Mo_lot := by decide +kernel
def M_Mo_byLot : zM := ("WindBridesModel", ⟨"WindBridesModel", "byLot", "()I"⟩, prog_14_method_96_code, 1, (some .int), [
  (0, .aload_n 0, 1), (1, .getfield 9, 3), (4, .iconst 5, 1), (5, .aload_n 0, 1), (6, .getfield 9, 3), (9, .iconst 5, 1),
  (10, .iaload, 1), (11, .ldc_w 300, 3), (14, .imul, 1), (15, .sipush 12345, 3), (18, .iadd, 1), (19, .iastore, 1),
  (20, .aload_n 0, 1), (21, .aload_n 0, 1), (22, .getfield 9, 3), (25, .iconst 5, 1), (26, .iaload, 1), (27, .bipush 16, 2),
  (29, .iushr, 1), (30, .aload_n 0, 1), (31, .getfield 9, 3), (34, .iconst 3, 1), (35, .iaload, 1), (36, .iconst 1, 1),
  (37, .iadd, 1), (38, .irem, 1), (39, .iconst 1, 1), (40, .isub, 1), (41, .invokevirtual 227, 3), (44, .ireturn, 1)])
set_option maxRecDepth 100000 in
theorem K_Mo_byLot : mOk M_Mo_byLot := by decide +kernel
def M_Mo_often : zM := ("WindBridesModel", ⟨"WindBridesModel", "often", "(II)I"⟩, prog_14_method_98_code, 7, (some .int), [
  (0, .iload_n 1, 1), (1, .iconst 1, 1), (2, .bipush 40, 2), (4, .invokestatic 67, 3), (7, .ifCond .eq 14, 3), (10, .iload_n 2, 1),
  (11, .iconst 0, 1), (12, .sipush 999, 3), (15, .invokestatic 67, 3), (18, .ifCond .ne 5, 3), (21, .iconst (-1), 1), (22, .ireturn, 1),
  (23, .aload_n 0, 1), (24, .invokevirtual 194, 3), (27, .iconst 0, 1), (28, .istore_n 3, 1), (29, .iconst 0, 1), (30, .istore 4, 2),
  (32, .iload 4, 2), (34, .iload_n 1, 1), (35, .if_icmp .ge 65, 3), (38, .iconst 0, 1), (39, .istore 5, 2), (41, .aload_n 0, 1),
  (42, .invokevirtual 124, 3), (45, .ifCond .ne 15, 3), (48, .iload 5, 2), (50, .aload_n 0, 1), (51, .invokevirtual 301, 3), (54, .iadd, 1),
  (55, .istore 5, 2), (57, .goto (-16), 3), (60, .aload_n 0, 1), (61, .getfield 9, 3), (64, .iconst 5, 1), (65, .iaload, 1),
  (66, .istore 6, 2), (68, .aload_n 0, 1), (69, .invokevirtual 200, 3), (72, .aload_n 0, 1), (73, .getfield 9, 3), (76, .iconst 5, 1),
  (77, .iload 6, 2), (79, .iastore, 1), (80, .iload_n 3, 1), (81, .iload 5, 2), (83, .iload_n 2, 1), (84, .if_icmp .lt 7, 3),
  (87, .iconst 1, 1), (88, .goto 4, 3), (91, .iconst 0, 1), (92, .iadd, 1), (93, .istore_n 3, 1), (94, .iinc 4 1, 3),
  (97, .goto (-65), 3), (100, .aload_n 0, 1), (101, .invokevirtual 200, 3), (104, .iload_n 3, 1), (105, .ireturn, 1)])
set_option maxRecDepth 100000 in
theorem K_Mo_often : mOk M_Mo_often := by decide +kernel
def M_Mo_prove : zM := ("WindBridesModel", ⟨"WindBridesModel", "prove", "(I)I"⟩, prog_14_method_99_code, 4, (some .int), [
  (0, .iload_n 1, 1), (1, .iconst 0, 1), (2, .iconst 4, 1), (3, .invokestatic 67, 3), (6, .ifCond .ne 5, 3), (9, .iconst (-1), 1),
  (10, .ireturn, 1), (11, .aload_n 0, 1), (12, .iload_n 1, 1), (13, .invokevirtual 254, 3), (16, .istore_n 2, 1), (17, .aload_n 0, 1),
  (18, .iload_n 1, 1), (19, .invokevirtual 281, 3), (22, .aload_n 0, 1), (23, .invokevirtual 194, 3), (26, .iconst 0, 1), (27, .istore_n 3, 1),
  (28, .iload_n 3, 1), (29, .iload_n 2, 1), (30, .if_icmp .ge 72, 3), (33, .aload_n 0, 1), (34, .getfield 38, 3), (37, .iconst 3, 1),
  (38, .iload_n 3, 1), (39, .imul, 1), (40, .aload_n 0, 1), (41, .getfield 278, 3), (44, .aload_n 0, 1), (45, .getfield 16, 3),
  (48, .iconst 3, 1), (49, .iaload, 1), (50, .iconst 1, 1), (51, .iadd, 1), (52, .iload_n 3, 1), (53, .iload_n 2, 1),
  (54, .invokestatic 257, 3), (57, .iastore, 1), (58, .aload_n 0, 1), (59, .getfield 38, 3), (62, .iconst 3, 1), (63, .iload_n 3, 1),
  (64, .imul, 1), (65, .iconst 1, 1), (66, .iadd, 1), (67, .aload_n 0, 1), (68, .aload_n 0, 1), (69, .getfield 38, 3),
  (72, .iconst 3, 1), (73, .iload_n 3, 1), (74, .imul, 1), (75, .iaload, 1), (76, .iconst 1, 1), (77, .isub, 1),
  (78, .invokevirtual 227, 3), (81, .iastore, 1), (82, .aload_n 0, 1), (83, .getfield 38, 3), (86, .iconst 3, 1), (87, .iload_n 3, 1),
  (88, .imul, 1), (89, .iconst 2, 1), (90, .iadd, 1), (91, .aload_n 0, 1), (92, .invokevirtual 260, 3), (95, .iastore, 1),
  (96, .iinc 3 1, 3), (99, .goto (-71), 3), (102, .aload_n 0, 1), (103, .invokevirtual 200, 3), (106, .aload_n 0, 1), (107, .iload_n 2, 1),
  (108, .putfield 304, 3), (111, .aload_n 0, 1), (112, .getfield 304, 3), (115, .ireturn, 1)])
set_option maxRecDepth 100000 in
theorem K_Mo_prove : mOk M_Mo_prove := by decide +kernel
def M_Mo_row : zM := ("WindBridesModel", ⟨"WindBridesModel", "row", "(II)I"⟩, prog_14_method_101_code, 3, (some .int), [
  (0, .aload_n 0, 1), (1, .iload_n 1, 1), (2, .iload_n 2, 1), (3, .invokevirtual 307, 3), (6, .ifCond .eq 16, 3), (9, .aload_n 0, 1),
  (10, .getfield 38, 3), (13, .iconst 3, 1), (14, .iload_n 1, 1), (15, .imul, 1), (16, .iload_n 2, 1), (17, .iadd, 1),
  (18, .iaload, 1), (19, .goto 5, 3), (22, .bipush (-9), 2), (24, .ireturn, 1)])
set_option maxRecDepth 100000 in
theorem K_Mo_row : mOk M_Mo_row := by decide +kernel
def M_Mo_isRow : zM := ("WindBridesModel", ⟨"WindBridesModel", "isRow", "(II)Z"⟩, prog_14_method_100_code, 3, (some .boolean), [
  (0, .iload_n 1, 1), (1, .iconst 0, 1), (2, .aload_n 0, 1), (3, .getfield 304, 3), (6, .iconst 1, 1), (7, .isub, 1),
  (8, .invokestatic 67, 3), (11, .ifCond .eq 16, 3), (14, .iload_n 2, 1), (15, .iconst 0, 1), (16, .iconst 2, 1), (17, .invokestatic 67, 3),
  (20, .ifCond .eq 7, 3), (23, .iconst 1, 1), (24, .goto 4, 3), (27, .iconst 0, 1), (28, .ireturn, 1)])
set_option maxRecDepth 100000 in
theorem K_Mo_isRow : mOk M_Mo_isRow := by decide +kernel
def M_Mo_alterRow : zM := ("WindBridesModel", ⟨"WindBridesModel", "alterRow", "(III)I"⟩, prog_14_method_102_code, 5, (some .int), [
  (0, .aload_n 0, 1), (1, .iload_n 1, 1), (2, .iload_n 2, 1), (3, .invokevirtual 307, 3), (6, .ifCond .ne 6, 3), (9, .bipush (-9), 2),
  (11, .ireturn, 1), (12, .aload_n 0, 1), (13, .getfield 38, 3), (16, .iconst 3, 1), (17, .iload_n 1, 1), (18, .imul, 1),
  (19, .iload_n 2, 1), (20, .iadd, 1), (21, .iaload, 1), (22, .istore 4, 2), (24, .aload_n 0, 1), (25, .getfield 38, 3),
  (28, .iconst 3, 1), (29, .iload_n 1, 1), (30, .imul, 1), (31, .iload_n 2, 1), (32, .iadd, 1), (33, .iload_n 3, 1),
  (34, .iastore, 1), (35, .iload 4, 2), (37, .ireturn, 1)])
set_option maxRecDepth 100000 in
theorem K_Mo_alterRow : mOk M_Mo_alterRow := by decide +kernel
def M_Mo_judge : zM := ("WindBridesModel", ⟨"WindBridesModel", "judge", "()I"⟩, prog_14_method_103_code, 5, (some .int), [
  (0, .aload_n 0, 1), (1, .invokevirtual 194, 3), (4, .iconst 0, 1), (5, .istore_n 1, 1), (6, .iconst 0, 1), (7, .istore_n 2, 1),
  (8, .iload_n 2, 1), (9, .aload_n 0, 1), (10, .getfield 304, 3), (13, .if_icmp .ge 125, 3), (16, .iload_n 1, 1), (17, .ifCond .ne 121, 3),
  (20, .aload_n 0, 1), (21, .getfield 38, 3), (24, .iconst 3, 1), (25, .iload_n 2, 1), (26, .imul, 1), (27, .iaload, 1),
  (28, .iconst 0, 1), (29, .aload_n 0, 1), (30, .getfield 9, 3), (33, .iconst 3, 1), (34, .iaload, 1), (35, .invokestatic 67, 3),
  (38, .ifCond .eq 14, 3), (41, .aload_n 0, 1), (42, .invokevirtual 124, 3), (45, .ifCond .ne 7, 3), (48, .iconst 1, 1), (49, .goto 4, 3),
  (52, .iconst 0, 1), (53, .istore_n 3, 1), (54, .iload_n 3, 1), (55, .ifCond .eq 20, 3), (58, .aload_n 0, 1), (59, .aload_n 0, 1),
  (60, .getfield 38, 3), (63, .iconst 3, 1), (64, .iload_n 2, 1), (65, .imul, 1), (66, .iaload, 1), (67, .iconst 1, 1),
  (68, .isub, 1), (69, .invokevirtual 227, 3), (72, .goto 4, 3), (75, .iconst 0, 1), (76, .istore 4, 2), (78, .iload_n 3, 1),
  (79, .ifCond .eq 39, 3), (82, .iload 4, 2), (84, .aload_n 0, 1), (85, .getfield 38, 3), (88, .iconst 3, 1), (89, .iload_n 2, 1),
  (90, .imul, 1), (91, .iconst 1, 1), (92, .iadd, 1), (93, .iaload, 1), (94, .if_icmp .ne 24, 3), (97, .aload_n 0, 1),
  (98, .invokevirtual 260, 3), (101, .aload_n 0, 1), (102, .getfield 38, 3), (105, .iconst 3, 1), (106, .iload_n 2, 1), (107, .imul, 1),
  (108, .iconst 2, 1), (109, .iadd, 1), (110, .iaload, 1), (111, .if_icmp .ne 7, 3), (114, .iconst 1, 1), (115, .goto 4, 3),
  (118, .iconst 0, 1), (119, .istore_n 3, 1), (120, .iload_n 3, 1), (121, .ifCond .eq 7, 3), (124, .iconst 0, 1), (125, .goto 6, 3),
  (128, .iconst 1, 1), (129, .iload_n 2, 1), (130, .iadd, 1), (131, .istore_n 1, 1), (132, .iinc 2 1, 3), (135, .goto (-127), 3),
  (138, .aload_n 0, 1), (139, .invokevirtual 200, 3), (142, .iload_n 1, 1), (143, .ireturn, 1)])
set_option maxRecDepth 100000 in
theorem K_Mo_judge : mOk M_Mo_judge := by decide +kernel
def M_Mo_sheet : zM := ("WindBridesModel", ⟨"WindBridesModel", "sheet", "(III)I"⟩, prog_14_method_105_code, 5, (some .int), [
  (0, .iload_n 1, 1), (1, .invokestatic 310, 3), (4, .ifCond .eq 22, 3), (7, .iload_n 2, 1), (8, .iconst (-1), 1), (9, .iconst 4, 1),
  (10, .invokestatic 67, 3), (13, .ifCond .eq 13, 3), (16, .iload_n 2, 1), (17, .ifCond .lt 11, 3), (20, .iload_n 3, 1), (21, .bipush 40, 2),
  (23, .if_icmp .le 5, 3), (26, .iconst (-1), 1), (27, .ireturn, 1), (28, .iload_n 2, 1), (29, .ifCond .lt 10, 3), (32, .iload_n 3, 1),
  (33, .ifCond .ge 6, 3), (36, .bipush (-14), 2), (38, .ireturn, 1), (39, .aload_n 0, 1), (40, .getfield 41, 3), (43, .iload_n 1, 1),
  (44, .iload_n 2, 1), (45, .iastore, 1), (46, .aload_n 0, 1), (47, .getfield 44, 3), (50, .iload_n 1, 1), (51, .iload_n 2, 1),
  (52, .ifCond .ge 7, 3), (55, .iconst 0, 1), (56, .goto 4, 3), (59, .iload_n 3, 1), (60, .iastore, 1), (61, .iconst 0, 1),
  (62, .istore 4, 2), (64, .iload 4, 2), (66, .bipush 40, 2), (68, .if_icmp .ge 22, 3), (71, .aload_n 0, 1), (72, .getfield 47, 3),
  (75, .bipush 40, 2), (77, .iload_n 1, 1), (78, .imul, 1), (79, .iload 4, 2), (81, .iadd, 1), (82, .lconst 0, 1),
  (83, .lastore, 1), (84, .iinc 4 1, 3), (87, .goto (-23), 3), (90, .iconst 1, 1), (91, .ireturn, 1)])
set_option maxRecDepth 100000 in
theorem K_Mo_sheet : mOk M_Mo_sheet := by decide +kernel
def M_Mo_isFour : zM := ("WindBridesModel", ⟨"WindBridesModel", "isFour", "(I)Z"⟩, prog_14_method_104_code, 1, (some .boolean), [
  (0, .iload_n 0, 1), (1, .iconst 0, 1), (2, .iconst 3, 1), (3, .invokestatic 67, 3), (6, .ireturn, 1)])
set_option maxRecDepth 100000 in
theorem K_Mo_isFour : mOk M_Mo_isFour := by decide +kernel
def M_Mo_write : zM := ("WindBridesModel", ⟨"WindBridesModel", "write", "(III)I"⟩, prog_14_method_106_code, 5, (some .int), [
  (0, .iload_n 1, 1), (1, .invokestatic 310, 3), (4, .ifCond .ne 5, 3), (7, .iconst (-1), 1), (8, .ireturn, 1), (9, .aload_n 0, 1),
  (10, .getfield 41, 3), (13, .iload_n 1, 1), (14, .iaload, 1), (15, .ifCond .ge 6, 3), (18, .bipush (-11), 2), (20, .ireturn, 1),
  (21, .iload_n 2, 1), (22, .iconst 0, 1), (23, .aload_n 0, 1), (24, .getfield 44, 3), (27, .iload_n 1, 1), (28, .iaload, 1),
  (29, .iconst 1, 1), (30, .isub, 1), (31, .invokestatic 67, 3), (34, .ifCond .ne 6, 3), (37, .bipush (-12), 2), (39, .ireturn, 1),
  (40, .aload_n 0, 1), (41, .getfield 41, 3), (44, .iload_n 1, 1), (45, .iaload, 1), (46, .istore 4, 2), (48, .aload_n 0, 1),
  (49, .getfield 47, 3), (52, .bipush 40, 2), (54, .iload_n 1, 1), (55, .imul, 1), (56, .iload_n 2, 1), (57, .iadd, 1),
  (58, .iload 4, 2), (60, .ifCond .ne 9, 3), (63, .iload_n 3, 1), (64, .i2b, 1), (65, .i2l, 1), (66, .goto 35, 3),
  (69, .iload 4, 2), (71, .iconst 1, 1), (72, .if_icmp .ne 9, 3), (75, .iload_n 3, 1), (76, .i2s, 1), (77, .i2l, 1),
  (78, .goto 23, 3), (81, .iload 4, 2), (83, .iconst 4, 1), (84, .if_icmp .ne 15, 3), (87, .iload_n 3, 1), (88, .ifCond .eq 7, 3),
  (91, .lconst 1, 1), (92, .goto 9, 3), (95, .lconst 0, 1), (96, .goto 5, 3), (99, .iload_n 3, 1), (100, .i2l, 1),
  (101, .lastore, 1), (102, .iconst 1, 1), (103, .ireturn, 1)])
set_option maxRecDepth 100000 in
theorem K_Mo_write : mOk M_Mo_write := by decide +kernel
def M_Mo_item : zM := ("WindBridesModel", ⟨"WindBridesModel", "item", "(III)I"⟩, prog_14_method_107_code, 4, (some .int), [
  (0, .iload_n 1, 1), (1, .invokestatic 310, 3), (4, .ifCond .eq 12, 3), (7, .iload_n 2, 1), (8, .iconst 0, 1), (9, .iconst 4, 1),
  (10, .invokestatic 67, 3), (13, .ifCond .ne 5, 3), (16, .iconst (-1), 1), (17, .ireturn, 1), (18, .aload_n 0, 1), (19, .getfield 41, 3),
  (22, .iload_n 1, 1), (23, .iaload, 1), (24, .ifCond .ge 6, 3), (27, .bipush (-11), 2), (29, .ireturn, 1), (30, .aload_n 0, 1),
  (31, .getfield 41, 3), (34, .iload_n 1, 1), (35, .iaload, 1), (36, .iload_n 2, 1), (37, .if_icmp .eq 6, 3), (40, .bipush (-13), 2),
  (42, .ireturn, 1), (43, .iload_n 3, 1), (44, .iconst 0, 1), (45, .aload_n 0, 1), (46, .getfield 44, 3), (49, .iload_n 1, 1),
  (50, .iaload, 1), (51, .iconst 1, 1), (52, .isub, 1), (53, .invokestatic 67, 3), (56, .ifCond .eq 18, 3), (59, .aload_n 0, 1),
  (60, .getfield 47, 3), (63, .bipush 40, 2), (65, .iload_n 1, 1), (66, .imul, 1), (67, .iload_n 3, 1), (68, .iadd, 1),
  (69, .laload, 1), (70, .l2i, 1), (71, .goto 5, 3), (74, .bipush (-12), 2), (76, .ireturn, 1)])
set_option maxRecDepth 100000 in
theorem K_Mo_item : mOk M_Mo_item := by decide +kernel
def M_Mo_goAll : zM := ("WindBridesModel", ⟨"WindBridesModel", "goAll", "(III)I"⟩, prog_14_method_110_code, 8, (some .int), [
  (0, .aload_n 0, 1), (1, .iload_n 1, 1), (2, .iload_n 3, 1), (3, .invokevirtual 313, 3), (6, .istore 4, 2), (8, .iload 4, 2),
  (10, .ifCond .eq 6, 3), (13, .iload 4, 2), (15, .ireturn, 1), (16, .iconst 0, 1), (17, .istore 5, 2), (19, .iconst 0, 1),
  (20, .istore 6, 2), (22, .iload 6, 2), (24, .iload_n 3, 1), (25, .if_icmp .ge 82, 3), (28, .aload_n 0, 1), (29, .iload_n 1, 1),
  (30, .iload_n 2, 1), (31, .i2l, 1), (32, .iload 6, 2), (34, .i2l, 1), (35, .ladd, 1), (36, .invokevirtual 316, 3),
  (39, .ifCond .ne 6, 3), (42, .bipush (-12), 2), (44, .ireturn, 1), (45, .aload_n 0, 1), (46, .getfield 47, 3), (49, .bipush 40, 2),
  (51, .iload_n 1, 1), (52, .imul, 1), (53, .iload_n 2, 1), (54, .iadd, 1), (55, .iload 6, 2), (57, .iadd, 1),
  (58, .laload, 1), (59, .l2i, 1), (60, .istore 7, 2), (62, .iload 5, 2), (64, .iload 7, 2), (66, .iconst 0, 1),
  (67, .aload_n 0, 1), (68, .getfield 9, 3), (71, .iconst 3, 1), (72, .iaload, 1), (73, .invokestatic 67, 3), (76, .ifCond .eq 21, 3),
  (79, .aload_n 0, 1), (80, .invokevirtual 124, 3), (83, .ifCond .ne 14, 3), (86, .aload_n 0, 1), (87, .iload 7, 2), (89, .iconst 1, 1),
  (90, .isub, 1), (91, .invokevirtual 227, 3), (94, .goto 4, 3), (97, .iconst 0, 1), (98, .iadd, 1), (99, .istore 5, 2),
  (101, .iinc 6 1, 3), (104, .goto (-82), 3), (107, .iload 5, 2), (109, .ireturn, 1)])
set_option maxRecDepth 100000 in
theorem K_Mo_goAll : mOk M_Mo_goAll := by decide +kernel
def M_Mo_notActs : zM := ("WindBridesModel", ⟨"WindBridesModel", "notActs", "(II)I"⟩, prog_14_method_108_code, 3, (some .int), [
  (0, .iload_n 1, 1), (1, .invokestatic 310, 3), (4, .ifCond .eq 13, 3), (7, .iload_n 2, 1), (8, .iconst 0, 1), (9, .bipush 20, 2),
  (11, .invokestatic 67, 3), (14, .ifCond .ne 5, 3), (17, .iconst (-1), 1), (18, .ireturn, 1), (19, .aload_n 0, 1), (20, .getfield 41, 3),
  (23, .iload_n 1, 1), (24, .iaload, 1), (25, .ifCond .ge 8, 3), (28, .bipush (-11), 2), (30, .goto 18, 3), (33, .aload_n 0, 1),
  (34, .getfield 41, 3), (37, .iload_n 1, 1), (38, .iaload, 1), (39, .ifCond .ne 7, 3), (42, .iconst 0, 1), (43, .goto 5, 3),
  (46, .bipush (-13), 2), (48, .ireturn, 1)])
set_option maxRecDepth 100000 in
theorem K_Mo_notActs : mOk M_Mo_notActs := by decide +kernel
def M_Mo_isPlace : zM := ("WindBridesModel", ⟨"WindBridesModel", "isPlace", "(IJ)Z"⟩, prog_14_method_109_code, 4, (some .boolean), [
  (0, .lload_n 2, 1), (1, .lconst 0, 1), (2, .lcmp, 1), (3, .ifCond .lt 19, 3), (6, .lload_n 2, 1), (7, .aload_n 0, 1),
  (8, .getfield 44, 3), (11, .iload_n 1, 1), (12, .iaload, 1), (13, .i2l, 1), (14, .lcmp, 1), (15, .ifCond .ge 7, 3),
  (18, .iconst 1, 1), (19, .goto 4, 3), (22, .iconst 0, 1), (23, .ireturn, 1)])
set_option maxRecDepth 100000 in
theorem K_Mo_isPlace : mOk M_Mo_isPlace := by decide +kernel
def M_Mo_wouldBe : zM := ("WindBridesModel", ⟨"WindBridesModel", "wouldBe", "(III)I"⟩, prog_14_method_111_code, 9, (some .int), [
  (0, .aload_n 0, 1), (1, .iload_n 1, 1), (2, .iload_n 3, 1), (3, .invokevirtual 313, 3), (6, .istore 4, 2), (8, .iload 4, 2),
  (10, .ifCond .eq 6, 3), (13, .iload 4, 2), (15, .ireturn, 1), (16, .aload_n 0, 1), (17, .invokevirtual 194, 3), (20, .iconst 0, 1),
  (21, .istore 5, 2), (23, .iconst 0, 1), (24, .istore 6, 2), (26, .iload 6, 2), (28, .iload_n 3, 1), (29, .if_icmp .ge 115, 3),
  (32, .iload 4, 2), (34, .ifCond .ne 110, 3), (37, .aload_n 0, 1), (38, .iload_n 1, 1), (39, .iload_n 2, 1), (40, .i2l, 1),
  (41, .iload 6, 2), (43, .i2l, 1), (44, .ladd, 1), (45, .invokevirtual 316, 3), (48, .istore 7, 2), (50, .iload 7, 2),
  (52, .ifCond .eq 21, 3), (55, .aload_n 0, 1), (56, .getfield 47, 3), (59, .bipush 40, 2), (61, .iload_n 1, 1), (62, .imul, 1),
  (63, .iload_n 2, 1), (64, .iadd, 1), (65, .iload 6, 2), (67, .iadd, 1), (68, .laload, 1), (69, .l2i, 1),
  (70, .goto 4, 3), (73, .iconst 0, 1), (74, .istore 8, 2), (76, .iload 7, 2), (78, .ifCond .ne 8, 3), (81, .bipush (-12), 2),
  (83, .goto 31, 3), (86, .aload_n 0, 1), (87, .invokevirtual 124, 3), (90, .ifCond .ne 18, 3), (93, .iload 8, 2), (95, .iconst 0, 1),
  (96, .aload_n 0, 1), (97, .getfield 9, 3), (100, .iconst 3, 1), (101, .iaload, 1), (102, .invokestatic 67, 3), (105, .ifCond .ne 8, 3),
  (108, .bipush (-4), 2), (110, .goto 4, 3), (113, .iconst 0, 1), (114, .istore 4, 2), (116, .iload 5, 2), (118, .iload 4, 2),
  (120, .ifCond .ne 14, 3), (123, .aload_n 0, 1), (124, .iload 8, 2), (126, .iconst 1, 1), (127, .isub, 1), (128, .invokevirtual 227, 3),
  (131, .goto 4, 3), (134, .iconst 0, 1), (135, .iadd, 1), (136, .istore 5, 2), (138, .iinc 6 1, 3), (141, .goto (-115), 3),
  (144, .aload_n 0, 1), (145, .invokevirtual 200, 3), (148, .iload 4, 2), (150, .ifCond .ne 8, 3), (153, .iload 5, 2), (155, .goto 5, 3),
  (158, .iload 4, 2), (160, .ireturn, 1)])
set_option maxRecDepth 100000 in
theorem K_Mo_wouldBe : mOk M_Mo_wouldBe := by decide +kernel
def M_Mo_shelf : zM := ("WindBridesModel", ⟨"WindBridesModel", "shelf", "(III)I"⟩, prog_14_method_112_code, 5, (some .int), [
  (0, .iload_n 1, 1), (1, .invokestatic 310, 3), (4, .ifCond .eq 36, 3), (7, .iload_n 2, 1), (8, .iconst 0, 1), (9, .iconst 2, 1),
  (10, .invokestatic 67, 3), (13, .ifCond .eq 27, 3), (16, .iload_n 2, 1), (17, .ifCond .ne 11, 3), (20, .aload_n 0, 1), (21, .iload_n 3, 1),
  (22, .invokevirtual 92, 3), (25, .ifCond .eq 15, 3), (28, .iload_n 2, 1), (29, .iconst 1, 1), (30, .if_icmp .ne 12, 3), (33, .iload_n 3, 1),
  (34, .invokestatic 310, 3), (37, .ifCond .ne 5, 3), (40, .iconst (-1), 1), (41, .ireturn, 1), (42, .iload_n 2, 1), (43, .iconst 1, 1),
  (44, .if_icmp .ne 16, 3), (47, .aload_n 0, 1), (48, .getfield 41, 3), (51, .iload_n 3, 1), (52, .iaload, 1), (53, .ifCond .lt 7, 3),
  (56, .iconst 1, 1), (57, .goto 4, 3), (60, .iconst 0, 1), (61, .istore 4, 2), (63, .aload_n 0, 1), (64, .getfield 51, 3),
  (67, .iload_n 1, 1), (68, .iload_n 2, 1), (69, .iconst 1, 1), (70, .if_icmp .ne 12, 3), (73, .iload 4, 2), (75, .ifCond .ne 7, 3),
  (78, .iconst 2, 1), (79, .goto 4, 3), (82, .iload_n 2, 1), (83, .iastore, 1), (84, .aload_n 0, 1), (85, .getfield 54, 3),
  (88, .iload_n 1, 1), (89, .iload 4, 2), (91, .ifCond .eq 12, 3), (94, .aload_n 0, 1), (95, .getfield 41, 3), (98, .iload_n 3, 1),
  (99, .iaload, 1), (100, .goto 4, 3), (103, .iload_n 3, 1), (104, .iastore, 1), (105, .aload_n 0, 1), (106, .getfield 57, 3),
  (109, .iload_n 1, 1), (110, .iload 4, 2), (112, .ifCond .eq 12, 3), (115, .aload_n 0, 1), (116, .getfield 44, 3), (119, .iload_n 3, 1),
  (120, .iaload, 1), (121, .goto 4, 3), (124, .iconst 0, 1), (125, .iastore, 1), (126, .iconst 1, 1), (127, .ireturn, 1)])
set_option maxRecDepth 100000 in
theorem K_Mo_shelf : mOk M_Mo_shelf := by decide +kernel
def M_Mo_taken : zM := ("WindBridesModel", ⟨"WindBridesModel", "taken", "(II)I"⟩, prog_14_method_114_code, 3, (some .int), [
  (0, .iload_n 1, 1), (1, .invokestatic 310, 3), (4, .ifCond .eq 23, 3), (7, .iload_n 2, 1), (8, .iconst 0, 1), (9, .iconst 5, 1),
  (10, .invokestatic 67, 3), (13, .ifCond .ne 16, 3), (16, .iload_n 2, 1), (17, .bipush 10, 2), (19, .bipush 14, 2), (21, .invokestatic 67, 3),
  (24, .ifCond .ne 5, 3), (27, .iconst (-1), 1), (28, .ireturn, 1), (29, .aload_n 0, 1), (30, .iload_n 1, 1), (31, .invokevirtual 320, 3),
  (34, .ifCond .eq 39, 3), (37, .iload_n 2, 1), (38, .bipush 6, 2), (40, .if_icmp .ge 30, 3), (43, .aload_n 0, 1), (44, .aload_n 0, 1),
  (45, .getfield 54, 3), (48, .iload_n 1, 1), (49, .iaload, 1), (50, .iconst 0, 1), (51, .invokevirtual 75, 3), (54, .iload_n 2, 1),
  (55, .invokestatic 209, 3), (58, .ifCond .eq 12, 3), (61, .aload_n 0, 1), (62, .getfield 54, 3), (65, .iload_n 1, 1), (66, .iaload, 1),
  (67, .goto 5, 3), (70, .bipush (-13), 2), (72, .ireturn, 1), (73, .aload_n 0, 1), (74, .getfield 51, 3), (77, .iload_n 1, 1),
  (78, .iaload, 1), (79, .iconst 1, 1), (80, .if_icmp .eq 6, 3), (83, .bipush (-11), 2), (85, .ireturn, 1), (86, .iload_n 2, 1),
  (87, .bipush 10, 2), (89, .aload_n 0, 1), (90, .getfield 54, 3), (93, .iload_n 1, 1), (94, .iaload, 1), (95, .iadd, 1),
  (96, .if_icmp .ne 12, 3), (99, .aload_n 0, 1), (100, .getfield 57, 3), (103, .iload_n 1, 1), (104, .iaload, 1), (105, .goto 5, 3),
  (108, .bipush (-13), 2), (110, .ireturn, 1)])
set_option maxRecDepth 100000 in
theorem K_Mo_taken : mOk M_Mo_taken := by decide +kernel
def M_Mo_hasGirl : zM := ("WindBridesModel", ⟨"WindBridesModel", "hasGirl", "(I)Z"⟩, prog_14_method_113_code, 2, (some .boolean), [
  (0, .aload_n 0, 1), (1, .getfield 51, 3), (4, .iload_n 1, 1), (5, .iaload, 1), (6, .ifCond .ne 20, 3), (9, .aload_n 0, 1),
  (10, .aload_n 0, 1), (11, .getfield 54, 3), (14, .iload_n 1, 1), (15, .iaload, 1), (16, .invokevirtual 92, 3), (19, .ifCond .eq 7, 3),
  (22, .iconst 1, 1), (23, .goto 4, 3), (26, .iconst 0, 1), (27, .ireturn, 1)])
set_option maxRecDepth 100000 in
theorem K_Mo_hasGirl : mOk M_Mo_hasGirl := by decide +kernel
def M_Mo_act : zM := ("WindBridesModel", ⟨"WindBridesModel", "act", "(III)I"⟩, prog_14_method_125_code, 6, (some .int), [
  (0, .aload_n 0, 1), (1, .iconst 0, 1), (2, .putfield 323, 3), (5, .iload_n 1, 1), (6, .invokestatic 310, 3), (9, .ifCond .eq 20, 3),
  (12, .iload_n 2, 1), (13, .iconst 0, 1), (14, .iconst 3, 1), (15, .invokestatic 67, 3), (18, .ifCond .eq 11, 3), (21, .aload_n 0, 1),
  (22, .iload_n 1, 1), (23, .invokevirtual 320, 3), (26, .ifCond .ne 5, 3), (29, .iconst 0, 1), (30, .ireturn, 1), (31, .aload_n 0, 1),
  (32, .getfield 54, 3), (35, .iload_n 1, 1), (36, .iaload, 1), (37, .istore 4, 2), (39, .aload_n 0, 1), (40, .iconst 0, 1),
  (41, .putfield 338, 3), (44, .iload_n 2, 1), (45, .ifCond .ne 13, 3), (48, .aload_n 0, 1), (49, .iload 4, 2), (51, .iload_n 3, 1),
  (52, .invokevirtual 332, 3), (55, .goto 40, 3), (58, .iload_n 2, 1), (59, .iconst 1, 1), (60, .if_icmp .ne 13, 3), (63, .aload_n 0, 1),
  (64, .iload 4, 2), (66, .iload_n 3, 1), (67, .invokevirtual 347, 3), (70, .goto 25, 3), (73, .iload_n 2, 1), (74, .iconst 2, 1),
  (75, .if_icmp .ne 13, 3), (78, .aload_n 0, 1), (79, .iload 4, 2), (81, .iload_n 3, 1), (82, .invokevirtual 350, 3), (85, .goto 10, 3),
  (88, .aload_n 0, 1), (89, .iload 4, 2), (91, .iload_n 3, 1), (92, .invokevirtual 356, 3), (95, .istore 5, 2), (97, .aload_n 0, 1),
  (98, .getfield 338, 3), (101, .ifCond .eq 8, 3), (104, .bipush (-15), 2), (106, .goto 5, 3), (109, .iload 5, 2), (111, .ireturn, 1)])
set_option maxRecDepth 100000 in
theorem K_Mo_act : mOk M_Mo_act := by decide +kernel
def M_Mo_sails : zM := ("WindBridesModel", ⟨"WindBridesModel", "sails", "(II)I"⟩, prog_14_method_117_code, 3, (some .int), [
  (0, .aload_n 0, 1), (1, .iload_n 1, 1), (2, .iconst 0, 1), (3, .invokevirtual 75, 3), (6, .lookupswitch 56 #[(1, 26), (3, 41)], 26), (32, .aload_n 0, 1),
  (33, .bipush 20, 2), (35, .invokevirtual 326, 3), (38, .aload_n 0, 1), (39, .iload_n 1, 1), (40, .iload_n 2, 1), (41, .invokevirtual 329, 3),
  (44, .iconst 2, 1), (45, .isub, 1), (46, .ireturn, 1), (47, .aload_n 0, 1), (48, .bipush 50, 2), (50, .invokevirtual 326, 3),
  (53, .aload_n 0, 1), (54, .iload_n 1, 1), (55, .iload_n 2, 1), (56, .iconst 1, 1), (57, .iadd, 1), (58, .invokevirtual 329, 3),
  (61, .ireturn, 1), (62, .aload_n 0, 1), (63, .iload_n 1, 1), (64, .iload_n 2, 1), (65, .invokevirtual 329, 3), (68, .ireturn, 1)])
set_option maxRecDepth 100000 in
theorem K_Mo_sails : mOk M_Mo_sails := by decide +kernel
def M_Mo_begins : zM := ("WindBridesModel", ⟨"WindBridesModel", "begins", "(I)V"⟩, prog_14_method_115_code, 2, none, [
  (0, .aload_n 0, 1), (1, .getfield 323, 3), (4, .bipush 30, 2), (6, .if_icmp .ge 23, 3), (9, .aload_n 0, 1), (10, .getfield 60, 3),
  (13, .aload_n 0, 1), (14, .getfield 323, 3), (17, .iload_n 1, 1), (18, .iastore, 1), (19, .aload_n 0, 1), (20, .dup, 1),
  (21, .getfield 323, 3), (24, .iconst 1, 1), (25, .iadd, 1), (26, .putfield 323, 3), (29, .return_, 1)])
set_option maxRecDepth 100000 in
theorem K_Mo_begins : mOk M_Mo_begins := by decide +kernel
def M_Mo_plainSails : zM := ("WindBridesModel", ⟨"WindBridesModel", "plainSails", "(II)I"⟩, prog_14_method_116_code, 3, (some .int), [
  (0, .aload_n 0, 1), (1, .bipush 10, 2), (3, .invokevirtual 326, 3), (6, .iload_n 2, 1), (7, .iconst 3, 1), (8, .imul, 1),
  (9, .iload_n 1, 1), (10, .isub, 1), (11, .ireturn, 1)])
set_option maxRecDepth 100000 in
theorem K_Mo_plainSails : mOk M_Mo_plainSails := by decide +kernel
def M_Mo_calls : zM := ("WindBridesModel", ⟨"WindBridesModel", "calls", "(II)I"⟩, prog_14_method_119_code, 3, (some .int), [
  (0, .aload_n 0, 1), (1, .iload_n 1, 1), (2, .iconst 0, 1), (3, .invokevirtual 75, 3), (6, .tableswitch 60 2 5 #[30, 30, 60, 45], 30), (36, .aload_n 0, 1),
  (37, .bipush 30, 2), (39, .invokevirtual 326, 3), (42, .aload_n 0, 1), (43, .iload_n 1, 1), (44, .iload_n 2, 1), (45, .invokevirtual 335, 3),
  (48, .iload_n 1, 1), (49, .ixor, 1), (50, .ireturn, 1), (51, .aload_n 0, 1), (52, .bipush 60, 2), (54, .invokevirtual 326, 3),
  (57, .iconst 1, 1), (58, .aload_n 0, 1), (59, .iload_n 1, 1), (60, .iload_n 2, 1), (61, .invokevirtual 335, 3), (64, .isub, 1),
  (65, .ireturn, 1), (66, .aload_n 0, 1), (67, .iload_n 1, 1), (68, .iload_n 2, 1), (69, .invokevirtual 335, 3), (72, .ireturn, 1)])
set_option maxRecDepth 100000 in
theorem K_Mo_calls : mOk M_Mo_calls := by decide +kernel
def M_Mo_plainCalls : zM := ("WindBridesModel", ⟨"WindBridesModel", "plainCalls", "(II)I"⟩, prog_14_method_118_code, 3, (some .int), [
  (0, .aload_n 0, 1), (1, .bipush 11, 2), (3, .invokevirtual 326, 3), (6, .aload_n 0, 1), (7, .iload_n 1, 1), (8, .iload_n 2, 1),
  (9, .invokevirtual 332, 3), (12, .aload_n 0, 1), (13, .iload_n 1, 1), (14, .iconst 2, 1), (15, .invokevirtual 75, 3), (18, .iadd, 1),
  (19, .ireturn, 1)])
set_option maxRecDepth 100000 in
theorem K_Mo_plainCalls : mOk M_Mo_plainCalls := by decide +kernel
def M_Mo_shares : zM := ("WindBridesModel", ⟨"WindBridesModel", "shares", "(II)I"⟩, prog_14_method_122_code, 4, (some .int), [
  (0, .aload_n 0, 1), (1, .iload_n 1, 1), (2, .iconst 0, 1), (3, .invokevirtual 75, 3), (6, .lookupswitch 66 #[(4, 26), (5, 33)], 26), (32, .aload_n 0, 1),
  (33, .iload_n 1, 1), (34, .iload_n 2, 1), (35, .invokevirtual 344, 3), (38, .ireturn, 1), (39, .aload_n 0, 1), (40, .bipush 61, 2),
  (42, .invokevirtual 326, 3), (45, .aload_n 0, 1), (46, .iload_n 1, 1), (47, .iload_n 2, 1), (48, .invokevirtual 344, 3), (51, .istore_n 3, 1),
  (52, .aload_n 0, 1), (53, .getfield 338, 3), (56, .ifCond .eq 7, 3), (59, .iconst 0, 1), (60, .goto 11, 3), (63, .iload_n 3, 1),
  (64, .aload_n 0, 1), (65, .iload_n 1, 1), (66, .iload_n 1, 1), (67, .invokevirtual 332, 3), (70, .ixor, 1), (71, .ireturn, 1),
  (72, .aload_n 0, 1), (73, .iload_n 1, 1), (74, .iload_n 2, 1), (75, .invokevirtual 341, 3), (78, .ireturn, 1)])
set_option maxRecDepth 100000 in
theorem K_Mo_shares : mOk M_Mo_shares := by decide +kernel
def M_Mo_lateShares : zM := ("WindBridesModel", ⟨"WindBridesModel", "lateShares", "(II)I"⟩, prog_14_method_121_code, 3, (some .int), [
  (0, .aload_n 0, 1), (1, .bipush 40, 2), (3, .invokevirtual 326, 3), (6, .aload_n 0, 1), (7, .iload_n 1, 1), (8, .iload_n 2, 1),
  (9, .invokevirtual 341, 3), (12, .iconst 2, 1), (13, .imul, 1), (14, .ireturn, 1)])
set_option maxRecDepth 100000 in
theorem K_Mo_lateShares : mOk M_Mo_lateShares := by decide +kernel
def M_Mo_plainShares : zM := ("WindBridesModel", ⟨"WindBridesModel", "plainShares", "(II)I"⟩, prog_14_method_120_code, 4, (some .int), [
  (0, .aload_n 0, 1), (1, .bipush 12, 2), (3, .invokevirtual 326, 3), (6, .iload_n 1, 1), (7, .aload_n 0, 1), (8, .iload_n 1, 1),
  (9, .iconst 2, 1), (10, .invokevirtual 75, 3), (13, .isub, 1), (14, .istore_n 3, 1), (15, .aload_n 0, 1), (16, .iload_n 3, 1),
  (17, .ifCond .ne 7, 3), (20, .iconst 1, 1), (21, .goto 4, 3), (24, .iconst 0, 1), (25, .putfield 338, 3), (28, .aload_n 0, 1),
  (29, .getfield 338, 3), (32, .ifCond .ne 8, 3), (35, .iload_n 3, 1), (36, .iconst (-1), 1), (37, .if_icmp .ne 7, 3), (40, .iconst 0, 1),
  (41, .goto 6, 3), (44, .iload_n 2, 1), (45, .iload_n 3, 1), (46, .irem, 1), (47, .ireturn, 1)])
set_option maxRecDepth 100000 in
theorem K_Mo_plainShares : mOk M_Mo_plainShares := by decide +kernel
def M_Mo_weds : zM := ("WindBridesModel", ⟨"WindBridesModel", "weds", "(II)I"⟩, prog_14_method_124_code, 4, (some .int), [
  (0, .aload_n 0, 1), (1, .iload_n 1, 1), (2, .iconst 0, 1), (3, .invokevirtual 75, 3), (6, .iconst 3, 1), (7, .if_icmp .eq 10, 3),
  (10, .aload_n 0, 1), (11, .iload_n 1, 1), (12, .iload_n 2, 1), (13, .invokevirtual 353, 3), (16, .ireturn, 1), (17, .aload_n 0, 1),
  (18, .bipush 51, 2), (20, .invokevirtual 326, 3), (23, .aload_n 0, 1), (24, .iload_n 1, 1), (25, .iload_n 2, 1), (26, .invokevirtual 353, 3),
  (29, .istore_n 3, 1), (30, .aload_n 0, 1), (31, .getfield 338, 3), (34, .ifCond .eq 7, 3), (37, .iconst 0, 1), (38, .goto 16, 3),
  (41, .iload_n 3, 1), (42, .aload_n 0, 1), (43, .iload_n 1, 1), (44, .aload_n 0, 1), (45, .iload_n 1, 1), (46, .iconst 2, 1),
  (47, .invokevirtual 75, 3), (50, .invokevirtual 347, 3), (53, .iadd, 1), (54, .ireturn, 1)])
set_option maxRecDepth 100000 in
theorem K_Mo_weds : mOk M_Mo_weds := by decide +kernel
def M_Mo_plainWeds : zM := ("WindBridesModel", ⟨"WindBridesModel", "plainWeds", "(II)I"⟩, prog_14_method_123_code, 4, (some .int), [
  (0, .aload_n 0, 1), (1, .bipush 13, 2), (3, .invokevirtual 326, 3), (6, .aload_n 0, 1), (7, .iload_n 1, 1), (8, .iload_n 2, 1),
  (9, .invokevirtual 347, 3), (12, .istore_n 3, 1), (13, .iload_n 3, 1), (14, .aload_n 0, 1), (15, .iload_n 1, 1), (16, .iload_n 2, 1),
  (17, .invokevirtual 350, 3), (20, .isub, 1), (21, .ireturn, 1)])
set_option maxRecDepth 100000 in
theorem K_Mo_plainWeds : mOk M_Mo_plainWeds := by decide +kernel
def M_Mo_trace : zM := ("WindBridesModel", ⟨"WindBridesModel", "trace", "(I)I"⟩, prog_14_method_126_code, 2, (some .int), [
  (0, .iload_n 1, 1), (1, .iconst 0, 1), (2, .aload_n 0, 1), (3, .getfield 323, 3), (6, .iconst 1, 1), (7, .isub, 1),
  (8, .invokestatic 67, 3), (11, .ifCond .eq 12, 3), (14, .aload_n 0, 1), (15, .getfield 60, 3), (18, .iload_n 1, 1), (19, .iaload, 1),
  (20, .goto 5, 3), (23, .bipush (-3), 2), (25, .ireturn, 1)])
set_option maxRecDepth 100000 in
theorem K_Mo_trace : mOk M_Mo_trace := by decide +kernel
def M_Mo_many : zM := ("WindBridesModel", ⟨"WindBridesModel", "many", "(I)I"⟩, prog_14_method_128_code, 2, (some .int), [
  (0, .iload_n 1, 1), (1, .tableswitch 100 0 7 #[47, 54, 62, 69, 77, 82, 87, 92], 47), (48, .aload_n 0, 1), (49, .getfield 9, 3), (52, .iconst 3, 1), (53, .iaload, 1),
  (54, .ireturn, 1), (55, .aload_n 0, 1), (56, .getfield 9, 3), (59, .bipush 7, 2), (61, .iaload, 1), (62, .ireturn, 1),
  (63, .aload_n 0, 1), (64, .getfield 9, 3), (67, .iconst 2, 1), (68, .iaload, 1), (69, .ireturn, 1), (70, .aload_n 0, 1),
  (71, .getfield 9, 3), (74, .bipush 6, 2), (76, .iaload, 1), (77, .ireturn, 1), (78, .aload_n 0, 1), (79, .getfield 304, 3),
  (82, .ireturn, 1), (83, .aload_n 0, 1), (84, .getfield 128, 3), (87, .ireturn, 1), (88, .aload_n 0, 1), (89, .getfield 323, 3),
  (92, .ireturn, 1), (93, .aload_n 0, 1), (94, .invokevirtual 260, 3), (97, .invokestatic 359, 3), (100, .ireturn, 1), (101, .iconst (-1), 1),
  (102, .ireturn, 1)])
set_option maxRecDepth 100000 in
theorem K_Mo_many : mOk M_Mo_many := by decide +kernel
def M_Mo_bits : zM := ("WindBridesModel", ⟨"WindBridesModel", "bits", "(I)I"⟩, prog_14_method_127_code, 3, (some .int), [
  (0, .iconst 0, 1), (1, .istore_n 1, 1), (2, .iload_n 0, 1), (3, .istore_n 2, 1), (4, .iload_n 2, 1), (5, .ifCond .eq 15, 3),
  (8, .iinc 1 1, 3), (11, .iload_n 2, 1), (12, .iload_n 2, 1), (13, .iconst 1, 1), (14, .isub, 1), (15, .iand, 1),
  (16, .istore_n 2, 1), (17, .goto (-13), 3), (20, .iload_n 1, 1), (21, .ireturn, 1)])
set_option maxRecDepth 100000 in
theorem K_Mo_bits : mOk M_Mo_bits := by decide +kernel
def M_Mo_keep : zM := ("WindBridesModel", ⟨"WindBridesModel", "keep", "()I"⟩, prog_14_method_129_code, 1, (some .int), [
  (0, .aload_n 0, 1), (1, .getfield 9, 3), (4, .aload_n 0, 1), (5, .getfield 13, 3), (8, .invokestatic 63, 3), (11, .aload_n 0, 1),
  (12, .iconst 1, 1), (13, .putfield 362, 3), (16, .iconst 1, 1), (17, .ireturn, 1)])
set_option maxRecDepth 100000 in
theorem K_Mo_keep : mOk M_Mo_keep := by decide +kernel
def M_Mo_again : zM := ("WindBridesModel", ⟨"WindBridesModel", "again", "()I"⟩, prog_14_method_130_code, 1, (some .int), [
  (0, .aload_n 0, 1), (1, .getfield 362, 3), (4, .ifCond .ne 6, 3), (7, .bipush (-3), 2), (9, .ireturn, 1), (10, .aload_n 0, 1),
  (11, .getfield 13, 3), (14, .aload_n 0, 1), (15, .getfield 9, 3), (18, .invokestatic 63, 3), (21, .aload_n 0, 1), (22, .getfield 9, 3),
  (25, .iconst 3, 1), (26, .iaload, 1), (27, .ireturn, 1)])
set_option maxRecDepth 100000 in
theorem K_Mo_again : mOk M_Mo_again := by decide +kernel
end
section
def T_Lw_0 : List (Nat × Instr × Nat) := [
  (0, .new 7, 3), (3, .dup, 1), (4, .invokespecial 9, 3), (7, .astore_n 1, 1), (8, .new 10, 3), (11, .dup, 1),
  (12, .invokespecial 12, 3), (15, .astore_n 2, 1), (16, .iconst 0, 1), (17, .istore_n 3, 1), (18, .iload_n 3, 1), (19, .aload_n 0, 1),
  (20, .arraylength, 1), (21, .iconst 5, 1), (22, .isub, 1), (23, .if_icmp .gt 1772, 3), (26, .aload_n 0, 1), (27, .iload_n 3, 1),
  (28, .iaload, 1), (29, .bipush 63, 2), (31, .iand, 1), (32, .tableswitch 1757 0 52 #[228, 271, 304, 347, 380, 433, 466, 499, 542, 565, 578, 601, 664, 677, 690, 713, 736, 759, 782, 805, 818, 831, 854, 877, 900, 933, 956, 989, 1022, 1045, 1068, 1121, 1134, 1157, 1170, 1193, 1206, 1239, 1262, 1295, 1338, 1351, 1394, 1437, 1480, 1523, 1566, 1609, 1642, 1685, 1708, 1731, 1744], 228), (260, .aload_n 1, 1), (261, .aload_n 0, 1),
  (262, .iload_n 3, 1), (263, .iconst 1, 1), (264, .iadd, 1), (265, .iaload, 1), (266, .aload_n 0, 1), (267, .iload_n 3, 1),
  (268, .iconst 2, 1), (269, .iadd, 1), (270, .iaload, 1), (271, .aload_n 0, 1), (272, .iload_n 3, 1), (273, .iconst 3, 1),
  (274, .iadd, 1), (275, .iaload, 1), (276, .invokevirtual 13, 3), (279, .aload_n 2, 1)]
set_option maxRecDepth 100000 in
theorem K_Lw_0 : T_Lw_0.all (fun e => decide (decode code e.1 = .ok e.2)) = true := by decide +kernel
def T_Lw_1 : List (Nat × Instr × Nat) := [
  (280, .aload_n 0, 1), (281, .iload_n 3, 1), (282, .iconst 1, 1), (283, .iadd, 1), (284, .iaload, 1), (285, .aload_n 0, 1),
  (286, .iload_n 3, 1), (287, .iconst 2, 1), (288, .iadd, 1), (289, .iaload, 1), (290, .aload_n 0, 1), (291, .iload_n 3, 1),
  (292, .iconst 3, 1), (293, .iadd, 1), (294, .iaload, 1), (295, .invokevirtual 17, 3), (298, .if_icmp .eq 1491, 3), (301, .iconst 0, 1),
  (302, .ireturn, 1), (303, .aload_n 1, 1), (304, .aload_n 0, 1), (305, .iload_n 3, 1), (306, .iconst 1, 1), (307, .iadd, 1),
  (308, .iaload, 1), (309, .aload_n 0, 1), (310, .iload_n 3, 1), (311, .iconst 2, 1), (312, .iadd, 1), (313, .iaload, 1),
  (314, .invokevirtual 18, 3), (317, .aload_n 2, 1), (318, .aload_n 0, 1), (319, .iload_n 3, 1), (320, .iconst 1, 1), (321, .iadd, 1),
  (322, .iaload, 1), (323, .aload_n 0, 1), (324, .iload_n 3, 1), (325, .iconst 2, 1)]
set_option maxRecDepth 100000 in
theorem K_Lw_1 : T_Lw_1.all (fun e => decide (decode code e.1 = .ok e.2)) = true := by decide +kernel
def T_Lw_2 : List (Nat × Instr × Nat) := [
  (326, .iadd, 1), (327, .iaload, 1), (328, .invokevirtual 22, 3), (331, .if_icmp .eq 1458, 3), (334, .iconst 0, 1), (335, .ireturn, 1),
  (336, .aload_n 1, 1), (337, .aload_n 0, 1), (338, .iload_n 3, 1), (339, .iconst 1, 1), (340, .iadd, 1), (341, .iaload, 1),
  (342, .aload_n 0, 1), (343, .iload_n 3, 1), (344, .iconst 2, 1), (345, .iadd, 1), (346, .iaload, 1), (347, .aload_n 0, 1),
  (348, .iload_n 3, 1), (349, .iconst 3, 1), (350, .iadd, 1), (351, .iaload, 1), (352, .invokevirtual 23, 3), (355, .aload_n 2, 1),
  (356, .aload_n 0, 1), (357, .iload_n 3, 1), (358, .iconst 1, 1), (359, .iadd, 1), (360, .iaload, 1), (361, .aload_n 0, 1),
  (362, .iload_n 3, 1), (363, .iconst 2, 1), (364, .iadd, 1), (365, .iaload, 1), (366, .aload_n 0, 1), (367, .iload_n 3, 1),
  (368, .iconst 3, 1), (369, .iadd, 1), (370, .iaload, 1), (371, .invokevirtual 26, 3)]
set_option maxRecDepth 100000 in
theorem K_Lw_2 : T_Lw_2.all (fun e => decide (decode code e.1 = .ok e.2)) = true := by decide +kernel
def T_Lw_3 : List (Nat × Instr × Nat) := [
  (374, .if_icmp .eq 1415, 3), (377, .iconst 0, 1), (378, .ireturn, 1), (379, .aload_n 1, 1), (380, .aload_n 0, 1), (381, .iload_n 3, 1),
  (382, .iconst 1, 1), (383, .iadd, 1), (384, .iaload, 1), (385, .aload_n 0, 1), (386, .iload_n 3, 1), (387, .iconst 2, 1),
  (388, .iadd, 1), (389, .iaload, 1), (390, .invokevirtual 27, 3), (393, .aload_n 2, 1), (394, .aload_n 0, 1), (395, .iload_n 3, 1),
  (396, .iconst 1, 1), (397, .iadd, 1), (398, .iaload, 1), (399, .aload_n 0, 1), (400, .iload_n 3, 1), (401, .iconst 2, 1),
  (402, .iadd, 1), (403, .iaload, 1), (404, .invokevirtual 30, 3), (407, .if_icmp .eq 1382, 3), (410, .iconst 0, 1), (411, .ireturn, 1),
  (412, .aload_n 1, 1), (413, .aload_n 0, 1), (414, .iload_n 3, 1), (415, .iconst 1, 1), (416, .iadd, 1), (417, .iaload, 1),
  (418, .aload_n 0, 1), (419, .iload_n 3, 1), (420, .iconst 2, 1), (421, .iadd, 1)]
set_option maxRecDepth 100000 in
theorem K_Lw_3 : T_Lw_3.all (fun e => decide (decode code e.1 = .ok e.2)) = true := by decide +kernel
def T_Lw_4 : List (Nat × Instr × Nat) := [
  (422, .iaload, 1), (423, .aload_n 0, 1), (424, .iload_n 3, 1), (425, .iconst 3, 1), (426, .iadd, 1), (427, .iaload, 1),
  (428, .aload_n 0, 1), (429, .iload_n 3, 1), (430, .iconst 4, 1), (431, .iadd, 1), (432, .iaload, 1), (433, .invokevirtual 31, 3),
  (436, .aload_n 2, 1), (437, .aload_n 0, 1), (438, .iload_n 3, 1), (439, .iconst 1, 1), (440, .iadd, 1), (441, .iaload, 1),
  (442, .aload_n 0, 1), (443, .iload_n 3, 1), (444, .iconst 2, 1), (445, .iadd, 1), (446, .iaload, 1), (447, .aload_n 0, 1),
  (448, .iload_n 3, 1), (449, .iconst 3, 1), (450, .iadd, 1), (451, .iaload, 1), (452, .aload_n 0, 1), (453, .iload_n 3, 1),
  (454, .iconst 4, 1), (455, .iadd, 1), (456, .iaload, 1), (457, .invokevirtual 35, 3), (460, .if_icmp .eq 1329, 3), (463, .iconst 0, 1),
  (464, .ireturn, 1), (465, .aload_n 1, 1), (466, .aload_n 0, 1), (467, .iload_n 3, 1)]
set_option maxRecDepth 100000 in
theorem K_Lw_4 : T_Lw_4.all (fun e => decide (decode code e.1 = .ok e.2)) = true := by decide +kernel
def T_Lw_5 : List (Nat × Instr × Nat) := [
  (468, .iconst 1, 1), (469, .iadd, 1), (470, .iaload, 1), (471, .aload_n 0, 1), (472, .iload_n 3, 1), (473, .iconst 2, 1),
  (474, .iadd, 1), (475, .iaload, 1), (476, .invokevirtual 36, 3), (479, .aload_n 2, 1), (480, .aload_n 0, 1), (481, .iload_n 3, 1),
  (482, .iconst 1, 1), (483, .iadd, 1), (484, .iaload, 1), (485, .aload_n 0, 1), (486, .iload_n 3, 1), (487, .iconst 2, 1),
  (488, .iadd, 1), (489, .iaload, 1), (490, .invokevirtual 39, 3), (493, .if_icmp .eq 1296, 3), (496, .iconst 0, 1), (497, .ireturn, 1),
  (498, .aload_n 1, 1), (499, .aload_n 0, 1), (500, .iload_n 3, 1), (501, .iconst 1, 1), (502, .iadd, 1), (503, .iaload, 1),
  (504, .aload_n 0, 1), (505, .iload_n 3, 1), (506, .iconst 2, 1), (507, .iadd, 1), (508, .iaload, 1), (509, .invokevirtual 40, 3),
  (512, .aload_n 2, 1), (513, .aload_n 0, 1), (514, .iload_n 3, 1), (515, .iconst 1, 1)]
set_option maxRecDepth 100000 in
theorem K_Lw_5 : T_Lw_5.all (fun e => decide (decode code e.1 = .ok e.2)) = true := by decide +kernel
def T_Lw_6 : List (Nat × Instr × Nat) := [
  (516, .iadd, 1), (517, .iaload, 1), (518, .aload_n 0, 1), (519, .iload_n 3, 1), (520, .iconst 2, 1), (521, .iadd, 1),
  (522, .iaload, 1), (523, .invokevirtual 43, 3), (526, .if_icmp .eq 1263, 3), (529, .iconst 0, 1), (530, .ireturn, 1), (531, .aload_n 1, 1),
  (532, .aload_n 0, 1), (533, .iload_n 3, 1), (534, .iconst 1, 1), (535, .iadd, 1), (536, .iaload, 1), (537, .aload_n 0, 1),
  (538, .iload_n 3, 1), (539, .iconst 2, 1), (540, .iadd, 1), (541, .iaload, 1), (542, .aload_n 0, 1), (543, .iload_n 3, 1),
  (544, .iconst 3, 1), (545, .iadd, 1), (546, .iaload, 1), (547, .invokevirtual 44, 3), (550, .aload_n 2, 1), (551, .aload_n 0, 1),
  (552, .iload_n 3, 1), (553, .iconst 1, 1), (554, .iadd, 1), (555, .iaload, 1), (556, .aload_n 0, 1), (557, .iload_n 3, 1),
  (558, .iconst 2, 1), (559, .iadd, 1), (560, .iaload, 1), (561, .aload_n 0, 1)]
set_option maxRecDepth 100000 in
theorem K_Lw_6 : T_Lw_6.all (fun e => decide (decode code e.1 = .ok e.2)) = true := by decide +kernel
def T_Lw_7 : List (Nat × Instr × Nat) := [
  (562, .iload_n 3, 1), (563, .iconst 3, 1), (564, .iadd, 1), (565, .iaload, 1), (566, .invokevirtual 47, 3), (569, .if_icmp .eq 1220, 3),
  (572, .iconst 0, 1), (573, .ireturn, 1), (574, .aload_n 1, 1), (575, .aload_n 0, 1), (576, .iload_n 3, 1), (577, .iconst 1, 1),
  (578, .iadd, 1), (579, .iaload, 1), (580, .invokevirtual 48, 3), (583, .aload_n 2, 1), (584, .aload_n 0, 1), (585, .iload_n 3, 1),
  (586, .iconst 1, 1), (587, .iadd, 1), (588, .iaload, 1), (589, .invokevirtual 52, 3), (592, .if_icmp .eq 1197, 3), (595, .iconst 0, 1),
  (596, .ireturn, 1), (597, .aload_n 1, 1), (598, .invokevirtual 53, 3), (601, .aload_n 2, 1), (602, .invokevirtual 57, 3), (605, .if_icmp .eq 1184, 3),
  (608, .iconst 0, 1), (609, .ireturn, 1), (610, .aload_n 1, 1), (611, .aload_n 0, 1), (612, .iload_n 3, 1), (613, .iconst 1, 1),
  (614, .iadd, 1), (615, .iaload, 1), (616, .invokevirtual 58, 3), (619, .aload_n 2, 1)]
set_option maxRecDepth 100000 in
theorem K_Lw_7 : T_Lw_7.all (fun e => decide (decode code e.1 = .ok e.2)) = true := by decide +kernel
def T_Lw_8 : List (Nat × Instr × Nat) := [
  (620, .aload_n 0, 1), (621, .iload_n 3, 1), (622, .iconst 1, 1), (623, .iadd, 1), (624, .iaload, 1), (625, .invokevirtual 61, 3),
  (628, .if_icmp .eq 1161, 3), (631, .iconst 0, 1), (632, .ireturn, 1), (633, .aload_n 1, 1), (634, .aload_n 0, 1), (635, .iload_n 3, 1),
  (636, .iconst 1, 1), (637, .iadd, 1), (638, .iaload, 1), (639, .i2l, 1), (640, .bipush 32, 2), (642, .lshl, 1),
  (643, .aload_n 0, 1), (644, .iload_n 3, 1), (645, .iconst 2, 1), (646, .iadd, 1), (647, .iaload, 1), (648, .i2l, 1),
  (649, .ldc2_w 62, 3), (652, .land, 1), (653, .lor, 1), (654, .aload_n 0, 1), (655, .iload_n 3, 1), (656, .iconst 3, 1),
  (657, .iadd, 1), (658, .iaload, 1), (659, .invokevirtual 64, 3), (662, .aload_n 2, 1), (663, .aload_n 0, 1), (664, .iload_n 3, 1),
  (665, .iconst 1, 1), (666, .iadd, 1), (667, .iaload, 1), (668, .i2l, 1)]
set_option maxRecDepth 100000 in
theorem K_Lw_8 : T_Lw_8.all (fun e => decide (decode code e.1 = .ok e.2)) = true := by decide +kernel
def T_Lw_9 : List (Nat × Instr × Nat) := [
  (669, .bipush 32, 2), (671, .lshl, 1), (672, .aload_n 0, 1), (673, .iload_n 3, 1), (674, .iconst 2, 1), (675, .iadd, 1),
  (676, .iaload, 1), (677, .i2l, 1), (678, .ldc2_w 62, 3), (681, .land, 1), (682, .lor, 1), (683, .aload_n 0, 1),
  (684, .iload_n 3, 1), (685, .iconst 3, 1), (686, .iadd, 1), (687, .iaload, 1), (688, .invokevirtual 68, 3), (691, .if_icmp .eq 1098, 3),
  (694, .iconst 0, 1), (695, .ireturn, 1), (696, .aload_n 1, 1), (697, .invokevirtual 69, 3), (700, .aload_n 2, 1), (701, .invokevirtual 72, 3),
  (704, .if_icmp .eq 1085, 3), (707, .iconst 0, 1), (708, .ireturn, 1), (709, .aload_n 1, 1), (710, .invokevirtual 73, 3), (713, .aload_n 2, 1),
  (714, .invokevirtual 76, 3), (717, .if_icmp .eq 1072, 3), (720, .iconst 0, 1), (721, .ireturn, 1), (722, .aload_n 1, 1), (723, .aload_n 0, 1),
  (724, .iload_n 3, 1), (725, .iconst 1, 1), (726, .iadd, 1), (727, .iaload, 1)]
set_option maxRecDepth 100000 in
theorem K_Lw_9 : T_Lw_9.all (fun e => decide (decode code e.1 = .ok e.2)) = true := by decide +kernel
def T_Lw_10 : List (Nat × Instr × Nat) := [
  (728, .invokevirtual 77, 3), (731, .aload_n 2, 1), (732, .aload_n 0, 1), (733, .iload_n 3, 1), (734, .iconst 1, 1), (735, .iadd, 1),
  (736, .iaload, 1), (737, .invokevirtual 80, 3), (740, .if_icmp .eq 1049, 3), (743, .iconst 0, 1), (744, .ireturn, 1), (745, .aload_n 1, 1),
  (746, .aload_n 0, 1), (747, .iload_n 3, 1), (748, .iconst 1, 1), (749, .iadd, 1), (750, .iaload, 1), (751, .invokevirtual 81, 3),
  (754, .aload_n 2, 1), (755, .aload_n 0, 1), (756, .iload_n 3, 1), (757, .iconst 1, 1), (758, .iadd, 1), (759, .iaload, 1),
  (760, .invokevirtual 84, 3), (763, .if_icmp .eq 1026, 3), (766, .iconst 0, 1), (767, .ireturn, 1), (768, .aload_n 1, 1), (769, .aload_n 0, 1),
  (770, .iload_n 3, 1), (771, .iconst 1, 1), (772, .iadd, 1), (773, .iaload, 1), (774, .invokevirtual 85, 3), (777, .aload_n 2, 1),
  (778, .aload_n 0, 1), (779, .iload_n 3, 1), (780, .iconst 1, 1), (781, .iadd, 1)]
set_option maxRecDepth 100000 in
theorem K_Lw_10 : T_Lw_10.all (fun e => decide (decode code e.1 = .ok e.2)) = true := by decide +kernel
def T_Lw_11 : List (Nat × Instr × Nat) := [
  (782, .iaload, 1), (783, .invokevirtual 88, 3), (786, .if_icmp .eq 1003, 3), (789, .iconst 0, 1), (790, .ireturn, 1), (791, .aload_n 1, 1),
  (792, .aload_n 0, 1), (793, .iload_n 3, 1), (794, .iconst 1, 1), (795, .iadd, 1), (796, .iaload, 1), (797, .invokevirtual 89, 3),
  (800, .aload_n 2, 1), (801, .aload_n 0, 1), (802, .iload_n 3, 1), (803, .iconst 1, 1), (804, .iadd, 1), (805, .iaload, 1),
  (806, .invokevirtual 92, 3), (809, .if_icmp .eq 980, 3), (812, .iconst 0, 1), (813, .ireturn, 1), (814, .aload_n 1, 1), (815, .aload_n 0, 1),
  (816, .iload_n 3, 1), (817, .iconst 1, 1), (818, .iadd, 1), (819, .iaload, 1), (820, .invokevirtual 93, 3), (823, .aload_n 2, 1),
  (824, .aload_n 0, 1), (825, .iload_n 3, 1), (826, .iconst 1, 1), (827, .iadd, 1), (828, .iaload, 1), (829, .invokevirtual 96, 3),
  (832, .if_icmp .eq 957, 3), (835, .iconst 0, 1), (836, .ireturn, 1), (837, .aload_n 1, 1)]
set_option maxRecDepth 100000 in
theorem K_Lw_11 : T_Lw_11.all (fun e => decide (decode code e.1 = .ok e.2)) = true := by decide +kernel
def T_Lw_12 : List (Nat × Instr × Nat) := [
  (838, .invokevirtual 97, 3), (841, .aload_n 2, 1), (842, .invokevirtual 100, 3), (845, .if_icmp .eq 944, 3), (848, .iconst 0, 1), (849, .ireturn, 1),
  (850, .aload_n 1, 1), (851, .invokevirtual 101, 3), (854, .aload_n 2, 1), (855, .invokevirtual 104, 3), (858, .if_icmp .eq 931, 3), (861, .iconst 0, 1),
  (862, .ireturn, 1), (863, .aload_n 1, 1), (864, .aload_n 0, 1), (865, .iload_n 3, 1), (866, .iconst 1, 1), (867, .iadd, 1),
  (868, .iaload, 1), (869, .invokevirtual 105, 3), (872, .aload_n 2, 1), (873, .aload_n 0, 1), (874, .iload_n 3, 1), (875, .iconst 1, 1),
  (876, .iadd, 1), (877, .iaload, 1), (878, .invokevirtual 108, 3), (881, .if_icmp .eq 908, 3), (884, .iconst 0, 1), (885, .ireturn, 1),
  (886, .aload_n 1, 1), (887, .aload_n 0, 1), (888, .iload_n 3, 1), (889, .iconst 1, 1), (890, .iadd, 1), (891, .iaload, 1),
  (892, .invokevirtual 109, 3), (895, .aload_n 2, 1), (896, .aload_n 0, 1), (897, .iload_n 3, 1)]
set_option maxRecDepth 100000 in
theorem K_Lw_12 : T_Lw_12.all (fun e => decide (decode code e.1 = .ok e.2)) = true := by decide +kernel
def T_Lw_13 : List (Nat × Instr × Nat) := [
  (898, .iconst 1, 1), (899, .iadd, 1), (900, .iaload, 1), (901, .invokevirtual 112, 3), (904, .if_icmp .eq 885, 3), (907, .iconst 0, 1),
  (908, .ireturn, 1), (909, .aload_n 1, 1), (910, .aload_n 0, 1), (911, .iload_n 3, 1), (912, .iconst 1, 1), (913, .iadd, 1),
  (914, .iaload, 1), (915, .invokevirtual 113, 3), (918, .aload_n 2, 1), (919, .aload_n 0, 1), (920, .iload_n 3, 1), (921, .iconst 1, 1),
  (922, .iadd, 1), (923, .iaload, 1), (924, .invokevirtual 116, 3), (927, .if_icmp .eq 862, 3), (930, .iconst 0, 1), (931, .ireturn, 1),
  (932, .aload_n 1, 1), (933, .aload_n 0, 1), (934, .iload_n 3, 1), (935, .iconst 1, 1), (936, .iadd, 1), (937, .iaload, 1),
  (938, .aload_n 0, 1), (939, .iload_n 3, 1), (940, .iconst 2, 1), (941, .iadd, 1), (942, .iaload, 1), (943, .invokevirtual 117, 3),
  (946, .aload_n 2, 1), (947, .aload_n 0, 1), (948, .iload_n 3, 1), (949, .iconst 1, 1)]
set_option maxRecDepth 100000 in
theorem K_Lw_13 : T_Lw_13.all (fun e => decide (decode code e.1 = .ok e.2)) = true := by decide +kernel
def T_Lw_14 : List (Nat × Instr × Nat) := [
  (950, .iadd, 1), (951, .iaload, 1), (952, .aload_n 0, 1), (953, .iload_n 3, 1), (954, .iconst 2, 1), (955, .iadd, 1),
  (956, .iaload, 1), (957, .invokevirtual 120, 3), (960, .if_icmp .eq 829, 3), (963, .iconst 0, 1), (964, .ireturn, 1), (965, .aload_n 1, 1),
  (966, .aload_n 0, 1), (967, .iload_n 3, 1), (968, .iconst 1, 1), (969, .iadd, 1), (970, .iaload, 1), (971, .invokevirtual 121, 3),
  (974, .aload_n 2, 1), (975, .aload_n 0, 1), (976, .iload_n 3, 1), (977, .iconst 1, 1), (978, .iadd, 1), (979, .iaload, 1),
  (980, .invokevirtual 124, 3), (983, .if_icmp .eq 806, 3), (986, .iconst 0, 1), (987, .ireturn, 1), (988, .aload_n 1, 1), (989, .aload_n 0, 1),
  (990, .iload_n 3, 1), (991, .iconst 1, 1), (992, .iadd, 1), (993, .iaload, 1), (994, .aload_n 0, 1), (995, .iload_n 3, 1),
  (996, .iconst 2, 1), (997, .iadd, 1), (998, .iaload, 1), (999, .invokevirtual 125, 3)]
set_option maxRecDepth 100000 in
theorem K_Lw_14 : T_Lw_14.all (fun e => decide (decode code e.1 = .ok e.2)) = true := by decide +kernel
def T_Lw_15 : List (Nat × Instr × Nat) := [
  (1002, .aload_n 2, 1), (1003, .aload_n 0, 1), (1004, .iload_n 3, 1), (1005, .iconst 1, 1), (1006, .iadd, 1), (1007, .iaload, 1),
  (1008, .aload_n 0, 1), (1009, .iload_n 3, 1), (1010, .iconst 2, 1), (1011, .iadd, 1), (1012, .iaload, 1), (1013, .invokevirtual 128, 3),
  (1016, .if_icmp .eq 773, 3), (1019, .iconst 0, 1), (1020, .ireturn, 1), (1021, .aload_n 1, 1), (1022, .aload_n 0, 1), (1023, .iload_n 3, 1),
  (1024, .iconst 1, 1), (1025, .iadd, 1), (1026, .iaload, 1), (1027, .aload_n 0, 1), (1028, .iload_n 3, 1), (1029, .iconst 2, 1),
  (1030, .iadd, 1), (1031, .iaload, 1), (1032, .invokevirtual 129, 3), (1035, .aload_n 2, 1), (1036, .aload_n 0, 1), (1037, .iload_n 3, 1),
  (1038, .iconst 1, 1), (1039, .iadd, 1), (1040, .iaload, 1), (1041, .aload_n 0, 1), (1042, .iload_n 3, 1), (1043, .iconst 2, 1),
  (1044, .iadd, 1), (1045, .iaload, 1), (1046, .invokevirtual 132, 3), (1049, .if_icmp .eq 740, 3)]
set_option maxRecDepth 100000 in
theorem K_Lw_15 : T_Lw_15.all (fun e => decide (decode code e.1 = .ok e.2)) = true := by decide +kernel
def T_Lw_16 : List (Nat × Instr × Nat) := [
  (1052, .iconst 0, 1), (1053, .ireturn, 1), (1054, .aload_n 1, 1), (1055, .aload_n 0, 1), (1056, .iload_n 3, 1), (1057, .iconst 1, 1),
  (1058, .iadd, 1), (1059, .iaload, 1), (1060, .invokevirtual 133, 3), (1063, .aload_n 2, 1), (1064, .aload_n 0, 1), (1065, .iload_n 3, 1),
  (1066, .iconst 1, 1), (1067, .iadd, 1), (1068, .iaload, 1), (1069, .invokevirtual 136, 3), (1072, .if_icmp .eq 717, 3), (1075, .iconst 0, 1),
  (1076, .ireturn, 1), (1077, .aload_n 1, 1), (1078, .aload_n 0, 1), (1079, .iload_n 3, 1), (1080, .iconst 1, 1), (1081, .iadd, 1),
  (1082, .iaload, 1), (1083, .invokevirtual 137, 3), (1086, .aload_n 2, 1), (1087, .aload_n 0, 1), (1088, .iload_n 3, 1), (1089, .iconst 1, 1),
  (1090, .iadd, 1), (1091, .iaload, 1), (1092, .invokevirtual 140, 3), (1095, .if_icmp .eq 694, 3), (1098, .iconst 0, 1), (1099, .ireturn, 1),
  (1100, .aload_n 1, 1), (1101, .aload_n 0, 1), (1102, .iload_n 3, 1), (1103, .iconst 1, 1)]
set_option maxRecDepth 100000 in
theorem K_Lw_16 : T_Lw_16.all (fun e => decide (decode code e.1 = .ok e.2)) = true := by decide +kernel
def T_Lw_17 : List (Nat × Instr × Nat) := [
  (1104, .iadd, 1), (1105, .iaload, 1), (1106, .aload_n 0, 1), (1107, .iload_n 3, 1), (1108, .iconst 2, 1), (1109, .iadd, 1),
  (1110, .iaload, 1), (1111, .aload_n 0, 1), (1112, .iload_n 3, 1), (1113, .iconst 3, 1), (1114, .iadd, 1), (1115, .iaload, 1),
  (1116, .aload_n 0, 1), (1117, .iload_n 3, 1), (1118, .iconst 4, 1), (1119, .iadd, 1), (1120, .iaload, 1), (1121, .invokevirtual 141, 3),
  (1124, .aload_n 2, 1), (1125, .aload_n 0, 1), (1126, .iload_n 3, 1), (1127, .iconst 1, 1), (1128, .iadd, 1), (1129, .iaload, 1),
  (1130, .aload_n 0, 1), (1131, .iload_n 3, 1), (1132, .iconst 2, 1), (1133, .iadd, 1), (1134, .iaload, 1), (1135, .aload_n 0, 1),
  (1136, .iload_n 3, 1), (1137, .iconst 3, 1), (1138, .iadd, 1), (1139, .iaload, 1), (1140, .aload_n 0, 1), (1141, .iload_n 3, 1),
  (1142, .iconst 4, 1), (1143, .iadd, 1), (1144, .iaload, 1), (1145, .invokevirtual 144, 3)]
set_option maxRecDepth 100000 in
theorem K_Lw_17 : T_Lw_17.all (fun e => decide (decode code e.1 = .ok e.2)) = true := by decide +kernel
def T_Lw_18 : List (Nat × Instr × Nat) := [
  (1148, .if_icmp .eq 641, 3), (1151, .iconst 0, 1), (1152, .ireturn, 1), (1153, .aload_n 1, 1), (1154, .invokevirtual 145, 3), (1157, .aload_n 2, 1),
  (1158, .invokevirtual 148, 3), (1161, .if_icmp .eq 628, 3), (1164, .iconst 0, 1), (1165, .ireturn, 1), (1166, .aload_n 1, 1), (1167, .aload_n 0, 1),
  (1168, .iload_n 3, 1), (1169, .iconst 1, 1), (1170, .iadd, 1), (1171, .iaload, 1), (1172, .invokevirtual 149, 3), (1175, .aload_n 2, 1),
  (1176, .aload_n 0, 1), (1177, .iload_n 3, 1), (1178, .iconst 1, 1), (1179, .iadd, 1), (1180, .iaload, 1), (1181, .invokevirtual 152, 3),
  (1184, .if_icmp .eq 605, 3), (1187, .iconst 0, 1), (1188, .ireturn, 1), (1189, .aload_n 1, 1), (1190, .invokevirtual 153, 3), (1193, .aload_n 2, 1),
  (1194, .invokevirtual 156, 3), (1197, .if_icmp .eq 592, 3), (1200, .iconst 0, 1), (1201, .ireturn, 1), (1202, .aload_n 1, 1), (1203, .aload_n 0, 1),
  (1204, .iload_n 3, 1), (1205, .iconst 1, 1), (1206, .iadd, 1), (1207, .iaload, 1)]
set_option maxRecDepth 100000 in
theorem K_Lw_18 : T_Lw_18.all (fun e => decide (decode code e.1 = .ok e.2)) = true := by decide +kernel
def T_Lw_19 : List (Nat × Instr × Nat) := [
  (1208, .invokevirtual 157, 3), (1211, .aload_n 2, 1), (1212, .aload_n 0, 1), (1213, .iload_n 3, 1), (1214, .iconst 1, 1), (1215, .iadd, 1),
  (1216, .iaload, 1), (1217, .invokevirtual 160, 3), (1220, .if_icmp .eq 569, 3), (1223, .iconst 0, 1), (1224, .ireturn, 1), (1225, .aload_n 1, 1),
  (1226, .invokevirtual 161, 3), (1229, .aload_n 2, 1), (1230, .invokevirtual 164, 3), (1233, .if_icmp .eq 556, 3), (1236, .iconst 0, 1), (1237, .ireturn, 1),
  (1238, .aload_n 1, 1), (1239, .aload_n 0, 1), (1240, .iload_n 3, 1), (1241, .iconst 1, 1), (1242, .iadd, 1), (1243, .iaload, 1),
  (1244, .aload_n 0, 1), (1245, .iload_n 3, 1), (1246, .iconst 2, 1), (1247, .iadd, 1), (1248, .iaload, 1), (1249, .invokevirtual 165, 3),
  (1252, .aload_n 2, 1), (1253, .aload_n 0, 1), (1254, .iload_n 3, 1), (1255, .iconst 1, 1), (1256, .iadd, 1), (1257, .iaload, 1),
  (1258, .aload_n 0, 1), (1259, .iload_n 3, 1), (1260, .iconst 2, 1), (1261, .iadd, 1)]
set_option maxRecDepth 100000 in
theorem K_Lw_19 : T_Lw_19.all (fun e => decide (decode code e.1 = .ok e.2)) = true := by decide +kernel
def T_Lw_20 : List (Nat × Instr × Nat) := [
  (1262, .iaload, 1), (1263, .invokevirtual 168, 3), (1266, .if_icmp .eq 523, 3), (1269, .iconst 0, 1), (1270, .ireturn, 1), (1271, .aload_n 1, 1),
  (1272, .aload_n 0, 1), (1273, .iload_n 3, 1), (1274, .iconst 1, 1), (1275, .iadd, 1), (1276, .iaload, 1), (1277, .invokevirtual 169, 3),
  (1280, .aload_n 2, 1), (1281, .aload_n 0, 1), (1282, .iload_n 3, 1), (1283, .iconst 1, 1), (1284, .iadd, 1), (1285, .iaload, 1),
  (1286, .invokevirtual 172, 3), (1289, .if_icmp .eq 500, 3), (1292, .iconst 0, 1), (1293, .ireturn, 1), (1294, .aload_n 1, 1), (1295, .aload_n 0, 1),
  (1296, .iload_n 3, 1), (1297, .iconst 1, 1), (1298, .iadd, 1), (1299, .iaload, 1), (1300, .aload_n 0, 1), (1301, .iload_n 3, 1),
  (1302, .iconst 2, 1), (1303, .iadd, 1), (1304, .iaload, 1), (1305, .invokevirtual 173, 3), (1308, .aload_n 2, 1), (1309, .aload_n 0, 1),
  (1310, .iload_n 3, 1), (1311, .iconst 1, 1), (1312, .iadd, 1), (1313, .iaload, 1)]
set_option maxRecDepth 100000 in
theorem K_Lw_20 : T_Lw_20.all (fun e => decide (decode code e.1 = .ok e.2)) = true := by decide +kernel
def T_Lw_21 : List (Nat × Instr × Nat) := [
  (1314, .aload_n 0, 1), (1315, .iload_n 3, 1), (1316, .iconst 2, 1), (1317, .iadd, 1), (1318, .iaload, 1), (1319, .invokevirtual 176, 3),
  (1322, .if_icmp .eq 467, 3), (1325, .iconst 0, 1), (1326, .ireturn, 1), (1327, .aload_n 1, 1), (1328, .aload_n 0, 1), (1329, .iload_n 3, 1),
  (1330, .iconst 1, 1), (1331, .iadd, 1), (1332, .iaload, 1), (1333, .aload_n 0, 1), (1334, .iload_n 3, 1), (1335, .iconst 2, 1),
  (1336, .iadd, 1), (1337, .iaload, 1), (1338, .aload_n 0, 1), (1339, .iload_n 3, 1), (1340, .iconst 3, 1), (1341, .iadd, 1),
  (1342, .iaload, 1), (1343, .invokevirtual 177, 3), (1346, .aload_n 2, 1), (1347, .aload_n 0, 1), (1348, .iload_n 3, 1), (1349, .iconst 1, 1),
  (1350, .iadd, 1), (1351, .iaload, 1), (1352, .aload_n 0, 1), (1353, .iload_n 3, 1), (1354, .iconst 2, 1), (1355, .iadd, 1),
  (1356, .iaload, 1), (1357, .aload_n 0, 1), (1358, .iload_n 3, 1), (1359, .iconst 3, 1)]
set_option maxRecDepth 100000 in
theorem K_Lw_21 : T_Lw_21.all (fun e => decide (decode code e.1 = .ok e.2)) = true := by decide +kernel
def T_Lw_22 : List (Nat × Instr × Nat) := [
  (1360, .iadd, 1), (1361, .iaload, 1), (1362, .invokevirtual 180, 3), (1365, .if_icmp .eq 424, 3), (1368, .iconst 0, 1), (1369, .ireturn, 1),
  (1370, .aload_n 1, 1), (1371, .invokevirtual 181, 3), (1374, .aload_n 2, 1), (1375, .invokevirtual 184, 3), (1378, .if_icmp .eq 411, 3), (1381, .iconst 0, 1),
  (1382, .ireturn, 1), (1383, .aload_n 1, 1), (1384, .aload_n 0, 1), (1385, .iload_n 3, 1), (1386, .iconst 1, 1), (1387, .iadd, 1),
  (1388, .iaload, 1), (1389, .aload_n 0, 1), (1390, .iload_n 3, 1), (1391, .iconst 2, 1), (1392, .iadd, 1), (1393, .iaload, 1),
  (1394, .aload_n 0, 1), (1395, .iload_n 3, 1), (1396, .iconst 3, 1), (1397, .iadd, 1), (1398, .iaload, 1), (1399, .invokevirtual 185, 3),
  (1402, .aload_n 2, 1), (1403, .aload_n 0, 1), (1404, .iload_n 3, 1), (1405, .iconst 1, 1), (1406, .iadd, 1), (1407, .iaload, 1),
  (1408, .aload_n 0, 1), (1409, .iload_n 3, 1), (1410, .iconst 2, 1), (1411, .iadd, 1)]
set_option maxRecDepth 100000 in
theorem K_Lw_22 : T_Lw_22.all (fun e => decide (decode code e.1 = .ok e.2)) = true := by decide +kernel
def T_Lw_23 : List (Nat × Instr × Nat) := [
  (1412, .iaload, 1), (1413, .aload_n 0, 1), (1414, .iload_n 3, 1), (1415, .iconst 3, 1), (1416, .iadd, 1), (1417, .iaload, 1),
  (1418, .invokevirtual 188, 3), (1421, .if_icmp .eq 368, 3), (1424, .iconst 0, 1), (1425, .ireturn, 1), (1426, .aload_n 1, 1), (1427, .aload_n 0, 1),
  (1428, .iload_n 3, 1), (1429, .iconst 1, 1), (1430, .iadd, 1), (1431, .iaload, 1), (1432, .aload_n 0, 1), (1433, .iload_n 3, 1),
  (1434, .iconst 2, 1), (1435, .iadd, 1), (1436, .iaload, 1), (1437, .aload_n 0, 1), (1438, .iload_n 3, 1), (1439, .iconst 3, 1),
  (1440, .iadd, 1), (1441, .iaload, 1), (1442, .invokevirtual 189, 3), (1445, .aload_n 2, 1), (1446, .aload_n 0, 1), (1447, .iload_n 3, 1),
  (1448, .iconst 1, 1), (1449, .iadd, 1), (1450, .iaload, 1), (1451, .aload_n 0, 1), (1452, .iload_n 3, 1), (1453, .iconst 2, 1),
  (1454, .iadd, 1), (1455, .iaload, 1), (1456, .aload_n 0, 1), (1457, .iload_n 3, 1)]
set_option maxRecDepth 100000 in
theorem K_Lw_23 : T_Lw_23.all (fun e => decide (decode code e.1 = .ok e.2)) = true := by decide +kernel
def T_Lw_24 : List (Nat × Instr × Nat) := [
  (1458, .iconst 3, 1), (1459, .iadd, 1), (1460, .iaload, 1), (1461, .invokevirtual 192, 3), (1464, .if_icmp .eq 325, 3), (1467, .iconst 0, 1),
  (1468, .ireturn, 1), (1469, .aload_n 1, 1), (1470, .aload_n 0, 1), (1471, .iload_n 3, 1), (1472, .iconst 1, 1), (1473, .iadd, 1),
  (1474, .iaload, 1), (1475, .aload_n 0, 1), (1476, .iload_n 3, 1), (1477, .iconst 2, 1), (1478, .iadd, 1), (1479, .iaload, 1),
  (1480, .aload_n 0, 1), (1481, .iload_n 3, 1), (1482, .iconst 3, 1), (1483, .iadd, 1), (1484, .iaload, 1), (1485, .invokevirtual 193, 3),
  (1488, .aload_n 2, 1), (1489, .aload_n 0, 1), (1490, .iload_n 3, 1), (1491, .iconst 1, 1), (1492, .iadd, 1), (1493, .iaload, 1),
  (1494, .aload_n 0, 1), (1495, .iload_n 3, 1), (1496, .iconst 2, 1), (1497, .iadd, 1), (1498, .iaload, 1), (1499, .aload_n 0, 1),
  (1500, .iload_n 3, 1), (1501, .iconst 3, 1), (1502, .iadd, 1), (1503, .iaload, 1)]
set_option maxRecDepth 100000 in
theorem K_Lw_24 : T_Lw_24.all (fun e => decide (decode code e.1 = .ok e.2)) = true := by decide +kernel
def T_Lw_25 : List (Nat × Instr × Nat) := [
  (1504, .invokevirtual 196, 3), (1507, .if_icmp .eq 282, 3), (1510, .iconst 0, 1), (1511, .ireturn, 1), (1512, .aload_n 1, 1), (1513, .aload_n 0, 1),
  (1514, .iload_n 3, 1), (1515, .iconst 1, 1), (1516, .iadd, 1), (1517, .iaload, 1), (1518, .aload_n 0, 1), (1519, .iload_n 3, 1),
  (1520, .iconst 2, 1), (1521, .iadd, 1), (1522, .iaload, 1), (1523, .aload_n 0, 1), (1524, .iload_n 3, 1), (1525, .iconst 3, 1),
  (1526, .iadd, 1), (1527, .iaload, 1), (1528, .invokevirtual 197, 3), (1531, .aload_n 2, 1), (1532, .aload_n 0, 1), (1533, .iload_n 3, 1),
  (1534, .iconst 1, 1), (1535, .iadd, 1), (1536, .iaload, 1), (1537, .aload_n 0, 1), (1538, .iload_n 3, 1), (1539, .iconst 2, 1),
  (1540, .iadd, 1), (1541, .iaload, 1), (1542, .aload_n 0, 1), (1543, .iload_n 3, 1), (1544, .iconst 3, 1), (1545, .iadd, 1),
  (1546, .iaload, 1), (1547, .invokevirtual 200, 3), (1550, .if_icmp .eq 239, 3), (1553, .iconst 0, 1)]
set_option maxRecDepth 100000 in
theorem K_Lw_25 : T_Lw_25.all (fun e => decide (decode code e.1 = .ok e.2)) = true := by decide +kernel
def T_Lw_26 : List (Nat × Instr × Nat) := [
  (1554, .ireturn, 1), (1555, .aload_n 1, 1), (1556, .aload_n 0, 1), (1557, .iload_n 3, 1), (1558, .iconst 1, 1), (1559, .iadd, 1),
  (1560, .iaload, 1), (1561, .aload_n 0, 1), (1562, .iload_n 3, 1), (1563, .iconst 2, 1), (1564, .iadd, 1), (1565, .iaload, 1),
  (1566, .aload_n 0, 1), (1567, .iload_n 3, 1), (1568, .iconst 3, 1), (1569, .iadd, 1), (1570, .iaload, 1), (1571, .invokevirtual 201, 3),
  (1574, .aload_n 2, 1), (1575, .aload_n 0, 1), (1576, .iload_n 3, 1), (1577, .iconst 1, 1), (1578, .iadd, 1), (1579, .iaload, 1),
  (1580, .aload_n 0, 1), (1581, .iload_n 3, 1), (1582, .iconst 2, 1), (1583, .iadd, 1), (1584, .iaload, 1), (1585, .aload_n 0, 1),
  (1586, .iload_n 3, 1), (1587, .iconst 3, 1), (1588, .iadd, 1), (1589, .iaload, 1), (1590, .invokevirtual 204, 3), (1593, .if_icmp .eq 196, 3),
  (1596, .iconst 0, 1), (1597, .ireturn, 1), (1598, .aload_n 1, 1), (1599, .aload_n 0, 1)]
set_option maxRecDepth 100000 in
theorem K_Lw_26 : T_Lw_26.all (fun e => decide (decode code e.1 = .ok e.2)) = true := by decide +kernel
def T_Lw_27 : List (Nat × Instr × Nat) := [
  (1600, .iload_n 3, 1), (1601, .iconst 1, 1), (1602, .iadd, 1), (1603, .iaload, 1), (1604, .aload_n 0, 1), (1605, .iload_n 3, 1),
  (1606, .iconst 2, 1), (1607, .iadd, 1), (1608, .iaload, 1), (1609, .aload_n 0, 1), (1610, .iload_n 3, 1), (1611, .iconst 3, 1),
  (1612, .iadd, 1), (1613, .iaload, 1), (1614, .invokevirtual 205, 3), (1617, .aload_n 2, 1), (1618, .aload_n 0, 1), (1619, .iload_n 3, 1),
  (1620, .iconst 1, 1), (1621, .iadd, 1), (1622, .iaload, 1), (1623, .aload_n 0, 1), (1624, .iload_n 3, 1), (1625, .iconst 2, 1),
  (1626, .iadd, 1), (1627, .iaload, 1), (1628, .aload_n 0, 1), (1629, .iload_n 3, 1), (1630, .iconst 3, 1), (1631, .iadd, 1),
  (1632, .iaload, 1), (1633, .invokevirtual 208, 3), (1636, .if_icmp .eq 153, 3), (1639, .iconst 0, 1), (1640, .ireturn, 1), (1641, .aload_n 1, 1),
  (1642, .aload_n 0, 1), (1643, .iload_n 3, 1), (1644, .iconst 1, 1), (1645, .iadd, 1)]
set_option maxRecDepth 100000 in
theorem K_Lw_27 : T_Lw_27.all (fun e => decide (decode code e.1 = .ok e.2)) = true := by decide +kernel
def T_Lw_28 : List (Nat × Instr × Nat) := [
  (1646, .iaload, 1), (1647, .aload_n 0, 1), (1648, .iload_n 3, 1), (1649, .iconst 2, 1), (1650, .iadd, 1), (1651, .iaload, 1),
  (1652, .invokevirtual 209, 3), (1655, .aload_n 2, 1), (1656, .aload_n 0, 1), (1657, .iload_n 3, 1), (1658, .iconst 1, 1), (1659, .iadd, 1),
  (1660, .iaload, 1), (1661, .aload_n 0, 1), (1662, .iload_n 3, 1), (1663, .iconst 2, 1), (1664, .iadd, 1), (1665, .iaload, 1),
  (1666, .invokevirtual 212, 3), (1669, .if_icmp .eq 120, 3), (1672, .iconst 0, 1), (1673, .ireturn, 1), (1674, .aload_n 1, 1), (1675, .aload_n 0, 1),
  (1676, .iload_n 3, 1), (1677, .iconst 1, 1), (1678, .iadd, 1), (1679, .iaload, 1), (1680, .aload_n 0, 1), (1681, .iload_n 3, 1),
  (1682, .iconst 2, 1), (1683, .iadd, 1), (1684, .iaload, 1), (1685, .aload_n 0, 1), (1686, .iload_n 3, 1), (1687, .iconst 3, 1),
  (1688, .iadd, 1), (1689, .iaload, 1), (1690, .invokevirtual 213, 3), (1693, .aload_n 2, 1)]
set_option maxRecDepth 100000 in
theorem K_Lw_28 : T_Lw_28.all (fun e => decide (decode code e.1 = .ok e.2)) = true := by decide +kernel
def T_Lw_29 : List (Nat × Instr × Nat) := [
  (1694, .aload_n 0, 1), (1695, .iload_n 3, 1), (1696, .iconst 1, 1), (1697, .iadd, 1), (1698, .iaload, 1), (1699, .aload_n 0, 1),
  (1700, .iload_n 3, 1), (1701, .iconst 2, 1), (1702, .iadd, 1), (1703, .iaload, 1), (1704, .aload_n 0, 1), (1705, .iload_n 3, 1),
  (1706, .iconst 3, 1), (1707, .iadd, 1), (1708, .iaload, 1), (1709, .invokevirtual 216, 3), (1712, .if_icmp .eq 77, 3), (1715, .iconst 0, 1),
  (1716, .ireturn, 1), (1717, .aload_n 1, 1), (1718, .aload_n 0, 1), (1719, .iload_n 3, 1), (1720, .iconst 1, 1), (1721, .iadd, 1),
  (1722, .iaload, 1), (1723, .invokevirtual 217, 3), (1726, .aload_n 2, 1), (1727, .aload_n 0, 1), (1728, .iload_n 3, 1), (1729, .iconst 1, 1),
  (1730, .iadd, 1), (1731, .iaload, 1), (1732, .invokevirtual 220, 3), (1735, .if_icmp .eq 54, 3), (1738, .iconst 0, 1), (1739, .ireturn, 1),
  (1740, .aload_n 1, 1), (1741, .aload_n 0, 1), (1742, .iload_n 3, 1), (1743, .iconst 1, 1)]
set_option maxRecDepth 100000 in
theorem K_Lw_29 : T_Lw_29.all (fun e => decide (decode code e.1 = .ok e.2)) = true := by decide +kernel
def T_Lw_30 : List (Nat × Instr × Nat) := [
  (1744, .iadd, 1), (1745, .iaload, 1), (1746, .invokevirtual 221, 3), (1749, .aload_n 2, 1), (1750, .aload_n 0, 1), (1751, .iload_n 3, 1),
  (1752, .iconst 1, 1), (1753, .iadd, 1), (1754, .iaload, 1), (1755, .invokevirtual 224, 3), (1758, .if_icmp .eq 31, 3), (1761, .iconst 0, 1),
  (1762, .ireturn, 1), (1763, .aload_n 1, 1), (1764, .invokevirtual 225, 3), (1767, .aload_n 2, 1), (1768, .invokevirtual 228, 3), (1771, .if_icmp .eq 18, 3),
  (1774, .iconst 0, 1), (1775, .ireturn, 1), (1776, .aload_n 1, 1), (1777, .invokevirtual 229, 3), (1780, .aload_n 2, 1), (1781, .invokevirtual 232, 3),
  (1784, .if_icmp .eq 5, 3), (1787, .iconst 0, 1), (1788, .ireturn, 1), (1789, .iinc 3 5, 3), (1792, .goto (-1774), 3), (1795, .iconst 1, 1),
  (1796, .ireturn, 1)]
set_option maxRecDepth 100000 in
theorem K_Lw_30 : T_Lw_30.all (fun e => decide (decode code e.1 = .ok e.2)) = true := by decide +kernel
def M_Lw_law : zM := ("WindBridesLaw", x, code, 4, ret, T_Lw_0 ++ (T_Lw_1 ++ (T_Lw_2 ++ (T_Lw_3 ++ (T_Lw_4 ++ (T_Lw_5 ++ (T_Lw_6 ++ (T_Lw_7 ++ (T_Lw_8 ++ (T_Lw_9 ++ (T_Lw_10 ++ (T_Lw_11 ++ (T_Lw_12 ++ (T_Lw_13 ++ (T_Lw_14 ++ (T_Lw_15 ++ (T_Lw_16 ++ (T_Lw_17 ++ (T_Lw_18 ++ (T_Lw_19 ++ (T_Lw_20 ++ (T_Lw_21 ++ (T_Lw_22 ++ (T_Lw_23 ++ (T_Lw_24 ++ (T_Lw_25 ++ (T_Lw_26 ++ (T_Lw_27 ++ (T_Lw_28 ++ (T_Lw_29 ++ (T_Lw_30)))))))))))))))))))))))))))))))
theorem K_Lw_law : mOk M_Lw_law := by
  show (T_Lw_0 ++ (T_Lw_1 ++ (T_Lw_2 ++ (T_Lw_3 ++ (T_Lw_4 ++ (T_Lw_5 ++ (T_Lw_6 ++ (T_Lw_7 ++ (T_Lw_8 ++ (T_Lw_9 ++ (T_Lw_10 ++ (T_Lw_11 ++ (T_Lw_12 ++ (T_Lw_13 ++ (T_Lw_14 ++ (T_Lw_15 ++ (T_Lw_16 ++ (T_Lw_17 ++ (T_Lw_18 ++ (T_Lw_19 ++ (T_Lw_20 ++ (T_Lw_21 ++ (T_Lw_22 ++ (T_Lw_23 ++ (T_Lw_24 ++ (T_Lw_25 ++ (T_Lw_26 ++ (T_Lw_27 ++ (T_Lw_28 ++ (T_Lw_29 ++ (T_Lw_30))))))))))))))))))))))))))))))).all (fun e => decide (decode code e.1 = .ok e.2)) = true
  simp only [List.all_append, K_Lw_0, K_Lw_1, K_Lw_2, K_Lw_3, K_Lw_4, K_Lw_5, K_Lw_6, K_Lw_7, K_Lw_8, K_Lw_9, K_Lw_10, K_Lw_11, K_Lw_12, K_Lw_13, K_Lw_14, K_Lw_15, K_Lw_16, K_Lw_17, K_Lw_18, K_Lw_19, K_Lw_20, K_Lw_21, K_Lw_22, K_Lw_23, K_Lw_24, K_Lw_25, K_Lw_26, K_Lw_27, K_Lw_28, K_Lw_29, K_Lw_30, Bool.and_self]
end
section
/-! ===== the plain machine: references are numbers of cells (0 LINEAGE, 1 NAMES, 2 the script, 3 the words' text, from 4 on what was made), the heap is a function ===== -/
abbrev zG : Type := Launch × Nat × (Nat → Nat) × va_G × (Nat → ClassId) × Heap × Nat × (Nat → Int32)
abbrev zl (G : zG) : Launch := G.1
abbrev zb (G : zG) : Nat := G.2.1
abbrev zsp (G : zG) : Nat → Nat := G.2.2.1
abbrev zD (G : zG) : va_G := G.2.2.2.1
abbrev zA (G : zG) : Nat → ClassId := G.2.2.2.2.1
abbrev zH (G : zG) : Heap := G.2.2.2.2.2.1
abbrev zL (G : zG) : Nat := G.2.2.2.2.2.2.1
abbrev zX (G : zG) : Nat → Int32 := G.2.2.2.2.2.2.2
abbrev zQ (G : zG) : Nat → Prop := fun q => zb G ≤ q
def za (G : zG) (i : Nat) : Nat := if i < 4 then zsp G i else zb G + (i - 4)
def zv (G : zG) : Value → Value
  | .ref i => .ref (za G i)
  | v => v
def ze (G : zG) : va_E → va_E
  | .inl (k, n, .inr (.inr (.inr (.inr f)))) => .inl (zA G k, n, .inr (.inr (.inr (.inr (fun j => (f j).map (za G))))))
  | .inl (k, a) => .inl (zA G k, a)
  | .inr (ci, fs) => .inr (ci, fs.map (zv G))
def zdead : va_E := .inr (99, [])
def zLin : List Int32 := [1, 3, 5, 13, 17, 49]
def zNam : List Int32 := [103, 105, 114, 108, 0, 0, 115, 104, 97, 114, 101, 100, 98, 114, 101, 100, 0, 0, 116, 119, 105, 99, 101, 0, 108, 97, 116, 101, 0, 0, 99, 97, 108, 109, 0, 0, 119, 97, 105, 116, 0, 0, 116, 117, 114, 110, 0, 0, 108, 101, 97, 118, 101, 0, 109, 111, 110, 116, 104, 0, 102, 97, 105, 116, 104, 0, 100, 111, 119, 114, 121, 0, 104, 111, 117, 115, 101, 0, 110, 117, 109, 98, 101, 114, 105, 102, 0, 0, 0, 0, 111, 114, 0, 0, 0, 0, 97, 110, 100, 0, 0, 0, 110, 111, 116, 0, 0, 0]
def zWords : String := "girl   shared bred   twice  late   calm   wait   turn   leave  if     or     and    not    month  faith  dowry  house  number "
def zWordB : List Int32 := zWords.toList.map (fun ch => Int32.ofNat ch.toNat)
def zspec (G : zG) : Nat → va_E
  | 0 => .inl (7, 6, .inl (fun j => zLin.getD j 0))
  | 1 => .inl (7, 108, .inl (fun j => zNam.getD j 0))
  | 2 => .inl (7, zL G, .inl (zX G))
  | _ => zdead
def zws (G : zG) (n : Nat) (μ : Nat → va_E) : va_W := (List.range (n - 4)).map (fun j => (zb G + j, ze G (μ (j + 4))))
def ztys (G : zG) : List (ClassId × FieldType) := [(zA G 0, .int), (zA G 1, .boolean), (zA G 2, .long), (zA G 3, .object "WindBrides$Course")]
/-- the heap H is what the plain heap μ of n cells says -/
def zR (G : zG) (H : Heap) (n : Nat) (μ : Nat → va_E) : Prop := 4 ≤ n ∧ H.size = zb G + (n - 4) ∧ va_P (zD G) zCl (zws G n μ) H ∧ (∀ q, q < zb G → H[q]? = (zH G)[q]?) ∧ (∀ i, n ≤ i → μ i = zdead) ∧ ∀ i, i < 4 → μ i = zspec G i
def zisN : Cond → Bool
  | .methodLinkNest .. => true
  | .declares _ => true
  | _ => false
def zNW : List Cond := lw_tbl.filter zisN
/-- what is known of the classes, the statics, the constants at every state of the run -/
def zO (G : zG) (U : State) : Prop := va_K (zD G) zCl (ztys G) U ∧ (∀ w ∈ zNW, va_Nw w U) ∧ va_AO "WindBrides$Course" U ∧
  va_Z "WindBrides" "LINEAGE" "[I" (.ref (zsp G 0)) (zQ G) U (zH G) ∧ va_Z "WindBridesModel" "NAMES" "[I" (.ref (zsp G 1)) (zQ G) U (zH G) ∧
  va_T .int (zsp G 0) 6 (fun j => .int (zLin.getD j 0)) (zQ G) U (zH G) ∧ va_T .int (zsp G 1) 108 (fun j => .int (zNam.getD j 0)) (zQ G) U (zH G) ∧ va_T .int (zsp G 2) (zL G) (fun j => .int (zX G j)) (zQ G) U (zH G) ∧
  vk_R "WindBrides$Tape" 68 zWords (zsp G 3) U ∧ (∃ adV : Nat, vk_S 1 [126] [zWordB] (fun _ => zsp G 3) (fun _ => adV) (zQ G) U (zH G)) ∧ va_Z "java/lang/String" "COMPACT_STRINGS" "Z" (.int 1) (zQ G) U (zH G) ∧ va_Zq "jdk/internal/util/Preconditions" "SIOOBE_FORMATTER" "Ljava/util/function/BiFunction;" (zQ G) U (zH G) ∧ (zH G).size = zb G
theorem zO_warm {G : zG} {s U : State} (hW : s.WarmedH U.vm) (h : zO G s) : zO G U := by
  obtain ⟨h1, h2, h3, h4, h5, h6, h7, h8, h9, ⟨adV, h10⟩, h11, h12, h13⟩ := h
  have ha := hW.alike
  refine ⟨va_K.moved ha h1, fun w hw => ?_, va_AO.moved ha h3, h4.moved ha, h5.moved ha, h6.moved ha, h7.moved ha, h8.moved ha, h9.warm hW, ⟨adV, h10.moved ha⟩, h11.moved ha, h12.moved ha, h13⟩
  have h0 := h2 w hw
  have hn : zisN w = true := (List.mem_filter.mp hw).2
  cases w <;> first | (simp [zisN] at hn; done) | exact h0.warmM hW | exact h0.warmD hW
theorem zO_same {G : zG} {u U : State} (hv : U.vm = u.vm) (h : zO G u) : zO G U := by
  obtain ⟨h1, h2, h3, h4, h5, h6, h7, h8, h9, ⟨adV, h10⟩, h11, h12, h13⟩ := h
  have ha : u.vm.Alike U.vm := by rw [hv]; exact Vm.Alike.refl _
  refine ⟨va_K.moved ha h1, fun w hw => ?_, va_AO.moved ha h3, h4.moved ha, h5.moved ha, h6.moved ha, h7.moved ha, h8.moved ha, h9.same hv, ⟨adV, h10.moved ha⟩, h11.moved ha, h12.moved ha, h13⟩
  have h0 := h2 w hw
  have hn : zisN w = true := (List.mem_filter.mp hw).2
  cases w <;> first | (simp [zisN] at hn; done) | exact va_Nw.same rfl hv.symm h0
/-! locals by place; .retAddr stands for a place that isn't known -/
def zj : Value → Bool
  | .retAddr _ => true
  | _ => false
def zal (G : zG) : Nat → List Value → List (Nat × Value)
  | _, [] => []
  | j, v :: t => if zj v = true then zal G (j + 1) t else (j, zv G v) :: zal G (j + 1) t
theorem zal_mem {G : zG} : ∀ (lv : List Value) (j : Nat) (q : Nat × Value), q ∈ zal G j lv ↔ ∃ (k : Nat) (v : Value), lv[k]? = some v ∧ zj v = false ∧ q = (j + k, zv G v)
  | [], j, q => by simp [zal]
  | v :: t, j, q => by
    have ih := zal_mem (G := G) t (j + 1) q
    unfold zal
    by_cases hv : zj v = true
    · rw [if_pos hv, ih]
      constructor
      · rintro ⟨k, w, h1, h2, h3⟩
        exact ⟨k + 1, w, by simpa using h1, h2, by rw [h3]; congr 1; omega⟩
      · rintro ⟨k, w, h1, h2, h3⟩
        cases k with
        | zero => simp at h1; subst h1; rw [hv] at h2; cases h2
        | succ k => exact ⟨k, w, by simpa using h1, h2, by rw [h3]; congr 1; omega⟩
    · rw [if_neg hv, List.mem_cons, ih]
      constructor
      · rintro (h | ⟨k, w, h1, h2, h3⟩)
        · exact ⟨0, v, by simp, by simpa using hv, by rw [h]; rfl⟩
        · exact ⟨k + 1, w, by simpa using h1, h2, by rw [h3]; congr 1; omega⟩
      · rintro ⟨k, w, h1, h2, h3⟩
        cases k with
        | zero => simp at h1; subst h1; exact Or.inl (by rw [h3]; rfl)
        | succ k => exact Or.inr ⟨k, w, by simpa using h1, h2, by rw [h3]; congr 1; omega⟩
abbrev zlv (G : zG) (ls : Array Slot) (nL : Nat) (lv : List Value) : Prop := lv_has ls nL (zal G 0 lv)
theorem zlv_at {G : zG} {ls : Array Slot} {nL : Nat} {lv : List Value} (h : zlv G ls nL lv) {i : Nat} {v : Value} (hi : lv[i]? = some v) (hj : zj v = false) : ls[i]? = some (.val (zv G v)) := by
  have := h.2.2 (i, zv G v) ((zal_mem lv 0 _).mpr ⟨i, v, hi, hj, by simp⟩)
  exact this
def zst (lv : List Value) : Nat → Bool
  | 0 => true
  | k + 1 => match lv[k]? with
    | some v => v.category != 2
    | none => true
theorem zv_cat {G : zG} (v : Value) : (zv G v).category = v.category := by cases v <;> rfl
theorem zlv_set {G : zG} {ls' : Array Slot} {nL i : Nat} {lv : List Value} {v : Value} (h : lv_has ls' nL ((i, zv G v) :: (zal G 0 lv).filter (fun q => !(q.1 == i) && !(q.1 + 1 == i && q.2.category == 2)))) (hs : zst lv i = true) : zlv G ls' nL (lv.set i v) := by
  refine ⟨h.1, h.2.1, fun q hq => ?_⟩
  obtain ⟨k, w, h1, h2, h3⟩ := (zal_mem _ 0 q).mp hq
  rw [Nat.zero_add] at h3
  subst h3
  by_cases hk : k = i
  · subst hk
    have hlt : k < lv.length := by
      have := (List.getElem?_eq_some_iff.mp h1).1
      simpa using this
    rw [List.getElem?_set_self hlt] at h1
    cases h1
    exact h.2.2 _ List.mem_cons_self
  · rw [List.getElem?_set_ne (Ne.symm hk)] at h1
    refine h.2.2 _ (List.mem_cons_of_mem _ (List.mem_filter.mpr ⟨(zal_mem _ 0 _).mpr ⟨k, w, h1, h2, by simp⟩, ?_⟩))
    have e1 : (k == i) = false := by simpa using hk
    simp only [e1, Bool.not_false, Bool.true_and, Bool.not_eq_true']
    by_cases hk2 : k + 1 = i
    · subst hk2
      simp only [zst, h1] at hs
      simp only [zv_cat]
      simp at hs
      simp [hs]
    · simp [hk2]
theorem zlv_less {G : zG} {ls : Array Slot} {nL i : Nat} {lv : List Value} {a : Nat} (h : zlv G ls nL lv) : zlv G ls nL (lv.set i (.retAddr a)) := by
  refine ⟨h.1, h.2.1, fun q hq => ?_⟩
  obtain ⟨k, w, h1, h2, h3⟩ := (zal_mem _ 0 q).mp hq
  by_cases hk : k = i
  · subst hk
    have hlt : k < lv.length := by
      have := (List.getElem?_eq_some_iff.mp h1).1
      simpa using this
    rw [List.getElem?_set_self hlt] at h1
    cases h1
    cases h2
  · rw [List.getElem?_set_ne (Ne.symm hk)] at h1
    exact h.2.2 q ((zal_mem _ 0 q).mpr ⟨k, w, h1, h2, h3⟩)
/-! the heap: reading, writing, making -/
def zu (μ : Nat → va_E) (a : Nat) (c : va_E) : Nat → va_E := fun i => if i = a then c else μ i
theorem zws_at {G : zG} {n : Nat} {μ : Nat → va_E} {i : Nat} (h4 : 4 ≤ i) (hn : i < n) : (zws G n μ)[i - 4]? = some (za G i, ze G (μ i)) := by
  have h1 : i - 4 < n - 4 := by omega
  unfold zws
  rw [List.getElem?_map, List.getElem?_range h1]
  simp only [Option.map_some, za]
  rw [if_neg (by omega), show i - 4 + 4 = i by omega]
theorem zws_set {G : zG} {n : Nat} {μ : Nat → va_E} {i : Nat} {c : va_E} (h4 : 4 ≤ i) (hn : i < n) : (zws G n μ).set (i - 4) (za G i, ze G c) = zws G n (zu μ i c) := by
  apply List.ext_getElem?
  intro k
  by_cases hk : k = i - 4
  · subst hk
    have := zws_at (G := G) (n := n) (μ := zu μ i c) h4 hn
    rw [this, List.getElem?_set_self (by simp [zws]; omega)]
    simp [zu]
  · rw [List.getElem?_set_ne (Ne.symm hk)]
    unfold zws
    rw [List.getElem?_map, List.getElem?_map]
    by_cases hkn : k < n - 4
    · rw [List.getElem?_range hkn]
      simp only [Option.map_some, zu]
      rw [if_neg (by omega)]
    · rw [List.getElem?_eq_none (by simpa using hkn)]
      rfl
theorem zws_push {G : zG} {n : Nat} {μ : Nat → va_E} {c : va_E} (h4 : 4 ≤ n) : zws G n μ ++ [(zb G + (n - 4), ze G c)] = zws G (n + 1) (zu μ n c) := by
  unfold zws
  rw [show n + 1 - 4 = (n - 4) + 1 by omega, List.range_succ, List.map_append]
  congr 1
  · apply List.map_congr_left
    intro j hj
    have := List.mem_range.mp hj
    simp only [zu]
    rw [if_neg (by omega)]
  · simp only [List.map_cons, List.map_nil, zu]
    rw [if_pos (by omega)]
theorem zws_D {G : zG} {n : Nat} {μ : Nat → va_E} : va_D (zQ G) (zws G n μ) := by
  have key : ∀ (k : Nat) (q : Nat × va_E), (zws G n μ)[k]? = some q → q.1 = zb G + k := by
    intro k q hk
    unfold zws at hk
    rw [List.getElem?_map] at hk
    cases hr : (List.range (n - 4))[k]? with
    | none => rw [hr] at hk; cases hk
    | some j =>
      rw [hr] at hk
      obtain ⟨h1, h2⟩ := List.getElem?_eq_some_iff.mp hr
      rw [List.getElem_range] at h2
      cases hk
      rw [h2]
  refine ⟨fun i j p q hi hj hpq => ?_, fun k q hk => ?_⟩
  · have := key i p hi
    have := key j q hj
    omega
  · show zb G ≤ q.1
    rw [key k q hk]
    omega
theorem zR_lt {G : zG} {H : Heap} {n : Nat} {μ : Nat → va_E} (h : zR G H n μ) {a : Nat} (ha : μ a ≠ zdead) : a < n := by
  rcases Nat.lt_or_ge a n with q | q
  · exact q
  · exact absurd (h.2.2.2.2.1 a q) ha
/-- of an object, or of an array that isn't one of the constant ones: its place is 4 or above -/
theorem zR_in {G : zG} {H : Heap} {n : Nat} {μ : Nat → va_E} (h : zR G H n μ) {a : Nat} {c : va_E} (ha : μ a = c) (hc : match c with | .inl (k, _) => k ≠ 7 | .inr (ci, _) => ci ≠ 99) : 4 ≤ a ∧ a < n := by
  refine ⟨?_, zR_lt h (fun e => ?_)⟩
  · rcases Nat.lt_or_ge a 4 with q | q
    · have e := h.2.2.2.2.2 a q
      rw [ha] at e
      subst e
      exfalso
      match a, q with
      | 0, _ => exact hc rfl
      | 1, _ => exact hc rfl
      | 2, _ => exact hc rfl
      | 3, _ => exact hc rfl
    · exact q
  · rw [ha] at e
    subst e
    exact hc rfl
theorem zR_set {G : zG} {H H1 : Heap} {n : Nat} {μ : Nat → va_E} (h : zR G H n μ) {a : Nat} {c : va_E} (h4 : 4 ≤ a) (hn : a < n) (hP : va_P (zD G) zCl (zws G n (zu μ a c)) H1) (hs : H1.size = H.size) (hq : ∀ q, q < zb G → H1[q]? = H[q]?) : zR G H1 n (zu μ a c) :=
  ⟨h.1, hs.trans h.2.1, hP, fun q hl => (hq q hl).trans (h.2.2.2.1 q hl), fun i hi => by show (if i = a then c else μ i) = _; rw [if_neg (by omega)]; exact h.2.2.2.2.1 i hi, fun i hi => by show (if i = a then c else μ i) = _; rw [if_neg (by omega)]; exact h.2.2.2.2.2 i hi⟩
theorem zR_new {G : zG} {H H1 : Heap} {n : Nat} {μ : Nat → va_E} (h : zR G H n μ) {c : va_E} (hP : va_P (zD G) zCl (zws G (n + 1) (zu μ n c)) H1) (hs : H1.size = H.size + 1) (hq : ∀ q, q < zb G → H1[q]? = H[q]?) : zR G H1 (n + 1) (zu μ n c) :=
  ⟨by have := h.1; omega, by rw [hs, h.2.1]; have := h.1; omega, hP, fun q hl => (hq q hl).trans (h.2.2.2.1 q hl), fun i hi => by show (if i = n then c else μ i) = _; rw [if_neg (by omega)]; exact h.2.2.2.2.1 i (by omega), fun i hi => by have := h.1; show (if i = n then c else μ i) = _; rw [if_neg (by omega)]; exact h.2.2.2.2.2 i hi⟩
/-! ===== the two judgements ===== -/
def zRm (d mc ms : Nat) : Room := { frames := d, cells := mc, slots := ms, locals := 32 * d }
abbrev zwd (M : zM) : List Cond := Cond.code (mY M) (mC M) (mL M) (mR M) :: zT
def zPc (G : zG) (as : List Value) (n : Nat) (μ : Nat → va_E) : Array Value → State → Prop := va_Pc (as.map (zv G)) (fun U => zO G U ∧ zR G U.heap n μ)
/-- what a method comes to: an answer and a heap -/
abbrev zP : Type := Option Value → (Nat → va_E) → Prop
def zE (r : Option Value) (μ : Nat → va_E) : zP := fun r0 μ0 => r0 = r ∧ μ0 = μ
def zQc (G : zG) (Φ : zP) (n : Nat) : Array Value → State → Outcome → State → Prop := fun _ _ o t => ∃ (r : Option Value) (μ : Nat → va_E), o = .returned (r.map (zv G)) ∧ Φ r μ ∧ zR G t.heap n μ
/-- the method M, called with the values as, from the plain heap (n, u, μ), comes to an answer and a heap of n' cells and u' slots with Φ; d levels of calls are enough -/
def zMet (G : zG) (d : Nat) (M : zM) (as : List Value) (n u : Nat) (μ : Nat → va_E) (n' u' : Nat) (Φ : zP) : Prop :=
  n ≤ n' ∧ u ≤ u' ∧ Met (zl G) (mY M) (zwd M) (zRm d (n' - n) (u' - u)) (zPc G as n μ) (zQc G Φ n') (n' - n) (u' - u) (zQ G)
/-- what holds in the body of M -/
def zB (G : zG) (d : Nat) (M : zM) (p : Program) (R : Room) (s : State) (m : MethodId) (args : Array Value) (meth : Method) (c : Code) (n0 u0 nF uF : Nat) : Prop :=
  p.tables.exec = Jvm.exec ∧ c.code = mC M ∧ meth.sig.returnType = mR M ∧ c.maxLocals = mL M ∧ s.vm.findClass (mO M) = some m.cls ∧ (∀ w ∈ zT, w.before args s = true) ∧ zO G s ∧ meth.locks = false ∧ meth.name = (mY M).name ∧
  (∀ q, q < zb G → s.heap[q]? = (zH G)[q]?) ∧ s.heap.size = zb G + (n0 - 4) ∧ mOk M ∧ 4 ≤ n0 ∧ n0 ≤ nF ∧ u0 ≤ uF ∧ d ≤ R.frames ∧ 32 * d ≤ R.locals ∧ nF - n0 ≤ R.cells ∧ uF - u0 ≤ R.slots
/-- the body of M, at pc with the locals lv and the stack st, comes to its end with Φ and nF cells, uF slots -/
def zW (G : zG) (d : Nat) (M : zM) (pc : Nat) (lv st : List Value) (n u : Nat) (μ : Nat → va_E) (nF uF : Nat) (Φ : zP) : Prop :=
  ∀ (p : Program) (e : Env) (R : Room) (s : State) (m : MethodId) (args : Array Value) (below : List Frame) (meth : Method) (c : Code) (n0 u0 : Nat), zB G d M p R s m args meth c n0 u0 nF uF → n0 ≤ n → u0 ≤ u →
  ∀ (H : Heap) (locs : List Loc) (ls : Array Slot), zR G H n μ → (∀ q ∈ locs, zb G ≤ q.base) → zlv G ls (mL M) lv →
    W p (zl G) e R s m args below meth c H locs (n - n0) (u - u0) (MQ below (zQc G Φ nF) args s (nF - n0) (uF - u0) (zQ G)) (F0 m pc ls (st.map (zv G)))
/-! the heap as a list of cells from 4 on -/
def zmem (G : zG) (L : List va_E) : Nat → va_E := fun i => if i < 4 then zspec G i else L.getD (i - 4) zdead
theorem zmem_set {G : zG} {L : List va_E} {a : Nat} {c : va_E} (h4 : 4 ≤ a) (hl : a < L.length + 4) : zu (zmem G L) a c = zmem G (L.set (a - 4) c) := by
  funext i
  unfold zu zmem
  by_cases hi : i = a
  · subst hi
    rw [if_pos rfl, if_neg (by omega), List.getD_eq_getElem?_getD, List.getElem?_set_self (by omega)]
    rfl
  · rw [if_neg hi]
    by_cases h : i < 4
    · rw [if_pos h, if_pos h]
    · rw [if_neg h, if_neg h, List.getD_eq_getElem?_getD, List.getD_eq_getElem?_getD, List.getElem?_set_ne (by omega)]
theorem zmem_new {G : zG} {L : List va_E} {c : va_E} : zu (zmem G L) (L.length + 4) c = zmem G (L ++ [c]) := by
  funext i
  unfold zu zmem
  by_cases hi : i = L.length + 4
  · subst hi
    rw [if_pos rfl, if_neg (by omega), Nat.add_sub_cancel, List.getD_eq_getElem?_getD, List.getElem?_append_right (Nat.le_refl _), Nat.sub_self]
    rfl
  · rw [if_neg hi]
    by_cases h : i < 4
    · rw [if_pos h, if_pos h]
    · rw [if_neg h, if_neg h, List.getD_eq_getElem?_getD, List.getD_eq_getElem?_getD]
      rcases Nat.lt_or_ge (i - 4) L.length with q | q
      · rw [List.getElem?_append_left q]
      · rw [List.getElem?_eq_none q, List.getElem?_eq_none (by simp; omega)]
end
section
section ZR
variable {G : zG} {d : Nat} {M : zM} {pc pc' : Nat} {lv st : List Value} {n u : Nat} {μ : Nat → va_E} {nF uF : Nat} {Φ : zP}
theorem z_dec (h : mOk M) {k : Nat} {i : Instr} {len : Nat} (hk : (mI M)[k]? = some (pc, i, len)) : decode (mC M) pc = .ok (i, len) := by
  have h1 := List.all_eq_true.mp h (pc, i, len) (List.mem_of_getElem? hk)
  exact of_decide_eq_true h1
theorem zB_ok {p : Program} {R : Room} {s : State} {m : MethodId} {args : Array Value} {meth : Method} {c : Code} {n0 u0 : Nat} (B : zB G d M p R s m args meth c n0 u0 nF uF) : mOk M := B.2.2.2.2.2.2.2.2.2.2.2.1
/-- the entry -/
def zsl : List Value → List Value
  | [] => []
  | v :: t => if v.category = 2 then v :: .retAddr 0 :: zsl t else v :: zsl t
def zent (as : List Value) (k : Nat) : List Value := zsl as ++ List.replicate (k - (zsl as).length) (.retAddr 0)
theorem zal_junk (G : zG) : ∀ (k j : Nat), zal G j (List.replicate k (.retAddr 0)) = []
  | 0, _ => rfl
  | k + 1, j => by rw [List.replicate_succ]; show (if zj (.retAddr 0) = true then _ else _) = _; rw [if_pos (show zj (.retAddr 0) = true from rfl)]; exact zal_junk G k (j + 1)
theorem zal_ent (G : zG) (k : Nat) : ∀ (as : List Value) (j : Nat), ∀ q ∈ zal G j (zsl as ++ List.replicate k (.retAddr 0)), q ∈ lv_args j (as.map (zv G))
  | [], j, q, h => by rw [show zsl [] = [] from rfl, List.nil_append, zal_junk] at h; cases h
  | v :: t, j, q, h => by
    rw [List.map_cons, lv_args, zv_cat]
    unfold zsl at h
    by_cases hc : v.category = 2
    · rw [if_pos hc] at h ⊢
      rw [List.cons_append, List.cons_append] at h
      unfold zal at h
      by_cases hv : zj v = true
      · cases v <;> simp [zj] at hv
        simp [Value.category] at hc
      · rw [if_neg hv] at h
        rcases List.mem_cons.mp h with h | h
        · exact List.mem_cons.mpr (Or.inl h)
        · unfold zal at h
          rw [if_pos (show zj (.retAddr 0) = true from rfl)] at h
          exact List.mem_cons_of_mem _ (zal_ent G k t (j + 2) q h)
    · rw [if_neg hc] at h ⊢
      rw [List.cons_append] at h
      unfold zal at h
      by_cases hv : zj v = true
      · rw [if_pos hv] at h
        exact List.mem_cons_of_mem _ (zal_ent G k t (j + 1) q h)
      · rw [if_neg hv] at h
        rcases List.mem_cons.mp h with h | h
        · exact List.mem_cons.mpr (Or.inl h)
        · exact List.mem_cons_of_mem _ (zal_ent G k t (j + 1) q h)
theorem zsl_len (G : zG) : ∀ as : List Value, (lg_sl (as.map (zv G))).length = (zsl as).length
  | [] => rfl
  | v :: t => by
    have ih := zsl_len G t
    unfold lg_sl at ih ⊢
    rw [List.map_cons, List.flatMap_cons, List.length_append, ih, zv_cat, zsl]
    by_cases hc : v.category = 2
    · rw [if_pos hc, if_pos hc]; simp; omega
    · rw [if_neg hc, if_neg hc]; simp; omega
theorem z_start {as : List Value} {n' u' : Nat} (hok : mOk M) (hy : plainName (mY M).cls = true) (hown : (mY M).cls = mO M) (hn : n ≤ n') (hu : u ≤ u') (hl : (zsl as).length ≤ mL M) (hlv : zent as (mL M) = lv)
    (h : zW G d M 0 lv [] n u μ n' u' Φ) : zMet G d M as n u μ n' u' Φ := by
  refine ⟨hn, hu, Met.ofW (cc := mC M) (maxL := mL M) (ret := mR M) hy rfl ?_⟩
  intro p e s m args below meth c s₁ B hml hv
  obtain ⟨rfl, hO, hR⟩ := hv
  have hts := atoms_spec (ws := zwd M) B.pre
  have hle : (lg_sl (as.map (zv G))).length ≤ mL M := by rw [zsl_len]; exact hl
  have hls := lv_entry (as.map (zv G)) (n := mL M) hle
  rw [lg_entry_eq]
  have hB : zB G d M p (headSpec (zwd M) (zRm d (n' - n) (u' - u))).room s m (as.map (zv G)).toArray meth c n u n' u' :=
    ⟨B.exec, B.bytes, B.returns, hml, by rw [← hown]; exact findClass_of_methodNamed B.named, fun w hw => hts w (List.mem_cons_of_mem _ hw), hO, B.notSynchronized, (name_of_methodNamed B.named B.method).1, hR.2.2.2.1, hR.2.1, hok, hR.1, hn, hu, Nat.le_refl _, Nat.le_refl _, Nat.le_refl _, Nat.le_refl _⟩
  have k := h p e _ s m _ below meth c n u hB (Nat.le_refl _) (Nat.le_refl _) s.heap [] _ hR (fun q hq => by cases hq) (by
    rw [← hlv]
    exact ⟨hls.1, hls.2.1, fun q hq => hls.2.2 q (zal_ent G _ as 0 q hq)⟩)
  rw [Nat.sub_self, Nat.sub_self] at k
  exact k
theorem z_iconst {i : Int} {v : Int32} (hv : Int32.ofInt i = v) (k : Nat) (hd : (mI M)[k]? = some (pc, .iconst i, 1)) (hp : pc + 1 = pc') (kk : zW G d M pc' (lv) (.int v :: st) n u μ nF uF Φ) : zW G d M pc (lv) (st) n u μ nF uF Φ := by
  subst hp
  intro p e R s m args below meth c n0 u0 B h1 h2 H locs ls hR hl hlv
  exact lv_iconst B.1 B.2.1 (z_dec (zB_ok B) hd) hv (kk p e R s m args below meth c n0 u0 B h1 h2 H locs ls hR hl hlv)
theorem z_bipush {i : Int} {v : Int32} (hv : (Int8.ofInt i).toInt32 = v) (k : Nat) (hd : (mI M)[k]? = some (pc, .bipush i, 2)) (hp : pc + 2 = pc') (kk : zW G d M pc' (lv) (.int v :: st) n u μ nF uF Φ) : zW G d M pc (lv) (st) n u μ nF uF Φ := by
  subst hp
  intro p e R s m args below meth c n0 u0 B h1 h2 H locs ls hR hl hlv
  exact lv_bipush B.1 B.2.1 (z_dec (zB_ok B) hd) hv (kk p e R s m args below meth c n0 u0 B h1 h2 H locs ls hR hl hlv)
theorem z_sipush {i : Int} {v : Int32} (hv : (Int16.ofInt i).toInt32 = v) (k : Nat) (hd : (mI M)[k]? = some (pc, .sipush i, 3)) (hp : pc + 3 = pc') (kk : zW G d M pc' (lv) (.int v :: st) n u μ nF uF Φ) : zW G d M pc (lv) (st) n u μ nF uF Φ := by
  subst hp
  intro p e R s m args below meth c n0 u0 B h1 h2 H locs ls hR hl hlv
  exact lv_sipush B.1 B.2.1 (z_dec (zB_ok B) hd) hv (kk p e R s m args below meth c n0 u0 B h1 h2 H locs ls hR hl hlv)
theorem z_lconst {i : Fin 2} {v : Int64} (hv : Int64.ofNat (i : Nat) = v) (k : Nat) (hd : (mI M)[k]? = some (pc, .lconst i, 1)) (hp : pc + 1 = pc') (kk : zW G d M pc' (lv) (.long v :: st) n u μ nF uF Φ) : zW G d M pc (lv) (st) n u μ nF uF Φ := by
  subst hp
  intro p e R s m args below meth c n0 u0 B h1 h2 H locs ls hR hl hlv
  exact lv_lconst B.1 B.2.1 (z_dec (zB_ok B) hd) hv (kk p e R s m args below meth c n0 u0 B h1 h2 H locs ls hR hl hlv)
theorem z_ldc {i : Nat} {v : Int32} (hc : Cond.constant (mO M) i v ∈ zT) (k : Nat) (hd : (mI M)[k]? = some (pc, .ldc i, 2)) (hp : pc + 2 = pc') (kk : zW G d M pc' (lv) (.int v :: st) n u μ nF uF Φ) : zW G d M pc (lv) (st) n u μ nF uF Φ := by
  subst hp
  intro p e R s m args below meth c n0 u0 B h1 h2 H locs ls hR hl hlv
  exact lv_ldc B.1 B.2.1 B.2.2.2.2.1 (B.2.2.2.2.2.1 _ hc) (z_dec (zB_ok B) hd) (kk p e R s m args below meth c n0 u0 B h1 h2 H locs ls hR hl hlv)
theorem z_ldcw {i : Nat} {v : Int32} (hc : Cond.constant (mO M) i v ∈ zT) (k : Nat) (hd : (mI M)[k]? = some (pc, .ldc_w i, 3)) (hp : pc + 3 = pc') (kk : zW G d M pc' (lv) (.int v :: st) n u μ nF uF Φ) : zW G d M pc (lv) (st) n u μ nF uF Φ := by
  subst hp
  intro p e R s m args below meth c n0 u0 B h1 h2 H locs ls hR hl hlv
  exact lv_ldcw B.1 B.2.1 B.2.2.2.2.1 (B.2.2.2.2.2.1 _ hc) (z_dec (zB_ok B) hd) (kk p e R s m args below meth c n0 u0 B h1 h2 H locs ls hR hl hlv)
theorem z_ldc2 {i : Nat} {v : Int64} (hc : Cond.constantLong (mO M) i v ∈ zT) (k : Nat) (hd : (mI M)[k]? = some (pc, .ldc2_w i, 3)) (hp : pc + 3 = pc') (kk : zW G d M pc' (lv) (.long v :: st) n u μ nF uF Φ) : zW G d M pc (lv) (st) n u μ nF uF Φ := by
  subst hp
  intro p e R s m args below meth c n0 u0 B h1 h2 H locs ls hR hl hlv
  exact lv_ldc2 B.1 B.2.1 B.2.2.2.2.1 (B.2.2.2.2.2.1 _ hc) (z_dec (zB_ok B) hd) (kk p e R s m args below meth c n0 u0 B h1 h2 H locs ls hR hl hlv)
theorem z_aconst_null  (k : Nat) (hd : (mI M)[k]? = some (pc, .aconst_null, 1)) (hp : pc + 1 = pc') (kk : zW G d M pc' (lv) (.null :: st) n u μ nF uF Φ) : zW G d M pc (lv) (st) n u μ nF uF Φ := by
  subst hp
  intro p e R s m args below meth c n0 u0 B h1 h2 H locs ls hR hl hlv
  exact lv_null B.1 B.2.1 (z_dec (zB_ok B) hd) (kk p e R s m args below meth c n0 u0 B h1 h2 H locs ls hR hl hlv)
theorem z_iadd {x y : Int32} (k : Nat) (hd : (mI M)[k]? = some (pc, .iadd, 1)) (hp : pc + 1 = pc') (kk : zW G d M pc' (lv) (.int (x + y) :: st) n u μ nF uF Φ) : zW G d M pc (lv) (.int y :: .int x :: st) n u μ nF uF Φ := by
  subst hp
  intro p e R s m args below meth c n0 u0 B h1 h2 H locs ls hR hl hlv
  exact lv_iadd B.1 B.2.1 (z_dec (zB_ok B) hd) (kk p e R s m args below meth c n0 u0 B h1 h2 H locs ls hR hl hlv)
theorem z_isub {x y : Int32} (k : Nat) (hd : (mI M)[k]? = some (pc, .isub, 1)) (hp : pc + 1 = pc') (kk : zW G d M pc' (lv) (.int (x - y) :: st) n u μ nF uF Φ) : zW G d M pc (lv) (.int y :: .int x :: st) n u μ nF uF Φ := by
  subst hp
  intro p e R s m args below meth c n0 u0 B h1 h2 H locs ls hR hl hlv
  exact lv_isub B.1 B.2.1 (z_dec (zB_ok B) hd) (kk p e R s m args below meth c n0 u0 B h1 h2 H locs ls hR hl hlv)
theorem z_imul {x y : Int32} (k : Nat) (hd : (mI M)[k]? = some (pc, .imul, 1)) (hp : pc + 1 = pc') (kk : zW G d M pc' (lv) (.int (x * y) :: st) n u μ nF uF Φ) : zW G d M pc (lv) (.int y :: .int x :: st) n u μ nF uF Φ := by
  subst hp
  intro p e R s m args below meth c n0 u0 B h1 h2 H locs ls hR hl hlv
  exact lv_imul B.1 B.2.1 (z_dec (zB_ok B) hd) (kk p e R s m args below meth c n0 u0 B h1 h2 H locs ls hR hl hlv)
theorem z_iand {x y : Int32} (k : Nat) (hd : (mI M)[k]? = some (pc, .iand, 1)) (hp : pc + 1 = pc') (kk : zW G d M pc' (lv) (.int (x &&& y) :: st) n u μ nF uF Φ) : zW G d M pc (lv) (.int y :: .int x :: st) n u μ nF uF Φ := by
  subst hp
  intro p e R s m args below meth c n0 u0 B h1 h2 H locs ls hR hl hlv
  exact lv_iand B.1 B.2.1 (z_dec (zB_ok B) hd) (kk p e R s m args below meth c n0 u0 B h1 h2 H locs ls hR hl hlv)
theorem z_ior {x y : Int32} (k : Nat) (hd : (mI M)[k]? = some (pc, .ior, 1)) (hp : pc + 1 = pc') (kk : zW G d M pc' (lv) (.int (x ||| y) :: st) n u μ nF uF Φ) : zW G d M pc (lv) (.int y :: .int x :: st) n u μ nF uF Φ := by
  subst hp
  intro p e R s m args below meth c n0 u0 B h1 h2 H locs ls hR hl hlv
  exact lv_ior B.1 B.2.1 (z_dec (zB_ok B) hd) (kk p e R s m args below meth c n0 u0 B h1 h2 H locs ls hR hl hlv)
theorem z_ixor {x y : Int32} (k : Nat) (hd : (mI M)[k]? = some (pc, .ixor, 1)) (hp : pc + 1 = pc') (kk : zW G d M pc' (lv) (.int (x ^^^ y) :: st) n u μ nF uF Φ) : zW G d M pc (lv) (.int y :: .int x :: st) n u μ nF uF Φ := by
  subst hp
  intro p e R s m args below meth c n0 u0 B h1 h2 H locs ls hR hl hlv
  exact lv_ixor B.1 B.2.1 (z_dec (zB_ok B) hd) (kk p e R s m args below meth c n0 u0 B h1 h2 H locs ls hR hl hlv)
theorem z_ishl {x y : Int32} (k : Nat) (hd : (mI M)[k]? = some (pc, .ishl, 1)) (hp : pc + 1 = pc') (kk : zW G d M pc' (lv) (.int (x <<< (y &&& 31)) :: st) n u μ nF uF Φ) : zW G d M pc (lv) (.int y :: .int x :: st) n u μ nF uF Φ := by
  subst hp
  intro p e R s m args below meth c n0 u0 B h1 h2 H locs ls hR hl hlv
  exact lv_ishl B.1 B.2.1 (z_dec (zB_ok B) hd) (kk p e R s m args below meth c n0 u0 B h1 h2 H locs ls hR hl hlv)
theorem z_ishr {x y : Int32} (k : Nat) (hd : (mI M)[k]? = some (pc, .ishr, 1)) (hp : pc + 1 = pc') (kk : zW G d M pc' (lv) (.int (x >>> (y &&& 31)) :: st) n u μ nF uF Φ) : zW G d M pc (lv) (.int y :: .int x :: st) n u μ nF uF Φ := by
  subst hp
  intro p e R s m args below meth c n0 u0 B h1 h2 H locs ls hR hl hlv
  exact lv_ishr B.1 B.2.1 (z_dec (zB_ok B) hd) (kk p e R s m args below meth c n0 u0 B h1 h2 H locs ls hR hl hlv)
theorem z_idiv {x y : Int32} (hne : ¬ y = 0) (k : Nat) (hd : (mI M)[k]? = some (pc, .idiv, 1)) (hp : pc + 1 = pc') (kk : zW G d M pc' (lv) (.int (x / y) :: st) n u μ nF uF Φ) : zW G d M pc (lv) (.int y :: .int x :: st) n u μ nF uF Φ := by
  subst hp
  intro p e R s m args below meth c n0 u0 B h1 h2 H locs ls hR hl hlv
  exact lv_idiv B.1 B.2.1 (z_dec (zB_ok B) hd) hne (kk p e R s m args below meth c n0 u0 B h1 h2 H locs ls hR hl hlv)
theorem z_irem {x y : Int32} (hne : ¬ y = 0) (k : Nat) (hd : (mI M)[k]? = some (pc, .irem, 1)) (hp : pc + 1 = pc') (kk : zW G d M pc' (lv) (.int (x - x / y * y) :: st) n u μ nF uF Φ) : zW G d M pc (lv) (.int y :: .int x :: st) n u μ nF uF Φ := by
  subst hp
  intro p e R s m args below meth c n0 u0 B h1 h2 H locs ls hR hl hlv
  exact lv_irem B.1 B.2.1 (z_dec (zB_ok B) hd) hne (kk p e R s m args below meth c n0 u0 B h1 h2 H locs ls hR hl hlv)
theorem z_iushr {x y : Int32} (k : Nat) (hd : (mI M)[k]? = some (pc, .iushr, 1)) (hp : pc + 1 = pc') (kk : zW G d M pc' (lv) (.int (x.toUInt32 >>> (y.toUInt32 &&& Int32.toUInt32 31)).toInt32 :: st) n u μ nF uF Φ) : zW G d M pc (lv) (.int y :: .int x :: st) n u μ nF uF Φ := by
  subst hp
  intro p e R s m args below meth c n0 u0 B h1 h2 H locs ls hR hl hlv
  exact lv_iushr B.1 B.2.1 (z_dec (zB_ok B) hd) rfl (kk p e R s m args below meth c n0 u0 B h1 h2 H locs ls hR hl hlv)
theorem z_ladd {x y : Int64} (k : Nat) (hd : (mI M)[k]? = some (pc, .ladd, 1)) (hp : pc + 1 = pc') (kk : zW G d M pc' (lv) (.long (x + y) :: st) n u μ nF uF Φ) : zW G d M pc (lv) (.long y :: .long x :: st) n u μ nF uF Φ := by
  subst hp
  intro p e R s m args below meth c n0 u0 B h1 h2 H locs ls hR hl hlv
  exact lv_ladd B.1 B.2.1 (z_dec (zB_ok B) hd) (kk p e R s m args below meth c n0 u0 B h1 h2 H locs ls hR hl hlv)
theorem z_land {x y : Int64} (k : Nat) (hd : (mI M)[k]? = some (pc, .land, 1)) (hp : pc + 1 = pc') (kk : zW G d M pc' (lv) (.long (x &&& y) :: st) n u μ nF uF Φ) : zW G d M pc (lv) (.long y :: .long x :: st) n u μ nF uF Φ := by
  subst hp
  intro p e R s m args below meth c n0 u0 B h1 h2 H locs ls hR hl hlv
  exact lv_land B.1 B.2.1 (z_dec (zB_ok B) hd) (kk p e R s m args below meth c n0 u0 B h1 h2 H locs ls hR hl hlv)
theorem z_lor {x y : Int64} (k : Nat) (hd : (mI M)[k]? = some (pc, .lor, 1)) (hp : pc + 1 = pc') (kk : zW G d M pc' (lv) (.long (x ||| y) :: st) n u μ nF uF Φ) : zW G d M pc (lv) (.long y :: .long x :: st) n u μ nF uF Φ := by
  subst hp
  intro p e R s m args below meth c n0 u0 B h1 h2 H locs ls hR hl hlv
  exact lv_lor B.1 B.2.1 (z_dec (zB_ok B) hd) (kk p e R s m args below meth c n0 u0 B h1 h2 H locs ls hR hl hlv)
theorem z_lshl {x : Int64} {y : Int32} (k : Nat) (hd : (mI M)[k]? = some (pc, .lshl, 1)) (hp : pc + 1 = pc') (kk : zW G d M pc' (lv) (.long (x <<< (y.toInt64 &&& 63)) :: st) n u μ nF uF Φ) : zW G d M pc (lv) (.int y :: .long x :: st) n u μ nF uF Φ := by
  subst hp
  intro p e R s m args below meth c n0 u0 B h1 h2 H locs ls hR hl hlv
  exact lv_lshl B.1 B.2.1 (z_dec (zB_ok B) hd) rfl (kk p e R s m args below meth c n0 u0 B h1 h2 H locs ls hR hl hlv)
theorem z_lshr {x : Int64} {y : Int32} (k : Nat) (hd : (mI M)[k]? = some (pc, .lshr, 1)) (hp : pc + 1 = pc') (kk : zW G d M pc' (lv) (.long (x >>> (y.toInt64 &&& 63)) :: st) n u μ nF uF Φ) : zW G d M pc (lv) (.int y :: .long x :: st) n u μ nF uF Φ := by
  subst hp
  intro p e R s m args below meth c n0 u0 B h1 h2 H locs ls hR hl hlv
  exact lv_lshr B.1 B.2.1 (z_dec (zB_ok B) hd) rfl (kk p e R s m args below meth c n0 u0 B h1 h2 H locs ls hR hl hlv)
theorem z_lushr {x : Int64} {y : Int32} (k : Nat) (hd : (mI M)[k]? = some (pc, .lushr, 1)) (hp : pc + 1 = pc') (kk : zW G d M pc' (lv) (.long ((x.toUInt64 >>> (y.toInt64.toUInt64 &&& Int64.toUInt64 63)).toInt64) :: st) n u μ nF uF Φ) : zW G d M pc (lv) (.int y :: .long x :: st) n u μ nF uF Φ := by
  subst hp
  intro p e R s m args below meth c n0 u0 B h1 h2 H locs ls hR hl hlv
  exact lv_lushr B.1 B.2.1 (z_dec (zB_ok B) hd) rfl (kk p e R s m args below meth c n0 u0 B h1 h2 H locs ls hR hl hlv)
theorem z_lcmp {x y : Int64} (k : Nat) (hd : (mI M)[k]? = some (pc, .lcmp, 1)) (hp : pc + 1 = pc') (kk : zW G d M pc' (lv) (.int (lg_cmp x y) :: st) n u μ nF uF Φ) : zW G d M pc (lv) (.long y :: .long x :: st) n u μ nF uF Φ := by
  subst hp
  intro p e R s m args below meth c n0 u0 B h1 h2 H locs ls hR hl hlv
  exact W.lcmp B.1 B.2.1 (z_dec (zB_ok B) hd) (kk p e R s m args below meth c n0 u0 B h1 h2 H locs ls hR hl hlv)
theorem z_i2l {x : Int32} (k : Nat) (hd : (mI M)[k]? = some (pc, .i2l, 1)) (hp : pc + 1 = pc') (kk : zW G d M pc' (lv) (.long x.toInt64 :: st) n u μ nF uF Φ) : zW G d M pc (lv) (.int x :: st) n u μ nF uF Φ := by
  subst hp
  intro p e R s m args below meth c n0 u0 B h1 h2 H locs ls hR hl hlv
  exact lv_i2l B.1 B.2.1 (z_dec (zB_ok B) hd) rfl (kk p e R s m args below meth c n0 u0 B h1 h2 H locs ls hR hl hlv)
theorem z_l2i {x : Int64} (k : Nat) (hd : (mI M)[k]? = some (pc, .l2i, 1)) (hp : pc + 1 = pc') (kk : zW G d M pc' (lv) (.int x.toInt32 :: st) n u μ nF uF Φ) : zW G d M pc (lv) (.long x :: st) n u μ nF uF Φ := by
  subst hp
  intro p e R s m args below meth c n0 u0 B h1 h2 H locs ls hR hl hlv
  exact lv_l2i B.1 B.2.1 (z_dec (zB_ok B) hd) rfl (kk p e R s m args below meth c n0 u0 B h1 h2 H locs ls hR hl hlv)
theorem z_i2b {x : Int32} (k : Nat) (hd : (mI M)[k]? = some (pc, .i2b, 1)) (hp : pc + 1 = pc') (kk : zW G d M pc' (lv) (.int x.toInt8.toInt32 :: st) n u μ nF uF Φ) : zW G d M pc (lv) (.int x :: st) n u μ nF uF Φ := by
  subst hp
  intro p e R s m args below meth c n0 u0 B h1 h2 H locs ls hR hl hlv
  exact lv_i2b B.1 B.2.1 (z_dec (zB_ok B) hd) rfl (kk p e R s m args below meth c n0 u0 B h1 h2 H locs ls hR hl hlv)
theorem z_i2s {x : Int32} (k : Nat) (hd : (mI M)[k]? = some (pc, .i2s, 1)) (hp : pc + 1 = pc') (kk : zW G d M pc' (lv) (.int x.toInt16.toInt32 :: st) n u μ nF uF Φ) : zW G d M pc (lv) (.int x :: st) n u μ nF uF Φ := by
  subst hp
  intro p e R s m args below meth c n0 u0 B h1 h2 H locs ls hR hl hlv
  exact lv_i2s B.1 B.2.1 (z_dec (zB_ok B) hd) rfl (kk p e R s m args below meth c n0 u0 B h1 h2 H locs ls hR hl hlv)
theorem z_iaddN {a b : Nat}  (k : Nat) (hd : (mI M)[k]? = some (pc, .iadd, 1)) (hp : pc + 1 = pc') (kk : zW G d M pc' lv (.int (nI (a + b)) :: st) n u μ nF uF Φ) : zW G d M pc lv (.int (nI b) :: .int (nI a) :: st) n u μ nF uF Φ :=
  z_iadd k hd hp (by rw [nI_add]; exact kk)
theorem z_imulN {a b : Nat}  (k : Nat) (hd : (mI M)[k]? = some (pc, .imul, 1)) (hp : pc + 1 = pc') (kk : zW G d M pc' lv (.int (nI (a * b)) :: st) n u μ nF uF Φ) : zW G d M pc lv (.int (nI b) :: .int (nI a) :: st) n u μ nF uF Φ :=
  z_imul k hd hp (by rw [pk_mul]; exact kk)
theorem z_isubN {a b : Nat} (hb : b ≤ a) (k : Nat) (hd : (mI M)[k]? = some (pc, .isub, 1)) (hp : pc + 1 = pc') (kk : zW G d M pc' lv (.int (nI (a - b)) :: st) n u μ nF uF Φ) : zW G d M pc lv (.int (nI b) :: .int (nI a) :: st) n u μ nF uF Φ :=
  z_isub k hd hp (by rw [pk_sub hb]; exact kk)
theorem z_dup {v : Value} (hv : v.category = 1) (k : Nat) (hd : (mI M)[k]? = some (pc, .dup, 1)) (hp : pc + 1 = pc') (kk : zW G d M pc' (lv) (v :: v :: st) n u μ nF uF Φ) : zW G d M pc (lv) (v :: st) n u μ nF uF Φ := by
  subst hp
  intro p e R s m args below meth c n0 u0 B h1 h2 H locs ls hR hl hlv
  exact lv_dup B.1 B.2.1 (z_dec (zB_ok B) hd) (by rw [zv_cat]; exact hv) (kk p e R s m args below meth c n0 u0 B h1 h2 H locs ls hR hl hlv)
theorem z_dup2 {v w : Value} (hv : v.category = 1) (hw : w.category = 1) (k : Nat) (hd : (mI M)[k]? = some (pc, .dup2, 1)) (hp : pc + 1 = pc') (kk : zW G d M pc' (lv) (v :: w :: v :: w :: st) n u μ nF uF Φ) : zW G d M pc (lv) (v :: w :: st) n u μ nF uF Φ := by
  subst hp
  intro p e R s m args below meth c n0 u0 B h1 h2 H locs ls hR hl hlv
  exact lv_dup2_11 B.1 B.2.1 (z_dec (zB_ok B) hd) (by rw [zv_cat]; exact hv) (by rw [zv_cat]; exact hw) (kk p e R s m args below meth c n0 u0 B h1 h2 H locs ls hR hl hlv)
theorem z_pop {v : Value} (hv : v.category = 1) (k : Nat) (hd : (mI M)[k]? = some (pc, .pop, 1)) (hp : pc + 1 = pc') (kk : zW G d M pc' (lv) (st) n u μ nF uF Φ) : zW G d M pc (lv) (v :: st) n u μ nF uF Φ := by
  subst hp
  intro p e R s m args below meth c n0 u0 B h1 h2 H locs ls hR hl hlv
  exact lv_pop B.1 B.2.1 (z_dec (zB_ok B) hd) (by rw [zv_cat]; exact hv) (kk p e R s m args below meth c n0 u0 B h1 h2 H locs ls hR hl hlv)
theorem z_il0  {lv0 : List Value} {x : Int32} (k : Nat) (hd : (mI M)[k]? = some (pc, .iload_n 0, 1)) (hp : pc + 1 = pc') (kk : zW G d M pc' (.int x :: lv0) (.int x :: st) n u μ nF uF Φ) : zW G d M pc (.int x :: lv0) (st) n u μ nF uF Φ := by
  subst hp
  intro p e R s m args below meth c n0 u0 B h1 h2 H locs ls hR hl hlv
  exact lv_iload_n B.1 B.2.1 (z_dec (zB_ok B) hd) rfl (zlv_at hlv (i := 0) (v := .int x) rfl rfl) (kk p e R s m args below meth c n0 u0 B h1 h2 H locs ls hR hl hlv)
theorem z_al0  {lv0 : List Value} {x : Nat} (k : Nat) (hd : (mI M)[k]? = some (pc, .aload_n 0, 1)) (hp : pc + 1 = pc') (kk : zW G d M pc' (.ref x :: lv0) (.ref x :: st) n u μ nF uF Φ) : zW G d M pc (.ref x :: lv0) (st) n u μ nF uF Φ := by
  subst hp
  intro p e R s m args below meth c n0 u0 B h1 h2 H locs ls hR hl hlv
  exact lv_aload_n B.1 B.2.1 (z_dec (zB_ok B) hd) rfl (zlv_at hlv (i := 0) (v := .ref x) rfl rfl) (kk p e R s m args below meth c n0 u0 B h1 h2 H locs ls hR hl hlv)
theorem z_is0  {w : Value} {lv0 : List Value} {x : Int32}  (hm : Nat.ble 1 (mL M) = true) (k : Nat) (hd : (mI M)[k]? = some (pc, .istore_n 0, 1)) (hp : pc + 1 = pc') (kk : zW G d M pc' (.int x :: lv0) (st) n u μ nF uF Φ) : zW G d M pc (w :: lv0) (.int x :: st) n u μ nF uF Φ := by
  subst hp
  intro p e R s m args below meth c n0 u0 B h1 h2 H locs ls hR hl hlv
  exact lv_istore_n B.1 B.2.1 (z_dec (zB_ok B) hd) rfl hlv (Nat.le_of_ble_eq_true hm) rfl (fun ls1 hlv1 => kk p e R s m args below meth c n0 u0 B h1 h2 H locs ls1 hR hl (zlv_set (v := .int x) (lv := w :: lv0) hlv1 rfl))
theorem z_as0  {w : Value} {lv0 : List Value} {x : Nat}  (hm : Nat.ble 1 (mL M) = true) (k : Nat) (hd : (mI M)[k]? = some (pc, .astore_n 0, 1)) (hp : pc + 1 = pc') (kk : zW G d M pc' (.ref x :: lv0) (st) n u μ nF uF Φ) : zW G d M pc (w :: lv0) (.ref x :: st) n u μ nF uF Φ := by
  subst hp
  intro p e R s m args below meth c n0 u0 B h1 h2 H locs ls hR hl hlv
  exact lv_astore_n B.1 B.2.1 (z_dec (zB_ok B) hd) rfl hlv (Nat.le_of_ble_eq_true hm) rfl (fun ls1 hlv1 => kk p e R s m args below meth c n0 u0 B h1 h2 H locs ls1 hR hl (zlv_set (v := .ref x) (lv := w :: lv0) hlv1 rfl))
theorem z_inc0  {lv0 : List Value} {x v : Int32} {z : Int}  (hm : Nat.ble 1 (mL M) = true) (hv : x + Int32.ofInt z = v) (k : Nat) (hd : (mI M)[k]? = some (pc, .iinc 0 z, 3)) (hp : pc + 3 = pc') (kk : zW G d M pc' (.int v :: lv0) st n u μ nF uF Φ) : zW G d M pc (.int x :: lv0) st n u μ nF uF Φ := by
  subst hp
  intro p e R s m args below meth c n0 u0 B h1 h2 H locs ls hR hl hlv
  obtain ⟨k0, hk0⟩ := List.getElem?_of_mem ((zal_mem (G := G) (.int x :: lv0) 0 (0, .int x)).mpr ⟨0, .int x, rfl, rfl, by rw [Nat.zero_add]; rfl⟩)
  exact lv_iinc B.1 B.2.1 (z_dec (zB_ok B) hd) hlv hk0 hv (Nat.le_of_ble_eq_true hm) rfl (fun ls1 hlv1 => kk p e R s m args below meth c n0 u0 B h1 h2 H locs ls1 hR hl (zlv_set (v := .int v) (lv := .int x :: lv0) hlv1 rfl))
theorem z_inc0N  {lv0 : List Value} {j : Nat}  (hm : Nat.ble 1 (mL M) = true) (k : Nat) (hd : (mI M)[k]? = some (pc, .iinc 0 1, 3)) (hp : pc + 3 = pc') (kk : zW G d M pc' (.int (nI (j + 1)) :: lv0) st n u μ nF uF Φ) : zW G d M pc (.int (nI j) :: lv0) st n u μ nF uF Φ :=
  z_inc0  hm (show nI j + Int32.ofInt 1 = nI (j + 1) from nI_1 j) k hd hp kk
theorem z_less0  {w : Value} {lv0 : List Value} (kk : zW G d M pc (.retAddr 0 :: lv0) st n u μ nF uF Φ) : zW G d M pc (w :: lv0) st n u μ nF uF Φ := by
  intro p e R s m args below meth c n0 u0 B h1 h2 H locs ls hR hl hlv
  exact kk p e R s m args below meth c n0 u0 B h1 h2 H locs ls hR hl (zlv_less (i := 0) (a := 0) (lv := w :: lv0) hlv)
theorem z_il1 {a0 : Value} {lv0 : List Value} {x : Int32} (k : Nat) (hd : (mI M)[k]? = some (pc, .iload_n 1, 1)) (hp : pc + 1 = pc') (kk : zW G d M pc' (a0 :: .int x :: lv0) (.int x :: st) n u μ nF uF Φ) : zW G d M pc (a0 :: .int x :: lv0) (st) n u μ nF uF Φ := by
  subst hp
  intro p e R s m args below meth c n0 u0 B h1 h2 H locs ls hR hl hlv
  exact lv_iload_n B.1 B.2.1 (z_dec (zB_ok B) hd) rfl (zlv_at hlv (i := 1) (v := .int x) rfl rfl) (kk p e R s m args below meth c n0 u0 B h1 h2 H locs ls hR hl hlv)
theorem z_al1 {a0 : Value} {lv0 : List Value} {x : Nat} (k : Nat) (hd : (mI M)[k]? = some (pc, .aload_n 1, 1)) (hp : pc + 1 = pc') (kk : zW G d M pc' (a0 :: .ref x :: lv0) (.ref x :: st) n u μ nF uF Φ) : zW G d M pc (a0 :: .ref x :: lv0) (st) n u μ nF uF Φ := by
  subst hp
  intro p e R s m args below meth c n0 u0 B h1 h2 H locs ls hR hl hlv
  exact lv_aload_n B.1 B.2.1 (z_dec (zB_ok B) hd) rfl (zlv_at hlv (i := 1) (v := .ref x) rfl rfl) (kk p e R s m args below meth c n0 u0 B h1 h2 H locs ls hR hl hlv)
theorem z_ll1 {a0 : Value} {lv0 : List Value} {x : Int64} (k : Nat) (hd : (mI M)[k]? = some (pc, .lload_n 1, 1)) (hp : pc + 1 = pc') (kk : zW G d M pc' (a0 :: .long x :: lv0) (.long x :: st) n u μ nF uF Φ) : zW G d M pc (a0 :: .long x :: lv0) (st) n u μ nF uF Φ := by
  subst hp
  intro p e R s m args below meth c n0 u0 B h1 h2 H locs ls hR hl hlv
  exact lv_lload_n B.1 B.2.1 (z_dec (zB_ok B) hd) rfl (zlv_at hlv (i := 1) (v := .long x) rfl rfl) (kk p e R s m args below meth c n0 u0 B h1 h2 H locs ls hR hl hlv)
theorem z_is1 {a0 : Value} {w : Value} {lv0 : List Value} {x : Int32} (hs : Nat.beq a0.category 2 = false) (hm : Nat.ble 2 (mL M) = true) (k : Nat) (hd : (mI M)[k]? = some (pc, .istore_n 1, 1)) (hp : pc + 1 = pc') (kk : zW G d M pc' (a0 :: .int x :: lv0) (st) n u μ nF uF Φ) : zW G d M pc (a0 :: w :: lv0) (.int x :: st) n u μ nF uF Φ := by
  subst hp
  intro p e R s m args below meth c n0 u0 B h1 h2 H locs ls hR hl hlv
  exact lv_istore_n B.1 B.2.1 (z_dec (zB_ok B) hd) rfl hlv (Nat.le_of_ble_eq_true hm) rfl (fun ls1 hlv1 => kk p e R s m args below meth c n0 u0 B h1 h2 H locs ls1 hR hl (zlv_set (v := .int x) (lv := a0 :: w :: lv0) hlv1 (by show (a0.category != 2) = true; simpa using Nat.ne_of_beq_eq_false hs)))
theorem z_as1 {a0 : Value} {w : Value} {lv0 : List Value} {x : Nat} (hs : Nat.beq a0.category 2 = false) (hm : Nat.ble 2 (mL M) = true) (k : Nat) (hd : (mI M)[k]? = some (pc, .astore_n 1, 1)) (hp : pc + 1 = pc') (kk : zW G d M pc' (a0 :: .ref x :: lv0) (st) n u μ nF uF Φ) : zW G d M pc (a0 :: w :: lv0) (.ref x :: st) n u μ nF uF Φ := by
  subst hp
  intro p e R s m args below meth c n0 u0 B h1 h2 H locs ls hR hl hlv
  exact lv_astore_n B.1 B.2.1 (z_dec (zB_ok B) hd) rfl hlv (Nat.le_of_ble_eq_true hm) rfl (fun ls1 hlv1 => kk p e R s m args below meth c n0 u0 B h1 h2 H locs ls1 hR hl (zlv_set (v := .ref x) (lv := a0 :: w :: lv0) hlv1 (by show (a0.category != 2) = true; simpa using Nat.ne_of_beq_eq_false hs)))
theorem z_inc1 {a0 : Value} {lv0 : List Value} {x v : Int32} {z : Int} (hs : Nat.beq a0.category 2 = false) (hm : Nat.ble 2 (mL M) = true) (hv : x + Int32.ofInt z = v) (k : Nat) (hd : (mI M)[k]? = some (pc, .iinc 1 z, 3)) (hp : pc + 3 = pc') (kk : zW G d M pc' (a0 :: .int v :: lv0) st n u μ nF uF Φ) : zW G d M pc (a0 :: .int x :: lv0) st n u μ nF uF Φ := by
  subst hp
  intro p e R s m args below meth c n0 u0 B h1 h2 H locs ls hR hl hlv
  obtain ⟨k0, hk0⟩ := List.getElem?_of_mem ((zal_mem (G := G) (a0 :: .int x :: lv0) 0 (1, .int x)).mpr ⟨1, .int x, rfl, rfl, by rw [Nat.zero_add]; rfl⟩)
  exact lv_iinc B.1 B.2.1 (z_dec (zB_ok B) hd) hlv hk0 hv (Nat.le_of_ble_eq_true hm) rfl (fun ls1 hlv1 => kk p e R s m args below meth c n0 u0 B h1 h2 H locs ls1 hR hl (zlv_set (v := .int v) (lv := a0 :: .int x :: lv0) hlv1 (by show (a0.category != 2) = true; simpa using Nat.ne_of_beq_eq_false hs)))
theorem z_inc1N {a0 : Value} {lv0 : List Value} {j : Nat} (hs : Nat.beq a0.category 2 = false) (hm : Nat.ble 2 (mL M) = true) (k : Nat) (hd : (mI M)[k]? = some (pc, .iinc 1 1, 3)) (hp : pc + 3 = pc') (kk : zW G d M pc' (a0 :: .int (nI (j + 1)) :: lv0) st n u μ nF uF Φ) : zW G d M pc (a0 :: .int (nI j) :: lv0) st n u μ nF uF Φ :=
  z_inc1 hs hm (show nI j + Int32.ofInt 1 = nI (j + 1) from nI_1 j) k hd hp kk
theorem z_less1 {a0 : Value} {w : Value} {lv0 : List Value} (kk : zW G d M pc (a0 :: .retAddr 0 :: lv0) st n u μ nF uF Φ) : zW G d M pc (a0 :: w :: lv0) st n u μ nF uF Φ := by
  intro p e R s m args below meth c n0 u0 B h1 h2 H locs ls hR hl hlv
  exact kk p e R s m args below meth c n0 u0 B h1 h2 H locs ls hR hl (zlv_less (i := 1) (a := 0) (lv := a0 :: w :: lv0) hlv)
theorem z_il2 {a0 a1 : Value} {lv0 : List Value} {x : Int32} (k : Nat) (hd : (mI M)[k]? = some (pc, .iload_n 2, 1)) (hp : pc + 1 = pc') (kk : zW G d M pc' (a0 :: a1 :: .int x :: lv0) (.int x :: st) n u μ nF uF Φ) : zW G d M pc (a0 :: a1 :: .int x :: lv0) (st) n u μ nF uF Φ := by
  subst hp
  intro p e R s m args below meth c n0 u0 B h1 h2 H locs ls hR hl hlv
  exact lv_iload_n B.1 B.2.1 (z_dec (zB_ok B) hd) rfl (zlv_at hlv (i := 2) (v := .int x) rfl rfl) (kk p e R s m args below meth c n0 u0 B h1 h2 H locs ls hR hl hlv)
theorem z_al2 {a0 a1 : Value} {lv0 : List Value} {x : Nat} (k : Nat) (hd : (mI M)[k]? = some (pc, .aload_n 2, 1)) (hp : pc + 1 = pc') (kk : zW G d M pc' (a0 :: a1 :: .ref x :: lv0) (.ref x :: st) n u μ nF uF Φ) : zW G d M pc (a0 :: a1 :: .ref x :: lv0) (st) n u μ nF uF Φ := by
  subst hp
  intro p e R s m args below meth c n0 u0 B h1 h2 H locs ls hR hl hlv
  exact lv_aload_n B.1 B.2.1 (z_dec (zB_ok B) hd) rfl (zlv_at hlv (i := 2) (v := .ref x) rfl rfl) (kk p e R s m args below meth c n0 u0 B h1 h2 H locs ls hR hl hlv)
theorem z_ll2 {a0 a1 : Value} {lv0 : List Value} {x : Int64} (k : Nat) (hd : (mI M)[k]? = some (pc, .lload_n 2, 1)) (hp : pc + 1 = pc') (kk : zW G d M pc' (a0 :: a1 :: .long x :: lv0) (.long x :: st) n u μ nF uF Φ) : zW G d M pc (a0 :: a1 :: .long x :: lv0) (st) n u μ nF uF Φ := by
  subst hp
  intro p e R s m args below meth c n0 u0 B h1 h2 H locs ls hR hl hlv
  exact lv_lload_n B.1 B.2.1 (z_dec (zB_ok B) hd) rfl (zlv_at hlv (i := 2) (v := .long x) rfl rfl) (kk p e R s m args below meth c n0 u0 B h1 h2 H locs ls hR hl hlv)
theorem z_is2 {a0 a1 : Value} {w : Value} {lv0 : List Value} {x : Int32} (hs : Nat.beq a1.category 2 = false) (hm : Nat.ble 3 (mL M) = true) (k : Nat) (hd : (mI M)[k]? = some (pc, .istore_n 2, 1)) (hp : pc + 1 = pc') (kk : zW G d M pc' (a0 :: a1 :: .int x :: lv0) (st) n u μ nF uF Φ) : zW G d M pc (a0 :: a1 :: w :: lv0) (.int x :: st) n u μ nF uF Φ := by
  subst hp
  intro p e R s m args below meth c n0 u0 B h1 h2 H locs ls hR hl hlv
  exact lv_istore_n B.1 B.2.1 (z_dec (zB_ok B) hd) rfl hlv (Nat.le_of_ble_eq_true hm) rfl (fun ls1 hlv1 => kk p e R s m args below meth c n0 u0 B h1 h2 H locs ls1 hR hl (zlv_set (v := .int x) (lv := a0 :: a1 :: w :: lv0) hlv1 (by show (a1.category != 2) = true; simpa using Nat.ne_of_beq_eq_false hs)))
theorem z_as2 {a0 a1 : Value} {w : Value} {lv0 : List Value} {x : Nat} (hs : Nat.beq a1.category 2 = false) (hm : Nat.ble 3 (mL M) = true) (k : Nat) (hd : (mI M)[k]? = some (pc, .astore_n 2, 1)) (hp : pc + 1 = pc') (kk : zW G d M pc' (a0 :: a1 :: .ref x :: lv0) (st) n u μ nF uF Φ) : zW G d M pc (a0 :: a1 :: w :: lv0) (.ref x :: st) n u μ nF uF Φ := by
  subst hp
  intro p e R s m args below meth c n0 u0 B h1 h2 H locs ls hR hl hlv
  exact lv_astore_n B.1 B.2.1 (z_dec (zB_ok B) hd) rfl hlv (Nat.le_of_ble_eq_true hm) rfl (fun ls1 hlv1 => kk p e R s m args below meth c n0 u0 B h1 h2 H locs ls1 hR hl (zlv_set (v := .ref x) (lv := a0 :: a1 :: w :: lv0) hlv1 (by show (a1.category != 2) = true; simpa using Nat.ne_of_beq_eq_false hs)))
theorem z_inc2 {a0 a1 : Value} {lv0 : List Value} {x v : Int32} {z : Int} (hs : Nat.beq a1.category 2 = false) (hm : Nat.ble 3 (mL M) = true) (hv : x + Int32.ofInt z = v) (k : Nat) (hd : (mI M)[k]? = some (pc, .iinc 2 z, 3)) (hp : pc + 3 = pc') (kk : zW G d M pc' (a0 :: a1 :: .int v :: lv0) st n u μ nF uF Φ) : zW G d M pc (a0 :: a1 :: .int x :: lv0) st n u μ nF uF Φ := by
  subst hp
  intro p e R s m args below meth c n0 u0 B h1 h2 H locs ls hR hl hlv
  obtain ⟨k0, hk0⟩ := List.getElem?_of_mem ((zal_mem (G := G) (a0 :: a1 :: .int x :: lv0) 0 (2, .int x)).mpr ⟨2, .int x, rfl, rfl, by rw [Nat.zero_add]; rfl⟩)
  exact lv_iinc B.1 B.2.1 (z_dec (zB_ok B) hd) hlv hk0 hv (Nat.le_of_ble_eq_true hm) rfl (fun ls1 hlv1 => kk p e R s m args below meth c n0 u0 B h1 h2 H locs ls1 hR hl (zlv_set (v := .int v) (lv := a0 :: a1 :: .int x :: lv0) hlv1 (by show (a1.category != 2) = true; simpa using Nat.ne_of_beq_eq_false hs)))
theorem z_inc2N {a0 a1 : Value} {lv0 : List Value} {j : Nat} (hs : Nat.beq a1.category 2 = false) (hm : Nat.ble 3 (mL M) = true) (k : Nat) (hd : (mI M)[k]? = some (pc, .iinc 2 1, 3)) (hp : pc + 3 = pc') (kk : zW G d M pc' (a0 :: a1 :: .int (nI (j + 1)) :: lv0) st n u μ nF uF Φ) : zW G d M pc (a0 :: a1 :: .int (nI j) :: lv0) st n u μ nF uF Φ :=
  z_inc2 hs hm (show nI j + Int32.ofInt 1 = nI (j + 1) from nI_1 j) k hd hp kk
theorem z_less2 {a0 a1 : Value} {w : Value} {lv0 : List Value} (kk : zW G d M pc (a0 :: a1 :: .retAddr 0 :: lv0) st n u μ nF uF Φ) : zW G d M pc (a0 :: a1 :: w :: lv0) st n u μ nF uF Φ := by
  intro p e R s m args below meth c n0 u0 B h1 h2 H locs ls hR hl hlv
  exact kk p e R s m args below meth c n0 u0 B h1 h2 H locs ls hR hl (zlv_less (i := 2) (a := 0) (lv := a0 :: a1 :: w :: lv0) hlv)
theorem z_il3 {a0 a1 a2 : Value} {lv0 : List Value} {x : Int32} (k : Nat) (hd : (mI M)[k]? = some (pc, .iload_n 3, 1)) (hp : pc + 1 = pc') (kk : zW G d M pc' (a0 :: a1 :: a2 :: .int x :: lv0) (.int x :: st) n u μ nF uF Φ) : zW G d M pc (a0 :: a1 :: a2 :: .int x :: lv0) (st) n u μ nF uF Φ := by
  subst hp
  intro p e R s m args below meth c n0 u0 B h1 h2 H locs ls hR hl hlv
  exact lv_iload_n B.1 B.2.1 (z_dec (zB_ok B) hd) rfl (zlv_at hlv (i := 3) (v := .int x) rfl rfl) (kk p e R s m args below meth c n0 u0 B h1 h2 H locs ls hR hl hlv)
theorem z_al3 {a0 a1 a2 : Value} {lv0 : List Value} {x : Nat} (k : Nat) (hd : (mI M)[k]? = some (pc, .aload_n 3, 1)) (hp : pc + 1 = pc') (kk : zW G d M pc' (a0 :: a1 :: a2 :: .ref x :: lv0) (.ref x :: st) n u μ nF uF Φ) : zW G d M pc (a0 :: a1 :: a2 :: .ref x :: lv0) (st) n u μ nF uF Φ := by
  subst hp
  intro p e R s m args below meth c n0 u0 B h1 h2 H locs ls hR hl hlv
  exact lv_aload_n B.1 B.2.1 (z_dec (zB_ok B) hd) rfl (zlv_at hlv (i := 3) (v := .ref x) rfl rfl) (kk p e R s m args below meth c n0 u0 B h1 h2 H locs ls hR hl hlv)
theorem z_is3 {a0 a1 a2 : Value} {w : Value} {lv0 : List Value} {x : Int32} (hs : Nat.beq a2.category 2 = false) (hm : Nat.ble 4 (mL M) = true) (k : Nat) (hd : (mI M)[k]? = some (pc, .istore_n 3, 1)) (hp : pc + 1 = pc') (kk : zW G d M pc' (a0 :: a1 :: a2 :: .int x :: lv0) (st) n u μ nF uF Φ) : zW G d M pc (a0 :: a1 :: a2 :: w :: lv0) (.int x :: st) n u μ nF uF Φ := by
  subst hp
  intro p e R s m args below meth c n0 u0 B h1 h2 H locs ls hR hl hlv
  exact lv_istore_n B.1 B.2.1 (z_dec (zB_ok B) hd) rfl hlv (Nat.le_of_ble_eq_true hm) rfl (fun ls1 hlv1 => kk p e R s m args below meth c n0 u0 B h1 h2 H locs ls1 hR hl (zlv_set (v := .int x) (lv := a0 :: a1 :: a2 :: w :: lv0) hlv1 (by show (a2.category != 2) = true; simpa using Nat.ne_of_beq_eq_false hs)))
theorem z_as3 {a0 a1 a2 : Value} {w : Value} {lv0 : List Value} {x : Nat} (hs : Nat.beq a2.category 2 = false) (hm : Nat.ble 4 (mL M) = true) (k : Nat) (hd : (mI M)[k]? = some (pc, .astore_n 3, 1)) (hp : pc + 1 = pc') (kk : zW G d M pc' (a0 :: a1 :: a2 :: .ref x :: lv0) (st) n u μ nF uF Φ) : zW G d M pc (a0 :: a1 :: a2 :: w :: lv0) (.ref x :: st) n u μ nF uF Φ := by
  subst hp
  intro p e R s m args below meth c n0 u0 B h1 h2 H locs ls hR hl hlv
  exact lv_astore_n B.1 B.2.1 (z_dec (zB_ok B) hd) rfl hlv (Nat.le_of_ble_eq_true hm) rfl (fun ls1 hlv1 => kk p e R s m args below meth c n0 u0 B h1 h2 H locs ls1 hR hl (zlv_set (v := .ref x) (lv := a0 :: a1 :: a2 :: w :: lv0) hlv1 (by show (a2.category != 2) = true; simpa using Nat.ne_of_beq_eq_false hs)))
theorem z_inc3 {a0 a1 a2 : Value} {lv0 : List Value} {x v : Int32} {z : Int} (hs : Nat.beq a2.category 2 = false) (hm : Nat.ble 4 (mL M) = true) (hv : x + Int32.ofInt z = v) (k : Nat) (hd : (mI M)[k]? = some (pc, .iinc 3 z, 3)) (hp : pc + 3 = pc') (kk : zW G d M pc' (a0 :: a1 :: a2 :: .int v :: lv0) st n u μ nF uF Φ) : zW G d M pc (a0 :: a1 :: a2 :: .int x :: lv0) st n u μ nF uF Φ := by
  subst hp
  intro p e R s m args below meth c n0 u0 B h1 h2 H locs ls hR hl hlv
  obtain ⟨k0, hk0⟩ := List.getElem?_of_mem ((zal_mem (G := G) (a0 :: a1 :: a2 :: .int x :: lv0) 0 (3, .int x)).mpr ⟨3, .int x, rfl, rfl, by rw [Nat.zero_add]; rfl⟩)
  exact lv_iinc B.1 B.2.1 (z_dec (zB_ok B) hd) hlv hk0 hv (Nat.le_of_ble_eq_true hm) rfl (fun ls1 hlv1 => kk p e R s m args below meth c n0 u0 B h1 h2 H locs ls1 hR hl (zlv_set (v := .int v) (lv := a0 :: a1 :: a2 :: .int x :: lv0) hlv1 (by show (a2.category != 2) = true; simpa using Nat.ne_of_beq_eq_false hs)))
theorem z_inc3N {a0 a1 a2 : Value} {lv0 : List Value} {j : Nat} (hs : Nat.beq a2.category 2 = false) (hm : Nat.ble 4 (mL M) = true) (k : Nat) (hd : (mI M)[k]? = some (pc, .iinc 3 1, 3)) (hp : pc + 3 = pc') (kk : zW G d M pc' (a0 :: a1 :: a2 :: .int (nI (j + 1)) :: lv0) st n u μ nF uF Φ) : zW G d M pc (a0 :: a1 :: a2 :: .int (nI j) :: lv0) st n u μ nF uF Φ :=
  z_inc3 hs hm (show nI j + Int32.ofInt 1 = nI (j + 1) from nI_1 j) k hd hp kk
theorem z_less3 {a0 a1 a2 : Value} {w : Value} {lv0 : List Value} (kk : zW G d M pc (a0 :: a1 :: a2 :: .retAddr 0 :: lv0) st n u μ nF uF Φ) : zW G d M pc (a0 :: a1 :: a2 :: w :: lv0) st n u μ nF uF Φ := by
  intro p e R s m args below meth c n0 u0 B h1 h2 H locs ls hR hl hlv
  exact kk p e R s m args below meth c n0 u0 B h1 h2 H locs ls hR hl (zlv_less (i := 3) (a := 0) (lv := a0 :: a1 :: a2 :: w :: lv0) hlv)
theorem z_il4 {a0 a1 a2 a3 : Value} {lv0 : List Value} {x : Int32} (k : Nat) (hd : (mI M)[k]? = some (pc, .iload 4, 2)) (hp : pc + 2 = pc') (kk : zW G d M pc' (a0 :: a1 :: a2 :: a3 :: .int x :: lv0) (.int x :: st) n u μ nF uF Φ) : zW G d M pc (a0 :: a1 :: a2 :: a3 :: .int x :: lv0) (st) n u μ nF uF Φ := by
  subst hp
  intro p e R s m args below meth c n0 u0 B h1 h2 H locs ls hR hl hlv
  exact lv_iload B.1 B.2.1 (z_dec (zB_ok B) hd) (zlv_at hlv (i := 4) (v := .int x) rfl rfl) (kk p e R s m args below meth c n0 u0 B h1 h2 H locs ls hR hl hlv)
theorem z_al4 {a0 a1 a2 a3 : Value} {lv0 : List Value} {x : Nat} (k : Nat) (hd : (mI M)[k]? = some (pc, .aload 4, 2)) (hp : pc + 2 = pc') (kk : zW G d M pc' (a0 :: a1 :: a2 :: a3 :: .ref x :: lv0) (.ref x :: st) n u μ nF uF Φ) : zW G d M pc (a0 :: a1 :: a2 :: a3 :: .ref x :: lv0) (st) n u μ nF uF Φ := by
  subst hp
  intro p e R s m args below meth c n0 u0 B h1 h2 H locs ls hR hl hlv
  exact lv_aload B.1 B.2.1 (z_dec (zB_ok B) hd) (zlv_at hlv (i := 4) (v := .ref x) rfl rfl) (kk p e R s m args below meth c n0 u0 B h1 h2 H locs ls hR hl hlv)
theorem z_is4 {a0 a1 a2 a3 : Value} {w : Value} {lv0 : List Value} {x : Int32} (hs : Nat.beq a3.category 2 = false) (hm : Nat.ble 5 (mL M) = true) (k : Nat) (hd : (mI M)[k]? = some (pc, .istore 4, 2)) (hp : pc + 2 = pc') (kk : zW G d M pc' (a0 :: a1 :: a2 :: a3 :: .int x :: lv0) (st) n u μ nF uF Φ) : zW G d M pc (a0 :: a1 :: a2 :: a3 :: w :: lv0) (.int x :: st) n u μ nF uF Φ := by
  subst hp
  intro p e R s m args below meth c n0 u0 B h1 h2 H locs ls hR hl hlv
  exact lv_istore B.1 B.2.1 (z_dec (zB_ok B) hd) hlv (Nat.le_of_ble_eq_true hm) rfl (fun ls1 hlv1 => kk p e R s m args below meth c n0 u0 B h1 h2 H locs ls1 hR hl (zlv_set (v := .int x) (lv := a0 :: a1 :: a2 :: a3 :: w :: lv0) hlv1 (by show (a3.category != 2) = true; simpa using Nat.ne_of_beq_eq_false hs)))
theorem z_as4 {a0 a1 a2 a3 : Value} {w : Value} {lv0 : List Value} {x : Nat} (hs : Nat.beq a3.category 2 = false) (hm : Nat.ble 5 (mL M) = true) (k : Nat) (hd : (mI M)[k]? = some (pc, .astore 4, 2)) (hp : pc + 2 = pc') (kk : zW G d M pc' (a0 :: a1 :: a2 :: a3 :: .ref x :: lv0) (st) n u μ nF uF Φ) : zW G d M pc (a0 :: a1 :: a2 :: a3 :: w :: lv0) (.ref x :: st) n u μ nF uF Φ := by
  subst hp
  intro p e R s m args below meth c n0 u0 B h1 h2 H locs ls hR hl hlv
  exact lv_astore B.1 B.2.1 (z_dec (zB_ok B) hd) hlv (Nat.le_of_ble_eq_true hm) rfl (fun ls1 hlv1 => kk p e R s m args below meth c n0 u0 B h1 h2 H locs ls1 hR hl (zlv_set (v := .ref x) (lv := a0 :: a1 :: a2 :: a3 :: w :: lv0) hlv1 (by show (a3.category != 2) = true; simpa using Nat.ne_of_beq_eq_false hs)))
theorem z_inc4 {a0 a1 a2 a3 : Value} {lv0 : List Value} {x v : Int32} {z : Int} (hs : Nat.beq a3.category 2 = false) (hm : Nat.ble 5 (mL M) = true) (hv : x + Int32.ofInt z = v) (k : Nat) (hd : (mI M)[k]? = some (pc, .iinc 4 z, 3)) (hp : pc + 3 = pc') (kk : zW G d M pc' (a0 :: a1 :: a2 :: a3 :: .int v :: lv0) st n u μ nF uF Φ) : zW G d M pc (a0 :: a1 :: a2 :: a3 :: .int x :: lv0) st n u μ nF uF Φ := by
  subst hp
  intro p e R s m args below meth c n0 u0 B h1 h2 H locs ls hR hl hlv
  obtain ⟨k0, hk0⟩ := List.getElem?_of_mem ((zal_mem (G := G) (a0 :: a1 :: a2 :: a3 :: .int x :: lv0) 0 (4, .int x)).mpr ⟨4, .int x, rfl, rfl, by rw [Nat.zero_add]; rfl⟩)
  exact lv_iinc B.1 B.2.1 (z_dec (zB_ok B) hd) hlv hk0 hv (Nat.le_of_ble_eq_true hm) rfl (fun ls1 hlv1 => kk p e R s m args below meth c n0 u0 B h1 h2 H locs ls1 hR hl (zlv_set (v := .int v) (lv := a0 :: a1 :: a2 :: a3 :: .int x :: lv0) hlv1 (by show (a3.category != 2) = true; simpa using Nat.ne_of_beq_eq_false hs)))
theorem z_inc4N {a0 a1 a2 a3 : Value} {lv0 : List Value} {j : Nat} (hs : Nat.beq a3.category 2 = false) (hm : Nat.ble 5 (mL M) = true) (k : Nat) (hd : (mI M)[k]? = some (pc, .iinc 4 1, 3)) (hp : pc + 3 = pc') (kk : zW G d M pc' (a0 :: a1 :: a2 :: a3 :: .int (nI (j + 1)) :: lv0) st n u μ nF uF Φ) : zW G d M pc (a0 :: a1 :: a2 :: a3 :: .int (nI j) :: lv0) st n u μ nF uF Φ :=
  z_inc4 hs hm (show nI j + Int32.ofInt 1 = nI (j + 1) from nI_1 j) k hd hp kk
theorem z_less4 {a0 a1 a2 a3 : Value} {w : Value} {lv0 : List Value} (kk : zW G d M pc (a0 :: a1 :: a2 :: a3 :: .retAddr 0 :: lv0) st n u μ nF uF Φ) : zW G d M pc (a0 :: a1 :: a2 :: a3 :: w :: lv0) st n u μ nF uF Φ := by
  intro p e R s m args below meth c n0 u0 B h1 h2 H locs ls hR hl hlv
  exact kk p e R s m args below meth c n0 u0 B h1 h2 H locs ls hR hl (zlv_less (i := 4) (a := 0) (lv := a0 :: a1 :: a2 :: a3 :: w :: lv0) hlv)
theorem z_il5 {a0 a1 a2 a3 a4 : Value} {lv0 : List Value} {x : Int32} (k : Nat) (hd : (mI M)[k]? = some (pc, .iload 5, 2)) (hp : pc + 2 = pc') (kk : zW G d M pc' (a0 :: a1 :: a2 :: a3 :: a4 :: .int x :: lv0) (.int x :: st) n u μ nF uF Φ) : zW G d M pc (a0 :: a1 :: a2 :: a3 :: a4 :: .int x :: lv0) (st) n u μ nF uF Φ := by
  subst hp
  intro p e R s m args below meth c n0 u0 B h1 h2 H locs ls hR hl hlv
  exact lv_iload B.1 B.2.1 (z_dec (zB_ok B) hd) (zlv_at hlv (i := 5) (v := .int x) rfl rfl) (kk p e R s m args below meth c n0 u0 B h1 h2 H locs ls hR hl hlv)
theorem z_al5 {a0 a1 a2 a3 a4 : Value} {lv0 : List Value} {x : Nat} (k : Nat) (hd : (mI M)[k]? = some (pc, .aload 5, 2)) (hp : pc + 2 = pc') (kk : zW G d M pc' (a0 :: a1 :: a2 :: a3 :: a4 :: .ref x :: lv0) (.ref x :: st) n u μ nF uF Φ) : zW G d M pc (a0 :: a1 :: a2 :: a3 :: a4 :: .ref x :: lv0) (st) n u μ nF uF Φ := by
  subst hp
  intro p e R s m args below meth c n0 u0 B h1 h2 H locs ls hR hl hlv
  exact lv_aload B.1 B.2.1 (z_dec (zB_ok B) hd) (zlv_at hlv (i := 5) (v := .ref x) rfl rfl) (kk p e R s m args below meth c n0 u0 B h1 h2 H locs ls hR hl hlv)
theorem z_is5 {a0 a1 a2 a3 a4 : Value} {w : Value} {lv0 : List Value} {x : Int32} (hs : Nat.beq a4.category 2 = false) (hm : Nat.ble 6 (mL M) = true) (k : Nat) (hd : (mI M)[k]? = some (pc, .istore 5, 2)) (hp : pc + 2 = pc') (kk : zW G d M pc' (a0 :: a1 :: a2 :: a3 :: a4 :: .int x :: lv0) (st) n u μ nF uF Φ) : zW G d M pc (a0 :: a1 :: a2 :: a3 :: a4 :: w :: lv0) (.int x :: st) n u μ nF uF Φ := by
  subst hp
  intro p e R s m args below meth c n0 u0 B h1 h2 H locs ls hR hl hlv
  exact lv_istore B.1 B.2.1 (z_dec (zB_ok B) hd) hlv (Nat.le_of_ble_eq_true hm) rfl (fun ls1 hlv1 => kk p e R s m args below meth c n0 u0 B h1 h2 H locs ls1 hR hl (zlv_set (v := .int x) (lv := a0 :: a1 :: a2 :: a3 :: a4 :: w :: lv0) hlv1 (by show (a4.category != 2) = true; simpa using Nat.ne_of_beq_eq_false hs)))
theorem z_as5 {a0 a1 a2 a3 a4 : Value} {w : Value} {lv0 : List Value} {x : Nat} (hs : Nat.beq a4.category 2 = false) (hm : Nat.ble 6 (mL M) = true) (k : Nat) (hd : (mI M)[k]? = some (pc, .astore 5, 2)) (hp : pc + 2 = pc') (kk : zW G d M pc' (a0 :: a1 :: a2 :: a3 :: a4 :: .ref x :: lv0) (st) n u μ nF uF Φ) : zW G d M pc (a0 :: a1 :: a2 :: a3 :: a4 :: w :: lv0) (.ref x :: st) n u μ nF uF Φ := by
  subst hp
  intro p e R s m args below meth c n0 u0 B h1 h2 H locs ls hR hl hlv
  exact lv_astore B.1 B.2.1 (z_dec (zB_ok B) hd) hlv (Nat.le_of_ble_eq_true hm) rfl (fun ls1 hlv1 => kk p e R s m args below meth c n0 u0 B h1 h2 H locs ls1 hR hl (zlv_set (v := .ref x) (lv := a0 :: a1 :: a2 :: a3 :: a4 :: w :: lv0) hlv1 (by show (a4.category != 2) = true; simpa using Nat.ne_of_beq_eq_false hs)))
theorem z_inc5 {a0 a1 a2 a3 a4 : Value} {lv0 : List Value} {x v : Int32} {z : Int} (hs : Nat.beq a4.category 2 = false) (hm : Nat.ble 6 (mL M) = true) (hv : x + Int32.ofInt z = v) (k : Nat) (hd : (mI M)[k]? = some (pc, .iinc 5 z, 3)) (hp : pc + 3 = pc') (kk : zW G d M pc' (a0 :: a1 :: a2 :: a3 :: a4 :: .int v :: lv0) st n u μ nF uF Φ) : zW G d M pc (a0 :: a1 :: a2 :: a3 :: a4 :: .int x :: lv0) st n u μ nF uF Φ := by
  subst hp
  intro p e R s m args below meth c n0 u0 B h1 h2 H locs ls hR hl hlv
  obtain ⟨k0, hk0⟩ := List.getElem?_of_mem ((zal_mem (G := G) (a0 :: a1 :: a2 :: a3 :: a4 :: .int x :: lv0) 0 (5, .int x)).mpr ⟨5, .int x, rfl, rfl, by rw [Nat.zero_add]; rfl⟩)
  exact lv_iinc B.1 B.2.1 (z_dec (zB_ok B) hd) hlv hk0 hv (Nat.le_of_ble_eq_true hm) rfl (fun ls1 hlv1 => kk p e R s m args below meth c n0 u0 B h1 h2 H locs ls1 hR hl (zlv_set (v := .int v) (lv := a0 :: a1 :: a2 :: a3 :: a4 :: .int x :: lv0) hlv1 (by show (a4.category != 2) = true; simpa using Nat.ne_of_beq_eq_false hs)))
theorem z_inc5N {a0 a1 a2 a3 a4 : Value} {lv0 : List Value} {j : Nat} (hs : Nat.beq a4.category 2 = false) (hm : Nat.ble 6 (mL M) = true) (k : Nat) (hd : (mI M)[k]? = some (pc, .iinc 5 1, 3)) (hp : pc + 3 = pc') (kk : zW G d M pc' (a0 :: a1 :: a2 :: a3 :: a4 :: .int (nI (j + 1)) :: lv0) st n u μ nF uF Φ) : zW G d M pc (a0 :: a1 :: a2 :: a3 :: a4 :: .int (nI j) :: lv0) st n u μ nF uF Φ :=
  z_inc5 hs hm (show nI j + Int32.ofInt 1 = nI (j + 1) from nI_1 j) k hd hp kk
theorem z_less5 {a0 a1 a2 a3 a4 : Value} {w : Value} {lv0 : List Value} (kk : zW G d M pc (a0 :: a1 :: a2 :: a3 :: a4 :: .retAddr 0 :: lv0) st n u μ nF uF Φ) : zW G d M pc (a0 :: a1 :: a2 :: a3 :: a4 :: w :: lv0) st n u μ nF uF Φ := by
  intro p e R s m args below meth c n0 u0 B h1 h2 H locs ls hR hl hlv
  exact kk p e R s m args below meth c n0 u0 B h1 h2 H locs ls hR hl (zlv_less (i := 5) (a := 0) (lv := a0 :: a1 :: a2 :: a3 :: a4 :: w :: lv0) hlv)
theorem z_il6 {a0 a1 a2 a3 a4 a5 : Value} {lv0 : List Value} {x : Int32} (k : Nat) (hd : (mI M)[k]? = some (pc, .iload 6, 2)) (hp : pc + 2 = pc') (kk : zW G d M pc' (a0 :: a1 :: a2 :: a3 :: a4 :: a5 :: .int x :: lv0) (.int x :: st) n u μ nF uF Φ) : zW G d M pc (a0 :: a1 :: a2 :: a3 :: a4 :: a5 :: .int x :: lv0) (st) n u μ nF uF Φ := by
  subst hp
  intro p e R s m args below meth c n0 u0 B h1 h2 H locs ls hR hl hlv
  exact lv_iload B.1 B.2.1 (z_dec (zB_ok B) hd) (zlv_at hlv (i := 6) (v := .int x) rfl rfl) (kk p e R s m args below meth c n0 u0 B h1 h2 H locs ls hR hl hlv)
theorem z_al6 {a0 a1 a2 a3 a4 a5 : Value} {lv0 : List Value} {x : Nat} (k : Nat) (hd : (mI M)[k]? = some (pc, .aload 6, 2)) (hp : pc + 2 = pc') (kk : zW G d M pc' (a0 :: a1 :: a2 :: a3 :: a4 :: a5 :: .ref x :: lv0) (.ref x :: st) n u μ nF uF Φ) : zW G d M pc (a0 :: a1 :: a2 :: a3 :: a4 :: a5 :: .ref x :: lv0) (st) n u μ nF uF Φ := by
  subst hp
  intro p e R s m args below meth c n0 u0 B h1 h2 H locs ls hR hl hlv
  exact lv_aload B.1 B.2.1 (z_dec (zB_ok B) hd) (zlv_at hlv (i := 6) (v := .ref x) rfl rfl) (kk p e R s m args below meth c n0 u0 B h1 h2 H locs ls hR hl hlv)
theorem z_is6 {a0 a1 a2 a3 a4 a5 : Value} {w : Value} {lv0 : List Value} {x : Int32} (hs : Nat.beq a5.category 2 = false) (hm : Nat.ble 7 (mL M) = true) (k : Nat) (hd : (mI M)[k]? = some (pc, .istore 6, 2)) (hp : pc + 2 = pc') (kk : zW G d M pc' (a0 :: a1 :: a2 :: a3 :: a4 :: a5 :: .int x :: lv0) (st) n u μ nF uF Φ) : zW G d M pc (a0 :: a1 :: a2 :: a3 :: a4 :: a5 :: w :: lv0) (.int x :: st) n u μ nF uF Φ := by
  subst hp
  intro p e R s m args below meth c n0 u0 B h1 h2 H locs ls hR hl hlv
  exact lv_istore B.1 B.2.1 (z_dec (zB_ok B) hd) hlv (Nat.le_of_ble_eq_true hm) rfl (fun ls1 hlv1 => kk p e R s m args below meth c n0 u0 B h1 h2 H locs ls1 hR hl (zlv_set (v := .int x) (lv := a0 :: a1 :: a2 :: a3 :: a4 :: a5 :: w :: lv0) hlv1 (by show (a5.category != 2) = true; simpa using Nat.ne_of_beq_eq_false hs)))
theorem z_as6 {a0 a1 a2 a3 a4 a5 : Value} {w : Value} {lv0 : List Value} {x : Nat} (hs : Nat.beq a5.category 2 = false) (hm : Nat.ble 7 (mL M) = true) (k : Nat) (hd : (mI M)[k]? = some (pc, .astore 6, 2)) (hp : pc + 2 = pc') (kk : zW G d M pc' (a0 :: a1 :: a2 :: a3 :: a4 :: a5 :: .ref x :: lv0) (st) n u μ nF uF Φ) : zW G d M pc (a0 :: a1 :: a2 :: a3 :: a4 :: a5 :: w :: lv0) (.ref x :: st) n u μ nF uF Φ := by
  subst hp
  intro p e R s m args below meth c n0 u0 B h1 h2 H locs ls hR hl hlv
  exact lv_astore B.1 B.2.1 (z_dec (zB_ok B) hd) hlv (Nat.le_of_ble_eq_true hm) rfl (fun ls1 hlv1 => kk p e R s m args below meth c n0 u0 B h1 h2 H locs ls1 hR hl (zlv_set (v := .ref x) (lv := a0 :: a1 :: a2 :: a3 :: a4 :: a5 :: w :: lv0) hlv1 (by show (a5.category != 2) = true; simpa using Nat.ne_of_beq_eq_false hs)))
theorem z_inc6 {a0 a1 a2 a3 a4 a5 : Value} {lv0 : List Value} {x v : Int32} {z : Int} (hs : Nat.beq a5.category 2 = false) (hm : Nat.ble 7 (mL M) = true) (hv : x + Int32.ofInt z = v) (k : Nat) (hd : (mI M)[k]? = some (pc, .iinc 6 z, 3)) (hp : pc + 3 = pc') (kk : zW G d M pc' (a0 :: a1 :: a2 :: a3 :: a4 :: a5 :: .int v :: lv0) st n u μ nF uF Φ) : zW G d M pc (a0 :: a1 :: a2 :: a3 :: a4 :: a5 :: .int x :: lv0) st n u μ nF uF Φ := by
  subst hp
  intro p e R s m args below meth c n0 u0 B h1 h2 H locs ls hR hl hlv
  obtain ⟨k0, hk0⟩ := List.getElem?_of_mem ((zal_mem (G := G) (a0 :: a1 :: a2 :: a3 :: a4 :: a5 :: .int x :: lv0) 0 (6, .int x)).mpr ⟨6, .int x, rfl, rfl, by rw [Nat.zero_add]; rfl⟩)
  exact lv_iinc B.1 B.2.1 (z_dec (zB_ok B) hd) hlv hk0 hv (Nat.le_of_ble_eq_true hm) rfl (fun ls1 hlv1 => kk p e R s m args below meth c n0 u0 B h1 h2 H locs ls1 hR hl (zlv_set (v := .int v) (lv := a0 :: a1 :: a2 :: a3 :: a4 :: a5 :: .int x :: lv0) hlv1 (by show (a5.category != 2) = true; simpa using Nat.ne_of_beq_eq_false hs)))
theorem z_inc6N {a0 a1 a2 a3 a4 a5 : Value} {lv0 : List Value} {j : Nat} (hs : Nat.beq a5.category 2 = false) (hm : Nat.ble 7 (mL M) = true) (k : Nat) (hd : (mI M)[k]? = some (pc, .iinc 6 1, 3)) (hp : pc + 3 = pc') (kk : zW G d M pc' (a0 :: a1 :: a2 :: a3 :: a4 :: a5 :: .int (nI (j + 1)) :: lv0) st n u μ nF uF Φ) : zW G d M pc (a0 :: a1 :: a2 :: a3 :: a4 :: a5 :: .int (nI j) :: lv0) st n u μ nF uF Φ :=
  z_inc6 hs hm (show nI j + Int32.ofInt 1 = nI (j + 1) from nI_1 j) k hd hp kk
theorem z_less6 {a0 a1 a2 a3 a4 a5 : Value} {w : Value} {lv0 : List Value} (kk : zW G d M pc (a0 :: a1 :: a2 :: a3 :: a4 :: a5 :: .retAddr 0 :: lv0) st n u μ nF uF Φ) : zW G d M pc (a0 :: a1 :: a2 :: a3 :: a4 :: a5 :: w :: lv0) st n u μ nF uF Φ := by
  intro p e R s m args below meth c n0 u0 B h1 h2 H locs ls hR hl hlv
  exact kk p e R s m args below meth c n0 u0 B h1 h2 H locs ls hR hl (zlv_less (i := 6) (a := 0) (lv := a0 :: a1 :: a2 :: a3 :: a4 :: a5 :: w :: lv0) hlv)
theorem z_il7 {a0 a1 a2 a3 a4 a5 a6 : Value} {lv0 : List Value} {x : Int32} (k : Nat) (hd : (mI M)[k]? = some (pc, .iload 7, 2)) (hp : pc + 2 = pc') (kk : zW G d M pc' (a0 :: a1 :: a2 :: a3 :: a4 :: a5 :: a6 :: .int x :: lv0) (.int x :: st) n u μ nF uF Φ) : zW G d M pc (a0 :: a1 :: a2 :: a3 :: a4 :: a5 :: a6 :: .int x :: lv0) (st) n u μ nF uF Φ := by
  subst hp
  intro p e R s m args below meth c n0 u0 B h1 h2 H locs ls hR hl hlv
  exact lv_iload B.1 B.2.1 (z_dec (zB_ok B) hd) (zlv_at hlv (i := 7) (v := .int x) rfl rfl) (kk p e R s m args below meth c n0 u0 B h1 h2 H locs ls hR hl hlv)
theorem z_al7 {a0 a1 a2 a3 a4 a5 a6 : Value} {lv0 : List Value} {x : Nat} (k : Nat) (hd : (mI M)[k]? = some (pc, .aload 7, 2)) (hp : pc + 2 = pc') (kk : zW G d M pc' (a0 :: a1 :: a2 :: a3 :: a4 :: a5 :: a6 :: .ref x :: lv0) (.ref x :: st) n u μ nF uF Φ) : zW G d M pc (a0 :: a1 :: a2 :: a3 :: a4 :: a5 :: a6 :: .ref x :: lv0) (st) n u μ nF uF Φ := by
  subst hp
  intro p e R s m args below meth c n0 u0 B h1 h2 H locs ls hR hl hlv
  exact lv_aload B.1 B.2.1 (z_dec (zB_ok B) hd) (zlv_at hlv (i := 7) (v := .ref x) rfl rfl) (kk p e R s m args below meth c n0 u0 B h1 h2 H locs ls hR hl hlv)
theorem z_is7 {a0 a1 a2 a3 a4 a5 a6 : Value} {w : Value} {lv0 : List Value} {x : Int32} (hs : Nat.beq a6.category 2 = false) (hm : Nat.ble 8 (mL M) = true) (k : Nat) (hd : (mI M)[k]? = some (pc, .istore 7, 2)) (hp : pc + 2 = pc') (kk : zW G d M pc' (a0 :: a1 :: a2 :: a3 :: a4 :: a5 :: a6 :: .int x :: lv0) (st) n u μ nF uF Φ) : zW G d M pc (a0 :: a1 :: a2 :: a3 :: a4 :: a5 :: a6 :: w :: lv0) (.int x :: st) n u μ nF uF Φ := by
  subst hp
  intro p e R s m args below meth c n0 u0 B h1 h2 H locs ls hR hl hlv
  exact lv_istore B.1 B.2.1 (z_dec (zB_ok B) hd) hlv (Nat.le_of_ble_eq_true hm) rfl (fun ls1 hlv1 => kk p e R s m args below meth c n0 u0 B h1 h2 H locs ls1 hR hl (zlv_set (v := .int x) (lv := a0 :: a1 :: a2 :: a3 :: a4 :: a5 :: a6 :: w :: lv0) hlv1 (by show (a6.category != 2) = true; simpa using Nat.ne_of_beq_eq_false hs)))
theorem z_as7 {a0 a1 a2 a3 a4 a5 a6 : Value} {w : Value} {lv0 : List Value} {x : Nat} (hs : Nat.beq a6.category 2 = false) (hm : Nat.ble 8 (mL M) = true) (k : Nat) (hd : (mI M)[k]? = some (pc, .astore 7, 2)) (hp : pc + 2 = pc') (kk : zW G d M pc' (a0 :: a1 :: a2 :: a3 :: a4 :: a5 :: a6 :: .ref x :: lv0) (st) n u μ nF uF Φ) : zW G d M pc (a0 :: a1 :: a2 :: a3 :: a4 :: a5 :: a6 :: w :: lv0) (.ref x :: st) n u μ nF uF Φ := by
  subst hp
  intro p e R s m args below meth c n0 u0 B h1 h2 H locs ls hR hl hlv
  exact lv_astore B.1 B.2.1 (z_dec (zB_ok B) hd) hlv (Nat.le_of_ble_eq_true hm) rfl (fun ls1 hlv1 => kk p e R s m args below meth c n0 u0 B h1 h2 H locs ls1 hR hl (zlv_set (v := .ref x) (lv := a0 :: a1 :: a2 :: a3 :: a4 :: a5 :: a6 :: w :: lv0) hlv1 (by show (a6.category != 2) = true; simpa using Nat.ne_of_beq_eq_false hs)))
theorem z_inc7 {a0 a1 a2 a3 a4 a5 a6 : Value} {lv0 : List Value} {x v : Int32} {z : Int} (hs : Nat.beq a6.category 2 = false) (hm : Nat.ble 8 (mL M) = true) (hv : x + Int32.ofInt z = v) (k : Nat) (hd : (mI M)[k]? = some (pc, .iinc 7 z, 3)) (hp : pc + 3 = pc') (kk : zW G d M pc' (a0 :: a1 :: a2 :: a3 :: a4 :: a5 :: a6 :: .int v :: lv0) st n u μ nF uF Φ) : zW G d M pc (a0 :: a1 :: a2 :: a3 :: a4 :: a5 :: a6 :: .int x :: lv0) st n u μ nF uF Φ := by
  subst hp
  intro p e R s m args below meth c n0 u0 B h1 h2 H locs ls hR hl hlv
  obtain ⟨k0, hk0⟩ := List.getElem?_of_mem ((zal_mem (G := G) (a0 :: a1 :: a2 :: a3 :: a4 :: a5 :: a6 :: .int x :: lv0) 0 (7, .int x)).mpr ⟨7, .int x, rfl, rfl, by rw [Nat.zero_add]; rfl⟩)
  exact lv_iinc B.1 B.2.1 (z_dec (zB_ok B) hd) hlv hk0 hv (Nat.le_of_ble_eq_true hm) rfl (fun ls1 hlv1 => kk p e R s m args below meth c n0 u0 B h1 h2 H locs ls1 hR hl (zlv_set (v := .int v) (lv := a0 :: a1 :: a2 :: a3 :: a4 :: a5 :: a6 :: .int x :: lv0) hlv1 (by show (a6.category != 2) = true; simpa using Nat.ne_of_beq_eq_false hs)))
theorem z_inc7N {a0 a1 a2 a3 a4 a5 a6 : Value} {lv0 : List Value} {j : Nat} (hs : Nat.beq a6.category 2 = false) (hm : Nat.ble 8 (mL M) = true) (k : Nat) (hd : (mI M)[k]? = some (pc, .iinc 7 1, 3)) (hp : pc + 3 = pc') (kk : zW G d M pc' (a0 :: a1 :: a2 :: a3 :: a4 :: a5 :: a6 :: .int (nI (j + 1)) :: lv0) st n u μ nF uF Φ) : zW G d M pc (a0 :: a1 :: a2 :: a3 :: a4 :: a5 :: a6 :: .int (nI j) :: lv0) st n u μ nF uF Φ :=
  z_inc7 hs hm (show nI j + Int32.ofInt 1 = nI (j + 1) from nI_1 j) k hd hp kk
theorem z_less7 {a0 a1 a2 a3 a4 a5 a6 : Value} {w : Value} {lv0 : List Value} (kk : zW G d M pc (a0 :: a1 :: a2 :: a3 :: a4 :: a5 :: a6 :: .retAddr 0 :: lv0) st n u μ nF uF Φ) : zW G d M pc (a0 :: a1 :: a2 :: a3 :: a4 :: a5 :: a6 :: w :: lv0) st n u μ nF uF Φ := by
  intro p e R s m args below meth c n0 u0 B h1 h2 H locs ls hR hl hlv
  exact kk p e R s m args below meth c n0 u0 B h1 h2 H locs ls hR hl (zlv_less (i := 7) (a := 0) (lv := a0 :: a1 :: a2 :: a3 :: a4 :: a5 :: a6 :: w :: lv0) hlv)
theorem z_il8 {a0 a1 a2 a3 a4 a5 a6 a7 : Value} {lv0 : List Value} {x : Int32} (k : Nat) (hd : (mI M)[k]? = some (pc, .iload 8, 2)) (hp : pc + 2 = pc') (kk : zW G d M pc' (a0 :: a1 :: a2 :: a3 :: a4 :: a5 :: a6 :: a7 :: .int x :: lv0) (.int x :: st) n u μ nF uF Φ) : zW G d M pc (a0 :: a1 :: a2 :: a3 :: a4 :: a5 :: a6 :: a7 :: .int x :: lv0) (st) n u μ nF uF Φ := by
  subst hp
  intro p e R s m args below meth c n0 u0 B h1 h2 H locs ls hR hl hlv
  exact lv_iload B.1 B.2.1 (z_dec (zB_ok B) hd) (zlv_at hlv (i := 8) (v := .int x) rfl rfl) (kk p e R s m args below meth c n0 u0 B h1 h2 H locs ls hR hl hlv)
theorem z_al8 {a0 a1 a2 a3 a4 a5 a6 a7 : Value} {lv0 : List Value} {x : Nat} (k : Nat) (hd : (mI M)[k]? = some (pc, .aload 8, 2)) (hp : pc + 2 = pc') (kk : zW G d M pc' (a0 :: a1 :: a2 :: a3 :: a4 :: a5 :: a6 :: a7 :: .ref x :: lv0) (.ref x :: st) n u μ nF uF Φ) : zW G d M pc (a0 :: a1 :: a2 :: a3 :: a4 :: a5 :: a6 :: a7 :: .ref x :: lv0) (st) n u μ nF uF Φ := by
  subst hp
  intro p e R s m args below meth c n0 u0 B h1 h2 H locs ls hR hl hlv
  exact lv_aload B.1 B.2.1 (z_dec (zB_ok B) hd) (zlv_at hlv (i := 8) (v := .ref x) rfl rfl) (kk p e R s m args below meth c n0 u0 B h1 h2 H locs ls hR hl hlv)
theorem z_is8 {a0 a1 a2 a3 a4 a5 a6 a7 : Value} {w : Value} {lv0 : List Value} {x : Int32} (hs : Nat.beq a7.category 2 = false) (hm : Nat.ble 9 (mL M) = true) (k : Nat) (hd : (mI M)[k]? = some (pc, .istore 8, 2)) (hp : pc + 2 = pc') (kk : zW G d M pc' (a0 :: a1 :: a2 :: a3 :: a4 :: a5 :: a6 :: a7 :: .int x :: lv0) (st) n u μ nF uF Φ) : zW G d M pc (a0 :: a1 :: a2 :: a3 :: a4 :: a5 :: a6 :: a7 :: w :: lv0) (.int x :: st) n u μ nF uF Φ := by
  subst hp
  intro p e R s m args below meth c n0 u0 B h1 h2 H locs ls hR hl hlv
  exact lv_istore B.1 B.2.1 (z_dec (zB_ok B) hd) hlv (Nat.le_of_ble_eq_true hm) rfl (fun ls1 hlv1 => kk p e R s m args below meth c n0 u0 B h1 h2 H locs ls1 hR hl (zlv_set (v := .int x) (lv := a0 :: a1 :: a2 :: a3 :: a4 :: a5 :: a6 :: a7 :: w :: lv0) hlv1 (by show (a7.category != 2) = true; simpa using Nat.ne_of_beq_eq_false hs)))
theorem z_as8 {a0 a1 a2 a3 a4 a5 a6 a7 : Value} {w : Value} {lv0 : List Value} {x : Nat} (hs : Nat.beq a7.category 2 = false) (hm : Nat.ble 9 (mL M) = true) (k : Nat) (hd : (mI M)[k]? = some (pc, .astore 8, 2)) (hp : pc + 2 = pc') (kk : zW G d M pc' (a0 :: a1 :: a2 :: a3 :: a4 :: a5 :: a6 :: a7 :: .ref x :: lv0) (st) n u μ nF uF Φ) : zW G d M pc (a0 :: a1 :: a2 :: a3 :: a4 :: a5 :: a6 :: a7 :: w :: lv0) (.ref x :: st) n u μ nF uF Φ := by
  subst hp
  intro p e R s m args below meth c n0 u0 B h1 h2 H locs ls hR hl hlv
  exact lv_astore B.1 B.2.1 (z_dec (zB_ok B) hd) hlv (Nat.le_of_ble_eq_true hm) rfl (fun ls1 hlv1 => kk p e R s m args below meth c n0 u0 B h1 h2 H locs ls1 hR hl (zlv_set (v := .ref x) (lv := a0 :: a1 :: a2 :: a3 :: a4 :: a5 :: a6 :: a7 :: w :: lv0) hlv1 (by show (a7.category != 2) = true; simpa using Nat.ne_of_beq_eq_false hs)))
theorem z_inc8 {a0 a1 a2 a3 a4 a5 a6 a7 : Value} {lv0 : List Value} {x v : Int32} {z : Int} (hs : Nat.beq a7.category 2 = false) (hm : Nat.ble 9 (mL M) = true) (hv : x + Int32.ofInt z = v) (k : Nat) (hd : (mI M)[k]? = some (pc, .iinc 8 z, 3)) (hp : pc + 3 = pc') (kk : zW G d M pc' (a0 :: a1 :: a2 :: a3 :: a4 :: a5 :: a6 :: a7 :: .int v :: lv0) st n u μ nF uF Φ) : zW G d M pc (a0 :: a1 :: a2 :: a3 :: a4 :: a5 :: a6 :: a7 :: .int x :: lv0) st n u μ nF uF Φ := by
  subst hp
  intro p e R s m args below meth c n0 u0 B h1 h2 H locs ls hR hl hlv
  obtain ⟨k0, hk0⟩ := List.getElem?_of_mem ((zal_mem (G := G) (a0 :: a1 :: a2 :: a3 :: a4 :: a5 :: a6 :: a7 :: .int x :: lv0) 0 (8, .int x)).mpr ⟨8, .int x, rfl, rfl, by rw [Nat.zero_add]; rfl⟩)
  exact lv_iinc B.1 B.2.1 (z_dec (zB_ok B) hd) hlv hk0 hv (Nat.le_of_ble_eq_true hm) rfl (fun ls1 hlv1 => kk p e R s m args below meth c n0 u0 B h1 h2 H locs ls1 hR hl (zlv_set (v := .int v) (lv := a0 :: a1 :: a2 :: a3 :: a4 :: a5 :: a6 :: a7 :: .int x :: lv0) hlv1 (by show (a7.category != 2) = true; simpa using Nat.ne_of_beq_eq_false hs)))
theorem z_inc8N {a0 a1 a2 a3 a4 a5 a6 a7 : Value} {lv0 : List Value} {j : Nat} (hs : Nat.beq a7.category 2 = false) (hm : Nat.ble 9 (mL M) = true) (k : Nat) (hd : (mI M)[k]? = some (pc, .iinc 8 1, 3)) (hp : pc + 3 = pc') (kk : zW G d M pc' (a0 :: a1 :: a2 :: a3 :: a4 :: a5 :: a6 :: a7 :: .int (nI (j + 1)) :: lv0) st n u μ nF uF Φ) : zW G d M pc (a0 :: a1 :: a2 :: a3 :: a4 :: a5 :: a6 :: a7 :: .int (nI j) :: lv0) st n u μ nF uF Φ :=
  z_inc8 hs hm (show nI j + Int32.ofInt 1 = nI (j + 1) from nI_1 j) k hd hp kk
theorem z_less8 {a0 a1 a2 a3 a4 a5 a6 a7 : Value} {w : Value} {lv0 : List Value} (kk : zW G d M pc (a0 :: a1 :: a2 :: a3 :: a4 :: a5 :: a6 :: a7 :: .retAddr 0 :: lv0) st n u μ nF uF Φ) : zW G d M pc (a0 :: a1 :: a2 :: a3 :: a4 :: a5 :: a6 :: a7 :: w :: lv0) st n u μ nF uF Φ := by
  intro p e R s m args below meth c n0 u0 B h1 h2 H locs ls hR hl hlv
  exact kk p e R s m args below meth c n0 u0 B h1 h2 H locs ls hR hl (zlv_less (i := 8) (a := 0) (lv := a0 :: a1 :: a2 :: a3 :: a4 :: a5 :: a6 :: a7 :: w :: lv0) hlv)
theorem z_if_eq {x : Int32} {off : Int} {tgt : Nat} (k : Nat) (hd : (mI M)[k]? = some (pc, .ifCond .eq off, 3)) (hp : pc + 3 = pc') (ht : (pc : Int) + off = (tgt : Int)) (kt : x = 0 → zW G d M tgt lv st n u μ nF uF Φ) (kf : ¬ x = 0 → zW G d M pc' lv st n u μ nF uF Φ) : zW G d M pc lv (.int x :: st) n u μ nF uF Φ := by
  subst hp
  intro p e R s m args below meth c n0 u0 B h1 h2 H locs ls hR hl hlv
  exact lv_if_eq B.1 B.2.1 (z_dec (zB_ok B) hd) ht (fun hc => kt hc p e R s m args below meth c n0 u0 B h1 h2 H locs ls hR hl hlv) (fun hc => kf hc p e R s m args below meth c n0 u0 B h1 h2 H locs ls hR hl hlv)
theorem z_if_ne {x : Int32} {off : Int} {tgt : Nat} (k : Nat) (hd : (mI M)[k]? = some (pc, .ifCond .ne off, 3)) (hp : pc + 3 = pc') (ht : (pc : Int) + off = (tgt : Int)) (kt : ¬ x = 0 → zW G d M tgt lv st n u μ nF uF Φ) (kf : x = 0 → zW G d M pc' lv st n u μ nF uF Φ) : zW G d M pc lv (.int x :: st) n u μ nF uF Φ := by
  subst hp
  intro p e R s m args below meth c n0 u0 B h1 h2 H locs ls hR hl hlv
  exact lv_if_ne B.1 B.2.1 (z_dec (zB_ok B) hd) ht (fun hc => kt hc p e R s m args below meth c n0 u0 B h1 h2 H locs ls hR hl hlv) (fun hc => kf hc p e R s m args below meth c n0 u0 B h1 h2 H locs ls hR hl hlv)
theorem z_if_lt {x : Int32} {off : Int} {tgt : Nat} (k : Nat) (hd : (mI M)[k]? = some (pc, .ifCond .lt off, 3)) (hp : pc + 3 = pc') (ht : (pc : Int) + off = (tgt : Int)) (kt : x < 0 → zW G d M tgt lv st n u μ nF uF Φ) (kf : ¬ x < 0 → zW G d M pc' lv st n u μ nF uF Φ) : zW G d M pc lv (.int x :: st) n u μ nF uF Φ := by
  subst hp
  intro p e R s m args below meth c n0 u0 B h1 h2 H locs ls hR hl hlv
  exact lv_if_lt B.1 B.2.1 (z_dec (zB_ok B) hd) ht (fun hc => kt hc p e R s m args below meth c n0 u0 B h1 h2 H locs ls hR hl hlv) (fun hc => kf hc p e R s m args below meth c n0 u0 B h1 h2 H locs ls hR hl hlv)
theorem z_if_ge {x : Int32} {off : Int} {tgt : Nat} (k : Nat) (hd : (mI M)[k]? = some (pc, .ifCond .ge off, 3)) (hp : pc + 3 = pc') (ht : (pc : Int) + off = (tgt : Int)) (kt : 0 ≤ x → zW G d M tgt lv st n u μ nF uF Φ) (kf : ¬ 0 ≤ x → zW G d M pc' lv st n u μ nF uF Φ) : zW G d M pc lv (.int x :: st) n u μ nF uF Φ := by
  subst hp
  intro p e R s m args below meth c n0 u0 B h1 h2 H locs ls hR hl hlv
  exact lv_if_ge B.1 B.2.1 (z_dec (zB_ok B) hd) ht (fun hc => kt hc p e R s m args below meth c n0 u0 B h1 h2 H locs ls hR hl hlv) (fun hc => kf hc p e R s m args below meth c n0 u0 B h1 h2 H locs ls hR hl hlv)
theorem z_if_gt {x : Int32} {off : Int} {tgt : Nat} (k : Nat) (hd : (mI M)[k]? = some (pc, .ifCond .gt off, 3)) (hp : pc + 3 = pc') (ht : (pc : Int) + off = (tgt : Int)) (kt : 0 < x → zW G d M tgt lv st n u μ nF uF Φ) (kf : ¬ 0 < x → zW G d M pc' lv st n u μ nF uF Φ) : zW G d M pc lv (.int x :: st) n u μ nF uF Φ := by
  subst hp
  intro p e R s m args below meth c n0 u0 B h1 h2 H locs ls hR hl hlv
  exact lv_if_gt B.1 B.2.1 (z_dec (zB_ok B) hd) ht (fun hc => kt hc p e R s m args below meth c n0 u0 B h1 h2 H locs ls hR hl hlv) (fun hc => kf hc p e R s m args below meth c n0 u0 B h1 h2 H locs ls hR hl hlv)
theorem z_if_le {x : Int32} {off : Int} {tgt : Nat} (k : Nat) (hd : (mI M)[k]? = some (pc, .ifCond .le off, 3)) (hp : pc + 3 = pc') (ht : (pc : Int) + off = (tgt : Int)) (kt : x ≤ 0 → zW G d M tgt lv st n u μ nF uF Φ) (kf : ¬ x ≤ 0 → zW G d M pc' lv st n u μ nF uF Φ) : zW G d M pc lv (.int x :: st) n u μ nF uF Φ := by
  subst hp
  intro p e R s m args below meth c n0 u0 B h1 h2 H locs ls hR hl hlv
  exact lv_if_le B.1 B.2.1 (z_dec (zB_ok B) hd) ht (fun hc => kt hc p e R s m args below meth c n0 u0 B h1 h2 H locs ls hR hl hlv) (fun hc => kf hc p e R s m args below meth c n0 u0 B h1 h2 H locs ls hR hl hlv)
theorem z_icmp_eq {x y : Int32} {off : Int} {tgt : Nat} (k : Nat) (hd : (mI M)[k]? = some (pc, .if_icmp .eq off, 3)) (hp : pc + 3 = pc') (ht : (pc : Int) + off = (tgt : Int)) (kt : x = y → zW G d M tgt lv st n u μ nF uF Φ) (kf : ¬ x = y → zW G d M pc' lv st n u μ nF uF Φ) : zW G d M pc lv (.int y :: .int x :: st) n u μ nF uF Φ := by
  subst hp
  intro p e R s m args below meth c n0 u0 B h1 h2 H locs ls hR hl hlv
  exact lv_icmp_eq B.1 B.2.1 (z_dec (zB_ok B) hd) ht (fun hc => kt hc p e R s m args below meth c n0 u0 B h1 h2 H locs ls hR hl hlv) (fun hc => kf hc p e R s m args below meth c n0 u0 B h1 h2 H locs ls hR hl hlv)
theorem z_icmp_ne {x y : Int32} {off : Int} {tgt : Nat} (k : Nat) (hd : (mI M)[k]? = some (pc, .if_icmp .ne off, 3)) (hp : pc + 3 = pc') (ht : (pc : Int) + off = (tgt : Int)) (kt : ¬ x = y → zW G d M tgt lv st n u μ nF uF Φ) (kf : x = y → zW G d M pc' lv st n u μ nF uF Φ) : zW G d M pc lv (.int y :: .int x :: st) n u μ nF uF Φ := by
  subst hp
  intro p e R s m args below meth c n0 u0 B h1 h2 H locs ls hR hl hlv
  exact lv_icmp_ne B.1 B.2.1 (z_dec (zB_ok B) hd) ht (fun hc => kt hc p e R s m args below meth c n0 u0 B h1 h2 H locs ls hR hl hlv) (fun hc => kf hc p e R s m args below meth c n0 u0 B h1 h2 H locs ls hR hl hlv)
theorem z_icmp_lt {x y : Int32} {off : Int} {tgt : Nat} (k : Nat) (hd : (mI M)[k]? = some (pc, .if_icmp .lt off, 3)) (hp : pc + 3 = pc') (ht : (pc : Int) + off = (tgt : Int)) (kt : x < y → zW G d M tgt lv st n u μ nF uF Φ) (kf : ¬ x < y → zW G d M pc' lv st n u μ nF uF Φ) : zW G d M pc lv (.int y :: .int x :: st) n u μ nF uF Φ := by
  subst hp
  intro p e R s m args below meth c n0 u0 B h1 h2 H locs ls hR hl hlv
  exact lv_icmp_lt B.1 B.2.1 (z_dec (zB_ok B) hd) ht (fun hc => kt hc p e R s m args below meth c n0 u0 B h1 h2 H locs ls hR hl hlv) (fun hc => kf hc p e R s m args below meth c n0 u0 B h1 h2 H locs ls hR hl hlv)
theorem z_icmp_ge {x y : Int32} {off : Int} {tgt : Nat} (k : Nat) (hd : (mI M)[k]? = some (pc, .if_icmp .ge off, 3)) (hp : pc + 3 = pc') (ht : (pc : Int) + off = (tgt : Int)) (kt : y ≤ x → zW G d M tgt lv st n u μ nF uF Φ) (kf : ¬ y ≤ x → zW G d M pc' lv st n u μ nF uF Φ) : zW G d M pc lv (.int y :: .int x :: st) n u μ nF uF Φ := by
  subst hp
  intro p e R s m args below meth c n0 u0 B h1 h2 H locs ls hR hl hlv
  exact lv_icmp_ge B.1 B.2.1 (z_dec (zB_ok B) hd) ht (fun hc => kt hc p e R s m args below meth c n0 u0 B h1 h2 H locs ls hR hl hlv) (fun hc => kf hc p e R s m args below meth c n0 u0 B h1 h2 H locs ls hR hl hlv)
theorem z_icmp_gt {x y : Int32} {off : Int} {tgt : Nat} (k : Nat) (hd : (mI M)[k]? = some (pc, .if_icmp .gt off, 3)) (hp : pc + 3 = pc') (ht : (pc : Int) + off = (tgt : Int)) (kt : y < x → zW G d M tgt lv st n u μ nF uF Φ) (kf : ¬ y < x → zW G d M pc' lv st n u μ nF uF Φ) : zW G d M pc lv (.int y :: .int x :: st) n u μ nF uF Φ := by
  subst hp
  intro p e R s m args below meth c n0 u0 B h1 h2 H locs ls hR hl hlv
  exact lv_icmp_gt B.1 B.2.1 (z_dec (zB_ok B) hd) ht (fun hc => kt hc p e R s m args below meth c n0 u0 B h1 h2 H locs ls hR hl hlv) (fun hc => kf hc p e R s m args below meth c n0 u0 B h1 h2 H locs ls hR hl hlv)
theorem z_icmp_le {x y : Int32} {off : Int} {tgt : Nat} (k : Nat) (hd : (mI M)[k]? = some (pc, .if_icmp .le off, 3)) (hp : pc + 3 = pc') (ht : (pc : Int) + off = (tgt : Int)) (kt : x ≤ y → zW G d M tgt lv st n u μ nF uF Φ) (kf : ¬ x ≤ y → zW G d M pc' lv st n u μ nF uF Φ) : zW G d M pc lv (.int y :: .int x :: st) n u μ nF uF Φ := by
  subst hp
  intro p e R s m args below meth c n0 u0 B h1 h2 H locs ls hR hl hlv
  exact lv_icmp_le B.1 B.2.1 (z_dec (zB_ok B) hd) ht (fun hc => kt hc p e R s m args below meth c n0 u0 B h1 h2 H locs ls hR hl hlv) (fun hc => kf hc p e R s m args below meth c n0 u0 B h1 h2 H locs ls hR hl hlv)
theorem z_if_eq_t {x : Int32} {off : Int} {tgt : Nat} (k : Nat) (hd : (mI M)[k]? = some (pc, .ifCond .eq off, 3)) (ht : (pc : Int) + off = (tgt : Int)) (hc : x = 0) (kt : zW G d M tgt lv st n u μ nF uF Φ) : zW G d M pc lv (.int x :: st) n u μ nF uF Φ :=
  z_if_eq k hd rfl ht (fun _ => kt) (fun h => absurd hc (by exact h))
theorem z_if_eq_f {x : Int32} {off : Int} {tgt : Nat} (k : Nat) (hd : (mI M)[k]? = some (pc, .ifCond .eq off, 3)) (hp : pc + 3 = pc') (ht : (pc : Int) + off = (tgt : Int)) (hc : ¬ x = 0) (kf : zW G d M pc' lv st n u μ nF uF Φ) : zW G d M pc lv (.int x :: st) n u μ nF uF Φ :=
  z_if_eq k hd hp ht (fun h => absurd h (by exact hc)) (fun _ => kf)
theorem z_icmp_eq_t {x y : Int32} {off : Int} {tgt : Nat} (k : Nat) (hd : (mI M)[k]? = some (pc, .if_icmp .eq off, 3)) (ht : (pc : Int) + off = (tgt : Int)) (hc : x = y) (kt : zW G d M tgt lv st n u μ nF uF Φ) : zW G d M pc lv (.int y :: .int x :: st) n u μ nF uF Φ :=
  z_icmp_eq k hd rfl ht (fun _ => kt) (fun h => absurd hc (by exact h))
theorem z_icmp_eq_f {x y : Int32} {off : Int} {tgt : Nat} (k : Nat) (hd : (mI M)[k]? = some (pc, .if_icmp .eq off, 3)) (hp : pc + 3 = pc') (ht : (pc : Int) + off = (tgt : Int)) (hc : ¬ x = y) (kf : zW G d M pc' lv st n u μ nF uF Φ) : zW G d M pc lv (.int y :: .int x :: st) n u μ nF uF Φ :=
  z_icmp_eq k hd hp ht (fun h => absurd h (by exact hc)) (fun _ => kf)
theorem z_if_ne_t {x : Int32} {off : Int} {tgt : Nat} (k : Nat) (hd : (mI M)[k]? = some (pc, .ifCond .ne off, 3)) (ht : (pc : Int) + off = (tgt : Int)) (hc : ¬ x = 0) (kt : zW G d M tgt lv st n u μ nF uF Φ) : zW G d M pc lv (.int x :: st) n u μ nF uF Φ :=
  z_if_ne k hd rfl ht (fun _ => kt) (fun h => absurd hc (by exact fun z => z h))
theorem z_if_ne_f {x : Int32} {off : Int} {tgt : Nat} (k : Nat) (hd : (mI M)[k]? = some (pc, .ifCond .ne off, 3)) (hp : pc + 3 = pc') (ht : (pc : Int) + off = (tgt : Int)) (hc : x = 0) (kf : zW G d M pc' lv st n u μ nF uF Φ) : zW G d M pc lv (.int x :: st) n u μ nF uF Φ :=
  z_if_ne k hd hp ht (fun h => absurd h (by exact fun z => z hc)) (fun _ => kf)
theorem z_icmp_ne_t {x y : Int32} {off : Int} {tgt : Nat} (k : Nat) (hd : (mI M)[k]? = some (pc, .if_icmp .ne off, 3)) (ht : (pc : Int) + off = (tgt : Int)) (hc : ¬ x = y) (kt : zW G d M tgt lv st n u μ nF uF Φ) : zW G d M pc lv (.int y :: .int x :: st) n u μ nF uF Φ :=
  z_icmp_ne k hd rfl ht (fun _ => kt) (fun h => absurd hc (by exact fun z => z h))
theorem z_icmp_ne_f {x y : Int32} {off : Int} {tgt : Nat} (k : Nat) (hd : (mI M)[k]? = some (pc, .if_icmp .ne off, 3)) (hp : pc + 3 = pc') (ht : (pc : Int) + off = (tgt : Int)) (hc : x = y) (kf : zW G d M pc' lv st n u μ nF uF Φ) : zW G d M pc lv (.int y :: .int x :: st) n u μ nF uF Φ :=
  z_icmp_ne k hd hp ht (fun h => absurd h (by exact fun z => z hc)) (fun _ => kf)
theorem z_if_lt_t {x : Int32} {off : Int} {tgt : Nat} (k : Nat) (hd : (mI M)[k]? = some (pc, .ifCond .lt off, 3)) (ht : (pc : Int) + off = (tgt : Int)) (hc : x < 0) (kt : zW G d M tgt lv st n u μ nF uF Φ) : zW G d M pc lv (.int x :: st) n u μ nF uF Φ :=
  z_if_lt k hd rfl ht (fun _ => kt) (fun h => absurd hc (by exact h))
theorem z_if_lt_f {x : Int32} {off : Int} {tgt : Nat} (k : Nat) (hd : (mI M)[k]? = some (pc, .ifCond .lt off, 3)) (hp : pc + 3 = pc') (ht : (pc : Int) + off = (tgt : Int)) (hc : ¬ x < 0) (kf : zW G d M pc' lv st n u μ nF uF Φ) : zW G d M pc lv (.int x :: st) n u μ nF uF Φ :=
  z_if_lt k hd hp ht (fun h => absurd h (by exact hc)) (fun _ => kf)
theorem z_icmp_lt_t {x y : Int32} {off : Int} {tgt : Nat} (k : Nat) (hd : (mI M)[k]? = some (pc, .if_icmp .lt off, 3)) (ht : (pc : Int) + off = (tgt : Int)) (hc : x < y) (kt : zW G d M tgt lv st n u μ nF uF Φ) : zW G d M pc lv (.int y :: .int x :: st) n u μ nF uF Φ :=
  z_icmp_lt k hd rfl ht (fun _ => kt) (fun h => absurd hc (by exact h))
theorem z_icmp_lt_f {x y : Int32} {off : Int} {tgt : Nat} (k : Nat) (hd : (mI M)[k]? = some (pc, .if_icmp .lt off, 3)) (hp : pc + 3 = pc') (ht : (pc : Int) + off = (tgt : Int)) (hc : ¬ x < y) (kf : zW G d M pc' lv st n u μ nF uF Φ) : zW G d M pc lv (.int y :: .int x :: st) n u μ nF uF Φ :=
  z_icmp_lt k hd hp ht (fun h => absurd h (by exact hc)) (fun _ => kf)
theorem z_if_ge_t {x : Int32} {off : Int} {tgt : Nat} (k : Nat) (hd : (mI M)[k]? = some (pc, .ifCond .ge off, 3)) (ht : (pc : Int) + off = (tgt : Int)) (hc : 0 ≤ x) (kt : zW G d M tgt lv st n u μ nF uF Φ) : zW G d M pc lv (.int x :: st) n u μ nF uF Φ :=
  z_if_ge k hd rfl ht (fun _ => kt) (fun h => absurd hc (by exact h))
theorem z_if_ge_f {x : Int32} {off : Int} {tgt : Nat} (k : Nat) (hd : (mI M)[k]? = some (pc, .ifCond .ge off, 3)) (hp : pc + 3 = pc') (ht : (pc : Int) + off = (tgt : Int)) (hc : ¬ 0 ≤ x) (kf : zW G d M pc' lv st n u μ nF uF Φ) : zW G d M pc lv (.int x :: st) n u μ nF uF Φ :=
  z_if_ge k hd hp ht (fun h => absurd h (by exact hc)) (fun _ => kf)
theorem z_icmp_ge_t {x y : Int32} {off : Int} {tgt : Nat} (k : Nat) (hd : (mI M)[k]? = some (pc, .if_icmp .ge off, 3)) (ht : (pc : Int) + off = (tgt : Int)) (hc : y ≤ x) (kt : zW G d M tgt lv st n u μ nF uF Φ) : zW G d M pc lv (.int y :: .int x :: st) n u μ nF uF Φ :=
  z_icmp_ge k hd rfl ht (fun _ => kt) (fun h => absurd hc (by exact h))
theorem z_icmp_ge_f {x y : Int32} {off : Int} {tgt : Nat} (k : Nat) (hd : (mI M)[k]? = some (pc, .if_icmp .ge off, 3)) (hp : pc + 3 = pc') (ht : (pc : Int) + off = (tgt : Int)) (hc : ¬ y ≤ x) (kf : zW G d M pc' lv st n u μ nF uF Φ) : zW G d M pc lv (.int y :: .int x :: st) n u μ nF uF Φ :=
  z_icmp_ge k hd hp ht (fun h => absurd h (by exact hc)) (fun _ => kf)
theorem z_if_gt_t {x : Int32} {off : Int} {tgt : Nat} (k : Nat) (hd : (mI M)[k]? = some (pc, .ifCond .gt off, 3)) (ht : (pc : Int) + off = (tgt : Int)) (hc : 0 < x) (kt : zW G d M tgt lv st n u μ nF uF Φ) : zW G d M pc lv (.int x :: st) n u μ nF uF Φ :=
  z_if_gt k hd rfl ht (fun _ => kt) (fun h => absurd hc (by exact h))
theorem z_if_gt_f {x : Int32} {off : Int} {tgt : Nat} (k : Nat) (hd : (mI M)[k]? = some (pc, .ifCond .gt off, 3)) (hp : pc + 3 = pc') (ht : (pc : Int) + off = (tgt : Int)) (hc : ¬ 0 < x) (kf : zW G d M pc' lv st n u μ nF uF Φ) : zW G d M pc lv (.int x :: st) n u μ nF uF Φ :=
  z_if_gt k hd hp ht (fun h => absurd h (by exact hc)) (fun _ => kf)
theorem z_icmp_gt_t {x y : Int32} {off : Int} {tgt : Nat} (k : Nat) (hd : (mI M)[k]? = some (pc, .if_icmp .gt off, 3)) (ht : (pc : Int) + off = (tgt : Int)) (hc : y < x) (kt : zW G d M tgt lv st n u μ nF uF Φ) : zW G d M pc lv (.int y :: .int x :: st) n u μ nF uF Φ :=
  z_icmp_gt k hd rfl ht (fun _ => kt) (fun h => absurd hc (by exact h))
theorem z_icmp_gt_f {x y : Int32} {off : Int} {tgt : Nat} (k : Nat) (hd : (mI M)[k]? = some (pc, .if_icmp .gt off, 3)) (hp : pc + 3 = pc') (ht : (pc : Int) + off = (tgt : Int)) (hc : ¬ y < x) (kf : zW G d M pc' lv st n u μ nF uF Φ) : zW G d M pc lv (.int y :: .int x :: st) n u μ nF uF Φ :=
  z_icmp_gt k hd hp ht (fun h => absurd h (by exact hc)) (fun _ => kf)
theorem z_if_le_t {x : Int32} {off : Int} {tgt : Nat} (k : Nat) (hd : (mI M)[k]? = some (pc, .ifCond .le off, 3)) (ht : (pc : Int) + off = (tgt : Int)) (hc : x ≤ 0) (kt : zW G d M tgt lv st n u μ nF uF Φ) : zW G d M pc lv (.int x :: st) n u μ nF uF Φ :=
  z_if_le k hd rfl ht (fun _ => kt) (fun h => absurd hc (by exact h))
theorem z_if_le_f {x : Int32} {off : Int} {tgt : Nat} (k : Nat) (hd : (mI M)[k]? = some (pc, .ifCond .le off, 3)) (hp : pc + 3 = pc') (ht : (pc : Int) + off = (tgt : Int)) (hc : ¬ x ≤ 0) (kf : zW G d M pc' lv st n u μ nF uF Φ) : zW G d M pc lv (.int x :: st) n u μ nF uF Φ :=
  z_if_le k hd hp ht (fun h => absurd h (by exact hc)) (fun _ => kf)
theorem z_icmp_le_t {x y : Int32} {off : Int} {tgt : Nat} (k : Nat) (hd : (mI M)[k]? = some (pc, .if_icmp .le off, 3)) (ht : (pc : Int) + off = (tgt : Int)) (hc : x ≤ y) (kt : zW G d M tgt lv st n u μ nF uF Φ) : zW G d M pc lv (.int y :: .int x :: st) n u μ nF uF Φ :=
  z_icmp_le k hd rfl ht (fun _ => kt) (fun h => absurd hc (by exact h))
theorem z_icmp_le_f {x y : Int32} {off : Int} {tgt : Nat} (k : Nat) (hd : (mI M)[k]? = some (pc, .if_icmp .le off, 3)) (hp : pc + 3 = pc') (ht : (pc : Int) + off = (tgt : Int)) (hc : ¬ x ≤ y) (kf : zW G d M pc' lv st n u μ nF uF Φ) : zW G d M pc lv (.int y :: .int x :: st) n u μ nF uF Φ :=
  z_icmp_le k hd hp ht (fun h => absurd h (by exact hc)) (fun _ => kf)
theorem z_goto {off : Int} {tgt : Nat} (k : Nat) (hd : (mI M)[k]? = some (pc, .goto off, 3)) (ht : (pc : Int) + off = (tgt : Int)) (kk : zW G d M tgt lv st n u μ nF uF Φ) : zW G d M pc lv st n u μ nF uF Φ := by
  intro p e R s m args below meth c n0 u0 B h1 h2 H locs ls hR hl hlv
  exact lv_goto B.1 B.2.1 (z_dec (zB_ok B) hd) ht (kk p e R s m args below meth c n0 u0 B h1 h2 H locs ls hR hl hlv)
theorem z_ifnullR {x : Nat} {off : Int} (k : Nat) (hd : (mI M)[k]? = some (pc, .ifnull off, 3)) (hp : pc + 3 = pc') (kk : zW G d M pc' lv st n u μ nF uF Φ) : zW G d M pc lv (.ref x :: st) n u μ nF uF Φ := by
  subst hp
  intro p e R s m args below meth c n0 u0 B h1 h2 H locs ls hR hl hlv
  exact lv_ifnull B.1 B.2.1 (z_dec (zB_ok B) hd) (kk p e R s m args below meth c n0 u0 B h1 h2 H locs ls hR hl hlv)
theorem z_ifnullN  {off : Int} {tgt : Nat} (k : Nat) (hd : (mI M)[k]? = some (pc, .ifnull off, 3)) (ht : (pc : Int) + off = (tgt : Int)) (kk : zW G d M tgt lv st n u μ nF uF Φ) : zW G d M pc lv (.null :: st) n u μ nF uF Φ := by
  intro p e R s m args below meth c n0 u0 B h1 h2 H locs ls hR hl hlv
  exact lv_ifnullN B.1 B.2.1 (z_dec (zB_ok B) hd) ht (kk p e R s m args below meth c n0 u0 B h1 h2 H locs ls hR hl hlv)
theorem z_ifnonnullR {x : Nat} {off : Int} {tgt : Nat} (k : Nat) (hd : (mI M)[k]? = some (pc, .ifnonnull off, 3)) (ht : (pc : Int) + off = (tgt : Int)) (kk : zW G d M tgt lv st n u μ nF uF Φ) : zW G d M pc lv (.ref x :: st) n u μ nF uF Φ := by
  intro p e R s m args below meth c n0 u0 B h1 h2 H locs ls hR hl hlv
  exact lv_ifnonnull B.1 B.2.1 (z_dec (zB_ok B) hd) ht (kk p e R s m args below meth c n0 u0 B h1 h2 H locs ls hR hl hlv)
theorem z_ifnonnullN  {off : Int} (k : Nat) (hd : (mI M)[k]? = some (pc, .ifnonnull off, 3)) (hp : pc + 3 = pc') (kk : zW G d M pc' lv st n u μ nF uF Φ) : zW G d M pc lv (.null :: st) n u μ nF uF Φ := by
  subst hp
  intro p e R s m args below meth c n0 u0 B h1 h2 H locs ls hR hl hlv
  exact lv_ifnonnullN B.1 B.2.1 (z_dec (zB_ok B) hd) (kk p e R s m args below meth c n0 u0 B h1 h2 H locs ls hR hl hlv)
theorem z_tableIn {x : Int32} {dflt lo hi : Int} {offs : Array Int} {len : Nat} {off : Int} {tgt : Nat} (k : Nat) (hd : (mI M)[k]? = some (pc, .tableswitch dflt lo hi offs, len)) (g1 : ¬ x.toInt < lo) (g2 : ¬ hi < x.toInt) (ho : offs[(x.toInt - lo).toNat]? = some off) (ht : (pc : Int) + off = (tgt : Int)) (kk : zW G d M tgt lv st n u μ nF uF Φ) : zW G d M pc lv (.int x :: st) n u μ nF uF Φ := by
  intro p e R s m args below meth c n0 u0 B h1 h2 H locs ls hR hl hlv
  exact lv_tableIn B.1 B.2.1 (z_dec (zB_ok B) hd) g1 g2 ho ht (kk p e R s m args below meth c n0 u0 B h1 h2 H locs ls hR hl hlv)
theorem z_tableOut {x : Int32} {dflt lo hi : Int} {offs : Array Int} {len tgt : Nat} (k : Nat) (hd : (mI M)[k]? = some (pc, .tableswitch dflt lo hi offs, len)) (g1 : x.toInt < lo ∨ hi < x.toInt) (ht : (pc : Int) + dflt = (tgt : Int)) (kk : zW G d M tgt lv st n u μ nF uF Φ) : zW G d M pc lv (.int x :: st) n u μ nF uF Φ := by
  intro p e R s m args below meth c n0 u0 B h1 h2 H locs ls hR hl hlv
  exact lv_tableOut B.1 B.2.1 (z_dec (zB_ok B) hd) g1 ht (kk p e R s m args below meth c n0 u0 B h1 h2 H locs ls hR hl hlv)
theorem z_lookup {x : Int32} {dflt : Int} {ps : Array (Int × Int)} {len : Nat} {off : Int} {tgt : Nat} (k : Nat) (hd : (mI M)[k]? = some (pc, .lookupswitch dflt ps, len)) (hp : (ps.toList.zip (ps.toList.drop 1)).all (fun (a, next) => a.1 < next.1) = true) (ho : Op.lookupswitch.offset ps.toList dflt x.toInt = off) (ht : (pc : Int) + off = (tgt : Int)) (kk : zW G d M tgt lv st n u μ nF uF Φ) : zW G d M pc lv (.int x :: st) n u μ nF uF Φ := by
  intro p e R s m args below meth c n0 u0 B h1 h2 H locs ls hR hl hlv
  exact lv_lookup B.1 B.2.1 (z_dec (zB_ok B) hd) hp ho ht (kk p e R s m args below meth c n0 u0 B h1 h2 H locs ls hR hl hlv)
theorem z_ireturn {x : Int32} {ty : FieldType} (k : Nat) (hd : (mI M)[k]? = some (pc, .ireturn, 1)) (hr : mR M = some ty) (hn : narrow ty (.int x) = .int x) (h2 : n = nF) (h3 : u = uF) (h4 : Φ (some (.int x)) μ) : zW G d M pc lv [.int x] n u μ nF uF Φ := by
  subst h2; subst h3
  intro p e R s m args below meth c n0 u0 B g1 g2 H locs ls hR hl hlv
  exact W.zret (ty := ty) B.1 B.2.1 (B.2.2.1.trans hr) hn (fun t ht hW => ⟨some (.int x), _, rfl, h4, by rw [ht]; exact hR⟩) hl (z_dec (zB_ok B) hd) (hlocks := B.2.2.2.2.2.2.2.1)
theorem z_return (k : Nat) (hd : (mI M)[k]? = some (pc, .return_, 1)) (hr : mR M = none) (h2 : n = nF) (h3 : u = uF) (h4 : Φ none μ) : zW G d M pc lv [] n u μ nF uF Φ := by
  subst h2; subst h3
  intro p e R s m args below meth c n0 u0 B g1 g2 H locs ls hR hl hlv
  exact W.vret B.1 B.2.1 (B.2.2.1.trans hr) (fun t ht hW => ⟨none, _, rfl, h4, by rw [ht]; exact hR⟩) hl (z_dec (zB_ok B) hd) (hlocks := B.2.2.2.2.2.2.2.1)
theorem z_areturn {a : Nat} {C : String} (k : Nat) (hd : (mI M)[k]? = some (pc, .areturn, 1)) (hr : mR M = some (.object C)) (h2 : n = nF) (h3 : u = uF) (h4 : Φ (some (.ref a)) μ) : zW G d M pc lv [.ref a] n u μ nF uF Φ := by
  subst h2; subst h3
  intro p e R s m args below meth c n0 u0 B g1 g2 H locs ls hR hl hlv
  exact W.aret (v := .ref (za G a)) B.1 B.2.1 (B.2.2.1.trans hr) (Or.inl ⟨C, rfl⟩) (Or.inr ⟨_, rfl⟩) (fun t ht hW => ⟨some (.ref a), _, rfl, h4, by rw [ht]; exact hR⟩) hl (z_dec (zB_ok B) hd) (hlocks := B.2.2.2.2.2.2.2.1)
theorem z_sw {x : Int32} (v : Nat) (kt : x = nI v → zW G d M pc lv (.int (nI v) :: st) n u μ nF uF Φ) (kf : ¬ x = nI v → zW G d M pc lv (.int x :: st) n u μ nF uF Φ) : zW G d M pc lv (.int x :: st) n u μ nF uF Φ := by
  by_cases h : x = nI v
  · rw [h]; exact kt h
  · exact kf h
theorem z_ne {x : Int32} {v : Nat} (hv : v < 2 ^ 31) (h : ¬ x = nI v) : x.toInt ≠ (v : Int) := by
  intro e
  apply h
  rw [← nI_toInt hv] at e
  exact Int32.toInt_inj.mp e
end ZR
end
section
section ZH
variable {G : zG} {d : Nat} {M : zM} {pc pc' : Nat} {lv st : List Value} {n u : Nat} {μ : Nat → va_E} {nF uF : Nat} {Φ : zP}
theorem zW_size {p : Program} {l : Launch} {e : Env} {R : Room} {s : State} {m : MethodId} {args : Array Value} {below : List Frame} {meth : Method} {c : Code} {H : Heap} {locs : List Loc} {cells slots : Nat} {Q : State → Prop} {g : JFrame}
    (hh : H.size ≤ s.heap.size + cells → W p l e R s m args below meth c H locs cells slots Q g) : W p l e R s m args below meth c H locs cells slots Q g := by
  intro T hT X
  have h0 : T.heap.size ≤ s.heap.size + cells := X.same.2.2.1
  rw [hT] at h0
  exact hh h0 T hT X
section B1
variable {p : Program} {e : Env} {R : Room} {s : State} {m : MethodId} {args : Array Value} {below : List Frame} {meth : Method} {c : Code} {n0 u0 : Nat} {H H1 : Heap} {locs locs1 : List Loc}
theorem zB_K (B : zB G d M p R s m args meth c n0 u0 nF uF) : va_K (zD G) zCl (ztys G) s := B.2.2.2.2.2.2.1.1
theorem zB_T (B : zB G d M p R s m args meth c n0 u0 nF uF) : ∀ w ∈ zT, w.before args s = true := B.2.2.2.2.2.1
theorem zB_own (B : zB G d M p R s m args meth c n0 u0 nF uF) : s.vm.findClass (mO M) = some m.cls := B.2.2.2.2.1
theorem zB_O (B : zB G d M p R s m args meth c n0 u0 nF uF) : zO G s := B.2.2.2.2.2.2.1
theorem zB_low (B : zB G d M p R s m args meth c n0 u0 nF uF) : ∀ q, q < zb G → s.heap[q]? = (zH G)[q]? := B.2.2.2.2.2.2.2.2.2.1
theorem zB_sz (B : zB G d M p R s m args meth c n0 u0 nF uF) : s.heap.size = zb G + (n0 - 4) := B.2.2.2.2.2.2.2.2.2.2.1
theorem zB_n (B : zB G d M p R s m args meth c n0 u0 nF uF) : 4 ≤ n0 ∧ n0 ≤ nF ∧ u0 ≤ uF ∧ d ≤ R.frames ∧ 32 * d ≤ R.locals ∧ nF - n0 ≤ R.cells ∧ uF - u0 ≤ R.slots := B.2.2.2.2.2.2.2.2.2.2.2.2
theorem z_S (B : zB G d M p R s m args meth c n0 u0 nF uF) (h1 : n0 ≤ n) (hR : zR G H n μ) (hl : ∀ q ∈ locs, zb G ≤ q.base) : va_S (zQ G) s.heap H locs := by
  have hz := zB_sz B
  have hH := hR.2.1
  refine ⟨by omega, fun q hq hA => ?_, hl⟩
  have : q < zb G := Nat.lt_of_not_le hA
  rw [hR.2.2.2.1 q this, zB_low B q this]
theorem z_putEnd (B : zB G d M p R s m args meth c n0 u0 nF uF) (h1 : n0 ≤ n) (hR : zR G H n μ) {a : Nat} {cl : va_E} (h4 : 4 ≤ a) (hn : a < n) (hP : va_P (zD G) zCl (zws G n (zu μ a cl)) H1) (hS : va_S (zQ G) s.heap H1 locs1) (hsz : H1.size ≤ s.heap.size + (n - n0)) : zR G H1 n (zu μ a cl) := by
  have hz := zB_sz B
  have hB := zB_n B
  have hlow : zb G + (n - 1 - 4) < H1.size := by
    have := (hP (n - 1 - 4) _ (zws_at (G := G) (n := n) (μ := zu μ a cl) (i := n - 1) (by omega) (by omega))).lt
    simp only [za] at this
    rw [if_neg (by omega)] at this
    exact this
  have hH := hR.2.1
  refine zR_set hR h4 hn hP (by omega) (fun q hq => ?_)
  rw [hS.2.1 q (by omega) (Nat.not_le.mpr hq), zB_low B q hq, hR.2.2.2.1 q hq]
theorem z_newEnd (B : zB G d M p R s m args meth c n0 u0 nF uF) (h1 : n0 ≤ n) (hR : zR G H n μ) {q0 : Nat} {cl : va_E} (hP : va_P (zD G) zCl (zws G n μ ++ [(q0, ze G cl)]) H1) (hD : va_D (zQ G) (zws G n μ ++ [(q0, ze G cl)])) (hS : va_S (zQ G) s.heap H1 locs1) (hsz : H1.size ≤ s.heap.size + (n - n0 + 1)) : q0 = za G n ∧ zR G H1 (n + 1) (zu μ n cl) := by
  have hz := zB_sz B
  have hB := zB_n B
  have hlen : (zws G n μ).length = n - 4 := by simp [zws]
  have hlast : (zws G n μ ++ [(q0, ze G cl)])[n - 4]? = some (q0, ze G cl) := by
    rw [List.getElem?_append_right (by omega), hlen, Nat.sub_self]
    rfl
  have hlt : q0 < H1.size := (hP _ _ hlast).lt
  have hge : zb G ≤ q0 := hD.2 _ _ hlast
  have hq : q0 = zb G + (n - 4) := by
    rcases Nat.lt_or_ge q0 (zb G + (n - 4)) with h | h
    · exfalso
      have hk : (zws G n μ ++ [(q0, ze G cl)])[q0 - zb G]? = some (za G (q0 - zb G + 4), ze G (μ (q0 - zb G + 4))) := by
        rw [List.getElem?_append_left (by omega)]
        have := zws_at (G := G) (n := n) (μ := μ) (i := q0 - zb G + 4) (by omega) (by omega)
        rw [show q0 - zb G + 4 - 4 = q0 - zb G by omega] at this
        exact this
      have := hD.1 _ _ _ _ hk hlast (by simp only [za]; rw [if_neg (by omega)]; omega)
      omega
    · omega
  have hza : za G n = zb G + (n - 4) := by simp only [za]; rw [if_neg (by omega)]
  refine ⟨by rw [hza]; exact hq, ?_⟩
  subst hq
  rw [zws_push (by omega)] at hP
  have hH := hR.2.1
  refine zR_new hR hP (by omega) (fun q hq => ?_)
  rw [hS.2.1 q (by omega) (Nat.not_le.mpr hq), zB_low B q hq, hR.2.2.2.1 q hq]
end B1
/-! fields -/
def zF (own : String) (idx ci fk : Nat) (ty : FieldType) (fin : Bool) : Prop := ∃ (C : String) (T : u_T) (N : Nat) (ref : String) (ty0 : Nat → FieldType), zCl[ci]? = some (C, T, N) ∧ fk < N ∧ (∀ w ∈ u_ws C T N, w ∈ zT) ∧ Cond.fieldLink own idx ref (T fk).2.1 (T fk).2.2.1 ∈ zT ∧
  (ref = (T fk).1 ∨ Cond.sameField ref (T fk).1 (T fk).2.1 (T fk).2.2.1 ∈ zT) ∧ (∀ k, k < N → parseFieldDescriptor (T k).2.2.1 = some (ty0 k)) ∧ (∀ a, a < N → ∀ b, b < N → a ≠ b → (T a).2.1 ≠ (T b).2.1) ∧ (T fk).2.2.2 = fin ∧ parseFieldDescriptor (T fk).2.2.1 = some ty ∧ (fin = true → (T fk).1 = own)
theorem zF_ci {own : String} {idx ci fk : Nat} {ty : FieldType} {fin : Bool} (h : zF own idx ci fk ty fin) : ci ≠ 99 := by
  obtain ⟨C, T, N, ref, ty0, h1, -⟩ := h
  intro e
  subst e
  cases h1
theorem z_same {s : State} {args : Array Value} {T : u_T} {fk : Nat} {ref : String} (hts : ∀ w ∈ zT, w.before args s = true) (h : ref = (T fk).1 ∨ Cond.sameField ref (T fk).1 (T fk).2.1 (T fk).2.2.1 ∈ zT) : ∀ x, s.fieldFound? (T fk).1 (T fk).2.1 (T fk).2.2.1 = some x → s.fieldFound? ref (T fk).2.1 (T fk).2.2.1 = some x := by
  rcases h with h | h
  · subst h
    exact fun _ h => h
  · exact fun x hx => u_same (hts _ h) x hx
theorem z_getf {a ci fk idx : Nat} {fs : List Value} {v : Value} {ty : FieldType} {fin : Bool} (k : Nat) (hd : (mI M)[k]? = some (pc, .getfield idx, 3)) (hp : pc + 3 = pc') (hf : zF (mO M) idx ci fk ty fin) (hm : μ a = .inr (ci, fs)) (hv : fs[fk]? = some v) (kk : zW G d M pc' lv (v :: st) n u μ nF uF Φ) : zW G d M pc lv (.ref a :: st) n u μ nF uF Φ := by
  subst hp
  have hci := zF_ci hf
  obtain ⟨C, T, N, ref, ty0, f1, f2, f3, f4, f5, -⟩ := hf
  intro p e R s m args below meth c n0 u0 B h1 h2 H locs ls hR hl hlv
  obtain ⟨g1, g2⟩ := zR_in hR hm hci
  have he := zws_at (G := G) (n := n) (μ := μ) g1 g2
  rw [hm] at he
  exact va_get B.1 B.2.1 (zB_T B) f3 (zB_own B) (zB_K B) hR.2.2.1 (a - 4) he f1 fk f2 (zB_T B _ f4) (z_same (zB_T B) f5) (v := zv G v) (by rw [List.getElem?_map, hv]; rfl) (z_dec (zB_ok B) hd) (kk p e R s m args below meth c n0 u0 B h1 h2 H locs ls hR hl hlv)
theorem zv_nar {ty : FieldType} {v : Value} (h : narrow ty v = v) : narrow ty (zv G v) = zv G v := by
  cases v <;> first | exact h | (cases ty <;> rfl)
theorem zv_fit {ty : FieldType} {v : Value} (h : fits ty v = true) : fits ty (zv G v) = true := by
  cases v <;> first | exact h | (cases ty <;> first | rfl | cases h)
theorem z_putf {a ci fk idx : Nat} {fs fs' : List Value} {v : Value} {ty : FieldType} (k : Nat) (hd : (mI M)[k]? = some (pc, .putfield idx, 3)) (hp : pc + 3 = pc') (hf : zF (mO M) idx ci fk ty false) (hm : μ a = .inr (ci, fs)) (hn : narrow ty v = v) (hfit : fits ty v = true) (hl0 : Nat.blt fk fs.length = true) (hs : fs.set fk v = fs')
    (kk : zW G d M pc' lv st n u (zu μ a (.inr (ci, fs'))) nF uF Φ) : zW G d M pc lv (v :: .ref a :: st) n u μ nF uF Φ := by
  subst hp; subst hs
  have hci := zF_ci hf
  obtain ⟨C, T, N, ref, ty0, f1, f2, f3, f4, f5, f6, f7, f8, f9, f10⟩ := hf
  intro p e R s m args below meth c n0 u0 B h1 h2 H locs ls hR hl hlv
  obtain ⟨g1, g2⟩ := zR_in hR hm hci
  have he := zws_at (G := G) (n := n) (μ := μ) g1 g2
  rw [hm] at he
  refine va_put B.1 B.2.1 (zB_T B) f3 ty0 f6 f7 (zB_own B) (zB_K B) hR.2.2.1 zws_D (z_S B h1 hR hl) (a - 4) he f1 fk f2 (zB_T B _ f4) (z_same (zB_T B) f5) f8 f9 (v := zv G v) (zv_nar hn) (zv_fit hfit) (by rw [List.length_map]; exact Nat.le_of_ble_eq_true hl0) (z_dec (zB_ok B) hd) (fun H1 locs1 hP1 hD1 hS1 => ?_)
  have e1 : (Sum.inr (ci, (fs.map (zv G)).set fk (zv G v)) : va_E) = ze G (.inr (ci, fs.set fk v)) := by simp only [ze, List.map_set]
  rw [e1, zws_set g1 g2] at hP1
  refine zW_size (fun hsz => ?_)
  exact kk p e R s m args below meth c n0 u0 B h1 h2 H1 locs1 ls (z_putEnd B h1 hR g1 g2 hP1 hS1 hsz) hS1.2.2 hlv
theorem z_putF {a ci fk idx : Nat} {fs fs' : List Value} {v : Value} {ty : FieldType} (k : Nat) (hd : (mI M)[k]? = some (pc, .putfield idx, 3)) (hp : pc + 3 = pc') (hi : (mY M).name = "<init>") (hf : zF (mO M) idx ci fk ty true) (hm : μ a = .inr (ci, fs)) (hn : narrow ty v = v) (hfit : fits ty v = true) (hl0 : Nat.blt fk fs.length = true) (hs : fs.set fk v = fs')
    (kk : zW G d M pc' lv st n u (zu μ a (.inr (ci, fs'))) nF uF Φ) : zW G d M pc lv (v :: .ref a :: st) n u μ nF uF Φ := by
  subst hp; subst hs
  have hci := zF_ci hf
  obtain ⟨C, T, N, ref, ty0, f1, f2, f3, f4, f5, f6, f7, f8, f9, f10⟩ := hf
  intro p e R s m args below meth c n0 u0 B h1 h2 H locs ls hR hl hlv
  obtain ⟨g1, g2⟩ := zR_in hR hm hci
  have he := zws_at (G := G) (n := n) (μ := μ) g1 g2
  rw [hm] at he
  refine va_putF B.1 B.2.1 (zB_T B) f3 ty0 f6 f7 (zB_own B) (zB_K B) hR.2.2.1 zws_D (z_S B h1 hR hl) (a - 4) he f1 fk f2 (zB_T B _ f4) (z_same (zB_T B) f5) f8 (B.2.2.2.2.2.2.2.2.1.trans hi) (f10 rfl) f9 (v := zv G v) (zv_nar hn) (zv_fit hfit) (by rw [List.length_map]; exact Nat.le_of_ble_eq_true hl0) (z_dec (zB_ok B) hd) (fun H1 locs1 hP1 hD1 hS1 => ?_)
  have e1 : (Sum.inr (ci, (fs.map (zv G)).set fk (zv G v)) : va_E) = ze G (.inr (ci, fs.set fk v)) := by simp only [ze, List.map_set]
  rw [e1, zws_set g1 g2] at hP1
  refine zW_size (fun hsz => ?_)
  exact kk p e R s m args below meth c n0 u0 B h1 h2 H1 locs1 ls (z_putEnd B h1 hR g1 g2 hP1 hS1 hsz) hS1.2.2 hlv
/-! arrays -/
theorem z_iald {a j N : Nat} {f : Nat → Int32} (k : Nat) (hd : (mI M)[k]? = some (pc, .iaload, 1)) (hp : pc + 1 = pc') (hm : μ a = .inl (0, N, .inl f)) (hj : j < N) (hN : N < 2 ^ 31) (kk : zW G d M pc' lv (.int (f j) :: st) n u μ nF uF Φ) : zW G d M pc lv (.int (nI j) :: .ref a :: st) n u μ nF uF Φ := by
  subst hp
  intro p e R s m args below meth c n0 u0 B h1 h2 H locs ls hR hl hlv
  obtain ⟨g1, g2⟩ := zR_in hR hm (by show (0 : Nat) ≠ 7; decide)
  have he := zws_at (G := G) (n := n) (μ := μ) g1 g2
  rw [hm] at he
  refine va_iald B.1 B.2.1 (zB_K B) hR.2.2.1 (a - 4) 0 he rfl (vp_in_nI hj hN) (z_dec (zB_ok B) hd) ?_
  rw [nI_clamp (by omega)]
  exact kk p e R s m args below meth c n0 u0 B h1 h2 H locs ls hR hl hlv
theorem z_iast {a j N : Nat} {f : Nat → Int32} {x : Int32} (k : Nat) (hd : (mI M)[k]? = some (pc, .iastore, 1)) (hp : pc + 1 = pc') (hm : μ a = .inl (0, N, .inl f)) (hj : j < N) (hN : N < 2 ^ 31) (kk : zW G d M pc' lv st n u (zu μ a (.inl (0, N, .inl (upd f j x)))) nF uF Φ) : zW G d M pc lv (.int x :: .int (nI j) :: .ref a :: st) n u μ nF uF Φ := by
  subst hp
  intro p e R s m args below meth c n0 u0 B h1 h2 H locs ls hR hl hlv
  obtain ⟨g1, g2⟩ := zR_in hR hm (by show (0 : Nat) ≠ 7; decide)
  have he := zws_at (G := G) (n := n) (μ := μ) g1 g2
  rw [hm] at he
  refine va_iast B.1 B.2.1 (zB_K B) hR.2.2.1 zws_D (z_S B h1 hR hl) (a - 4) 0 he rfl (vp_in_nI hj hN) (z_dec (zB_ok B) hd) (fun H1 locs1 hP1 hD1 hS1 => ?_)
  rw [nI_clamp (by omega)] at hP1
  rw [show (Sum.inl (zA G 0, N, Sum.inl (upd f j x)) : va_E) = ze G (.inl (0, N, .inl (upd f j x))) from rfl, zws_set g1 g2] at hP1
  refine zW_size (fun hsz => ?_)
  exact kk p e R s m args below meth c n0 u0 B h1 h2 H1 locs1 ls (z_putEnd B h1 hR g1 g2 hP1 hS1 hsz) hS1.2.2 hlv
theorem z_lald {a j N : Nat} {f : Nat → Int64} (k : Nat) (hd : (mI M)[k]? = some (pc, .laload, 1)) (hp : pc + 1 = pc') (hm : μ a = .inl (2, N, .inr (.inl f))) (hj : j < N) (hN : N < 2 ^ 31) (kk : zW G d M pc' lv (.long (f j) :: st) n u μ nF uF Φ) : zW G d M pc lv (.int (nI j) :: .ref a :: st) n u μ nF uF Φ := by
  subst hp
  intro p e R s m args below meth c n0 u0 B h1 h2 H locs ls hR hl hlv
  obtain ⟨g1, g2⟩ := zR_in hR hm (by show (2 : Nat) ≠ 7; decide)
  have he := zws_at (G := G) (n := n) (μ := μ) g1 g2
  rw [hm] at he
  refine va_lald B.1 B.2.1 (zB_K B) hR.2.2.1 (a - 4) 2 he rfl (vp_in_nI hj hN) (z_dec (zB_ok B) hd) ?_
  rw [nI_clamp (by omega)]
  exact kk p e R s m args below meth c n0 u0 B h1 h2 H locs ls hR hl hlv
theorem z_last {a j N : Nat} {f : Nat → Int64} {x : Int64} (k : Nat) (hd : (mI M)[k]? = some (pc, .lastore, 1)) (hp : pc + 1 = pc') (hm : μ a = .inl (2, N, .inr (.inl f))) (hj : j < N) (hN : N < 2 ^ 31) (kk : zW G d M pc' lv st n u (zu μ a (.inl (2, N, .inr (.inl (vp_updL f j x))))) nF uF Φ) : zW G d M pc lv (.long x :: .int (nI j) :: .ref a :: st) n u μ nF uF Φ := by
  subst hp
  intro p e R s m args below meth c n0 u0 B h1 h2 H locs ls hR hl hlv
  obtain ⟨g1, g2⟩ := zR_in hR hm (by show (2 : Nat) ≠ 7; decide)
  have he := zws_at (G := G) (n := n) (μ := μ) g1 g2
  rw [hm] at he
  refine va_last B.1 B.2.1 (zB_K B) hR.2.2.1 zws_D (z_S B h1 hR hl) (a - 4) 2 he rfl (vp_in_nI hj hN) (z_dec (zB_ok B) hd) (fun H1 locs1 hP1 hD1 hS1 => ?_)
  rw [nI_clamp (by omega)] at hP1
  rw [show (Sum.inl (zA G 2, N, Sum.inr (Sum.inl (vp_updL f j x))) : va_E) = ze G (.inl (2, N, .inr (.inl (vp_updL f j x)))) from rfl, zws_set g1 g2] at hP1
  refine zW_size (fun hsz => ?_)
  exact kk p e R s m args below meth c n0 u0 B h1 h2 H1 locs1 ls (z_putEnd B h1 hR g1 g2 hP1 hS1 hsz) hS1.2.2 hlv
theorem z_zald {a j N : Nat} {f : Nat → Int32} (k : Nat) (hd : (mI M)[k]? = some (pc, .baload, 1)) (hp : pc + 1 = pc') (hm : μ a = .inl (1, N, .inl f)) (hj : j < N) (hN : N < 2 ^ 31) (kk : zW G d M pc' lv (.int (f j) :: st) n u μ nF uF Φ) : zW G d M pc lv (.int (nI j) :: .ref a :: st) n u μ nF uF Φ := by
  subst hp
  intro p e R s m args below meth c n0 u0 B h1 h2 H locs ls hR hl hlv
  obtain ⟨g1, g2⟩ := zR_in hR hm (by show (1 : Nat) ≠ 7; decide)
  have he := zws_at (G := G) (n := n) (μ := μ) g1 g2
  rw [hm] at he
  refine va_zald B.1 B.2.1 (zB_K B) hR.2.2.1 (a - 4) 1 he rfl (vp_in_nI hj hN) (z_dec (zB_ok B) hd) ?_
  rw [nI_clamp (by omega)]
  exact kk p e R s m args below meth c n0 u0 B h1 h2 H locs ls hR hl hlv
theorem z_zast {a j N : Nat} {f : Nat → Int32} {x : Int32} (k : Nat) (hd : (mI M)[k]? = some (pc, .bastore, 1)) (hp : pc + 1 = pc') (hm : μ a = .inl (1, N, .inl f)) (hj : j < N) (hN : N < 2 ^ 31) (hx : narrow .boolean (.int x) = .int x) (kk : zW G d M pc' lv st n u (zu μ a (.inl (1, N, .inl (upd f j x)))) nF uF Φ) : zW G d M pc lv (.int x :: .int (nI j) :: .ref a :: st) n u μ nF uF Φ := by
  subst hp
  intro p e R s m args below meth c n0 u0 B h1 h2 H locs ls hR hl hlv
  obtain ⟨g1, g2⟩ := zR_in hR hm (by show (1 : Nat) ≠ 7; decide)
  have he := zws_at (G := G) (n := n) (μ := μ) g1 g2
  rw [hm] at he
  refine va_zast B.1 B.2.1 (zB_K B) hR.2.2.1 zws_D (z_S B h1 hR hl) (a - 4) 1 he rfl (vp_in_nI hj hN) (z_dec (zB_ok B) hd) (fun H1 locs1 hP1 hD1 hS1 => ?_)
  have hnar : vp_nar .boolean x = x := by unfold vp_nar; rw [hx]
  rw [nI_clamp (by omega), hnar] at hP1
  rw [show (Sum.inl (zA G 1, N, Sum.inl (upd f j x)) : va_E) = ze G (.inl (1, N, .inl (upd f j x))) from rfl, zws_set g1 g2] at hP1
  refine zW_size (fun hsz => ?_)
  exact kk p e R s m args below meth c n0 u0 B h1 h2 H1 locs1 ls (z_putEnd B h1 hR g1 g2 hP1 hS1 hsz) hS1.2.2 hlv
theorem z_aald {a j N b : Nat} {f : Nat → Option Nat} (k : Nat) (hd : (mI M)[k]? = some (pc, .aaload, 1)) (hp : pc + 1 = pc') (hm : μ a = .inl (3, N, .inr (.inr (.inr (.inr f))))) (hj : j < N) (hN : N < 2 ^ 31) (hf : f j = some b) (kk : zW G d M pc' lv (.ref b :: st) n u μ nF uF Φ) : zW G d M pc lv (.int (nI j) :: .ref a :: st) n u μ nF uF Φ := by
  subst hp
  intro p e R s m args below meth c n0 u0 B h1 h2 H locs ls hR hl hlv
  obtain ⟨g1, g2⟩ := zR_in hR hm (by show (3 : Nat) ≠ 7; decide)
  have he := zws_at (G := G) (n := n) (μ := μ) g1 g2
  rw [hm] at he
  refine va_aldq B.1 B.2.1 (zB_K B) hR.2.2.1 (a - 4) 3 he rfl (vp_in_nI hj hN) (z_dec (zB_ok B) hd) ?_
  rw [nI_clamp (by omega), hf]
  exact kk p e R s m args below meth c n0 u0 B h1 h2 H locs ls hR hl hlv
theorem z_aast {a j N b : Nat} {fs : List Value} {f : Nat → Option Nat} (k : Nat) (hd : (mI M)[k]? = some (pc, .aastore, 1)) (hp : pc + 1 = pc') (hm : μ a = .inl (3, N, .inr (.inr (.inr (.inr f))))) (hb : μ b = .inr (4, fs)) (hj : j < N) (hN : N < 2 ^ 31) (kk : zW G d M pc' lv st n u (zu μ a (.inl (3, N, .inr (.inr (.inr (.inr (va_up f j (some b)))))))) nF uF Φ) : zW G d M pc lv (.ref b :: .int (nI j) :: .ref a :: st) n u μ nF uF Φ := by
  subst hp
  intro p e R s m args below meth c n0 u0 B h1 h2 H locs ls hR hl hlv
  obtain ⟨g1, g2⟩ := zR_in hR hm (by show (3 : Nat) ≠ 7; decide)
  obtain ⟨g3, g4⟩ := zR_in hR hb (by show (4 : Nat) ≠ 99; decide)
  have he := zws_at (G := G) (n := n) (μ := μ) g1 g2
  have he2 := zws_at (G := G) (n := n) (μ := μ) g3 g4
  rw [hm] at he
  rw [hb] at he2
  refine va_astq (r := (R_Cr, F_Cr, 5)) B.1 B.2.1 (zB_K B) hR.2.2.1 zws_D (z_S B h1 hR hl) (a - 4) 3 (b - 4) 4 he rfl he2 rfl (vp_in_nI hj hN) (z_dec (zB_ok B) hd) (fun H1 locs1 hP1 hD1 hS1 => ?_)
  rw [nI_clamp (by omega)] at hP1
  have e1 : va_up (fun j => (f j).map (za G)) j (some (za G b)) = fun i => (va_up f j (some b) i).map (za G) := by
    funext i
    unfold va_up
    by_cases hi : i = j
    · rw [if_pos hi, if_pos hi]; rfl
    · rw [if_neg hi, if_neg hi]
  rw [e1] at hP1
  rw [show (Sum.inl (zA G 3, N, Sum.inr (Sum.inr (Sum.inr (Sum.inr (fun i => (va_up f j (some b) i).map (za G)))))) : va_E) = ze G (.inl (3, N, .inr (.inr (.inr (.inr (va_up f j (some b))))))) from rfl, zws_set g1 g2] at hP1
  refine zW_size (fun hsz => ?_)
  exact kk p e R s m args below meth c n0 u0 B h1 h2 H1 locs1 ls (z_putEnd B h1 hR g1 g2 hP1 hS1 hsz) hS1.2.2 hlv
theorem z_alen {a N kd : Nat} {f : Nat → Int32} (k : Nat) (hd : (mI M)[k]? = some (pc, .arraylength, 1)) (hp : pc + 1 = pc') (hm : μ a = .inl (0, N, .inl f)) (kk : zW G d M pc' lv (.int (nI N) :: st) n u μ nF uF Φ) : zW G d M pc lv (.ref a :: st) n u μ nF uF Φ := by
  subst hp
  intro p e R s m args below meth c n0 u0 B h1 h2 H locs ls hR hl hlv
  obtain ⟨g1, g2⟩ := zR_in hR hm (by show (0 : Nat) ≠ 7; decide)
  have he := zws_at (G := G) (n := n) (μ := μ) g1 g2
  rw [hm] at he
  exact va_alen B.1 B.2.1 (zB_K B) hR.2.2.1 (a - 4) 0 he rfl rfl (z_dec (zB_ok B) hd) (kk p e R s m args below meth c n0 u0 B h1 h2 H locs ls hR hl hlv)
/-! the constant arrays -/
theorem z_const {s : State} {args : Array Value} {p : Program} {R : Room} {m : MethodId} {meth : Method} {c : Code} {n0 u0 : Nat} (B : zB G d M p R s m args meth c n0 u0 nF uF) {H : Heap} (hR : zR G H n μ) {a N : Nat} {f : Nat → Int32} (ha : a < 4) (hm : μ a = .inl (7, N, .inl f)) : va_T .int (za G a) N (fun j => .int (f j)) (zQ G) s s.heap := by
  have e := hR.2.2.2.2.2 a ha
  rw [hm] at e
  obtain ⟨-, -, -, -, -, o6, o7, o8, -, -, -, -, o13⟩ := zB_O B
  have hkept : ∀ q : Nat, q < (zH G).size → ¬ zQ G q → s.heap[q]? = (zH G)[q]? := fun q _ hq => zB_low B q (Nat.lt_of_not_le hq)
  have hza : za G a = zsp G a := by simp only [za]; rw [if_pos ha]
  rw [hza]
  match a, ha with
  | 0, _ => simp only [zspec, Sum.inl.injEq, Prod.mk.injEq] at e; obtain ⟨-, rfl, rfl⟩ := e; exact o6.kept hkept
  | 1, _ => simp only [zspec, Sum.inl.injEq, Prod.mk.injEq] at e; obtain ⟨-, rfl, rfl⟩ := e; exact o7.kept hkept
  | 2, _ => simp only [zspec, Sum.inl.injEq, Prod.mk.injEq] at e; obtain ⟨-, rfl, rfl⟩ := e; exact o8.kept hkept
  | 3, _ => simp [zspec, zdead] at e
theorem z_iald7 {a j N : Nat} {f : Nat → Int32} (k : Nat) (hd : (mI M)[k]? = some (pc, .iaload, 1)) (hp : pc + 1 = pc') (ha : a < 4) (hm : μ a = .inl (7, N, .inl f)) (hj : j < N) (hN : N < 2 ^ 31) (kk : zW G d M pc' lv (.int (f j) :: st) n u μ nF uF Φ) : zW G d M pc lv (.int (nI j) :: .ref a :: st) n u μ nF uF Φ := by
  subst hp
  intro p e R s m args below meth c n0 u0 B h1 h2 H locs ls hR hl hlv
  refine va_ti B.1 B.2.1 (z_const B hR ha hm) (z_S B h1 hR hl) (vp_in_nI hj hN) rfl (z_dec (zB_ok B) hd) ?_
  rw [nI_clamp (by omega)]
  exact kk p e R s m args below meth c n0 u0 B h1 h2 H locs ls hR hl hlv
theorem z_alen7 {a N : Nat} {f : Nat → Int32} (k : Nat) (hd : (mI M)[k]? = some (pc, .arraylength, 1)) (hp : pc + 1 = pc') (ha : a < 4) (hm : μ a = .inl (7, N, .inl f)) (kk : zW G d M pc' lv (.int (nI N) :: st) n u μ nF uF Φ) : zW G d M pc lv (.ref a :: st) n u μ nF uF Φ := by
  subst hp
  intro p e R s m args below meth c n0 u0 B h1 h2 H locs ls hR hl hlv
  exact va_tlen B.1 B.2.1 (z_const B hR ha hm) (z_S B h1 hR hl) rfl (z_dec (zB_ok B) hd) (kk p e R s m args below meth c n0 u0 B h1 h2 H locs ls hR hl hlv)
theorem z_getsL {idx : Nat} (k : Nat) (hd : (mI M)[k]? = some (pc, .getstatic idx, 3)) (hp : pc + 3 = pc') (hlk : Cond.fieldLink (mO M) idx "WindBrides" "LINEAGE" "[I" ∈ zT) (kk : zW G d M pc' lv (.ref 0 :: st) n u μ nF uF Φ) : zW G d M pc lv st n u μ nF uF Φ := by
  subst hp
  intro p e R s m args below meth c n0 u0 B h1 h2 H locs ls hR hl hlv
  obtain ⟨-, -, -, o4, -⟩ := zB_O B
  exact va_gets B.1 B.2.1 (o4.kept (fun q _ hq => zB_low B q (Nat.lt_of_not_le hq))) (z_S B h1 hR hl) (zB_own B) (zB_T B _ hlk) (fun _ h => h) (z_dec (zB_ok B) hd) (kk p e R s m args below meth c n0 u0 B h1 h2 H locs ls hR hl hlv)
theorem z_getsN {idx : Nat} (k : Nat) (hd : (mI M)[k]? = some (pc, .getstatic idx, 3)) (hp : pc + 3 = pc') (hlk : Cond.fieldLink (mO M) idx "WindBridesModel" "NAMES" "[I" ∈ zT) (kk : zW G d M pc' lv (.ref 1 :: st) n u μ nF uF Φ) : zW G d M pc lv st n u μ nF uF Φ := by
  subst hp
  intro p e R s m args below meth c n0 u0 B h1 h2 H locs ls hR hl hlv
  obtain ⟨-, -, -, -, o5, -⟩ := zB_O B
  exact va_gets B.1 B.2.1 (o5.kept (fun q _ hq => zB_low B q (Nat.lt_of_not_le hq))) (z_S B h1 hR hl) (zB_own B) (zB_T B _ hlk) (fun _ h => h) (z_dec (zB_ok B) hd) (kk p e R s m args below meth c n0 u0 B h1 h2 H locs ls hR hl hlv)
end ZH
end
section
section ZC
variable {G : zG} {d : Nat} {M : zM} {pc pc' : Nat} {lv st : List Value} {n u : Nat} {μ : Nat → va_E} {nF uF : Nat} {Φ : zP}
/-! making -/
def zN (own : String) (idx ci N : Nat) (fs : List Value) : Prop := ∃ (C : String) (T : u_T) (ty : Nat → FieldType), zCl[ci]? = some (C, T, N) ∧ (∀ w ∈ u_ws C T N, w ∈ zT) ∧ (∀ k, k < N → parseFieldDescriptor (T k).2.2.1 = some (ty k)) ∧ Cond.classLink own idx C ∈ zT ∧ Cond.instantiable C N ∈ zT ∧ Cond.initialized C ∈ zT ∧ (∀ j, j < N → defaultValue (ty j) = vp_V fs j) ∧ fs.all (fun v => v == .int 0 || v == .null) = true
theorem z_def {fs : List Value} (h : fs.all (fun v => v == .int 0 || v == .null) = true) : fs.map (zv G) = fs := by
  have h1 := List.all_eq_true.mp h
  have e : fs.map (zv G) = fs.map id := List.map_congr_left (fun v hv => by
    have := h1 v hv
    simp only [Bool.or_eq_true, beq_iff_eq] at this
    rcases this with rfl | rfl <;> rfl)
  rw [e, List.map_id]
theorem z_new {ci N idx : Nat} {fs : List Value} (k : Nat) (hd : (mI M)[k]? = some (pc, .new idx, 3)) (hp : pc + 3 = pc') (hN : zN (mO M) idx ci N fs) (hn : n + 1 ≤ nF) (hu : u + N ≤ uF) (kk : zW G d M pc' lv (.ref n :: st) (n + 1) (u + N) (zu μ n (.inr (ci, fs))) nF uF Φ) : zW G d M pc lv st n u μ nF uF Φ := by
  subst hp
  obtain ⟨C, T, ty, f1, f2, f3, f4, f5, f6, f7, f8⟩ := hN
  intro p e R s m args below meth c n0 u0 B h1 h2 H locs ls hR hl hlv
  have hB := zB_n B
  refine va_new B.1 B.2.1 (zB_T B) f2 ty f3 (zB_own B) (zB_T B _ f4) (zB_T B _ f5) (zB_T B _ f6) (zB_K B) hR.2.2.1 zws_D (z_S B h1 hR hl) (fun q hq => by have := zB_sz B; show zb G ≤ q; omega) f1 f7 (by omega) (by omega) (z_dec (zB_ok B) hd) (fun q H1 hP1 hD1 hS1 => ?_)
  have e1 : (Sum.inr (ci, fs) : va_E) = ze G (.inr (ci, fs)) := by simp only [ze, z_def f8]
  rw [e1] at hP1 hD1
  refine zW_size (fun hsz => ?_)
  obtain ⟨hq, hR1⟩ := z_newEnd B h1 hR hP1 hD1 hS1 hsz
  subst hq
  have k1 := kk p e R s m args below meth c n0 u0 B (by omega) (by omega) H1 locs ls hR1 hl hlv
  rw [show n + 1 - n0 = n - n0 + 1 by omega, show u + N - u0 = u - u0 + N by omega] at k1
  exact k1
theorem z_newa {at_ : ArrayType} {kd L : Nat} {ty : FieldType} {a0 : vp_A} (k : Nat) (hd : (mI M)[k]? = some (pc, .newarray at_, 2)) (hp : pc + 2 = pc') (hty : newarray.typeOf at_ = ty) (hno : ∀ C, ty ≠ .object C) (hk : (ztys G)[kd]? = some (zA G kd, ty)) (hw : Cond.arrayClass ty ∈ zT) (ha : ∀ cA : ClassId, vp_cell cA a0 = arrV cA L (fun _ => defaultValue ty)) (hz : ze G (.inl (kd, a0)) = .inl (zA G kd, a0)) (hL : L ≤ 65536) (hn : n + 1 ≤ nF) (hu : u + L ≤ uF)
    (kk : zW G d M pc' lv (.ref n :: st) (n + 1) (u + L) (zu μ n (.inl (kd, a0))) nF uF Φ) : zW G d M pc lv (.int (nI L) :: st) n u μ nF uF Φ := by
  subst hp
  intro p e R s m args below meth c n0 u0 B h1 h2 H locs ls hR hl hlv
  have hB := zB_n B
  have hcb : componentBytes ty ≤ 8 := by cases ty <;> simp [componentBytes]
  refine va_newa B.1 B.2.1 (by rw [hty]; exact zB_T B _ hw) hty (zB_K B) hR.2.2.1 zws_D (z_S B h1 hR hl) (fun q hq => by have := zB_sz B; show zb G ≤ q; omega) ha (nI_pos (by omega)) (nI_clamp (by omega)) (by
    have := Nat.mul_le_mul hL hcb
    omega) (by omega) (by omega) (z_dec (zB_ok B) hd) (fun q cA H1 hK1 hP1 hD1 hS1 => ?_)
  have hcA : cA = zA G kd := by
    have x1 := (hK1.2 (ztys G).length (cA, ty) (by rw [List.getElem?_append_right (Nat.le_refl _), Nat.sub_self]; rfl)).2
    have x2 := ((zB_K B).2 kd _ hk).2
    cases ty <;> first | exact absurd rfl (hno _) | exact Option.some.inj (x1.symm.trans x2)
  subst hcA
  rw [← hz] at hP1 hD1
  refine zW_size (fun hsz => ?_)
  obtain ⟨hq, hR1⟩ := z_newEnd B h1 hR hP1 hD1 hS1 hsz
  subst hq
  have k1 := kk p e R s m args below meth c n0 u0 B (by omega) (by omega) H1 locs ls hR1 hl hlv
  rw [show n + 1 - n0 = n - n0 + 1 by omega, show u + L - u0 = u - u0 + L by omega] at k1
  exact k1
theorem z_newq {idx L : Nat} (k : Nat) (hd : (mI M)[k]? = some (pc, .anewarray idx, 3)) (hp : pc + 3 = pc') (hw : Cond.classLink (mO M) idx "WindBrides$Course" ∈ zT) (hL : L ≤ 65536) (hn : n + 1 ≤ nF) (hu : u + L ≤ uF)
    (kk : zW G d M pc' lv (.ref n :: st) (n + 1) (u + L) (zu μ n (.inl (3, L, .inr (.inr (.inr (.inr (fun _ => none))))))) nF uF Φ) : zW G d M pc lv (.int (nI L) :: st) n u μ nF uF Φ := by
  subst hp
  intro p e R s m args below meth c n0 u0 B h1 h2 H locs ls hR hl hlv
  have hB := zB_n B
  refine va_newq B.1 B.2.1 (zB_own B) (zB_T B _ hw) (zB_O B).2.2.1 (zB_K B) hR.2.2.1 zws_D (z_S B h1 hR hl) (fun q hq => by have := zB_sz B; show zb G ≤ q; omega) (nI_pos (by omega)) (nI_clamp (by omega)) (by omega) (by omega) (by omega) (z_dec (zB_ok B) hd) (fun q cA H1 hK1 hP1 hD1 hS1 => ?_)
  have hcA : cA = zA G 3 := by
    obtain ⟨kA, comp, -, -, -, x1⟩ := (hK1.2 (ztys G).length (cA, .object "WindBrides$Course") (by rw [List.getElem?_append_right (Nat.le_refl _), Nat.sub_self]; rfl)).2
    obtain ⟨kA2, comp2, -, -, -, x2⟩ := ((zB_K B).2 3 (zA G 3, .object "WindBrides$Course") rfl).2
    exact Option.some.inj (x1.symm.trans x2)
  subst hcA
  rw [show (Sum.inl (zA G 3, L, Sum.inr (Sum.inr (Sum.inr (Sum.inr (fun _ => none))))) : va_E) = ze G (.inl (3, L, .inr (.inr (.inr (.inr (fun _ => none)))))) from rfl] at hP1 hD1
  refine zW_size (fun hsz => ?_)
  obtain ⟨hq, hR1⟩ := z_newEnd B h1 hR hP1 hD1 hS1 hsz
  subst hq
  have k1 := kk p e R s m args below meth c n0 u0 B (by omega) (by omega) H1 locs ls hR1 hl hlv
  rw [show n + 1 - n0 = n - n0 + 1 by omega, show u + L - u0 = u - u0 + L by omega] at k1
  exact k1
theorem z_copy {idx a b sp dp ln N0 N1 : Nat} {f g : Nat → Int32} (k : Nat) (hd : (mI M)[k]? = some (pc, .invokestatic idx, 3)) (hp : pc + 3 = pc') (hdp : 1 ≤ d) (hw : Cond.methodLink (mO M) idx arraycopyName ∈ zT) (hw2 : Cond.native arraycopyName ∈ zT) (hw3 : Cond.static arraycopyName ∈ zT) (hw4 : Cond.initialized "java/lang/System" ∈ zT)
    (hm : μ a = .inl (0, N0, .inl f)) (hm2 : μ b = .inl (0, N1, .inl g)) (hN0 : N0 < 2 ^ 31) (hN1 : N1 < 2 ^ 31) (h4 : sp + ln ≤ N0) (h5 : dp + ln ≤ N1) (hrs : (st.map fun v => v.category).sum ≤ 8)
    (kk : zW G d M pc' lv st n u (zu μ b (.inl (0, N1, .inl (va_cpy f g sp dp ln)))) nF uF Φ) : zW G d M pc lv (.int (nI ln) :: .int (nI dp) :: .ref b :: .int (nI sp) :: .ref a :: st) n u μ nF uF Φ := by
  subst hp
  intro p e R s m args below meth c n0 u0 B h1 h2 H locs ls hR hl hlv
  have hB := zB_n B
  obtain ⟨g1, g2⟩ := zR_in hR hm (by show (0 : Nat) ≠ 7; decide)
  obtain ⟨g3, g4⟩ := zR_in hR hm2 (by show (0 : Nat) ≠ 7; decide)
  have he := zws_at (G := G) (n := n) (μ := μ) g1 g2
  have he2 := zws_at (G := G) (n := n) (μ := μ) g3 g4
  rw [hm] at he
  rw [hm2] at he2
  have hcs : ((st.map (zv G)).map fun v => v.category) = st.map fun v => v.category := by rw [List.map_map]; exact List.map_congr_left (fun v _ => zv_cat v)
  have hnf : nativeFrameWords "java/lang/System" "arraycopy" 5 = 7 := by decide
  have hlo : ((st.map (zv G)).map fun v => v.category).sum + (nativeFrameWords "java/lang/System" "arraycopy" 5 + 11) ≤ R.locals := by rw [hcs, hnf]; omega
  have c1 : (nI sp).toNatClampNeg = sp := nI_clamp (by omega)
  have c2 : (nI dp).toNatClampNeg = dp := nI_clamp (by omega)
  have c3 : (nI ln).toNatClampNeg = ln := nI_clamp (by omega)
  refine va_copyi (sp := nI sp) (dp := nI dp) (n := nI ln) B.1 B.2.1 (by rw [B.2.2.2.1]; exact hlv.1.symm) (zB_own B) (zB_T B _ hw) (zB_T B _ hw2) (zB_T B _ hw3) (zB_T B _ hw4) (zB_K B) hR.2.2.1 zws_D (z_S B h1 hR hl) (a - 4) (b - 4) 0 0 (ty := .int) he he2 rfl rfl rfl (nI_pos (by omega)) (nI_pos (by omega)) (nI_pos (by omega)) (by rw [c1, c3]; exact h4) (by rw [c2, c3]; exact h5) (fun _ _ => rfl) (by omega) hlo (z_dec (zB_ok B) hd) (fun H1 locs1 hP1 hD1 hS1 => ?_)
  rw [c1, c2, c3] at hP1
  rw [show (Sum.inl (zA G 0, N1, Sum.inl (va_cpy f g sp dp ln)) : va_E) = ze G (.inl (0, N1, .inl (va_cpy f g sp dp ln))) from rfl, zws_set g3 g4] at hP1
  refine zW_size (fun hsz => ?_)
  exact kk p e R s m args below meth c n0 u0 B h1 h2 H1 locs1 ls (z_putEnd B h1 hR g3 g4 hP1 hS1 hsz) hS1.2.2 hlv
/-! calls -/
theorem z_mem {w : Cond} (i : Nat) (h : lw_tbl[i]? = some w) (hg : goodWord w = true) : w ∈ zT := List.mem_filter.mpr ⟨List.mem_of_getElem? h, hg⟩
theorem z_memN {w : Cond} (i : Nat) (h : lw_tbl[i]? = some w) (hg : zisN w = true) : w ∈ zNW := List.mem_filter.mpr ⟨List.mem_of_getElem? h, hg⟩
theorem z_good {M' : zM} (h : Cond.code (mY M') (mC M') (mL M') (mR M') ∈ zT) : GoodIn zT (zwd M') := by
  intro w hw
  rcases List.mem_cons.mp hw with rfl | hw
  · exact ⟨h, Or.inl rfl⟩
  · exact ⟨hw, good_of_word (List.mem_filter.mp hw).2⟩
/-- the callee: its code is a word, it is made, its descriptor has na parameters, its locals are few -/
def kC (M' : zM) (na : Nat) : Prop := Cond.code (mY M') (mC M') (mL M') (mR M') ∈ zT ∧ Cond.initialized (mY M').cls ∈ zT ∧ ((mY M').cls ≠ "java/lang/invoke/MethodHandle" ∧ (mY M').cls ≠ "java/lang/invoke/VarHandle") ∧ (parseMethodDescriptor (mY M').desc).map (fun d => d.parameters.length) = some na ∧ mL M' ≤ 13
theorem kC_par {M' : zM} {na : Nat} (h : kC M' na) : ∀ sig, parseMethodDescriptor (mY M').desc = some sig → na = sig.parameters.length := by
  intro sig hs
  have := h.2.2.2.1
  rw [hs] at this
  exact (Option.some.inj this).symm
theorem z_blind {as : List Value} : FrameBlind (zPc G as n μ) := by
  intro a U g mk h
  obtain ⟨h1, h2, h3⟩ := h
  exact ⟨h1, zO_same (u := U) rfl h2, h3⟩
section B2
variable {p : Program} {e : Env} {R : Room} {s : State} {m : MethodId} {args : Array Value} {below : List Frame} {meth : Method} {c : Code} {n0 u0 : Nat} {H : Heap} {locs : List Loc} {ls : Array Slot}
theorem z_run {d' n' u' : Nat} {st0 : List Value} {Φ' : zP} {a : Array Value} (B : zB G d M p R s m args meth c n0 u0 nF uF) (h1 : n0 ≤ n) (h2 : u0 ≤ u) (hn : n ≤ n') (hu : u ≤ u') (hl : ∀ q ∈ locs, zb G ≤ q.base) (hlv : zlv G ls (mL M) lv)
    (hr : va_Run p (zl G) e R s m args below meth c H locs (n - n0) (u - u0) (n' - n) (u' - u) (F0 m pc ls st0) (st.map (zv G)) (zQc G Φ' n' a) (zQ G)) (kk : ∀ r μ', Φ' r μ' → zW G d M (pc + 3) lv (r.toList ++ st) n' u' μ' nF uF Φ) :
    W p (zl G) e R s m args below meth c H locs (n - n0) (u - u0) (MQ below (zQc G Φ nF) args s (nF - n0) (uF - u0) (zQ G)) (F0 m pc ls st0) := by
  intro T hT X
  obtain ⟨v, st₀, t, T', L, e0, X', hL, e1, e2, ⟨r, μ', hq, hΦ, hR'⟩, hgo⟩ := hr T hT X
  have hv : v = r.map (zv G) := Outcome.returned.inj hq
  subst hv
  rw [show n - n0 + (n' - n) = n' - n0 by omega, show u - u0 + (u' - u) = u' - u0 by omega] at X'
  have k1 := kk r μ' hΦ p e R s m args below meth c n0 u0 B (by omega) (by omega) T'.heap (locs ++ L) ls (by rw [e1]; exact hR') (fun q hq => by
    rcases List.mem_append.mp hq with h | h
    · exact hl q h
    · exact hL q h) hlv
  obtain ⟨t2, a1, b1⟩ := k1 T' rfl X'
  refine ⟨t2, hgo _ ?_, b1⟩
  have e3 : (r.map (zv G)).toList ++ st.map (zv G) = (r.toList ++ st).map (zv G) := by cases r <;> simp
  rw [e3]
  exact a1
theorem z_pre (B : zB G d M p R s m args meth c n0 u0 nF uF) (hR : zR G H n μ) (as : List Value) : ∀ U : State, U.heap = H → s.WarmedH U.vm → zPc G as n μ (as.map (zv G)).toArray U := by
  intro U hU hW
  exact ⟨rfl, zO_warm hW (zB_O B), by rw [hU]; exact hR⟩
theorem z_callB {d' n' u' : Nat} {M' : zM} {na : Nat} (B : zB G d M p R s m args meth c n0 u0 nF uF) (hdd : d' < d) (hk : kC M' na) : (zRm d' (n' - n) (u' - u)).cells = n' - n ∧ (zRm d' (n' - n) (u' - u)).slots = u' - u ∧ (zRm d' (n' - n) (u' - u)).frames + 1 ≤ R.frames ∧ 8 + (mL M' + 11) + (zRm d' (n' - n) (u' - u)).locals ≤ R.locals ∧
    (∀ w ∈ zwd M', ∀ (a' : Array Value) (U : State), s.WarmedH U.vm → w.before a' U = true) ∧ Cond.code (mY M') (mC M') (mL M') (mR M') ∈ zwd M' := by
  have hB := zB_n B
  refine ⟨rfl, rfl, ?_, ?_, pay_in (zB_T B) (z_good hk.1), List.mem_cons_self⟩
  · show d' + 1 ≤ R.frames
    omega
  · show 8 + (mL M' + 11) + 32 * d' ≤ R.locals
    have := hk.2.2.2.2
    omega
end B2
abbrev zmon (st : List Value) : Prop := (st.map fun v => v.category).sum ≤ 8
theorem z_mon {m : MethodId} {ls : Array Slot} {x : List Value} (h : zmon st) : 2 * (F0 m pc ls x).monitorRoom + ((st.map (zv G)).map fun v => v.category).sum ≤ 8 := by
  refine lv_room ?_
  have hcs : ((st.map (zv G)).map fun v => v.category) = st.map fun v => v.category := by rw [List.map_map]; exact List.map_congr_left (fun v _ => zv_cat v)
  rw [hcs]
  exact h
def kS (own : String) (idx : Nat) (M' : zM) (na : Nat) : Prop := kC M' na ∧ Cond.static (mY M') ∈ zT ∧ ((Cond.methodLink own idx (mY M') ∈ zT) ∨ ∃ host, Cond.methodLinkNest own idx (mY M') host ∈ zNW)
theorem z_callS {idx d' n' u' : Nat} {M' : zM} {na : Nat} {as ra : List Value} {Φ' : zP} (k : Nat) (hd : (mI M)[k]? = some (pc, .invokestatic idx, 3)) (hp : pc + 3 = pc') (hk : kS (mO M) idx M' na) (hM : zMet G d' M' as n u μ n' u' Φ') (hdd : d' < d) (hn : n' ≤ nF) (hu : u' ≤ uF) (hna : as.length = na) (has : as.reverse ++ st = ra) (hmon : zmon st)
    (kk : ∀ r μ', Φ' r μ' → zW G d M pc' lv (r.toList ++ st) n' u' μ' nF uF Φ) : zW G d M pc lv ra n u μ nF uF Φ := by
  subst hp; subst has; subst hna
  obtain ⟨hC, hst, hlk⟩ := hk
  obtain ⟨m1, m2, m3⟩ := hM
  intro p e R s m args below meth c n0 u0 B h1 h2 H locs ls hR hl hlv
  have hB := zB_n B
  have hcb := z_callB (n := n) (u := u) (n' := n') (u' := u') (M' := M') B hdd hC
  have hT := zB_T B
  refine z_run (d' := d') (a := (as.map (zv G)).toArray) B h1 h2 m1 m2 hl hlv ?_ kk
  rcases hlk with hlk | ⟨host, hlk⟩
  · exact va_runS (As := as.map (zv G)) (n := as.length) ⟨B.1, B.2.1, B.2.2.2.1, zB_own B, hT⟩ m3 ⟨⟨hcb.1, hcb.2.1, hcb.2.2.1, hcb.2.2.2.1, hcb.2.2.2.2.1, hcb.2.2.2.2.2, hT _ hC.1, hT _ hC.2.1, hC.2.2.1, kC_par hC, hT _ hlk⟩, hT _ hst⟩ ⟨z_blind, z_pre B hR as⟩ rfl (by simp) hlv.1 (by simp) (z_mon hmon) (z_dec (zB_ok B) hd) ⟨by omega, by omega⟩
  · exact va_runSN (host := host) (As := as.map (zv G)) (n := as.length) ⟨B.1, B.2.1, B.2.2.2.1, zB_own B, hT⟩ m3 ⟨⟨⟨hcb.1, hcb.2.1, hcb.2.2.1, hcb.2.2.2.1, hcb.2.2.2.2.1, hcb.2.2.2.2.2⟩, hT _ hC.1, hT _ hC.2.1, hC.2.2.1, kC_par hC, va_Nw.use rfl ((zB_O B).2.1 _ hlk)⟩, hT _ hst, trivial⟩ ⟨z_blind, z_pre B hR as⟩ rfl (by simp) hlv.1 (by simp) (z_mon hmon) (z_dec (zB_ok B) hd) ⟨by omega, by omega⟩
theorem z_recv {p : Program} {R : Room} {s : State} {m : MethodId} {args : Array Value} {meth : Method} {c : Code} {n0 u0 : Nat} {H : Heap} (B : zB G d M p R s m args meth c n0 u0 nF uF) (hR : zR G H n μ) {a ci : Nat} {C : String} {T : u_T} {N : Nat} {fs : List Value} (hm : μ a = .inr (ci, fs)) (hc : zCl[ci]? = some (C, T, N)) : ∃ cellB : Cell, H[za G a]? = some cellB ∧ cellB.vm.isStatics = false ∧ s.vm.findClass C = some cellB.cls := by
  have hci : ci ≠ 99 := by
    intro e
    subst e
    cases hc
  obtain ⟨g1, g2⟩ := zR_in hR hm hci
  have he := zws_at (G := G) (n := n) (μ := μ) g1 g2
  rw [hm] at he
  exact va_recv (zB_K B) hR.2.2.1 hc he
/-- a call of a method that its receiver's own class ci has -/
def kV (own : String) (idx ci : Nat) (M' : zM) (na : Nat) : Prop := kC M' na ∧ ∃ (C : String) (T : u_T) (N : Nat), zCl[ci]? = some (C, T, N) ∧ Cond.instanceMethod (mY M') ∈ zT ∧ Cond.selects C (mY M') (mY M') ∈ zT ∧ Cond.methodLink own idx (mY M') ∈ zT
theorem z_callV {idx ci a d' n' u' : Nat} {M' : zM} {na : Nat} {as ra : List Value} {fs : List Value} {Φ' : zP} (k : Nat) (hd : (mI M)[k]? = some (pc, .invokevirtual idx, 3)) (hp : pc + 3 = pc') (hk : kV (mO M) idx ci M' na) (hm : μ a = .inr (ci, fs)) (hM : zMet G d' M' (.ref a :: as) n u μ n' u' Φ') (hdd : d' < d) (hn : n' ≤ nF) (hu : u' ≤ uF) (hna : as.length = na) (has : as.reverse ++ .ref a :: st = ra) (hmon : zmon st)
    (kk : ∀ r μ', Φ' r μ' → zW G d M pc' lv (r.toList ++ st) n' u' μ' nF uF Φ) : zW G d M pc lv ra n u μ nF uF Φ := by
  subst hp; subst has; subst hna
  obtain ⟨hC, C, T, N, f1, f2, f3, f4⟩ := hk
  obtain ⟨m1, m2, m3⟩ := hM
  intro p e R s m args below meth c n0 u0 B h1 h2 H locs ls hR hl hlv
  have hB := zB_n B
  have hcb := z_callB (n := n) (u := u) (n' := n') (u' := u') (M' := M') B hdd hC
  have hT := zB_T B
  refine z_run (d' := d') (a := (Value.ref (za G a) :: as.map (zv G)).toArray) B h1 h2 m1 m2 hl hlv ?_ kk
  exact va_runV (C := C) (b := za G a) (As := as.map (zv G)) (n := as.length) ⟨B.1, B.2.1, B.2.2.2.1, zB_own B, hT⟩ m3 ⟨⟨hcb.1, hcb.2.1, hcb.2.2.1, hcb.2.2.2.1, hcb.2.2.2.2.1, hcb.2.2.2.2.2, hT _ hC.1, hT _ hC.2.1, hC.2.2.1, kC_par hC, hT _ f4⟩, hT _ f2, hT _ f3⟩ ⟨z_blind, z_recv B hR hm f1, z_pre B hR (.ref a :: as)⟩ rfl (by simp) hlv.1 (by simp [zv]) (z_mon hmon) (z_dec (zB_ok B) hd) ⟨by omega, by omega⟩
/-- a constructor's call -/
def kI (own : String) (idx : Nat) (M' : zM) (na : Nat) : Prop := kC M' na ∧ mR M' = none ∧ (mY M').name = "<init>" ∧ Cond.instanceMethod (mY M') ∈ zT ∧ ((Cond.methodLink own idx (mY M') ∈ zT) ∨ ∃ host, Cond.methodLinkNest own idx (mY M') host ∈ zNW)
theorem z_callI {idx a d' n' u' : Nat} {M' : zM} {na : Nat} {as ra : List Value} {Φ' : zP} (k : Nat) (hd : (mI M)[k]? = some (pc, .invokespecial idx, 3)) (hp : pc + 3 = pc') (hk : kI (mO M) idx M' na) (hM : zMet G d' M' (.ref a :: as) n u μ n' u' Φ') (hdd : d' < d) (hn : n' ≤ nF) (hu : u' ≤ uF) (hna : as.length = na) (has : as.reverse ++ .ref a :: st = ra) (hmon : zmon st)
    (kk : ∀ r μ', Φ' r μ' → zW G d M pc' lv (r.toList ++ st) n' u' μ' nF uF Φ) : zW G d M pc lv ra n u μ nF uF Φ := by
  subst hp; subst has; subst hna
  obtain ⟨hC, hr0, hnm, hin, hlk⟩ := hk
  obtain ⟨m1, m2, m3⟩ := hM
  intro p e R s m args below meth c n0 u0 B h1 h2 H locs ls hR hl hlv
  have hB := zB_n B
  have hcb := z_callB (n := n) (u := u) (n' := n') (u' := u') (M' := M') B hdd hC
  have hT := zB_T B
  have hcd := hT _ hC.1
  rw [hr0] at hcd
  have hcm := hcb.2.2.2.2.2
  rw [hr0] at hcm
  refine z_run (d' := d') (a := (Value.ref (za G a) :: as.map (zv G)).toArray) B h1 h2 m1 m2 hl hlv ?_ kk
  rcases hlk with hlk | ⟨host, hlk⟩
  · exact va_runI (b := za G a) (As := as.map (zv G)) (n := as.length) ⟨B.1, B.2.1, B.2.2.2.1, zB_own B, hT⟩ m3 ⟨⟨hcb.1, hcb.2.1, hcb.2.2.1, hcb.2.2.2.1, hcb.2.2.2.2.1, hcm, hcd, hT _ hC.2.1, hC.2.2.1, kC_par hC, hT _ hlk⟩, hnm, hT _ hin⟩ ⟨z_blind, z_pre B hR (.ref a :: as)⟩ rfl (by simp) hlv.1 (by simp [zv]) (z_mon hmon) (z_dec (zB_ok B) hd) ⟨by omega, by omega⟩
  · exact va_runIN (host := host) (b := za G a) (As := as.map (zv G)) (n := as.length) ⟨B.1, B.2.1, B.2.2.2.1, zB_own B, hT⟩ m3 ⟨⟨⟨hcb.1, hcb.2.1, hcb.2.2.1, hcb.2.2.2.1, hcb.2.2.2.2.1, hcm⟩, hcd, hT _ hC.2.1, hC.2.2.1, kC_par hC, va_Nw.use rfl ((zB_O B).2.1 _ hlk)⟩, hnm, hT _ hin⟩ ⟨z_blind, z_pre B hR (.ref a :: as)⟩ rfl (by simp) hlv.1 (by simp [zv]) (z_mon hmon) (z_dec (zB_ok B) hd) ⟨by omega, by omega⟩
/-- Object's own constructor -/
theorem z_objInit {idx a : Nat} (k : Nat) (hd : (mI M)[k]? = some (pc, .invokespecial idx, 3)) (hp : pc + 3 = pc') (hdp : 1 ≤ d) (hw : Cond.methodLink (mO M) idx objectInit ∈ zT) (hw2 : Cond.instanceMethod objectInit ∈ zT) (hw3 : Cond.code objectInit ⟨#[0xb1]⟩ 1 none ∈ zT) (hmon : zmon st) (kk : zW G d M pc' lv st n u μ nF uF Φ) : zW G d M pc lv (.ref a :: st) n u μ nF uF Φ := by
  subst hp
  intro p e R s m args below meth c n0 u0 B h1 h2 H locs ls hR hl hlv
  have hB := zB_n B
  have h8 := z_mon (G := G) (st := st) (m := m) (ls := ls) (pc := pc) (x := (Value.ref a :: st).map (zv G)) hmon
  exact W.objInit B.1 B.2.1 (zB_own B) (zB_T B _ hw) (zB_T B _ hw2) (zB_T B _ hw3) rfl (by rw [B.2.2.2.1]; exact hlv.1) (a := za G a) (rest := st.map (zv G)) rfl (z_dec (zB_ok B) hd) (by omega) (by omega) (kk p e R s m args below meth c n0 u0 B h1 h2 H locs ls hR hl hlv)
/-- a call that is resolved to owner's method x and selects, in the receiver's class ci, the method M' -/
def kU (own : String) (idx ci : Nat) (x : MethodName) (owner : String) (M' : zM) (na : Nat) : Prop := kC M' na ∧ x.desc = (mY M').desc ∧ (owner ≠ "java/lang/invoke/MethodHandle" ∧ owner ≠ "java/lang/invoke/VarHandle") ∧ ∃ (C : String) (T : u_T) (N : Nat), zCl[ci]? = some (C, T, N) ∧ Cond.methodLink own idx x ∈ zT ∧ Cond.sameMethod x.cls owner x.name x.desc ∈ zT ∧
  ((Cond.instanceMethod ⟨owner, x.name, x.desc⟩ ∈ zT ∧ ∃ (b0 : ByteArray) (m0 : Nat) (r0 : Option FieldType), Cond.code ⟨owner, x.name, x.desc⟩ b0 m0 r0 ∈ zT) ∨ Cond.declares ⟨owner, x.name, x.desc⟩ ∈ zNW) ∧ Cond.selects C x (mY M') ∈ zT ∧ Cond.instanceMethod (mY M') ∈ zT
theorem z_callU {idx ci a d' n' u' : Nat} {x : MethodName} {owner : String} {M' : zM} {na : Nat} {as ra : List Value} {fs : List Value} {Φ' : zP} (k : Nat) (hd : (mI M)[k]? = some (pc, .invokevirtual idx, 3)) (hp : pc + 3 = pc') (hk : kU (mO M) idx ci x owner M' na) (hm : μ a = .inr (ci, fs)) (hM : zMet G d' M' (.ref a :: as) n u μ n' u' Φ') (hdd : d' < d) (hn : n' ≤ nF) (hu : u' ≤ uF) (hna : as.length = na) (has : as.reverse ++ .ref a :: st = ra) (hmon : zmon st)
    (kk : ∀ r μ', Φ' r μ' → zW G d M pc' lv (r.toList ++ st) n' u' μ' nF uF Φ) : zW G d M pc lv ra n u μ nF uF Φ := by
  subst hp; subst has; subst hna
  obtain ⟨hC, hde, how, C, T, N, f1, f2, f3, f4, f5, f6⟩ := hk
  obtain ⟨m1, m2, m3⟩ := hM
  intro p e R s m args below meth c n0 u0 B h1 h2 H locs ls hR hl hlv
  have hB := zB_n B
  have hcb := z_callB (n := n) (u := u) (n' := n') (u' := u') (M' := M') B hdd hC
  have hT := zB_T B
  have hdec : va_Decl s ⟨owner, x.name, x.desc⟩ := by
    rcases f4 with ⟨g1, b0, m0, r0, g2⟩ | g1
    · exact va_Decl.of (hT _ g1) (hT _ g2)
    · exact va_Decl.abs ((zB_O B).2.1 _ g1)
  refine z_run (d' := d') (a := (Value.ref (za G a) :: as.map (zv G)).toArray) B h1 h2 m1 m2 hl hlv ?_ kk
  exact va_runU (C := C) (owner := owner) (x := x) (b := za G a) (As := as.map (zv G)) (n := as.length) ⟨B.1, B.2.1, B.2.2.2.1, zB_own B, hT⟩ m3 ⟨⟨hcb.1, hcb.2.1, hcb.2.2.1, hcb.2.2.2.1, hcb.2.2.2.2.1, hcb.2.2.2.2.2⟩, hT _ hC.1, hT _ hC.2.1, how, (by rw [hde]; exact kC_par hC), hT _ f2, hT _ f3, hdec, hT _ f5, hT _ f6⟩ ⟨z_blind, z_recv B hR hm f1, z_pre B hR (.ref a :: as)⟩ rfl (by simp) hlv.1 (by simp [zv]) (z_mon hmon) (z_dec (zB_ok B) hd) ⟨by omega, by omega⟩
/-- a call of super's method -/
def kP (own : String) (idx : Nat) (M' : zM) (na : Nat) : Prop := kC M' na ∧ Cond.methodLink own idx (mY M') ∈ zT ∧ Cond.sameMethod (mY M').cls (mY M').cls (mY M').name (mY M').desc ∈ zT ∧ Cond.superclass own (mY M').cls ∈ zT ∧ Cond.instanceMethod (mY M') ∈ zT ∧ (mY M').name ≠ "<init>"
theorem z_callP {idx ci a d' n' u' : Nat} {C : String} {T : u_T} {N : Nat} {M' : zM} {na : Nat} {as ra : List Value} {fs : List Value} {Φ' : zP} (k : Nat) (hd : (mI M)[k]? = some (pc, .invokespecial idx, 3)) (hp : pc + 3 = pc') (hk : kP (mO M) idx M' na) (hm : μ a = .inr (ci, fs)) (hci : zCl[ci]? = some (C, T, N)) (hM : zMet G d' M' (.ref a :: as) n u μ n' u' Φ') (hdd : d' < d) (hn : n' ≤ nF) (hu : u' ≤ uF) (hna : as.length = na) (has : as.reverse ++ .ref a :: st = ra) (hmon : zmon st)
    (kk : ∀ r μ', Φ' r μ' → zW G d M pc' lv (r.toList ++ st) n' u' μ' nF uF Φ) : zW G d M pc lv ra n u μ nF uF Φ := by
  subst hp; subst has; subst hna
  obtain ⟨hC, f2, f3, f4, f5, f6⟩ := hk
  obtain ⟨m1, m2, m3⟩ := hM
  intro p e R s m args below meth c n0 u0 B h1 h2 H locs ls hR hl hlv
  have hB := zB_n B
  have hcb := z_callB (n := n) (u := u) (n' := n') (u' := u') (M' := M') B hdd hC
  have hT := zB_T B
  refine z_run (d' := d') (a := (Value.ref (za G a) :: as.map (zv G)).toArray) B h1 h2 m1 m2 hl hlv ?_ kk
  exact va_runSU (C := C) (b := za G a) (As := as.map (zv G)) (n := as.length) ((zB_K B).1 ci _ hci).2 ⟨B.1, B.2.1, B.2.2.2.1, zB_own B, hT⟩ m3 ⟨⟨hcb.1, hcb.2.1, hcb.2.2.1, hcb.2.2.2.1, hcb.2.2.2.2.1, hcb.2.2.2.2.2⟩, hT _ f2, hT _ f3, hT _ f4, hT _ f5, hT _ hC.2.1, hT _ hC.1, f6, kC_par hC⟩ ⟨z_blind, z_recv B hR hm hci, z_pre B hR (.ref a :: as)⟩ rfl (by simp) hlv.1 (by simp [zv]) (z_mon hmon) (z_dec (zB_ok B) hd) ⟨by omega, by omega⟩
theorem z_callS1 {idx d' n' u' : Nat} {M' : zM} {na : Nat} {as ra : List Value} {v : Value} {μ' : Nat → va_E} (k : Nat) (hd : (mI M)[k]? = some (pc, .invokestatic idx, 3)) (hp : pc + 3 = pc') (hk : kS (mO M) idx M' na) (hM : zMet G d' M' as n u μ n' u' (zE (some v) μ')) (hdd : d' < d) (hn : n' ≤ nF) (hu : u' ≤ uF) (hna : as.length = na) (has : as.reverse ++ st = ra) (hmon : zmon st)
    (kk : zW G d M pc' lv (v :: st) n' u' μ' nF uF Φ) : zW G d M pc lv ra n u μ nF uF Φ :=
  z_callS k hd hp hk hM hdd hn hu hna has hmon (fun r0 μ0 h => by obtain ⟨rfl, rfl⟩ := h; exact kk)
theorem z_callS0 {idx d' n' u' : Nat} {M' : zM} {na : Nat} {as ra : List Value} {μ' : Nat → va_E} (k : Nat) (hd : (mI M)[k]? = some (pc, .invokestatic idx, 3)) (hp : pc + 3 = pc') (hk : kS (mO M) idx M' na) (hM : zMet G d' M' as n u μ n' u' (zE none μ')) (hdd : d' < d) (hn : n' ≤ nF) (hu : u' ≤ uF) (hna : as.length = na) (has : as.reverse ++ st = ra) (hmon : zmon st)
    (kk : zW G d M pc' lv (st) n' u' μ' nF uF Φ) : zW G d M pc lv ra n u μ nF uF Φ :=
  z_callS k hd hp hk hM hdd hn hu hna has hmon (fun r0 μ0 h => by obtain ⟨rfl, rfl⟩ := h; exact kk)
theorem z_callV1 {idx ci a d' n' u' : Nat} {M' : zM} {na : Nat} {as ra : List Value} {fs : List Value} {v : Value} {μ' : Nat → va_E} (k : Nat) (hd : (mI M)[k]? = some (pc, .invokevirtual idx, 3)) (hp : pc + 3 = pc') (hk : kV (mO M) idx ci M' na) (hm : μ a = .inr (ci, fs)) (hM : zMet G d' M' (.ref a :: as) n u μ n' u' (zE (some v) μ')) (hdd : d' < d) (hn : n' ≤ nF) (hu : u' ≤ uF) (hna : as.length = na) (has : as.reverse ++ .ref a :: st = ra) (hmon : zmon st)
    (kk : zW G d M pc' lv (v :: st) n' u' μ' nF uF Φ) : zW G d M pc lv ra n u μ nF uF Φ :=
  z_callV k hd hp hk hm hM hdd hn hu hna has hmon (fun r0 μ0 h => by obtain ⟨rfl, rfl⟩ := h; exact kk)
theorem z_callV0 {idx ci a d' n' u' : Nat} {M' : zM} {na : Nat} {as ra : List Value} {fs : List Value} {μ' : Nat → va_E} (k : Nat) (hd : (mI M)[k]? = some (pc, .invokevirtual idx, 3)) (hp : pc + 3 = pc') (hk : kV (mO M) idx ci M' na) (hm : μ a = .inr (ci, fs)) (hM : zMet G d' M' (.ref a :: as) n u μ n' u' (zE none μ')) (hdd : d' < d) (hn : n' ≤ nF) (hu : u' ≤ uF) (hna : as.length = na) (has : as.reverse ++ .ref a :: st = ra) (hmon : zmon st)
    (kk : zW G d M pc' lv (st) n' u' μ' nF uF Φ) : zW G d M pc lv ra n u μ nF uF Φ :=
  z_callV k hd hp hk hm hM hdd hn hu hna has hmon (fun r0 μ0 h => by obtain ⟨rfl, rfl⟩ := h; exact kk)
theorem z_callI1 {idx a d' n' u' : Nat} {M' : zM} {na : Nat} {as ra : List Value} {v : Value} {μ' : Nat → va_E} (k : Nat) (hd : (mI M)[k]? = some (pc, .invokespecial idx, 3)) (hp : pc + 3 = pc') (hk : kI (mO M) idx M' na) (hM : zMet G d' M' (.ref a :: as) n u μ n' u' (zE (some v) μ')) (hdd : d' < d) (hn : n' ≤ nF) (hu : u' ≤ uF) (hna : as.length = na) (has : as.reverse ++ .ref a :: st = ra) (hmon : zmon st)
    (kk : zW G d M pc' lv (v :: st) n' u' μ' nF uF Φ) : zW G d M pc lv ra n u μ nF uF Φ :=
  z_callI k hd hp hk hM hdd hn hu hna has hmon (fun r0 μ0 h => by obtain ⟨rfl, rfl⟩ := h; exact kk)
theorem z_callI0 {idx a d' n' u' : Nat} {M' : zM} {na : Nat} {as ra : List Value} {μ' : Nat → va_E} (k : Nat) (hd : (mI M)[k]? = some (pc, .invokespecial idx, 3)) (hp : pc + 3 = pc') (hk : kI (mO M) idx M' na) (hM : zMet G d' M' (.ref a :: as) n u μ n' u' (zE none μ')) (hdd : d' < d) (hn : n' ≤ nF) (hu : u' ≤ uF) (hna : as.length = na) (has : as.reverse ++ .ref a :: st = ra) (hmon : zmon st)
    (kk : zW G d M pc' lv (st) n' u' μ' nF uF Φ) : zW G d M pc lv ra n u μ nF uF Φ :=
  z_callI k hd hp hk hM hdd hn hu hna has hmon (fun r0 μ0 h => by obtain ⟨rfl, rfl⟩ := h; exact kk)
theorem z_callU1 {idx ci a d' n' u' : Nat} {x : MethodName} {owner : String} {M' : zM} {na : Nat} {as ra : List Value} {fs : List Value} {v : Value} {μ' : Nat → va_E} (k : Nat) (hd : (mI M)[k]? = some (pc, .invokevirtual idx, 3)) (hp : pc + 3 = pc') (hk : kU (mO M) idx ci x owner M' na) (hm : μ a = .inr (ci, fs)) (hM : zMet G d' M' (.ref a :: as) n u μ n' u' (zE (some v) μ')) (hdd : d' < d) (hn : n' ≤ nF) (hu : u' ≤ uF) (hna : as.length = na) (has : as.reverse ++ .ref a :: st = ra) (hmon : zmon st)
    (kk : zW G d M pc' lv (v :: st) n' u' μ' nF uF Φ) : zW G d M pc lv ra n u μ nF uF Φ :=
  z_callU k hd hp hk hm hM hdd hn hu hna has hmon (fun r0 μ0 h => by obtain ⟨rfl, rfl⟩ := h; exact kk)
theorem z_callU0 {idx ci a d' n' u' : Nat} {x : MethodName} {owner : String} {M' : zM} {na : Nat} {as ra : List Value} {fs : List Value} {μ' : Nat → va_E} (k : Nat) (hd : (mI M)[k]? = some (pc, .invokevirtual idx, 3)) (hp : pc + 3 = pc') (hk : kU (mO M) idx ci x owner M' na) (hm : μ a = .inr (ci, fs)) (hM : zMet G d' M' (.ref a :: as) n u μ n' u' (zE none μ')) (hdd : d' < d) (hn : n' ≤ nF) (hu : u' ≤ uF) (hna : as.length = na) (has : as.reverse ++ .ref a :: st = ra) (hmon : zmon st)
    (kk : zW G d M pc' lv (st) n' u' μ' nF uF Φ) : zW G d M pc lv ra n u μ nF uF Φ :=
  z_callU k hd hp hk hm hM hdd hn hu hna has hmon (fun r0 μ0 h => by obtain ⟨rfl, rfl⟩ := h; exact kk)
theorem z_callP1 {idx ci a d' n' u' : Nat} {C : String} {T : u_T} {N : Nat} {M' : zM} {na : Nat} {as ra : List Value} {fs : List Value} {v : Value} {μ' : Nat → va_E} (k : Nat) (hd : (mI M)[k]? = some (pc, .invokespecial idx, 3)) (hp : pc + 3 = pc') (hk : kP (mO M) idx M' na) (hm : μ a = .inr (ci, fs)) (hci : zCl[ci]? = some (C, T, N)) (hM : zMet G d' M' (.ref a :: as) n u μ n' u' (zE (some v) μ')) (hdd : d' < d) (hn : n' ≤ nF) (hu : u' ≤ uF) (hna : as.length = na) (has : as.reverse ++ .ref a :: st = ra) (hmon : zmon st)
    (kk : zW G d M pc' lv (v :: st) n' u' μ' nF uF Φ) : zW G d M pc lv ra n u μ nF uF Φ :=
  z_callP k hd hp hk hm hci hM hdd hn hu hna has hmon (fun r0 μ0 h => by obtain ⟨rfl, rfl⟩ := h; exact kk)
theorem z_callP0 {idx ci a d' n' u' : Nat} {C : String} {T : u_T} {N : Nat} {M' : zM} {na : Nat} {as ra : List Value} {fs : List Value} {μ' : Nat → va_E} (k : Nat) (hd : (mI M)[k]? = some (pc, .invokespecial idx, 3)) (hp : pc + 3 = pc') (hk : kP (mO M) idx M' na) (hm : μ a = .inr (ci, fs)) (hci : zCl[ci]? = some (C, T, N)) (hM : zMet G d' M' (.ref a :: as) n u μ n' u' (zE none μ')) (hdd : d' < d) (hn : n' ≤ nF) (hu : u' ≤ uF) (hna : as.length = na) (has : as.reverse ++ .ref a :: st = ra) (hmon : zmon st)
    (kk : zW G d M pc' lv (st) n' u' μ' nF uF Φ) : zW G d M pc lv ra n u μ nF uF Φ :=
  z_callP k hd hp hk hm hci hM hdd hn hu hna has hmon (fun r0 μ0 h => by obtain ⟨rfl, rfl⟩ := h; exact kk)
end ZC
end
section
/-- a field that is only read -/
def zFr (own : String) (idx ci fk : Nat) : Prop := ∃ (C : String) (T : u_T) (N : Nat) (ref : String), zCl[ci]? = some (C, T, N) ∧ fk < N ∧ (∀ w ∈ u_ws C T N, w ∈ zT) ∧ Cond.fieldLink own idx ref (T fk).2.1 (T fk).2.2.1 ∈ zT ∧ (ref = (T fk).1 ∨ Cond.sameField ref (T fk).1 (T fk).2.1 (T fk).2.2.1 ∈ zT)
theorem zFr_ci {own : String} {idx ci fk : Nat} (h : zFr own idx ci fk) : ci ≠ 99 := by
  obtain ⟨C, T, N, ref, h1, -⟩ := h
  intro e
  subst e
  cases h1
section ZL
variable {G : zG} {d : Nat} {M : zM} {pc pc' : Nat} {lv st : List Value} {n u : Nat} {μ : Nat → va_E} {nF uF : Nat} {Φ : zP}
theorem z_getr {a ci fk idx : Nat} {fs : List Value} {v : Value} (k : Nat) (hd : (mI M)[k]? = some (pc, .getfield idx, 3)) (hp : pc + 3 = pc') (hf : zFr (mO M) idx ci fk) (hm : μ a = .inr (ci, fs)) (hv : fs[fk]? = some v) (kk : zW G d M pc' lv (v :: st) n u μ nF uF Φ) : zW G d M pc lv (.ref a :: st) n u μ nF uF Φ := by
  subst hp
  have hci := zFr_ci hf
  obtain ⟨C, T, N, ref, f1, f2, f3, f4, f5⟩ := hf
  intro p e R s m args below meth c n0 u0 B h1 h2 H locs ls hR hl hlv
  obtain ⟨g1, g2⟩ := zR_in hR hm hci
  have he := zws_at (G := G) (n := n) (μ := μ) g1 g2
  rw [hm] at he
  exact va_get B.1 B.2.1 (zB_T B) f3 (zB_own B) (zB_K B) hR.2.2.1 (a - 4) he f1 fk f2 (zB_T B _ f4) (z_same (zB_T B) f5) (v := zv G v) (by rw [List.getElem?_map, hv]; rfl) (z_dec (zB_ok B) hd) (kk p e R s m args below meth c n0 u0 B h1 h2 H locs ls hR hl hlv)
end ZL
theorem ky_nat : Cond.native arraycopyName ∈ zT := z_mem 642 (by decide +kernel) rfl
theorem ky_sta : Cond.static arraycopyName ∈ zT := z_mem 641 (by decide +kernel) rfl
theorem ky_ini : Cond.initialized "java/lang/System" ∈ zT := z_mem 112 (by decide +kernel) rfl
theorem ko_ins : Cond.instanceMethod objectInit ∈ zT := z_mem 126 (by decide +kernel) rfl
theorem ko_cod : Cond.code objectInit ⟨#[0xb1]⟩ 1 none ∈ zT := z_mem 127 (by rfl) rfl
theorem ka_int : Cond.arrayClass .int ∈ zT := z_mem 163 (by decide +kernel) rfl
theorem ka_boo : Cond.arrayClass .boolean ∈ zT := z_mem 1297 (by decide +kernel) rfl
theorem ka_lon : Cond.arrayClass .long ∈ zT := z_mem 1298 (by decide +kernel) rfl
theorem ko_Wb_1 : Cond.methodLink "WindBrides" 1 objectInit ∈ zT := z_mem 125 (by decide +kernel) rfl
theorem w_Wb_7 : zN "WindBrides" 7 3 17 [.int 0, .null, .null, .null, .int 0, .null, .null, .null, .null, .int 0, .int 0, .int 0, .null, .null, .int 0, .null, .null] := ⟨R_Co, F_Co, t_Co, rfl, i_Co, t_Co_ok, z_mem 128 (by decide +kernel) rfl, z_mem 129 (by decide +kernel) rfl, z_mem 102 (by decide +kernel) rfl, by decide +kernel, by decide⟩
set_option maxRecDepth 20000 in
theorem kc_Co_init : kC M_Co_init 0 := ⟨z_mem 132 (by rfl) rfl, z_mem 102 (by decide +kernel) rfl, ⟨by decide, by decide⟩, by decide +kernel, by decide⟩
theorem k_Wb_9 : kI "WindBrides" 9 M_Co_init 0 := ⟨kc_Co_init, rfl, rfl, z_mem 131 (by decide +kernel) rfl, Or.inr ⟨"WindBrides", z_memN 130 (by decide +kernel) rfl⟩⟩
theorem f_Wb_10_11 : zF "WindBrides" 10 11 0 (.object "WindBrides$Coast") true := ⟨R_Wb, F_Wb, 15, "WindBrides", t_Wb, rfl, by decide, i_Wb, z_mem 352 (by decide +kernel) rfl, Or.inl rfl, t_Wb_ok, n_Wb, rfl, by decide +kernel, fun _ => rfl⟩
theorem f_Wb_16_11 : zF "WindBrides" 16 11 1 (.object "WindBrides$Coast") true := ⟨R_Wb, F_Wb, 15, "WindBrides", t_Wb, rfl, by decide, i_Wb, z_mem 353 (by decide +kernel) rfl, Or.inl rfl, t_Wb_ok, n_Wb, rfl, by decide +kernel, fun _ => rfl⟩
theorem w_Wb_19 : zN "WindBrides" 19 4 5 [.int 0, .null, .null, .int 0, .null] := ⟨R_Cr, F_Cr, t_Cr, rfl, i_Cr, t_Cr_ok, z_mem 267 (by decide +kernel) rfl, z_mem 135 (by decide +kernel) rfl, z_mem 103 (by decide +kernel) rfl, by decide +kernel, by decide⟩
set_option maxRecDepth 20000 in
theorem kc_Cr_init : kC M_Cr_init 0 := ⟨z_mem 138 (by rfl) rfl, z_mem 103 (by decide +kernel) rfl, ⟨by decide, by decide⟩, by decide +kernel, by decide⟩
theorem k_Wb_21 : kI "WindBrides" 21 M_Cr_init 0 := ⟨kc_Cr_init, rfl, rfl, z_mem 137 (by decide +kernel) rfl, Or.inr ⟨"WindBrides", z_memN 268 (by decide +kernel) rfl⟩⟩
theorem f_Wb_22_11 : zF "WindBrides" 22 11 3 (.object "WindBrides$Course") true := ⟨R_Wb, F_Wb, 15, "WindBrides", t_Wb, rfl, by decide, i_Wb, z_mem 355 (by decide +kernel) rfl, Or.inl rfl, t_Wb_ok, n_Wb, rfl, by decide +kernel, fun _ => rfl⟩
theorem w_Wb_26 : zN "WindBrides" 26 9 5 [.int 0, .null, .null, .null, .int 0] := ⟨R_Ta, F_Ta, t_Ta, rfl, i_Ta, t_Ta_ok, z_mem 269 (by decide +kernel) rfl, z_mem 270 (by decide +kernel) rfl, z_mem 105 (by decide +kernel) rfl, by decide +kernel, by decide⟩
set_option maxRecDepth 20000 in
theorem kc_Ta_init : kC M_Ta_init 0 := ⟨z_mem 273 (by rfl) rfl, z_mem 105 (by decide +kernel) rfl, ⟨by decide, by decide⟩, by decide +kernel, by decide⟩
theorem k_Wb_28 : kI "WindBrides" 28 M_Ta_init 0 := ⟨kc_Ta_init, rfl, rfl, z_mem 272 (by decide +kernel) rfl, Or.inr ⟨"WindBrides", z_memN 271 (by decide +kernel) rfl⟩⟩
theorem f_Wb_29_11 : zF "WindBrides" 29 11 4 (.object "WindBrides$Tape") true := ⟨R_Wb, F_Wb, 15, "WindBrides", t_Wb, rfl, by decide, i_Wb, z_mem 356 (by decide +kernel) rfl, Or.inl rfl, t_Wb_ok, n_Wb, rfl, by decide +kernel, fun _ => rfl⟩
theorem w_Wb_33 : zN "WindBrides" 33 0 6 [.int 0, .null, .null, .null, .null, .int 0] := ⟨R_Bk, F_Bk, t_Bk, rfl, i_Bk, t_Bk_ok, z_mem 292 (by decide +kernel) rfl, z_mem 165 (by decide +kernel) rfl, z_mem 104 (by decide +kernel) rfl, by decide +kernel, by decide⟩
set_option maxRecDepth 20000 in
theorem kc_Bk_init : kC M_Bk_init 0 := ⟨z_mem 168 (by rfl) rfl, z_mem 104 (by decide +kernel) rfl, ⟨by decide, by decide⟩, by decide +kernel, by decide⟩
theorem k_Wb_35 : kI "WindBrides" 35 M_Bk_init 0 := ⟨kc_Bk_init, rfl, rfl, z_mem 167 (by decide +kernel) rfl, Or.inr ⟨"WindBrides", z_memN 293 (by decide +kernel) rfl⟩⟩
theorem f_Wb_36_11 : zF "WindBrides" 36 11 5 (.object "WindBrides$Book") true := ⟨R_Wb, F_Wb, 15, "WindBrides", t_Wb, rfl, by decide, i_Wb, z_mem 357 (by decide +kernel) rfl, Or.inl rfl, t_Wb_ok, n_Wb, rfl, by decide +kernel, fun _ => rfl⟩
theorem w_Wb_40 : zN "WindBrides" 40 7 13 [.int 0, .int 0, .int 0, .null, .int 0, .int 0, .int 0, .int 0, .null, .null, .int 0, .null, .null] := ⟨R_Pl, F_Pl, t_Pl, rfl, i_Pl, t_Pl_ok, z_mem 294 (by decide +kernel) rfl, z_mem 295 (by decide +kernel) rfl, z_mem 106 (by decide +kernel) rfl, by decide +kernel, by decide⟩
set_option maxRecDepth 20000 in
theorem kc_Pl_init : kC M_Pl_init 0 := ⟨z_mem 298 (by rfl) rfl, z_mem 106 (by decide +kernel) rfl, ⟨by decide, by decide⟩, by decide +kernel, by decide⟩
theorem k_Wb_42 : kI "WindBrides" 42 M_Pl_init 0 := ⟨kc_Pl_init, rfl, rfl, z_mem 297 (by decide +kernel) rfl, Or.inl (z_mem 296 (by decide +kernel) rfl)⟩
theorem f_Wb_43_11 : zF "WindBrides" 43 11 6 (.object "WindBrides$Plans") true := ⟨R_Wb, F_Wb, 15, "WindBrides", t_Wb, rfl, by decide, i_Wb, z_mem 358 (by decide +kernel) rfl, Or.inl rfl, t_Wb_ok, n_Wb, rfl, by decide +kernel, fun _ => rfl⟩
theorem f_Wb_47_11 : zF "WindBrides" 47 11 7 (.array .int) true := ⟨R_Wb, F_Wb, 15, "WindBrides", t_Wb, rfl, by decide, i_Wb, z_mem 359 (by decide +kernel) rfl, Or.inl rfl, t_Wb_ok, n_Wb, rfl, by decide +kernel, fun _ => rfl⟩
theorem f_Wb_51_11 : zF "WindBrides" 51 11 8 (.array .int) true := ⟨R_Wb, F_Wb, 15, "WindBrides", t_Wb, rfl, by decide, i_Wb, z_mem 360 (by decide +kernel) rfl, Or.inl rfl, t_Wb_ok, n_Wb, rfl, by decide +kernel, fun _ => rfl⟩
theorem f_Wb_54_11 : zF "WindBrides" 54 11 9 (.array .int) true := ⟨R_Wb, F_Wb, 15, "WindBrides", t_Wb, rfl, by decide, i_Wb, z_mem 361 (by decide +kernel) rfl, Or.inl rfl, t_Wb_ok, n_Wb, rfl, by decide +kernel, fun _ => rfl⟩
theorem f_Wb_57_11 : zF "WindBrides" 57 11 10 (.array .int) true := ⟨R_Wb, F_Wb, 15, "WindBrides", t_Wb, rfl, by decide, i_Wb, z_mem 362 (by decide +kernel) rfl, Or.inl rfl, t_Wb_ok, n_Wb, rfl, by decide +kernel, fun _ => rfl⟩
theorem f_Wb_60_11 : zF "WindBrides" 60 11 11 (.array .int) true := ⟨R_Wb, F_Wb, 15, "WindBrides", t_Wb, rfl, by decide, i_Wb, z_mem 363 (by decide +kernel) rfl, Or.inl rfl, t_Wb_ok, n_Wb, rfl, by decide +kernel, fun _ => rfl⟩
theorem f_Wb_63_11 : zF "WindBrides" 63 11 12 (.array .int) true := ⟨R_Wb, F_Wb, 15, "WindBrides", t_Wb, rfl, by decide, i_Wb, z_mem 364 (by decide +kernel) rfl, Or.inl rfl, t_Wb_ok, n_Wb, rfl, by decide +kernel, fun _ => rfl⟩
theorem f_Wb_66_11 : zF "WindBrides" 66 11 13 (.array .int) true := ⟨R_Wb, F_Wb, 15, "WindBrides", t_Wb, rfl, by decide, i_Wb, z_mem 365 (by decide +kernel) rfl, Or.inl rfl, t_Wb_ok, n_Wb, rfl, by decide +kernel, fun _ => rfl⟩
theorem ko_Co_3 : Cond.methodLink "WindBrides$Coast" 3 objectInit ∈ zT := z_mem 133 (by decide +kernel) rfl
theorem f_Co_9_3 : zF "WindBrides$Coast" 9 3 1 (.array .int) true := ⟨R_Co, F_Co, 17, "WindBrides$Coast", t_Co, rfl, by decide, i_Co, z_mem 195 (by decide +kernel) rfl, Or.inl rfl, t_Co_ok, n_Co, rfl, by decide +kernel, fun _ => rfl⟩
theorem f_Co_15_3 : zF "WindBrides$Coast" 15 3 2 (.array .int) true := ⟨R_Co, F_Co, 17, "WindBrides$Coast", t_Co, rfl, by decide, i_Co, z_mem 198 (by decide +kernel) rfl, Or.inl rfl, t_Co_ok, n_Co, rfl, by decide +kernel, fun _ => rfl⟩
theorem f_Co_18_3 : zF "WindBrides$Coast" 18 3 3 (.array .int) true := ⟨R_Co, F_Co, 17, "WindBrides$Coast", t_Co, rfl, by decide, i_Co, z_mem 201 (by decide +kernel) rfl, Or.inl rfl, t_Co_ok, n_Co, rfl, by decide +kernel, fun _ => rfl⟩
theorem f_Co_21_3 : zF "WindBrides$Coast" 21 3 5 (.array .int) true := ⟨R_Co, F_Co, 17, "WindBrides$Coast", t_Co, rfl, by decide, i_Co, z_mem 207 (by decide +kernel) rfl, Or.inl rfl, t_Co_ok, n_Co, rfl, by decide +kernel, fun _ => rfl⟩
theorem f_Co_24_3 : zF "WindBrides$Coast" 24 3 6 (.array .int) true := ⟨R_Co, F_Co, 17, "WindBrides$Coast", t_Co, rfl, by decide, i_Co, z_mem 209 (by decide +kernel) rfl, Or.inl rfl, t_Co_ok, n_Co, rfl, by decide +kernel, fun _ => rfl⟩
theorem f_Co_27_3 : zF "WindBrides$Coast" 27 3 7 (.array .int) true := ⟨R_Co, F_Co, 17, "WindBrides$Coast", t_Co, rfl, by decide, i_Co, z_mem 211 (by decide +kernel) rfl, Or.inl rfl, t_Co_ok, n_Co, rfl, by decide +kernel, fun _ => rfl⟩
theorem f_Co_30_3 : zF "WindBrides$Coast" 30 3 8 (.array .int) true := ⟨R_Co, F_Co, 17, "WindBrides$Coast", t_Co, rfl, by decide, i_Co, z_mem 213 (by decide +kernel) rfl, Or.inl rfl, t_Co_ok, n_Co, rfl, by decide +kernel, fun _ => rfl⟩
theorem f_Co_33_3 : zF "WindBrides$Coast" 33 3 9 .int false := ⟨R_Co, F_Co, 17, "WindBrides$Coast", t_Co, rfl, by decide, i_Co, z_mem 215 (by decide +kernel) rfl, Or.inl rfl, t_Co_ok, n_Co, rfl, by decide +kernel, by intro h; cases h⟩
theorem f_Co_37_3 : zF "WindBrides$Coast" 37 3 11 .int false := ⟨R_Co, F_Co, 17, "WindBrides$Coast", t_Co, rfl, by decide, i_Co, z_mem 220 (by decide +kernel) rfl, Or.inl rfl, t_Co_ok, n_Co, rfl, by decide +kernel, by intro h; cases h⟩
theorem w_Co_40 : zN "WindBrides$Coast" 40 4 5 [.int 0, .null, .null, .int 0, .null] := ⟨R_Cr, F_Cr, t_Cr, rfl, i_Cr, t_Cr_ok, z_mem 134 (by decide +kernel) rfl, z_mem 135 (by decide +kernel) rfl, z_mem 103 (by decide +kernel) rfl, by decide +kernel, by decide⟩
theorem k_Co_42 : kI "WindBrides$Coast" 42 M_Cr_init 0 := ⟨kc_Cr_init, rfl, rfl, z_mem 137 (by decide +kernel) rfl, Or.inr ⟨"WindBrides", z_memN 136 (by decide +kernel) rfl⟩⟩
theorem f_Co_43_3 : zF "WindBrides$Coast" 43 3 12 (.object "WindBrides$Course") true := ⟨R_Co, F_Co, 17, "WindBrides$Coast", t_Co, rfl, by decide, i_Co, z_mem 222 (by decide +kernel) rfl, Or.inl rfl, t_Co_ok, n_Co, rfl, by decide +kernel, fun _ => rfl⟩
theorem w_Co_47 : zN "WindBrides$Coast" 47 0 6 [.int 0, .null, .null, .null, .null, .int 0] := ⟨R_Bk, F_Bk, t_Bk, rfl, i_Bk, t_Bk_ok, z_mem 164 (by decide +kernel) rfl, z_mem 165 (by decide +kernel) rfl, z_mem 104 (by decide +kernel) rfl, by decide +kernel, by decide⟩
theorem k_Co_49 : kI "WindBrides$Coast" 49 M_Bk_init 0 := ⟨kc_Bk_init, rfl, rfl, z_mem 167 (by decide +kernel) rfl, Or.inr ⟨"WindBrides", z_memN 166 (by decide +kernel) rfl⟩⟩
theorem f_Co_50_3 : zF "WindBrides$Coast" 50 3 13 (.object "WindBrides$Book") true := ⟨R_Co, F_Co, 17, "WindBrides$Coast", t_Co, rfl, by decide, i_Co, z_mem 225 (by decide +kernel) rfl, Or.inl rfl, t_Co_ok, n_Co, rfl, by decide +kernel, fun _ => rfl⟩
theorem f_Co_54_3 : zF "WindBrides$Coast" 54 3 15 (.array .int) true := ⟨R_Co, F_Co, 17, "WindBrides$Coast", t_Co, rfl, by decide, i_Co, z_mem 230 (by decide +kernel) rfl, Or.inl rfl, t_Co_ok, n_Co, rfl, by decide +kernel, fun _ => rfl⟩
theorem f_Co_57_3 : zF "WindBrides$Coast" 57 3 16 (.array .int) true := ⟨R_Co, F_Co, 17, "WindBrides$Coast", t_Co, rfl, by decide, i_Co, z_mem 231 (by decide +kernel) rfl, Or.inl rfl, t_Co_ok, n_Co, rfl, by decide +kernel, fun _ => rfl⟩
theorem ko_Cr_3 : Cond.methodLink "WindBrides$Course" 3 objectInit ∈ zT := z_mem 139 (by decide +kernel) rfl
theorem f_Cr_9_4 : zF "WindBrides$Course" 9 4 1 (.array .int) true := ⟨R_Cr, F_Cr, 5, "WindBrides$Course", t_Cr, rfl, by decide, i_Cr, z_mem 144 (by decide +kernel) rfl, Or.inl rfl, t_Cr_ok, n_Cr, rfl, by decide +kernel, fun _ => rfl⟩
theorem f_Cr_15_4 : zF "WindBrides$Course" 15 4 2 (.array .int) true := ⟨R_Cr, F_Cr, 5, "WindBrides$Course", t_Cr, rfl, by decide, i_Cr, z_mem 147 (by decide +kernel) rfl, Or.inl rfl, t_Cr_ok, n_Cr, rfl, by decide +kernel, fun _ => rfl⟩
theorem f_Cr_20_4 : zF "WindBrides$Course" 20 4 4 (.array .int) true := ⟨R_Cr, F_Cr, 5, "WindBrides$Course", t_Cr, rfl, by decide, i_Cr, z_mem 151 (by decide +kernel) rfl, Or.inl rfl, t_Cr_ok, n_Cr, rfl, by decide +kernel, fun _ => rfl⟩
theorem ko_Bk_3 : Cond.methodLink "WindBrides$Book" 3 objectInit ∈ zT := z_mem 169 (by decide +kernel) rfl
theorem f_Bk_11_0 : zF "WindBrides$Book" 11 0 1 (.array .int) true := ⟨R_Bk, F_Bk, 6, "WindBrides$Book", t_Bk, rfl, by decide, i_Bk, z_mem 173 (by decide +kernel) rfl, Or.inl rfl, t_Bk_ok, n_Bk, rfl, by decide +kernel, fun _ => rfl⟩
theorem f_Bk_15_0 : zF "WindBrides$Book" 15 0 2 (.array .int) true := ⟨R_Bk, F_Bk, 6, "WindBrides$Book", t_Bk, rfl, by decide, i_Bk, z_mem 174 (by decide +kernel) rfl, Or.inl rfl, t_Bk_ok, n_Bk, rfl, by decide +kernel, fun _ => rfl⟩
theorem f_Bk_18_0 : zF "WindBrides$Book" 18 0 3 (.array .int) true := ⟨R_Bk, F_Bk, 6, "WindBrides$Book", t_Bk, rfl, by decide, i_Bk, z_mem 175 (by decide +kernel) rfl, Or.inl rfl, t_Bk_ok, n_Bk, rfl, by decide +kernel, fun _ => rfl⟩
theorem f_Bk_23_0 : zF "WindBrides$Book" 23 0 4 (.array .int) true := ⟨R_Bk, F_Bk, 6, "WindBrides$Book", t_Bk, rfl, by decide, i_Bk, z_mem 176 (by decide +kernel) rfl, Or.inl rfl, t_Bk_ok, n_Bk, rfl, by decide +kernel, fun _ => rfl⟩
theorem ko_Ta_3 : Cond.methodLink "WindBrides$Tape" 3 objectInit ∈ zT := z_mem 274 (by decide +kernel) rfl
theorem f_Ta_11_9 : zF "WindBrides$Tape" 11 9 1 (.array .int) true := ⟨R_Ta, F_Ta, 5, "WindBrides$Tape", t_Ta, rfl, by decide, i_Ta, z_mem 277 (by decide +kernel) rfl, Or.inl rfl, t_Ta_ok, n_Ta, rfl, by decide +kernel, fun _ => rfl⟩
theorem f_Ta_15_9 : zF "WindBrides$Tape" 15 9 2 (.array .int) true := ⟨R_Ta, F_Ta, 5, "WindBrides$Tape", t_Ta, rfl, by decide, i_Ta, z_mem 278 (by decide +kernel) rfl, Or.inl rfl, t_Ta_ok, n_Ta, rfl, by decide +kernel, fun _ => rfl⟩
theorem f_Ta_18_9 : zF "WindBrides$Tape" 18 9 3 (.array .int) true := ⟨R_Ta, F_Ta, 5, "WindBrides$Tape", t_Ta, rfl, by decide, i_Ta, z_mem 279 (by decide +kernel) rfl, Or.inl rfl, t_Ta_ok, n_Ta, rfl, by decide +kernel, fun _ => rfl⟩
theorem ko_Pl_3 : Cond.methodLink "WindBrides$Plans" 3 objectInit ∈ zT := z_mem 299 (by decide +kernel) rfl
theorem f_Pl_9_7 : zF "WindBrides$Plans" 9 7 3 (.array .int) true := ⟨R_Pl, F_Pl, 13, "WindBrides$Plans", t_Pl, rfl, by decide, i_Pl, z_mem 309 (by decide +kernel) rfl, Or.inl rfl, t_Pl_ok, n_Pl, rfl, by decide +kernel, fun _ => rfl⟩
theorem f_Pl_15_7 : zF "WindBrides$Plans" 15 7 8 (.array .int) true := ⟨R_Pl, F_Pl, 13, "WindBrides$Plans", t_Pl, rfl, by decide, i_Pl, z_mem 319 (by decide +kernel) rfl, Or.inl rfl, t_Pl_ok, n_Pl, rfl, by decide +kernel, fun _ => rfl⟩
theorem f_Pl_18_7 : zF "WindBrides$Plans" 18 7 11 (.array .int) true := ⟨R_Pl, F_Pl, 13, "WindBrides$Plans", t_Pl, rfl, by decide, i_Pl, z_mem 323 (by decide +kernel) rfl, Or.inl rfl, t_Pl_ok, n_Pl, rfl, by decide +kernel, fun _ => rfl⟩
theorem w_Pl_21 : Cond.classLink "WindBrides$Plans" 21 "WindBrides$Course" ∈ zT := z_mem 300 (by decide +kernel) rfl
theorem f_Pl_23_7 : zF "WindBrides$Plans" 23 7 12 (.array (.object "WindBrides$Course")) true := ⟨R_Pl, F_Pl, 13, "WindBrides$Plans", t_Pl, rfl, by decide, i_Pl, z_mem 324 (by decide +kernel) rfl, Or.inl rfl, t_Pl_ok, n_Pl, rfl, by decide +kernel, fun _ => rfl⟩
theorem k_Pl_27 : kI "WindBrides$Plans" 27 M_Cr_init 0 := ⟨kc_Cr_init, rfl, rfl, z_mem 137 (by decide +kernel) rfl, Or.inr ⟨"WindBrides", z_memN 302 (by decide +kernel) rfl⟩⟩
set_option maxRecDepth 20000 in
theorem kc_Wb_within : kC M_Wb_within 3 := ⟨z_mem 404 (by rfl) rfl, z_mem 101 (by decide +kernel) rfl, ⟨by decide, by decide⟩, by decide +kernel, by decide⟩
theorem k_Wb_72 : kS "WindBrides" 72 M_Wb_within 3 := ⟨kc_Wb_within, z_mem 403 (by decide +kernel) rfl, Or.inl (z_mem 402 (by decide +kernel) rfl)⟩
theorem f_Wb_76_3 : zF "WindBrides" 76 3 0 .int false := ⟨R_Co, F_Co, 17, "WindBrides$Coast", t_Co, rfl, by decide, i_Co, z_mem 194 (by decide +kernel) rfl, Or.inl rfl, t_Co_ok, n_Co, rfl, by decide +kernel, by intro h; cases h⟩
set_option maxRecDepth 20000 in
theorem kc_Co_addGirl : kC M_Co_addGirl 3 := ⟨z_mem 408 (by rfl) rfl, z_mem 102 (by decide +kernel) rfl, ⟨by decide, by decide⟩, by decide +kernel, by decide⟩
theorem k_Wb_80 : kV "WindBrides" 80 3 M_Co_addGirl 3 := ⟨kc_Co_addGirl, _, _, _, rfl, z_mem 406 (by decide +kernel) rfl, z_mem 407 (by decide +kernel) rfl, z_mem 405 (by decide +kernel) rfl⟩
theorem f_Co_60_3 : zF "WindBrides$Coast" 60 3 0 .int false := ⟨R_Co, F_Co, 17, "WindBrides$Coast", t_Co, rfl, by decide, i_Co, z_mem 191 (by decide +kernel) rfl, Or.inl rfl, t_Co_ok, n_Co, rfl, by decide +kernel, by intro h; cases h⟩
set_option maxRecDepth 20000 in
theorem kc_Cr_promiseTo : kC M_Cr_promiseTo 3 := ⟨z_mem 412 (by rfl) rfl, z_mem 103 (by decide +kernel) rfl, ⟨by decide, by decide⟩, by decide +kernel, by decide⟩
theorem k_Co_88 : kV "WindBrides$Coast" 88 4 M_Cr_promiseTo 3 := ⟨kc_Cr_promiseTo, _, _, _, rfl, z_mem 410 (by decide +kernel) rfl, z_mem 411 (by decide +kernel) rfl, z_mem 409 (by decide +kernel) rfl⟩
theorem f_Cr_36_3 : zFr "WindBrides$Course" 36 3 3 := ⟨R_Co, F_Co, 17, "WindBrides$Coast", rfl, by decide, i_Co, z_mem 202 (by decide +kernel) rfl, Or.inl rfl⟩
set_option maxRecDepth 20000 in
theorem kc_Co_hasGirl : kC M_Co_hasGirl 1 := ⟨z_mem 420 (by rfl) rfl, z_mem 102 (by decide +kernel) rfl, ⟨by decide, by decide⟩, by decide +kernel, by decide⟩
theorem k_Wb_84 : kV "WindBrides" 84 3 M_Co_hasGirl 1 := ⟨kc_Co_hasGirl, _, _, _, rfl, z_mem 418 (by decide +kernel) rfl, z_mem 419 (by decide +kernel) rfl, z_mem 417 (by decide +kernel) rfl⟩
theorem f_Wb_88_3 : zFr "WindBrides" 88 3 1 := ⟨R_Co, F_Co, 17, "WindBrides$Coast", rfl, by decide, i_Co, z_mem 196 (by decide +kernel) rfl, Or.inl rfl⟩
theorem f_Wb_91_3 : zFr "WindBrides" 91 3 2 := ⟨R_Co, F_Co, 17, "WindBrides$Coast", rfl, by decide, i_Co, z_mem 200 (by decide +kernel) rfl, Or.inl rfl⟩
theorem f_Wb_94_3 : zFr "WindBrides" 94 3 3 := ⟨R_Co, F_Co, 17, "WindBrides$Coast", rfl, by decide, i_Co, z_mem 203 (by decide +kernel) rfl, Or.inl rfl⟩
theorem f_Wb_97_3 : zFr "WindBrides" 97 3 12 := ⟨R_Co, F_Co, 17, "WindBrides$Coast", rfl, by decide, i_Co, z_mem 224 (by decide +kernel) rfl, Or.inl rfl⟩
theorem f_Wb_100_4 : zFr "WindBrides" 100 4 1 := ⟨R_Cr, F_Cr, 5, "WindBrides$Course", rfl, by decide, i_Cr, z_mem 145 (by decide +kernel) rfl, Or.inl rfl⟩
theorem f_Wb_103_4 : zFr "WindBrides" 103 4 2 := ⟨R_Cr, F_Cr, 5, "WindBrides$Course", rfl, by decide, i_Cr, z_mem 148 (by decide +kernel) rfl, Or.inl rfl⟩
set_option maxRecDepth 20000 in
theorem kc_Cr_doesInCalm : kC M_Cr_doesInCalm 2 := ⟨z_mem 424 (by rfl) rfl, z_mem 103 (by decide +kernel) rfl, ⟨by decide, by decide⟩, by decide +kernel, by decide⟩
theorem k_Wb_106 : kV "WindBrides" 106 4 M_Cr_doesInCalm 2 := ⟨kc_Cr_doesInCalm, _, _, _, rfl, z_mem 422 (by decide +kernel) rfl, z_mem 423 (by decide +kernel) rfl, z_mem 421 (by decide +kernel) rfl⟩
theorem f_Cr_23_4 : zF "WindBrides$Course" 23 4 0 .int false := ⟨R_Cr, F_Cr, 5, "WindBrides$Course", t_Cr, rfl, by decide, i_Cr, z_mem 140 (by decide +kernel) rfl, Or.inl rfl, t_Cr_ok, n_Cr, rfl, by decide +kernel, by intro h; cases h⟩
theorem f_Cr_44_3 : zFr "WindBrides$Course" 44 3 2 := ⟨R_Co, F_Co, 17, "WindBrides$Coast", rfl, by decide, i_Co, z_mem 199 (by decide +kernel) rfl, Or.inl rfl⟩
theorem f_Cr_47_3 : zFr "WindBrides$Course" 47 3 13 := ⟨R_Co, F_Co, 17, "WindBrides$Coast", rfl, by decide, i_Co, z_mem 226 (by decide +kernel) rfl, Or.inl rfl⟩
theorem f_Cr_51_3 : zFr "WindBrides$Course" 51 3 1 := ⟨R_Co, F_Co, 17, "WindBrides$Coast", rfl, by decide, i_Co, z_mem 197 (by decide +kernel) rfl, Or.inl rfl⟩
set_option maxRecDepth 20000 in
theorem kc_Bk_tells : kC M_Bk_tells 2 := ⟨z_mem 428 (by rfl) rfl, z_mem 104 (by decide +kernel) rfl, ⟨by decide, by decide⟩, by decide +kernel, by decide⟩
theorem k_Cr_54 : kV "WindBrides$Course" 54 0 M_Bk_tells 2 := ⟨kc_Bk_tells, _, _, _, rfl, z_mem 426 (by decide +kernel) rfl, z_mem 427 (by decide +kernel) rfl, z_mem 425 (by decide +kernel) rfl⟩
theorem f_Bk_26_0 : zF "WindBrides$Book" 26 0 0 .int false := ⟨R_Bk, F_Bk, 6, "WindBrides$Book", t_Bk, rfl, by decide, i_Bk, z_mem 170 (by decide +kernel) rfl, Or.inl rfl, t_Bk_ok, n_Bk, rfl, by decide +kernel, by intro h; cases h⟩
set_option maxRecDepth 20000 in
theorem kc_Wb_isUnder : kC M_Wb_isUnder 2 := ⟨z_mem 431 (by rfl) rfl, z_mem 101 (by decide +kernel) rfl, ⟨by decide, by decide⟩, by decide +kernel, by decide⟩
theorem k_Bk_39 : kS "WindBrides$Book" 39 M_Wb_isUnder 2 := ⟨kc_Wb_isUnder, z_mem 430 (by decide +kernel) rfl, Or.inr ⟨"WindBrides", z_memN 429 (by decide +kernel) rfl⟩⟩
set_option maxRecDepth 20000 in
theorem kc_Bk_holds : kC M_Bk_holds 2 := ⟨z_mem 437 (by rfl) rfl, z_mem 104 (by decide +kernel) rfl, ⟨by decide, by decide⟩, by decide +kernel, by decide⟩
theorem k_Bk_43 : kV "WindBrides$Book" 43 0 M_Bk_holds 2 := ⟨kc_Bk_holds, _, _, _, rfl, z_mem 436 (by decide +kernel) rfl, z_mem 0 (by decide +kernel) rfl, z_mem 434 (by decide +kernel) rfl⟩
theorem g_Wb_69 : Cond.fieldLink "WindBrides" 69 "WindBrides" "LINEAGE" "[I" ∈ zT := z_mem 432 (by decide +kernel) rfl
set_option maxRecDepth 20000 in
theorem kc_Bk_compares : kC M_Bk_compares 2 := ⟨z_mem 441 (by rfl) rfl, z_mem 104 (by decide +kernel) rfl, ⟨by decide, by decide⟩, by decide +kernel, by decide⟩
theorem k_Bk_47 : kV "WindBrides$Book" 47 0 M_Bk_compares 2 := ⟨kc_Bk_compares, _, _, _, rfl, z_mem 440 (by decide +kernel) rfl, z_mem 1 (by decide +kernel) rfl, z_mem 438 (by decide +kernel) rfl⟩
theorem f_Wb_110_3 : zF "WindBrides" 110 3 4 .int false := ⟨R_Co, F_Co, 17, "WindBrides$Coast", t_Co, rfl, by decide, i_Co, z_mem 205 (by decide +kernel) rfl, Or.inl rfl, t_Co_ok, n_Co, rfl, by decide +kernel, by intro h; cases h⟩
set_option maxRecDepth 20000 in
theorem kc_Co_addWind : kC M_Co_addWind 4 := ⟨z_mem 457 (by rfl) rfl, z_mem 102 (by decide +kernel) rfl, ⟨by decide, by decide⟩, by decide +kernel, by decide⟩
theorem k_Wb_113 : kV "WindBrides" 113 3 M_Co_addWind 4 := ⟨kc_Co_addWind, _, _, _, rfl, z_mem 455 (by decide +kernel) rfl, z_mem 456 (by decide +kernel) rfl, z_mem 454 (by decide +kernel) rfl⟩
theorem f_Co_69_3 : zF "WindBrides$Coast" 69 3 4 .int false := ⟨R_Co, F_Co, 17, "WindBrides$Coast", t_Co, rfl, by decide, i_Co, z_mem 204 (by decide +kernel) rfl, Or.inl rfl, t_Co_ok, n_Co, rfl, by decide +kernel, by intro h; cases h⟩
set_option maxRecDepth 20000 in
theorem kc_Co_hasWind : kC M_Co_hasWind 1 := ⟨z_mem 465 (by rfl) rfl, z_mem 102 (by decide +kernel) rfl, ⟨by decide, by decide⟩, by decide +kernel, by decide⟩
theorem k_Wb_117 : kV "WindBrides" 117 3 M_Co_hasWind 1 := ⟨kc_Co_hasWind, _, _, _, rfl, z_mem 463 (by decide +kernel) rfl, z_mem 464 (by decide +kernel) rfl, z_mem 462 (by decide +kernel) rfl⟩
theorem f_Wb_120_3 : zFr "WindBrides" 120 3 5 := ⟨R_Co, F_Co, 17, "WindBrides$Coast", rfl, by decide, i_Co, z_mem 208 (by decide +kernel) rfl, Or.inl rfl⟩
theorem f_Wb_123_3 : zFr "WindBrides" 123 3 6 := ⟨R_Co, F_Co, 17, "WindBrides$Coast", rfl, by decide, i_Co, z_mem 210 (by decide +kernel) rfl, Or.inl rfl⟩
theorem f_Wb_126_3 : zFr "WindBrides" 126 3 7 := ⟨R_Co, F_Co, 17, "WindBrides$Coast", rfl, by decide, i_Co, z_mem 212 (by decide +kernel) rfl, Or.inl rfl⟩
theorem f_Wb_129_3 : zFr "WindBrides" 129 3 8 := ⟨R_Co, F_Co, 17, "WindBrides$Coast", rfl, by decide, i_Co, z_mem 214 (by decide +kernel) rfl, Or.inl rfl⟩
set_option maxRecDepth 20000 in
theorem kc_Cr_bridesOf : kC M_Cr_bridesOf 2 := ⟨z_mem 469 (by rfl) rfl, z_mem 103 (by decide +kernel) rfl, ⟨by decide, by decide⟩, by decide +kernel, by decide⟩
theorem k_Wb_132 : kV "WindBrides" 132 4 M_Cr_bridesOf 2 := ⟨kc_Cr_bridesOf, _, _, _, rfl, z_mem 467 (by decide +kernel) rfl, z_mem 468 (by decide +kernel) rfl, z_mem 466 (by decide +kernel) rfl⟩
theorem f_Wb_135_4 : zF "WindBrides" 135 4 0 .int false := ⟨R_Cr, F_Cr, 5, "WindBrides$Course", t_Cr, rfl, by decide, i_Cr, z_mem 143 (by decide +kernel) rfl, Or.inl rfl, t_Cr_ok, n_Cr, rfl, by decide +kernel, by intro h; cases h⟩
set_option maxRecDepth 20000 in
theorem kc_Co_blows : kC M_Co_blows 2 := ⟨z_mem 473 (by rfl) rfl, z_mem 102 (by decide +kernel) rfl, ⟨by decide, by decide⟩, by decide +kernel, by decide⟩
theorem k_Wb_138 : kV "WindBrides" 138 3 M_Co_blows 2 := ⟨kc_Co_blows, _, _, _, rfl, z_mem 471 (by decide +kernel) rfl, z_mem 472 (by decide +kernel) rfl, z_mem 470 (by decide +kernel) rfl⟩
theorem f_Cr_41_3 : zF "WindBrides$Course" 41 3 0 .int false := ⟨R_Co, F_Co, 17, "WindBrides$Coast", t_Co, rfl, by decide, i_Co, z_mem 192 (by decide +kernel) rfl, Or.inl rfl, t_Co_ok, n_Co, rfl, by decide +kernel, by intro h; cases h⟩
theorem k_Wb_142 : kV "WindBrides" 142 4 M_Cr_promiseTo 3 := ⟨kc_Cr_promiseTo, _, _, _, rfl, z_mem 410 (by decide +kernel) rfl, z_mem 411 (by decide +kernel) rfl, z_mem 478 (by decide +kernel) rfl⟩
set_option maxRecDepth 20000 in
theorem kc_Co_gainBy : kC M_Co_gainBy 3 := ⟨z_mem 486 (by rfl) rfl, z_mem 102 (by decide +kernel) rfl, ⟨by decide, by decide⟩, by decide +kernel, by decide⟩
theorem k_Wb_146 : kV "WindBrides" 146 3 M_Co_gainBy 3 := ⟨kc_Co_gainBy, _, _, _, rfl, z_mem 484 (by decide +kernel) rfl, z_mem 485 (by decide +kernel) rfl, z_mem 483 (by decide +kernel) rfl⟩
set_option maxRecDepth 20000 in
theorem kc_Wb_turnBetween : kC M_Wb_turnBetween 2 := ⟨z_mem 489 (by rfl) rfl, z_mem 101 (by decide +kernel) rfl, ⟨by decide, by decide⟩, by decide +kernel, by decide⟩
theorem k_Co_92 : kS "WindBrides$Coast" 92 M_Wb_turnBetween 2 := ⟨kc_Wb_turnBetween, z_mem 488 (by decide +kernel) rfl, Or.inr ⟨"WindBrides", z_memN 487 (by decide +kernel) rfl⟩⟩
set_option maxRecDepth 20000 in
theorem kc_Wb_gainOf : kC M_Wb_gainOf 4 := ⟨z_mem 492 (by rfl) rfl, z_mem 101 (by decide +kernel) rfl, ⟨by decide, by decide⟩, by decide +kernel, by decide⟩
theorem k_Co_96 : kS "WindBrides$Coast" 96 M_Wb_gainOf 4 := ⟨kc_Wb_gainOf, z_mem 491 (by decide +kernel) rfl, Or.inr ⟨"WindBrides", z_memN 490 (by decide +kernel) rfl⟩⟩
theorem f_Wb_149_3 : zF "WindBrides" 149 3 9 .int false := ⟨R_Co, F_Co, 17, "WindBrides$Coast", t_Co, rfl, by decide, i_Co, z_mem 217 (by decide +kernel) rfl, Or.inl rfl, t_Co_ok, n_Co, rfl, by decide +kernel, by intro h; cases h⟩
theorem f_Wb_152_3 : zF "WindBrides" 152 3 10 .int false := ⟨R_Co, F_Co, 17, "WindBrides$Coast", t_Co, rfl, by decide, i_Co, z_mem 219 (by decide +kernel) rfl, Or.inl rfl, t_Co_ok, n_Co, rfl, by decide +kernel, by intro h; cases h⟩
set_option maxRecDepth 20000 in
theorem kc_Co_isOver : kC M_Co_isOver 0 := ⟨z_mem 508 (by rfl) rfl, z_mem 102 (by decide +kernel) rfl, ⟨by decide, by decide⟩, by decide +kernel, by decide⟩
theorem k_Wb_155 : kV "WindBrides" 155 3 M_Co_isOver 0 := ⟨kc_Co_isOver, _, _, _, rfl, z_mem 506 (by decide +kernel) rfl, z_mem 507 (by decide +kernel) rfl, z_mem 505 (by decide +kernel) rfl⟩
theorem f_Co_85_4 : zF "WindBrides$Coast" 85 4 0 .int false := ⟨R_Cr, F_Cr, 5, "WindBrides$Course", t_Cr, rfl, by decide, i_Cr, z_mem 142 (by decide +kernel) rfl, Or.inl rfl, t_Cr_ok, n_Cr, rfl, by decide +kernel, by intro h; cases h⟩
set_option maxRecDepth 20000 in
theorem kc_Ta_hasRoomFor : kC M_Ta_hasRoomFor 1 := ⟨z_mem 516 (by rfl) rfl, z_mem 105 (by decide +kernel) rfl, ⟨by decide, by decide⟩, by decide +kernel, by decide⟩
theorem k_Wb_159 : kV "WindBrides" 159 9 M_Ta_hasRoomFor 1 := ⟨kc_Ta_hasRoomFor, _, _, _, rfl, z_mem 514 (by decide +kernel) rfl, z_mem 515 (by decide +kernel) rfl, z_mem 513 (by decide +kernel) rfl⟩
set_option maxRecDepth 20000 in
theorem kc_Ta_takes : kC M_Ta_takes 2 := ⟨z_mem 520 (by rfl) rfl, z_mem 105 (by decide +kernel) rfl, ⟨by decide, by decide⟩, by decide +kernel, by decide⟩
theorem k_Wb_162 : kV "WindBrides" 162 9 M_Ta_takes 2 := ⟨kc_Ta_takes, _, _, _, rfl, z_mem 518 (by decide +kernel) rfl, z_mem 519 (by decide +kernel) rfl, z_mem 517 (by decide +kernel) rfl⟩
theorem f_Ta_21_9 : zF "WindBrides$Tape" 21 9 0 .int false := ⟨R_Ta, F_Ta, 5, "WindBrides$Tape", t_Ta, rfl, by decide, i_Ta, z_mem 275 (by decide +kernel) rfl, Or.inl rfl, t_Ta_ok, n_Ta, rfl, by decide +kernel, by intro h; cases h⟩
set_option maxRecDepth 20000 in
theorem kc_Ta_readInto : kC M_Ta_readInto 1 := ⟨z_mem 528 (by rfl) rfl, z_mem 105 (by decide +kernel) rfl, ⟨by decide, by decide⟩, by decide +kernel, by decide⟩
theorem k_Wb_166 : kV "WindBrides" 166 9 M_Ta_readInto 1 := ⟨kc_Ta_readInto, _, _, _, rfl, z_mem 526 (by decide +kernel) rfl, z_mem 527 (by decide +kernel) rfl, z_mem 525 (by decide +kernel) rfl⟩
theorem f_Wb_170_3 : zFr "WindBrides" 170 3 13 := ⟨R_Co, F_Co, 17, "WindBrides$Coast", rfl, by decide, i_Co, z_mem 227 (by decide +kernel) rfl, Or.inl rfl⟩
set_option maxRecDepth 20000 in
theorem kc_Bk_copyFrom : kC M_Bk_copyFrom 1 := ⟨z_mem 639 (by rfl) rfl, z_mem 104 (by decide +kernel) rfl, ⟨by decide, by decide⟩, by decide +kernel, by decide⟩
theorem k_Wb_173 : kV "WindBrides" 173 0 M_Bk_copyFrom 1 := ⟨kc_Bk_copyFrom, _, _, _, rfl, z_mem 637 (by decide +kernel) rfl, z_mem 638 (by decide +kernel) rfl, z_mem 636 (by decide +kernel) rfl⟩
set_option maxRecDepth 20000 in
theorem kc_Ta_split : kC M_Ta_split 0 := ⟨z_mem 532 (by rfl) rfl, z_mem 105 (by decide +kernel) rfl, ⟨by decide, by decide⟩, by decide +kernel, by decide⟩
theorem k_Ta_25 : kV "WindBrides$Tape" 25 9 M_Ta_split 0 := ⟨kc_Ta_split, _, _, _, rfl, z_mem 531 (by decide +kernel) rfl, z_mem 2 (by decide +kernel) rfl, z_mem 529 (by decide +kernel) rfl⟩
theorem f_Ta_28_9 : zF "WindBrides$Tape" 28 9 4 .int false := ⟨R_Ta, F_Ta, 5, "WindBrides$Tape", t_Ta, rfl, by decide, i_Ta, z_mem 280 (by decide +kernel) rfl, Or.inl rfl, t_Ta_ok, n_Ta, rfl, by decide +kernel, by intro h; cases h⟩
set_option maxRecDepth 20000 in
theorem kc_Bk_clear : kC M_Bk_clear 0 := ⟨z_mem 603 (by rfl) rfl, z_mem 104 (by decide +kernel) rfl, ⟨by decide, by decide⟩, by decide +kernel, by decide⟩
theorem k_Ta_31 : kV "WindBrides$Tape" 31 0 M_Bk_clear 0 := ⟨kc_Bk_clear, _, _, _, rfl, z_mem 601 (by decide +kernel) rfl, z_mem 602 (by decide +kernel) rfl, z_mem 600 (by decide +kernel) rfl⟩
set_option maxRecDepth 20000 in
theorem kc_Ta_readRule : kC M_Ta_readRule 1 := ⟨z_mem 607 (by rfl) rfl, z_mem 105 (by decide +kernel) rfl, ⟨by decide, by decide⟩, by decide +kernel, by decide⟩
theorem k_Ta_36 : kV "WindBrides$Tape" 36 9 M_Ta_readRule 1 := ⟨kc_Ta_readRule, _, _, _, rfl, z_mem 606 (by decide +kernel) rfl, z_mem 8 (by decide +kernel) rfl, z_mem 604 (by decide +kernel) rfl⟩
theorem f_Ta_40_0 : zF "WindBrides$Tape" 40 0 0 .int false := ⟨R_Bk, F_Bk, 6, "WindBrides$Book", t_Bk, rfl, by decide, i_Bk, z_mem 171 (by decide +kernel) rfl, Or.inl rfl, t_Bk_ok, n_Bk, rfl, by decide +kernel, by intro h; cases h⟩
set_option maxRecDepth 20000 in
theorem kc_Ta_goesOn : kC M_Ta_goesOn 1 := ⟨z_mem 536 (by rfl) rfl, z_mem 105 (by decide +kernel) rfl, ⟨by decide, by decide⟩, by decide +kernel, by decide⟩
theorem k_Ta_43 : kV "WindBrides$Tape" 43 9 M_Ta_goesOn 1 := ⟨kc_Ta_goesOn, _, _, _, rfl, z_mem 535 (by decide +kernel) rfl, z_mem 3 (by decide +kernel) rfl, z_mem 533 (by decide +kernel) rfl⟩
set_option maxRecDepth 20000 in
theorem kc_Ta_tokenOf : kC M_Ta_tokenOf 1 := ⟨z_mem 546 (by rfl) rfl, z_mem 105 (by decide +kernel) rfl, ⟨by decide, by decide⟩, by decide +kernel, by decide⟩
theorem k_Ta_47 : kV "WindBrides$Tape" 47 9 M_Ta_tokenOf 1 := ⟨kc_Ta_tokenOf, _, _, _, rfl, z_mem 545 (by decide +kernel) rfl, z_mem 4 (by decide +kernel) rfl, z_mem 543 (by decide +kernel) rfl⟩
set_option maxRecDepth 20000 in
theorem kc_Ta_isLetter : kC M_Ta_isLetter 1 := ⟨z_mem 539 (by rfl) rfl, z_mem 105 (by decide +kernel) rfl, ⟨by decide, by decide⟩, by decide +kernel, by decide⟩
theorem k_Ta_51 : kS "WindBrides$Tape" 51 M_Ta_isLetter 1 := ⟨kc_Ta_isLetter, z_mem 538 (by decide +kernel) rfl, Or.inl (z_mem 537 (by decide +kernel) rfl)⟩
set_option maxRecDepth 20000 in
theorem kc_Ta_isDigit : kC M_Ta_isDigit 1 := ⟨z_mem 542 (by rfl) rfl, z_mem 105 (by decide +kernel) rfl, ⟨by decide, by decide⟩, by decide +kernel, by decide⟩
theorem k_Ta_54 : kS "WindBrides$Tape" 54 M_Ta_isDigit 1 := ⟨kc_Ta_isDigit, z_mem 541 (by decide +kernel) rfl, Or.inl (z_mem 540 (by decide +kernel) rfl)⟩
set_option maxRecDepth 20000 in
theorem kc_Ta_wordOf : kC M_Ta_wordOf 2 := ⟨z_mem 550 (by rfl) rfl, z_mem 105 (by decide +kernel) rfl, ⟨by decide, by decide⟩, by decide +kernel, by decide⟩
theorem k_Ta_57 : kV "WindBrides$Tape" 57 9 M_Ta_wordOf 2 := ⟨kc_Ta_wordOf, _, _, _, rfl, z_mem 549 (by decide +kernel) rfl, z_mem 5 (by decide +kernel) rfl, z_mem 547 (by decide +kernel) rfl⟩
set_option maxRecDepth 20000 in
theorem kc_Ta_numberOf : kC M_Ta_numberOf 2 := ⟨z_mem 599 (by rfl) rfl, z_mem 105 (by decide +kernel) rfl, ⟨by decide, by decide⟩, by decide +kernel, by decide⟩
theorem k_Ta_61 : kV "WindBrides$Tape" 61 9 M_Ta_numberOf 2 := ⟨kc_Ta_numberOf, _, _, _, rfl, z_mem 598 (by decide +kernel) rfl, z_mem 7 (by decide +kernel) rfl, z_mem 596 (by decide +kernel) rfl⟩
set_option maxRecDepth 20000 in
theorem kc_Ta_isWord : kC M_Ta_isWord 3 := ⟨z_mem 554 (by rfl) rfl, z_mem 105 (by decide +kernel) rfl, ⟨by decide, by decide⟩, by decide +kernel, by decide⟩
theorem k_Ta_64 : kV "WindBrides$Tape" 64 9 M_Ta_isWord 3 := ⟨kc_Ta_isWord, _, _, _, rfl, z_mem 553 (by decide +kernel) rfl, z_mem 6 (by decide +kernel) rfl, z_mem 551 (by decide +kernel) rfl⟩
theorem f_Bk_30_0 : zF "WindBrides$Book" 30 0 5 .int false := ⟨R_Bk, F_Bk, 6, "WindBrides$Book", t_Bk, rfl, by decide, i_Bk, z_mem 177 (by decide +kernel) rfl, Or.inl rfl, t_Bk_ok, n_Bk, rfl, by decide +kernel, by intro h; cases h⟩
theorem k_Ta_76 : kS "WindBrides$Tape" 76 M_Wb_within 3 := ⟨kc_Wb_within, z_mem 403 (by decide +kernel) rfl, Or.inr ⟨"WindBrides", z_memN 608 (by decide +kernel) rfl⟩⟩
set_option maxRecDepth 20000 in
theorem kc_Ta_reads : kC M_Ta_reads 1 := ⟨z_mem 612 (by rfl) rfl, z_mem 105 (by decide +kernel) rfl, ⟨by decide, by decide⟩, by decide +kernel, by decide⟩
theorem k_Ta_79 : kV "WindBrides$Tape" 79 9 M_Ta_reads 1 := ⟨kc_Ta_reads, _, _, _, rfl, z_mem 611 (by decide +kernel) rfl, z_mem 9 (by decide +kernel) rfl, z_mem 609 (by decide +kernel) rfl⟩
set_option maxRecDepth 20000 in
theorem kc_Ta_readCondition : kC M_Ta_readCondition 2 := ⟨z_mem 616 (by rfl) rfl, z_mem 105 (by decide +kernel) rfl, ⟨by decide, by decide⟩, by decide +kernel, by decide⟩
theorem k_Ta_82 : kV "WindBrides$Tape" 82 9 M_Ta_readCondition 2 := ⟨kc_Ta_readCondition, _, _, _, rfl, z_mem 615 (by decide +kernel) rfl, z_mem 10 (by decide +kernel) rfl, z_mem 613 (by decide +kernel) rfl⟩
set_option maxRecDepth 20000 in
theorem kc_Bk_addRule : kC M_Bk_addRule 2 := ⟨z_mem 635 (by rfl) rfl, z_mem 104 (by decide +kernel) rfl, ⟨by decide, by decide⟩, by decide +kernel, by decide⟩
theorem k_Ta_86 : kV "WindBrides$Tape" 86 0 M_Bk_addRule 2 := ⟨kc_Bk_addRule, _, _, _, rfl, z_mem 633 (by decide +kernel) rfl, z_mem 634 (by decide +kernel) rfl, z_mem 632 (by decide +kernel) rfl⟩
set_option maxRecDepth 20000 in
theorem kc_Ta_readOne : kC M_Ta_readOne 2 := ⟨z_mem 620 (by rfl) rfl, z_mem 105 (by decide +kernel) rfl, ⟨by decide, by decide⟩, by decide +kernel, by decide⟩
theorem k_Ta_90 : kV "WindBrides$Tape" 90 9 M_Ta_readOne 2 := ⟨kc_Ta_readOne, _, _, _, rfl, z_mem 619 (by decide +kernel) rfl, z_mem 11 (by decide +kernel) rfl, z_mem 617 (by decide +kernel) rfl⟩
set_option maxRecDepth 20000 in
theorem kc_Bk_writes : kC M_Bk_writes 1 := ⟨z_mem 631 (by rfl) rfl, z_mem 104 (by decide +kernel) rfl, ⟨by decide, by decide⟩, by decide +kernel, by decide⟩
theorem k_Ta_93 : kV "WindBrides$Tape" 93 0 M_Bk_writes 1 := ⟨kc_Bk_writes, _, _, _, rfl, z_mem 629 (by decide +kernel) rfl, z_mem 630 (by decide +kernel) rfl, z_mem 628 (by decide +kernel) rfl⟩
set_option maxRecDepth 20000 in
theorem kc_Ta_readComparison : kC M_Ta_readComparison 1 := ⟨z_mem 624 (by rfl) rfl, z_mem 105 (by decide +kernel) rfl, ⟨by decide, by decide⟩, by decide +kernel, by decide⟩
theorem k_Ta_97 : kV "WindBrides$Tape" 97 9 M_Ta_readComparison 1 := ⟨kc_Ta_readComparison, _, _, _, rfl, z_mem 623 (by decide +kernel) rfl, z_mem 12 (by decide +kernel) rfl, z_mem 621 (by decide +kernel) rfl⟩
set_option maxRecDepth 20000 in
theorem kc_Ta_isValue : kC M_Ta_isValue 1 := ⟨z_mem 627 (by rfl) rfl, z_mem 105 (by decide +kernel) rfl, ⟨by decide, by decide⟩, by decide +kernel, by decide⟩
theorem k_Ta_100 : kS "WindBrides$Tape" 100 M_Ta_isValue 1 := ⟨kc_Ta_isValue, z_mem 626 (by decide +kernel) rfl, Or.inl (z_mem 625 (by decide +kernel) rfl)⟩
theorem ky_Bk_33 : Cond.methodLink "WindBrides$Book" 33 arraycopyName ∈ zT := z_mem 640 (by decide +kernel) rfl
set_option maxRecDepth 20000 in
theorem kc_Wb_passMonth : kC M_Wb_passMonth 1 := ⟨z_mem 651 (by rfl) rfl, z_mem 101 (by decide +kernel) rfl, ⟨by decide, by decide⟩, by decide +kernel, by decide⟩
theorem k_Wb_177 : kV "WindBrides" 177 11 M_Wb_passMonth 1 := ⟨kc_Wb_passMonth, _, _, _, rfl, z_mem 650 (by decide +kernel) rfl, z_mem 13 (by decide +kernel) rfl, z_mem 648 (by decide +kernel) rfl⟩
set_option maxRecDepth 20000 in
theorem kc_Cr_passes : kC M_Cr_passes 2 := ⟨z_mem 655 (by rfl) rfl, z_mem 103 (by decide +kernel) rfl, ⟨by decide, by decide⟩, by decide +kernel, by decide⟩
theorem k_Wb_181 : kV "WindBrides" 181 4 M_Cr_passes 2 := ⟨kc_Cr_passes, _, _, _, rfl, z_mem 653 (by decide +kernel) rfl, z_mem 654 (by decide +kernel) rfl, z_mem 652 (by decide +kernel) rfl⟩
theorem f_Cr_27_4 : zF "WindBrides$Course" 27 4 3 .int false := ⟨R_Cr, F_Cr, 5, "WindBrides$Course", t_Cr, rfl, by decide, i_Cr, z_mem 149 (by decide +kernel) rfl, Or.inl rfl, t_Cr_ok, n_Cr, rfl, by decide +kernel, by intro h; cases h⟩
theorem k_Cr_60 : kV "WindBrides$Course" 60 3 M_Co_blows 2 := ⟨kc_Co_blows, _, _, _, rfl, z_mem 471 (by decide +kernel) rfl, z_mem 472 (by decide +kernel) rfl, z_mem 656 (by decide +kernel) rfl⟩
theorem k_Cr_64 : kV "WindBrides$Course" 64 4 M_Cr_doesInCalm 2 := ⟨kc_Cr_doesInCalm, _, _, _, rfl, z_mem 422 (by decide +kernel) rfl, z_mem 423 (by decide +kernel) rfl, z_mem 657 (by decide +kernel) rfl⟩
set_option maxRecDepth 20000 in
theorem kc_Cr_meetsCalm : kC M_Cr_meetsCalm 3 := ⟨z_mem 661 (by rfl) rfl, z_mem 103 (by decide +kernel) rfl, ⟨by decide, by decide⟩, by decide +kernel, by decide⟩
theorem k_Cr_68 : kV "WindBrides$Course" 68 4 M_Cr_meetsCalm 3 := ⟨kc_Cr_meetsCalm, _, _, _, rfl, z_mem 660 (by decide +kernel) rfl, z_mem 14 (by decide +kernel) rfl, z_mem 658 (by decide +kernel) rfl⟩
theorem k_Cr_72 : kV "WindBrides$Course" 72 3 M_Co_gainBy 3 := ⟨kc_Co_gainBy, _, _, _, rfl, z_mem 484 (by decide +kernel) rfl, z_mem 485 (by decide +kernel) rfl, z_mem 671 (by decide +kernel) rfl⟩
set_option maxRecDepth 20000 in
theorem kc_Cr_wearsOut : kC M_Cr_wearsOut 2 := ⟨z_mem 675 (by rfl) rfl, z_mem 103 (by decide +kernel) rfl, ⟨by decide, by decide⟩, by decide +kernel, by decide⟩
theorem k_Cr_76 : kV "WindBrides$Course" 76 4 M_Cr_wearsOut 2 := ⟨kc_Cr_wearsOut, _, _, _, rfl, z_mem 674 (by decide +kernel) rfl, z_mem 17 (by decide +kernel) rfl, z_mem 672 (by decide +kernel) rfl⟩
theorem k_Cr_80 : kV "WindBrides$Course" 80 4 M_Cr_promiseTo 3 := ⟨kc_Cr_promiseTo, _, _, _, rfl, z_mem 410 (by decide +kernel) rfl, z_mem 411 (by decide +kernel) rfl, z_mem 662 (by decide +kernel) rfl⟩
set_option maxRecDepth 20000 in
theorem kc_Cr_freeWindFor : kC M_Cr_freeWindFor 2 := ⟨z_mem 666 (by rfl) rfl, z_mem 103 (by decide +kernel) rfl, ⟨by decide, by decide⟩, by decide +kernel, by decide⟩
theorem k_Cr_83 : kV "WindBrides$Course" 83 4 M_Cr_freeWindFor 2 := ⟨kc_Cr_freeWindFor, _, _, _, rfl, z_mem 665 (by decide +kernel) rfl, z_mem 15 (by decide +kernel) rfl, z_mem 663 (by decide +kernel) rfl⟩
set_option maxRecDepth 20000 in
theorem kc_Cr_windsWithBrides : kC M_Cr_windsWithBrides 1 := ⟨z_mem 670 (by rfl) rfl, z_mem 103 (by decide +kernel) rfl, ⟨by decide, by decide⟩, by decide +kernel, by decide⟩
theorem k_Cr_86 : kV "WindBrides$Course" 86 4 M_Cr_windsWithBrides 1 := ⟨kc_Cr_windsWithBrides, _, _, _, rfl, z_mem 669 (by decide +kernel) rfl, z_mem 16 (by decide +kernel) rfl, z_mem 667 (by decide +kernel) rfl⟩
theorem f_Cr_90_3 : zF "WindBrides$Course" 90 3 4 .int false := ⟨R_Co, F_Co, 17, "WindBrides$Coast", t_Co, rfl, by decide, i_Co, z_mem 206 (by decide +kernel) rfl, Or.inl rfl, t_Co_ok, n_Co, rfl, by decide +kernel, by intro h; cases h⟩
set_option maxRecDepth 20000 in
theorem kc_Cr_copyFrom : kC M_Cr_copyFrom 1 := ⟨z_mem 683 (by rfl) rfl, z_mem 103 (by decide +kernel) rfl, ⟨by decide, by decide⟩, by decide +kernel, by decide⟩
theorem k_Wb_184 : kV "WindBrides" 184 4 M_Cr_copyFrom 1 := ⟨kc_Cr_copyFrom, _, _, _, rfl, z_mem 681 (by decide +kernel) rfl, z_mem 682 (by decide +kernel) rfl, z_mem 680 (by decide +kernel) rfl⟩
theorem ky_Cr_30 : Cond.methodLink "WindBrides$Course" 30 arraycopyName ∈ zT := z_mem 684 (by decide +kernel) rfl
theorem f_Wb_187_4 : zF "WindBrides" 187 4 3 .int false := ⟨R_Cr, F_Cr, 5, "WindBrides$Course", t_Cr, rfl, by decide, i_Cr, z_mem 150 (by decide +kernel) rfl, Or.inl rfl, t_Cr_ok, n_Cr, rfl, by decide +kernel, by intro h; cases h⟩
set_option maxRecDepth 20000 in
theorem kc_Wb_trialRest : kC M_Wb_trialRest 0 := ⟨z_mem 700 (by rfl) rfl, z_mem 101 (by decide +kernel) rfl, ⟨by decide, by decide⟩, by decide +kernel, by decide⟩
theorem k_Wb_190 : kV "WindBrides" 190 11 M_Wb_trialRest 0 := ⟨kc_Wb_trialRest, _, _, _, rfl, z_mem 699 (by decide +kernel) rfl, z_mem 18 (by decide +kernel) rfl, z_mem 697 (by decide +kernel) rfl⟩
set_option maxRecDepth 20000 in
theorem kc_Co_pairLeaves : kC M_Co_pairLeaves 2 := ⟨z_mem 712 (by rfl) rfl, z_mem 102 (by decide +kernel) rfl, ⟨by decide, by decide⟩, by decide +kernel, by decide⟩
theorem k_Wb_194 : kV "WindBrides" 194 3 M_Co_pairLeaves 2 := ⟨kc_Co_pairLeaves, _, _, _, rfl, z_mem 710 (by decide +kernel) rfl, z_mem 711 (by decide +kernel) rfl, z_mem 709 (by decide +kernel) rfl⟩
theorem f_Co_109_4 : zFr "WindBrides$Coast" 109 4 1 := ⟨R_Cr, F_Cr, 5, "WindBrides$Course", rfl, by decide, i_Cr, z_mem 146 (by decide +kernel) rfl, Or.inl rfl⟩
set_option maxRecDepth 20000 in
theorem kc_Co_girlLikes : kC M_Co_girlLikes 3 := ⟨z_mem 716 (by rfl) rfl, z_mem 102 (by decide +kernel) rfl, ⟨by decide, by decide⟩, by decide +kernel, by decide⟩
theorem k_Co_112 : kV "WindBrides$Coast" 112 3 M_Co_girlLikes 3 := ⟨kc_Co_girlLikes, _, _, _, rfl, z_mem 715 (by decide +kernel) rfl, z_mem 19 (by decide +kernel) rfl, z_mem 713 (by decide +kernel) rfl⟩
set_option maxRecDepth 20000 in
theorem kc_Co_windLikes : kC M_Co_windLikes 3 := ⟨z_mem 725 (by rfl) rfl, z_mem 102 (by decide +kernel) rfl, ⟨by decide, by decide⟩, by decide +kernel, by decide⟩
theorem k_Co_116 : kV "WindBrides$Coast" 116 3 M_Co_windLikes 3 := ⟨kc_Co_windLikes, _, _, _, rfl, z_mem 724 (by decide +kernel) rfl, z_mem 21 (by decide +kernel) rfl, z_mem 722 (by decide +kernel) rfl⟩
set_option maxRecDepth 20000 in
theorem kc_Co_heldMonth : kC M_Co_heldMonth 0 := ⟨z_mem 720 (by rfl) rfl, z_mem 102 (by decide +kernel) rfl, ⟨by decide, by decide⟩, by decide +kernel, by decide⟩
theorem k_Co_101 : kV "WindBrides$Coast" 101 3 M_Co_heldMonth 0 := ⟨kc_Co_heldMonth, _, _, _, rfl, z_mem 719 (by decide +kernel) rfl, z_mem 20 (by decide +kernel) rfl, z_mem 717 (by decide +kernel) rfl⟩
theorem k_Co_105 : kV "WindBrides$Coast" 105 3 M_Co_gainBy 3 := ⟨kc_Co_gainBy, _, _, _, rfl, z_mem 484 (by decide +kernel) rfl, z_mem 485 (by decide +kernel) rfl, z_mem 721 (by decide +kernel) rfl⟩
set_option maxRecDepth 20000 in
theorem kc_Co_keptWind : kC M_Co_keptWind 1 := ⟨z_mem 737 (by rfl) rfl, z_mem 102 (by decide +kernel) rfl, ⟨by decide, by decide⟩, by decide +kernel, by decide⟩
theorem k_Wb_197 : kV "WindBrides" 197 3 M_Co_keptWind 1 := ⟨kc_Co_keptWind, _, _, _, rfl, z_mem 735 (by decide +kernel) rfl, z_mem 736 (by decide +kernel) rfl, z_mem 734 (by decide +kernel) rfl⟩
set_option maxRecDepth 20000 in
theorem kc_Co_nextLiked : kC M_Co_nextLiked 2 := ⟨z_mem 741 (by rfl) rfl, z_mem 102 (by decide +kernel) rfl, ⟨by decide, by decide⟩, by decide +kernel, by decide⟩
theorem k_Co_119 : kV "WindBrides$Coast" 119 3 M_Co_nextLiked 2 := ⟨kc_Co_nextLiked, _, _, _, rfl, z_mem 740 (by decide +kernel) rfl, z_mem 22 (by decide +kernel) rfl, z_mem 738 (by decide +kernel) rfl⟩
set_option maxRecDepth 20000 in
theorem kc_Co_refusedGirl : kC M_Co_refusedGirl 0 := ⟨z_mem 745 (by rfl) rfl, z_mem 102 (by decide +kernel) rfl, ⟨by decide, by decide⟩, by decide +kernel, by decide⟩
theorem k_Co_122 : kV "WindBrides$Coast" 122 3 M_Co_refusedGirl 0 := ⟨kc_Co_refusedGirl, _, _, _, rfl, z_mem 744 (by decide +kernel) rfl, z_mem 23 (by decide +kernel) rfl, z_mem 742 (by decide +kernel) rfl⟩
set_option maxRecDepth 20000 in
theorem kc_Co_ringOf : kC M_Co_ringOf 1 := ⟨z_mem 753 (by rfl) rfl, z_mem 102 (by decide +kernel) rfl, ⟨by decide, by decide⟩, by decide +kernel, by decide⟩
theorem k_Wb_200 : kV "WindBrides" 200 3 M_Co_ringOf 1 := ⟨kc_Co_ringOf, _, _, _, rfl, z_mem 751 (by decide +kernel) rfl, z_mem 752 (by decide +kernel) rfl, z_mem 750 (by decide +kernel) rfl⟩
set_option maxRecDepth 20000 in
theorem kc_Co_envied : kC M_Co_envied 1 := ⟨z_mem 757 (by rfl) rfl, z_mem 102 (by decide +kernel) rfl, ⟨by decide, by decide⟩, by decide +kernel, by decide⟩
theorem k_Co_125 : kV "WindBrides$Coast" 125 3 M_Co_envied 1 := ⟨kc_Co_envied, _, _, _, rfl, z_mem 756 (by decide +kernel) rfl, z_mem 24 (by decide +kernel) rfl, z_mem 754 (by decide +kernel) rfl⟩
set_option maxRecDepth 20000 in
theorem kc_Wb_isPlanLength : kC M_Wb_isPlanLength 1 := ⟨z_mem 764 (by rfl) rfl, z_mem 101 (by decide +kernel) rfl, ⟨by decide, by decide⟩, by decide +kernel, by decide⟩
theorem k_Wb_203 : kS "WindBrides" 203 M_Wb_isPlanLength 1 := ⟨kc_Wb_isPlanLength, z_mem 763 (by decide +kernel) rfl, Or.inl (z_mem 762 (by decide +kernel) rfl)⟩
set_option maxRecDepth 20000 in
theorem kc_Pl_search : kC M_Pl_search 3 := ⟨z_mem 768 (by rfl) rfl, z_mem 106 (by decide +kernel) rfl, ⟨by decide, by decide⟩, by decide +kernel, by decide⟩
theorem k_Wb_206 : kV "WindBrides" 206 7 M_Pl_search 3 := ⟨kc_Pl_search, _, _, _, rfl, z_mem 766 (by decide +kernel) rfl, z_mem 767 (by decide +kernel) rfl, z_mem 765 (by decide +kernel) rfl⟩
theorem f_Wb_209_7 : zF "WindBrides" 209 7 1 .int false := ⟨R_Pl, F_Pl, 13, "WindBrides$Plans", t_Pl, rfl, by decide, i_Pl, z_mem 306 (by decide +kernel) rfl, Or.inl rfl, t_Pl_ok, n_Pl, rfl, by decide +kernel, by intro h; cases h⟩
set_option maxRecDepth 20000 in
theorem kc_Pl_begin : kC M_Pl_begin 2 := ⟨z_mem 772 (by rfl) rfl, z_mem 106 (by decide +kernel) rfl, ⟨by decide, by decide⟩, by decide +kernel, by decide⟩
theorem k_Pl_52 : kV "WindBrides$Plans" 52 7 M_Pl_begin 2 := ⟨kc_Pl_begin, _, _, _, rfl, z_mem 771 (by decide +kernel) rfl, z_mem 25 (by decide +kernel) rfl, z_mem 769 (by decide +kernel) rfl⟩
theorem f_Pl_56_7 : zF "WindBrides$Plans" 56 7 10 .int false := ⟨R_Pl, F_Pl, 13, "WindBrides$Plans", t_Pl, rfl, by decide, i_Pl, z_mem 322 (by decide +kernel) rfl, Or.inl rfl, t_Pl_ok, n_Pl, rfl, by decide +kernel, by intro h; cases h⟩
theorem f_Pl_59_7 : zF "WindBrides$Plans" 59 7 1 .int false := ⟨R_Pl, F_Pl, 13, "WindBrides$Plans", t_Pl, rfl, by decide, i_Pl, z_mem 305 (by decide +kernel) rfl, Or.inl rfl, t_Pl_ok, n_Pl, rfl, by decide +kernel, by intro h; cases h⟩
theorem f_Pl_62_7 : zF "WindBrides$Plans" 62 7 4 .int false := ⟨R_Pl, F_Pl, 13, "WindBrides$Plans", t_Pl, rfl, by decide, i_Pl, z_mem 311 (by decide +kernel) rfl, Or.inl rfl, t_Pl_ok, n_Pl, rfl, by decide +kernel, by intro h; cases h⟩
theorem f_Pl_65_7 : zF "WindBrides$Plans" 65 7 5 .int false := ⟨R_Pl, F_Pl, 13, "WindBrides$Plans", t_Pl, rfl, by decide, i_Pl, z_mem 313 (by decide +kernel) rfl, Or.inl rfl, t_Pl_ok, n_Pl, rfl, by decide +kernel, by intro h; cases h⟩
set_option maxRecDepth 20000 in
theorem kc_Pl_tryActs : kC M_Pl_tryActs 3 := ⟨z_mem 777 (by rfl) rfl, z_mem 106 (by decide +kernel) rfl, ⟨by decide, by decide⟩, by decide +kernel, by decide⟩
theorem k_Pl_68 : kV "WindBrides$Plans" 68 7 M_Pl_tryActs 3 := ⟨kc_Pl_tryActs, _, _, _, rfl, z_mem 776 (by decide +kernel) rfl, z_mem 26 (by decide +kernel) rfl, z_mem 774 (by decide +kernel) rfl⟩
theorem f_Pl_28_7 : zF "WindBrides$Plans" 28 7 9 (.object "WindBrides$Coast") false := ⟨R_Pl, F_Pl, 13, "WindBrides$Plans", t_Pl, rfl, by decide, i_Pl, z_mem 321 (by decide +kernel) rfl, Or.inl rfl, t_Pl_ok, n_Pl, rfl, by decide +kernel, by intro h; cases h⟩
theorem f_Pl_32_3 : zF "WindBrides$Plans" 32 3 9 .int false := ⟨R_Co, F_Co, 17, "WindBrides$Coast", t_Co, rfl, by decide, i_Co, z_mem 216 (by decide +kernel) rfl, Or.inl rfl, t_Co_ok, n_Co, rfl, by decide +kernel, by intro h; cases h⟩
theorem f_Pl_38_3 : zFr "WindBrides$Plans" 38 3 12 := ⟨R_Co, F_Co, 17, "WindBrides$Coast", rfl, by decide, i_Co, z_mem 223 (by decide +kernel) rfl, Or.inl rfl⟩
theorem f_Pl_42_4 : zF "WindBrides$Plans" 42 4 0 .int false := ⟨R_Cr, F_Cr, 5, "WindBrides$Course", t_Cr, rfl, by decide, i_Cr, z_mem 141 (by decide +kernel) rfl, Or.inl rfl, t_Cr_ok, n_Cr, rfl, by decide +kernel, by intro h; cases h⟩
theorem f_Pl_45_7 : zF "WindBrides$Plans" 45 7 0 .int false := ⟨R_Pl, F_Pl, 13, "WindBrides$Plans", t_Pl, rfl, by decide, i_Pl, z_mem 303 (by decide +kernel) rfl, Or.inl rfl, t_Pl_ok, n_Pl, rfl, by decide +kernel, by intro h; cases h⟩
theorem k_Pl_48 : kV "WindBrides$Plans" 48 4 M_Cr_copyFrom 1 := ⟨kc_Cr_copyFrom, _, _, _, rfl, z_mem 681 (by decide +kernel) rfl, z_mem 682 (by decide +kernel) rfl, z_mem 773 (by decide +kernel) rfl⟩
set_option maxRecDepth 20000 in
theorem kc_Pl_weigh : kC M_Pl_weigh 2 := ⟨z_mem 781 (by rfl) rfl, z_mem 106 (by decide +kernel) rfl, ⟨by decide, by decide⟩, by decide +kernel, by decide⟩
theorem k_Pl_72 : kV "WindBrides$Plans" 72 7 M_Pl_weigh 2 := ⟨kc_Pl_weigh, _, _, _, rfl, z_mem 780 (by decide +kernel) rfl, z_mem 27 (by decide +kernel) rfl, z_mem 778 (by decide +kernel) rfl⟩
theorem f_Pl_76_3 : zF "WindBrides$Plans" 76 3 0 .int false := ⟨R_Co, F_Co, 17, "WindBrides$Coast", t_Co, rfl, by decide, i_Co, z_mem 193 (by decide +kernel) rfl, Or.inl rfl, t_Co_ok, n_Co, rfl, by decide +kernel, by intro h; cases h⟩
theorem k_Pl_79 : kV "WindBrides$Plans" 79 4 M_Cr_passes 2 := ⟨kc_Cr_passes, _, _, _, rfl, z_mem 653 (by decide +kernel) rfl, z_mem 654 (by decide +kernel) rfl, z_mem 787 (by decide +kernel) rfl⟩
theorem f_Pl_83_7 : zF "WindBrides$Plans" 83 7 2 .int false := ⟨R_Pl, F_Pl, 13, "WindBrides$Plans", t_Pl, rfl, by decide, i_Pl, z_mem 307 (by decide +kernel) rfl, Or.inl rfl, t_Pl_ok, n_Pl, rfl, by decide +kernel, by intro h; cases h⟩
theorem ky_Pl_86 : Cond.methodLink "WindBrides$Plans" 86 arraycopyName ∈ zT := z_mem 782 (by decide +kernel) rfl
set_option maxRecDepth 20000 in
theorem kc_Cr_promisedSet : kC M_Cr_promisedSet 1 := ⟨z_mem 786 (by rfl) rfl, z_mem 103 (by decide +kernel) rfl, ⟨by decide, by decide⟩, by decide +kernel, by decide⟩
theorem k_Pl_92 : kV "WindBrides$Plans" 92 4 M_Cr_promisedSet 1 := ⟨kc_Cr_promisedSet, _, _, _, rfl, z_mem 784 (by decide +kernel) rfl, z_mem 785 (by decide +kernel) rfl, z_mem 783 (by decide +kernel) rfl⟩
theorem f_Wb_212_7 : zF "WindBrides" 212 7 0 .int false := ⟨R_Pl, F_Pl, 13, "WindBrides$Plans", t_Pl, rfl, by decide, i_Pl, z_mem 304 (by decide +kernel) rfl, Or.inl rfl, t_Pl_ok, n_Pl, rfl, by decide +kernel, by intro h; cases h⟩
theorem f_Wb_215_7 : zFr "WindBrides" 215 7 3 := ⟨R_Pl, F_Pl, 13, "WindBrides$Plans", rfl, by decide, i_Pl, z_mem 310 (by decide +kernel) rfl, Or.inl rfl⟩
theorem f_Wb_218_7 : zF "WindBrides" 218 7 2 .int false := ⟨R_Pl, F_Pl, 13, "WindBrides$Plans", t_Pl, rfl, by decide, i_Pl, z_mem 308 (by decide +kernel) rfl, Or.inl rfl, t_Pl_ok, n_Pl, rfl, by decide +kernel, by intro h; cases h⟩
set_option maxRecDepth 20000 in
theorem kc_Wb_isSetOfGirls : kC M_Wb_isSetOfGirls 1 := ⟨z_mem 803 (by rfl) rfl, z_mem 101 (by decide +kernel) rfl, ⟨by decide, by decide⟩, by decide +kernel, by decide⟩
theorem k_Wb_221 : kV "WindBrides" 221 11 M_Wb_isSetOfGirls 1 := ⟨kc_Wb_isSetOfGirls, _, _, _, rfl, z_mem 802 (by decide +kernel) rfl, z_mem 28 (by decide +kernel) rfl, z_mem 800 (by decide +kernel) rfl⟩
theorem f_Wb_224_7 : zF "WindBrides" 224 7 4 .int false := ⟨R_Pl, F_Pl, 13, "WindBrides$Plans", t_Pl, rfl, by decide, i_Pl, z_mem 312 (by decide +kernel) rfl, Or.inl rfl, t_Pl_ok, n_Pl, rfl, by decide +kernel, by intro h; cases h⟩
theorem f_Wb_227_7 : zF "WindBrides" 227 7 5 .int false := ⟨R_Pl, F_Pl, 13, "WindBrides$Plans", t_Pl, rfl, by decide, i_Pl, z_mem 314 (by decide +kernel) rfl, Or.inl rfl, t_Pl_ok, n_Pl, rfl, by decide +kernel, by intro h; cases h⟩
set_option maxRecDepth 20000 in
theorem kc_Ji_numberOfTrailingZeros : kC M_Ji_numberOfTrailingZeros 1 := ⟨z_mem 810 (by rfl) rfl, z_mem 113 (by decide +kernel) rfl, ⟨by decide, by decide⟩, by decide +kernel, by decide⟩
theorem k_Wb_230 : kS "WindBrides" 230 M_Ji_numberOfTrailingZeros 1 := ⟨kc_Ji_numberOfTrailingZeros, z_mem 809 (by decide +kernel) rfl, Or.inl (z_mem 808 (by decide +kernel) rfl)⟩
theorem l_Ji_264 : Cond.constant "java/lang/Integer" 264 65536 ∈ zT := z_mem 811 (by decide +kernel) rfl
set_option maxRecDepth 20000 in
theorem kc_Pl_gameFrom : kC M_Pl_gameFrom 2 := ⟨z_mem 819 (by rfl) rfl, z_mem 106 (by decide +kernel) rfl, ⟨by decide, by decide⟩, by decide +kernel, by decide⟩
theorem k_Wb_235 : kV "WindBrides" 235 7 M_Pl_gameFrom 2 := ⟨kc_Pl_gameFrom, _, _, _, rfl, z_mem 817 (by decide +kernel) rfl, z_mem 818 (by decide +kernel) rfl, z_mem 816 (by decide +kernel) rfl⟩
set_option maxRecDepth 20000 in
theorem kc_Pl_gameValue : kC M_Pl_gameValue 1 := ⟨z_mem 823 (by rfl) rfl, z_mem 106 (by decide +kernel) rfl, ⟨by decide, by decide⟩, by decide +kernel, by decide⟩
theorem k_Pl_96 : kV "WindBrides$Plans" 96 7 M_Pl_gameValue 1 := ⟨kc_Pl_gameValue, _, _, _, rfl, z_mem 822 (by decide +kernel) rfl, z_mem 29 (by decide +kernel) rfl, z_mem 820 (by decide +kernel) rfl⟩
theorem f_Pl_100_7 : zF "WindBrides$Plans" 100 7 6 .int false := ⟨R_Pl, F_Pl, 13, "WindBrides$Plans", t_Pl, rfl, by decide, i_Pl, z_mem 315 (by decide +kernel) rfl, Or.inl rfl, t_Pl_ok, n_Pl, rfl, by decide +kernel, by intro h; cases h⟩
theorem f_Wb_238_7 : zF "WindBrides" 238 7 6 .int false := ⟨R_Pl, F_Pl, 13, "WindBrides$Plans", t_Pl, rfl, by decide, i_Pl, z_mem 316 (by decide +kernel) rfl, Or.inl rfl, t_Pl_ok, n_Pl, rfl, by decide +kernel, by intro h; cases h⟩
theorem f_Wb_241_3 : zF "WindBrides" 241 3 14 .int false := ⟨R_Co, F_Co, 17, "WindBrides$Coast", t_Co, rfl, by decide, i_Co, z_mem 229 (by decide +kernel) rfl, Or.inl rfl, t_Co_ok, n_Co, rfl, by decide +kernel, by intro h; cases h⟩
set_option maxRecDepth 20000 in
theorem kc_Co_addReport : kC M_Co_addReport 4 := ⟨z_mem 835 (by rfl) rfl, z_mem 102 (by decide +kernel) rfl, ⟨by decide, by decide⟩, by decide +kernel, by decide⟩
theorem k_Wb_244 : kV "WindBrides" 244 3 M_Co_addReport 4 := ⟨kc_Co_addReport, _, _, _, rfl, z_mem 833 (by decide +kernel) rfl, z_mem 834 (by decide +kernel) rfl, z_mem 832 (by decide +kernel) rfl⟩
theorem f_Co_82_3 : zF "WindBrides$Coast" 82 3 14 .int false := ⟨R_Co, F_Co, 17, "WindBrides$Coast", t_Co, rfl, by decide, i_Co, z_mem 228 (by decide +kernel) rfl, Or.inl rfl, t_Co_ok, n_Co, rfl, by decide +kernel, by intro h; cases h⟩
set_option maxRecDepth 20000 in
theorem kc_Co_fittingWinds : kC M_Co_fittingWinds 1 := ⟨z_mem 847 (by rfl) rfl, z_mem 102 (by decide +kernel) rfl, ⟨by decide, by decide⟩, by decide +kernel, by decide⟩
theorem k_Wb_247 : kV "WindBrides" 247 3 M_Co_fittingWinds 1 := ⟨kc_Co_fittingWinds, _, _, _, rfl, z_mem 845 (by decide +kernel) rfl, z_mem 846 (by decide +kernel) rfl, z_mem 844 (by decide +kernel) rfl⟩
set_option maxRecDepth 20000 in
theorem kc_Co_fits : kC M_Co_fits 3 := ⟨z_mem 851 (by rfl) rfl, z_mem 102 (by decide +kernel) rfl, ⟨by decide, by decide⟩, by decide +kernel, by decide⟩
theorem k_Wb_250 : kV "WindBrides" 250 3 M_Co_fits 3 := ⟨kc_Co_fits, _, _, _, rfl, z_mem 849 (by decide +kernel) rfl, z_mem 850 (by decide +kernel) rfl, z_mem 852 (by decide +kernel) rfl⟩
theorem k_Co_129 : kV "WindBrides$Coast" 129 3 M_Co_fits 3 := ⟨kc_Co_fits, _, _, _, rfl, z_mem 849 (by decide +kernel) rfl, z_mem 850 (by decide +kernel) rfl, z_mem 848 (by decide +kernel) rfl⟩
theorem f_Wb_253_3 : zF "WindBrides" 253 3 11 .int false := ⟨R_Co, F_Co, 17, "WindBrides$Coast", t_Co, rfl, by decide, i_Co, z_mem 221 (by decide +kernel) rfl, Or.inl rfl, t_Co_ok, n_Co, rfl, by decide +kernel, by intro h; cases h⟩
set_option maxRecDepth 20000 in
theorem kc_Co_drawAct : kC M_Co_drawAct 0 := ⟨z_mem 868 (by rfl) rfl, z_mem 102 (by decide +kernel) rfl, ⟨by decide, by decide⟩, by decide +kernel, by decide⟩
theorem k_Wb_256 : kV "WindBrides" 256 3 M_Co_drawAct 0 := ⟨kc_Co_drawAct, _, _, _, rfl, z_mem 866 (by decide +kernel) rfl, z_mem 867 (by decide +kernel) rfl, z_mem 865 (by decide +kernel) rfl⟩
theorem l_Co_100 : Cond.constant "WindBrides$Coast" 100 1103515245 ∈ zT := z_mem 869 (by decide +kernel) rfl
set_option maxRecDepth 20000 in
theorem kc_Pl_writeRows : kC M_Pl_writeRows 0 := ⟨z_mem 881 (by rfl) rfl, z_mem 106 (by decide +kernel) rfl, ⟨by decide, by decide⟩, by decide +kernel, by decide⟩
theorem k_Wb_259 : kV "WindBrides" 259 7 M_Pl_writeRows 0 := ⟨kc_Pl_writeRows, _, _, _, rfl, z_mem 879 (by decide +kernel) rfl, z_mem 880 (by decide +kernel) rfl, z_mem 878 (by decide +kernel) rfl⟩
theorem f_Pl_103_7 : zF "WindBrides$Plans" 103 7 7 .int false := ⟨R_Pl, F_Pl, 13, "WindBrides$Plans", t_Pl, rfl, by decide, i_Pl, z_mem 317 (by decide +kernel) rfl, Or.inl rfl, t_Pl_ok, n_Pl, rfl, by decide +kernel, by intro h; cases h⟩
set_option maxRecDepth 20000 in
theorem kc_Pl_hasCell : kC M_Pl_hasCell 2 := ⟨z_mem 889 (by rfl) rfl, z_mem 106 (by decide +kernel) rfl, ⟨by decide, by decide⟩, by decide +kernel, by decide⟩
theorem k_Wb_262 : kV "WindBrides" 262 7 M_Pl_hasCell 2 := ⟨kc_Pl_hasCell, _, _, _, rfl, z_mem 887 (by decide +kernel) rfl, z_mem 888 (by decide +kernel) rfl, z_mem 886 (by decide +kernel) rfl⟩
theorem f_Wb_265_7 : zFr "WindBrides" 265 7 8 := ⟨R_Pl, F_Pl, 13, "WindBrides$Plans", rfl, by decide, i_Pl, z_mem 320 (by decide +kernel) rfl, Or.inl rfl⟩
theorem k_Pl_106 : kS "WindBrides$Plans" 106 M_Wb_within 3 := ⟨kc_Wb_within, z_mem 403 (by decide +kernel) rfl, Or.inr ⟨"WindBrides", z_memN 890 (by decide +kernel) rfl⟩⟩
set_option maxRecDepth 20000 in
theorem kc_Pl_firstWrongRow : kC M_Pl_firstWrongRow 1 := ⟨z_mem 902 (by rfl) rfl, z_mem 106 (by decide +kernel) rfl, ⟨by decide, by decide⟩, by decide +kernel, by decide⟩
theorem k_Wb_268 : kV "WindBrides" 268 7 M_Pl_firstWrongRow 1 := ⟨kc_Pl_firstWrongRow, _, _, _, rfl, z_mem 900 (by decide +kernel) rfl, z_mem 901 (by decide +kernel) rfl, z_mem 899 (by decide +kernel) rfl⟩
set_option maxRecDepth 20000 in
theorem kc_Co_isAct : kC M_Co_isAct 1 := ⟨z_mem 906 (by rfl) rfl, z_mem 102 (by decide +kernel) rfl, ⟨by decide, by decide⟩, by decide +kernel, by decide⟩
theorem k_Pl_110 : kV "WindBrides$Plans" 110 3 M_Co_isAct 1 := ⟨kc_Co_isAct, _, _, _, rfl, z_mem 904 (by decide +kernel) rfl, z_mem 905 (by decide +kernel) rfl, z_mem 903 (by decide +kernel) rfl⟩
set_option maxRecDepth 20000 in
theorem kc_Wb_isSheet : kC M_Wb_isSheet 1 := ⟨z_mem 913 (by rfl) rfl, z_mem 101 (by decide +kernel) rfl, ⟨by decide, by decide⟩, by decide +kernel, by decide⟩
theorem k_Wb_272 : kS "WindBrides" 272 M_Wb_isSheet 1 := ⟨kc_Wb_isSheet, z_mem 912 (by decide +kernel) rfl, Or.inl (z_mem 911 (by decide +kernel) rfl)⟩
set_option maxRecDepth 20000 in
theorem kc_Wb_hasItem : kC M_Wb_hasItem 2 := ⟨z_mem 921 (by rfl) rfl, z_mem 101 (by decide +kernel) rfl, ⟨by decide, by decide⟩, by decide +kernel, by decide⟩
theorem k_Wb_275 : kV "WindBrides" 275 11 M_Wb_hasItem 2 := ⟨kc_Wb_hasItem, _, _, _, rfl, z_mem 920 (by decide +kernel) rfl, z_mem 30 (by decide +kernel) rfl, z_mem 918 (by decide +kernel) rfl⟩
set_option maxRecDepth 20000 in
theorem kc_Wb_narrowed : kC M_Wb_narrowed 2 := ⟨z_mem 924 (by rfl) rfl, z_mem 101 (by decide +kernel) rfl, ⟨by decide, by decide⟩, by decide +kernel, by decide⟩
theorem k_Wb_278 : kS "WindBrides" 278 M_Wb_narrowed 2 := ⟨kc_Wb_narrowed, z_mem 923 (by decide +kernel) rfl, Or.inl (z_mem 922 (by decide +kernel) rfl)⟩
set_option maxRecDepth 20000 in
theorem kc_Wb_refusalAs : kC M_Wb_refusalAs 2 := ⟨z_mem 932 (by rfl) rfl, z_mem 101 (by decide +kernel) rfl, ⟨by decide, by decide⟩, by decide +kernel, by decide⟩
theorem k_Wb_282 : kV "WindBrides" 282 11 M_Wb_refusalAs 2 := ⟨kc_Wb_refusalAs, _, _, _, rfl, z_mem 931 (by decide +kernel) rfl, z_mem 31 (by decide +kernel) rfl, z_mem 929 (by decide +kernel) rfl⟩
theorem k_Wb_285 : kV "WindBrides" 285 3 M_Co_isAct 1 := ⟨kc_Co_isAct, _, _, _, rfl, z_mem 904 (by decide +kernel) rfl, z_mem 905 (by decide +kernel) rfl, z_mem 937 (by decide +kernel) rfl⟩
set_option maxRecDepth 20000 in
theorem kc_Wb_isShelf : kC M_Wb_isShelf 1 := ⟨z_mem 948 (by rfl) rfl, z_mem 101 (by decide +kernel) rfl, ⟨by decide, by decide⟩, by decide +kernel, by decide⟩
theorem k_Wb_288 : kS "WindBrides" 288 M_Wb_isShelf 1 := ⟨kc_Wb_isShelf, z_mem 947 (by decide +kernel) rfl, Or.inl (z_mem 946 (by decide +kernel) rfl)⟩
set_option maxRecDepth 20000 in
theorem kc_Wb_putRow : kC M_Wb_putRow 2 := ⟨z_mem 952 (by rfl) rfl, z_mem 101 (by decide +kernel) rfl, ⟨by decide, by decide⟩, by decide +kernel, by decide⟩
theorem k_Wb_291 : kV "WindBrides" 291 11 M_Wb_putRow 2 := ⟨kc_Wb_putRow, _, _, _, rfl, z_mem 951 (by decide +kernel) rfl, z_mem 32 (by decide +kernel) rfl, z_mem 949 (by decide +kernel) rfl⟩
set_option maxRecDepth 20000 in
theorem kc_Wb_heldOn : kC M_Wb_heldOn 1 := ⟨z_mem 960 (by rfl) rfl, z_mem 101 (by decide +kernel) rfl, ⟨by decide, by decide⟩, by decide +kernel, by decide⟩
theorem k_Wb_295 : kV "WindBrides" 295 11 M_Wb_heldOn 1 := ⟨kc_Wb_heldOn, _, _, _, rfl, z_mem 959 (by decide +kernel) rfl, z_mem 33 (by decide +kernel) rfl, z_mem 957 (by decide +kernel) rfl⟩
theorem k_Wb_298 : kS "WindBrides" 298 M_Wb_isUnder 2 := ⟨kc_Wb_isUnder, z_mem 430 (by decide +kernel) rfl, Or.inl (z_mem 961 (by decide +kernel) rfl)⟩
theorem f_Wb_301_11 : zF "WindBrides" 301 11 14 (.object "WindBrides$Girl") false := ⟨R_Wb, F_Wb, 15, "WindBrides", t_Wb, rfl, by decide, i_Wb, z_mem 366 (by decide +kernel) rfl, Or.inl rfl, t_Wb_ok, n_Wb, rfl, by decide +kernel, by intro h; cases h⟩
set_option maxRecDepth 20000 in
theorem kc_Wb_thingOf : kC M_Wb_thingOf 1 := ⟨z_mem 969 (by rfl) rfl, z_mem 101 (by decide +kernel) rfl, ⟨by decide, by decide⟩, by decide +kernel, by decide⟩
theorem k_Wb_305 : kV "WindBrides" 305 11 M_Wb_thingOf 1 := ⟨kc_Wb_thingOf, _, _, _, rfl, z_mem 968 (by decide +kernel) rfl, z_mem 34 (by decide +kernel) rfl, z_mem 966 (by decide +kernel) rfl⟩
set_option maxRecDepth 20000 in
theorem kc_Gi_sails : kC M_Gi_sails 1 := ⟨z_mem 1086 (by rfl) rfl, z_mem 114 (by decide +kernel) rfl, ⟨by decide, by decide⟩, by decide +kernel, by decide⟩
theorem k_Wb_309_1 : kU "WindBrides" 309 1 ⟨"WindBrides$Girl", "sails", "(I)I"⟩ "WindBrides$Girl" M_Gi_sails 1 := ⟨kc_Gi_sails, rfl, ⟨by decide, by decide⟩, _, _, _, rfl, z_mem 1060 (by decide +kernel) rfl, z_mem 1063 (by decide +kernel) rfl, Or.inr (z_memN 1085 (by decide +kernel) rfl), z_mem 1064 (by decide +kernel) rfl, z_mem 1061 (by decide +kernel) rfl⟩
theorem k_Wb_309_2 : kU "WindBrides" 309 2 ⟨"WindBrides$Girl", "sails", "(I)I"⟩ "WindBrides$Girl" M_Gi_sails 1 := ⟨kc_Gi_sails, rfl, ⟨by decide, by decide⟩, _, _, _, rfl, z_mem 1060 (by decide +kernel) rfl, z_mem 1063 (by decide +kernel) rfl, Or.inr (z_memN 1085 (by decide +kernel) rfl), z_mem 1065 (by decide +kernel) rfl, z_mem 1061 (by decide +kernel) rfl⟩
theorem k_Wb_309_5 : kU "WindBrides" 309 5 ⟨"WindBrides$Girl", "sails", "(I)I"⟩ "WindBrides$Girl" M_Gi_sails 1 := ⟨kc_Gi_sails, rfl, ⟨by decide, by decide⟩, _, _, _, rfl, z_mem 1060 (by decide +kernel) rfl, z_mem 1063 (by decide +kernel) rfl, Or.inr (z_memN 1085 (by decide +kernel) rfl), z_mem 1062 (by decide +kernel) rfl, z_mem 1061 (by decide +kernel) rfl⟩
theorem k_Wb_309_6 : kU "WindBrides" 309 6 ⟨"WindBrides$Girl", "sails", "(I)I"⟩ "WindBrides$Girl" M_Gi_sails 1 := ⟨kc_Gi_sails, rfl, ⟨by decide, by decide⟩, _, _, _, rfl, z_mem 1060 (by decide +kernel) rfl, z_mem 1063 (by decide +kernel) rfl, Or.inr (z_memN 1085 (by decide +kernel) rfl), z_mem 1066 (by decide +kernel) rfl, z_mem 1061 (by decide +kernel) rfl⟩
set_option maxRecDepth 20000 in
theorem kc_Sh_sails : kC M_Sh_sails 1 := ⟨z_mem 1069 (by rfl) rfl, z_mem 115 (by decide +kernel) rfl, ⟨by decide, by decide⟩, by decide +kernel, by decide⟩
theorem k_Wb_309_8 : kU "WindBrides" 309 8 ⟨"WindBrides$Girl", "sails", "(I)I"⟩ "WindBrides$Girl" M_Sh_sails 1 := ⟨kc_Sh_sails, rfl, ⟨by decide, by decide⟩, _, _, _, rfl, z_mem 1060 (by decide +kernel) rfl, z_mem 1063 (by decide +kernel) rfl, Or.inr (z_memN 1085 (by decide +kernel) rfl), z_mem 1067 (by decide +kernel) rfl, z_mem 1068 (by decide +kernel) rfl⟩
set_option maxRecDepth 20000 in
theorem kc_Tw_sails : kC M_Tw_sails 1 := ⟨z_mem 1079 (by rfl) rfl, z_mem 117 (by decide +kernel) rfl, ⟨by decide, by decide⟩, by decide +kernel, by decide⟩
theorem k_Wb_309_10 : kU "WindBrides" 309 10 ⟨"WindBrides$Girl", "sails", "(I)I"⟩ "WindBrides$Girl" M_Tw_sails 1 := ⟨kc_Tw_sails, rfl, ⟨by decide, by decide⟩, _, _, _, rfl, z_mem 1060 (by decide +kernel) rfl, z_mem 1063 (by decide +kernel) rfl, Or.inr (z_memN 1085 (by decide +kernel) rfl), z_mem 1077 (by decide +kernel) rfl, z_mem 1078 (by decide +kernel) rfl⟩
set_option maxRecDepth 20000 in
theorem kc_Br_calls : kC M_Br_calls 1 := ⟨z_mem 1094 (by rfl) rfl, z_mem 116 (by decide +kernel) rfl, ⟨by decide, by decide⟩, by decide +kernel, by decide⟩
theorem k_Wb_314_1 : kU "WindBrides" 314 1 ⟨"WindBrides$Girl", "calls", "(I)I"⟩ "WindBrides$Girl" M_Br_calls 1 := ⟨kc_Br_calls, rfl, ⟨by decide, by decide⟩, _, _, _, rfl, z_mem 1088 (by decide +kernel) rfl, z_mem 1091 (by decide +kernel) rfl, Or.inr (z_memN 1108 (by decide +kernel) rfl), z_mem 1092 (by decide +kernel) rfl, z_mem 1093 (by decide +kernel) rfl⟩
set_option maxRecDepth 20000 in
theorem kc_Ca_calls : kC M_Ca_calls 1 := ⟨z_mem 1102 (by rfl) rfl, z_mem 119 (by decide +kernel) rfl, ⟨by decide, by decide⟩, by decide +kernel, by decide⟩
theorem k_Wb_314_2 : kU "WindBrides" 314 2 ⟨"WindBrides$Girl", "calls", "(I)I"⟩ "WindBrides$Girl" M_Ca_calls 1 := ⟨kc_Ca_calls, rfl, ⟨by decide, by decide⟩, _, _, _, rfl, z_mem 1088 (by decide +kernel) rfl, z_mem 1091 (by decide +kernel) rfl, Or.inr (z_memN 1108 (by decide +kernel) rfl), z_mem 1100 (by decide +kernel) rfl, z_mem 1101 (by decide +kernel) rfl⟩
set_option maxRecDepth 20000 in
theorem kc_Gi_calls : kC M_Gi_calls 1 := ⟨z_mem 1112 (by rfl) rfl, z_mem 114 (by decide +kernel) rfl, ⟨by decide, by decide⟩, by decide +kernel, by decide⟩
theorem k_Wb_314_5 : kU "WindBrides" 314 5 ⟨"WindBrides$Girl", "calls", "(I)I"⟩ "WindBrides$Girl" M_Gi_calls 1 := ⟨kc_Gi_calls, rfl, ⟨by decide, by decide⟩, _, _, _, rfl, z_mem 1088 (by decide +kernel) rfl, z_mem 1091 (by decide +kernel) rfl, Or.inr (z_memN 1108 (by decide +kernel) rfl), z_mem 1090 (by decide +kernel) rfl, z_mem 1089 (by decide +kernel) rfl⟩
theorem k_Wb_314_6 : kU "WindBrides" 314 6 ⟨"WindBrides$Girl", "calls", "(I)I"⟩ "WindBrides$Girl" M_Gi_calls 1 := ⟨kc_Gi_calls, rfl, ⟨by decide, by decide⟩, _, _, _, rfl, z_mem 1088 (by decide +kernel) rfl, z_mem 1091 (by decide +kernel) rfl, Or.inr (z_memN 1108 (by decide +kernel) rfl), z_mem 1109 (by decide +kernel) rfl, z_mem 1089 (by decide +kernel) rfl⟩
theorem k_Wb_314_8 : kU "WindBrides" 314 8 ⟨"WindBrides$Girl", "calls", "(I)I"⟩ "WindBrides$Girl" M_Gi_calls 1 := ⟨kc_Gi_calls, rfl, ⟨by decide, by decide⟩, _, _, _, rfl, z_mem 1088 (by decide +kernel) rfl, z_mem 1091 (by decide +kernel) rfl, Or.inr (z_memN 1108 (by decide +kernel) rfl), z_mem 1110 (by decide +kernel) rfl, z_mem 1089 (by decide +kernel) rfl⟩
theorem k_Wb_314_10 : kU "WindBrides" 314 10 ⟨"WindBrides$Girl", "calls", "(I)I"⟩ "WindBrides$Girl" M_Br_calls 1 := ⟨kc_Br_calls, rfl, ⟨by decide, by decide⟩, _, _, _, rfl, z_mem 1088 (by decide +kernel) rfl, z_mem 1091 (by decide +kernel) rfl, Or.inr (z_memN 1108 (by decide +kernel) rfl), z_mem 1111 (by decide +kernel) rfl, z_mem 1093 (by decide +kernel) rfl⟩
set_option maxRecDepth 20000 in
theorem kc_Gi_shares : kC M_Gi_shares 1 := ⟨z_mem 1136 (by rfl) rfl, z_mem 114 (by decide +kernel) rfl, ⟨by decide, by decide⟩, by decide +kernel, by decide⟩
set_option maxRecDepth 20000 in
theorem k_Wb_317_1 : kU "WindBrides" 317 1 ⟨"WindBrides$Girl", "shares", "(I)I"⟩ "WindBrides$Girl" M_Gi_shares 1 := ⟨kc_Gi_shares, rfl, ⟨by decide, by decide⟩, _, _, _, rfl, z_mem 1114 (by decide +kernel) rfl, z_mem 1117 (by decide +kernel) rfl, Or.inl ⟨z_mem 1115 (by decide +kernel) rfl, _, _, _, z_mem 1136 (by rfl) rfl⟩, z_mem 1118 (by decide +kernel) rfl, z_mem 1115 (by decide +kernel) rfl⟩
set_option maxRecDepth 20000 in
theorem kc_Ca_shares : kC M_Ca_shares 1 := ⟨z_mem 1121 (by rfl) rfl, z_mem 119 (by decide +kernel) rfl, ⟨by decide, by decide⟩, by decide +kernel, by decide⟩
set_option maxRecDepth 20000 in
theorem k_Wb_317_2 : kU "WindBrides" 317 2 ⟨"WindBrides$Girl", "shares", "(I)I"⟩ "WindBrides$Girl" M_Ca_shares 1 := ⟨kc_Ca_shares, rfl, ⟨by decide, by decide⟩, _, _, _, rfl, z_mem 1114 (by decide +kernel) rfl, z_mem 1117 (by decide +kernel) rfl, Or.inl ⟨z_mem 1115 (by decide +kernel) rfl, _, _, _, z_mem 1136 (by rfl) rfl⟩, z_mem 1119 (by decide +kernel) rfl, z_mem 1120 (by decide +kernel) rfl⟩
set_option maxRecDepth 20000 in
theorem k_Wb_317_5 : kU "WindBrides" 317 5 ⟨"WindBrides$Girl", "shares", "(I)I"⟩ "WindBrides$Girl" M_Gi_shares 1 := ⟨kc_Gi_shares, rfl, ⟨by decide, by decide⟩, _, _, _, rfl, z_mem 1114 (by decide +kernel) rfl, z_mem 1117 (by decide +kernel) rfl, Or.inl ⟨z_mem 1115 (by decide +kernel) rfl, _, _, _, z_mem 1136 (by rfl) rfl⟩, z_mem 1116 (by decide +kernel) rfl, z_mem 1115 (by decide +kernel) rfl⟩
set_option maxRecDepth 20000 in
theorem kc_La_shares : kC M_La_shares 1 := ⟨z_mem 1124 (by rfl) rfl, z_mem 118 (by decide +kernel) rfl, ⟨by decide, by decide⟩, by decide +kernel, by decide⟩
set_option maxRecDepth 20000 in
theorem k_Wb_317_6 : kU "WindBrides" 317 6 ⟨"WindBrides$Girl", "shares", "(I)I"⟩ "WindBrides$Girl" M_La_shares 1 := ⟨kc_La_shares, rfl, ⟨by decide, by decide⟩, _, _, _, rfl, z_mem 1114 (by decide +kernel) rfl, z_mem 1117 (by decide +kernel) rfl, Or.inl ⟨z_mem 1115 (by decide +kernel) rfl, _, _, _, z_mem 1136 (by rfl) rfl⟩, z_mem 1133 (by decide +kernel) rfl, z_mem 1123 (by decide +kernel) rfl⟩
set_option maxRecDepth 20000 in
theorem k_Wb_317_8 : kU "WindBrides" 317 8 ⟨"WindBrides$Girl", "shares", "(I)I"⟩ "WindBrides$Girl" M_Gi_shares 1 := ⟨kc_Gi_shares, rfl, ⟨by decide, by decide⟩, _, _, _, rfl, z_mem 1114 (by decide +kernel) rfl, z_mem 1117 (by decide +kernel) rfl, Or.inl ⟨z_mem 1115 (by decide +kernel) rfl, _, _, _, z_mem 1136 (by rfl) rfl⟩, z_mem 1134 (by decide +kernel) rfl, z_mem 1115 (by decide +kernel) rfl⟩
set_option maxRecDepth 20000 in
theorem k_Wb_317_10 : kU "WindBrides" 317 10 ⟨"WindBrides$Girl", "shares", "(I)I"⟩ "WindBrides$Girl" M_Gi_shares 1 := ⟨kc_Gi_shares, rfl, ⟨by decide, by decide⟩, _, _, _, rfl, z_mem 1114 (by decide +kernel) rfl, z_mem 1117 (by decide +kernel) rfl, Or.inl ⟨z_mem 1115 (by decide +kernel) rfl, _, _, _, z_mem 1136 (by rfl) rfl⟩, z_mem 1135 (by decide +kernel) rfl, z_mem 1115 (by decide +kernel) rfl⟩
set_option maxRecDepth 20000 in
theorem kc_Gi_weds : kC M_Gi_weds 1 := ⟨z_mem 1155 (by rfl) rfl, z_mem 114 (by decide +kernel) rfl, ⟨by decide, by decide⟩, by decide +kernel, by decide⟩
theorem k_Wb_320_1 : kU "WindBrides" 320 1 ⟨"WindBrides$Girl", "weds", "(I)I"⟩ "WindBrides$Girl" M_Gi_weds 1 := ⟨kc_Gi_weds, rfl, ⟨by decide, by decide⟩, _, _, _, rfl, z_mem 1137 (by decide +kernel) rfl, z_mem 1140 (by decide +kernel) rfl, Or.inr (z_memN 1150 (by decide +kernel) rfl), z_mem 1141 (by decide +kernel) rfl, z_mem 1138 (by decide +kernel) rfl⟩
theorem k_Wb_320_2 : kU "WindBrides" 320 2 ⟨"WindBrides$Girl", "weds", "(I)I"⟩ "WindBrides$Girl" M_Gi_weds 1 := ⟨kc_Gi_weds, rfl, ⟨by decide, by decide⟩, _, _, _, rfl, z_mem 1137 (by decide +kernel) rfl, z_mem 1140 (by decide +kernel) rfl, Or.inr (z_memN 1150 (by decide +kernel) rfl), z_mem 1142 (by decide +kernel) rfl, z_mem 1138 (by decide +kernel) rfl⟩
theorem k_Wb_320_5 : kU "WindBrides" 320 5 ⟨"WindBrides$Girl", "weds", "(I)I"⟩ "WindBrides$Girl" M_Gi_weds 1 := ⟨kc_Gi_weds, rfl, ⟨by decide, by decide⟩, _, _, _, rfl, z_mem 1137 (by decide +kernel) rfl, z_mem 1140 (by decide +kernel) rfl, Or.inr (z_memN 1150 (by decide +kernel) rfl), z_mem 1139 (by decide +kernel) rfl, z_mem 1138 (by decide +kernel) rfl⟩
theorem k_Wb_320_6 : kU "WindBrides" 320 6 ⟨"WindBrides$Girl", "weds", "(I)I"⟩ "WindBrides$Girl" M_Gi_weds 1 := ⟨kc_Gi_weds, rfl, ⟨by decide, by decide⟩, _, _, _, rfl, z_mem 1137 (by decide +kernel) rfl, z_mem 1140 (by decide +kernel) rfl, Or.inr (z_memN 1150 (by decide +kernel) rfl), z_mem 1143 (by decide +kernel) rfl, z_mem 1138 (by decide +kernel) rfl⟩
theorem k_Wb_320_8 : kU "WindBrides" 320 8 ⟨"WindBrides$Girl", "weds", "(I)I"⟩ "WindBrides$Girl" M_Gi_weds 1 := ⟨kc_Gi_weds, rfl, ⟨by decide, by decide⟩, _, _, _, rfl, z_mem 1137 (by decide +kernel) rfl, z_mem 1140 (by decide +kernel) rfl, Or.inr (z_memN 1150 (by decide +kernel) rfl), z_mem 1144 (by decide +kernel) rfl, z_mem 1138 (by decide +kernel) rfl⟩
set_option maxRecDepth 20000 in
theorem kc_Tw_weds : kC M_Tw_weds 1 := ⟨z_mem 1147 (by rfl) rfl, z_mem 117 (by decide +kernel) rfl, ⟨by decide, by decide⟩, by decide +kernel, by decide⟩
theorem k_Wb_320_10 : kU "WindBrides" 320 10 ⟨"WindBrides$Girl", "weds", "(I)I"⟩ "WindBrides$Girl" M_Tw_weds 1 := ⟨kc_Tw_weds, rfl, ⟨by decide, by decide⟩, _, _, _, rfl, z_mem 1137 (by decide +kernel) rfl, z_mem 1140 (by decide +kernel) rfl, Or.inr (z_memN 1150 (by decide +kernel) rfl), z_mem 1145 (by decide +kernel) rfl, z_mem 1146 (by decide +kernel) rfl⟩
theorem f_Wb_323_1 : zF "WindBrides" 323 1 4 .boolean false := ⟨R_Br, F_Br, 5, "WindBrides$Girl", t_Br, rfl, by decide, i_Br, z_mem 991 (by decide +kernel) rfl, Or.inl rfl, t_Br_ok, n_Br, rfl, by decide +kernel, by intro h; cases h⟩
theorem f_Wb_323_2 : zF "WindBrides" 323 2 4 .boolean false := ⟨R_Ca, F_Ca, 5, "WindBrides$Girl", t_Ca, rfl, by decide, i_Ca, z_mem 991 (by decide +kernel) rfl, Or.inl rfl, t_Ca_ok, n_Ca, rfl, by decide +kernel, by intro h; cases h⟩
theorem f_Wb_323_5 : zF "WindBrides" 323 5 4 .boolean false := ⟨R_Gi, F_Gi, 5, "WindBrides$Girl", t_Gi, rfl, by decide, i_Gi, z_mem 991 (by decide +kernel) rfl, Or.inl rfl, t_Gi_ok, n_Gi, rfl, by decide +kernel, by intro h; cases h⟩
theorem f_Wb_323_6 : zF "WindBrides" 323 6 4 .boolean false := ⟨R_La, F_La, 5, "WindBrides$Girl", t_La, rfl, by decide, i_La, z_mem 991 (by decide +kernel) rfl, Or.inl rfl, t_La_ok, n_La, rfl, by decide +kernel, by intro h; cases h⟩
theorem f_Wb_323_8 : zF "WindBrides" 323 8 4 .boolean false := ⟨R_Sh, F_Sh, 5, "WindBrides$Girl", t_Sh, rfl, by decide, i_Sh, z_mem 991 (by decide +kernel) rfl, Or.inl rfl, t_Sh_ok, n_Sh, rfl, by decide +kernel, by intro h; cases h⟩
theorem f_Wb_323_10 : zF "WindBrides" 323 10 4 .boolean false := ⟨R_Tw, F_Tw, 5, "WindBrides$Girl", t_Tw, rfl, by decide, i_Tw, z_mem 991 (by decide +kernel) rfl, Or.inl rfl, t_Tw_ok, n_Tw, rfl, by decide +kernel, by intro h; cases h⟩
theorem w_Wb_327 : zN "WindBrides" 327 8 5 [.int 0, .int 0, .null, .int 0, .int 0] := ⟨R_Sh, F_Sh, t_Sh, rfl, i_Sh, t_Sh_ok, z_mem 970 (by decide +kernel) rfl, z_mem 971 (by decide +kernel) rfl, z_mem 115 (by decide +kernel) rfl, by decide +kernel, by decide⟩
set_option maxRecDepth 20000 in
theorem kc_Sh_init : kC M_Sh_init 3 := ⟨z_mem 974 (by rfl) rfl, z_mem 115 (by decide +kernel) rfl, ⟨by decide, by decide⟩, by decide +kernel, by decide⟩
theorem k_Wb_329 : kI "WindBrides" 329 M_Sh_init 3 := ⟨kc_Sh_init, rfl, rfl, z_mem 973 (by decide +kernel) rfl, Or.inl (z_mem 972 (by decide +kernel) rfl)⟩
theorem w_Wb_332 : zN "WindBrides" 332 1 5 [.int 0, .int 0, .null, .int 0, .int 0] := ⟨R_Br, F_Br, t_Br, rfl, i_Br, t_Br_ok, z_mem 1003 (by decide +kernel) rfl, z_mem 1004 (by decide +kernel) rfl, z_mem 116 (by decide +kernel) rfl, by decide +kernel, by decide⟩
set_option maxRecDepth 20000 in
theorem kc_Br_init : kC M_Br_init 3 := ⟨z_mem 1007 (by rfl) rfl, z_mem 116 (by decide +kernel) rfl, ⟨by decide, by decide⟩, by decide +kernel, by decide⟩
theorem k_Wb_334 : kI "WindBrides" 334 M_Br_init 3 := ⟨kc_Br_init, rfl, rfl, z_mem 1006 (by decide +kernel) rfl, Or.inl (z_mem 1005 (by decide +kernel) rfl)⟩
theorem w_Wb_335 : zN "WindBrides" 335 10 5 [.int 0, .int 0, .null, .int 0, .int 0] := ⟨R_Tw, F_Tw, t_Tw, rfl, i_Tw, t_Tw_ok, z_mem 1015 (by decide +kernel) rfl, z_mem 1016 (by decide +kernel) rfl, z_mem 117 (by decide +kernel) rfl, by decide +kernel, by decide⟩
set_option maxRecDepth 20000 in
theorem kc_Tw_init : kC M_Tw_init 3 := ⟨z_mem 1019 (by rfl) rfl, z_mem 117 (by decide +kernel) rfl, ⟨by decide, by decide⟩, by decide +kernel, by decide⟩
theorem k_Wb_337 : kI "WindBrides" 337 M_Tw_init 3 := ⟨kc_Tw_init, rfl, rfl, z_mem 1018 (by decide +kernel) rfl, Or.inl (z_mem 1017 (by decide +kernel) rfl)⟩
theorem w_Wb_338 : zN "WindBrides" 338 6 5 [.int 0, .int 0, .null, .int 0, .int 0] := ⟨R_La, F_La, t_La, rfl, i_La, t_La_ok, z_mem 1027 (by decide +kernel) rfl, z_mem 1028 (by decide +kernel) rfl, z_mem 118 (by decide +kernel) rfl, by decide +kernel, by decide⟩
set_option maxRecDepth 20000 in
theorem kc_La_init : kC M_La_init 3 := ⟨z_mem 1031 (by rfl) rfl, z_mem 118 (by decide +kernel) rfl, ⟨by decide, by decide⟩, by decide +kernel, by decide⟩
theorem k_Wb_340 : kI "WindBrides" 340 M_La_init 3 := ⟨kc_La_init, rfl, rfl, z_mem 1030 (by decide +kernel) rfl, Or.inl (z_mem 1029 (by decide +kernel) rfl)⟩
theorem w_Wb_341 : zN "WindBrides" 341 2 5 [.int 0, .int 0, .null, .int 0, .int 0] := ⟨R_Ca, F_Ca, t_Ca, rfl, i_Ca, t_Ca_ok, z_mem 1039 (by decide +kernel) rfl, z_mem 1040 (by decide +kernel) rfl, z_mem 119 (by decide +kernel) rfl, by decide +kernel, by decide⟩
set_option maxRecDepth 20000 in
theorem kc_Ca_init : kC M_Ca_init 3 := ⟨z_mem 1043 (by rfl) rfl, z_mem 119 (by decide +kernel) rfl, ⟨by decide, by decide⟩, by decide +kernel, by decide⟩
theorem k_Wb_343 : kI "WindBrides" 343 M_Ca_init 3 := ⟨kc_Ca_init, rfl, rfl, z_mem 1042 (by decide +kernel) rfl, Or.inl (z_mem 1041 (by decide +kernel) rfl)⟩
theorem w_Wb_310 : zN "WindBrides" 310 5 5 [.int 0, .int 0, .null, .int 0, .int 0] := ⟨R_Gi, F_Gi, t_Gi, rfl, i_Gi, t_Gi_ok, z_mem 1051 (by decide +kernel) rfl, z_mem 1052 (by decide +kernel) rfl, z_mem 114 (by decide +kernel) rfl, by decide +kernel, by decide⟩
set_option maxRecDepth 20000 in
theorem kc_Gi_init : kC M_Gi_init 3 := ⟨z_mem 977 (by rfl) rfl, z_mem 114 (by decide +kernel) rfl, ⟨by decide, by decide⟩, by decide +kernel, by decide⟩
theorem k_Wb_344 : kI "WindBrides" 344 M_Gi_init 3 := ⟨kc_Gi_init, rfl, rfl, z_mem 976 (by decide +kernel) rfl, Or.inl (z_mem 1053 (by decide +kernel) rfl)⟩
theorem k_Sh_1 : kI "WindBrides$Shared" 1 M_Gi_init 3 := ⟨kc_Gi_init, rfl, rfl, z_mem 976 (by decide +kernel) rfl, Or.inl (z_mem 975 (by decide +kernel) rfl)⟩
theorem ko_Gi_1 : Cond.methodLink "WindBrides$Girl" 1 objectInit ∈ zT := z_mem 978 (by decide +kernel) rfl
theorem f_Gi_7_1 : zF "WindBrides$Girl" 7 1 0 .int true := ⟨R_Br, F_Br, 5, "WindBrides$Girl", t_Br, rfl, by decide, i_Br, z_mem 979 (by decide +kernel) rfl, Or.inl rfl, t_Br_ok, n_Br, rfl, by decide +kernel, fun _ => rfl⟩
theorem f_Gi_7_2 : zF "WindBrides$Girl" 7 2 0 .int true := ⟨R_Ca, F_Ca, 5, "WindBrides$Girl", t_Ca, rfl, by decide, i_Ca, z_mem 979 (by decide +kernel) rfl, Or.inl rfl, t_Ca_ok, n_Ca, rfl, by decide +kernel, fun _ => rfl⟩
theorem f_Gi_7_5 : zF "WindBrides$Girl" 7 5 0 .int true := ⟨R_Gi, F_Gi, 5, "WindBrides$Girl", t_Gi, rfl, by decide, i_Gi, z_mem 979 (by decide +kernel) rfl, Or.inl rfl, t_Gi_ok, n_Gi, rfl, by decide +kernel, fun _ => rfl⟩
theorem f_Gi_7_6 : zF "WindBrides$Girl" 7 6 0 .int true := ⟨R_La, F_La, 5, "WindBrides$Girl", t_La, rfl, by decide, i_La, z_mem 979 (by decide +kernel) rfl, Or.inl rfl, t_La_ok, n_La, rfl, by decide +kernel, fun _ => rfl⟩
theorem f_Gi_7_8 : zF "WindBrides$Girl" 7 8 0 .int true := ⟨R_Sh, F_Sh, 5, "WindBrides$Girl", t_Sh, rfl, by decide, i_Sh, z_mem 979 (by decide +kernel) rfl, Or.inl rfl, t_Sh_ok, n_Sh, rfl, by decide +kernel, fun _ => rfl⟩
theorem f_Gi_7_10 : zF "WindBrides$Girl" 7 10 0 .int true := ⟨R_Tw, F_Tw, 5, "WindBrides$Girl", t_Tw, rfl, by decide, i_Tw, z_mem 979 (by decide +kernel) rfl, Or.inl rfl, t_Tw_ok, n_Tw, rfl, by decide +kernel, fun _ => rfl⟩
theorem f_Gi_13_1 : zF "WindBrides$Girl" 13 1 1 .int true := ⟨R_Br, F_Br, 5, "WindBrides$Girl", t_Br, rfl, by decide, i_Br, z_mem 984 (by decide +kernel) rfl, Or.inl rfl, t_Br_ok, n_Br, rfl, by decide +kernel, fun _ => rfl⟩
theorem f_Gi_13_2 : zF "WindBrides$Girl" 13 2 1 .int true := ⟨R_Ca, F_Ca, 5, "WindBrides$Girl", t_Ca, rfl, by decide, i_Ca, z_mem 984 (by decide +kernel) rfl, Or.inl rfl, t_Ca_ok, n_Ca, rfl, by decide +kernel, fun _ => rfl⟩
theorem f_Gi_13_5 : zF "WindBrides$Girl" 13 5 1 .int true := ⟨R_Gi, F_Gi, 5, "WindBrides$Girl", t_Gi, rfl, by decide, i_Gi, z_mem 984 (by decide +kernel) rfl, Or.inl rfl, t_Gi_ok, n_Gi, rfl, by decide +kernel, fun _ => rfl⟩
theorem f_Gi_13_6 : zF "WindBrides$Girl" 13 6 1 .int true := ⟨R_La, F_La, 5, "WindBrides$Girl", t_La, rfl, by decide, i_La, z_mem 984 (by decide +kernel) rfl, Or.inl rfl, t_La_ok, n_La, rfl, by decide +kernel, fun _ => rfl⟩
theorem f_Gi_13_8 : zF "WindBrides$Girl" 13 8 1 .int true := ⟨R_Sh, F_Sh, 5, "WindBrides$Girl", t_Sh, rfl, by decide, i_Sh, z_mem 984 (by decide +kernel) rfl, Or.inl rfl, t_Sh_ok, n_Sh, rfl, by decide +kernel, fun _ => rfl⟩
theorem f_Gi_13_10 : zF "WindBrides$Girl" 13 10 1 .int true := ⟨R_Tw, F_Tw, 5, "WindBrides$Girl", t_Tw, rfl, by decide, i_Tw, z_mem 984 (by decide +kernel) rfl, Or.inl rfl, t_Tw_ok, n_Tw, rfl, by decide +kernel, fun _ => rfl⟩
theorem f_Gi_16_1 : zF "WindBrides$Girl" 16 1 2 (.array .int) true := ⟨R_Br, F_Br, 5, "WindBrides$Girl", t_Br, rfl, by decide, i_Br, z_mem 987 (by decide +kernel) rfl, Or.inl rfl, t_Br_ok, n_Br, rfl, by decide +kernel, fun _ => rfl⟩
theorem f_Gi_16_2 : zF "WindBrides$Girl" 16 2 2 (.array .int) true := ⟨R_Ca, F_Ca, 5, "WindBrides$Girl", t_Ca, rfl, by decide, i_Ca, z_mem 987 (by decide +kernel) rfl, Or.inl rfl, t_Ca_ok, n_Ca, rfl, by decide +kernel, fun _ => rfl⟩
theorem f_Gi_16_5 : zF "WindBrides$Girl" 16 5 2 (.array .int) true := ⟨R_Gi, F_Gi, 5, "WindBrides$Girl", t_Gi, rfl, by decide, i_Gi, z_mem 987 (by decide +kernel) rfl, Or.inl rfl, t_Gi_ok, n_Gi, rfl, by decide +kernel, fun _ => rfl⟩
theorem f_Gi_16_6 : zF "WindBrides$Girl" 16 6 2 (.array .int) true := ⟨R_La, F_La, 5, "WindBrides$Girl", t_La, rfl, by decide, i_La, z_mem 987 (by decide +kernel) rfl, Or.inl rfl, t_La_ok, n_La, rfl, by decide +kernel, fun _ => rfl⟩
theorem f_Gi_16_8 : zF "WindBrides$Girl" 16 8 2 (.array .int) true := ⟨R_Sh, F_Sh, 5, "WindBrides$Girl", t_Sh, rfl, by decide, i_Sh, z_mem 987 (by decide +kernel) rfl, Or.inl rfl, t_Sh_ok, n_Sh, rfl, by decide +kernel, fun _ => rfl⟩
theorem f_Gi_16_10 : zF "WindBrides$Girl" 16 10 2 (.array .int) true := ⟨R_Tw, F_Tw, 5, "WindBrides$Girl", t_Tw, rfl, by decide, i_Tw, z_mem 987 (by decide +kernel) rfl, Or.inl rfl, t_Tw_ok, n_Tw, rfl, by decide +kernel, fun _ => rfl⟩
theorem k_Br_1 : kI "WindBrides$Bred" 1 M_Gi_init 3 := ⟨kc_Gi_init, rfl, rfl, z_mem 976 (by decide +kernel) rfl, Or.inl (z_mem 1008 (by decide +kernel) rfl)⟩
theorem k_Tw_1 : kI "WindBrides$Twice" 1 M_Br_init 3 := ⟨kc_Br_init, rfl, rfl, z_mem 1006 (by decide +kernel) rfl, Or.inl (z_mem 1020 (by decide +kernel) rfl)⟩
theorem k_La_1 : kI "WindBrides$Late" 1 M_Gi_init 3 := ⟨kc_Gi_init, rfl, rfl, z_mem 976 (by decide +kernel) rfl, Or.inl (z_mem 1032 (by decide +kernel) rfl)⟩
theorem k_Ca_1 : kI "WindBrides$Calm" 1 M_La_init 3 := ⟨kc_La_init, rfl, rfl, z_mem 1030 (by decide +kernel) rfl, Or.inl (z_mem 1044 (by decide +kernel) rfl)⟩
set_option maxRecDepth 20000 in
theorem kc_Gi_begins : kC M_Gi_begins 1 := ⟨z_mem 1075 (by rfl) rfl, z_mem 114 (by decide +kernel) rfl, ⟨by decide, by decide⟩, by decide +kernel, by decide⟩
theorem k_Sh_7_8 : kU "WindBrides$Shared" 7 8 ⟨"WindBrides$Shared", "begins", "(I)V"⟩ "WindBrides$Girl" M_Gi_begins 1 := ⟨kc_Gi_begins, rfl, ⟨by decide, by decide⟩, _, _, _, rfl, z_mem 1070 (by decide +kernel) rfl, z_mem 1071 (by decide +kernel) rfl, Or.inr (z_memN 1072 (by decide +kernel) rfl), z_mem 1073 (by decide +kernel) rfl, z_mem 1074 (by decide +kernel) rfl⟩
theorem k_Sh_13 : kP "WindBrides$Shared" 13 M_Gi_sails 1 := ⟨kc_Gi_sails, z_mem 1076 (by decide +kernel) rfl, z_mem 1063 (by decide +kernel) rfl, z_mem 1002 (by decide +kernel) rfl, z_mem 1061 (by decide +kernel) rfl, by decide⟩
theorem f_Gi_20_1 : zF "WindBrides$Girl" 20 1 4 .boolean false := ⟨R_Br, F_Br, 5, "WindBrides$Girl", t_Br, rfl, by decide, i_Br, z_mem 990 (by decide +kernel) rfl, Or.inl rfl, t_Br_ok, n_Br, rfl, by decide +kernel, by intro h; cases h⟩
theorem f_Gi_20_2 : zF "WindBrides$Girl" 20 2 4 .boolean false := ⟨R_Ca, F_Ca, 5, "WindBrides$Girl", t_Ca, rfl, by decide, i_Ca, z_mem 990 (by decide +kernel) rfl, Or.inl rfl, t_Ca_ok, n_Ca, rfl, by decide +kernel, by intro h; cases h⟩
theorem f_Gi_20_5 : zF "WindBrides$Girl" 20 5 4 .boolean false := ⟨R_Gi, F_Gi, 5, "WindBrides$Girl", t_Gi, rfl, by decide, i_Gi, z_mem 990 (by decide +kernel) rfl, Or.inl rfl, t_Gi_ok, n_Gi, rfl, by decide +kernel, by intro h; cases h⟩
theorem f_Gi_20_6 : zF "WindBrides$Girl" 20 6 4 .boolean false := ⟨R_La, F_La, 5, "WindBrides$Girl", t_La, rfl, by decide, i_La, z_mem 990 (by decide +kernel) rfl, Or.inl rfl, t_La_ok, n_La, rfl, by decide +kernel, by intro h; cases h⟩
theorem f_Gi_20_8 : zF "WindBrides$Girl" 20 8 4 .boolean false := ⟨R_Sh, F_Sh, 5, "WindBrides$Girl", t_Sh, rfl, by decide, i_Sh, z_mem 990 (by decide +kernel) rfl, Or.inl rfl, t_Sh_ok, n_Sh, rfl, by decide +kernel, by intro h; cases h⟩
theorem f_Gi_20_10 : zF "WindBrides$Girl" 20 10 4 .boolean false := ⟨R_Tw, F_Tw, 5, "WindBrides$Girl", t_Tw, rfl, by decide, i_Tw, z_mem 990 (by decide +kernel) rfl, Or.inl rfl, t_Tw_ok, n_Tw, rfl, by decide +kernel, by intro h; cases h⟩
theorem f_Gi_24_1 : zF "WindBrides$Girl" 24 1 3 .int false := ⟨R_Br, F_Br, 5, "WindBrides$Girl", t_Br, rfl, by decide, i_Br, z_mem 988 (by decide +kernel) rfl, Or.inl rfl, t_Br_ok, n_Br, rfl, by decide +kernel, by intro h; cases h⟩
theorem f_Gi_24_2 : zF "WindBrides$Girl" 24 2 3 .int false := ⟨R_Ca, F_Ca, 5, "WindBrides$Girl", t_Ca, rfl, by decide, i_Ca, z_mem 988 (by decide +kernel) rfl, Or.inl rfl, t_Ca_ok, n_Ca, rfl, by decide +kernel, by intro h; cases h⟩
theorem f_Gi_24_5 : zF "WindBrides$Girl" 24 5 3 .int false := ⟨R_Gi, F_Gi, 5, "WindBrides$Girl", t_Gi, rfl, by decide, i_Gi, z_mem 988 (by decide +kernel) rfl, Or.inl rfl, t_Gi_ok, n_Gi, rfl, by decide +kernel, by intro h; cases h⟩
theorem f_Gi_24_6 : zF "WindBrides$Girl" 24 6 3 .int false := ⟨R_La, F_La, 5, "WindBrides$Girl", t_La, rfl, by decide, i_La, z_mem 988 (by decide +kernel) rfl, Or.inl rfl, t_La_ok, n_La, rfl, by decide +kernel, by intro h; cases h⟩
theorem f_Gi_24_8 : zF "WindBrides$Girl" 24 8 3 .int false := ⟨R_Sh, F_Sh, 5, "WindBrides$Girl", t_Sh, rfl, by decide, i_Sh, z_mem 988 (by decide +kernel) rfl, Or.inl rfl, t_Sh_ok, n_Sh, rfl, by decide +kernel, by intro h; cases h⟩
theorem f_Gi_24_10 : zF "WindBrides$Girl" 24 10 3 .int false := ⟨R_Tw, F_Tw, 5, "WindBrides$Girl", t_Tw, rfl, by decide, i_Tw, z_mem 988 (by decide +kernel) rfl, Or.inl rfl, t_Tw_ok, n_Tw, rfl, by decide +kernel, by intro h; cases h⟩
theorem k_Tw_7_10 : kU "WindBrides$Twice" 7 10 ⟨"WindBrides$Twice", "begins", "(I)V"⟩ "WindBrides$Girl" M_Gi_begins 1 := ⟨kc_Gi_begins, rfl, ⟨by decide, by decide⟩, _, _, _, rfl, z_mem 1080 (by decide +kernel) rfl, z_mem 1081 (by decide +kernel) rfl, Or.inr (z_memN 1072 (by decide +kernel) rfl), z_mem 1082 (by decide +kernel) rfl, z_mem 1074 (by decide +kernel) rfl⟩
theorem k_Gi_27_1 : kU "WindBrides$Girl" 27 1 ⟨"WindBrides$Girl", "begins", "(I)V"⟩ "WindBrides$Girl" M_Gi_begins 1 := ⟨kc_Gi_begins, rfl, ⟨by decide, by decide⟩, _, _, _, rfl, z_mem 1087 (by decide +kernel) rfl, z_mem 1809 (by decide +kernel) rfl, Or.inr (z_memN 1072 (by decide +kernel) rfl), z_mem 1810 (by decide +kernel) rfl, z_mem 1074 (by decide +kernel) rfl⟩
theorem k_Gi_27_2 : kU "WindBrides$Girl" 27 2 ⟨"WindBrides$Girl", "begins", "(I)V"⟩ "WindBrides$Girl" M_Gi_begins 1 := ⟨kc_Gi_begins, rfl, ⟨by decide, by decide⟩, _, _, _, rfl, z_mem 1087 (by decide +kernel) rfl, z_mem 1809 (by decide +kernel) rfl, Or.inr (z_memN 1072 (by decide +kernel) rfl), z_mem 1811 (by decide +kernel) rfl, z_mem 1074 (by decide +kernel) rfl⟩
theorem k_Gi_27_5 : kU "WindBrides$Girl" 27 5 ⟨"WindBrides$Girl", "begins", "(I)V"⟩ "WindBrides$Girl" M_Gi_begins 1 := ⟨kc_Gi_begins, rfl, ⟨by decide, by decide⟩, _, _, _, rfl, z_mem 1087 (by decide +kernel) rfl, z_mem 1809 (by decide +kernel) rfl, Or.inr (z_memN 1072 (by decide +kernel) rfl), z_mem 1812 (by decide +kernel) rfl, z_mem 1074 (by decide +kernel) rfl⟩
theorem k_Gi_27_6 : kU "WindBrides$Girl" 27 6 ⟨"WindBrides$Girl", "begins", "(I)V"⟩ "WindBrides$Girl" M_Gi_begins 1 := ⟨kc_Gi_begins, rfl, ⟨by decide, by decide⟩, _, _, _, rfl, z_mem 1087 (by decide +kernel) rfl, z_mem 1809 (by decide +kernel) rfl, Or.inr (z_memN 1072 (by decide +kernel) rfl), z_mem 1813 (by decide +kernel) rfl, z_mem 1074 (by decide +kernel) rfl⟩
theorem k_Gi_27_8 : kU "WindBrides$Girl" 27 8 ⟨"WindBrides$Girl", "begins", "(I)V"⟩ "WindBrides$Girl" M_Gi_begins 1 := ⟨kc_Gi_begins, rfl, ⟨by decide, by decide⟩, _, _, _, rfl, z_mem 1087 (by decide +kernel) rfl, z_mem 1809 (by decide +kernel) rfl, Or.inr (z_memN 1072 (by decide +kernel) rfl), z_mem 1814 (by decide +kernel) rfl, z_mem 1074 (by decide +kernel) rfl⟩
theorem k_Gi_27_10 : kU "WindBrides$Girl" 27 10 ⟨"WindBrides$Girl", "begins", "(I)V"⟩ "WindBrides$Girl" M_Gi_begins 1 := ⟨kc_Gi_begins, rfl, ⟨by decide, by decide⟩, _, _, _, rfl, z_mem 1087 (by decide +kernel) rfl, z_mem 1809 (by decide +kernel) rfl, Or.inr (z_memN 1072 (by decide +kernel) rfl), z_mem 1815 (by decide +kernel) rfl, z_mem 1074 (by decide +kernel) rfl⟩
theorem k_Br_7_1 : kU "WindBrides$Bred" 7 1 ⟨"WindBrides$Bred", "begins", "(I)V"⟩ "WindBrides$Girl" M_Gi_begins 1 := ⟨kc_Gi_begins, rfl, ⟨by decide, by decide⟩, _, _, _, rfl, z_mem 1095 (by decide +kernel) rfl, z_mem 1096 (by decide +kernel) rfl, Or.inr (z_memN 1072 (by decide +kernel) rfl), z_mem 1097 (by decide +kernel) rfl, z_mem 1074 (by decide +kernel) rfl⟩
theorem k_Br_7_10 : kU "WindBrides$Bred" 7 10 ⟨"WindBrides$Bred", "begins", "(I)V"⟩ "WindBrides$Girl" M_Gi_begins 1 := ⟨kc_Gi_begins, rfl, ⟨by decide, by decide⟩, _, _, _, rfl, z_mem 1095 (by decide +kernel) rfl, z_mem 1096 (by decide +kernel) rfl, Or.inr (z_memN 1072 (by decide +kernel) rfl), z_mem 1098 (by decide +kernel) rfl, z_mem 1074 (by decide +kernel) rfl⟩
theorem k_Br_13 : kP "WindBrides$Bred" 13 M_Gi_calls 1 := ⟨kc_Gi_calls, z_mem 1099 (by decide +kernel) rfl, z_mem 1091 (by decide +kernel) rfl, z_mem 1014 (by decide +kernel) rfl, z_mem 1089 (by decide +kernel) rfl, by decide⟩
theorem f_Br_17_1 : zFr "WindBrides$Bred" 17 1 0 := ⟨R_Br, F_Br, 5, "WindBrides$Bred", rfl, by decide, i_Br, z_mem 980 (by decide +kernel) rfl, Or.inr (z_mem 981 (by decide +kernel) rfl)⟩
theorem f_Br_17_10 : zFr "WindBrides$Bred" 17 10 0 := ⟨R_Tw, F_Tw, 5, "WindBrides$Bred", rfl, by decide, i_Tw, z_mem 980 (by decide +kernel) rfl, Or.inr (z_mem 981 (by decide +kernel) rfl)⟩
theorem k_Ca_7_2 : kU "WindBrides$Calm" 7 2 ⟨"WindBrides$Calm", "begins", "(I)V"⟩ "WindBrides$Girl" M_Gi_begins 1 := ⟨kc_Gi_begins, rfl, ⟨by decide, by decide⟩, _, _, _, rfl, z_mem 1103 (by decide +kernel) rfl, z_mem 1104 (by decide +kernel) rfl, Or.inr (z_memN 1072 (by decide +kernel) rfl), z_mem 1105 (by decide +kernel) rfl, z_mem 1074 (by decide +kernel) rfl⟩
theorem k_Gi_31_1 : kU "WindBrides$Girl" 31 1 ⟨"WindBrides$Girl", "sails", "(I)I"⟩ "WindBrides$Girl" M_Gi_sails 1 := ⟨kc_Gi_sails, rfl, ⟨by decide, by decide⟩, _, _, _, rfl, z_mem 1113 (by decide +kernel) rfl, z_mem 1063 (by decide +kernel) rfl, Or.inr (z_memN 1085 (by decide +kernel) rfl), z_mem 1064 (by decide +kernel) rfl, z_mem 1061 (by decide +kernel) rfl⟩
theorem k_Gi_31_2 : kU "WindBrides$Girl" 31 2 ⟨"WindBrides$Girl", "sails", "(I)I"⟩ "WindBrides$Girl" M_Gi_sails 1 := ⟨kc_Gi_sails, rfl, ⟨by decide, by decide⟩, _, _, _, rfl, z_mem 1113 (by decide +kernel) rfl, z_mem 1063 (by decide +kernel) rfl, Or.inr (z_memN 1085 (by decide +kernel) rfl), z_mem 1065 (by decide +kernel) rfl, z_mem 1061 (by decide +kernel) rfl⟩
theorem k_Gi_31_5 : kU "WindBrides$Girl" 31 5 ⟨"WindBrides$Girl", "sails", "(I)I"⟩ "WindBrides$Girl" M_Gi_sails 1 := ⟨kc_Gi_sails, rfl, ⟨by decide, by decide⟩, _, _, _, rfl, z_mem 1113 (by decide +kernel) rfl, z_mem 1063 (by decide +kernel) rfl, Or.inr (z_memN 1085 (by decide +kernel) rfl), z_mem 1062 (by decide +kernel) rfl, z_mem 1061 (by decide +kernel) rfl⟩
theorem k_Gi_31_6 : kU "WindBrides$Girl" 31 6 ⟨"WindBrides$Girl", "sails", "(I)I"⟩ "WindBrides$Girl" M_Gi_sails 1 := ⟨kc_Gi_sails, rfl, ⟨by decide, by decide⟩, _, _, _, rfl, z_mem 1113 (by decide +kernel) rfl, z_mem 1063 (by decide +kernel) rfl, Or.inr (z_memN 1085 (by decide +kernel) rfl), z_mem 1066 (by decide +kernel) rfl, z_mem 1061 (by decide +kernel) rfl⟩
theorem k_Gi_31_8 : kU "WindBrides$Girl" 31 8 ⟨"WindBrides$Girl", "sails", "(I)I"⟩ "WindBrides$Girl" M_Sh_sails 1 := ⟨kc_Sh_sails, rfl, ⟨by decide, by decide⟩, _, _, _, rfl, z_mem 1113 (by decide +kernel) rfl, z_mem 1063 (by decide +kernel) rfl, Or.inr (z_memN 1085 (by decide +kernel) rfl), z_mem 1067 (by decide +kernel) rfl, z_mem 1068 (by decide +kernel) rfl⟩
theorem k_Gi_31_10 : kU "WindBrides$Girl" 31 10 ⟨"WindBrides$Girl", "sails", "(I)I"⟩ "WindBrides$Girl" M_Tw_sails 1 := ⟨kc_Tw_sails, rfl, ⟨by decide, by decide⟩, _, _, _, rfl, z_mem 1113 (by decide +kernel) rfl, z_mem 1063 (by decide +kernel) rfl, Or.inr (z_memN 1085 (by decide +kernel) rfl), z_mem 1077 (by decide +kernel) rfl, z_mem 1078 (by decide +kernel) rfl⟩
theorem k_Ca_17 : kP "WindBrides$Calm" 17 M_La_shares 1 := ⟨kc_La_shares, z_mem 1122 (by decide +kernel) rfl, z_mem 1816 (by decide +kernel) rfl, z_mem 1050 (by decide +kernel) rfl, z_mem 1123 (by decide +kernel) rfl, by decide⟩
theorem f_Ca_20_2 : zFr "WindBrides$Calm" 20 2 0 := ⟨R_Ca, F_Ca, 5, "WindBrides$Calm", rfl, by decide, i_Ca, z_mem 982 (by decide +kernel) rfl, Or.inr (z_mem 983 (by decide +kernel) rfl)⟩
theorem k_Ca_24_2 : kU "WindBrides$Calm" 24 2 ⟨"WindBrides$Calm", "sails", "(I)I"⟩ "WindBrides$Girl" M_Gi_sails 1 := ⟨kc_Gi_sails, rfl, ⟨by decide, by decide⟩, _, _, _, rfl, z_mem 1130 (by decide +kernel) rfl, z_mem 1131 (by decide +kernel) rfl, Or.inr (z_memN 1085 (by decide +kernel) rfl), z_mem 1132 (by decide +kernel) rfl, z_mem 1061 (by decide +kernel) rfl⟩
theorem k_La_7_2 : kU "WindBrides$Late" 7 2 ⟨"WindBrides$Late", "begins", "(I)V"⟩ "WindBrides$Girl" M_Gi_begins 1 := ⟨kc_Gi_begins, rfl, ⟨by decide, by decide⟩, _, _, _, rfl, z_mem 1125 (by decide +kernel) rfl, z_mem 1126 (by decide +kernel) rfl, Or.inr (z_memN 1072 (by decide +kernel) rfl), z_mem 1127 (by decide +kernel) rfl, z_mem 1074 (by decide +kernel) rfl⟩
theorem k_La_7_6 : kU "WindBrides$Late" 7 6 ⟨"WindBrides$Late", "begins", "(I)V"⟩ "WindBrides$Girl" M_Gi_begins 1 := ⟨kc_Gi_begins, rfl, ⟨by decide, by decide⟩, _, _, _, rfl, z_mem 1125 (by decide +kernel) rfl, z_mem 1126 (by decide +kernel) rfl, Or.inr (z_memN 1072 (by decide +kernel) rfl), z_mem 1128 (by decide +kernel) rfl, z_mem 1074 (by decide +kernel) rfl⟩
theorem k_La_13 : kP "WindBrides$Late" 13 M_Gi_shares 1 := ⟨kc_Gi_shares, z_mem 1129 (by decide +kernel) rfl, z_mem 1117 (by decide +kernel) rfl, z_mem 1038 (by decide +kernel) rfl, z_mem 1115 (by decide +kernel) rfl, by decide⟩
theorem f_Tw_20_10 : zFr "WindBrides$Twice" 20 10 1 := ⟨R_Tw, F_Tw, 5, "WindBrides$Twice", rfl, by decide, i_Tw, z_mem 985 (by decide +kernel) rfl, Or.inr (z_mem 986 (by decide +kernel) rfl)⟩
theorem k_Tw_24_10 : kU "WindBrides$Twice" 24 10 ⟨"WindBrides$Twice", "calls", "(I)I"⟩ "WindBrides$Bred" M_Br_calls 1 := ⟨kc_Br_calls, rfl, ⟨by decide, by decide⟩, _, _, _, rfl, z_mem 1151 (by decide +kernel) rfl, z_mem 1152 (by decide +kernel) rfl, Or.inr (z_memN 1153 (by decide +kernel) rfl), z_mem 1154 (by decide +kernel) rfl, z_mem 1093 (by decide +kernel) rfl⟩
theorem k_Gi_35_1 : kU "WindBrides$Girl" 35 1 ⟨"WindBrides$Girl", "calls", "(I)I"⟩ "WindBrides$Girl" M_Br_calls 1 := ⟨kc_Br_calls, rfl, ⟨by decide, by decide⟩, _, _, _, rfl, z_mem 1156 (by decide +kernel) rfl, z_mem 1091 (by decide +kernel) rfl, Or.inr (z_memN 1108 (by decide +kernel) rfl), z_mem 1092 (by decide +kernel) rfl, z_mem 1093 (by decide +kernel) rfl⟩
theorem k_Gi_35_2 : kU "WindBrides$Girl" 35 2 ⟨"WindBrides$Girl", "calls", "(I)I"⟩ "WindBrides$Girl" M_Ca_calls 1 := ⟨kc_Ca_calls, rfl, ⟨by decide, by decide⟩, _, _, _, rfl, z_mem 1156 (by decide +kernel) rfl, z_mem 1091 (by decide +kernel) rfl, Or.inr (z_memN 1108 (by decide +kernel) rfl), z_mem 1100 (by decide +kernel) rfl, z_mem 1101 (by decide +kernel) rfl⟩
theorem k_Gi_35_5 : kU "WindBrides$Girl" 35 5 ⟨"WindBrides$Girl", "calls", "(I)I"⟩ "WindBrides$Girl" M_Gi_calls 1 := ⟨kc_Gi_calls, rfl, ⟨by decide, by decide⟩, _, _, _, rfl, z_mem 1156 (by decide +kernel) rfl, z_mem 1091 (by decide +kernel) rfl, Or.inr (z_memN 1108 (by decide +kernel) rfl), z_mem 1090 (by decide +kernel) rfl, z_mem 1089 (by decide +kernel) rfl⟩
theorem k_Gi_35_6 : kU "WindBrides$Girl" 35 6 ⟨"WindBrides$Girl", "calls", "(I)I"⟩ "WindBrides$Girl" M_Gi_calls 1 := ⟨kc_Gi_calls, rfl, ⟨by decide, by decide⟩, _, _, _, rfl, z_mem 1156 (by decide +kernel) rfl, z_mem 1091 (by decide +kernel) rfl, Or.inr (z_memN 1108 (by decide +kernel) rfl), z_mem 1109 (by decide +kernel) rfl, z_mem 1089 (by decide +kernel) rfl⟩
theorem k_Gi_35_8 : kU "WindBrides$Girl" 35 8 ⟨"WindBrides$Girl", "calls", "(I)I"⟩ "WindBrides$Girl" M_Gi_calls 1 := ⟨kc_Gi_calls, rfl, ⟨by decide, by decide⟩, _, _, _, rfl, z_mem 1156 (by decide +kernel) rfl, z_mem 1091 (by decide +kernel) rfl, Or.inr (z_memN 1108 (by decide +kernel) rfl), z_mem 1110 (by decide +kernel) rfl, z_mem 1089 (by decide +kernel) rfl⟩
end
section
theorem k_Gi_35_10 : kU "WindBrides$Girl" 35 10 ⟨"WindBrides$Girl", "calls", "(I)I"⟩ "WindBrides$Girl" M_Br_calls 1 := ⟨kc_Br_calls, rfl, ⟨by decide, by decide⟩, _, _, _, rfl, z_mem 1156 (by decide +kernel) rfl, z_mem 1091 (by decide +kernel) rfl, Or.inr (z_memN 1108 (by decide +kernel) rfl), z_mem 1111 (by decide +kernel) rfl, z_mem 1093 (by decide +kernel) rfl⟩
set_option maxRecDepth 20000 in
theorem k_Gi_38_1 : kU "WindBrides$Girl" 38 1 ⟨"WindBrides$Girl", "shares", "(I)I"⟩ "WindBrides$Girl" M_Gi_shares 1 := ⟨kc_Gi_shares, rfl, ⟨by decide, by decide⟩, _, _, _, rfl, z_mem 1157 (by decide +kernel) rfl, z_mem 1117 (by decide +kernel) rfl, Or.inl ⟨z_mem 1115 (by decide +kernel) rfl, _, _, _, z_mem 1136 (by rfl) rfl⟩, z_mem 1118 (by decide +kernel) rfl, z_mem 1115 (by decide +kernel) rfl⟩
set_option maxRecDepth 20000 in
theorem k_Gi_38_2 : kU "WindBrides$Girl" 38 2 ⟨"WindBrides$Girl", "shares", "(I)I"⟩ "WindBrides$Girl" M_Ca_shares 1 := ⟨kc_Ca_shares, rfl, ⟨by decide, by decide⟩, _, _, _, rfl, z_mem 1157 (by decide +kernel) rfl, z_mem 1117 (by decide +kernel) rfl, Or.inl ⟨z_mem 1115 (by decide +kernel) rfl, _, _, _, z_mem 1136 (by rfl) rfl⟩, z_mem 1119 (by decide +kernel) rfl, z_mem 1120 (by decide +kernel) rfl⟩
set_option maxRecDepth 20000 in
theorem k_Gi_38_5 : kU "WindBrides$Girl" 38 5 ⟨"WindBrides$Girl", "shares", "(I)I"⟩ "WindBrides$Girl" M_Gi_shares 1 := ⟨kc_Gi_shares, rfl, ⟨by decide, by decide⟩, _, _, _, rfl, z_mem 1157 (by decide +kernel) rfl, z_mem 1117 (by decide +kernel) rfl, Or.inl ⟨z_mem 1115 (by decide +kernel) rfl, _, _, _, z_mem 1136 (by rfl) rfl⟩, z_mem 1116 (by decide +kernel) rfl, z_mem 1115 (by decide +kernel) rfl⟩
set_option maxRecDepth 20000 in
theorem k_Gi_38_6 : kU "WindBrides$Girl" 38 6 ⟨"WindBrides$Girl", "shares", "(I)I"⟩ "WindBrides$Girl" M_La_shares 1 := ⟨kc_La_shares, rfl, ⟨by decide, by decide⟩, _, _, _, rfl, z_mem 1157 (by decide +kernel) rfl, z_mem 1117 (by decide +kernel) rfl, Or.inl ⟨z_mem 1115 (by decide +kernel) rfl, _, _, _, z_mem 1136 (by rfl) rfl⟩, z_mem 1133 (by decide +kernel) rfl, z_mem 1123 (by decide +kernel) rfl⟩
set_option maxRecDepth 20000 in
theorem k_Gi_38_8 : kU "WindBrides$Girl" 38 8 ⟨"WindBrides$Girl", "shares", "(I)I"⟩ "WindBrides$Girl" M_Gi_shares 1 := ⟨kc_Gi_shares, rfl, ⟨by decide, by decide⟩, _, _, _, rfl, z_mem 1157 (by decide +kernel) rfl, z_mem 1117 (by decide +kernel) rfl, Or.inl ⟨z_mem 1115 (by decide +kernel) rfl, _, _, _, z_mem 1136 (by rfl) rfl⟩, z_mem 1134 (by decide +kernel) rfl, z_mem 1115 (by decide +kernel) rfl⟩
set_option maxRecDepth 20000 in
theorem k_Gi_38_10 : kU "WindBrides$Girl" 38 10 ⟨"WindBrides$Girl", "shares", "(I)I"⟩ "WindBrides$Girl" M_Gi_shares 1 := ⟨kc_Gi_shares, rfl, ⟨by decide, by decide⟩, _, _, _, rfl, z_mem 1157 (by decide +kernel) rfl, z_mem 1117 (by decide +kernel) rfl, Or.inl ⟨z_mem 1115 (by decide +kernel) rfl, _, _, _, z_mem 1136 (by rfl) rfl⟩, z_mem 1135 (by decide +kernel) rfl, z_mem 1115 (by decide +kernel) rfl⟩
theorem f_Wb_345_1 : zF "WindBrides" 345 1 3 .int false := ⟨R_Br, F_Br, 5, "WindBrides$Girl", t_Br, rfl, by decide, i_Br, z_mem 989 (by decide +kernel) rfl, Or.inl rfl, t_Br_ok, n_Br, rfl, by decide +kernel, by intro h; cases h⟩
theorem f_Wb_345_2 : zF "WindBrides" 345 2 3 .int false := ⟨R_Ca, F_Ca, 5, "WindBrides$Girl", t_Ca, rfl, by decide, i_Ca, z_mem 989 (by decide +kernel) rfl, Or.inl rfl, t_Ca_ok, n_Ca, rfl, by decide +kernel, by intro h; cases h⟩
theorem f_Wb_345_5 : zF "WindBrides" 345 5 3 .int false := ⟨R_Gi, F_Gi, 5, "WindBrides$Girl", t_Gi, rfl, by decide, i_Gi, z_mem 989 (by decide +kernel) rfl, Or.inl rfl, t_Gi_ok, n_Gi, rfl, by decide +kernel, by intro h; cases h⟩
theorem f_Wb_345_6 : zF "WindBrides" 345 6 3 .int false := ⟨R_La, F_La, 5, "WindBrides$Girl", t_La, rfl, by decide, i_La, z_mem 989 (by decide +kernel) rfl, Or.inl rfl, t_La_ok, n_La, rfl, by decide +kernel, by intro h; cases h⟩
theorem f_Wb_345_8 : zF "WindBrides" 345 8 3 .int false := ⟨R_Sh, F_Sh, 5, "WindBrides$Girl", t_Sh, rfl, by decide, i_Sh, z_mem 989 (by decide +kernel) rfl, Or.inl rfl, t_Sh_ok, n_Sh, rfl, by decide +kernel, by intro h; cases h⟩
theorem f_Wb_345_10 : zF "WindBrides" 345 10 3 .int false := ⟨R_Tw, F_Tw, 5, "WindBrides$Girl", t_Tw, rfl, by decide, i_Tw, z_mem 989 (by decide +kernel) rfl, Or.inl rfl, t_Tw_ok, n_Tw, rfl, by decide +kernel, by intro h; cases h⟩
theorem f_Wb_348_0 : zF "WindBrides" 348 0 0 .int false := ⟨R_Bk, F_Bk, 6, "WindBrides$Book", t_Bk, rfl, by decide, i_Bk, z_mem 172 (by decide +kernel) rfl, Or.inl rfl, t_Bk_ok, n_Bk, rfl, by decide +kernel, by intro h; cases h⟩
theorem f_Wb_351_7 : zF "WindBrides" 351 7 7 .int false := ⟨R_Pl, F_Pl, 13, "WindBrides$Plans", t_Pl, rfl, by decide, i_Pl, z_mem 318 (by decide +kernel) rfl, Or.inl rfl, t_Pl_ok, n_Pl, rfl, by decide +kernel, by intro h; cases h⟩
theorem f_Wb_354_9 : zF "WindBrides" 354 9 0 .int false := ⟨R_Ta, F_Ta, 5, "WindBrides$Tape", t_Ta, rfl, by decide, i_Ta, z_mem 276 (by decide +kernel) rfl, Or.inl rfl, t_Ta_ok, n_Ta, rfl, by decide +kernel, by intro h; cases h⟩
theorem k_Wb_357 : kV "WindBrides" 357 4 M_Cr_promisedSet 1 := ⟨kc_Cr_promisedSet, _, _, _, rfl, z_mem 784 (by decide +kernel) rfl, z_mem 785 (by decide +kernel) rfl, z_mem 1166 (by decide +kernel) rfl⟩
set_option maxRecDepth 20000 in
theorem kc_Ji_bitCount : kC M_Ji_bitCount 1 := ⟨z_mem 1169 (by rfl) rfl, z_mem 113 (by decide +kernel) rfl, ⟨by decide, by decide⟩, by decide +kernel, by decide⟩
theorem k_Wb_360 : kS "WindBrides" 360 M_Ji_bitCount 1 := ⟨kc_Ji_bitCount, z_mem 1168 (by decide +kernel) rfl, Or.inl (z_mem 1167 (by decide +kernel) rfl)⟩
theorem l_Ji_265 : Cond.constant "java/lang/Integer" 265 1431655765 ∈ zT := z_mem 1170 (by decide +kernel) rfl
theorem l_Ji_266 : Cond.constant "java/lang/Integer" 266 858993459 ∈ zT := z_mem 1171 (by decide +kernel) rfl
theorem l_Ji_267 : Cond.constant "java/lang/Integer" 267 252645135 ∈ zT := z_mem 1172 (by decide +kernel) rfl
set_option maxRecDepth 20000 in
theorem kc_Co_copyFrom : kC M_Co_copyFrom 1 := ⟨z_mem 1180 (by rfl) rfl, z_mem 102 (by decide +kernel) rfl, ⟨by decide, by decide⟩, by decide +kernel, by decide⟩
theorem k_Wb_363 : kV "WindBrides" 363 3 M_Co_copyFrom 1 := ⟨kc_Co_copyFrom, _, _, _, rfl, z_mem 1178 (by decide +kernel) rfl, z_mem 1179 (by decide +kernel) rfl, z_mem 1177 (by decide +kernel) rfl⟩
theorem f_Wb_366_11 : zF "WindBrides" 366 11 2 .boolean false := ⟨R_Wb, F_Wb, 15, "WindBrides", t_Wb, rfl, by decide, i_Wb, z_mem 354 (by decide +kernel) rfl, Or.inl rfl, t_Wb_ok, n_Wb, rfl, by decide +kernel, by intro h; cases h⟩
theorem ky_Co_63 : Cond.methodLink "WindBrides$Coast" 63 arraycopyName ∈ zT := z_mem 1181 (by decide +kernel) rfl
theorem f_Co_72_3 : zF "WindBrides$Coast" 72 3 10 .int false := ⟨R_Co, F_Co, 17, "WindBrides$Coast", t_Co, rfl, by decide, i_Co, z_mem 218 (by decide +kernel) rfl, Or.inl rfl, t_Co_ok, n_Co, rfl, by decide +kernel, by intro h; cases h⟩
theorem k_Co_75 : kV "WindBrides$Coast" 75 4 M_Cr_copyFrom 1 := ⟨kc_Cr_copyFrom, _, _, _, rfl, z_mem 681 (by decide +kernel) rfl, z_mem 682 (by decide +kernel) rfl, z_mem 1182 (by decide +kernel) rfl⟩
theorem k_Co_79 : kV "WindBrides$Coast" 79 0 M_Bk_copyFrom 1 := ⟨kc_Bk_copyFrom, _, _, _, rfl, z_mem 637 (by decide +kernel) rfl, z_mem 638 (by decide +kernel) rfl, z_mem 1183 (by decide +kernel) rfl⟩
theorem ko_Mo_1 : Cond.methodLink "WindBridesModel" 1 objectInit ∈ zT := z_mem 1193 (by decide +kernel) rfl
theorem f_Mo_9_12 : zF "WindBridesModel" 9 12 0 (.array .int) true := ⟨R_Mo, F_Mo, 34, "WindBridesModel", t_Mo, rfl, by decide, i_Mo, z_mem 1194 (by decide +kernel) rfl, Or.inl rfl, t_Mo_ok, n_Mo, rfl, by decide +kernel, fun _ => rfl⟩
theorem f_Mo_13_12 : zF "WindBridesModel" 13 12 1 (.array .int) true := ⟨R_Mo, F_Mo, 34, "WindBridesModel", t_Mo, rfl, by decide, i_Mo, z_mem 1195 (by decide +kernel) rfl, Or.inl rfl, t_Mo_ok, n_Mo, rfl, by decide +kernel, fun _ => rfl⟩
theorem f_Mo_16_12 : zF "WindBridesModel" 16 12 2 (.array .int) true := ⟨R_Mo, F_Mo, 34, "WindBridesModel", t_Mo, rfl, by decide, i_Mo, z_mem 1196 (by decide +kernel) rfl, Or.inl rfl, t_Mo_ok, n_Mo, rfl, by decide +kernel, fun _ => rfl⟩
theorem f_Mo_19_12 : zF "WindBridesModel" 19 12 4 (.array .int) true := ⟨R_Mo, F_Mo, 34, "WindBridesModel", t_Mo, rfl, by decide, i_Mo, z_mem 1198 (by decide +kernel) rfl, Or.inl rfl, t_Mo_ok, n_Mo, rfl, by decide +kernel, fun _ => rfl⟩
theorem f_Mo_22_12 : zF "WindBridesModel" 22 12 13 (.array .boolean) true := ⟨R_Mo, F_Mo, 34, "WindBridesModel", t_Mo, rfl, by decide, i_Mo, z_mem 1207 (by decide +kernel) rfl, Or.inl rfl, t_Mo_ok, n_Mo, rfl, by decide +kernel, fun _ => rfl⟩
theorem f_Mo_26_12 : zF "WindBridesModel" 26 12 15 (.array .int) true := ⟨R_Mo, F_Mo, 34, "WindBridesModel", t_Mo, rfl, by decide, i_Mo, z_mem 1209 (by decide +kernel) rfl, Or.inl rfl, t_Mo_ok, n_Mo, rfl, by decide +kernel, fun _ => rfl⟩
theorem f_Mo_29_12 : zF "WindBridesModel" 29 12 16 (.array .int) true := ⟨R_Mo, F_Mo, 34, "WindBridesModel", t_Mo, rfl, by decide, i_Mo, z_mem 1210 (by decide +kernel) rfl, Or.inl rfl, t_Mo_ok, n_Mo, rfl, by decide +kernel, fun _ => rfl⟩
theorem f_Mo_32_12 : zF "WindBridesModel" 32 12 21 (.array .int) true := ⟨R_Mo, F_Mo, 34, "WindBridesModel", t_Mo, rfl, by decide, i_Mo, z_mem 1215 (by decide +kernel) rfl, Or.inl rfl, t_Mo_ok, n_Mo, rfl, by decide +kernel, fun _ => rfl⟩
theorem f_Mo_35_12 : zF "WindBridesModel" 35 12 22 (.array .int) true := ⟨R_Mo, F_Mo, 34, "WindBridesModel", t_Mo, rfl, by decide, i_Mo, z_mem 1216 (by decide +kernel) rfl, Or.inl rfl, t_Mo_ok, n_Mo, rfl, by decide +kernel, fun _ => rfl⟩
theorem f_Mo_38_12 : zF "WindBridesModel" 38 12 24 (.array .int) true := ⟨R_Mo, F_Mo, 34, "WindBridesModel", t_Mo, rfl, by decide, i_Mo, z_mem 1218 (by decide +kernel) rfl, Or.inl rfl, t_Mo_ok, n_Mo, rfl, by decide +kernel, fun _ => rfl⟩
theorem f_Mo_41_12 : zF "WindBridesModel" 41 12 25 (.array .int) true := ⟨R_Mo, F_Mo, 34, "WindBridesModel", t_Mo, rfl, by decide, i_Mo, z_mem 1219 (by decide +kernel) rfl, Or.inl rfl, t_Mo_ok, n_Mo, rfl, by decide +kernel, fun _ => rfl⟩
theorem f_Mo_44_12 : zF "WindBridesModel" 44 12 26 (.array .int) true := ⟨R_Mo, F_Mo, 34, "WindBridesModel", t_Mo, rfl, by decide, i_Mo, z_mem 1220 (by decide +kernel) rfl, Or.inl rfl, t_Mo_ok, n_Mo, rfl, by decide +kernel, fun _ => rfl⟩
theorem f_Mo_47_12 : zF "WindBridesModel" 47 12 27 (.array .long) true := ⟨R_Mo, F_Mo, 34, "WindBridesModel", t_Mo, rfl, by decide, i_Mo, z_mem 1221 (by decide +kernel) rfl, Or.inl rfl, t_Mo_ok, n_Mo, rfl, by decide +kernel, fun _ => rfl⟩
theorem f_Mo_51_12 : zF "WindBridesModel" 51 12 28 (.array .int) true := ⟨R_Mo, F_Mo, 34, "WindBridesModel", t_Mo, rfl, by decide, i_Mo, z_mem 1222 (by decide +kernel) rfl, Or.inl rfl, t_Mo_ok, n_Mo, rfl, by decide +kernel, fun _ => rfl⟩
theorem f_Mo_54_12 : zF "WindBridesModel" 54 12 29 (.array .int) true := ⟨R_Mo, F_Mo, 34, "WindBridesModel", t_Mo, rfl, by decide, i_Mo, z_mem 1223 (by decide +kernel) rfl, Or.inl rfl, t_Mo_ok, n_Mo, rfl, by decide +kernel, fun _ => rfl⟩
theorem f_Mo_57_12 : zF "WindBridesModel" 57 12 30 (.array .int) true := ⟨R_Mo, F_Mo, 34, "WindBridesModel", t_Mo, rfl, by decide, i_Mo, z_mem 1224 (by decide +kernel) rfl, Or.inl rfl, t_Mo_ok, n_Mo, rfl, by decide +kernel, fun _ => rfl⟩
theorem f_Mo_60_12 : zF "WindBridesModel" 60 12 31 (.array .int) true := ⟨R_Mo, F_Mo, 34, "WindBridesModel", t_Mo, rfl, by decide, i_Mo, z_mem 1225 (by decide +kernel) rfl, Or.inl rfl, t_Mo_ok, n_Mo, rfl, by decide +kernel, fun _ => rfl⟩
set_option maxRecDepth 20000 in
theorem kc_Mo_in : kC M_Mo_in 3 := ⟨z_mem 1305 (by rfl) rfl, z_mem 107 (by decide +kernel) rfl, ⟨by decide, by decide⟩, by decide +kernel, by decide⟩
theorem k_Mo_67 : kS "WindBridesModel" 67 M_Mo_in 3 := ⟨kc_Mo_in, z_mem 1304 (by decide +kernel) rfl, Or.inl (z_mem 1303 (by decide +kernel) rfl)⟩
set_option maxRecDepth 20000 in
theorem kc_Mo_put : kC M_Mo_put 3 := ⟨z_mem 1309 (by rfl) rfl, z_mem 107 (by decide +kernel) rfl, ⟨by decide, by decide⟩, by decide +kernel, by decide⟩
theorem k_Mo_88 : kV "WindBridesModel" 88 12 M_Mo_put 3 := ⟨kc_Mo_put, _, _, _, rfl, z_mem 1308 (by decide +kernel) rfl, z_mem 35 (by decide +kernel) rfl, z_mem 1306 (by decide +kernel) rfl⟩
set_option maxRecDepth 20000 in
theorem kc_Mo_isGirl : kC M_Mo_isGirl 1 := ⟨z_mem 1317 (by rfl) rfl, z_mem 107 (by decide +kernel) rfl, ⟨by decide, by decide⟩, by decide +kernel, by decide⟩
theorem k_Mo_92 : kV "WindBridesModel" 92 12 M_Mo_isGirl 1 := ⟨kc_Mo_isGirl, _, _, _, rfl, z_mem 1316 (by decide +kernel) rfl, z_mem 36 (by decide +kernel) rfl, z_mem 1314 (by decide +kernel) rfl⟩
set_option maxRecDepth 20000 in
theorem kc_Mo_does : kC M_Mo_does 1 := ⟨z_mem 1321 (by rfl) rfl, z_mem 107 (by decide +kernel) rfl, ⟨by decide, by decide⟩, by decide +kernel, by decide⟩
theorem k_Mo_96 : kV "WindBridesModel" 96 12 M_Mo_does 1 := ⟨kc_Mo_does, _, _, _, rfl, z_mem 1320 (by decide +kernel) rfl, z_mem 37 (by decide +kernel) rfl, z_mem 1318 (by decide +kernel) rfl⟩
set_option maxRecDepth 20000 in
theorem kc_Mo_of : kC M_Mo_of 2 := ⟨z_mem 1325 (by rfl) rfl, z_mem 107 (by decide +kernel) rfl, ⟨by decide, by decide⟩, by decide +kernel, by decide⟩
theorem k_Mo_75 : kV "WindBridesModel" 75 12 M_Mo_of 2 := ⟨kc_Mo_of, _, _, _, rfl, z_mem 1324 (by decide +kernel) rfl, z_mem 38 (by decide +kernel) rfl, z_mem 1322 (by decide +kernel) rfl⟩
set_option maxRecDepth 20000 in
theorem kc_Mo_orSix : kC M_Mo_orSix 1 := ⟨z_mem 1342 (by rfl) rfl, z_mem 107 (by decide +kernel) rfl, ⟨by decide, by decide⟩, by decide +kernel, by decide⟩
theorem k_Mo_100 : kS "WindBridesModel" 100 M_Mo_orSix 1 := ⟨kc_Mo_orSix, z_mem 1341 (by decide +kernel) rfl, Or.inl (z_mem 1340 (by decide +kernel) rfl)⟩
set_option maxRecDepth 20000 in
theorem kc_Mo_isUnder : kC M_Mo_isUnder 2 := ⟨z_mem 1328 (by rfl) rfl, z_mem 107 (by decide +kernel) rfl, ⟨by decide, by decide⟩, by decide +kernel, by decide⟩
theorem k_Mo_209 : kS "WindBridesModel" 209 M_Mo_isUnder 2 := ⟨kc_Mo_isUnder, z_mem 1327 (by decide +kernel) rfl, Or.inl (z_mem 1326 (by decide +kernel) rfl)⟩
set_option maxRecDepth 20000 in
theorem kc_Mo_isHolding : kC M_Mo_isHolding 2 := ⟨z_mem 1332 (by rfl) rfl, z_mem 107 (by decide +kernel) rfl, ⟨by decide, by decide⟩, by decide +kernel, by decide⟩
theorem k_Mo_212 : kV "WindBridesModel" 212 12 M_Mo_isHolding 2 := ⟨kc_Mo_isHolding, _, _, _, rfl, z_mem 1331 (by decide +kernel) rfl, z_mem 39 (by decide +kernel) rfl, z_mem 1329 (by decide +kernel) rfl⟩
set_option maxRecDepth 20000 in
theorem kc_Mo_factOf : kC M_Mo_factOf 2 := ⟨z_mem 1336 (by rfl) rfl, z_mem 107 (by decide +kernel) rfl, ⟨by decide, by decide⟩, by decide +kernel, by decide⟩
theorem k_Mo_203 : kV "WindBridesModel" 203 12 M_Mo_factOf 2 := ⟨kc_Mo_factOf, _, _, _, rfl, z_mem 1335 (by decide +kernel) rfl, z_mem 40 (by decide +kernel) rfl, z_mem 1333 (by decide +kernel) rfl⟩
set_option maxRecDepth 20000 in
theorem kc_Mo_isSo : kC M_Mo_isSo 3 := ⟨z_mem 1339 (by rfl) rfl, z_mem 107 (by decide +kernel) rfl, ⟨by decide, by decide⟩, by decide +kernel, by decide⟩
theorem k_Mo_206 : kS "WindBridesModel" 206 M_Mo_isSo 3 := ⟨kc_Mo_isSo, z_mem 1338 (by decide +kernel) rfl, Or.inl (z_mem 1337 (by decide +kernel) rfl)⟩
set_option maxRecDepth 20000 in
theorem kc_Mo_becomes : kC M_Mo_becomes 2 := ⟨z_mem 1350 (by rfl) rfl, z_mem 107 (by decide +kernel) rfl, ⟨by decide, by decide⟩, by decide +kernel, by decide⟩
theorem k_Mo_103 : kV "WindBridesModel" 103 12 M_Mo_becomes 2 := ⟨kc_Mo_becomes, _, _, _, rfl, z_mem 1349 (by decide +kernel) rfl, z_mem 41 (by decide +kernel) rfl, z_mem 1347 (by decide +kernel) rfl⟩
set_option maxRecDepth 20000 in
theorem kc_Mo_isWind : kC M_Mo_isWind 1 := ⟨z_mem 1366 (by rfl) rfl, z_mem 107 (by decide +kernel) rfl, ⟨by decide, by decide⟩, by decide +kernel, by decide⟩
theorem k_Mo_106 : kV "WindBridesModel" 106 12 M_Mo_isWind 1 := ⟨kc_Mo_isWind, _, _, _, rfl, z_mem 1365 (by decide +kernel) rfl, z_mem 42 (by decide +kernel) rfl, z_mem 1363 (by decide +kernel) rfl⟩
set_option maxRecDepth 20000 in
theorem kc_Mo_blowing : kC M_Mo_blowing 2 := ⟨z_mem 1370 (by rfl) rfl, z_mem 107 (by decide +kernel) rfl, ⟨by decide, by decide⟩, by decide +kernel, by decide⟩
theorem k_Mo_71 : kV "WindBridesModel" 71 12 M_Mo_blowing 2 := ⟨kc_Mo_blowing, _, _, _, rfl, z_mem 1369 (by decide +kernel) rfl, z_mem 43 (by decide +kernel) rfl, z_mem 1367 (by decide +kernel) rfl⟩
set_option maxRecDepth 20000 in
theorem kc_Mo_promisedTo : kC M_Mo_promisedTo 1 := ⟨z_mem 1374 (by rfl) rfl, z_mem 107 (by decide +kernel) rfl, ⟨by decide, by decide⟩, by decide +kernel, by decide⟩
theorem k_Mo_109 : kV "WindBridesModel" 109 12 M_Mo_promisedTo 1 := ⟨kc_Mo_promisedTo, _, _, _, rfl, z_mem 1373 (by decide +kernel) rfl, z_mem 44 (by decide +kernel) rfl, z_mem 1371 (by decide +kernel) rfl⟩
set_option maxRecDepth 20000 in
theorem kc_Mo_blows : kC M_Mo_blows 2 := ⟨z_mem 1378 (by rfl) rfl, z_mem 107 (by decide +kernel) rfl, ⟨by decide, by decide⟩, by decide +kernel, by decide⟩
theorem k_Mo_112 : kV "WindBridesModel" 112 12 M_Mo_blows 2 := ⟨kc_Mo_blows, _, _, _, rfl, z_mem 1377 (by decide +kernel) rfl, z_mem 45 (by decide +kernel) rfl, z_mem 1375 (by decide +kernel) rfl⟩
set_option maxRecDepth 20000 in
theorem kc_Mo_gets : kC M_Mo_gets 2 := ⟨z_mem 1386 (by rfl) rfl, z_mem 107 (by decide +kernel) rfl, ⟨by decide, by decide⟩, by decide +kernel, by decide⟩
theorem k_Mo_116 : kV "WindBridesModel" 116 12 M_Mo_gets 2 := ⟨kc_Mo_gets, _, _, _, rfl, z_mem 1385 (by decide +kernel) rfl, z_mem 46 (by decide +kernel) rfl, z_mem 1383 (by decide +kernel) rfl⟩
set_option maxRecDepth 20000 in
theorem kc_Mo_gainOf : kC M_Mo_gainOf 3 := ⟨z_mem 1394 (by rfl) rfl, z_mem 107 (by decide +kernel) rfl, ⟨by decide, by decide⟩, by decide +kernel, by decide⟩
theorem k_Mo_120 : kV "WindBridesModel" 120 12 M_Mo_gainOf 3 := ⟨kc_Mo_gainOf, _, _, _, rfl, z_mem 1393 (by decide +kernel) rfl, z_mem 47 (by decide +kernel) rfl, z_mem 1391 (by decide +kernel) rfl⟩
set_option maxRecDepth 20000 in
theorem kc_Mo_turnOf : kC M_Mo_turnOf 2 := ⟨z_mem 1398 (by rfl) rfl, z_mem 107 (by decide +kernel) rfl, ⟨by decide, by decide⟩, by decide +kernel, by decide⟩
theorem k_Mo_81 : kV "WindBridesModel" 81 12 M_Mo_turnOf 2 := ⟨kc_Mo_turnOf, _, _, _, rfl, z_mem 1397 (by decide +kernel) rfl, z_mem 48 (by decide +kernel) rfl, z_mem 1395 (by decide +kernel) rfl⟩
set_option maxRecDepth 20000 in
theorem kc_Mo_gains : kC M_Mo_gains 4 := ⟨z_mem 1404 (by rfl) rfl, z_mem 107 (by decide +kernel) rfl, ⟨by decide, by decide⟩, by decide +kernel, by decide⟩
theorem k_Mo_84 : kS "WindBridesModel" 84 M_Mo_gains 4 := ⟨kc_Mo_gains, z_mem 1403 (by decide +kernel) rfl, Or.inl (z_mem 1402 (by decide +kernel) rfl)⟩
set_option maxRecDepth 20000 in
theorem kc_Mo_apart : kC M_Mo_apart 2 := ⟨z_mem 1401 (by rfl) rfl, z_mem 107 (by decide +kernel) rfl, ⟨by decide, by decide⟩, by decide +kernel, by decide⟩
theorem k_Mo_78 : kS "WindBridesModel" 78 M_Mo_apart 2 := ⟨kc_Mo_apart, z_mem 1400 (by decide +kernel) rfl, Or.inl (z_mem 1399 (by decide +kernel) rfl)⟩
set_option maxRecDepth 20000 in
theorem kc_Mo_isOver : kC M_Mo_isOver 0 := ⟨z_mem 1420 (by rfl) rfl, z_mem 107 (by decide +kernel) rfl, ⟨by decide, by decide⟩, by decide +kernel, by decide⟩
theorem k_Mo_124 : kV "WindBridesModel" 124 12 M_Mo_isOver 0 := ⟨kc_Mo_isOver, _, _, _, rfl, z_mem 1419 (by decide +kernel) rfl, z_mem 49 (by decide +kernel) rfl, z_mem 1417 (by decide +kernel) rfl⟩
theorem f_Mo_128_12 : zF "WindBridesModel" 128 12 5 .int false := ⟨R_Mo, F_Mo, 34, "WindBridesModel", t_Mo, rfl, by decide, i_Mo, z_mem 1199 (by decide +kernel) rfl, Or.inl rfl, t_Mo_ok, n_Mo, rfl, by decide +kernel, by intro h; cases h⟩
theorem l_Mo_132 : Cond.constantLong "WindBridesModel" 132 255 ∈ zT := z_mem 1425 (by decide +kernel) rfl
set_option maxRecDepth 20000 in
theorem kc_Mo_thinks : kC M_Mo_thinks 0 := ⟨z_mem 1433 (by rfl) rfl, z_mem 107 (by decide +kernel) rfl, ⟨by decide, by decide⟩, by decide +kernel, by decide⟩
theorem k_Mo_194 : kV "WindBridesModel" 194 12 M_Mo_thinks 0 := ⟨kc_Mo_thinks, _, _, _, rfl, z_mem 1432 (by decide +kernel) rfl, z_mem 50 (by decide +kernel) rfl, z_mem 1430 (by decide +kernel) rfl⟩
theorem f_Mo_140_12 : zF "WindBridesModel" 140 12 8 .int false := ⟨R_Mo, F_Mo, 34, "WindBridesModel", t_Mo, rfl, by decide, i_Mo, z_mem 1202 (by decide +kernel) rfl, Or.inl rfl, t_Mo_ok, n_Mo, rfl, by decide +kernel, by intro h; cases h⟩
theorem f_Mo_162_12 : zF "WindBridesModel" 162 12 10 .boolean false := ⟨R_Mo, F_Mo, 34, "WindBridesModel", t_Mo, rfl, by decide, i_Mo, z_mem 1204 (by decide +kernel) rfl, Or.inl rfl, t_Mo_ok, n_Mo, rfl, by decide +kernel, by intro h; cases h⟩
theorem f_Mo_175_12 : zF "WindBridesModel" 175 12 11 .int false := ⟨R_Mo, F_Mo, 34, "WindBridesModel", t_Mo, rfl, by decide, i_Mo, z_mem 1205 (by decide +kernel) rfl, Or.inl rfl, t_Mo_ok, n_Mo, rfl, by decide +kernel, by intro h; cases h⟩
theorem f_Mo_169_12 : zF "WindBridesModel" 169 12 12 .int false := ⟨R_Mo, F_Mo, 34, "WindBridesModel", t_Mo, rfl, by decide, i_Mo, z_mem 1206 (by decide +kernel) rfl, Or.inl rfl, t_Mo_ok, n_Mo, rfl, by decide +kernel, by intro h; cases h⟩
set_option maxRecDepth 20000 in
theorem kc_Mo_reads : kC M_Mo_reads 0 := ⟨z_mem 1440 (by rfl) rfl, z_mem 107 (by decide +kernel) rfl, ⟨by decide, by decide⟩, by decide +kernel, by decide⟩
theorem k_Mo_166 : kV "WindBridesModel" 166 12 M_Mo_reads 0 := ⟨kc_Mo_reads, _, _, _, rfl, z_mem 1439 (by decide +kernel) rfl, z_mem 51 (by decide +kernel) rfl, z_mem 1437 (by decide +kernel) rfl⟩
theorem f_Mo_152_12 : zF "WindBridesModel" 152 12 6 .int false := ⟨R_Mo, F_Mo, 34, "WindBridesModel", t_Mo, rfl, by decide, i_Mo, z_mem 1200 (by decide +kernel) rfl, Or.inl rfl, t_Mo_ok, n_Mo, rfl, by decide +kernel, by intro h; cases h⟩
set_option maxRecDepth 20000 in
theorem kc_Mo_ruleHere : kC M_Mo_ruleHere 0 := ⟨z_mem 1461 (by rfl) rfl, z_mem 107 (by decide +kernel) rfl, ⟨by decide, by decide⟩, by decide +kernel, by decide⟩
theorem k_Mo_197 : kV "WindBridesModel" 197 12 M_Mo_ruleHere 0 := ⟨kc_Mo_ruleHere, _, _, _, rfl, z_mem 1460 (by decide +kernel) rfl, z_mem 55 (by decide +kernel) rfl, z_mem 1458 (by decide +kernel) rfl⟩
set_option maxRecDepth 20000 in
theorem kc_Mo_putsBack : kC M_Mo_putsBack 0 := ⟨z_mem 1489 (by rfl) rfl, z_mem 107 (by decide +kernel) rfl, ⟨by decide, by decide⟩, by decide +kernel, by decide⟩
theorem k_Mo_200 : kV "WindBridesModel" 200 12 M_Mo_putsBack 0 := ⟨kc_Mo_putsBack, _, _, _, rfl, z_mem 1488 (by decide +kernel) rfl, z_mem 62 (by decide +kernel) rfl, z_mem 1486 (by decide +kernel) rfl⟩
theorem f_Mo_137_12 : zF "WindBridesModel" 137 12 7 .int false := ⟨R_Mo, F_Mo, 34, "WindBridesModel", t_Mo, rfl, by decide, i_Mo, z_mem 1201 (by decide +kernel) rfl, Or.inl rfl, t_Mo_ok, n_Mo, rfl, by decide +kernel, by intro h; cases h⟩
set_option maxRecDepth 20000 in
theorem kc_Mo_copyAll : kC M_Mo_copyAll 2 := ⟨z_mem 1436 (by rfl) rfl, z_mem 107 (by decide +kernel) rfl, ⟨by decide, by decide⟩, by decide +kernel, by decide⟩
theorem k_Mo_63 : kS "WindBridesModel" 63 M_Mo_copyAll 2 := ⟨kc_Mo_copyAll, z_mem 1435 (by decide +kernel) rfl, Or.inl (z_mem 1434 (by decide +kernel) rfl)⟩
set_option maxRecDepth 20000 in
theorem kc_Mo_isByte : kC M_Mo_isByte 3 := ⟨z_mem 1444 (by rfl) rfl, z_mem 107 (by decide +kernel) rfl, ⟨by decide, by decide⟩, by decide +kernel, by decide⟩
theorem k_Mo_146 : kV "WindBridesModel" 146 12 M_Mo_isByte 3 := ⟨kc_Mo_isByte, _, _, _, rfl, z_mem 1443 (by decide +kernel) rfl, z_mem 52 (by decide +kernel) rfl, z_mem 1441 (by decide +kernel) rfl⟩
theorem f_Mo_149_12 : zF "WindBridesModel" 149 12 9 .int false := ⟨R_Mo, F_Mo, 34, "WindBridesModel", t_Mo, rfl, by decide, i_Mo, z_mem 1203 (by decide +kernel) rfl, Or.inl rfl, t_Mo_ok, n_Mo, rfl, by decide +kernel, by intro h; cases h⟩
set_option maxRecDepth 20000 in
theorem kc_Mo_wordHere : kC M_Mo_wordHere 0 := ⟨z_mem 1448 (by rfl) rfl, z_mem 107 (by decide +kernel) rfl, ⟨by decide, by decide⟩, by decide +kernel, by decide⟩
theorem k_Mo_155 : kV "WindBridesModel" 155 12 M_Mo_wordHere 0 := ⟨kc_Mo_wordHere, _, _, _, rfl, z_mem 1447 (by decide +kernel) rfl, z_mem 53 (by decide +kernel) rfl, z_mem 1445 (by decide +kernel) rfl⟩
set_option maxRecDepth 20000 in
theorem kc_Mo_signOf : kC M_Mo_signOf 1 := ⟨z_mem 1457 (by rfl) rfl, z_mem 107 (by decide +kernel) rfl, ⟨by decide, by decide⟩, by decide +kernel, by decide⟩
theorem k_Mo_159 : kS "WindBridesModel" 159 M_Mo_signOf 1 := ⟨kc_Mo_signOf, z_mem 1456 (by decide +kernel) rfl, Or.inl (z_mem 1455 (by decide +kernel) rfl)⟩
set_option maxRecDepth 20000 in
theorem kc_Mo_isName : kC M_Mo_isName 2 := ⟨z_mem 1452 (by rfl) rfl, z_mem 107 (by decide +kernel) rfl, ⟨by decide, by decide⟩, by decide +kernel, by decide⟩
theorem k_Mo_143 : kV "WindBridesModel" 143 12 M_Mo_isName 2 := ⟨kc_Mo_isName, _, _, _, rfl, z_mem 1451 (by decide +kernel) rfl, z_mem 54 (by decide +kernel) rfl, z_mem 1449 (by decide +kernel) rfl⟩
theorem g_Mo_134 : Cond.fieldLink "WindBridesModel" 134 "WindBridesModel" "NAMES" "[I" ∈ zT := z_mem 1453 (by decide +kernel) rfl
set_option maxRecDepth 20000 in
theorem kc_Mo_passes : kC M_Mo_passes 1 := ⟨z_mem 1465 (by rfl) rfl, z_mem 107 (by decide +kernel) rfl, ⟨by decide, by decide⟩, by decide +kernel, by decide⟩
theorem k_Mo_172 : kV "WindBridesModel" 172 12 M_Mo_passes 1 := ⟨kc_Mo_passes, _, _, _, rfl, z_mem 1464 (by decide +kernel) rfl, z_mem 56 (by decide +kernel) rfl, z_mem 1462 (by decide +kernel) rfl⟩
set_option maxRecDepth 20000 in
theorem kc_Mo_condition : kC M_Mo_condition 0 := ⟨z_mem 1469 (by rfl) rfl, z_mem 107 (by decide +kernel) rfl, ⟨by decide, by decide⟩, by decide +kernel, by decide⟩
theorem k_Mo_178 : kV "WindBridesModel" 178 12 M_Mo_condition 0 := ⟨kc_Mo_condition, _, _, _, rfl, z_mem 1468 (by decide +kernel) rfl, z_mem 57 (by decide +kernel) rfl, z_mem 1466 (by decide +kernel) rfl⟩
set_option maxRecDepth 20000 in
theorem kc_Mo_all : kC M_Mo_all 0 := ⟨z_mem 1473 (by rfl) rfl, z_mem 107 (by decide +kernel) rfl, ⟨by decide, by decide⟩, by decide +kernel, by decide⟩
theorem k_Mo_191 : kV "WindBridesModel" 191 12 M_Mo_all 0 := ⟨kc_Mo_all, _, _, _, rfl, z_mem 1472 (by decide +kernel) rfl, z_mem 58 (by decide +kernel) rfl, z_mem 1470 (by decide +kernel) rfl⟩
set_option maxRecDepth 20000 in
theorem kc_Mo_step : kC M_Mo_step 1 := ⟨z_mem 1485 (by rfl) rfl, z_mem 107 (by decide +kernel) rfl, ⟨by decide, by decide⟩, by decide +kernel, by decide⟩
theorem k_Mo_184 : kV "WindBridesModel" 184 12 M_Mo_step 1 := ⟨kc_Mo_step, _, _, _, rfl, z_mem 1484 (by decide +kernel) rfl, z_mem 61 (by decide +kernel) rfl, z_mem 1482 (by decide +kernel) rfl⟩
set_option maxRecDepth 20000 in
theorem kc_Mo_one : kC M_Mo_one 0 := ⟨z_mem 1477 (by rfl) rfl, z_mem 107 (by decide +kernel) rfl, ⟨by decide, by decide⟩, by decide +kernel, by decide⟩
theorem k_Mo_188 : kV "WindBridesModel" 188 12 M_Mo_one 0 := ⟨kc_Mo_one, _, _, _, rfl, z_mem 1476 (by decide +kernel) rfl, z_mem 59 (by decide +kernel) rfl, z_mem 1474 (by decide +kernel) rfl⟩
set_option maxRecDepth 20000 in
theorem kc_Mo_side : kC M_Mo_side 0 := ⟨z_mem 1481 (by rfl) rfl, z_mem 107 (by decide +kernel) rfl, ⟨by decide, by decide⟩, by decide +kernel, by decide⟩
theorem k_Mo_181 : kV "WindBridesModel" 181 12 M_Mo_side 0 := ⟨kc_Mo_side, _, _, _, rfl, z_mem 1480 (by decide +kernel) rfl, z_mem 60 (by decide +kernel) rfl, z_mem 1478 (by decide +kernel) rfl⟩
set_option maxRecDepth 20000 in
theorem kc_Mo_goes : kC M_Mo_goes 1 := ⟨z_mem 1497 (by rfl) rfl, z_mem 107 (by decide +kernel) rfl, ⟨by decide, by decide⟩, by decide +kernel, by decide⟩
theorem k_Mo_227 : kV "WindBridesModel" 227 12 M_Mo_goes 1 := ⟨kc_Mo_goes, _, _, _, rfl, z_mem 1496 (by decide +kernel) rfl, z_mem 63 (by decide +kernel) rfl, z_mem 1494 (by decide +kernel) rfl⟩
theorem f_Mo_218_12 : zF "WindBridesModel" 218 12 14 .int false := ⟨R_Mo, F_Mo, 34, "WindBridesModel", t_Mo, rfl, by decide, i_Mo, z_mem 1208 (by decide +kernel) rfl, Or.inl rfl, t_Mo_ok, n_Mo, rfl, by decide +kernel, by intro h; cases h⟩
set_option maxRecDepth 20000 in
theorem kc_Mo_isCalmFor : kC M_Mo_isCalmFor 1 := ⟨z_mem 1501 (by rfl) rfl, z_mem 107 (by decide +kernel) rfl, ⟨by decide, by decide⟩, by decide +kernel, by decide⟩
theorem k_Mo_221 : kV "WindBridesModel" 221 12 M_Mo_isCalmFor 1 := ⟨kc_Mo_isCalmFor, _, _, _, rfl, z_mem 1500 (by decide +kernel) rfl, z_mem 64 (by decide +kernel) rfl, z_mem 1498 (by decide +kernel) rfl⟩
set_option maxRecDepth 20000 in
theorem kc_Mo_acts : kC M_Mo_acts 1 := ⟨z_mem 1505 (by rfl) rfl, z_mem 107 (by decide +kernel) rfl, ⟨by decide, by decide⟩, by decide +kernel, by decide⟩
theorem k_Mo_224 : kV "WindBridesModel" 224 12 M_Mo_acts 1 := ⟨kc_Mo_acts, _, _, _, rfl, z_mem 1504 (by decide +kernel) rfl, z_mem 65 (by decide +kernel) rfl, z_mem 1502 (by decide +kernel) rfl⟩
set_option maxRecDepth 20000 in
theorem kc_Mo_turns : kC M_Mo_turns 1 := ⟨z_mem 1509 (by rfl) rfl, z_mem 107 (by decide +kernel) rfl, ⟨by decide, by decide⟩, by decide +kernel, by decide⟩
theorem k_Mo_215 : kV "WindBridesModel" 215 12 M_Mo_turns 1 := ⟨kc_Mo_turns, _, _, _, rfl, z_mem 1508 (by decide +kernel) rfl, z_mem 66 (by decide +kernel) rfl, z_mem 1506 (by decide +kernel) rfl⟩
set_option maxRecDepth 20000 in
theorem kc_Mo_restOf : kC M_Mo_restOf 1 := ⟨z_mem 1517 (by rfl) rfl, z_mem 107 (by decide +kernel) rfl, ⟨by decide, by decide⟩, by decide +kernel, by decide⟩
theorem k_Mo_230 : kV "WindBridesModel" 230 12 M_Mo_restOf 1 := ⟨kc_Mo_restOf, _, _, _, rfl, z_mem 1516 (by decide +kernel) rfl, z_mem 67 (by decide +kernel) rfl, z_mem 1514 (by decide +kernel) rfl⟩
set_option maxRecDepth 20000 in
theorem kc_Mo_wouldLeave : kC M_Mo_wouldLeave 2 := ⟨z_mem 1541 (by rfl) rfl, z_mem 107 (by decide +kernel) rfl, ⟨by decide, by decide⟩, by decide +kernel, by decide⟩
theorem k_Mo_242 : kV "WindBridesModel" 242 12 M_Mo_wouldLeave 2 := ⟨kc_Mo_wouldLeave, _, _, _, rfl, z_mem 1540 (by decide +kernel) rfl, z_mem 68 (by decide +kernel) rfl, z_mem 1538 (by decide +kernel) rfl⟩
set_option maxRecDepth 20000 in
theorem kc_Mo_likes : kC M_Mo_likes 3 := ⟨z_mem 1545 (by rfl) rfl, z_mem 107 (by decide +kernel) rfl, ⟨by decide, by decide⟩, by decide +kernel, by decide⟩
theorem k_Mo_236 : kV "WindBridesModel" 236 12 M_Mo_likes 3 := ⟨kc_Mo_likes, _, _, _, rfl, z_mem 1544 (by decide +kernel) rfl, z_mem 69 (by decide +kernel) rfl, z_mem 1542 (by decide +kernel) rfl⟩
set_option maxRecDepth 20000 in
theorem kc_Mo_isLiked : kC M_Mo_isLiked 3 := ⟨z_mem 1553 (by rfl) rfl, z_mem 107 (by decide +kernel) rfl, ⟨by decide, by decide⟩, by decide +kernel, by decide⟩
theorem k_Mo_239 : kV "WindBridesModel" 239 12 M_Mo_isLiked 3 := ⟨kc_Mo_isLiked, _, _, _, rfl, z_mem 1552 (by decide +kernel) rfl, z_mem 71 (by decide +kernel) rfl, z_mem 1550 (by decide +kernel) rfl⟩
set_option maxRecDepth 20000 in
theorem kc_Mo_monthNow : kC M_Mo_monthNow 0 := ⟨z_mem 1549 (by rfl) rfl, z_mem 107 (by decide +kernel) rfl, ⟨by decide, by decide⟩, by decide +kernel, by decide⟩
theorem k_Mo_233 : kV "WindBridesModel" 233 12 M_Mo_monthNow 0 := ⟨kc_Mo_monthNow, _, _, _, rfl, z_mem 1548 (by decide +kernel) rfl, z_mem 70 (by decide +kernel) rfl, z_mem 1546 (by decide +kernel) rfl⟩
set_option maxRecDepth 20000 in
theorem kc_Mo_asks : kC M_Mo_asks 0 := ⟨z_mem 1565 (by rfl) rfl, z_mem 107 (by decide +kernel) rfl, ⟨by decide, by decide⟩, by decide +kernel, by decide⟩
theorem k_Mo_248 : kV "WindBridesModel" 248 12 M_Mo_asks 0 := ⟨kc_Mo_asks, _, _, _, rfl, z_mem 1564 (by decide +kernel) rfl, z_mem 72 (by decide +kernel) rfl, z_mem 1562 (by decide +kernel) rfl⟩
set_option maxRecDepth 20000 in
theorem kc_Mo_nextFor : kC M_Mo_nextFor 1 := ⟨z_mem 1569 (by rfl) rfl, z_mem 107 (by decide +kernel) rfl, ⟨by decide, by decide⟩, by decide +kernel, by decide⟩
theorem k_Mo_245 : kV "WindBridesModel" 245 12 M_Mo_nextFor 1 := ⟨kc_Mo_nextFor, _, _, _, rfl, z_mem 1568 (by decide +kernel) rfl, z_mem 73 (by decide +kernel) rfl, z_mem 1566 (by decide +kernel) rfl⟩
set_option maxRecDepth 20000 in
theorem kc_Mo_wouldSwap : kC M_Mo_wouldSwap 2 := ⟨z_mem 1577 (by rfl) rfl, z_mem 107 (by decide +kernel) rfl, ⟨by decide, by decide⟩, by decide +kernel, by decide⟩
theorem k_Mo_251 : kV "WindBridesModel" 251 12 M_Mo_wouldSwap 2 := ⟨kc_Mo_wouldSwap, _, _, _, rfl, z_mem 1576 (by decide +kernel) rfl, z_mem 74 (by decide +kernel) rfl, z_mem 1574 (by decide +kernel) rfl⟩
set_option maxRecDepth 20000 in
theorem kc_Mo_findBest : kC M_Mo_findBest 1 := ⟨z_mem 1585 (by rfl) rfl, z_mem 107 (by decide +kernel) rfl, ⟨by decide, by decide⟩, by decide +kernel, by decide⟩
theorem k_Mo_281 : kV "WindBridesModel" 281 12 M_Mo_findBest 1 := ⟨kc_Mo_findBest, _, _, _, rfl, z_mem 1584 (by decide +kernel) rfl, z_mem 75 (by decide +kernel) rfl, z_mem 1582 (by decide +kernel) rfl⟩
theorem f_Mo_269_12 : zF "WindBridesModel" 269 12 19 .int false := ⟨R_Mo, F_Mo, 34, "WindBridesModel", t_Mo, rfl, by decide, i_Mo, z_mem 1213 (by decide +kernel) rfl, Or.inl rfl, t_Mo_ok, n_Mo, rfl, by decide +kernel, by intro h; cases h⟩
set_option maxRecDepth 20000 in
theorem kc_Mo_monthsOf : kC M_Mo_monthsOf 1 := ⟨z_mem 1589 (by rfl) rfl, z_mem 107 (by decide +kernel) rfl, ⟨by decide, by decide⟩, by decide +kernel, by decide⟩
theorem k_Mo_254 : kV "WindBridesModel" 254 12 M_Mo_monthsOf 1 := ⟨kc_Mo_monthsOf, _, _, _, rfl, z_mem 1588 (by decide +kernel) rfl, z_mem 76 (by decide +kernel) rfl, z_mem 1586 (by decide +kernel) rfl⟩
set_option maxRecDepth 20000 in
theorem kc_Mo_plansOf : kC M_Mo_plansOf 1 := ⟨z_mem 1593 (by rfl) rfl, z_mem 107 (by decide +kernel) rfl, ⟨by decide, by decide⟩, by decide +kernel, by decide⟩
theorem k_Mo_266 : kV "WindBridesModel" 266 12 M_Mo_plansOf 1 := ⟨kc_Mo_plansOf, _, _, _, rfl, z_mem 1592 (by decide +kernel) rfl, z_mem 77 (by decide +kernel) rfl, z_mem 1590 (by decide +kernel) rfl⟩
set_option maxRecDepth 20000 in
theorem kc_Mo_worthOf : kC M_Mo_worthOf 2 := ⟨z_mem 1597 (by rfl) rfl, z_mem 107 (by decide +kernel) rfl, ⟨by decide, by decide⟩, by decide +kernel, by decide⟩
theorem k_Mo_272 : kV "WindBridesModel" 272 12 M_Mo_worthOf 2 := ⟨kc_Mo_worthOf, _, _, _, rfl, z_mem 1596 (by decide +kernel) rfl, z_mem 78 (by decide +kernel) rfl, z_mem 1594 (by decide +kernel) rfl⟩
theorem f_Mo_275_12 : zF "WindBridesModel" 275 12 20 .int false := ⟨R_Mo, F_Mo, 34, "WindBridesModel", t_Mo, rfl, by decide, i_Mo, z_mem 1214 (by decide +kernel) rfl, Or.inl rfl, t_Mo_ok, n_Mo, rfl, by decide +kernel, by intro h; cases h⟩
theorem f_Mo_278_12 : zF "WindBridesModel" 278 12 18 .int false := ⟨R_Mo, F_Mo, 34, "WindBridesModel", t_Mo, rfl, by decide, i_Mo, z_mem 1212 (by decide +kernel) rfl, Or.inl rfl, t_Mo_ok, n_Mo, rfl, by decide +kernel, by intro h; cases h⟩
set_option maxRecDepth 20000 in
theorem kc_Mo_digit : kC M_Mo_digit 4 := ⟨z_mem 1600 (by rfl) rfl, z_mem 107 (by decide +kernel) rfl, ⟨by decide, by decide⟩, by decide +kernel, by decide⟩
theorem k_Mo_257 : kS "WindBridesModel" 257 M_Mo_digit 4 := ⟨kc_Mo_digit, z_mem 1599 (by decide +kernel) rfl, Or.inl (z_mem 1598 (by decide +kernel) rfl)⟩
set_option maxRecDepth 20000 in
theorem kc_Mo_promised : kC M_Mo_promised 0 := ⟨z_mem 1604 (by rfl) rfl, z_mem 107 (by decide +kernel) rfl, ⟨by decide, by decide⟩, by decide +kernel, by decide⟩
theorem k_Mo_260 : kV "WindBridesModel" 260 12 M_Mo_promised 0 := ⟨kc_Mo_promised, _, _, _, rfl, z_mem 1603 (by decide +kernel) rfl, z_mem 79 (by decide +kernel) rfl, z_mem 1601 (by decide +kernel) rfl⟩
theorem f_Mo_263_12 : zF "WindBridesModel" 263 12 17 .int false := ⟨R_Mo, F_Mo, 34, "WindBridesModel", t_Mo, rfl, by decide, i_Mo, z_mem 1211 (by decide +kernel) rfl, Or.inl rfl, t_Mo_ok, n_Mo, rfl, by decide +kernel, by intro h; cases h⟩
set_option maxRecDepth 20000 in
theorem kc_Mo_isSet : kC M_Mo_isSet 1 := ⟨z_mem 1620 (by rfl) rfl, z_mem 107 (by decide +kernel) rfl, ⟨by decide, by decide⟩, by decide +kernel, by decide⟩
theorem k_Mo_284 : kV "WindBridesModel" 284 12 M_Mo_isSet 1 := ⟨kc_Mo_isSet, _, _, _, rfl, z_mem 1619 (by decide +kernel) rfl, z_mem 80 (by decide +kernel) rfl, z_mem 1617 (by decide +kernel) rfl⟩
set_option maxRecDepth 20000 in
theorem kc_Mo_actsIn : kC M_Mo_actsIn 2 := ⟨z_mem 1624 (by rfl) rfl, z_mem 107 (by decide +kernel) rfl, ⟨by decide, by decide⟩, by decide +kernel, by decide⟩
theorem k_Mo_287 : kV "WindBridesModel" 287 12 M_Mo_actsIn 2 := ⟨kc_Mo_actsIn, _, _, _, rfl, z_mem 1623 (by decide +kernel) rfl, z_mem 81 (by decide +kernel) rfl, z_mem 1621 (by decide +kernel) rfl⟩
set_option maxRecDepth 20000 in
theorem kc_Mo_gameOn : kC M_Mo_gameOn 2 := ⟨z_mem 1636 (by rfl) rfl, z_mem 107 (by decide +kernel) rfl, ⟨by decide, by decide⟩, by decide +kernel, by decide⟩
theorem k_Mo_290 : kV "WindBridesModel" 290 12 M_Mo_gameOn 2 := ⟨kc_Mo_gameOn, _, _, _, rfl, z_mem 1635 (by decide +kernel) rfl, z_mem 82 (by decide +kernel) rfl, z_mem 1633 (by decide +kernel) rfl⟩
set_option maxRecDepth 20000 in
theorem kc_Mo_strange : kC M_Mo_strange 1 := ⟨z_mem 1656 (by rfl) rfl, z_mem 107 (by decide +kernel) rfl, ⟨by decide, by decide⟩, by decide +kernel, by decide⟩
theorem k_Mo_297 : kV "WindBridesModel" 297 12 M_Mo_strange 1 := ⟨kc_Mo_strange, _, _, _, rfl, z_mem 1655 (by decide +kernel) rfl, z_mem 83 (by decide +kernel) rfl, z_mem 1653 (by decide +kernel) rfl⟩
set_option maxRecDepth 20000 in
theorem kc_Mo_fits : kC M_Mo_fits 3 := ⟨z_mem 1660 (by rfl) rfl, z_mem 107 (by decide +kernel) rfl, ⟨by decide, by decide⟩, by decide +kernel, by decide⟩
theorem k_Mo_294 : kV "WindBridesModel" 294 12 M_Mo_fits 3 := ⟨kc_Mo_fits, _, _, _, rfl, z_mem 1659 (by decide +kernel) rfl, z_mem 84 (by decide +kernel) rfl, z_mem 1657 (by decide +kernel) rfl⟩
set_option maxRecDepth 20000 in
theorem kc_Mo_byLot : kC M_Mo_byLot 0 := ⟨z_mem 1676 (by rfl) rfl, z_mem 107 (by decide +kernel) rfl, ⟨by decide, by decide⟩, by decide +kernel, by decide⟩
theorem k_Mo_301 : kV "WindBridesModel" 301 12 M_Mo_byLot 0 := ⟨kc_Mo_byLot, _, _, _, rfl, z_mem 1675 (by decide +kernel) rfl, z_mem 85 (by decide +kernel) rfl, z_mem 1673 (by decide +kernel) rfl⟩
theorem l_Mo_300 : Cond.constant "WindBridesModel" 300 1103515245 ∈ zT := z_mem 1677 (by decide +kernel) rfl
theorem f_Mo_304_12 : zF "WindBridesModel" 304 12 23 .int false := ⟨R_Mo, F_Mo, 34, "WindBridesModel", t_Mo, rfl, by decide, i_Mo, z_mem 1217 (by decide +kernel) rfl, Or.inl rfl, t_Mo_ok, n_Mo, rfl, by decide +kernel, by intro h; cases h⟩
set_option maxRecDepth 20000 in
theorem kc_Mo_isRow : kC M_Mo_isRow 2 := ⟨z_mem 1693 (by rfl) rfl, z_mem 107 (by decide +kernel) rfl, ⟨by decide, by decide⟩, by decide +kernel, by decide⟩
theorem k_Mo_307 : kV "WindBridesModel" 307 12 M_Mo_isRow 2 := ⟨kc_Mo_isRow, _, _, _, rfl, z_mem 1692 (by decide +kernel) rfl, z_mem 86 (by decide +kernel) rfl, z_mem 1690 (by decide +kernel) rfl⟩
set_option maxRecDepth 20000 in
theorem kc_Mo_isFour : kC M_Mo_isFour 1 := ⟨z_mem 1708 (by rfl) rfl, z_mem 107 (by decide +kernel) rfl, ⟨by decide, by decide⟩, by decide +kernel, by decide⟩
theorem k_Mo_310 : kS "WindBridesModel" 310 M_Mo_isFour 1 := ⟨kc_Mo_isFour, z_mem 1707 (by decide +kernel) rfl, Or.inl (z_mem 1706 (by decide +kernel) rfl)⟩
set_option maxRecDepth 20000 in
theorem kc_Mo_notActs : kC M_Mo_notActs 2 := ⟨z_mem 1724 (by rfl) rfl, z_mem 107 (by decide +kernel) rfl, ⟨by decide, by decide⟩, by decide +kernel, by decide⟩
theorem k_Mo_313 : kV "WindBridesModel" 313 12 M_Mo_notActs 2 := ⟨kc_Mo_notActs, _, _, _, rfl, z_mem 1723 (by decide +kernel) rfl, z_mem 87 (by decide +kernel) rfl, z_mem 1721 (by decide +kernel) rfl⟩
set_option maxRecDepth 20000 in
theorem kc_Mo_isPlace : kC M_Mo_isPlace 2 := ⟨z_mem 1728 (by rfl) rfl, z_mem 107 (by decide +kernel) rfl, ⟨by decide, by decide⟩, by decide +kernel, by decide⟩
theorem k_Mo_316 : kV "WindBridesModel" 316 12 M_Mo_isPlace 2 := ⟨kc_Mo_isPlace, _, _, _, rfl, z_mem 1727 (by decide +kernel) rfl, z_mem 88 (by decide +kernel) rfl, z_mem 1725 (by decide +kernel) rfl⟩
set_option maxRecDepth 20000 in
theorem kc_Mo_hasGirl : kC M_Mo_hasGirl 1 := ⟨z_mem 1744 (by rfl) rfl, z_mem 107 (by decide +kernel) rfl, ⟨by decide, by decide⟩, by decide +kernel, by decide⟩
theorem k_Mo_320 : kV "WindBridesModel" 320 12 M_Mo_hasGirl 1 := ⟨kc_Mo_hasGirl, _, _, _, rfl, z_mem 1743 (by decide +kernel) rfl, z_mem 89 (by decide +kernel) rfl, z_mem 1741 (by decide +kernel) rfl⟩
theorem f_Mo_323_12 : zF "WindBridesModel" 323 12 32 .int false := ⟨R_Mo, F_Mo, 34, "WindBridesModel", t_Mo, rfl, by decide, i_Mo, z_mem 1226 (by decide +kernel) rfl, Or.inl rfl, t_Mo_ok, n_Mo, rfl, by decide +kernel, by intro h; cases h⟩
theorem f_Mo_338_12 : zF "WindBridesModel" 338 12 33 .boolean false := ⟨R_Mo, F_Mo, 34, "WindBridesModel", t_Mo, rfl, by decide, i_Mo, z_mem 1227 (by decide +kernel) rfl, Or.inl rfl, t_Mo_ok, n_Mo, rfl, by decide +kernel, by intro h; cases h⟩
set_option maxRecDepth 20000 in
theorem kc_Mo_sails : kC M_Mo_sails 2 := ⟨z_mem 1752 (by rfl) rfl, z_mem 107 (by decide +kernel) rfl, ⟨by decide, by decide⟩, by decide +kernel, by decide⟩
theorem k_Mo_332 : kV "WindBridesModel" 332 12 M_Mo_sails 2 := ⟨kc_Mo_sails, _, _, _, rfl, z_mem 1751 (by decide +kernel) rfl, z_mem 90 (by decide +kernel) rfl, z_mem 1749 (by decide +kernel) rfl⟩
set_option maxRecDepth 20000 in
theorem kc_Mo_calls : kC M_Mo_calls 2 := ⟨z_mem 1764 (by rfl) rfl, z_mem 107 (by decide +kernel) rfl, ⟨by decide, by decide⟩, by decide +kernel, by decide⟩
theorem k_Mo_347 : kV "WindBridesModel" 347 12 M_Mo_calls 2 := ⟨kc_Mo_calls, _, _, _, rfl, z_mem 1763 (by decide +kernel) rfl, z_mem 93 (by decide +kernel) rfl, z_mem 1761 (by decide +kernel) rfl⟩
set_option maxRecDepth 20000 in
theorem kc_Mo_shares : kC M_Mo_shares 2 := ⟨z_mem 1772 (by rfl) rfl, z_mem 107 (by decide +kernel) rfl, ⟨by decide, by decide⟩, by decide +kernel, by decide⟩
theorem k_Mo_350 : kV "WindBridesModel" 350 12 M_Mo_shares 2 := ⟨kc_Mo_shares, _, _, _, rfl, z_mem 1771 (by decide +kernel) rfl, z_mem 95 (by decide +kernel) rfl, z_mem 1769 (by decide +kernel) rfl⟩
set_option maxRecDepth 20000 in
theorem kc_Mo_weds : kC M_Mo_weds 2 := ⟨z_mem 1784 (by rfl) rfl, z_mem 107 (by decide +kernel) rfl, ⟨by decide, by decide⟩, by decide +kernel, by decide⟩
theorem k_Mo_356 : kV "WindBridesModel" 356 12 M_Mo_weds 2 := ⟨kc_Mo_weds, _, _, _, rfl, z_mem 1783 (by decide +kernel) rfl, z_mem 98 (by decide +kernel) rfl, z_mem 1781 (by decide +kernel) rfl⟩
set_option maxRecDepth 20000 in
theorem kc_Mo_begins : kC M_Mo_begins 1 := ⟨z_mem 1756 (by rfl) rfl, z_mem 107 (by decide +kernel) rfl, ⟨by decide, by decide⟩, by decide +kernel, by decide⟩
theorem k_Mo_326 : kV "WindBridesModel" 326 12 M_Mo_begins 1 := ⟨kc_Mo_begins, _, _, _, rfl, z_mem 1755 (by decide +kernel) rfl, z_mem 91 (by decide +kernel) rfl, z_mem 1753 (by decide +kernel) rfl⟩
set_option maxRecDepth 20000 in
theorem kc_Mo_plainSails : kC M_Mo_plainSails 2 := ⟨z_mem 1760 (by rfl) rfl, z_mem 107 (by decide +kernel) rfl, ⟨by decide, by decide⟩, by decide +kernel, by decide⟩
theorem k_Mo_329 : kV "WindBridesModel" 329 12 M_Mo_plainSails 2 := ⟨kc_Mo_plainSails, _, _, _, rfl, z_mem 1759 (by decide +kernel) rfl, z_mem 92 (by decide +kernel) rfl, z_mem 1757 (by decide +kernel) rfl⟩
set_option maxRecDepth 20000 in
theorem kc_Mo_plainCalls : kC M_Mo_plainCalls 2 := ⟨z_mem 1768 (by rfl) rfl, z_mem 107 (by decide +kernel) rfl, ⟨by decide, by decide⟩, by decide +kernel, by decide⟩
theorem k_Mo_335 : kV "WindBridesModel" 335 12 M_Mo_plainCalls 2 := ⟨kc_Mo_plainCalls, _, _, _, rfl, z_mem 1767 (by decide +kernel) rfl, z_mem 94 (by decide +kernel) rfl, z_mem 1765 (by decide +kernel) rfl⟩
set_option maxRecDepth 20000 in
theorem kc_Mo_lateShares : kC M_Mo_lateShares 2 := ⟨z_mem 1776 (by rfl) rfl, z_mem 107 (by decide +kernel) rfl, ⟨by decide, by decide⟩, by decide +kernel, by decide⟩
theorem k_Mo_344 : kV "WindBridesModel" 344 12 M_Mo_lateShares 2 := ⟨kc_Mo_lateShares, _, _, _, rfl, z_mem 1775 (by decide +kernel) rfl, z_mem 96 (by decide +kernel) rfl, z_mem 1773 (by decide +kernel) rfl⟩
set_option maxRecDepth 20000 in
theorem kc_Mo_plainShares : kC M_Mo_plainShares 2 := ⟨z_mem 1780 (by rfl) rfl, z_mem 107 (by decide +kernel) rfl, ⟨by decide, by decide⟩, by decide +kernel, by decide⟩
theorem k_Mo_341 : kV "WindBridesModel" 341 12 M_Mo_plainShares 2 := ⟨kc_Mo_plainShares, _, _, _, rfl, z_mem 1779 (by decide +kernel) rfl, z_mem 97 (by decide +kernel) rfl, z_mem 1777 (by decide +kernel) rfl⟩
set_option maxRecDepth 20000 in
theorem kc_Mo_plainWeds : kC M_Mo_plainWeds 2 := ⟨z_mem 1788 (by rfl) rfl, z_mem 107 (by decide +kernel) rfl, ⟨by decide, by decide⟩, by decide +kernel, by decide⟩
theorem k_Mo_353 : kV "WindBridesModel" 353 12 M_Mo_plainWeds 2 := ⟨kc_Mo_plainWeds, _, _, _, rfl, z_mem 1787 (by decide +kernel) rfl, z_mem 99 (by decide +kernel) rfl, z_mem 1785 (by decide +kernel) rfl⟩
set_option maxRecDepth 20000 in
theorem kc_Mo_bits : kC M_Mo_bits 1 := ⟨z_mem 1799 (by rfl) rfl, z_mem 107 (by decide +kernel) rfl, ⟨by decide, by decide⟩, by decide +kernel, by decide⟩
theorem k_Mo_359 : kS "WindBridesModel" 359 M_Mo_bits 1 := ⟨kc_Mo_bits, z_mem 1798 (by decide +kernel) rfl, Or.inl (z_mem 1797 (by decide +kernel) rfl)⟩
theorem f_Mo_362_12 : zF "WindBridesModel" 362 12 3 .boolean false := ⟨R_Mo, F_Mo, 34, "WindBridesModel", t_Mo, rfl, by decide, i_Mo, z_mem 1197 (by decide +kernel) rfl, Or.inl rfl, t_Mo_ok, n_Mo, rfl, by decide +kernel, by intro h; cases h⟩
theorem w_Lw_7 : zN "WindBridesLaw" 7 11 15 [.null, .null, .int 0, .null, .null, .null, .null, .null, .null, .null, .null, .null, .null, .null, .null] := ⟨R_Wb, F_Wb, t_Wb, rfl, i_Wb, t_Wb_ok, z_mem 120 (by decide +kernel) rfl, z_mem 121 (by decide +kernel) rfl, z_mem 101 (by decide +kernel) rfl, by decide +kernel, by decide⟩
set_option maxRecDepth 20000 in
theorem kc_Wb_init : kC M_Wb_init 0 := ⟨z_mem 124 (by rfl) rfl, z_mem 101 (by decide +kernel) rfl, ⟨by decide, by decide⟩, by decide +kernel, by decide⟩
theorem k_Lw_9 : kI "WindBridesLaw" 9 M_Wb_init 0 := ⟨kc_Wb_init, rfl, rfl, z_mem 123 (by decide +kernel) rfl, Or.inl (z_mem 122 (by decide +kernel) rfl)⟩
theorem w_Lw_10 : zN "WindBridesLaw" 10 12 34 [.null, .null, .null, .int 0, .null, .int 0, .int 0, .int 0, .int 0, .int 0, .int 0, .int 0, .int 0, .null, .int 0, .null, .null, .int 0, .int 0, .int 0, .int 0, .null, .null, .int 0, .null, .null, .null, .null, .null, .null, .null, .null, .int 0, .int 0] := ⟨R_Mo, F_Mo, t_Mo, rfl, i_Mo, t_Mo_ok, z_mem 1188 (by decide +kernel) rfl, z_mem 1189 (by decide +kernel) rfl, z_mem 107 (by decide +kernel) rfl, by decide +kernel, by decide⟩
set_option maxRecDepth 20000 in
theorem kc_Mo_init : kC M_Mo_init 0 := ⟨z_mem 1192 (by rfl) rfl, z_mem 107 (by decide +kernel) rfl, ⟨by decide, by decide⟩, by decide +kernel, by decide⟩
theorem k_Lw_12 : kI "WindBridesLaw" 12 M_Mo_init 0 := ⟨kc_Mo_init, rfl, rfl, z_mem 1191 (by decide +kernel) rfl, Or.inl (z_mem 1190 (by decide +kernel) rfl)⟩
set_option maxRecDepth 20000 in
theorem kc_Wb_girl : kC M_Wb_girl 3 := ⟨z_mem 401 (by rfl) rfl, z_mem 101 (by decide +kernel) rfl, ⟨by decide, by decide⟩, by decide +kernel, by decide⟩
theorem k_Lw_13 : kV "WindBridesLaw" 13 11 M_Wb_girl 3 := ⟨kc_Wb_girl, _, _, _, rfl, z_mem 399 (by decide +kernel) rfl, z_mem 400 (by decide +kernel) rfl, z_mem 398 (by decide +kernel) rfl⟩
set_option maxRecDepth 20000 in
theorem kc_Mo_girl : kC M_Mo_girl 3 := ⟨z_mem 1302 (by rfl) rfl, z_mem 107 (by decide +kernel) rfl, ⟨by decide, by decide⟩, by decide +kernel, by decide⟩
theorem k_Lw_17 : kV "WindBridesLaw" 17 12 M_Mo_girl 3 := ⟨kc_Mo_girl, _, _, _, rfl, z_mem 1300 (by decide +kernel) rfl, z_mem 1301 (by decide +kernel) rfl, z_mem 1299 (by decide +kernel) rfl⟩
set_option maxRecDepth 20000 in
theorem kc_Wb_girlOf : kC M_Wb_girlOf 2 := ⟨z_mem 416 (by rfl) rfl, z_mem 101 (by decide +kernel) rfl, ⟨by decide, by decide⟩, by decide +kernel, by decide⟩
theorem k_Lw_18 : kV "WindBridesLaw" 18 11 M_Wb_girlOf 2 := ⟨kc_Wb_girlOf, _, _, _, rfl, z_mem 414 (by decide +kernel) rfl, z_mem 415 (by decide +kernel) rfl, z_mem 413 (by decide +kernel) rfl⟩
set_option maxRecDepth 20000 in
theorem kc_Mo_girlOf : kC M_Mo_girlOf 2 := ⟨z_mem 1313 (by rfl) rfl, z_mem 107 (by decide +kernel) rfl, ⟨by decide, by decide⟩, by decide +kernel, by decide⟩
theorem k_Lw_22 : kV "WindBridesLaw" 22 12 M_Mo_girlOf 2 := ⟨kc_Mo_girlOf, _, _, _, rfl, z_mem 1311 (by decide +kernel) rfl, z_mem 1312 (by decide +kernel) rfl, z_mem 1310 (by decide +kernel) rfl⟩
set_option maxRecDepth 20000 in
theorem kc_Wb_change : kC M_Wb_change 3 := ⟨z_mem 445 (by rfl) rfl, z_mem 101 (by decide +kernel) rfl, ⟨by decide, by decide⟩, by decide +kernel, by decide⟩
theorem k_Lw_23 : kV "WindBridesLaw" 23 11 M_Wb_change 3 := ⟨kc_Wb_change, _, _, _, rfl, z_mem 443 (by decide +kernel) rfl, z_mem 444 (by decide +kernel) rfl, z_mem 442 (by decide +kernel) rfl⟩
set_option maxRecDepth 20000 in
theorem kc_Mo_change : kC M_Mo_change 3 := ⟨z_mem 1346 (by rfl) rfl, z_mem 107 (by decide +kernel) rfl, ⟨by decide, by decide⟩, by decide +kernel, by decide⟩
theorem k_Lw_26 : kV "WindBridesLaw" 26 12 M_Mo_change 3 := ⟨kc_Mo_change, _, _, _, rfl, z_mem 1344 (by decide +kernel) rfl, z_mem 1345 (by decide +kernel) rfl, z_mem 1343 (by decide +kernel) rfl⟩
set_option maxRecDepth 20000 in
theorem kc_Wb_remake : kC M_Wb_remake 2 := ⟨z_mem 449 (by rfl) rfl, z_mem 101 (by decide +kernel) rfl, ⟨by decide, by decide⟩, by decide +kernel, by decide⟩
theorem k_Lw_27 : kV "WindBridesLaw" 27 11 M_Wb_remake 2 := ⟨kc_Wb_remake, _, _, _, rfl, z_mem 447 (by decide +kernel) rfl, z_mem 448 (by decide +kernel) rfl, z_mem 446 (by decide +kernel) rfl⟩
set_option maxRecDepth 20000 in
theorem kc_Mo_remake : kC M_Mo_remake 2 := ⟨z_mem 1354 (by rfl) rfl, z_mem 107 (by decide +kernel) rfl, ⟨by decide, by decide⟩, by decide +kernel, by decide⟩
theorem k_Lw_30 : kV "WindBridesLaw" 30 12 M_Mo_remake 2 := ⟨kc_Mo_remake, _, _, _, rfl, z_mem 1352 (by decide +kernel) rfl, z_mem 1353 (by decide +kernel) rfl, z_mem 1351 (by decide +kernel) rfl⟩
set_option maxRecDepth 20000 in
theorem kc_Wb_wind : kC M_Wb_wind 4 := ⟨z_mem 453 (by rfl) rfl, z_mem 101 (by decide +kernel) rfl, ⟨by decide, by decide⟩, by decide +kernel, by decide⟩
theorem k_Lw_31 : kV "WindBridesLaw" 31 11 M_Wb_wind 4 := ⟨kc_Wb_wind, _, _, _, rfl, z_mem 451 (by decide +kernel) rfl, z_mem 452 (by decide +kernel) rfl, z_mem 450 (by decide +kernel) rfl⟩
set_option maxRecDepth 20000 in
theorem kc_Mo_wind : kC M_Mo_wind 4 := ⟨z_mem 1358 (by rfl) rfl, z_mem 107 (by decide +kernel) rfl, ⟨by decide, by decide⟩, by decide +kernel, by decide⟩
theorem k_Lw_35 : kV "WindBridesLaw" 35 12 M_Mo_wind 4 := ⟨kc_Mo_wind, _, _, _, rfl, z_mem 1356 (by decide +kernel) rfl, z_mem 1357 (by decide +kernel) rfl, z_mem 1355 (by decide +kernel) rfl⟩
set_option maxRecDepth 20000 in
theorem kc_Wb_windOf : kC M_Wb_windOf 2 := ⟨z_mem 461 (by rfl) rfl, z_mem 101 (by decide +kernel) rfl, ⟨by decide, by decide⟩, by decide +kernel, by decide⟩
theorem k_Lw_36 : kV "WindBridesLaw" 36 11 M_Wb_windOf 2 := ⟨kc_Wb_windOf, _, _, _, rfl, z_mem 459 (by decide +kernel) rfl, z_mem 460 (by decide +kernel) rfl, z_mem 458 (by decide +kernel) rfl⟩
set_option maxRecDepth 20000 in
theorem kc_Mo_windOf : kC M_Mo_windOf 2 := ⟨z_mem 1362 (by rfl) rfl, z_mem 107 (by decide +kernel) rfl, ⟨by decide, by decide⟩, by decide +kernel, by decide⟩
theorem k_Lw_39 : kV "WindBridesLaw" 39 12 M_Mo_windOf 2 := ⟨kc_Mo_windOf, _, _, _, rfl, z_mem 1360 (by decide +kernel) rfl, z_mem 1361 (by decide +kernel) rfl, z_mem 1359 (by decide +kernel) rfl⟩
set_option maxRecDepth 20000 in
theorem kc_Wb_promise : kC M_Wb_promise 2 := ⟨z_mem 477 (by rfl) rfl, z_mem 101 (by decide +kernel) rfl, ⟨by decide, by decide⟩, by decide +kernel, by decide⟩
theorem k_Lw_40 : kV "WindBridesLaw" 40 11 M_Wb_promise 2 := ⟨kc_Wb_promise, _, _, _, rfl, z_mem 475 (by decide +kernel) rfl, z_mem 476 (by decide +kernel) rfl, z_mem 474 (by decide +kernel) rfl⟩
set_option maxRecDepth 20000 in
theorem kc_Mo_promise : kC M_Mo_promise 2 := ⟨z_mem 1382 (by rfl) rfl, z_mem 107 (by decide +kernel) rfl, ⟨by decide, by decide⟩, by decide +kernel, by decide⟩
theorem k_Lw_43 : kV "WindBridesLaw" 43 12 M_Mo_promise 2 := ⟨kc_Mo_promise, _, _, _, rfl, z_mem 1380 (by decide +kernel) rfl, z_mem 1381 (by decide +kernel) rfl, z_mem 1379 (by decide +kernel) rfl⟩
set_option maxRecDepth 20000 in
theorem kc_Wb_gain : kC M_Wb_gain 3 := ⟨z_mem 482 (by rfl) rfl, z_mem 101 (by decide +kernel) rfl, ⟨by decide, by decide⟩, by decide +kernel, by decide⟩
theorem k_Lw_44 : kV "WindBridesLaw" 44 11 M_Wb_gain 3 := ⟨kc_Wb_gain, _, _, _, rfl, z_mem 480 (by decide +kernel) rfl, z_mem 481 (by decide +kernel) rfl, z_mem 479 (by decide +kernel) rfl⟩
set_option maxRecDepth 20000 in
theorem kc_Mo_gain : kC M_Mo_gain 3 := ⟨z_mem 1390 (by rfl) rfl, z_mem 107 (by decide +kernel) rfl, ⟨by decide, by decide⟩, by decide +kernel, by decide⟩
theorem k_Lw_47 : kV "WindBridesLaw" 47 12 M_Mo_gain 3 := ⟨kc_Mo_gain, _, _, _, rfl, z_mem 1388 (by decide +kernel) rfl, z_mem 1389 (by decide +kernel) rfl, z_mem 1387 (by decide +kernel) rfl⟩
set_option maxRecDepth 20000 in
theorem kc_Wb_ends : kC M_Wb_ends 1 := ⟨z_mem 496 (by rfl) rfl, z_mem 101 (by decide +kernel) rfl, ⟨by decide, by decide⟩, by decide +kernel, by decide⟩
theorem k_Lw_48 : kV "WindBridesLaw" 48 11 M_Wb_ends 1 := ⟨kc_Wb_ends, _, _, _, rfl, z_mem 494 (by decide +kernel) rfl, z_mem 495 (by decide +kernel) rfl, z_mem 493 (by decide +kernel) rfl⟩
set_option maxRecDepth 20000 in
theorem kc_Mo_ends : kC M_Mo_ends 1 := ⟨z_mem 1408 (by rfl) rfl, z_mem 107 (by decide +kernel) rfl, ⟨by decide, by decide⟩, by decide +kernel, by decide⟩
theorem k_Lw_52 : kV "WindBridesLaw" 52 12 M_Mo_ends 1 := ⟨kc_Mo_ends, _, _, _, rfl, z_mem 1406 (by decide +kernel) rfl, z_mem 1407 (by decide +kernel) rfl, z_mem 1405 (by decide +kernel) rfl⟩
set_option maxRecDepth 20000 in
theorem kc_Wb_anew : kC M_Wb_anew 0 := ⟨z_mem 500 (by rfl) rfl, z_mem 101 (by decide +kernel) rfl, ⟨by decide, by decide⟩, by decide +kernel, by decide⟩
theorem k_Lw_53 : kV "WindBridesLaw" 53 11 M_Wb_anew 0 := ⟨kc_Wb_anew, _, _, _, rfl, z_mem 498 (by decide +kernel) rfl, z_mem 499 (by decide +kernel) rfl, z_mem 497 (by decide +kernel) rfl⟩
set_option maxRecDepth 20000 in
theorem kc_Mo_anew : kC M_Mo_anew 0 := ⟨z_mem 1412 (by rfl) rfl, z_mem 107 (by decide +kernel) rfl, ⟨by decide, by decide⟩, by decide +kernel, by decide⟩
theorem k_Lw_57 : kV "WindBridesLaw" 57 12 M_Mo_anew 0 := ⟨kc_Mo_anew, _, _, _, rfl, z_mem 1410 (by decide +kernel) rfl, z_mem 1411 (by decide +kernel) rfl, z_mem 1409 (by decide +kernel) rfl⟩
set_option maxRecDepth 20000 in
theorem kc_Wb_state : kC M_Wb_state 1 := ⟨z_mem 504 (by rfl) rfl, z_mem 101 (by decide +kernel) rfl, ⟨by decide, by decide⟩, by decide +kernel, by decide⟩
theorem k_Lw_58 : kV "WindBridesLaw" 58 11 M_Wb_state 1 := ⟨kc_Wb_state, _, _, _, rfl, z_mem 502 (by decide +kernel) rfl, z_mem 503 (by decide +kernel) rfl, z_mem 501 (by decide +kernel) rfl⟩
set_option maxRecDepth 20000 in
theorem kc_Mo_state : kC M_Mo_state 1 := ⟨z_mem 1416 (by rfl) rfl, z_mem 107 (by decide +kernel) rfl, ⟨by decide, by decide⟩, by decide +kernel, by decide⟩
theorem k_Lw_61 : kV "WindBridesLaw" 61 12 M_Mo_state 1 := ⟨kc_Mo_state, _, _, _, rfl, z_mem 1414 (by decide +kernel) rfl, z_mem 1415 (by decide +kernel) rfl, z_mem 1413 (by decide +kernel) rfl⟩
theorem l_Lw_62 : Cond.constantLong "WindBridesLaw" 62 4294967295 ∈ zT := z_mem 1808 (by decide +kernel) rfl
set_option maxRecDepth 20000 in
theorem kc_Wb_feed : kC M_Wb_feed 2 := ⟨z_mem 512 (by rfl) rfl, z_mem 101 (by decide +kernel) rfl, ⟨by decide, by decide⟩, by decide +kernel, by decide⟩
theorem k_Lw_64 : kV "WindBridesLaw" 64 11 M_Wb_feed 2 := ⟨kc_Wb_feed, _, _, _, rfl, z_mem 510 (by decide +kernel) rfl, z_mem 511 (by decide +kernel) rfl, z_mem 509 (by decide +kernel) rfl⟩
set_option maxRecDepth 20000 in
theorem kc_Mo_feed : kC M_Mo_feed 2 := ⟨z_mem 1424 (by rfl) rfl, z_mem 107 (by decide +kernel) rfl, ⟨by decide, by decide⟩, by decide +kernel, by decide⟩
theorem k_Lw_68 : kV "WindBridesLaw" 68 12 M_Mo_feed 2 := ⟨kc_Mo_feed, _, _, _, rfl, z_mem 1422 (by decide +kernel) rfl, z_mem 1423 (by decide +kernel) rfl, z_mem 1421 (by decide +kernel) rfl⟩
set_option maxRecDepth 20000 in
theorem kc_Wb_rules : kC M_Wb_rules 0 := ⟨z_mem 524 (by rfl) rfl, z_mem 101 (by decide +kernel) rfl, ⟨by decide, by decide⟩, by decide +kernel, by decide⟩
theorem k_Lw_69 : kV "WindBridesLaw" 69 11 M_Wb_rules 0 := ⟨kc_Wb_rules, _, _, _, rfl, z_mem 522 (by decide +kernel) rfl, z_mem 523 (by decide +kernel) rfl, z_mem 521 (by decide +kernel) rfl⟩
set_option maxRecDepth 20000 in
theorem kc_Mo_rules : kC M_Mo_rules 0 := ⟨z_mem 1429 (by rfl) rfl, z_mem 107 (by decide +kernel) rfl, ⟨by decide, by decide⟩, by decide +kernel, by decide⟩
theorem k_Lw_72 : kV "WindBridesLaw" 72 12 M_Mo_rules 0 := ⟨kc_Mo_rules, _, _, _, rfl, z_mem 1427 (by decide +kernel) rfl, z_mem 1428 (by decide +kernel) rfl, z_mem 1426 (by decide +kernel) rfl⟩
set_option maxRecDepth 20000 in
theorem kc_Wb_month : kC M_Wb_month 0 := ⟨z_mem 647 (by rfl) rfl, z_mem 101 (by decide +kernel) rfl, ⟨by decide, by decide⟩, by decide +kernel, by decide⟩
theorem k_Lw_73 : kV "WindBridesLaw" 73 11 M_Wb_month 0 := ⟨kc_Wb_month, _, _, _, rfl, z_mem 645 (by decide +kernel) rfl, z_mem 646 (by decide +kernel) rfl, z_mem 644 (by decide +kernel) rfl⟩
set_option maxRecDepth 20000 in
theorem kc_Mo_month : kC M_Mo_month 0 := ⟨z_mem 1493 (by rfl) rfl, z_mem 107 (by decide +kernel) rfl, ⟨by decide, by decide⟩, by decide +kernel, by decide⟩
theorem k_Lw_76 : kV "WindBridesLaw" 76 12 M_Mo_month 0 := ⟨kc_Mo_month, _, _, _, rfl, z_mem 1491 (by decide +kernel) rfl, z_mem 1492 (by decide +kernel) rfl, z_mem 1490 (by decide +kernel) rfl⟩
set_option maxRecDepth 20000 in
theorem kc_Wb_on : kC M_Wb_on 1 := ⟨z_mem 679 (by rfl) rfl, z_mem 101 (by decide +kernel) rfl, ⟨by decide, by decide⟩, by decide +kernel, by decide⟩
theorem k_Lw_77 : kV "WindBridesLaw" 77 11 M_Wb_on 1 := ⟨kc_Wb_on, _, _, _, rfl, z_mem 677 (by decide +kernel) rfl, z_mem 678 (by decide +kernel) rfl, z_mem 676 (by decide +kernel) rfl⟩
set_option maxRecDepth 20000 in
theorem kc_Mo_on : kC M_Mo_on 1 := ⟨z_mem 1513 (by rfl) rfl, z_mem 107 (by decide +kernel) rfl, ⟨by decide, by decide⟩, by decide +kernel, by decide⟩
theorem k_Lw_80 : kV "WindBridesLaw" 80 12 M_Mo_on 1 := ⟨kc_Mo_on, _, _, _, rfl, z_mem 1511 (by decide +kernel) rfl, z_mem 1512 (by decide +kernel) rfl, z_mem 1510 (by decide +kernel) rfl⟩
set_option maxRecDepth 20000 in
theorem kc_Wb_courted : kC M_Wb_courted 1 := ⟨z_mem 688 (by rfl) rfl, z_mem 101 (by decide +kernel) rfl, ⟨by decide, by decide⟩, by decide +kernel, by decide⟩
theorem k_Lw_81 : kV "WindBridesLaw" 81 11 M_Wb_courted 1 := ⟨kc_Wb_courted, _, _, _, rfl, z_mem 686 (by decide +kernel) rfl, z_mem 687 (by decide +kernel) rfl, z_mem 685 (by decide +kernel) rfl⟩
set_option maxRecDepth 20000 in
theorem kc_Mo_courted : kC M_Mo_courted 1 := ⟨z_mem 1521 (by rfl) rfl, z_mem 107 (by decide +kernel) rfl, ⟨by decide, by decide⟩, by decide +kernel, by decide⟩
theorem k_Lw_84 : kV "WindBridesLaw" 84 12 M_Mo_courted 1 := ⟨kc_Mo_courted, _, _, _, rfl, z_mem 1519 (by decide +kernel) rfl, z_mem 1520 (by decide +kernel) rfl, z_mem 1518 (by decide +kernel) rfl⟩
set_option maxRecDepth 20000 in
theorem kc_Wb_breaks : kC M_Wb_breaks 1 := ⟨z_mem 692 (by rfl) rfl, z_mem 101 (by decide +kernel) rfl, ⟨by decide, by decide⟩, by decide +kernel, by decide⟩
theorem k_Lw_85 : kV "WindBridesLaw" 85 11 M_Wb_breaks 1 := ⟨kc_Wb_breaks, _, _, _, rfl, z_mem 690 (by decide +kernel) rfl, z_mem 691 (by decide +kernel) rfl, z_mem 689 (by decide +kernel) rfl⟩
set_option maxRecDepth 20000 in
theorem kc_Mo_breaks : kC M_Mo_breaks 1 := ⟨z_mem 1525 (by rfl) rfl, z_mem 107 (by decide +kernel) rfl, ⟨by decide, by decide⟩, by decide +kernel, by decide⟩
theorem k_Lw_88 : kV "WindBridesLaw" 88 12 M_Mo_breaks 1 := ⟨kc_Mo_breaks, _, _, _, rfl, z_mem 1523 (by decide +kernel) rfl, z_mem 1524 (by decide +kernel) rfl, z_mem 1522 (by decide +kernel) rfl⟩
set_option maxRecDepth 20000 in
theorem kc_Wb_windFor : kC M_Wb_windFor 1 := ⟨z_mem 696 (by rfl) rfl, z_mem 101 (by decide +kernel) rfl, ⟨by decide, by decide⟩, by decide +kernel, by decide⟩
theorem k_Lw_89 : kV "WindBridesLaw" 89 11 M_Wb_windFor 1 := ⟨kc_Wb_windFor, _, _, _, rfl, z_mem 694 (by decide +kernel) rfl, z_mem 695 (by decide +kernel) rfl, z_mem 693 (by decide +kernel) rfl⟩
set_option maxRecDepth 20000 in
theorem kc_Mo_windFor : kC M_Mo_windFor 1 := ⟨z_mem 1529 (by rfl) rfl, z_mem 107 (by decide +kernel) rfl, ⟨by decide, by decide⟩, by decide +kernel, by decide⟩
theorem k_Lw_92 : kV "WindBridesLaw" 92 12 M_Mo_windFor 1 := ⟨kc_Mo_windFor, _, _, _, rfl, z_mem 1527 (by decide +kernel) rfl, z_mem 1528 (by decide +kernel) rfl, z_mem 1526 (by decide +kernel) rfl⟩
set_option maxRecDepth 20000 in
theorem kc_Wb_dowryFor : kC M_Wb_dowryFor 1 := ⟨z_mem 704 (by rfl) rfl, z_mem 101 (by decide +kernel) rfl, ⟨by decide, by decide⟩, by decide +kernel, by decide⟩
theorem k_Lw_93 : kV "WindBridesLaw" 93 11 M_Wb_dowryFor 1 := ⟨kc_Wb_dowryFor, _, _, _, rfl, z_mem 702 (by decide +kernel) rfl, z_mem 703 (by decide +kernel) rfl, z_mem 701 (by decide +kernel) rfl⟩
set_option maxRecDepth 20000 in
theorem kc_Mo_dowryFor : kC M_Mo_dowryFor 1 := ⟨z_mem 1533 (by rfl) rfl, z_mem 107 (by decide +kernel) rfl, ⟨by decide, by decide⟩, by decide +kernel, by decide⟩
theorem k_Lw_96 : kV "WindBridesLaw" 96 12 M_Mo_dowryFor 1 := ⟨kc_Mo_dowryFor, _, _, _, rfl, z_mem 1531 (by decide +kernel) rfl, z_mem 1532 (by decide +kernel) rfl, z_mem 1530 (by decide +kernel) rfl⟩
set_option maxRecDepth 20000 in
theorem kc_Wb_leave : kC M_Wb_leave 0 := ⟨z_mem 708 (by rfl) rfl, z_mem 101 (by decide +kernel) rfl, ⟨by decide, by decide⟩, by decide +kernel, by decide⟩
theorem k_Lw_97 : kV "WindBridesLaw" 97 11 M_Wb_leave 0 := ⟨kc_Wb_leave, _, _, _, rfl, z_mem 706 (by decide +kernel) rfl, z_mem 707 (by decide +kernel) rfl, z_mem 705 (by decide +kernel) rfl⟩
set_option maxRecDepth 20000 in
theorem kc_Mo_leave : kC M_Mo_leave 0 := ⟨z_mem 1537 (by rfl) rfl, z_mem 107 (by decide +kernel) rfl, ⟨by decide, by decide⟩, by decide +kernel, by decide⟩
theorem k_Lw_100 : kV "WindBridesLaw" 100 12 M_Mo_leave 0 := ⟨kc_Mo_leave, _, _, _, rfl, z_mem 1535 (by decide +kernel) rfl, z_mem 1536 (by decide +kernel) rfl, z_mem 1534 (by decide +kernel) rfl⟩
set_option maxRecDepth 20000 in
theorem kc_Wb_first : kC M_Wb_first 0 := ⟨z_mem 729 (by rfl) rfl, z_mem 101 (by decide +kernel) rfl, ⟨by decide, by decide⟩, by decide +kernel, by decide⟩
theorem k_Lw_101 : kV "WindBridesLaw" 101 11 M_Wb_first 0 := ⟨kc_Wb_first, _, _, _, rfl, z_mem 727 (by decide +kernel) rfl, z_mem 728 (by decide +kernel) rfl, z_mem 726 (by decide +kernel) rfl⟩
set_option maxRecDepth 20000 in
theorem kc_Mo_first : kC M_Mo_first 0 := ⟨z_mem 1557 (by rfl) rfl, z_mem 107 (by decide +kernel) rfl, ⟨by decide, by decide⟩, by decide +kernel, by decide⟩
theorem k_Lw_104 : kV "WindBridesLaw" 104 12 M_Mo_first 0 := ⟨kc_Mo_first, _, _, _, rfl, z_mem 1555 (by decide +kernel) rfl, z_mem 1556 (by decide +kernel) rfl, z_mem 1554 (by decide +kernel) rfl⟩
set_option maxRecDepth 20000 in
theorem kc_Wb_kept : kC M_Wb_kept 1 := ⟨z_mem 733 (by rfl) rfl, z_mem 101 (by decide +kernel) rfl, ⟨by decide, by decide⟩, by decide +kernel, by decide⟩
theorem k_Lw_105 : kV "WindBridesLaw" 105 11 M_Wb_kept 1 := ⟨kc_Wb_kept, _, _, _, rfl, z_mem 731 (by decide +kernel) rfl, z_mem 732 (by decide +kernel) rfl, z_mem 730 (by decide +kernel) rfl⟩
set_option maxRecDepth 20000 in
theorem kc_Mo_kept : kC M_Mo_kept 1 := ⟨z_mem 1561 (by rfl) rfl, z_mem 107 (by decide +kernel) rfl, ⟨by decide, by decide⟩, by decide +kernel, by decide⟩
theorem k_Lw_108 : kV "WindBridesLaw" 108 12 M_Mo_kept 1 := ⟨kc_Mo_kept, _, _, _, rfl, z_mem 1559 (by decide +kernel) rfl, z_mem 1560 (by decide +kernel) rfl, z_mem 1558 (by decide +kernel) rfl⟩
set_option maxRecDepth 20000 in
theorem kc_Wb_ring : kC M_Wb_ring 1 := ⟨z_mem 749 (by rfl) rfl, z_mem 101 (by decide +kernel) rfl, ⟨by decide, by decide⟩, by decide +kernel, by decide⟩
theorem k_Lw_109 : kV "WindBridesLaw" 109 11 M_Wb_ring 1 := ⟨kc_Wb_ring, _, _, _, rfl, z_mem 747 (by decide +kernel) rfl, z_mem 748 (by decide +kernel) rfl, z_mem 746 (by decide +kernel) rfl⟩
set_option maxRecDepth 20000 in
theorem kc_Mo_ring : kC M_Mo_ring 1 := ⟨z_mem 1573 (by rfl) rfl, z_mem 107 (by decide +kernel) rfl, ⟨by decide, by decide⟩, by decide +kernel, by decide⟩
theorem k_Lw_112 : kV "WindBridesLaw" 112 12 M_Mo_ring 1 := ⟨kc_Mo_ring, _, _, _, rfl, z_mem 1571 (by decide +kernel) rfl, z_mem 1572 (by decide +kernel) rfl, z_mem 1570 (by decide +kernel) rfl⟩
set_option maxRecDepth 20000 in
theorem kc_Wb_best : kC M_Wb_best 1 := ⟨z_mem 761 (by rfl) rfl, z_mem 101 (by decide +kernel) rfl, ⟨by decide, by decide⟩, by decide +kernel, by decide⟩
theorem k_Lw_113 : kV "WindBridesLaw" 113 11 M_Wb_best 1 := ⟨kc_Wb_best, _, _, _, rfl, z_mem 759 (by decide +kernel) rfl, z_mem 760 (by decide +kernel) rfl, z_mem 758 (by decide +kernel) rfl⟩
set_option maxRecDepth 20000 in
theorem kc_Mo_best : kC M_Mo_best 1 := ⟨z_mem 1581 (by rfl) rfl, z_mem 107 (by decide +kernel) rfl, ⟨by decide, by decide⟩, by decide +kernel, by decide⟩
theorem k_Lw_116 : kV "WindBridesLaw" 116 12 M_Mo_best 1 := ⟨kc_Mo_best, _, _, _, rfl, z_mem 1579 (by decide +kernel) rfl, z_mem 1580 (by decide +kernel) rfl, z_mem 1578 (by decide +kernel) rfl⟩
set_option maxRecDepth 20000 in
theorem kc_Wb_ith : kC M_Wb_ith 2 := ⟨z_mem 791 (by rfl) rfl, z_mem 101 (by decide +kernel) rfl, ⟨by decide, by decide⟩, by decide +kernel, by decide⟩
theorem k_Lw_117 : kV "WindBridesLaw" 117 11 M_Wb_ith 2 := ⟨kc_Wb_ith, _, _, _, rfl, z_mem 789 (by decide +kernel) rfl, z_mem 790 (by decide +kernel) rfl, z_mem 788 (by decide +kernel) rfl⟩
set_option maxRecDepth 20000 in
theorem kc_Mo_ith : kC M_Mo_ith 2 := ⟨z_mem 1608 (by rfl) rfl, z_mem 107 (by decide +kernel) rfl, ⟨by decide, by decide⟩, by decide +kernel, by decide⟩
theorem k_Lw_120 : kV "WindBridesLaw" 120 12 M_Mo_ith 2 := ⟨kc_Mo_ith, _, _, _, rfl, z_mem 1606 (by decide +kernel) rfl, z_mem 1607 (by decide +kernel) rfl, z_mem 1605 (by decide +kernel) rfl⟩
set_option maxRecDepth 20000 in
theorem kc_Wb_ways : kC M_Wb_ways 1 := ⟨z_mem 795 (by rfl) rfl, z_mem 101 (by decide +kernel) rfl, ⟨by decide, by decide⟩, by decide +kernel, by decide⟩
theorem k_Lw_121 : kV "WindBridesLaw" 121 11 M_Wb_ways 1 := ⟨kc_Wb_ways, _, _, _, rfl, z_mem 793 (by decide +kernel) rfl, z_mem 794 (by decide +kernel) rfl, z_mem 792 (by decide +kernel) rfl⟩
set_option maxRecDepth 20000 in
theorem kc_Mo_ways : kC M_Mo_ways 1 := ⟨z_mem 1612 (by rfl) rfl, z_mem 107 (by decide +kernel) rfl, ⟨by decide, by decide⟩, by decide +kernel, by decide⟩
theorem k_Lw_124 : kV "WindBridesLaw" 124 12 M_Mo_ways 1 := ⟨kc_Mo_ways, _, _, _, rfl, z_mem 1610 (by decide +kernel) rfl, z_mem 1611 (by decide +kernel) rfl, z_mem 1609 (by decide +kernel) rfl⟩
set_option maxRecDepth 20000 in
theorem kc_Wb_bound : kC M_Wb_bound 2 := ⟨z_mem 799 (by rfl) rfl, z_mem 101 (by decide +kernel) rfl, ⟨by decide, by decide⟩, by decide +kernel, by decide⟩
theorem k_Lw_125 : kV "WindBridesLaw" 125 11 M_Wb_bound 2 := ⟨kc_Wb_bound, _, _, _, rfl, z_mem 797 (by decide +kernel) rfl, z_mem 798 (by decide +kernel) rfl, z_mem 796 (by decide +kernel) rfl⟩
set_option maxRecDepth 20000 in
theorem kc_Mo_bound : kC M_Mo_bound 2 := ⟨z_mem 1616 (by rfl) rfl, z_mem 107 (by decide +kernel) rfl, ⟨by decide, by decide⟩, by decide +kernel, by decide⟩
theorem k_Lw_128 : kV "WindBridesLaw" 128 12 M_Mo_bound 2 := ⟨kc_Mo_bound, _, _, _, rfl, z_mem 1614 (by decide +kernel) rfl, z_mem 1615 (by decide +kernel) rfl, z_mem 1613 (by decide +kernel) rfl⟩
set_option maxRecDepth 20000 in
theorem kc_Wb_bars : kC M_Wb_bars 2 := ⟨z_mem 807 (by rfl) rfl, z_mem 101 (by decide +kernel) rfl, ⟨by decide, by decide⟩, by decide +kernel, by decide⟩
theorem k_Lw_129 : kV "WindBridesLaw" 129 11 M_Wb_bars 2 := ⟨kc_Wb_bars, _, _, _, rfl, z_mem 805 (by decide +kernel) rfl, z_mem 806 (by decide +kernel) rfl, z_mem 804 (by decide +kernel) rfl⟩
set_option maxRecDepth 20000 in
theorem kc_Mo_bars : kC M_Mo_bars 2 := ⟨z_mem 1628 (by rfl) rfl, z_mem 107 (by decide +kernel) rfl, ⟨by decide, by decide⟩, by decide +kernel, by decide⟩
theorem k_Lw_132 : kV "WindBridesLaw" 132 12 M_Mo_bars 2 := ⟨kc_Mo_bars, _, _, _, rfl, z_mem 1626 (by decide +kernel) rfl, z_mem 1627 (by decide +kernel) rfl, z_mem 1625 (by decide +kernel) rfl⟩
set_option maxRecDepth 20000 in
theorem kc_Wb_game : kC M_Wb_game 1 := ⟨z_mem 815 (by rfl) rfl, z_mem 101 (by decide +kernel) rfl, ⟨by decide, by decide⟩, by decide +kernel, by decide⟩
theorem k_Lw_133 : kV "WindBridesLaw" 133 11 M_Wb_game 1 := ⟨kc_Wb_game, _, _, _, rfl, z_mem 813 (by decide +kernel) rfl, z_mem 814 (by decide +kernel) rfl, z_mem 812 (by decide +kernel) rfl⟩
set_option maxRecDepth 20000 in
theorem kc_Mo_game : kC M_Mo_game 1 := ⟨z_mem 1632 (by rfl) rfl, z_mem 107 (by decide +kernel) rfl, ⟨by decide, by decide⟩, by decide +kernel, by decide⟩
theorem k_Lw_136 : kV "WindBridesLaw" 136 12 M_Mo_game 1 := ⟨kc_Mo_game, _, _, _, rfl, z_mem 1630 (by decide +kernel) rfl, z_mem 1631 (by decide +kernel) rfl, z_mem 1629 (by decide +kernel) rfl⟩
set_option maxRecDepth 20000 in
theorem kc_Wb_play : kC M_Wb_play 1 := ⟨z_mem 827 (by rfl) rfl, z_mem 101 (by decide +kernel) rfl, ⟨by decide, by decide⟩, by decide +kernel, by decide⟩
theorem k_Lw_137 : kV "WindBridesLaw" 137 11 M_Wb_play 1 := ⟨kc_Wb_play, _, _, _, rfl, z_mem 825 (by decide +kernel) rfl, z_mem 826 (by decide +kernel) rfl, z_mem 824 (by decide +kernel) rfl⟩
set_option maxRecDepth 20000 in
theorem kc_Mo_play : kC M_Mo_play 1 := ⟨z_mem 1640 (by rfl) rfl, z_mem 107 (by decide +kernel) rfl, ⟨by decide, by decide⟩, by decide +kernel, by decide⟩
theorem k_Lw_140 : kV "WindBridesLaw" 140 12 M_Mo_play 1 := ⟨kc_Mo_play, _, _, _, rfl, z_mem 1638 (by decide +kernel) rfl, z_mem 1639 (by decide +kernel) rfl, z_mem 1637 (by decide +kernel) rfl⟩
set_option maxRecDepth 20000 in
theorem kc_Wb_report : kC M_Wb_report 4 := ⟨z_mem 831 (by rfl) rfl, z_mem 101 (by decide +kernel) rfl, ⟨by decide, by decide⟩, by decide +kernel, by decide⟩
theorem k_Lw_141 : kV "WindBridesLaw" 141 11 M_Wb_report 4 := ⟨kc_Wb_report, _, _, _, rfl, z_mem 829 (by decide +kernel) rfl, z_mem 830 (by decide +kernel) rfl, z_mem 828 (by decide +kernel) rfl⟩
set_option maxRecDepth 20000 in
theorem kc_Mo_report : kC M_Mo_report 4 := ⟨z_mem 1644 (by rfl) rfl, z_mem 107 (by decide +kernel) rfl, ⟨by decide, by decide⟩, by decide +kernel, by decide⟩
theorem k_Lw_144 : kV "WindBridesLaw" 144 12 M_Mo_report 4 := ⟨kc_Mo_report, _, _, _, rfl, z_mem 1642 (by decide +kernel) rfl, z_mem 1643 (by decide +kernel) rfl, z_mem 1641 (by decide +kernel) rfl⟩
set_option maxRecDepth 20000 in
theorem kc_Wb_forget : kC M_Wb_forget 0 := ⟨z_mem 839 (by rfl) rfl, z_mem 101 (by decide +kernel) rfl, ⟨by decide, by decide⟩, by decide +kernel, by decide⟩
theorem k_Lw_145 : kV "WindBridesLaw" 145 11 M_Wb_forget 0 := ⟨kc_Wb_forget, _, _, _, rfl, z_mem 837 (by decide +kernel) rfl, z_mem 838 (by decide +kernel) rfl, z_mem 836 (by decide +kernel) rfl⟩
set_option maxRecDepth 20000 in
theorem kc_Mo_forget : kC M_Mo_forget 0 := ⟨z_mem 1648 (by rfl) rfl, z_mem 107 (by decide +kernel) rfl, ⟨by decide, by decide⟩, by decide +kernel, by decide⟩
theorem k_Lw_148 : kV "WindBridesLaw" 148 12 M_Mo_forget 0 := ⟨kc_Mo_forget, _, _, _, rfl, z_mem 1646 (by decide +kernel) rfl, z_mem 1647 (by decide +kernel) rfl, z_mem 1645 (by decide +kernel) rfl⟩
set_option maxRecDepth 20000 in
theorem kc_Wb_span : kC M_Wb_span 1 := ⟨z_mem 843 (by rfl) rfl, z_mem 101 (by decide +kernel) rfl, ⟨by decide, by decide⟩, by decide +kernel, by decide⟩
theorem k_Lw_149 : kV "WindBridesLaw" 149 11 M_Wb_span 1 := ⟨kc_Wb_span, _, _, _, rfl, z_mem 841 (by decide +kernel) rfl, z_mem 842 (by decide +kernel) rfl, z_mem 840 (by decide +kernel) rfl⟩
set_option maxRecDepth 20000 in
theorem kc_Mo_span : kC M_Mo_span 1 := ⟨z_mem 1652 (by rfl) rfl, z_mem 107 (by decide +kernel) rfl, ⟨by decide, by decide⟩, by decide +kernel, by decide⟩
theorem k_Lw_152 : kV "WindBridesLaw" 152 12 M_Mo_span 1 := ⟨kc_Mo_span, _, _, _, rfl, z_mem 1650 (by decide +kernel) rfl, z_mem 1651 (by decide +kernel) rfl, z_mem 1649 (by decide +kernel) rfl⟩
set_option maxRecDepth 20000 in
theorem kc_Wb_liar : kC M_Wb_liar 0 := ⟨z_mem 856 (by rfl) rfl, z_mem 101 (by decide +kernel) rfl, ⟨by decide, by decide⟩, by decide +kernel, by decide⟩
theorem k_Lw_153 : kV "WindBridesLaw" 153 11 M_Wb_liar 0 := ⟨kc_Wb_liar, _, _, _, rfl, z_mem 854 (by decide +kernel) rfl, z_mem 855 (by decide +kernel) rfl, z_mem 853 (by decide +kernel) rfl⟩
set_option maxRecDepth 20000 in
theorem kc_Mo_liar : kC M_Mo_liar 0 := ⟨z_mem 1664 (by rfl) rfl, z_mem 107 (by decide +kernel) rfl, ⟨by decide, by decide⟩, by decide +kernel, by decide⟩
theorem k_Lw_156 : kV "WindBridesLaw" 156 12 M_Mo_liar 0 := ⟨kc_Mo_liar, _, _, _, rfl, z_mem 1662 (by decide +kernel) rfl, z_mem 1663 (by decide +kernel) rfl, z_mem 1661 (by decide +kernel) rfl⟩
set_option maxRecDepth 20000 in
theorem kc_Wb_seed : kC M_Wb_seed 1 := ⟨z_mem 860 (by rfl) rfl, z_mem 101 (by decide +kernel) rfl, ⟨by decide, by decide⟩, by decide +kernel, by decide⟩
theorem k_Lw_157 : kV "WindBridesLaw" 157 11 M_Wb_seed 1 := ⟨kc_Wb_seed, _, _, _, rfl, z_mem 858 (by decide +kernel) rfl, z_mem 859 (by decide +kernel) rfl, z_mem 857 (by decide +kernel) rfl⟩
set_option maxRecDepth 20000 in
theorem kc_Mo_seed : kC M_Mo_seed 1 := ⟨z_mem 1668 (by rfl) rfl, z_mem 107 (by decide +kernel) rfl, ⟨by decide, by decide⟩, by decide +kernel, by decide⟩
theorem k_Lw_160 : kV "WindBridesLaw" 160 12 M_Mo_seed 1 := ⟨kc_Mo_seed, _, _, _, rfl, z_mem 1666 (by decide +kernel) rfl, z_mem 1667 (by decide +kernel) rfl, z_mem 1665 (by decide +kernel) rfl⟩
set_option maxRecDepth 20000 in
theorem kc_Wb_lot : kC M_Wb_lot 0 := ⟨z_mem 864 (by rfl) rfl, z_mem 101 (by decide +kernel) rfl, ⟨by decide, by decide⟩, by decide +kernel, by decide⟩
theorem k_Lw_161 : kV "WindBridesLaw" 161 11 M_Wb_lot 0 := ⟨kc_Wb_lot, _, _, _, rfl, z_mem 862 (by decide +kernel) rfl, z_mem 863 (by decide +kernel) rfl, z_mem 861 (by decide +kernel) rfl⟩
set_option maxRecDepth 20000 in
theorem kc_Mo_lot : kC M_Mo_lot 0 := ⟨z_mem 1672 (by rfl) rfl, z_mem 107 (by decide +kernel) rfl, ⟨by decide, by decide⟩, by decide +kernel, by decide⟩
theorem k_Lw_164 : kV "WindBridesLaw" 164 12 M_Mo_lot 0 := ⟨kc_Mo_lot, _, _, _, rfl, z_mem 1670 (by decide +kernel) rfl, z_mem 1671 (by decide +kernel) rfl, z_mem 1669 (by decide +kernel) rfl⟩
set_option maxRecDepth 20000 in
theorem kc_Wb_often : kC M_Wb_often 2 := ⟨z_mem 873 (by rfl) rfl, z_mem 101 (by decide +kernel) rfl, ⟨by decide, by decide⟩, by decide +kernel, by decide⟩
theorem k_Lw_165 : kV "WindBridesLaw" 165 11 M_Wb_often 2 := ⟨kc_Wb_often, _, _, _, rfl, z_mem 871 (by decide +kernel) rfl, z_mem 872 (by decide +kernel) rfl, z_mem 870 (by decide +kernel) rfl⟩
set_option maxRecDepth 20000 in
theorem kc_Mo_often : kC M_Mo_often 2 := ⟨z_mem 1681 (by rfl) rfl, z_mem 107 (by decide +kernel) rfl, ⟨by decide, by decide⟩, by decide +kernel, by decide⟩
theorem k_Lw_168 : kV "WindBridesLaw" 168 12 M_Mo_often 2 := ⟨kc_Mo_often, _, _, _, rfl, z_mem 1679 (by decide +kernel) rfl, z_mem 1680 (by decide +kernel) rfl, z_mem 1678 (by decide +kernel) rfl⟩
set_option maxRecDepth 20000 in
theorem kc_Wb_prove : kC M_Wb_prove 1 := ⟨z_mem 877 (by rfl) rfl, z_mem 101 (by decide +kernel) rfl, ⟨by decide, by decide⟩, by decide +kernel, by decide⟩
theorem k_Lw_169 : kV "WindBridesLaw" 169 11 M_Wb_prove 1 := ⟨kc_Wb_prove, _, _, _, rfl, z_mem 875 (by decide +kernel) rfl, z_mem 876 (by decide +kernel) rfl, z_mem 874 (by decide +kernel) rfl⟩
set_option maxRecDepth 20000 in
theorem kc_Mo_prove : kC M_Mo_prove 1 := ⟨z_mem 1685 (by rfl) rfl, z_mem 107 (by decide +kernel) rfl, ⟨by decide, by decide⟩, by decide +kernel, by decide⟩
theorem k_Lw_172 : kV "WindBridesLaw" 172 12 M_Mo_prove 1 := ⟨kc_Mo_prove, _, _, _, rfl, z_mem 1683 (by decide +kernel) rfl, z_mem 1684 (by decide +kernel) rfl, z_mem 1682 (by decide +kernel) rfl⟩
set_option maxRecDepth 20000 in
theorem kc_Wb_row : kC M_Wb_row 2 := ⟨z_mem 885 (by rfl) rfl, z_mem 101 (by decide +kernel) rfl, ⟨by decide, by decide⟩, by decide +kernel, by decide⟩
theorem k_Lw_173 : kV "WindBridesLaw" 173 11 M_Wb_row 2 := ⟨kc_Wb_row, _, _, _, rfl, z_mem 883 (by decide +kernel) rfl, z_mem 884 (by decide +kernel) rfl, z_mem 882 (by decide +kernel) rfl⟩
set_option maxRecDepth 20000 in
theorem kc_Mo_row : kC M_Mo_row 2 := ⟨z_mem 1689 (by rfl) rfl, z_mem 107 (by decide +kernel) rfl, ⟨by decide, by decide⟩, by decide +kernel, by decide⟩
theorem k_Lw_176 : kV "WindBridesLaw" 176 12 M_Mo_row 2 := ⟨kc_Mo_row, _, _, _, rfl, z_mem 1687 (by decide +kernel) rfl, z_mem 1688 (by decide +kernel) rfl, z_mem 1686 (by decide +kernel) rfl⟩
set_option maxRecDepth 20000 in
theorem kc_Wb_alterRow : kC M_Wb_alterRow 3 := ⟨z_mem 894 (by rfl) rfl, z_mem 101 (by decide +kernel) rfl, ⟨by decide, by decide⟩, by decide +kernel, by decide⟩
theorem k_Lw_177 : kV "WindBridesLaw" 177 11 M_Wb_alterRow 3 := ⟨kc_Wb_alterRow, _, _, _, rfl, z_mem 892 (by decide +kernel) rfl, z_mem 893 (by decide +kernel) rfl, z_mem 891 (by decide +kernel) rfl⟩
set_option maxRecDepth 20000 in
theorem kc_Mo_alterRow : kC M_Mo_alterRow 3 := ⟨z_mem 1697 (by rfl) rfl, z_mem 107 (by decide +kernel) rfl, ⟨by decide, by decide⟩, by decide +kernel, by decide⟩
theorem k_Lw_180 : kV "WindBridesLaw" 180 12 M_Mo_alterRow 3 := ⟨kc_Mo_alterRow, _, _, _, rfl, z_mem 1695 (by decide +kernel) rfl, z_mem 1696 (by decide +kernel) rfl, z_mem 1694 (by decide +kernel) rfl⟩
set_option maxRecDepth 20000 in
theorem kc_Wb_judge : kC M_Wb_judge 0 := ⟨z_mem 898 (by rfl) rfl, z_mem 101 (by decide +kernel) rfl, ⟨by decide, by decide⟩, by decide +kernel, by decide⟩
theorem k_Lw_181 : kV "WindBridesLaw" 181 11 M_Wb_judge 0 := ⟨kc_Wb_judge, _, _, _, rfl, z_mem 896 (by decide +kernel) rfl, z_mem 897 (by decide +kernel) rfl, z_mem 895 (by decide +kernel) rfl⟩
set_option maxRecDepth 20000 in
theorem kc_Mo_judge : kC M_Mo_judge 0 := ⟨z_mem 1701 (by rfl) rfl, z_mem 107 (by decide +kernel) rfl, ⟨by decide, by decide⟩, by decide +kernel, by decide⟩
theorem k_Lw_184 : kV "WindBridesLaw" 184 12 M_Mo_judge 0 := ⟨kc_Mo_judge, _, _, _, rfl, z_mem 1699 (by decide +kernel) rfl, z_mem 1700 (by decide +kernel) rfl, z_mem 1698 (by decide +kernel) rfl⟩
set_option maxRecDepth 20000 in
theorem kc_Wb_sheet : kC M_Wb_sheet 3 := ⟨z_mem 910 (by rfl) rfl, z_mem 101 (by decide +kernel) rfl, ⟨by decide, by decide⟩, by decide +kernel, by decide⟩
theorem k_Lw_185 : kV "WindBridesLaw" 185 11 M_Wb_sheet 3 := ⟨kc_Wb_sheet, _, _, _, rfl, z_mem 908 (by decide +kernel) rfl, z_mem 909 (by decide +kernel) rfl, z_mem 907 (by decide +kernel) rfl⟩
set_option maxRecDepth 20000 in
theorem kc_Mo_sheet : kC M_Mo_sheet 3 := ⟨z_mem 1705 (by rfl) rfl, z_mem 107 (by decide +kernel) rfl, ⟨by decide, by decide⟩, by decide +kernel, by decide⟩
theorem k_Lw_188 : kV "WindBridesLaw" 188 12 M_Mo_sheet 3 := ⟨kc_Mo_sheet, _, _, _, rfl, z_mem 1703 (by decide +kernel) rfl, z_mem 1704 (by decide +kernel) rfl, z_mem 1702 (by decide +kernel) rfl⟩
set_option maxRecDepth 20000 in
theorem kc_Wb_write : kC M_Wb_write 3 := ⟨z_mem 917 (by rfl) rfl, z_mem 101 (by decide +kernel) rfl, ⟨by decide, by decide⟩, by decide +kernel, by decide⟩
theorem k_Lw_189 : kV "WindBridesLaw" 189 11 M_Wb_write 3 := ⟨kc_Wb_write, _, _, _, rfl, z_mem 915 (by decide +kernel) rfl, z_mem 916 (by decide +kernel) rfl, z_mem 914 (by decide +kernel) rfl⟩
set_option maxRecDepth 20000 in
theorem kc_Mo_write : kC M_Mo_write 3 := ⟨z_mem 1712 (by rfl) rfl, z_mem 107 (by decide +kernel) rfl, ⟨by decide, by decide⟩, by decide +kernel, by decide⟩
theorem k_Lw_192 : kV "WindBridesLaw" 192 12 M_Mo_write 3 := ⟨kc_Mo_write, _, _, _, rfl, z_mem 1710 (by decide +kernel) rfl, z_mem 1711 (by decide +kernel) rfl, z_mem 1709 (by decide +kernel) rfl⟩
set_option maxRecDepth 20000 in
theorem kc_Wb_item : kC M_Wb_item 3 := ⟨z_mem 928 (by rfl) rfl, z_mem 101 (by decide +kernel) rfl, ⟨by decide, by decide⟩, by decide +kernel, by decide⟩
theorem k_Lw_193 : kV "WindBridesLaw" 193 11 M_Wb_item 3 := ⟨kc_Wb_item, _, _, _, rfl, z_mem 926 (by decide +kernel) rfl, z_mem 927 (by decide +kernel) rfl, z_mem 925 (by decide +kernel) rfl⟩
set_option maxRecDepth 20000 in
theorem kc_Mo_item : kC M_Mo_item 3 := ⟨z_mem 1716 (by rfl) rfl, z_mem 107 (by decide +kernel) rfl, ⟨by decide, by decide⟩, by decide +kernel, by decide⟩
theorem k_Lw_196 : kV "WindBridesLaw" 196 12 M_Mo_item 3 := ⟨kc_Mo_item, _, _, _, rfl, z_mem 1714 (by decide +kernel) rfl, z_mem 1715 (by decide +kernel) rfl, z_mem 1713 (by decide +kernel) rfl⟩
set_option maxRecDepth 20000 in
theorem kc_Wb_goAll : kC M_Wb_goAll 3 := ⟨z_mem 936 (by rfl) rfl, z_mem 101 (by decide +kernel) rfl, ⟨by decide, by decide⟩, by decide +kernel, by decide⟩
theorem k_Lw_197 : kV "WindBridesLaw" 197 11 M_Wb_goAll 3 := ⟨kc_Wb_goAll, _, _, _, rfl, z_mem 934 (by decide +kernel) rfl, z_mem 935 (by decide +kernel) rfl, z_mem 933 (by decide +kernel) rfl⟩
set_option maxRecDepth 20000 in
theorem kc_Mo_goAll : kC M_Mo_goAll 3 := ⟨z_mem 1720 (by rfl) rfl, z_mem 107 (by decide +kernel) rfl, ⟨by decide, by decide⟩, by decide +kernel, by decide⟩
theorem k_Lw_200 : kV "WindBridesLaw" 200 12 M_Mo_goAll 3 := ⟨kc_Mo_goAll, _, _, _, rfl, z_mem 1718 (by decide +kernel) rfl, z_mem 1719 (by decide +kernel) rfl, z_mem 1717 (by decide +kernel) rfl⟩
set_option maxRecDepth 20000 in
theorem kc_Wb_wouldBe : kC M_Wb_wouldBe 3 := ⟨z_mem 941 (by rfl) rfl, z_mem 101 (by decide +kernel) rfl, ⟨by decide, by decide⟩, by decide +kernel, by decide⟩
theorem k_Lw_201 : kV "WindBridesLaw" 201 11 M_Wb_wouldBe 3 := ⟨kc_Wb_wouldBe, _, _, _, rfl, z_mem 939 (by decide +kernel) rfl, z_mem 940 (by decide +kernel) rfl, z_mem 938 (by decide +kernel) rfl⟩
set_option maxRecDepth 20000 in
theorem kc_Mo_wouldBe : kC M_Mo_wouldBe 3 := ⟨z_mem 1732 (by rfl) rfl, z_mem 107 (by decide +kernel) rfl, ⟨by decide, by decide⟩, by decide +kernel, by decide⟩
theorem k_Lw_204 : kV "WindBridesLaw" 204 12 M_Mo_wouldBe 3 := ⟨kc_Mo_wouldBe, _, _, _, rfl, z_mem 1730 (by decide +kernel) rfl, z_mem 1731 (by decide +kernel) rfl, z_mem 1729 (by decide +kernel) rfl⟩
set_option maxRecDepth 20000 in
theorem kc_Wb_shelf : kC M_Wb_shelf 3 := ⟨z_mem 945 (by rfl) rfl, z_mem 101 (by decide +kernel) rfl, ⟨by decide, by decide⟩, by decide +kernel, by decide⟩
theorem k_Lw_205 : kV "WindBridesLaw" 205 11 M_Wb_shelf 3 := ⟨kc_Wb_shelf, _, _, _, rfl, z_mem 943 (by decide +kernel) rfl, z_mem 944 (by decide +kernel) rfl, z_mem 942 (by decide +kernel) rfl⟩
set_option maxRecDepth 20000 in
theorem kc_Mo_shelf : kC M_Mo_shelf 3 := ⟨z_mem 1736 (by rfl) rfl, z_mem 107 (by decide +kernel) rfl, ⟨by decide, by decide⟩, by decide +kernel, by decide⟩
theorem k_Lw_208 : kV "WindBridesLaw" 208 12 M_Mo_shelf 3 := ⟨kc_Mo_shelf, _, _, _, rfl, z_mem 1734 (by decide +kernel) rfl, z_mem 1735 (by decide +kernel) rfl, z_mem 1733 (by decide +kernel) rfl⟩
set_option maxRecDepth 20000 in
theorem kc_Wb_taken : kC M_Wb_taken 2 := ⟨z_mem 956 (by rfl) rfl, z_mem 101 (by decide +kernel) rfl, ⟨by decide, by decide⟩, by decide +kernel, by decide⟩
theorem k_Lw_209 : kV "WindBridesLaw" 209 11 M_Wb_taken 2 := ⟨kc_Wb_taken, _, _, _, rfl, z_mem 954 (by decide +kernel) rfl, z_mem 955 (by decide +kernel) rfl, z_mem 953 (by decide +kernel) rfl⟩
set_option maxRecDepth 20000 in
theorem kc_Mo_taken : kC M_Mo_taken 2 := ⟨z_mem 1740 (by rfl) rfl, z_mem 107 (by decide +kernel) rfl, ⟨by decide, by decide⟩, by decide +kernel, by decide⟩
theorem k_Lw_212 : kV "WindBridesLaw" 212 12 M_Mo_taken 2 := ⟨kc_Mo_taken, _, _, _, rfl, z_mem 1738 (by decide +kernel) rfl, z_mem 1739 (by decide +kernel) rfl, z_mem 1737 (by decide +kernel) rfl⟩
set_option maxRecDepth 20000 in
theorem kc_Wb_act : kC M_Wb_act 3 := ⟨z_mem 965 (by rfl) rfl, z_mem 101 (by decide +kernel) rfl, ⟨by decide, by decide⟩, by decide +kernel, by decide⟩
theorem k_Lw_213 : kV "WindBridesLaw" 213 11 M_Wb_act 3 := ⟨kc_Wb_act, _, _, _, rfl, z_mem 963 (by decide +kernel) rfl, z_mem 964 (by decide +kernel) rfl, z_mem 962 (by decide +kernel) rfl⟩
set_option maxRecDepth 20000 in
theorem kc_Mo_act : kC M_Mo_act 3 := ⟨z_mem 1748 (by rfl) rfl, z_mem 107 (by decide +kernel) rfl, ⟨by decide, by decide⟩, by decide +kernel, by decide⟩
theorem k_Lw_216 : kV "WindBridesLaw" 216 12 M_Mo_act 3 := ⟨kc_Mo_act, _, _, _, rfl, z_mem 1746 (by decide +kernel) rfl, z_mem 1747 (by decide +kernel) rfl, z_mem 1745 (by decide +kernel) rfl⟩
set_option maxRecDepth 20000 in
theorem kc_Wb_trace : kC M_Wb_trace 1 := ⟨z_mem 1161 (by rfl) rfl, z_mem 101 (by decide +kernel) rfl, ⟨by decide, by decide⟩, by decide +kernel, by decide⟩
theorem k_Lw_217 : kV "WindBridesLaw" 217 11 M_Wb_trace 1 := ⟨kc_Wb_trace, _, _, _, rfl, z_mem 1159 (by decide +kernel) rfl, z_mem 1160 (by decide +kernel) rfl, z_mem 1158 (by decide +kernel) rfl⟩
set_option maxRecDepth 20000 in
theorem kc_Mo_trace : kC M_Mo_trace 1 := ⟨z_mem 1792 (by rfl) rfl, z_mem 107 (by decide +kernel) rfl, ⟨by decide, by decide⟩, by decide +kernel, by decide⟩
theorem k_Lw_220 : kV "WindBridesLaw" 220 12 M_Mo_trace 1 := ⟨kc_Mo_trace, _, _, _, rfl, z_mem 1790 (by decide +kernel) rfl, z_mem 1791 (by decide +kernel) rfl, z_mem 1789 (by decide +kernel) rfl⟩
set_option maxRecDepth 20000 in
theorem kc_Wb_many : kC M_Wb_many 1 := ⟨z_mem 1165 (by rfl) rfl, z_mem 101 (by decide +kernel) rfl, ⟨by decide, by decide⟩, by decide +kernel, by decide⟩
theorem k_Lw_221 : kV "WindBridesLaw" 221 11 M_Wb_many 1 := ⟨kc_Wb_many, _, _, _, rfl, z_mem 1163 (by decide +kernel) rfl, z_mem 1164 (by decide +kernel) rfl, z_mem 1162 (by decide +kernel) rfl⟩
set_option maxRecDepth 20000 in
theorem kc_Mo_many : kC M_Mo_many 1 := ⟨z_mem 1796 (by rfl) rfl, z_mem 107 (by decide +kernel) rfl, ⟨by decide, by decide⟩, by decide +kernel, by decide⟩
theorem k_Lw_224 : kV "WindBridesLaw" 224 12 M_Mo_many 1 := ⟨kc_Mo_many, _, _, _, rfl, z_mem 1794 (by decide +kernel) rfl, z_mem 1795 (by decide +kernel) rfl, z_mem 1793 (by decide +kernel) rfl⟩
set_option maxRecDepth 20000 in
theorem kc_Wb_keep : kC M_Wb_keep 0 := ⟨z_mem 1176 (by rfl) rfl, z_mem 101 (by decide +kernel) rfl, ⟨by decide, by decide⟩, by decide +kernel, by decide⟩
theorem k_Lw_225 : kV "WindBridesLaw" 225 11 M_Wb_keep 0 := ⟨kc_Wb_keep, _, _, _, rfl, z_mem 1174 (by decide +kernel) rfl, z_mem 1175 (by decide +kernel) rfl, z_mem 1173 (by decide +kernel) rfl⟩
set_option maxRecDepth 20000 in
theorem kc_Mo_keep : kC M_Mo_keep 0 := ⟨z_mem 1803 (by rfl) rfl, z_mem 107 (by decide +kernel) rfl, ⟨by decide, by decide⟩, by decide +kernel, by decide⟩
theorem k_Lw_228 : kV "WindBridesLaw" 228 12 M_Mo_keep 0 := ⟨kc_Mo_keep, _, _, _, rfl, z_mem 1801 (by decide +kernel) rfl, z_mem 1802 (by decide +kernel) rfl, z_mem 1800 (by decide +kernel) rfl⟩
set_option maxRecDepth 20000 in
theorem kc_Wb_again : kC M_Wb_again 0 := ⟨z_mem 1187 (by rfl) rfl, z_mem 101 (by decide +kernel) rfl, ⟨by decide, by decide⟩, by decide +kernel, by decide⟩
theorem k_Lw_229 : kV "WindBridesLaw" 229 11 M_Wb_again 0 := ⟨kc_Wb_again, _, _, _, rfl, z_mem 1185 (by decide +kernel) rfl, z_mem 1186 (by decide +kernel) rfl, z_mem 1184 (by decide +kernel) rfl⟩
set_option maxRecDepth 20000 in
theorem kc_Mo_again : kC M_Mo_again 0 := ⟨z_mem 1807 (by rfl) rfl, z_mem 107 (by decide +kernel) rfl, ⟨by decide, by decide⟩, by decide +kernel, by decide⟩
theorem k_Lw_232 : kV "WindBridesLaw" 232 12 M_Mo_again 0 := ⟨kc_Mo_again, _, _, _, rfl, z_mem 1805 (by decide +kernel) rfl, z_mem 1806 (by decide +kernel) rfl, z_mem 1804 (by decide +kernel) rfl⟩
end
section
section ZM
variable {G : zG} {d : Nat} {M : zM} {pc pc' : Nat} {lv st : List Value} {n u : Nat} {μ : Nat → va_E} {nF uF : Nat} {Φ : zP}
/-- a truth as a number -/
def zbo (c : Prop) [Decidable c] : Int32 := if c then nI 1 else nI 0
theorem zbo_t {c : Prop} [Decidable c] (h : c) : zbo c = nI 1 := if_pos h
theorem zbo_f {c : Prop} [Decidable c] (h : ¬ c) : zbo c = nI 0 := if_neg h
theorem zbo_0 {c : Prop} [Decidable c] : zbo c = 0 ↔ ¬ c := by
  unfold zbo
  by_cases h : c
  · rw [if_pos h]; exact ⟨fun e => absurd e (by decide), fun e => absurd h e⟩
  · rw [if_neg h]; exact ⟨fun _ => h, fun _ => rfl⟩
theorem zbo_nar {c : Prop} [Decidable c] : narrow .boolean (.int (zbo c)) = .int (zbo c) := by
  unfold zbo
  by_cases h : c
  · rw [if_pos h]; rfl
  · rw [if_neg h]; rfl
theorem zbo_fit {c : Prop} [Decidable c] : fits .boolean (.int (zbo c)) = true := by
  unfold zbo
  by_cases h : c
  · rw [if_pos h]; rfl
  · rw [if_neg h]; rfl
theorem zE_i {r : Option Value} {μ' : Nat → va_E} {v : Value} (h : some v = r) (h2 : μ = μ') : zE r μ' (some v) μ := ⟨h, h2⟩
theorem z_icmp_eqN {a b : Nat} {off : Int} {tgt : Nat} (k : Nat) (hd : (mI M)[k]? = some (pc, .if_icmp .eq off, 3)) (hp : pc + 3 = pc') (ht : (pc : Int) + off = (tgt : Int)) (ha : a < 2 ^ 31) (hb : b < 2 ^ 31) (kt : a = b → zW G d M tgt lv st n u μ nF uF Φ) (kf : a ≠ b → zW G d M pc' lv st n u μ nF uF Φ) : zW G d M pc lv (.int (nI b) :: .int (nI a) :: st) n u μ nF uF Φ :=
  z_icmp_eq k hd hp ht (fun h => kt ((nI_eq ha hb).mp h)) (fun h => kf (fun e => h (by rw [e])))
theorem z_icmp_neN {a b : Nat} {off : Int} {tgt : Nat} (k : Nat) (hd : (mI M)[k]? = some (pc, .if_icmp .ne off, 3)) (hp : pc + 3 = pc') (ht : (pc : Int) + off = (tgt : Int)) (ha : a < 2 ^ 31) (hb : b < 2 ^ 31) (kt : a ≠ b → zW G d M tgt lv st n u μ nF uF Φ) (kf : a = b → zW G d M pc' lv st n u μ nF uF Φ) : zW G d M pc lv (.int (nI b) :: .int (nI a) :: st) n u μ nF uF Φ :=
  z_icmp_ne k hd hp ht (fun h => kt (fun e => h (by rw [e]))) (fun h => kf ((nI_eq ha hb).mp h))
theorem z_icmp_ltN {a b : Nat} {off : Int} {tgt : Nat} (k : Nat) (hd : (mI M)[k]? = some (pc, .if_icmp .lt off, 3)) (hp : pc + 3 = pc') (ht : (pc : Int) + off = (tgt : Int)) (ha : a < 2 ^ 31) (hb : b < 2 ^ 31) (kt : a < b → zW G d M tgt lv st n u μ nF uF Φ) (kf : b ≤ a → zW G d M pc' lv st n u μ nF uF Φ) : zW G d M pc lv (.int (nI b) :: .int (nI a) :: st) n u μ nF uF Φ :=
  z_icmp_lt k hd hp ht (fun h => kt ((nI_ltI ha hb).mp h)) (fun h => kf (Nat.le_of_not_lt (fun e => h ((nI_ltI ha hb).mpr e))))
theorem z_icmp_geN {a b : Nat} {off : Int} {tgt : Nat} (k : Nat) (hd : (mI M)[k]? = some (pc, .if_icmp .ge off, 3)) (hp : pc + 3 = pc') (ht : (pc : Int) + off = (tgt : Int)) (ha : a < 2 ^ 31) (hb : b < 2 ^ 31) (kt : b ≤ a → zW G d M tgt lv st n u μ nF uF Φ) (kf : a < b → zW G d M pc' lv st n u μ nF uF Φ) : zW G d M pc lv (.int (nI b) :: .int (nI a) :: st) n u μ nF uF Φ :=
  z_icmp_ge k hd hp ht (fun h => kt ((nI_leI hb ha).mp h)) (fun h => kf (Nat.lt_of_not_le (fun e => h ((nI_leI hb ha).mpr e))))
theorem z_icmp_gtN {a b : Nat} {off : Int} {tgt : Nat} (k : Nat) (hd : (mI M)[k]? = some (pc, .if_icmp .gt off, 3)) (hp : pc + 3 = pc') (ht : (pc : Int) + off = (tgt : Int)) (ha : a < 2 ^ 31) (hb : b < 2 ^ 31) (kt : b < a → zW G d M tgt lv st n u μ nF uF Φ) (kf : a ≤ b → zW G d M pc' lv st n u μ nF uF Φ) : zW G d M pc lv (.int (nI b) :: .int (nI a) :: st) n u μ nF uF Φ :=
  z_icmp_gt k hd hp ht (fun h => kt ((nI_ltI hb ha).mp h)) (fun h => kf (Nat.le_of_not_lt (fun e => h ((nI_ltI hb ha).mpr e))))
theorem z_icmp_leN {a b : Nat} {off : Int} {tgt : Nat} (k : Nat) (hd : (mI M)[k]? = some (pc, .if_icmp .le off, 3)) (hp : pc + 3 = pc') (ht : (pc : Int) + off = (tgt : Int)) (ha : a < 2 ^ 31) (hb : b < 2 ^ 31) (kt : a ≤ b → zW G d M tgt lv st n u μ nF uF Φ) (kf : b < a → zW G d M pc' lv st n u μ nF uF Φ) : zW G d M pc lv (.int (nI b) :: .int (nI a) :: st) n u μ nF uF Φ :=
  z_icmp_le k hd hp ht (fun h => kt ((nI_leI ha hb).mp h)) (fun h => kf (Nat.lt_of_not_le (fun e => h ((nI_leI ha hb).mpr e))))
theorem z_if_eqN {a : Nat} {off : Int} {tgt : Nat} (k : Nat) (hd : (mI M)[k]? = some (pc, .ifCond .eq off, 3)) (hp : pc + 3 = pc') (ht : (pc : Int) + off = (tgt : Int)) (ha : a < 2 ^ 31) (kt : a = 0 → zW G d M tgt lv st n u μ nF uF Φ) (kf : a ≠ 0 → zW G d M pc' lv st n u μ nF uF Φ) : zW G d M pc lv (.int (nI a) :: st) n u μ nF uF Φ :=
  z_if_eq k hd hp ht (fun h => kt ((nI_eq ha (by decide)).mp (h.trans nI_0.symm))) (fun h => kf (fun e => h (by rw [e]; rfl)))
theorem z_if_neN {a : Nat} {off : Int} {tgt : Nat} (k : Nat) (hd : (mI M)[k]? = some (pc, .ifCond .ne off, 3)) (hp : pc + 3 = pc') (ht : (pc : Int) + off = (tgt : Int)) (ha : a < 2 ^ 31) (kt : a ≠ 0 → zW G d M tgt lv st n u μ nF uF Φ) (kf : a = 0 → zW G d M pc' lv st n u μ nF uF Φ) : zW G d M pc lv (.int (nI a) :: st) n u μ nF uF Φ :=
  z_if_ne k hd hp ht (fun h => kt (fun e => h (by rw [e]; rfl))) (fun h => kf ((nI_eq ha (by decide)).mp (h.trans nI_0.symm)))
theorem z_if_gtN {a : Nat} {off : Int} {tgt : Nat} (k : Nat) (hd : (mI M)[k]? = some (pc, .ifCond .gt off, 3)) (hp : pc + 3 = pc') (ht : (pc : Int) + off = (tgt : Int)) (ha : a < 2 ^ 31) (kt : 0 < a → zW G d M tgt lv st n u μ nF uF Φ) (kf : a = 0 → zW G d M pc' lv st n u μ nF uF Φ) : zW G d M pc lv (.int (nI a) :: st) n u μ nF uF Φ :=
  z_if_gt k hd hp ht (fun h => kt ((nI_ltI (a := 0) (by decide) ha).mp h)) (fun h => kf (Nat.eq_zero_of_not_pos (fun e => h ((nI_ltI (a := 0) (by decide) ha).mpr e))))
theorem z_if_leN {a : Nat} {off : Int} {tgt : Nat} (k : Nat) (hd : (mI M)[k]? = some (pc, .ifCond .le off, 3)) (hp : pc + 3 = pc') (ht : (pc : Int) + off = (tgt : Int)) (ha : a < 2 ^ 31) (kt : a = 0 → zW G d M tgt lv st n u μ nF uF Φ) (kf : 0 < a → zW G d M pc' lv st n u μ nF uF Φ) : zW G d M pc lv (.int (nI a) :: st) n u μ nF uF Φ :=
  z_if_le k hd hp ht (fun h => kt (Nat.le_zero.mp ((nI_leI ha (b := 0) (by decide)).mp h))) (fun h => kf (Nat.pos_of_ne_zero (fun e => h (by rw [e]; decide))))
theorem z_if_ltN {a : Nat} {off : Int} {tgt : Nat} (k : Nat) (hd : (mI M)[k]? = some (pc, .ifCond .lt off, 3)) (hp : pc + 3 = pc') (ht : (pc : Int) + off = (tgt : Int)) (ha : a < 2 ^ 31) (kt : False → zW G d M tgt lv st n u μ nF uF Φ) (kf : True → zW G d M pc' lv st n u μ nF uF Φ) : zW G d M pc lv (.int (nI a) :: st) n u μ nF uF Φ :=
  z_if_lt k hd hp ht (fun h => kt (nI_pos ha h)) (fun h => kf (trivial))
theorem z_if_geN {a : Nat} {off : Int} {tgt : Nat} (k : Nat) (hd : (mI M)[k]? = some (pc, .ifCond .ge off, 3)) (hp : pc + 3 = pc') (ht : (pc : Int) + off = (tgt : Int)) (ha : a < 2 ^ 31) (kt : True → zW G d M tgt lv st n u μ nF uF Φ) (kf : False → zW G d M pc' lv st n u μ nF uF Φ) : zW G d M pc lv (.int (nI a) :: st) n u μ nF uF Φ :=
  z_if_ge k hd hp ht (fun h => kt (trivial)) (fun h => kf (h (nI_pos' ha)))
theorem z_if_eqB {c : Prop} [Decidable c] {off : Int} {tgt : Nat} (k : Nat) (hd : (mI M)[k]? = some (pc, .ifCond .eq off, 3)) (hp : pc + 3 = pc') (ht : (pc : Int) + off = (tgt : Int)) (kt : ¬ c → zW G d M tgt lv st n u μ nF uF Φ) (kf : c → zW G d M pc' lv st n u μ nF uF Φ) : zW G d M pc lv (.int (zbo c) :: st) n u μ nF uF Φ :=
  z_if_eq k hd hp ht (fun h => kt (zbo_0.mp h)) (fun h => kf (Decidable.of_not_not (fun e => h (zbo_0.mpr e))))
theorem z_if_neB {c : Prop} [Decidable c] {off : Int} {tgt : Nat} (k : Nat) (hd : (mI M)[k]? = some (pc, .ifCond .ne off, 3)) (hp : pc + 3 = pc') (ht : (pc : Int) + off = (tgt : Int)) (kt : c → zW G d M tgt lv st n u μ nF uF Φ) (kf : ¬ c → zW G d M pc' lv st n u μ nF uF Φ) : zW G d M pc lv (.int (zbo c) :: st) n u μ nF uF Φ :=
  z_if_ne k hd hp ht (fun h => kt (Decidable.of_not_not (fun e => h (zbo_0.mpr e)))) (fun h => kf (zbo_0.mp h))
/-- an array's contents beyond its length don't count -/
theorem zR_ext {H : Heap} {a N : Nat} {f g : Nat → Int32} (hm : μ a = .inl (0, N, .inl f)) (he : ∀ j, j < N → f j = g j) (hR : zR G H n μ) : zR G H n (zu μ a (.inl (0, N, .inl g))) := by
  obtain ⟨g1, g2⟩ := zR_in hR hm (by show (0 : Nat) ≠ 7; decide)
  refine zR_set hR g1 g2 ?_ rfl (fun _ _ => rfl)
  rw [← zws_set g1 g2]
  have e0 := zws_at (G := G) (n := n) (μ := μ) g1 g2
  refine va_P.set hR.2.2.1 zws_D e0 ?_ (fun _ _ => rfl)
  have h0 := hR.2.2.1 _ _ e0
  rw [hm] at h0
  have h1 : H[za G a]? = some (vp_cell (zA G 0) (N, .inl f)) := h0
  show H[za G a]? = some (vp_cell (zA G 0) (N, .inl g))
  rw [h1, vp_cell_i, vp_cell_i]
  congr 1
  unfold arrV
  congr 2
  funext j
  show Value.int (f j) = Value.int (g j)
  rw [he j j.isLt]
theorem z_ext {a N : Nat} {f : Nat → Int32} (g : Nat → Int32) (hm : μ a = .inl (0, N, .inl f)) (he : ∀ j, j < N → f j = g j) (kk : zW G d M pc lv st n u (zu μ a (.inl (0, N, .inl g))) nF uF Φ) : zW G d M pc lv st n u μ nF uF Φ := by
  intro p e R s m args below meth c n0 u0 B h1 h2 H locs ls hR hl hlv
  exact kk p e R s m args below meth c n0 u0 B h1 h2 H locs ls (zR_ext hm he hR) hl hlv
theorem zu_zu {a : Nat} {c c' : va_E} : zu (zu μ a c) a c' = zu μ a c' := by
  funext i
  unfold zu
  by_cases h : i = a
  · rw [if_pos h, if_pos h]
  · rw [if_neg h, if_neg h, if_neg h]
theorem zu_s {a : Nat} {c : va_E} : zu μ a c a = c := if_pos rfl
theorem zu_n {a b : Nat} {c : va_E} (h : b ≠ a) : zu μ a c b = μ b := if_neg h
theorem zu_id {a : Nat} {c : va_E} (h : μ a = c) : zu μ a c = μ := by
  funext i
  unfold zu
  by_cases hi : i = a
  · rw [if_pos hi, hi, h]
  · rw [if_neg hi]
theorem zu_sw {a b : Nat} {c c' : va_E} (h : a ≠ b) : zu (zu μ a c) b c' = zu (zu μ b c') a c := by
  funext i
  unfold zu
  by_cases h1 : i = a
  · subst h1; rw [if_pos rfl, if_neg h, if_pos rfl]
  · by_cases h2 : i = b
    · subst h2; rw [if_pos rfl, if_neg h1, if_pos rfl]
    · simp [h1, h2]
/-- numbers in an array -/
def un {α : Type} (f : Nat → α) (k : Nat) (x : α) : Nat → α := fun j => if j = k then x else f j
theorem upd_n {f : Nat → Nat} {k x : Nat} : upd (fun j => nI (f j)) k (nI x) = fun j => nI (un f k x j) := by
  funext j
  unfold upd un
  by_cases h : j = k
  · rw [if_pos h, if_pos h]
  · rw [if_neg h, if_neg h]
theorem upd_u {f : Nat → Int32} {k : Nat} {x : Int32} : upd f k x = un f k x := rfl
theorem un_s {α : Type} {f : Nat → α} {k : Nat} {x : α} : un f k x k = x := if_pos rfl
theorem un_n {α : Type} {f : Nat → α} {k j : Nat} {x : α} (h : j ≠ k) : un f k x j = f j := if_neg h
theorem un_id {α : Type} {f : Nat → α} {k : Nat} : un f k (f k) = f := by
  funext j
  unfold un
  by_cases h : j = k
  · rw [if_pos h, h]
  · rw [if_neg h]
theorem z_swN {a : Nat} (ha : a < 2 ^ 31) (v : Nat) (hv : v < 2 ^ 31) (kt : a = v → zW G d M pc lv (.int (nI v) :: st) n u μ nF uF Φ) (kf : a ≠ v → zW G d M pc lv (.int (nI a) :: st) n u μ nF uF Φ) : zW G d M pc lv (.int (nI a) :: st) n u μ nF uF Φ := by
  by_cases h : a = v
  · rw [h]; exact kt h
  · exact kf h
theorem z_swm {x : Int32} (v : Int32) (kt : x = v → zW G d M pc lv (.int v :: st) n u μ nF uF Φ) (kf : ¬ x = v → zW G d M pc lv (.int x :: st) n u μ nF uF Φ) : zW G d M pc lv (.int x :: st) n u μ nF uF Φ := by
  by_cases h : x = v
  · rw [h]; exact kt h
  · exact kf h
theorem z_nem {x v : Int32} (h : ¬ x = v) : x.toInt ≠ v.toInt := fun e => h (Int32.toInt_inj.mp e)
theorem z_spec (kk : (∀ i, i < 4 → μ i = zspec G i) → zW G d M pc lv st n u μ nF uF Φ) : zW G d M pc lv st n u μ nF uF Φ := by
  intro p e R s m args below meth c n0 u0 B h1 h2 H locs ls hR hl hlv
  exact kk hR.2.2.2.2.2 p e R s m args below meth c n0 u0 B h1 h2 H locs ls hR hl hlv
theorem z_te {x y : Int32} (e : x = y) (kk : zW G d M pc lv (.int y :: st) n u μ nF uF Φ) : zW G d M pc lv (.int x :: st) n u μ nF uF Φ := by
  rw [e]
  exact kk
theorem nI_inc (j c : Nat) : nI j + Int32.ofInt (c : Int) = nI (j + c) := by
  rw [← nI_add]
  congr 1
/-- an answer, and one of the heaps F q -/
def zS {α : Type} (r : Option Value) (F : α → Nat → va_E) : zP := fun r0 μ0 => r0 = r ∧ ∃ q : α, μ0 = F q
theorem z_callSX1 {idx d' n' u' : Nat} {M' : zM} {na : Nat} {as ra : List Value} {α : Type} {v : Value} {F : α → Nat → va_E} (k : Nat) (hd : (mI M)[k]? = some (pc, .invokestatic idx, 3)) (hp : pc + 3 = pc') (hk : kS (mO M) idx M' na) (hM : zMet G d' M' as n u μ n' u' (zS (some v) F)) (hdd : d' < d) (hn : n' ≤ nF) (hu : u' ≤ uF) (hna : as.length = na) (has : as.reverse ++ st = ra) (hmon : zmon st)
    (kk : ∀ q : α, zW G d M pc' lv (v :: st) n' u' (F q) nF uF Φ) : zW G d M pc lv ra n u μ nF uF Φ :=
  z_callS k hd hp hk hM hdd hn hu hna has hmon (fun r0 μ0 h => by obtain ⟨rfl, q0, rfl⟩ := h; exact kk q0)
theorem z_callSX0 {idx d' n' u' : Nat} {M' : zM} {na : Nat} {as ra : List Value} {α : Type} {F : α → Nat → va_E} (k : Nat) (hd : (mI M)[k]? = some (pc, .invokestatic idx, 3)) (hp : pc + 3 = pc') (hk : kS (mO M) idx M' na) (hM : zMet G d' M' as n u μ n' u' (zS none F)) (hdd : d' < d) (hn : n' ≤ nF) (hu : u' ≤ uF) (hna : as.length = na) (has : as.reverse ++ st = ra) (hmon : zmon st)
    (kk : ∀ q : α, zW G d M pc' lv (st) n' u' (F q) nF uF Φ) : zW G d M pc lv ra n u μ nF uF Φ :=
  z_callS k hd hp hk hM hdd hn hu hna has hmon (fun r0 μ0 h => by obtain ⟨rfl, q0, rfl⟩ := h; exact kk q0)
theorem z_callVX1 {idx ci a d' n' u' : Nat} {M' : zM} {na : Nat} {as ra : List Value} {fs : List Value} {α : Type} {v : Value} {F : α → Nat → va_E} (k : Nat) (hd : (mI M)[k]? = some (pc, .invokevirtual idx, 3)) (hp : pc + 3 = pc') (hk : kV (mO M) idx ci M' na) (hm : μ a = .inr (ci, fs)) (hM : zMet G d' M' (.ref a :: as) n u μ n' u' (zS (some v) F)) (hdd : d' < d) (hn : n' ≤ nF) (hu : u' ≤ uF) (hna : as.length = na) (has : as.reverse ++ .ref a :: st = ra) (hmon : zmon st)
    (kk : ∀ q : α, zW G d M pc' lv (v :: st) n' u' (F q) nF uF Φ) : zW G d M pc lv ra n u μ nF uF Φ :=
  z_callV k hd hp hk hm hM hdd hn hu hna has hmon (fun r0 μ0 h => by obtain ⟨rfl, q0, rfl⟩ := h; exact kk q0)
theorem z_callVX0 {idx ci a d' n' u' : Nat} {M' : zM} {na : Nat} {as ra : List Value} {fs : List Value} {α : Type} {F : α → Nat → va_E} (k : Nat) (hd : (mI M)[k]? = some (pc, .invokevirtual idx, 3)) (hp : pc + 3 = pc') (hk : kV (mO M) idx ci M' na) (hm : μ a = .inr (ci, fs)) (hM : zMet G d' M' (.ref a :: as) n u μ n' u' (zS none F)) (hdd : d' < d) (hn : n' ≤ nF) (hu : u' ≤ uF) (hna : as.length = na) (has : as.reverse ++ .ref a :: st = ra) (hmon : zmon st)
    (kk : ∀ q : α, zW G d M pc' lv (st) n' u' (F q) nF uF Φ) : zW G d M pc lv ra n u μ nF uF Φ :=
  z_callV k hd hp hk hm hM hdd hn hu hna has hmon (fun r0 μ0 h => by obtain ⟨rfl, q0, rfl⟩ := h; exact kk q0)
theorem z_callIX1 {idx a d' n' u' : Nat} {M' : zM} {na : Nat} {as ra : List Value} {α : Type} {v : Value} {F : α → Nat → va_E} (k : Nat) (hd : (mI M)[k]? = some (pc, .invokespecial idx, 3)) (hp : pc + 3 = pc') (hk : kI (mO M) idx M' na) (hM : zMet G d' M' (.ref a :: as) n u μ n' u' (zS (some v) F)) (hdd : d' < d) (hn : n' ≤ nF) (hu : u' ≤ uF) (hna : as.length = na) (has : as.reverse ++ .ref a :: st = ra) (hmon : zmon st)
    (kk : ∀ q : α, zW G d M pc' lv (v :: st) n' u' (F q) nF uF Φ) : zW G d M pc lv ra n u μ nF uF Φ :=
  z_callI k hd hp hk hM hdd hn hu hna has hmon (fun r0 μ0 h => by obtain ⟨rfl, q0, rfl⟩ := h; exact kk q0)
theorem z_callIX0 {idx a d' n' u' : Nat} {M' : zM} {na : Nat} {as ra : List Value} {α : Type} {F : α → Nat → va_E} (k : Nat) (hd : (mI M)[k]? = some (pc, .invokespecial idx, 3)) (hp : pc + 3 = pc') (hk : kI (mO M) idx M' na) (hM : zMet G d' M' (.ref a :: as) n u μ n' u' (zS none F)) (hdd : d' < d) (hn : n' ≤ nF) (hu : u' ≤ uF) (hna : as.length = na) (has : as.reverse ++ .ref a :: st = ra) (hmon : zmon st)
    (kk : ∀ q : α, zW G d M pc' lv (st) n' u' (F q) nF uF Φ) : zW G d M pc lv ra n u μ nF uF Φ :=
  z_callI k hd hp hk hM hdd hn hu hna has hmon (fun r0 μ0 h => by obtain ⟨rfl, q0, rfl⟩ := h; exact kk q0)
theorem z_callUX1 {idx ci a d' n' u' : Nat} {x : MethodName} {owner : String} {M' : zM} {na : Nat} {as ra : List Value} {fs : List Value} {α : Type} {v : Value} {F : α → Nat → va_E} (k : Nat) (hd : (mI M)[k]? = some (pc, .invokevirtual idx, 3)) (hp : pc + 3 = pc') (hk : kU (mO M) idx ci x owner M' na) (hm : μ a = .inr (ci, fs)) (hM : zMet G d' M' (.ref a :: as) n u μ n' u' (zS (some v) F)) (hdd : d' < d) (hn : n' ≤ nF) (hu : u' ≤ uF) (hna : as.length = na) (has : as.reverse ++ .ref a :: st = ra) (hmon : zmon st)
    (kk : ∀ q : α, zW G d M pc' lv (v :: st) n' u' (F q) nF uF Φ) : zW G d M pc lv ra n u μ nF uF Φ :=
  z_callU k hd hp hk hm hM hdd hn hu hna has hmon (fun r0 μ0 h => by obtain ⟨rfl, q0, rfl⟩ := h; exact kk q0)
theorem z_callUX0 {idx ci a d' n' u' : Nat} {x : MethodName} {owner : String} {M' : zM} {na : Nat} {as ra : List Value} {fs : List Value} {α : Type} {F : α → Nat → va_E} (k : Nat) (hd : (mI M)[k]? = some (pc, .invokevirtual idx, 3)) (hp : pc + 3 = pc') (hk : kU (mO M) idx ci x owner M' na) (hm : μ a = .inr (ci, fs)) (hM : zMet G d' M' (.ref a :: as) n u μ n' u' (zS none F)) (hdd : d' < d) (hn : n' ≤ nF) (hu : u' ≤ uF) (hna : as.length = na) (has : as.reverse ++ .ref a :: st = ra) (hmon : zmon st)
    (kk : ∀ q : α, zW G d M pc' lv (st) n' u' (F q) nF uF Φ) : zW G d M pc lv ra n u μ nF uF Φ :=
  z_callU k hd hp hk hm hM hdd hn hu hna has hmon (fun r0 μ0 h => by obtain ⟨rfl, q0, rfl⟩ := h; exact kk q0)
theorem z_callPX1 {idx ci a d' n' u' : Nat} {C : String} {T : u_T} {N : Nat} {M' : zM} {na : Nat} {as ra : List Value} {fs : List Value} {α : Type} {v : Value} {F : α → Nat → va_E} (k : Nat) (hd : (mI M)[k]? = some (pc, .invokespecial idx, 3)) (hp : pc + 3 = pc') (hk : kP (mO M) idx M' na) (hm : μ a = .inr (ci, fs)) (hci : zCl[ci]? = some (C, T, N)) (hM : zMet G d' M' (.ref a :: as) n u μ n' u' (zS (some v) F)) (hdd : d' < d) (hn : n' ≤ nF) (hu : u' ≤ uF) (hna : as.length = na) (has : as.reverse ++ .ref a :: st = ra) (hmon : zmon st)
    (kk : ∀ q : α, zW G d M pc' lv (v :: st) n' u' (F q) nF uF Φ) : zW G d M pc lv ra n u μ nF uF Φ :=
  z_callP k hd hp hk hm hci hM hdd hn hu hna has hmon (fun r0 μ0 h => by obtain ⟨rfl, q0, rfl⟩ := h; exact kk q0)
theorem z_callPX0 {idx ci a d' n' u' : Nat} {C : String} {T : u_T} {N : Nat} {M' : zM} {na : Nat} {as ra : List Value} {fs : List Value} {α : Type} {F : α → Nat → va_E} (k : Nat) (hd : (mI M)[k]? = some (pc, .invokespecial idx, 3)) (hp : pc + 3 = pc') (hk : kP (mO M) idx M' na) (hm : μ a = .inr (ci, fs)) (hci : zCl[ci]? = some (C, T, N)) (hM : zMet G d' M' (.ref a :: as) n u μ n' u' (zS none F)) (hdd : d' < d) (hn : n' ≤ nF) (hu : u' ≤ uF) (hna : as.length = na) (has : as.reverse ++ .ref a :: st = ra) (hmon : zmon st)
    (kk : ∀ q : α, zW G d M pc' lv (st) n' u' (F q) nF uF Φ) : zW G d M pc lv ra n u μ nF uF Φ :=
  z_callP k hd hp hk hm hci hM hdd hn hu hna has hmon (fun r0 μ0 h => by obtain ⟨rfl, q0, rfl⟩ := h; exact kk q0)
theorem un_un {α : Type} {f : Nat → α} {k : Nat} {x y : α} : un (un f k x) k y = un f k y := by
  funext j
  unfold un
  by_cases h : j = k
  · rw [if_pos h, if_pos h]
  · rw [if_neg h, if_neg h, if_neg h]
theorem zd2 (a : Nat) (h : a < 2 ^ 31) : nI a / nI 2 = nI (a / 2) := pk_div h (by decide) (by decide)
end ZM
end
section
/-! ===== plain numbers: bits ===== -/
theorem nb_and (a b : Nat) : nI a &&& nI b = nI (a &&& b) := by
  apply Int32.toBitVec_inj.1
  show BitVec.ofNat 32 a &&& BitVec.ofNat 32 b = BitVec.ofNat 32 (a &&& b)
  apply BitVec.eq_of_getLsbD_eq
  intro i hi
  simp [hi]
theorem nb_or (a b : Nat) : nI a ||| nI b = nI (a ||| b) := by
  apply Int32.toBitVec_inj.1
  show BitVec.ofNat 32 a ||| BitVec.ofNat 32 b = BitVec.ofNat 32 (a ||| b)
  apply BitVec.eq_of_getLsbD_eq
  intro i hi
  simp [hi]
theorem nb_xor (a b : Nat) : nI a ^^^ nI b = nI (a ^^^ b) := by
  apply Int32.toBitVec_inj.1
  show BitVec.ofNat 32 a ^^^ BitVec.ofNat 32 b = BitVec.ofNat 32 (a ^^^ b)
  apply BitVec.eq_of_getLsbD_eq
  intro i hi
  simp [hi]
theorem nb_sl : ∀ k, k < 32 → ((nI k &&& 31).toBitVec.smod 32).toNat = k := by decide +kernel
theorem nb_shl {a k : Nat} (hk : k < 32) (h : a * 2 ^ k < 2 ^ 32) : nI a <<< (nI k &&& 31) = nI (a * 2 ^ k) := pk_shlN _ k (nb_sl k hk) h
theorem nb_shl1 {k : Nat} (hk : k < 31) : nI 1 <<< (nI k &&& 31) = nI (2 ^ k) := by
  have h2 : (2 : Nat) ^ k < 2 ^ 31 := Nat.pow_lt_pow_right (by decide) hk
  rw [nb_shl (by omega) (by omega), Nat.one_mul]
theorem nb_shr {a k : Nat} (ha : a < 2 ^ 31) (hk : k < 32) : nI a >>> (nI k &&& 31) = nI (a / 2 ^ k) := pk_shrN ha _ k (nb_sl k hk)
theorem nb_bit {a k : Nat} (ha : a < 2 ^ 31) (hk : k < 32) : nI a >>> (nI k &&& 31) &&& nI 1 = nI (a / 2 ^ k % 2) := by
  rw [nb_shr ha hk, nb_and, Nat.and_one_is_mod]
/-! ===== what a wind's turn is, what a girl gains ===== -/
def tn (p h : Nat) : Nat := if 8 - (if h < p then p - h else h - p) < (if h < p then p - h else h - p) then 8 - (if h < p then p - h else h - p) else (if h < p then p - h else h - p)
def gn (k f t m : Nat) : Nat := match k with
  | 1 => (f - t) / 2
  | 2 => f - t / 2
  | 3 => f - t / 2 + 1
  | 4 => if m < 3 then 0 else f - t
  | 5 => (if m < 3 then 0 else f - t) + 9 - f
  | _ => f - t
theorem tn_le {p h : Nat} : p ≤ 7 → h ≤ 7 → tn p h ≤ 4 := by
  intro h1 h2
  unfold tn
  split <;> split at * <;> omega
theorem gn_le {k f t m : Nat} (hf : f ≤ 9) : gn k f t m ≤ 18 := by
  unfold gn
  split <;> (try split) <;> omega
/-- kinds: one and those above it -/
def ud (k a : Nat) : Prop := a = 0 ∨ k = a ∨ (a = 2 ∧ k = 3) ∨ (a = 4 ∧ k = 5)
set_option maxHeartbeats 4000000 in
set_option maxRecDepth 100000 in
theorem c_Wb_within {G : zG} {n u : Nat} {μ : Nat → va_E} (x a b : Int32) : zMet G 0 M_Wb_within [.int x, .int a, .int b] n u μ n u (zE (some (.int (zbo (a ≤ x ∧ x ≤ b)))) μ) := by
  refine z_start (lv := [.int x, .int a, .int b]) K_Wb_within rfl rfl (Nat.le_refl _) (Nat.le_refl _) (Nat.le_of_ble_eq_true rfl) rfl ?_
  refine z_il0 (pc' := 1) 0 rfl rfl ?_
  refine z_il1 (pc' := 2) 1 rfl rfl ?_
  first | refine z_icmp_ltN (pc' := 5) 2 rfl rfl (tgt := 14) rfl (by omega) (by omega) (fun h2 => ?_) (fun h2 => ?_) | refine z_icmp_lt (pc' := 5) 2 rfl rfl (tgt := 14) rfl (fun h2 => ?_) (fun h2 => ?_)
  · refine z_iconst (v := nI 0) (by decide) (pc' := 15) 8 rfl rfl ?_
    exact z_ireturn 9 rfl rfl (by first | rfl | exact zbo_nar) rfl rfl (by refine ⟨?_, rfl⟩; first | rw [zbo_t (by simp only [Int32.lt_iff_toInt_lt, Int32.le_iff_toInt_le, not_and, Classical.not_not] at *; omega)] | rw [zbo_f (by simp only [Int32.lt_iff_toInt_lt, Int32.le_iff_toInt_le, not_and, Classical.not_not] at *; omega)])
  · refine z_il0 (pc' := 6) 3 rfl rfl ?_
    refine z_il2 (pc' := 7) 4 rfl rfl ?_
    first | refine z_icmp_gtN (pc' := 10) 5 rfl rfl (tgt := 14) rfl (by omega) (by omega) (fun h7 => ?_) (fun h7 => ?_) | refine z_icmp_gt (pc' := 10) 5 rfl rfl (tgt := 14) rfl (fun h7 => ?_) (fun h7 => ?_)
    · refine z_iconst (v := nI 0) (by decide) (pc' := 15) 8 rfl rfl ?_
      exact z_ireturn 9 rfl rfl (by first | rfl | exact zbo_nar) rfl rfl (by refine ⟨?_, rfl⟩; first | rw [zbo_t (by simp only [Int32.lt_iff_toInt_lt, Int32.le_iff_toInt_le, not_and, Classical.not_not] at *; omega)] | rw [zbo_f (by simp only [Int32.lt_iff_toInt_lt, Int32.le_iff_toInt_le, not_and, Classical.not_not] at *; omega)])
    · refine z_iconst (v := nI 1) (by decide) (pc' := 11) 6 rfl rfl ?_
      refine z_goto 7 rfl (tgt := 15) rfl ?_
      exact z_ireturn 9 rfl rfl (by first | rfl | exact zbo_nar) rfl rfl (by refine ⟨?_, rfl⟩; first | rw [zbo_t (by simp only [Int32.lt_iff_toInt_lt, Int32.le_iff_toInt_le, not_and, Classical.not_not] at *; omega)] | rw [zbo_f (by simp only [Int32.lt_iff_toInt_lt, Int32.le_iff_toInt_le, not_and, Classical.not_not] at *; omega)])
set_option maxHeartbeats 4000000 in
set_option maxRecDepth 100000 in
theorem c_Wb_turnBetween {G : zG} {n u : Nat} {μ : Nat → va_E} {p h : Nat} (hp : p ≤ 7) (hh : h ≤ 7) : zMet G 0 M_Wb_turnBetween [.int (nI p), .int (nI h)] n u μ n u (zE (some (.int (nI (tn p h)))) μ) := by
  refine z_start (lv := [.int (nI p), .int (nI h), .retAddr 0]) K_Wb_turnBetween rfl rfl (Nat.le_refl _) (Nat.le_refl _) (Nat.le_of_ble_eq_true rfl) rfl ?_
  refine z_il0 (pc' := 1) 0 rfl rfl ?_
  refine z_il1 (pc' := 2) 1 rfl rfl ?_
  first | refine z_icmp_leN (pc' := 5) 2 rfl rfl (tgt := 11) rfl (by omega) (by omega) (fun h2 => ?_) (fun h2 => ?_) | refine z_icmp_le (pc' := 5) 2 rfl rfl (tgt := 11) rfl (fun h2 => ?_) (fun h2 => ?_)
  · refine z_il1 (pc' := 12) 7 rfl rfl ?_
    refine z_il0 (pc' := 13) 8 rfl rfl ?_
    first | refine z_isubN (by omega) (pc' := 14) 9 rfl rfl ?_ | refine z_isub (pc' := 14) 9 rfl rfl ?_
    refine z_is2 rfl rfl (pc' := 15) 10 rfl rfl ?_
    refine z_il2 (pc' := 16) 11 rfl rfl ?_
    refine z_bipush (v := nI 8) (by decide) (pc' := 18) 12 rfl rfl ?_
    refine z_il2 (pc' := 19) 13 rfl rfl ?_
    first | refine z_isubN (by omega) (pc' := 20) 14 rfl rfl ?_ | refine z_isub (pc' := 20) 14 rfl rfl ?_
    first | refine z_icmp_leN (pc' := 23) 15 rfl rfl (tgt := 30) rfl (by omega) (by omega) (fun h20 => ?_) (fun h20 => ?_) | refine z_icmp_le (pc' := 23) 15 rfl rfl (tgt := 30) rfl (fun h20 => ?_) (fun h20 => ?_)
    · refine z_il2 (pc' := 31) 20 rfl rfl ?_
      exact z_ireturn 21 rfl rfl (by first | rfl | exact zbo_nar) rfl rfl (by refine ⟨?_, rfl⟩; congr 3; unfold tn; first | (rw [if_pos (by omega), if_pos (by omega)]; done) | (rw [if_pos (show h < p by omega)]; first | rw [if_pos (by omega)] | rw [if_neg (by omega)]) | (rw [if_neg (show ¬ h < p by omega)]; first | rw [if_pos (by omega)] | rw [if_neg (by omega)]))
    · refine z_bipush (v := nI 8) (by decide) (pc' := 25) 16 rfl rfl ?_
      refine z_il2 (pc' := 26) 17 rfl rfl ?_
      first | refine z_isubN (by omega) (pc' := 27) 18 rfl rfl ?_ | refine z_isub (pc' := 27) 18 rfl rfl ?_
      refine z_goto 19 rfl (tgt := 31) rfl ?_
      exact z_ireturn 21 rfl rfl (by first | rfl | exact zbo_nar) rfl rfl (by refine ⟨?_, rfl⟩; congr 3; unfold tn; first | (rw [if_pos (by omega), if_pos (by omega)]; done) | (rw [if_pos (show h < p by omega)]; first | rw [if_pos (by omega)] | rw [if_neg (by omega)]) | (rw [if_neg (show ¬ h < p by omega)]; first | rw [if_pos (by omega)] | rw [if_neg (by omega)]))
  · refine z_il0 (pc' := 6) 3 rfl rfl ?_
    refine z_il1 (pc' := 7) 4 rfl rfl ?_
    first | refine z_isubN (by omega) (pc' := 8) 5 rfl rfl ?_ | refine z_isub (pc' := 8) 5 rfl rfl ?_
    refine z_goto 6 rfl (tgt := 14) rfl ?_
    refine z_is2 rfl rfl (pc' := 15) 10 rfl rfl ?_
    refine z_il2 (pc' := 16) 11 rfl rfl ?_
    refine z_bipush (v := nI 8) (by decide) (pc' := 18) 12 rfl rfl ?_
    refine z_il2 (pc' := 19) 13 rfl rfl ?_
    first | refine z_isubN (by omega) (pc' := 20) 14 rfl rfl ?_ | refine z_isub (pc' := 20) 14 rfl rfl ?_
    first | refine z_icmp_leN (pc' := 23) 15 rfl rfl (tgt := 30) rfl (by omega) (by omega) (fun h20 => ?_) (fun h20 => ?_) | refine z_icmp_le (pc' := 23) 15 rfl rfl (tgt := 30) rfl (fun h20 => ?_) (fun h20 => ?_)
    · refine z_il2 (pc' := 31) 20 rfl rfl ?_
      exact z_ireturn 21 rfl rfl (by first | rfl | exact zbo_nar) rfl rfl (by refine ⟨?_, rfl⟩; congr 3; unfold tn; first | (rw [if_pos (by omega), if_pos (by omega)]; done) | (rw [if_pos (show h < p by omega)]; first | rw [if_pos (by omega)] | rw [if_neg (by omega)]) | (rw [if_neg (show ¬ h < p by omega)]; first | rw [if_pos (by omega)] | rw [if_neg (by omega)]))
    · refine z_bipush (v := nI 8) (by decide) (pc' := 25) 16 rfl rfl ?_
      refine z_il2 (pc' := 26) 17 rfl rfl ?_
      first | refine z_isubN (by omega) (pc' := 27) 18 rfl rfl ?_ | refine z_isub (pc' := 27) 18 rfl rfl ?_
      refine z_goto 19 rfl (tgt := 31) rfl ?_
      exact z_ireturn 21 rfl rfl (by first | rfl | exact zbo_nar) rfl rfl (by refine ⟨?_, rfl⟩; congr 3; unfold tn; first | (rw [if_pos (by omega), if_pos (by omega)]; done) | (rw [if_pos (show h < p by omega)]; first | rw [if_pos (by omega)] | rw [if_neg (by omega)]) | (rw [if_neg (show ¬ h < p by omega)]; first | rw [if_pos (by omega)] | rw [if_neg (by omega)]))
set_option maxHeartbeats 4000000 in
set_option maxRecDepth 100000 in
theorem c_Wb_gainOf {G : zG} {n u : Nat} {μ : Nat → va_E} {k f t m : Nat} (hk : k ≤ 5) (hf : f ≤ 9) (ht : t ≤ 4) (hm : m ≤ 16) : zMet G 0 M_Wb_gainOf [.int (nI k), .int (nI f), .int (nI t), .int (nI m)] n u μ n u (zE (some (.int (nI (gn k f t m)))) μ) := by
  refine z_start (lv := [.int (nI k), .int (nI f), .int (nI t), .int (nI m), .retAddr 0, .retAddr 0, .retAddr 0]) K_Wb_gainOf rfl rfl (Nat.le_refl _) (Nat.le_refl _) (Nat.le_of_ble_eq_true rfl) rfl ?_
  refine z_il1 (pc' := 1) 0 rfl rfl ?_
  refine z_il2 (pc' := 2) 1 rfl rfl ?_
  first | refine z_icmp_leN (pc' := 5) 2 rfl rfl (tgt := 11) rfl (by omega) (by omega) (fun h2 => ?_) (fun h2 => ?_) | refine z_icmp_le (pc' := 5) 2 rfl rfl (tgt := 11) rfl (fun h2 => ?_) (fun h2 => ?_)
  · refine z_iconst (v := nI 0) (by decide) (pc' := 12) 7 rfl rfl ?_
    refine z_is4 rfl rfl (pc' := 14) 8 rfl rfl ?_
    refine z_il1 (pc' := 15) 9 rfl rfl ?_
    refine z_il2 (pc' := 16) 10 rfl rfl ?_
    refine z_iconst (v := nI 2) (by decide) (pc' := 17) 11 rfl rfl ?_
    refine z_idiv (by decide) (pc' := 18) 12 rfl rfl ?_
    rw [zd2 t (by omega)]
    first | refine z_icmp_leN (pc' := 21) 13 rfl rfl (tgt := 29) rfl (by omega) (by omega) (fun h18 => ?_) (fun h18 => ?_) | refine z_icmp_le (pc' := 21) 13 rfl rfl (tgt := 29) rfl (fun h18 => ?_) (fun h18 => ?_)
    · refine z_iconst (v := nI 0) (by decide) (pc' := 30) 20 rfl rfl ?_
      refine z_is5 rfl rfl (pc' := 32) 21 rfl rfl ?_
      refine z_il3 (pc' := 33) 22 rfl rfl ?_
      refine z_iconst (v := nI 3) (by decide) (pc' := 34) 23 rfl rfl ?_
      first | refine z_icmp_geN (pc' := 37) 24 rfl rfl (tgt := 41) rfl (by omega) (by omega) (fun h34 => ?_) (fun h34 => ?_) | refine z_icmp_ge (pc' := 37) 24 rfl rfl (tgt := 41) rfl (fun h34 => ?_) (fun h34 => ?_)
      · refine z_il4 (pc' := 43) 27 rfl rfl ?_
        refine z_is6 rfl rfl (pc' := 45) 28 rfl rfl ?_
        refine z_il0 (pc' := 46) 29 rfl rfl ?_
        first | refine z_swN (by omega) 1 (by decide) (fun h46_1 => ?_) (fun h46_1 => ?_) | refine z_sw 1 (fun h46_1 => ?_) (fun h46_1 => ?_)
        · refine z_tableIn 30 rfl (by decide) (by decide) (off := 34) rfl (tgt := 80) rfl ?_
          refine z_il4 (pc' := 82) 31 rfl rfl ?_
          refine z_iconst (v := nI 2) (by decide) (pc' := 83) 32 rfl rfl ?_
          refine z_idiv (by decide) (pc' := 84) 33 rfl rfl ?_
          rw [zd2 _ (by omega)]
          exact z_ireturn 34 rfl rfl (by first | rfl | exact zbo_nar) rfl rfl (by refine ⟨?_, rfl⟩; congr 3; first | (subst h46_1; simp only [gn] <;> omega) | (subst h46_2; simp only [gn] <;> omega) | (subst h46_3; simp only [gn] <;> omega) | (subst h46_4; simp only [gn]; split <;> omega) | (subst h46_5; simp only [gn]; split <;> omega) | (have hk0 : k = 0 := (by omega); subst hk0; simp only [gn] <;> omega))
        first | refine z_swN (by omega) 2 (by decide) (fun h46_2 => ?_) (fun h46_2 => ?_) | refine z_sw 2 (fun h46_2 => ?_) (fun h46_2 => ?_)
        · refine z_tableIn 30 rfl (by decide) (by decide) (off := 39) rfl (tgt := 85) rfl ?_
          refine z_il5 (pc' := 87) 35 rfl rfl ?_
          exact z_ireturn 36 rfl rfl (by first | rfl | exact zbo_nar) rfl rfl (by refine ⟨?_, rfl⟩; congr 3; first | (subst h46_1; simp only [gn] <;> omega) | (subst h46_2; simp only [gn] <;> omega) | (subst h46_3; simp only [gn] <;> omega) | (subst h46_4; simp only [gn]; split <;> omega) | (subst h46_5; simp only [gn]; split <;> omega) | (have hk0 : k = 0 := (by omega); subst hk0; simp only [gn] <;> omega))
        first | refine z_swN (by omega) 3 (by decide) (fun h46_3 => ?_) (fun h46_3 => ?_) | refine z_sw 3 (fun h46_3 => ?_) (fun h46_3 => ?_)
        · refine z_tableIn 30 rfl (by decide) (by decide) (off := 42) rfl (tgt := 88) rfl ?_
          refine z_il5 (pc' := 90) 37 rfl rfl ?_
          refine z_iconst (v := nI 1) (by decide) (pc' := 91) 38 rfl rfl ?_
          first | refine z_iaddN (pc' := 92) 39 rfl rfl ?_ | refine z_iadd (pc' := 92) 39 rfl rfl ?_
          exact z_ireturn 40 rfl rfl (by first | rfl | exact zbo_nar) rfl rfl (by refine ⟨?_, rfl⟩; congr 3; first | (subst h46_1; simp only [gn] <;> omega) | (subst h46_2; simp only [gn] <;> omega) | (subst h46_3; simp only [gn] <;> omega) | (subst h46_4; simp only [gn]; split <;> omega) | (subst h46_5; simp only [gn]; split <;> omega) | (have hk0 : k = 0 := (by omega); subst hk0; simp only [gn] <;> omega))
        first | refine z_swN (by omega) 4 (by decide) (fun h46_4 => ?_) (fun h46_4 => ?_) | refine z_sw 4 (fun h46_4 => ?_) (fun h46_4 => ?_)
        · refine z_tableIn 30 rfl (by decide) (by decide) (off := 47) rfl (tgt := 93) rfl ?_
          refine z_il6 (pc' := 95) 41 rfl rfl ?_
          exact z_ireturn 42 rfl rfl (by first | rfl | exact zbo_nar) rfl rfl (by refine ⟨?_, rfl⟩; congr 3; first | (subst h46_1; simp only [gn] <;> omega) | (subst h46_2; simp only [gn] <;> omega) | (subst h46_3; simp only [gn] <;> omega) | (subst h46_4; simp only [gn]; split <;> omega) | (subst h46_5; simp only [gn]; split <;> omega) | (have hk0 : k = 0 := (by omega); subst hk0; simp only [gn] <;> omega))
        first | refine z_swN (by omega) 5 (by decide) (fun h46_5 => ?_) (fun h46_5 => ?_) | refine z_sw 5 (fun h46_5 => ?_) (fun h46_5 => ?_)
        · refine z_tableIn 30 rfl (by decide) (by decide) (off := 50) rfl (tgt := 96) rfl ?_
          refine z_il6 (pc' := 98) 43 rfl rfl ?_
          refine z_bipush (v := nI 9) (by decide) (pc' := 100) 44 rfl rfl ?_
          first | refine z_iaddN (pc' := 101) 45 rfl rfl ?_ | refine z_iadd (pc' := 101) 45 rfl rfl ?_
          refine z_il1 (pc' := 102) 46 rfl rfl ?_
          first | refine z_isubN (by omega) (pc' := 103) 47 rfl rfl ?_ | refine z_isub (pc' := 103) 47 rfl rfl ?_
          exact z_ireturn 48 rfl rfl (by first | rfl | exact zbo_nar) rfl rfl (by refine ⟨?_, rfl⟩; congr 3; first | (subst h46_1; simp only [gn] <;> omega) | (subst h46_2; simp only [gn] <;> omega) | (subst h46_3; simp only [gn] <;> omega) | (subst h46_4; simp only [gn]; split <;> omega) | (subst h46_5; simp only [gn]; split <;> omega) | (have hk0 : k = 0 := (by omega); subst hk0; simp only [gn] <;> omega))
        refine z_tableOut 30 rfl (by first | (rw [nI_toInt (by omega)]; omega) | (have e1 := z_ne (by decide) h46_1; have e2 := z_ne (by decide) h46_2; have e3 := z_ne (by decide) h46_3; have e4 := z_ne (by decide) h46_4; have e5 := z_ne (by decide) h46_5; omega)) (tgt := 104) rfl ?_
        refine z_il4 (pc' := 106) 49 rfl rfl ?_
        exact z_ireturn 50 rfl rfl (by first | rfl | exact zbo_nar) rfl rfl (by refine ⟨?_, rfl⟩; congr 3; first | (subst h46_1; simp only [gn] <;> omega) | (subst h46_2; simp only [gn] <;> omega) | (subst h46_3; simp only [gn] <;> omega) | (subst h46_4; simp only [gn]; split <;> omega) | (subst h46_5; simp only [gn]; split <;> omega) | (have hk0 : k = 0 := (by omega); subst hk0; simp only [gn] <;> omega))
      · refine z_iconst (v := nI 0) (by decide) (pc' := 38) 25 rfl rfl ?_
        refine z_goto 26 rfl (tgt := 43) rfl ?_
        refine z_is6 rfl rfl (pc' := 45) 28 rfl rfl ?_
        refine z_il0 (pc' := 46) 29 rfl rfl ?_
        first | refine z_swN (by omega) 1 (by decide) (fun h46_1 => ?_) (fun h46_1 => ?_) | refine z_sw 1 (fun h46_1 => ?_) (fun h46_1 => ?_)
        · refine z_tableIn 30 rfl (by decide) (by decide) (off := 34) rfl (tgt := 80) rfl ?_
          refine z_il4 (pc' := 82) 31 rfl rfl ?_
          refine z_iconst (v := nI 2) (by decide) (pc' := 83) 32 rfl rfl ?_
          refine z_idiv (by decide) (pc' := 84) 33 rfl rfl ?_
          rw [zd2 _ (by omega)]
          exact z_ireturn 34 rfl rfl (by first | rfl | exact zbo_nar) rfl rfl (by refine ⟨?_, rfl⟩; congr 3; first | (subst h46_1; simp only [gn] <;> omega) | (subst h46_2; simp only [gn] <;> omega) | (subst h46_3; simp only [gn] <;> omega) | (subst h46_4; simp only [gn]; split <;> omega) | (subst h46_5; simp only [gn]; split <;> omega) | (have hk0 : k = 0 := (by omega); subst hk0; simp only [gn] <;> omega))
        first | refine z_swN (by omega) 2 (by decide) (fun h46_2 => ?_) (fun h46_2 => ?_) | refine z_sw 2 (fun h46_2 => ?_) (fun h46_2 => ?_)
        · refine z_tableIn 30 rfl (by decide) (by decide) (off := 39) rfl (tgt := 85) rfl ?_
          refine z_il5 (pc' := 87) 35 rfl rfl ?_
          exact z_ireturn 36 rfl rfl (by first | rfl | exact zbo_nar) rfl rfl (by refine ⟨?_, rfl⟩; congr 3; first | (subst h46_1; simp only [gn] <;> omega) | (subst h46_2; simp only [gn] <;> omega) | (subst h46_3; simp only [gn] <;> omega) | (subst h46_4; simp only [gn]; split <;> omega) | (subst h46_5; simp only [gn]; split <;> omega) | (have hk0 : k = 0 := (by omega); subst hk0; simp only [gn] <;> omega))
        first | refine z_swN (by omega) 3 (by decide) (fun h46_3 => ?_) (fun h46_3 => ?_) | refine z_sw 3 (fun h46_3 => ?_) (fun h46_3 => ?_)
        · refine z_tableIn 30 rfl (by decide) (by decide) (off := 42) rfl (tgt := 88) rfl ?_
          refine z_il5 (pc' := 90) 37 rfl rfl ?_
          refine z_iconst (v := nI 1) (by decide) (pc' := 91) 38 rfl rfl ?_
          first | refine z_iaddN (pc' := 92) 39 rfl rfl ?_ | refine z_iadd (pc' := 92) 39 rfl rfl ?_
          exact z_ireturn 40 rfl rfl (by first | rfl | exact zbo_nar) rfl rfl (by refine ⟨?_, rfl⟩; congr 3; first | (subst h46_1; simp only [gn] <;> omega) | (subst h46_2; simp only [gn] <;> omega) | (subst h46_3; simp only [gn] <;> omega) | (subst h46_4; simp only [gn]; split <;> omega) | (subst h46_5; simp only [gn]; split <;> omega) | (have hk0 : k = 0 := (by omega); subst hk0; simp only [gn] <;> omega))
        first | refine z_swN (by omega) 4 (by decide) (fun h46_4 => ?_) (fun h46_4 => ?_) | refine z_sw 4 (fun h46_4 => ?_) (fun h46_4 => ?_)
        · refine z_tableIn 30 rfl (by decide) (by decide) (off := 47) rfl (tgt := 93) rfl ?_
          refine z_il6 (pc' := 95) 41 rfl rfl ?_
          exact z_ireturn 42 rfl rfl (by first | rfl | exact zbo_nar) rfl rfl (by refine ⟨?_, rfl⟩; congr 3; first | (subst h46_1; simp only [gn] <;> omega) | (subst h46_2; simp only [gn] <;> omega) | (subst h46_3; simp only [gn] <;> omega) | (subst h46_4; simp only [gn]; split <;> omega) | (subst h46_5; simp only [gn]; split <;> omega) | (have hk0 : k = 0 := (by omega); subst hk0; simp only [gn] <;> omega))
        first | refine z_swN (by omega) 5 (by decide) (fun h46_5 => ?_) (fun h46_5 => ?_) | refine z_sw 5 (fun h46_5 => ?_) (fun h46_5 => ?_)
        · refine z_tableIn 30 rfl (by decide) (by decide) (off := 50) rfl (tgt := 96) rfl ?_
          refine z_il6 (pc' := 98) 43 rfl rfl ?_
          refine z_bipush (v := nI 9) (by decide) (pc' := 100) 44 rfl rfl ?_
          first | refine z_iaddN (pc' := 101) 45 rfl rfl ?_ | refine z_iadd (pc' := 101) 45 rfl rfl ?_
          refine z_il1 (pc' := 102) 46 rfl rfl ?_
          first | refine z_isubN (by omega) (pc' := 103) 47 rfl rfl ?_ | refine z_isub (pc' := 103) 47 rfl rfl ?_
          exact z_ireturn 48 rfl rfl (by first | rfl | exact zbo_nar) rfl rfl (by refine ⟨?_, rfl⟩; congr 3; first | (subst h46_1; simp only [gn] <;> omega) | (subst h46_2; simp only [gn] <;> omega) | (subst h46_3; simp only [gn] <;> omega) | (subst h46_4; simp only [gn]; split <;> omega) | (subst h46_5; simp only [gn]; split <;> omega) | (have hk0 : k = 0 := (by omega); subst hk0; simp only [gn] <;> omega))
        refine z_tableOut 30 rfl (by first | (rw [nI_toInt (by omega)]; omega) | (have e1 := z_ne (by decide) h46_1; have e2 := z_ne (by decide) h46_2; have e3 := z_ne (by decide) h46_3; have e4 := z_ne (by decide) h46_4; have e5 := z_ne (by decide) h46_5; omega)) (tgt := 104) rfl ?_
        refine z_il4 (pc' := 106) 49 rfl rfl ?_
        exact z_ireturn 50 rfl rfl (by first | rfl | exact zbo_nar) rfl rfl (by refine ⟨?_, rfl⟩; congr 3; first | (subst h46_1; simp only [gn] <;> omega) | (subst h46_2; simp only [gn] <;> omega) | (subst h46_3; simp only [gn] <;> omega) | (subst h46_4; simp only [gn]; split <;> omega) | (subst h46_5; simp only [gn]; split <;> omega) | (have hk0 : k = 0 := (by omega); subst hk0; simp only [gn] <;> omega))
    · refine z_il1 (pc' := 22) 14 rfl rfl ?_
      refine z_il2 (pc' := 23) 15 rfl rfl ?_
      refine z_iconst (v := nI 2) (by decide) (pc' := 24) 16 rfl rfl ?_
      refine z_idiv (by decide) (pc' := 25) 17 rfl rfl ?_
      rw [zd2 t (by omega)]
      first | refine z_isubN (by omega) (pc' := 26) 18 rfl rfl ?_ | refine z_isub (pc' := 26) 18 rfl rfl ?_
      refine z_goto 19 rfl (tgt := 30) rfl ?_
      refine z_is5 rfl rfl (pc' := 32) 21 rfl rfl ?_
      refine z_il3 (pc' := 33) 22 rfl rfl ?_
      refine z_iconst (v := nI 3) (by decide) (pc' := 34) 23 rfl rfl ?_
      first | refine z_icmp_geN (pc' := 37) 24 rfl rfl (tgt := 41) rfl (by omega) (by omega) (fun h34 => ?_) (fun h34 => ?_) | refine z_icmp_ge (pc' := 37) 24 rfl rfl (tgt := 41) rfl (fun h34 => ?_) (fun h34 => ?_)
      · refine z_il4 (pc' := 43) 27 rfl rfl ?_
        refine z_is6 rfl rfl (pc' := 45) 28 rfl rfl ?_
        refine z_il0 (pc' := 46) 29 rfl rfl ?_
        first | refine z_swN (by omega) 1 (by decide) (fun h46_1 => ?_) (fun h46_1 => ?_) | refine z_sw 1 (fun h46_1 => ?_) (fun h46_1 => ?_)
        · refine z_tableIn 30 rfl (by decide) (by decide) (off := 34) rfl (tgt := 80) rfl ?_
          refine z_il4 (pc' := 82) 31 rfl rfl ?_
          refine z_iconst (v := nI 2) (by decide) (pc' := 83) 32 rfl rfl ?_
          refine z_idiv (by decide) (pc' := 84) 33 rfl rfl ?_
          rw [zd2 _ (by omega)]
          exact z_ireturn 34 rfl rfl (by first | rfl | exact zbo_nar) rfl rfl (by refine ⟨?_, rfl⟩; congr 3; first | (subst h46_1; simp only [gn] <;> omega) | (subst h46_2; simp only [gn] <;> omega) | (subst h46_3; simp only [gn] <;> omega) | (subst h46_4; simp only [gn]; split <;> omega) | (subst h46_5; simp only [gn]; split <;> omega) | (have hk0 : k = 0 := (by omega); subst hk0; simp only [gn] <;> omega))
        first | refine z_swN (by omega) 2 (by decide) (fun h46_2 => ?_) (fun h46_2 => ?_) | refine z_sw 2 (fun h46_2 => ?_) (fun h46_2 => ?_)
        · refine z_tableIn 30 rfl (by decide) (by decide) (off := 39) rfl (tgt := 85) rfl ?_
          refine z_il5 (pc' := 87) 35 rfl rfl ?_
          exact z_ireturn 36 rfl rfl (by first | rfl | exact zbo_nar) rfl rfl (by refine ⟨?_, rfl⟩; congr 3; first | (subst h46_1; simp only [gn] <;> omega) | (subst h46_2; simp only [gn] <;> omega) | (subst h46_3; simp only [gn] <;> omega) | (subst h46_4; simp only [gn]; split <;> omega) | (subst h46_5; simp only [gn]; split <;> omega) | (have hk0 : k = 0 := (by omega); subst hk0; simp only [gn] <;> omega))
        first | refine z_swN (by omega) 3 (by decide) (fun h46_3 => ?_) (fun h46_3 => ?_) | refine z_sw 3 (fun h46_3 => ?_) (fun h46_3 => ?_)
        · refine z_tableIn 30 rfl (by decide) (by decide) (off := 42) rfl (tgt := 88) rfl ?_
          refine z_il5 (pc' := 90) 37 rfl rfl ?_
          refine z_iconst (v := nI 1) (by decide) (pc' := 91) 38 rfl rfl ?_
          first | refine z_iaddN (pc' := 92) 39 rfl rfl ?_ | refine z_iadd (pc' := 92) 39 rfl rfl ?_
          exact z_ireturn 40 rfl rfl (by first | rfl | exact zbo_nar) rfl rfl (by refine ⟨?_, rfl⟩; congr 3; first | (subst h46_1; simp only [gn] <;> omega) | (subst h46_2; simp only [gn] <;> omega) | (subst h46_3; simp only [gn] <;> omega) | (subst h46_4; simp only [gn]; split <;> omega) | (subst h46_5; simp only [gn]; split <;> omega) | (have hk0 : k = 0 := (by omega); subst hk0; simp only [gn] <;> omega))
        first | refine z_swN (by omega) 4 (by decide) (fun h46_4 => ?_) (fun h46_4 => ?_) | refine z_sw 4 (fun h46_4 => ?_) (fun h46_4 => ?_)
        · refine z_tableIn 30 rfl (by decide) (by decide) (off := 47) rfl (tgt := 93) rfl ?_
          refine z_il6 (pc' := 95) 41 rfl rfl ?_
          exact z_ireturn 42 rfl rfl (by first | rfl | exact zbo_nar) rfl rfl (by refine ⟨?_, rfl⟩; congr 3; first | (subst h46_1; simp only [gn] <;> omega) | (subst h46_2; simp only [gn] <;> omega) | (subst h46_3; simp only [gn] <;> omega) | (subst h46_4; simp only [gn]; split <;> omega) | (subst h46_5; simp only [gn]; split <;> omega) | (have hk0 : k = 0 := (by omega); subst hk0; simp only [gn] <;> omega))
        first | refine z_swN (by omega) 5 (by decide) (fun h46_5 => ?_) (fun h46_5 => ?_) | refine z_sw 5 (fun h46_5 => ?_) (fun h46_5 => ?_)
        · refine z_tableIn 30 rfl (by decide) (by decide) (off := 50) rfl (tgt := 96) rfl ?_
          refine z_il6 (pc' := 98) 43 rfl rfl ?_
          refine z_bipush (v := nI 9) (by decide) (pc' := 100) 44 rfl rfl ?_
          first | refine z_iaddN (pc' := 101) 45 rfl rfl ?_ | refine z_iadd (pc' := 101) 45 rfl rfl ?_
          refine z_il1 (pc' := 102) 46 rfl rfl ?_
          first | refine z_isubN (by omega) (pc' := 103) 47 rfl rfl ?_ | refine z_isub (pc' := 103) 47 rfl rfl ?_
          exact z_ireturn 48 rfl rfl (by first | rfl | exact zbo_nar) rfl rfl (by refine ⟨?_, rfl⟩; congr 3; first | (subst h46_1; simp only [gn] <;> omega) | (subst h46_2; simp only [gn] <;> omega) | (subst h46_3; simp only [gn] <;> omega) | (subst h46_4; simp only [gn]; split <;> omega) | (subst h46_5; simp only [gn]; split <;> omega) | (have hk0 : k = 0 := (by omega); subst hk0; simp only [gn] <;> omega))
        refine z_tableOut 30 rfl (by first | (rw [nI_toInt (by omega)]; omega) | (have e1 := z_ne (by decide) h46_1; have e2 := z_ne (by decide) h46_2; have e3 := z_ne (by decide) h46_3; have e4 := z_ne (by decide) h46_4; have e5 := z_ne (by decide) h46_5; omega)) (tgt := 104) rfl ?_
        refine z_il4 (pc' := 106) 49 rfl rfl ?_
        exact z_ireturn 50 rfl rfl (by first | rfl | exact zbo_nar) rfl rfl (by refine ⟨?_, rfl⟩; congr 3; first | (subst h46_1; simp only [gn] <;> omega) | (subst h46_2; simp only [gn] <;> omega) | (subst h46_3; simp only [gn] <;> omega) | (subst h46_4; simp only [gn]; split <;> omega) | (subst h46_5; simp only [gn]; split <;> omega) | (have hk0 : k = 0 := (by omega); subst hk0; simp only [gn] <;> omega))
      · refine z_iconst (v := nI 0) (by decide) (pc' := 38) 25 rfl rfl ?_
        refine z_goto 26 rfl (tgt := 43) rfl ?_
        refine z_is6 rfl rfl (pc' := 45) 28 rfl rfl ?_
        refine z_il0 (pc' := 46) 29 rfl rfl ?_
        first | refine z_swN (by omega) 1 (by decide) (fun h46_1 => ?_) (fun h46_1 => ?_) | refine z_sw 1 (fun h46_1 => ?_) (fun h46_1 => ?_)
        · refine z_tableIn 30 rfl (by decide) (by decide) (off := 34) rfl (tgt := 80) rfl ?_
          refine z_il4 (pc' := 82) 31 rfl rfl ?_
          refine z_iconst (v := nI 2) (by decide) (pc' := 83) 32 rfl rfl ?_
          refine z_idiv (by decide) (pc' := 84) 33 rfl rfl ?_
          rw [zd2 _ (by omega)]
          exact z_ireturn 34 rfl rfl (by first | rfl | exact zbo_nar) rfl rfl (by refine ⟨?_, rfl⟩; congr 3; first | (subst h46_1; simp only [gn] <;> omega) | (subst h46_2; simp only [gn] <;> omega) | (subst h46_3; simp only [gn] <;> omega) | (subst h46_4; simp only [gn]; split <;> omega) | (subst h46_5; simp only [gn]; split <;> omega) | (have hk0 : k = 0 := (by omega); subst hk0; simp only [gn] <;> omega))
        first | refine z_swN (by omega) 2 (by decide) (fun h46_2 => ?_) (fun h46_2 => ?_) | refine z_sw 2 (fun h46_2 => ?_) (fun h46_2 => ?_)
        · refine z_tableIn 30 rfl (by decide) (by decide) (off := 39) rfl (tgt := 85) rfl ?_
          refine z_il5 (pc' := 87) 35 rfl rfl ?_
          exact z_ireturn 36 rfl rfl (by first | rfl | exact zbo_nar) rfl rfl (by refine ⟨?_, rfl⟩; congr 3; first | (subst h46_1; simp only [gn] <;> omega) | (subst h46_2; simp only [gn] <;> omega) | (subst h46_3; simp only [gn] <;> omega) | (subst h46_4; simp only [gn]; split <;> omega) | (subst h46_5; simp only [gn]; split <;> omega) | (have hk0 : k = 0 := (by omega); subst hk0; simp only [gn] <;> omega))
        first | refine z_swN (by omega) 3 (by decide) (fun h46_3 => ?_) (fun h46_3 => ?_) | refine z_sw 3 (fun h46_3 => ?_) (fun h46_3 => ?_)
        · refine z_tableIn 30 rfl (by decide) (by decide) (off := 42) rfl (tgt := 88) rfl ?_
          refine z_il5 (pc' := 90) 37 rfl rfl ?_
          refine z_iconst (v := nI 1) (by decide) (pc' := 91) 38 rfl rfl ?_
          first | refine z_iaddN (pc' := 92) 39 rfl rfl ?_ | refine z_iadd (pc' := 92) 39 rfl rfl ?_
          exact z_ireturn 40 rfl rfl (by first | rfl | exact zbo_nar) rfl rfl (by refine ⟨?_, rfl⟩; congr 3; first | (subst h46_1; simp only [gn] <;> omega) | (subst h46_2; simp only [gn] <;> omega) | (subst h46_3; simp only [gn] <;> omega) | (subst h46_4; simp only [gn]; split <;> omega) | (subst h46_5; simp only [gn]; split <;> omega) | (have hk0 : k = 0 := (by omega); subst hk0; simp only [gn] <;> omega))
        first | refine z_swN (by omega) 4 (by decide) (fun h46_4 => ?_) (fun h46_4 => ?_) | refine z_sw 4 (fun h46_4 => ?_) (fun h46_4 => ?_)
        · refine z_tableIn 30 rfl (by decide) (by decide) (off := 47) rfl (tgt := 93) rfl ?_
          refine z_il6 (pc' := 95) 41 rfl rfl ?_
          exact z_ireturn 42 rfl rfl (by first | rfl | exact zbo_nar) rfl rfl (by refine ⟨?_, rfl⟩; congr 3; first | (subst h46_1; simp only [gn] <;> omega) | (subst h46_2; simp only [gn] <;> omega) | (subst h46_3; simp only [gn] <;> omega) | (subst h46_4; simp only [gn]; split <;> omega) | (subst h46_5; simp only [gn]; split <;> omega) | (have hk0 : k = 0 := (by omega); subst hk0; simp only [gn] <;> omega))
        first | refine z_swN (by omega) 5 (by decide) (fun h46_5 => ?_) (fun h46_5 => ?_) | refine z_sw 5 (fun h46_5 => ?_) (fun h46_5 => ?_)
        · refine z_tableIn 30 rfl (by decide) (by decide) (off := 50) rfl (tgt := 96) rfl ?_
          refine z_il6 (pc' := 98) 43 rfl rfl ?_
          refine z_bipush (v := nI 9) (by decide) (pc' := 100) 44 rfl rfl ?_
          first | refine z_iaddN (pc' := 101) 45 rfl rfl ?_ | refine z_iadd (pc' := 101) 45 rfl rfl ?_
          refine z_il1 (pc' := 102) 46 rfl rfl ?_
          first | refine z_isubN (by omega) (pc' := 103) 47 rfl rfl ?_ | refine z_isub (pc' := 103) 47 rfl rfl ?_
          exact z_ireturn 48 rfl rfl (by first | rfl | exact zbo_nar) rfl rfl (by refine ⟨?_, rfl⟩; congr 3; first | (subst h46_1; simp only [gn] <;> omega) | (subst h46_2; simp only [gn] <;> omega) | (subst h46_3; simp only [gn] <;> omega) | (subst h46_4; simp only [gn]; split <;> omega) | (subst h46_5; simp only [gn]; split <;> omega) | (have hk0 : k = 0 := (by omega); subst hk0; simp only [gn] <;> omega))
        refine z_tableOut 30 rfl (by first | (rw [nI_toInt (by omega)]; omega) | (have e1 := z_ne (by decide) h46_1; have e2 := z_ne (by decide) h46_2; have e3 := z_ne (by decide) h46_3; have e4 := z_ne (by decide) h46_4; have e5 := z_ne (by decide) h46_5; omega)) (tgt := 104) rfl ?_
        refine z_il4 (pc' := 106) 49 rfl rfl ?_
        exact z_ireturn 50 rfl rfl (by first | rfl | exact zbo_nar) rfl rfl (by refine ⟨?_, rfl⟩; congr 3; first | (subst h46_1; simp only [gn] <;> omega) | (subst h46_2; simp only [gn] <;> omega) | (subst h46_3; simp only [gn] <;> omega) | (subst h46_4; simp only [gn]; split <;> omega) | (subst h46_5; simp only [gn]; split <;> omega) | (have hk0 : k = 0 := (by omega); subst hk0; simp only [gn] <;> omega))
  · refine z_il1 (pc' := 6) 3 rfl rfl ?_
    refine z_il2 (pc' := 7) 4 rfl rfl ?_
    first | refine z_isubN (by omega) (pc' := 8) 5 rfl rfl ?_ | refine z_isub (pc' := 8) 5 rfl rfl ?_
    refine z_goto 6 rfl (tgt := 12) rfl ?_
    refine z_is4 rfl rfl (pc' := 14) 8 rfl rfl ?_
    refine z_il1 (pc' := 15) 9 rfl rfl ?_
    refine z_il2 (pc' := 16) 10 rfl rfl ?_
    refine z_iconst (v := nI 2) (by decide) (pc' := 17) 11 rfl rfl ?_
    refine z_idiv (by decide) (pc' := 18) 12 rfl rfl ?_
    rw [zd2 t (by omega)]
    first | refine z_icmp_leN (pc' := 21) 13 rfl rfl (tgt := 29) rfl (by omega) (by omega) (fun h18 => ?_) (fun h18 => ?_) | refine z_icmp_le (pc' := 21) 13 rfl rfl (tgt := 29) rfl (fun h18 => ?_) (fun h18 => ?_)
    · refine z_iconst (v := nI 0) (by decide) (pc' := 30) 20 rfl rfl ?_
      refine z_is5 rfl rfl (pc' := 32) 21 rfl rfl ?_
      refine z_il3 (pc' := 33) 22 rfl rfl ?_
      refine z_iconst (v := nI 3) (by decide) (pc' := 34) 23 rfl rfl ?_
      first | refine z_icmp_geN (pc' := 37) 24 rfl rfl (tgt := 41) rfl (by omega) (by omega) (fun h34 => ?_) (fun h34 => ?_) | refine z_icmp_ge (pc' := 37) 24 rfl rfl (tgt := 41) rfl (fun h34 => ?_) (fun h34 => ?_)
      · refine z_il4 (pc' := 43) 27 rfl rfl ?_
        refine z_is6 rfl rfl (pc' := 45) 28 rfl rfl ?_
        refine z_il0 (pc' := 46) 29 rfl rfl ?_
        first | refine z_swN (by omega) 1 (by decide) (fun h46_1 => ?_) (fun h46_1 => ?_) | refine z_sw 1 (fun h46_1 => ?_) (fun h46_1 => ?_)
        · refine z_tableIn 30 rfl (by decide) (by decide) (off := 34) rfl (tgt := 80) rfl ?_
          refine z_il4 (pc' := 82) 31 rfl rfl ?_
          refine z_iconst (v := nI 2) (by decide) (pc' := 83) 32 rfl rfl ?_
          refine z_idiv (by decide) (pc' := 84) 33 rfl rfl ?_
          rw [zd2 _ (by omega)]
          exact z_ireturn 34 rfl rfl (by first | rfl | exact zbo_nar) rfl rfl (by refine ⟨?_, rfl⟩; congr 3; first | (subst h46_1; simp only [gn] <;> omega) | (subst h46_2; simp only [gn] <;> omega) | (subst h46_3; simp only [gn] <;> omega) | (subst h46_4; simp only [gn]; split <;> omega) | (subst h46_5; simp only [gn]; split <;> omega) | (have hk0 : k = 0 := (by omega); subst hk0; simp only [gn] <;> omega))
        first | refine z_swN (by omega) 2 (by decide) (fun h46_2 => ?_) (fun h46_2 => ?_) | refine z_sw 2 (fun h46_2 => ?_) (fun h46_2 => ?_)
        · refine z_tableIn 30 rfl (by decide) (by decide) (off := 39) rfl (tgt := 85) rfl ?_
          refine z_il5 (pc' := 87) 35 rfl rfl ?_
          exact z_ireturn 36 rfl rfl (by first | rfl | exact zbo_nar) rfl rfl (by refine ⟨?_, rfl⟩; congr 3; first | (subst h46_1; simp only [gn] <;> omega) | (subst h46_2; simp only [gn] <;> omega) | (subst h46_3; simp only [gn] <;> omega) | (subst h46_4; simp only [gn]; split <;> omega) | (subst h46_5; simp only [gn]; split <;> omega) | (have hk0 : k = 0 := (by omega); subst hk0; simp only [gn] <;> omega))
        first | refine z_swN (by omega) 3 (by decide) (fun h46_3 => ?_) (fun h46_3 => ?_) | refine z_sw 3 (fun h46_3 => ?_) (fun h46_3 => ?_)
        · refine z_tableIn 30 rfl (by decide) (by decide) (off := 42) rfl (tgt := 88) rfl ?_
          refine z_il5 (pc' := 90) 37 rfl rfl ?_
          refine z_iconst (v := nI 1) (by decide) (pc' := 91) 38 rfl rfl ?_
          first | refine z_iaddN (pc' := 92) 39 rfl rfl ?_ | refine z_iadd (pc' := 92) 39 rfl rfl ?_
          exact z_ireturn 40 rfl rfl (by first | rfl | exact zbo_nar) rfl rfl (by refine ⟨?_, rfl⟩; congr 3; first | (subst h46_1; simp only [gn] <;> omega) | (subst h46_2; simp only [gn] <;> omega) | (subst h46_3; simp only [gn] <;> omega) | (subst h46_4; simp only [gn]; split <;> omega) | (subst h46_5; simp only [gn]; split <;> omega) | (have hk0 : k = 0 := (by omega); subst hk0; simp only [gn] <;> omega))
        first | refine z_swN (by omega) 4 (by decide) (fun h46_4 => ?_) (fun h46_4 => ?_) | refine z_sw 4 (fun h46_4 => ?_) (fun h46_4 => ?_)
        · refine z_tableIn 30 rfl (by decide) (by decide) (off := 47) rfl (tgt := 93) rfl ?_
          refine z_il6 (pc' := 95) 41 rfl rfl ?_
          exact z_ireturn 42 rfl rfl (by first | rfl | exact zbo_nar) rfl rfl (by refine ⟨?_, rfl⟩; congr 3; first | (subst h46_1; simp only [gn] <;> omega) | (subst h46_2; simp only [gn] <;> omega) | (subst h46_3; simp only [gn] <;> omega) | (subst h46_4; simp only [gn]; split <;> omega) | (subst h46_5; simp only [gn]; split <;> omega) | (have hk0 : k = 0 := (by omega); subst hk0; simp only [gn] <;> omega))
        first | refine z_swN (by omega) 5 (by decide) (fun h46_5 => ?_) (fun h46_5 => ?_) | refine z_sw 5 (fun h46_5 => ?_) (fun h46_5 => ?_)
        · refine z_tableIn 30 rfl (by decide) (by decide) (off := 50) rfl (tgt := 96) rfl ?_
          refine z_il6 (pc' := 98) 43 rfl rfl ?_
          refine z_bipush (v := nI 9) (by decide) (pc' := 100) 44 rfl rfl ?_
          first | refine z_iaddN (pc' := 101) 45 rfl rfl ?_ | refine z_iadd (pc' := 101) 45 rfl rfl ?_
          refine z_il1 (pc' := 102) 46 rfl rfl ?_
          first | refine z_isubN (by omega) (pc' := 103) 47 rfl rfl ?_ | refine z_isub (pc' := 103) 47 rfl rfl ?_
          exact z_ireturn 48 rfl rfl (by first | rfl | exact zbo_nar) rfl rfl (by refine ⟨?_, rfl⟩; congr 3; first | (subst h46_1; simp only [gn] <;> omega) | (subst h46_2; simp only [gn] <;> omega) | (subst h46_3; simp only [gn] <;> omega) | (subst h46_4; simp only [gn]; split <;> omega) | (subst h46_5; simp only [gn]; split <;> omega) | (have hk0 : k = 0 := (by omega); subst hk0; simp only [gn] <;> omega))
        refine z_tableOut 30 rfl (by first | (rw [nI_toInt (by omega)]; omega) | (have e1 := z_ne (by decide) h46_1; have e2 := z_ne (by decide) h46_2; have e3 := z_ne (by decide) h46_3; have e4 := z_ne (by decide) h46_4; have e5 := z_ne (by decide) h46_5; omega)) (tgt := 104) rfl ?_
        refine z_il4 (pc' := 106) 49 rfl rfl ?_
        exact z_ireturn 50 rfl rfl (by first | rfl | exact zbo_nar) rfl rfl (by refine ⟨?_, rfl⟩; congr 3; first | (subst h46_1; simp only [gn] <;> omega) | (subst h46_2; simp only [gn] <;> omega) | (subst h46_3; simp only [gn] <;> omega) | (subst h46_4; simp only [gn]; split <;> omega) | (subst h46_5; simp only [gn]; split <;> omega) | (have hk0 : k = 0 := (by omega); subst hk0; simp only [gn] <;> omega))
      · refine z_iconst (v := nI 0) (by decide) (pc' := 38) 25 rfl rfl ?_
        refine z_goto 26 rfl (tgt := 43) rfl ?_
        refine z_is6 rfl rfl (pc' := 45) 28 rfl rfl ?_
        refine z_il0 (pc' := 46) 29 rfl rfl ?_
        first | refine z_swN (by omega) 1 (by decide) (fun h46_1 => ?_) (fun h46_1 => ?_) | refine z_sw 1 (fun h46_1 => ?_) (fun h46_1 => ?_)
        · refine z_tableIn 30 rfl (by decide) (by decide) (off := 34) rfl (tgt := 80) rfl ?_
          refine z_il4 (pc' := 82) 31 rfl rfl ?_
          refine z_iconst (v := nI 2) (by decide) (pc' := 83) 32 rfl rfl ?_
          refine z_idiv (by decide) (pc' := 84) 33 rfl rfl ?_
          rw [zd2 _ (by omega)]
          exact z_ireturn 34 rfl rfl (by first | rfl | exact zbo_nar) rfl rfl (by refine ⟨?_, rfl⟩; congr 3; first | (subst h46_1; simp only [gn] <;> omega) | (subst h46_2; simp only [gn] <;> omega) | (subst h46_3; simp only [gn] <;> omega) | (subst h46_4; simp only [gn]; split <;> omega) | (subst h46_5; simp only [gn]; split <;> omega) | (have hk0 : k = 0 := (by omega); subst hk0; simp only [gn] <;> omega))
        first | refine z_swN (by omega) 2 (by decide) (fun h46_2 => ?_) (fun h46_2 => ?_) | refine z_sw 2 (fun h46_2 => ?_) (fun h46_2 => ?_)
        · refine z_tableIn 30 rfl (by decide) (by decide) (off := 39) rfl (tgt := 85) rfl ?_
          refine z_il5 (pc' := 87) 35 rfl rfl ?_
          exact z_ireturn 36 rfl rfl (by first | rfl | exact zbo_nar) rfl rfl (by refine ⟨?_, rfl⟩; congr 3; first | (subst h46_1; simp only [gn] <;> omega) | (subst h46_2; simp only [gn] <;> omega) | (subst h46_3; simp only [gn] <;> omega) | (subst h46_4; simp only [gn]; split <;> omega) | (subst h46_5; simp only [gn]; split <;> omega) | (have hk0 : k = 0 := (by omega); subst hk0; simp only [gn] <;> omega))
        first | refine z_swN (by omega) 3 (by decide) (fun h46_3 => ?_) (fun h46_3 => ?_) | refine z_sw 3 (fun h46_3 => ?_) (fun h46_3 => ?_)
        · refine z_tableIn 30 rfl (by decide) (by decide) (off := 42) rfl (tgt := 88) rfl ?_
          refine z_il5 (pc' := 90) 37 rfl rfl ?_
          refine z_iconst (v := nI 1) (by decide) (pc' := 91) 38 rfl rfl ?_
          first | refine z_iaddN (pc' := 92) 39 rfl rfl ?_ | refine z_iadd (pc' := 92) 39 rfl rfl ?_
          exact z_ireturn 40 rfl rfl (by first | rfl | exact zbo_nar) rfl rfl (by refine ⟨?_, rfl⟩; congr 3; first | (subst h46_1; simp only [gn] <;> omega) | (subst h46_2; simp only [gn] <;> omega) | (subst h46_3; simp only [gn] <;> omega) | (subst h46_4; simp only [gn]; split <;> omega) | (subst h46_5; simp only [gn]; split <;> omega) | (have hk0 : k = 0 := (by omega); subst hk0; simp only [gn] <;> omega))
        first | refine z_swN (by omega) 4 (by decide) (fun h46_4 => ?_) (fun h46_4 => ?_) | refine z_sw 4 (fun h46_4 => ?_) (fun h46_4 => ?_)
        · refine z_tableIn 30 rfl (by decide) (by decide) (off := 47) rfl (tgt := 93) rfl ?_
          refine z_il6 (pc' := 95) 41 rfl rfl ?_
          exact z_ireturn 42 rfl rfl (by first | rfl | exact zbo_nar) rfl rfl (by refine ⟨?_, rfl⟩; congr 3; first | (subst h46_1; simp only [gn] <;> omega) | (subst h46_2; simp only [gn] <;> omega) | (subst h46_3; simp only [gn] <;> omega) | (subst h46_4; simp only [gn]; split <;> omega) | (subst h46_5; simp only [gn]; split <;> omega) | (have hk0 : k = 0 := (by omega); subst hk0; simp only [gn] <;> omega))
        first | refine z_swN (by omega) 5 (by decide) (fun h46_5 => ?_) (fun h46_5 => ?_) | refine z_sw 5 (fun h46_5 => ?_) (fun h46_5 => ?_)
        · refine z_tableIn 30 rfl (by decide) (by decide) (off := 50) rfl (tgt := 96) rfl ?_
          refine z_il6 (pc' := 98) 43 rfl rfl ?_
          refine z_bipush (v := nI 9) (by decide) (pc' := 100) 44 rfl rfl ?_
          first | refine z_iaddN (pc' := 101) 45 rfl rfl ?_ | refine z_iadd (pc' := 101) 45 rfl rfl ?_
          refine z_il1 (pc' := 102) 46 rfl rfl ?_
          first | refine z_isubN (by omega) (pc' := 103) 47 rfl rfl ?_ | refine z_isub (pc' := 103) 47 rfl rfl ?_
          exact z_ireturn 48 rfl rfl (by first | rfl | exact zbo_nar) rfl rfl (by refine ⟨?_, rfl⟩; congr 3; first | (subst h46_1; simp only [gn] <;> omega) | (subst h46_2; simp only [gn] <;> omega) | (subst h46_3; simp only [gn] <;> omega) | (subst h46_4; simp only [gn]; split <;> omega) | (subst h46_5; simp only [gn]; split <;> omega) | (have hk0 : k = 0 := (by omega); subst hk0; simp only [gn] <;> omega))
        refine z_tableOut 30 rfl (by first | (rw [nI_toInt (by omega)]; omega) | (have e1 := z_ne (by decide) h46_1; have e2 := z_ne (by decide) h46_2; have e3 := z_ne (by decide) h46_3; have e4 := z_ne (by decide) h46_4; have e5 := z_ne (by decide) h46_5; omega)) (tgt := 104) rfl ?_
        refine z_il4 (pc' := 106) 49 rfl rfl ?_
        exact z_ireturn 50 rfl rfl (by first | rfl | exact zbo_nar) rfl rfl (by refine ⟨?_, rfl⟩; congr 3; first | (subst h46_1; simp only [gn] <;> omega) | (subst h46_2; simp only [gn] <;> omega) | (subst h46_3; simp only [gn] <;> omega) | (subst h46_4; simp only [gn]; split <;> omega) | (subst h46_5; simp only [gn]; split <;> omega) | (have hk0 : k = 0 := (by omega); subst hk0; simp only [gn] <;> omega))
    · refine z_il1 (pc' := 22) 14 rfl rfl ?_
      refine z_il2 (pc' := 23) 15 rfl rfl ?_
      refine z_iconst (v := nI 2) (by decide) (pc' := 24) 16 rfl rfl ?_
      refine z_idiv (by decide) (pc' := 25) 17 rfl rfl ?_
      rw [zd2 t (by omega)]
      first | refine z_isubN (by omega) (pc' := 26) 18 rfl rfl ?_ | refine z_isub (pc' := 26) 18 rfl rfl ?_
      refine z_goto 19 rfl (tgt := 30) rfl ?_
      refine z_is5 rfl rfl (pc' := 32) 21 rfl rfl ?_
      refine z_il3 (pc' := 33) 22 rfl rfl ?_
      refine z_iconst (v := nI 3) (by decide) (pc' := 34) 23 rfl rfl ?_
      first | refine z_icmp_geN (pc' := 37) 24 rfl rfl (tgt := 41) rfl (by omega) (by omega) (fun h34 => ?_) (fun h34 => ?_) | refine z_icmp_ge (pc' := 37) 24 rfl rfl (tgt := 41) rfl (fun h34 => ?_) (fun h34 => ?_)
      · refine z_il4 (pc' := 43) 27 rfl rfl ?_
        refine z_is6 rfl rfl (pc' := 45) 28 rfl rfl ?_
        refine z_il0 (pc' := 46) 29 rfl rfl ?_
        first | refine z_swN (by omega) 1 (by decide) (fun h46_1 => ?_) (fun h46_1 => ?_) | refine z_sw 1 (fun h46_1 => ?_) (fun h46_1 => ?_)
        · refine z_tableIn 30 rfl (by decide) (by decide) (off := 34) rfl (tgt := 80) rfl ?_
          refine z_il4 (pc' := 82) 31 rfl rfl ?_
          refine z_iconst (v := nI 2) (by decide) (pc' := 83) 32 rfl rfl ?_
          refine z_idiv (by decide) (pc' := 84) 33 rfl rfl ?_
          rw [zd2 _ (by omega)]
          exact z_ireturn 34 rfl rfl (by first | rfl | exact zbo_nar) rfl rfl (by refine ⟨?_, rfl⟩; congr 3; first | (subst h46_1; simp only [gn] <;> omega) | (subst h46_2; simp only [gn] <;> omega) | (subst h46_3; simp only [gn] <;> omega) | (subst h46_4; simp only [gn]; split <;> omega) | (subst h46_5; simp only [gn]; split <;> omega) | (have hk0 : k = 0 := (by omega); subst hk0; simp only [gn] <;> omega))
        first | refine z_swN (by omega) 2 (by decide) (fun h46_2 => ?_) (fun h46_2 => ?_) | refine z_sw 2 (fun h46_2 => ?_) (fun h46_2 => ?_)
        · refine z_tableIn 30 rfl (by decide) (by decide) (off := 39) rfl (tgt := 85) rfl ?_
          refine z_il5 (pc' := 87) 35 rfl rfl ?_
          exact z_ireturn 36 rfl rfl (by first | rfl | exact zbo_nar) rfl rfl (by refine ⟨?_, rfl⟩; congr 3; first | (subst h46_1; simp only [gn] <;> omega) | (subst h46_2; simp only [gn] <;> omega) | (subst h46_3; simp only [gn] <;> omega) | (subst h46_4; simp only [gn]; split <;> omega) | (subst h46_5; simp only [gn]; split <;> omega) | (have hk0 : k = 0 := (by omega); subst hk0; simp only [gn] <;> omega))
        first | refine z_swN (by omega) 3 (by decide) (fun h46_3 => ?_) (fun h46_3 => ?_) | refine z_sw 3 (fun h46_3 => ?_) (fun h46_3 => ?_)
        · refine z_tableIn 30 rfl (by decide) (by decide) (off := 42) rfl (tgt := 88) rfl ?_
          refine z_il5 (pc' := 90) 37 rfl rfl ?_
          refine z_iconst (v := nI 1) (by decide) (pc' := 91) 38 rfl rfl ?_
          first | refine z_iaddN (pc' := 92) 39 rfl rfl ?_ | refine z_iadd (pc' := 92) 39 rfl rfl ?_
          exact z_ireturn 40 rfl rfl (by first | rfl | exact zbo_nar) rfl rfl (by refine ⟨?_, rfl⟩; congr 3; first | (subst h46_1; simp only [gn] <;> omega) | (subst h46_2; simp only [gn] <;> omega) | (subst h46_3; simp only [gn] <;> omega) | (subst h46_4; simp only [gn]; split <;> omega) | (subst h46_5; simp only [gn]; split <;> omega) | (have hk0 : k = 0 := (by omega); subst hk0; simp only [gn] <;> omega))
        first | refine z_swN (by omega) 4 (by decide) (fun h46_4 => ?_) (fun h46_4 => ?_) | refine z_sw 4 (fun h46_4 => ?_) (fun h46_4 => ?_)
        · refine z_tableIn 30 rfl (by decide) (by decide) (off := 47) rfl (tgt := 93) rfl ?_
          refine z_il6 (pc' := 95) 41 rfl rfl ?_
          exact z_ireturn 42 rfl rfl (by first | rfl | exact zbo_nar) rfl rfl (by refine ⟨?_, rfl⟩; congr 3; first | (subst h46_1; simp only [gn] <;> omega) | (subst h46_2; simp only [gn] <;> omega) | (subst h46_3; simp only [gn] <;> omega) | (subst h46_4; simp only [gn]; split <;> omega) | (subst h46_5; simp only [gn]; split <;> omega) | (have hk0 : k = 0 := (by omega); subst hk0; simp only [gn] <;> omega))
        first | refine z_swN (by omega) 5 (by decide) (fun h46_5 => ?_) (fun h46_5 => ?_) | refine z_sw 5 (fun h46_5 => ?_) (fun h46_5 => ?_)
        · refine z_tableIn 30 rfl (by decide) (by decide) (off := 50) rfl (tgt := 96) rfl ?_
          refine z_il6 (pc' := 98) 43 rfl rfl ?_
          refine z_bipush (v := nI 9) (by decide) (pc' := 100) 44 rfl rfl ?_
          first | refine z_iaddN (pc' := 101) 45 rfl rfl ?_ | refine z_iadd (pc' := 101) 45 rfl rfl ?_
          refine z_il1 (pc' := 102) 46 rfl rfl ?_
          first | refine z_isubN (by omega) (pc' := 103) 47 rfl rfl ?_ | refine z_isub (pc' := 103) 47 rfl rfl ?_
          exact z_ireturn 48 rfl rfl (by first | rfl | exact zbo_nar) rfl rfl (by refine ⟨?_, rfl⟩; congr 3; first | (subst h46_1; simp only [gn] <;> omega) | (subst h46_2; simp only [gn] <;> omega) | (subst h46_3; simp only [gn] <;> omega) | (subst h46_4; simp only [gn]; split <;> omega) | (subst h46_5; simp only [gn]; split <;> omega) | (have hk0 : k = 0 := (by omega); subst hk0; simp only [gn] <;> omega))
        refine z_tableOut 30 rfl (by first | (rw [nI_toInt (by omega)]; omega) | (have e1 := z_ne (by decide) h46_1; have e2 := z_ne (by decide) h46_2; have e3 := z_ne (by decide) h46_3; have e4 := z_ne (by decide) h46_4; have e5 := z_ne (by decide) h46_5; omega)) (tgt := 104) rfl ?_
        refine z_il4 (pc' := 106) 49 rfl rfl ?_
        exact z_ireturn 50 rfl rfl (by first | rfl | exact zbo_nar) rfl rfl (by refine ⟨?_, rfl⟩; congr 3; first | (subst h46_1; simp only [gn] <;> omega) | (subst h46_2; simp only [gn] <;> omega) | (subst h46_3; simp only [gn] <;> omega) | (subst h46_4; simp only [gn]; split <;> omega) | (subst h46_5; simp only [gn]; split <;> omega) | (have hk0 : k = 0 := (by omega); subst hk0; simp only [gn] <;> omega))
      · refine z_iconst (v := nI 0) (by decide) (pc' := 38) 25 rfl rfl ?_
        refine z_goto 26 rfl (tgt := 43) rfl ?_
        refine z_is6 rfl rfl (pc' := 45) 28 rfl rfl ?_
        refine z_il0 (pc' := 46) 29 rfl rfl ?_
        first | refine z_swN (by omega) 1 (by decide) (fun h46_1 => ?_) (fun h46_1 => ?_) | refine z_sw 1 (fun h46_1 => ?_) (fun h46_1 => ?_)
        · refine z_tableIn 30 rfl (by decide) (by decide) (off := 34) rfl (tgt := 80) rfl ?_
          refine z_il4 (pc' := 82) 31 rfl rfl ?_
          refine z_iconst (v := nI 2) (by decide) (pc' := 83) 32 rfl rfl ?_
          refine z_idiv (by decide) (pc' := 84) 33 rfl rfl ?_
          rw [zd2 _ (by omega)]
          exact z_ireturn 34 rfl rfl (by first | rfl | exact zbo_nar) rfl rfl (by refine ⟨?_, rfl⟩; congr 3; first | (subst h46_1; simp only [gn] <;> omega) | (subst h46_2; simp only [gn] <;> omega) | (subst h46_3; simp only [gn] <;> omega) | (subst h46_4; simp only [gn]; split <;> omega) | (subst h46_5; simp only [gn]; split <;> omega) | (have hk0 : k = 0 := (by omega); subst hk0; simp only [gn] <;> omega))
        first | refine z_swN (by omega) 2 (by decide) (fun h46_2 => ?_) (fun h46_2 => ?_) | refine z_sw 2 (fun h46_2 => ?_) (fun h46_2 => ?_)
        · refine z_tableIn 30 rfl (by decide) (by decide) (off := 39) rfl (tgt := 85) rfl ?_
          refine z_il5 (pc' := 87) 35 rfl rfl ?_
          exact z_ireturn 36 rfl rfl (by first | rfl | exact zbo_nar) rfl rfl (by refine ⟨?_, rfl⟩; congr 3; first | (subst h46_1; simp only [gn] <;> omega) | (subst h46_2; simp only [gn] <;> omega) | (subst h46_3; simp only [gn] <;> omega) | (subst h46_4; simp only [gn]; split <;> omega) | (subst h46_5; simp only [gn]; split <;> omega) | (have hk0 : k = 0 := (by omega); subst hk0; simp only [gn] <;> omega))
        first | refine z_swN (by omega) 3 (by decide) (fun h46_3 => ?_) (fun h46_3 => ?_) | refine z_sw 3 (fun h46_3 => ?_) (fun h46_3 => ?_)
        · refine z_tableIn 30 rfl (by decide) (by decide) (off := 42) rfl (tgt := 88) rfl ?_
          refine z_il5 (pc' := 90) 37 rfl rfl ?_
          refine z_iconst (v := nI 1) (by decide) (pc' := 91) 38 rfl rfl ?_
          first | refine z_iaddN (pc' := 92) 39 rfl rfl ?_ | refine z_iadd (pc' := 92) 39 rfl rfl ?_
          exact z_ireturn 40 rfl rfl (by first | rfl | exact zbo_nar) rfl rfl (by refine ⟨?_, rfl⟩; congr 3; first | (subst h46_1; simp only [gn] <;> omega) | (subst h46_2; simp only [gn] <;> omega) | (subst h46_3; simp only [gn] <;> omega) | (subst h46_4; simp only [gn]; split <;> omega) | (subst h46_5; simp only [gn]; split <;> omega) | (have hk0 : k = 0 := (by omega); subst hk0; simp only [gn] <;> omega))
        first | refine z_swN (by omega) 4 (by decide) (fun h46_4 => ?_) (fun h46_4 => ?_) | refine z_sw 4 (fun h46_4 => ?_) (fun h46_4 => ?_)
        · refine z_tableIn 30 rfl (by decide) (by decide) (off := 47) rfl (tgt := 93) rfl ?_
          refine z_il6 (pc' := 95) 41 rfl rfl ?_
          exact z_ireturn 42 rfl rfl (by first | rfl | exact zbo_nar) rfl rfl (by refine ⟨?_, rfl⟩; congr 3; first | (subst h46_1; simp only [gn] <;> omega) | (subst h46_2; simp only [gn] <;> omega) | (subst h46_3; simp only [gn] <;> omega) | (subst h46_4; simp only [gn]; split <;> omega) | (subst h46_5; simp only [gn]; split <;> omega) | (have hk0 : k = 0 := (by omega); subst hk0; simp only [gn] <;> omega))
        first | refine z_swN (by omega) 5 (by decide) (fun h46_5 => ?_) (fun h46_5 => ?_) | refine z_sw 5 (fun h46_5 => ?_) (fun h46_5 => ?_)
        · refine z_tableIn 30 rfl (by decide) (by decide) (off := 50) rfl (tgt := 96) rfl ?_
          refine z_il6 (pc' := 98) 43 rfl rfl ?_
          refine z_bipush (v := nI 9) (by decide) (pc' := 100) 44 rfl rfl ?_
          first | refine z_iaddN (pc' := 101) 45 rfl rfl ?_ | refine z_iadd (pc' := 101) 45 rfl rfl ?_
          refine z_il1 (pc' := 102) 46 rfl rfl ?_
          first | refine z_isubN (by omega) (pc' := 103) 47 rfl rfl ?_ | refine z_isub (pc' := 103) 47 rfl rfl ?_
          exact z_ireturn 48 rfl rfl (by first | rfl | exact zbo_nar) rfl rfl (by refine ⟨?_, rfl⟩; congr 3; first | (subst h46_1; simp only [gn] <;> omega) | (subst h46_2; simp only [gn] <;> omega) | (subst h46_3; simp only [gn] <;> omega) | (subst h46_4; simp only [gn]; split <;> omega) | (subst h46_5; simp only [gn]; split <;> omega) | (have hk0 : k = 0 := (by omega); subst hk0; simp only [gn] <;> omega))
        refine z_tableOut 30 rfl (by first | (rw [nI_toInt (by omega)]; omega) | (have e1 := z_ne (by decide) h46_1; have e2 := z_ne (by decide) h46_2; have e3 := z_ne (by decide) h46_3; have e4 := z_ne (by decide) h46_4; have e5 := z_ne (by decide) h46_5; omega)) (tgt := 104) rfl ?_
        refine z_il4 (pc' := 106) 49 rfl rfl ?_
        exact z_ireturn 50 rfl rfl (by first | rfl | exact zbo_nar) rfl rfl (by refine ⟨?_, rfl⟩; congr 3; first | (subst h46_1; simp only [gn] <;> omega) | (subst h46_2; simp only [gn] <;> omega) | (subst h46_3; simp only [gn] <;> omega) | (subst h46_4; simp only [gn]; split <;> omega) | (subst h46_5; simp only [gn]; split <;> omega) | (have hk0 : k = 0 := (by omega); subst hk0; simp only [gn] <;> omega))
end
section
/-! ===== the coast (cell 5): S 0: girls, winds, reports, end; S 1 kind, 2 house, 3 dowry, 4 point, 5 force, 6 from, 7 to, 8 reports' numbers ===== -/
def isCo (μ : Nat → va_E) (S : Nat → Nat → Nat) (sc ch : Int32) : Prop :=
  μ 5 = .inr (3, [.int (nI (S 0 0)), .ref 6, .ref 7, .ref 8, .int (nI (S 0 1)), .ref 9, .ref 10, .ref 11, .ref 12, .int (nI (S 0 3)), .int sc, .int ch, .ref 13, .ref 17, .int (nI (S 0 2)), .ref 22, .ref 23]) ∧
  μ 6 = .inl (0, 6, .inl (fun j => nI (S 1 j))) ∧ μ 7 = .inl (0, 6, .inl (fun j => nI (S 2 j))) ∧ μ 8 = .inl (0, 6, .inl (fun j => nI (S 3 j))) ∧ μ 9 = .inl (0, 6, .inl (fun j => nI (S 4 j))) ∧ μ 10 = .inl (0, 6, .inl (fun j => nI (S 5 j))) ∧ μ 11 = .inl (0, 6, .inl (fun j => nI (S 6 j))) ∧ μ 12 = .inl (0, 6, .inl (fun j => nI (S 7 j))) ∧ μ 22 = .inl (0, 24, .inl (fun j => nI (S 8 j)))
/-- the bounds that always hold -/
def iS (S : Nat → Nat → Nat) : Prop := S 0 0 ≤ 6 ∧ S 0 1 ≤ 6 ∧ S 0 2 ≤ 6 ∧ 1 ≤ S 0 3 ∧ S 0 3 ≤ 16 ∧ ∀ j, S 1 j ≤ 5 ∧ S 2 j ≤ 7 ∧ S 3 j ≤ 9 ∧ S 4 j ≤ 7 ∧ S 5 j ≤ 9 ∧ S 6 j ≤ 15 ∧ S 7 j ≤ 15 ∧ S 8 j ≤ 99 ∧ (j < S 0 0 → 1 ≤ S 3 j)
/-- a wind blows in a month -/
def bl (S : Nat → Nat → Nat) (w t : Nat) : Prop := w < S 0 1 ∧ S 6 w ≤ t ∧ t ≤ S 7 w
def bl_dec (S : Nat → Nat → Nat) (w t : Nat) : Decidable (bl S w t) := inferInstanceAs (Decidable (w < S 0 1 ∧ S 6 w ≤ t ∧ t ≤ S 7 w))
def blB (S : Nat → Nat → Nat) (w t : Nat) : Bool := decide (w < S 0 1) && (decide (S 6 w ≤ t) && decide (t ≤ S 7 w))
theorem blB_iff {S : Nat → Nat → Nat} {w t : Nat} : blB S w t = true ↔ bl S w t := by simp [blB, bl]
/-- what a girl gains by a wind in a month -/
def gS (S : Nat → Nat → Nat) (g w t : Nat) : Nat := gn (S 1 g) (S 5 w) (tn (S 4 w) (S 2 g)) t
theorem gS_le {S : Nat → Nat → Nat} (hi : iS S) {g w t : Nat} : gS S g w t ≤ 18 := gn_le (hi.2.2.2.2.2 w).2.2.2.2.1
def udB (k a : Nat) : Bool := decide (zLin.getD k 0 >>> (nI a &&& 31) &&& nI 1 ≠ 0)
theorem udB_eq : ∀ k, k ≤ 5 → ∀ a, a ≤ 5 → (udB k a = true ↔ (a = 0 ∨ k = a ∨ (a = 2 ∧ k = 3) ∨ (a = 4 ∧ k = 5))) := by decide +kernel
set_option maxHeartbeats 4000000 in
set_option maxRecDepth 100000 in
theorem c_Wb_isUnder {G : zG} {n u : Nat} {μ : Nat → va_E} {k a : Nat} (hk : k ≤ 5) (ha : a ≤ 31) : zMet G 0 M_Wb_isUnder [.int (nI k), .int (nI a)] n u μ n u (zE (some (.int (zbo (udB k a = true)))) μ) := by
  refine z_start (lv := [.int (nI k), .int (nI a)]) K_Wb_isUnder rfl rfl (Nat.le_refl _) (Nat.le_refl _) (Nat.le_of_ble_eq_true rfl) rfl ?_
  refine z_spec (fun hs => ?_)
  have m0 := hs 0 (by decide)
  refine z_getsL (pc' := 3) 0 rfl rfl g_Wb_69 ?_
  refine z_il0 (pc' := 4) 1 rfl rfl ?_
  refine z_iald7 (pc' := 5) 2 rfl rfl (by decide) (by exact m0) (by omega) (by decide) ?_
  refine z_il1 (pc' := 6) 3 rfl rfl ?_
  refine z_ishr (pc' := 7) 4 rfl rfl ?_
  refine z_iconst (v := nI 1) (by decide) (pc' := 8) 5 rfl rfl ?_
  refine z_iand (pc' := 9) 6 rfl rfl ?_
  first | refine z_if_eqB (pc' := 12) 7 rfl rfl (tgt := 16) rfl (fun h9 => ?_) (fun h9 => ?_) | refine z_if_eqN (pc' := 12) 7 rfl rfl (tgt := 16) rfl (by omega) (fun h9 => ?_) (fun h9 => ?_) | refine z_if_eq (pc' := 12) 7 rfl rfl (tgt := 16) rfl (fun h9 => ?_) (fun h9 => ?_)
  · refine z_iconst (v := nI 0) (by decide) (pc' := 17) 10 rfl rfl ?_
    exact z_ireturn 11 rfl rfl (by first | rfl | exact zbo_nar) rfl rfl (by refine ⟨?_, rfl⟩; first | rw [zbo_t (by simp only [udB]; simp only [zspec] at *; simpa using h9)] | rw [zbo_f (by simp only [udB]; simpa using h9)])
  · refine z_iconst (v := nI 1) (by decide) (pc' := 13) 8 rfl rfl ?_
    refine z_goto 9 rfl (tgt := 17) rfl ?_
    exact z_ireturn 11 rfl rfl (by first | rfl | exact zbo_nar) rfl rfl (by refine ⟨?_, rfl⟩; first | rw [zbo_t (by simp only [udB]; simp only [zspec] at *; simpa using h9)] | rw [zbo_f (by simp only [udB]; simpa using h9)])
set_option maxHeartbeats 4000000 in
set_option maxRecDepth 100000 in
theorem c_Co_hasGirl {G : zG} {n u : Nat} {μ : Nat → va_E} {S : Nat → Nat → Nat} {sc ch : Int32} (hco : isCo μ S sc ch) (hi : iS S) (x : Int32) : zMet G 0 M_Co_hasGirl [.ref 5, .int x] n u μ n u (zE (some (.int (zbo (0 ≤ x ∧ x < nI (S 0 0))))) μ) := by
  refine z_start (lv := [.ref 5, .int x]) K_Co_hasGirl rfl rfl (Nat.le_refl _) (Nat.le_refl _) (Nat.le_of_ble_eq_true rfl) rfl ?_
  obtain ⟨m5, m6, m7, m8, m9, m10, m11, m12, m22⟩ := hco
  refine z_il1 (pc' := 1) 0 rfl rfl ?_
  first | refine z_if_ltN (pc' := 4) 1 rfl rfl (tgt := 16) rfl (by omega) (fun h1 => ?_) (fun h1 => ?_) | refine z_if_lt (pc' := 4) 1 rfl rfl (tgt := 16) rfl (fun h1 => ?_) (fun h1 => ?_)
  · refine z_iconst (v := nI 0) (by decide) (pc' := 17) 8 rfl rfl ?_
    exact z_ireturn 9 rfl rfl (by first | rfl | exact zbo_nar) rfl rfl (by refine ⟨?_, rfl⟩; first | rw [zbo_t (by simp only [Int32.lt_iff_toInt_lt, Int32.le_iff_toInt_le, not_and, Classical.not_not] at *; omega)] | rw [zbo_f (by simp only [Int32.lt_iff_toInt_lt, Int32.le_iff_toInt_le, not_and, Classical.not_not] at *; omega)])
  · refine z_il1 (pc' := 5) 2 rfl rfl ?_
    refine z_al0 (pc' := 6) 3 rfl rfl ?_
    refine z_getf (pc' := 9) 4 rfl rfl f_Co_60_3 (by assumption) (by rfl) ?_
    first | refine z_icmp_geN (pc' := 12) 5 rfl rfl (tgt := 16) rfl (by omega) (by omega) (fun h9 => ?_) (fun h9 => ?_) | refine z_icmp_ge (pc' := 12) 5 rfl rfl (tgt := 16) rfl (fun h9 => ?_) (fun h9 => ?_)
    · refine z_iconst (v := nI 0) (by decide) (pc' := 17) 8 rfl rfl ?_
      exact z_ireturn 9 rfl rfl (by first | rfl | exact zbo_nar) rfl rfl (by refine ⟨?_, rfl⟩; first | rw [zbo_t (by simp only [Int32.lt_iff_toInt_lt, Int32.le_iff_toInt_le, not_and, Classical.not_not] at *; omega)] | rw [zbo_f (by simp only [Int32.lt_iff_toInt_lt, Int32.le_iff_toInt_le, not_and, Classical.not_not] at *; omega)])
    · refine z_iconst (v := nI 1) (by decide) (pc' := 13) 6 rfl rfl ?_
      refine z_goto 7 rfl (tgt := 17) rfl ?_
      exact z_ireturn 9 rfl rfl (by first | rfl | exact zbo_nar) rfl rfl (by refine ⟨?_, rfl⟩; first | rw [zbo_t (by simp only [Int32.lt_iff_toInt_lt, Int32.le_iff_toInt_le, not_and, Classical.not_not] at *; omega)] | rw [zbo_f (by simp only [Int32.lt_iff_toInt_lt, Int32.le_iff_toInt_le, not_and, Classical.not_not] at *; omega)])
set_option maxHeartbeats 4000000 in
set_option maxRecDepth 100000 in
theorem c_Co_hasWind {G : zG} {n u : Nat} {μ : Nat → va_E} {S : Nat → Nat → Nat} {sc ch : Int32} (hco : isCo μ S sc ch) (hi : iS S) (x : Int32) : zMet G 0 M_Co_hasWind [.ref 5, .int x] n u μ n u (zE (some (.int (zbo (0 ≤ x ∧ x < nI (S 0 1))))) μ) := by
  refine z_start (lv := [.ref 5, .int x]) K_Co_hasWind rfl rfl (Nat.le_refl _) (Nat.le_refl _) (Nat.le_of_ble_eq_true rfl) rfl ?_
  obtain ⟨m5, m6, m7, m8, m9, m10, m11, m12, m22⟩ := hco
  refine z_il1 (pc' := 1) 0 rfl rfl ?_
  first | refine z_if_ltN (pc' := 4) 1 rfl rfl (tgt := 16) rfl (by omega) (fun h1 => ?_) (fun h1 => ?_) | refine z_if_lt (pc' := 4) 1 rfl rfl (tgt := 16) rfl (fun h1 => ?_) (fun h1 => ?_)
  · refine z_iconst (v := nI 0) (by decide) (pc' := 17) 8 rfl rfl ?_
    exact z_ireturn 9 rfl rfl (by first | rfl | exact zbo_nar) rfl rfl (by refine ⟨?_, rfl⟩; first | rw [zbo_t (by simp only [Int32.lt_iff_toInt_lt, Int32.le_iff_toInt_le, not_and, Classical.not_not] at *; omega)] | rw [zbo_f (by simp only [Int32.lt_iff_toInt_lt, Int32.le_iff_toInt_le, not_and, Classical.not_not] at *; omega)])
  · refine z_il1 (pc' := 5) 2 rfl rfl ?_
    refine z_al0 (pc' := 6) 3 rfl rfl ?_
    refine z_getf (pc' := 9) 4 rfl rfl f_Co_69_3 (by assumption) (by rfl) ?_
    first | refine z_icmp_geN (pc' := 12) 5 rfl rfl (tgt := 16) rfl (by omega) (by omega) (fun h9 => ?_) (fun h9 => ?_) | refine z_icmp_ge (pc' := 12) 5 rfl rfl (tgt := 16) rfl (fun h9 => ?_) (fun h9 => ?_)
    · refine z_iconst (v := nI 0) (by decide) (pc' := 17) 8 rfl rfl ?_
      exact z_ireturn 9 rfl rfl (by first | rfl | exact zbo_nar) rfl rfl (by refine ⟨?_, rfl⟩; first | rw [zbo_t (by simp only [Int32.lt_iff_toInt_lt, Int32.le_iff_toInt_le, not_and, Classical.not_not] at *; omega)] | rw [zbo_f (by simp only [Int32.lt_iff_toInt_lt, Int32.le_iff_toInt_le, not_and, Classical.not_not] at *; omega)])
    · refine z_iconst (v := nI 1) (by decide) (pc' := 13) 6 rfl rfl ?_
      refine z_goto 7 rfl (tgt := 17) rfl ?_
      exact z_ireturn 9 rfl rfl (by first | rfl | exact zbo_nar) rfl rfl (by refine ⟨?_, rfl⟩; first | rw [zbo_t (by simp only [Int32.lt_iff_toInt_lt, Int32.le_iff_toInt_le, not_and, Classical.not_not] at *; omega)] | rw [zbo_f (by simp only [Int32.lt_iff_toInt_lt, Int32.le_iff_toInt_le, not_and, Classical.not_not] at *; omega)])
set_option maxHeartbeats 4000000 in
set_option maxRecDepth 100000 in
theorem c_Co_isAct {G : zG} {n u : Nat} {μ : Nat → va_E} {S : Nat → Nat → Nat} {sc ch : Int32} (hco : isCo μ S sc ch) (hi : iS S) (x : Int32) : zMet G 0 M_Co_isAct [.ref 5, .int x] n u μ n u (zE (some (.int (zbo (0 ≤ x ∧ x ≤ nI (S 0 0))))) μ) := by
  refine z_start (lv := [.ref 5, .int x]) K_Co_isAct rfl rfl (Nat.le_refl _) (Nat.le_refl _) (Nat.le_of_ble_eq_true rfl) rfl ?_
  obtain ⟨m5, m6, m7, m8, m9, m10, m11, m12, m22⟩ := hco
  refine z_il1 (pc' := 1) 0 rfl rfl ?_
  first | refine z_if_ltN (pc' := 4) 1 rfl rfl (tgt := 16) rfl (by omega) (fun h1 => ?_) (fun h1 => ?_) | refine z_if_lt (pc' := 4) 1 rfl rfl (tgt := 16) rfl (fun h1 => ?_) (fun h1 => ?_)
  · refine z_iconst (v := nI 0) (by decide) (pc' := 17) 8 rfl rfl ?_
    exact z_ireturn 9 rfl rfl (by first | rfl | exact zbo_nar) rfl rfl (by refine ⟨?_, rfl⟩; first | rw [zbo_t (by simp only [Int32.lt_iff_toInt_lt, Int32.le_iff_toInt_le, not_and, Classical.not_not] at *; omega)] | rw [zbo_f (by simp only [Int32.lt_iff_toInt_lt, Int32.le_iff_toInt_le, not_and, Classical.not_not] at *; omega)])
  · refine z_il1 (pc' := 5) 2 rfl rfl ?_
    refine z_al0 (pc' := 6) 3 rfl rfl ?_
    refine z_getf (pc' := 9) 4 rfl rfl f_Co_60_3 (by assumption) (by rfl) ?_
    first | refine z_icmp_gtN (pc' := 12) 5 rfl rfl (tgt := 16) rfl (by omega) (by omega) (fun h9 => ?_) (fun h9 => ?_) | refine z_icmp_gt (pc' := 12) 5 rfl rfl (tgt := 16) rfl (fun h9 => ?_) (fun h9 => ?_)
    · refine z_iconst (v := nI 0) (by decide) (pc' := 17) 8 rfl rfl ?_
      exact z_ireturn 9 rfl rfl (by first | rfl | exact zbo_nar) rfl rfl (by refine ⟨?_, rfl⟩; first | rw [zbo_t (by simp only [Int32.lt_iff_toInt_lt, Int32.le_iff_toInt_le, not_and, Classical.not_not] at *; omega)] | rw [zbo_f (by simp only [Int32.lt_iff_toInt_lt, Int32.le_iff_toInt_le, not_and, Classical.not_not] at *; omega)])
    · refine z_iconst (v := nI 1) (by decide) (pc' := 13) 6 rfl rfl ?_
      refine z_goto 7 rfl (tgt := 17) rfl ?_
      exact z_ireturn 9 rfl rfl (by first | rfl | exact zbo_nar) rfl rfl (by refine ⟨?_, rfl⟩; first | rw [zbo_t (by simp only [Int32.lt_iff_toInt_lt, Int32.le_iff_toInt_le, not_and, Classical.not_not] at *; omega)] | rw [zbo_f (by simp only [Int32.lt_iff_toInt_lt, Int32.le_iff_toInt_le, not_and, Classical.not_not] at *; omega)])
set_option maxHeartbeats 4000000 in
set_option maxRecDepth 100000 in
theorem c_Co_blows {G : zG} {n u : Nat} {μ : Nat → va_E} {S : Nat → Nat → Nat} {sc ch : Int32} (hco : isCo μ S sc ch) (hi : iS S) {w t : Nat} (hw : w < 2 ^ 31) (ht : t < 2 ^ 31) : zMet G 0 M_Co_blows [.ref 5, .int (nI w), .int (nI t)] n u μ n u (zE (some (.int (zbo (blB S w t = true)))) μ) := by
  refine z_start (lv := [.ref 5, .int (nI w), .int (nI t)]) K_Co_blows rfl rfl (Nat.le_refl _) (Nat.le_refl _) (Nat.le_of_ble_eq_true rfl) rfl ?_
  obtain ⟨m5, m6, m7, m8, m9, m10, m11, m12, m22⟩ := hco
  have hw9 := hi.2.2.2.2.2 w
  have hi6 : S 0 1 ≤ 6 := hi.2.1
  refine z_il1 (pc' := 1) 0 rfl rfl ?_
  refine z_al0 (pc' := 2) 1 rfl rfl ?_
  refine z_getf (pc' := 5) 2 rfl rfl f_Co_69_3 (by assumption) (by rfl) ?_
  first | refine z_icmp_geN (pc' := 8) 3 rfl rfl (tgt := 32) rfl (by omega) (by omega) (fun h5 => ?_) (fun h5 => ?_) | refine z_icmp_ge (pc' := 8) 3 rfl rfl (tgt := 32) rfl (fun h5 => ?_) (fun h5 => ?_)
  · refine z_iconst (v := nI 0) (by decide) (pc' := 33) 18 rfl rfl ?_
    exact z_ireturn 19 rfl rfl (by first | rfl | exact zbo_nar) rfl rfl (by refine ⟨?_, rfl⟩; first | rw [zbo_t (blB_iff.mpr (by unfold bl; omega))] | rw [zbo_f (fun q => by have := blB_iff.mp q; unfold bl at this; omega)])
  · refine z_al0 (pc' := 9) 4 rfl rfl ?_
    refine z_getf (pc' := 12) 5 rfl rfl f_Co_27_3 (by assumption) (by rfl) ?_
    refine z_il1 (pc' := 13) 6 rfl rfl ?_
    refine z_iald (pc' := 14) 7 rfl rfl (by assumption) (by omega) (by decide) ?_
    refine z_il2 (pc' := 15) 8 rfl rfl ?_
    first | refine z_icmp_gtN (pc' := 18) 9 rfl rfl (tgt := 32) rfl (by omega) (by omega) (fun h15 => ?_) (fun h15 => ?_) | refine z_icmp_gt (pc' := 18) 9 rfl rfl (tgt := 32) rfl (fun h15 => ?_) (fun h15 => ?_)
    · refine z_iconst (v := nI 0) (by decide) (pc' := 33) 18 rfl rfl ?_
      exact z_ireturn 19 rfl rfl (by first | rfl | exact zbo_nar) rfl rfl (by refine ⟨?_, rfl⟩; first | rw [zbo_t (blB_iff.mpr (by unfold bl; omega))] | rw [zbo_f (fun q => by have := blB_iff.mp q; unfold bl at this; omega)])
    · refine z_il2 (pc' := 19) 10 rfl rfl ?_
      refine z_al0 (pc' := 20) 11 rfl rfl ?_
      refine z_getf (pc' := 23) 12 rfl rfl f_Co_30_3 (by assumption) (by rfl) ?_
      refine z_il1 (pc' := 24) 13 rfl rfl ?_
      refine z_iald (pc' := 25) 14 rfl rfl (by assumption) (by omega) (by decide) ?_
      first | refine z_icmp_gtN (pc' := 28) 15 rfl rfl (tgt := 32) rfl (by omega) (by omega) (fun h25 => ?_) (fun h25 => ?_) | refine z_icmp_gt (pc' := 28) 15 rfl rfl (tgt := 32) rfl (fun h25 => ?_) (fun h25 => ?_)
      · refine z_iconst (v := nI 0) (by decide) (pc' := 33) 18 rfl rfl ?_
        exact z_ireturn 19 rfl rfl (by first | rfl | exact zbo_nar) rfl rfl (by refine ⟨?_, rfl⟩; first | rw [zbo_t (blB_iff.mpr (by unfold bl; omega))] | rw [zbo_f (fun q => by have := blB_iff.mp q; unfold bl at this; omega)])
      · refine z_iconst (v := nI 1) (by decide) (pc' := 29) 16 rfl rfl ?_
        refine z_goto 17 rfl (tgt := 33) rfl ?_
        exact z_ireturn 19 rfl rfl (by first | rfl | exact zbo_nar) rfl rfl (by refine ⟨?_, rfl⟩; first | rw [zbo_t (blB_iff.mpr (by unfold bl; omega))] | rw [zbo_f (fun q => by have := blB_iff.mp q; unfold bl at this; omega)])
set_option maxHeartbeats 4000000 in
set_option maxRecDepth 100000 in
theorem c_Co_gainBy {G : zG} {n u : Nat} {μ : Nat → va_E} {S : Nat → Nat → Nat} {sc ch : Int32} (hco : isCo μ S sc ch) (hi : iS S) {g w t : Nat} (hg : g < 6) (hw : w < 6) (ht : t ≤ 16) : zMet G 1 M_Co_gainBy [.ref 5, .int (nI g), .int (nI w), .int (nI t)] n u μ n u (zE (some (.int (nI (gS S g w t)))) μ) := by
  refine z_start (lv := [.ref 5, .int (nI g), .int (nI w), .int (nI t)]) K_Co_gainBy rfl rfl (Nat.le_refl _) (Nat.le_refl _) (Nat.le_of_ble_eq_true rfl) rfl ?_
  obtain ⟨m5, m6, m7, m8, m9, m10, m11, m12, m22⟩ := hco
  have hw9 := hi.2.2.2.2.2 w
  have hg9 := hi.2.2.2.2.2 g
  refine z_al0 (pc' := 1) 0 rfl rfl ?_
  refine z_getf (pc' := 4) 1 rfl rfl f_Co_9_3 (by assumption) (by rfl) ?_
  refine z_il1 (pc' := 5) 2 rfl rfl ?_
  refine z_iald (pc' := 6) 3 rfl rfl (by assumption) (by omega) (by decide) ?_
  refine z_al0 (pc' := 7) 4 rfl rfl ?_
  refine z_getf (pc' := 10) 5 rfl rfl f_Co_24_3 (by assumption) (by rfl) ?_
  refine z_il2 (pc' := 11) 6 rfl rfl ?_
  refine z_iald (pc' := 12) 7 rfl rfl (by assumption) (by omega) (by decide) ?_
  refine z_al0 (pc' := 13) 8 rfl rfl ?_
  refine z_getf (pc' := 16) 9 rfl rfl f_Co_21_3 (by assumption) (by rfl) ?_
  refine z_il2 (pc' := 17) 10 rfl rfl ?_
  refine z_iald (pc' := 18) 11 rfl rfl (by assumption) (by omega) (by decide) ?_
  refine z_al0 (pc' := 19) 12 rfl rfl ?_
  refine z_getf (pc' := 22) 13 rfl rfl f_Co_15_3 (by assumption) (by rfl) ?_
  refine z_il1 (pc' := 23) 14 rfl rfl ?_
  refine z_iald (pc' := 24) 15 rfl rfl (by assumption) (by omega) (by decide) ?_
  refine z_callS1 (pc' := 27) 16 rfl rfl k_Co_92 (c_Wb_turnBetween (by omega) (by omega)) (by decide) (Nat.le_refl _) (Nat.le_refl _) rfl rfl (Nat.le_of_ble_eq_true rfl) ?_
  refine z_il3 (pc' := 28) 17 rfl rfl ?_
  refine z_callS1 (pc' := 31) 18 rfl rfl k_Co_96 (c_Wb_gainOf (by omega) (by omega) (tn_le (by omega) (by omega)) (by omega)) (by decide) (Nat.le_refl _) (Nat.le_refl _) rfl rfl (Nat.le_of_ble_eq_true rfl) ?_
  exact z_ireturn 19 rfl rfl (by first | rfl | exact zbo_nar) rfl rfl (by exact ⟨rfl, rfl⟩)
end
section
/-! ===== THE RULES as the class holds them: β 0: count, size; β 1 kinds, 2 deeds, 3 begins, 4 code ===== -/
def isBk (μ : Nat → va_E) (b : Nat) (β : Nat → Nat → Nat) : Prop :=
  μ b = .inr (0, [.int (nI (β 0 0)), .ref (b + 1), .ref (b + 2), .ref (b + 3), .ref (b + 4), .int (nI (β 0 1))]) ∧
  μ (b + 1) = .inl (0, 8, .inl (fun j => nI (β 1 j))) ∧ μ (b + 2) = .inl (0, 8, .inl (fun j => nI (β 2 j))) ∧ μ (b + 3) = .inl (0, 9, .inl (fun j => nI (β 3 j))) ∧ μ (b + 4) = .inl (0, 200, .inl (fun j => nI (β 4 j)))
/-- a condition behind its parts: 10 or, 11 and, 12 not, 21 to 23 a sign with two values (13 to 17 facts, from 100 on numbers) -/
abbrev zI : Type := List (Nat × Nat × Nat)
def opv (c : Nat) : Prop := (13 ≤ c ∧ c ≤ 17) ∨ (100 ≤ c ∧ c ≤ 10099)
def okI : zI → Nat → Prop
  | [], _ => True
  | (o, l, r) :: t, k => (o = 12 ∧ 1 ≤ k ∧ okI t k) ∨ ((o = 10 ∨ o = 11) ∧ 2 ≤ k ∧ okI t (k - 1)) ∨ (21 ≤ o ∧ o ≤ 23 ∧ opv l ∧ opv r ∧ k < 10 ∧ okI t (k + 1))
def sg (code : Nat → Nat) : Nat → zI → Nat → Prop
  | b, [], e => b = e
  | b, (o, l, r) :: t, e => code b = o ∧ (if o < 21 then sg code (b + 1) t e else code (b + 1) = l ∧ code (b + 2) = r ∧ sg code (b + 3) t e)
theorem sg_le {code : Nat → Nat} : ∀ (t : zI) (b e : Nat), sg code b t e → b ≤ e
  | [], b, e, h => Nat.le_of_eq h
  | (o, l, r) :: t, b, e, h => by
    obtain ⟨-, h2⟩ := h
    by_cases ho : o < 21
    · rw [if_pos ho] at h2
      have := sg_le t _ _ h2
      omega
    · rw [if_neg ho] at h2
      have := sg_le t _ _ h2.2.2
      omega
def vl (f : Nat → Nat) (c : Nat) : Nat := if 100 ≤ c then c - 100 else f (c - 13)
def cmB (o a b : Nat) : Bool := if o = 21 then decide (a < b) else if o = 22 then decide (a = b) else decide (b < a)
def evB (f : Nat → Nat) : zI → List Bool → List Bool
  | [], s => s
  | (o, l, r) :: t, s => if o = 12 then (match s with
      | b :: s' => evB f t ((!b) :: s')
      | [] => [])
    else if o = 11 then (match s with
      | b :: a :: s' => evB f t ((a && b) :: s')
      | _ => [])
    else if o = 10 then (match s with
      | b :: a :: s' => evB f t ((a || b) :: s')
      | _ => [])
    else evB f t (cmB o (vl f l) (vl f r) :: s)
def tpB : List Bool → Bool
  | [] => true
  | b :: _ => b
def enc : List Bool → Nat
  | [] => 1
  | b :: s => 2 * enc s + (if b = true then 1 else 0)
theorem enc_le : ∀ s : List Bool, enc s < 2 ^ (s.length + 1)
  | [] => by decide
  | b :: s => by
    have ih := enc_le s
    unfold enc
    rw [List.length_cons, Nat.pow_succ]
    split <;> omega
theorem enc_10 {s : List Bool} (h : s.length ≤ 10) : enc s < 2048 := Nat.lt_of_lt_of_le (enc_le s) (show 2 ^ (s.length + 1) ≤ 2 ^ 11 from Nat.pow_le_pow_right (by decide) (by omega))
theorem eb_xor : ∀ x, x < 2048 → nI (2 * x + 0) ^^^ nI 1 = nI (2 * x + 1) ∧ nI (2 * x + 1) ^^^ nI 1 = nI (2 * x + 0) := by decide +kernel
theorem eb_one : ∀ x, x < 2048 → nI (2 * x + 0) &&& nI 1 = nI 0 ∧ nI (2 * x + 1) &&& nI 1 = nI 1 := by decide +kernel
theorem eb_shr : ∀ x, x < 2048 → nI (2 * x + 0) >>> (nI 1 &&& 31) = nI x ∧ nI (2 * x + 1) >>> (nI 1 &&& 31) = nI x := by decide +kernel
theorem eb_msk : ∀ x, x < 2048 → nI (2 * x + 0) &&& (-2) = nI (2 * x + 0) ∧ nI (2 * x + 1) &&& (-2) = nI (2 * x + 0) := by decide +kernel
theorem eb_or1 : ∀ x, x < 2048 → nI (2 * x + 0) ||| nI 1 = nI (2 * x + 1) ∧ nI (2 * x + 1) ||| nI 1 = nI (2 * x + 1) ∧ nI (2 * x + 0) ||| nI 0 = nI (2 * x + 0) := by decide +kernel
theorem eb_shl : ∀ x, x < 2048 → nI x <<< (nI 1 &&& 31) = nI (2 * x + 0) := by decide +kernel
theorem en_x (b : Bool) (s : List Bool) (h : s.length ≤ 10) : nI (enc (b :: s)) ^^^ nI 1 = nI (enc ((!b) :: s)) := by
  have := eb_xor _ (enc_10 h)
  cases b
  · exact this.1
  · exact this.2
theorem en_1 (b : Bool) (s : List Bool) (h : s.length ≤ 10) : nI (enc (b :: s)) &&& nI 1 = nI (if b = true then 1 else 0) := by
  have := eb_one _ (enc_10 h)
  cases b
  · exact this.1
  · exact this.2
theorem en_s (b : Bool) (s : List Bool) (h : s.length ≤ 10) : nI (enc (b :: s)) >>> (nI 1 &&& 31) = nI (enc s) := by
  have := eb_shr _ (enc_10 h)
  cases b
  · exact this.1
  · exact this.2
theorem en_m (b : Bool) (s : List Bool) (h : s.length ≤ 10) : nI (enc (b :: s)) &&& (-2) = nI (enc (false :: s)) := by
  have := eb_msk _ (enc_10 h)
  cases b
  · exact this.1
  · exact this.2
theorem en_o (b : Bool) (s : List Bool) (h : s.length ≤ 10) : nI (enc (b :: s)) ||| nI 1 = nI (enc (true :: s)) := by
  have := eb_or1 _ (enc_10 h)
  cases b
  · exact this.1
  · exact this.2.1
theorem en_p (b : Bool) (s : List Bool) (h : s.length ≤ 10) : nI (enc s) <<< (nI 1 &&& 31) ||| nI (if b = true then 1 else 0) = nI (enc (b :: s)) := by
  rw [eb_shl _ (enc_10 h)]
  have := eb_or1 _ (enc_10 h)
  cases b
  · exact this.2.2
  · exact this.1
set_option maxHeartbeats 4000000 in
set_option maxRecDepth 100000 in
theorem l_Bk_compares {G : zG} {n u : Nat} {μ : Nat → va_E} {b : Nat} {β : Nat → Nat → Nat} (hb : isBk μ b β) {i q k l r : Nat} {f : Nat → Nat} (hi : i + 2 < 200) (hk : β 4 i = k) (hk1 : 21 ≤ k) (hk2 : k ≤ 23) (hvl : vl f l < 2 ^ 31) (hvr : vl f r < 2 ^ 31) :
    zW G 0 M_Bk_compares 96 [.ref b, .int (nI i), .ref q, .int (nI (vl f l)), .int (nI (vl f r))] [] n u μ n u (zE (some (.int (zbo (cmB k (vl f l) (vl f r) = true)))) μ) := by
  obtain ⟨m0, m1, m2, m3, m4⟩ := hb
  have hk3 : k = 21 ∨ k = 22 ∨ k = 23 := by omega
  rcases hk3 with hk3 | hk3 | hk3 <;> subst hk3
  · refine z_al0 (pc' := 97) 65 rfl rfl ?_
    refine z_getf (pc' := 100) 66 rfl rfl f_Bk_23_0 (by assumption) (by rfl) ?_
    refine z_il1 (pc' := 101) 67 rfl rfl ?_
    refine z_iald (pc' := 102) 68 rfl rfl (by assumption) (by omega) (by decide) ?_
    rw [hk]
    refine z_lookup 69 rfl (by decide) (off := 26) (by decide) (tgt := 128) rfl ?_
    refine z_il3 (pc' := 129) 70 rfl rfl ?_
    refine z_il4 (pc' := 131) 71 rfl rfl ?_
    first | refine z_icmp_geN (pc' := 134) 72 rfl rfl (tgt := 138) rfl (by omega) (by omega) (fun h131 => ?_) (fun h131 => ?_) | refine z_icmp_ge (pc' := 134) 72 rfl rfl (tgt := 138) rfl (fun h131 => ?_) (fun h131 => ?_)
    · refine z_iconst (v := nI 0) (by decide) (pc' := 139) 75 rfl rfl ?_
      exact z_ireturn 76 rfl rfl (by first | rfl | exact zbo_nar) rfl rfl (by refine ⟨?_, rfl⟩; first | rw [zbo_t (by unfold cmB; simp; omega)] | rw [zbo_f (by unfold cmB; simp; omega)])
    · refine z_iconst (v := nI 1) (by decide) (pc' := 135) 73 rfl rfl ?_
      refine z_goto 74 rfl (tgt := 139) rfl ?_
      exact z_ireturn 76 rfl rfl (by first | rfl | exact zbo_nar) rfl rfl (by refine ⟨?_, rfl⟩; first | rw [zbo_t (by unfold cmB; simp; omega)] | rw [zbo_f (by unfold cmB; simp; omega)])
  · refine z_al0 (pc' := 97) 65 rfl rfl ?_
    refine z_getf (pc' := 100) 66 rfl rfl f_Bk_23_0 (by assumption) (by rfl) ?_
    refine z_il1 (pc' := 101) 67 rfl rfl ?_
    refine z_iald (pc' := 102) 68 rfl rfl (by assumption) (by omega) (by decide) ?_
    rw [hk]
    refine z_lookup 69 rfl (by decide) (off := 38) (by decide) (tgt := 140) rfl ?_
    refine z_il3 (pc' := 141) 77 rfl rfl ?_
    refine z_il4 (pc' := 143) 78 rfl rfl ?_
    first | refine z_icmp_neN (pc' := 146) 79 rfl rfl (tgt := 150) rfl (by omega) (by omega) (fun h143 => ?_) (fun h143 => ?_) | refine z_icmp_ne (pc' := 146) 79 rfl rfl (tgt := 150) rfl (fun h143 => ?_) (fun h143 => ?_)
    · refine z_iconst (v := nI 0) (by decide) (pc' := 151) 82 rfl rfl ?_
      exact z_ireturn 83 rfl rfl (by first | rfl | exact zbo_nar) rfl rfl (by refine ⟨?_, rfl⟩; first | rw [zbo_t (by unfold cmB; simp; omega)] | rw [zbo_f (by unfold cmB; simp; omega)])
    · refine z_iconst (v := nI 1) (by decide) (pc' := 147) 80 rfl rfl ?_
      refine z_goto 81 rfl (tgt := 151) rfl ?_
      exact z_ireturn 83 rfl rfl (by first | rfl | exact zbo_nar) rfl rfl (by refine ⟨?_, rfl⟩; first | rw [zbo_t (by unfold cmB; simp; omega)] | rw [zbo_f (by unfold cmB; simp; omega)])
  · refine z_al0 (pc' := 97) 65 rfl rfl ?_
    refine z_getf (pc' := 100) 66 rfl rfl f_Bk_23_0 (by assumption) (by rfl) ?_
    refine z_il1 (pc' := 101) 67 rfl rfl ?_
    refine z_iald (pc' := 102) 68 rfl rfl (by assumption) (by omega) (by decide) ?_
    rw [hk]
    refine z_lookup 69 rfl (by decide) (off := 50) (by decide) (tgt := 152) rfl ?_
    refine z_il3 (pc' := 153) 84 rfl rfl ?_
    refine z_il4 (pc' := 155) 85 rfl rfl ?_
    first | refine z_icmp_leN (pc' := 158) 86 rfl rfl (tgt := 162) rfl (by omega) (by omega) (fun h155 => ?_) (fun h155 => ?_) | refine z_icmp_le (pc' := 158) 86 rfl rfl (tgt := 162) rfl (fun h155 => ?_) (fun h155 => ?_)
    · refine z_iconst (v := nI 0) (by decide) (pc' := 163) 89 rfl rfl ?_
      exact z_ireturn 90 rfl rfl (by first | rfl | exact zbo_nar) rfl rfl (by refine ⟨?_, rfl⟩; first | rw [zbo_t (by unfold cmB; simp; omega)] | rw [zbo_f (by unfold cmB; simp; omega)])
    · refine z_iconst (v := nI 1) (by decide) (pc' := 159) 87 rfl rfl ?_
      refine z_goto 88 rfl (tgt := 163) rfl ?_
      exact z_ireturn 90 rfl rfl (by first | rfl | exact zbo_nar) rfl rfl (by refine ⟨?_, rfl⟩; first | rw [zbo_t (by unfold cmB; simp; omega)] | rw [zbo_f (by unfold cmB; simp; omega)])
set_option maxHeartbeats 4000000 in
set_option maxRecDepth 100000 in
theorem c_Bk_compares {G : zG} {n u : Nat} {μ : Nat → va_E} {b : Nat} {β : Nat → Nat → Nat} (hb : isBk μ b β) {i q k l r : Nat} {f : Nat → Nat} (hq : μ q = .inl (0, 5, .inl (fun j => nI (f j)))) (hi : i + 2 < 200) (hk : β 4 i = k) (hl : β 4 (i + 1) = l) (hr : β 4 (i + 2) = r) (hk1 : 21 ≤ k) (hk2 : k ≤ 23) (hol : opv l) (hor : opv r) (hf : ∀ j, j < 5 → f j < 2 ^ 31) :
    zMet G 0 M_Bk_compares [.ref b, .int (nI i), .ref q] n u μ n u (zE (some (.int (zbo (cmB k (vl f l) (vl f r) = true)))) μ) := by
  refine z_start (lv := [.ref b, .int (nI i), .ref q, .retAddr 0, .retAddr 0]) K_Bk_compares rfl rfl (Nat.le_refl _) (Nat.le_refl _) (Nat.le_of_ble_eq_true rfl) rfl ?_
  have hb0 := hb
  obtain ⟨m0, m1, m2, m3, m4⟩ := hb
  unfold opv at hol hor
  have hvl : vl f l < 2 ^ 31 := by unfold vl; split <;> first | omega | exact hf _ (by omega)
  have hvr : vl f r < 2 ^ 31 := by unfold vl; split <;> first | omega | exact hf _ (by omega)
  refine z_il1 (pc' := 1) 0 rfl rfl ?_
  refine z_iconst (v := nI 2) (by decide) (pc' := 2) 1 rfl rfl ?_
  first | refine z_iaddN (pc' := 3) 2 rfl rfl ?_ | refine z_iadd (pc' := 3) 2 rfl rfl ?_
  refine z_al0 (pc' := 4) 3 rfl rfl ?_
  refine z_getf (pc' := 7) 4 rfl rfl f_Bk_23_0 (by assumption) (by rfl) ?_
  refine z_alen (pc' := 8) (kd := 0) 5 rfl rfl (by assumption) ?_
  refine z_icmp_lt_t 6 rfl (tgt := 13) rfl (nI_lt (by omega) (by decide)) ?_
  refine z_al0 (pc' := 14) 9 rfl rfl ?_
  refine z_getf (pc' := 17) 10 rfl rfl f_Bk_23_0 (by assumption) (by rfl) ?_
  refine z_il1 (pc' := 18) 11 rfl rfl ?_
  refine z_iconst (v := nI 1) (by decide) (pc' := 19) 12 rfl rfl ?_
  first | refine z_iaddN (pc' := 20) 13 rfl rfl ?_ | refine z_iadd (pc' := 20) 13 rfl rfl ?_
  refine z_iald (pc' := 21) 14 rfl rfl (by assumption) (by omega) (by decide) ?_
  rw [hl]
  refine z_bipush (v := nI 100) (by decide) (pc' := 23) 15 rfl rfl ?_
  first | refine z_icmp_ltN (pc' := 26) 16 rfl rfl (tgt := 40) rfl (by omega) (by omega) (fun h23 => ?_) (fun h23 => ?_) | refine z_icmp_lt (pc' := 26) 16 rfl rfl (tgt := 40) rfl (fun h23 => ?_) (fun h23 => ?_)
  · refine z_al2 (pc' := 41) 26 rfl rfl ?_
    refine z_al0 (pc' := 42) 27 rfl rfl ?_
    refine z_getf (pc' := 45) 28 rfl rfl f_Bk_23_0 (by assumption) (by rfl) ?_
    refine z_il1 (pc' := 46) 29 rfl rfl ?_
    refine z_iconst (v := nI 1) (by decide) (pc' := 47) 30 rfl rfl ?_
    first | refine z_iaddN (pc' := 48) 31 rfl rfl ?_ | refine z_iadd (pc' := 48) 31 rfl rfl ?_
    refine z_iald (pc' := 49) 32 rfl rfl (by assumption) (by omega) (by decide) ?_
    rw [hl]
    refine z_bipush (v := nI 13) (by decide) (pc' := 51) 33 rfl rfl ?_
    first | refine z_isubN (by omega) (pc' := 52) 34 rfl rfl ?_ | refine z_isub (pc' := 52) 34 rfl rfl ?_
    refine z_iald (pc' := 53) 35 rfl rfl (by assumption) (by omega) (by decide) ?_
    first | rw [show l - 100 = vl f l from (if_pos (by omega)).symm] | rw [show f (l - 13) = vl f l from (if_neg (by omega)).symm]
    refine z_is3 rfl rfl (pc' := 54) 36 rfl rfl ?_
    refine z_al0 (pc' := 55) 37 rfl rfl ?_
    refine z_getf (pc' := 58) 38 rfl rfl f_Bk_23_0 (by assumption) (by rfl) ?_
    refine z_il1 (pc' := 59) 39 rfl rfl ?_
    refine z_iconst (v := nI 2) (by decide) (pc' := 60) 40 rfl rfl ?_
    first | refine z_iaddN (pc' := 61) 41 rfl rfl ?_ | refine z_iadd (pc' := 61) 41 rfl rfl ?_
    refine z_iald (pc' := 62) 42 rfl rfl (by assumption) (by omega) (by decide) ?_
    rw [hr]
    refine z_bipush (v := nI 100) (by decide) (pc' := 64) 43 rfl rfl ?_
    first | refine z_icmp_ltN (pc' := 67) 44 rfl rfl (tgt := 81) rfl (by omega) (by omega) (fun h64 => ?_) (fun h64 => ?_) | refine z_icmp_lt (pc' := 67) 44 rfl rfl (tgt := 81) rfl (fun h64 => ?_) (fun h64 => ?_)
    · refine z_al2 (pc' := 82) 54 rfl rfl ?_
      refine z_al0 (pc' := 83) 55 rfl rfl ?_
      refine z_getf (pc' := 86) 56 rfl rfl f_Bk_23_0 (by assumption) (by rfl) ?_
      refine z_il1 (pc' := 87) 57 rfl rfl ?_
      refine z_iconst (v := nI 2) (by decide) (pc' := 88) 58 rfl rfl ?_
      first | refine z_iaddN (pc' := 89) 59 rfl rfl ?_ | refine z_iadd (pc' := 89) 59 rfl rfl ?_
      refine z_iald (pc' := 90) 60 rfl rfl (by assumption) (by omega) (by decide) ?_
      rw [hr]
      refine z_bipush (v := nI 13) (by decide) (pc' := 92) 61 rfl rfl ?_
      first | refine z_isubN (by omega) (pc' := 93) 62 rfl rfl ?_ | refine z_isub (pc' := 93) 62 rfl rfl ?_
      refine z_iald (pc' := 94) 63 rfl rfl (by assumption) (by omega) (by decide) ?_
      first | rw [show r - 100 = vl f r from (if_pos (by omega)).symm] | rw [show f (r - 13) = vl f r from (if_neg (by omega)).symm]
      refine z_is4 rfl rfl (pc' := 96) 64 rfl rfl ?_
      exact l_Bk_compares hb0 hi hk hk1 hk2 hvl hvr
    · refine z_al0 (pc' := 68) 45 rfl rfl ?_
      refine z_getf (pc' := 71) 46 rfl rfl f_Bk_23_0 (by assumption) (by rfl) ?_
      refine z_il1 (pc' := 72) 47 rfl rfl ?_
      refine z_iconst (v := nI 2) (by decide) (pc' := 73) 48 rfl rfl ?_
      first | refine z_iaddN (pc' := 74) 49 rfl rfl ?_ | refine z_iadd (pc' := 74) 49 rfl rfl ?_
      refine z_iald (pc' := 75) 50 rfl rfl (by assumption) (by omega) (by decide) ?_
      rw [hr]
      refine z_bipush (v := nI 100) (by decide) (pc' := 77) 51 rfl rfl ?_
      first | refine z_isubN (by omega) (pc' := 78) 52 rfl rfl ?_ | refine z_isub (pc' := 78) 52 rfl rfl ?_
      refine z_goto 53 rfl (tgt := 94) rfl ?_
      first | rw [show r - 100 = vl f r from (if_pos (by omega)).symm] | rw [show f (r - 13) = vl f r from (if_neg (by omega)).symm]
      refine z_is4 rfl rfl (pc' := 96) 64 rfl rfl ?_
      exact l_Bk_compares hb0 hi hk hk1 hk2 hvl hvr
  · refine z_al0 (pc' := 27) 17 rfl rfl ?_
    refine z_getf (pc' := 30) 18 rfl rfl f_Bk_23_0 (by assumption) (by rfl) ?_
    refine z_il1 (pc' := 31) 19 rfl rfl ?_
    refine z_iconst (v := nI 1) (by decide) (pc' := 32) 20 rfl rfl ?_
    first | refine z_iaddN (pc' := 33) 21 rfl rfl ?_ | refine z_iadd (pc' := 33) 21 rfl rfl ?_
    refine z_iald (pc' := 34) 22 rfl rfl (by assumption) (by omega) (by decide) ?_
    rw [hl]
    refine z_bipush (v := nI 100) (by decide) (pc' := 36) 23 rfl rfl ?_
    first | refine z_isubN (by omega) (pc' := 37) 24 rfl rfl ?_ | refine z_isub (pc' := 37) 24 rfl rfl ?_
    refine z_goto 25 rfl (tgt := 53) rfl ?_
    first | rw [show l - 100 = vl f l from (if_pos (by omega)).symm] | rw [show f (l - 13) = vl f l from (if_neg (by omega)).symm]
    refine z_is3 rfl rfl (pc' := 54) 36 rfl rfl ?_
    refine z_al0 (pc' := 55) 37 rfl rfl ?_
    refine z_getf (pc' := 58) 38 rfl rfl f_Bk_23_0 (by assumption) (by rfl) ?_
    refine z_il1 (pc' := 59) 39 rfl rfl ?_
    refine z_iconst (v := nI 2) (by decide) (pc' := 60) 40 rfl rfl ?_
    first | refine z_iaddN (pc' := 61) 41 rfl rfl ?_ | refine z_iadd (pc' := 61) 41 rfl rfl ?_
    refine z_iald (pc' := 62) 42 rfl rfl (by assumption) (by omega) (by decide) ?_
    rw [hr]
    refine z_bipush (v := nI 100) (by decide) (pc' := 64) 43 rfl rfl ?_
    first | refine z_icmp_ltN (pc' := 67) 44 rfl rfl (tgt := 81) rfl (by omega) (by omega) (fun h64 => ?_) (fun h64 => ?_) | refine z_icmp_lt (pc' := 67) 44 rfl rfl (tgt := 81) rfl (fun h64 => ?_) (fun h64 => ?_)
    · refine z_al2 (pc' := 82) 54 rfl rfl ?_
      refine z_al0 (pc' := 83) 55 rfl rfl ?_
      refine z_getf (pc' := 86) 56 rfl rfl f_Bk_23_0 (by assumption) (by rfl) ?_
      refine z_il1 (pc' := 87) 57 rfl rfl ?_
      refine z_iconst (v := nI 2) (by decide) (pc' := 88) 58 rfl rfl ?_
      first | refine z_iaddN (pc' := 89) 59 rfl rfl ?_ | refine z_iadd (pc' := 89) 59 rfl rfl ?_
      refine z_iald (pc' := 90) 60 rfl rfl (by assumption) (by omega) (by decide) ?_
      rw [hr]
      refine z_bipush (v := nI 13) (by decide) (pc' := 92) 61 rfl rfl ?_
      first | refine z_isubN (by omega) (pc' := 93) 62 rfl rfl ?_ | refine z_isub (pc' := 93) 62 rfl rfl ?_
      refine z_iald (pc' := 94) 63 rfl rfl (by assumption) (by omega) (by decide) ?_
      first | rw [show r - 100 = vl f r from (if_pos (by omega)).symm] | rw [show f (r - 13) = vl f r from (if_neg (by omega)).symm]
      refine z_is4 rfl rfl (pc' := 96) 64 rfl rfl ?_
      exact l_Bk_compares hb0 hi hk hk1 hk2 hvl hvr
    · refine z_al0 (pc' := 68) 45 rfl rfl ?_
      refine z_getf (pc' := 71) 46 rfl rfl f_Bk_23_0 (by assumption) (by rfl) ?_
      refine z_il1 (pc' := 72) 47 rfl rfl ?_
      refine z_iconst (v := nI 2) (by decide) (pc' := 73) 48 rfl rfl ?_
      first | refine z_iaddN (pc' := 74) 49 rfl rfl ?_ | refine z_iadd (pc' := 74) 49 rfl rfl ?_
      refine z_iald (pc' := 75) 50 rfl rfl (by assumption) (by omega) (by decide) ?_
      rw [hr]
      refine z_bipush (v := nI 100) (by decide) (pc' := 77) 51 rfl rfl ?_
      first | refine z_isubN (by omega) (pc' := 78) 52 rfl rfl ?_ | refine z_isub (pc' := 78) 52 rfl rfl ?_
      refine z_goto 53 rfl (tgt := 94) rfl ?_
      first | rw [show r - 100 = vl f r from (if_pos (by omega)).symm] | rw [show f (r - 13) = vl f r from (if_neg (by omega)).symm]
      refine z_is4 rfl rfl (pc' := 96) 64 rfl rfl ?_
      exact l_Bk_compares hb0 hi hk hk1 hk2 hvl hvr
set_option maxHeartbeats 4000000 in
set_option maxRecDepth 100000 in
theorem l_Bk_holds {G : zG} {n u : Nat} {μ : Nat → va_E} {b : Nat} {β : Nat → Nat → Nat} (hb : isBk μ b β) {q r e : Nat} {f : Nat → Nat} (hq : μ q = .inl (0, 5, .inl (fun j => nI (f j)))) (hr : r < 8) (he : β 3 (r + 1) = e) (he2 : e ≤ 200) (hf : ∀ j, j < 5 → f j < 2 ^ 31) : ∀ (its : zI) (i : Nat) (s : List Bool), sg (β 4) i its e → okI its s.length → s.length ≤ 10 →
    zW G 1 M_Bk_holds 10 [.ref b, .int (nI r), .ref q, .int (nI (enc s)), .int (nI i)] [] n u μ n u (zE (some (.int (zbo (tpB (evB f its s) = true)))) μ)
  | [], i, s, hs, hok, hs10 => by
    have hi : i = e := hs
    have hb0 := hb
    obtain ⟨m0, m1, m2, m3, m4⟩ := hb
    refine z_il4 (pc' := 12) 7 rfl rfl ?_
    refine z_al0 (pc' := 13) 8 rfl rfl ?_
    refine z_getf (pc' := 16) 9 rfl rfl f_Bk_18_0 (by assumption) (by rfl) ?_
    refine z_il1 (pc' := 17) 10 rfl rfl ?_
    refine z_iconst (v := nI 1) (by decide) (pc' := 18) 11 rfl rfl ?_
    first | refine z_iaddN (pc' := 19) 12 rfl rfl ?_ | refine z_iadd (pc' := 19) 12 rfl rfl ?_
    refine z_iald (pc' := 20) 13 rfl rfl (by assumption) (by omega) (by decide) ?_
    rw [he]
    first | refine z_icmp_geN (pc' := 23) 14 rfl rfl (tgt := 135) rfl (by omega) (by omega) (fun h20 => ?_) (fun h20 => ?_) | refine z_icmp_ge (pc' := 23) 14 rfl rfl (tgt := 135) rfl (fun h20 => ?_) (fun h20 => ?_)
    · refine z_il3 (pc' := 136) 71 rfl rfl ?_
      refine z_iconst (v := nI 1) (by decide) (pc' := 137) 72 rfl rfl ?_
      refine z_iand (pc' := 138) 73 rfl rfl ?_
      refine z_te (show _ = zbo (tpB s = true) from by cases s with | nil => rfl | cons b0 s0 => rw [en_1 b0 s0 (by simp at hs10; omega)]; cases b0 <;> rfl) ?_
      first | rw [hx1] | skip
      first | refine z_if_eqB (pc' := 141) 74 rfl rfl (tgt := 145) rfl (fun h138 => ?_) (fun h138 => ?_) | refine z_if_eqN (pc' := 141) 74 rfl rfl (tgt := 145) rfl (by omega) (fun h138 => ?_) (fun h138 => ?_) | refine z_if_eq (pc' := 141) 74 rfl rfl (tgt := 145) rfl (fun h138 => ?_) (fun h138 => ?_)
      · refine z_iconst (v := nI 0) (by decide) (pc' := 146) 77 rfl rfl ?_
        exact z_ireturn 78 rfl rfl (by first | rfl | exact zbo_nar) rfl rfl (by refine ⟨?_, rfl⟩; first | rw [zbo_t (by simpa [evB] using h138)] | rw [zbo_f (by simpa [evB] using h138)])
      · refine z_iconst (v := nI 1) (by decide) (pc' := 142) 75 rfl rfl ?_
        refine z_goto 76 rfl (tgt := 146) rfl ?_
        exact z_ireturn 78 rfl rfl (by first | rfl | exact zbo_nar) rfl rfl (by refine ⟨?_, rfl⟩; first | rw [zbo_t (by simpa [evB] using h138)] | rw [zbo_f (by simpa [evB] using h138)])
    · exfalso; omega
  | (o, l, r0) :: t, i, s, hs, hok, hs10 => by
    have hb0 := hb
    obtain ⟨m0, m1, m2, m3, m4⟩ := hb
    obtain ⟨hb1, hs2⟩ := hs
    rcases hok with ⟨rfl, ho1, hok⟩ | ⟨ho, ho1, hok⟩ | ⟨ho1, ho2, hol, hor, ho3, hok⟩
    · rw [if_pos (by decide)] at hs2
      have hle := sg_le _ _ _ hs2
      match s, ho1, hok, hs10 with
      | b1 :: s1, _, hok, hs10 =>
        have hs11 : s1.length ≤ 10 := by simp at hs10; omega
        rw [show evB f ((12, l, r0) :: t) (b1 :: s1) = evB f t ((!b1) :: s1) from by simp [evB]]
        refine z_il4 (pc' := 12) 7 rfl rfl ?_
        refine z_al0 (pc' := 13) 8 rfl rfl ?_
        refine z_getf (pc' := 16) 9 rfl rfl f_Bk_18_0 (by assumption) (by rfl) ?_
        refine z_il1 (pc' := 17) 10 rfl rfl ?_
        refine z_iconst (v := nI 1) (by decide) (pc' := 18) 11 rfl rfl ?_
        first | refine z_iaddN (pc' := 19) 12 rfl rfl ?_ | refine z_iadd (pc' := 19) 12 rfl rfl ?_
        refine z_iald (pc' := 20) 13 rfl rfl (by assumption) (by omega) (by decide) ?_
        rw [he]
        first | refine z_icmp_geN (pc' := 23) 14 rfl rfl (tgt := 135) rfl (by omega) (by omega) (fun h20 => ?_) (fun h20 => ?_) | refine z_icmp_ge (pc' := 23) 14 rfl rfl (tgt := 135) rfl (fun h20 => ?_) (fun h20 => ?_)
        · exfalso; omega
        · refine z_al0 (pc' := 24) 15 rfl rfl ?_
          refine z_getf (pc' := 27) 16 rfl rfl f_Bk_23_0 (by assumption) (by rfl) ?_
          refine z_il4 (pc' := 29) 17 rfl rfl ?_
          refine z_iald (pc' := 30) 18 rfl rfl (by assumption) (by omega) (by decide) ?_
          rw [hb1]
          refine z_tableIn 19 rfl (by decide) (by decide) (off := 26) rfl (tgt := 56) rfl ?_
          refine z_il3 (pc' := 57) 20 rfl rfl ?_
          refine z_iconst (v := nI 1) (by decide) (pc' := 58) 21 rfl rfl ?_
          refine z_ixor (pc' := 59) 22 rfl rfl ?_
          refine z_te (en_x b1 s1 hs11) ?_
          refine z_is3 rfl rfl (pc' := 60) 23 rfl rfl ?_
          refine z_goto 24 rfl (tgt := 129) rfl ?_
          first | refine z_inc4N rfl rfl (pc' := 132) 69 rfl rfl ?_ | refine z_inc4 rfl rfl rfl (pc' := 132) 69 rfl rfl ?_
          refine z_goto 70 rfl (tgt := 10) rfl ?_
          exact l_Bk_holds hb0 hq hr he he2 hf t _ ((!b1) :: s1) hs2 (by simpa using hok) (by simpa using hs10)
    · have ho21 : o < 21 := by omega
      rw [if_pos ho21] at hs2
      have hle := sg_le _ _ _ hs2
      match s, ho1, hok, hs10 with
      | b1 :: b2 :: s1, _, hok, hs10 =>
        have hs11 : s1.length ≤ 10 := by simp at hs10; omega
        have hs12 : (b2 :: s1).length ≤ 10 := by simp at hs10 ⊢; omega
        rcases ho with rfl | rfl
        · cases b1
          · rw [show evB f ((10, l, r0) :: t) (false :: b2 :: s1) = evB f t (b2 :: s1) from by simp [evB]]
            refine z_il4 (pc' := 12) 7 rfl rfl ?_
            refine z_al0 (pc' := 13) 8 rfl rfl ?_
            refine z_getf (pc' := 16) 9 rfl rfl f_Bk_18_0 (by assumption) (by rfl) ?_
            refine z_il1 (pc' := 17) 10 rfl rfl ?_
            refine z_iconst (v := nI 1) (by decide) (pc' := 18) 11 rfl rfl ?_
            first | refine z_iaddN (pc' := 19) 12 rfl rfl ?_ | refine z_iadd (pc' := 19) 12 rfl rfl ?_
            refine z_iald (pc' := 20) 13 rfl rfl (by assumption) (by omega) (by decide) ?_
            rw [he]
            first | refine z_icmp_geN (pc' := 23) 14 rfl rfl (tgt := 135) rfl (by omega) (by omega) (fun h20 => ?_) (fun h20 => ?_) | refine z_icmp_ge (pc' := 23) 14 rfl rfl (tgt := 135) rfl (fun h20 => ?_) (fun h20 => ?_)
            · exfalso; omega
            · refine z_al0 (pc' := 24) 15 rfl rfl ?_
              refine z_getf (pc' := 27) 16 rfl rfl f_Bk_23_0 (by assumption) (by rfl) ?_
              refine z_il4 (pc' := 29) 17 rfl rfl ?_
              refine z_iald (pc' := 30) 18 rfl rfl (by assumption) (by omega) (by decide) ?_
              rw [hb1]
              refine z_tableIn 19 rfl (by decide) (by decide) (off := 55) rfl (tgt := 85) rfl ?_
              refine z_il3 (pc' := 86) 40 rfl rfl ?_
              refine z_iconst (v := nI 1) (by decide) (pc' := 87) 41 rfl rfl ?_
              refine z_iand (pc' := 88) 42 rfl rfl ?_
              refine z_te (en_1 false _ hs12) ?_
              refine z_if_eq_t 43 rfl (tgt := 99) rfl rfl ?_
              refine z_il3 (pc' := 100) 50 rfl rfl ?_
              refine z_iconst (v := nI 1) (by decide) (pc' := 101) 51 rfl rfl ?_
              refine z_ishr (pc' := 102) 52 rfl rfl ?_
              refine z_te (en_s false _ hs12) ?_
              refine z_is3 rfl rfl (pc' := 103) 53 rfl rfl ?_
              refine z_goto 54 rfl (tgt := 129) rfl ?_
              first | refine z_inc4N rfl rfl (pc' := 132) 69 rfl rfl ?_ | refine z_inc4 rfl rfl rfl (pc' := 132) 69 rfl rfl ?_
              refine z_goto 70 rfl (tgt := 10) rfl ?_
              exact l_Bk_holds hb0 hq hr he he2 hf t _ (b2 :: s1) hs2 (by simpa using hok) hs12
          · rw [show evB f ((10, l, r0) :: t) (true :: b2 :: s1) = evB f t (true :: s1) from by simp [evB]]
            refine z_il4 (pc' := 12) 7 rfl rfl ?_
            refine z_al0 (pc' := 13) 8 rfl rfl ?_
            refine z_getf (pc' := 16) 9 rfl rfl f_Bk_18_0 (by assumption) (by rfl) ?_
            refine z_il1 (pc' := 17) 10 rfl rfl ?_
            refine z_iconst (v := nI 1) (by decide) (pc' := 18) 11 rfl rfl ?_
            first | refine z_iaddN (pc' := 19) 12 rfl rfl ?_ | refine z_iadd (pc' := 19) 12 rfl rfl ?_
            refine z_iald (pc' := 20) 13 rfl rfl (by assumption) (by omega) (by decide) ?_
            rw [he]
            first | refine z_icmp_geN (pc' := 23) 14 rfl rfl (tgt := 135) rfl (by omega) (by omega) (fun h20 => ?_) (fun h20 => ?_) | refine z_icmp_ge (pc' := 23) 14 rfl rfl (tgt := 135) rfl (fun h20 => ?_) (fun h20 => ?_)
            · exfalso; omega
            · refine z_al0 (pc' := 24) 15 rfl rfl ?_
              refine z_getf (pc' := 27) 16 rfl rfl f_Bk_23_0 (by assumption) (by rfl) ?_
              refine z_il4 (pc' := 29) 17 rfl rfl ?_
              refine z_iald (pc' := 30) 18 rfl rfl (by assumption) (by omega) (by decide) ?_
              rw [hb1]
              refine z_tableIn 19 rfl (by decide) (by decide) (off := 55) rfl (tgt := 85) rfl ?_
              refine z_il3 (pc' := 86) 40 rfl rfl ?_
              refine z_iconst (v := nI 1) (by decide) (pc' := 87) 41 rfl rfl ?_
              refine z_iand (pc' := 88) 42 rfl rfl ?_
              refine z_te (en_1 true _ hs12) ?_
              refine z_if_eq_f (pc' := 91) 43 rfl rfl (tgt := 99) rfl (by decide) ?_
              refine z_il3 (pc' := 92) 44 rfl rfl ?_
              refine z_iconst (v := nI 1) (by decide) (pc' := 93) 45 rfl rfl ?_
              refine z_ishr (pc' := 94) 46 rfl rfl ?_
              refine z_te (en_s true _ hs12) ?_
              refine z_iconst (v := nI 1) (by decide) (pc' := 95) 47 rfl rfl ?_
              refine z_ior (pc' := 96) 48 rfl rfl ?_
              refine z_te (en_o b2 s1 hs11) ?_
              refine z_goto 49 rfl (tgt := 102) rfl ?_
              refine z_is3 rfl rfl (pc' := 103) 53 rfl rfl ?_
              refine z_goto 54 rfl (tgt := 129) rfl ?_
              first | refine z_inc4N rfl rfl (pc' := 132) 69 rfl rfl ?_ | refine z_inc4 rfl rfl rfl (pc' := 132) 69 rfl rfl ?_
              refine z_goto 70 rfl (tgt := 10) rfl ?_
              exact l_Bk_holds hb0 hq hr he he2 hf t _ (true :: s1) hs2 (by simpa using hok) hs12
        · cases b1
          · rw [show evB f ((11, l, r0) :: t) (false :: b2 :: s1) = evB f t (false :: s1) from by simp [evB]]
            refine z_il4 (pc' := 12) 7 rfl rfl ?_
            refine z_al0 (pc' := 13) 8 rfl rfl ?_
            refine z_getf (pc' := 16) 9 rfl rfl f_Bk_18_0 (by assumption) (by rfl) ?_
            refine z_il1 (pc' := 17) 10 rfl rfl ?_
            refine z_iconst (v := nI 1) (by decide) (pc' := 18) 11 rfl rfl ?_
            first | refine z_iaddN (pc' := 19) 12 rfl rfl ?_ | refine z_iadd (pc' := 19) 12 rfl rfl ?_
            refine z_iald (pc' := 20) 13 rfl rfl (by assumption) (by omega) (by decide) ?_
            rw [he]
            first | refine z_icmp_geN (pc' := 23) 14 rfl rfl (tgt := 135) rfl (by omega) (by omega) (fun h20 => ?_) (fun h20 => ?_) | refine z_icmp_ge (pc' := 23) 14 rfl rfl (tgt := 135) rfl (fun h20 => ?_) (fun h20 => ?_)
            · exfalso; omega
            · refine z_al0 (pc' := 24) 15 rfl rfl ?_
              refine z_getf (pc' := 27) 16 rfl rfl f_Bk_23_0 (by assumption) (by rfl) ?_
              refine z_il4 (pc' := 29) 17 rfl rfl ?_
              refine z_iald (pc' := 30) 18 rfl rfl (by assumption) (by omega) (by decide) ?_
              rw [hb1]
              refine z_tableIn 19 rfl (by decide) (by decide) (off := 33) rfl (tgt := 63) rfl ?_
              refine z_il3 (pc' := 64) 25 rfl rfl ?_
              refine z_iconst (v := nI 1) (by decide) (pc' := 65) 26 rfl rfl ?_
              refine z_iand (pc' := 66) 27 rfl rfl ?_
              refine z_te (en_1 false _ hs12) ?_
              refine z_if_eq_t 28 rfl (tgt := 75) rfl rfl ?_
              refine z_il3 (pc' := 76) 33 rfl rfl ?_
              refine z_iconst (v := nI 1) (by decide) (pc' := 77) 34 rfl rfl ?_
              refine z_ishr (pc' := 78) 35 rfl rfl ?_
              refine z_te (en_s false _ hs12) ?_
              refine z_bipush (v := (-2)) (by decide) (pc' := 80) 36 rfl rfl ?_
              refine z_iand (pc' := 81) 37 rfl rfl ?_
              refine z_te (en_m b2 s1 hs11) ?_
              refine z_is3 rfl rfl (pc' := 82) 38 rfl rfl ?_
              refine z_goto 39 rfl (tgt := 129) rfl ?_
              first | refine z_inc4N rfl rfl (pc' := 132) 69 rfl rfl ?_ | refine z_inc4 rfl rfl rfl (pc' := 132) 69 rfl rfl ?_
              refine z_goto 70 rfl (tgt := 10) rfl ?_
              exact l_Bk_holds hb0 hq hr he he2 hf t _ (false :: s1) hs2 (by simpa using hok) hs12
          · rw [show evB f ((11, l, r0) :: t) (true :: b2 :: s1) = evB f t (b2 :: s1) from by simp [evB]]
            refine z_il4 (pc' := 12) 7 rfl rfl ?_
            refine z_al0 (pc' := 13) 8 rfl rfl ?_
            refine z_getf (pc' := 16) 9 rfl rfl f_Bk_18_0 (by assumption) (by rfl) ?_
            refine z_il1 (pc' := 17) 10 rfl rfl ?_
            refine z_iconst (v := nI 1) (by decide) (pc' := 18) 11 rfl rfl ?_
            first | refine z_iaddN (pc' := 19) 12 rfl rfl ?_ | refine z_iadd (pc' := 19) 12 rfl rfl ?_
            refine z_iald (pc' := 20) 13 rfl rfl (by assumption) (by omega) (by decide) ?_
            rw [he]
            first | refine z_icmp_geN (pc' := 23) 14 rfl rfl (tgt := 135) rfl (by omega) (by omega) (fun h20 => ?_) (fun h20 => ?_) | refine z_icmp_ge (pc' := 23) 14 rfl rfl (tgt := 135) rfl (fun h20 => ?_) (fun h20 => ?_)
            · exfalso; omega
            · refine z_al0 (pc' := 24) 15 rfl rfl ?_
              refine z_getf (pc' := 27) 16 rfl rfl f_Bk_23_0 (by assumption) (by rfl) ?_
              refine z_il4 (pc' := 29) 17 rfl rfl ?_
              refine z_iald (pc' := 30) 18 rfl rfl (by assumption) (by omega) (by decide) ?_
              rw [hb1]
              refine z_tableIn 19 rfl (by decide) (by decide) (off := 33) rfl (tgt := 63) rfl ?_
              refine z_il3 (pc' := 64) 25 rfl rfl ?_
              refine z_iconst (v := nI 1) (by decide) (pc' := 65) 26 rfl rfl ?_
              refine z_iand (pc' := 66) 27 rfl rfl ?_
              refine z_te (en_1 true _ hs12) ?_
              refine z_if_eq_f (pc' := 69) 28 rfl rfl (tgt := 75) rfl (by decide) ?_
              refine z_il3 (pc' := 70) 29 rfl rfl ?_
              refine z_iconst (v := nI 1) (by decide) (pc' := 71) 30 rfl rfl ?_
              refine z_ishr (pc' := 72) 31 rfl rfl ?_
              refine z_te (en_s true _ hs12) ?_
              refine z_goto 32 rfl (tgt := 81) rfl ?_
              refine z_is3 rfl rfl (pc' := 82) 38 rfl rfl ?_
              refine z_goto 39 rfl (tgt := 129) rfl ?_
              first | refine z_inc4N rfl rfl (pc' := 132) 69 rfl rfl ?_ | refine z_inc4 rfl rfl rfl (pc' := 132) 69 rfl rfl ?_
              refine z_goto 70 rfl (tgt := 10) rfl ?_
              exact l_Bk_holds hb0 hq hr he he2 hf t _ (b2 :: s1) hs2 (by simpa using hok) hs12
    · have ho21 : ¬ o < 21 := by omega
      rw [if_neg ho21] at hs2
      obtain ⟨hb2, hb3, hs2⟩ := hs2
      rw [show evB f ((o, l, r0) :: t) s = evB f t (cmB o (vl f l) (vl f r0) :: s) from by simp only [evB, if_neg (show ¬ o = 12 by omega), if_neg (show ¬ o = 11 by omega), if_neg (show ¬ o = 10 by omega)]]
      have hle := sg_le _ _ _ hs2
      refine z_il4 (pc' := 12) 7 rfl rfl ?_
      refine z_al0 (pc' := 13) 8 rfl rfl ?_
      refine z_getf (pc' := 16) 9 rfl rfl f_Bk_18_0 (by assumption) (by rfl) ?_
      refine z_il1 (pc' := 17) 10 rfl rfl ?_
      refine z_iconst (v := nI 1) (by decide) (pc' := 18) 11 rfl rfl ?_
      first | refine z_iaddN (pc' := 19) 12 rfl rfl ?_ | refine z_iadd (pc' := 19) 12 rfl rfl ?_
      refine z_iald (pc' := 20) 13 rfl rfl (by assumption) (by omega) (by decide) ?_
      rw [he]
      first | refine z_icmp_geN (pc' := 23) 14 rfl rfl (tgt := 135) rfl (by omega) (by omega) (fun h20 => ?_) (fun h20 => ?_) | refine z_icmp_ge (pc' := 23) 14 rfl rfl (tgt := 135) rfl (fun h20 => ?_) (fun h20 => ?_)
      · exfalso; omega
      · refine z_al0 (pc' := 24) 15 rfl rfl ?_
        refine z_getf (pc' := 27) 16 rfl rfl f_Bk_23_0 (by assumption) (by rfl) ?_
        refine z_il4 (pc' := 29) 17 rfl rfl ?_
        refine z_iald (pc' := 30) 18 rfl rfl (by assumption) (by omega) (by decide) ?_
        rw [hb1]
        refine z_tableOut 19 rfl (by rw [nI_toInt (by omega)]; omega) (tgt := 106) rfl ?_
        refine z_il3 (pc' := 107) 55 rfl rfl ?_
        refine z_iconst (v := nI 1) (by decide) (pc' := 108) 56 rfl rfl ?_
        refine z_ishl (pc' := 109) 57 rfl rfl ?_
        refine z_al0 (pc' := 110) 58 rfl rfl ?_
        refine z_il4 (pc' := 112) 59 rfl rfl ?_
        refine z_al2 (pc' := 113) 60 rfl rfl ?_
        refine z_callV1 (pc' := 116) 61 rfl rfl k_Bk_47 (by assumption) (c_Bk_compares hb0 hq (by omega) hb1 hb2 hb3 ho1 ho2 hol hor hf) (by decide) (Nat.le_refl _) (Nat.le_refl _) rfl rfl (Nat.le_of_ble_eq_true rfl) ?_
        first | refine z_if_eqB (pc' := 119) 62 rfl rfl (tgt := 123) rfl (fun h116 => ?_) (fun h116 => ?_) | refine z_if_eqN (pc' := 119) 62 rfl rfl (tgt := 123) rfl (by omega) (fun h116 => ?_) (fun h116 => ?_) | refine z_if_eq (pc' := 119) 62 rfl rfl (tgt := 123) rfl (fun h116 => ?_) (fun h116 => ?_)
        · refine z_iconst (v := nI 0) (by decide) (pc' := 124) 65 rfl rfl ?_
          refine z_ior (pc' := 125) 66 rfl rfl ?_
          refine z_te (show _ = nI (enc (cmB o (vl f l) (vl f r0) :: s)) from by first | (rw [h116]; exact en_p true s (by omega)) | (rw [Bool.eq_false_iff.mpr h116]; exact en_p false s (by omega))) ?_
          refine z_is3 rfl rfl (pc' := 126) 67 rfl rfl ?_
          refine z_inc4 rfl rfl (nI_inc _ 2) (pc' := 129) 68 rfl rfl ?_
          first | refine z_inc4N rfl rfl (pc' := 132) 69 rfl rfl ?_ | refine z_inc4 rfl rfl rfl (pc' := 132) 69 rfl rfl ?_
          refine z_goto 70 rfl (tgt := 10) rfl ?_
          exact l_Bk_holds hb0 hq hr he he2 hf t _ (cmB o (vl f l) (vl f r0) :: s) hs2 (by simpa using hok) (by simp; omega)
        · refine z_iconst (v := nI 1) (by decide) (pc' := 120) 63 rfl rfl ?_
          refine z_goto 64 rfl (tgt := 124) rfl ?_
          refine z_ior (pc' := 125) 66 rfl rfl ?_
          refine z_te (show _ = nI (enc (cmB o (vl f l) (vl f r0) :: s)) from by first | (rw [h116]; exact en_p true s (by omega)) | (rw [Bool.eq_false_iff.mpr h116]; exact en_p false s (by omega))) ?_
          refine z_is3 rfl rfl (pc' := 126) 67 rfl rfl ?_
          refine z_inc4 rfl rfl (nI_inc _ 2) (pc' := 129) 68 rfl rfl ?_
          first | refine z_inc4N rfl rfl (pc' := 132) 69 rfl rfl ?_ | refine z_inc4 rfl rfl rfl (pc' := 132) 69 rfl rfl ?_
          refine z_goto 70 rfl (tgt := 10) rfl ?_
          exact l_Bk_holds hb0 hq hr he he2 hf t _ (cmB o (vl f l) (vl f r0) :: s) hs2 (by simpa using hok) (by simp; omega)
end
section
set_option maxHeartbeats 4000000 in
set_option maxRecDepth 100000 in
theorem c_Bk_holds {G : zG} {n u : Nat} {μ : Nat → va_E} {b : Nat} {β : Nat → Nat → Nat} (hb : isBk μ b β) {q r e : Nat} {f : Nat → Nat} (hq : μ q = .inl (0, 5, .inl (fun j => nI (f j)))) (hr : r < 8) (he : β 3 (r + 1) = e) (he2 : e ≤ 200) (hf : ∀ j, j < 5 → f j < 2 ^ 31) {its : zI} (hs : sg (β 4) (β 3 r) its e) (hok : okI its 0) :
    zMet G 1 M_Bk_holds [.ref b, .int (nI r), .ref q] n u μ n u (zE (some (.int (zbo (tpB (evB f its []) = true)))) μ) := by
  refine z_start (lv := [.ref b, .int (nI r), .ref q, .retAddr 0, .retAddr 0]) K_Bk_holds rfl rfl (Nat.le_refl _) (Nat.le_refl _) (Nat.le_of_ble_eq_true rfl) rfl ?_
  have hb0 := hb
  obtain ⟨m0, m1, m2, m3, m4⟩ := hb
  refine z_iconst (v := nI 1) (by decide) (pc' := 1) 0 rfl rfl ?_
  refine z_is3 rfl rfl (pc' := 2) 1 rfl rfl ?_
  refine z_al0 (pc' := 3) 2 rfl rfl ?_
  refine z_getf (pc' := 6) 3 rfl rfl f_Bk_18_0 (by assumption) (by rfl) ?_
  refine z_il1 (pc' := 7) 4 rfl rfl ?_
  refine z_iald (pc' := 8) 5 rfl rfl (by assumption) (by omega) (by decide) ?_
  refine z_is4 rfl rfl (pc' := 10) 6 rfl rfl ?_
  exact l_Bk_holds hb0 hq hr he he2 hf its _ [] hs hok (by decide)
/-- the rules are as they must be: its r is the condition of rule r -/
def wfB (β : Nat → Nat → Nat) (its : Nat → zI) : Prop := β 0 0 ≤ 8 ∧ ∀ r, r < β 0 0 → sg (β 4) (β 3 r) (its r) (β 3 (r + 1)) ∧ okI (its r) 0 ∧ β 3 (r + 1) ≤ 200 ∧ β 1 r ≤ 5 ∧ β 2 r ≤ 2
/-- what the rules from r on tell, m of them -/
def tlN (β : Nat → Nat → Nat) (its : Nat → zI) (k : Nat) (f : Nat → Nat) : Nat → Nat → Nat
  | 0, _ => 0
  | m + 1, r => if udB k (β 1 r) = true ∧ tpB (evB f (its r) []) = true then β 2 r else tlN β its k f m (r + 1)
theorem tlN_le {β : Nat → Nat → Nat} {its : Nat → zI} (h : wfB β its) {k : Nat} {f : Nat → Nat} : ∀ m r, r + m = β 0 0 → tlN β its k f m r ≤ 2
  | 0, _, _ => Nat.zero_le _
  | m + 1, r, e => by
    unfold tlN
    split
    · exact (h.2 r (by omega)).2.2.2.2
    · exact tlN_le h m (r + 1) (by omega)
set_option maxHeartbeats 4000000 in
set_option maxRecDepth 100000 in
theorem l_Bk_tells {G : zG} {n u : Nat} {μ : Nat → va_E} {b : Nat} {β : Nat → Nat → Nat} (hb : isBk μ b β) {q k : Nat} {f : Nat → Nat} {its : Nat → zI} (hq : μ q = .inl (0, 5, .inl (fun j => nI (f j)))) (hf : ∀ j, j < 5 → f j < 2 ^ 31) (hk : k ≤ 5) (hw : wfB β its) : ∀ m r, r + m = β 0 0 →
    zW G 2 M_Bk_tells 2 [.ref b, .int (nI k), .ref q, .int (nI r)] [] n u μ n u (zE (some (.int (nI (tlN β its k f m r)))) μ)
  | 0, r, e => by
    have hc := hw.1
    obtain ⟨m0, m1, m2, m3, m4⟩ := hb
    refine z_il3 (pc' := 3) 2 rfl rfl ?_
    refine z_al0 (pc' := 4) 3 rfl rfl ?_
    refine z_getf (pc' := 7) 4 rfl rfl f_Bk_26_0 (by assumption) (by rfl) ?_
    first | refine z_icmp_geN (pc' := 10) 5 rfl rfl (tgt := 45) rfl (by omega) (by omega) (fun h7 => ?_) (fun h7 => ?_) | refine z_icmp_ge (pc' := 10) 5 rfl rfl (tgt := 45) rfl (fun h7 => ?_) (fun h7 => ?_)
    · refine z_iconst (v := nI 0) (by decide) (pc' := 46) 25 rfl rfl ?_
      exact z_ireturn 26 rfl rfl (by first | rfl | exact zbo_nar) rfl rfl (by exact ⟨rfl, rfl⟩)
    · exfalso; omega
  | m + 1, r, e => by
    have hc := hw.1
    obtain ⟨w1, w2, w3, w4, w5⟩ := hw.2 r (by omega)
    have hb0 := hb
    obtain ⟨m0, m1, m2, m3, m4⟩ := hb
    refine z_il3 (pc' := 3) 2 rfl rfl ?_
    refine z_al0 (pc' := 4) 3 rfl rfl ?_
    refine z_getf (pc' := 7) 4 rfl rfl f_Bk_26_0 (by assumption) (by rfl) ?_
    first | refine z_icmp_geN (pc' := 10) 5 rfl rfl (tgt := 45) rfl (by omega) (by omega) (fun h7 => ?_) (fun h7 => ?_) | refine z_icmp_ge (pc' := 10) 5 rfl rfl (tgt := 45) rfl (fun h7 => ?_) (fun h7 => ?_)
    · exfalso; omega
    · refine z_il1 (pc' := 11) 6 rfl rfl ?_
      refine z_al0 (pc' := 12) 7 rfl rfl ?_
      refine z_getf (pc' := 15) 8 rfl rfl f_Bk_11_0 (by assumption) (by rfl) ?_
      refine z_il3 (pc' := 16) 9 rfl rfl ?_
      refine z_iald (pc' := 17) 10 rfl rfl (by assumption) (by omega) (by decide) ?_
      refine z_callS1 (pc' := 20) 11 rfl rfl k_Bk_39 (c_Wb_isUnder hk (by omega)) (by decide) (Nat.le_refl _) (Nat.le_refl _) rfl rfl (Nat.le_of_ble_eq_true rfl) ?_
      first | refine z_if_eqB (pc' := 23) 12 rfl rfl (tgt := 39) rfl (fun h20 => ?_) (fun h20 => ?_) | refine z_if_eqN (pc' := 23) 12 rfl rfl (tgt := 39) rfl (by omega) (fun h20 => ?_) (fun h20 => ?_) | refine z_if_eq (pc' := 23) 12 rfl rfl (tgt := 39) rfl (fun h20 => ?_) (fun h20 => ?_)
      · rw [tlN, if_neg (fun z => by first | exact h20 z.1 | exact h29 z.2)]
        first | refine z_inc3N rfl rfl (pc' := 42) 23 rfl rfl ?_ | refine z_inc3 rfl rfl rfl (pc' := 42) 23 rfl rfl ?_
        refine z_goto 24 rfl (tgt := 2) rfl ?_
        exact l_Bk_tells hb0 hq hf hk hw m (r + 1) (by omega)
      · refine z_al0 (pc' := 24) 13 rfl rfl ?_
        refine z_il3 (pc' := 25) 14 rfl rfl ?_
        refine z_al2 (pc' := 26) 15 rfl rfl ?_
        refine z_callV1 (pc' := 29) 16 rfl rfl k_Bk_43 (by assumption) (c_Bk_holds hb0 hq (by omega) rfl w3 hf w1 w2) (by decide) (Nat.le_refl _) (Nat.le_refl _) rfl rfl (Nat.le_of_ble_eq_true rfl) ?_
        first | refine z_if_eqB (pc' := 32) 17 rfl rfl (tgt := 39) rfl (fun h29 => ?_) (fun h29 => ?_) | refine z_if_eqN (pc' := 32) 17 rfl rfl (tgt := 39) rfl (by omega) (fun h29 => ?_) (fun h29 => ?_) | refine z_if_eq (pc' := 32) 17 rfl rfl (tgt := 39) rfl (fun h29 => ?_) (fun h29 => ?_)
        · rw [tlN, if_neg (fun z => by first | exact h20 z.1 | exact h29 z.2)]
          first | refine z_inc3N rfl rfl (pc' := 42) 23 rfl rfl ?_ | refine z_inc3 rfl rfl rfl (pc' := 42) 23 rfl rfl ?_
          refine z_goto 24 rfl (tgt := 2) rfl ?_
          exact l_Bk_tells hb0 hq hf hk hw m (r + 1) (by omega)
        · refine z_al0 (pc' := 33) 18 rfl rfl ?_
          refine z_getf (pc' := 36) 19 rfl rfl f_Bk_15_0 (by assumption) (by rfl) ?_
          refine z_il3 (pc' := 37) 20 rfl rfl ?_
          refine z_iald (pc' := 38) 21 rfl rfl (by assumption) (by omega) (by decide) ?_
          exact z_ireturn 22 rfl rfl (by first | rfl | exact zbo_nar) rfl rfl (by rw [tlN, if_pos ⟨h20, h29⟩]; exact ⟨rfl, rfl⟩)
set_option maxHeartbeats 4000000 in
set_option maxRecDepth 100000 in
theorem c_Bk_tells {G : zG} {n u : Nat} {μ : Nat → va_E} {b : Nat} {β : Nat → Nat → Nat} (hb : isBk μ b β) {q k : Nat} {f : Nat → Nat} {its : Nat → zI} (hq : μ q = .inl (0, 5, .inl (fun j => nI (f j)))) (hf : ∀ j, j < 5 → f j < 2 ^ 31) (hk : k ≤ 5) (hw : wfB β its) :
    zMet G 2 M_Bk_tells [.ref b, .int (nI k), .ref q] n u μ n u (zE (some (.int (nI (tlN β its k f (β 0 0) 0)))) μ) := by
  refine z_start (lv := [.ref b, .int (nI k), .ref q, .retAddr 0]) K_Bk_tells rfl rfl (Nat.le_refl _) (Nat.le_refl _) (Nat.le_of_ble_eq_true rfl) rfl ?_
  refine z_iconst (v := nI 0) (by decide) (pc' := 1) 0 rfl rfl ?_
  refine z_is3 rfl rfl (pc' := 2) 1 rfl rfl ?_
  exact l_Bk_tells hb hq hf hk hw (β 0 0) 0 (by omega)
end
section
/-! ===== a course (at a): month mo, courted set cs, promised pr, faith fa, facts q ===== -/
def pcr (ν : Nat → va_E) (a mo cs : Nat) (pr fa q : Nat → Nat) : Nat → va_E := zu (zu (zu (zu ν a (.inr (4, [.int (nI mo), .ref (a + 1), .ref (a + 2), .int (nI cs), .ref (a + 3)]))) (a + 1) (.inl (0, 6, .inl (fun j => nI (pr j))))) (a + 2) (.inl (0, 6, .inl (fun j => nI (fa j))))) (a + 3) (.inl (0, 5, .inl (fun j => nI (q j))))
section PCR
variable {ν : Nat → va_E} {a mo cs : Nat} {pr fa q : Nat → Nat}
theorem pcr_0 : pcr ν a mo cs pr fa q a = .inr (4, [.int (nI mo), .ref (a + 1), .ref (a + 2), .int (nI cs), .ref (a + 3)]) := by
  unfold pcr
  rw [zu_n (by omega), zu_n (by omega), zu_n (by omega), zu_s]
theorem pcr_1 : pcr ν a mo cs pr fa q (a + 1) = .inl (0, 6, .inl (fun j => nI (pr j))) := by
  unfold pcr
  rw [zu_n (by omega), zu_n (by omega), zu_s]
theorem pcr_2 : pcr ν a mo cs pr fa q (a + 2) = .inl (0, 6, .inl (fun j => nI (fa j))) := by
  unfold pcr
  rw [zu_n (by omega), zu_s]
theorem pcr_3 : pcr ν a mo cs pr fa q (a + 3) = .inl (0, 5, .inl (fun j => nI (q j))) := by
  unfold pcr
  rw [zu_s]
theorem pcr_o {b : Nat} (h : b < a ∨ a + 3 < b) : pcr ν a mo cs pr fa q b = ν b := by
  unfold pcr
  rw [zu_n (by omega), zu_n (by omega), zu_n (by omega), zu_n (by omega)]
theorem pcr_s0 {m c : Nat} : zu (pcr ν a mo cs pr fa q) a (.inr (4, [.int (nI m), .ref (a + 1), .ref (a + 2), .int (nI c), .ref (a + 3)])) = pcr ν a m c pr fa q := by
  unfold pcr
  rw [zu_sw (a := a + 3) (b := a) (by omega), zu_sw (a := a + 2) (b := a) (by omega), zu_sw (a := a + 1) (b := a) (by omega), zu_zu]
theorem pcr_s1 {p : Nat → Nat} : zu (pcr ν a mo cs pr fa q) (a + 1) (.inl (0, 6, .inl (fun j => nI (p j)))) = pcr ν a mo cs p fa q := by
  unfold pcr
  rw [zu_sw (a := a + 3) (b := a + 1) (by omega), zu_sw (a := a + 2) (b := a + 1) (by omega), zu_zu]
theorem pcr_s2 {p : Nat → Nat} : zu (pcr ν a mo cs pr fa q) (a + 2) (.inl (0, 6, .inl (fun j => nI (p j)))) = pcr ν a mo cs pr p q := by
  unfold pcr
  rw [zu_sw (a := a + 3) (b := a + 2) (by omega), zu_zu]
theorem pcr_s3 {p : Nat → Nat} : zu (pcr ν a mo cs pr fa q) (a + 3) (.inl (0, 5, .inl (fun j => nI (p j)))) = pcr ν a mo cs pr fa p := by
  unfold pcr
  rw [zu_zu]
theorem isCo_pcr {S : Nat → Nat → Nat} {sc ch : Int32} (h : isCo ν S sc ch) (ha : a = 13 ∨ 43 ≤ a) : isCo (pcr ν a mo cs pr fa q) S sc ch := by
  obtain ⟨m5, m6, m7, m8, m9, m10, m11, m12, m22⟩ := h
  refine ⟨?_, ?_, ?_, ?_, ?_, ?_, ?_, ?_, ?_⟩ <;> rw [pcr_o (by omega)] <;> assumption
theorem isBk_pcr {b : Nat} {β : Nat → Nat → Nat} (h : isBk ν b β) (ha : b + 4 < a ∨ a + 3 < b) : isBk (pcr ν a mo cs pr fa q) b β := by
  obtain ⟨m0, m1, m2, m3, m4⟩ := h
  refine ⟨?_, ?_, ?_, ?_, ?_⟩ <;> rw [pcr_o (by omega)] <;> assumption
end PCR
/-! ===== what a month does ===== -/
/-- the rules tell what D says: of a kind, in a month, of her faith, dowry, house, number -/
def fcs (mo f dw h g : Nat) (q : Nat → Nat) : Nat → Nat := un (un (un (un (un q 0 mo) 1 f) 2 dw) 3 h) 4 g
def dzB (β : Nat → Nat → Nat) (its : Nat → zI) (D : Nat → Nat → Nat → Nat → Nat → Nat → Nat) : Prop := wfB β its ∧ ∀ k mo f dw h g q, tlN β its k (fcs mo f dw h g q) (β 0 0) 0 = D k mo f dw h g
def npr (pr : Nat → Nat) (w : Nat) : Nat → Bool
  | 0 => true
  | k + 1 => npr pr w k && (pr k != w)
def wbN (pr : Nat → Nat) : Nat → Nat
  | 0 => 0
  | k + 1 => wbN pr k ||| 2 ^ pr k
def fwN (S : Nat → Nat → Nat) (t g : Nat) (pr : Nat → Nat) : Nat → Nat
  | 0 => 6
  | k + 1 => if blB S k t = true ∧ npr pr k (S 0 0) = true ∧ (fwN S t g pr k = 6 ∨ gS S g (fwN S t g pr k) t < gS S g k t) then k else fwN S t g pr k
def fw (S : Nat → Nat → Nat) (t g : Nat) (pr : Nat → Nat) : Nat := fwN S t g pr (S 0 1)
def cal (S : Nat → Nat → Nat) (t g dz : Nat) (pr fa : Nat → Nat) : (Nat → Nat) × (Nat → Nat) :=
  if dz = 2 then (un pr g 6, un fa g (S 3 g)) else if dz = 1 then (if fw S t g pr = 6 then (pr, fa) else (un pr g (fw S t g pr), un fa g (S 3 g))) else (pr, fa)
theorem wbN_bit (pr : Nat → Nat) (w : Nat) : ∀ k, (wbN pr k / 2 ^ w % 2 = 0 ↔ npr pr w k = true)
  | 0 => by simp [wbN, npr]
  | k + 1 => by
    have ih := wbN_bit pr w k
    have e1 : ∀ x, (x / 2 ^ w % 2 = 0 ↔ Nat.testBit x w = false) := fun x => by rw [Nat.testBit_eq_decide_div_mod_eq]; simp
    rw [e1] at ih ⊢
    simp only [wbN, npr, Nat.testBit_or, Nat.testBit_two_pow, Bool.or_eq_false_iff, Bool.and_eq_true, ih, bne_iff_ne, ne_eq, decide_eq_false_iff_not]
theorem wbN_lt (pr : Nat → Nat) (h : ∀ j, pr j ≤ 6) : ∀ k, wbN pr k < 128
  | 0 => Nat.le_of_ble_eq_true rfl
  | k + 1 => by
    have h1 : 2 ^ pr k < 2 ^ 7 := Nat.pow_lt_pow_right (by decide) (by have := h k; omega)
    exact Nat.or_lt_two_pow (n := 7) (wbN_lt pr h k) h1
theorem fwN_le (S : Nat → Nat → Nat) (t g : Nat) (pr : Nat → Nat) : ∀ k, k ≤ 6 → fwN S t g pr k = 6 ∨ fwN S t g pr k < k
  | 0, _ => Or.inl rfl
  | k + 1, h => by
    have ih := fwN_le S t g pr k (by omega)
    unfold fwN
    split
    · exact Or.inr (by omega)
    · rcases ih with e | e
      · exact Or.inl e
      · exact Or.inr (by omega)
set_option maxHeartbeats 4000000 in
set_option maxRecDepth 100000 in
theorem c_Cr_promiseTo {G : zG} {n u : Nat} {ν : Nat → va_E} {S : Nat → Nat → Nat} {sc ch : Int32} (hco : isCo ν S sc ch) (hi : iS S) {a mo cs : Nat} {pr fa q : Nat → Nat} (ha : a = 13 ∨ 43 ≤ a) {g w : Nat} (hg : g < 6) :
    zMet G 0 M_Cr_promiseTo [.ref a, .ref 5, .int (nI g), .int (nI w)] n u (pcr ν a mo cs pr fa q) n u (zE none (pcr ν a mo cs (un pr g w) (un fa g (S 3 g)) q)) := by
  refine z_start (lv := [.ref a, .ref 5, .int (nI g), .int (nI w)]) K_Cr_promiseTo rfl rfl (Nat.le_refl _) (Nat.le_refl _) (Nat.le_of_ble_eq_true rfl) rfl ?_
  obtain ⟨m5, m6, m7, m8, m9, m10, m11, m12, m22⟩ := hco
  refine z_al0 (pc' := 1) 0 rfl rfl ?_
  refine z_getf (pc' := 4) 1 rfl rfl f_Cr_9_4 (by first | exact pcr_0 | exact pcr_1 | exact pcr_2 | exact pcr_3 | (rw [pcr_o (by omega)]; assumption)) (by rfl) ?_
  refine z_il2 (pc' := 5) 2 rfl rfl ?_
  refine z_il3 (pc' := 6) 3 rfl rfl ?_
  refine z_iast (pc' := 7) 4 rfl rfl (by first | exact pcr_0 | exact pcr_1 | exact pcr_2 | exact pcr_3 | (rw [pcr_o (by omega)]; assumption)) (by omega) (by decide) ?_
  rw [upd_n, pcr_s1]
  refine z_al0 (pc' := 8) 5 rfl rfl ?_
  refine z_getf (pc' := 11) 6 rfl rfl f_Cr_15_4 (by first | exact pcr_0 | exact pcr_1 | exact pcr_2 | exact pcr_3 | (rw [pcr_o (by omega)]; assumption)) (by rfl) ?_
  refine z_il2 (pc' := 12) 7 rfl rfl ?_
  refine z_al1 (pc' := 13) 8 rfl rfl ?_
  refine z_getr (pc' := 16) 9 rfl rfl f_Cr_36_3 (by first | exact pcr_0 | exact pcr_1 | exact pcr_2 | exact pcr_3 | (rw [pcr_o (by omega)]; assumption)) (by rfl) ?_
  refine z_il2 (pc' := 17) 10 rfl rfl ?_
  refine z_iald (pc' := 18) 11 rfl rfl (by first | exact pcr_0 | exact pcr_1 | exact pcr_2 | exact pcr_3 | (rw [pcr_o (by omega)]; assumption)) (by omega) (by decide) ?_
  refine z_iast (pc' := 19) 12 rfl rfl (by first | exact pcr_0 | exact pcr_1 | exact pcr_2 | exact pcr_3 | (rw [pcr_o (by omega)]; assumption)) (by omega) (by decide) ?_
  rw [upd_n, pcr_s2]
  exact z_return 13 rfl rfl rfl rfl (by exact ⟨rfl, rfl⟩)
def psN (pr : Nat → Nat) : Nat → Nat
  | 0 => 0
  | k + 1 => if pr k = 6 then psN pr k else psN pr k ||| 2 ^ k
def brN (pr : Nat → Nat) (w : Nat) : Nat → Nat
  | 0 => 0
  | k + 1 => if pr k = w then brN pr w k ||| 2 ^ k else brN pr w k
theorem psN_lt (pr : Nat → Nat) : ∀ k, k ≤ 6 → psN pr k < 2 ^ 6
  | 0, _ => Nat.le_of_ble_eq_true rfl
  | k + 1, h => by
    unfold psN
    have ih := psN_lt pr k (by omega)
    split
    · exact ih
    · exact Nat.or_lt_two_pow ih (Nat.pow_lt_pow_right (by decide) (by omega))
theorem brN_lt (pr : Nat → Nat) (w : Nat) : ∀ k, k ≤ 6 → brN pr w k < 2 ^ 6
  | 0, _ => Nat.le_of_ble_eq_true rfl
  | k + 1, h => by
    unfold brN
    have ih := brN_lt pr w k (by omega)
    split
    · exact Nat.or_lt_two_pow ih (Nat.pow_lt_pow_right (by decide) (by omega))
    · exact ih
set_option maxHeartbeats 4000000 in
set_option maxRecDepth 100000 in
theorem l_Cr_promisedSet {G : zG} {n u : Nat} {ν : Nat → va_E} {S : Nat → Nat → Nat} {sc ch : Int32} (hco : isCo ν S sc ch) (hi : iS S) {a mo cs : Nat} {pr fa q : Nat → Nat} (ha : a = 13 ∨ 43 ≤ a) (hp : ∀ j, pr j ≤ 6) : ∀ j k, k + j = S 0 0 →
    zW G 0 M_Cr_promisedSet 4 [.ref a, .ref 5, .int (nI (psN pr k)), .int (nI k)] [] n u (pcr ν a mo cs pr fa q) n u (zE (some (.int (nI (psN pr (S 0 0))))) (pcr ν a mo cs pr fa q))
  | 0, k, e => by
    have hi0 := hi.1
    have hco0 := hco
    obtain ⟨m5, m6, m7, m8, m9, m10, m11, m12, m22⟩ := hco
    have hpk := hp k
    obtain rfl : k = S 0 0 := by omega
    refine z_il3 (pc' := 5) 4 rfl rfl ?_
    refine z_al1 (pc' := 6) 5 rfl rfl ?_
    refine z_getf (pc' := 9) 6 rfl rfl f_Cr_41_3 (by first | exact pcr_0 | exact pcr_1 | exact pcr_2 | exact pcr_3 | (rw [pcr_o (by omega)]; assumption)) (by rfl) ?_
    first | refine z_icmp_geN (pc' := 12) 7 rfl rfl (tgt := 39) rfl (by omega) (by omega) (fun h9 => ?_) (fun h9 => ?_) | refine z_icmp_ge (pc' := 12) 7 rfl rfl (tgt := 39) rfl (fun h9 => ?_) (fun h9 => ?_)
    · refine z_il2 (pc' := 40) 24 rfl rfl ?_
      exact z_ireturn 25 rfl rfl (by first | rfl | exact zbo_nar) rfl rfl (by exact ⟨rfl, rfl⟩)
    · exfalso; omega
  | j + 1, k, e => by
    have hi0 := hi.1
    have hco0 := hco
    obtain ⟨m5, m6, m7, m8, m9, m10, m11, m12, m22⟩ := hco
    have hpk := hp k
    refine z_il3 (pc' := 5) 4 rfl rfl ?_
    refine z_al1 (pc' := 6) 5 rfl rfl ?_
    refine z_getf (pc' := 9) 6 rfl rfl f_Cr_41_3 (by first | exact pcr_0 | exact pcr_1 | exact pcr_2 | exact pcr_3 | (rw [pcr_o (by omega)]; assumption)) (by rfl) ?_
    first | refine z_icmp_geN (pc' := 12) 7 rfl rfl (tgt := 39) rfl (by omega) (by omega) (fun h9 => ?_) (fun h9 => ?_) | refine z_icmp_ge (pc' := 12) 7 rfl rfl (tgt := 39) rfl (fun h9 => ?_) (fun h9 => ?_)
    · exfalso; omega
    · refine z_il2 (pc' := 13) 8 rfl rfl ?_
      refine z_al0 (pc' := 14) 9 rfl rfl ?_
      refine z_getf (pc' := 17) 10 rfl rfl f_Cr_9_4 (by first | exact pcr_0 | exact pcr_1 | exact pcr_2 | exact pcr_3 | (rw [pcr_o (by omega)]; assumption)) (by rfl) ?_
      refine z_il3 (pc' := 18) 11 rfl rfl ?_
      refine z_iald (pc' := 19) 12 rfl rfl (by first | exact pcr_0 | exact pcr_1 | exact pcr_2 | exact pcr_3 | (rw [pcr_o (by omega)]; assumption)) (by omega) (by decide) ?_
      refine z_bipush (v := nI 6) (by decide) (pc' := 21) 13 rfl rfl ?_
      first | refine z_icmp_neN (pc' := 24) 14 rfl rfl (tgt := 28) rfl (by omega) (by omega) (fun h21 => ?_) (fun h21 => ?_) | refine z_icmp_ne (pc' := 24) 14 rfl rfl (tgt := 28) rfl (fun h21 => ?_) (fun h21 => ?_)
      · refine z_iconst (v := nI 1) (by decide) (pc' := 29) 17 rfl rfl ?_
        refine z_il3 (pc' := 30) 18 rfl rfl ?_
        refine z_ishl (pc' := 31) 19 rfl rfl ?_
        rw [nb_shl1 (by omega)]
        refine z_ior (pc' := 32) 20 rfl rfl ?_
        rw [nb_or]
        first | rw [show psN pr k ||| 0 = psN pr (k + 1) from by rw [psN, if_pos (by omega), Nat.or_zero]] | rw [show psN pr k ||| 2 ^ k = psN pr (k + 1) from by rw [psN, if_neg (by omega)]]
        refine z_is2 rfl rfl (pc' := 33) 21 rfl rfl ?_
        first | refine z_inc3N rfl rfl (pc' := 36) 22 rfl rfl ?_ | refine z_inc3 rfl rfl rfl (pc' := 36) 22 rfl rfl ?_
        refine z_goto 23 rfl (tgt := 4) rfl ?_
        exact l_Cr_promisedSet hco0 hi ha hp j (k + 1) (by omega)
      · refine z_iconst (v := nI 0) (by decide) (pc' := 25) 15 rfl rfl ?_
        refine z_goto 16 rfl (tgt := 31) rfl ?_
        refine z_ior (pc' := 32) 20 rfl rfl ?_
        rw [nb_or]
        first | rw [show psN pr k ||| 0 = psN pr (k + 1) from by rw [psN, if_pos (by omega), Nat.or_zero]] | rw [show psN pr k ||| 2 ^ k = psN pr (k + 1) from by rw [psN, if_neg (by omega)]]
        refine z_is2 rfl rfl (pc' := 33) 21 rfl rfl ?_
        first | refine z_inc3N rfl rfl (pc' := 36) 22 rfl rfl ?_ | refine z_inc3 rfl rfl rfl (pc' := 36) 22 rfl rfl ?_
        refine z_goto 23 rfl (tgt := 4) rfl ?_
        exact l_Cr_promisedSet hco0 hi ha hp j (k + 1) (by omega)
set_option maxHeartbeats 4000000 in
set_option maxRecDepth 100000 in
theorem c_Cr_promisedSet {G : zG} {n u : Nat} {ν : Nat → va_E} {S : Nat → Nat → Nat} {sc ch : Int32} (hco : isCo ν S sc ch) (hi : iS S) {a mo cs : Nat} {pr fa q : Nat → Nat} (ha : a = 13 ∨ 43 ≤ a) (hp : ∀ j, pr j ≤ 6) :
    zMet G 0 M_Cr_promisedSet [.ref a, .ref 5] n u (pcr ν a mo cs pr fa q) n u (zE (some (.int (nI (psN pr (S 0 0))))) (pcr ν a mo cs pr fa q)) := by
  refine z_start (lv := [.ref a, .ref 5, .retAddr 0, .retAddr 0]) K_Cr_promisedSet rfl rfl (Nat.le_refl _) (Nat.le_refl _) (Nat.le_of_ble_eq_true rfl) rfl ?_
  refine z_iconst (v := nI 0) (by decide) (pc' := 1) 0 rfl rfl ?_
  refine z_is2 rfl rfl (pc' := 2) 1 rfl rfl ?_
  refine z_iconst (v := nI 0) (by decide) (pc' := 3) 2 rfl rfl ?_
  refine z_is3 rfl rfl (pc' := 4) 3 rfl rfl ?_
  exact l_Cr_promisedSet hco hi ha hp (S 0 0) 0 (by omega)
set_option maxHeartbeats 4000000 in
set_option maxRecDepth 100000 in
theorem l_Cr_bridesOf {G : zG} {n u : Nat} {ν : Nat → va_E} {S : Nat → Nat → Nat} {sc ch : Int32} (hco : isCo ν S sc ch) (hi : iS S) {a mo cs : Nat} {pr fa q : Nat → Nat} (ha : a = 13 ∨ 43 ≤ a) {w : Nat} (hw : w ≤ 6) (hp : ∀ j, pr j ≤ 6) : ∀ j k, k + j = S 0 0 →
    zW G 0 M_Cr_bridesOf 5 [.ref a, .ref 5, .int (nI w), .int (nI (brN pr w k)), .int (nI k)] [] n u (pcr ν a mo cs pr fa q) n u (zE (some (.int (nI (brN pr w (S 0 0))))) (pcr ν a mo cs pr fa q))
  | 0, k, e => by
    have hi0 := hi.1
    have hco0 := hco
    obtain ⟨m5, m6, m7, m8, m9, m10, m11, m12, m22⟩ := hco
    have hpk := hp k
    obtain rfl : k = S 0 0 := by omega
    refine z_il4 (pc' := 7) 4 rfl rfl ?_
    refine z_al1 (pc' := 8) 5 rfl rfl ?_
    refine z_getf (pc' := 11) 6 rfl rfl f_Cr_41_3 (by first | exact pcr_0 | exact pcr_1 | exact pcr_2 | exact pcr_3 | (rw [pcr_o (by omega)]; assumption)) (by rfl) ?_
    first | refine z_icmp_geN (pc' := 14) 7 rfl rfl (tgt := 42) rfl (by omega) (by omega) (fun h11 => ?_) (fun h11 => ?_) | refine z_icmp_ge (pc' := 14) 7 rfl rfl (tgt := 42) rfl (fun h11 => ?_) (fun h11 => ?_)
    · refine z_il3 (pc' := 43) 24 rfl rfl ?_
      exact z_ireturn 25 rfl rfl (by first | rfl | exact zbo_nar) rfl rfl (by exact ⟨rfl, rfl⟩)
    · exfalso; omega
  | j + 1, k, e => by
    have hi0 := hi.1
    have hco0 := hco
    obtain ⟨m5, m6, m7, m8, m9, m10, m11, m12, m22⟩ := hco
    have hpk := hp k
    refine z_il4 (pc' := 7) 4 rfl rfl ?_
    refine z_al1 (pc' := 8) 5 rfl rfl ?_
    refine z_getf (pc' := 11) 6 rfl rfl f_Cr_41_3 (by first | exact pcr_0 | exact pcr_1 | exact pcr_2 | exact pcr_3 | (rw [pcr_o (by omega)]; assumption)) (by rfl) ?_
    first | refine z_icmp_geN (pc' := 14) 7 rfl rfl (tgt := 42) rfl (by omega) (by omega) (fun h11 => ?_) (fun h11 => ?_) | refine z_icmp_ge (pc' := 14) 7 rfl rfl (tgt := 42) rfl (fun h11 => ?_) (fun h11 => ?_)
    · exfalso; omega
    · refine z_il3 (pc' := 15) 8 rfl rfl ?_
      refine z_al0 (pc' := 16) 9 rfl rfl ?_
      refine z_getf (pc' := 19) 10 rfl rfl f_Cr_9_4 (by first | exact pcr_0 | exact pcr_1 | exact pcr_2 | exact pcr_3 | (rw [pcr_o (by omega)]; assumption)) (by rfl) ?_
      refine z_il4 (pc' := 21) 11 rfl rfl ?_
      refine z_iald (pc' := 22) 12 rfl rfl (by first | exact pcr_0 | exact pcr_1 | exact pcr_2 | exact pcr_3 | (rw [pcr_o (by omega)]; assumption)) (by omega) (by decide) ?_
      refine z_il2 (pc' := 23) 13 rfl rfl ?_
      first | refine z_icmp_neN (pc' := 26) 14 rfl rfl (tgt := 33) rfl (by omega) (by omega) (fun h23 => ?_) (fun h23 => ?_) | refine z_icmp_ne (pc' := 26) 14 rfl rfl (tgt := 33) rfl (fun h23 => ?_) (fun h23 => ?_)
      · refine z_iconst (v := nI 0) (by decide) (pc' := 34) 19 rfl rfl ?_
        refine z_ior (pc' := 35) 20 rfl rfl ?_
        rw [nb_or]
        first | rw [show brN pr w k ||| 0 = brN pr w (k + 1) from by rw [brN, if_neg (by omega), Nat.or_zero]] | rw [show brN pr w k ||| 2 ^ k = brN pr w (k + 1) from by rw [brN, if_pos (by omega)]]
        refine z_is3 rfl rfl (pc' := 36) 21 rfl rfl ?_
        first | refine z_inc4N rfl rfl (pc' := 39) 22 rfl rfl ?_ | refine z_inc4 rfl rfl rfl (pc' := 39) 22 rfl rfl ?_
        refine z_goto 23 rfl (tgt := 5) rfl ?_
        exact l_Cr_bridesOf hco0 hi ha hw hp j (k + 1) (by omega)
      · refine z_iconst (v := nI 1) (by decide) (pc' := 27) 15 rfl rfl ?_
        refine z_il4 (pc' := 29) 16 rfl rfl ?_
        refine z_ishl (pc' := 30) 17 rfl rfl ?_
        rw [nb_shl1 (by omega)]
        refine z_goto 18 rfl (tgt := 34) rfl ?_
        refine z_ior (pc' := 35) 20 rfl rfl ?_
        rw [nb_or]
        first | rw [show brN pr w k ||| 0 = brN pr w (k + 1) from by rw [brN, if_neg (by omega), Nat.or_zero]] | rw [show brN pr w k ||| 2 ^ k = brN pr w (k + 1) from by rw [brN, if_pos (by omega)]]
        refine z_is3 rfl rfl (pc' := 36) 21 rfl rfl ?_
        first | refine z_inc4N rfl rfl (pc' := 39) 22 rfl rfl ?_ | refine z_inc4 rfl rfl rfl (pc' := 39) 22 rfl rfl ?_
        refine z_goto 23 rfl (tgt := 5) rfl ?_
        exact l_Cr_bridesOf hco0 hi ha hw hp j (k + 1) (by omega)
set_option maxHeartbeats 4000000 in
set_option maxRecDepth 100000 in
theorem c_Cr_bridesOf {G : zG} {n u : Nat} {ν : Nat → va_E} {S : Nat → Nat → Nat} {sc ch : Int32} (hco : isCo ν S sc ch) (hi : iS S) {a mo cs : Nat} {pr fa q : Nat → Nat} (ha : a = 13 ∨ 43 ≤ a) {w : Nat} (hw : w ≤ 6) (hp : ∀ j, pr j ≤ 6) :
    zMet G 0 M_Cr_bridesOf [.ref a, .ref 5, .int (nI w)] n u (pcr ν a mo cs pr fa q) n u (zE (some (.int (nI (brN pr w (S 0 0))))) (pcr ν a mo cs pr fa q)) := by
  refine z_start (lv := [.ref a, .ref 5, .int (nI w), .retAddr 0, .retAddr 0]) K_Cr_bridesOf rfl rfl (Nat.le_refl _) (Nat.le_refl _) (Nat.le_of_ble_eq_true rfl) rfl ?_
  refine z_iconst (v := nI 0) (by decide) (pc' := 1) 0 rfl rfl ?_
  refine z_is3 rfl rfl (pc' := 2) 1 rfl rfl ?_
  refine z_iconst (v := nI 0) (by decide) (pc' := 3) 2 rfl rfl ?_
  refine z_is4 rfl rfl (pc' := 5) 3 rfl rfl ?_
  exact l_Cr_bridesOf hco hi ha hw hp (S 0 0) 0 (by omega)
set_option maxHeartbeats 4000000 in
set_option maxRecDepth 100000 in
theorem l_Cr_windsWithBrides {G : zG} {n u : Nat} {ν : Nat → va_E} {S : Nat → Nat → Nat} {sc ch : Int32} (hco : isCo ν S sc ch) (hi : iS S) {a mo cs : Nat} {pr fa q : Nat → Nat} (ha : a = 13 ∨ 43 ≤ a) (hp : ∀ j, pr j ≤ 6) : ∀ j k, k + j = S 0 0 →
    zW G 0 M_Cr_windsWithBrides 4 [.ref a, .ref 5, .int (nI (wbN pr k)), .int (nI k)] [] n u (pcr ν a mo cs pr fa q) n u (zE (some (.int (nI (wbN pr (S 0 0))))) (pcr ν a mo cs pr fa q))
  | 0, k, e => by
    have hi0 := hi.1
    have hco0 := hco
    obtain ⟨m5, m6, m7, m8, m9, m10, m11, m12, m22⟩ := hco
    have hpk := hp k
    obtain rfl : k = S 0 0 := by omega
    refine z_il3 (pc' := 5) 4 rfl rfl ?_
    refine z_al1 (pc' := 6) 5 rfl rfl ?_
    refine z_getf (pc' := 9) 6 rfl rfl f_Cr_41_3 (by first | exact pcr_0 | exact pcr_1 | exact pcr_2 | exact pcr_3 | (rw [pcr_o (by omega)]; assumption)) (by rfl) ?_
    first | refine z_icmp_geN (pc' := 12) 7 rfl rfl (tgt := 29) rfl (by omega) (by omega) (fun h9 => ?_) (fun h9 => ?_) | refine z_icmp_ge (pc' := 12) 7 rfl rfl (tgt := 29) rfl (fun h9 => ?_) (fun h9 => ?_)
    · refine z_il2 (pc' := 30) 19 rfl rfl ?_
      exact z_ireturn 20 rfl rfl (by first | rfl | exact zbo_nar) rfl rfl (by exact ⟨rfl, rfl⟩)
    · exfalso; omega
  | j + 1, k, e => by
    have hi0 := hi.1
    have hco0 := hco
    obtain ⟨m5, m6, m7, m8, m9, m10, m11, m12, m22⟩ := hco
    have hpk := hp k
    refine z_il3 (pc' := 5) 4 rfl rfl ?_
    refine z_al1 (pc' := 6) 5 rfl rfl ?_
    refine z_getf (pc' := 9) 6 rfl rfl f_Cr_41_3 (by first | exact pcr_0 | exact pcr_1 | exact pcr_2 | exact pcr_3 | (rw [pcr_o (by omega)]; assumption)) (by rfl) ?_
    first | refine z_icmp_geN (pc' := 12) 7 rfl rfl (tgt := 29) rfl (by omega) (by omega) (fun h9 => ?_) (fun h9 => ?_) | refine z_icmp_ge (pc' := 12) 7 rfl rfl (tgt := 29) rfl (fun h9 => ?_) (fun h9 => ?_)
    · exfalso; omega
    · refine z_il2 (pc' := 13) 8 rfl rfl ?_
      refine z_iconst (v := nI 1) (by decide) (pc' := 14) 9 rfl rfl ?_
      refine z_al0 (pc' := 15) 10 rfl rfl ?_
      refine z_getf (pc' := 18) 11 rfl rfl f_Cr_9_4 (by first | exact pcr_0 | exact pcr_1 | exact pcr_2 | exact pcr_3 | (rw [pcr_o (by omega)]; assumption)) (by rfl) ?_
      refine z_il3 (pc' := 19) 12 rfl rfl ?_
      refine z_iald (pc' := 20) 13 rfl rfl (by first | exact pcr_0 | exact pcr_1 | exact pcr_2 | exact pcr_3 | (rw [pcr_o (by omega)]; assumption)) (by omega) (by decide) ?_
      refine z_ishl (pc' := 21) 14 rfl rfl ?_
      rw [nb_shl1 (by omega)]
      refine z_ior (pc' := 22) 15 rfl rfl ?_
      rw [nb_or, show wbN pr k ||| 2 ^ pr k = wbN pr (k + 1) from rfl]
      refine z_is2 rfl rfl (pc' := 23) 16 rfl rfl ?_
      first | refine z_inc3N rfl rfl (pc' := 26) 17 rfl rfl ?_ | refine z_inc3 rfl rfl rfl (pc' := 26) 17 rfl rfl ?_
      refine z_goto 18 rfl (tgt := 4) rfl ?_
      exact l_Cr_windsWithBrides hco0 hi ha hp j (k + 1) (by omega)
set_option maxHeartbeats 4000000 in
set_option maxRecDepth 100000 in
theorem c_Cr_windsWithBrides {G : zG} {n u : Nat} {ν : Nat → va_E} {S : Nat → Nat → Nat} {sc ch : Int32} (hco : isCo ν S sc ch) (hi : iS S) {a mo cs : Nat} {pr fa q : Nat → Nat} (ha : a = 13 ∨ 43 ≤ a) (hp : ∀ j, pr j ≤ 6) :
    zMet G 0 M_Cr_windsWithBrides [.ref a, .ref 5] n u (pcr ν a mo cs pr fa q) n u (zE (some (.int (nI (wbN pr (S 0 0))))) (pcr ν a mo cs pr fa q)) := by
  refine z_start (lv := [.ref a, .ref 5, .retAddr 0, .retAddr 0]) K_Cr_windsWithBrides rfl rfl (Nat.le_refl _) (Nat.le_refl _) (Nat.le_of_ble_eq_true rfl) rfl ?_
  refine z_iconst (v := nI 0) (by decide) (pc' := 1) 0 rfl rfl ?_
  refine z_is2 rfl rfl (pc' := 2) 1 rfl rfl ?_
  refine z_iconst (v := nI 0) (by decide) (pc' := 3) 2 rfl rfl ?_
  refine z_is3 rfl rfl (pc' := 4) 3 rfl rfl ?_
  exact l_Cr_windsWithBrides hco hi ha hp (S 0 0) 0 (by omega)
set_option maxHeartbeats 4000000 in
set_option maxRecDepth 100000 in
theorem c_Cr_doesInCalm {G : zG} {n u : Nat} {ν : Nat → va_E} {S : Nat → Nat → Nat} {sc ch : Int32} (hco : isCo ν S sc ch) (hi : iS S) {a mo cs : Nat} {pr fa q : Nat → Nat} (ha : a = 13 ∨ 43 ≤ a) {β : Nat → Nat → Nat} {its : Nat → zI} {D : Nat → Nat → Nat → Nat → Nat → Nat → Nat} (hbk : isBk ν 17 β) (hD : dzB β its D) {g : Nat} (hg : g < 6) (hm : mo ≤ 16) (hf : ∀ j, fa j ≤ 9) :
    zMet G 3 M_Cr_doesInCalm [.ref a, .ref 5, .int (nI g)] n u (pcr ν a mo cs pr fa q) n u (zE (some (.int (nI (D (S 1 g) mo (fa g) (S 3 g) (S 2 g) g)))) (pcr ν a mo cs pr fa (fcs mo (fa g) (S 3 g) (S 2 g) g q))) := by
  refine z_start (lv := [.ref a, .ref 5, .int (nI g)]) K_Cr_doesInCalm rfl rfl (Nat.le_refl _) (Nat.le_refl _) (Nat.le_of_ble_eq_true rfl) rfl ?_
  have hbp := hbk.1
  obtain ⟨m5, m6, m7, m8, m9, m10, m11, m12, m22⟩ := hco
  have hs9 := hi.2.2.2.2.2 g
  have hf9 := hf g
  have hqq : ∀ j, j < 5 → fcs mo (fa g) (S 3 g) (S 2 g) g q j < 2 ^ 31 := by
    intro j hj
    unfold fcs un
    repeat' split
    all_goals omega
  refine z_al0 (pc' := 1) 0 rfl rfl ?_
  refine z_getf (pc' := 4) 1 rfl rfl f_Cr_20_4 (by first | exact pcr_0 | exact pcr_1 | exact pcr_2 | exact pcr_3 | (rw [pcr_o (by omega)]; assumption)) (by rfl) ?_
  refine z_iconst (v := nI 0) (by decide) (pc' := 5) 2 rfl rfl ?_
  refine z_al0 (pc' := 6) 3 rfl rfl ?_
  refine z_getf (pc' := 9) 4 rfl rfl f_Cr_23_4 (by first | exact pcr_0 | exact pcr_1 | exact pcr_2 | exact pcr_3 | (rw [pcr_o (by omega)]; assumption)) (by rfl) ?_
  refine z_iast (pc' := 10) 5 rfl rfl (by first | exact pcr_0 | exact pcr_1 | exact pcr_2 | exact pcr_3 | (rw [pcr_o (by omega)]; assumption)) (by omega) (by decide) ?_
  rw [upd_n, pcr_s3]
  refine z_al0 (pc' := 11) 6 rfl rfl ?_
  refine z_getf (pc' := 14) 7 rfl rfl f_Cr_20_4 (by first | exact pcr_0 | exact pcr_1 | exact pcr_2 | exact pcr_3 | (rw [pcr_o (by omega)]; assumption)) (by rfl) ?_
  refine z_iconst (v := nI 1) (by decide) (pc' := 15) 8 rfl rfl ?_
  refine z_al0 (pc' := 16) 9 rfl rfl ?_
  refine z_getf (pc' := 19) 10 rfl rfl f_Cr_15_4 (by first | exact pcr_0 | exact pcr_1 | exact pcr_2 | exact pcr_3 | (rw [pcr_o (by omega)]; assumption)) (by rfl) ?_
  refine z_il2 (pc' := 20) 11 rfl rfl ?_
  refine z_iald (pc' := 21) 12 rfl rfl (by first | exact pcr_0 | exact pcr_1 | exact pcr_2 | exact pcr_3 | (rw [pcr_o (by omega)]; assumption)) (by omega) (by decide) ?_
  refine z_iast (pc' := 22) 13 rfl rfl (by first | exact pcr_0 | exact pcr_1 | exact pcr_2 | exact pcr_3 | (rw [pcr_o (by omega)]; assumption)) (by omega) (by decide) ?_
  rw [upd_n, pcr_s3]
  refine z_al0 (pc' := 23) 14 rfl rfl ?_
  refine z_getf (pc' := 26) 15 rfl rfl f_Cr_20_4 (by first | exact pcr_0 | exact pcr_1 | exact pcr_2 | exact pcr_3 | (rw [pcr_o (by omega)]; assumption)) (by rfl) ?_
  refine z_iconst (v := nI 2) (by decide) (pc' := 27) 16 rfl rfl ?_
  refine z_al1 (pc' := 28) 17 rfl rfl ?_
  refine z_getr (pc' := 31) 18 rfl rfl f_Cr_36_3 (by first | exact pcr_0 | exact pcr_1 | exact pcr_2 | exact pcr_3 | (rw [pcr_o (by omega)]; assumption)) (by rfl) ?_
  refine z_il2 (pc' := 32) 19 rfl rfl ?_
  refine z_iald (pc' := 33) 20 rfl rfl (by first | exact pcr_0 | exact pcr_1 | exact pcr_2 | exact pcr_3 | (rw [pcr_o (by omega)]; assumption)) (by omega) (by decide) ?_
  refine z_iast (pc' := 34) 21 rfl rfl (by first | exact pcr_0 | exact pcr_1 | exact pcr_2 | exact pcr_3 | (rw [pcr_o (by omega)]; assumption)) (by omega) (by decide) ?_
  rw [upd_n, pcr_s3]
  refine z_al0 (pc' := 35) 22 rfl rfl ?_
  refine z_getf (pc' := 38) 23 rfl rfl f_Cr_20_4 (by first | exact pcr_0 | exact pcr_1 | exact pcr_2 | exact pcr_3 | (rw [pcr_o (by omega)]; assumption)) (by rfl) ?_
  refine z_iconst (v := nI 3) (by decide) (pc' := 39) 24 rfl rfl ?_
  refine z_al1 (pc' := 40) 25 rfl rfl ?_
  refine z_getr (pc' := 43) 26 rfl rfl f_Cr_44_3 (by first | exact pcr_0 | exact pcr_1 | exact pcr_2 | exact pcr_3 | (rw [pcr_o (by omega)]; assumption)) (by rfl) ?_
  refine z_il2 (pc' := 44) 27 rfl rfl ?_
  refine z_iald (pc' := 45) 28 rfl rfl (by first | exact pcr_0 | exact pcr_1 | exact pcr_2 | exact pcr_3 | (rw [pcr_o (by omega)]; assumption)) (by omega) (by decide) ?_
  refine z_iast (pc' := 46) 29 rfl rfl (by first | exact pcr_0 | exact pcr_1 | exact pcr_2 | exact pcr_3 | (rw [pcr_o (by omega)]; assumption)) (by omega) (by decide) ?_
  rw [upd_n, pcr_s3]
  refine z_al0 (pc' := 47) 30 rfl rfl ?_
  refine z_getf (pc' := 50) 31 rfl rfl f_Cr_20_4 (by first | exact pcr_0 | exact pcr_1 | exact pcr_2 | exact pcr_3 | (rw [pcr_o (by omega)]; assumption)) (by rfl) ?_
  refine z_iconst (v := nI 4) (by decide) (pc' := 51) 32 rfl rfl ?_
  refine z_il2 (pc' := 52) 33 rfl rfl ?_
  refine z_iast (pc' := 53) 34 rfl rfl (by first | exact pcr_0 | exact pcr_1 | exact pcr_2 | exact pcr_3 | (rw [pcr_o (by omega)]; assumption)) (by omega) (by decide) ?_
  rw [upd_n, pcr_s3, show un (un (un (un (un q 0 mo) 1 (fa g)) 2 (S 3 g)) 3 (S 2 g)) 4 g = fcs mo (fa g) (S 3 g) (S 2 g) g q from rfl]
  refine z_al1 (pc' := 54) 35 rfl rfl ?_
  refine z_getr (pc' := 57) 36 rfl rfl f_Cr_47_3 (by first | exact pcr_0 | exact pcr_1 | exact pcr_2 | exact pcr_3 | (rw [pcr_o (by omega)]; assumption)) (by rfl) ?_
  refine z_al1 (pc' := 58) 37 rfl rfl ?_
  refine z_getr (pc' := 61) 38 rfl rfl f_Cr_51_3 (by first | exact pcr_0 | exact pcr_1 | exact pcr_2 | exact pcr_3 | (rw [pcr_o (by omega)]; assumption)) (by rfl) ?_
  refine z_il2 (pc' := 62) 39 rfl rfl ?_
  refine z_iald (pc' := 63) 40 rfl rfl (by first | exact pcr_0 | exact pcr_1 | exact pcr_2 | exact pcr_3 | (rw [pcr_o (by omega)]; assumption)) (by omega) (by decide) ?_
  refine z_al0 (pc' := 64) 41 rfl rfl ?_
  refine z_getf (pc' := 67) 42 rfl rfl f_Cr_20_4 (by first | exact pcr_0 | exact pcr_1 | exact pcr_2 | exact pcr_3 | (rw [pcr_o (by omega)]; assumption)) (by rfl) ?_
  refine z_callV1 (pc' := 70) 43 rfl rfl k_Cr_54 (by first | exact pcr_0 | exact pcr_1 | exact pcr_2 | exact pcr_3 | (rw [pcr_o (by omega)]; assumption)) (c_Bk_tells (isBk_pcr hbk (by omega)) pcr_3 hqq (by omega) hD.1) (by decide) (Nat.le_refl _) (Nat.le_refl _) rfl rfl (Nat.le_of_ble_eq_true rfl) ?_
  exact z_ireturn 44 rfl rfl (by first | rfl | exact zbo_nar) rfl rfl (by rw [hD.2]; exact ⟨rfl, rfl⟩)
end
section
def mI4 (S : Nat → Nat → Nat) (t g b : Nat) : Int32 := if b = 6 then -1 else nI (gS S g b t)
theorem zm1 : ∀ {x : Nat}, x < 2 ^ 31 → ¬ nI x ≤ -1 := by
  intro x hx h
  have h1 := Int32.le_iff_toInt_le.mp h
  rw [nI_toInt hx, show (-1 : Int32).toInt = -1 from by decide] at h1
  omega
def nfw (S : Nat → Nat → Nat) (t g : Nat) (pr : Nat → Nat) : Nat → Nat → Nat
  | 0, k => fwN S t g pr k
  | j + 1, k => nfw S t g pr j (k + 1)
set_option maxHeartbeats 4000000 in
set_option maxRecDepth 100000 in
theorem l_Cr_freeWindFor {G : zG} {n u : Nat} {ν : Nat → va_E} {S : Nat → Nat → Nat} {sc ch : Int32} (hco : isCo ν S sc ch) (hi : iS S) {a mo cs : Nat} {pr fa q : Nat → Nat} (ha : a = 13 ∨ 43 ≤ a) {g : Nat} (hg : g < 6) (hm : mo ≤ 16) (hp : ∀ j, pr j ≤ 6) : ∀ j k b x, k + j = S 0 1 → b = fwN S mo g pr k → x = mI4 S mo g b →
    zW G 2 M_Cr_freeWindFor 16 [.ref a, .ref 5, .int (nI g), .int (nI b), .int x, .int (nI (wbN pr (S 0 0))), .int (nI k), .retAddr 0] [] n u (pcr ν a mo cs pr fa q) n u (zE (some (.int (nI (fw S mo g pr)))) (pcr ν a mo cs pr fa q))
  | 0, k, b, x, e, eb, ex => by
    subst eb; subst ex
    have hi0 := hi.2.1
    have hi1 := hi.1
    have hco0 := hco
    obtain ⟨m5, m6, m7, m8, m9, m10, m11, m12, m22⟩ := hco
    have hwb := wbN_lt pr hp (S 0 0)
    have hgk : gS S g k mo ≤ 18 := gS_le hi
    have hgb : gS S g (fwN S mo g pr k) mo ≤ 18 := gS_le hi
    obtain rfl : k = S 0 1 := by omega
    refine z_il6 (pc' := 18) 10 rfl rfl ?_
    refine z_al1 (pc' := 19) 11 rfl rfl ?_
    refine z_getf (pc' := 22) 12 rfl rfl f_Cr_90_3 (by first | exact pcr_0 | exact pcr_1 | exact pcr_2 | exact pcr_3 | (rw [pcr_o (by omega)]; assumption)) (by rfl) ?_
    first | refine z_icmp_geN (pc' := 25) 13 rfl rfl (tgt := 81) rfl (by omega) (by omega) (fun h22 => ?_) (fun h22 => ?_) | refine z_icmp_ge (pc' := 25) 13 rfl rfl (tgt := 81) rfl (fun h22 => ?_) (fun h22 => ?_)
    · refine z_il3 (pc' := 82) 42 rfl rfl ?_
      exact z_ireturn 43 rfl rfl (by first | rfl | exact zbo_nar) rfl rfl (by exact ⟨rfl, rfl⟩)
    · exfalso; omega
  | j + 1, k, b, x, e, eb, ex => by
    subst eb; subst ex
    have hi0 := hi.2.1
    have hi1 := hi.1
    have hco0 := hco
    obtain ⟨m5, m6, m7, m8, m9, m10, m11, m12, m22⟩ := hco
    have hwb := wbN_lt pr hp (S 0 0)
    have hgk : gS S g k mo ≤ 18 := gS_le hi
    have hgb : gS S g (fwN S mo g pr k) mo ≤ 18 := gS_le hi
    by_cases h6 : fwN S mo g pr k = 6
    · rw [show mI4 S mo g (fwN S mo g pr k) = -1 from if_pos h6]
      refine z_il6 (pc' := 18) 10 rfl rfl ?_
      refine z_al1 (pc' := 19) 11 rfl rfl ?_
      refine z_getf (pc' := 22) 12 rfl rfl f_Cr_90_3 (by first | exact pcr_0 | exact pcr_1 | exact pcr_2 | exact pcr_3 | (rw [pcr_o (by omega)]; assumption)) (by rfl) ?_
      first | refine z_icmp_geN (pc' := 25) 13 rfl rfl (tgt := 81) rfl (by omega) (by omega) (fun h22 => ?_) (fun h22 => ?_) | refine z_icmp_ge (pc' := 25) 13 rfl rfl (tgt := 81) rfl (fun h22 => ?_) (fun h22 => ?_)
      · exfalso; omega
      · refine z_al1 (pc' := 26) 14 rfl rfl ?_
        refine z_il6 (pc' := 28) 15 rfl rfl ?_
        refine z_al0 (pc' := 29) 16 rfl rfl ?_
        refine z_getf (pc' := 32) 17 rfl rfl f_Cr_23_4 (by first | exact pcr_0 | exact pcr_1 | exact pcr_2 | exact pcr_3 | (rw [pcr_o (by omega)]; assumption)) (by rfl) ?_
        refine z_callV1 (pc' := 35) 18 rfl rfl k_Cr_60 (by first | exact pcr_0 | exact pcr_1 | exact pcr_2 | exact pcr_3 | (rw [pcr_o (by omega)]; assumption)) (c_Co_blows (isCo_pcr hco0 ha) hi (by omega) (by omega)) (by decide) (Nat.le_refl _) (Nat.le_refl _) rfl rfl (Nat.le_of_ble_eq_true rfl) ?_
        first | refine z_if_eqB (pc' := 38) 19 rfl rfl (tgt := 75) rfl (fun h35 => ?_) (fun h35 => ?_) | refine z_if_eqN (pc' := 38) 19 rfl rfl (tgt := 75) rfl (by omega) (fun h35 => ?_) (fun h35 => ?_) | refine z_if_eq (pc' := 38) 19 rfl rfl (tgt := 75) rfl (fun h35 => ?_) (fun h35 => ?_)
        · first | refine z_inc6N rfl rfl (pc' := 78) 40 rfl rfl ?_ | refine z_inc6 rfl rfl rfl (pc' := 78) 40 rfl rfl ?_
          refine z_goto 41 rfl (tgt := 16) rfl ?_
          refine z_less7 ?_
          exact l_Cr_freeWindFor hco0 hi ha hg hm hp j (k + 1) _ _ (by omega) (by rw [fwN, if_neg (fun z => h35 z.1)]) (by rw [mI4, if_pos h6])
        · refine z_il5 (pc' := 40) 20 rfl rfl ?_
          refine z_il6 (pc' := 42) 21 rfl rfl ?_
          refine z_ishr (pc' := 43) 22 rfl rfl ?_
          refine z_iconst (v := nI 1) (by decide) (pc' := 44) 23 rfl rfl ?_
          refine z_iand (pc' := 45) 24 rfl rfl ?_
          rw [nb_bit (by omega) (by omega)]
          first | refine z_if_neB (pc' := 48) 25 rfl rfl (tgt := 75) rfl (fun h45 => ?_) (fun h45 => ?_) | refine z_if_neN (pc' := 48) 25 rfl rfl (tgt := 75) rfl (by omega) (fun h45 => ?_) (fun h45 => ?_) | refine z_if_ne (pc' := 48) 25 rfl rfl (tgt := 75) rfl (fun h45 => ?_) (fun h45 => ?_)
          · first | refine z_inc6N rfl rfl (pc' := 78) 40 rfl rfl ?_ | refine z_inc6 rfl rfl rfl (pc' := 78) 40 rfl rfl ?_
            refine z_goto 41 rfl (tgt := 16) rfl ?_
            refine z_less7 ?_
            exact l_Cr_freeWindFor hco0 hi ha hg hm hp j (k + 1) _ _ (by omega) (by rw [fwN, if_neg (fun z => h45 ((wbN_bit pr k _).mpr z.2.1))]) (by rw [mI4, if_pos h6])
          · refine z_al1 (pc' := 49) 26 rfl rfl ?_
            refine z_il2 (pc' := 50) 27 rfl rfl ?_
            refine z_il6 (pc' := 52) 28 rfl rfl ?_
            refine z_al0 (pc' := 53) 29 rfl rfl ?_
            refine z_getf (pc' := 56) 30 rfl rfl f_Cr_23_4 (by first | exact pcr_0 | exact pcr_1 | exact pcr_2 | exact pcr_3 | (rw [pcr_o (by omega)]; assumption)) (by rfl) ?_
            refine z_callV1 (pc' := 59) 31 rfl rfl k_Cr_72 (by first | exact pcr_0 | exact pcr_1 | exact pcr_2 | exact pcr_3 | (rw [pcr_o (by omega)]; assumption)) (c_Co_gainBy (isCo_pcr hco0 ha) hi hg (by omega) hm) (by decide) (Nat.le_refl _) (Nat.le_refl _) rfl rfl (Nat.le_of_ble_eq_true rfl) ?_
            refine z_is7 rfl rfl (pc' := 61) 32 rfl rfl ?_
            refine z_il7 (pc' := 63) 33 rfl rfl ?_
            refine z_il4 (pc' := 65) 34 rfl rfl ?_
            refine z_icmp_le_f (pc' := 68) 35 rfl rfl (tgt := 75) rfl (zm1 (by omega)) ?_
            refine z_il7 (pc' := 70) 36 rfl rfl ?_
            refine z_is4 rfl rfl (pc' := 72) 37 rfl rfl ?_
            refine z_il6 (pc' := 74) 38 rfl rfl ?_
            refine z_is3 rfl rfl (pc' := 75) 39 rfl rfl ?_
            first | refine z_inc6N rfl rfl (pc' := 78) 40 rfl rfl ?_ | refine z_inc6 rfl rfl rfl (pc' := 78) 40 rfl rfl ?_
            refine z_goto 41 rfl (tgt := 16) rfl ?_
            refine z_less7 ?_
            exact l_Cr_freeWindFor hco0 hi ha hg hm hp j (k + 1) _ _ (by omega) (by rw [fwN, if_pos ⟨h35, (wbN_bit pr k _).mp h45, Or.inl h6⟩]) (by rw [mI4, if_neg (show ¬ k = 6 by omega)])
    · rw [show mI4 S mo g (fwN S mo g pr k) = nI (gS S g (fwN S mo g pr k) mo) from if_neg h6]
      refine z_il6 (pc' := 18) 10 rfl rfl ?_
      refine z_al1 (pc' := 19) 11 rfl rfl ?_
      refine z_getf (pc' := 22) 12 rfl rfl f_Cr_90_3 (by first | exact pcr_0 | exact pcr_1 | exact pcr_2 | exact pcr_3 | (rw [pcr_o (by omega)]; assumption)) (by rfl) ?_
      first | refine z_icmp_geN (pc' := 25) 13 rfl rfl (tgt := 81) rfl (by omega) (by omega) (fun h22 => ?_) (fun h22 => ?_) | refine z_icmp_ge (pc' := 25) 13 rfl rfl (tgt := 81) rfl (fun h22 => ?_) (fun h22 => ?_)
      · exfalso; omega
      · refine z_al1 (pc' := 26) 14 rfl rfl ?_
        refine z_il6 (pc' := 28) 15 rfl rfl ?_
        refine z_al0 (pc' := 29) 16 rfl rfl ?_
        refine z_getf (pc' := 32) 17 rfl rfl f_Cr_23_4 (by first | exact pcr_0 | exact pcr_1 | exact pcr_2 | exact pcr_3 | (rw [pcr_o (by omega)]; assumption)) (by rfl) ?_
        refine z_callV1 (pc' := 35) 18 rfl rfl k_Cr_60 (by first | exact pcr_0 | exact pcr_1 | exact pcr_2 | exact pcr_3 | (rw [pcr_o (by omega)]; assumption)) (c_Co_blows (isCo_pcr hco0 ha) hi (by omega) (by omega)) (by decide) (Nat.le_refl _) (Nat.le_refl _) rfl rfl (Nat.le_of_ble_eq_true rfl) ?_
        first | refine z_if_eqB (pc' := 38) 19 rfl rfl (tgt := 75) rfl (fun h35 => ?_) (fun h35 => ?_) | refine z_if_eqN (pc' := 38) 19 rfl rfl (tgt := 75) rfl (by omega) (fun h35 => ?_) (fun h35 => ?_) | refine z_if_eq (pc' := 38) 19 rfl rfl (tgt := 75) rfl (fun h35 => ?_) (fun h35 => ?_)
        · first | refine z_inc6N rfl rfl (pc' := 78) 40 rfl rfl ?_ | refine z_inc6 rfl rfl rfl (pc' := 78) 40 rfl rfl ?_
          refine z_goto 41 rfl (tgt := 16) rfl ?_
          refine z_less7 ?_
          exact l_Cr_freeWindFor hco0 hi ha hg hm hp j (k + 1) _ _ (by omega) (by rw [fwN, if_neg (fun z => h35 z.1)]) (by rw [mI4, if_neg h6])
        · refine z_il5 (pc' := 40) 20 rfl rfl ?_
          refine z_il6 (pc' := 42) 21 rfl rfl ?_
          refine z_ishr (pc' := 43) 22 rfl rfl ?_
          refine z_iconst (v := nI 1) (by decide) (pc' := 44) 23 rfl rfl ?_
          refine z_iand (pc' := 45) 24 rfl rfl ?_
          rw [nb_bit (by omega) (by omega)]
          first | refine z_if_neB (pc' := 48) 25 rfl rfl (tgt := 75) rfl (fun h45 => ?_) (fun h45 => ?_) | refine z_if_neN (pc' := 48) 25 rfl rfl (tgt := 75) rfl (by omega) (fun h45 => ?_) (fun h45 => ?_) | refine z_if_ne (pc' := 48) 25 rfl rfl (tgt := 75) rfl (fun h45 => ?_) (fun h45 => ?_)
          · first | refine z_inc6N rfl rfl (pc' := 78) 40 rfl rfl ?_ | refine z_inc6 rfl rfl rfl (pc' := 78) 40 rfl rfl ?_
            refine z_goto 41 rfl (tgt := 16) rfl ?_
            refine z_less7 ?_
            exact l_Cr_freeWindFor hco0 hi ha hg hm hp j (k + 1) _ _ (by omega) (by rw [fwN, if_neg (fun z => h45 ((wbN_bit pr k _).mpr z.2.1))]) (by rw [mI4, if_neg h6])
          · refine z_al1 (pc' := 49) 26 rfl rfl ?_
            refine z_il2 (pc' := 50) 27 rfl rfl ?_
            refine z_il6 (pc' := 52) 28 rfl rfl ?_
            refine z_al0 (pc' := 53) 29 rfl rfl ?_
            refine z_getf (pc' := 56) 30 rfl rfl f_Cr_23_4 (by first | exact pcr_0 | exact pcr_1 | exact pcr_2 | exact pcr_3 | (rw [pcr_o (by omega)]; assumption)) (by rfl) ?_
            refine z_callV1 (pc' := 59) 31 rfl rfl k_Cr_72 (by first | exact pcr_0 | exact pcr_1 | exact pcr_2 | exact pcr_3 | (rw [pcr_o (by omega)]; assumption)) (c_Co_gainBy (isCo_pcr hco0 ha) hi hg (by omega) hm) (by decide) (Nat.le_refl _) (Nat.le_refl _) rfl rfl (Nat.le_of_ble_eq_true rfl) ?_
            refine z_is7 rfl rfl (pc' := 61) 32 rfl rfl ?_
            refine z_il7 (pc' := 63) 33 rfl rfl ?_
            refine z_il4 (pc' := 65) 34 rfl rfl ?_
            first | refine z_icmp_leN (pc' := 68) 35 rfl rfl (tgt := 75) rfl (by omega) (by omega) (fun h65 => ?_) (fun h65 => ?_) | refine z_icmp_le (pc' := 68) 35 rfl rfl (tgt := 75) rfl (fun h65 => ?_) (fun h65 => ?_)
            · first | refine z_inc6N rfl rfl (pc' := 78) 40 rfl rfl ?_ | refine z_inc6 rfl rfl rfl (pc' := 78) 40 rfl rfl ?_
              refine z_goto 41 rfl (tgt := 16) rfl ?_
              refine z_less7 ?_
              exact l_Cr_freeWindFor hco0 hi ha hg hm hp j (k + 1) _ _ (by omega) (by rw [fwN, if_neg (fun z => z.2.2.elim h6 (Nat.not_lt.mpr h65))]) (by rw [mI4, if_neg h6])
            · refine z_il7 (pc' := 70) 36 rfl rfl ?_
              refine z_is4 rfl rfl (pc' := 72) 37 rfl rfl ?_
              refine z_il6 (pc' := 74) 38 rfl rfl ?_
              refine z_is3 rfl rfl (pc' := 75) 39 rfl rfl ?_
              first | refine z_inc6N rfl rfl (pc' := 78) 40 rfl rfl ?_ | refine z_inc6 rfl rfl rfl (pc' := 78) 40 rfl rfl ?_
              refine z_goto 41 rfl (tgt := 16) rfl ?_
              refine z_less7 ?_
              exact l_Cr_freeWindFor hco0 hi ha hg hm hp j (k + 1) _ _ (by omega) (by rw [fwN, if_pos ⟨h35, (wbN_bit pr k _).mp h45, Or.inr h65⟩]) (by rw [mI4, if_neg (show ¬ k = 6 by omega)])
set_option maxHeartbeats 4000000 in
set_option maxRecDepth 100000 in
theorem c_Cr_freeWindFor {G : zG} {n u : Nat} {ν : Nat → va_E} {S : Nat → Nat → Nat} {sc ch : Int32} (hco : isCo ν S sc ch) (hi : iS S) {a mo cs : Nat} {pr fa q : Nat → Nat} (ha : a = 13 ∨ 43 ≤ a) {g : Nat} (hg : g < 6) (hm : mo ≤ 16) (hp : ∀ j, pr j ≤ 6) :
    zMet G 2 M_Cr_freeWindFor [.ref a, .ref 5, .int (nI g)] n u (pcr ν a mo cs pr fa q) n u (zE (some (.int (nI (fw S mo g pr)))) (pcr ν a mo cs pr fa q)) := by
  refine z_start (lv := [.ref a, .ref 5, .int (nI g), .retAddr 0, .retAddr 0, .retAddr 0, .retAddr 0, .retAddr 0]) K_Cr_freeWindFor rfl rfl (Nat.le_refl _) (Nat.le_refl _) (Nat.le_of_ble_eq_true rfl) rfl ?_
  refine z_bipush (v := nI 6) (by decide) (pc' := 2) 0 rfl rfl ?_
  refine z_is3 rfl rfl (pc' := 3) 1 rfl rfl ?_
  refine z_iconst (v := (-1)) (by decide) (pc' := 4) 2 rfl rfl ?_
  refine z_is4 rfl rfl (pc' := 6) 3 rfl rfl ?_
  refine z_al0 (pc' := 7) 4 rfl rfl ?_
  refine z_al1 (pc' := 8) 5 rfl rfl ?_
  refine z_callV1 (pc' := 11) 6 rfl rfl k_Cr_86 (by first | exact pcr_0 | exact pcr_1 | exact pcr_2 | exact pcr_3 | (rw [pcr_o (by omega)]; assumption)) (c_Cr_windsWithBrides hco hi ha hp) (by decide) (Nat.le_refl _) (Nat.le_refl _) rfl rfl (Nat.le_of_ble_eq_true rfl) ?_
  refine z_is5 rfl rfl (pc' := 13) 7 rfl rfl ?_
  refine z_iconst (v := nI 0) (by decide) (pc' := 14) 8 rfl rfl ?_
  refine z_is6 rfl rfl (pc' := 16) 9 rfl rfl ?_
  exact l_Cr_freeWindFor hco hi ha hg hm hp (S 0 1) 0 _ _ (by omega) rfl rfl
set_option maxHeartbeats 4000000 in
set_option maxRecDepth 100000 in
theorem c_Cr_meetsCalm {G : zG} {n u : Nat} {ν : Nat → va_E} {S : Nat → Nat → Nat} {sc ch : Int32} (hco : isCo ν S sc ch) (hi : iS S) {a mo cs : Nat} {pr fa q : Nat → Nat} (ha : a = 13 ∨ 43 ≤ a) {g dz : Nat} (hg : g < 6) (hm : mo ≤ 16) (hdz : dz ≤ 2) (hp : ∀ j, pr j ≤ 6) :
    zMet G 3 M_Cr_meetsCalm [.ref a, .ref 5, .int (nI g), .int (nI dz)] n u (pcr ν a mo cs pr fa q) n u (zE none (pcr ν a mo cs (cal S mo g dz pr fa).1 (cal S mo g dz pr fa).2 q)) := by
  refine z_start (lv := [.ref a, .ref 5, .int (nI g), .int (nI dz), .retAddr 0]) K_Cr_meetsCalm rfl rfl (Nat.le_refl _) (Nat.le_refl _) (Nat.le_of_ble_eq_true rfl) rfl ?_
  have hfw := fwN_le S mo g pr (S 0 1) hi.2.1
  have hi1 := hi.2.1
  have e0 : fwN S mo g pr (S 0 1) = fw S mo g pr := rfl
  rw [e0] at hfw
  refine z_il3 (pc' := 1) 0 rfl rfl ?_
  refine z_iconst (v := nI 2) (by decide) (pc' := 2) 1 rfl rfl ?_
  first | refine z_icmp_neN (pc' := 5) 2 rfl rfl (tgt := 16) rfl (by omega) (by omega) (fun h2 => ?_) (fun h2 => ?_) | refine z_icmp_ne (pc' := 5) 2 rfl rfl (tgt := 16) rfl (fun h2 => ?_) (fun h2 => ?_)
  · refine z_il3 (pc' := 17) 9 rfl rfl ?_
    refine z_iconst (v := nI 1) (by decide) (pc' := 18) 10 rfl rfl ?_
    first | refine z_icmp_neN (pc' := 21) 11 rfl rfl (tgt := 44) rfl (by omega) (by omega) (fun h18 => ?_) (fun h18 => ?_) | refine z_icmp_ne (pc' := 21) 11 rfl rfl (tgt := 44) rfl (fun h18 => ?_) (fun h18 => ?_)
    · exact z_return 25 rfl rfl rfl rfl (by refine ⟨rfl, ?_⟩; unfold cal; first | rw [if_pos h2] | (rw [if_neg h2, if_pos h18, if_pos h33]) | (rw [if_neg h2, if_pos h18, if_neg h33]) | (rw [if_neg h2, if_neg h18]))
    · refine z_al0 (pc' := 22) 12 rfl rfl ?_
      refine z_al1 (pc' := 23) 13 rfl rfl ?_
      refine z_il2 (pc' := 24) 14 rfl rfl ?_
      refine z_callV1 (pc' := 27) 15 rfl rfl k_Cr_83 (by first | exact pcr_0 | exact pcr_1 | exact pcr_2 | exact pcr_3 | (rw [pcr_o (by omega)]; assumption)) (c_Cr_freeWindFor hco hi ha hg hm hp) (by decide) (Nat.le_refl _) (Nat.le_refl _) rfl rfl (Nat.le_of_ble_eq_true rfl) ?_
      refine z_is4 rfl rfl (pc' := 29) 16 rfl rfl ?_
      refine z_il4 (pc' := 31) 17 rfl rfl ?_
      refine z_bipush (v := nI 6) (by decide) (pc' := 33) 18 rfl rfl ?_
      first | refine z_icmp_eqN (pc' := 36) 19 rfl rfl (tgt := 44) rfl (by omega) (by omega) (fun h33 => ?_) (fun h33 => ?_) | refine z_icmp_eq (pc' := 36) 19 rfl rfl (tgt := 44) rfl (fun h33 => ?_) (fun h33 => ?_)
      · exact z_return 25 rfl rfl rfl rfl (by refine ⟨rfl, ?_⟩; unfold cal; first | rw [if_pos h2] | (rw [if_neg h2, if_pos h18, if_pos h33]) | (rw [if_neg h2, if_pos h18, if_neg h33]) | (rw [if_neg h2, if_neg h18]))
      · refine z_al0 (pc' := 37) 20 rfl rfl ?_
        refine z_al1 (pc' := 38) 21 rfl rfl ?_
        refine z_il2 (pc' := 39) 22 rfl rfl ?_
        refine z_il4 (pc' := 41) 23 rfl rfl ?_
        refine z_callV0 (pc' := 44) 24 rfl rfl k_Cr_80 (by first | exact pcr_0 | exact pcr_1 | exact pcr_2 | exact pcr_3 | (rw [pcr_o (by omega)]; assumption)) (c_Cr_promiseTo hco hi ha hg) (by decide) (Nat.le_refl _) (Nat.le_refl _) rfl rfl (Nat.le_of_ble_eq_true rfl) ?_
        exact z_return 25 rfl rfl rfl rfl (by refine ⟨rfl, ?_⟩; unfold cal; first | rw [if_pos h2] | (rw [if_neg h2, if_pos h18, if_pos h33]) | (rw [if_neg h2, if_pos h18, if_neg h33]) | (rw [if_neg h2, if_neg h18]))
  · refine z_al0 (pc' := 6) 3 rfl rfl ?_
    refine z_al1 (pc' := 7) 4 rfl rfl ?_
    refine z_il2 (pc' := 8) 5 rfl rfl ?_
    refine z_bipush (v := nI 6) (by decide) (pc' := 10) 6 rfl rfl ?_
    refine z_callV0 (pc' := 13) 7 rfl rfl k_Cr_80 (by first | exact pcr_0 | exact pcr_1 | exact pcr_2 | exact pcr_3 | (rw [pcr_o (by omega)]; assumption)) (c_Cr_promiseTo hco hi ha hg) (by decide) (Nat.le_refl _) (Nat.le_refl _) rfl rfl (Nat.le_of_ble_eq_true rfl) ?_
    refine z_goto 8 rfl (tgt := 44) rfl ?_
    exact z_return 25 rfl rfl rfl rfl (by refine ⟨rfl, ?_⟩; unfold cal; first | rw [if_pos h2] | (rw [if_neg h2, if_pos h18, if_pos h33]) | (rw [if_neg h2, if_pos h18, if_neg h33]) | (rw [if_neg h2, if_neg h18]))
set_option maxHeartbeats 4000000 in
set_option maxRecDepth 100000 in
theorem c_Cr_wearsOut {G : zG} {n u : Nat} {ν : Nat → va_E} {S : Nat → Nat → Nat} {sc ch : Int32} (hco : isCo ν S sc ch) (hi : iS S) {a mo cs : Nat} {pr fa q : Nat → Nat} (ha : a = 13 ∨ 43 ≤ a) {g : Nat} (hg : g < 6) (hf : 1 ≤ fa g) (hf9 : fa g ≤ 9) :
    zMet G 1 M_Cr_wearsOut [.ref a, .ref 5, .int (nI g)] n u (pcr ν a mo cs pr fa q) n u (zE none (if fa g ≤ 1 then pcr ν a mo cs (un pr g 6) (un fa g (S 3 g)) q else pcr ν a mo cs pr (un fa g (fa g - 1)) q)) := by
  refine z_start (lv := [.ref a, .ref 5, .int (nI g)]) K_Cr_wearsOut rfl rfl (Nat.le_refl _) (Nat.le_refl _) (Nat.le_of_ble_eq_true rfl) rfl ?_
  refine z_al0 (pc' := 1) 0 rfl rfl ?_
  refine z_getf (pc' := 4) 1 rfl rfl f_Cr_15_4 (by first | exact pcr_0 | exact pcr_1 | exact pcr_2 | exact pcr_3 | (rw [pcr_o (by omega)]; assumption)) (by rfl) ?_
  refine z_il2 (pc' := 5) 2 rfl rfl ?_
  refine z_dup2 rfl rfl (pc' := 6) 3 rfl rfl ?_
  refine z_iald (pc' := 7) 4 rfl rfl (by first | exact pcr_0 | exact pcr_1 | exact pcr_2 | exact pcr_3 | (rw [pcr_o (by omega)]; assumption)) (by omega) (by decide) ?_
  refine z_iconst (v := nI 1) (by decide) (pc' := 8) 5 rfl rfl ?_
  first | refine z_isubN (by omega) (pc' := 9) 6 rfl rfl ?_ | refine z_isub (pc' := 9) 6 rfl rfl ?_
  refine z_iast (pc' := 10) 7 rfl rfl (by first | exact pcr_0 | exact pcr_1 | exact pcr_2 | exact pcr_3 | (rw [pcr_o (by omega)]; assumption)) (by omega) (by decide) ?_
  rw [upd_n, pcr_s2]
  refine z_al0 (pc' := 11) 8 rfl rfl ?_
  refine z_getf (pc' := 14) 9 rfl rfl f_Cr_15_4 (by first | exact pcr_0 | exact pcr_1 | exact pcr_2 | exact pcr_3 | (rw [pcr_o (by omega)]; assumption)) (by rfl) ?_
  refine z_il2 (pc' := 15) 10 rfl rfl ?_
  refine z_iald (pc' := 16) 11 rfl rfl (by first | exact pcr_0 | exact pcr_1 | exact pcr_2 | exact pcr_3 | (rw [pcr_o (by omega)]; assumption)) (by omega) (by decide) ?_
  rw [un_s]
  first | refine z_if_gtN (pc' := 19) 12 rfl rfl (tgt := 27) rfl (by omega) (fun h16 => ?_) (fun h16 => ?_) | refine z_if_gt (pc' := 19) 12 rfl rfl (tgt := 27) rfl (fun h16 => ?_) (fun h16 => ?_)
  · exact z_return 18 rfl rfl rfl rfl (by refine ⟨rfl, ?_⟩; first | rw [if_pos (by omega), un_un] | rw [if_neg (by omega)])
  · refine z_al0 (pc' := 20) 13 rfl rfl ?_
    refine z_al1 (pc' := 21) 14 rfl rfl ?_
    refine z_il2 (pc' := 22) 15 rfl rfl ?_
    refine z_bipush (v := nI 6) (by decide) (pc' := 24) 16 rfl rfl ?_
    refine z_callV0 (pc' := 27) 17 rfl rfl k_Cr_80 (by first | exact pcr_0 | exact pcr_1 | exact pcr_2 | exact pcr_3 | (rw [pcr_o (by omega)]; assumption)) (c_Cr_promiseTo hco hi ha hg) (by decide) (Nat.le_refl _) (Nat.le_refl _) rfl rfl (Nat.le_of_ble_eq_true rfl) ?_
    exact z_return 18 rfl rfl rfl rfl (by refine ⟨rfl, ?_⟩; first | rw [if_pos (by omega), un_un] | rw [if_neg (by omega)])
end
section
def iX (S : Nat → Nat → Nat) (pr fa : Nat → Nat) : Prop := ∀ j, pr j ≤ 6 ∧ fa j ≤ 9 ∧ (j < S 0 0 → 1 ≤ fa j ∧ (pr j < S 0 1 ∨ pr j = 6))
theorem iX_set {S : Nat → Nat → Nat} {pr fa : Nat → Nat} (h : iX S pr fa) {g w f : Nat} (hw : w ≤ 6) (hw2 : w < S 0 1 ∨ w = 6) (hf : f ≤ 9) (hf1 : 1 ≤ f) : iX S (un pr g w) (un fa g f) := by
  intro j
  have hj := h j
  unfold un
  by_cases e : j = g
  · rw [if_pos e, if_pos e]; exact ⟨hw, hf, fun _ => ⟨hf1, hw2⟩⟩
  · rw [if_neg e, if_neg e]; exact hj
theorem iX_fa {S : Nat → Nat → Nat} {pr fa : Nat → Nat} (h : iX S pr fa) {g f : Nat} (hf : f ≤ 9) (hf1 : 1 ≤ f) : iX S pr (un fa g f) := by
  intro j
  have hj := h j
  unfold un
  by_cases e : j = g
  · rw [if_pos e]; exact ⟨hj.1, hf, fun q => ⟨hf1, (hj.2.2 q).2⟩⟩
  · rw [if_neg e]; exact hj
def gs2 (S : Nat → Nat → Nat) (t g : Nat) (pr fa : Nat → Nat) (us cs wo : Nat) : (Nat → Nat) × (Nat → Nat) × Nat × Nat × Nat :=
  if blB S (pr g) t = true ∧ us / 2 ^ (pr g) % 2 = 0 then (pr, un fa g (S 3 g), us ||| 2 ^ (pr g), cs ||| 2 ^ g, wo + gS S g (pr g) t)
  else if pr g = 6 then (pr, fa, us, cs, wo)
  else if fa g ≤ 1 then (un pr g 6, un fa g (S 3 g), us, cs, wo) else (pr, un fa g (fa g - 1), us, cs, wo)
/-- what a girl does first, if there is a calm for her -/
def ca1 (S : Nat → Nat → Nat) (D : Nat → Nat → Nat → Nat → Nat → Nat → Nat) (t g : Nat) (pr fa : Nat → Nat) : (Nat → Nat) × (Nat → Nat) :=
  if blB S (pr g) t = true then (pr, fa) else cal S t g (D (S 1 g) t (fa g) (S 3 g) (S 2 g) g) pr fa
abbrev z5 : Type := (Nat → Nat) × (Nat → Nat) × Nat × Nat × Nat
/-- one girl's part of a month -/
def gst (S : Nat → Nat → Nat) (D : Nat → Nat → Nat → Nat → Nat → Nat → Nat) (t act g : Nat) (σ : z5) : z5 :=
  if g + 1 = act then σ else gs2 S t g (ca1 S D t g σ.1 σ.2.1).1 (ca1 S D t g σ.1 σ.2.1).2 σ.2.2.1 σ.2.2.2.1 σ.2.2.2.2
def mgo (S : Nat → Nat → Nat) (D : Nat → Nat → Nat → Nat → Nat → Nat → Nat) (t act : Nat) : Nat → Nat → z5 → z5
  | 0, _, σ => σ
  | j + 1, k, σ => mgo S D t act j (k + 1) (gst S D t act k σ)
/-- a month: what comes of all girls' parts -/
def mon (S : Nat → Nat → Nat) (D : Nat → Nat → Nat → Nat → Nat → Nat → Nat) (t act : Nat) (pr fa : Nat → Nat) : z5 := mgo S D t act (S 0 0) 0 (pr, fa, 0, 0, 0)
theorem iX_cal {S : Nat → Nat → Nat} (hi : iS S) {pr fa : Nat → Nat} (h : iX S pr fa) {t g dz : Nat} (hg : g < S 0 0) : iX S (cal S t g dz pr fa).1 (cal S t g dz pr fa).2 := by
  have hs := hi.2.2.2.2.2 g
  have hd := hs.2.2.2.2.2.2.2.2 hg
  have hfw := fwN_le S t g pr (S 0 1) hi.2.1
  have h1 := hi.2.1
  have e0 : fwN S t g pr (S 0 1) = fw S t g pr := rfl
  rw [e0] at hfw
  unfold cal
  split
  · exact iX_set h (by omega) (Or.inr rfl) (by omega) hd
  · split
    · split
      · exact h
      · exact iX_set h (by omega) (by omega) (by omega) hd
    · exact h
theorem iX_ca1 {S : Nat → Nat → Nat} (hi : iS S) {D : Nat → Nat → Nat → Nat → Nat → Nat → Nat} {pr fa : Nat → Nat} (h : iX S pr fa) {t g : Nat} (hg : g < S 0 0) : iX S (ca1 S D t g pr fa).1 (ca1 S D t g pr fa).2 := by
  unfold ca1
  split
  · exact h
  · exact iX_cal hi h hg
theorem gs2_ok {S : Nat → Nat → Nat} (hi : iS S) {pr fa : Nat → Nat} (h : iX S pr fa) {t g us cs wo : Nat} (hg : g < S 0 0) (hu : us < 64) : iX S (gs2 S t g pr fa us cs wo).1 (gs2 S t g pr fa us cs wo).2.1 ∧ (gs2 S t g pr fa us cs wo).2.2.1 < 64 := by
  have hs := hi.2.2.2.2.2 g
  have hd := hs.2.2.2.2.2.2.2.2 hg
  have hj := h g
  have h1 := hi.2.1
  unfold gs2
  split
  · next q =>
    have hb := blB_iff.mp q.1
    refine ⟨iX_fa h (by omega) hd, Nat.or_lt_two_pow (n := 6) hu (Nat.pow_lt_pow_right (by decide) ?_)⟩
    have := hb.1
    omega
  · split
    · exact ⟨h, hu⟩
    · split
      · exact ⟨iX_set h (by omega) (Or.inr rfl) (by omega) hd, hu⟩
      · exact ⟨iX_fa h (by omega) (by omega), hu⟩
theorem gst_ok {S : Nat → Nat → Nat} (hi : iS S) {D : Nat → Nat → Nat → Nat → Nat → Nat → Nat} {σ : z5} (h : iX S σ.1 σ.2.1) {t act g : Nat} (hg : g < S 0 0) (hu : σ.2.2.1 < 64) : iX S (gst S D t act g σ).1 (gst S D t act g σ).2.1 ∧ (gst S D t act g σ).2.2.1 < 64 := by
  unfold gst
  split
  · exact ⟨h, hu⟩
  · exact gs2_ok hi (iX_ca1 hi h hg) hg hu
theorem mgo_ok {S : Nat → Nat → Nat} (hi : iS S) {D : Nat → Nat → Nat → Nat → Nat → Nat → Nat} {t act : Nat} : ∀ (j k : Nat) (σ : z5), k + j ≤ S 0 0 → iX S σ.1 σ.2.1 → σ.2.2.1 < 64 → iX S (mgo S D t act j k σ).1 (mgo S D t act j k σ).2.1
  | 0, _, _, _, h, _ => h
  | j + 1, k, σ, e, h, hu => by
    have := gst_ok (D := D) (t := t) (act := act) hi h (g := k) (by omega) hu
    exact mgo_ok hi j (k + 1) _ (by omega) this.1 this.2
theorem mon_ok {S : Nat → Nat → Nat} (hi : iS S) {D : Nat → Nat → Nat → Nat → Nat → Nat → Nat} {t act : Nat} {pr fa : Nat → Nat} (h : iX S pr fa) : iX S (mon S D t act pr fa).1 (mon S D t act pr fa).2.1 := mgo_ok hi (S 0 0) 0 _ (by omega) h (by show 0 < 64; decide)
set_option maxHeartbeats 4000000 in
set_option maxRecDepth 100000 in
theorem l_Cr_passes65 {G : zG} {n u : Nat} {ν : Nat → va_E} {S : Nat → Nat → Nat} {sc ch : Int32} (hco : isCo ν S sc ch) (hi : iS S) {a mo cs : Nat} {pr fa q : Nat → Nat} (ha : a = 13 ∨ 43 ≤ a) {act us wo g : Nat} {Φ : zP} (hx : iX S pr fa) (hm : mo ≤ 16) (hg : g < S 0 0) (hu : us < 64) (K : zW G 4 M_Cr_passes 165 [.ref a, .ref 5, .int (nI act), .int (nI (gs2 S mo g pr fa us cs wo).2.2.2.2), .int (nI (gs2 S mo g pr fa us cs wo).2.2.1), .int (nI g), .retAddr 0] [] n u (pcr ν a mo (gs2 S mo g pr fa us cs wo).2.2.2.1 (gs2 S mo g pr fa us cs wo).1 (gs2 S mo g pr fa us cs wo).2.1 q) n u Φ) :
    zW G 4 M_Cr_passes 65 [.ref a, .ref 5, .int (nI act), .int (nI wo), .int (nI us), .int (nI g), .retAddr 0] [] n u (pcr ν a mo cs pr fa q) n u Φ := by
  have hi0 := hi.1
  have hi1 := hi.2.1
  have hs9 := hi.2.2.2.2.2 g
  have hxg := hx g
  have hco0 := hco
  obtain ⟨m5, m6, m7, m8, m9, m10, m11, m12, m22⟩ := hco
  refine z_al0 (pc' := 66) 36 rfl rfl ?_
  refine z_getf (pc' := 69) 37 rfl rfl f_Cr_9_4 (by first | exact pcr_0 | exact pcr_1 | exact pcr_2 | exact pcr_3 | (rw [pcr_o (by omega)]; assumption)) (by rfl) ?_
  refine z_il5 (pc' := 71) 38 rfl rfl ?_
  refine z_iald (pc' := 72) 39 rfl rfl (by first | exact pcr_0 | exact pcr_1 | exact pcr_2 | exact pcr_3 | (rw [pcr_o (by omega)]; assumption)) (by omega) (by decide) ?_
  refine z_is6 rfl rfl (pc' := 74) 40 rfl rfl ?_
  refine z_al1 (pc' := 75) 41 rfl rfl ?_
  refine z_il6 (pc' := 77) 42 rfl rfl ?_
  refine z_al0 (pc' := 78) 43 rfl rfl ?_
  refine z_getf (pc' := 81) 44 rfl rfl f_Cr_23_4 (by first | exact pcr_0 | exact pcr_1 | exact pcr_2 | exact pcr_3 | (rw [pcr_o (by omega)]; assumption)) (by rfl) ?_
  refine z_callV1 (pc' := 84) 45 rfl rfl k_Cr_60 (by first | exact pcr_0 | exact pcr_1 | exact pcr_2 | exact pcr_3 | (rw [pcr_o (by omega)]; assumption)) (c_Co_blows (isCo_pcr hco0 ha) hi (by omega) (by omega)) (by decide) (Nat.le_refl _) (Nat.le_refl _) rfl rfl (Nat.le_of_ble_eq_true rfl) ?_
  first | refine z_if_eqB (pc' := 87) 46 rfl rfl (tgt := 151) rfl (fun h84 => ?_) (fun h84 => ?_) | refine z_if_eqN (pc' := 87) 46 rfl rfl (tgt := 151) rfl (by omega) (fun h84 => ?_) (fun h84 => ?_) | refine z_if_eq (pc' := 87) 46 rfl rfl (tgt := 151) rfl (fun h84 => ?_) (fun h84 => ?_)
  · refine z_il6 (pc' := 153) 85 rfl rfl ?_
    refine z_bipush (v := nI 6) (by decide) (pc' := 155) 86 rfl rfl ?_
    first | refine z_icmp_eqN (pc' := 158) 87 rfl rfl (tgt := 165) rfl (by omega) (by omega) (fun h155 => ?_) (fun h155 => ?_) | refine z_icmp_eq (pc' := 158) 87 rfl rfl (tgt := 165) rfl (fun h155 => ?_) (fun h155 => ?_)
    · refine z_less6 ?_
      rw [gs2, if_neg (fun z => h84 z.1), if_pos h155] at K
      exact K
    · refine z_al0 (pc' := 159) 88 rfl rfl ?_
      refine z_al1 (pc' := 160) 89 rfl rfl ?_
      refine z_il5 (pc' := 162) 90 rfl rfl ?_
      refine z_callV0 (pc' := 165) 91 rfl rfl k_Cr_76 (by first | exact pcr_0 | exact pcr_1 | exact pcr_2 | exact pcr_3 | (rw [pcr_o (by omega)]; assumption)) (c_Cr_wearsOut hco0 hi ha (by omega) (by omega) (by omega)) (by decide) (Nat.le_refl _) (Nat.le_refl _) rfl rfl (Nat.le_of_ble_eq_true rfl) ?_
      refine z_less6 ?_
      rw [gs2, if_neg (fun z => h84 z.1), if_neg h155] at K
      by_cases h1 : fa g ≤ 1
      · rw [if_pos h1] at K ⊢
        exact K
      · rw [if_neg h1] at K ⊢
        exact K
  · refine z_il4 (pc' := 89) 47 rfl rfl ?_
    refine z_il6 (pc' := 91) 48 rfl rfl ?_
    refine z_ishr (pc' := 92) 49 rfl rfl ?_
    refine z_iconst (v := nI 1) (by decide) (pc' := 93) 50 rfl rfl ?_
    refine z_iand (pc' := 94) 51 rfl rfl ?_
    rw [nb_bit (by omega) (by omega)]
    first | refine z_if_neB (pc' := 97) 52 rfl rfl (tgt := 151) rfl (fun h94 => ?_) (fun h94 => ?_) | refine z_if_neN (pc' := 97) 52 rfl rfl (tgt := 151) rfl (by omega) (fun h94 => ?_) (fun h94 => ?_) | refine z_if_ne (pc' := 97) 52 rfl rfl (tgt := 151) rfl (fun h94 => ?_) (fun h94 => ?_)
    · refine z_il6 (pc' := 153) 85 rfl rfl ?_
      refine z_bipush (v := nI 6) (by decide) (pc' := 155) 86 rfl rfl ?_
      first | refine z_icmp_eqN (pc' := 158) 87 rfl rfl (tgt := 165) rfl (by omega) (by omega) (fun h155 => ?_) (fun h155 => ?_) | refine z_icmp_eq (pc' := 158) 87 rfl rfl (tgt := 165) rfl (fun h155 => ?_) (fun h155 => ?_)
      · refine z_less6 ?_
        rw [gs2, if_neg (fun z => h94 z.2), if_pos h155] at K
        exact K
      · refine z_al0 (pc' := 159) 88 rfl rfl ?_
        refine z_al1 (pc' := 160) 89 rfl rfl ?_
        refine z_il5 (pc' := 162) 90 rfl rfl ?_
        refine z_callV0 (pc' := 165) 91 rfl rfl k_Cr_76 (by first | exact pcr_0 | exact pcr_1 | exact pcr_2 | exact pcr_3 | (rw [pcr_o (by omega)]; assumption)) (c_Cr_wearsOut hco0 hi ha (by omega) (by omega) (by omega)) (by decide) (Nat.le_refl _) (Nat.le_refl _) rfl rfl (Nat.le_of_ble_eq_true rfl) ?_
        refine z_less6 ?_
        rw [gs2, if_neg (fun z => h94 z.2), if_neg h155] at K
        by_cases h1 : fa g ≤ 1
        · rw [if_pos h1] at K ⊢
          exact K
        · rw [if_neg h1] at K ⊢
          exact K
    · refine z_il4 (pc' := 99) 53 rfl rfl ?_
      refine z_iconst (v := nI 1) (by decide) (pc' := 100) 54 rfl rfl ?_
      refine z_il6 (pc' := 102) 55 rfl rfl ?_
      refine z_ishl (pc' := 103) 56 rfl rfl ?_
      rw [nb_shl1 (by omega)]
      refine z_ior (pc' := 104) 57 rfl rfl ?_
      rw [nb_or]
      refine z_is4 rfl rfl (pc' := 106) 58 rfl rfl ?_
      refine z_al0 (pc' := 107) 59 rfl rfl ?_
      refine z_dup rfl (pc' := 108) 60 rfl rfl ?_
      refine z_getf (pc' := 111) 61 rfl rfl f_Cr_27_4 (by first | exact pcr_0 | exact pcr_1 | exact pcr_2 | exact pcr_3 | (rw [pcr_o (by omega)]; assumption)) (by rfl) ?_
      refine z_iconst (v := nI 1) (by decide) (pc' := 112) 62 rfl rfl ?_
      refine z_il5 (pc' := 114) 63 rfl rfl ?_
      refine z_ishl (pc' := 115) 64 rfl rfl ?_
      rw [nb_shl1 (by omega)]
      refine z_ior (pc' := 116) 65 rfl rfl ?_
      rw [nb_or]
      refine z_putf (pc' := 119) 66 rfl rfl f_Cr_27_4 (by first | exact pcr_0 | exact pcr_1 | exact pcr_2 | exact pcr_3 | (rw [pcr_o (by omega)]; assumption)) rfl rfl (by rfl) (by rfl) ?_
      dsimp only [List.set]
      rw [pcr_s0]
      refine z_al0 (pc' := 120) 67 rfl rfl ?_
      refine z_getf (pc' := 123) 68 rfl rfl f_Cr_15_4 (by first | exact pcr_0 | exact pcr_1 | exact pcr_2 | exact pcr_3 | (rw [pcr_o (by omega)]; assumption)) (by rfl) ?_
      refine z_il5 (pc' := 125) 69 rfl rfl ?_
      refine z_al1 (pc' := 126) 70 rfl rfl ?_
      refine z_getr (pc' := 129) 71 rfl rfl f_Cr_36_3 (by first | exact pcr_0 | exact pcr_1 | exact pcr_2 | exact pcr_3 | (rw [pcr_o (by omega)]; assumption)) (by rfl) ?_
      refine z_il5 (pc' := 131) 72 rfl rfl ?_
      refine z_iald (pc' := 132) 73 rfl rfl (by first | exact pcr_0 | exact pcr_1 | exact pcr_2 | exact pcr_3 | (rw [pcr_o (by omega)]; assumption)) (by omega) (by decide) ?_
      refine z_iast (pc' := 133) 74 rfl rfl (by first | exact pcr_0 | exact pcr_1 | exact pcr_2 | exact pcr_3 | (rw [pcr_o (by omega)]; assumption)) (by omega) (by decide) ?_
      rw [upd_n, pcr_s2]
      refine z_il3 (pc' := 134) 75 rfl rfl ?_
      refine z_al1 (pc' := 135) 76 rfl rfl ?_
      refine z_il5 (pc' := 137) 77 rfl rfl ?_
      refine z_il6 (pc' := 139) 78 rfl rfl ?_
      refine z_al0 (pc' := 140) 79 rfl rfl ?_
      refine z_getf (pc' := 143) 80 rfl rfl f_Cr_23_4 (by first | exact pcr_0 | exact pcr_1 | exact pcr_2 | exact pcr_3 | (rw [pcr_o (by omega)]; assumption)) (by rfl) ?_
      refine z_callV1 (pc' := 146) 81 rfl rfl k_Cr_72 (by first | exact pcr_0 | exact pcr_1 | exact pcr_2 | exact pcr_3 | (rw [pcr_o (by omega)]; assumption)) (c_Co_gainBy (isCo_pcr hco0 ha) hi (by omega) (by have := (blB_iff.mp h84).1; omega) hm) (by decide) (Nat.le_refl _) (Nat.le_refl _) rfl rfl (Nat.le_of_ble_eq_true rfl) ?_
      first | refine z_iaddN (pc' := 147) 82 rfl rfl ?_ | refine z_iadd (pc' := 147) 82 rfl rfl ?_
      refine z_is3 rfl rfl (pc' := 148) 83 rfl rfl ?_
      refine z_goto 84 rfl (tgt := 165) rfl ?_
      refine z_less6 ?_
      rw [gs2, if_pos ⟨h84, h94⟩] at K
      exact K
set_option maxHeartbeats 4000000 in
set_option maxRecDepth 100000 in
theorem l_Cr_passes {G : zG} {n u : Nat} {ν : Nat → va_E} {S : Nat → Nat → Nat} {sc ch : Int32} (hco : isCo ν S sc ch) (hi : iS S) {a mo : Nat} (ha : a = 13 ∨ 43 ≤ a) {β : Nat → Nat → Nat} {its : Nat → zI} {D : Nat → Nat → Nat → Nat → Nat → Nat → Nat} (hbk : isBk ν 17 β) (hD : dzB β its D) {act : Nat} (hm : mo ≤ 16) (hact : act < 2 ^ 31) : ∀ (j k : Nat) (pr fa q : Nat → Nat) (us cs wo : Nat), k + j = S 0 0 → iX S pr fa → us < 64 →
    zW G 4 M_Cr_passes 13 [.ref a, .ref 5, .int (nI act), .int (nI wo), .int (nI us), .int (nI k), .retAddr 0] [] n u (pcr ν a mo cs pr fa q) n u (zS (some (.int (nI (mgo S D mo act j k (pr, fa, us, cs, wo)).2.2.2.2))) (fun q9 : Nat → Nat => pcr ν a (mo + 1) (mgo S D mo act j k (pr, fa, us, cs, wo)).2.2.2.1 (mgo S D mo act j k (pr, fa, us, cs, wo)).1 (mgo S D mo act j k (pr, fa, us, cs, wo)).2.1 q9))
  | 0, k, pr, fa, q, us, cs, wo, e, hx, hu => by
    have hi0 := hi.1
    have hi1 := hi.2.1
    have hco0 := hco
    obtain ⟨m5, m6, m7, m8, m9, m10, m11, m12, m22⟩ := hco
    have hxk := hx k
    refine z_il5 (pc' := 15) 9 rfl rfl ?_
    refine z_al1 (pc' := 16) 10 rfl rfl ?_
    refine z_getf (pc' := 19) 11 rfl rfl f_Cr_41_3 (by first | exact pcr_0 | exact pcr_1 | exact pcr_2 | exact pcr_3 | (rw [pcr_o (by omega)]; assumption)) (by rfl) ?_
    first | refine z_icmp_geN (pc' := 22) 12 rfl rfl (tgt := 171) rfl (by omega) (by omega) (fun h19 => ?_) (fun h19 => ?_) | refine z_icmp_ge (pc' := 22) 12 rfl rfl (tgt := 171) rfl (fun h19 => ?_) (fun h19 => ?_)
    · refine z_al0 (pc' := 172) 94 rfl rfl ?_
      refine z_dup rfl (pc' := 173) 95 rfl rfl ?_
      refine z_getf (pc' := 176) 96 rfl rfl f_Cr_23_4 (by first | exact pcr_0 | exact pcr_1 | exact pcr_2 | exact pcr_3 | (rw [pcr_o (by omega)]; assumption)) (by rfl) ?_
      refine z_iconst (v := nI 1) (by decide) (pc' := 177) 97 rfl rfl ?_
      first | refine z_iaddN (pc' := 178) 98 rfl rfl ?_ | refine z_iadd (pc' := 178) 98 rfl rfl ?_
      refine z_putf (pc' := 181) 99 rfl rfl f_Cr_23_4 (by first | exact pcr_0 | exact pcr_1 | exact pcr_2 | exact pcr_3 | (rw [pcr_o (by omega)]; assumption)) rfl rfl (by rfl) (by rfl) ?_
      dsimp only [List.set]
      rw [pcr_s0]
      refine z_il3 (pc' := 182) 100 rfl rfl ?_
      exact z_ireturn 101 rfl rfl (by first | rfl | exact zbo_nar) rfl rfl (by exact ⟨rfl, q, rfl⟩)
    · exfalso; omega
  | j + 1, k, pr, fa, q, us, cs, wo, e, hx, hu => by
    have hi0 := hi.1
    have hi1 := hi.2.1
    have hco0 := hco
    obtain ⟨m5, m6, m7, m8, m9, m10, m11, m12, m22⟩ := hco
    have hxk := hx k
    refine z_il5 (pc' := 15) 9 rfl rfl ?_
    refine z_al1 (pc' := 16) 10 rfl rfl ?_
    refine z_getf (pc' := 19) 11 rfl rfl f_Cr_41_3 (by first | exact pcr_0 | exact pcr_1 | exact pcr_2 | exact pcr_3 | (rw [pcr_o (by omega)]; assumption)) (by rfl) ?_
    first | refine z_icmp_geN (pc' := 22) 12 rfl rfl (tgt := 171) rfl (by omega) (by omega) (fun h19 => ?_) (fun h19 => ?_) | refine z_icmp_ge (pc' := 22) 12 rfl rfl (tgt := 171) rfl (fun h19 => ?_) (fun h19 => ?_)
    · exfalso; omega
    · refine z_il5 (pc' := 24) 13 rfl rfl ?_
      refine z_iconst (v := nI 1) (by decide) (pc' := 25) 14 rfl rfl ?_
      first | refine z_iaddN (pc' := 26) 15 rfl rfl ?_ | refine z_iadd (pc' := 26) 15 rfl rfl ?_
      refine z_il2 (pc' := 27) 16 rfl rfl ?_
      first | refine z_icmp_neN (pc' := 30) 17 rfl rfl (tgt := 33) rfl (by omega) (by omega) (fun h27 => ?_) (fun h27 => ?_) | refine z_icmp_ne (pc' := 30) 17 rfl rfl (tgt := 33) rfl (fun h27 => ?_) (fun h27 => ?_)
      · refine z_al1 (pc' := 34) 19 rfl rfl ?_
        refine z_al0 (pc' := 35) 20 rfl rfl ?_
        refine z_getf (pc' := 38) 21 rfl rfl f_Cr_9_4 (by first | exact pcr_0 | exact pcr_1 | exact pcr_2 | exact pcr_3 | (rw [pcr_o (by omega)]; assumption)) (by rfl) ?_
        refine z_il5 (pc' := 40) 22 rfl rfl ?_
        refine z_iald (pc' := 41) 23 rfl rfl (by first | exact pcr_0 | exact pcr_1 | exact pcr_2 | exact pcr_3 | (rw [pcr_o (by omega)]; assumption)) (by omega) (by decide) ?_
        refine z_al0 (pc' := 42) 24 rfl rfl ?_
        refine z_getf (pc' := 45) 25 rfl rfl f_Cr_23_4 (by first | exact pcr_0 | exact pcr_1 | exact pcr_2 | exact pcr_3 | (rw [pcr_o (by omega)]; assumption)) (by rfl) ?_
        refine z_callV1 (pc' := 48) 26 rfl rfl k_Cr_60 (by first | exact pcr_0 | exact pcr_1 | exact pcr_2 | exact pcr_3 | (rw [pcr_o (by omega)]; assumption)) (c_Co_blows (isCo_pcr hco0 ha) hi (by omega) (by omega)) (by decide) (Nat.le_refl _) (Nat.le_refl _) rfl rfl (Nat.le_of_ble_eq_true rfl) ?_
        first | refine z_if_neB (pc' := 51) 27 rfl rfl (tgt := 65) rfl (fun h48 => ?_) (fun h48 => ?_) | refine z_if_neN (pc' := 51) 27 rfl rfl (tgt := 65) rfl (by omega) (fun h48 => ?_) (fun h48 => ?_) | refine z_if_ne (pc' := 51) 27 rfl rfl (tgt := 65) rfl (fun h48 => ?_) (fun h48 => ?_)
        · have c9 : ca1 S D mo k pr fa = (pr, fa) := if_pos h48
          have e9 : gst S D mo act k (pr, fa, us, cs, wo) = gs2 S mo k (ca1 S D mo k pr fa).1 (ca1 S D mo k pr fa).2 us cs wo := if_neg h27
          have hg9 := gs2_ok (t := mo) (us := us) (cs := cs) (wo := wo) hi hx (g := k) (by omega) hu
          rw [mgo, e9, c9]
          refine l_Cr_passes65 hco0 hi ha hx hm (by omega) hu ?_
          first | refine z_inc5N rfl rfl (pc' := 168) 92 rfl rfl ?_ | refine z_inc5 rfl rfl rfl (pc' := 168) 92 rfl rfl ?_
          refine z_goto 93 rfl (tgt := 13) rfl ?_
          exact l_Cr_passes hco0 hi ha hbk hD hm hact j (k + 1) _ _ _ _ _ _ (by omega) hg9.1 hg9.2
        · refine z_al0 (pc' := 52) 28 rfl rfl ?_
          refine z_al1 (pc' := 53) 29 rfl rfl ?_
          refine z_il5 (pc' := 55) 30 rfl rfl ?_
          refine z_al0 (pc' := 56) 31 rfl rfl ?_
          refine z_al1 (pc' := 57) 32 rfl rfl ?_
          refine z_il5 (pc' := 59) 33 rfl rfl ?_
          refine z_callV1 (pc' := 62) 34 rfl rfl k_Cr_64 (by first | exact pcr_0 | exact pcr_1 | exact pcr_2 | exact pcr_3 | (rw [pcr_o (by omega)]; assumption)) (c_Cr_doesInCalm hco0 hi ha hbk hD (by omega) hm (fun j => (hx j).2.1)) (by decide) (Nat.le_refl _) (Nat.le_refl _) rfl rfl (Nat.le_of_ble_eq_true rfl) ?_
          refine z_callV0 (pc' := 65) 35 rfl rfl k_Cr_68 (by first | exact pcr_0 | exact pcr_1 | exact pcr_2 | exact pcr_3 | (rw [pcr_o (by omega)]; assumption)) (c_Cr_meetsCalm hco0 hi ha (by omega) hm (by rw [← hD.2 _ _ _ _ _ _ q]; exact tlN_le hD.1 _ _ (by omega)) (fun j => (hx j).1)) (by decide) (Nat.le_refl _) (Nat.le_refl _) rfl rfl (Nat.le_of_ble_eq_true rfl) ?_
          have c9 : ca1 S D mo k pr fa = cal S mo k (D (S 1 k) mo (fa k) (S 3 k) (S 2 k) k) pr fa := if_neg h48
          have e9 : gst S D mo act k (pr, fa, us, cs, wo) = gs2 S mo k (ca1 S D mo k pr fa).1 (ca1 S D mo k pr fa).2 us cs wo := if_neg h27
          have hg9 := gs2_ok (t := mo) (us := us) (cs := cs) (wo := wo) hi (iX_cal (t := mo) (dz := D (S 1 k) mo (fa k) (S 3 k) (S 2 k) k) hi hx (by omega)) (g := k) (by omega) hu
          rw [mgo, e9, c9]
          refine l_Cr_passes65 hco0 hi ha (iX_cal (t := mo) (dz := D (S 1 k) mo (fa k) (S 3 k) (S 2 k) k) hi hx (by omega)) hm (by omega) hu ?_
          first | refine z_inc5N rfl rfl (pc' := 168) 92 rfl rfl ?_ | refine z_inc5 rfl rfl rfl (pc' := 168) 92 rfl rfl ?_
          refine z_goto 93 rfl (tgt := 13) rfl ?_
          exact l_Cr_passes hco0 hi ha hbk hD hm hact j (k + 1) _ _ _ _ _ _ (by omega) hg9.1 hg9.2
      · refine z_goto 18 rfl (tgt := 165) rfl ?_
        first | refine z_inc5N rfl rfl (pc' := 168) 92 rfl rfl ?_ | refine z_inc5 rfl rfl rfl (pc' := 168) 92 rfl rfl ?_
        refine z_goto 93 rfl (tgt := 13) rfl ?_
        have e9 : gst S D mo act k (pr, fa, us, cs, wo) = (pr, fa, us, cs, wo) := if_pos h27
        rw [mgo, e9]
        exact l_Cr_passes hco0 hi ha hbk hD hm hact j (k + 1) pr fa q us cs wo (by omega) hx hu
set_option maxHeartbeats 4000000 in
set_option maxRecDepth 100000 in
theorem c_Cr_passes {G : zG} {n u : Nat} {ν : Nat → va_E} {S : Nat → Nat → Nat} {sc ch : Int32} (hco : isCo ν S sc ch) (hi : iS S) {a mo cs : Nat} {pr fa q : Nat → Nat} (ha : a = 13 ∨ 43 ≤ a) {β : Nat → Nat → Nat} {its : Nat → zI} {D : Nat → Nat → Nat → Nat → Nat → Nat → Nat} (hbk : isBk ν 17 β) (hD : dzB β its D) {act : Nat} (hm : mo ≤ 16) (hact : act < 2 ^ 31) (hx : iX S pr fa) :
    zMet G 4 M_Cr_passes [.ref a, .ref 5, .int (nI act)] n u (pcr ν a mo cs pr fa q) n u (zS (some (.int (nI (mon S D mo act pr fa).2.2.2.2))) (fun q9 : Nat → Nat => pcr ν a (mo + 1) (mon S D mo act pr fa).2.2.2.1 (mon S D mo act pr fa).1 (mon S D mo act pr fa).2.1 q9)) := by
  refine z_start (lv := [.ref a, .ref 5, .int (nI act), .retAddr 0, .retAddr 0, .retAddr 0, .retAddr 0]) K_Cr_passes rfl rfl (Nat.le_refl _) (Nat.le_refl _) (Nat.le_of_ble_eq_true rfl) rfl ?_
  refine z_iconst (v := nI 0) (by decide) (pc' := 1) 0 rfl rfl ?_
  refine z_is3 rfl rfl (pc' := 2) 1 rfl rfl ?_
  refine z_iconst (v := nI 0) (by decide) (pc' := 3) 2 rfl rfl ?_
  refine z_is4 rfl rfl (pc' := 5) 3 rfl rfl ?_
  refine z_al0 (pc' := 6) 4 rfl rfl ?_
  refine z_iconst (v := nI 0) (by decide) (pc' := 7) 5 rfl rfl ?_
  refine z_putf (pc' := 10) 6 rfl rfl f_Cr_27_4 (by first | exact pcr_0 | exact pcr_1 | exact pcr_2 | exact pcr_3 | (rw [pcr_o (by omega)]; assumption)) rfl rfl (by rfl) (by rfl) ?_
  dsimp only [List.set]
  rw [pcr_s0]
  refine z_iconst (v := nI 0) (by decide) (pc' := 11) 7 rfl rfl ?_
  refine z_is5 rfl rfl (pc' := 13) 8 rfl rfl ?_
  exact l_Cr_passes hco hi ha hbk hD hm hact (S 0 0) 0 pr fa q 0 0 0 (by omega) hx (by decide)
end
section
/-! ===== the reference (cell 88): its numbers s by the fields' places, its row m (cell 89) ===== -/
def mob (s : Nat → Int32) : va_E := .inr (12, [.ref 89, .ref 90, .ref 91, .int (s 3), .ref 92, .int (s 5), .int (s 6), .int (s 7), .int (s 8), .int (s 9), .int (s 10), .int (s 11), .int (s 12), .ref 93, .int (s 14), .ref 94, .ref 95, .int (s 17), .int (s 18), .int (s 19), .int (s 20), .ref 96, .ref 97, .int (s 23), .ref 98, .ref 99, .ref 100, .ref 101, .ref 102, .ref 103, .ref 104, .ref 105, .int (s 32), .int (s 33)])
def pm (ν : Nat → va_E) (s m : Nat → Int32) : Nat → va_E := zu (zu ν 88 (mob s)) 89 (.inl (0, 618, .inl m))
section PM
variable {ν : Nat → va_E} {s m : Nat → Int32}
theorem pm_0 : pm ν s m 88 = mob s := by
  unfold pm
  rw [zu_n (by decide), zu_s]
theorem pm_f : pm ν s m 88 = .inr (12, [.ref 89, .ref 90, .ref 91, .int (s 3), .ref 92, .int (s 5), .int (s 6), .int (s 7), .int (s 8), .int (s 9), .int (s 10), .int (s 11), .int (s 12), .ref 93, .int (s 14), .ref 94, .ref 95, .int (s 17), .int (s 18), .int (s 19), .int (s 20), .ref 96, .ref 97, .int (s 23), .ref 98, .ref 99, .ref 100, .ref 101, .ref 102, .ref 103, .ref 104, .ref 105, .int (s 32), .int (s 33)]) := pm_0
theorem pm_1 : pm ν s m 89 = .inl (0, 618, .inl m) := by
  unfold pm
  rw [zu_s]
theorem pm_o {b : Nat} (h : b < 88 ∨ 89 < b) : pm ν s m b = ν b := by
  unfold pm
  rw [zu_n (by omega), zu_n (by omega)]
theorem pm_s1 {m' : Nat → Int32} : zu (pm ν s m) 89 (.inl (0, 618, .inl m')) = pm ν s m' := by
  unfold pm
  rw [zu_zu]
theorem pm_s0 {s' : Nat → Int32} : zu (pm ν s m) 88 (mob s') = pm ν s' m := by
  unfold pm
  rw [zu_sw (a := 89) (b := 88) (by decide), zu_zu]
theorem pm_out {b : Nat} {c : va_E} (h : b < 88 ∨ 89 < b) : zu (pm ν s m) b c = pm (zu ν b c) s m := by
  unfold pm
  rw [zu_sw (a := 89) (b := b) (by omega), zu_sw (a := 88) (b := b) (by omega)]
theorem mob_3 {v : Int32} : (Sum.inr (12, [.ref 89, .ref 90, .ref 91, .int v, .ref 92, .int (s 5), .int (s 6), .int (s 7), .int (s 8), .int (s 9), .int (s 10), .int (s 11), .int (s 12), .ref 93, .int (s 14), .ref 94, .ref 95, .int (s 17), .int (s 18), .int (s 19), .int (s 20), .ref 96, .ref 97, .int (s 23), .ref 98, .ref 99, .ref 100, .ref 101, .ref 102, .ref 103, .ref 104, .ref 105, .int (s 32), .int (s 33)]) : va_E) = mob (un s 3 v) := rfl
theorem mob_5 {v : Int32} : (Sum.inr (12, [.ref 89, .ref 90, .ref 91, .int (s 3), .ref 92, .int v, .int (s 6), .int (s 7), .int (s 8), .int (s 9), .int (s 10), .int (s 11), .int (s 12), .ref 93, .int (s 14), .ref 94, .ref 95, .int (s 17), .int (s 18), .int (s 19), .int (s 20), .ref 96, .ref 97, .int (s 23), .ref 98, .ref 99, .ref 100, .ref 101, .ref 102, .ref 103, .ref 104, .ref 105, .int (s 32), .int (s 33)]) : va_E) = mob (un s 5 v) := rfl
theorem mob_6 {v : Int32} : (Sum.inr (12, [.ref 89, .ref 90, .ref 91, .int (s 3), .ref 92, .int (s 5), .int v, .int (s 7), .int (s 8), .int (s 9), .int (s 10), .int (s 11), .int (s 12), .ref 93, .int (s 14), .ref 94, .ref 95, .int (s 17), .int (s 18), .int (s 19), .int (s 20), .ref 96, .ref 97, .int (s 23), .ref 98, .ref 99, .ref 100, .ref 101, .ref 102, .ref 103, .ref 104, .ref 105, .int (s 32), .int (s 33)]) : va_E) = mob (un s 6 v) := rfl
theorem mob_7 {v : Int32} : (Sum.inr (12, [.ref 89, .ref 90, .ref 91, .int (s 3), .ref 92, .int (s 5), .int (s 6), .int v, .int (s 8), .int (s 9), .int (s 10), .int (s 11), .int (s 12), .ref 93, .int (s 14), .ref 94, .ref 95, .int (s 17), .int (s 18), .int (s 19), .int (s 20), .ref 96, .ref 97, .int (s 23), .ref 98, .ref 99, .ref 100, .ref 101, .ref 102, .ref 103, .ref 104, .ref 105, .int (s 32), .int (s 33)]) : va_E) = mob (un s 7 v) := rfl
theorem mob_8 {v : Int32} : (Sum.inr (12, [.ref 89, .ref 90, .ref 91, .int (s 3), .ref 92, .int (s 5), .int (s 6), .int (s 7), .int v, .int (s 9), .int (s 10), .int (s 11), .int (s 12), .ref 93, .int (s 14), .ref 94, .ref 95, .int (s 17), .int (s 18), .int (s 19), .int (s 20), .ref 96, .ref 97, .int (s 23), .ref 98, .ref 99, .ref 100, .ref 101, .ref 102, .ref 103, .ref 104, .ref 105, .int (s 32), .int (s 33)]) : va_E) = mob (un s 8 v) := rfl
theorem mob_9 {v : Int32} : (Sum.inr (12, [.ref 89, .ref 90, .ref 91, .int (s 3), .ref 92, .int (s 5), .int (s 6), .int (s 7), .int (s 8), .int v, .int (s 10), .int (s 11), .int (s 12), .ref 93, .int (s 14), .ref 94, .ref 95, .int (s 17), .int (s 18), .int (s 19), .int (s 20), .ref 96, .ref 97, .int (s 23), .ref 98, .ref 99, .ref 100, .ref 101, .ref 102, .ref 103, .ref 104, .ref 105, .int (s 32), .int (s 33)]) : va_E) = mob (un s 9 v) := rfl
theorem mob_10 {v : Int32} : (Sum.inr (12, [.ref 89, .ref 90, .ref 91, .int (s 3), .ref 92, .int (s 5), .int (s 6), .int (s 7), .int (s 8), .int (s 9), .int v, .int (s 11), .int (s 12), .ref 93, .int (s 14), .ref 94, .ref 95, .int (s 17), .int (s 18), .int (s 19), .int (s 20), .ref 96, .ref 97, .int (s 23), .ref 98, .ref 99, .ref 100, .ref 101, .ref 102, .ref 103, .ref 104, .ref 105, .int (s 32), .int (s 33)]) : va_E) = mob (un s 10 v) := rfl
theorem mob_11 {v : Int32} : (Sum.inr (12, [.ref 89, .ref 90, .ref 91, .int (s 3), .ref 92, .int (s 5), .int (s 6), .int (s 7), .int (s 8), .int (s 9), .int (s 10), .int v, .int (s 12), .ref 93, .int (s 14), .ref 94, .ref 95, .int (s 17), .int (s 18), .int (s 19), .int (s 20), .ref 96, .ref 97, .int (s 23), .ref 98, .ref 99, .ref 100, .ref 101, .ref 102, .ref 103, .ref 104, .ref 105, .int (s 32), .int (s 33)]) : va_E) = mob (un s 11 v) := rfl
theorem mob_12 {v : Int32} : (Sum.inr (12, [.ref 89, .ref 90, .ref 91, .int (s 3), .ref 92, .int (s 5), .int (s 6), .int (s 7), .int (s 8), .int (s 9), .int (s 10), .int (s 11), .int v, .ref 93, .int (s 14), .ref 94, .ref 95, .int (s 17), .int (s 18), .int (s 19), .int (s 20), .ref 96, .ref 97, .int (s 23), .ref 98, .ref 99, .ref 100, .ref 101, .ref 102, .ref 103, .ref 104, .ref 105, .int (s 32), .int (s 33)]) : va_E) = mob (un s 12 v) := rfl
theorem mob_14 {v : Int32} : (Sum.inr (12, [.ref 89, .ref 90, .ref 91, .int (s 3), .ref 92, .int (s 5), .int (s 6), .int (s 7), .int (s 8), .int (s 9), .int (s 10), .int (s 11), .int (s 12), .ref 93, .int v, .ref 94, .ref 95, .int (s 17), .int (s 18), .int (s 19), .int (s 20), .ref 96, .ref 97, .int (s 23), .ref 98, .ref 99, .ref 100, .ref 101, .ref 102, .ref 103, .ref 104, .ref 105, .int (s 32), .int (s 33)]) : va_E) = mob (un s 14 v) := rfl
theorem mob_17 {v : Int32} : (Sum.inr (12, [.ref 89, .ref 90, .ref 91, .int (s 3), .ref 92, .int (s 5), .int (s 6), .int (s 7), .int (s 8), .int (s 9), .int (s 10), .int (s 11), .int (s 12), .ref 93, .int (s 14), .ref 94, .ref 95, .int v, .int (s 18), .int (s 19), .int (s 20), .ref 96, .ref 97, .int (s 23), .ref 98, .ref 99, .ref 100, .ref 101, .ref 102, .ref 103, .ref 104, .ref 105, .int (s 32), .int (s 33)]) : va_E) = mob (un s 17 v) := rfl
theorem mob_18 {v : Int32} : (Sum.inr (12, [.ref 89, .ref 90, .ref 91, .int (s 3), .ref 92, .int (s 5), .int (s 6), .int (s 7), .int (s 8), .int (s 9), .int (s 10), .int (s 11), .int (s 12), .ref 93, .int (s 14), .ref 94, .ref 95, .int (s 17), .int v, .int (s 19), .int (s 20), .ref 96, .ref 97, .int (s 23), .ref 98, .ref 99, .ref 100, .ref 101, .ref 102, .ref 103, .ref 104, .ref 105, .int (s 32), .int (s 33)]) : va_E) = mob (un s 18 v) := rfl
theorem mob_19 {v : Int32} : (Sum.inr (12, [.ref 89, .ref 90, .ref 91, .int (s 3), .ref 92, .int (s 5), .int (s 6), .int (s 7), .int (s 8), .int (s 9), .int (s 10), .int (s 11), .int (s 12), .ref 93, .int (s 14), .ref 94, .ref 95, .int (s 17), .int (s 18), .int v, .int (s 20), .ref 96, .ref 97, .int (s 23), .ref 98, .ref 99, .ref 100, .ref 101, .ref 102, .ref 103, .ref 104, .ref 105, .int (s 32), .int (s 33)]) : va_E) = mob (un s 19 v) := rfl
theorem mob_20 {v : Int32} : (Sum.inr (12, [.ref 89, .ref 90, .ref 91, .int (s 3), .ref 92, .int (s 5), .int (s 6), .int (s 7), .int (s 8), .int (s 9), .int (s 10), .int (s 11), .int (s 12), .ref 93, .int (s 14), .ref 94, .ref 95, .int (s 17), .int (s 18), .int (s 19), .int v, .ref 96, .ref 97, .int (s 23), .ref 98, .ref 99, .ref 100, .ref 101, .ref 102, .ref 103, .ref 104, .ref 105, .int (s 32), .int (s 33)]) : va_E) = mob (un s 20 v) := rfl
theorem mob_23 {v : Int32} : (Sum.inr (12, [.ref 89, .ref 90, .ref 91, .int (s 3), .ref 92, .int (s 5), .int (s 6), .int (s 7), .int (s 8), .int (s 9), .int (s 10), .int (s 11), .int (s 12), .ref 93, .int (s 14), .ref 94, .ref 95, .int (s 17), .int (s 18), .int (s 19), .int (s 20), .ref 96, .ref 97, .int v, .ref 98, .ref 99, .ref 100, .ref 101, .ref 102, .ref 103, .ref 104, .ref 105, .int (s 32), .int (s 33)]) : va_E) = mob (un s 23 v) := rfl
theorem mob_32 {v : Int32} : (Sum.inr (12, [.ref 89, .ref 90, .ref 91, .int (s 3), .ref 92, .int (s 5), .int (s 6), .int (s 7), .int (s 8), .int (s 9), .int (s 10), .int (s 11), .int (s 12), .ref 93, .int (s 14), .ref 94, .ref 95, .int (s 17), .int (s 18), .int (s 19), .int (s 20), .ref 96, .ref 97, .int (s 23), .ref 98, .ref 99, .ref 100, .ref 101, .ref 102, .ref 103, .ref 104, .ref 105, .int v, .int (s 33)]) : va_E) = mob (un s 32 v) := rfl
theorem mob_33 {v : Int32} : (Sum.inr (12, [.ref 89, .ref 90, .ref 91, .int (s 3), .ref 92, .int (s 5), .int (s 6), .int (s 7), .int (s 8), .int (s 9), .int (s 10), .int (s 11), .int (s 12), .ref 93, .int (s 14), .ref 94, .ref 95, .int (s 17), .int (s 18), .int (s 19), .int (s 20), .ref 96, .ref 97, .int (s 23), .ref 98, .ref 99, .ref 100, .ref 101, .ref 102, .ref 103, .ref 104, .ref 105, .int (s 32), .int v]) : va_E) = mob (un s 33 v) := rfl
end PM
/-! ===== what the reference's row holds ===== -/
def hasI (w : Nat) : Int32 := if w = 6 then -1 else nI w
def mk (S : Nat → Nat → Nat) (mo : Nat) (pr fa : Nat → Nat) (sc ch : Int32) (rc : Nat) (ρ : Nat → Int32) : Nat → Int32 := fun i =>
  if i = 0 then nI (S 0 3) else if i = 1 then nI mo else if i = 2 then nI (S 0 1) else if i = 3 then nI (S 0 0) else if i = 4 then sc else if i = 5 then ch else if i = 6 then nI (S 0 2) else if i = 7 then nI rc
  else if i < 32 then (if (i - 8) % 4 = 0 then nI (S 4 ((i - 8) / 4)) else if (i - 8) % 4 = 1 then nI (S 5 ((i - 8) / 4)) else if (i - 8) % 4 = 2 then nI (S 6 ((i - 8) / 4)) else nI (S 7 ((i - 8) / 4)))
  else if i < 62 then (if (i - 32) % 5 = 0 then nI (S 1 ((i - 32) / 5)) else if (i - 32) % 5 = 1 then nI (S 2 ((i - 32) / 5)) else if (i - 32) % 5 = 2 then nI (S 3 ((i - 32) / 5)) else if (i - 32) % 5 = 3 then hasI (pr ((i - 32) / 5)) else nI (fa ((i - 32) / 5)))
  else if i < 86 then nI (S 8 (i - 62)) else ρ i
section MK
variable {S : Nat → Nat → Nat} {mo : Nat} {pr fa : Nat → Nat} {sc ch : Int32} {rc : Nat} {ρ : Nat → Int32}
theorem mk_0 : mk S mo pr fa sc ch rc ρ 0 = nI (S 0 3) := rfl
theorem mk_1 : mk S mo pr fa sc ch rc ρ 1 = nI mo := rfl
theorem mk_2 : mk S mo pr fa sc ch rc ρ 2 = nI (S 0 1) := rfl
theorem mk_3 : mk S mo pr fa sc ch rc ρ 3 = nI (S 0 0) := rfl
theorem mk_4 : mk S mo pr fa sc ch rc ρ 4 = sc := rfl
theorem mk_5 : mk S mo pr fa sc ch rc ρ 5 = ch := rfl
theorem mk_6 : mk S mo pr fa sc ch rc ρ 6 = nI (S 0 2) := rfl
theorem mk_7 : mk S mo pr fa sc ch rc ρ 7 = nI rc := rfl
theorem mk_w0 {w : Nat} (hw : w < 6) : mk S mo pr fa sc ch rc ρ (8 + 4 * w + 0) = nI (S 4 w) := by
  unfold mk
  rw [if_neg (by omega), if_neg (by omega), if_neg (by omega), if_neg (by omega), if_neg (by omega), if_neg (by omega), if_neg (by omega), if_neg (by omega), if_pos (by omega), show 8 + 4 * w + 0 - 8 = 4 * w + 0 by omega, show (4 * w + 0) / 4 = w by omega, show (4 * w + 0) % 4 = 0 by omega]
  rfl
theorem mk_w1 {w : Nat} (hw : w < 6) : mk S mo pr fa sc ch rc ρ (8 + 4 * w + 1) = nI (S 5 w) := by
  unfold mk
  rw [if_neg (by omega), if_neg (by omega), if_neg (by omega), if_neg (by omega), if_neg (by omega), if_neg (by omega), if_neg (by omega), if_neg (by omega), if_pos (by omega), show 8 + 4 * w + 1 - 8 = 4 * w + 1 by omega, show (4 * w + 1) / 4 = w by omega, show (4 * w + 1) % 4 = 1 by omega]
  rfl
theorem mk_w2 {w : Nat} (hw : w < 6) : mk S mo pr fa sc ch rc ρ (8 + 4 * w + 2) = nI (S 6 w) := by
  unfold mk
  rw [if_neg (by omega), if_neg (by omega), if_neg (by omega), if_neg (by omega), if_neg (by omega), if_neg (by omega), if_neg (by omega), if_neg (by omega), if_pos (by omega), show 8 + 4 * w + 2 - 8 = 4 * w + 2 by omega, show (4 * w + 2) / 4 = w by omega, show (4 * w + 2) % 4 = 2 by omega]
  rfl
theorem mk_w3 {w : Nat} (hw : w < 6) : mk S mo pr fa sc ch rc ρ (8 + 4 * w + 3) = nI (S 7 w) := by
  unfold mk
  rw [if_neg (by omega), if_neg (by omega), if_neg (by omega), if_neg (by omega), if_neg (by omega), if_neg (by omega), if_neg (by omega), if_neg (by omega), if_pos (by omega), show 8 + 4 * w + 3 - 8 = 4 * w + 3 by omega, show (4 * w + 3) / 4 = w by omega, show (4 * w + 3) % 4 = 3 by omega]
  rfl
theorem mk_g0 {g : Nat} (hg : g < 6) : mk S mo pr fa sc ch rc ρ (32 + 5 * g + 0) = nI (S 1 g) := by
  unfold mk
  rw [if_neg (by omega), if_neg (by omega), if_neg (by omega), if_neg (by omega), if_neg (by omega), if_neg (by omega), if_neg (by omega), if_neg (by omega), if_neg (by omega), if_pos (by omega), show 32 + 5 * g + 0 - 32 = 5 * g + 0 by omega, show (5 * g + 0) / 5 = g by omega, show (5 * g + 0) % 5 = 0 by omega]
  rfl
theorem mk_g1 {g : Nat} (hg : g < 6) : mk S mo pr fa sc ch rc ρ (32 + 5 * g + 1) = nI (S 2 g) := by
  unfold mk
  rw [if_neg (by omega), if_neg (by omega), if_neg (by omega), if_neg (by omega), if_neg (by omega), if_neg (by omega), if_neg (by omega), if_neg (by omega), if_neg (by omega), if_pos (by omega), show 32 + 5 * g + 1 - 32 = 5 * g + 1 by omega, show (5 * g + 1) / 5 = g by omega, show (5 * g + 1) % 5 = 1 by omega]
  rfl
theorem mk_g2 {g : Nat} (hg : g < 6) : mk S mo pr fa sc ch rc ρ (32 + 5 * g + 2) = nI (S 3 g) := by
  unfold mk
  rw [if_neg (by omega), if_neg (by omega), if_neg (by omega), if_neg (by omega), if_neg (by omega), if_neg (by omega), if_neg (by omega), if_neg (by omega), if_neg (by omega), if_pos (by omega), show 32 + 5 * g + 2 - 32 = 5 * g + 2 by omega, show (5 * g + 2) / 5 = g by omega, show (5 * g + 2) % 5 = 2 by omega]
  rfl
theorem mk_g3 {g : Nat} (hg : g < 6) : mk S mo pr fa sc ch rc ρ (32 + 5 * g + 3) = hasI (pr g) := by
  unfold mk
  rw [if_neg (by omega), if_neg (by omega), if_neg (by omega), if_neg (by omega), if_neg (by omega), if_neg (by omega), if_neg (by omega), if_neg (by omega), if_neg (by omega), if_pos (by omega), show 32 + 5 * g + 3 - 32 = 5 * g + 3 by omega, show (5 * g + 3) / 5 = g by omega, show (5 * g + 3) % 5 = 3 by omega]
  rfl
theorem mk_g4 {g : Nat} (hg : g < 6) : mk S mo pr fa sc ch rc ρ (32 + 5 * g + 4) = nI (fa g) := by
  unfold mk
  rw [if_neg (by omega), if_neg (by omega), if_neg (by omega), if_neg (by omega), if_neg (by omega), if_neg (by omega), if_neg (by omega), if_neg (by omega), if_neg (by omega), if_pos (by omega), show 32 + 5 * g + 4 - 32 = 5 * g + 4 by omega, show (5 * g + 4) / 5 = g by omega, show (5 * g + 4) % 5 = 4 by omega]
  rfl
theorem mk_r {r : Nat} (hr : r < 24) : mk S mo pr fa sc ch rc ρ (62 + r) = nI (S 8 r) := by
  unfold mk
  rw [if_neg (by omega), if_neg (by omega), if_neg (by omega), if_neg (by omega), if_neg (by omega), if_neg (by omega), if_neg (by omega), if_neg (by omega), if_neg (by omega), if_neg (by omega), if_pos (by omega), show 62 + r - 62 = r by omega]
theorem mk_s {i : Nat} (hi : 86 ≤ i) : mk S mo pr fa sc ch rc ρ i = ρ i := by
  unfold mk
  rw [if_neg (by omega), if_neg (by omega), if_neg (by omega), if_neg (by omega), if_neg (by omega), if_neg (by omega), if_neg (by omega), if_neg (by omega), if_neg (by omega), if_neg (by omega), if_neg (by omega)]
theorem mk_cases {P : Nat → Prop} (h8 : ∀ i, i < 8 → P i) (hw : ∀ w, w < 6 → P (8 + 4 * w + 0) ∧ P (8 + 4 * w + 1) ∧ P (8 + 4 * w + 2) ∧ P (8 + 4 * w + 3)) (hg : ∀ g, g < 6 → P (32 + 5 * g + 0) ∧ P (32 + 5 * g + 1) ∧ P (32 + 5 * g + 2) ∧ P (32 + 5 * g + 3) ∧ P (32 + 5 * g + 4)) (hr : ∀ r, r < 24 → P (62 + r)) (hs : ∀ i, 86 ≤ i → P i) : ∀ i, P i := by
  intro i
  rcases Nat.lt_or_ge i 8 with h | h
  · exact h8 i h
  rcases Nat.lt_or_ge i 32 with h1 | h1
  · obtain ⟨q0, q1, q2, q3⟩ := hw ((i - 8) / 4) (by omega)
    rcases (show i = 8 + 4 * ((i - 8) / 4) + 0 ∨ i = 8 + 4 * ((i - 8) / 4) + 1 ∨ i = 8 + 4 * ((i - 8) / 4) + 2 ∨ i = 8 + 4 * ((i - 8) / 4) + 3 by omega) with e | e | e | e <;> rw [e] <;> assumption
  rcases Nat.lt_or_ge i 62 with h2 | h2
  · obtain ⟨q0, q1, q2, q3, q4⟩ := hg ((i - 32) / 5) (by omega)
    rcases (show i = 32 + 5 * ((i - 32) / 5) + 0 ∨ i = 32 + 5 * ((i - 32) / 5) + 1 ∨ i = 32 + 5 * ((i - 32) / 5) + 2 ∨ i = 32 + 5 * ((i - 32) / 5) + 3 ∨ i = 32 + 5 * ((i - 32) / 5) + 4 by omega) with e | e | e | e | e <;> rw [e] <;> assumption
  rcases Nat.lt_or_ge i 86 with h3 | h3
  · have := hr (i - 62) (by omega)
    rwa [show 62 + (i - 62) = i by omega] at this
  · exact hs i h3
theorem upd_at {f : Nat → Int32} {k : Nat} {x : Int32} : upd f k x k = x := if_pos rfl
theorem upd_no {f : Nat → Int32} {k i : Nat} {x : Int32} (h : i ≠ k) : upd f k x i = f i := if_neg h
theorem mk_u_mo {t : Nat} : upd (mk S mo pr fa sc ch rc ρ) 1 (nI t) = mk S t pr fa sc ch rc ρ := by
  funext i
  by_cases h : i = 1
  · subst h; rfl
  · rw [upd_no h]
    unfold mk
    simp only [un, if_neg h]
    all_goals (first | rfl | simp)
theorem mk_u_sc {x : Int32} : upd (mk S mo pr fa sc ch rc ρ) 4 (x) = mk S mo pr fa x ch rc ρ := by
  funext i
  by_cases h : i = 4
  · subst h; rfl
  · rw [upd_no h]
    unfold mk
    simp only [un, if_neg h]
    all_goals (first | rfl | simp)
theorem mk_u_ch {x : Int32} : upd (mk S mo pr fa sc ch rc ρ) 5 (x) = mk S mo pr fa sc x rc ρ := by
  funext i
  by_cases h : i = 5
  · subst h; rfl
  · rw [upd_no h]
    unfold mk
    simp only [un, if_neg h]
    all_goals (first | rfl | simp)
theorem mk_u_rc {t : Nat} : upd (mk S mo pr fa sc ch rc ρ) 7 (nI t) = mk S mo pr fa sc ch t ρ := by
  funext i
  by_cases h : i = 7
  · subst h; rfl
  · rw [upd_no h]
    unfold mk
    simp only [un, if_neg h]
    all_goals (first | rfl | simp)
theorem mk_u_en {t : Nat} : upd (mk S mo pr fa sc ch rc ρ) 0 (nI t) = mk (un S 0 (un (S 0) 3 t)) mo pr fa sc ch rc ρ := by
  funext i
  by_cases h : i = 0
  · subst h; rfl
  · rw [upd_no h]
    unfold mk
    simp only [un, if_neg h]
    all_goals (first | rfl | simp)
theorem mk_u_nw {t : Nat} : upd (mk S mo pr fa sc ch rc ρ) 2 (nI t) = mk (un S 0 (un (S 0) 1 t)) mo pr fa sc ch rc ρ := by
  funext i
  by_cases h : i = 2
  · subst h; rfl
  · rw [upd_no h]
    unfold mk
    simp only [un, if_neg h]
    all_goals (first | rfl | simp)
theorem mk_u_ng {t : Nat} : upd (mk S mo pr fa sc ch rc ρ) 3 (nI t) = mk (un S 0 (un (S 0) 0 t)) mo pr fa sc ch rc ρ := by
  funext i
  by_cases h : i = 3
  · subst h; rfl
  · rw [upd_no h]
    unfold mk
    simp only [un, if_neg h]
    all_goals (first | rfl | simp)
theorem mk_u_nr {t : Nat} : upd (mk S mo pr fa sc ch rc ρ) 6 (nI t) = mk (un S 0 (un (S 0) 2 t)) mo pr fa sc ch rc ρ := by
  funext i
  by_cases h : i = 6
  · subst h; rfl
  · rw [upd_no h]
    unfold mk
    simp only [un, if_neg h]
    all_goals (first | rfl | simp)
theorem mk_u_kd {g : Nat} {x : Nat} (hg : g < 6) : upd (mk S mo pr fa sc ch rc ρ) (32 + 5 * g + 0) (nI x) = mk (un S 1 (un (S 1) g x)) mo pr fa sc ch rc ρ := by
  funext i
  revert i
  refine mk_cases (fun i hi => ?_) (fun w hw => ?_) (fun g0 hg0 => ?_) (fun r hr => ?_) (fun i hi => ?_)
  · rw [upd_no (by omega)]
    rcases (show i = 0 ∨ i = 1 ∨ i = 2 ∨ i = 3 ∨ i = 4 ∨ i = 5 ∨ i = 6 ∨ i = 7 by omega) with e | e | e | e | e | e | e | e <;> subst e <;> rfl
  · rw [upd_no (by omega), upd_no (by omega), upd_no (by omega), upd_no (by omega), mk_w0 hw, mk_w1 hw, mk_w2 hw, mk_w3 hw, mk_w0 hw, mk_w1 hw, mk_w2 hw, mk_w3 hw]
    exact ⟨rfl, rfl, rfl, rfl⟩
  · rw [mk_g0 hg0, mk_g1 hg0, mk_g2 hg0, mk_g3 hg0, mk_g4 hg0]
    by_cases e : g0 = g
    · subst e
      refine ⟨?_, ?_, ?_, ?_, ?_⟩ <;> first | (rw [upd_at]; simp [un]; done) | (rw [upd_no (by omega)]; (first | rw [mk_g0 hg0] | rw [mk_g1 hg0] | rw [mk_g2 hg0] | rw [mk_g3 hg0] | rw [mk_g4 hg0]); all_goals (first | rfl | simp [un]))
    · rw [upd_no (by omega), upd_no (by omega), upd_no (by omega), upd_no (by omega), upd_no (by omega), mk_g0 hg0, mk_g1 hg0, mk_g2 hg0, mk_g3 hg0, mk_g4 hg0]
      all_goals (first | (refine ⟨?_, ?_, ?_, ?_, ?_⟩ <;> first | rfl | (simp [un, e]; done)) | simp [un, e])
  · rw [upd_no (by omega), mk_r hr, mk_r hr]
    all_goals (first | rfl | simp [un])
  · rw [upd_no (by omega), mk_s hi, mk_s hi]
theorem mk_u_hs {g : Nat} {x : Nat} (hg : g < 6) : upd (mk S mo pr fa sc ch rc ρ) (32 + 5 * g + 1) (nI x) = mk (un S 2 (un (S 2) g x)) mo pr fa sc ch rc ρ := by
  funext i
  revert i
  refine mk_cases (fun i hi => ?_) (fun w hw => ?_) (fun g0 hg0 => ?_) (fun r hr => ?_) (fun i hi => ?_)
  · rw [upd_no (by omega)]
    rcases (show i = 0 ∨ i = 1 ∨ i = 2 ∨ i = 3 ∨ i = 4 ∨ i = 5 ∨ i = 6 ∨ i = 7 by omega) with e | e | e | e | e | e | e | e <;> subst e <;> rfl
  · rw [upd_no (by omega), upd_no (by omega), upd_no (by omega), upd_no (by omega), mk_w0 hw, mk_w1 hw, mk_w2 hw, mk_w3 hw, mk_w0 hw, mk_w1 hw, mk_w2 hw, mk_w3 hw]
    exact ⟨rfl, rfl, rfl, rfl⟩
  · rw [mk_g0 hg0, mk_g1 hg0, mk_g2 hg0, mk_g3 hg0, mk_g4 hg0]
    by_cases e : g0 = g
    · subst e
      refine ⟨?_, ?_, ?_, ?_, ?_⟩ <;> first | (rw [upd_at]; simp [un]; done) | (rw [upd_no (by omega)]; (first | rw [mk_g0 hg0] | rw [mk_g1 hg0] | rw [mk_g2 hg0] | rw [mk_g3 hg0] | rw [mk_g4 hg0]); all_goals (first | rfl | simp [un]))
    · rw [upd_no (by omega), upd_no (by omega), upd_no (by omega), upd_no (by omega), upd_no (by omega), mk_g0 hg0, mk_g1 hg0, mk_g2 hg0, mk_g3 hg0, mk_g4 hg0]
      all_goals (first | (refine ⟨?_, ?_, ?_, ?_, ?_⟩ <;> first | rfl | (simp [un, e]; done)) | simp [un, e])
  · rw [upd_no (by omega), mk_r hr, mk_r hr]
    all_goals (first | rfl | simp [un])
  · rw [upd_no (by omega), mk_s hi, mk_s hi]
theorem mk_u_dw {g : Nat} {x : Nat} (hg : g < 6) : upd (mk S mo pr fa sc ch rc ρ) (32 + 5 * g + 2) (nI x) = mk (un S 3 (un (S 3) g x)) mo pr fa sc ch rc ρ := by
  funext i
  revert i
  refine mk_cases (fun i hi => ?_) (fun w hw => ?_) (fun g0 hg0 => ?_) (fun r hr => ?_) (fun i hi => ?_)
  · rw [upd_no (by omega)]
    rcases (show i = 0 ∨ i = 1 ∨ i = 2 ∨ i = 3 ∨ i = 4 ∨ i = 5 ∨ i = 6 ∨ i = 7 by omega) with e | e | e | e | e | e | e | e <;> subst e <;> rfl
  · rw [upd_no (by omega), upd_no (by omega), upd_no (by omega), upd_no (by omega), mk_w0 hw, mk_w1 hw, mk_w2 hw, mk_w3 hw, mk_w0 hw, mk_w1 hw, mk_w2 hw, mk_w3 hw]
    exact ⟨rfl, rfl, rfl, rfl⟩
  · rw [mk_g0 hg0, mk_g1 hg0, mk_g2 hg0, mk_g3 hg0, mk_g4 hg0]
    by_cases e : g0 = g
    · subst e
      refine ⟨?_, ?_, ?_, ?_, ?_⟩ <;> first | (rw [upd_at]; simp [un]; done) | (rw [upd_no (by omega)]; (first | rw [mk_g0 hg0] | rw [mk_g1 hg0] | rw [mk_g2 hg0] | rw [mk_g3 hg0] | rw [mk_g4 hg0]); all_goals (first | rfl | simp [un]))
    · rw [upd_no (by omega), upd_no (by omega), upd_no (by omega), upd_no (by omega), upd_no (by omega), mk_g0 hg0, mk_g1 hg0, mk_g2 hg0, mk_g3 hg0, mk_g4 hg0]
      all_goals (first | (refine ⟨?_, ?_, ?_, ?_, ?_⟩ <;> first | rfl | (simp [un, e]; done)) | simp [un, e])
  · rw [upd_no (by omega), mk_r hr, mk_r hr]
    all_goals (first | rfl | simp [un])
  · rw [upd_no (by omega), mk_s hi, mk_s hi]
theorem mk_u_pr {g : Nat} {x : Nat} (hg : g < 6) : upd (mk S mo pr fa sc ch rc ρ) (32 + 5 * g + 3) (hasI x) = mk S mo (un pr g x) fa sc ch rc ρ := by
  funext i
  revert i
  refine mk_cases (fun i hi => ?_) (fun w hw => ?_) (fun g0 hg0 => ?_) (fun r hr => ?_) (fun i hi => ?_)
  · rw [upd_no (by omega)]
    rcases (show i = 0 ∨ i = 1 ∨ i = 2 ∨ i = 3 ∨ i = 4 ∨ i = 5 ∨ i = 6 ∨ i = 7 by omega) with e | e | e | e | e | e | e | e <;> subst e <;> rfl
  · rw [upd_no (by omega), upd_no (by omega), upd_no (by omega), upd_no (by omega), mk_w0 hw, mk_w1 hw, mk_w2 hw, mk_w3 hw, mk_w0 hw, mk_w1 hw, mk_w2 hw, mk_w3 hw]
    exact ⟨rfl, rfl, rfl, rfl⟩
  · rw [mk_g0 hg0, mk_g1 hg0, mk_g2 hg0, mk_g3 hg0, mk_g4 hg0]
    by_cases e : g0 = g
    · subst e
      refine ⟨?_, ?_, ?_, ?_, ?_⟩ <;> first | (rw [upd_at]; simp [un]; done) | (rw [upd_no (by omega)]; (first | rw [mk_g0 hg0] | rw [mk_g1 hg0] | rw [mk_g2 hg0] | rw [mk_g3 hg0] | rw [mk_g4 hg0]); all_goals (first | rfl | simp [un]))
    · rw [upd_no (by omega), upd_no (by omega), upd_no (by omega), upd_no (by omega), upd_no (by omega), mk_g0 hg0, mk_g1 hg0, mk_g2 hg0, mk_g3 hg0, mk_g4 hg0]
      all_goals (first | (refine ⟨?_, ?_, ?_, ?_, ?_⟩ <;> first | rfl | (simp [un, e]; done)) | simp [un, e])
  · rw [upd_no (by omega), mk_r hr, mk_r hr]
    all_goals (first | rfl | simp [un])
  · rw [upd_no (by omega), mk_s hi, mk_s hi]
theorem mk_u_fa {g : Nat} {x : Nat} (hg : g < 6) : upd (mk S mo pr fa sc ch rc ρ) (32 + 5 * g + 4) (nI x) = mk S mo pr (un fa g x) sc ch rc ρ := by
  funext i
  revert i
  refine mk_cases (fun i hi => ?_) (fun w hw => ?_) (fun g0 hg0 => ?_) (fun r hr => ?_) (fun i hi => ?_)
  · rw [upd_no (by omega)]
    rcases (show i = 0 ∨ i = 1 ∨ i = 2 ∨ i = 3 ∨ i = 4 ∨ i = 5 ∨ i = 6 ∨ i = 7 by omega) with e | e | e | e | e | e | e | e <;> subst e <;> rfl
  · rw [upd_no (by omega), upd_no (by omega), upd_no (by omega), upd_no (by omega), mk_w0 hw, mk_w1 hw, mk_w2 hw, mk_w3 hw, mk_w0 hw, mk_w1 hw, mk_w2 hw, mk_w3 hw]
    exact ⟨rfl, rfl, rfl, rfl⟩
  · rw [mk_g0 hg0, mk_g1 hg0, mk_g2 hg0, mk_g3 hg0, mk_g4 hg0]
    by_cases e : g0 = g
    · subst e
      refine ⟨?_, ?_, ?_, ?_, ?_⟩ <;> first | (rw [upd_at]; simp [un]; done) | (rw [upd_no (by omega)]; (first | rw [mk_g0 hg0] | rw [mk_g1 hg0] | rw [mk_g2 hg0] | rw [mk_g3 hg0] | rw [mk_g4 hg0]); all_goals (first | rfl | simp [un]))
    · rw [upd_no (by omega), upd_no (by omega), upd_no (by omega), upd_no (by omega), upd_no (by omega), mk_g0 hg0, mk_g1 hg0, mk_g2 hg0, mk_g3 hg0, mk_g4 hg0]
      all_goals (first | (refine ⟨?_, ?_, ?_, ?_, ?_⟩ <;> first | rfl | (simp [un, e]; done)) | simp [un, e])
  · rw [upd_no (by omega), mk_r hr, mk_r hr]
    all_goals (first | rfl | simp [un])
  · rw [upd_no (by omega), mk_s hi, mk_s hi]
end MK
end

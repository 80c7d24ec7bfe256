section
-- ===== PART A: goes FIRST, ahead of the names: the tables' words, and 'selects' of the private methods out of them =====
/-- a private method of a class that the tables say can be made, by its rows of tables_1 -/
def lw_okq (q : MethodName × Nat) : Prop := (q.1.cls ≠ "java/lang/invoke/MethodHandle" ∧ q.1.cls ≠ "java/lang/invoke/VarHandle") ∧ Cond.instantiable q.1.cls q.2 ∈ tables_1 ∧ Cond.privateMethod q.1 ∈ tables_1 ∧ Cond.instanceMethod q.1 ∈ tables_1
theorem lw_p0 : lw_okq (⟨"LieSlides", "found", "(I)I"⟩, 8) := ⟨⟨by decide +kernel, by decide +kernel⟩, List.mem_of_getElem? (i := 18) (by decide +kernel), List.mem_of_getElem? (i := 229) (by decide +kernel), List.mem_of_getElem? (i := 230) (by decide +kernel)⟩
theorem lw_p1 : lw_okq (⟨"LieSlides", "answered", "(I)I"⟩, 8) := ⟨⟨by decide +kernel, by decide +kernel⟩, List.mem_of_getElem? (i := 18) (by decide +kernel), List.mem_of_getElem? (i := 238) (by decide +kernel), List.mem_of_getElem? (i := 239) (by decide +kernel)⟩
theorem lw_p2 : lw_okq (⟨"LieSlides$Reader", "takeToken", "()V"⟩, 9) := ⟨⟨by decide +kernel, by decide +kernel⟩, List.mem_of_getElem? (i := 43) (by decide +kernel), List.mem_of_getElem? (i := 306) (by decide +kernel), List.mem_of_getElem? (i := 307) (by decide +kernel)⟩
theorem lw_p3 : lw_okq (⟨"LieSlides$Reader", "endOfRun", "(CC)I"⟩, 9) := ⟨⟨by decide +kernel, by decide +kernel⟩, List.mem_of_getElem? (i := 43) (by decide +kernel), List.mem_of_getElem? (i := 310) (by decide +kernel), List.mem_of_getElem? (i := 311) (by decide +kernel)⟩
theorem lw_p4 : lw_okq (⟨"LieSlides$Reader", "valueOfFigures", "()I"⟩, 9) := ⟨⟨by decide +kernel, by decide +kernel⟩, List.mem_of_getElem? (i := 43) (by decide +kernel), List.mem_of_getElem? (i := 314) (by decide +kernel), List.mem_of_getElem? (i := 315) (by decide +kernel)⟩
theorem lw_p5 : lw_okq (⟨"LieSlides$Reader", "readFacts", "()Z"⟩, 9) := ⟨⟨by decide +kernel, by decide +kernel⟩, List.mem_of_getElem? (i := 43) (by decide +kernel), List.mem_of_getElem? (i := 318) (by decide +kernel), List.mem_of_getElem? (i := 319) (by decide +kernel)⟩
theorem lw_p6 : lw_okq (⟨"LieSlides$Reader", "isWord", "(Ljava/lang/String;)Z"⟩, 9) := ⟨⟨by decide +kernel, by decide +kernel⟩, List.mem_of_getElem? (i := 43) (by decide +kernel), List.mem_of_getElem? (i := 323) (by decide +kernel), List.mem_of_getElem? (i := 324) (by decide +kernel)⟩
theorem lw_p7 : lw_okq (⟨"LieSlides$Reader", "failWith", "(I)Z"⟩, 9) := ⟨⟨by decide +kernel, by decide +kernel⟩, List.mem_of_getElem? (i := 43) (by decide +kernel), List.mem_of_getElem? (i := 375) (by decide +kernel), List.mem_of_getElem? (i := 376) (by decide +kernel)⟩
theorem lw_p8 : lw_okq (⟨"LieSlides$Reader", "takeNumber", "(II)Z"⟩, 9) := ⟨⟨by decide +kernel, by decide +kernel⟩, List.mem_of_getElem? (i := 43) (by decide +kernel), List.mem_of_getElem? (i := 379) (by decide +kernel), List.mem_of_getElem? (i := 380) (by decide +kernel)⟩
theorem lw_p9 : lw_okq (⟨"LieSlides$Reader", "takeSemicolon", "()Z"⟩, 9) := ⟨⟨by decide +kernel, by decide +kernel⟩, List.mem_of_getElem? (i := 43) (by decide +kernel), List.mem_of_getElem? (i := 383) (by decide +kernel), List.mem_of_getElem? (i := 384) (by decide +kernel)⟩
theorem lw_p10 : lw_okq (⟨"LieSlides$Reader", "readWalls", "()Z"⟩, 9) := ⟨⟨by decide +kernel, by decide +kernel⟩, List.mem_of_getElem? (i := 43) (by decide +kernel), List.mem_of_getElem? (i := 387) (by decide +kernel), List.mem_of_getElem? (i := 388) (by decide +kernel)⟩
theorem lw_p11 : lw_okq (⟨"LieSlides$Reader", "readPaths", "()Z"⟩, 9) := ⟨⟨by decide +kernel, by decide +kernel⟩, List.mem_of_getElem? (i := 43) (by decide +kernel), List.mem_of_getElem? (i := 392) (by decide +kernel), List.mem_of_getElem? (i := 393) (by decide +kernel)⟩
theorem lw_p12 : lw_okq (⟨"LieSlides$Reader", "readHouses", "()Z"⟩, 9) := ⟨⟨by decide +kernel, by decide +kernel⟩, List.mem_of_getElem? (i := 43) (by decide +kernel), List.mem_of_getElem? (i := 397) (by decide +kernel), List.mem_of_getElem? (i := 398) (by decide +kernel)⟩
theorem lw_p13 : lw_okq (⟨"LieSlides$Reader", "readHouse", "()Z"⟩, 9) := ⟨⟨by decide +kernel, by decide +kernel⟩, List.mem_of_getElem? (i := 43) (by decide +kernel), List.mem_of_getElem? (i := 402) (by decide +kernel), List.mem_of_getElem? (i := 403) (by decide +kernel)⟩
theorem lw_p14 : lw_okq (⟨"LieSlides$Reader", "kindOfWord", "()I"⟩, 9) := ⟨⟨by decide +kernel, by decide +kernel⟩, List.mem_of_getElem? (i := 43) (by decide +kernel), List.mem_of_getElem? (i := 406) (by decide +kernel), List.mem_of_getElem? (i := 407) (by decide +kernel)⟩
theorem lw_p15 : lw_okq (⟨"LieSlides$Field", "isWall", "(II)Z"⟩, 11) := ⟨⟨by decide +kernel, by decide +kernel⟩, List.mem_of_getElem? (i := 49) (by decide +kernel), List.mem_of_getElem? (i := 419) (by decide +kernel), List.mem_of_getElem? (i := 420) (by decide +kernel)⟩
def lw_privs_1 : List (MethodName × Nat) := [(⟨"LieSlides", "found", "(I)I"⟩, 8), (⟨"LieSlides", "answered", "(I)I"⟩, 8), (⟨"LieSlides$Reader", "takeToken", "()V"⟩, 9), (⟨"LieSlides$Reader", "endOfRun", "(CC)I"⟩, 9), (⟨"LieSlides$Reader", "valueOfFigures", "()I"⟩, 9), (⟨"LieSlides$Reader", "readFacts", "()Z"⟩, 9), (⟨"LieSlides$Reader", "isWord", "(Ljava/lang/String;)Z"⟩, 9), (⟨"LieSlides$Reader", "failWith", "(I)Z"⟩, 9), (⟨"LieSlides$Reader", "takeNumber", "(II)Z"⟩, 9), (⟨"LieSlides$Reader", "takeSemicolon", "()Z"⟩, 9), (⟨"LieSlides$Reader", "readWalls", "()Z"⟩, 9), (⟨"LieSlides$Reader", "readPaths", "()Z"⟩, 9), (⟨"LieSlides$Reader", "readHouses", "()Z"⟩, 9), (⟨"LieSlides$Reader", "readHouse", "()Z"⟩, 9), (⟨"LieSlides$Reader", "kindOfWord", "()I"⟩, 9), (⟨"LieSlides$Field", "isWall", "(II)Z"⟩, 11)]
theorem lw_r1 : ∀ q ∈ lw_privs_1, lw_okq q := List.forall_mem_cons.mpr ⟨lw_p0, List.forall_mem_cons.mpr ⟨lw_p1, List.forall_mem_cons.mpr ⟨lw_p2, List.forall_mem_cons.mpr ⟨lw_p3, List.forall_mem_cons.mpr ⟨lw_p4, List.forall_mem_cons.mpr ⟨lw_p5, List.forall_mem_cons.mpr ⟨lw_p6, List.forall_mem_cons.mpr ⟨lw_p7, List.forall_mem_cons.mpr ⟨lw_p8, List.forall_mem_cons.mpr ⟨lw_p9, List.forall_mem_cons.mpr ⟨lw_p10, List.forall_mem_cons.mpr ⟨lw_p11, List.forall_mem_cons.mpr ⟨lw_p12, List.forall_mem_cons.mpr ⟨lw_p13, List.forall_mem_cons.mpr ⟨lw_p14, List.forall_mem_cons.mpr ⟨lw_p15, fun _ h => absurd h List.not_mem_nil⟩⟩⟩⟩⟩⟩⟩⟩⟩⟩⟩⟩⟩⟩⟩⟩
theorem lw_p16 : lw_okq (⟨"LieSlides$Field", "houseAt", "(II)I"⟩, 11) := ⟨⟨by decide +kernel, by decide +kernel⟩, List.mem_of_getElem? (i := 49) (by decide +kernel), List.mem_of_getElem? (i := 423) (by decide +kernel), List.mem_of_getElem? (i := 424) (by decide +kernel)⟩
theorem lw_p17 : lw_okq (⟨"LieSlides", "sayIn", "(II)I"⟩, 8) := ⟨⟨by decide +kernel, by decide +kernel⟩, List.mem_of_getElem? (i := 18) (by decide +kernel), List.mem_of_getElem? (i := 478) (by decide +kernel), List.mem_of_getElem? (i := 479) (by decide +kernel)⟩
theorem lw_p18 : lw_okq (⟨"LieSlides$Field", "isStopped", "(II)Z"⟩, 11) := ⟨⟨by decide +kernel, by decide +kernel⟩, List.mem_of_getElem? (i := 49) (by decide +kernel), List.mem_of_getElem? (i := 490) (by decide +kernel), List.mem_of_getElem? (i := 491) (by decide +kernel)⟩
theorem lw_p19 : lw_okq (⟨"LieSlides$Field", "pushedBy", "(II)I"⟩, 11) := ⟨⟨by decide +kernel, by decide +kernel⟩, List.mem_of_getElem? (i := 49) (by decide +kernel), List.mem_of_getElem? (i := 494) (by decide +kernel), List.mem_of_getElem? (i := 495) (by decide +kernel)⟩
theorem lw_p20 : lw_okq (⟨"LieSlides$Field", "hasColumn", "(III)Z"⟩, 11) := ⟨⟨by decide +kernel, by decide +kernel⟩, List.mem_of_getElem? (i := 49) (by decide +kernel), List.mem_of_getElem? (i := 498) (by decide +kernel), List.mem_of_getElem? (i := 499) (by decide +kernel)⟩
theorem lw_p21 : lw_okq (⟨"LieSlides$Field", "shareRow", "(II)Z"⟩, 11) := ⟨⟨by decide +kernel, by decide +kernel⟩, List.mem_of_getElem? (i := 49) (by decide +kernel), List.mem_of_getElem? (i := 502) (by decide +kernel), List.mem_of_getElem? (i := 503) (by decide +kernel)⟩
theorem lw_p22 : lw_okq (⟨"LieSlides", "areSayings", "(III)Z"⟩, 8) := ⟨⟨by decide +kernel, by decide +kernel⟩, List.mem_of_getElem? (i := 18) (by decide +kernel), List.mem_of_getElem? (i := 525) (by decide +kernel), List.mem_of_getElem? (i := 526) (by decide +kernel)⟩
theorem lw_p23 : lw_okq (⟨"LieSlides", "sayAll", "(III)I"⟩, 8) := ⟨⟨by decide +kernel, by decide +kernel⟩, List.mem_of_getElem? (i := 18) (by decide +kernel), List.mem_of_getElem? (i := 533) (by decide +kernel), List.mem_of_getElem? (i := 534) (by decide +kernel)⟩
theorem lw_p24 : lw_okq (⟨"LieSlides$Field", "isPath", "(II)Z"⟩, 11) := ⟨⟨by decide +kernel, by decide +kernel⟩, List.mem_of_getElem? (i := 49) (by decide +kernel), List.mem_of_getElem? (i := 558) (by decide +kernel), List.mem_of_getElem? (i := 559) (by decide +kernel)⟩
theorem lw_p25 : lw_okq (⟨"LieSlides", "refusalToForetell", "(IIIZ)I"⟩, 8) := ⟨⟨by decide +kernel, by decide +kernel⟩, List.mem_of_getElem? (i := 18) (by decide +kernel), List.mem_of_getElem? (i := 583) (by decide +kernel), List.mem_of_getElem? (i := 584) (by decide +kernel)⟩
theorem lw_p26 : lw_okq (⟨"LieSlides", "foretellLies", "(III)V"⟩, 8) := ⟨⟨by decide +kernel, by decide +kernel⟩, List.mem_of_getElem? (i := 18) (by decide +kernel), List.mem_of_getElem? (i := 587) (by decide +kernel), List.mem_of_getElem? (i := 588) (by decide +kernel)⟩
theorem lw_p27 : lw_okq (⟨"LieSlides", "standsAsOne", "(I)I"⟩, 8) := ⟨⟨by decide +kernel, by decide +kernel⟩, List.mem_of_getElem? (i := 18) (by decide +kernel), List.mem_of_getElem? (i := 601) (by decide +kernel), List.mem_of_getElem? (i := 602) (by decide +kernel)⟩
theorem lw_p28 : lw_okq (⟨"LieSlides$Foresight", "canReach", "(LLieSlides$Field;IIIII)Z"⟩, 4) := ⟨⟨by decide +kernel, by decide +kernel⟩, List.mem_of_getElem? (i := 159) (by decide +kernel), List.mem_of_getElem? (i := 651) (by decide +kernel), List.mem_of_getElem? (i := 652) (by decide +kernel)⟩
theorem lw_p29 : lw_okq (⟨"LieSlides$Bodies", "asked", "(LLieSlides$Field;III)I"⟩, 2) := ⟨⟨by decide +kernel, by decide +kernel⟩, List.mem_of_getElem? (i := 178) (by decide +kernel), List.mem_of_getElem? (i := 704) (by decide +kernel), List.mem_of_getElem? (i := 705) (by decide +kernel)⟩
theorem lw_p30 : lw_okq (⟨"LieSlides$Bodies", "bodyFor", "(II)I"⟩, 2) := ⟨⟨by decide +kernel, by decide +kernel⟩, List.mem_of_getElem? (i := 178) (by decide +kernel), List.mem_of_getElem? (i := 708) (by decide +kernel), List.mem_of_getElem? (i := 709) (by decide +kernel)⟩
theorem lw_p31 : lw_okq (⟨"LieSlides$Bodies", "given", "(LLieSlides$Field;III)I"⟩, 2) := ⟨⟨by decide +kernel, by decide +kernel⟩, List.mem_of_getElem? (i := 178) (by decide +kernel), List.mem_of_getElem? (i := 717) (by decide +kernel), List.mem_of_getElem? (i := 718) (by decide +kernel)⟩
def lw_privs_2 : List (MethodName × Nat) := [(⟨"LieSlides$Field", "houseAt", "(II)I"⟩, 11), (⟨"LieSlides", "sayIn", "(II)I"⟩, 8), (⟨"LieSlides$Field", "isStopped", "(II)Z"⟩, 11), (⟨"LieSlides$Field", "pushedBy", "(II)I"⟩, 11), (⟨"LieSlides$Field", "hasColumn", "(III)Z"⟩, 11), (⟨"LieSlides$Field", "shareRow", "(II)Z"⟩, 11), (⟨"LieSlides", "areSayings", "(III)Z"⟩, 8), (⟨"LieSlides", "sayAll", "(III)I"⟩, 8), (⟨"LieSlides$Field", "isPath", "(II)Z"⟩, 11), (⟨"LieSlides", "refusalToForetell", "(IIIZ)I"⟩, 8), (⟨"LieSlides", "foretellLies", "(III)V"⟩, 8), (⟨"LieSlides", "standsAsOne", "(I)I"⟩, 8), (⟨"LieSlides$Foresight", "canReach", "(LLieSlides$Field;IIIII)Z"⟩, 4), (⟨"LieSlides$Bodies", "asked", "(LLieSlides$Field;III)I"⟩, 2), (⟨"LieSlides$Bodies", "bodyFor", "(II)I"⟩, 2), (⟨"LieSlides$Bodies", "given", "(LLieSlides$Field;III)I"⟩, 2)]
theorem lw_r2 : ∀ q ∈ lw_privs_2, lw_okq q := List.forall_mem_cons.mpr ⟨lw_p16, List.forall_mem_cons.mpr ⟨lw_p17, List.forall_mem_cons.mpr ⟨lw_p18, List.forall_mem_cons.mpr ⟨lw_p19, List.forall_mem_cons.mpr ⟨lw_p20, List.forall_mem_cons.mpr ⟨lw_p21, List.forall_mem_cons.mpr ⟨lw_p22, List.forall_mem_cons.mpr ⟨lw_p23, List.forall_mem_cons.mpr ⟨lw_p24, List.forall_mem_cons.mpr ⟨lw_p25, List.forall_mem_cons.mpr ⟨lw_p26, List.forall_mem_cons.mpr ⟨lw_p27, List.forall_mem_cons.mpr ⟨lw_p28, List.forall_mem_cons.mpr ⟨lw_p29, List.forall_mem_cons.mpr ⟨lw_p30, List.forall_mem_cons.mpr ⟨lw_p31, fun _ h => absurd h List.not_mem_nil⟩⟩⟩⟩⟩⟩⟩⟩⟩⟩⟩⟩⟩⟩⟩⟩
theorem lw_p32 : lw_okq (⟨"LieSlides$Bodies", "leaveTrace", "(I)V"⟩, 2) := ⟨⟨by decide +kernel, by decide +kernel⟩, List.mem_of_getElem? (i := 178) (by decide +kernel), List.mem_of_getElem? (i := 721) (by decide +kernel), List.mem_of_getElem? (i := 722) (by decide +kernel)⟩
theorem lw_p33 : lw_okq (⟨"LieSlidesModel", "finds", "(I)I"⟩, 24) := ⟨⟨by decide +kernel, by decide +kernel⟩, List.mem_of_getElem? (i := 761) (by decide +kernel), List.mem_of_getElem? (i := 853) (by decide +kernel), List.mem_of_getElem? (i := 854) (by decide +kernel)⟩
theorem lw_p34 : lw_okq (⟨"LieSlidesModel", "did", "(I)I"⟩, 24) := ⟨⟨by decide +kernel, by decide +kernel⟩, List.mem_of_getElem? (i := 761) (by decide +kernel), List.mem_of_getElem? (i := 858) (by decide +kernel), List.mem_of_getElem? (i := 859) (by decide +kernel)⟩
theorem lw_p35 : lw_okq (⟨"LieSlidesModel", "isMissing", "(I)Z"⟩, 24) := ⟨⟨by decide +kernel, by decide +kernel⟩, List.mem_of_getElem? (i := 761) (by decide +kernel), List.mem_of_getElem? (i := 866) (by decide +kernel), List.mem_of_getElem? (i := 867) (by decide +kernel)⟩
theorem lw_p36 : lw_okq (⟨"LieSlidesModel", "isField", "()Z"⟩, 24) := ⟨⟨by decide +kernel, by decide +kernel⟩, List.mem_of_getElem? (i := 761) (by decide +kernel), List.mem_of_getElem? (i := 888) (by decide +kernel), List.mem_of_getElem? (i := 889) (by decide +kernel)⟩
theorem lw_p37 : lw_okq (⟨"LieSlidesModel", "isFacts", "()Z"⟩, 24) := ⟨⟨by decide +kernel, by decide +kernel⟩, List.mem_of_getElem? (i := 761) (by decide +kernel), List.mem_of_getElem? (i := 892) (by decide +kernel), List.mem_of_getElem? (i := 893) (by decide +kernel)⟩
theorem lw_p38 : lw_okq (⟨"LieSlidesModel", "nextToken", "()V"⟩, 24) := ⟨⟨by decide +kernel, by decide +kernel⟩, List.mem_of_getElem? (i := 761) (by decide +kernel), List.mem_of_getElem? (i := 896) (by decide +kernel), List.mem_of_getElem? (i := 897) (by decide +kernel)⟩
theorem lw_p39 : lw_okq (⟨"LieSlidesModel", "here", "()I"⟩, 24) := ⟨⟨by decide +kernel, by decide +kernel⟩, List.mem_of_getElem? (i := 761) (by decide +kernel), List.mem_of_getElem? (i := 900) (by decide +kernel), List.mem_of_getElem? (i := 901) (by decide +kernel)⟩
theorem lw_p40 : lw_okq (⟨"LieSlidesModel", "isName", "(J)Z"⟩, 24) := ⟨⟨by decide +kernel, by decide +kernel⟩, List.mem_of_getElem? (i := 761) (by decide +kernel), List.mem_of_getElem? (i := 908) (by decide +kernel), List.mem_of_getElem? (i := 909) (by decide +kernel)⟩
theorem lw_p41 : lw_okq (⟨"LieSlidesModel", "fails", "(I)Z"⟩, 24) := ⟨⟨by decide +kernel, by decide +kernel⟩, List.mem_of_getElem? (i := 761) (by decide +kernel), List.mem_of_getElem? (i := 912) (by decide +kernel), List.mem_of_getElem? (i := 913) (by decide +kernel)⟩
theorem lw_p42 : lw_okq (⟨"LieSlidesModel", "isNumber", "(II)Z"⟩, 24) := ⟨⟨by decide +kernel, by decide +kernel⟩, List.mem_of_getElem? (i := 761) (by decide +kernel), List.mem_of_getElem? (i := 916) (by decide +kernel), List.mem_of_getElem? (i := 917) (by decide +kernel)⟩
theorem lw_p43 : lw_okq (⟨"LieSlidesModel", "isEnd", "()Z"⟩, 24) := ⟨⟨by decide +kernel, by decide +kernel⟩, List.mem_of_getElem? (i := 761) (by decide +kernel), List.mem_of_getElem? (i := 920) (by decide +kernel), List.mem_of_getElem? (i := 921) (by decide +kernel)⟩
theorem lw_p44 : lw_okq (⟨"LieSlidesModel", "areItems", "(IJI)Z"⟩, 24) := ⟨⟨by decide +kernel, by decide +kernel⟩, List.mem_of_getElem? (i := 761) (by decide +kernel), List.mem_of_getElem? (i := 925) (by decide +kernel), List.mem_of_getElem? (i := 926) (by decide +kernel)⟩
theorem lw_p45 : lw_okq (⟨"LieSlidesModel", "isWall", "()Z"⟩, 24) := ⟨⟨by decide +kernel, by decide +kernel⟩, List.mem_of_getElem? (i := 761) (by decide +kernel), List.mem_of_getElem? (i := 929) (by decide +kernel), List.mem_of_getElem? (i := 930) (by decide +kernel)⟩
theorem lw_p46 : lw_okq (⟨"LieSlidesModel", "isPath", "()Z"⟩, 24) := ⟨⟨by decide +kernel, by decide +kernel⟩, List.mem_of_getElem? (i := 761) (by decide +kernel), List.mem_of_getElem? (i := 933) (by decide +kernel), List.mem_of_getElem? (i := 934) (by decide +kernel)⟩
theorem lw_p47 : lw_okq (⟨"LieSlidesModel", "isHouse", "()Z"⟩, 24) := ⟨⟨by decide +kernel, by decide +kernel⟩, List.mem_of_getElem? (i := 761) (by decide +kernel), List.mem_of_getElem? (i := 937) (by decide +kernel), List.mem_of_getElem? (i := 938) (by decide +kernel)⟩
def lw_privs_3 : List (MethodName × Nat) := [(⟨"LieSlides$Bodies", "leaveTrace", "(I)V"⟩, 2), (⟨"LieSlidesModel", "finds", "(I)I"⟩, 24), (⟨"LieSlidesModel", "did", "(I)I"⟩, 24), (⟨"LieSlidesModel", "isMissing", "(I)Z"⟩, 24), (⟨"LieSlidesModel", "isField", "()Z"⟩, 24), (⟨"LieSlidesModel", "isFacts", "()Z"⟩, 24), (⟨"LieSlidesModel", "nextToken", "()V"⟩, 24), (⟨"LieSlidesModel", "here", "()I"⟩, 24), (⟨"LieSlidesModel", "isName", "(J)Z"⟩, 24), (⟨"LieSlidesModel", "fails", "(I)Z"⟩, 24), (⟨"LieSlidesModel", "isNumber", "(II)Z"⟩, 24), (⟨"LieSlidesModel", "isEnd", "()Z"⟩, 24), (⟨"LieSlidesModel", "areItems", "(IJI)Z"⟩, 24), (⟨"LieSlidesModel", "isWall", "()Z"⟩, 24), (⟨"LieSlidesModel", "isPath", "()Z"⟩, 24), (⟨"LieSlidesModel", "isHouse", "()Z"⟩, 24)]
theorem lw_r3 : ∀ q ∈ lw_privs_3, lw_okq q := List.forall_mem_cons.mpr ⟨lw_p32, List.forall_mem_cons.mpr ⟨lw_p33, List.forall_mem_cons.mpr ⟨lw_p34, List.forall_mem_cons.mpr ⟨lw_p35, List.forall_mem_cons.mpr ⟨lw_p36, List.forall_mem_cons.mpr ⟨lw_p37, List.forall_mem_cons.mpr ⟨lw_p38, List.forall_mem_cons.mpr ⟨lw_p39, List.forall_mem_cons.mpr ⟨lw_p40, List.forall_mem_cons.mpr ⟨lw_p41, List.forall_mem_cons.mpr ⟨lw_p42, List.forall_mem_cons.mpr ⟨lw_p43, List.forall_mem_cons.mpr ⟨lw_p44, List.forall_mem_cons.mpr ⟨lw_p45, List.forall_mem_cons.mpr ⟨lw_p46, List.forall_mem_cons.mpr ⟨lw_p47, fun _ h => absurd h List.not_mem_nil⟩⟩⟩⟩⟩⟩⟩⟩⟩⟩⟩⟩⟩⟩⟩⟩
theorem lw_p48 : lw_okq (⟨"LieSlidesModel", "isThere", "(I)Z"⟩, 24) := ⟨⟨by decide +kernel, by decide +kernel⟩, List.mem_of_getElem? (i := 761) (by decide +kernel), List.mem_of_getElem? (i := 966) (by decide +kernel), List.mem_of_getElem? (i := 967) (by decide +kernel)⟩
theorem lw_p49 : lw_okq (⟨"LieSlidesModel", "isDrowned", "(I)Z"⟩, 24) := ⟨⟨by decide +kernel, by decide +kernel⟩, List.mem_of_getElem? (i := 761) (by decide +kernel), List.mem_of_getElem? (i := 970) (by decide +kernel), List.mem_of_getElem? (i := 971) (by decide +kernel)⟩
theorem lw_p50 : lw_okq (⟨"LieSlidesModel", "saying", "(II)I"⟩, 24) := ⟨⟨by decide +kernel, by decide +kernel⟩, List.mem_of_getElem? (i := 761) (by decide +kernel), List.mem_of_getElem? (i := 975) (by decide +kernel), List.mem_of_getElem? (i := 976) (by decide +kernel)⟩
theorem lw_p51 : lw_okq (⟨"LieSlidesModel", "isLie", "(I)Z"⟩, 24) := ⟨⟨by decide +kernel, by decide +kernel⟩, List.mem_of_getElem? (i := 761) (by decide +kernel), List.mem_of_getElem? (i := 979) (by decide +kernel), List.mem_of_getElem? (i := 980) (by decide +kernel)⟩
theorem lw_p52 : lw_okq (⟨"LieSlidesModel", "slide", "(I)I"⟩, 24) := ⟨⟨by decide +kernel, by decide +kernel⟩, List.mem_of_getElem? (i := 761) (by decide +kernel), List.mem_of_getElem? (i := 986) (by decide +kernel), List.mem_of_getElem? (i := 987) (by decide +kernel)⟩
theorem lw_p53 : lw_okq (⟨"LieSlidesModel", "meetsEast", "(II)Z"⟩, 24) := ⟨⟨by decide +kernel, by decide +kernel⟩, List.mem_of_getElem? (i := 761) (by decide +kernel), List.mem_of_getElem? (i := 990) (by decide +kernel), List.mem_of_getElem? (i := 991) (by decide +kernel)⟩
theorem lw_p54 : lw_okq (⟨"LieSlidesModel", "isStopped", "(I)Z"⟩, 24) := ⟨⟨by decide +kernel, by decide +kernel⟩, List.mem_of_getElem? (i := 761) (by decide +kernel), List.mem_of_getElem? (i := 994) (by decide +kernel), List.mem_of_getElem? (i := 995) (by decide +kernel)⟩
theorem lw_p55 : lw_okq (⟨"LieSlidesModel", "isOpen", "(I)Z"⟩, 24) := ⟨⟨by decide +kernel, by decide +kernel⟩, List.mem_of_getElem? (i := 761) (by decide +kernel), List.mem_of_getElem? (i := 1010) (by decide +kernel), List.mem_of_getElem? (i := 1011) (by decide +kernel)⟩
theorem lw_p56 : lw_okq (⟨"LieSlidesModel", "isBoxed", "(I)Z"⟩, 24) := ⟨⟨by decide +kernel, by decide +kernel⟩, List.mem_of_getElem? (i := 761) (by decide +kernel), List.mem_of_getElem? (i := 1014) (by decide +kernel), List.mem_of_getElem? (i := 1015) (by decide +kernel)⟩
theorem lw_p57 : lw_okq (⟨"LieSlidesModel", "rentOf", "(I)I"⟩, 24) := ⟨⟨by decide +kernel, by decide +kernel⟩, List.mem_of_getElem? (i := 761) (by decide +kernel), List.mem_of_getElem? (i := 1018) (by decide +kernel), List.mem_of_getElem? (i := 1019) (by decide +kernel)⟩
theorem lw_p58 : lw_okq (⟨"LieSlidesModel", "whyNot", "(IIIZ)I"⟩, 24) := ⟨⟨by decide +kernel, by decide +kernel⟩, List.mem_of_getElem? (i := 761) (by decide +kernel), List.mem_of_getElem? (i := 1030) (by decide +kernel), List.mem_of_getElem? (i := 1031) (by decide +kernel)⟩
theorem lw_p59 : lw_okq (⟨"LieSlidesModel", "isSo", "(IIII)Z"⟩, 24) := ⟨⟨by decide +kernel, by decide +kernel⟩, List.mem_of_getElem? (i := 761) (by decide +kernel), List.mem_of_getElem? (i := 1034) (by decide +kernel), List.mem_of_getElem? (i := 1035) (by decide +kernel)⟩
theorem lw_p60 : lw_okq (⟨"LieSlidesModel", "putAside", "()V"⟩, 24) := ⟨⟨by decide +kernel, by decide +kernel⟩, List.mem_of_getElem? (i := 761) (by decide +kernel), List.mem_of_getElem? (i := 1038) (by decide +kernel), List.mem_of_getElem? (i := 1039) (by decide +kernel)⟩
theorem lw_p61 : lw_okq (⟨"LieSlidesModel", "putBack", "()V"⟩, 24) := ⟨⟨by decide +kernel, by decide +kernel⟩, List.mem_of_getElem? (i := 761) (by decide +kernel), List.mem_of_getElem? (i := 1042) (by decide +kernel), List.mem_of_getElem? (i := 1043) (by decide +kernel)⟩
theorem lw_p62 : lw_okq (⟨"LieSlidesModel", "brings", "(IIII)Z"⟩, 24) := ⟨⟨by decide +kernel, by decide +kernel⟩, List.mem_of_getElem? (i := 761) (by decide +kernel), List.mem_of_getElem? (i := 1060) (by decide +kernel), List.mem_of_getElem? (i := 1061) (by decide +kernel)⟩
theorem lw_p63 : lw_okq (⟨"LieSlidesModel", "markOf", "(I)I"⟩, 24) := ⟨⟨by decide +kernel, by decide +kernel⟩, List.mem_of_getElem? (i := 761) (by decide +kernel), List.mem_of_getElem? (i := 1097) (by decide +kernel), List.mem_of_getElem? (i := 1098) (by decide +kernel)⟩
def lw_privs_4 : List (MethodName × Nat) := [(⟨"LieSlidesModel", "isThere", "(I)Z"⟩, 24), (⟨"LieSlidesModel", "isDrowned", "(I)Z"⟩, 24), (⟨"LieSlidesModel", "saying", "(II)I"⟩, 24), (⟨"LieSlidesModel", "isLie", "(I)Z"⟩, 24), (⟨"LieSlidesModel", "slide", "(I)I"⟩, 24), (⟨"LieSlidesModel", "meetsEast", "(II)Z"⟩, 24), (⟨"LieSlidesModel", "isStopped", "(I)Z"⟩, 24), (⟨"LieSlidesModel", "isOpen", "(I)Z"⟩, 24), (⟨"LieSlidesModel", "isBoxed", "(I)Z"⟩, 24), (⟨"LieSlidesModel", "rentOf", "(I)I"⟩, 24), (⟨"LieSlidesModel", "whyNot", "(IIIZ)I"⟩, 24), (⟨"LieSlidesModel", "isSo", "(IIII)Z"⟩, 24), (⟨"LieSlidesModel", "putAside", "()V"⟩, 24), (⟨"LieSlidesModel", "putBack", "()V"⟩, 24), (⟨"LieSlidesModel", "brings", "(IIII)Z"⟩, 24), (⟨"LieSlidesModel", "markOf", "(I)I"⟩, 24)]
theorem lw_r4 : ∀ q ∈ lw_privs_4, lw_okq q := List.forall_mem_cons.mpr ⟨lw_p48, List.forall_mem_cons.mpr ⟨lw_p49, List.forall_mem_cons.mpr ⟨lw_p50, List.forall_mem_cons.mpr ⟨lw_p51, List.forall_mem_cons.mpr ⟨lw_p52, List.forall_mem_cons.mpr ⟨lw_p53, List.forall_mem_cons.mpr ⟨lw_p54, List.forall_mem_cons.mpr ⟨lw_p55, List.forall_mem_cons.mpr ⟨lw_p56, List.forall_mem_cons.mpr ⟨lw_p57, List.forall_mem_cons.mpr ⟨lw_p58, List.forall_mem_cons.mpr ⟨lw_p59, List.forall_mem_cons.mpr ⟨lw_p60, List.forall_mem_cons.mpr ⟨lw_p61, List.forall_mem_cons.mpr ⟨lw_p62, List.forall_mem_cons.mpr ⟨lw_p63, fun _ h => absurd h List.not_mem_nil⟩⟩⟩⟩⟩⟩⟩⟩⟩⟩⟩⟩⟩⟩⟩⟩
theorem lw_p64 : lw_okq (⟨"LieSlidesModel", "body23", "(I)I"⟩, 24) := ⟨⟨by decide +kernel, by decide +kernel⟩, List.mem_of_getElem? (i := 761) (by decide +kernel), List.mem_of_getElem? (i := 1101) (by decide +kernel), List.mem_of_getElem? (i := 1102) (by decide +kernel)⟩
theorem lw_p65 : lw_okq (⟨"LieSlidesModel", "leave", "(I)V"⟩, 24) := ⟨⟨by decide +kernel, by decide +kernel⟩, List.mem_of_getElem? (i := 761) (by decide +kernel), List.mem_of_getElem? (i := 1105) (by decide +kernel), List.mem_of_getElem? (i := 1106) (by decide +kernel)⟩
theorem lw_p66 : lw_okq (⟨"LieSlidesModel", "body20", "(I)I"⟩, 24) := ⟨⟨by decide +kernel, by decide +kernel⟩, List.mem_of_getElem? (i := 761) (by decide +kernel), List.mem_of_getElem? (i := 1109) (by decide +kernel), List.mem_of_getElem? (i := 1110) (by decide +kernel)⟩
theorem lw_p67 : lw_okq (⟨"LieSlidesModel", "body13", "(I)I"⟩, 24) := ⟨⟨by decide +kernel, by decide +kernel⟩, List.mem_of_getElem? (i := 761) (by decide +kernel), List.mem_of_getElem? (i := 1113) (by decide +kernel), List.mem_of_getElem? (i := 1114) (by decide +kernel)⟩
theorem lw_p68 : lw_okq (⟨"LieSlidesModel", "body10", "(I)I"⟩, 24) := ⟨⟨by decide +kernel, by decide +kernel⟩, List.mem_of_getElem? (i := 761) (by decide +kernel), List.mem_of_getElem? (i := 1117) (by decide +kernel), List.mem_of_getElem? (i := 1118) (by decide +kernel)⟩
theorem lw_p69 : lw_okq (⟨"LieSlidesModel", "body22", "(I)I"⟩, 24) := ⟨⟨by decide +kernel, by decide +kernel⟩, List.mem_of_getElem? (i := 761) (by decide +kernel), List.mem_of_getElem? (i := 1121) (by decide +kernel), List.mem_of_getElem? (i := 1122) (by decide +kernel)⟩
theorem lw_p70 : lw_okq (⟨"LieSlidesModel", "body21", "(I)I"⟩, 24) := ⟨⟨by decide +kernel, by decide +kernel⟩, List.mem_of_getElem? (i := 761) (by decide +kernel), List.mem_of_getElem? (i := 1125) (by decide +kernel), List.mem_of_getElem? (i := 1126) (by decide +kernel)⟩
theorem lw_p71 : lw_okq (⟨"LieSlidesModel", "body24", "(I)I"⟩, 24) := ⟨⟨by decide +kernel, by decide +kernel⟩, List.mem_of_getElem? (i := 761) (by decide +kernel), List.mem_of_getElem? (i := 1129) (by decide +kernel), List.mem_of_getElem? (i := 1130) (by decide +kernel)⟩
theorem lw_p72 : lw_okq (⟨"LieSlidesModel", "sizeOfOther", "(I)I"⟩, 24) := ⟨⟨by decide +kernel, by decide +kernel⟩, List.mem_of_getElem? (i := 761) (by decide +kernel), List.mem_of_getElem? (i := 1133) (by decide +kernel), List.mem_of_getElem? (i := 1134) (by decide +kernel)⟩
theorem lw_p73 : lw_okq (⟨"LieSlidesModel", "body12", "(I)I"⟩, 24) := ⟨⟨by decide +kernel, by decide +kernel⟩, List.mem_of_getElem? (i := 761) (by decide +kernel), List.mem_of_getElem? (i := 1137) (by decide +kernel), List.mem_of_getElem? (i := 1138) (by decide +kernel)⟩
theorem lw_p74 : lw_okq (⟨"LieSlidesModel", "body11", "(I)I"⟩, 24) := ⟨⟨by decide +kernel, by decide +kernel⟩, List.mem_of_getElem? (i := 761) (by decide +kernel), List.mem_of_getElem? (i := 1141) (by decide +kernel), List.mem_of_getElem? (i := 1142) (by decide +kernel)⟩
theorem lw_p75 : lw_okq (⟨"LieSlidesModel", "body14", "(I)I"⟩, 24) := ⟨⟨by decide +kernel, by decide +kernel⟩, List.mem_of_getElem? (i := 761) (by decide +kernel), List.mem_of_getElem? (i := 1145) (by decide +kernel), List.mem_of_getElem? (i := 1146) (by decide +kernel)⟩
def lw_privs_5 : List (MethodName × Nat) := [(⟨"LieSlidesModel", "body23", "(I)I"⟩, 24), (⟨"LieSlidesModel", "leave", "(I)V"⟩, 24), (⟨"LieSlidesModel", "body20", "(I)I"⟩, 24), (⟨"LieSlidesModel", "body13", "(I)I"⟩, 24), (⟨"LieSlidesModel", "body10", "(I)I"⟩, 24), (⟨"LieSlidesModel", "body22", "(I)I"⟩, 24), (⟨"LieSlidesModel", "body21", "(I)I"⟩, 24), (⟨"LieSlidesModel", "body24", "(I)I"⟩, 24), (⟨"LieSlidesModel", "sizeOfOther", "(I)I"⟩, 24), (⟨"LieSlidesModel", "body12", "(I)I"⟩, 24), (⟨"LieSlidesModel", "body11", "(I)I"⟩, 24), (⟨"LieSlidesModel", "body14", "(I)I"⟩, 24)]
theorem lw_r5 : ∀ q ∈ lw_privs_5, lw_okq q := List.forall_mem_cons.mpr ⟨lw_p64, List.forall_mem_cons.mpr ⟨lw_p65, List.forall_mem_cons.mpr ⟨lw_p66, List.forall_mem_cons.mpr ⟨lw_p67, List.forall_mem_cons.mpr ⟨lw_p68, List.forall_mem_cons.mpr ⟨lw_p69, List.forall_mem_cons.mpr ⟨lw_p70, List.forall_mem_cons.mpr ⟨lw_p71, List.forall_mem_cons.mpr ⟨lw_p72, List.forall_mem_cons.mpr ⟨lw_p73, List.forall_mem_cons.mpr ⟨lw_p74, List.forall_mem_cons.mpr ⟨lw_p75, fun _ h => absurd h List.not_mem_nil⟩⟩⟩⟩⟩⟩⟩⟩⟩⟩⟩⟩
def lw_privs : List (MethodName × Nat) := lw_privs_1 ++ (lw_privs_2 ++ (lw_privs_3 ++ (lw_privs_4 ++ (lw_privs_5))))
def lw_tbl : List Cond := k2_sels lw_privs ++ tables_1
theorem lw_privs_ok : ∀ q ∈ lw_privs, lw_okq q := by
  show ∀ q ∈ lw_privs_1 ++ (lw_privs_2 ++ (lw_privs_3 ++ (lw_privs_4 ++ (lw_privs_5)))), lw_okq q
  exact List.forall_mem_append.mpr ⟨lw_r1, List.forall_mem_append.mpr ⟨lw_r2, List.forall_mem_append.mpr ⟨lw_r3, List.forall_mem_append.mpr ⟨lw_r4, lw_r5⟩⟩⟩⟩
end
section
def RX0 : String := "LieSlides$Bodies"
def TX0 : u_T := fun k => match k with
  | 0 => ("LieSlides$Bodies", "trail", "[I", true)
  | _ => ("LieSlides$Bodies", "begun", "I", false)
def tyX0 : Nat → FieldType := fun k => match k with
  | 0 => .array .int
  | _ => .int
theorem nmX0 : ∀ a, a < 2 → ∀ b, b < 2 → a ≠ b → (TX0 a).2.1 ≠ (TX0 b).2.1 := by decide +kernel
theorem tyX0_ok : ∀ k, k < 2 → parseFieldDescriptor (TX0 k).2.2.1 = some (tyX0 k) := by decide +kernel
abbrev cX0_init : ByteArray := prog_2_method_1_code
def yX0_init : MethodName := ⟨RX0, "<init>", "()V"⟩
abbrev cX0_begin : ByteArray := prog_2_method_2_code
def yX0_begin : MethodName := ⟨RX0, "begin", "(LLieSlides$Field;II)I"⟩
abbrev cX0_traced : ByteArray := prog_2_method_3_code
def yX0_traced : MethodName := ⟨RX0, "traced", "(I)I"⟩
abbrev cX0_asked : ByteArray := prog_2_method_4_code
def yX0_asked : MethodName := ⟨RX0, "asked", "(LLieSlides$Field;III)I"⟩
abbrev cX0_bodyFor : ByteArray := prog_2_method_5_code
def yX0_bodyFor : MethodName := ⟨RX0, "bodyFor", "(II)I"⟩
abbrev cX0_given : ByteArray := prog_2_method_6_code
def yX0_given : MethodName := ⟨RX0, "given", "(LLieSlides$Field;III)I"⟩
abbrev cX0_leaveTrace : ByteArray := prog_2_method_7_code
def yX0_leaveTrace : MethodName := ⟨RX0, "leaveTrace", "(I)V"⟩
def RX1 : String := "LieSlides$Field"
def TX1 : u_T := fun k => match k with
  | 0 => ("LieSlides$Field", "truths", "I", false)
  | 1 => ("LieSlides$Field", "brookX", "I", false)
  | 2 => ("LieSlides$Field", "houses", "I", false)
  | 3 => ("LieSlides$Field", "xs", "I", false)
  | 4 => ("LieSlides$Field", "walls", "[I", true)
  | 5 => ("LieSlides$Field", "paths", "[I", true)
  | 6 => ("LieSlides$Field", "kinds", "[I", true)
  | 7 => ("LieSlides$Field", "ys", "[I", true)
  | 8 => ("LieSlides$Field", "wides", "[I", true)
  | 9 => ("LieSlides$Field", "highs", "[I", true)
  | _ => ("LieSlides$Field", "liesTold", "[I", true)
def tyX1 : Nat → FieldType := fun k => match k with
  | 0 => .int
  | 1 => .int
  | 2 => .int
  | 3 => .int
  | 4 => .array .int
  | 5 => .array .int
  | 6 => .array .int
  | 7 => .array .int
  | 8 => .array .int
  | 9 => .array .int
  | _ => .array .int
theorem nmX1 : ∀ a, a < 11 → ∀ b, b < 11 → a ≠ b → (TX1 a).2.1 ≠ (TX1 b).2.1 := by decide +kernel
theorem tyX1_ok : ∀ k, k < 11 → parseFieldDescriptor (TX1 k).2.2.1 = some (tyX1 k) := by decide +kernel
abbrev cX1_init : ByteArray := prog_3_method_1_code
def yX1_init : MethodName := ⟨RX1, "<init>", "()V"⟩
abbrev cX1_isThere : ByteArray := prog_3_method_2_code
def yX1_isThere : MethodName := ⟨RX1, "isThere", "()Z"⟩
abbrev cX1_isHouse : ByteArray := prog_3_method_3_code
def yX1_isHouse : MethodName := ⟨RX1, "isHouse", "(I)Z"⟩
abbrev cX1_clear : ByteArray := prog_3_method_4_code
def yX1_clear : MethodName := ⟨RX1, "clear", "()V"⟩
abbrev cX1_become : ByteArray := prog_3_method_5_code
def yX1_become : MethodName := ⟨RX1, "become", "(LLieSlides$Field;)V"⟩
abbrev cX1_addHouse : ByteArray := prog_3_method_6_code
def yX1_addHouse : MethodName := ⟨RX1, "addHouse", "(IIIII)V"⟩
abbrev cX1_hasRoomFor : ByteArray := prog_3_method_7_code
def yX1_hasRoomFor : MethodName := ⟨RX1, "hasRoomFor", "(IIII)Z"⟩
abbrev cX1_isLie : ByteArray := prog_3_method_8_code
def yX1_isLie : MethodName := ⟨RX1, "isLie", "(I)Z"⟩
abbrev cX1_xOf : ByteArray := prog_3_method_9_code
def yX1_xOf : MethodName := ⟨RX1, "xOf", "(II)I"⟩
abbrev cX1_eastOf : ByteArray := prog_3_method_10_code
def yX1_eastOf : MethodName := ⟨RX1, "eastOf", "(II)I"⟩
abbrev cX1_isDrowned : ByteArray := prog_3_method_11_code
def yX1_isDrowned : MethodName := ⟨RX1, "isDrowned", "(II)Z"⟩
abbrev cX1_isWall : ByteArray := prog_3_method_12_code
def yX1_isWall : MethodName := ⟨RX1, "isWall", "(II)Z"⟩
abbrev cX1_isPath : ByteArray := prog_3_method_13_code
def yX1_isPath : MethodName := ⟨RX1, "isPath", "(II)Z"⟩
abbrev cX1_hasColumn : ByteArray := prog_3_method_14_code
def yX1_hasColumn : MethodName := ⟨RX1, "hasColumn", "(III)Z"⟩
abbrev cX1_houseAt : ByteArray := prog_3_method_15_code
def yX1_houseAt : MethodName := ⟨RX1, "houseAt", "(II)I"⟩
abbrev cX1_contentOf : ByteArray := prog_3_method_16_code
def yX1_contentOf : MethodName := ⟨RX1, "contentOf", "(II)I"⟩
abbrev cX1_isOpen : ByteArray := prog_3_method_17_code
def yX1_isOpen : MethodName := ⟨RX1, "isOpen", "(I)Z"⟩
abbrev cX1_isBoxed : ByteArray := prog_3_method_18_code
def yX1_isBoxed : MethodName := ⟨RX1, "isBoxed", "(I)Z"⟩
abbrev cX1_rentOf : ByteArray := prog_3_method_19_code
def yX1_rentOf : MethodName := ⟨RX1, "rentOf", "(I)I"⟩
abbrev cX1_allRents : ByteArray := prog_3_method_20_code
def yX1_allRents : MethodName := ⟨RX1, "allRents", "()I"⟩
abbrev cX1_allLies : ByteArray := prog_3_method_21_code
def yX1_allLies : MethodName := ⟨RX1, "allLies", "()I"⟩
abbrev cX1_wallCells : ByteArray := prog_3_method_22_code
def yX1_wallCells : MethodName := ⟨RX1, "wallCells", "()I"⟩
abbrev cX1_slidBy : ByteArray := prog_3_method_23_code
def yX1_slidBy : MethodName := ⟨RX1, "slidBy", "(II)I"⟩
abbrev cX1_isStopped : ByteArray := prog_3_method_24_code
def yX1_isStopped : MethodName := ⟨RX1, "isStopped", "(II)Z"⟩
abbrev cX1_pushedBy : ByteArray := prog_3_method_25_code
def yX1_pushedBy : MethodName := ⟨RX1, "pushedBy", "(II)I"⟩
abbrev cX1_shareRow : ByteArray := prog_3_method_26_code
def yX1_shareRow : MethodName := ⟨RX1, "shareRow", "(II)Z"⟩
abbrev cX1_afterSlide : ByteArray := prog_3_method_27_code
def yX1_afterSlide : MethodName := ⟨RX1, "afterSlide", "(II)I"⟩
def RX2 : String := "LieSlides$Foresight"
def TX2 : u_T := fun k => match k with
  | 0 => ("LieSlides$Foresight", "standsBy", "[I", true)
  | 1 => ("LieSlides$Foresight", "fittingSets", "[I", true)
  | 2 => ("LieSlides$Foresight", "fits", "I", false)
  | _ => ("LieSlides$Foresight", "liars", "[I", true)
def tyX2 : Nat → FieldType := fun k => match k with
  | 0 => .array .int
  | 1 => .array .int
  | 2 => .int
  | _ => .array .int
theorem nmX2 : ∀ a, a < 4 → ∀ b, b < 4 → a ≠ b → (TX2 a).2.1 ≠ (TX2 b).2.1 := by decide +kernel
theorem tyX2_ok : ∀ k, k < 4 → parseFieldDescriptor (TX2 k).2.2.1 = some (tyX2 k) := by decide +kernel
abbrev cX2_init : ByteArray := prog_4_method_1_code
def yX2_init : MethodName := ⟨RX2, "<init>", "()V"⟩
abbrev cX2_beginAt : ByteArray := prog_4_method_2_code
def yX2_beginAt : MethodName := ⟨RX2, "beginAt", "(I)V"⟩
abbrev cX2_addSaying : ByteArray := prog_4_method_3_code
def yX2_addSaying : MethodName := ⟨RX2, "addSaying", "(LLieSlides$Field;II)V"⟩
abbrev cX2_keepFitting : ByteArray := prog_4_method_4_code
def yX2_keepFitting : MethodName := ⟨RX2, "keepFitting", "(II)V"⟩
abbrev cX2_fitting : ByteArray := prog_4_method_5_code
def yX2_fitting : MethodName := ⟨RX2, "fitting", "()I"⟩
abbrev cX2_fittingSet : ByteArray := prog_4_method_6_code
def yX2_fittingSet : MethodName := ⟨RX2, "fittingSet", "(I)I"⟩
abbrev cX2_fewestLies : ByteArray := prog_4_method_7_code
def yX2_fewestLies : MethodName := ⟨RX2, "fewestLies", "()I"⟩
abbrev cX2_sureLies : ByteArray := prog_4_method_8_code
def yX2_sureLies : MethodName := ⟨RX2, "sureLies", "()I"⟩
abbrev cX2_bestQuestion : ByteArray := prog_4_method_9_code
def yX2_bestQuestion : MethodName := ⟨RX2, "bestQuestion", "(I)I"⟩
abbrev cX2_findLiars : ByteArray := prog_4_method_10_code
def yX2_findLiars : MethodName := ⟨RX2, "findLiars", "(LLieSlides$Field;II)I"⟩
abbrev cX2_canReach : ByteArray := prog_4_method_11_code
def yX2_canReach : MethodName := ⟨RX2, "canReach", "(LLieSlides$Field;IIIII)Z"⟩
abbrev cX2_liar : ByteArray := prog_4_method_12_code
def yX2_liar : MethodName := ⟨RX2, "liar", "(II)I"⟩
abbrev cX2_liesTillBrook : ByteArray := prog_4_method_13_code
def yX2_liesTillBrook : MethodName := ⟨RX2, "liesTillBrook", "(LLieSlides$Field;I)I"⟩
def RX3 : String := "LieSlides$History"
def TX3 : u_T := fun k => match k with
  | 0 => ("LieSlides$History", "standsAhead", "[I", true)
  | 1 => ("LieSlides$History", "liars", "[I", true)
  | 2 => ("LieSlides$History", "next", "I", false)
  | _ => ("LieSlides$History", "kept", "I", false)
def tyX3 : Nat → FieldType := fun k => match k with
  | 0 => .array .int
  | 1 => .array .int
  | 2 => .int
  | _ => .int
theorem nmX3 : ∀ a, a < 4 → ∀ b, b < 4 → a ≠ b → (TX3 a).2.1 ≠ (TX3 b).2.1 := by decide +kernel
theorem tyX3_ok : ∀ k, k < 4 → parseFieldDescriptor (TX3 k).2.2.1 = some (tyX3 k) := by decide +kernel
abbrev cX3_init : ByteArray := prog_5_method_1_code
def yX3_init : MethodName := ⟨RX3, "<init>", "()V"⟩
abbrev cX3_size : ByteArray := prog_5_method_2_code
def yX3_size : MethodName := ⟨RX3, "size", "()I"⟩
abbrev cX3_forgetAll : ByteArray := prog_5_method_3_code
def yX3_forgetAll : MethodName := ⟨RX3, "forgetAll", "()V"⟩
abbrev cX3_keep : ByteArray := prog_5_method_4_code
def yX3_keep : MethodName := ⟨RX3, "keep", "(II)V"⟩
abbrev cX3_undoLatest : ByteArray := prog_5_method_5_code
def yX3_undoLatest : MethodName := ⟨RX3, "undoLatest", "(LLieSlides$Field;)V"⟩
def RX4 : String := "LieSlides$Kinds"
def TX4 : u_T := fun k => match k with
  | _ => ("", "", "", false)
def tyX4 : Nat → FieldType := fun k => match k with
  | _ => .int
theorem nmX4 : ∀ a, a < 0 → ∀ b, b < 0 → a ≠ b → (TX4 a).2.1 ≠ (TX4 b).2.1 := by decide +kernel
theorem tyX4_ok : ∀ k, k < 0 → parseFieldDescriptor (TX4 k).2.2.1 = some (tyX4 k) := by decide +kernel
abbrev cX4_isNumber : ByteArray := prog_6_method_2_code
def yX4_isNumber : MethodName := ⟨RX4, "isNumber", "(I)Z"⟩
abbrev cX4_parentOf : ByteArray := prog_6_method_3_code
def yX4_parentOf : MethodName := ⟨RX4, "parentOf", "(I)I"⟩
abbrev cX4_isOne : ByteArray := prog_6_method_4_code
def yX4_isOne : MethodName := ⟨RX4, "isOne", "(II)Z"⟩
def RX5 : String := "LieSlides$Reader"
def TX5 : u_T := fun k => match k with
  | 0 => ("LieSlides$Reader", "tape", "[B", true)
  | 1 => ("LieSlides$Reader", "bytes", "I", false)
  | 2 => ("LieSlides$Reader", "draft", "LLieSlides$Field;", true)
  | 3 => ("LieSlides$Reader", "fault", "I", false)
  | 4 => ("LieSlides$Reader", "place", "I", false)
  | 5 => ("LieSlides$Reader", "start", "I", false)
  | 6 => ("LieSlides$Reader", "end", "I", false)
  | 7 => ("LieSlides$Reader", "sort", "I", false)
  | _ => ("LieSlides$Reader", "value", "I", false)
def tyX5 : Nat → FieldType := fun k => match k with
  | 0 => .array .byte
  | 1 => .int
  | 2 => .object "LieSlides$Field"
  | 3 => .int
  | 4 => .int
  | 5 => .int
  | 6 => .int
  | 7 => .int
  | _ => .int
theorem nmX5 : ∀ a, a < 9 → ∀ b, b < 9 → a ≠ b → (TX5 a).2.1 ≠ (TX5 b).2.1 := by decide +kernel
theorem tyX5_ok : ∀ k, k < 9 → parseFieldDescriptor (TX5 k).2.2.1 = some (tyX5 k) := by decide +kernel
abbrev cX5_init : ByteArray := prog_7_method_1_code
def yX5_init : MethodName := ⟨RX5, "<init>", "()V"⟩
abbrev cX5_length : ByteArray := prog_7_method_2_code
def yX5_length : MethodName := ⟨RX5, "length", "()I"⟩
abbrev cX5_faultNumber : ByteArray := prog_7_method_3_code
def yX5_faultNumber : MethodName := ⟨RX5, "faultNumber", "()I"⟩
abbrev cX5_faultPlace : ByteArray := prog_7_method_4_code
def yX5_faultPlace : MethodName := ⟨RX5, "faultPlace", "()I"⟩
abbrev cX5_draft : ByteArray := prog_7_method_5_code
def yX5_draft : MethodName := ⟨RX5, "draft", "()LLieSlides$Field;"⟩
abbrev cX5_append : ByteArray := prog_7_method_6_code
def yX5_append : MethodName := ⟨RX5, "append", "(JI)Z"⟩
abbrev cX5_readTape : ByteArray := prog_7_method_7_code
def yX5_readTape : MethodName := ⟨RX5, "readTape", "()Z"⟩
abbrev cX5_readFacts : ByteArray := prog_7_method_8_code
def yX5_readFacts : MethodName := ⟨RX5, "readFacts", "()Z"⟩
abbrev cX5_readWalls : ByteArray := prog_7_method_9_code
def yX5_readWalls : MethodName := ⟨RX5, "readWalls", "()Z"⟩
abbrev cX5_readPaths : ByteArray := prog_7_method_10_code
def yX5_readPaths : MethodName := ⟨RX5, "readPaths", "()Z"⟩
abbrev cX5_readHouses : ByteArray := prog_7_method_11_code
def yX5_readHouses : MethodName := ⟨RX5, "readHouses", "()Z"⟩
abbrev cX5_readHouse : ByteArray := prog_7_method_12_code
def yX5_readHouse : MethodName := ⟨RX5, "readHouse", "()Z"⟩
abbrev cX5_kindOfWord : ByteArray := prog_7_method_13_code
def yX5_kindOfWord : MethodName := ⟨RX5, "kindOfWord", "()I"⟩
abbrev cX5_failWith : ByteArray := prog_7_method_14_code
def yX5_failWith : MethodName := ⟨RX5, "failWith", "(I)Z"⟩
abbrev cX5_takeNumber : ByteArray := prog_7_method_15_code
def yX5_takeNumber : MethodName := ⟨RX5, "takeNumber", "(II)Z"⟩
abbrev cX5_takeSemicolon : ByteArray := prog_7_method_16_code
def yX5_takeSemicolon : MethodName := ⟨RX5, "takeSemicolon", "()Z"⟩
abbrev cX5_isWord : ByteArray := prog_7_method_17_code
def yX5_isWord : MethodName := ⟨RX5, "isWord", "(Ljava/lang/String;)Z"⟩
abbrev cX5_takeToken : ByteArray := prog_7_method_18_code
def yX5_takeToken : MethodName := ⟨RX5, "takeToken", "()V"⟩
abbrev cX5_endOfRun : ByteArray := prog_7_method_19_code
def yX5_endOfRun : MethodName := ⟨RX5, "endOfRun", "(CC)I"⟩
abbrev cX5_valueOfFigures : ByteArray := prog_7_method_20_code
def yX5_valueOfFigures : MethodName := ⟨RX5, "valueOfFigures", "()I"⟩
def RX6 : String := "LieSlides$Rows"
def TX6 : u_T := fun k => match k with
  | 0 => ("LieSlides$Rows", "lanes", "[I", true)
  | 1 => ("LieSlides$Rows", "sizes", "[I", true)
  | _ => ("LieSlides$Rows", "items", "[I", true)
def tyX6 : Nat → FieldType := fun k => match k with
  | 0 => .array .int
  | 1 => .array .int
  | _ => .array .int
theorem nmX6 : ∀ a, a < 3 → ∀ b, b < 3 → a ≠ b → (TX6 a).2.1 ≠ (TX6 b).2.1 := by decide +kernel
theorem tyX6_ok : ∀ k, k < 3 → parseFieldDescriptor (TX6 k).2.2.1 = some (tyX6 k) := by decide +kernel
abbrev cX6_init : ByteArray := prog_8_method_1_code
def yX6_init : MethodName := ⟨RX6, "<init>", "()V"⟩
abbrev cX6_isNumber : ByteArray := prog_8_method_2_code
def yX6_isNumber : MethodName := ⟨RX6, "isNumber", "(I)Z"⟩
abbrev cX6_isLane : ByteArray := prog_8_method_3_code
def yX6_isLane : MethodName := ⟨RX6, "isLane", "(I)Z"⟩
abbrev cX6_isMissing : ByteArray := prog_8_method_4_code
def yX6_isMissing : MethodName := ⟨RX6, "isMissing", "(I)Z"⟩
abbrev cX6_laneOf : ByteArray := prog_8_method_5_code
def yX6_laneOf : MethodName := ⟨RX6, "laneOf", "(I)I"⟩
abbrev cX6_item : ByteArray := prog_8_method_6_code
def yX6_item : MethodName := ⟨RX6, "item", "(II)I"⟩
abbrev cX6_hasPlaces : ByteArray := prog_8_method_7_code
def yX6_hasPlaces : MethodName := ⟨RX6, "hasPlaces", "(III)Z"⟩
abbrev cX6_make : ByteArray := prog_8_method_8_code
def yX6_make : MethodName := ⟨RX6, "make", "(III)V"⟩
abbrev cX6_put : ByteArray := prog_8_method_9_code
def yX6_put : MethodName := ⟨RX6, "put", "(III)I"⟩
abbrev cX6_move : ByteArray := prog_8_method_10_code
def yX6_move : MethodName := ⟨RX6, "move", "(IIIII)V"⟩
abbrev cX6_remove : ByteArray := prog_8_method_11_code
def yX6_remove : MethodName := ⟨RX6, "remove", "(I)I"⟩
abbrev cX6_present : ByteArray := prog_8_method_12_code
def yX6_present : MethodName := ⟨RX6, "present", "()I"⟩
def RX7 : String := "LieSlides"
def TX7 : u_T := fun k => match k with
  | 0 => ("LieSlides", "rows", "LLieSlides$Rows;", true)
  | 1 => ("LieSlides", "reader", "LLieSlides$Reader;", true)
  | 2 => ("LieSlides", "ground", "LLieSlides$Field;", true)
  | 3 => ("LieSlides", "images", "[LLieSlides$Field;", true)
  | 4 => ("LieSlides", "history", "LLieSlides$History;", true)
  | 5 => ("LieSlides", "foresight", "LLieSlides$Foresight;", true)
  | 6 => ("LieSlides", "bodies", "LLieSlides$Bodies;", true)
  | _ => ("LieSlides", "finding", "I", false)
def tyX7 : Nat → FieldType := fun k => match k with
  | 0 => .object "LieSlides$Rows"
  | 1 => .object "LieSlides$Reader"
  | 2 => .object "LieSlides$Field"
  | 3 => .array (.object "LieSlides$Field")
  | 4 => .object "LieSlides$History"
  | 5 => .object "LieSlides$Foresight"
  | 6 => .object "LieSlides$Bodies"
  | _ => .int
theorem nmX7 : ∀ a, a < 8 → ∀ b, b < 8 → a ≠ b → (TX7 a).2.1 ≠ (TX7 b).2.1 := by decide +kernel
theorem tyX7_ok : ∀ k, k < 8 → parseFieldDescriptor (TX7 k).2.2.1 = some (tyX7 k) := by decide +kernel
abbrev cX7_init : ByteArray := prog_1_method_1_code
def yX7_init : MethodName := ⟨RX7, "<init>", "()V"⟩
abbrev cX7_row : ByteArray := prog_1_method_2_code
def yX7_row : MethodName := ⟨RX7, "row", "(III)I"⟩
abbrev cX7_set : ByteArray := prog_1_method_3_code
def yX7_set : MethodName := ⟨RX7, "set", "(III)I"⟩
abbrev cX7_copy : ByteArray := prog_1_method_4_code
def yX7_copy : MethodName := ⟨RX7, "copy", "(IIIII)I"⟩
abbrev cX7_drop : ByteArray := prog_1_method_5_code
def yX7_drop : MethodName := ⟨RX7, "drop", "(I)I"⟩
abbrev cX7_feed : ByteArray := prog_1_method_6_code
def yX7_feed : MethodName := ⟨RX7, "feed", "(JI)I"⟩
abbrev cX7_field : ByteArray := prog_1_method_7_code
def yX7_field : MethodName := ⟨RX7, "field", "()I"⟩
abbrev cX7_fault : ByteArray := prog_1_method_8_code
def yX7_fault : MethodName := ⟨RX7, "fault", "()I"⟩
abbrev cX7_say : ByteArray := prog_1_method_9_code
def yX7_say : MethodName := ⟨RX7, "say", "(II)I"⟩
abbrev cX7_talk : ByteArray := prog_1_method_10_code
def yX7_talk : MethodName := ⟨RX7, "talk", "(III)I"⟩
abbrev cX7_undo : ByteArray := prog_1_method_11_code
def yX7_undo : MethodName := ⟨RX7, "undo", "()I"⟩
abbrev cX7_house : ByteArray := prog_1_method_12_code
def yX7_house : MethodName := ⟨RX7, "house", "(II)I"⟩
abbrev cX7_cell : ByteArray := prog_1_method_13_code
def yX7_cell : MethodName := ⟨RX7, "cell", "(I)I"⟩
abbrev cX7_lies : ByteArray := prog_1_method_14_code
def yX7_lies : MethodName := ⟨RX7, "lies", "(IIII)I"⟩
abbrev cX7_guess : ByteArray := prog_1_method_15_code
def yX7_guess : MethodName := ⟨RX7, "guess", "(IIII)I"⟩
abbrev cX7_wanted : ByteArray := prog_1_method_16_code
def yX7_wanted : MethodName := ⟨RX7, "wanted", "(III)I"⟩
abbrev cX7_brook : ByteArray := prog_1_method_17_code
def yX7_brook : MethodName := ⟨RX7, "brook", "(I)I"⟩
abbrev cX7_image : ByteArray := prog_1_method_18_code
def yX7_image : MethodName := ⟨RX7, "image", "(I)I"⟩
abbrev cX7_restore : ByteArray := prog_1_method_19_code
def yX7_restore : MethodName := ⟨RX7, "restore", "(I)I"⟩
abbrev cX7_kind : ByteArray := prog_1_method_20_code
def yX7_kind : MethodName := ⟨RX7, "kind", "(I)I"⟩
abbrev cX7_as : ByteArray := prog_1_method_21_code
def yX7_as : MethodName := ⟨RX7, "as", "(II)I"⟩
abbrev cX7_ask : ByteArray := prog_1_method_22_code
def yX7_ask : MethodName := ⟨RX7, "ask", "(II)I"⟩
abbrev cX7_trace : ByteArray := prog_1_method_23_code
def yX7_trace : MethodName := ⟨RX7, "trace", "(I)I"⟩
abbrev cX7_count : ByteArray := prog_1_method_24_code
def yX7_count : MethodName := ⟨RX7, "count", "(I)I"⟩
abbrev cX7_status : ByteArray := prog_1_method_25_code
def yX7_status : MethodName := ⟨RX7, "status", "()I"⟩
abbrev cX7_found : ByteArray := prog_1_method_26_code
def yX7_found : MethodName := ⟨RX7, "found", "(I)I"⟩
abbrev cX7_answered : ByteArray := prog_1_method_27_code
def yX7_answered : MethodName := ⟨RX7, "answered", "(I)I"⟩
abbrev cX7_sayIn : ByteArray := prog_1_method_28_code
def yX7_sayIn : MethodName := ⟨RX7, "sayIn", "(II)I"⟩
abbrev cX7_areSayings : ByteArray := prog_1_method_29_code
def yX7_areSayings : MethodName := ⟨RX7, "areSayings", "(III)Z"⟩
abbrev cX7_sayAll : ByteArray := prog_1_method_30_code
def yX7_sayAll : MethodName := ⟨RX7, "sayAll", "(III)I"⟩
abbrev cX7_refusalToForetell : ByteArray := prog_1_method_31_code
def yX7_refusalToForetell : MethodName := ⟨RX7, "refusalToForetell", "(IIIZ)I"⟩
abbrev cX7_foretellLies : ByteArray := prog_1_method_32_code
def yX7_foretellLies : MethodName := ⟨RX7, "foretellLies", "(III)V"⟩
abbrev cX7_standsAsOne : ByteArray := prog_1_method_33_code
def yX7_standsAsOne : MethodName := ⟨RX7, "standsAsOne", "(I)I"⟩
def RX8 : String := "LieSlidesModel"
def TX8 : u_T := fun k => match k with
  | 0 => ("LieSlidesModel", "lane", "[I", true)
  | 1 => ("LieSlidesModel", "items", "[I", true)
  | 2 => ("LieSlidesModel", "item", "[I", true)
  | 3 => ("LieSlidesModel", "finding", "I", false)
  | 4 => ("LieSlidesModel", "bytes", "I", false)
  | 5 => ("LieSlidesModel", "tape", "[I", true)
  | 6 => ("LieSlidesModel", "position", "I", false)
  | 7 => ("LieSlidesModel", "tokenAt", "I", false)
  | 8 => ("LieSlidesModel", "token", "I", false)
  | 9 => ("LieSlidesModel", "name", "J", false)
  | 10 => ("LieSlidesModel", "number", "I", false)
  | 11 => ("LieSlidesModel", "latestFault", "I", false)
  | 12 => ("LieSlidesModel", "faultNumber", "I", false)
  | 13 => ("LieSlidesModel", "now", "[I", true)
  | 14 => ("LieSlidesModel", "next", "[I", true)
  | 15 => ("LieSlidesModel", "images", "[I", true)
  | 16 => ("LieSlidesModel", "isKept", "[Z", true)
  | 17 => ("LieSlidesModel", "sayings", "I", false)
  | 18 => ("LieSlidesModel", "ahead", "[I", true)
  | 19 => ("LieSlidesModel", "aside", "[I", true)
  | 20 => ("LieSlidesModel", "traced", "I", false)
  | 21 => ("LieSlidesModel", "trace", "[I", true)
  | 22 => ("LieSlidesModel", "carried", "[I", true)
  | _ => ("LieSlidesModel", "with", "[I", true)
def tyX8 : Nat → FieldType := fun k => match k with
  | 0 => .array .int
  | 1 => .array .int
  | 2 => .array .int
  | 3 => .int
  | 4 => .int
  | 5 => .array .int
  | 6 => .int
  | 7 => .int
  | 8 => .int
  | 9 => .long
  | 10 => .int
  | 11 => .int
  | 12 => .int
  | 13 => .array .int
  | 14 => .array .int
  | 15 => .array .int
  | 16 => .array .boolean
  | 17 => .int
  | 18 => .array .int
  | 19 => .array .int
  | 20 => .int
  | 21 => .array .int
  | 22 => .array .int
  | _ => .array .int
theorem nmX8 : ∀ a, a < 24 → ∀ b, b < 24 → a ≠ b → (TX8 a).2.1 ≠ (TX8 b).2.1 := by decide +kernel
theorem tyX8_ok : ∀ k, k < 24 → parseFieldDescriptor (TX8 k).2.2.1 = some (tyX8 k) := by decide +kernel
abbrev cX8_init : ByteArray := prog_10_method_1_code
def yX8_init : MethodName := ⟨RX8, "<init>", "()V"⟩
abbrev cX8_in : ByteArray := prog_10_method_2_code
def yX8_in : MethodName := ⟨RX8, "in", "(III)Z"⟩
abbrev cX8_has : ByteArray := prog_10_method_3_code
def yX8_has : MethodName := ⟨RX8, "has", "(II)Z"⟩
abbrev cX8_finds : ByteArray := prog_10_method_4_code
def yX8_finds : MethodName := ⟨RX8, "finds", "(I)I"⟩
abbrev cX8_did : ByteArray := prog_10_method_5_code
def yX8_did : MethodName := ⟨RX8, "did", "(I)I"⟩
abbrev cX8_isRow : ByteArray := prog_10_method_6_code
def yX8_isRow : MethodName := ⟨RX8, "isRow", "(I)Z"⟩
abbrev cX8_isMissing : ByteArray := prog_10_method_7_code
def yX8_isMissing : MethodName := ⟨RX8, "isMissing", "(I)Z"⟩
abbrev cX8_row : ByteArray := prog_10_method_8_code
def yX8_row : MethodName := ⟨RX8, "row", "(III)I"⟩
abbrev cX8_set : ByteArray := prog_10_method_9_code
def yX8_set : MethodName := ⟨RX8, "set", "(III)I"⟩
abbrev cX8_copy : ByteArray := prog_10_method_10_code
def yX8_copy : MethodName := ⟨RX8, "copy", "(IIIII)I"⟩
abbrev cX8_drop : ByteArray := prog_10_method_11_code
def yX8_drop : MethodName := ⟨RX8, "drop", "(I)I"⟩
abbrev cX8_feed : ByteArray := prog_10_method_12_code
def yX8_feed : MethodName := ⟨RX8, "feed", "(JI)I"⟩
abbrev cX8_here : ByteArray := prog_10_method_13_code
def yX8_here : MethodName := ⟨RX8, "here", "()I"⟩
abbrev cX8_nextToken : ByteArray := prog_10_method_14_code
def yX8_nextToken : MethodName := ⟨RX8, "nextToken", "()V"⟩
abbrev cX8_fails : ByteArray := prog_10_method_15_code
def yX8_fails : MethodName := ⟨RX8, "fails", "(I)Z"⟩
abbrev cX8_isName : ByteArray := prog_10_method_16_code
def yX8_isName : MethodName := ⟨RX8, "isName", "(J)Z"⟩
abbrev cX8_isNumber : ByteArray := prog_10_method_17_code
def yX8_isNumber : MethodName := ⟨RX8, "isNumber", "(II)Z"⟩
abbrev cX8_isEnd : ByteArray := prog_10_method_18_code
def yX8_isEnd : MethodName := ⟨RX8, "isEnd", "()Z"⟩
abbrev cX8_isFacts : ByteArray := prog_10_method_19_code
def yX8_isFacts : MethodName := ⟨RX8, "isFacts", "()Z"⟩
abbrev cX8_isWall : ByteArray := prog_10_method_20_code
def yX8_isWall : MethodName := ⟨RX8, "isWall", "()Z"⟩
abbrev cX8_isPath : ByteArray := prog_10_method_21_code
def yX8_isPath : MethodName := ⟨RX8, "isPath", "()Z"⟩
abbrev cX8_isOf : ByteArray := prog_10_method_22_code
def yX8_isOf : MethodName := ⟨RX8, "isOf", "([IIII)Z"⟩
abbrev cX8_houseAt : ByteArray := prog_10_method_23_code
def yX8_houseAt : MethodName := ⟨RX8, "houseAt", "([III)I"⟩
abbrev cX8_isWallAt : ByteArray := prog_10_method_24_code
def yX8_isWallAt : MethodName := ⟨RX8, "isWallAt", "([III)Z"⟩
abbrev cX8_isHouse : ByteArray := prog_10_method_25_code
def yX8_isHouse : MethodName := ⟨RX8, "isHouse", "()Z"⟩
abbrev cX8_areItems : ByteArray := prog_10_method_26_code
def yX8_areItems : MethodName := ⟨RX8, "areItems", "(IJI)Z"⟩
abbrev cX8_isField : ByteArray := prog_10_method_27_code
def yX8_isField : MethodName := ⟨RX8, "isField", "()Z"⟩
abbrev cX8_field : ByteArray := prog_10_method_28_code
def yX8_field : MethodName := ⟨RX8, "field", "()I"⟩
abbrev cX8_fault : ByteArray := prog_10_method_29_code
def yX8_fault : MethodName := ⟨RX8, "fault", "()I"⟩
abbrev cX8_isThere : ByteArray := prog_10_method_30_code
def yX8_isThere : MethodName := ⟨RX8, "isThere", "(I)Z"⟩
abbrev cX8_meetsEast : ByteArray := prog_10_method_31_code
def yX8_meetsEast : MethodName := ⟨RX8, "meetsEast", "(II)Z"⟩
abbrev cX8_isStopped : ByteArray := prog_10_method_32_code
def yX8_isStopped : MethodName := ⟨RX8, "isStopped", "(I)Z"⟩
abbrev cX8_slide : ByteArray := prog_10_method_33_code
def yX8_slide : MethodName := ⟨RX8, "slide", "(I)I"⟩
abbrev cX8_isDrowned : ByteArray := prog_10_method_34_code
def yX8_isDrowned : MethodName := ⟨RX8, "isDrowned", "(I)Z"⟩
abbrev cX8_isLie : ByteArray := prog_10_method_35_code
def yX8_isLie : MethodName := ⟨RX8, "isLie", "(I)Z"⟩
abbrev cX8_saying : ByteArray := prog_10_method_36_code
def yX8_saying : MethodName := ⟨RX8, "saying", "(II)I"⟩
abbrev cX8_say : ByteArray := prog_10_method_37_code
def yX8_say : MethodName := ⟨RX8, "say", "(II)I"⟩
abbrev cX8_talk : ByteArray := prog_10_method_38_code
def yX8_talk : MethodName := ⟨RX8, "talk", "(III)I"⟩
abbrev cX8_undo : ByteArray := prog_10_method_39_code
def yX8_undo : MethodName := ⟨RX8, "undo", "()I"⟩
abbrev cX8_isOpen : ByteArray := prog_10_method_40_code
def yX8_isOpen : MethodName := ⟨RX8, "isOpen", "(I)Z"⟩
abbrev cX8_isBoxed : ByteArray := prog_10_method_41_code
def yX8_isBoxed : MethodName := ⟨RX8, "isBoxed", "(I)Z"⟩
abbrev cX8_rentOf : ByteArray := prog_10_method_42_code
def yX8_rentOf : MethodName := ⟨RX8, "rentOf", "(I)I"⟩
abbrev cX8_house : ByteArray := prog_10_method_43_code
def yX8_house : MethodName := ⟨RX8, "house", "(II)I"⟩
abbrev cX8_cell : ByteArray := prog_10_method_44_code
def yX8_cell : MethodName := ⟨RX8, "cell", "(I)I"⟩
abbrev cX8_putAside : ByteArray := prog_10_method_45_code
def yX8_putAside : MethodName := ⟨RX8, "putAside", "()V"⟩
abbrev cX8_putBack : ByteArray := prog_10_method_46_code
def yX8_putBack : MethodName := ⟨RX8, "putBack", "()V"⟩
abbrev cX8_whyNot : ByteArray := prog_10_method_47_code
def yX8_whyNot : MethodName := ⟨RX8, "whyNot", "(IIIZ)I"⟩
abbrev cX8_isSo : ByteArray := prog_10_method_48_code
def yX8_isSo : MethodName := ⟨RX8, "isSo", "(IIII)Z"⟩
abbrev cX8_lies : ByteArray := prog_10_method_49_code
def yX8_lies : MethodName := ⟨RX8, "lies", "(IIII)I"⟩
abbrev cX8_bits : ByteArray := prog_10_method_50_code
def yX8_bits : MethodName := ⟨RX8, "bits", "(I)I"⟩
abbrev cX8_guess : ByteArray := prog_10_method_51_code
def yX8_guess : MethodName := ⟨RX8, "guess", "(IIII)I"⟩
abbrev cX8_rows : ByteArray := prog_10_method_52_code
def yX8_rows : MethodName := ⟨RX8, "rows", "(I)I"⟩
abbrev cX8_whose : ByteArray := prog_10_method_53_code
def yX8_whose : MethodName := ⟨RX8, "whose", "(III)I"⟩
abbrev cX8_brings : ByteArray := prog_10_method_54_code
def yX8_brings : MethodName := ⟨RX8, "brings", "(IIII)Z"⟩
abbrev cX8_wanted : ByteArray := prog_10_method_55_code
def yX8_wanted : MethodName := ⟨RX8, "wanted", "(III)I"⟩
abbrev cX8_brook : ByteArray := prog_10_method_56_code
def yX8_brook : MethodName := ⟨RX8, "brook", "(I)I"⟩
abbrev cX8_image : ByteArray := prog_10_method_57_code
def yX8_image : MethodName := ⟨RX8, "image", "(I)I"⟩
abbrev cX8_restore : ByteArray := prog_10_method_58_code
def yX8_restore : MethodName := ⟨RX8, "restore", "(I)I"⟩
abbrev cX8_kind : ByteArray := prog_10_method_59_code
def yX8_kind : MethodName := ⟨RX8, "kind", "(I)I"⟩
abbrev cX8_above : ByteArray := prog_10_method_60_code
def yX8_above : MethodName := ⟨RX8, "above", "(I)I"⟩
abbrev cX8_isKind : ByteArray := prog_10_method_61_code
def yX8_isKind : MethodName := ⟨RX8, "isKind", "(II)Z"⟩
abbrev cX8_as : ByteArray := prog_10_method_62_code
def yX8_as : MethodName := ⟨RX8, "as", "(II)I"⟩
abbrev cX8_leave : ByteArray := prog_10_method_63_code
def yX8_leave : MethodName := ⟨RX8, "leave", "(I)V"⟩
abbrev cX8_body10 : ByteArray := prog_10_method_64_code
def yX8_body10 : MethodName := ⟨RX8, "body10", "(I)I"⟩
abbrev cX8_body11 : ByteArray := prog_10_method_65_code
def yX8_body11 : MethodName := ⟨RX8, "body11", "(I)I"⟩
abbrev cX8_body12 : ByteArray := prog_10_method_66_code
def yX8_body12 : MethodName := ⟨RX8, "body12", "(I)I"⟩
abbrev cX8_body13 : ByteArray := prog_10_method_67_code
def yX8_body13 : MethodName := ⟨RX8, "body13", "(I)I"⟩
abbrev cX8_body14 : ByteArray := prog_10_method_68_code
def yX8_body14 : MethodName := ⟨RX8, "body14", "(I)I"⟩
abbrev cX8_sizeOfOther : ByteArray := prog_10_method_69_code
def yX8_sizeOfOther : MethodName := ⟨RX8, "sizeOfOther", "(I)I"⟩
abbrev cX8_body20 : ByteArray := prog_10_method_70_code
def yX8_body20 : MethodName := ⟨RX8, "body20", "(I)I"⟩
abbrev cX8_body21 : ByteArray := prog_10_method_71_code
def yX8_body21 : MethodName := ⟨RX8, "body21", "(I)I"⟩
abbrev cX8_body22 : ByteArray := prog_10_method_72_code
def yX8_body22 : MethodName := ⟨RX8, "body22", "(I)I"⟩
abbrev cX8_body23 : ByteArray := prog_10_method_73_code
def yX8_body23 : MethodName := ⟨RX8, "body23", "(I)I"⟩
abbrev cX8_body24 : ByteArray := prog_10_method_74_code
def yX8_body24 : MethodName := ⟨RX8, "body24", "(I)I"⟩
abbrev cX8_markOf : ByteArray := prog_10_method_75_code
def yX8_markOf : MethodName := ⟨RX8, "markOf", "(I)I"⟩
abbrev cX8_ask : ByteArray := prog_10_method_76_code
def yX8_ask : MethodName := ⟨RX8, "ask", "(II)I"⟩
abbrev cX8_trace : ByteArray := prog_10_method_77_code
def yX8_trace : MethodName := ⟨RX8, "trace", "(I)I"⟩
abbrev cX8_count : ByteArray := prog_10_method_78_code
def yX8_count : MethodName := ⟨RX8, "count", "(I)I"⟩
abbrev cX8_status : ByteArray := prog_10_method_79_code
def yX8_status : MethodName := ⟨RX8, "status", "()I"⟩
def RJ6 : String := "java/lang/Integer"
def TJ6 : u_T := fun k => match k with
  | _ => ("", "", "", false)
def tyJ6 : Nat → FieldType := fun k => match k with
  | _ => .int
theorem nmJ6 : ∀ a, a < 0 → ∀ b, b < 0 → a ≠ b → (TJ6 a).2.1 ≠ (TJ6 b).2.1 := by decide +kernel
theorem tyJ6_ok : ∀ k, k < 0 → parseFieldDescriptor (TJ6 k).2.2.1 = some (tyJ6 k) := by decide +kernel
abbrev cJ6_bitCount_0f7a4 : ByteArray := prog_11_method_49_code
def yJ6_bitCount_0f7a4 : MethodName := ⟨RJ6, "bitCount", "(I)I"⟩
def RJ9 : String := "java/lang/Math"
def TJ9 : u_T := fun k => match k with
  | _ => ("", "", "", false)
def tyJ9 : Nat → FieldType := fun k => match k with
  | _ => .int
theorem nmJ9 : ∀ a, a < 0 → ∀ b, b < 0 → a ≠ b → (TJ9 a).2.1 ≠ (TJ9 b).2.1 := by decide +kernel
theorem tyJ9_ok : ∀ k, k < 0 → parseFieldDescriptor (TJ9 k).2.2.1 = some (tyJ9 k) := by decide +kernel
abbrev cJ9_max_7cf53 : ByteArray := prog_12_method_65_code
def yJ9_max_7cf53 : MethodName := ⟨RJ9, "max", "(II)I"⟩
abbrev cJ9_min_7cf53 : ByteArray := prog_12_method_69_code
def yJ9_min_7cf53 : MethodName := ⟨RJ9, "min", "(II)I"⟩
def RJ0 : String := "java/lang/String"
def TJ0 : u_T := fun k => match k with
  | _ => ("", "", "", false)
def tyJ0 : Nat → FieldType := fun k => match k with
  | _ => .int
theorem nmJ0 : ∀ a, a < 0 → ∀ b, b < 0 → a ≠ b → (TJ0 a).2.1 ≠ (TJ0 b).2.1 := by decide +kernel
theorem tyJ0_ok : ∀ k, k < 0 → parseFieldDescriptor (TJ0 k).2.2.1 = some (tyJ0 k) := by decide +kernel
abbrev cJ0_length_8abf5 : ByteArray := prog_13_method_54_code
def yJ0_length_8abf5 : MethodName := ⟨RJ0, "length", "()I"⟩
abbrev cJ0_charAt_5068e : ByteArray := prog_13_method_56_code
def yJ0_charAt_5068e : MethodName := ⟨RJ0, "charAt", "(I)C"⟩
abbrev cJ0_coder_7d493 : ByteArray := prog_13_method_152_code
def yJ0_coder_7d493 : MethodName := ⟨RJ0, "coder", "()B"⟩
abbrev cJ0_isLatin1_aae02 : ByteArray := prog_13_method_154_code
def yJ0_isLatin1_aae02 : MethodName := ⟨RJ0, "isLatin1", "()Z"⟩
abbrev cJ0_checkIndex_df160 : ByteArray := prog_13_method_155_code
def yJ0_checkIndex_df160 : MethodName := ⟨RJ0, "checkIndex", "(II)V"⟩
def RJ1 : String := "java/lang/StringLatin1"
def TJ1 : u_T := fun k => match k with
  | _ => ("", "", "", false)
def tyJ1 : Nat → FieldType := fun k => match k with
  | _ => .int
theorem nmJ1 : ∀ a, a < 0 → ∀ b, b < 0 → a ≠ b → (TJ1 a).2.1 ≠ (TJ1 b).2.1 := by decide +kernel
theorem tyJ1_ok : ∀ k, k < 0 → parseFieldDescriptor (TJ1 k).2.2.1 = some (tyJ1 k) := by decide +kernel
abbrev cJ1_charAt_3b067 : ByteArray := prog_14_method_2_code
def yJ1_charAt_3b067 : MethodName := ⟨RJ1, "charAt", "([BI)C"⟩
def RJ2 : String := "java/lang/StringUTF16"
def TJ2 : u_T := fun k => match k with
  | _ => ("", "", "", false)
def tyJ2 : Nat → FieldType := fun k => match k with
  | _ => .int
theorem nmJ2 : ∀ a, a < 0 → ∀ b, b < 0 → a ≠ b → (TJ2 a).2.1 ≠ (TJ2 b).2.1 := by decide +kernel
theorem tyJ2_ok : ∀ k, k < 0 → parseFieldDescriptor (TJ2 k).2.2.1 = some (tyJ2 k) := by decide +kernel
abbrev cJ2_getChar_3b067 : ByteArray := prog_15_method_5_code
def yJ2_getChar_3b067 : MethodName := ⟨RJ2, "getChar", "([BI)C"⟩
abbrev cJ2_length_9d52b : ByteArray := prog_15_method_6_code
def yJ2_length_9d52b : MethodName := ⟨RJ2, "length", "([B)I"⟩
abbrev cJ2_charAt_3b067 : ByteArray := prog_15_method_83_code
def yJ2_charAt_3b067 : MethodName := ⟨RJ2, "charAt", "([BI)C"⟩
abbrev cJ2_checkIndex_2214a : ByteArray := prog_15_method_91_code
def yJ2_checkIndex_2214a : MethodName := ⟨RJ2, "checkIndex", "(I[B)V"⟩
def RJ10 : String := "java/lang/System"
def TJ10 : u_T := fun k => match k with
  | _ => ("", "", "", false)
def tyJ10 : Nat → FieldType := fun k => match k with
  | _ => .int
theorem nmJ10 : ∀ a, a < 0 → ∀ b, b < 0 → a ≠ b → (TJ10 a).2.1 ≠ (TJ10 b).2.1 := by decide +kernel
theorem tyJ10_ok : ∀ k, k < 0 → parseFieldDescriptor (TJ10 k).2.2.1 = some (tyJ10 k) := by decide +kernel
def RJ3 : String := "jdk/internal/util/Preconditions"
def TJ3 : u_T := fun k => match k with
  | _ => ("", "", "", false)
def tyJ3 : Nat → FieldType := fun k => match k with
  | _ => .int
theorem nmJ3 : ∀ a, a < 0 → ∀ b, b < 0 → a ≠ b → (TJ3 a).2.1 ≠ (TJ3 b).2.1 := by decide +kernel
theorem tyJ3_ok : ∀ k, k < 0 → parseFieldDescriptor (TJ3 k).2.2.1 = some (tyJ3 k) := by decide +kernel
abbrev cJ3_checkIndex_8e157 : ByteArray := prog_17_method_11_code
def yJ3_checkIndex_8e157 : MethodName := ⟨RJ3, "checkIndex", "(IILjava/util/function/BiFunction;)I"⟩
def RL : String := "LieSlidesLaw"
abbrev cL_law : ByteArray := code
def yL_law : MethodName := ⟨RL, "law", "([I)Z"⟩
abbrev vwCl : List vw_C := [(RX0, TX0, 2), (RX1, TX1, 11), (RX2, TX2, 4), (RX3, TX3, 4), (RX5, TX5, 9), (RX6, TX6, 3), (RX7, TX7, 8), (RX8, TX8, 24)]
end
section
theorem dX0_init_0 : decode cX0_init 0 = .ok (.aload_n 0, 1) := by decide +kernel
theorem dX0_init_1 : decode cX0_init 1 = .ok (.invokespecial 3, 3) := by decide +kernel
theorem dX0_init_4 : decode cX0_init 4 = .ok (.aload_n 0, 1) := by decide +kernel
theorem dX0_init_5 : decode cX0_init 5 = .ok (.bipush 16, 2) := by decide +kernel
theorem dX0_init_7 : decode cX0_init 7 = .ok (.newarray .int, 2) := by decide +kernel
theorem dX0_init_9 : decode cX0_init 9 = .ok (.putfield 11, 3) := by decide +kernel
theorem dX0_init_12 : decode cX0_init 12 = .ok (.aload_n 0, 1) := by decide +kernel
theorem dX0_init_13 : decode cX0_init 13 = .ok (.iconst 0, 1) := by decide +kernel
theorem dX0_init_14 : decode cX0_init 14 = .ok (.putfield 15, 3) := by decide +kernel
theorem dX0_init_17 : decode cX0_init 17 = .ok (.return_, 1) := by decide +kernel
theorem dX0_begin_0 : decode cX0_begin 0 = .ok (.aload_n 0, 1) := by decide +kernel
theorem dX0_begin_1 : decode cX0_begin 1 = .ok (.iconst 0, 1) := by decide +kernel
theorem dX0_begin_2 : decode cX0_begin 2 = .ok (.putfield 15, 3) := by decide +kernel
theorem dX0_begin_5 : decode cX0_begin 5 = .ok (.aload_n 0, 1) := by decide +kernel
theorem dX0_begin_6 : decode cX0_begin 6 = .ok (.aload_n 1, 1) := by decide +kernel
theorem dX0_begin_7 : decode cX0_begin 7 = .ok (.iload_n 2, 1) := by decide +kernel
theorem dX0_begin_8 : decode cX0_begin 8 = .ok (.iload_n 3, 1) := by decide +kernel
theorem dX0_begin_9 : decode cX0_begin 9 = .ok (.iconst 0, 1) := by decide +kernel
theorem dX0_begin_10 : decode cX0_begin 10 = .ok (.invokevirtual 19, 3) := by decide +kernel
theorem dX0_begin_13 : decode cX0_begin 13 = .ok (.ireturn, 1) := by decide +kernel
theorem dX0_traced_0 : decode cX0_traced 0 = .ok (.iload_n 1, 1) := by decide +kernel
theorem dX0_traced_1 : decode cX0_traced 1 = .ok (.ifCond .lt 20, 3) := by decide +kernel
theorem dX0_traced_4 : decode cX0_traced 4 = .ok (.iload_n 1, 1) := by decide +kernel
theorem dX0_traced_5 : decode cX0_traced 5 = .ok (.aload_n 0, 1) := by decide +kernel
theorem dX0_traced_6 : decode cX0_traced 6 = .ok (.getfield 15, 3) := by decide +kernel
theorem dX0_traced_9 : decode cX0_traced 9 = .ok (.if_icmp .ge 12, 3) := by decide +kernel
theorem dX0_traced_12 : decode cX0_traced 12 = .ok (.aload_n 0, 1) := by decide +kernel
theorem dX0_traced_13 : decode cX0_traced 13 = .ok (.getfield 11, 3) := by decide +kernel
theorem dX0_traced_16 : decode cX0_traced 16 = .ok (.iload_n 1, 1) := by decide +kernel
theorem dX0_traced_17 : decode cX0_traced 17 = .ok (.iaload, 1) := by decide +kernel
theorem dX0_traced_18 : decode cX0_traced 18 = .ok (.goto 5, 3) := by decide +kernel
theorem dX0_traced_21 : decode cX0_traced 21 = .ok (.ldc 23, 2) := by decide +kernel
theorem dX0_traced_23 : decode cX0_traced 23 = .ok (.ireturn, 1) := by decide +kernel
theorem dX0_asked_0 : decode cX0_asked 0 = .ok (.aload_n 0, 1) := by decide +kernel
theorem dX0_asked_1 : decode cX0_asked 1 = .ok (.aload_n 1, 1) := by decide +kernel
theorem dX0_asked_2 : decode cX0_asked 2 = .ok (.iload_n 2, 1) := by decide +kernel
theorem dX0_asked_3 : decode cX0_asked 3 = .ok (.aload_n 0, 1) := by decide +kernel
theorem dX0_asked_4 : decode cX0_asked 4 = .ok (.aload_n 1, 1) := by decide +kernel
theorem dX0_asked_5 : decode cX0_asked 5 = .ok (.getfield 24, 3) := by decide +kernel
theorem dX0_asked_8 : decode cX0_asked 8 = .ok (.iload_n 2, 1) := by decide +kernel
theorem dX0_asked_9 : decode cX0_asked 9 = .ok (.iaload, 1) := by decide +kernel
theorem dX0_asked_10 : decode cX0_asked 10 = .ok (.iload_n 3, 1) := by decide +kernel
theorem dX0_asked_11 : decode cX0_asked 11 = .ok (.invokevirtual 29, 3) := by decide +kernel
theorem dX0_asked_14 : decode cX0_asked 14 = .ok (.iload 4, 2) := by decide +kernel
theorem dX0_asked_16 : decode cX0_asked 16 = .ok (.iconst 1, 1) := by decide +kernel
theorem dX0_asked_17 : decode cX0_asked 17 = .ok (.iadd, 1) := by decide +kernel
theorem dX0_asked_18 : decode cX0_asked 18 = .ok (.invokevirtual 33, 3) := by decide +kernel
theorem dX0_asked_21 : decode cX0_asked 21 = .ok (.ireturn, 1) := by decide +kernel
theorem dX0_bodyFor_0 : decode cX0_bodyFor 0 = .ok (.iload_n 1, 1) := by decide +kernel
theorem dX0_bodyFor_1 : decode cX0_bodyFor 1 = .ok (.istore_n 3, 1) := by decide +kernel
theorem dX0_bodyFor_2 : decode cX0_bodyFor 2 = .ok (.iconst 0, 1) := by decide +kernel
theorem dX0_bodyFor_3 : decode cX0_bodyFor 3 = .ok (.istore 4, 2) := by decide +kernel
theorem dX0_bodyFor_5 : decode cX0_bodyFor 5 = .ok (.iload 4, 2) := by decide +kernel
theorem dX0_bodyFor_7 : decode cX0_bodyFor 7 = .ok (.bipush 6, 2) := by decide +kernel
theorem dX0_bodyFor_9 : decode cX0_bodyFor 9 = .ok (.if_icmp .ge 41, 3) := by decide +kernel
theorem dX0_bodyFor_12 : decode cX0_bodyFor 12 = .ok (.iload_n 2, 1) := by decide +kernel
theorem dX0_bodyFor_13 : decode cX0_bodyFor 13 = .ok (.ifCond .ne 11, 3) := by decide +kernel
theorem dX0_bodyFor_16 : decode cX0_bodyFor 16 = .ok (.getstatic 38, 3) := by decide +kernel
theorem dX0_bodyFor_19 : decode cX0_bodyFor 19 = .ok (.iload_n 3, 1) := by decide +kernel
theorem dX0_bodyFor_20 : decode cX0_bodyFor 20 = .ok (.iaload, 1) := by decide +kernel
theorem dX0_bodyFor_21 : decode cX0_bodyFor 21 = .ok (.goto 8, 3) := by decide +kernel
theorem dX0_bodyFor_24 : decode cX0_bodyFor 24 = .ok (.getstatic 41, 3) := by decide +kernel
theorem dX0_bodyFor_27 : decode cX0_bodyFor 27 = .ok (.iload_n 3, 1) := by decide +kernel
theorem dX0_bodyFor_28 : decode cX0_bodyFor 28 = .ok (.iaload, 1) := by decide +kernel
theorem dX0_bodyFor_29 : decode cX0_bodyFor 29 = .ok (.istore 5, 2) := by decide +kernel
theorem dX0_bodyFor_31 : decode cX0_bodyFor 31 = .ok (.iload 5, 2) := by decide +kernel
theorem dX0_bodyFor_33 : decode cX0_bodyFor 33 = .ok (.ifCond .eq 6, 3) := by decide +kernel
theorem dX0_bodyFor_36 : decode cX0_bodyFor 36 = .ok (.iload 5, 2) := by decide +kernel
theorem dX0_bodyFor_38 : decode cX0_bodyFor 38 = .ok (.ireturn, 1) := by decide +kernel
theorem dX0_bodyFor_39 : decode cX0_bodyFor 39 = .ok (.iload_n 3, 1) := by decide +kernel
theorem dX0_bodyFor_40 : decode cX0_bodyFor 40 = .ok (.invokestatic 44, 3) := by decide +kernel
theorem dX0_bodyFor_43 : decode cX0_bodyFor 43 = .ok (.istore_n 3, 1) := by decide +kernel
theorem dX0_bodyFor_44 : decode cX0_bodyFor 44 = .ok (.iinc 4 1, 3) := by decide +kernel
theorem dX0_bodyFor_47 : decode cX0_bodyFor 47 = .ok (.goto (-42), 3) := by decide +kernel
theorem dX0_bodyFor_50 : decode cX0_bodyFor 50 = .ok (.iconst 0, 1) := by decide +kernel
theorem dX0_bodyFor_51 : decode cX0_bodyFor 51 = .ok (.ireturn, 1) := by decide +kernel
theorem dX0_given_0 : decode cX0_given 0 = .ok (.iload 4, 2) := by decide +kernel
theorem dX0_given_2 : decode cX0_given 2 = .ok (.bipush 40, 2) := by decide +kernel
theorem dX0_given_4 : decode cX0_given 4 = .ok (.if_icmp .le 5, 3) := by decide +kernel
theorem dX0_given_7 : decode cX0_given 7 = .ok (.iconst 0, 1) := by decide +kernel
theorem dX0_given_8 : decode cX0_given 8 = .ok (.ireturn, 1) := by decide +kernel
theorem dX0_given_9 : decode cX0_given 9 = .ok (.aload_n 0, 1) := by decide +kernel
theorem dX0_given_10 : decode cX0_given 10 = .ok (.iload_n 3, 1) := by decide +kernel
theorem dX0_given_11 : decode cX0_given 11 = .ok (.invokevirtual 48, 3) := by decide +kernel
theorem dX0_given_14 : decode cX0_given 14 = .ok (.iload_n 3, 1) := by decide +kernel
theorem dX0_given_15 : decode cX0_given 15 = .ok (.tableswitch 235 10 24 #[73, 87, 110, 124, 140, 235, 235, 235, 235, 235, 155, 157, 180, 197, 220], 73) := by decide +kernel
theorem dX0_given_88 : decode cX0_given 88 = .ok (.aload_n 1, 1) := by decide +kernel
theorem dX0_given_89 : decode cX0_given 89 = .ok (.getfield 52, 3) := by decide +kernel
theorem dX0_given_92 : decode cX0_given 92 = .ok (.iload_n 2, 1) := by decide +kernel
theorem dX0_given_93 : decode cX0_given 93 = .ok (.iaload, 1) := by decide +kernel
theorem dX0_given_94 : decode cX0_given 94 = .ok (.aload_n 1, 1) := by decide +kernel
theorem dX0_given_95 : decode cX0_given 95 = .ok (.getfield 55, 3) := by decide +kernel
theorem dX0_given_98 : decode cX0_given 98 = .ok (.iload_n 2, 1) := by decide +kernel
theorem dX0_given_99 : decode cX0_given 99 = .ok (.iaload, 1) := by decide +kernel
theorem dX0_given_100 : decode cX0_given 100 = .ok (.imul, 1) := by decide +kernel
theorem dX0_given_101 : decode cX0_given 101 = .ok (.ireturn, 1) := by decide +kernel
theorem dX0_given_102 : decode cX0_given 102 = .ok (.aload_n 0, 1) := by decide +kernel
theorem dX0_given_103 : decode cX0_given 103 = .ok (.aload_n 1, 1) := by decide +kernel
theorem dX0_given_104 : decode cX0_given 104 = .ok (.iload_n 2, 1) := by decide +kernel
theorem dX0_given_105 : decode cX0_given 105 = .ok (.bipush 10, 2) := by decide +kernel
theorem dX0_given_107 : decode cX0_given 107 = .ok (.iload 4, 2) := by decide +kernel
theorem dX0_given_109 : decode cX0_given 109 = .ok (.iconst 1, 1) := by decide +kernel
theorem dX0_given_110 : decode cX0_given 110 = .ok (.iadd, 1) := by decide +kernel
theorem dX0_given_111 : decode cX0_given 111 = .ok (.invokevirtual 33, 3) := by decide +kernel
theorem dX0_given_114 : decode cX0_given 114 = .ok (.aload_n 0, 1) := by decide +kernel
theorem dX0_given_115 : decode cX0_given 115 = .ok (.aload_n 1, 1) := by decide +kernel
theorem dX0_given_116 : decode cX0_given 116 = .ok (.iload_n 2, 1) := by decide +kernel
theorem dX0_given_117 : decode cX0_given 117 = .ok (.iconst 1, 1) := by decide +kernel
theorem dX0_given_118 : decode cX0_given 118 = .ok (.iload 4, 2) := by decide +kernel
theorem dX0_given_120 : decode cX0_given 120 = .ok (.invokevirtual 19, 3) := by decide +kernel
theorem dX0_given_123 : decode cX0_given 123 = .ok (.iadd, 1) := by decide +kernel
theorem dX0_given_124 : decode cX0_given 124 = .ok (.ireturn, 1) := by decide +kernel
theorem dX0_given_125 : decode cX0_given 125 = .ok (.aload_n 0, 1) := by decide +kernel
theorem dX0_given_126 : decode cX0_given 126 = .ok (.aload_n 1, 1) := by decide +kernel
theorem dX0_given_127 : decode cX0_given 127 = .ok (.iload_n 2, 1) := by decide +kernel
theorem dX0_given_128 : decode cX0_given 128 = .ok (.bipush 11, 2) := by decide +kernel
theorem dX0_given_130 : decode cX0_given 130 = .ok (.iload 4, 2) := by decide +kernel
theorem dX0_given_132 : decode cX0_given 132 = .ok (.iconst 1, 1) := by decide +kernel
theorem dX0_given_133 : decode cX0_given 133 = .ok (.iadd, 1) := by decide +kernel
theorem dX0_given_134 : decode cX0_given 134 = .ok (.invokevirtual 33, 3) := by decide +kernel
theorem dX0_given_137 : decode cX0_given 137 = .ok (.ineg, 1) := by decide +kernel
theorem dX0_given_138 : decode cX0_given 138 = .ok (.ireturn, 1) := by decide +kernel
theorem dX0_given_139 : decode cX0_given 139 = .ok (.aload_n 0, 1) := by decide +kernel
theorem dX0_given_140 : decode cX0_given 140 = .ok (.aload_n 1, 1) := by decide +kernel
theorem dX0_given_141 : decode cX0_given 141 = .ok (.iload_n 2, 1) := by decide +kernel
theorem dX0_given_142 : decode cX0_given 142 = .ok (.bipush 10, 2) := by decide +kernel
theorem dX0_given_144 : decode cX0_given 144 = .ok (.iload 4, 2) := by decide +kernel
theorem dX0_given_146 : decode cX0_given 146 = .ok (.iconst 1, 1) := by decide +kernel
theorem dX0_given_147 : decode cX0_given 147 = .ok (.iadd, 1) := by decide +kernel
theorem dX0_given_148 : decode cX0_given 148 = .ok (.invokevirtual 33, 3) := by decide +kernel
theorem dX0_given_151 : decode cX0_given 151 = .ok (.bipush 100, 2) := by decide +kernel
theorem dX0_given_153 : decode cX0_given 153 = .ok (.isub, 1) := by decide +kernel
theorem dX0_given_154 : decode cX0_given 154 = .ok (.ireturn, 1) := by decide +kernel
theorem dX0_given_155 : decode cX0_given 155 = .ok (.iconst 2, 1) := by decide +kernel
theorem dX0_given_156 : decode cX0_given 156 = .ok (.aload_n 0, 1) := by decide +kernel
theorem dX0_given_157 : decode cX0_given 157 = .ok (.aload_n 1, 1) := by decide +kernel
theorem dX0_given_158 : decode cX0_given 158 = .ok (.iload_n 2, 1) := by decide +kernel
theorem dX0_given_159 : decode cX0_given 159 = .ok (.bipush 11, 2) := by decide +kernel
theorem dX0_given_161 : decode cX0_given 161 = .ok (.iload 4, 2) := by decide +kernel
theorem dX0_given_163 : decode cX0_given 163 = .ok (.iconst 1, 1) := by decide +kernel
theorem dX0_given_164 : decode cX0_given 164 = .ok (.iadd, 1) := by decide +kernel
theorem dX0_given_165 : decode cX0_given 165 = .ok (.invokevirtual 33, 3) := by decide +kernel
theorem dX0_given_168 : decode cX0_given 168 = .ok (.imul, 1) := by decide +kernel
theorem dX0_given_169 : decode cX0_given 169 = .ok (.ireturn, 1) := by decide +kernel
theorem dX0_given_170 : decode cX0_given 170 = .ok (.iload_n 2, 1) := by decide +kernel
theorem dX0_given_171 : decode cX0_given 171 = .ok (.ireturn, 1) := by decide +kernel
theorem dX0_given_172 : decode cX0_given 172 = .ok (.aload_n 0, 1) := by decide +kernel
theorem dX0_given_173 : decode cX0_given 173 = .ok (.aload_n 1, 1) := by decide +kernel
theorem dX0_given_174 : decode cX0_given 174 = .ok (.iload_n 2, 1) := by decide +kernel
theorem dX0_given_175 : decode cX0_given 175 = .ok (.bipush 20, 2) := by decide +kernel
theorem dX0_given_177 : decode cX0_given 177 = .ok (.iload 4, 2) := by decide +kernel
theorem dX0_given_179 : decode cX0_given 179 = .ok (.iconst 1, 1) := by decide +kernel
theorem dX0_given_180 : decode cX0_given 180 = .ok (.iadd, 1) := by decide +kernel
theorem dX0_given_181 : decode cX0_given 181 = .ok (.invokevirtual 33, 3) := by decide +kernel
theorem dX0_given_184 : decode cX0_given 184 = .ok (.aload_n 1, 1) := by decide +kernel
theorem dX0_given_185 : decode cX0_given 185 = .ok (.aload_n 1, 1) := by decide +kernel
theorem dX0_given_186 : decode cX0_given 186 = .ok (.getfield 58, 3) := by decide +kernel
theorem dX0_given_189 : decode cX0_given 189 = .ok (.iload_n 2, 1) := by decide +kernel
theorem dX0_given_190 : decode cX0_given 190 = .ok (.invokevirtual 61, 3) := by decide +kernel
theorem dX0_given_193 : decode cX0_given 193 = .ok (.iadd, 1) := by decide +kernel
theorem dX0_given_194 : decode cX0_given 194 = .ok (.ireturn, 1) := by decide +kernel
theorem dX0_given_195 : decode cX0_given 195 = .ok (.aload_n 0, 1) := by decide +kernel
theorem dX0_given_196 : decode cX0_given 196 = .ok (.aload_n 1, 1) := by decide +kernel
theorem dX0_given_197 : decode cX0_given 197 = .ok (.iload_n 2, 1) := by decide +kernel
theorem dX0_given_198 : decode cX0_given 198 = .ok (.bipush 21, 2) := by decide +kernel
theorem dX0_given_200 : decode cX0_given 200 = .ok (.iload 4, 2) := by decide +kernel
theorem dX0_given_202 : decode cX0_given 202 = .ok (.iconst 1, 1) := by decide +kernel
theorem dX0_given_203 : decode cX0_given 203 = .ok (.iadd, 1) := by decide +kernel
theorem dX0_given_204 : decode cX0_given 204 = .ok (.invokevirtual 33, 3) := by decide +kernel
theorem dX0_given_207 : decode cX0_given 207 = .ok (.sipush 1000, 3) := by decide +kernel
theorem dX0_given_210 : decode cX0_given 210 = .ok (.isub, 1) := by decide +kernel
theorem dX0_given_211 : decode cX0_given 211 = .ok (.ireturn, 1) := by decide +kernel
theorem dX0_given_212 : decode cX0_given 212 = .ok (.aload_n 0, 1) := by decide +kernel
theorem dX0_given_213 : decode cX0_given 213 = .ok (.aload_n 1, 1) := by decide +kernel
theorem dX0_given_214 : decode cX0_given 214 = .ok (.iload_n 2, 1) := by decide +kernel
theorem dX0_given_215 : decode cX0_given 215 = .ok (.bipush 20, 2) := by decide +kernel
theorem dX0_given_217 : decode cX0_given 217 = .ok (.iload 4, 2) := by decide +kernel
theorem dX0_given_219 : decode cX0_given 219 = .ok (.iconst 1, 1) := by decide +kernel
theorem dX0_given_220 : decode cX0_given 220 = .ok (.iadd, 1) := by decide +kernel
theorem dX0_given_221 : decode cX0_given 221 = .ok (.invokevirtual 33, 3) := by decide +kernel
theorem dX0_given_224 : decode cX0_given 224 = .ok (.aload_n 0, 1) := by decide +kernel
theorem dX0_given_225 : decode cX0_given 225 = .ok (.aload_n 1, 1) := by decide +kernel
theorem dX0_given_226 : decode cX0_given 226 = .ok (.iload_n 2, 1) := by decide +kernel
theorem dX0_given_227 : decode cX0_given 227 = .ok (.iconst 0, 1) := by decide +kernel
theorem dX0_given_228 : decode cX0_given 228 = .ok (.iload 4, 2) := by decide +kernel
theorem dX0_given_230 : decode cX0_given 230 = .ok (.invokevirtual 19, 3) := by decide +kernel
theorem dX0_given_233 : decode cX0_given 233 = .ok (.isub, 1) := by decide +kernel
theorem dX0_given_234 : decode cX0_given 234 = .ok (.ireturn, 1) := by decide +kernel
theorem dX0_given_235 : decode cX0_given 235 = .ok (.iconst 2, 1) := by decide +kernel
theorem dX0_given_236 : decode cX0_given 236 = .ok (.aload_n 0, 1) := by decide +kernel
theorem dX0_given_237 : decode cX0_given 237 = .ok (.aload_n 1, 1) := by decide +kernel
theorem dX0_given_238 : decode cX0_given 238 = .ok (.iload_n 2, 1) := by decide +kernel
theorem dX0_given_239 : decode cX0_given 239 = .ok (.bipush 22, 2) := by decide +kernel
theorem dX0_given_241 : decode cX0_given 241 = .ok (.iload 4, 2) := by decide +kernel
theorem dX0_given_243 : decode cX0_given 243 = .ok (.iconst 1, 1) := by decide +kernel
theorem dX0_given_244 : decode cX0_given 244 = .ok (.iadd, 1) := by decide +kernel
theorem dX0_given_245 : decode cX0_given 245 = .ok (.invokevirtual 33, 3) := by decide +kernel
theorem dX0_given_248 : decode cX0_given 248 = .ok (.imul, 1) := by decide +kernel
theorem dX0_given_249 : decode cX0_given 249 = .ok (.ireturn, 1) := by decide +kernel
theorem dX0_given_250 : decode cX0_given 250 = .ok (.iconst 0, 1) := by decide +kernel
theorem dX0_given_251 : decode cX0_given 251 = .ok (.ireturn, 1) := by decide +kernel
theorem dX0_leaveTrace_0 : decode cX0_leaveTrace 0 = .ok (.aload_n 0, 1) := by decide +kernel
theorem dX0_leaveTrace_1 : decode cX0_leaveTrace 1 = .ok (.getfield 15, 3) := by decide +kernel
theorem dX0_leaveTrace_4 : decode cX0_leaveTrace 4 = .ok (.bipush 16, 2) := by decide +kernel
theorem dX0_leaveTrace_6 : decode cX0_leaveTrace 6 = .ok (.if_icmp .ge 23, 3) := by decide +kernel
theorem dX0_leaveTrace_9 : decode cX0_leaveTrace 9 = .ok (.aload_n 0, 1) := by decide +kernel
theorem dX0_leaveTrace_10 : decode cX0_leaveTrace 10 = .ok (.getfield 11, 3) := by decide +kernel
theorem dX0_leaveTrace_13 : decode cX0_leaveTrace 13 = .ok (.aload_n 0, 1) := by decide +kernel
theorem dX0_leaveTrace_14 : decode cX0_leaveTrace 14 = .ok (.getfield 15, 3) := by decide +kernel
theorem dX0_leaveTrace_17 : decode cX0_leaveTrace 17 = .ok (.iload_n 1, 1) := by decide +kernel
theorem dX0_leaveTrace_18 : decode cX0_leaveTrace 18 = .ok (.iastore, 1) := by decide +kernel
theorem dX0_leaveTrace_19 : decode cX0_leaveTrace 19 = .ok (.aload_n 0, 1) := by decide +kernel
theorem dX0_leaveTrace_20 : decode cX0_leaveTrace 20 = .ok (.dup, 1) := by decide +kernel
theorem dX0_leaveTrace_21 : decode cX0_leaveTrace 21 = .ok (.getfield 15, 3) := by decide +kernel
theorem dX0_leaveTrace_24 : decode cX0_leaveTrace 24 = .ok (.iconst 1, 1) := by decide +kernel
theorem dX0_leaveTrace_25 : decode cX0_leaveTrace 25 = .ok (.iadd, 1) := by decide +kernel
theorem dX0_leaveTrace_26 : decode cX0_leaveTrace 26 = .ok (.putfield 15, 3) := by decide +kernel
theorem dX0_leaveTrace_29 : decode cX0_leaveTrace 29 = .ok (.return_, 1) := by decide +kernel
theorem dX1_init_0 : decode cX1_init 0 = .ok (.aload_n 0, 1) := by decide +kernel
theorem dX1_init_1 : decode cX1_init 1 = .ok (.invokespecial 3, 3) := by decide +kernel
theorem dX1_init_4 : decode cX1_init 4 = .ok (.aload_n 0, 1) := by decide +kernel
theorem dX1_init_5 : decode cX1_init 5 = .ok (.iconst 0, 1) := by decide +kernel
theorem dX1_init_6 : decode cX1_init 6 = .ok (.putfield 9, 3) := by decide +kernel
theorem dX1_init_9 : decode cX1_init 9 = .ok (.aload_n 0, 1) := by decide +kernel
theorem dX1_init_10 : decode cX1_init 10 = .ok (.iconst 0, 1) := by decide +kernel
theorem dX1_init_11 : decode cX1_init 11 = .ok (.putfield 15, 3) := by decide +kernel
theorem dX1_init_14 : decode cX1_init 14 = .ok (.aload_n 0, 1) := by decide +kernel
theorem dX1_init_15 : decode cX1_init 15 = .ok (.iconst 0, 1) := by decide +kernel
theorem dX1_init_16 : decode cX1_init 16 = .ok (.putfield 18, 3) := by decide +kernel
theorem dX1_init_19 : decode cX1_init 19 = .ok (.aload_n 0, 1) := by decide +kernel
theorem dX1_init_20 : decode cX1_init 20 = .ok (.iconst 0, 1) := by decide +kernel
theorem dX1_init_21 : decode cX1_init 21 = .ok (.putfield 21, 3) := by decide +kernel
theorem dX1_init_24 : decode cX1_init 24 = .ok (.aload_n 0, 1) := by decide +kernel
theorem dX1_init_25 : decode cX1_init 25 = .ok (.bipush 8, 2) := by decide +kernel
theorem dX1_init_27 : decode cX1_init 27 = .ok (.newarray .int, 2) := by decide +kernel
theorem dX1_init_29 : decode cX1_init 29 = .ok (.putfield 24, 3) := by decide +kernel
theorem dX1_init_32 : decode cX1_init 32 = .ok (.aload_n 0, 1) := by decide +kernel
theorem dX1_init_33 : decode cX1_init 33 = .ok (.bipush 8, 2) := by decide +kernel
theorem dX1_init_35 : decode cX1_init 35 = .ok (.newarray .int, 2) := by decide +kernel
theorem dX1_init_37 : decode cX1_init 37 = .ok (.putfield 28, 3) := by decide +kernel
theorem dX1_init_40 : decode cX1_init 40 = .ok (.aload_n 0, 1) := by decide +kernel
theorem dX1_init_41 : decode cX1_init 41 = .ok (.bipush 6, 2) := by decide +kernel
theorem dX1_init_43 : decode cX1_init 43 = .ok (.newarray .int, 2) := by decide +kernel
theorem dX1_init_45 : decode cX1_init 45 = .ok (.putfield 31, 3) := by decide +kernel
theorem dX1_init_48 : decode cX1_init 48 = .ok (.aload_n 0, 1) := by decide +kernel
theorem dX1_init_49 : decode cX1_init 49 = .ok (.bipush 6, 2) := by decide +kernel
theorem dX1_init_51 : decode cX1_init 51 = .ok (.newarray .int, 2) := by decide +kernel
theorem dX1_init_53 : decode cX1_init 53 = .ok (.putfield 34, 3) := by decide +kernel
theorem dX1_init_56 : decode cX1_init 56 = .ok (.aload_n 0, 1) := by decide +kernel
theorem dX1_init_57 : decode cX1_init 57 = .ok (.bipush 6, 2) := by decide +kernel
theorem dX1_init_59 : decode cX1_init 59 = .ok (.newarray .int, 2) := by decide +kernel
theorem dX1_init_61 : decode cX1_init 61 = .ok (.putfield 37, 3) := by decide +kernel
theorem dX1_init_64 : decode cX1_init 64 = .ok (.aload_n 0, 1) := by decide +kernel
theorem dX1_init_65 : decode cX1_init 65 = .ok (.bipush 6, 2) := by decide +kernel
theorem dX1_init_67 : decode cX1_init 67 = .ok (.newarray .int, 2) := by decide +kernel
theorem dX1_init_69 : decode cX1_init 69 = .ok (.putfield 40, 3) := by decide +kernel
theorem dX1_init_72 : decode cX1_init 72 = .ok (.aload_n 0, 1) := by decide +kernel
theorem dX1_init_73 : decode cX1_init 73 = .ok (.bipush 6, 2) := by decide +kernel
theorem dX1_init_75 : decode cX1_init 75 = .ok (.newarray .int, 2) := by decide +kernel
theorem dX1_init_77 : decode cX1_init 77 = .ok (.putfield 43, 3) := by decide +kernel
theorem dX1_init_80 : decode cX1_init 80 = .ok (.return_, 1) := by decide +kernel
theorem dX1_isThere_0 : decode cX1_isThere 0 = .ok (.aload_n 0, 1) := by decide +kernel
theorem dX1_isThere_1 : decode cX1_isThere 1 = .ok (.getfield 18, 3) := by decide +kernel
theorem dX1_isThere_4 : decode cX1_isThere 4 = .ok (.ifCond .le 7, 3) := by decide +kernel
theorem dX1_isThere_7 : decode cX1_isThere 7 = .ok (.iconst 1, 1) := by decide +kernel
theorem dX1_isThere_8 : decode cX1_isThere 8 = .ok (.goto 4, 3) := by decide +kernel
theorem dX1_isThere_11 : decode cX1_isThere 11 = .ok (.iconst 0, 1) := by decide +kernel
theorem dX1_isThere_12 : decode cX1_isThere 12 = .ok (.ireturn, 1) := by decide +kernel
theorem dX1_isHouse_0 : decode cX1_isHouse 0 = .ok (.iload_n 1, 1) := by decide +kernel
theorem dX1_isHouse_1 : decode cX1_isHouse 1 = .ok (.ifCond .lt 15, 3) := by decide +kernel
theorem dX1_isHouse_4 : decode cX1_isHouse 4 = .ok (.iload_n 1, 1) := by decide +kernel
theorem dX1_isHouse_5 : decode cX1_isHouse 5 = .ok (.aload_n 0, 1) := by decide +kernel
theorem dX1_isHouse_6 : decode cX1_isHouse 6 = .ok (.getfield 18, 3) := by decide +kernel
theorem dX1_isHouse_9 : decode cX1_isHouse 9 = .ok (.if_icmp .ge 7, 3) := by decide +kernel
theorem dX1_isHouse_12 : decode cX1_isHouse 12 = .ok (.iconst 1, 1) := by decide +kernel
theorem dX1_isHouse_13 : decode cX1_isHouse 13 = .ok (.goto 4, 3) := by decide +kernel
theorem dX1_isHouse_16 : decode cX1_isHouse 16 = .ok (.iconst 0, 1) := by decide +kernel
theorem dX1_isHouse_17 : decode cX1_isHouse 17 = .ok (.ireturn, 1) := by decide +kernel
theorem dX1_clear_0 : decode cX1_clear 0 = .ok (.aload_n 0, 1) := by decide +kernel
theorem dX1_clear_1 : decode cX1_clear 1 = .ok (.iconst 0, 1) := by decide +kernel
theorem dX1_clear_2 : decode cX1_clear 2 = .ok (.putfield 9, 3) := by decide +kernel
theorem dX1_clear_5 : decode cX1_clear 5 = .ok (.aload_n 0, 1) := by decide +kernel
theorem dX1_clear_6 : decode cX1_clear 6 = .ok (.iconst 0, 1) := by decide +kernel
theorem dX1_clear_7 : decode cX1_clear 7 = .ok (.putfield 15, 3) := by decide +kernel
theorem dX1_clear_10 : decode cX1_clear 10 = .ok (.aload_n 0, 1) := by decide +kernel
theorem dX1_clear_11 : decode cX1_clear 11 = .ok (.iconst 0, 1) := by decide +kernel
theorem dX1_clear_12 : decode cX1_clear 12 = .ok (.putfield 18, 3) := by decide +kernel
theorem dX1_clear_15 : decode cX1_clear 15 = .ok (.aload_n 0, 1) := by decide +kernel
theorem dX1_clear_16 : decode cX1_clear 16 = .ok (.iconst 0, 1) := by decide +kernel
theorem dX1_clear_17 : decode cX1_clear 17 = .ok (.putfield 21, 3) := by decide +kernel
theorem dX1_clear_20 : decode cX1_clear 20 = .ok (.iconst 0, 1) := by decide +kernel
theorem dX1_clear_21 : decode cX1_clear 21 = .ok (.istore_n 1, 1) := by decide +kernel
theorem dX1_clear_22 : decode cX1_clear 22 = .ok (.iload_n 1, 1) := by decide +kernel
theorem dX1_clear_23 : decode cX1_clear 23 = .ok (.bipush 8, 2) := by decide +kernel
theorem dX1_clear_25 : decode cX1_clear 25 = .ok (.if_icmp .ge 23, 3) := by decide +kernel
theorem dX1_clear_28 : decode cX1_clear 28 = .ok (.aload_n 0, 1) := by decide +kernel
theorem dX1_clear_29 : decode cX1_clear 29 = .ok (.getfield 24, 3) := by decide +kernel
theorem dX1_clear_32 : decode cX1_clear 32 = .ok (.iload_n 1, 1) := by decide +kernel
theorem dX1_clear_33 : decode cX1_clear 33 = .ok (.iconst 0, 1) := by decide +kernel
theorem dX1_clear_34 : decode cX1_clear 34 = .ok (.iastore, 1) := by decide +kernel
theorem dX1_clear_35 : decode cX1_clear 35 = .ok (.aload_n 0, 1) := by decide +kernel
theorem dX1_clear_36 : decode cX1_clear 36 = .ok (.getfield 28, 3) := by decide +kernel
theorem dX1_clear_39 : decode cX1_clear 39 = .ok (.iload_n 1, 1) := by decide +kernel
theorem dX1_clear_40 : decode cX1_clear 40 = .ok (.iconst 0, 1) := by decide +kernel
theorem dX1_clear_41 : decode cX1_clear 41 = .ok (.iastore, 1) := by decide +kernel
theorem dX1_clear_42 : decode cX1_clear 42 = .ok (.iinc 1 1, 3) := by decide +kernel
theorem dX1_clear_45 : decode cX1_clear 45 = .ok (.goto (-23), 3) := by decide +kernel
theorem dX1_clear_48 : decode cX1_clear 48 = .ok (.return_, 1) := by decide +kernel
theorem dX1_become_0 : decode cX1_become 0 = .ok (.aload_n 0, 1) := by decide +kernel
theorem dX1_become_1 : decode cX1_become 1 = .ok (.aload_n 1, 1) := by decide +kernel
theorem dX1_become_2 : decode cX1_become 2 = .ok (.getfield 9, 3) := by decide +kernel
theorem dX1_become_5 : decode cX1_become 5 = .ok (.putfield 9, 3) := by decide +kernel
theorem dX1_become_8 : decode cX1_become 8 = .ok (.aload_n 0, 1) := by decide +kernel
theorem dX1_become_9 : decode cX1_become 9 = .ok (.aload_n 1, 1) := by decide +kernel
theorem dX1_become_10 : decode cX1_become 10 = .ok (.getfield 15, 3) := by decide +kernel
theorem dX1_become_13 : decode cX1_become 13 = .ok (.putfield 15, 3) := by decide +kernel
theorem dX1_become_16 : decode cX1_become 16 = .ok (.aload_n 0, 1) := by decide +kernel
theorem dX1_become_17 : decode cX1_become 17 = .ok (.aload_n 1, 1) := by decide +kernel
theorem dX1_become_18 : decode cX1_become 18 = .ok (.getfield 18, 3) := by decide +kernel
theorem dX1_become_21 : decode cX1_become 21 = .ok (.putfield 18, 3) := by decide +kernel
theorem dX1_become_24 : decode cX1_become 24 = .ok (.aload_n 0, 1) := by decide +kernel
theorem dX1_become_25 : decode cX1_become 25 = .ok (.aload_n 1, 1) := by decide +kernel
theorem dX1_become_26 : decode cX1_become 26 = .ok (.getfield 21, 3) := by decide +kernel
theorem dX1_become_29 : decode cX1_become 29 = .ok (.putfield 21, 3) := by decide +kernel
theorem dX1_become_32 : decode cX1_become 32 = .ok (.aload_n 1, 1) := by decide +kernel
theorem dX1_become_33 : decode cX1_become 33 = .ok (.getfield 24, 3) := by decide +kernel
theorem dX1_become_36 : decode cX1_become 36 = .ok (.iconst 0, 1) := by decide +kernel
theorem dX1_become_37 : decode cX1_become 37 = .ok (.aload_n 0, 1) := by decide +kernel
theorem dX1_become_38 : decode cX1_become 38 = .ok (.getfield 24, 3) := by decide +kernel
theorem dX1_become_41 : decode cX1_become 41 = .ok (.iconst 0, 1) := by decide +kernel
theorem dX1_become_42 : decode cX1_become 42 = .ok (.bipush 8, 2) := by decide +kernel
theorem dX1_become_44 : decode cX1_become 44 = .ok (.invokestatic 46, 3) := by decide +kernel
theorem dX1_become_47 : decode cX1_become 47 = .ok (.aload_n 1, 1) := by decide +kernel
theorem dX1_become_48 : decode cX1_become 48 = .ok (.getfield 28, 3) := by decide +kernel
theorem dX1_become_51 : decode cX1_become 51 = .ok (.iconst 0, 1) := by decide +kernel
theorem dX1_become_52 : decode cX1_become 52 = .ok (.aload_n 0, 1) := by decide +kernel
theorem dX1_become_53 : decode cX1_become 53 = .ok (.getfield 28, 3) := by decide +kernel
theorem dX1_become_56 : decode cX1_become 56 = .ok (.iconst 0, 1) := by decide +kernel
theorem dX1_become_57 : decode cX1_become 57 = .ok (.bipush 8, 2) := by decide +kernel
theorem dX1_become_59 : decode cX1_become 59 = .ok (.invokestatic 46, 3) := by decide +kernel
theorem dX1_become_62 : decode cX1_become 62 = .ok (.aload_n 1, 1) := by decide +kernel
theorem dX1_become_63 : decode cX1_become 63 = .ok (.getfield 31, 3) := by decide +kernel
theorem dX1_become_66 : decode cX1_become 66 = .ok (.iconst 0, 1) := by decide +kernel
theorem dX1_become_67 : decode cX1_become 67 = .ok (.aload_n 0, 1) := by decide +kernel
theorem dX1_become_68 : decode cX1_become 68 = .ok (.getfield 31, 3) := by decide +kernel
theorem dX1_become_71 : decode cX1_become 71 = .ok (.iconst 0, 1) := by decide +kernel
theorem dX1_become_72 : decode cX1_become 72 = .ok (.bipush 6, 2) := by decide +kernel
theorem dX1_become_74 : decode cX1_become 74 = .ok (.invokestatic 46, 3) := by decide +kernel
theorem dX1_become_77 : decode cX1_become 77 = .ok (.aload_n 1, 1) := by decide +kernel
theorem dX1_become_78 : decode cX1_become 78 = .ok (.getfield 34, 3) := by decide +kernel
theorem dX1_become_81 : decode cX1_become 81 = .ok (.iconst 0, 1) := by decide +kernel
theorem dX1_become_82 : decode cX1_become 82 = .ok (.aload_n 0, 1) := by decide +kernel
theorem dX1_become_83 : decode cX1_become 83 = .ok (.getfield 34, 3) := by decide +kernel
theorem dX1_become_86 : decode cX1_become 86 = .ok (.iconst 0, 1) := by decide +kernel
theorem dX1_become_87 : decode cX1_become 87 = .ok (.bipush 6, 2) := by decide +kernel
theorem dX1_become_89 : decode cX1_become 89 = .ok (.invokestatic 46, 3) := by decide +kernel
theorem dX1_become_92 : decode cX1_become 92 = .ok (.aload_n 1, 1) := by decide +kernel
theorem dX1_become_93 : decode cX1_become 93 = .ok (.getfield 37, 3) := by decide +kernel
theorem dX1_become_96 : decode cX1_become 96 = .ok (.iconst 0, 1) := by decide +kernel
theorem dX1_become_97 : decode cX1_become 97 = .ok (.aload_n 0, 1) := by decide +kernel
theorem dX1_become_98 : decode cX1_become 98 = .ok (.getfield 37, 3) := by decide +kernel
theorem dX1_become_101 : decode cX1_become 101 = .ok (.iconst 0, 1) := by decide +kernel
theorem dX1_become_102 : decode cX1_become 102 = .ok (.bipush 6, 2) := by decide +kernel
theorem dX1_become_104 : decode cX1_become 104 = .ok (.invokestatic 46, 3) := by decide +kernel
theorem dX1_become_107 : decode cX1_become 107 = .ok (.aload_n 1, 1) := by decide +kernel
theorem dX1_become_108 : decode cX1_become 108 = .ok (.getfield 40, 3) := by decide +kernel
theorem dX1_become_111 : decode cX1_become 111 = .ok (.iconst 0, 1) := by decide +kernel
theorem dX1_become_112 : decode cX1_become 112 = .ok (.aload_n 0, 1) := by decide +kernel
theorem dX1_become_113 : decode cX1_become 113 = .ok (.getfield 40, 3) := by decide +kernel
theorem dX1_become_116 : decode cX1_become 116 = .ok (.iconst 0, 1) := by decide +kernel
theorem dX1_become_117 : decode cX1_become 117 = .ok (.bipush 6, 2) := by decide +kernel
theorem dX1_become_119 : decode cX1_become 119 = .ok (.invokestatic 46, 3) := by decide +kernel
theorem dX1_become_122 : decode cX1_become 122 = .ok (.aload_n 1, 1) := by decide +kernel
theorem dX1_become_123 : decode cX1_become 123 = .ok (.getfield 43, 3) := by decide +kernel
theorem dX1_become_126 : decode cX1_become 126 = .ok (.iconst 0, 1) := by decide +kernel
theorem dX1_become_127 : decode cX1_become 127 = .ok (.aload_n 0, 1) := by decide +kernel
theorem dX1_become_128 : decode cX1_become 128 = .ok (.getfield 43, 3) := by decide +kernel
theorem dX1_become_131 : decode cX1_become 131 = .ok (.iconst 0, 1) := by decide +kernel
theorem dX1_become_132 : decode cX1_become 132 = .ok (.bipush 6, 2) := by decide +kernel
theorem dX1_become_134 : decode cX1_become 134 = .ok (.invokestatic 46, 3) := by decide +kernel
theorem dX1_become_137 : decode cX1_become 137 = .ok (.return_, 1) := by decide +kernel
theorem dX1_addHouse_0 : decode cX1_addHouse 0 = .ok (.aload_n 0, 1) := by decide +kernel
theorem dX1_addHouse_1 : decode cX1_addHouse 1 = .ok (.getfield 31, 3) := by decide +kernel
theorem dX1_addHouse_4 : decode cX1_addHouse 4 = .ok (.aload_n 0, 1) := by decide +kernel
theorem dX1_addHouse_5 : decode cX1_addHouse 5 = .ok (.getfield 18, 3) := by decide +kernel
theorem dX1_addHouse_8 : decode cX1_addHouse 8 = .ok (.iload_n 1, 1) := by decide +kernel
theorem dX1_addHouse_9 : decode cX1_addHouse 9 = .ok (.iastore, 1) := by decide +kernel
theorem dX1_addHouse_10 : decode cX1_addHouse 10 = .ok (.aload_n 0, 1) := by decide +kernel
theorem dX1_addHouse_11 : decode cX1_addHouse 11 = .ok (.getfield 34, 3) := by decide +kernel
theorem dX1_addHouse_14 : decode cX1_addHouse 14 = .ok (.aload_n 0, 1) := by decide +kernel
theorem dX1_addHouse_15 : decode cX1_addHouse 15 = .ok (.getfield 18, 3) := by decide +kernel
theorem dX1_addHouse_18 : decode cX1_addHouse 18 = .ok (.iload_n 3, 1) := by decide +kernel
theorem dX1_addHouse_19 : decode cX1_addHouse 19 = .ok (.iastore, 1) := by decide +kernel
theorem dX1_addHouse_20 : decode cX1_addHouse 20 = .ok (.aload_n 0, 1) := by decide +kernel
theorem dX1_addHouse_21 : decode cX1_addHouse 21 = .ok (.getfield 37, 3) := by decide +kernel
theorem dX1_addHouse_24 : decode cX1_addHouse 24 = .ok (.aload_n 0, 1) := by decide +kernel
theorem dX1_addHouse_25 : decode cX1_addHouse 25 = .ok (.getfield 18, 3) := by decide +kernel
theorem dX1_addHouse_28 : decode cX1_addHouse 28 = .ok (.iload 4, 2) := by decide +kernel
theorem dX1_addHouse_30 : decode cX1_addHouse 30 = .ok (.iastore, 1) := by decide +kernel
theorem dX1_addHouse_31 : decode cX1_addHouse 31 = .ok (.aload_n 0, 1) := by decide +kernel
theorem dX1_addHouse_32 : decode cX1_addHouse 32 = .ok (.getfield 40, 3) := by decide +kernel
theorem dX1_addHouse_35 : decode cX1_addHouse 35 = .ok (.aload_n 0, 1) := by decide +kernel
theorem dX1_addHouse_36 : decode cX1_addHouse 36 = .ok (.getfield 18, 3) := by decide +kernel
theorem dX1_addHouse_39 : decode cX1_addHouse 39 = .ok (.iload 5, 2) := by decide +kernel
theorem dX1_addHouse_41 : decode cX1_addHouse 41 = .ok (.iastore, 1) := by decide +kernel
theorem dX1_addHouse_42 : decode cX1_addHouse 42 = .ok (.aload_n 0, 1) := by decide +kernel
theorem dX1_addHouse_43 : decode cX1_addHouse 43 = .ok (.getfield 43, 3) := by decide +kernel
theorem dX1_addHouse_46 : decode cX1_addHouse 46 = .ok (.aload_n 0, 1) := by decide +kernel
theorem dX1_addHouse_47 : decode cX1_addHouse 47 = .ok (.getfield 18, 3) := by decide +kernel
theorem dX1_addHouse_50 : decode cX1_addHouse 50 = .ok (.iconst 0, 1) := by decide +kernel
theorem dX1_addHouse_51 : decode cX1_addHouse 51 = .ok (.iastore, 1) := by decide +kernel
theorem dX1_addHouse_52 : decode cX1_addHouse 52 = .ok (.aload_n 0, 1) := by decide +kernel
theorem dX1_addHouse_53 : decode cX1_addHouse 53 = .ok (.dup, 1) := by decide +kernel
theorem dX1_addHouse_54 : decode cX1_addHouse 54 = .ok (.getfield 21, 3) := by decide +kernel
theorem dX1_addHouse_57 : decode cX1_addHouse 57 = .ok (.iload_n 2, 1) := by decide +kernel
theorem dX1_addHouse_58 : decode cX1_addHouse 58 = .ok (.iconst 4, 1) := by decide +kernel
theorem dX1_addHouse_59 : decode cX1_addHouse 59 = .ok (.aload_n 0, 1) := by decide +kernel
theorem dX1_addHouse_60 : decode cX1_addHouse 60 = .ok (.getfield 18, 3) := by decide +kernel
theorem dX1_addHouse_63 : decode cX1_addHouse 63 = .ok (.imul, 1) := by decide +kernel
theorem dX1_addHouse_64 : decode cX1_addHouse 64 = .ok (.ishl, 1) := by decide +kernel
theorem dX1_addHouse_65 : decode cX1_addHouse 65 = .ok (.ior, 1) := by decide +kernel
theorem dX1_addHouse_66 : decode cX1_addHouse 66 = .ok (.putfield 21, 3) := by decide +kernel
theorem dX1_addHouse_69 : decode cX1_addHouse 69 = .ok (.aload_n 0, 1) := by decide +kernel
theorem dX1_addHouse_70 : decode cX1_addHouse 70 = .ok (.dup, 1) := by decide +kernel
theorem dX1_addHouse_71 : decode cX1_addHouse 71 = .ok (.getfield 18, 3) := by decide +kernel
theorem dX1_addHouse_74 : decode cX1_addHouse 74 = .ok (.iconst 1, 1) := by decide +kernel
theorem dX1_addHouse_75 : decode cX1_addHouse 75 = .ok (.iadd, 1) := by decide +kernel
theorem dX1_addHouse_76 : decode cX1_addHouse 76 = .ok (.putfield 18, 3) := by decide +kernel
theorem dX1_addHouse_79 : decode cX1_addHouse 79 = .ok (.return_, 1) := by decide +kernel
theorem dX1_hasRoomFor_0 : decode cX1_hasRoomFor 0 = .ok (.iload_n 1, 1) := by decide +kernel
theorem dX1_hasRoomFor_1 : decode cX1_hasRoomFor 1 = .ok (.iload_n 3, 1) := by decide +kernel
theorem dX1_hasRoomFor_2 : decode cX1_hasRoomFor 2 = .ok (.iadd, 1) := by decide +kernel
theorem dX1_hasRoomFor_3 : decode cX1_hasRoomFor 3 = .ok (.bipush 16, 2) := by decide +kernel
theorem dX1_hasRoomFor_5 : decode cX1_hasRoomFor 5 = .ok (.if_icmp .gt 12, 3) := by decide +kernel
theorem dX1_hasRoomFor_8 : decode cX1_hasRoomFor 8 = .ok (.iload_n 2, 1) := by decide +kernel
theorem dX1_hasRoomFor_9 : decode cX1_hasRoomFor 9 = .ok (.iload 4, 2) := by decide +kernel
theorem dX1_hasRoomFor_11 : decode cX1_hasRoomFor 11 = .ok (.iadd, 1) := by decide +kernel
theorem dX1_hasRoomFor_12 : decode cX1_hasRoomFor 12 = .ok (.bipush 8, 2) := by decide +kernel
theorem dX1_hasRoomFor_14 : decode cX1_hasRoomFor 14 = .ok (.if_icmp .le 5, 3) := by decide +kernel
theorem dX1_hasRoomFor_17 : decode cX1_hasRoomFor 17 = .ok (.iconst 0, 1) := by decide +kernel
theorem dX1_hasRoomFor_18 : decode cX1_hasRoomFor 18 = .ok (.ireturn, 1) := by decide +kernel
theorem dX1_hasRoomFor_19 : decode cX1_hasRoomFor 19 = .ok (.iload_n 2, 1) := by decide +kernel
theorem dX1_hasRoomFor_20 : decode cX1_hasRoomFor 20 = .ok (.istore 5, 2) := by decide +kernel
theorem dX1_hasRoomFor_22 : decode cX1_hasRoomFor 22 = .ok (.iload 5, 2) := by decide +kernel
theorem dX1_hasRoomFor_24 : decode cX1_hasRoomFor 24 = .ok (.iload_n 2, 1) := by decide +kernel
theorem dX1_hasRoomFor_25 : decode cX1_hasRoomFor 25 = .ok (.iload 4, 2) := by decide +kernel
theorem dX1_hasRoomFor_27 : decode cX1_hasRoomFor 27 = .ok (.iadd, 1) := by decide +kernel
theorem dX1_hasRoomFor_28 : decode cX1_hasRoomFor 28 = .ok (.if_icmp .ge 50, 3) := by decide +kernel
theorem dX1_hasRoomFor_31 : decode cX1_hasRoomFor 31 = .ok (.iload_n 1, 1) := by decide +kernel
theorem dX1_hasRoomFor_32 : decode cX1_hasRoomFor 32 = .ok (.istore 6, 2) := by decide +kernel
theorem dX1_hasRoomFor_34 : decode cX1_hasRoomFor 34 = .ok (.iload 6, 2) := by decide +kernel
theorem dX1_hasRoomFor_36 : decode cX1_hasRoomFor 36 = .ok (.iload_n 1, 1) := by decide +kernel
theorem dX1_hasRoomFor_37 : decode cX1_hasRoomFor 37 = .ok (.iload_n 3, 1) := by decide +kernel
theorem dX1_hasRoomFor_38 : decode cX1_hasRoomFor 38 = .ok (.iadd, 1) := by decide +kernel
theorem dX1_hasRoomFor_39 : decode cX1_hasRoomFor 39 = .ok (.if_icmp .ge 33, 3) := by decide +kernel
theorem dX1_hasRoomFor_42 : decode cX1_hasRoomFor 42 = .ok (.aload_n 0, 1) := by decide +kernel
theorem dX1_hasRoomFor_43 : decode cX1_hasRoomFor 43 = .ok (.iload 6, 2) := by decide +kernel
theorem dX1_hasRoomFor_45 : decode cX1_hasRoomFor 45 = .ok (.iload 5, 2) := by decide +kernel
theorem dX1_hasRoomFor_47 : decode cX1_hasRoomFor 47 = .ok (.invokevirtual 52, 3) := by decide +kernel
theorem dX1_hasRoomFor_50 : decode cX1_hasRoomFor 50 = .ok (.ifCond .ne 14, 3) := by decide +kernel
theorem dX1_hasRoomFor_53 : decode cX1_hasRoomFor 53 = .ok (.aload_n 0, 1) := by decide +kernel
theorem dX1_hasRoomFor_54 : decode cX1_hasRoomFor 54 = .ok (.iload 6, 2) := by decide +kernel
theorem dX1_hasRoomFor_56 : decode cX1_hasRoomFor 56 = .ok (.iload 5, 2) := by decide +kernel
theorem dX1_hasRoomFor_58 : decode cX1_hasRoomFor 58 = .ok (.invokevirtual 56, 3) := by decide +kernel
theorem dX1_hasRoomFor_61 : decode cX1_hasRoomFor 61 = .ok (.ifCond .lt 5, 3) := by decide +kernel
theorem dX1_hasRoomFor_64 : decode cX1_hasRoomFor 64 = .ok (.iconst 0, 1) := by decide +kernel
theorem dX1_hasRoomFor_65 : decode cX1_hasRoomFor 65 = .ok (.ireturn, 1) := by decide +kernel
theorem dX1_hasRoomFor_66 : decode cX1_hasRoomFor 66 = .ok (.iinc 6 1, 3) := by decide +kernel
theorem dX1_hasRoomFor_69 : decode cX1_hasRoomFor 69 = .ok (.goto (-35), 3) := by decide +kernel
theorem dX1_hasRoomFor_72 : decode cX1_hasRoomFor 72 = .ok (.iinc 5 1, 3) := by decide +kernel
theorem dX1_hasRoomFor_75 : decode cX1_hasRoomFor 75 = .ok (.goto (-53), 3) := by decide +kernel
theorem dX1_hasRoomFor_78 : decode cX1_hasRoomFor 78 = .ok (.iconst 1, 1) := by decide +kernel
theorem dX1_hasRoomFor_79 : decode cX1_hasRoomFor 79 = .ok (.ireturn, 1) := by decide +kernel
theorem dX1_isLie_0 : decode cX1_isLie 0 = .ok (.aload_n 0, 1) := by decide +kernel
theorem dX1_isLie_1 : decode cX1_isLie 1 = .ok (.getfield 9, 3) := by decide +kernel
theorem dX1_isLie_4 : decode cX1_isLie 4 = .ok (.iload_n 1, 1) := by decide +kernel
theorem dX1_isLie_5 : decode cX1_isLie 5 = .ok (.iconst 2, 1) := by decide +kernel
theorem dX1_isLie_6 : decode cX1_isLie 6 = .ok (.idiv, 1) := by decide +kernel
theorem dX1_isLie_7 : decode cX1_isLie 7 = .ok (.ishr, 1) := by decide +kernel
theorem dX1_isLie_8 : decode cX1_isLie 8 = .ok (.iconst 1, 1) := by decide +kernel
theorem dX1_isLie_9 : decode cX1_isLie 9 = .ok (.iand, 1) := by decide +kernel
theorem dX1_isLie_10 : decode cX1_isLie 10 = .ok (.iload_n 1, 1) := by decide +kernel
theorem dX1_isLie_11 : decode cX1_isLie 11 = .ok (.iconst 2, 1) := by decide +kernel
theorem dX1_isLie_12 : decode cX1_isLie 12 = .ok (.irem, 1) := by decide +kernel
theorem dX1_isLie_13 : decode cX1_isLie 13 = .ok (.if_icmp .eq 7, 3) := by decide +kernel
theorem dX1_isLie_16 : decode cX1_isLie 16 = .ok (.iconst 1, 1) := by decide +kernel
theorem dX1_isLie_17 : decode cX1_isLie 17 = .ok (.goto 4, 3) := by decide +kernel
theorem dX1_isLie_20 : decode cX1_isLie 20 = .ok (.iconst 0, 1) := by decide +kernel
theorem dX1_isLie_21 : decode cX1_isLie 21 = .ok (.ireturn, 1) := by decide +kernel
theorem dX1_xOf_0 : decode cX1_xOf 0 = .ok (.iload_n 1, 1) := by decide +kernel
theorem dX1_xOf_1 : decode cX1_xOf 1 = .ok (.iconst 4, 1) := by decide +kernel
theorem dX1_xOf_2 : decode cX1_xOf 2 = .ok (.iload_n 2, 1) := by decide +kernel
theorem dX1_xOf_3 : decode cX1_xOf 3 = .ok (.imul, 1) := by decide +kernel
theorem dX1_xOf_4 : decode cX1_xOf 4 = .ok (.ishr, 1) := by decide +kernel
theorem dX1_xOf_5 : decode cX1_xOf 5 = .ok (.bipush 15, 2) := by decide +kernel
theorem dX1_xOf_7 : decode cX1_xOf 7 = .ok (.iand, 1) := by decide +kernel
theorem dX1_xOf_8 : decode cX1_xOf 8 = .ok (.ireturn, 1) := by decide +kernel
theorem dX1_eastOf_0 : decode cX1_eastOf 0 = .ok (.aload_n 0, 1) := by decide +kernel
theorem dX1_eastOf_1 : decode cX1_eastOf 1 = .ok (.iload_n 1, 1) := by decide +kernel
theorem dX1_eastOf_2 : decode cX1_eastOf 2 = .ok (.iload_n 2, 1) := by decide +kernel
theorem dX1_eastOf_3 : decode cX1_eastOf 3 = .ok (.invokevirtual 60, 3) := by decide +kernel
theorem dX1_eastOf_6 : decode cX1_eastOf 6 = .ok (.aload_n 0, 1) := by decide +kernel
theorem dX1_eastOf_7 : decode cX1_eastOf 7 = .ok (.getfield 37, 3) := by decide +kernel
theorem dX1_eastOf_10 : decode cX1_eastOf 10 = .ok (.iload_n 2, 1) := by decide +kernel
theorem dX1_eastOf_11 : decode cX1_eastOf 11 = .ok (.iaload, 1) := by decide +kernel
theorem dX1_eastOf_12 : decode cX1_eastOf 12 = .ok (.iadd, 1) := by decide +kernel
theorem dX1_eastOf_13 : decode cX1_eastOf 13 = .ok (.ireturn, 1) := by decide +kernel
theorem dX1_isDrowned_0 : decode cX1_isDrowned 0 = .ok (.aload_n 0, 1) := by decide +kernel
theorem dX1_isDrowned_1 : decode cX1_isDrowned 1 = .ok (.iload_n 1, 1) := by decide +kernel
theorem dX1_isDrowned_2 : decode cX1_isDrowned 2 = .ok (.iload_n 2, 1) := by decide +kernel
theorem dX1_isDrowned_3 : decode cX1_isDrowned 3 = .ok (.invokevirtual 63, 3) := by decide +kernel
theorem dX1_isDrowned_6 : decode cX1_isDrowned 6 = .ok (.aload_n 0, 1) := by decide +kernel
theorem dX1_isDrowned_7 : decode cX1_isDrowned 7 = .ok (.getfield 15, 3) := by decide +kernel
theorem dX1_isDrowned_10 : decode cX1_isDrowned 10 = .ok (.if_icmp .le 7, 3) := by decide +kernel
theorem dX1_isDrowned_13 : decode cX1_isDrowned 13 = .ok (.iconst 1, 1) := by decide +kernel
theorem dX1_isDrowned_14 : decode cX1_isDrowned 14 = .ok (.goto 4, 3) := by decide +kernel
theorem dX1_isDrowned_17 : decode cX1_isDrowned 17 = .ok (.iconst 0, 1) := by decide +kernel
theorem dX1_isDrowned_18 : decode cX1_isDrowned 18 = .ok (.ireturn, 1) := by decide +kernel
theorem dX1_isWall_0 : decode cX1_isWall 0 = .ok (.aload_n 0, 1) := by decide +kernel
theorem dX1_isWall_1 : decode cX1_isWall 1 = .ok (.getfield 24, 3) := by decide +kernel
theorem dX1_isWall_4 : decode cX1_isWall 4 = .ok (.iload_n 2, 1) := by decide +kernel
theorem dX1_isWall_5 : decode cX1_isWall 5 = .ok (.iaload, 1) := by decide +kernel
theorem dX1_isWall_6 : decode cX1_isWall 6 = .ok (.iload_n 1, 1) := by decide +kernel
theorem dX1_isWall_7 : decode cX1_isWall 7 = .ok (.ishr, 1) := by decide +kernel
theorem dX1_isWall_8 : decode cX1_isWall 8 = .ok (.iconst 1, 1) := by decide +kernel
theorem dX1_isWall_9 : decode cX1_isWall 9 = .ok (.iand, 1) := by decide +kernel
theorem dX1_isWall_10 : decode cX1_isWall 10 = .ok (.ifCond .eq 7, 3) := by decide +kernel
theorem dX1_isWall_13 : decode cX1_isWall 13 = .ok (.iconst 1, 1) := by decide +kernel
theorem dX1_isWall_14 : decode cX1_isWall 14 = .ok (.goto 4, 3) := by decide +kernel
theorem dX1_isWall_17 : decode cX1_isWall 17 = .ok (.iconst 0, 1) := by decide +kernel
theorem dX1_isWall_18 : decode cX1_isWall 18 = .ok (.ireturn, 1) := by decide +kernel
theorem dX1_isPath_0 : decode cX1_isPath 0 = .ok (.aload_n 0, 1) := by decide +kernel
theorem dX1_isPath_1 : decode cX1_isPath 1 = .ok (.getfield 28, 3) := by decide +kernel
theorem dX1_isPath_4 : decode cX1_isPath 4 = .ok (.iload_n 2, 1) := by decide +kernel
theorem dX1_isPath_5 : decode cX1_isPath 5 = .ok (.iaload, 1) := by decide +kernel
theorem dX1_isPath_6 : decode cX1_isPath 6 = .ok (.iload_n 1, 1) := by decide +kernel
theorem dX1_isPath_7 : decode cX1_isPath 7 = .ok (.ishr, 1) := by decide +kernel
theorem dX1_isPath_8 : decode cX1_isPath 8 = .ok (.iconst 1, 1) := by decide +kernel
theorem dX1_isPath_9 : decode cX1_isPath 9 = .ok (.iand, 1) := by decide +kernel
theorem dX1_isPath_10 : decode cX1_isPath 10 = .ok (.ifCond .eq 7, 3) := by decide +kernel
theorem dX1_isPath_13 : decode cX1_isPath 13 = .ok (.iconst 1, 1) := by decide +kernel
theorem dX1_isPath_14 : decode cX1_isPath 14 = .ok (.goto 4, 3) := by decide +kernel
theorem dX1_isPath_17 : decode cX1_isPath 17 = .ok (.iconst 0, 1) := by decide +kernel
theorem dX1_isPath_18 : decode cX1_isPath 18 = .ok (.ireturn, 1) := by decide +kernel
theorem dX1_hasColumn_0 : decode cX1_hasColumn 0 = .ok (.aload_n 0, 1) := by decide +kernel
theorem dX1_hasColumn_1 : decode cX1_hasColumn 1 = .ok (.iload_n 1, 1) := by decide +kernel
theorem dX1_hasColumn_2 : decode cX1_hasColumn 2 = .ok (.iload_n 2, 1) := by decide +kernel
theorem dX1_hasColumn_3 : decode cX1_hasColumn 3 = .ok (.invokevirtual 60, 3) := by decide +kernel
theorem dX1_hasColumn_6 : decode cX1_hasColumn 6 = .ok (.istore 4, 2) := by decide +kernel
theorem dX1_hasColumn_8 : decode cX1_hasColumn 8 = .ok (.iload_n 3, 1) := by decide +kernel
theorem dX1_hasColumn_9 : decode cX1_hasColumn 9 = .ok (.iload 4, 2) := by decide +kernel
theorem dX1_hasColumn_11 : decode cX1_hasColumn 11 = .ok (.if_icmp .lt 20, 3) := by decide +kernel
theorem dX1_hasColumn_14 : decode cX1_hasColumn 14 = .ok (.iload_n 3, 1) := by decide +kernel
theorem dX1_hasColumn_15 : decode cX1_hasColumn 15 = .ok (.iload 4, 2) := by decide +kernel
theorem dX1_hasColumn_17 : decode cX1_hasColumn 17 = .ok (.aload_n 0, 1) := by decide +kernel
theorem dX1_hasColumn_18 : decode cX1_hasColumn 18 = .ok (.getfield 37, 3) := by decide +kernel
theorem dX1_hasColumn_21 : decode cX1_hasColumn 21 = .ok (.iload_n 2, 1) := by decide +kernel
theorem dX1_hasColumn_22 : decode cX1_hasColumn 22 = .ok (.iaload, 1) := by decide +kernel
theorem dX1_hasColumn_23 : decode cX1_hasColumn 23 = .ok (.iadd, 1) := by decide +kernel
theorem dX1_hasColumn_24 : decode cX1_hasColumn 24 = .ok (.if_icmp .ge 7, 3) := by decide +kernel
theorem dX1_hasColumn_27 : decode cX1_hasColumn 27 = .ok (.iconst 1, 1) := by decide +kernel
theorem dX1_hasColumn_28 : decode cX1_hasColumn 28 = .ok (.goto 4, 3) := by decide +kernel
theorem dX1_hasColumn_31 : decode cX1_hasColumn 31 = .ok (.iconst 0, 1) := by decide +kernel
theorem dX1_hasColumn_32 : decode cX1_hasColumn 32 = .ok (.ireturn, 1) := by decide +kernel
theorem dX1_houseAt_0 : decode cX1_houseAt 0 = .ok (.iconst 0, 1) := by decide +kernel
theorem dX1_houseAt_1 : decode cX1_houseAt 1 = .ok (.istore_n 3, 1) := by decide +kernel
theorem dX1_houseAt_2 : decode cX1_houseAt 2 = .ok (.iload_n 3, 1) := by decide +kernel
theorem dX1_houseAt_3 : decode cX1_houseAt 3 = .ok (.aload_n 0, 1) := by decide +kernel
theorem dX1_houseAt_4 : decode cX1_houseAt 4 = .ok (.getfield 18, 3) := by decide +kernel
theorem dX1_houseAt_7 : decode cX1_houseAt 7 = .ok (.if_icmp .ge 68, 3) := by decide +kernel
theorem dX1_houseAt_10 : decode cX1_houseAt 10 = .ok (.aload_n 0, 1) := by decide +kernel
theorem dX1_houseAt_11 : decode cX1_houseAt 11 = .ok (.aload_n 0, 1) := by decide +kernel
theorem dX1_houseAt_12 : decode cX1_houseAt 12 = .ok (.getfield 21, 3) := by decide +kernel
theorem dX1_houseAt_15 : decode cX1_houseAt 15 = .ok (.iload_n 3, 1) := by decide +kernel
theorem dX1_houseAt_16 : decode cX1_houseAt 16 = .ok (.invokevirtual 60, 3) := by decide +kernel
theorem dX1_houseAt_19 : decode cX1_houseAt 19 = .ok (.istore 4, 2) := by decide +kernel
theorem dX1_houseAt_21 : decode cX1_houseAt 21 = .ok (.iload_n 1, 1) := by decide +kernel
theorem dX1_houseAt_22 : decode cX1_houseAt 22 = .ok (.iload 4, 2) := by decide +kernel
theorem dX1_houseAt_24 : decode cX1_houseAt 24 = .ok (.if_icmp .lt 45, 3) := by decide +kernel
theorem dX1_houseAt_27 : decode cX1_houseAt 27 = .ok (.iload_n 1, 1) := by decide +kernel
theorem dX1_houseAt_28 : decode cX1_houseAt 28 = .ok (.iload 4, 2) := by decide +kernel
theorem dX1_houseAt_30 : decode cX1_houseAt 30 = .ok (.aload_n 0, 1) := by decide +kernel
theorem dX1_houseAt_31 : decode cX1_houseAt 31 = .ok (.getfield 37, 3) := by decide +kernel
theorem dX1_houseAt_34 : decode cX1_houseAt 34 = .ok (.iload_n 3, 1) := by decide +kernel
theorem dX1_houseAt_35 : decode cX1_houseAt 35 = .ok (.iaload, 1) := by decide +kernel
theorem dX1_houseAt_36 : decode cX1_houseAt 36 = .ok (.iadd, 1) := by decide +kernel
theorem dX1_houseAt_37 : decode cX1_houseAt 37 = .ok (.if_icmp .ge 32, 3) := by decide +kernel
theorem dX1_houseAt_40 : decode cX1_houseAt 40 = .ok (.iload_n 2, 1) := by decide +kernel
theorem dX1_houseAt_41 : decode cX1_houseAt 41 = .ok (.aload_n 0, 1) := by decide +kernel
theorem dX1_houseAt_42 : decode cX1_houseAt 42 = .ok (.getfield 34, 3) := by decide +kernel
theorem dX1_houseAt_45 : decode cX1_houseAt 45 = .ok (.iload_n 3, 1) := by decide +kernel
theorem dX1_houseAt_46 : decode cX1_houseAt 46 = .ok (.iaload, 1) := by decide +kernel
theorem dX1_houseAt_47 : decode cX1_houseAt 47 = .ok (.if_icmp .lt 22, 3) := by decide +kernel
theorem dX1_houseAt_50 : decode cX1_houseAt 50 = .ok (.iload_n 2, 1) := by decide +kernel
theorem dX1_houseAt_51 : decode cX1_houseAt 51 = .ok (.aload_n 0, 1) := by decide +kernel
theorem dX1_houseAt_52 : decode cX1_houseAt 52 = .ok (.getfield 34, 3) := by decide +kernel
theorem dX1_houseAt_55 : decode cX1_houseAt 55 = .ok (.iload_n 3, 1) := by decide +kernel
theorem dX1_houseAt_56 : decode cX1_houseAt 56 = .ok (.iaload, 1) := by decide +kernel
theorem dX1_houseAt_57 : decode cX1_houseAt 57 = .ok (.aload_n 0, 1) := by decide +kernel
theorem dX1_houseAt_58 : decode cX1_houseAt 58 = .ok (.getfield 40, 3) := by decide +kernel
theorem dX1_houseAt_61 : decode cX1_houseAt 61 = .ok (.iload_n 3, 1) := by decide +kernel
theorem dX1_houseAt_62 : decode cX1_houseAt 62 = .ok (.iaload, 1) := by decide +kernel
theorem dX1_houseAt_63 : decode cX1_houseAt 63 = .ok (.iadd, 1) := by decide +kernel
theorem dX1_houseAt_64 : decode cX1_houseAt 64 = .ok (.if_icmp .ge 5, 3) := by decide +kernel
theorem dX1_houseAt_67 : decode cX1_houseAt 67 = .ok (.iload_n 3, 1) := by decide +kernel
theorem dX1_houseAt_68 : decode cX1_houseAt 68 = .ok (.ireturn, 1) := by decide +kernel
theorem dX1_houseAt_69 : decode cX1_houseAt 69 = .ok (.iinc 3 1, 3) := by decide +kernel
theorem dX1_houseAt_72 : decode cX1_houseAt 72 = .ok (.goto (-70), 3) := by decide +kernel
theorem dX1_houseAt_75 : decode cX1_houseAt 75 = .ok (.iconst (-1), 1) := by decide +kernel
theorem dX1_houseAt_76 : decode cX1_houseAt 76 = .ok (.ireturn, 1) := by decide +kernel
theorem dX1_contentOf_0 : decode cX1_contentOf 0 = .ok (.aload_n 0, 1) := by decide +kernel
theorem dX1_contentOf_1 : decode cX1_contentOf 1 = .ok (.iload_n 1, 1) := by decide +kernel
theorem dX1_contentOf_2 : decode cX1_contentOf 2 = .ok (.iload_n 2, 1) := by decide +kernel
theorem dX1_contentOf_3 : decode cX1_contentOf 3 = .ok (.invokevirtual 56, 3) := by decide +kernel
theorem dX1_contentOf_6 : decode cX1_contentOf 6 = .ok (.istore_n 3, 1) := by decide +kernel
theorem dX1_contentOf_7 : decode cX1_contentOf 7 = .ok (.iload_n 3, 1) := by decide +kernel
theorem dX1_contentOf_8 : decode cX1_contentOf 8 = .ok (.ifCond .lt 5, 3) := by decide +kernel
theorem dX1_contentOf_11 : decode cX1_contentOf 11 = .ok (.iload_n 3, 1) := by decide +kernel
theorem dX1_contentOf_12 : decode cX1_contentOf 12 = .ok (.ireturn, 1) := by decide +kernel
theorem dX1_contentOf_13 : decode cX1_contentOf 13 = .ok (.aload_n 0, 1) := by decide +kernel
theorem dX1_contentOf_14 : decode cX1_contentOf 14 = .ok (.iload_n 1, 1) := by decide +kernel
theorem dX1_contentOf_15 : decode cX1_contentOf 15 = .ok (.iload_n 2, 1) := by decide +kernel
theorem dX1_contentOf_16 : decode cX1_contentOf 16 = .ok (.invokevirtual 52, 3) := by decide +kernel
theorem dX1_contentOf_19 : decode cX1_contentOf 19 = .ok (.ifCond .eq 5, 3) := by decide +kernel
theorem dX1_contentOf_22 : decode cX1_contentOf 22 = .ok (.iconst (-1), 1) := by decide +kernel
theorem dX1_contentOf_23 : decode cX1_contentOf 23 = .ok (.ireturn, 1) := by decide +kernel
theorem dX1_contentOf_24 : decode cX1_contentOf 24 = .ok (.aload_n 0, 1) := by decide +kernel
theorem dX1_contentOf_25 : decode cX1_contentOf 25 = .ok (.iload_n 1, 1) := by decide +kernel
theorem dX1_contentOf_26 : decode cX1_contentOf 26 = .ok (.iload_n 2, 1) := by decide +kernel
theorem dX1_contentOf_27 : decode cX1_contentOf 27 = .ok (.invokevirtual 66, 3) := by decide +kernel
theorem dX1_contentOf_30 : decode cX1_contentOf 30 = .ok (.ifCond .eq 6, 3) := by decide +kernel
theorem dX1_contentOf_33 : decode cX1_contentOf 33 = .ok (.bipush (-2), 2) := by decide +kernel
theorem dX1_contentOf_35 : decode cX1_contentOf 35 = .ok (.ireturn, 1) := by decide +kernel
theorem dX1_contentOf_36 : decode cX1_contentOf 36 = .ok (.iload_n 1, 1) := by decide +kernel
theorem dX1_contentOf_37 : decode cX1_contentOf 37 = .ok (.aload_n 0, 1) := by decide +kernel
theorem dX1_contentOf_38 : decode cX1_contentOf 38 = .ok (.getfield 15, 3) := by decide +kernel
theorem dX1_contentOf_41 : decode cX1_contentOf 41 = .ok (.if_icmp .lt 8, 3) := by decide +kernel
theorem dX1_contentOf_44 : decode cX1_contentOf 44 = .ok (.bipush (-3), 2) := by decide +kernel
theorem dX1_contentOf_46 : decode cX1_contentOf 46 = .ok (.goto 5, 3) := by decide +kernel
theorem dX1_contentOf_49 : decode cX1_contentOf 49 = .ok (.bipush (-4), 2) := by decide +kernel
theorem dX1_contentOf_51 : decode cX1_contentOf 51 = .ok (.ireturn, 1) := by decide +kernel
theorem dX1_isOpen_0 : decode cX1_isOpen 0 = .ok (.aload_n 0, 1) := by decide +kernel
theorem dX1_isOpen_1 : decode cX1_isOpen 1 = .ok (.aload_n 0, 1) := by decide +kernel
theorem dX1_isOpen_2 : decode cX1_isOpen 2 = .ok (.getfield 21, 3) := by decide +kernel
theorem dX1_isOpen_5 : decode cX1_isOpen 5 = .ok (.iload_n 1, 1) := by decide +kernel
theorem dX1_isOpen_6 : decode cX1_isOpen 6 = .ok (.invokevirtual 60, 3) := by decide +kernel
theorem dX1_isOpen_9 : decode cX1_isOpen 9 = .ok (.istore_n 2, 1) := by decide +kernel
theorem dX1_isOpen_10 : decode cX1_isOpen 10 = .ok (.aload_n 0, 1) := by decide +kernel
theorem dX1_isOpen_11 : decode cX1_isOpen 11 = .ok (.getfield 34, 3) := by decide +kernel
theorem dX1_isOpen_14 : decode cX1_isOpen 14 = .ok (.iload_n 1, 1) := by decide +kernel
theorem dX1_isOpen_15 : decode cX1_isOpen 15 = .ok (.iaload, 1) := by decide +kernel
theorem dX1_isOpen_16 : decode cX1_isOpen 16 = .ok (.aload_n 0, 1) := by decide +kernel
theorem dX1_isOpen_17 : decode cX1_isOpen 17 = .ok (.getfield 40, 3) := by decide +kernel
theorem dX1_isOpen_20 : decode cX1_isOpen 20 = .ok (.iload_n 1, 1) := by decide +kernel
theorem dX1_isOpen_21 : decode cX1_isOpen 21 = .ok (.iaload, 1) := by decide +kernel
theorem dX1_isOpen_22 : decode cX1_isOpen 22 = .ok (.iadd, 1) := by decide +kernel
theorem dX1_isOpen_23 : decode cX1_isOpen 23 = .ok (.istore_n 3, 1) := by decide +kernel
theorem dX1_isOpen_24 : decode cX1_isOpen 24 = .ok (.iload_n 3, 1) := by decide +kernel
theorem dX1_isOpen_25 : decode cX1_isOpen 25 = .ok (.bipush 8, 2) := by decide +kernel
theorem dX1_isOpen_27 : decode cX1_isOpen 27 = .ok (.if_icmp .ge 34, 3) := by decide +kernel
theorem dX1_isOpen_30 : decode cX1_isOpen 30 = .ok (.aload_n 0, 1) := by decide +kernel
theorem dX1_isOpen_31 : decode cX1_isOpen 31 = .ok (.iload_n 2, 1) := by decide +kernel
theorem dX1_isOpen_32 : decode cX1_isOpen 32 = .ok (.iload_n 3, 1) := by decide +kernel
theorem dX1_isOpen_33 : decode cX1_isOpen 33 = .ok (.invokevirtual 66, 3) := by decide +kernel
theorem dX1_isOpen_36 : decode cX1_isOpen 36 = .ok (.ifCond .eq 25, 3) := by decide +kernel
theorem dX1_isOpen_39 : decode cX1_isOpen 39 = .ok (.aload_n 0, 1) := by decide +kernel
theorem dX1_isOpen_40 : decode cX1_isOpen 40 = .ok (.iload_n 2, 1) := by decide +kernel
theorem dX1_isOpen_41 : decode cX1_isOpen 41 = .ok (.iload_n 3, 1) := by decide +kernel
theorem dX1_isOpen_42 : decode cX1_isOpen 42 = .ok (.invokevirtual 52, 3) := by decide +kernel
theorem dX1_isOpen_45 : decode cX1_isOpen 45 = .ok (.ifCond .ne 16, 3) := by decide +kernel
theorem dX1_isOpen_48 : decode cX1_isOpen 48 = .ok (.aload_n 0, 1) := by decide +kernel
theorem dX1_isOpen_49 : decode cX1_isOpen 49 = .ok (.iload_n 2, 1) := by decide +kernel
theorem dX1_isOpen_50 : decode cX1_isOpen 50 = .ok (.iload_n 3, 1) := by decide +kernel
theorem dX1_isOpen_51 : decode cX1_isOpen 51 = .ok (.invokevirtual 56, 3) := by decide +kernel
theorem dX1_isOpen_54 : decode cX1_isOpen 54 = .ok (.ifCond .ge 7, 3) := by decide +kernel
theorem dX1_isOpen_57 : decode cX1_isOpen 57 = .ok (.iconst 1, 1) := by decide +kernel
theorem dX1_isOpen_58 : decode cX1_isOpen 58 = .ok (.goto 4, 3) := by decide +kernel
theorem dX1_isOpen_61 : decode cX1_isOpen 61 = .ok (.iconst 0, 1) := by decide +kernel
theorem dX1_isOpen_62 : decode cX1_isOpen 62 = .ok (.ireturn, 1) := by decide +kernel
theorem dX1_isBoxed_0 : decode cX1_isBoxed 0 = .ok (.aload_n 0, 1) := by decide +kernel
theorem dX1_isBoxed_1 : decode cX1_isBoxed 1 = .ok (.aload_n 0, 1) := by decide +kernel
theorem dX1_isBoxed_2 : decode cX1_isBoxed 2 = .ok (.getfield 21, 3) := by decide +kernel
theorem dX1_isBoxed_5 : decode cX1_isBoxed 5 = .ok (.iload_n 1, 1) := by decide +kernel
theorem dX1_isBoxed_6 : decode cX1_isBoxed 6 = .ok (.invokevirtual 60, 3) := by decide +kernel
theorem dX1_isBoxed_9 : decode cX1_isBoxed 9 = .ok (.iconst 1, 1) := by decide +kernel
theorem dX1_isBoxed_10 : decode cX1_isBoxed 10 = .ok (.isub, 1) := by decide +kernel
theorem dX1_isBoxed_11 : decode cX1_isBoxed 11 = .ok (.istore_n 2, 1) := by decide +kernel
theorem dX1_isBoxed_12 : decode cX1_isBoxed 12 = .ok (.aload_n 0, 1) := by decide +kernel
theorem dX1_isBoxed_13 : decode cX1_isBoxed 13 = .ok (.aload_n 0, 1) := by decide +kernel
theorem dX1_isBoxed_14 : decode cX1_isBoxed 14 = .ok (.getfield 21, 3) := by decide +kernel
theorem dX1_isBoxed_17 : decode cX1_isBoxed 17 = .ok (.iload_n 1, 1) := by decide +kernel
theorem dX1_isBoxed_18 : decode cX1_isBoxed 18 = .ok (.invokevirtual 63, 3) := by decide +kernel
theorem dX1_isBoxed_21 : decode cX1_isBoxed 21 = .ok (.istore_n 3, 1) := by decide +kernel
theorem dX1_isBoxed_22 : decode cX1_isBoxed 22 = .ok (.aload_n 0, 1) := by decide +kernel
theorem dX1_isBoxed_23 : decode cX1_isBoxed 23 = .ok (.getfield 34, 3) := by decide +kernel
theorem dX1_isBoxed_26 : decode cX1_isBoxed 26 = .ok (.iload_n 1, 1) := by decide +kernel
theorem dX1_isBoxed_27 : decode cX1_isBoxed 27 = .ok (.iaload, 1) := by decide +kernel
theorem dX1_isBoxed_28 : decode cX1_isBoxed 28 = .ok (.istore 4, 2) := by decide +kernel
theorem dX1_isBoxed_30 : decode cX1_isBoxed 30 = .ok (.iload 4, 2) := by decide +kernel
theorem dX1_isBoxed_32 : decode cX1_isBoxed 32 = .ok (.aload_n 0, 1) := by decide +kernel
theorem dX1_isBoxed_33 : decode cX1_isBoxed 33 = .ok (.getfield 34, 3) := by decide +kernel
theorem dX1_isBoxed_36 : decode cX1_isBoxed 36 = .ok (.iload_n 1, 1) := by decide +kernel
theorem dX1_isBoxed_37 : decode cX1_isBoxed 37 = .ok (.iaload, 1) := by decide +kernel
theorem dX1_isBoxed_38 : decode cX1_isBoxed 38 = .ok (.aload_n 0, 1) := by decide +kernel
theorem dX1_isBoxed_39 : decode cX1_isBoxed 39 = .ok (.getfield 40, 3) := by decide +kernel
theorem dX1_isBoxed_42 : decode cX1_isBoxed 42 = .ok (.iload_n 1, 1) := by decide +kernel
theorem dX1_isBoxed_43 : decode cX1_isBoxed 43 = .ok (.iaload, 1) := by decide +kernel
theorem dX1_isBoxed_44 : decode cX1_isBoxed 44 = .ok (.iadd, 1) := by decide +kernel
theorem dX1_isBoxed_45 : decode cX1_isBoxed 45 = .ok (.if_icmp .ge 31, 3) := by decide +kernel
theorem dX1_isBoxed_48 : decode cX1_isBoxed 48 = .ok (.aload_n 0, 1) := by decide +kernel
theorem dX1_isBoxed_49 : decode cX1_isBoxed 49 = .ok (.iload_n 2, 1) := by decide +kernel
theorem dX1_isBoxed_50 : decode cX1_isBoxed 50 = .ok (.iload 4, 2) := by decide +kernel
theorem dX1_isBoxed_52 : decode cX1_isBoxed 52 = .ok (.invokevirtual 56, 3) := by decide +kernel
theorem dX1_isBoxed_55 : decode cX1_isBoxed 55 = .ok (.ifCond .lt 13, 3) := by decide +kernel
theorem dX1_isBoxed_58 : decode cX1_isBoxed 58 = .ok (.aload_n 0, 1) := by decide +kernel
theorem dX1_isBoxed_59 : decode cX1_isBoxed 59 = .ok (.iload_n 3, 1) := by decide +kernel
theorem dX1_isBoxed_60 : decode cX1_isBoxed 60 = .ok (.iload 4, 2) := by decide +kernel
theorem dX1_isBoxed_62 : decode cX1_isBoxed 62 = .ok (.invokevirtual 56, 3) := by decide +kernel
theorem dX1_isBoxed_65 : decode cX1_isBoxed 65 = .ok (.ifCond .ge 5, 3) := by decide +kernel
theorem dX1_isBoxed_68 : decode cX1_isBoxed 68 = .ok (.iconst 0, 1) := by decide +kernel
theorem dX1_isBoxed_69 : decode cX1_isBoxed 69 = .ok (.ireturn, 1) := by decide +kernel
theorem dX1_isBoxed_70 : decode cX1_isBoxed 70 = .ok (.iinc 4 1, 3) := by decide +kernel
theorem dX1_isBoxed_73 : decode cX1_isBoxed 73 = .ok (.goto (-43), 3) := by decide +kernel
theorem dX1_isBoxed_76 : decode cX1_isBoxed 76 = .ok (.iconst 1, 1) := by decide +kernel
theorem dX1_isBoxed_77 : decode cX1_isBoxed 77 = .ok (.ireturn, 1) := by decide +kernel
theorem dX1_rentOf_0 : decode cX1_rentOf 0 = .ok (.aload_n 0, 1) := by decide +kernel
theorem dX1_rentOf_1 : decode cX1_rentOf 1 = .ok (.aload_n 0, 1) := by decide +kernel
theorem dX1_rentOf_2 : decode cX1_rentOf 2 = .ok (.getfield 21, 3) := by decide +kernel
theorem dX1_rentOf_5 : decode cX1_rentOf 5 = .ok (.iload_n 1, 1) := by decide +kernel
theorem dX1_rentOf_6 : decode cX1_rentOf 6 = .ok (.invokevirtual 69, 3) := by decide +kernel
theorem dX1_rentOf_9 : decode cX1_rentOf 9 = .ok (.ifCond .eq 7, 3) := by decide +kernel
theorem dX1_rentOf_12 : decode cX1_rentOf 12 = .ok (.iconst 0, 1) := by decide +kernel
theorem dX1_rentOf_13 : decode cX1_rentOf 13 = .ok (.goto 26, 3) := by decide +kernel
theorem dX1_rentOf_16 : decode cX1_rentOf 16 = .ok (.aload_n 0, 1) := by decide +kernel
theorem dX1_rentOf_17 : decode cX1_rentOf 17 = .ok (.aload_n 0, 1) := by decide +kernel
theorem dX1_rentOf_18 : decode cX1_rentOf 18 = .ok (.getfield 21, 3) := by decide +kernel
theorem dX1_rentOf_21 : decode cX1_rentOf 21 = .ok (.iload_n 1, 1) := by decide +kernel
theorem dX1_rentOf_22 : decode cX1_rentOf 22 = .ok (.invokevirtual 60, 3) := by decide +kernel
theorem dX1_rentOf_25 : decode cX1_rentOf 25 = .ok (.aload_n 0, 1) := by decide +kernel
theorem dX1_rentOf_26 : decode cX1_rentOf 26 = .ok (.getfield 37, 3) := by decide +kernel
theorem dX1_rentOf_29 : decode cX1_rentOf 29 = .ok (.iload_n 1, 1) := by decide +kernel
theorem dX1_rentOf_30 : decode cX1_rentOf 30 = .ok (.iaload, 1) := by decide +kernel
theorem dX1_rentOf_31 : decode cX1_rentOf 31 = .ok (.imul, 1) := by decide +kernel
theorem dX1_rentOf_32 : decode cX1_rentOf 32 = .ok (.aload_n 0, 1) := by decide +kernel
theorem dX1_rentOf_33 : decode cX1_rentOf 33 = .ok (.getfield 40, 3) := by decide +kernel
theorem dX1_rentOf_36 : decode cX1_rentOf 36 = .ok (.iload_n 1, 1) := by decide +kernel
theorem dX1_rentOf_37 : decode cX1_rentOf 37 = .ok (.iaload, 1) := by decide +kernel
theorem dX1_rentOf_38 : decode cX1_rentOf 38 = .ok (.imul, 1) := by decide +kernel
theorem dX1_rentOf_39 : decode cX1_rentOf 39 = .ok (.ireturn, 1) := by decide +kernel
theorem dX1_allRents_0 : decode cX1_allRents 0 = .ok (.iconst 0, 1) := by decide +kernel
theorem dX1_allRents_1 : decode cX1_allRents 1 = .ok (.istore_n 1, 1) := by decide +kernel
theorem dX1_allRents_2 : decode cX1_allRents 2 = .ok (.iconst 0, 1) := by decide +kernel
theorem dX1_allRents_3 : decode cX1_allRents 3 = .ok (.istore_n 2, 1) := by decide +kernel
theorem dX1_allRents_4 : decode cX1_allRents 4 = .ok (.iload_n 2, 1) := by decide +kernel
theorem dX1_allRents_5 : decode cX1_allRents 5 = .ok (.aload_n 0, 1) := by decide +kernel
theorem dX1_allRents_6 : decode cX1_allRents 6 = .ok (.getfield 18, 3) := by decide +kernel
theorem dX1_allRents_9 : decode cX1_allRents 9 = .ok (.if_icmp .ge 17, 3) := by decide +kernel
theorem dX1_allRents_12 : decode cX1_allRents 12 = .ok (.iload_n 1, 1) := by decide +kernel
theorem dX1_allRents_13 : decode cX1_allRents 13 = .ok (.aload_n 0, 1) := by decide +kernel
theorem dX1_allRents_14 : decode cX1_allRents 14 = .ok (.iload_n 2, 1) := by decide +kernel
theorem dX1_allRents_15 : decode cX1_allRents 15 = .ok (.invokevirtual 72, 3) := by decide +kernel
theorem dX1_allRents_18 : decode cX1_allRents 18 = .ok (.iadd, 1) := by decide +kernel
theorem dX1_allRents_19 : decode cX1_allRents 19 = .ok (.istore_n 1, 1) := by decide +kernel
theorem dX1_allRents_20 : decode cX1_allRents 20 = .ok (.iinc 2 1, 3) := by decide +kernel
theorem dX1_allRents_23 : decode cX1_allRents 23 = .ok (.goto (-19), 3) := by decide +kernel
theorem dX1_allRents_26 : decode cX1_allRents 26 = .ok (.iload_n 1, 1) := by decide +kernel
theorem dX1_allRents_27 : decode cX1_allRents 27 = .ok (.ireturn, 1) := by decide +kernel
theorem dX1_allLies_0 : decode cX1_allLies 0 = .ok (.iconst 0, 1) := by decide +kernel
theorem dX1_allLies_1 : decode cX1_allLies 1 = .ok (.istore_n 1, 1) := by decide +kernel
theorem dX1_allLies_2 : decode cX1_allLies 2 = .ok (.iconst 0, 1) := by decide +kernel
theorem dX1_allLies_3 : decode cX1_allLies 3 = .ok (.istore_n 2, 1) := by decide +kernel
theorem dX1_allLies_4 : decode cX1_allLies 4 = .ok (.iload_n 2, 1) := by decide +kernel
theorem dX1_allLies_5 : decode cX1_allLies 5 = .ok (.aload_n 0, 1) := by decide +kernel
theorem dX1_allLies_6 : decode cX1_allLies 6 = .ok (.getfield 18, 3) := by decide +kernel
theorem dX1_allLies_9 : decode cX1_allLies 9 = .ok (.if_icmp .ge 18, 3) := by decide +kernel
theorem dX1_allLies_12 : decode cX1_allLies 12 = .ok (.iload_n 1, 1) := by decide +kernel
theorem dX1_allLies_13 : decode cX1_allLies 13 = .ok (.aload_n 0, 1) := by decide +kernel
theorem dX1_allLies_14 : decode cX1_allLies 14 = .ok (.getfield 43, 3) := by decide +kernel
theorem dX1_allLies_17 : decode cX1_allLies 17 = .ok (.iload_n 2, 1) := by decide +kernel
theorem dX1_allLies_18 : decode cX1_allLies 18 = .ok (.iaload, 1) := by decide +kernel
theorem dX1_allLies_19 : decode cX1_allLies 19 = .ok (.iadd, 1) := by decide +kernel
theorem dX1_allLies_20 : decode cX1_allLies 20 = .ok (.istore_n 1, 1) := by decide +kernel
theorem dX1_allLies_21 : decode cX1_allLies 21 = .ok (.iinc 2 1, 3) := by decide +kernel
theorem dX1_allLies_24 : decode cX1_allLies 24 = .ok (.goto (-20), 3) := by decide +kernel
theorem dX1_allLies_27 : decode cX1_allLies 27 = .ok (.iload_n 1, 1) := by decide +kernel
theorem dX1_allLies_28 : decode cX1_allLies 28 = .ok (.ireturn, 1) := by decide +kernel
theorem dX1_wallCells_0 : decode cX1_wallCells 0 = .ok (.iconst 0, 1) := by decide +kernel
theorem dX1_wallCells_1 : decode cX1_wallCells 1 = .ok (.istore_n 1, 1) := by decide +kernel
theorem dX1_wallCells_2 : decode cX1_wallCells 2 = .ok (.iconst 0, 1) := by decide +kernel
theorem dX1_wallCells_3 : decode cX1_wallCells 3 = .ok (.istore_n 2, 1) := by decide +kernel
theorem dX1_wallCells_4 : decode cX1_wallCells 4 = .ok (.iload_n 2, 1) := by decide +kernel
theorem dX1_wallCells_5 : decode cX1_wallCells 5 = .ok (.bipush 8, 2) := by decide +kernel
theorem dX1_wallCells_7 : decode cX1_wallCells 7 = .ok (.if_icmp .ge 21, 3) := by decide +kernel
theorem dX1_wallCells_10 : decode cX1_wallCells 10 = .ok (.iload_n 1, 1) := by decide +kernel
theorem dX1_wallCells_11 : decode cX1_wallCells 11 = .ok (.aload_n 0, 1) := by decide +kernel
theorem dX1_wallCells_12 : decode cX1_wallCells 12 = .ok (.getfield 24, 3) := by decide +kernel
theorem dX1_wallCells_15 : decode cX1_wallCells 15 = .ok (.iload_n 2, 1) := by decide +kernel
theorem dX1_wallCells_16 : decode cX1_wallCells 16 = .ok (.iaload, 1) := by decide +kernel
theorem dX1_wallCells_17 : decode cX1_wallCells 17 = .ok (.invokestatic 76, 3) := by decide +kernel
theorem dX1_wallCells_20 : decode cX1_wallCells 20 = .ok (.iadd, 1) := by decide +kernel
theorem dX1_wallCells_21 : decode cX1_wallCells 21 = .ok (.istore_n 1, 1) := by decide +kernel
theorem dX1_wallCells_22 : decode cX1_wallCells 22 = .ok (.iinc 2 1, 3) := by decide +kernel
theorem dX1_wallCells_25 : decode cX1_wallCells 25 = .ok (.goto (-21), 3) := by decide +kernel
theorem dX1_wallCells_28 : decode cX1_wallCells 28 = .ok (.iload_n 1, 1) := by decide +kernel
theorem dX1_wallCells_29 : decode cX1_wallCells 29 = .ok (.ireturn, 1) := by decide +kernel
theorem dX1_slidBy_0 : decode cX1_slidBy 0 = .ok (.iconst 1, 1) := by decide +kernel
theorem dX1_slidBy_1 : decode cX1_slidBy 1 = .ok (.iload_n 2, 1) := by decide +kernel
theorem dX1_slidBy_2 : decode cX1_slidBy 2 = .ok (.ishl, 1) := by decide +kernel
theorem dX1_slidBy_3 : decode cX1_slidBy 3 = .ok (.istore_n 3, 1) := by decide +kernel
theorem dX1_slidBy_4 : decode cX1_slidBy 4 = .ok (.iconst 0, 1) := by decide +kernel
theorem dX1_slidBy_5 : decode cX1_slidBy 5 = .ok (.istore 4, 2) := by decide +kernel
theorem dX1_slidBy_7 : decode cX1_slidBy 7 = .ok (.iconst 0, 1) := by decide +kernel
theorem dX1_slidBy_8 : decode cX1_slidBy 8 = .ok (.istore 5, 2) := by decide +kernel
theorem dX1_slidBy_10 : decode cX1_slidBy 10 = .ok (.iload 5, 2) := by decide +kernel
theorem dX1_slidBy_12 : decode cX1_slidBy 12 = .ok (.bipush 6, 2) := by decide +kernel
theorem dX1_slidBy_14 : decode cX1_slidBy 14 = .ok (.if_icmp .ge 78, 3) := by decide +kernel
theorem dX1_slidBy_17 : decode cX1_slidBy 17 = .ok (.iload 4, 2) := by decide +kernel
theorem dX1_slidBy_19 : decode cX1_slidBy 19 = .ok (.iload_n 3, 1) := by decide +kernel
theorem dX1_slidBy_20 : decode cX1_slidBy 20 = .ok (.if_icmp .eq 72, 3) := by decide +kernel
theorem dX1_slidBy_23 : decode cX1_slidBy 23 = .ok (.iconst 0, 1) := by decide +kernel
theorem dX1_slidBy_24 : decode cX1_slidBy 24 = .ok (.istore 6, 2) := by decide +kernel
theorem dX1_slidBy_26 : decode cX1_slidBy 26 = .ok (.iload 6, 2) := by decide +kernel
theorem dX1_slidBy_28 : decode cX1_slidBy 28 = .ok (.aload_n 0, 1) := by decide +kernel
theorem dX1_slidBy_29 : decode cX1_slidBy 29 = .ok (.getfield 18, 3) := by decide +kernel
theorem dX1_slidBy_32 : decode cX1_slidBy 32 = .ok (.if_icmp .ge 54, 3) := by decide +kernel
theorem dX1_slidBy_35 : decode cX1_slidBy 35 = .ok (.iload_n 3, 1) := by decide +kernel
theorem dX1_slidBy_36 : decode cX1_slidBy 36 = .ok (.iload 4, 2) := by decide +kernel
theorem dX1_slidBy_38 : decode cX1_slidBy 38 = .ok (.iconst (-1), 1) := by decide +kernel
theorem dX1_slidBy_39 : decode cX1_slidBy 39 = .ok (.ixor, 1) := by decide +kernel
theorem dX1_slidBy_40 : decode cX1_slidBy 40 = .ok (.iand, 1) := by decide +kernel
theorem dX1_slidBy_41 : decode cX1_slidBy 41 = .ok (.iconst 1, 1) := by decide +kernel
theorem dX1_slidBy_42 : decode cX1_slidBy 42 = .ok (.iload 6, 2) := by decide +kernel
theorem dX1_slidBy_44 : decode cX1_slidBy 44 = .ok (.ishl, 1) := by decide +kernel
theorem dX1_slidBy_45 : decode cX1_slidBy 45 = .ok (.iand, 1) := by decide +kernel
theorem dX1_slidBy_46 : decode cX1_slidBy 46 = .ok (.ifCond .eq 34, 3) := by decide +kernel
theorem dX1_slidBy_49 : decode cX1_slidBy 49 = .ok (.aload_n 0, 1) := by decide +kernel
theorem dX1_slidBy_50 : decode cX1_slidBy 50 = .ok (.iload_n 1, 1) := by decide +kernel
theorem dX1_slidBy_51 : decode cX1_slidBy 51 = .ok (.iload 6, 2) := by decide +kernel
theorem dX1_slidBy_53 : decode cX1_slidBy 53 = .ok (.invokevirtual 81, 3) := by decide +kernel
theorem dX1_slidBy_56 : decode cX1_slidBy 56 = .ok (.ifCond .eq 5, 3) := by decide +kernel
theorem dX1_slidBy_59 : decode cX1_slidBy 59 = .ok (.iconst 0, 1) := by decide +kernel
theorem dX1_slidBy_60 : decode cX1_slidBy 60 = .ok (.ireturn, 1) := by decide +kernel
theorem dX1_slidBy_61 : decode cX1_slidBy 61 = .ok (.iload 4, 2) := by decide +kernel
theorem dX1_slidBy_63 : decode cX1_slidBy 63 = .ok (.iconst 1, 1) := by decide +kernel
theorem dX1_slidBy_64 : decode cX1_slidBy 64 = .ok (.iload 6, 2) := by decide +kernel
theorem dX1_slidBy_66 : decode cX1_slidBy 66 = .ok (.ishl, 1) := by decide +kernel
theorem dX1_slidBy_67 : decode cX1_slidBy 67 = .ok (.ior, 1) := by decide +kernel
theorem dX1_slidBy_68 : decode cX1_slidBy 68 = .ok (.istore 4, 2) := by decide +kernel
theorem dX1_slidBy_70 : decode cX1_slidBy 70 = .ok (.iload_n 3, 1) := by decide +kernel
theorem dX1_slidBy_71 : decode cX1_slidBy 71 = .ok (.aload_n 0, 1) := by decide +kernel
theorem dX1_slidBy_72 : decode cX1_slidBy 72 = .ok (.iload_n 1, 1) := by decide +kernel
theorem dX1_slidBy_73 : decode cX1_slidBy 73 = .ok (.iload 6, 2) := by decide +kernel
theorem dX1_slidBy_75 : decode cX1_slidBy 75 = .ok (.invokevirtual 84, 3) := by decide +kernel
theorem dX1_slidBy_78 : decode cX1_slidBy 78 = .ok (.ior, 1) := by decide +kernel
theorem dX1_slidBy_79 : decode cX1_slidBy 79 = .ok (.istore_n 3, 1) := by decide +kernel
theorem dX1_slidBy_80 : decode cX1_slidBy 80 = .ok (.iinc 6 1, 3) := by decide +kernel
theorem dX1_slidBy_83 : decode cX1_slidBy 83 = .ok (.goto (-57), 3) := by decide +kernel
theorem dX1_slidBy_86 : decode cX1_slidBy 86 = .ok (.iinc 5 1, 3) := by decide +kernel
theorem dX1_slidBy_89 : decode cX1_slidBy 89 = .ok (.goto (-79), 3) := by decide +kernel
theorem dX1_slidBy_92 : decode cX1_slidBy 92 = .ok (.iload_n 3, 1) := by decide +kernel
theorem dX1_slidBy_93 : decode cX1_slidBy 93 = .ok (.ireturn, 1) := by decide +kernel
theorem dX1_isStopped_0 : decode cX1_isStopped 0 = .ok (.aload_n 0, 1) := by decide +kernel
theorem dX1_isStopped_1 : decode cX1_isStopped 1 = .ok (.iload_n 1, 1) := by decide +kernel
theorem dX1_isStopped_2 : decode cX1_isStopped 2 = .ok (.iload_n 2, 1) := by decide +kernel
theorem dX1_isStopped_3 : decode cX1_isStopped 3 = .ok (.invokevirtual 63, 3) := by decide +kernel
theorem dX1_isStopped_6 : decode cX1_isStopped 6 = .ok (.istore_n 3, 1) := by decide +kernel
theorem dX1_isStopped_7 : decode cX1_isStopped 7 = .ok (.iload_n 3, 1) := by decide +kernel
theorem dX1_isStopped_8 : decode cX1_isStopped 8 = .ok (.bipush 16, 2) := by decide +kernel
theorem dX1_isStopped_10 : decode cX1_isStopped 10 = .ok (.if_icmp .lt 5, 3) := by decide +kernel
theorem dX1_isStopped_13 : decode cX1_isStopped 13 = .ok (.iconst 1, 1) := by decide +kernel
theorem dX1_isStopped_14 : decode cX1_isStopped 14 = .ok (.ireturn, 1) := by decide +kernel
theorem dX1_isStopped_15 : decode cX1_isStopped 15 = .ok (.aload_n 0, 1) := by decide +kernel
theorem dX1_isStopped_16 : decode cX1_isStopped 16 = .ok (.getfield 34, 3) := by decide +kernel
theorem dX1_isStopped_19 : decode cX1_isStopped 19 = .ok (.iload_n 2, 1) := by decide +kernel
theorem dX1_isStopped_20 : decode cX1_isStopped 20 = .ok (.iaload, 1) := by decide +kernel
theorem dX1_isStopped_21 : decode cX1_isStopped 21 = .ok (.istore 4, 2) := by decide +kernel
theorem dX1_isStopped_23 : decode cX1_isStopped 23 = .ok (.iload 4, 2) := by decide +kernel
theorem dX1_isStopped_25 : decode cX1_isStopped 25 = .ok (.aload_n 0, 1) := by decide +kernel
theorem dX1_isStopped_26 : decode cX1_isStopped 26 = .ok (.getfield 34, 3) := by decide +kernel
theorem dX1_isStopped_29 : decode cX1_isStopped 29 = .ok (.iload_n 2, 1) := by decide +kernel
theorem dX1_isStopped_30 : decode cX1_isStopped 30 = .ok (.iaload, 1) := by decide +kernel
theorem dX1_isStopped_31 : decode cX1_isStopped 31 = .ok (.aload_n 0, 1) := by decide +kernel
theorem dX1_isStopped_32 : decode cX1_isStopped 32 = .ok (.getfield 40, 3) := by decide +kernel
theorem dX1_isStopped_35 : decode cX1_isStopped 35 = .ok (.iload_n 2, 1) := by decide +kernel
theorem dX1_isStopped_36 : decode cX1_isStopped 36 = .ok (.iaload, 1) := by decide +kernel
theorem dX1_isStopped_37 : decode cX1_isStopped 37 = .ok (.iadd, 1) := by decide +kernel
theorem dX1_isStopped_38 : decode cX1_isStopped 38 = .ok (.if_icmp .ge 21, 3) := by decide +kernel
theorem dX1_isStopped_41 : decode cX1_isStopped 41 = .ok (.aload_n 0, 1) := by decide +kernel
theorem dX1_isStopped_42 : decode cX1_isStopped 42 = .ok (.iload_n 3, 1) := by decide +kernel
theorem dX1_isStopped_43 : decode cX1_isStopped 43 = .ok (.iload 4, 2) := by decide +kernel
theorem dX1_isStopped_45 : decode cX1_isStopped 45 = .ok (.invokevirtual 52, 3) := by decide +kernel
theorem dX1_isStopped_48 : decode cX1_isStopped 48 = .ok (.ifCond .eq 5, 3) := by decide +kernel
theorem dX1_isStopped_51 : decode cX1_isStopped 51 = .ok (.iconst 1, 1) := by decide +kernel
theorem dX1_isStopped_52 : decode cX1_isStopped 52 = .ok (.ireturn, 1) := by decide +kernel
theorem dX1_isStopped_53 : decode cX1_isStopped 53 = .ok (.iinc 4 1, 3) := by decide +kernel
theorem dX1_isStopped_56 : decode cX1_isStopped 56 = .ok (.goto (-33), 3) := by decide +kernel
theorem dX1_isStopped_59 : decode cX1_isStopped 59 = .ok (.iconst 0, 1) := by decide +kernel
theorem dX1_isStopped_60 : decode cX1_isStopped 60 = .ok (.ireturn, 1) := by decide +kernel
theorem dX1_pushedBy_0 : decode cX1_pushedBy 0 = .ok (.aload_n 0, 1) := by decide +kernel
theorem dX1_pushedBy_1 : decode cX1_pushedBy 1 = .ok (.iload_n 1, 1) := by decide +kernel
theorem dX1_pushedBy_2 : decode cX1_pushedBy 2 = .ok (.iload_n 2, 1) := by decide +kernel
theorem dX1_pushedBy_3 : decode cX1_pushedBy 3 = .ok (.invokevirtual 63, 3) := by decide +kernel
theorem dX1_pushedBy_6 : decode cX1_pushedBy 6 = .ok (.istore_n 3, 1) := by decide +kernel
theorem dX1_pushedBy_7 : decode cX1_pushedBy 7 = .ok (.iconst 0, 1) := by decide +kernel
theorem dX1_pushedBy_8 : decode cX1_pushedBy 8 = .ok (.istore 4, 2) := by decide +kernel
theorem dX1_pushedBy_10 : decode cX1_pushedBy 10 = .ok (.iconst 0, 1) := by decide +kernel
theorem dX1_pushedBy_11 : decode cX1_pushedBy 11 = .ok (.istore 5, 2) := by decide +kernel
theorem dX1_pushedBy_13 : decode cX1_pushedBy 13 = .ok (.iload 5, 2) := by decide +kernel
theorem dX1_pushedBy_15 : decode cX1_pushedBy 15 = .ok (.aload_n 0, 1) := by decide +kernel
theorem dX1_pushedBy_16 : decode cX1_pushedBy 16 = .ok (.getfield 18, 3) := by decide +kernel
theorem dX1_pushedBy_19 : decode cX1_pushedBy 19 = .ok (.if_icmp .ge 39, 3) := by decide +kernel
theorem dX1_pushedBy_22 : decode cX1_pushedBy 22 = .ok (.aload_n 0, 1) := by decide +kernel
theorem dX1_pushedBy_23 : decode cX1_pushedBy 23 = .ok (.iload_n 1, 1) := by decide +kernel
theorem dX1_pushedBy_24 : decode cX1_pushedBy 24 = .ok (.iload 5, 2) := by decide +kernel
theorem dX1_pushedBy_26 : decode cX1_pushedBy 26 = .ok (.iload_n 3, 1) := by decide +kernel
theorem dX1_pushedBy_27 : decode cX1_pushedBy 27 = .ok (.invokevirtual 87, 3) := by decide +kernel
theorem dX1_pushedBy_30 : decode cX1_pushedBy 30 = .ok (.ifCond .eq 22, 3) := by decide +kernel
theorem dX1_pushedBy_33 : decode cX1_pushedBy 33 = .ok (.aload_n 0, 1) := by decide +kernel
theorem dX1_pushedBy_34 : decode cX1_pushedBy 34 = .ok (.iload_n 2, 1) := by decide +kernel
theorem dX1_pushedBy_35 : decode cX1_pushedBy 35 = .ok (.iload 5, 2) := by decide +kernel
theorem dX1_pushedBy_37 : decode cX1_pushedBy 37 = .ok (.invokevirtual 91, 3) := by decide +kernel
theorem dX1_pushedBy_40 : decode cX1_pushedBy 40 = .ok (.ifCond .eq 12, 3) := by decide +kernel
theorem dX1_pushedBy_43 : decode cX1_pushedBy 43 = .ok (.iload 4, 2) := by decide +kernel
theorem dX1_pushedBy_45 : decode cX1_pushedBy 45 = .ok (.iconst 1, 1) := by decide +kernel
theorem dX1_pushedBy_46 : decode cX1_pushedBy 46 = .ok (.iload 5, 2) := by decide +kernel
theorem dX1_pushedBy_48 : decode cX1_pushedBy 48 = .ok (.ishl, 1) := by decide +kernel
theorem dX1_pushedBy_49 : decode cX1_pushedBy 49 = .ok (.ior, 1) := by decide +kernel
theorem dX1_pushedBy_50 : decode cX1_pushedBy 50 = .ok (.istore 4, 2) := by decide +kernel
theorem dX1_pushedBy_52 : decode cX1_pushedBy 52 = .ok (.iinc 5 1, 3) := by decide +kernel
theorem dX1_pushedBy_55 : decode cX1_pushedBy 55 = .ok (.goto (-42), 3) := by decide +kernel
theorem dX1_pushedBy_58 : decode cX1_pushedBy 58 = .ok (.iload 4, 2) := by decide +kernel
theorem dX1_pushedBy_60 : decode cX1_pushedBy 60 = .ok (.ireturn, 1) := by decide +kernel
theorem dX1_shareRow_0 : decode cX1_shareRow 0 = .ok (.aload_n 0, 1) := by decide +kernel
theorem dX1_shareRow_1 : decode cX1_shareRow 1 = .ok (.getfield 34, 3) := by decide +kernel
theorem dX1_shareRow_4 : decode cX1_shareRow 4 = .ok (.iload_n 1, 1) := by decide +kernel
theorem dX1_shareRow_5 : decode cX1_shareRow 5 = .ok (.iaload, 1) := by decide +kernel
theorem dX1_shareRow_6 : decode cX1_shareRow 6 = .ok (.aload_n 0, 1) := by decide +kernel
theorem dX1_shareRow_7 : decode cX1_shareRow 7 = .ok (.getfield 34, 3) := by decide +kernel
theorem dX1_shareRow_10 : decode cX1_shareRow 10 = .ok (.iload_n 2, 1) := by decide +kernel
theorem dX1_shareRow_11 : decode cX1_shareRow 11 = .ok (.iaload, 1) := by decide +kernel
theorem dX1_shareRow_12 : decode cX1_shareRow 12 = .ok (.aload_n 0, 1) := by decide +kernel
theorem dX1_shareRow_13 : decode cX1_shareRow 13 = .ok (.getfield 40, 3) := by decide +kernel
theorem dX1_shareRow_16 : decode cX1_shareRow 16 = .ok (.iload_n 2, 1) := by decide +kernel
theorem dX1_shareRow_17 : decode cX1_shareRow 17 = .ok (.iaload, 1) := by decide +kernel
theorem dX1_shareRow_18 : decode cX1_shareRow 18 = .ok (.iadd, 1) := by decide +kernel
theorem dX1_shareRow_19 : decode cX1_shareRow 19 = .ok (.if_icmp .ge 29, 3) := by decide +kernel
theorem dX1_shareRow_22 : decode cX1_shareRow 22 = .ok (.aload_n 0, 1) := by decide +kernel
theorem dX1_shareRow_23 : decode cX1_shareRow 23 = .ok (.getfield 34, 3) := by decide +kernel
theorem dX1_shareRow_26 : decode cX1_shareRow 26 = .ok (.iload_n 2, 1) := by decide +kernel
theorem dX1_shareRow_27 : decode cX1_shareRow 27 = .ok (.iaload, 1) := by decide +kernel
theorem dX1_shareRow_28 : decode cX1_shareRow 28 = .ok (.aload_n 0, 1) := by decide +kernel
theorem dX1_shareRow_29 : decode cX1_shareRow 29 = .ok (.getfield 34, 3) := by decide +kernel
theorem dX1_shareRow_32 : decode cX1_shareRow 32 = .ok (.iload_n 1, 1) := by decide +kernel
theorem dX1_shareRow_33 : decode cX1_shareRow 33 = .ok (.iaload, 1) := by decide +kernel
theorem dX1_shareRow_34 : decode cX1_shareRow 34 = .ok (.aload_n 0, 1) := by decide +kernel
theorem dX1_shareRow_35 : decode cX1_shareRow 35 = .ok (.getfield 40, 3) := by decide +kernel
theorem dX1_shareRow_38 : decode cX1_shareRow 38 = .ok (.iload_n 1, 1) := by decide +kernel
theorem dX1_shareRow_39 : decode cX1_shareRow 39 = .ok (.iaload, 1) := by decide +kernel
theorem dX1_shareRow_40 : decode cX1_shareRow 40 = .ok (.iadd, 1) := by decide +kernel
theorem dX1_shareRow_41 : decode cX1_shareRow 41 = .ok (.if_icmp .ge 7, 3) := by decide +kernel
theorem dX1_shareRow_44 : decode cX1_shareRow 44 = .ok (.iconst 1, 1) := by decide +kernel
theorem dX1_shareRow_45 : decode cX1_shareRow 45 = .ok (.goto 4, 3) := by decide +kernel
theorem dX1_shareRow_48 : decode cX1_shareRow 48 = .ok (.iconst 0, 1) := by decide +kernel
theorem dX1_shareRow_49 : decode cX1_shareRow 49 = .ok (.ireturn, 1) := by decide +kernel
theorem dX1_afterSlide_0 : decode cX1_afterSlide 0 = .ok (.iload_n 1, 1) := by decide +kernel
theorem dX1_afterSlide_1 : decode cX1_afterSlide 1 = .ok (.istore_n 3, 1) := by decide +kernel
theorem dX1_afterSlide_2 : decode cX1_afterSlide 2 = .ok (.iconst 0, 1) := by decide +kernel
theorem dX1_afterSlide_3 : decode cX1_afterSlide 3 = .ok (.istore 4, 2) := by decide +kernel
theorem dX1_afterSlide_5 : decode cX1_afterSlide 5 = .ok (.iload 4, 2) := by decide +kernel
theorem dX1_afterSlide_7 : decode cX1_afterSlide 7 = .ok (.aload_n 0, 1) := by decide +kernel
theorem dX1_afterSlide_8 : decode cX1_afterSlide 8 = .ok (.getfield 18, 3) := by decide +kernel
theorem dX1_afterSlide_11 : decode cX1_afterSlide 11 = .ok (.if_icmp .ge 23, 3) := by decide +kernel
theorem dX1_afterSlide_14 : decode cX1_afterSlide 14 = .ok (.iload_n 3, 1) := by decide +kernel
theorem dX1_afterSlide_15 : decode cX1_afterSlide 15 = .ok (.iload_n 2, 1) := by decide +kernel
theorem dX1_afterSlide_16 : decode cX1_afterSlide 16 = .ok (.iload 4, 2) := by decide +kernel
theorem dX1_afterSlide_18 : decode cX1_afterSlide 18 = .ok (.ishr, 1) := by decide +kernel
theorem dX1_afterSlide_19 : decode cX1_afterSlide 19 = .ok (.iconst 1, 1) := by decide +kernel
theorem dX1_afterSlide_20 : decode cX1_afterSlide 20 = .ok (.iand, 1) := by decide +kernel
theorem dX1_afterSlide_21 : decode cX1_afterSlide 21 = .ok (.iconst 4, 1) := by decide +kernel
theorem dX1_afterSlide_22 : decode cX1_afterSlide 22 = .ok (.iload 4, 2) := by decide +kernel
theorem dX1_afterSlide_24 : decode cX1_afterSlide 24 = .ok (.imul, 1) := by decide +kernel
theorem dX1_afterSlide_25 : decode cX1_afterSlide 25 = .ok (.ishl, 1) := by decide +kernel
theorem dX1_afterSlide_26 : decode cX1_afterSlide 26 = .ok (.iadd, 1) := by decide +kernel
theorem dX1_afterSlide_27 : decode cX1_afterSlide 27 = .ok (.istore_n 3, 1) := by decide +kernel
theorem dX1_afterSlide_28 : decode cX1_afterSlide 28 = .ok (.iinc 4 1, 3) := by decide +kernel
theorem dX1_afterSlide_31 : decode cX1_afterSlide 31 = .ok (.goto (-26), 3) := by decide +kernel
theorem dX1_afterSlide_34 : decode cX1_afterSlide 34 = .ok (.iload_n 3, 1) := by decide +kernel
theorem dX1_afterSlide_35 : decode cX1_afterSlide 35 = .ok (.ireturn, 1) := by decide +kernel
theorem dX2_init_0 : decode cX2_init 0 = .ok (.aload_n 0, 1) := by decide +kernel
theorem dX2_init_1 : decode cX2_init 1 = .ok (.invokespecial 3, 3) := by decide +kernel
theorem dX2_init_4 : decode cX2_init 4 = .ok (.aload_n 0, 1) := by decide +kernel
theorem dX2_init_5 : decode cX2_init 5 = .ok (.sipush 256, 3) := by decide +kernel
theorem dX2_init_8 : decode cX2_init 8 = .ok (.newarray .int, 2) := by decide +kernel
theorem dX2_init_10 : decode cX2_init 10 = .ok (.putfield 11, 3) := by decide +kernel
theorem dX2_init_13 : decode cX2_init 13 = .ok (.aload_n 0, 1) := by decide +kernel
theorem dX2_init_14 : decode cX2_init 14 = .ok (.sipush 256, 3) := by decide +kernel
theorem dX2_init_17 : decode cX2_init 17 = .ok (.newarray .int, 2) := by decide +kernel
theorem dX2_init_19 : decode cX2_init 19 = .ok (.putfield 15, 3) := by decide +kernel
theorem dX2_init_22 : decode cX2_init 22 = .ok (.aload_n 0, 1) := by decide +kernel
theorem dX2_init_23 : decode cX2_init 23 = .ok (.iconst 0, 1) := by decide +kernel
theorem dX2_init_24 : decode cX2_init 24 = .ok (.putfield 18, 3) := by decide +kernel
theorem dX2_init_27 : decode cX2_init 27 = .ok (.aload_n 0, 1) := by decide +kernel
theorem dX2_init_28 : decode cX2_init 28 = .ok (.iconst 4, 1) := by decide +kernel
theorem dX2_init_29 : decode cX2_init 29 = .ok (.newarray .int, 2) := by decide +kernel
theorem dX2_init_31 : decode cX2_init 31 = .ok (.putfield 22, 3) := by decide +kernel
theorem dX2_init_34 : decode cX2_init 34 = .ok (.return_, 1) := by decide +kernel
theorem dX2_beginAt_0 : decode cX2_beginAt 0 = .ok (.aload_n 0, 1) := by decide +kernel
theorem dX2_beginAt_1 : decode cX2_beginAt 1 = .ok (.getfield 11, 3) := by decide +kernel
theorem dX2_beginAt_4 : decode cX2_beginAt 4 = .ok (.iconst 0, 1) := by decide +kernel
theorem dX2_beginAt_5 : decode cX2_beginAt 5 = .ok (.iload_n 1, 1) := by decide +kernel
theorem dX2_beginAt_6 : decode cX2_beginAt 6 = .ok (.iastore, 1) := by decide +kernel
theorem dX2_beginAt_7 : decode cX2_beginAt 7 = .ok (.return_, 1) := by decide +kernel
theorem dX2_addSaying_0 : decode cX2_addSaying 0 = .ok (.iconst 1, 1) := by decide +kernel
theorem dX2_addSaying_1 : decode cX2_addSaying 1 = .ok (.iload_n 3, 1) := by decide +kernel
theorem dX2_addSaying_2 : decode cX2_addSaying 2 = .ok (.ishl, 1) := by decide +kernel
theorem dX2_addSaying_3 : decode cX2_addSaying 3 = .ok (.istore 4, 2) := by decide +kernel
theorem dX2_addSaying_5 : decode cX2_addSaying 5 = .ok (.iconst 0, 1) := by decide +kernel
theorem dX2_addSaying_6 : decode cX2_addSaying 6 = .ok (.istore 5, 2) := by decide +kernel
theorem dX2_addSaying_8 : decode cX2_addSaying 8 = .ok (.iload 5, 2) := by decide +kernel
theorem dX2_addSaying_10 : decode cX2_addSaying 10 = .ok (.iload 4, 2) := by decide +kernel
theorem dX2_addSaying_12 : decode cX2_addSaying 12 = .ok (.if_icmp .ge 41, 3) := by decide +kernel
theorem dX2_addSaying_15 : decode cX2_addSaying 15 = .ok (.aload_n 0, 1) := by decide +kernel
theorem dX2_addSaying_16 : decode cX2_addSaying 16 = .ok (.getfield 11, 3) := by decide +kernel
theorem dX2_addSaying_19 : decode cX2_addSaying 19 = .ok (.iload 5, 2) := by decide +kernel
theorem dX2_addSaying_21 : decode cX2_addSaying 21 = .ok (.iaload, 1) := by decide +kernel
theorem dX2_addSaying_22 : decode cX2_addSaying 22 = .ok (.istore 6, 2) := by decide +kernel
theorem dX2_addSaying_24 : decode cX2_addSaying 24 = .ok (.aload_n 0, 1) := by decide +kernel
theorem dX2_addSaying_25 : decode cX2_addSaying 25 = .ok (.getfield 11, 3) := by decide +kernel
theorem dX2_addSaying_28 : decode cX2_addSaying 28 = .ok (.iload 5, 2) := by decide +kernel
theorem dX2_addSaying_30 : decode cX2_addSaying 30 = .ok (.iload 4, 2) := by decide +kernel
theorem dX2_addSaying_32 : decode cX2_addSaying 32 = .ok (.iadd, 1) := by decide +kernel
theorem dX2_addSaying_33 : decode cX2_addSaying 33 = .ok (.aload_n 1, 1) := by decide +kernel
theorem dX2_addSaying_34 : decode cX2_addSaying 34 = .ok (.iload 6, 2) := by decide +kernel
theorem dX2_addSaying_36 : decode cX2_addSaying 36 = .ok (.aload_n 1, 1) := by decide +kernel
theorem dX2_addSaying_37 : decode cX2_addSaying 37 = .ok (.iload 6, 2) := by decide +kernel
theorem dX2_addSaying_39 : decode cX2_addSaying 39 = .ok (.iload_n 2, 1) := by decide +kernel
theorem dX2_addSaying_40 : decode cX2_addSaying 40 = .ok (.invokevirtual 25, 3) := by decide +kernel
theorem dX2_addSaying_43 : decode cX2_addSaying 43 = .ok (.invokevirtual 31, 3) := by decide +kernel
theorem dX2_addSaying_46 : decode cX2_addSaying 46 = .ok (.iastore, 1) := by decide +kernel
theorem dX2_addSaying_47 : decode cX2_addSaying 47 = .ok (.iinc 5 1, 3) := by decide +kernel
theorem dX2_addSaying_50 : decode cX2_addSaying 50 = .ok (.goto (-42), 3) := by decide +kernel
theorem dX2_addSaying_53 : decode cX2_addSaying 53 = .ok (.return_, 1) := by decide +kernel
theorem dX2_keepFitting_0 : decode cX2_keepFitting 0 = .ok (.aload_n 0, 1) := by decide +kernel
theorem dX2_keepFitting_1 : decode cX2_keepFitting 1 = .ok (.iconst 0, 1) := by decide +kernel
theorem dX2_keepFitting_2 : decode cX2_keepFitting 2 = .ok (.putfield 18, 3) := by decide +kernel
theorem dX2_keepFitting_5 : decode cX2_keepFitting 5 = .ok (.iconst 0, 1) := by decide +kernel
theorem dX2_keepFitting_6 : decode cX2_keepFitting 6 = .ok (.istore_n 3, 1) := by decide +kernel
theorem dX2_keepFitting_7 : decode cX2_keepFitting 7 = .ok (.iload_n 3, 1) := by decide +kernel
theorem dX2_keepFitting_8 : decode cX2_keepFitting 8 = .ok (.iconst 1, 1) := by decide +kernel
theorem dX2_keepFitting_9 : decode cX2_keepFitting 9 = .ok (.iload_n 1, 1) := by decide +kernel
theorem dX2_keepFitting_10 : decode cX2_keepFitting 10 = .ok (.ishl, 1) := by decide +kernel
theorem dX2_keepFitting_11 : decode cX2_keepFitting 11 = .ok (.if_icmp .ge 39, 3) := by decide +kernel
theorem dX2_keepFitting_14 : decode cX2_keepFitting 14 = .ok (.aload_n 0, 1) := by decide +kernel
theorem dX2_keepFitting_15 : decode cX2_keepFitting 15 = .ok (.getfield 11, 3) := by decide +kernel
theorem dX2_keepFitting_18 : decode cX2_keepFitting 18 = .ok (.iload_n 3, 1) := by decide +kernel
theorem dX2_keepFitting_19 : decode cX2_keepFitting 19 = .ok (.iaload, 1) := by decide +kernel
theorem dX2_keepFitting_20 : decode cX2_keepFitting 20 = .ok (.iload_n 2, 1) := by decide +kernel
theorem dX2_keepFitting_21 : decode cX2_keepFitting 21 = .ok (.if_icmp .ne 23, 3) := by decide +kernel
theorem dX2_keepFitting_24 : decode cX2_keepFitting 24 = .ok (.aload_n 0, 1) := by decide +kernel
theorem dX2_keepFitting_25 : decode cX2_keepFitting 25 = .ok (.getfield 15, 3) := by decide +kernel
theorem dX2_keepFitting_28 : decode cX2_keepFitting 28 = .ok (.aload_n 0, 1) := by decide +kernel
theorem dX2_keepFitting_29 : decode cX2_keepFitting 29 = .ok (.getfield 18, 3) := by decide +kernel
theorem dX2_keepFitting_32 : decode cX2_keepFitting 32 = .ok (.iload_n 3, 1) := by decide +kernel
theorem dX2_keepFitting_33 : decode cX2_keepFitting 33 = .ok (.iastore, 1) := by decide +kernel
theorem dX2_keepFitting_34 : decode cX2_keepFitting 34 = .ok (.aload_n 0, 1) := by decide +kernel
theorem dX2_keepFitting_35 : decode cX2_keepFitting 35 = .ok (.dup, 1) := by decide +kernel
theorem dX2_keepFitting_36 : decode cX2_keepFitting 36 = .ok (.getfield 18, 3) := by decide +kernel
theorem dX2_keepFitting_39 : decode cX2_keepFitting 39 = .ok (.iconst 1, 1) := by decide +kernel
theorem dX2_keepFitting_40 : decode cX2_keepFitting 40 = .ok (.iadd, 1) := by decide +kernel
theorem dX2_keepFitting_41 : decode cX2_keepFitting 41 = .ok (.putfield 18, 3) := by decide +kernel
theorem dX2_keepFitting_44 : decode cX2_keepFitting 44 = .ok (.iinc 3 1, 3) := by decide +kernel
theorem dX2_keepFitting_47 : decode cX2_keepFitting 47 = .ok (.goto (-40), 3) := by decide +kernel
theorem dX2_keepFitting_50 : decode cX2_keepFitting 50 = .ok (.return_, 1) := by decide +kernel
theorem dX2_fitting_0 : decode cX2_fitting 0 = .ok (.aload_n 0, 1) := by decide +kernel
theorem dX2_fitting_1 : decode cX2_fitting 1 = .ok (.getfield 18, 3) := by decide +kernel
theorem dX2_fitting_4 : decode cX2_fitting 4 = .ok (.ireturn, 1) := by decide +kernel
theorem dX2_fittingSet_0 : decode cX2_fittingSet 0 = .ok (.iload_n 1, 1) := by decide +kernel
theorem dX2_fittingSet_1 : decode cX2_fittingSet 1 = .ok (.ifCond .lt 20, 3) := by decide +kernel
theorem dX2_fittingSet_4 : decode cX2_fittingSet 4 = .ok (.iload_n 1, 1) := by decide +kernel
theorem dX2_fittingSet_5 : decode cX2_fittingSet 5 = .ok (.aload_n 0, 1) := by decide +kernel
theorem dX2_fittingSet_6 : decode cX2_fittingSet 6 = .ok (.getfield 18, 3) := by decide +kernel
theorem dX2_fittingSet_9 : decode cX2_fittingSet 9 = .ok (.if_icmp .ge 12, 3) := by decide +kernel
theorem dX2_fittingSet_12 : decode cX2_fittingSet 12 = .ok (.aload_n 0, 1) := by decide +kernel
theorem dX2_fittingSet_13 : decode cX2_fittingSet 13 = .ok (.getfield 15, 3) := by decide +kernel
theorem dX2_fittingSet_16 : decode cX2_fittingSet 16 = .ok (.iload_n 1, 1) := by decide +kernel
theorem dX2_fittingSet_17 : decode cX2_fittingSet 17 = .ok (.iaload, 1) := by decide +kernel
theorem dX2_fittingSet_18 : decode cX2_fittingSet 18 = .ok (.goto 5, 3) := by decide +kernel
theorem dX2_fittingSet_21 : decode cX2_fittingSet 21 = .ok (.ldc 34, 2) := by decide +kernel
theorem dX2_fittingSet_23 : decode cX2_fittingSet 23 = .ok (.ireturn, 1) := by decide +kernel
theorem dX2_fewestLies_0 : decode cX2_fewestLies 0 = .ok (.ldc 34, 2) := by decide +kernel
theorem dX2_fewestLies_2 : decode cX2_fewestLies 2 = .ok (.istore_n 1, 1) := by decide +kernel
theorem dX2_fewestLies_3 : decode cX2_fewestLies 3 = .ok (.iconst 0, 1) := by decide +kernel
theorem dX2_fewestLies_4 : decode cX2_fewestLies 4 = .ok (.istore_n 2, 1) := by decide +kernel
theorem dX2_fewestLies_5 : decode cX2_fewestLies 5 = .ok (.iload_n 2, 1) := by decide +kernel
theorem dX2_fewestLies_6 : decode cX2_fewestLies 6 = .ok (.aload_n 0, 1) := by decide +kernel
theorem dX2_fewestLies_7 : decode cX2_fewestLies 7 = .ok (.getfield 18, 3) := by decide +kernel
theorem dX2_fewestLies_10 : decode cX2_fewestLies 10 = .ok (.if_icmp .ge 38, 3) := by decide +kernel
theorem dX2_fewestLies_13 : decode cX2_fewestLies 13 = .ok (.iload_n 1, 1) := by decide +kernel
theorem dX2_fewestLies_14 : decode cX2_fewestLies 14 = .ok (.ldc 34, 2) := by decide +kernel
theorem dX2_fewestLies_16 : decode cX2_fewestLies 16 = .ok (.if_icmp .eq 19, 3) := by decide +kernel
theorem dX2_fewestLies_19 : decode cX2_fewestLies 19 = .ok (.aload_n 0, 1) := by decide +kernel
theorem dX2_fewestLies_20 : decode cX2_fewestLies 20 = .ok (.getfield 15, 3) := by decide +kernel
theorem dX2_fewestLies_23 : decode cX2_fewestLies 23 = .ok (.iload_n 2, 1) := by decide +kernel
theorem dX2_fewestLies_24 : decode cX2_fewestLies 24 = .ok (.iaload, 1) := by decide +kernel
theorem dX2_fewestLies_25 : decode cX2_fewestLies 25 = .ok (.invokestatic 35, 3) := by decide +kernel
theorem dX2_fewestLies_28 : decode cX2_fewestLies 28 = .ok (.iload_n 1, 1) := by decide +kernel
theorem dX2_fewestLies_29 : decode cX2_fewestLies 29 = .ok (.invokestatic 35, 3) := by decide +kernel
theorem dX2_fewestLies_32 : decode cX2_fewestLies 32 = .ok (.if_icmp .ge 10, 3) := by decide +kernel
theorem dX2_fewestLies_35 : decode cX2_fewestLies 35 = .ok (.aload_n 0, 1) := by decide +kernel
theorem dX2_fewestLies_36 : decode cX2_fewestLies 36 = .ok (.getfield 15, 3) := by decide +kernel
theorem dX2_fewestLies_39 : decode cX2_fewestLies 39 = .ok (.iload_n 2, 1) := by decide +kernel
theorem dX2_fewestLies_40 : decode cX2_fewestLies 40 = .ok (.iaload, 1) := by decide +kernel
theorem dX2_fewestLies_41 : decode cX2_fewestLies 41 = .ok (.istore_n 1, 1) := by decide +kernel
theorem dX2_fewestLies_42 : decode cX2_fewestLies 42 = .ok (.iinc 2 1, 3) := by decide +kernel
theorem dX2_fewestLies_45 : decode cX2_fewestLies 45 = .ok (.goto (-40), 3) := by decide +kernel
theorem dX2_fewestLies_48 : decode cX2_fewestLies 48 = .ok (.iload_n 1, 1) := by decide +kernel
theorem dX2_fewestLies_49 : decode cX2_fewestLies 49 = .ok (.ireturn, 1) := by decide +kernel
theorem dX2_sureLies_0 : decode cX2_sureLies 0 = .ok (.sipush 255, 3) := by decide +kernel
theorem dX2_sureLies_3 : decode cX2_sureLies 3 = .ok (.istore_n 1, 1) := by decide +kernel
theorem dX2_sureLies_4 : decode cX2_sureLies 4 = .ok (.iconst 0, 1) := by decide +kernel
theorem dX2_sureLies_5 : decode cX2_sureLies 5 = .ok (.istore_n 2, 1) := by decide +kernel
theorem dX2_sureLies_6 : decode cX2_sureLies 6 = .ok (.iload_n 2, 1) := by decide +kernel
theorem dX2_sureLies_7 : decode cX2_sureLies 7 = .ok (.aload_n 0, 1) := by decide +kernel
theorem dX2_sureLies_8 : decode cX2_sureLies 8 = .ok (.getfield 18, 3) := by decide +kernel
theorem dX2_sureLies_11 : decode cX2_sureLies 11 = .ok (.if_icmp .ge 18, 3) := by decide +kernel
theorem dX2_sureLies_14 : decode cX2_sureLies 14 = .ok (.iload_n 1, 1) := by decide +kernel
theorem dX2_sureLies_15 : decode cX2_sureLies 15 = .ok (.aload_n 0, 1) := by decide +kernel
theorem dX2_sureLies_16 : decode cX2_sureLies 16 = .ok (.getfield 15, 3) := by decide +kernel
theorem dX2_sureLies_19 : decode cX2_sureLies 19 = .ok (.iload_n 2, 1) := by decide +kernel
theorem dX2_sureLies_20 : decode cX2_sureLies 20 = .ok (.iaload, 1) := by decide +kernel
theorem dX2_sureLies_21 : decode cX2_sureLies 21 = .ok (.iand, 1) := by decide +kernel
theorem dX2_sureLies_22 : decode cX2_sureLies 22 = .ok (.istore_n 1, 1) := by decide +kernel
theorem dX2_sureLies_23 : decode cX2_sureLies 23 = .ok (.iinc 2 1, 3) := by decide +kernel
theorem dX2_sureLies_26 : decode cX2_sureLies 26 = .ok (.goto (-20), 3) := by decide +kernel
theorem dX2_sureLies_29 : decode cX2_sureLies 29 = .ok (.aload_n 0, 1) := by decide +kernel
theorem dX2_sureLies_30 : decode cX2_sureLies 30 = .ok (.getfield 18, 3) := by decide +kernel
theorem dX2_sureLies_33 : decode cX2_sureLies 33 = .ok (.ifCond .ne 8, 3) := by decide +kernel
theorem dX2_sureLies_36 : decode cX2_sureLies 36 = .ok (.ldc 34, 2) := by decide +kernel
theorem dX2_sureLies_38 : decode cX2_sureLies 38 = .ok (.goto 4, 3) := by decide +kernel
theorem dX2_sureLies_41 : decode cX2_sureLies 41 = .ok (.iload_n 1, 1) := by decide +kernel
theorem dX2_sureLies_42 : decode cX2_sureLies 42 = .ok (.ireturn, 1) := by decide +kernel
theorem dX2_bestQuestion_0 : decode cX2_bestQuestion 0 = .ok (.ldc 34, 2) := by decide +kernel
theorem dX2_bestQuestion_2 : decode cX2_bestQuestion 2 = .ok (.istore_n 2, 1) := by decide +kernel
theorem dX2_bestQuestion_3 : decode cX2_bestQuestion 3 = .ok (.aload_n 0, 1) := by decide +kernel
theorem dX2_bestQuestion_4 : decode cX2_bestQuestion 4 = .ok (.getfield 18, 3) := by decide +kernel
theorem dX2_bestQuestion_7 : decode cX2_bestQuestion 7 = .ok (.istore_n 3, 1) := by decide +kernel
theorem dX2_bestQuestion_8 : decode cX2_bestQuestion 8 = .ok (.iconst 0, 1) := by decide +kernel
theorem dX2_bestQuestion_9 : decode cX2_bestQuestion 9 = .ok (.istore 4, 2) := by decide +kernel
theorem dX2_bestQuestion_11 : decode cX2_bestQuestion 11 = .ok (.iload 4, 2) := by decide +kernel
theorem dX2_bestQuestion_13 : decode cX2_bestQuestion 13 = .ok (.iload_n 1, 1) := by decide +kernel
theorem dX2_bestQuestion_14 : decode cX2_bestQuestion 14 = .ok (.if_icmp .ge 73, 3) := by decide +kernel
theorem dX2_bestQuestion_17 : decode cX2_bestQuestion 17 = .ok (.iconst 0, 1) := by decide +kernel
theorem dX2_bestQuestion_18 : decode cX2_bestQuestion 18 = .ok (.istore 5, 2) := by decide +kernel
theorem dX2_bestQuestion_20 : decode cX2_bestQuestion 20 = .ok (.iconst 0, 1) := by decide +kernel
theorem dX2_bestQuestion_21 : decode cX2_bestQuestion 21 = .ok (.istore 6, 2) := by decide +kernel
theorem dX2_bestQuestion_23 : decode cX2_bestQuestion 23 = .ok (.iload 6, 2) := by decide +kernel
theorem dX2_bestQuestion_25 : decode cX2_bestQuestion 25 = .ok (.aload_n 0, 1) := by decide +kernel
theorem dX2_bestQuestion_26 : decode cX2_bestQuestion 26 = .ok (.getfield 18, 3) := by decide +kernel
theorem dX2_bestQuestion_29 : decode cX2_bestQuestion 29 = .ok (.if_icmp .ge 26, 3) := by decide +kernel
theorem dX2_bestQuestion_32 : decode cX2_bestQuestion 32 = .ok (.iload 5, 2) := by decide +kernel
theorem dX2_bestQuestion_34 : decode cX2_bestQuestion 34 = .ok (.aload_n 0, 1) := by decide +kernel
theorem dX2_bestQuestion_35 : decode cX2_bestQuestion 35 = .ok (.getfield 15, 3) := by decide +kernel
theorem dX2_bestQuestion_38 : decode cX2_bestQuestion 38 = .ok (.iload 6, 2) := by decide +kernel
theorem dX2_bestQuestion_40 : decode cX2_bestQuestion 40 = .ok (.iaload, 1) := by decide +kernel
theorem dX2_bestQuestion_41 : decode cX2_bestQuestion 41 = .ok (.iload 4, 2) := by decide +kernel
theorem dX2_bestQuestion_43 : decode cX2_bestQuestion 43 = .ok (.ishr, 1) := by decide +kernel
theorem dX2_bestQuestion_44 : decode cX2_bestQuestion 44 = .ok (.iconst 1, 1) := by decide +kernel
theorem dX2_bestQuestion_45 : decode cX2_bestQuestion 45 = .ok (.iand, 1) := by decide +kernel
theorem dX2_bestQuestion_46 : decode cX2_bestQuestion 46 = .ok (.iadd, 1) := by decide +kernel
theorem dX2_bestQuestion_47 : decode cX2_bestQuestion 47 = .ok (.istore 5, 2) := by decide +kernel
theorem dX2_bestQuestion_49 : decode cX2_bestQuestion 49 = .ok (.iinc 6 1, 3) := by decide +kernel
theorem dX2_bestQuestion_52 : decode cX2_bestQuestion 52 = .ok (.goto (-29), 3) := by decide +kernel
theorem dX2_bestQuestion_55 : decode cX2_bestQuestion 55 = .ok (.iload 5, 2) := by decide +kernel
theorem dX2_bestQuestion_57 : decode cX2_bestQuestion 57 = .ok (.aload_n 0, 1) := by decide +kernel
theorem dX2_bestQuestion_58 : decode cX2_bestQuestion 58 = .ok (.getfield 18, 3) := by decide +kernel
theorem dX2_bestQuestion_61 : decode cX2_bestQuestion 61 = .ok (.iload 5, 2) := by decide +kernel
theorem dX2_bestQuestion_63 : decode cX2_bestQuestion 63 = .ok (.isub, 1) := by decide +kernel
theorem dX2_bestQuestion_64 : decode cX2_bestQuestion 64 = .ok (.invokestatic 41, 3) := by decide +kernel
theorem dX2_bestQuestion_67 : decode cX2_bestQuestion 67 = .ok (.istore 6, 2) := by decide +kernel
theorem dX2_bestQuestion_69 : decode cX2_bestQuestion 69 = .ok (.iload 6, 2) := by decide +kernel
theorem dX2_bestQuestion_71 : decode cX2_bestQuestion 71 = .ok (.iload_n 3, 1) := by decide +kernel
theorem dX2_bestQuestion_72 : decode cX2_bestQuestion 72 = .ok (.if_icmp .ge 9, 3) := by decide +kernel
theorem dX2_bestQuestion_75 : decode cX2_bestQuestion 75 = .ok (.iload 6, 2) := by decide +kernel
theorem dX2_bestQuestion_77 : decode cX2_bestQuestion 77 = .ok (.istore_n 3, 1) := by decide +kernel
theorem dX2_bestQuestion_78 : decode cX2_bestQuestion 78 = .ok (.iload 4, 2) := by decide +kernel
theorem dX2_bestQuestion_80 : decode cX2_bestQuestion 80 = .ok (.istore_n 2, 1) := by decide +kernel
theorem dX2_bestQuestion_81 : decode cX2_bestQuestion 81 = .ok (.iinc 4 1, 3) := by decide +kernel
theorem dX2_bestQuestion_84 : decode cX2_bestQuestion 84 = .ok (.goto (-73), 3) := by decide +kernel
theorem dX2_bestQuestion_87 : decode cX2_bestQuestion 87 = .ok (.iload_n 2, 1) := by decide +kernel
theorem dX2_bestQuestion_88 : decode cX2_bestQuestion 88 = .ok (.ireturn, 1) := by decide +kernel
theorem dX2_findLiars_0 : decode cX2_findLiars 0 = .ok (.iconst 0, 1) := by decide +kernel
theorem dX2_findLiars_1 : decode cX2_findLiars 1 = .ok (.istore 4, 2) := by decide +kernel
theorem dX2_findLiars_3 : decode cX2_findLiars 3 = .ok (.iload 4, 2) := by decide +kernel
theorem dX2_findLiars_5 : decode cX2_findLiars 5 = .ok (.iconst 4, 1) := by decide +kernel
theorem dX2_findLiars_6 : decode cX2_findLiars 6 = .ok (.if_icmp .gt 29, 3) := by decide +kernel
theorem dX2_findLiars_9 : decode cX2_findLiars 9 = .ok (.aload_n 0, 1) := by decide +kernel
theorem dX2_findLiars_10 : decode cX2_findLiars 10 = .ok (.aload_n 1, 1) := by decide +kernel
theorem dX2_findLiars_11 : decode cX2_findLiars 11 = .ok (.aload_n 1, 1) := by decide +kernel
theorem dX2_findLiars_12 : decode cX2_findLiars 12 = .ok (.getfield 46, 3) := by decide +kernel
theorem dX2_findLiars_15 : decode cX2_findLiars 15 = .ok (.iload_n 2, 1) := by decide +kernel
theorem dX2_findLiars_16 : decode cX2_findLiars 16 = .ok (.iload_n 3, 1) := by decide +kernel
theorem dX2_findLiars_17 : decode cX2_findLiars 17 = .ok (.iload 4, 2) := by decide +kernel
theorem dX2_findLiars_19 : decode cX2_findLiars 19 = .ok (.iconst 0, 1) := by decide +kernel
theorem dX2_findLiars_20 : decode cX2_findLiars 20 = .ok (.invokevirtual 49, 3) := by decide +kernel
theorem dX2_findLiars_23 : decode cX2_findLiars 23 = .ok (.ifCond .eq 6, 3) := by decide +kernel
theorem dX2_findLiars_26 : decode cX2_findLiars 26 = .ok (.iload 4, 2) := by decide +kernel
theorem dX2_findLiars_28 : decode cX2_findLiars 28 = .ok (.ireturn, 1) := by decide +kernel
theorem dX2_findLiars_29 : decode cX2_findLiars 29 = .ok (.iinc 4 1, 3) := by decide +kernel
theorem dX2_findLiars_32 : decode cX2_findLiars 32 = .ok (.goto (-29), 3) := by decide +kernel
theorem dX2_findLiars_35 : decode cX2_findLiars 35 = .ok (.ldc 34, 2) := by decide +kernel
theorem dX2_findLiars_37 : decode cX2_findLiars 37 = .ok (.ireturn, 1) := by decide +kernel
theorem dX2_canReach_0 : decode cX2_canReach 0 = .ok (.iload 4, 2) := by decide +kernel
theorem dX2_canReach_2 : decode cX2_canReach 2 = .ok (.aload_n 1, 1) := by decide +kernel
theorem dX2_canReach_3 : decode cX2_canReach 3 = .ok (.iload_n 2, 1) := by decide +kernel
theorem dX2_canReach_4 : decode cX2_canReach 4 = .ok (.iload_n 3, 1) := by decide +kernel
theorem dX2_canReach_5 : decode cX2_canReach 5 = .ok (.invokevirtual 53, 3) := by decide +kernel
theorem dX2_canReach_8 : decode cX2_canReach 8 = .ok (.isub, 1) := by decide +kernel
theorem dX2_canReach_9 : decode cX2_canReach 9 = .ok (.istore 7, 2) := by decide +kernel
theorem dX2_canReach_11 : decode cX2_canReach 11 = .ok (.iload 7, 2) := by decide +kernel
theorem dX2_canReach_13 : decode cX2_canReach 13 = .ok (.ifCond .gt 5, 3) := by decide +kernel
theorem dX2_canReach_16 : decode cX2_canReach 16 = .ok (.iconst 1, 1) := by decide +kernel
theorem dX2_canReach_17 : decode cX2_canReach 17 = .ok (.ireturn, 1) := by decide +kernel
theorem dX2_canReach_18 : decode cX2_canReach 18 = .ok (.iload 7, 2) := by decide +kernel
theorem dX2_canReach_20 : decode cX2_canReach 20 = .ok (.iload 5, 2) := by decide +kernel
theorem dX2_canReach_22 : decode cX2_canReach 22 = .ok (.if_icmp .gt 9, 3) := by decide +kernel
theorem dX2_canReach_25 : decode cX2_canReach 25 = .ok (.iload 6, 2) := by decide +kernel
theorem dX2_canReach_27 : decode cX2_canReach 27 = .ok (.iconst 4, 1) := by decide +kernel
theorem dX2_canReach_28 : decode cX2_canReach 28 = .ok (.if_icmp .lt 5, 3) := by decide +kernel
theorem dX2_canReach_31 : decode cX2_canReach 31 = .ok (.iconst 0, 1) := by decide +kernel
theorem dX2_canReach_32 : decode cX2_canReach 32 = .ok (.ireturn, 1) := by decide +kernel
theorem dX2_canReach_33 : decode cX2_canReach 33 = .ok (.iconst 0, 1) := by decide +kernel
theorem dX2_canReach_34 : decode cX2_canReach 34 = .ok (.istore 8, 2) := by decide +kernel
theorem dX2_canReach_36 : decode cX2_canReach 36 = .ok (.iload 8, 2) := by decide +kernel
theorem dX2_canReach_38 : decode cX2_canReach 38 = .ok (.aload_n 1, 1) := by decide +kernel
theorem dX2_canReach_39 : decode cX2_canReach 39 = .ok (.getfield 56, 3) := by decide +kernel
theorem dX2_canReach_42 : decode cX2_canReach 42 = .ok (.if_icmp .ge 74, 3) := by decide +kernel
theorem dX2_canReach_45 : decode cX2_canReach 45 = .ok (.aload_n 1, 1) := by decide +kernel
theorem dX2_canReach_46 : decode cX2_canReach 46 = .ok (.iload_n 2, 1) := by decide +kernel
theorem dX2_canReach_47 : decode cX2_canReach 47 = .ok (.iload 8, 2) := by decide +kernel
theorem dX2_canReach_49 : decode cX2_canReach 49 = .ok (.invokevirtual 59, 3) := by decide +kernel
theorem dX2_canReach_52 : decode cX2_canReach 52 = .ok (.ifCond .eq 7, 3) := by decide +kernel
theorem dX2_canReach_55 : decode cX2_canReach 55 = .ok (.iconst 0, 1) := by decide +kernel
theorem dX2_canReach_56 : decode cX2_canReach 56 = .ok (.goto 10, 3) := by decide +kernel
theorem dX2_canReach_59 : decode cX2_canReach 59 = .ok (.aload_n 1, 1) := by decide +kernel
theorem dX2_canReach_60 : decode cX2_canReach 60 = .ok (.iload_n 2, 1) := by decide +kernel
theorem dX2_canReach_61 : decode cX2_canReach 61 = .ok (.iload 8, 2) := by decide +kernel
theorem dX2_canReach_63 : decode cX2_canReach 63 = .ok (.invokevirtual 25, 3) := by decide +kernel
theorem dX2_canReach_66 : decode cX2_canReach 66 = .ok (.istore 9, 2) := by decide +kernel
theorem dX2_canReach_68 : decode cX2_canReach 68 = .ok (.iload 9, 2) := by decide +kernel
theorem dX2_canReach_70 : decode cX2_canReach 70 = .ok (.ifCond .eq 40, 3) := by decide +kernel
theorem dX2_canReach_73 : decode cX2_canReach 73 = .ok (.aload_n 0, 1) := by decide +kernel
theorem dX2_canReach_74 : decode cX2_canReach 74 = .ok (.getfield 22, 3) := by decide +kernel
theorem dX2_canReach_77 : decode cX2_canReach 77 = .ok (.iload 6, 2) := by decide +kernel
theorem dX2_canReach_79 : decode cX2_canReach 79 = .ok (.iload 8, 2) := by decide +kernel
theorem dX2_canReach_81 : decode cX2_canReach 81 = .ok (.iastore, 1) := by decide +kernel
theorem dX2_canReach_82 : decode cX2_canReach 82 = .ok (.aload_n 0, 1) := by decide +kernel
theorem dX2_canReach_83 : decode cX2_canReach 83 = .ok (.aload_n 1, 1) := by decide +kernel
theorem dX2_canReach_84 : decode cX2_canReach 84 = .ok (.aload_n 1, 1) := by decide +kernel
theorem dX2_canReach_85 : decode cX2_canReach 85 = .ok (.iload_n 2, 1) := by decide +kernel
theorem dX2_canReach_86 : decode cX2_canReach 86 = .ok (.iload 9, 2) := by decide +kernel
theorem dX2_canReach_88 : decode cX2_canReach 88 = .ok (.invokevirtual 31, 3) := by decide +kernel
theorem dX2_canReach_91 : decode cX2_canReach 91 = .ok (.iload_n 3, 1) := by decide +kernel
theorem dX2_canReach_92 : decode cX2_canReach 92 = .ok (.iload 4, 2) := by decide +kernel
theorem dX2_canReach_94 : decode cX2_canReach 94 = .ok (.iload 5, 2) := by decide +kernel
theorem dX2_canReach_96 : decode cX2_canReach 96 = .ok (.iconst 1, 1) := by decide +kernel
theorem dX2_canReach_97 : decode cX2_canReach 97 = .ok (.isub, 1) := by decide +kernel
theorem dX2_canReach_98 : decode cX2_canReach 98 = .ok (.iload 6, 2) := by decide +kernel
theorem dX2_canReach_100 : decode cX2_canReach 100 = .ok (.iconst 1, 1) := by decide +kernel
theorem dX2_canReach_101 : decode cX2_canReach 101 = .ok (.iadd, 1) := by decide +kernel
theorem dX2_canReach_102 : decode cX2_canReach 102 = .ok (.invokevirtual 49, 3) := by decide +kernel
theorem dX2_canReach_105 : decode cX2_canReach 105 = .ok (.ifCond .eq 5, 3) := by decide +kernel
theorem dX2_canReach_108 : decode cX2_canReach 108 = .ok (.iconst 1, 1) := by decide +kernel
theorem dX2_canReach_109 : decode cX2_canReach 109 = .ok (.ireturn, 1) := by decide +kernel
theorem dX2_canReach_110 : decode cX2_canReach 110 = .ok (.iinc 8 1, 3) := by decide +kernel
theorem dX2_canReach_113 : decode cX2_canReach 113 = .ok (.goto (-77), 3) := by decide +kernel
theorem dX2_canReach_116 : decode cX2_canReach 116 = .ok (.iconst 0, 1) := by decide +kernel
theorem dX2_canReach_117 : decode cX2_canReach 117 = .ok (.ireturn, 1) := by decide +kernel
theorem dX2_liar_0 : decode cX2_liar 0 = .ok (.iload_n 1, 1) := by decide +kernel
theorem dX2_liar_1 : decode cX2_liar 1 = .ok (.ifCond .lt 17, 3) := by decide +kernel
theorem dX2_liar_4 : decode cX2_liar 4 = .ok (.iload_n 1, 1) := by decide +kernel
theorem dX2_liar_5 : decode cX2_liar 5 = .ok (.iload_n 2, 1) := by decide +kernel
theorem dX2_liar_6 : decode cX2_liar 6 = .ok (.if_icmp .ge 12, 3) := by decide +kernel
theorem dX2_liar_9 : decode cX2_liar 9 = .ok (.aload_n 0, 1) := by decide +kernel
theorem dX2_liar_10 : decode cX2_liar 10 = .ok (.getfield 22, 3) := by decide +kernel
theorem dX2_liar_13 : decode cX2_liar 13 = .ok (.iload_n 1, 1) := by decide +kernel
theorem dX2_liar_14 : decode cX2_liar 14 = .ok (.iaload, 1) := by decide +kernel
theorem dX2_liar_15 : decode cX2_liar 15 = .ok (.goto 5, 3) := by decide +kernel
theorem dX2_liar_18 : decode cX2_liar 18 = .ok (.ldc 34, 2) := by decide +kernel
theorem dX2_liar_20 : decode cX2_liar 20 = .ok (.ireturn, 1) := by decide +kernel
theorem dX2_liesTillBrook_0 : decode cX2_liesTillBrook 0 = .ok (.aload_n 1, 1) := by decide +kernel
theorem dX2_liesTillBrook_1 : decode cX2_liesTillBrook 1 = .ok (.getfield 46, 3) := by decide +kernel
theorem dX2_liesTillBrook_4 : decode cX2_liesTillBrook 4 = .ok (.istore_n 3, 1) := by decide +kernel
theorem dX2_liesTillBrook_5 : decode cX2_liesTillBrook 5 = .ok (.iconst 0, 1) := by decide +kernel
theorem dX2_liesTillBrook_6 : decode cX2_liesTillBrook 6 = .ok (.istore 4, 2) := by decide +kernel
theorem dX2_liesTillBrook_8 : decode cX2_liesTillBrook 8 = .ok (.iload 4, 2) := by decide +kernel
theorem dX2_liesTillBrook_10 : decode cX2_liesTillBrook 10 = .ok (.bipush 16, 2) := by decide +kernel
theorem dX2_liesTillBrook_12 : decode cX2_liesTillBrook 12 = .ok (.if_icmp .gt 45, 3) := by decide +kernel
theorem dX2_liesTillBrook_15 : decode cX2_liesTillBrook 15 = .ok (.aload_n 1, 1) := by decide +kernel
theorem dX2_liesTillBrook_16 : decode cX2_liesTillBrook 16 = .ok (.iload_n 3, 1) := by decide +kernel
theorem dX2_liesTillBrook_17 : decode cX2_liesTillBrook 17 = .ok (.iload_n 2, 1) := by decide +kernel
theorem dX2_liesTillBrook_18 : decode cX2_liesTillBrook 18 = .ok (.invokevirtual 59, 3) := by decide +kernel
theorem dX2_liesTillBrook_21 : decode cX2_liesTillBrook 21 = .ok (.ifCond .eq 6, 3) := by decide +kernel
theorem dX2_liesTillBrook_24 : decode cX2_liesTillBrook 24 = .ok (.iload 4, 2) := by decide +kernel
theorem dX2_liesTillBrook_26 : decode cX2_liesTillBrook 26 = .ok (.ireturn, 1) := by decide +kernel
theorem dX2_liesTillBrook_27 : decode cX2_liesTillBrook 27 = .ok (.aload_n 1, 1) := by decide +kernel
theorem dX2_liesTillBrook_28 : decode cX2_liesTillBrook 28 = .ok (.iload_n 3, 1) := by decide +kernel
theorem dX2_liesTillBrook_29 : decode cX2_liesTillBrook 29 = .ok (.iload_n 2, 1) := by decide +kernel
theorem dX2_liesTillBrook_30 : decode cX2_liesTillBrook 30 = .ok (.invokevirtual 25, 3) := by decide +kernel
theorem dX2_liesTillBrook_33 : decode cX2_liesTillBrook 33 = .ok (.istore 5, 2) := by decide +kernel
theorem dX2_liesTillBrook_35 : decode cX2_liesTillBrook 35 = .ok (.iload 5, 2) := by decide +kernel
theorem dX2_liesTillBrook_37 : decode cX2_liesTillBrook 37 = .ok (.ifCond .ne 6, 3) := by decide +kernel
theorem dX2_liesTillBrook_40 : decode cX2_liesTillBrook 40 = .ok (.ldc 34, 2) := by decide +kernel
theorem dX2_liesTillBrook_42 : decode cX2_liesTillBrook 42 = .ok (.ireturn, 1) := by decide +kernel
theorem dX2_liesTillBrook_43 : decode cX2_liesTillBrook 43 = .ok (.aload_n 1, 1) := by decide +kernel
theorem dX2_liesTillBrook_44 : decode cX2_liesTillBrook 44 = .ok (.iload_n 3, 1) := by decide +kernel
theorem dX2_liesTillBrook_45 : decode cX2_liesTillBrook 45 = .ok (.iload 5, 2) := by decide +kernel
theorem dX2_liesTillBrook_47 : decode cX2_liesTillBrook 47 = .ok (.invokevirtual 31, 3) := by decide +kernel
theorem dX2_liesTillBrook_50 : decode cX2_liesTillBrook 50 = .ok (.istore_n 3, 1) := by decide +kernel
theorem dX2_liesTillBrook_51 : decode cX2_liesTillBrook 51 = .ok (.iinc 4 1, 3) := by decide +kernel
theorem dX2_liesTillBrook_54 : decode cX2_liesTillBrook 54 = .ok (.goto (-46), 3) := by decide +kernel
theorem dX2_liesTillBrook_57 : decode cX2_liesTillBrook 57 = .ok (.ldc 34, 2) := by decide +kernel
theorem dX2_liesTillBrook_59 : decode cX2_liesTillBrook 59 = .ok (.ireturn, 1) := by decide +kernel
theorem dX3_init_0 : decode cX3_init 0 = .ok (.aload_n 0, 1) := by decide +kernel
theorem dX3_init_1 : decode cX3_init 1 = .ok (.invokespecial 1, 3) := by decide +kernel
theorem dX3_init_4 : decode cX3_init 4 = .ok (.aload_n 0, 1) := by decide +kernel
theorem dX3_init_5 : decode cX3_init 5 = .ok (.bipush 24, 2) := by decide +kernel
theorem dX3_init_7 : decode cX3_init 7 = .ok (.newarray .int, 2) := by decide +kernel
theorem dX3_init_9 : decode cX3_init 9 = .ok (.putfield 9, 3) := by decide +kernel
theorem dX3_init_12 : decode cX3_init 12 = .ok (.aload_n 0, 1) := by decide +kernel
theorem dX3_init_13 : decode cX3_init 13 = .ok (.bipush 24, 2) := by decide +kernel
theorem dX3_init_15 : decode cX3_init 15 = .ok (.newarray .int, 2) := by decide +kernel
theorem dX3_init_17 : decode cX3_init 17 = .ok (.putfield 13, 3) := by decide +kernel
theorem dX3_init_20 : decode cX3_init 20 = .ok (.aload_n 0, 1) := by decide +kernel
theorem dX3_init_21 : decode cX3_init 21 = .ok (.iconst 0, 1) := by decide +kernel
theorem dX3_init_22 : decode cX3_init 22 = .ok (.putfield 16, 3) := by decide +kernel
theorem dX3_init_25 : decode cX3_init 25 = .ok (.aload_n 0, 1) := by decide +kernel
theorem dX3_init_26 : decode cX3_init 26 = .ok (.iconst 0, 1) := by decide +kernel
theorem dX3_init_27 : decode cX3_init 27 = .ok (.putfield 20, 3) := by decide +kernel
theorem dX3_init_30 : decode cX3_init 30 = .ok (.return_, 1) := by decide +kernel
theorem dX3_size_0 : decode cX3_size 0 = .ok (.aload_n 0, 1) := by decide +kernel
theorem dX3_size_1 : decode cX3_size 1 = .ok (.getfield 20, 3) := by decide +kernel
theorem dX3_size_4 : decode cX3_size 4 = .ok (.ireturn, 1) := by decide +kernel
theorem dX3_forgetAll_0 : decode cX3_forgetAll 0 = .ok (.aload_n 0, 1) := by decide +kernel
theorem dX3_forgetAll_1 : decode cX3_forgetAll 1 = .ok (.iconst 0, 1) := by decide +kernel
theorem dX3_forgetAll_2 : decode cX3_forgetAll 2 = .ok (.putfield 20, 3) := by decide +kernel
theorem dX3_forgetAll_5 : decode cX3_forgetAll 5 = .ok (.return_, 1) := by decide +kernel
theorem dX3_keep_0 : decode cX3_keep 0 = .ok (.aload_n 0, 1) := by decide +kernel
theorem dX3_keep_1 : decode cX3_keep 1 = .ok (.getfield 9, 3) := by decide +kernel
theorem dX3_keep_4 : decode cX3_keep 4 = .ok (.aload_n 0, 1) := by decide +kernel
theorem dX3_keep_5 : decode cX3_keep 5 = .ok (.getfield 16, 3) := by decide +kernel
theorem dX3_keep_8 : decode cX3_keep 8 = .ok (.iload_n 1, 1) := by decide +kernel
theorem dX3_keep_9 : decode cX3_keep 9 = .ok (.iastore, 1) := by decide +kernel
theorem dX3_keep_10 : decode cX3_keep 10 = .ok (.aload_n 0, 1) := by decide +kernel
theorem dX3_keep_11 : decode cX3_keep 11 = .ok (.getfield 13, 3) := by decide +kernel
theorem dX3_keep_14 : decode cX3_keep 14 = .ok (.aload_n 0, 1) := by decide +kernel
theorem dX3_keep_15 : decode cX3_keep 15 = .ok (.getfield 16, 3) := by decide +kernel
theorem dX3_keep_18 : decode cX3_keep 18 = .ok (.iload_n 2, 1) := by decide +kernel
theorem dX3_keep_19 : decode cX3_keep 19 = .ok (.iastore, 1) := by decide +kernel
theorem dX3_keep_20 : decode cX3_keep 20 = .ok (.aload_n 0, 1) := by decide +kernel
theorem dX3_keep_21 : decode cX3_keep 21 = .ok (.aload_n 0, 1) := by decide +kernel
theorem dX3_keep_22 : decode cX3_keep 22 = .ok (.getfield 16, 3) := by decide +kernel
theorem dX3_keep_25 : decode cX3_keep 25 = .ok (.iconst 1, 1) := by decide +kernel
theorem dX3_keep_26 : decode cX3_keep 26 = .ok (.iadd, 1) := by decide +kernel
theorem dX3_keep_27 : decode cX3_keep 27 = .ok (.bipush 24, 2) := by decide +kernel
theorem dX3_keep_29 : decode cX3_keep 29 = .ok (.irem, 1) := by decide +kernel
theorem dX3_keep_30 : decode cX3_keep 30 = .ok (.putfield 16, 3) := by decide +kernel
theorem dX3_keep_33 : decode cX3_keep 33 = .ok (.aload_n 0, 1) := by decide +kernel
theorem dX3_keep_34 : decode cX3_keep 34 = .ok (.aload_n 0, 1) := by decide +kernel
theorem dX3_keep_35 : decode cX3_keep 35 = .ok (.getfield 20, 3) := by decide +kernel
theorem dX3_keep_38 : decode cX3_keep 38 = .ok (.iconst 1, 1) := by decide +kernel
theorem dX3_keep_39 : decode cX3_keep 39 = .ok (.iadd, 1) := by decide +kernel
theorem dX3_keep_40 : decode cX3_keep 40 = .ok (.bipush 24, 2) := by decide +kernel
theorem dX3_keep_42 : decode cX3_keep 42 = .ok (.invokestatic 23, 3) := by decide +kernel
theorem dX3_keep_45 : decode cX3_keep 45 = .ok (.putfield 20, 3) := by decide +kernel
theorem dX3_keep_48 : decode cX3_keep 48 = .ok (.return_, 1) := by decide +kernel
theorem dX3_undoLatest_0 : decode cX3_undoLatest 0 = .ok (.aload_n 0, 1) := by decide +kernel
theorem dX3_undoLatest_1 : decode cX3_undoLatest 1 = .ok (.aload_n 0, 1) := by decide +kernel
theorem dX3_undoLatest_2 : decode cX3_undoLatest 2 = .ok (.getfield 16, 3) := by decide +kernel
theorem dX3_undoLatest_5 : decode cX3_undoLatest 5 = .ok (.bipush 24, 2) := by decide +kernel
theorem dX3_undoLatest_7 : decode cX3_undoLatest 7 = .ok (.iadd, 1) := by decide +kernel
theorem dX3_undoLatest_8 : decode cX3_undoLatest 8 = .ok (.iconst 1, 1) := by decide +kernel
theorem dX3_undoLatest_9 : decode cX3_undoLatest 9 = .ok (.isub, 1) := by decide +kernel
theorem dX3_undoLatest_10 : decode cX3_undoLatest 10 = .ok (.bipush 24, 2) := by decide +kernel
theorem dX3_undoLatest_12 : decode cX3_undoLatest 12 = .ok (.irem, 1) := by decide +kernel
theorem dX3_undoLatest_13 : decode cX3_undoLatest 13 = .ok (.putfield 16, 3) := by decide +kernel
theorem dX3_undoLatest_16 : decode cX3_undoLatest 16 = .ok (.aload_n 0, 1) := by decide +kernel
theorem dX3_undoLatest_17 : decode cX3_undoLatest 17 = .ok (.dup, 1) := by decide +kernel
theorem dX3_undoLatest_18 : decode cX3_undoLatest 18 = .ok (.getfield 20, 3) := by decide +kernel
theorem dX3_undoLatest_21 : decode cX3_undoLatest 21 = .ok (.iconst 1, 1) := by decide +kernel
theorem dX3_undoLatest_22 : decode cX3_undoLatest 22 = .ok (.isub, 1) := by decide +kernel
theorem dX3_undoLatest_23 : decode cX3_undoLatest 23 = .ok (.putfield 20, 3) := by decide +kernel
theorem dX3_undoLatest_26 : decode cX3_undoLatest 26 = .ok (.aload_n 1, 1) := by decide +kernel
theorem dX3_undoLatest_27 : decode cX3_undoLatest 27 = .ok (.aload_n 0, 1) := by decide +kernel
theorem dX3_undoLatest_28 : decode cX3_undoLatest 28 = .ok (.getfield 9, 3) := by decide +kernel
theorem dX3_undoLatest_31 : decode cX3_undoLatest 31 = .ok (.aload_n 0, 1) := by decide +kernel
theorem dX3_undoLatest_32 : decode cX3_undoLatest 32 = .ok (.getfield 16, 3) := by decide +kernel
theorem dX3_undoLatest_35 : decode cX3_undoLatest 35 = .ok (.iaload, 1) := by decide +kernel
theorem dX3_undoLatest_36 : decode cX3_undoLatest 36 = .ok (.putfield 29, 3) := by decide +kernel
theorem dX3_undoLatest_39 : decode cX3_undoLatest 39 = .ok (.aload_n 0, 1) := by decide +kernel
theorem dX3_undoLatest_40 : decode cX3_undoLatest 40 = .ok (.getfield 13, 3) := by decide +kernel
theorem dX3_undoLatest_43 : decode cX3_undoLatest 43 = .ok (.aload_n 0, 1) := by decide +kernel
theorem dX3_undoLatest_44 : decode cX3_undoLatest 44 = .ok (.getfield 16, 3) := by decide +kernel
theorem dX3_undoLatest_47 : decode cX3_undoLatest 47 = .ok (.iaload, 1) := by decide +kernel
theorem dX3_undoLatest_48 : decode cX3_undoLatest 48 = .ok (.iconst (-1), 1) := by decide +kernel
theorem dX3_undoLatest_49 : decode cX3_undoLatest 49 = .ok (.if_icmp .eq 21, 3) := by decide +kernel
theorem dX3_undoLatest_52 : decode cX3_undoLatest 52 = .ok (.aload_n 1, 1) := by decide +kernel
theorem dX3_undoLatest_53 : decode cX3_undoLatest 53 = .ok (.getfield 34, 3) := by decide +kernel
theorem dX3_undoLatest_56 : decode cX3_undoLatest 56 = .ok (.aload_n 0, 1) := by decide +kernel
theorem dX3_undoLatest_57 : decode cX3_undoLatest 57 = .ok (.getfield 13, 3) := by decide +kernel
theorem dX3_undoLatest_60 : decode cX3_undoLatest 60 = .ok (.aload_n 0, 1) := by decide +kernel
theorem dX3_undoLatest_61 : decode cX3_undoLatest 61 = .ok (.getfield 16, 3) := by decide +kernel
theorem dX3_undoLatest_64 : decode cX3_undoLatest 64 = .ok (.iaload, 1) := by decide +kernel
theorem dX3_undoLatest_65 : decode cX3_undoLatest 65 = .ok (.dup2, 1) := by decide +kernel
theorem dX3_undoLatest_66 : decode cX3_undoLatest 66 = .ok (.iaload, 1) := by decide +kernel
theorem dX3_undoLatest_67 : decode cX3_undoLatest 67 = .ok (.iconst 1, 1) := by decide +kernel
theorem dX3_undoLatest_68 : decode cX3_undoLatest 68 = .ok (.isub, 1) := by decide +kernel
theorem dX3_undoLatest_69 : decode cX3_undoLatest 69 = .ok (.iastore, 1) := by decide +kernel
theorem dX3_undoLatest_70 : decode cX3_undoLatest 70 = .ok (.return_, 1) := by decide +kernel
theorem dX4_isNumber_0 : decode cX4_isNumber 0 = .ok (.iload_n 0, 1) := by decide +kernel
theorem dX4_isNumber_1 : decode cX4_isNumber 1 = .ok (.ifCond .lt 13, 3) := by decide +kernel
theorem dX4_isNumber_4 : decode cX4_isNumber 4 = .ok (.iload_n 0, 1) := by decide +kernel
theorem dX4_isNumber_5 : decode cX4_isNumber 5 = .ok (.bipush 6, 2) := by decide +kernel
theorem dX4_isNumber_7 : decode cX4_isNumber 7 = .ok (.if_icmp .ge 7, 3) := by decide +kernel
theorem dX4_isNumber_10 : decode cX4_isNumber 10 = .ok (.iconst 1, 1) := by decide +kernel
theorem dX4_isNumber_11 : decode cX4_isNumber 11 = .ok (.goto 4, 3) := by decide +kernel
theorem dX4_isNumber_14 : decode cX4_isNumber 14 = .ok (.iconst 0, 1) := by decide +kernel
theorem dX4_isNumber_15 : decode cX4_isNumber 15 = .ok (.ireturn, 1) := by decide +kernel
theorem dX4_parentOf_0 : decode cX4_parentOf 0 = .ok (.getstatic 9, 3) := by decide +kernel
theorem dX4_parentOf_3 : decode cX4_parentOf 3 = .ok (.iload_n 0, 1) := by decide +kernel
theorem dX4_parentOf_4 : decode cX4_parentOf 4 = .ok (.iaload, 1) := by decide +kernel
theorem dX4_parentOf_5 : decode cX4_parentOf 5 = .ok (.ireturn, 1) := by decide +kernel
theorem dX4_isOne_0 : decode cX4_isOne 0 = .ok (.iload_n 0, 1) := by decide +kernel
theorem dX4_isOne_1 : decode cX4_isOne 1 = .ok (.istore_n 2, 1) := by decide +kernel
theorem dX4_isOne_2 : decode cX4_isOne 2 = .ok (.iconst 0, 1) := by decide +kernel
theorem dX4_isOne_3 : decode cX4_isOne 3 = .ok (.istore_n 3, 1) := by decide +kernel
theorem dX4_isOne_4 : decode cX4_isOne 4 = .ok (.iload_n 3, 1) := by decide +kernel
theorem dX4_isOne_5 : decode cX4_isOne 5 = .ok (.bipush 6, 2) := by decide +kernel
theorem dX4_isOne_7 : decode cX4_isOne 7 = .ok (.if_icmp .ge 19, 3) := by decide +kernel
theorem dX4_isOne_10 : decode cX4_isOne 10 = .ok (.iload_n 2, 1) := by decide +kernel
theorem dX4_isOne_11 : decode cX4_isOne 11 = .ok (.iload_n 1, 1) := by decide +kernel
theorem dX4_isOne_12 : decode cX4_isOne 12 = .ok (.if_icmp .eq 14, 3) := by decide +kernel
theorem dX4_isOne_15 : decode cX4_isOne 15 = .ok (.iload_n 2, 1) := by decide +kernel
theorem dX4_isOne_16 : decode cX4_isOne 16 = .ok (.invokestatic 13, 3) := by decide +kernel
theorem dX4_isOne_19 : decode cX4_isOne 19 = .ok (.istore_n 2, 1) := by decide +kernel
theorem dX4_isOne_20 : decode cX4_isOne 20 = .ok (.iinc 3 1, 3) := by decide +kernel
theorem dX4_isOne_23 : decode cX4_isOne 23 = .ok (.goto (-19), 3) := by decide +kernel
theorem dX4_isOne_26 : decode cX4_isOne 26 = .ok (.iload_n 2, 1) := by decide +kernel
theorem dX4_isOne_27 : decode cX4_isOne 27 = .ok (.iload_n 1, 1) := by decide +kernel
theorem dX4_isOne_28 : decode cX4_isOne 28 = .ok (.if_icmp .ne 7, 3) := by decide +kernel
theorem dX4_isOne_31 : decode cX4_isOne 31 = .ok (.iconst 1, 1) := by decide +kernel
theorem dX4_isOne_32 : decode cX4_isOne 32 = .ok (.goto 4, 3) := by decide +kernel
theorem dX4_isOne_35 : decode cX4_isOne 35 = .ok (.iconst 0, 1) := by decide +kernel
theorem dX4_isOne_36 : decode cX4_isOne 36 = .ok (.ireturn, 1) := by decide +kernel
theorem dX5_init_0 : decode cX5_init 0 = .ok (.aload_n 0, 1) := by decide +kernel
theorem dX5_init_1 : decode cX5_init 1 = .ok (.invokespecial 3, 3) := by decide +kernel
theorem dX5_init_4 : decode cX5_init 4 = .ok (.aload_n 0, 1) := by decide +kernel
theorem dX5_init_5 : decode cX5_init 5 = .ok (.sipush 400, 3) := by decide +kernel
theorem dX5_init_8 : decode cX5_init 8 = .ok (.newarray .byte, 2) := by decide +kernel
theorem dX5_init_10 : decode cX5_init 10 = .ok (.putfield 11, 3) := by decide +kernel
theorem dX5_init_13 : decode cX5_init 13 = .ok (.aload_n 0, 1) := by decide +kernel
theorem dX5_init_14 : decode cX5_init 14 = .ok (.iconst 0, 1) := by decide +kernel
theorem dX5_init_15 : decode cX5_init 15 = .ok (.putfield 15, 3) := by decide +kernel
theorem dX5_init_18 : decode cX5_init 18 = .ok (.aload_n 0, 1) := by decide +kernel
theorem dX5_init_19 : decode cX5_init 19 = .ok (.new 19, 3) := by decide +kernel
theorem dX5_init_22 : decode cX5_init 22 = .ok (.dup, 1) := by decide +kernel
theorem dX5_init_23 : decode cX5_init 23 = .ok (.invokespecial 21, 3) := by decide +kernel
theorem dX5_init_26 : decode cX5_init 26 = .ok (.putfield 22, 3) := by decide +kernel
theorem dX5_init_29 : decode cX5_init 29 = .ok (.aload_n 0, 1) := by decide +kernel
theorem dX5_init_30 : decode cX5_init 30 = .ok (.iconst 0, 1) := by decide +kernel
theorem dX5_init_31 : decode cX5_init 31 = .ok (.putfield 26, 3) := by decide +kernel
theorem dX5_init_34 : decode cX5_init 34 = .ok (.aload_n 0, 1) := by decide +kernel
theorem dX5_init_35 : decode cX5_init 35 = .ok (.iconst 0, 1) := by decide +kernel
theorem dX5_init_36 : decode cX5_init 36 = .ok (.putfield 29, 3) := by decide +kernel
theorem dX5_init_39 : decode cX5_init 39 = .ok (.aload_n 0, 1) := by decide +kernel
theorem dX5_init_40 : decode cX5_init 40 = .ok (.iconst 0, 1) := by decide +kernel
theorem dX5_init_41 : decode cX5_init 41 = .ok (.putfield 32, 3) := by decide +kernel
theorem dX5_init_44 : decode cX5_init 44 = .ok (.aload_n 0, 1) := by decide +kernel
theorem dX5_init_45 : decode cX5_init 45 = .ok (.iconst 0, 1) := by decide +kernel
theorem dX5_init_46 : decode cX5_init 46 = .ok (.putfield 35, 3) := by decide +kernel
theorem dX5_init_49 : decode cX5_init 49 = .ok (.aload_n 0, 1) := by decide +kernel
theorem dX5_init_50 : decode cX5_init 50 = .ok (.iconst 0, 1) := by decide +kernel
theorem dX5_init_51 : decode cX5_init 51 = .ok (.putfield 38, 3) := by decide +kernel
theorem dX5_init_54 : decode cX5_init 54 = .ok (.aload_n 0, 1) := by decide +kernel
theorem dX5_init_55 : decode cX5_init 55 = .ok (.iconst 0, 1) := by decide +kernel
theorem dX5_init_56 : decode cX5_init 56 = .ok (.putfield 41, 3) := by decide +kernel
theorem dX5_init_59 : decode cX5_init 59 = .ok (.return_, 1) := by decide +kernel
theorem dX5_length_0 : decode cX5_length 0 = .ok (.aload_n 0, 1) := by decide +kernel
theorem dX5_length_1 : decode cX5_length 1 = .ok (.getfield 15, 3) := by decide +kernel
theorem dX5_length_4 : decode cX5_length 4 = .ok (.ireturn, 1) := by decide +kernel
theorem dX5_faultNumber_0 : decode cX5_faultNumber 0 = .ok (.aload_n 0, 1) := by decide +kernel
theorem dX5_faultNumber_1 : decode cX5_faultNumber 1 = .ok (.getfield 26, 3) := by decide +kernel
theorem dX5_faultNumber_4 : decode cX5_faultNumber 4 = .ok (.ireturn, 1) := by decide +kernel
theorem dX5_faultPlace_0 : decode cX5_faultPlace 0 = .ok (.aload_n 0, 1) := by decide +kernel
theorem dX5_faultPlace_1 : decode cX5_faultPlace 1 = .ok (.getfield 29, 3) := by decide +kernel
theorem dX5_faultPlace_4 : decode cX5_faultPlace 4 = .ok (.ireturn, 1) := by decide +kernel
theorem dX5_draft_0 : decode cX5_draft 0 = .ok (.aload_n 0, 1) := by decide +kernel
theorem dX5_draft_1 : decode cX5_draft 1 = .ok (.getfield 22, 3) := by decide +kernel
theorem dX5_draft_4 : decode cX5_draft 4 = .ok (.areturn, 1) := by decide +kernel
theorem dX5_append_0 : decode cX5_append 0 = .ok (.aload_n 0, 1) := by decide +kernel
theorem dX5_append_1 : decode cX5_append 1 = .ok (.getfield 15, 3) := by decide +kernel
theorem dX5_append_4 : decode cX5_append 4 = .ok (.iload_n 3, 1) := by decide +kernel
theorem dX5_append_5 : decode cX5_append 5 = .ok (.iadd, 1) := by decide +kernel
theorem dX5_append_6 : decode cX5_append 6 = .ok (.sipush 400, 3) := by decide +kernel
theorem dX5_append_9 : decode cX5_append 9 = .ok (.if_icmp .le 5, 3) := by decide +kernel
theorem dX5_append_12 : decode cX5_append 12 = .ok (.iconst 0, 1) := by decide +kernel
theorem dX5_append_13 : decode cX5_append 13 = .ok (.ireturn, 1) := by decide +kernel
theorem dX5_append_14 : decode cX5_append 14 = .ok (.iload_n 3, 1) := by decide +kernel
theorem dX5_append_15 : decode cX5_append 15 = .ok (.iconst 1, 1) := by decide +kernel
theorem dX5_append_16 : decode cX5_append 16 = .ok (.isub, 1) := by decide +kernel
theorem dX5_append_17 : decode cX5_append 17 = .ok (.istore 4, 2) := by decide +kernel
theorem dX5_append_19 : decode cX5_append 19 = .ok (.iload 4, 2) := by decide +kernel
theorem dX5_append_21 : decode cX5_append 21 = .ok (.ifCond .lt 37, 3) := by decide +kernel
theorem dX5_append_24 : decode cX5_append 24 = .ok (.aload_n 0, 1) := by decide +kernel
theorem dX5_append_25 : decode cX5_append 25 = .ok (.getfield 11, 3) := by decide +kernel
theorem dX5_append_28 : decode cX5_append 28 = .ok (.aload_n 0, 1) := by decide +kernel
theorem dX5_append_29 : decode cX5_append 29 = .ok (.getfield 15, 3) := by decide +kernel
theorem dX5_append_32 : decode cX5_append 32 = .ok (.lload_n 1, 1) := by decide +kernel
theorem dX5_append_33 : decode cX5_append 33 = .ok (.bipush 8, 2) := by decide +kernel
theorem dX5_append_35 : decode cX5_append 35 = .ok (.iload 4, 2) := by decide +kernel
theorem dX5_append_37 : decode cX5_append 37 = .ok (.imul, 1) := by decide +kernel
theorem dX5_append_38 : decode cX5_append 38 = .ok (.lshr, 1) := by decide +kernel
theorem dX5_append_39 : decode cX5_append 39 = .ok (.l2i, 1) := by decide +kernel
theorem dX5_append_40 : decode cX5_append 40 = .ok (.i2b, 1) := by decide +kernel
theorem dX5_append_41 : decode cX5_append 41 = .ok (.bastore, 1) := by decide +kernel
theorem dX5_append_42 : decode cX5_append 42 = .ok (.aload_n 0, 1) := by decide +kernel
theorem dX5_append_43 : decode cX5_append 43 = .ok (.dup, 1) := by decide +kernel
theorem dX5_append_44 : decode cX5_append 44 = .ok (.getfield 15, 3) := by decide +kernel
theorem dX5_append_47 : decode cX5_append 47 = .ok (.iconst 1, 1) := by decide +kernel
theorem dX5_append_48 : decode cX5_append 48 = .ok (.iadd, 1) := by decide +kernel
theorem dX5_append_49 : decode cX5_append 49 = .ok (.putfield 15, 3) := by decide +kernel
theorem dX5_append_52 : decode cX5_append 52 = .ok (.iinc 4 (-1), 3) := by decide +kernel
theorem dX5_append_55 : decode cX5_append 55 = .ok (.goto (-36), 3) := by decide +kernel
theorem dX5_append_58 : decode cX5_append 58 = .ok (.iconst 1, 1) := by decide +kernel
theorem dX5_append_59 : decode cX5_append 59 = .ok (.ireturn, 1) := by decide +kernel
theorem dX5_readTape_0 : decode cX5_readTape 0 = .ok (.aload_n 0, 1) := by decide +kernel
theorem dX5_readTape_1 : decode cX5_readTape 1 = .ok (.getfield 22, 3) := by decide +kernel
theorem dX5_readTape_4 : decode cX5_readTape 4 = .ok (.invokevirtual 44, 3) := by decide +kernel
theorem dX5_readTape_7 : decode cX5_readTape 7 = .ok (.aload_n 0, 1) := by decide +kernel
theorem dX5_readTape_8 : decode cX5_readTape 8 = .ok (.iconst 0, 1) := by decide +kernel
theorem dX5_readTape_9 : decode cX5_readTape 9 = .ok (.putfield 35, 3) := by decide +kernel
theorem dX5_readTape_12 : decode cX5_readTape 12 = .ok (.aload_n 0, 1) := by decide +kernel
theorem dX5_readTape_13 : decode cX5_readTape 13 = .ok (.invokevirtual 47, 3) := by decide +kernel
theorem dX5_readTape_16 : decode cX5_readTape 16 = .ok (.aload_n 0, 1) := by decide +kernel
theorem dX5_readTape_17 : decode cX5_readTape 17 = .ok (.invokevirtual 50, 3) := by decide +kernel
theorem dX5_readTape_20 : decode cX5_readTape 20 = .ok (.ifCond .eq 28, 3) := by decide +kernel
theorem dX5_readTape_23 : decode cX5_readTape 23 = .ok (.aload_n 0, 1) := by decide +kernel
theorem dX5_readTape_24 : decode cX5_readTape 24 = .ok (.invokevirtual 54, 3) := by decide +kernel
theorem dX5_readTape_27 : decode cX5_readTape 27 = .ok (.ifCond .eq 21, 3) := by decide +kernel
theorem dX5_readTape_30 : decode cX5_readTape 30 = .ok (.aload_n 0, 1) := by decide +kernel
theorem dX5_readTape_31 : decode cX5_readTape 31 = .ok (.invokevirtual 57, 3) := by decide +kernel
theorem dX5_readTape_34 : decode cX5_readTape 34 = .ok (.ifCond .eq 14, 3) := by decide +kernel
theorem dX5_readTape_37 : decode cX5_readTape 37 = .ok (.aload_n 0, 1) := by decide +kernel
theorem dX5_readTape_38 : decode cX5_readTape 38 = .ok (.invokevirtual 60, 3) := by decide +kernel
theorem dX5_readTape_41 : decode cX5_readTape 41 = .ok (.ifCond .eq 7, 3) := by decide +kernel
theorem dX5_readTape_44 : decode cX5_readTape 44 = .ok (.iconst 1, 1) := by decide +kernel
theorem dX5_readTape_45 : decode cX5_readTape 45 = .ok (.goto 4, 3) := by decide +kernel
theorem dX5_readTape_48 : decode cX5_readTape 48 = .ok (.iconst 0, 1) := by decide +kernel
theorem dX5_readTape_49 : decode cX5_readTape 49 = .ok (.istore_n 1, 1) := by decide +kernel
theorem dX5_readTape_50 : decode cX5_readTape 50 = .ok (.aload_n 0, 1) := by decide +kernel
theorem dX5_readTape_51 : decode cX5_readTape 51 = .ok (.iconst 0, 1) := by decide +kernel
theorem dX5_readTape_52 : decode cX5_readTape 52 = .ok (.putfield 15, 3) := by decide +kernel
theorem dX5_readTape_55 : decode cX5_readTape 55 = .ok (.iload_n 1, 1) := by decide +kernel
theorem dX5_readTape_56 : decode cX5_readTape 56 = .ok (.ireturn, 1) := by decide +kernel
theorem dX5_readFacts_0 : decode cX5_readFacts 0 = .ok (.aload_n 0, 1) := by decide +kernel
theorem dX5_readFacts_1 : decode cX5_readFacts 1 = .ok (.ldc 63, 2) := by decide +kernel
theorem dX5_readFacts_3 : decode cX5_readFacts 3 = .ok (.invokevirtual 65, 3) := by decide +kernel
theorem dX5_readFacts_6 : decode cX5_readFacts 6 = .ok (.ifCond .ne 9, 3) := by decide +kernel
theorem dX5_readFacts_9 : decode cX5_readFacts 9 = .ok (.aload_n 0, 1) := by decide +kernel
theorem dX5_readFacts_10 : decode cX5_readFacts 10 = .ok (.iconst 1, 1) := by decide +kernel
theorem dX5_readFacts_11 : decode cX5_readFacts 11 = .ok (.invokevirtual 69, 3) := by decide +kernel
theorem dX5_readFacts_14 : decode cX5_readFacts 14 = .ok (.ireturn, 1) := by decide +kernel
theorem dX5_readFacts_15 : decode cX5_readFacts 15 = .ok (.aload_n 0, 1) := by decide +kernel
theorem dX5_readFacts_16 : decode cX5_readFacts 16 = .ok (.iconst 0, 1) := by decide +kernel
theorem dX5_readFacts_17 : decode cX5_readFacts 17 = .ok (.sipush 255, 3) := by decide +kernel
theorem dX5_readFacts_20 : decode cX5_readFacts 20 = .ok (.invokevirtual 73, 3) := by decide +kernel
theorem dX5_readFacts_23 : decode cX5_readFacts 23 = .ok (.ifCond .ne 5, 3) := by decide +kernel
theorem dX5_readFacts_26 : decode cX5_readFacts 26 = .ok (.iconst 0, 1) := by decide +kernel
theorem dX5_readFacts_27 : decode cX5_readFacts 27 = .ok (.ireturn, 1) := by decide +kernel
theorem dX5_readFacts_28 : decode cX5_readFacts 28 = .ok (.aload_n 0, 1) := by decide +kernel
theorem dX5_readFacts_29 : decode cX5_readFacts 29 = .ok (.getfield 22, 3) := by decide +kernel
theorem dX5_readFacts_32 : decode cX5_readFacts 32 = .ok (.aload_n 0, 1) := by decide +kernel
theorem dX5_readFacts_33 : decode cX5_readFacts 33 = .ok (.getfield 41, 3) := by decide +kernel
theorem dX5_readFacts_36 : decode cX5_readFacts 36 = .ok (.putfield 77, 3) := by decide +kernel
theorem dX5_readFacts_39 : decode cX5_readFacts 39 = .ok (.aload_n 0, 1) := by decide +kernel
theorem dX5_readFacts_40 : decode cX5_readFacts 40 = .ok (.bipush 8, 2) := by decide +kernel
theorem dX5_readFacts_42 : decode cX5_readFacts 42 = .ok (.bipush 15, 2) := by decide +kernel
theorem dX5_readFacts_44 : decode cX5_readFacts 44 = .ok (.invokevirtual 73, 3) := by decide +kernel
theorem dX5_readFacts_47 : decode cX5_readFacts 47 = .ok (.ifCond .ne 5, 3) := by decide +kernel
theorem dX5_readFacts_50 : decode cX5_readFacts 50 = .ok (.iconst 0, 1) := by decide +kernel
theorem dX5_readFacts_51 : decode cX5_readFacts 51 = .ok (.ireturn, 1) := by decide +kernel
theorem dX5_readFacts_52 : decode cX5_readFacts 52 = .ok (.aload_n 0, 1) := by decide +kernel
theorem dX5_readFacts_53 : decode cX5_readFacts 53 = .ok (.getfield 22, 3) := by decide +kernel
theorem dX5_readFacts_56 : decode cX5_readFacts 56 = .ok (.aload_n 0, 1) := by decide +kernel
theorem dX5_readFacts_57 : decode cX5_readFacts 57 = .ok (.getfield 41, 3) := by decide +kernel
theorem dX5_readFacts_60 : decode cX5_readFacts 60 = .ok (.putfield 80, 3) := by decide +kernel
theorem dX5_readFacts_63 : decode cX5_readFacts 63 = .ok (.aload_n 0, 1) := by decide +kernel
theorem dX5_readFacts_64 : decode cX5_readFacts 64 = .ok (.invokevirtual 83, 3) := by decide +kernel
theorem dX5_readFacts_67 : decode cX5_readFacts 67 = .ok (.ireturn, 1) := by decide +kernel
theorem dX5_readWalls_0 : decode cX5_readWalls 0 = .ok (.iconst 0, 1) := by decide +kernel
theorem dX5_readWalls_1 : decode cX5_readWalls 1 = .ok (.istore_n 1, 1) := by decide +kernel
theorem dX5_readWalls_2 : decode cX5_readWalls 2 = .ok (.iload_n 1, 1) := by decide +kernel
theorem dX5_readWalls_3 : decode cX5_readWalls 3 = .ok (.bipush 12, 2) := by decide +kernel
theorem dX5_readWalls_5 : decode cX5_readWalls 5 = .ok (.if_icmp .gt 86, 3) := by decide +kernel
theorem dX5_readWalls_8 : decode cX5_readWalls 8 = .ok (.aload_n 0, 1) := by decide +kernel
theorem dX5_readWalls_9 : decode cX5_readWalls 9 = .ok (.ldc 86, 2) := by decide +kernel
theorem dX5_readWalls_11 : decode cX5_readWalls 11 = .ok (.invokevirtual 65, 3) := by decide +kernel
theorem dX5_readWalls_14 : decode cX5_readWalls 14 = .ok (.ifCond .eq 77, 3) := by decide +kernel
theorem dX5_readWalls_17 : decode cX5_readWalls 17 = .ok (.iload_n 1, 1) := by decide +kernel
theorem dX5_readWalls_18 : decode cX5_readWalls 18 = .ok (.bipush 12, 2) := by decide +kernel
theorem dX5_readWalls_20 : decode cX5_readWalls 20 = .ok (.if_icmp .ne 9, 3) := by decide +kernel
theorem dX5_readWalls_23 : decode cX5_readWalls 23 = .ok (.aload_n 0, 1) := by decide +kernel
theorem dX5_readWalls_24 : decode cX5_readWalls 24 = .ok (.iconst 3, 1) := by decide +kernel
theorem dX5_readWalls_25 : decode cX5_readWalls 25 = .ok (.invokevirtual 69, 3) := by decide +kernel
theorem dX5_readWalls_28 : decode cX5_readWalls 28 = .ok (.ireturn, 1) := by decide +kernel
theorem dX5_readWalls_29 : decode cX5_readWalls 29 = .ok (.aload_n 0, 1) := by decide +kernel
theorem dX5_readWalls_30 : decode cX5_readWalls 30 = .ok (.iconst 0, 1) := by decide +kernel
theorem dX5_readWalls_31 : decode cX5_readWalls 31 = .ok (.bipush 15, 2) := by decide +kernel
theorem dX5_readWalls_33 : decode cX5_readWalls 33 = .ok (.invokevirtual 73, 3) := by decide +kernel
theorem dX5_readWalls_36 : decode cX5_readWalls 36 = .ok (.ifCond .ne 5, 3) := by decide +kernel
theorem dX5_readWalls_39 : decode cX5_readWalls 39 = .ok (.iconst 0, 1) := by decide +kernel
theorem dX5_readWalls_40 : decode cX5_readWalls 40 = .ok (.ireturn, 1) := by decide +kernel
theorem dX5_readWalls_41 : decode cX5_readWalls 41 = .ok (.aload_n 0, 1) := by decide +kernel
theorem dX5_readWalls_42 : decode cX5_readWalls 42 = .ok (.getfield 41, 3) := by decide +kernel
theorem dX5_readWalls_45 : decode cX5_readWalls 45 = .ok (.istore_n 2, 1) := by decide +kernel
theorem dX5_readWalls_46 : decode cX5_readWalls 46 = .ok (.aload_n 0, 1) := by decide +kernel
theorem dX5_readWalls_47 : decode cX5_readWalls 47 = .ok (.iconst 0, 1) := by decide +kernel
theorem dX5_readWalls_48 : decode cX5_readWalls 48 = .ok (.bipush 7, 2) := by decide +kernel
theorem dX5_readWalls_50 : decode cX5_readWalls 50 = .ok (.invokevirtual 73, 3) := by decide +kernel
theorem dX5_readWalls_53 : decode cX5_readWalls 53 = .ok (.ifCond .ne 5, 3) := by decide +kernel
theorem dX5_readWalls_56 : decode cX5_readWalls 56 = .ok (.iconst 0, 1) := by decide +kernel
theorem dX5_readWalls_57 : decode cX5_readWalls 57 = .ok (.ireturn, 1) := by decide +kernel
theorem dX5_readWalls_58 : decode cX5_readWalls 58 = .ok (.aload_n 0, 1) := by decide +kernel
theorem dX5_readWalls_59 : decode cX5_readWalls 59 = .ok (.getfield 22, 3) := by decide +kernel
theorem dX5_readWalls_62 : decode cX5_readWalls 62 = .ok (.getfield 88, 3) := by decide +kernel
theorem dX5_readWalls_65 : decode cX5_readWalls 65 = .ok (.aload_n 0, 1) := by decide +kernel
theorem dX5_readWalls_66 : decode cX5_readWalls 66 = .ok (.getfield 41, 3) := by decide +kernel
theorem dX5_readWalls_69 : decode cX5_readWalls 69 = .ok (.dup2, 1) := by decide +kernel
theorem dX5_readWalls_70 : decode cX5_readWalls 70 = .ok (.iaload, 1) := by decide +kernel
theorem dX5_readWalls_71 : decode cX5_readWalls 71 = .ok (.iconst 1, 1) := by decide +kernel
theorem dX5_readWalls_72 : decode cX5_readWalls 72 = .ok (.iload_n 2, 1) := by decide +kernel
theorem dX5_readWalls_73 : decode cX5_readWalls 73 = .ok (.ishl, 1) := by decide +kernel
theorem dX5_readWalls_74 : decode cX5_readWalls 74 = .ok (.ior, 1) := by decide +kernel
theorem dX5_readWalls_75 : decode cX5_readWalls 75 = .ok (.iastore, 1) := by decide +kernel
theorem dX5_readWalls_76 : decode cX5_readWalls 76 = .ok (.aload_n 0, 1) := by decide +kernel
theorem dX5_readWalls_77 : decode cX5_readWalls 77 = .ok (.invokevirtual 83, 3) := by decide +kernel
theorem dX5_readWalls_80 : decode cX5_readWalls 80 = .ok (.ifCond .ne 5, 3) := by decide +kernel
theorem dX5_readWalls_83 : decode cX5_readWalls 83 = .ok (.iconst 0, 1) := by decide +kernel
theorem dX5_readWalls_84 : decode cX5_readWalls 84 = .ok (.ireturn, 1) := by decide +kernel
theorem dX5_readWalls_85 : decode cX5_readWalls 85 = .ok (.iinc 1 1, 3) := by decide +kernel
theorem dX5_readWalls_88 : decode cX5_readWalls 88 = .ok (.goto (-86), 3) := by decide +kernel
theorem dX5_readWalls_91 : decode cX5_readWalls 91 = .ok (.iconst 1, 1) := by decide +kernel
theorem dX5_readWalls_92 : decode cX5_readWalls 92 = .ok (.ireturn, 1) := by decide +kernel
theorem dX5_readPaths_0 : decode cX5_readPaths 0 = .ok (.iconst 0, 1) := by decide +kernel
theorem dX5_readPaths_1 : decode cX5_readPaths 1 = .ok (.istore_n 1, 1) := by decide +kernel
theorem dX5_readPaths_2 : decode cX5_readPaths 2 = .ok (.iload_n 1, 1) := by decide +kernel
theorem dX5_readPaths_3 : decode cX5_readPaths 3 = .ok (.bipush 8, 2) := by decide +kernel
theorem dX5_readPaths_5 : decode cX5_readPaths 5 = .ok (.if_icmp .gt 107, 3) := by decide +kernel
theorem dX5_readPaths_8 : decode cX5_readPaths 8 = .ok (.aload_n 0, 1) := by decide +kernel
theorem dX5_readPaths_9 : decode cX5_readPaths 9 = .ok (.ldc 92, 2) := by decide +kernel
theorem dX5_readPaths_11 : decode cX5_readPaths 11 = .ok (.invokevirtual 65, 3) := by decide +kernel
theorem dX5_readPaths_14 : decode cX5_readPaths 14 = .ok (.ifCond .eq 98, 3) := by decide +kernel
theorem dX5_readPaths_17 : decode cX5_readPaths 17 = .ok (.iload_n 1, 1) := by decide +kernel
theorem dX5_readPaths_18 : decode cX5_readPaths 18 = .ok (.bipush 8, 2) := by decide +kernel
theorem dX5_readPaths_20 : decode cX5_readPaths 20 = .ok (.if_icmp .ne 9, 3) := by decide +kernel
theorem dX5_readPaths_23 : decode cX5_readPaths 23 = .ok (.aload_n 0, 1) := by decide +kernel
theorem dX5_readPaths_24 : decode cX5_readPaths 24 = .ok (.iconst 3, 1) := by decide +kernel
theorem dX5_readPaths_25 : decode cX5_readPaths 25 = .ok (.invokevirtual 69, 3) := by decide +kernel
theorem dX5_readPaths_28 : decode cX5_readPaths 28 = .ok (.ireturn, 1) := by decide +kernel
theorem dX5_readPaths_29 : decode cX5_readPaths 29 = .ok (.aload_n 0, 1) := by decide +kernel
theorem dX5_readPaths_30 : decode cX5_readPaths 30 = .ok (.iconst 0, 1) := by decide +kernel
theorem dX5_readPaths_31 : decode cX5_readPaths 31 = .ok (.bipush 7, 2) := by decide +kernel
theorem dX5_readPaths_33 : decode cX5_readPaths 33 = .ok (.invokevirtual 73, 3) := by decide +kernel
theorem dX5_readPaths_36 : decode cX5_readPaths 36 = .ok (.ifCond .ne 5, 3) := by decide +kernel
theorem dX5_readPaths_39 : decode cX5_readPaths 39 = .ok (.iconst 0, 1) := by decide +kernel
theorem dX5_readPaths_40 : decode cX5_readPaths 40 = .ok (.ireturn, 1) := by decide +kernel
theorem dX5_readPaths_41 : decode cX5_readPaths 41 = .ok (.aload_n 0, 1) := by decide +kernel
theorem dX5_readPaths_42 : decode cX5_readPaths 42 = .ok (.getfield 41, 3) := by decide +kernel
theorem dX5_readPaths_45 : decode cX5_readPaths 45 = .ok (.istore_n 2, 1) := by decide +kernel
theorem dX5_readPaths_46 : decode cX5_readPaths 46 = .ok (.aload_n 0, 1) := by decide +kernel
theorem dX5_readPaths_47 : decode cX5_readPaths 47 = .ok (.iconst 0, 1) := by decide +kernel
theorem dX5_readPaths_48 : decode cX5_readPaths 48 = .ok (.bipush 15, 2) := by decide +kernel
theorem dX5_readPaths_50 : decode cX5_readPaths 50 = .ok (.invokevirtual 73, 3) := by decide +kernel
theorem dX5_readPaths_53 : decode cX5_readPaths 53 = .ok (.ifCond .ne 5, 3) := by decide +kernel
theorem dX5_readPaths_56 : decode cX5_readPaths 56 = .ok (.iconst 0, 1) := by decide +kernel
theorem dX5_readPaths_57 : decode cX5_readPaths 57 = .ok (.ireturn, 1) := by decide +kernel
theorem dX5_readPaths_58 : decode cX5_readPaths 58 = .ok (.aload_n 0, 1) := by decide +kernel
theorem dX5_readPaths_59 : decode cX5_readPaths 59 = .ok (.getfield 41, 3) := by decide +kernel
theorem dX5_readPaths_62 : decode cX5_readPaths 62 = .ok (.istore_n 3, 1) := by decide +kernel
theorem dX5_readPaths_63 : decode cX5_readPaths 63 = .ok (.aload_n 0, 1) := by decide +kernel
theorem dX5_readPaths_64 : decode cX5_readPaths 64 = .ok (.iload_n 3, 1) := by decide +kernel
theorem dX5_readPaths_65 : decode cX5_readPaths 65 = .ok (.bipush 15, 2) := by decide +kernel
theorem dX5_readPaths_67 : decode cX5_readPaths 67 = .ok (.invokevirtual 73, 3) := by decide +kernel
theorem dX5_readPaths_70 : decode cX5_readPaths 70 = .ok (.ifCond .ne 5, 3) := by decide +kernel
theorem dX5_readPaths_73 : decode cX5_readPaths 73 = .ok (.iconst 0, 1) := by decide +kernel
theorem dX5_readPaths_74 : decode cX5_readPaths 74 = .ok (.ireturn, 1) := by decide +kernel
theorem dX5_readPaths_75 : decode cX5_readPaths 75 = .ok (.aload_n 0, 1) := by decide +kernel
theorem dX5_readPaths_76 : decode cX5_readPaths 76 = .ok (.getfield 22, 3) := by decide +kernel
theorem dX5_readPaths_79 : decode cX5_readPaths 79 = .ok (.getfield 94, 3) := by decide +kernel
theorem dX5_readPaths_82 : decode cX5_readPaths 82 = .ok (.iload_n 2, 1) := by decide +kernel
theorem dX5_readPaths_83 : decode cX5_readPaths 83 = .ok (.dup2, 1) := by decide +kernel
theorem dX5_readPaths_84 : decode cX5_readPaths 84 = .ok (.iaload, 1) := by decide +kernel
theorem dX5_readPaths_85 : decode cX5_readPaths 85 = .ok (.iconst 2, 1) := by decide +kernel
theorem dX5_readPaths_86 : decode cX5_readPaths 86 = .ok (.aload_n 0, 1) := by decide +kernel
theorem dX5_readPaths_87 : decode cX5_readPaths 87 = .ok (.getfield 41, 3) := by decide +kernel
theorem dX5_readPaths_90 : decode cX5_readPaths 90 = .ok (.ishl, 1) := by decide +kernel
theorem dX5_readPaths_91 : decode cX5_readPaths 91 = .ok (.iconst 1, 1) := by decide +kernel
theorem dX5_readPaths_92 : decode cX5_readPaths 92 = .ok (.iload_n 3, 1) := by decide +kernel
theorem dX5_readPaths_93 : decode cX5_readPaths 93 = .ok (.ishl, 1) := by decide +kernel
theorem dX5_readPaths_94 : decode cX5_readPaths 94 = .ok (.isub, 1) := by decide +kernel
theorem dX5_readPaths_95 : decode cX5_readPaths 95 = .ok (.ior, 1) := by decide +kernel
theorem dX5_readPaths_96 : decode cX5_readPaths 96 = .ok (.iastore, 1) := by decide +kernel
theorem dX5_readPaths_97 : decode cX5_readPaths 97 = .ok (.aload_n 0, 1) := by decide +kernel
theorem dX5_readPaths_98 : decode cX5_readPaths 98 = .ok (.invokevirtual 83, 3) := by decide +kernel
theorem dX5_readPaths_101 : decode cX5_readPaths 101 = .ok (.ifCond .ne 5, 3) := by decide +kernel
theorem dX5_readPaths_104 : decode cX5_readPaths 104 = .ok (.iconst 0, 1) := by decide +kernel
theorem dX5_readPaths_105 : decode cX5_readPaths 105 = .ok (.ireturn, 1) := by decide +kernel
theorem dX5_readPaths_106 : decode cX5_readPaths 106 = .ok (.iinc 1 1, 3) := by decide +kernel
theorem dX5_readPaths_109 : decode cX5_readPaths 109 = .ok (.goto (-107), 3) := by decide +kernel
theorem dX5_readPaths_112 : decode cX5_readPaths 112 = .ok (.iconst 1, 1) := by decide +kernel
theorem dX5_readPaths_113 : decode cX5_readPaths 113 = .ok (.ireturn, 1) := by decide +kernel
theorem dX5_readHouses_0 : decode cX5_readHouses 0 = .ok (.aload_n 0, 1) := by decide +kernel
theorem dX5_readHouses_1 : decode cX5_readHouses 1 = .ok (.ldc 97, 2) := by decide +kernel
theorem dX5_readHouses_3 : decode cX5_readHouses 3 = .ok (.invokevirtual 65, 3) := by decide +kernel
theorem dX5_readHouses_6 : decode cX5_readHouses 6 = .ok (.ifCond .ne 9, 3) := by decide +kernel
theorem dX5_readHouses_9 : decode cX5_readHouses 9 = .ok (.aload_n 0, 1) := by decide +kernel
theorem dX5_readHouses_10 : decode cX5_readHouses 10 = .ok (.iconst 1, 1) := by decide +kernel
theorem dX5_readHouses_11 : decode cX5_readHouses 11 = .ok (.invokevirtual 69, 3) := by decide +kernel
theorem dX5_readHouses_14 : decode cX5_readHouses 14 = .ok (.ireturn, 1) := by decide +kernel
theorem dX5_readHouses_15 : decode cX5_readHouses 15 = .ok (.iconst 0, 1) := by decide +kernel
theorem dX5_readHouses_16 : decode cX5_readHouses 16 = .ok (.istore_n 1, 1) := by decide +kernel
theorem dX5_readHouses_17 : decode cX5_readHouses 17 = .ok (.iload_n 1, 1) := by decide +kernel
theorem dX5_readHouses_18 : decode cX5_readHouses 18 = .ok (.bipush 6, 2) := by decide +kernel
theorem dX5_readHouses_20 : decode cX5_readHouses 20 = .ok (.if_icmp .gt 39, 3) := by decide +kernel
theorem dX5_readHouses_23 : decode cX5_readHouses 23 = .ok (.aload_n 0, 1) := by decide +kernel
theorem dX5_readHouses_24 : decode cX5_readHouses 24 = .ok (.ldc 97, 2) := by decide +kernel
theorem dX5_readHouses_26 : decode cX5_readHouses 26 = .ok (.invokevirtual 65, 3) := by decide +kernel
theorem dX5_readHouses_29 : decode cX5_readHouses 29 = .ok (.ifCond .eq 30, 3) := by decide +kernel
theorem dX5_readHouses_32 : decode cX5_readHouses 32 = .ok (.iload_n 1, 1) := by decide +kernel
theorem dX5_readHouses_33 : decode cX5_readHouses 33 = .ok (.bipush 6, 2) := by decide +kernel
theorem dX5_readHouses_35 : decode cX5_readHouses 35 = .ok (.if_icmp .ne 9, 3) := by decide +kernel
theorem dX5_readHouses_38 : decode cX5_readHouses 38 = .ok (.aload_n 0, 1) := by decide +kernel
theorem dX5_readHouses_39 : decode cX5_readHouses 39 = .ok (.iconst 3, 1) := by decide +kernel
theorem dX5_readHouses_40 : decode cX5_readHouses 40 = .ok (.invokevirtual 69, 3) := by decide +kernel
theorem dX5_readHouses_43 : decode cX5_readHouses 43 = .ok (.ireturn, 1) := by decide +kernel
theorem dX5_readHouses_44 : decode cX5_readHouses 44 = .ok (.aload_n 0, 1) := by decide +kernel
theorem dX5_readHouses_45 : decode cX5_readHouses 45 = .ok (.invokevirtual 99, 3) := by decide +kernel
theorem dX5_readHouses_48 : decode cX5_readHouses 48 = .ok (.ifCond .ne 5, 3) := by decide +kernel
theorem dX5_readHouses_51 : decode cX5_readHouses 51 = .ok (.iconst 0, 1) := by decide +kernel
theorem dX5_readHouses_52 : decode cX5_readHouses 52 = .ok (.ireturn, 1) := by decide +kernel
theorem dX5_readHouses_53 : decode cX5_readHouses 53 = .ok (.iinc 1 1, 3) := by decide +kernel
theorem dX5_readHouses_56 : decode cX5_readHouses 56 = .ok (.goto (-39), 3) := by decide +kernel
theorem dX5_readHouses_59 : decode cX5_readHouses 59 = .ok (.aload_n 0, 1) := by decide +kernel
theorem dX5_readHouses_60 : decode cX5_readHouses 60 = .ok (.getfield 38, 3) := by decide +kernel
theorem dX5_readHouses_63 : decode cX5_readHouses 63 = .ok (.ifCond .eq 11, 3) := by decide +kernel
theorem dX5_readHouses_66 : decode cX5_readHouses 66 = .ok (.aload_n 0, 1) := by decide +kernel
theorem dX5_readHouses_67 : decode cX5_readHouses 67 = .ok (.iconst 1, 1) := by decide +kernel
theorem dX5_readHouses_68 : decode cX5_readHouses 68 = .ok (.invokevirtual 69, 3) := by decide +kernel
theorem dX5_readHouses_71 : decode cX5_readHouses 71 = .ok (.ifCond .eq 7, 3) := by decide +kernel
theorem dX5_readHouses_74 : decode cX5_readHouses 74 = .ok (.iconst 1, 1) := by decide +kernel
theorem dX5_readHouses_75 : decode cX5_readHouses 75 = .ok (.goto 4, 3) := by decide +kernel
theorem dX5_readHouses_78 : decode cX5_readHouses 78 = .ok (.iconst 0, 1) := by decide +kernel
theorem dX5_readHouses_79 : decode cX5_readHouses 79 = .ok (.ireturn, 1) := by decide +kernel
theorem dX5_readHouse_0 : decode cX5_readHouse 0 = .ok (.aload_n 0, 1) := by decide +kernel
theorem dX5_readHouse_1 : decode cX5_readHouse 1 = .ok (.invokevirtual 47, 3) := by decide +kernel
theorem dX5_readHouse_4 : decode cX5_readHouse 4 = .ok (.aload_n 0, 1) := by decide +kernel
theorem dX5_readHouse_5 : decode cX5_readHouse 5 = .ok (.invokevirtual 102, 3) := by decide +kernel
theorem dX5_readHouse_8 : decode cX5_readHouse 8 = .ok (.istore_n 1, 1) := by decide +kernel
theorem dX5_readHouse_9 : decode cX5_readHouse 9 = .ok (.iload_n 1, 1) := by decide +kernel
theorem dX5_readHouse_10 : decode cX5_readHouse 10 = .ok (.ifCond .ne 9, 3) := by decide +kernel
theorem dX5_readHouse_13 : decode cX5_readHouse 13 = .ok (.aload_n 0, 1) := by decide +kernel
theorem dX5_readHouse_14 : decode cX5_readHouse 14 = .ok (.iconst 1, 1) := by decide +kernel
theorem dX5_readHouse_15 : decode cX5_readHouse 15 = .ok (.invokevirtual 69, 3) := by decide +kernel
theorem dX5_readHouse_18 : decode cX5_readHouse 18 = .ok (.ireturn, 1) := by decide +kernel
theorem dX5_readHouse_19 : decode cX5_readHouse 19 = .ok (.aload_n 0, 1) := by decide +kernel
theorem dX5_readHouse_20 : decode cX5_readHouse 20 = .ok (.iconst 0, 1) := by decide +kernel
theorem dX5_readHouse_21 : decode cX5_readHouse 21 = .ok (.bipush 15, 2) := by decide +kernel
theorem dX5_readHouse_23 : decode cX5_readHouse 23 = .ok (.invokevirtual 73, 3) := by decide +kernel
theorem dX5_readHouse_26 : decode cX5_readHouse 26 = .ok (.ifCond .ne 5, 3) := by decide +kernel
theorem dX5_readHouse_29 : decode cX5_readHouse 29 = .ok (.iconst 0, 1) := by decide +kernel
theorem dX5_readHouse_30 : decode cX5_readHouse 30 = .ok (.ireturn, 1) := by decide +kernel
theorem dX5_readHouse_31 : decode cX5_readHouse 31 = .ok (.aload_n 0, 1) := by decide +kernel
theorem dX5_readHouse_32 : decode cX5_readHouse 32 = .ok (.getfield 41, 3) := by decide +kernel
theorem dX5_readHouse_35 : decode cX5_readHouse 35 = .ok (.istore_n 2, 1) := by decide +kernel
theorem dX5_readHouse_36 : decode cX5_readHouse 36 = .ok (.aload_n 0, 1) := by decide +kernel
theorem dX5_readHouse_37 : decode cX5_readHouse 37 = .ok (.iconst 0, 1) := by decide +kernel
theorem dX5_readHouse_38 : decode cX5_readHouse 38 = .ok (.bipush 7, 2) := by decide +kernel
theorem dX5_readHouse_40 : decode cX5_readHouse 40 = .ok (.invokevirtual 73, 3) := by decide +kernel
theorem dX5_readHouse_43 : decode cX5_readHouse 43 = .ok (.ifCond .ne 5, 3) := by decide +kernel
theorem dX5_readHouse_46 : decode cX5_readHouse 46 = .ok (.iconst 0, 1) := by decide +kernel
theorem dX5_readHouse_47 : decode cX5_readHouse 47 = .ok (.ireturn, 1) := by decide +kernel
theorem dX5_readHouse_48 : decode cX5_readHouse 48 = .ok (.aload_n 0, 1) := by decide +kernel
theorem dX5_readHouse_49 : decode cX5_readHouse 49 = .ok (.getfield 41, 3) := by decide +kernel
theorem dX5_readHouse_52 : decode cX5_readHouse 52 = .ok (.istore_n 3, 1) := by decide +kernel
theorem dX5_readHouse_53 : decode cX5_readHouse 53 = .ok (.aload_n 0, 1) := by decide +kernel
theorem dX5_readHouse_54 : decode cX5_readHouse 54 = .ok (.iconst 1, 1) := by decide +kernel
theorem dX5_readHouse_55 : decode cX5_readHouse 55 = .ok (.iconst 4, 1) := by decide +kernel
theorem dX5_readHouse_56 : decode cX5_readHouse 56 = .ok (.invokevirtual 73, 3) := by decide +kernel
theorem dX5_readHouse_59 : decode cX5_readHouse 59 = .ok (.ifCond .ne 5, 3) := by decide +kernel
theorem dX5_readHouse_62 : decode cX5_readHouse 62 = .ok (.iconst 0, 1) := by decide +kernel
theorem dX5_readHouse_63 : decode cX5_readHouse 63 = .ok (.ireturn, 1) := by decide +kernel
theorem dX5_readHouse_64 : decode cX5_readHouse 64 = .ok (.aload_n 0, 1) := by decide +kernel
theorem dX5_readHouse_65 : decode cX5_readHouse 65 = .ok (.getfield 41, 3) := by decide +kernel
end
section
theorem dX5_readHouse_68 : decode cX5_readHouse 68 = .ok (.istore 4, 2) := by decide +kernel
theorem dX5_readHouse_70 : decode cX5_readHouse 70 = .ok (.aload_n 0, 1) := by decide +kernel
theorem dX5_readHouse_71 : decode cX5_readHouse 71 = .ok (.iconst 1, 1) := by decide +kernel
theorem dX5_readHouse_72 : decode cX5_readHouse 72 = .ok (.iconst 3, 1) := by decide +kernel
theorem dX5_readHouse_73 : decode cX5_readHouse 73 = .ok (.invokevirtual 73, 3) := by decide +kernel
theorem dX5_readHouse_76 : decode cX5_readHouse 76 = .ok (.ifCond .ne 5, 3) := by decide +kernel
theorem dX5_readHouse_79 : decode cX5_readHouse 79 = .ok (.iconst 0, 1) := by decide +kernel
theorem dX5_readHouse_80 : decode cX5_readHouse 80 = .ok (.ireturn, 1) := by decide +kernel
theorem dX5_readHouse_81 : decode cX5_readHouse 81 = .ok (.aload_n 0, 1) := by decide +kernel
theorem dX5_readHouse_82 : decode cX5_readHouse 82 = .ok (.getfield 22, 3) := by decide +kernel
theorem dX5_readHouse_85 : decode cX5_readHouse 85 = .ok (.iload_n 2, 1) := by decide +kernel
theorem dX5_readHouse_86 : decode cX5_readHouse 86 = .ok (.iload_n 3, 1) := by decide +kernel
theorem dX5_readHouse_87 : decode cX5_readHouse 87 = .ok (.iload 4, 2) := by decide +kernel
theorem dX5_readHouse_89 : decode cX5_readHouse 89 = .ok (.aload_n 0, 1) := by decide +kernel
theorem dX5_readHouse_90 : decode cX5_readHouse 90 = .ok (.getfield 41, 3) := by decide +kernel
theorem dX5_readHouse_93 : decode cX5_readHouse 93 = .ok (.invokevirtual 106, 3) := by decide +kernel
theorem dX5_readHouse_96 : decode cX5_readHouse 96 = .ok (.ifCond .ne 9, 3) := by decide +kernel
theorem dX5_readHouse_99 : decode cX5_readHouse 99 = .ok (.aload_n 0, 1) := by decide +kernel
theorem dX5_readHouse_100 : decode cX5_readHouse 100 = .ok (.iconst 2, 1) := by decide +kernel
theorem dX5_readHouse_101 : decode cX5_readHouse 101 = .ok (.invokevirtual 69, 3) := by decide +kernel
theorem dX5_readHouse_104 : decode cX5_readHouse 104 = .ok (.ireturn, 1) := by decide +kernel
theorem dX5_readHouse_105 : decode cX5_readHouse 105 = .ok (.aload_n 0, 1) := by decide +kernel
theorem dX5_readHouse_106 : decode cX5_readHouse 106 = .ok (.getfield 22, 3) := by decide +kernel
theorem dX5_readHouse_109 : decode cX5_readHouse 109 = .ok (.iload_n 1, 1) := by decide +kernel
theorem dX5_readHouse_110 : decode cX5_readHouse 110 = .ok (.iload_n 2, 1) := by decide +kernel
theorem dX5_readHouse_111 : decode cX5_readHouse 111 = .ok (.iload_n 3, 1) := by decide +kernel
theorem dX5_readHouse_112 : decode cX5_readHouse 112 = .ok (.iload 4, 2) := by decide +kernel
theorem dX5_readHouse_114 : decode cX5_readHouse 114 = .ok (.aload_n 0, 1) := by decide +kernel
theorem dX5_readHouse_115 : decode cX5_readHouse 115 = .ok (.getfield 41, 3) := by decide +kernel
theorem dX5_readHouse_118 : decode cX5_readHouse 118 = .ok (.invokevirtual 110, 3) := by decide +kernel
theorem dX5_readHouse_121 : decode cX5_readHouse 121 = .ok (.aload_n 0, 1) := by decide +kernel
theorem dX5_readHouse_122 : decode cX5_readHouse 122 = .ok (.invokevirtual 83, 3) := by decide +kernel
theorem dX5_readHouse_125 : decode cX5_readHouse 125 = .ok (.ireturn, 1) := by decide +kernel
theorem dX5_kindOfWord_0 : decode cX5_kindOfWord 0 = .ok (.aload_n 0, 1) := by decide +kernel
theorem dX5_kindOfWord_1 : decode cX5_kindOfWord 1 = .ok (.ldc 114, 2) := by decide +kernel
theorem dX5_kindOfWord_3 : decode cX5_kindOfWord 3 = .ok (.invokevirtual 65, 3) := by decide +kernel
theorem dX5_kindOfWord_6 : decode cX5_kindOfWord 6 = .ok (.ifCond .eq 5, 3) := by decide +kernel
theorem dX5_kindOfWord_9 : decode cX5_kindOfWord 9 = .ok (.iconst 1, 1) := by decide +kernel
theorem dX5_kindOfWord_10 : decode cX5_kindOfWord 10 = .ok (.ireturn, 1) := by decide +kernel
theorem dX5_kindOfWord_11 : decode cX5_kindOfWord 11 = .ok (.aload_n 0, 1) := by decide +kernel
theorem dX5_kindOfWord_12 : decode cX5_kindOfWord 12 = .ok (.ldc 118, 2) := by decide +kernel
theorem dX5_kindOfWord_14 : decode cX5_kindOfWord 14 = .ok (.invokevirtual 65, 3) := by decide +kernel
theorem dX5_kindOfWord_17 : decode cX5_kindOfWord 17 = .ok (.ifCond .eq 5, 3) := by decide +kernel
theorem dX5_kindOfWord_20 : decode cX5_kindOfWord 20 = .ok (.iconst 2, 1) := by decide +kernel
theorem dX5_kindOfWord_21 : decode cX5_kindOfWord 21 = .ok (.ireturn, 1) := by decide +kernel
theorem dX5_kindOfWord_22 : decode cX5_kindOfWord 22 = .ok (.aload_n 0, 1) := by decide +kernel
theorem dX5_kindOfWord_23 : decode cX5_kindOfWord 23 = .ok (.ldc 120, 2) := by decide +kernel
theorem dX5_kindOfWord_25 : decode cX5_kindOfWord 25 = .ok (.invokevirtual 65, 3) := by decide +kernel
theorem dX5_kindOfWord_28 : decode cX5_kindOfWord 28 = .ok (.ifCond .eq 5, 3) := by decide +kernel
theorem dX5_kindOfWord_31 : decode cX5_kindOfWord 31 = .ok (.iconst 3, 1) := by decide +kernel
theorem dX5_kindOfWord_32 : decode cX5_kindOfWord 32 = .ok (.ireturn, 1) := by decide +kernel
theorem dX5_kindOfWord_33 : decode cX5_kindOfWord 33 = .ok (.aload_n 0, 1) := by decide +kernel
theorem dX5_kindOfWord_34 : decode cX5_kindOfWord 34 = .ok (.ldc 122, 2) := by decide +kernel
theorem dX5_kindOfWord_36 : decode cX5_kindOfWord 36 = .ok (.invokevirtual 65, 3) := by decide +kernel
theorem dX5_kindOfWord_39 : decode cX5_kindOfWord 39 = .ok (.ifCond .eq 5, 3) := by decide +kernel
theorem dX5_kindOfWord_42 : decode cX5_kindOfWord 42 = .ok (.iconst 4, 1) := by decide +kernel
theorem dX5_kindOfWord_43 : decode cX5_kindOfWord 43 = .ok (.ireturn, 1) := by decide +kernel
theorem dX5_kindOfWord_44 : decode cX5_kindOfWord 44 = .ok (.aload_n 0, 1) := by decide +kernel
theorem dX5_kindOfWord_45 : decode cX5_kindOfWord 45 = .ok (.ldc 124, 2) := by decide +kernel
theorem dX5_kindOfWord_47 : decode cX5_kindOfWord 47 = .ok (.invokevirtual 65, 3) := by decide +kernel
theorem dX5_kindOfWord_50 : decode cX5_kindOfWord 50 = .ok (.ifCond .eq 7, 3) := by decide +kernel
theorem dX5_kindOfWord_53 : decode cX5_kindOfWord 53 = .ok (.iconst 5, 1) := by decide +kernel
theorem dX5_kindOfWord_54 : decode cX5_kindOfWord 54 = .ok (.goto 4, 3) := by decide +kernel
theorem dX5_kindOfWord_57 : decode cX5_kindOfWord 57 = .ok (.iconst 0, 1) := by decide +kernel
theorem dX5_kindOfWord_58 : decode cX5_kindOfWord 58 = .ok (.ireturn, 1) := by decide +kernel
theorem dX5_failWith_0 : decode cX5_failWith 0 = .ok (.aload_n 0, 1) := by decide +kernel
theorem dX5_failWith_1 : decode cX5_failWith 1 = .ok (.iload_n 1, 1) := by decide +kernel
theorem dX5_failWith_2 : decode cX5_failWith 2 = .ok (.putfield 26, 3) := by decide +kernel
theorem dX5_failWith_5 : decode cX5_failWith 5 = .ok (.aload_n 0, 1) := by decide +kernel
theorem dX5_failWith_6 : decode cX5_failWith 6 = .ok (.aload_n 0, 1) := by decide +kernel
theorem dX5_failWith_7 : decode cX5_failWith 7 = .ok (.getfield 32, 3) := by decide +kernel
theorem dX5_failWith_10 : decode cX5_failWith 10 = .ok (.putfield 29, 3) := by decide +kernel
theorem dX5_failWith_13 : decode cX5_failWith 13 = .ok (.iconst 0, 1) := by decide +kernel
theorem dX5_failWith_14 : decode cX5_failWith 14 = .ok (.ireturn, 1) := by decide +kernel
theorem dX5_takeNumber_0 : decode cX5_takeNumber 0 = .ok (.aload_n 0, 1) := by decide +kernel
theorem dX5_takeNumber_1 : decode cX5_takeNumber 1 = .ok (.invokevirtual 47, 3) := by decide +kernel
theorem dX5_takeNumber_4 : decode cX5_takeNumber 4 = .ok (.aload_n 0, 1) := by decide +kernel
theorem dX5_takeNumber_5 : decode cX5_takeNumber 5 = .ok (.getfield 38, 3) := by decide +kernel
theorem dX5_takeNumber_8 : decode cX5_takeNumber 8 = .ok (.iconst 2, 1) := by decide +kernel
theorem dX5_takeNumber_9 : decode cX5_takeNumber 9 = .ok (.if_icmp .eq 9, 3) := by decide +kernel
theorem dX5_takeNumber_12 : decode cX5_takeNumber 12 = .ok (.aload_n 0, 1) := by decide +kernel
theorem dX5_takeNumber_13 : decode cX5_takeNumber 13 = .ok (.iconst 1, 1) := by decide +kernel
theorem dX5_takeNumber_14 : decode cX5_takeNumber 14 = .ok (.invokevirtual 69, 3) := by decide +kernel
theorem dX5_takeNumber_17 : decode cX5_takeNumber 17 = .ok (.ireturn, 1) := by decide +kernel
theorem dX5_takeNumber_18 : decode cX5_takeNumber 18 = .ok (.aload_n 0, 1) := by decide +kernel
theorem dX5_takeNumber_19 : decode cX5_takeNumber 19 = .ok (.getfield 41, 3) := by decide +kernel
theorem dX5_takeNumber_22 : decode cX5_takeNumber 22 = .ok (.iload_n 1, 1) := by decide +kernel
theorem dX5_takeNumber_23 : decode cX5_takeNumber 23 = .ok (.if_icmp .lt 11, 3) := by decide +kernel
theorem dX5_takeNumber_26 : decode cX5_takeNumber 26 = .ok (.aload_n 0, 1) := by decide +kernel
theorem dX5_takeNumber_27 : decode cX5_takeNumber 27 = .ok (.getfield 41, 3) := by decide +kernel
theorem dX5_takeNumber_30 : decode cX5_takeNumber 30 = .ok (.iload_n 2, 1) := by decide +kernel
theorem dX5_takeNumber_31 : decode cX5_takeNumber 31 = .ok (.if_icmp .le 11, 3) := by decide +kernel
theorem dX5_takeNumber_34 : decode cX5_takeNumber 34 = .ok (.aload_n 0, 1) := by decide +kernel
theorem dX5_takeNumber_35 : decode cX5_takeNumber 35 = .ok (.iconst 2, 1) := by decide +kernel
theorem dX5_takeNumber_36 : decode cX5_takeNumber 36 = .ok (.invokevirtual 69, 3) := by decide +kernel
theorem dX5_takeNumber_39 : decode cX5_takeNumber 39 = .ok (.ifCond .eq 7, 3) := by decide +kernel
theorem dX5_takeNumber_42 : decode cX5_takeNumber 42 = .ok (.iconst 1, 1) := by decide +kernel
theorem dX5_takeNumber_43 : decode cX5_takeNumber 43 = .ok (.goto 4, 3) := by decide +kernel
theorem dX5_takeNumber_46 : decode cX5_takeNumber 46 = .ok (.iconst 0, 1) := by decide +kernel
theorem dX5_takeNumber_47 : decode cX5_takeNumber 47 = .ok (.ireturn, 1) := by decide +kernel
theorem dX5_takeSemicolon_0 : decode cX5_takeSemicolon 0 = .ok (.aload_n 0, 1) := by decide +kernel
theorem dX5_takeSemicolon_1 : decode cX5_takeSemicolon 1 = .ok (.invokevirtual 47, 3) := by decide +kernel
theorem dX5_takeSemicolon_4 : decode cX5_takeSemicolon 4 = .ok (.aload_n 0, 1) := by decide +kernel
theorem dX5_takeSemicolon_5 : decode cX5_takeSemicolon 5 = .ok (.getfield 38, 3) := by decide +kernel
theorem dX5_takeSemicolon_8 : decode cX5_takeSemicolon 8 = .ok (.iconst 3, 1) := by decide +kernel
theorem dX5_takeSemicolon_9 : decode cX5_takeSemicolon 9 = .ok (.if_icmp .eq 9, 3) := by decide +kernel
theorem dX5_takeSemicolon_12 : decode cX5_takeSemicolon 12 = .ok (.aload_n 0, 1) := by decide +kernel
theorem dX5_takeSemicolon_13 : decode cX5_takeSemicolon 13 = .ok (.iconst 1, 1) := by decide +kernel
theorem dX5_takeSemicolon_14 : decode cX5_takeSemicolon 14 = .ok (.invokevirtual 69, 3) := by decide +kernel
theorem dX5_takeSemicolon_17 : decode cX5_takeSemicolon 17 = .ok (.ireturn, 1) := by decide +kernel
theorem dX5_takeSemicolon_18 : decode cX5_takeSemicolon 18 = .ok (.aload_n 0, 1) := by decide +kernel
theorem dX5_takeSemicolon_19 : decode cX5_takeSemicolon 19 = .ok (.invokevirtual 47, 3) := by decide +kernel
theorem dX5_takeSemicolon_22 : decode cX5_takeSemicolon 22 = .ok (.iconst 1, 1) := by decide +kernel
theorem dX5_takeSemicolon_23 : decode cX5_takeSemicolon 23 = .ok (.ireturn, 1) := by decide +kernel
theorem dX5_isWord_0 : decode cX5_isWord 0 = .ok (.aload_n 0, 1) := by decide +kernel
theorem dX5_isWord_1 : decode cX5_isWord 1 = .ok (.getfield 38, 3) := by decide +kernel
theorem dX5_isWord_4 : decode cX5_isWord 4 = .ok (.iconst 1, 1) := by decide +kernel
theorem dX5_isWord_5 : decode cX5_isWord 5 = .ok (.if_icmp .ne 19, 3) := by decide +kernel
theorem dX5_isWord_8 : decode cX5_isWord 8 = .ok (.aload_n 0, 1) := by decide +kernel
theorem dX5_isWord_9 : decode cX5_isWord 9 = .ok (.getfield 35, 3) := by decide +kernel
theorem dX5_isWord_12 : decode cX5_isWord 12 = .ok (.aload_n 0, 1) := by decide +kernel
theorem dX5_isWord_13 : decode cX5_isWord 13 = .ok (.getfield 32, 3) := by decide +kernel
theorem dX5_isWord_16 : decode cX5_isWord 16 = .ok (.isub, 1) := by decide +kernel
theorem dX5_isWord_17 : decode cX5_isWord 17 = .ok (.aload_n 1, 1) := by decide +kernel
theorem dX5_isWord_18 : decode cX5_isWord 18 = .ok (.invokevirtual 126, 3) := by decide +kernel
theorem dX5_isWord_21 : decode cX5_isWord 21 = .ok (.if_icmp .eq 5, 3) := by decide +kernel
theorem dX5_isWord_24 : decode cX5_isWord 24 = .ok (.iconst 0, 1) := by decide +kernel
theorem dX5_isWord_25 : decode cX5_isWord 25 = .ok (.ireturn, 1) := by decide +kernel
theorem dX5_isWord_26 : decode cX5_isWord 26 = .ok (.iconst 0, 1) := by decide +kernel
theorem dX5_isWord_27 : decode cX5_isWord 27 = .ok (.istore_n 2, 1) := by decide +kernel
theorem dX5_isWord_28 : decode cX5_isWord 28 = .ok (.iload_n 2, 1) := by decide +kernel
theorem dX5_isWord_29 : decode cX5_isWord 29 = .ok (.aload_n 1, 1) := by decide +kernel
theorem dX5_isWord_30 : decode cX5_isWord 30 = .ok (.invokevirtual 126, 3) := by decide +kernel
theorem dX5_isWord_33 : decode cX5_isWord 33 = .ok (.if_icmp .ge 30, 3) := by decide +kernel
theorem dX5_isWord_36 : decode cX5_isWord 36 = .ok (.aload_n 0, 1) := by decide +kernel
theorem dX5_isWord_37 : decode cX5_isWord 37 = .ok (.getfield 11, 3) := by decide +kernel
theorem dX5_isWord_40 : decode cX5_isWord 40 = .ok (.aload_n 0, 1) := by decide +kernel
theorem dX5_isWord_41 : decode cX5_isWord 41 = .ok (.getfield 32, 3) := by decide +kernel
theorem dX5_isWord_44 : decode cX5_isWord 44 = .ok (.iload_n 2, 1) := by decide +kernel
theorem dX5_isWord_45 : decode cX5_isWord 45 = .ok (.iadd, 1) := by decide +kernel
theorem dX5_isWord_46 : decode cX5_isWord 46 = .ok (.baload, 1) := by decide +kernel
theorem dX5_isWord_47 : decode cX5_isWord 47 = .ok (.aload_n 1, 1) := by decide +kernel
theorem dX5_isWord_48 : decode cX5_isWord 48 = .ok (.iload_n 2, 1) := by decide +kernel
theorem dX5_isWord_49 : decode cX5_isWord 49 = .ok (.invokevirtual 131, 3) := by decide +kernel
theorem dX5_isWord_52 : decode cX5_isWord 52 = .ok (.if_icmp .eq 5, 3) := by decide +kernel
theorem dX5_isWord_55 : decode cX5_isWord 55 = .ok (.iconst 0, 1) := by decide +kernel
theorem dX5_isWord_56 : decode cX5_isWord 56 = .ok (.ireturn, 1) := by decide +kernel
theorem dX5_isWord_57 : decode cX5_isWord 57 = .ok (.iinc 2 1, 3) := by decide +kernel
theorem dX5_isWord_60 : decode cX5_isWord 60 = .ok (.goto (-32), 3) := by decide +kernel
theorem dX5_isWord_63 : decode cX5_isWord 63 = .ok (.iconst 1, 1) := by decide +kernel
theorem dX5_isWord_64 : decode cX5_isWord 64 = .ok (.ireturn, 1) := by decide +kernel
theorem dX5_takeToken_0 : decode cX5_takeToken 0 = .ok (.aload_n 0, 1) := by decide +kernel
theorem dX5_takeToken_1 : decode cX5_takeToken 1 = .ok (.aload_n 0, 1) := by decide +kernel
theorem dX5_takeToken_2 : decode cX5_takeToken 2 = .ok (.getfield 35, 3) := by decide +kernel
theorem dX5_takeToken_5 : decode cX5_takeToken 5 = .ok (.putfield 32, 3) := by decide +kernel
theorem dX5_takeToken_8 : decode cX5_takeToken 8 = .ok (.aload_n 0, 1) := by decide +kernel
theorem dX5_takeToken_9 : decode cX5_takeToken 9 = .ok (.getfield 32, 3) := by decide +kernel
theorem dX5_takeToken_12 : decode cX5_takeToken 12 = .ok (.aload_n 0, 1) := by decide +kernel
theorem dX5_takeToken_13 : decode cX5_takeToken 13 = .ok (.getfield 15, 3) := by decide +kernel
theorem dX5_takeToken_16 : decode cX5_takeToken 16 = .ok (.if_icmp .ge 44, 3) := by decide +kernel
theorem dX5_takeToken_19 : decode cX5_takeToken 19 = .ok (.aload_n 0, 1) := by decide +kernel
theorem dX5_takeToken_20 : decode cX5_takeToken 20 = .ok (.getfield 11, 3) := by decide +kernel
theorem dX5_takeToken_23 : decode cX5_takeToken 23 = .ok (.aload_n 0, 1) := by decide +kernel
theorem dX5_takeToken_24 : decode cX5_takeToken 24 = .ok (.getfield 32, 3) := by decide +kernel
theorem dX5_takeToken_27 : decode cX5_takeToken 27 = .ok (.baload, 1) := by decide +kernel
theorem dX5_takeToken_28 : decode cX5_takeToken 28 = .ok (.bipush 32, 2) := by decide +kernel
theorem dX5_takeToken_30 : decode cX5_takeToken 30 = .ok (.if_icmp .eq 17, 3) := by decide +kernel
theorem dX5_takeToken_33 : decode cX5_takeToken 33 = .ok (.aload_n 0, 1) := by decide +kernel
theorem dX5_takeToken_34 : decode cX5_takeToken 34 = .ok (.getfield 11, 3) := by decide +kernel
theorem dX5_takeToken_37 : decode cX5_takeToken 37 = .ok (.aload_n 0, 1) := by decide +kernel
theorem dX5_takeToken_38 : decode cX5_takeToken 38 = .ok (.getfield 32, 3) := by decide +kernel
theorem dX5_takeToken_41 : decode cX5_takeToken 41 = .ok (.baload, 1) := by decide +kernel
theorem dX5_takeToken_42 : decode cX5_takeToken 42 = .ok (.bipush 10, 2) := by decide +kernel
theorem dX5_takeToken_44 : decode cX5_takeToken 44 = .ok (.if_icmp .ne 16, 3) := by decide +kernel
theorem dX5_takeToken_47 : decode cX5_takeToken 47 = .ok (.aload_n 0, 1) := by decide +kernel
theorem dX5_takeToken_48 : decode cX5_takeToken 48 = .ok (.dup, 1) := by decide +kernel
theorem dX5_takeToken_49 : decode cX5_takeToken 49 = .ok (.getfield 32, 3) := by decide +kernel
theorem dX5_takeToken_52 : decode cX5_takeToken 52 = .ok (.iconst 1, 1) := by decide +kernel
theorem dX5_takeToken_53 : decode cX5_takeToken 53 = .ok (.iadd, 1) := by decide +kernel
theorem dX5_takeToken_54 : decode cX5_takeToken 54 = .ok (.putfield 32, 3) := by decide +kernel
theorem dX5_takeToken_57 : decode cX5_takeToken 57 = .ok (.goto (-49), 3) := by decide +kernel
theorem dX5_takeToken_60 : decode cX5_takeToken 60 = .ok (.aload_n 0, 1) := by decide +kernel
theorem dX5_takeToken_61 : decode cX5_takeToken 61 = .ok (.getfield 32, 3) := by decide +kernel
theorem dX5_takeToken_64 : decode cX5_takeToken 64 = .ok (.aload_n 0, 1) := by decide +kernel
theorem dX5_takeToken_65 : decode cX5_takeToken 65 = .ok (.getfield 15, 3) := by decide +kernel
theorem dX5_takeToken_68 : decode cX5_takeToken 68 = .ok (.if_icmp .lt 17, 3) := by decide +kernel
theorem dX5_takeToken_71 : decode cX5_takeToken 71 = .ok (.aload_n 0, 1) := by decide +kernel
theorem dX5_takeToken_72 : decode cX5_takeToken 72 = .ok (.iconst 0, 1) := by decide +kernel
theorem dX5_takeToken_73 : decode cX5_takeToken 73 = .ok (.putfield 38, 3) := by decide +kernel
theorem dX5_takeToken_76 : decode cX5_takeToken 76 = .ok (.aload_n 0, 1) := by decide +kernel
theorem dX5_takeToken_77 : decode cX5_takeToken 77 = .ok (.aload_n 0, 1) := by decide +kernel
theorem dX5_takeToken_78 : decode cX5_takeToken 78 = .ok (.getfield 32, 3) := by decide +kernel
theorem dX5_takeToken_81 : decode cX5_takeToken 81 = .ok (.putfield 35, 3) := by decide +kernel
theorem dX5_takeToken_84 : decode cX5_takeToken 84 = .ok (.return_, 1) := by decide +kernel
theorem dX5_takeToken_85 : decode cX5_takeToken 85 = .ok (.aload_n 0, 1) := by decide +kernel
theorem dX5_takeToken_86 : decode cX5_takeToken 86 = .ok (.aload_n 0, 1) := by decide +kernel
theorem dX5_takeToken_87 : decode cX5_takeToken 87 = .ok (.bipush 97, 2) := by decide +kernel
theorem dX5_takeToken_89 : decode cX5_takeToken 89 = .ok (.bipush 122, 2) := by decide +kernel
theorem dX5_takeToken_91 : decode cX5_takeToken 91 = .ok (.invokevirtual 135, 3) := by decide +kernel
theorem dX5_takeToken_94 : decode cX5_takeToken 94 = .ok (.putfield 35, 3) := by decide +kernel
theorem dX5_takeToken_97 : decode cX5_takeToken 97 = .ok (.aload_n 0, 1) := by decide +kernel
theorem dX5_takeToken_98 : decode cX5_takeToken 98 = .ok (.getfield 35, 3) := by decide +kernel
theorem dX5_takeToken_101 : decode cX5_takeToken 101 = .ok (.aload_n 0, 1) := by decide +kernel
theorem dX5_takeToken_102 : decode cX5_takeToken 102 = .ok (.getfield 32, 3) := by decide +kernel
theorem dX5_takeToken_105 : decode cX5_takeToken 105 = .ok (.if_icmp .le 9, 3) := by decide +kernel
theorem dX5_takeToken_108 : decode cX5_takeToken 108 = .ok (.aload_n 0, 1) := by decide +kernel
theorem dX5_takeToken_109 : decode cX5_takeToken 109 = .ok (.iconst 1, 1) := by decide +kernel
theorem dX5_takeToken_110 : decode cX5_takeToken 110 = .ok (.putfield 38, 3) := by decide +kernel
theorem dX5_takeToken_113 : decode cX5_takeToken 113 = .ok (.return_, 1) := by decide +kernel
theorem dX5_takeToken_114 : decode cX5_takeToken 114 = .ok (.aload_n 0, 1) := by decide +kernel
theorem dX5_takeToken_115 : decode cX5_takeToken 115 = .ok (.aload_n 0, 1) := by decide +kernel
theorem dX5_takeToken_116 : decode cX5_takeToken 116 = .ok (.bipush 48, 2) := by decide +kernel
theorem dX5_takeToken_118 : decode cX5_takeToken 118 = .ok (.bipush 57, 2) := by decide +kernel
theorem dX5_takeToken_120 : decode cX5_takeToken 120 = .ok (.invokevirtual 135, 3) := by decide +kernel
theorem dX5_takeToken_123 : decode cX5_takeToken 123 = .ok (.putfield 35, 3) := by decide +kernel
theorem dX5_takeToken_126 : decode cX5_takeToken 126 = .ok (.aload_n 0, 1) := by decide +kernel
theorem dX5_takeToken_127 : decode cX5_takeToken 127 = .ok (.getfield 35, 3) := by decide +kernel
theorem dX5_takeToken_130 : decode cX5_takeToken 130 = .ok (.aload_n 0, 1) := by decide +kernel
theorem dX5_takeToken_131 : decode cX5_takeToken 131 = .ok (.getfield 32, 3) := by decide +kernel
theorem dX5_takeToken_134 : decode cX5_takeToken 134 = .ok (.if_icmp .le 34, 3) := by decide +kernel
theorem dX5_takeToken_137 : decode cX5_takeToken 137 = .ok (.aload_n 0, 1) := by decide +kernel
theorem dX5_takeToken_138 : decode cX5_takeToken 138 = .ok (.aload_n 0, 1) := by decide +kernel
theorem dX5_takeToken_139 : decode cX5_takeToken 139 = .ok (.getfield 35, 3) := by decide +kernel
theorem dX5_takeToken_142 : decode cX5_takeToken 142 = .ok (.aload_n 0, 1) := by decide +kernel
theorem dX5_takeToken_143 : decode cX5_takeToken 143 = .ok (.getfield 32, 3) := by decide +kernel
theorem dX5_takeToken_146 : decode cX5_takeToken 146 = .ok (.isub, 1) := by decide +kernel
theorem dX5_takeToken_147 : decode cX5_takeToken 147 = .ok (.iconst 3, 1) := by decide +kernel
theorem dX5_takeToken_148 : decode cX5_takeToken 148 = .ok (.if_icmp .gt 7, 3) := by decide +kernel
theorem dX5_takeToken_151 : decode cX5_takeToken 151 = .ok (.iconst 2, 1) := by decide +kernel
theorem dX5_takeToken_152 : decode cX5_takeToken 152 = .ok (.goto 4, 3) := by decide +kernel
theorem dX5_takeToken_155 : decode cX5_takeToken 155 = .ok (.iconst 4, 1) := by decide +kernel
theorem dX5_takeToken_156 : decode cX5_takeToken 156 = .ok (.putfield 38, 3) := by decide +kernel
theorem dX5_takeToken_159 : decode cX5_takeToken 159 = .ok (.aload_n 0, 1) := by decide +kernel
theorem dX5_takeToken_160 : decode cX5_takeToken 160 = .ok (.aload_n 0, 1) := by decide +kernel
theorem dX5_takeToken_161 : decode cX5_takeToken 161 = .ok (.invokevirtual 139, 3) := by decide +kernel
theorem dX5_takeToken_164 : decode cX5_takeToken 164 = .ok (.putfield 41, 3) := by decide +kernel
theorem dX5_takeToken_167 : decode cX5_takeToken 167 = .ok (.return_, 1) := by decide +kernel
theorem dX5_takeToken_168 : decode cX5_takeToken 168 = .ok (.aload_n 0, 1) := by decide +kernel
theorem dX5_takeToken_169 : decode cX5_takeToken 169 = .ok (.aload_n 0, 1) := by decide +kernel
theorem dX5_takeToken_170 : decode cX5_takeToken 170 = .ok (.getfield 11, 3) := by decide +kernel
theorem dX5_takeToken_173 : decode cX5_takeToken 173 = .ok (.aload_n 0, 1) := by decide +kernel
theorem dX5_takeToken_174 : decode cX5_takeToken 174 = .ok (.getfield 32, 3) := by decide +kernel
theorem dX5_takeToken_177 : decode cX5_takeToken 177 = .ok (.baload, 1) := by decide +kernel
theorem dX5_takeToken_178 : decode cX5_takeToken 178 = .ok (.bipush 59, 2) := by decide +kernel
theorem dX5_takeToken_180 : decode cX5_takeToken 180 = .ok (.if_icmp .ne 7, 3) := by decide +kernel
theorem dX5_takeToken_183 : decode cX5_takeToken 183 = .ok (.iconst 3, 1) := by decide +kernel
theorem dX5_takeToken_184 : decode cX5_takeToken 184 = .ok (.goto 4, 3) := by decide +kernel
theorem dX5_takeToken_187 : decode cX5_takeToken 187 = .ok (.iconst 4, 1) := by decide +kernel
theorem dX5_takeToken_188 : decode cX5_takeToken 188 = .ok (.putfield 38, 3) := by decide +kernel
theorem dX5_takeToken_191 : decode cX5_takeToken 191 = .ok (.aload_n 0, 1) := by decide +kernel
theorem dX5_takeToken_192 : decode cX5_takeToken 192 = .ok (.aload_n 0, 1) := by decide +kernel
theorem dX5_takeToken_193 : decode cX5_takeToken 193 = .ok (.getfield 32, 3) := by decide +kernel
theorem dX5_takeToken_196 : decode cX5_takeToken 196 = .ok (.iconst 1, 1) := by decide +kernel
theorem dX5_takeToken_197 : decode cX5_takeToken 197 = .ok (.iadd, 1) := by decide +kernel
theorem dX5_takeToken_198 : decode cX5_takeToken 198 = .ok (.putfield 35, 3) := by decide +kernel
theorem dX5_takeToken_201 : decode cX5_takeToken 201 = .ok (.return_, 1) := by decide +kernel
theorem dX5_endOfRun_0 : decode cX5_endOfRun 0 = .ok (.aload_n 0, 1) := by decide +kernel
theorem dX5_endOfRun_1 : decode cX5_endOfRun 1 = .ok (.getfield 32, 3) := by decide +kernel
theorem dX5_endOfRun_4 : decode cX5_endOfRun 4 = .ok (.istore_n 3, 1) := by decide +kernel
theorem dX5_endOfRun_5 : decode cX5_endOfRun 5 = .ok (.iload_n 3, 1) := by decide +kernel
theorem dX5_endOfRun_6 : decode cX5_endOfRun 6 = .ok (.aload_n 0, 1) := by decide +kernel
theorem dX5_endOfRun_7 : decode cX5_endOfRun 7 = .ok (.getfield 15, 3) := by decide +kernel
theorem dX5_endOfRun_10 : decode cX5_endOfRun 10 = .ok (.if_icmp .ge 29, 3) := by decide +kernel
theorem dX5_endOfRun_13 : decode cX5_endOfRun 13 = .ok (.aload_n 0, 1) := by decide +kernel
theorem dX5_endOfRun_14 : decode cX5_endOfRun 14 = .ok (.getfield 11, 3) := by decide +kernel
theorem dX5_endOfRun_17 : decode cX5_endOfRun 17 = .ok (.iload_n 3, 1) := by decide +kernel
theorem dX5_endOfRun_18 : decode cX5_endOfRun 18 = .ok (.baload, 1) := by decide +kernel
theorem dX5_endOfRun_19 : decode cX5_endOfRun 19 = .ok (.iload_n 1, 1) := by decide +kernel
theorem dX5_endOfRun_20 : decode cX5_endOfRun 20 = .ok (.if_icmp .lt 19, 3) := by decide +kernel
theorem dX5_endOfRun_23 : decode cX5_endOfRun 23 = .ok (.aload_n 0, 1) := by decide +kernel
theorem dX5_endOfRun_24 : decode cX5_endOfRun 24 = .ok (.getfield 11, 3) := by decide +kernel
theorem dX5_endOfRun_27 : decode cX5_endOfRun 27 = .ok (.iload_n 3, 1) := by decide +kernel
theorem dX5_endOfRun_28 : decode cX5_endOfRun 28 = .ok (.baload, 1) := by decide +kernel
theorem dX5_endOfRun_29 : decode cX5_endOfRun 29 = .ok (.iload_n 2, 1) := by decide +kernel
theorem dX5_endOfRun_30 : decode cX5_endOfRun 30 = .ok (.if_icmp .gt 9, 3) := by decide +kernel
theorem dX5_endOfRun_33 : decode cX5_endOfRun 33 = .ok (.iinc 3 1, 3) := by decide +kernel
theorem dX5_endOfRun_36 : decode cX5_endOfRun 36 = .ok (.goto (-31), 3) := by decide +kernel
theorem dX5_endOfRun_39 : decode cX5_endOfRun 39 = .ok (.iload_n 3, 1) := by decide +kernel
theorem dX5_endOfRun_40 : decode cX5_endOfRun 40 = .ok (.ireturn, 1) := by decide +kernel
theorem dX5_valueOfFigures_0 : decode cX5_valueOfFigures 0 = .ok (.iconst 0, 1) := by decide +kernel
theorem dX5_valueOfFigures_1 : decode cX5_valueOfFigures 1 = .ok (.istore_n 1, 1) := by decide +kernel
theorem dX5_valueOfFigures_2 : decode cX5_valueOfFigures 2 = .ok (.aload_n 0, 1) := by decide +kernel
theorem dX5_valueOfFigures_3 : decode cX5_valueOfFigures 3 = .ok (.getfield 32, 3) := by decide +kernel
theorem dX5_valueOfFigures_6 : decode cX5_valueOfFigures 6 = .ok (.istore_n 2, 1) := by decide +kernel
theorem dX5_valueOfFigures_7 : decode cX5_valueOfFigures 7 = .ok (.iload_n 2, 1) := by decide +kernel
theorem dX5_valueOfFigures_8 : decode cX5_valueOfFigures 8 = .ok (.aload_n 0, 1) := by decide +kernel
theorem dX5_valueOfFigures_9 : decode cX5_valueOfFigures 9 = .ok (.getfield 35, 3) := by decide +kernel
theorem dX5_valueOfFigures_12 : decode cX5_valueOfFigures 12 = .ok (.if_icmp .ge 34, 3) := by decide +kernel
theorem dX5_valueOfFigures_15 : decode cX5_valueOfFigures 15 = .ok (.iload_n 2, 1) := by decide +kernel
theorem dX5_valueOfFigures_16 : decode cX5_valueOfFigures 16 = .ok (.aload_n 0, 1) := by decide +kernel
theorem dX5_valueOfFigures_17 : decode cX5_valueOfFigures 17 = .ok (.getfield 32, 3) := by decide +kernel
theorem dX5_valueOfFigures_20 : decode cX5_valueOfFigures 20 = .ok (.iconst 3, 1) := by decide +kernel
theorem dX5_valueOfFigures_21 : decode cX5_valueOfFigures 21 = .ok (.iadd, 1) := by decide +kernel
theorem dX5_valueOfFigures_22 : decode cX5_valueOfFigures 22 = .ok (.if_icmp .ge 24, 3) := by decide +kernel
theorem dX5_valueOfFigures_25 : decode cX5_valueOfFigures 25 = .ok (.bipush 10, 2) := by decide +kernel
theorem dX5_valueOfFigures_27 : decode cX5_valueOfFigures 27 = .ok (.iload_n 1, 1) := by decide +kernel
theorem dX5_valueOfFigures_28 : decode cX5_valueOfFigures 28 = .ok (.imul, 1) := by decide +kernel
theorem dX5_valueOfFigures_29 : decode cX5_valueOfFigures 29 = .ok (.aload_n 0, 1) := by decide +kernel
theorem dX5_valueOfFigures_30 : decode cX5_valueOfFigures 30 = .ok (.getfield 11, 3) := by decide +kernel
theorem dX5_valueOfFigures_33 : decode cX5_valueOfFigures 33 = .ok (.iload_n 2, 1) := by decide +kernel
theorem dX5_valueOfFigures_34 : decode cX5_valueOfFigures 34 = .ok (.baload, 1) := by decide +kernel
theorem dX5_valueOfFigures_35 : decode cX5_valueOfFigures 35 = .ok (.iadd, 1) := by decide +kernel
theorem dX5_valueOfFigures_36 : decode cX5_valueOfFigures 36 = .ok (.bipush 48, 2) := by decide +kernel
theorem dX5_valueOfFigures_38 : decode cX5_valueOfFigures 38 = .ok (.isub, 1) := by decide +kernel
theorem dX5_valueOfFigures_39 : decode cX5_valueOfFigures 39 = .ok (.istore_n 1, 1) := by decide +kernel
theorem dX5_valueOfFigures_40 : decode cX5_valueOfFigures 40 = .ok (.iinc 2 1, 3) := by decide +kernel
theorem dX5_valueOfFigures_43 : decode cX5_valueOfFigures 43 = .ok (.goto (-36), 3) := by decide +kernel
theorem dX5_valueOfFigures_46 : decode cX5_valueOfFigures 46 = .ok (.iload_n 1, 1) := by decide +kernel
theorem dX5_valueOfFigures_47 : decode cX5_valueOfFigures 47 = .ok (.ireturn, 1) := by decide +kernel
theorem dX6_init_0 : decode cX6_init 0 = .ok (.aload_n 0, 1) := by decide +kernel
theorem dX6_init_1 : decode cX6_init 1 = .ok (.invokespecial 1, 3) := by decide +kernel
theorem dX6_init_4 : decode cX6_init 4 = .ok (.aload_n 0, 1) := by decide +kernel
theorem dX6_init_5 : decode cX6_init 5 = .ok (.bipush 8, 2) := by decide +kernel
theorem dX6_init_7 : decode cX6_init 7 = .ok (.newarray .int, 2) := by decide +kernel
theorem dX6_init_9 : decode cX6_init 9 = .ok (.dup, 1) := by decide +kernel
theorem dX6_init_10 : decode cX6_init 10 = .ok (.iconst 0, 1) := by decide +kernel
theorem dX6_init_11 : decode cX6_init 11 = .ok (.iconst (-1), 1) := by decide +kernel
theorem dX6_init_12 : decode cX6_init 12 = .ok (.iastore, 1) := by decide +kernel
theorem dX6_init_13 : decode cX6_init 13 = .ok (.dup, 1) := by decide +kernel
theorem dX6_init_14 : decode cX6_init 14 = .ok (.iconst 1, 1) := by decide +kernel
theorem dX6_init_15 : decode cX6_init 15 = .ok (.iconst (-1), 1) := by decide +kernel
theorem dX6_init_16 : decode cX6_init 16 = .ok (.iastore, 1) := by decide +kernel
theorem dX6_init_17 : decode cX6_init 17 = .ok (.dup, 1) := by decide +kernel
theorem dX6_init_18 : decode cX6_init 18 = .ok (.iconst 2, 1) := by decide +kernel
theorem dX6_init_19 : decode cX6_init 19 = .ok (.iconst (-1), 1) := by decide +kernel
theorem dX6_init_20 : decode cX6_init 20 = .ok (.iastore, 1) := by decide +kernel
theorem dX6_init_21 : decode cX6_init 21 = .ok (.dup, 1) := by decide +kernel
theorem dX6_init_22 : decode cX6_init 22 = .ok (.iconst 3, 1) := by decide +kernel
theorem dX6_init_23 : decode cX6_init 23 = .ok (.iconst (-1), 1) := by decide +kernel
theorem dX6_init_24 : decode cX6_init 24 = .ok (.iastore, 1) := by decide +kernel
theorem dX6_init_25 : decode cX6_init 25 = .ok (.dup, 1) := by decide +kernel
theorem dX6_init_26 : decode cX6_init 26 = .ok (.iconst 4, 1) := by decide +kernel
theorem dX6_init_27 : decode cX6_init 27 = .ok (.iconst (-1), 1) := by decide +kernel
theorem dX6_init_28 : decode cX6_init 28 = .ok (.iastore, 1) := by decide +kernel
theorem dX6_init_29 : decode cX6_init 29 = .ok (.dup, 1) := by decide +kernel
theorem dX6_init_30 : decode cX6_init 30 = .ok (.iconst 5, 1) := by decide +kernel
theorem dX6_init_31 : decode cX6_init 31 = .ok (.iconst (-1), 1) := by decide +kernel
theorem dX6_init_32 : decode cX6_init 32 = .ok (.iastore, 1) := by decide +kernel
theorem dX6_init_33 : decode cX6_init 33 = .ok (.dup, 1) := by decide +kernel
theorem dX6_init_34 : decode cX6_init 34 = .ok (.bipush 6, 2) := by decide +kernel
theorem dX6_init_36 : decode cX6_init 36 = .ok (.iconst (-1), 1) := by decide +kernel
theorem dX6_init_37 : decode cX6_init 37 = .ok (.iastore, 1) := by decide +kernel
theorem dX6_init_38 : decode cX6_init 38 = .ok (.dup, 1) := by decide +kernel
theorem dX6_init_39 : decode cX6_init 39 = .ok (.bipush 7, 2) := by decide +kernel
theorem dX6_init_41 : decode cX6_init 41 = .ok (.iconst (-1), 1) := by decide +kernel
theorem dX6_init_42 : decode cX6_init 42 = .ok (.iastore, 1) := by decide +kernel
theorem dX6_init_43 : decode cX6_init 43 = .ok (.putfield 9, 3) := by decide +kernel
theorem dX6_init_46 : decode cX6_init 46 = .ok (.aload_n 0, 1) := by decide +kernel
theorem dX6_init_47 : decode cX6_init 47 = .ok (.bipush 8, 2) := by decide +kernel
theorem dX6_init_49 : decode cX6_init 49 = .ok (.newarray .int, 2) := by decide +kernel
theorem dX6_init_51 : decode cX6_init 51 = .ok (.putfield 13, 3) := by decide +kernel
theorem dX6_init_54 : decode cX6_init 54 = .ok (.aload_n 0, 1) := by decide +kernel
theorem dX6_init_55 : decode cX6_init 55 = .ok (.sipush 320, 3) := by decide +kernel
theorem dX6_init_58 : decode cX6_init 58 = .ok (.newarray .int, 2) := by decide +kernel
theorem dX6_init_60 : decode cX6_init 60 = .ok (.putfield 16, 3) := by decide +kernel
theorem dX6_init_63 : decode cX6_init 63 = .ok (.return_, 1) := by decide +kernel
theorem dX6_isNumber_0 : decode cX6_isNumber 0 = .ok (.iload_n 1, 1) := by decide +kernel
theorem dX6_isNumber_1 : decode cX6_isNumber 1 = .ok (.ifCond .lt 13, 3) := by decide +kernel
theorem dX6_isNumber_4 : decode cX6_isNumber 4 = .ok (.iload_n 1, 1) := by decide +kernel
theorem dX6_isNumber_5 : decode cX6_isNumber 5 = .ok (.bipush 8, 2) := by decide +kernel
theorem dX6_isNumber_7 : decode cX6_isNumber 7 = .ok (.if_icmp .ge 7, 3) := by decide +kernel
theorem dX6_isNumber_10 : decode cX6_isNumber 10 = .ok (.iconst 1, 1) := by decide +kernel
theorem dX6_isNumber_11 : decode cX6_isNumber 11 = .ok (.goto 4, 3) := by decide +kernel
theorem dX6_isNumber_14 : decode cX6_isNumber 14 = .ok (.iconst 0, 1) := by decide +kernel
theorem dX6_isNumber_15 : decode cX6_isNumber 15 = .ok (.ireturn, 1) := by decide +kernel
theorem dX6_isLane_0 : decode cX6_isLane 0 = .ok (.iload_n 1, 1) := by decide +kernel
theorem dX6_isLane_1 : decode cX6_isLane 1 = .ok (.ifCond .lt 12, 3) := by decide +kernel
theorem dX6_isLane_4 : decode cX6_isLane 4 = .ok (.iload_n 1, 1) := by decide +kernel
theorem dX6_isLane_5 : decode cX6_isLane 5 = .ok (.iconst 3, 1) := by decide +kernel
theorem dX6_isLane_6 : decode cX6_isLane 6 = .ok (.if_icmp .ge 7, 3) := by decide +kernel
theorem dX6_isLane_9 : decode cX6_isLane 9 = .ok (.iconst 1, 1) := by decide +kernel
theorem dX6_isLane_10 : decode cX6_isLane 10 = .ok (.goto 4, 3) := by decide +kernel
theorem dX6_isLane_13 : decode cX6_isLane 13 = .ok (.iconst 0, 1) := by decide +kernel
theorem dX6_isLane_14 : decode cX6_isLane 14 = .ok (.ireturn, 1) := by decide +kernel
theorem dX6_isMissing_0 : decode cX6_isMissing 0 = .ok (.aload_n 0, 1) := by decide +kernel
theorem dX6_isMissing_1 : decode cX6_isMissing 1 = .ok (.getfield 9, 3) := by decide +kernel
theorem dX6_isMissing_4 : decode cX6_isMissing 4 = .ok (.iload_n 1, 1) := by decide +kernel
theorem dX6_isMissing_5 : decode cX6_isMissing 5 = .ok (.iaload, 1) := by decide +kernel
theorem dX6_isMissing_6 : decode cX6_isMissing 6 = .ok (.iconst (-1), 1) := by decide +kernel
theorem dX6_isMissing_7 : decode cX6_isMissing 7 = .ok (.if_icmp .ne 7, 3) := by decide +kernel
theorem dX6_isMissing_10 : decode cX6_isMissing 10 = .ok (.iconst 1, 1) := by decide +kernel
theorem dX6_isMissing_11 : decode cX6_isMissing 11 = .ok (.goto 4, 3) := by decide +kernel
theorem dX6_isMissing_14 : decode cX6_isMissing 14 = .ok (.iconst 0, 1) := by decide +kernel
theorem dX6_isMissing_15 : decode cX6_isMissing 15 = .ok (.ireturn, 1) := by decide +kernel
theorem dX6_laneOf_0 : decode cX6_laneOf 0 = .ok (.aload_n 0, 1) := by decide +kernel
theorem dX6_laneOf_1 : decode cX6_laneOf 1 = .ok (.getfield 9, 3) := by decide +kernel
theorem dX6_laneOf_4 : decode cX6_laneOf 4 = .ok (.iload_n 1, 1) := by decide +kernel
theorem dX6_laneOf_5 : decode cX6_laneOf 5 = .ok (.iaload, 1) := by decide +kernel
theorem dX6_laneOf_6 : decode cX6_laneOf 6 = .ok (.ireturn, 1) := by decide +kernel
theorem dX6_item_0 : decode cX6_item 0 = .ok (.aload_n 0, 1) := by decide +kernel
theorem dX6_item_1 : decode cX6_item 1 = .ok (.getfield 16, 3) := by decide +kernel
theorem dX6_item_4 : decode cX6_item 4 = .ok (.iload_n 1, 1) := by decide +kernel
theorem dX6_item_5 : decode cX6_item 5 = .ok (.bipush 40, 2) := by decide +kernel
theorem dX6_item_7 : decode cX6_item 7 = .ok (.imul, 1) := by decide +kernel
theorem dX6_item_8 : decode cX6_item 8 = .ok (.iload_n 2, 1) := by decide +kernel
theorem dX6_item_9 : decode cX6_item 9 = .ok (.iadd, 1) := by decide +kernel
theorem dX6_item_10 : decode cX6_item 10 = .ok (.iaload, 1) := by decide +kernel
theorem dX6_item_11 : decode cX6_item 11 = .ok (.ireturn, 1) := by decide +kernel
theorem dX6_hasPlaces_0 : decode cX6_hasPlaces 0 = .ok (.iload_n 2, 1) := by decide +kernel
theorem dX6_hasPlaces_1 : decode cX6_hasPlaces 1 = .ok (.ifCond .lt 27, 3) := by decide +kernel
theorem dX6_hasPlaces_4 : decode cX6_hasPlaces 4 = .ok (.iload_n 3, 1) := by decide +kernel
theorem dX6_hasPlaces_5 : decode cX6_hasPlaces 5 = .ok (.ifCond .lt 23, 3) := by decide +kernel
theorem dX6_hasPlaces_8 : decode cX6_hasPlaces 8 = .ok (.iload_n 2, 1) := by decide +kernel
theorem dX6_hasPlaces_9 : decode cX6_hasPlaces 9 = .ok (.i2l, 1) := by decide +kernel
theorem dX6_hasPlaces_10 : decode cX6_hasPlaces 10 = .ok (.iload_n 3, 1) := by decide +kernel
theorem dX6_hasPlaces_11 : decode cX6_hasPlaces 11 = .ok (.i2l, 1) := by decide +kernel
theorem dX6_hasPlaces_12 : decode cX6_hasPlaces 12 = .ok (.ladd, 1) := by decide +kernel
theorem dX6_hasPlaces_13 : decode cX6_hasPlaces 13 = .ok (.aload_n 0, 1) := by decide +kernel
theorem dX6_hasPlaces_14 : decode cX6_hasPlaces 14 = .ok (.getfield 13, 3) := by decide +kernel
theorem dX6_hasPlaces_17 : decode cX6_hasPlaces 17 = .ok (.iload_n 1, 1) := by decide +kernel
theorem dX6_hasPlaces_18 : decode cX6_hasPlaces 18 = .ok (.iaload, 1) := by decide +kernel
theorem dX6_hasPlaces_19 : decode cX6_hasPlaces 19 = .ok (.i2l, 1) := by decide +kernel
theorem dX6_hasPlaces_20 : decode cX6_hasPlaces 20 = .ok (.lcmp, 1) := by decide +kernel
theorem dX6_hasPlaces_21 : decode cX6_hasPlaces 21 = .ok (.ifCond .gt 7, 3) := by decide +kernel
theorem dX6_hasPlaces_24 : decode cX6_hasPlaces 24 = .ok (.iconst 1, 1) := by decide +kernel
theorem dX6_hasPlaces_25 : decode cX6_hasPlaces 25 = .ok (.goto 4, 3) := by decide +kernel
theorem dX6_hasPlaces_28 : decode cX6_hasPlaces 28 = .ok (.iconst 0, 1) := by decide +kernel
theorem dX6_hasPlaces_29 : decode cX6_hasPlaces 29 = .ok (.ireturn, 1) := by decide +kernel
theorem dX6_make_0 : decode cX6_make 0 = .ok (.iload_n 1, 1) := by decide +kernel
theorem dX6_make_1 : decode cX6_make 1 = .ok (.bipush 40, 2) := by decide +kernel
theorem dX6_make_3 : decode cX6_make 3 = .ok (.imul, 1) := by decide +kernel
theorem dX6_make_4 : decode cX6_make 4 = .ok (.istore 4, 2) := by decide +kernel
theorem dX6_make_6 : decode cX6_make 6 = .ok (.aload_n 0, 1) := by decide +kernel
theorem dX6_make_7 : decode cX6_make 7 = .ok (.getfield 9, 3) := by decide +kernel
theorem dX6_make_10 : decode cX6_make 10 = .ok (.iload_n 1, 1) := by decide +kernel
theorem dX6_make_11 : decode cX6_make 11 = .ok (.iload_n 2, 1) := by decide +kernel
theorem dX6_make_12 : decode cX6_make 12 = .ok (.iastore, 1) := by decide +kernel
theorem dX6_make_13 : decode cX6_make 13 = .ok (.aload_n 0, 1) := by decide +kernel
theorem dX6_make_14 : decode cX6_make 14 = .ok (.getfield 13, 3) := by decide +kernel
theorem dX6_make_17 : decode cX6_make 17 = .ok (.iload_n 1, 1) := by decide +kernel
theorem dX6_make_18 : decode cX6_make 18 = .ok (.iload_n 3, 1) := by decide +kernel
theorem dX6_make_19 : decode cX6_make 19 = .ok (.iastore, 1) := by decide +kernel
theorem dX6_make_20 : decode cX6_make 20 = .ok (.iload 4, 2) := by decide +kernel
theorem dX6_make_22 : decode cX6_make 22 = .ok (.istore 5, 2) := by decide +kernel
theorem dX6_make_24 : decode cX6_make 24 = .ok (.iload 5, 2) := by decide +kernel
theorem dX6_make_26 : decode cX6_make 26 = .ok (.iload 4, 2) := by decide +kernel
theorem dX6_make_28 : decode cX6_make 28 = .ok (.iload_n 3, 1) := by decide +kernel
theorem dX6_make_29 : decode cX6_make 29 = .ok (.iadd, 1) := by decide +kernel
theorem dX6_make_30 : decode cX6_make 30 = .ok (.if_icmp .ge 17, 3) := by decide +kernel
theorem dX6_make_33 : decode cX6_make 33 = .ok (.aload_n 0, 1) := by decide +kernel
theorem dX6_make_34 : decode cX6_make 34 = .ok (.getfield 16, 3) := by decide +kernel
theorem dX6_make_37 : decode cX6_make 37 = .ok (.iload 5, 2) := by decide +kernel
theorem dX6_make_39 : decode cX6_make 39 = .ok (.iconst 0, 1) := by decide +kernel
theorem dX6_make_40 : decode cX6_make 40 = .ok (.iastore, 1) := by decide +kernel
theorem dX6_make_41 : decode cX6_make 41 = .ok (.iinc 5 1, 3) := by decide +kernel
theorem dX6_make_44 : decode cX6_make 44 = .ok (.goto (-20), 3) := by decide +kernel
theorem dX6_make_47 : decode cX6_make 47 = .ok (.return_, 1) := by decide +kernel
theorem dX6_put_0 : decode cX6_put 0 = .ok (.iload_n 3, 1) := by decide +kernel
theorem dX6_put_1 : decode cX6_put 1 = .ok (.istore 4, 2) := by decide +kernel
theorem dX6_put_3 : decode cX6_put 3 = .ok (.aload_n 0, 1) := by decide +kernel
theorem dX6_put_4 : decode cX6_put 4 = .ok (.getfield 9, 3) := by decide +kernel
theorem dX6_put_7 : decode cX6_put 7 = .ok (.iload_n 1, 1) := by decide +kernel
theorem dX6_put_8 : decode cX6_put 8 = .ok (.iaload, 1) := by decide +kernel
theorem dX6_put_9 : decode cX6_put 9 = .ok (.ifCond .ne 10, 3) := by decide +kernel
theorem dX6_put_12 : decode cX6_put 12 = .ok (.iload_n 3, 1) := by decide +kernel
theorem dX6_put_13 : decode cX6_put 13 = .ok (.i2b, 1) := by decide +kernel
theorem dX6_put_14 : decode cX6_put 14 = .ok (.istore 4, 2) := by decide +kernel
theorem dX6_put_16 : decode cX6_put 16 = .ok (.goto 17, 3) := by decide +kernel
theorem dX6_put_19 : decode cX6_put 19 = .ok (.aload_n 0, 1) := by decide +kernel
theorem dX6_put_20 : decode cX6_put 20 = .ok (.getfield 9, 3) := by decide +kernel
theorem dX6_put_23 : decode cX6_put 23 = .ok (.iload_n 1, 1) := by decide +kernel
theorem dX6_put_24 : decode cX6_put 24 = .ok (.iaload, 1) := by decide +kernel
theorem dX6_put_25 : decode cX6_put 25 = .ok (.iconst 1, 1) := by decide +kernel
theorem dX6_put_26 : decode cX6_put 26 = .ok (.if_icmp .ne 7, 3) := by decide +kernel
theorem dX6_put_29 : decode cX6_put 29 = .ok (.iload_n 3, 1) := by decide +kernel
theorem dX6_put_30 : decode cX6_put 30 = .ok (.i2s, 1) := by decide +kernel
theorem dX6_put_31 : decode cX6_put 31 = .ok (.istore 4, 2) := by decide +kernel
theorem dX6_put_33 : decode cX6_put 33 = .ok (.aload_n 0, 1) := by decide +kernel
theorem dX6_put_34 : decode cX6_put 34 = .ok (.getfield 16, 3) := by decide +kernel
theorem dX6_put_37 : decode cX6_put 37 = .ok (.iload_n 1, 1) := by decide +kernel
theorem dX6_put_38 : decode cX6_put 38 = .ok (.bipush 40, 2) := by decide +kernel
theorem dX6_put_40 : decode cX6_put 40 = .ok (.imul, 1) := by decide +kernel
theorem dX6_put_41 : decode cX6_put 41 = .ok (.iload_n 2, 1) := by decide +kernel
theorem dX6_put_42 : decode cX6_put 42 = .ok (.iadd, 1) := by decide +kernel
theorem dX6_put_43 : decode cX6_put 43 = .ok (.iload 4, 2) := by decide +kernel
theorem dX6_put_45 : decode cX6_put 45 = .ok (.iastore, 1) := by decide +kernel
theorem dX6_put_46 : decode cX6_put 46 = .ok (.iload 4, 2) := by decide +kernel
theorem dX6_put_48 : decode cX6_put 48 = .ok (.ireturn, 1) := by decide +kernel
theorem dX6_move_0 : decode cX6_move 0 = .ok (.aload_n 0, 1) := by decide +kernel
theorem dX6_move_1 : decode cX6_move 1 = .ok (.getfield 16, 3) := by decide +kernel
theorem dX6_move_4 : decode cX6_move 4 = .ok (.iload_n 1, 1) := by decide +kernel
theorem dX6_move_5 : decode cX6_move 5 = .ok (.bipush 40, 2) := by decide +kernel
theorem dX6_move_7 : decode cX6_move 7 = .ok (.imul, 1) := by decide +kernel
theorem dX6_move_8 : decode cX6_move 8 = .ok (.iload_n 2, 1) := by decide +kernel
theorem dX6_move_9 : decode cX6_move 9 = .ok (.iadd, 1) := by decide +kernel
theorem dX6_move_10 : decode cX6_move 10 = .ok (.aload_n 0, 1) := by decide +kernel
theorem dX6_move_11 : decode cX6_move 11 = .ok (.getfield 16, 3) := by decide +kernel
theorem dX6_move_14 : decode cX6_move 14 = .ok (.iload_n 3, 1) := by decide +kernel
theorem dX6_move_15 : decode cX6_move 15 = .ok (.bipush 40, 2) := by decide +kernel
theorem dX6_move_17 : decode cX6_move 17 = .ok (.imul, 1) := by decide +kernel
theorem dX6_move_18 : decode cX6_move 18 = .ok (.iload 4, 2) := by decide +kernel
theorem dX6_move_20 : decode cX6_move 20 = .ok (.iadd, 1) := by decide +kernel
theorem dX6_move_21 : decode cX6_move 21 = .ok (.iload 5, 2) := by decide +kernel
theorem dX6_move_23 : decode cX6_move 23 = .ok (.invokestatic 19, 3) := by decide +kernel
theorem dX6_move_26 : decode cX6_move 26 = .ok (.return_, 1) := by decide +kernel
theorem dX6_remove_0 : decode cX6_remove 0 = .ok (.aload_n 0, 1) := by decide +kernel
theorem dX6_remove_1 : decode cX6_remove 1 = .ok (.getfield 9, 3) := by decide +kernel
theorem dX6_remove_4 : decode cX6_remove 4 = .ok (.iload_n 1, 1) := by decide +kernel
theorem dX6_remove_5 : decode cX6_remove 5 = .ok (.iconst (-1), 1) := by decide +kernel
theorem dX6_remove_6 : decode cX6_remove 6 = .ok (.iastore, 1) := by decide +kernel
theorem dX6_remove_7 : decode cX6_remove 7 = .ok (.aload_n 0, 1) := by decide +kernel
theorem dX6_remove_8 : decode cX6_remove 8 = .ok (.getfield 13, 3) := by decide +kernel
theorem dX6_remove_11 : decode cX6_remove 11 = .ok (.iload_n 1, 1) := by decide +kernel
theorem dX6_remove_12 : decode cX6_remove 12 = .ok (.iaload, 1) := by decide +kernel
theorem dX6_remove_13 : decode cX6_remove 13 = .ok (.ireturn, 1) := by decide +kernel
theorem dX6_present_0 : decode cX6_present 0 = .ok (.iconst 0, 1) := by decide +kernel
theorem dX6_present_1 : decode cX6_present 1 = .ok (.istore_n 1, 1) := by decide +kernel
theorem dX6_present_2 : decode cX6_present 2 = .ok (.iconst 0, 1) := by decide +kernel
theorem dX6_present_3 : decode cX6_present 3 = .ok (.istore_n 2, 1) := by decide +kernel
theorem dX6_present_4 : decode cX6_present 4 = .ok (.iload_n 2, 1) := by decide +kernel
theorem dX6_present_5 : decode cX6_present 5 = .ok (.bipush 8, 2) := by decide +kernel
theorem dX6_present_7 : decode cX6_present 7 = .ok (.if_icmp .ge 22, 3) := by decide +kernel
theorem dX6_present_10 : decode cX6_present 10 = .ok (.aload_n 0, 1) := by decide +kernel
theorem dX6_present_11 : decode cX6_present 11 = .ok (.getfield 9, 3) := by decide +kernel
theorem dX6_present_14 : decode cX6_present 14 = .ok (.iload_n 2, 1) := by decide +kernel
theorem dX6_present_15 : decode cX6_present 15 = .ok (.iaload, 1) := by decide +kernel
theorem dX6_present_16 : decode cX6_present 16 = .ok (.iconst (-1), 1) := by decide +kernel
theorem dX6_present_17 : decode cX6_present 17 = .ok (.if_icmp .eq 6, 3) := by decide +kernel
theorem dX6_present_20 : decode cX6_present 20 = .ok (.iinc 1 1, 3) := by decide +kernel
theorem dX6_present_23 : decode cX6_present 23 = .ok (.iinc 2 1, 3) := by decide +kernel
theorem dX6_present_26 : decode cX6_present 26 = .ok (.goto (-22), 3) := by decide +kernel
theorem dX6_present_29 : decode cX6_present 29 = .ok (.iload_n 1, 1) := by decide +kernel
theorem dX6_present_30 : decode cX6_present 30 = .ok (.ireturn, 1) := by decide +kernel
theorem dX7_init_0 : decode cX7_init 0 = .ok (.aload_n 0, 1) := by decide +kernel
theorem dX7_init_1 : decode cX7_init 1 = .ok (.invokespecial 1, 3) := by decide +kernel
theorem dX7_init_4 : decode cX7_init 4 = .ok (.aload_n 0, 1) := by decide +kernel
theorem dX7_init_5 : decode cX7_init 5 = .ok (.new 7, 3) := by decide +kernel
theorem dX7_init_8 : decode cX7_init 8 = .ok (.dup, 1) := by decide +kernel
theorem dX7_init_9 : decode cX7_init 9 = .ok (.invokespecial 9, 3) := by decide +kernel
theorem dX7_init_12 : decode cX7_init 12 = .ok (.putfield 10, 3) := by decide +kernel
theorem dX7_init_15 : decode cX7_init 15 = .ok (.aload_n 0, 1) := by decide +kernel
theorem dX7_init_16 : decode cX7_init 16 = .ok (.new 16, 3) := by decide +kernel
theorem dX7_init_19 : decode cX7_init 19 = .ok (.dup, 1) := by decide +kernel
theorem dX7_init_20 : decode cX7_init 20 = .ok (.invokespecial 18, 3) := by decide +kernel
theorem dX7_init_23 : decode cX7_init 23 = .ok (.putfield 19, 3) := by decide +kernel
theorem dX7_init_26 : decode cX7_init 26 = .ok (.aload_n 0, 1) := by decide +kernel
theorem dX7_init_27 : decode cX7_init 27 = .ok (.new 23, 3) := by decide +kernel
theorem dX7_init_30 : decode cX7_init 30 = .ok (.dup, 1) := by decide +kernel
theorem dX7_init_31 : decode cX7_init 31 = .ok (.invokespecial 25, 3) := by decide +kernel
theorem dX7_init_34 : decode cX7_init 34 = .ok (.putfield 26, 3) := by decide +kernel
theorem dX7_init_37 : decode cX7_init 37 = .ok (.aload_n 0, 1) := by decide +kernel
theorem dX7_init_38 : decode cX7_init 38 = .ok (.iconst 2, 1) := by decide +kernel
theorem dX7_init_39 : decode cX7_init 39 = .ok (.anewarray 23, 3) := by decide +kernel
theorem dX7_init_42 : decode cX7_init 42 = .ok (.dup, 1) := by decide +kernel
theorem dX7_init_43 : decode cX7_init 43 = .ok (.iconst 0, 1) := by decide +kernel
theorem dX7_init_44 : decode cX7_init 44 = .ok (.new 23, 3) := by decide +kernel
theorem dX7_init_47 : decode cX7_init 47 = .ok (.dup, 1) := by decide +kernel
theorem dX7_init_48 : decode cX7_init 48 = .ok (.invokespecial 25, 3) := by decide +kernel
theorem dX7_init_51 : decode cX7_init 51 = .ok (.aastore, 1) := by decide +kernel
theorem dX7_init_52 : decode cX7_init 52 = .ok (.dup, 1) := by decide +kernel
theorem dX7_init_53 : decode cX7_init 53 = .ok (.iconst 1, 1) := by decide +kernel
theorem dX7_init_54 : decode cX7_init 54 = .ok (.new 23, 3) := by decide +kernel
theorem dX7_init_57 : decode cX7_init 57 = .ok (.dup, 1) := by decide +kernel
theorem dX7_init_58 : decode cX7_init 58 = .ok (.invokespecial 25, 3) := by decide +kernel
theorem dX7_init_61 : decode cX7_init 61 = .ok (.aastore, 1) := by decide +kernel
theorem dX7_init_62 : decode cX7_init 62 = .ok (.putfield 30, 3) := by decide +kernel
theorem dX7_init_65 : decode cX7_init 65 = .ok (.aload_n 0, 1) := by decide +kernel
theorem dX7_init_66 : decode cX7_init 66 = .ok (.new 34, 3) := by decide +kernel
theorem dX7_init_69 : decode cX7_init 69 = .ok (.dup, 1) := by decide +kernel
theorem dX7_init_70 : decode cX7_init 70 = .ok (.invokespecial 36, 3) := by decide +kernel
theorem dX7_init_73 : decode cX7_init 73 = .ok (.putfield 37, 3) := by decide +kernel
theorem dX7_init_76 : decode cX7_init 76 = .ok (.aload_n 0, 1) := by decide +kernel
theorem dX7_init_77 : decode cX7_init 77 = .ok (.new 41, 3) := by decide +kernel
theorem dX7_init_80 : decode cX7_init 80 = .ok (.dup, 1) := by decide +kernel
theorem dX7_init_81 : decode cX7_init 81 = .ok (.invokespecial 43, 3) := by decide +kernel
theorem dX7_init_84 : decode cX7_init 84 = .ok (.putfield 44, 3) := by decide +kernel
theorem dX7_init_87 : decode cX7_init 87 = .ok (.aload_n 0, 1) := by decide +kernel
theorem dX7_init_88 : decode cX7_init 88 = .ok (.new 48, 3) := by decide +kernel
theorem dX7_init_91 : decode cX7_init 91 = .ok (.dup, 1) := by decide +kernel
theorem dX7_init_92 : decode cX7_init 92 = .ok (.invokespecial 50, 3) := by decide +kernel
theorem dX7_init_95 : decode cX7_init 95 = .ok (.putfield 51, 3) := by decide +kernel
theorem dX7_init_98 : decode cX7_init 98 = .ok (.aload_n 0, 1) := by decide +kernel
theorem dX7_init_99 : decode cX7_init 99 = .ok (.iconst 0, 1) := by decide +kernel
theorem dX7_init_100 : decode cX7_init 100 = .ok (.putfield 55, 3) := by decide +kernel
theorem dX7_init_103 : decode cX7_init 103 = .ok (.return_, 1) := by decide +kernel
theorem dX7_row_0 : decode cX7_row 0 = .ok (.aload_n 0, 1) := by decide +kernel
theorem dX7_row_1 : decode cX7_row 1 = .ok (.getfield 10, 3) := by decide +kernel
theorem dX7_row_4 : decode cX7_row 4 = .ok (.iload_n 1, 1) := by decide +kernel
theorem dX7_row_5 : decode cX7_row 5 = .ok (.invokevirtual 59, 3) := by decide +kernel
theorem dX7_row_8 : decode cX7_row 8 = .ok (.ifCond .eq 20, 3) := by decide +kernel
theorem dX7_row_11 : decode cX7_row 11 = .ok (.aload_n 0, 1) := by decide +kernel
theorem dX7_row_12 : decode cX7_row 12 = .ok (.getfield 10, 3) := by decide +kernel
theorem dX7_row_15 : decode cX7_row 15 = .ok (.iload_n 2, 1) := by decide +kernel
theorem dX7_row_16 : decode cX7_row 16 = .ok (.invokevirtual 63, 3) := by decide +kernel
theorem dX7_row_19 : decode cX7_row 19 = .ok (.ifCond .eq 9, 3) := by decide +kernel
theorem dX7_row_22 : decode cX7_row 22 = .ok (.iload_n 3, 1) := by decide +kernel
theorem dX7_row_23 : decode cX7_row 23 = .ok (.bipush 40, 2) := by decide +kernel
theorem dX7_row_25 : decode cX7_row 25 = .ok (.if_icmp .le 6, 3) := by decide +kernel
theorem dX7_row_28 : decode cX7_row 28 = .ok (.ldc 66, 2) := by decide +kernel
theorem dX7_row_30 : decode cX7_row 30 = .ok (.ireturn, 1) := by decide +kernel
theorem dX7_row_31 : decode cX7_row 31 = .ok (.iload_n 3, 1) := by decide +kernel
theorem dX7_row_32 : decode cX7_row 32 = .ok (.ifCond .ge 9, 3) := by decide +kernel
theorem dX7_row_35 : decode cX7_row 35 = .ok (.aload_n 0, 1) := by decide +kernel
theorem dX7_row_36 : decode cX7_row 36 = .ok (.iconst 4, 1) := by decide +kernel
theorem dX7_row_37 : decode cX7_row 37 = .ok (.invokevirtual 67, 3) := by decide +kernel
theorem dX7_row_40 : decode cX7_row 40 = .ok (.ireturn, 1) := by decide +kernel
theorem dX7_row_41 : decode cX7_row 41 = .ok (.aload_n 0, 1) := by decide +kernel
theorem dX7_row_42 : decode cX7_row 42 = .ok (.getfield 10, 3) := by decide +kernel
theorem dX7_row_45 : decode cX7_row 45 = .ok (.iload_n 1, 1) := by decide +kernel
theorem dX7_row_46 : decode cX7_row 46 = .ok (.iload_n 2, 1) := by decide +kernel
theorem dX7_row_47 : decode cX7_row 47 = .ok (.iload_n 3, 1) := by decide +kernel
theorem dX7_row_48 : decode cX7_row 48 = .ok (.invokevirtual 71, 3) := by decide +kernel
theorem dX7_row_51 : decode cX7_row 51 = .ok (.aload_n 0, 1) := by decide +kernel
theorem dX7_row_52 : decode cX7_row 52 = .ok (.iload_n 3, 1) := by decide +kernel
theorem dX7_row_53 : decode cX7_row 53 = .ok (.invokevirtual 75, 3) := by decide +kernel
theorem dX7_row_56 : decode cX7_row 56 = .ok (.ireturn, 1) := by decide +kernel
theorem dX7_set_0 : decode cX7_set 0 = .ok (.aload_n 0, 1) := by decide +kernel
theorem dX7_set_1 : decode cX7_set 1 = .ok (.getfield 10, 3) := by decide +kernel
theorem dX7_set_4 : decode cX7_set 4 = .ok (.iload_n 1, 1) := by decide +kernel
theorem dX7_set_5 : decode cX7_set 5 = .ok (.invokevirtual 59, 3) := by decide +kernel
theorem dX7_set_8 : decode cX7_set 8 = .ok (.ifCond .ne 6, 3) := by decide +kernel
theorem dX7_set_11 : decode cX7_set 11 = .ok (.ldc 66, 2) := by decide +kernel
theorem dX7_set_13 : decode cX7_set 13 = .ok (.ireturn, 1) := by decide +kernel
theorem dX7_set_14 : decode cX7_set 14 = .ok (.aload_n 0, 1) := by decide +kernel
theorem dX7_set_15 : decode cX7_set 15 = .ok (.getfield 10, 3) := by decide +kernel
theorem dX7_set_18 : decode cX7_set 18 = .ok (.iload_n 1, 1) := by decide +kernel
theorem dX7_set_19 : decode cX7_set 19 = .ok (.invokevirtual 78, 3) := by decide +kernel
theorem dX7_set_22 : decode cX7_set 22 = .ok (.ifCond .eq 9, 3) := by decide +kernel
theorem dX7_set_25 : decode cX7_set 25 = .ok (.aload_n 0, 1) := by decide +kernel
theorem dX7_set_26 : decode cX7_set 26 = .ok (.iconst 1, 1) := by decide +kernel
theorem dX7_set_27 : decode cX7_set 27 = .ok (.invokevirtual 67, 3) := by decide +kernel
theorem dX7_set_30 : decode cX7_set 30 = .ok (.ireturn, 1) := by decide +kernel
theorem dX7_set_31 : decode cX7_set 31 = .ok (.aload_n 0, 1) := by decide +kernel
theorem dX7_set_32 : decode cX7_set 32 = .ok (.getfield 10, 3) := by decide +kernel
theorem dX7_set_35 : decode cX7_set 35 = .ok (.iload_n 1, 1) := by decide +kernel
theorem dX7_set_36 : decode cX7_set 36 = .ok (.iload_n 2, 1) := by decide +kernel
theorem dX7_set_37 : decode cX7_set 37 = .ok (.iconst 1, 1) := by decide +kernel
theorem dX7_set_38 : decode cX7_set 38 = .ok (.invokevirtual 81, 3) := by decide +kernel
theorem dX7_set_41 : decode cX7_set 41 = .ok (.ifCond .ne 9, 3) := by decide +kernel
theorem dX7_set_44 : decode cX7_set 44 = .ok (.aload_n 0, 1) := by decide +kernel
theorem dX7_set_45 : decode cX7_set 45 = .ok (.iconst 2, 1) := by decide +kernel
theorem dX7_set_46 : decode cX7_set 46 = .ok (.invokevirtual 67, 3) := by decide +kernel
theorem dX7_set_49 : decode cX7_set 49 = .ok (.ireturn, 1) := by decide +kernel
theorem dX7_set_50 : decode cX7_set 50 = .ok (.aload_n 0, 1) := by decide +kernel
theorem dX7_set_51 : decode cX7_set 51 = .ok (.aload_n 0, 1) := by decide +kernel
theorem dX7_set_52 : decode cX7_set 52 = .ok (.getfield 10, 3) := by decide +kernel
theorem dX7_set_55 : decode cX7_set 55 = .ok (.iload_n 1, 1) := by decide +kernel
theorem dX7_set_56 : decode cX7_set 56 = .ok (.iload_n 2, 1) := by decide +kernel
theorem dX7_set_57 : decode cX7_set 57 = .ok (.iload_n 3, 1) := by decide +kernel
theorem dX7_set_58 : decode cX7_set 58 = .ok (.invokevirtual 85, 3) := by decide +kernel
theorem dX7_set_61 : decode cX7_set 61 = .ok (.invokevirtual 75, 3) := by decide +kernel
theorem dX7_set_64 : decode cX7_set 64 = .ok (.ireturn, 1) := by decide +kernel
theorem dX7_copy_0 : decode cX7_copy 0 = .ok (.aload_n 0, 1) := by decide +kernel
theorem dX7_copy_1 : decode cX7_copy 1 = .ok (.getfield 10, 3) := by decide +kernel
theorem dX7_copy_4 : decode cX7_copy 4 = .ok (.iload_n 1, 1) := by decide +kernel
theorem dX7_copy_5 : decode cX7_copy 5 = .ok (.invokevirtual 59, 3) := by decide +kernel
theorem dX7_copy_8 : decode cX7_copy 8 = .ok (.ifCond .eq 14, 3) := by decide +kernel
theorem dX7_copy_11 : decode cX7_copy 11 = .ok (.aload_n 0, 1) := by decide +kernel
theorem dX7_copy_12 : decode cX7_copy 12 = .ok (.getfield 10, 3) := by decide +kernel
theorem dX7_copy_15 : decode cX7_copy 15 = .ok (.iload_n 3, 1) := by decide +kernel
theorem dX7_copy_16 : decode cX7_copy 16 = .ok (.invokevirtual 59, 3) := by decide +kernel
theorem dX7_copy_19 : decode cX7_copy 19 = .ok (.ifCond .ne 6, 3) := by decide +kernel
theorem dX7_copy_22 : decode cX7_copy 22 = .ok (.ldc 66, 2) := by decide +kernel
theorem dX7_copy_24 : decode cX7_copy 24 = .ok (.ireturn, 1) := by decide +kernel
theorem dX7_copy_25 : decode cX7_copy 25 = .ok (.aload_n 0, 1) := by decide +kernel
theorem dX7_copy_26 : decode cX7_copy 26 = .ok (.getfield 10, 3) := by decide +kernel
theorem dX7_copy_29 : decode cX7_copy 29 = .ok (.iload_n 1, 1) := by decide +kernel
theorem dX7_copy_30 : decode cX7_copy 30 = .ok (.invokevirtual 78, 3) := by decide +kernel
theorem dX7_copy_33 : decode cX7_copy 33 = .ok (.ifCond .ne 14, 3) := by decide +kernel
theorem dX7_copy_36 : decode cX7_copy 36 = .ok (.aload_n 0, 1) := by decide +kernel
theorem dX7_copy_37 : decode cX7_copy 37 = .ok (.getfield 10, 3) := by decide +kernel
theorem dX7_copy_40 : decode cX7_copy 40 = .ok (.iload_n 3, 1) := by decide +kernel
theorem dX7_copy_41 : decode cX7_copy 41 = .ok (.invokevirtual 78, 3) := by decide +kernel
theorem dX7_copy_44 : decode cX7_copy 44 = .ok (.ifCond .eq 9, 3) := by decide +kernel
theorem dX7_copy_47 : decode cX7_copy 47 = .ok (.aload_n 0, 1) := by decide +kernel
theorem dX7_copy_48 : decode cX7_copy 48 = .ok (.iconst 1, 1) := by decide +kernel
theorem dX7_copy_49 : decode cX7_copy 49 = .ok (.invokevirtual 67, 3) := by decide +kernel
theorem dX7_copy_52 : decode cX7_copy 52 = .ok (.ireturn, 1) := by decide +kernel
theorem dX7_copy_53 : decode cX7_copy 53 = .ok (.aload_n 0, 1) := by decide +kernel
theorem dX7_copy_54 : decode cX7_copy 54 = .ok (.getfield 10, 3) := by decide +kernel
theorem dX7_copy_57 : decode cX7_copy 57 = .ok (.iload_n 1, 1) := by decide +kernel
theorem dX7_copy_58 : decode cX7_copy 58 = .ok (.invokevirtual 89, 3) := by decide +kernel
theorem dX7_copy_61 : decode cX7_copy 61 = .ok (.aload_n 0, 1) := by decide +kernel
theorem dX7_copy_62 : decode cX7_copy 62 = .ok (.getfield 10, 3) := by decide +kernel
theorem dX7_copy_65 : decode cX7_copy 65 = .ok (.iload_n 3, 1) := by decide +kernel
theorem dX7_copy_66 : decode cX7_copy 66 = .ok (.invokevirtual 89, 3) := by decide +kernel
theorem dX7_copy_69 : decode cX7_copy 69 = .ok (.if_icmp .eq 9, 3) := by decide +kernel
theorem dX7_copy_72 : decode cX7_copy 72 = .ok (.aload_n 0, 1) := by decide +kernel
theorem dX7_copy_73 : decode cX7_copy 73 = .ok (.iconst 5, 1) := by decide +kernel
theorem dX7_copy_74 : decode cX7_copy 74 = .ok (.invokevirtual 67, 3) := by decide +kernel
theorem dX7_copy_77 : decode cX7_copy 77 = .ok (.ireturn, 1) := by decide +kernel
theorem dX7_copy_78 : decode cX7_copy 78 = .ok (.aload_n 0, 1) := by decide +kernel
theorem dX7_copy_79 : decode cX7_copy 79 = .ok (.getfield 10, 3) := by decide +kernel
theorem dX7_copy_82 : decode cX7_copy 82 = .ok (.iload_n 1, 1) := by decide +kernel
theorem dX7_copy_83 : decode cX7_copy 83 = .ok (.iload_n 2, 1) := by decide +kernel
theorem dX7_copy_84 : decode cX7_copy 84 = .ok (.iload 5, 2) := by decide +kernel
theorem dX7_copy_86 : decode cX7_copy 86 = .ok (.invokevirtual 81, 3) := by decide +kernel
theorem dX7_copy_89 : decode cX7_copy 89 = .ok (.ifCond .eq 18, 3) := by decide +kernel
theorem dX7_copy_92 : decode cX7_copy 92 = .ok (.aload_n 0, 1) := by decide +kernel
theorem dX7_copy_93 : decode cX7_copy 93 = .ok (.getfield 10, 3) := by decide +kernel
theorem dX7_copy_96 : decode cX7_copy 96 = .ok (.iload_n 3, 1) := by decide +kernel
theorem dX7_copy_97 : decode cX7_copy 97 = .ok (.iload 4, 2) := by decide +kernel
theorem dX7_copy_99 : decode cX7_copy 99 = .ok (.iload 5, 2) := by decide +kernel
theorem dX7_copy_101 : decode cX7_copy 101 = .ok (.invokevirtual 81, 3) := by decide +kernel
theorem dX7_copy_104 : decode cX7_copy 104 = .ok (.ifCond .ne 9, 3) := by decide +kernel
theorem dX7_copy_107 : decode cX7_copy 107 = .ok (.aload_n 0, 1) := by decide +kernel
theorem dX7_copy_108 : decode cX7_copy 108 = .ok (.iconst 2, 1) := by decide +kernel
theorem dX7_copy_109 : decode cX7_copy 109 = .ok (.invokevirtual 67, 3) := by decide +kernel
theorem dX7_copy_112 : decode cX7_copy 112 = .ok (.ireturn, 1) := by decide +kernel
theorem dX7_copy_113 : decode cX7_copy 113 = .ok (.aload_n 0, 1) := by decide +kernel
theorem dX7_copy_114 : decode cX7_copy 114 = .ok (.getfield 10, 3) := by decide +kernel
theorem dX7_copy_117 : decode cX7_copy 117 = .ok (.iload_n 1, 1) := by decide +kernel
theorem dX7_copy_118 : decode cX7_copy 118 = .ok (.iload_n 2, 1) := by decide +kernel
theorem dX7_copy_119 : decode cX7_copy 119 = .ok (.iload_n 3, 1) := by decide +kernel
theorem dX7_copy_120 : decode cX7_copy 120 = .ok (.iload 4, 2) := by decide +kernel
theorem dX7_copy_122 : decode cX7_copy 122 = .ok (.iload 5, 2) := by decide +kernel
theorem dX7_copy_124 : decode cX7_copy 124 = .ok (.invokevirtual 92, 3) := by decide +kernel
theorem dX7_copy_127 : decode cX7_copy 127 = .ok (.aload_n 0, 1) := by decide +kernel
theorem dX7_copy_128 : decode cX7_copy 128 = .ok (.iload 5, 2) := by decide +kernel
theorem dX7_copy_130 : decode cX7_copy 130 = .ok (.invokevirtual 75, 3) := by decide +kernel
theorem dX7_copy_133 : decode cX7_copy 133 = .ok (.ireturn, 1) := by decide +kernel
theorem dX7_drop_0 : decode cX7_drop 0 = .ok (.aload_n 0, 1) := by decide +kernel
theorem dX7_drop_1 : decode cX7_drop 1 = .ok (.getfield 10, 3) := by decide +kernel
theorem dX7_drop_4 : decode cX7_drop 4 = .ok (.iload_n 1, 1) := by decide +kernel
theorem dX7_drop_5 : decode cX7_drop 5 = .ok (.invokevirtual 59, 3) := by decide +kernel
theorem dX7_drop_8 : decode cX7_drop 8 = .ok (.ifCond .ne 6, 3) := by decide +kernel
theorem dX7_drop_11 : decode cX7_drop 11 = .ok (.ldc 66, 2) := by decide +kernel
theorem dX7_drop_13 : decode cX7_drop 13 = .ok (.ireturn, 1) := by decide +kernel
theorem dX7_drop_14 : decode cX7_drop 14 = .ok (.aload_n 0, 1) := by decide +kernel
theorem dX7_drop_15 : decode cX7_drop 15 = .ok (.getfield 10, 3) := by decide +kernel
theorem dX7_drop_18 : decode cX7_drop 18 = .ok (.iload_n 1, 1) := by decide +kernel
theorem dX7_drop_19 : decode cX7_drop 19 = .ok (.invokevirtual 78, 3) := by decide +kernel
theorem dX7_drop_22 : decode cX7_drop 22 = .ok (.ifCond .eq 9, 3) := by decide +kernel
theorem dX7_drop_25 : decode cX7_drop 25 = .ok (.aload_n 0, 1) := by decide +kernel
theorem dX7_drop_26 : decode cX7_drop 26 = .ok (.iconst 1, 1) := by decide +kernel
theorem dX7_drop_27 : decode cX7_drop 27 = .ok (.invokevirtual 67, 3) := by decide +kernel
theorem dX7_drop_30 : decode cX7_drop 30 = .ok (.ireturn, 1) := by decide +kernel
theorem dX7_drop_31 : decode cX7_drop 31 = .ok (.aload_n 0, 1) := by decide +kernel
theorem dX7_drop_32 : decode cX7_drop 32 = .ok (.aload_n 0, 1) := by decide +kernel
theorem dX7_drop_33 : decode cX7_drop 33 = .ok (.getfield 10, 3) := by decide +kernel
theorem dX7_drop_36 : decode cX7_drop 36 = .ok (.iload_n 1, 1) := by decide +kernel
theorem dX7_drop_37 : decode cX7_drop 37 = .ok (.invokevirtual 96, 3) := by decide +kernel
theorem dX7_drop_40 : decode cX7_drop 40 = .ok (.invokevirtual 75, 3) := by decide +kernel
theorem dX7_drop_43 : decode cX7_drop 43 = .ok (.ireturn, 1) := by decide +kernel
theorem dX7_feed_0 : decode cX7_feed 0 = .ok (.iload_n 3, 1) := by decide +kernel
theorem dX7_feed_1 : decode cX7_feed 1 = .ok (.iconst 1, 1) := by decide +kernel
theorem dX7_feed_2 : decode cX7_feed 2 = .ok (.if_icmp .lt 9, 3) := by decide +kernel
theorem dX7_feed_5 : decode cX7_feed 5 = .ok (.iload_n 3, 1) := by decide +kernel
theorem dX7_feed_6 : decode cX7_feed 6 = .ok (.bipush 8, 2) := by decide +kernel
theorem dX7_feed_8 : decode cX7_feed 8 = .ok (.if_icmp .le 6, 3) := by decide +kernel
theorem dX7_feed_11 : decode cX7_feed 11 = .ok (.ldc 66, 2) := by decide +kernel
theorem dX7_feed_13 : decode cX7_feed 13 = .ok (.ireturn, 1) := by decide +kernel
theorem dX7_feed_14 : decode cX7_feed 14 = .ok (.aload_n 0, 1) := by decide +kernel
theorem dX7_feed_15 : decode cX7_feed 15 = .ok (.getfield 19, 3) := by decide +kernel
theorem dX7_feed_18 : decode cX7_feed 18 = .ok (.lload_n 1, 1) := by decide +kernel
theorem dX7_feed_19 : decode cX7_feed 19 = .ok (.iload_n 3, 1) := by decide +kernel
theorem dX7_feed_20 : decode cX7_feed 20 = .ok (.invokevirtual 99, 3) := by decide +kernel
theorem dX7_feed_23 : decode cX7_feed 23 = .ok (.ifCond .eq 13, 3) := by decide +kernel
theorem dX7_feed_26 : decode cX7_feed 26 = .ok (.aload_n 0, 1) := by decide +kernel
theorem dX7_feed_27 : decode cX7_feed 27 = .ok (.getfield 19, 3) := by decide +kernel
theorem dX7_feed_30 : decode cX7_feed 30 = .ok (.invokevirtual 103, 3) := by decide +kernel
theorem dX7_feed_33 : decode cX7_feed 33 = .ok (.goto 5, 3) := by decide +kernel
theorem dX7_feed_36 : decode cX7_feed 36 = .ok (.ldc 107, 2) := by decide +kernel
theorem dX7_feed_38 : decode cX7_feed 38 = .ok (.ireturn, 1) := by decide +kernel
theorem dX7_field_0 : decode cX7_field 0 = .ok (.aload_n 0, 1) := by decide +kernel
theorem dX7_field_1 : decode cX7_field 1 = .ok (.getfield 19, 3) := by decide +kernel
theorem dX7_field_4 : decode cX7_field 4 = .ok (.invokevirtual 108, 3) := by decide +kernel
theorem dX7_field_7 : decode cX7_field 7 = .ok (.ifCond .ne 14, 3) := by decide +kernel
theorem dX7_field_10 : decode cX7_field 10 = .ok (.ldc 112, 2) := by decide +kernel
theorem dX7_field_12 : decode cX7_field 12 = .ok (.aload_n 0, 1) := by decide +kernel
theorem dX7_field_13 : decode cX7_field 13 = .ok (.getfield 19, 3) := by decide +kernel
theorem dX7_field_16 : decode cX7_field 16 = .ok (.invokevirtual 113, 3) := by decide +kernel
theorem dX7_field_19 : decode cX7_field 19 = .ok (.isub, 1) := by decide +kernel
theorem dX7_field_20 : decode cX7_field 20 = .ok (.ireturn, 1) := by decide +kernel
theorem dX7_field_21 : decode cX7_field 21 = .ok (.aload_n 0, 1) := by decide +kernel
theorem dX7_field_22 : decode cX7_field 22 = .ok (.getfield 26, 3) := by decide +kernel
theorem dX7_field_25 : decode cX7_field 25 = .ok (.aload_n 0, 1) := by decide +kernel
theorem dX7_field_26 : decode cX7_field 26 = .ok (.getfield 19, 3) := by decide +kernel
theorem dX7_field_29 : decode cX7_field 29 = .ok (.invokevirtual 116, 3) := by decide +kernel
theorem dX7_field_32 : decode cX7_field 32 = .ok (.invokevirtual 120, 3) := by decide +kernel
theorem dX7_field_35 : decode cX7_field 35 = .ok (.aload_n 0, 1) := by decide +kernel
theorem dX7_field_36 : decode cX7_field 36 = .ok (.getfield 37, 3) := by decide +kernel
theorem dX7_field_39 : decode cX7_field 39 = .ok (.invokevirtual 124, 3) := by decide +kernel
theorem dX7_field_42 : decode cX7_field 42 = .ok (.aload_n 0, 1) := by decide +kernel
theorem dX7_field_43 : decode cX7_field 43 = .ok (.getfield 26, 3) := by decide +kernel
theorem dX7_field_46 : decode cX7_field 46 = .ok (.getfield 127, 3) := by decide +kernel
theorem dX7_field_49 : decode cX7_field 49 = .ok (.ireturn, 1) := by decide +kernel
theorem dX7_fault_0 : decode cX7_fault 0 = .ok (.aload_n 0, 1) := by decide +kernel
theorem dX7_fault_1 : decode cX7_fault 1 = .ok (.getfield 19, 3) := by decide +kernel
theorem dX7_fault_4 : decode cX7_fault 4 = .ok (.invokevirtual 130, 3) := by decide +kernel
theorem dX7_fault_7 : decode cX7_fault 7 = .ok (.ireturn, 1) := by decide +kernel
theorem dX7_say_0 : decode cX7_say 0 = .ok (.aload_n 0, 1) := by decide +kernel
theorem dX7_say_1 : decode cX7_say 1 = .ok (.getfield 26, 3) := by decide +kernel
theorem dX7_say_4 : decode cX7_say 4 = .ok (.iload_n 1, 1) := by decide +kernel
theorem dX7_say_5 : decode cX7_say 5 = .ok (.invokevirtual 133, 3) := by decide +kernel
theorem dX7_say_8 : decode cX7_say 8 = .ok (.ifCond .eq 13, 3) := by decide +kernel
theorem dX7_say_11 : decode cX7_say 11 = .ok (.iload_n 2, 1) := by decide +kernel
theorem dX7_say_12 : decode cX7_say 12 = .ok (.ifCond .lt 9, 3) := by decide +kernel
theorem dX7_say_15 : decode cX7_say 15 = .ok (.iload_n 2, 1) := by decide +kernel
theorem dX7_say_16 : decode cX7_say 16 = .ok (.bipush 15, 2) := by decide +kernel
theorem dX7_say_18 : decode cX7_say 18 = .ok (.if_icmp .le 6, 3) := by decide +kernel
theorem dX7_say_21 : decode cX7_say 21 = .ok (.ldc 66, 2) := by decide +kernel
theorem dX7_say_23 : decode cX7_say 23 = .ok (.ireturn, 1) := by decide +kernel
theorem dX7_say_24 : decode cX7_say 24 = .ok (.aload_n 0, 1) := by decide +kernel
theorem dX7_say_25 : decode cX7_say 25 = .ok (.getfield 26, 3) := by decide +kernel
theorem dX7_say_28 : decode cX7_say 28 = .ok (.aload_n 0, 1) := by decide +kernel
theorem dX7_say_29 : decode cX7_say 29 = .ok (.getfield 26, 3) := by decide +kernel
theorem dX7_say_32 : decode cX7_say 32 = .ok (.getfield 136, 3) := by decide +kernel
theorem dX7_say_35 : decode cX7_say 35 = .ok (.iload_n 1, 1) := by decide +kernel
theorem dX7_say_36 : decode cX7_say 36 = .ok (.invokevirtual 139, 3) := by decide +kernel
theorem dX7_say_39 : decode cX7_say 39 = .ok (.ifCond .eq 8, 3) := by decide +kernel
theorem dX7_say_42 : decode cX7_say 42 = .ok (.ldc 143, 2) := by decide +kernel
theorem dX7_say_44 : decode cX7_say 44 = .ok (.goto 9, 3) := by decide +kernel
theorem dX7_say_47 : decode cX7_say 47 = .ok (.aload_n 0, 1) := by decide +kernel
theorem dX7_say_48 : decode cX7_say 48 = .ok (.iload_n 1, 1) := by decide +kernel
theorem dX7_say_49 : decode cX7_say 49 = .ok (.iload_n 2, 1) := by decide +kernel
theorem dX7_say_50 : decode cX7_say 50 = .ok (.invokevirtual 144, 3) := by decide +kernel
theorem dX7_say_53 : decode cX7_say 53 = .ok (.ireturn, 1) := by decide +kernel
theorem dX7_talk_0 : decode cX7_talk 0 = .ok (.aload_n 0, 1) := by decide +kernel
theorem dX7_talk_1 : decode cX7_talk 1 = .ok (.getfield 26, 3) := by decide +kernel
theorem dX7_talk_4 : decode cX7_talk 4 = .ok (.invokevirtual 148, 3) := by decide +kernel
theorem dX7_talk_7 : decode cX7_talk 7 = .ok (.ifCond .ne 6, 3) := by decide +kernel
theorem dX7_talk_10 : decode cX7_talk 10 = .ok (.ldc 143, 2) := by decide +kernel
theorem dX7_talk_12 : decode cX7_talk 12 = .ok (.ireturn, 1) := by decide +kernel
theorem dX7_talk_13 : decode cX7_talk 13 = .ok (.aload_n 0, 1) := by decide +kernel
theorem dX7_talk_14 : decode cX7_talk 14 = .ok (.getfield 10, 3) := by decide +kernel
theorem dX7_talk_17 : decode cX7_talk 17 = .ok (.iload_n 1, 1) := by decide +kernel
theorem dX7_talk_18 : decode cX7_talk 18 = .ok (.invokevirtual 59, 3) := by decide +kernel
theorem dX7_talk_21 : decode cX7_talk 21 = .ok (.ifCond .eq 14, 3) := by decide +kernel
theorem dX7_talk_24 : decode cX7_talk 24 = .ok (.iload_n 3, 1) := by decide +kernel
theorem dX7_talk_25 : decode cX7_talk 25 = .ok (.iconst 1, 1) := by decide +kernel
theorem dX7_talk_26 : decode cX7_talk 26 = .ok (.if_icmp .lt 9, 3) := by decide +kernel
theorem dX7_talk_29 : decode cX7_talk 29 = .ok (.iload_n 3, 1) := by decide +kernel
theorem dX7_talk_30 : decode cX7_talk 30 = .ok (.bipush 20, 2) := by decide +kernel
theorem dX7_talk_32 : decode cX7_talk 32 = .ok (.if_icmp .le 6, 3) := by decide +kernel
theorem dX7_talk_35 : decode cX7_talk 35 = .ok (.ldc 66, 2) := by decide +kernel
theorem dX7_talk_37 : decode cX7_talk 37 = .ok (.ireturn, 1) := by decide +kernel
theorem dX7_talk_38 : decode cX7_talk 38 = .ok (.aload_n 0, 1) := by decide +kernel
theorem dX7_talk_39 : decode cX7_talk 39 = .ok (.getfield 10, 3) := by decide +kernel
theorem dX7_talk_42 : decode cX7_talk 42 = .ok (.iload_n 1, 1) := by decide +kernel
theorem dX7_talk_43 : decode cX7_talk 43 = .ok (.invokevirtual 78, 3) := by decide +kernel
theorem dX7_talk_46 : decode cX7_talk 46 = .ok (.ifCond .eq 9, 3) := by decide +kernel
theorem dX7_talk_49 : decode cX7_talk 49 = .ok (.aload_n 0, 1) := by decide +kernel
theorem dX7_talk_50 : decode cX7_talk 50 = .ok (.iconst 1, 1) := by decide +kernel
theorem dX7_talk_51 : decode cX7_talk 51 = .ok (.invokevirtual 67, 3) := by decide +kernel
theorem dX7_talk_54 : decode cX7_talk 54 = .ok (.ireturn, 1) := by decide +kernel
theorem dX7_talk_55 : decode cX7_talk 55 = .ok (.aload_n 0, 1) := by decide +kernel
theorem dX7_talk_56 : decode cX7_talk 56 = .ok (.getfield 10, 3) := by decide +kernel
theorem dX7_talk_59 : decode cX7_talk 59 = .ok (.iload_n 1, 1) := by decide +kernel
theorem dX7_talk_60 : decode cX7_talk 60 = .ok (.iload_n 2, 1) := by decide +kernel
theorem dX7_talk_61 : decode cX7_talk 61 = .ok (.iload_n 3, 1) := by decide +kernel
theorem dX7_talk_62 : decode cX7_talk 62 = .ok (.invokevirtual 81, 3) := by decide +kernel
theorem dX7_talk_65 : decode cX7_talk 65 = .ok (.ifCond .ne 9, 3) := by decide +kernel
theorem dX7_talk_68 : decode cX7_talk 68 = .ok (.aload_n 0, 1) := by decide +kernel
theorem dX7_talk_69 : decode cX7_talk 69 = .ok (.iconst 2, 1) := by decide +kernel
theorem dX7_talk_70 : decode cX7_talk 70 = .ok (.invokevirtual 67, 3) := by decide +kernel
theorem dX7_talk_73 : decode cX7_talk 73 = .ok (.ireturn, 1) := by decide +kernel
theorem dX7_talk_74 : decode cX7_talk 74 = .ok (.aload_n 0, 1) := by decide +kernel
theorem dX7_talk_75 : decode cX7_talk 75 = .ok (.iload_n 1, 1) := by decide +kernel
theorem dX7_talk_76 : decode cX7_talk 76 = .ok (.iload_n 2, 1) := by decide +kernel
theorem dX7_talk_77 : decode cX7_talk 77 = .ok (.iload_n 3, 1) := by decide +kernel
theorem dX7_talk_78 : decode cX7_talk 78 = .ok (.invokevirtual 151, 3) := by decide +kernel
theorem dX7_talk_81 : decode cX7_talk 81 = .ok (.ifCond .eq 17, 3) := by decide +kernel
theorem dX7_talk_84 : decode cX7_talk 84 = .ok (.aload_n 0, 1) := by decide +kernel
theorem dX7_talk_85 : decode cX7_talk 85 = .ok (.aload_n 0, 1) := by decide +kernel
theorem dX7_talk_86 : decode cX7_talk 86 = .ok (.iload_n 1, 1) := by decide +kernel
theorem dX7_talk_87 : decode cX7_talk 87 = .ok (.iload_n 2, 1) := by decide +kernel
theorem dX7_talk_88 : decode cX7_talk 88 = .ok (.iload_n 3, 1) := by decide +kernel
theorem dX7_talk_89 : decode cX7_talk 89 = .ok (.invokevirtual 154, 3) := by decide +kernel
theorem dX7_talk_92 : decode cX7_talk 92 = .ok (.invokevirtual 75, 3) := by decide +kernel
theorem dX7_talk_95 : decode cX7_talk 95 = .ok (.goto 5, 3) := by decide +kernel
theorem dX7_talk_98 : decode cX7_talk 98 = .ok (.ldc 66, 2) := by decide +kernel
theorem dX7_talk_100 : decode cX7_talk 100 = .ok (.ireturn, 1) := by decide +kernel
theorem dX7_undo_0 : decode cX7_undo 0 = .ok (.aload_n 0, 1) := by decide +kernel
theorem dX7_undo_1 : decode cX7_undo 1 = .ok (.getfield 37, 3) := by decide +kernel
theorem dX7_undo_4 : decode cX7_undo 4 = .ok (.invokevirtual 157, 3) := by decide +kernel
theorem dX7_undo_7 : decode cX7_undo 7 = .ok (.ifCond .ne 6, 3) := by decide +kernel
theorem dX7_undo_10 : decode cX7_undo 10 = .ok (.ldc 143, 2) := by decide +kernel
theorem dX7_undo_12 : decode cX7_undo 12 = .ok (.ireturn, 1) := by decide +kernel
theorem dX7_undo_13 : decode cX7_undo 13 = .ok (.aload_n 0, 1) := by decide +kernel
theorem dX7_undo_14 : decode cX7_undo 14 = .ok (.getfield 37, 3) := by decide +kernel
theorem dX7_undo_17 : decode cX7_undo 17 = .ok (.aload_n 0, 1) := by decide +kernel
theorem dX7_undo_18 : decode cX7_undo 18 = .ok (.getfield 26, 3) := by decide +kernel
theorem dX7_undo_21 : decode cX7_undo 21 = .ok (.invokevirtual 160, 3) := by decide +kernel
theorem dX7_undo_24 : decode cX7_undo 24 = .ok (.aload_n 0, 1) := by decide +kernel
theorem dX7_undo_25 : decode cX7_undo 25 = .ok (.getfield 37, 3) := by decide +kernel
theorem dX7_undo_28 : decode cX7_undo 28 = .ok (.invokevirtual 157, 3) := by decide +kernel
theorem dX7_undo_31 : decode cX7_undo 31 = .ok (.ireturn, 1) := by decide +kernel
theorem dX7_house_0 : decode cX7_house 0 = .ok (.aload_n 0, 1) := by decide +kernel
theorem dX7_house_1 : decode cX7_house 1 = .ok (.getfield 26, 3) := by decide +kernel
theorem dX7_house_4 : decode cX7_house 4 = .ok (.iload_n 1, 1) := by decide +kernel
theorem dX7_house_5 : decode cX7_house 5 = .ok (.invokevirtual 133, 3) := by decide +kernel
theorem dX7_house_8 : decode cX7_house 8 = .ok (.ifCond .ne 6, 3) := by decide +kernel
theorem dX7_house_11 : decode cX7_house 11 = .ok (.ldc 66, 2) := by decide +kernel
theorem dX7_house_13 : decode cX7_house 13 = .ok (.ireturn, 1) := by decide +kernel
theorem dX7_house_14 : decode cX7_house 14 = .ok (.iload_n 2, 1) := by decide +kernel
theorem dX7_house_15 : decode cX7_house 15 = .ok (.tableswitch 172 0 8 #[49, 65, 75, 85, 95, 119, 136, 153, 162], 49) := by decide +kernel
theorem dX7_house_64 : decode cX7_house 64 = .ok (.aload_n 0, 1) := by decide +kernel
theorem dX7_house_65 : decode cX7_house 65 = .ok (.getfield 26, 3) := by decide +kernel
theorem dX7_house_68 : decode cX7_house 68 = .ok (.aload_n 0, 1) := by decide +kernel
theorem dX7_house_69 : decode cX7_house 69 = .ok (.getfield 26, 3) := by decide +kernel
theorem dX7_house_72 : decode cX7_house 72 = .ok (.getfield 136, 3) := by decide +kernel
theorem dX7_house_75 : decode cX7_house 75 = .ok (.iload_n 1, 1) := by decide +kernel
theorem dX7_house_76 : decode cX7_house 76 = .ok (.invokevirtual 163, 3) := by decide +kernel
theorem dX7_house_79 : decode cX7_house 79 = .ok (.ireturn, 1) := by decide +kernel
theorem dX7_house_80 : decode cX7_house 80 = .ok (.aload_n 0, 1) := by decide +kernel
theorem dX7_house_81 : decode cX7_house 81 = .ok (.getfield 26, 3) := by decide +kernel
theorem dX7_house_84 : decode cX7_house 84 = .ok (.getfield 166, 3) := by decide +kernel
theorem dX7_house_87 : decode cX7_house 87 = .ok (.iload_n 1, 1) := by decide +kernel
theorem dX7_house_88 : decode cX7_house 88 = .ok (.iaload, 1) := by decide +kernel
theorem dX7_house_89 : decode cX7_house 89 = .ok (.ireturn, 1) := by decide +kernel
theorem dX7_house_90 : decode cX7_house 90 = .ok (.aload_n 0, 1) := by decide +kernel
theorem dX7_house_91 : decode cX7_house 91 = .ok (.getfield 26, 3) := by decide +kernel
theorem dX7_house_94 : decode cX7_house 94 = .ok (.getfield 170, 3) := by decide +kernel
theorem dX7_house_97 : decode cX7_house 97 = .ok (.iload_n 1, 1) := by decide +kernel
theorem dX7_house_98 : decode cX7_house 98 = .ok (.iaload, 1) := by decide +kernel
theorem dX7_house_99 : decode cX7_house 99 = .ok (.ireturn, 1) := by decide +kernel
theorem dX7_house_100 : decode cX7_house 100 = .ok (.aload_n 0, 1) := by decide +kernel
theorem dX7_house_101 : decode cX7_house 101 = .ok (.getfield 26, 3) := by decide +kernel
theorem dX7_house_104 : decode cX7_house 104 = .ok (.getfield 173, 3) := by decide +kernel
theorem dX7_house_107 : decode cX7_house 107 = .ok (.iload_n 1, 1) := by decide +kernel
theorem dX7_house_108 : decode cX7_house 108 = .ok (.iaload, 1) := by decide +kernel
theorem dX7_house_109 : decode cX7_house 109 = .ok (.ireturn, 1) := by decide +kernel
theorem dX7_house_110 : decode cX7_house 110 = .ok (.aload_n 0, 1) := by decide +kernel
theorem dX7_house_111 : decode cX7_house 111 = .ok (.getfield 26, 3) := by decide +kernel
theorem dX7_house_114 : decode cX7_house 114 = .ok (.aload_n 0, 1) := by decide +kernel
theorem dX7_house_115 : decode cX7_house 115 = .ok (.getfield 26, 3) := by decide +kernel
theorem dX7_house_118 : decode cX7_house 118 = .ok (.getfield 136, 3) := by decide +kernel
theorem dX7_house_121 : decode cX7_house 121 = .ok (.iload_n 1, 1) := by decide +kernel
theorem dX7_house_122 : decode cX7_house 122 = .ok (.invokevirtual 139, 3) := by decide +kernel
theorem dX7_house_125 : decode cX7_house 125 = .ok (.ifCond .eq 7, 3) := by decide +kernel
theorem dX7_house_128 : decode cX7_house 128 = .ok (.iconst 1, 1) := by decide +kernel
theorem dX7_house_129 : decode cX7_house 129 = .ok (.goto 4, 3) := by decide +kernel
theorem dX7_house_132 : decode cX7_house 132 = .ok (.iconst 0, 1) := by decide +kernel
theorem dX7_house_133 : decode cX7_house 133 = .ok (.ireturn, 1) := by decide +kernel
theorem dX7_house_134 : decode cX7_house 134 = .ok (.aload_n 0, 1) := by decide +kernel
theorem dX7_house_135 : decode cX7_house 135 = .ok (.getfield 26, 3) := by decide +kernel
theorem dX7_house_138 : decode cX7_house 138 = .ok (.iload_n 1, 1) := by decide +kernel
theorem dX7_house_139 : decode cX7_house 139 = .ok (.invokevirtual 176, 3) := by decide +kernel
theorem dX7_house_142 : decode cX7_house 142 = .ok (.ifCond .eq 7, 3) := by decide +kernel
theorem dX7_house_145 : decode cX7_house 145 = .ok (.iconst 1, 1) := by decide +kernel
theorem dX7_house_146 : decode cX7_house 146 = .ok (.goto 4, 3) := by decide +kernel
theorem dX7_house_149 : decode cX7_house 149 = .ok (.iconst 0, 1) := by decide +kernel
theorem dX7_house_150 : decode cX7_house 150 = .ok (.ireturn, 1) := by decide +kernel
theorem dX7_house_151 : decode cX7_house 151 = .ok (.aload_n 0, 1) := by decide +kernel
theorem dX7_house_152 : decode cX7_house 152 = .ok (.getfield 26, 3) := by decide +kernel
theorem dX7_house_155 : decode cX7_house 155 = .ok (.iload_n 1, 1) := by decide +kernel
theorem dX7_house_156 : decode cX7_house 156 = .ok (.invokevirtual 179, 3) := by decide +kernel
theorem dX7_house_159 : decode cX7_house 159 = .ok (.ifCond .eq 7, 3) := by decide +kernel
theorem dX7_house_162 : decode cX7_house 162 = .ok (.iconst 1, 1) := by decide +kernel
theorem dX7_house_163 : decode cX7_house 163 = .ok (.goto 4, 3) := by decide +kernel
theorem dX7_house_166 : decode cX7_house 166 = .ok (.iconst 0, 1) := by decide +kernel
theorem dX7_house_167 : decode cX7_house 167 = .ok (.ireturn, 1) := by decide +kernel
theorem dX7_house_168 : decode cX7_house 168 = .ok (.aload_n 0, 1) := by decide +kernel
theorem dX7_house_169 : decode cX7_house 169 = .ok (.getfield 26, 3) := by decide +kernel
theorem dX7_house_172 : decode cX7_house 172 = .ok (.iload_n 1, 1) := by decide +kernel
theorem dX7_house_173 : decode cX7_house 173 = .ok (.invokevirtual 182, 3) := by decide +kernel
theorem dX7_house_176 : decode cX7_house 176 = .ok (.ireturn, 1) := by decide +kernel
theorem dX7_house_177 : decode cX7_house 177 = .ok (.aload_n 0, 1) := by decide +kernel
theorem dX7_house_178 : decode cX7_house 178 = .ok (.getfield 26, 3) := by decide +kernel
theorem dX7_house_181 : decode cX7_house 181 = .ok (.getfield 185, 3) := by decide +kernel
theorem dX7_house_184 : decode cX7_house 184 = .ok (.iload_n 1, 1) := by decide +kernel
theorem dX7_house_185 : decode cX7_house 185 = .ok (.iaload, 1) := by decide +kernel
theorem dX7_house_186 : decode cX7_house 186 = .ok (.ireturn, 1) := by decide +kernel
theorem dX7_house_187 : decode cX7_house 187 = .ok (.ldc 66, 2) := by decide +kernel
theorem dX7_house_189 : decode cX7_house 189 = .ok (.ireturn, 1) := by decide +kernel
theorem dX7_cell_0 : decode cX7_cell 0 = .ok (.aload_n 0, 1) := by decide +kernel
theorem dX7_cell_1 : decode cX7_cell 1 = .ok (.getfield 26, 3) := by decide +kernel
theorem dX7_cell_4 : decode cX7_cell 4 = .ok (.invokevirtual 148, 3) := by decide +kernel
theorem dX7_cell_7 : decode cX7_cell 7 = .ok (.ifCond .ne 6, 3) := by decide +kernel
theorem dX7_cell_10 : decode cX7_cell 10 = .ok (.ldc 143, 2) := by decide +kernel
theorem dX7_cell_12 : decode cX7_cell 12 = .ok (.ireturn, 1) := by decide +kernel
theorem dX7_cell_13 : decode cX7_cell 13 = .ok (.iload_n 1, 1) := by decide +kernel
theorem dX7_cell_14 : decode cX7_cell 14 = .ok (.ifCond .lt 10, 3) := by decide +kernel
theorem dX7_cell_17 : decode cX7_cell 17 = .ok (.iload_n 1, 1) := by decide +kernel
theorem dX7_cell_18 : decode cX7_cell 18 = .ok (.sipush 128, 3) := by decide +kernel
theorem dX7_cell_21 : decode cX7_cell 21 = .ok (.if_icmp .lt 6, 3) := by decide +kernel
theorem dX7_cell_24 : decode cX7_cell 24 = .ok (.ldc 66, 2) := by decide +kernel
theorem dX7_cell_26 : decode cX7_cell 26 = .ok (.ireturn, 1) := by decide +kernel
theorem dX7_cell_27 : decode cX7_cell 27 = .ok (.aload_n 0, 1) := by decide +kernel
theorem dX7_cell_28 : decode cX7_cell 28 = .ok (.getfield 26, 3) := by decide +kernel
theorem dX7_cell_31 : decode cX7_cell 31 = .ok (.iload_n 1, 1) := by decide +kernel
theorem dX7_cell_32 : decode cX7_cell 32 = .ok (.bipush 16, 2) := by decide +kernel
theorem dX7_cell_34 : decode cX7_cell 34 = .ok (.irem, 1) := by decide +kernel
theorem dX7_cell_35 : decode cX7_cell 35 = .ok (.iload_n 1, 1) := by decide +kernel
theorem dX7_cell_36 : decode cX7_cell 36 = .ok (.bipush 16, 2) := by decide +kernel
theorem dX7_cell_38 : decode cX7_cell 38 = .ok (.idiv, 1) := by decide +kernel
theorem dX7_cell_39 : decode cX7_cell 39 = .ok (.invokevirtual 188, 3) := by decide +kernel
theorem dX7_cell_42 : decode cX7_cell 42 = .ok (.ireturn, 1) := by decide +kernel
theorem dX7_lies_0 : decode cX7_lies 0 = .ok (.aload_n 0, 1) := by decide +kernel
theorem dX7_lies_1 : decode cX7_lies 1 = .ok (.iload_n 1, 1) := by decide +kernel
theorem dX7_lies_2 : decode cX7_lies 2 = .ok (.iload_n 2, 1) := by decide +kernel
theorem dX7_lies_3 : decode cX7_lies 3 = .ok (.iload_n 3, 1) := by decide +kernel
theorem dX7_lies_4 : decode cX7_lies 4 = .ok (.iload 4, 2) := by decide +kernel
theorem dX7_lies_6 : decode cX7_lies 6 = .ok (.iconst (-1), 1) := by decide +kernel
theorem dX7_lies_7 : decode cX7_lies 7 = .ok (.if_icmp .lt 7, 3) := by decide +kernel
theorem dX7_lies_10 : decode cX7_lies 10 = .ok (.iconst 1, 1) := by decide +kernel
theorem dX7_lies_11 : decode cX7_lies 11 = .ok (.goto 4, 3) := by decide +kernel
theorem dX7_lies_14 : decode cX7_lies 14 = .ok (.iconst 0, 1) := by decide +kernel
theorem dX7_lies_15 : decode cX7_lies 15 = .ok (.invokevirtual 191, 3) := by decide +kernel
theorem dX7_lies_18 : decode cX7_lies 18 = .ok (.istore 5, 2) := by decide +kernel
theorem dX7_lies_20 : decode cX7_lies 20 = .ok (.iload 5, 2) := by decide +kernel
theorem dX7_lies_22 : decode cX7_lies 22 = .ok (.ifCond .eq 6, 3) := by decide +kernel
theorem dX7_lies_25 : decode cX7_lies 25 = .ok (.iload 5, 2) := by decide +kernel
theorem dX7_lies_27 : decode cX7_lies 27 = .ok (.ireturn, 1) := by decide +kernel
theorem dX7_lies_28 : decode cX7_lies 28 = .ok (.aload_n 0, 1) := by decide +kernel
theorem dX7_lies_29 : decode cX7_lies 29 = .ok (.iload_n 1, 1) := by decide +kernel
theorem dX7_lies_30 : decode cX7_lies 30 = .ok (.iload_n 2, 1) := by decide +kernel
theorem dX7_lies_31 : decode cX7_lies 31 = .ok (.iload_n 3, 1) := by decide +kernel
theorem dX7_lies_32 : decode cX7_lies 32 = .ok (.invokevirtual 195, 3) := by decide +kernel
theorem dX7_lies_35 : decode cX7_lies 35 = .ok (.iload 4, 2) := by decide +kernel
theorem dX7_lies_37 : decode cX7_lies 37 = .ok (.iconst (-1), 1) := by decide +kernel
theorem dX7_lies_38 : decode cX7_lies 38 = .ok (.if_icmp .ne 13, 3) := by decide +kernel
theorem dX7_lies_41 : decode cX7_lies 41 = .ok (.aload_n 0, 1) := by decide +kernel
theorem dX7_lies_42 : decode cX7_lies 42 = .ok (.getfield 44, 3) := by decide +kernel
theorem dX7_lies_45 : decode cX7_lies 45 = .ok (.invokevirtual 198, 3) := by decide +kernel
theorem dX7_lies_48 : decode cX7_lies 48 = .ok (.goto 12, 3) := by decide +kernel
theorem dX7_lies_51 : decode cX7_lies 51 = .ok (.aload_n 0, 1) := by decide +kernel
theorem dX7_lies_52 : decode cX7_lies 52 = .ok (.getfield 44, 3) := by decide +kernel
theorem dX7_lies_55 : decode cX7_lies 55 = .ok (.iload 4, 2) := by decide +kernel
theorem dX7_lies_57 : decode cX7_lies 57 = .ok (.invokevirtual 201, 3) := by decide +kernel
theorem dX7_lies_60 : decode cX7_lies 60 = .ok (.ireturn, 1) := by decide +kernel
theorem dX7_guess_0 : decode cX7_guess 0 = .ok (.aload_n 0, 1) := by decide +kernel
theorem dX7_guess_1 : decode cX7_guess 1 = .ok (.iload_n 1, 1) := by decide +kernel
theorem dX7_guess_2 : decode cX7_guess 2 = .ok (.iload_n 2, 1) := by decide +kernel
theorem dX7_guess_3 : decode cX7_guess 3 = .ok (.iload_n 3, 1) := by decide +kernel
theorem dX7_guess_4 : decode cX7_guess 4 = .ok (.iload 4, 2) := by decide +kernel
theorem dX7_guess_6 : decode cX7_guess 6 = .ok (.ifCond .lt 13, 3) := by decide +kernel
theorem dX7_guess_9 : decode cX7_guess 9 = .ok (.iload 4, 2) := by decide +kernel
theorem dX7_guess_11 : decode cX7_guess 11 = .ok (.iconst 2, 1) := by decide +kernel
theorem dX7_guess_12 : decode cX7_guess 12 = .ok (.if_icmp .gt 7, 3) := by decide +kernel
theorem dX7_guess_15 : decode cX7_guess 15 = .ok (.iconst 1, 1) := by decide +kernel
theorem dX7_guess_16 : decode cX7_guess 16 = .ok (.goto 4, 3) := by decide +kernel
theorem dX7_guess_19 : decode cX7_guess 19 = .ok (.iconst 0, 1) := by decide +kernel
theorem dX7_guess_20 : decode cX7_guess 20 = .ok (.invokevirtual 191, 3) := by decide +kernel
theorem dX7_guess_23 : decode cX7_guess 23 = .ok (.istore 5, 2) := by decide +kernel
theorem dX7_guess_25 : decode cX7_guess 25 = .ok (.iload 5, 2) := by decide +kernel
theorem dX7_guess_27 : decode cX7_guess 27 = .ok (.ifCond .eq 6, 3) := by decide +kernel
theorem dX7_guess_30 : decode cX7_guess 30 = .ok (.iload 5, 2) := by decide +kernel
theorem dX7_guess_32 : decode cX7_guess 32 = .ok (.ireturn, 1) := by decide +kernel
theorem dX7_guess_33 : decode cX7_guess 33 = .ok (.aload_n 0, 1) := by decide +kernel
theorem dX7_guess_34 : decode cX7_guess 34 = .ok (.iload_n 1, 1) := by decide +kernel
theorem dX7_guess_35 : decode cX7_guess 35 = .ok (.iload_n 2, 1) := by decide +kernel
theorem dX7_guess_36 : decode cX7_guess 36 = .ok (.iload_n 3, 1) := by decide +kernel
theorem dX7_guess_37 : decode cX7_guess 37 = .ok (.invokevirtual 195, 3) := by decide +kernel
theorem dX7_guess_40 : decode cX7_guess 40 = .ok (.iload 4, 2) := by decide +kernel
theorem dX7_guess_42 : decode cX7_guess 42 = .ok (.ifCond .ne 11, 3) := by decide +kernel
theorem dX7_guess_45 : decode cX7_guess 45 = .ok (.aload_n 0, 1) := by decide +kernel
theorem dX7_guess_46 : decode cX7_guess 46 = .ok (.getfield 44, 3) := by decide +kernel
theorem dX7_guess_49 : decode cX7_guess 49 = .ok (.invokevirtual 204, 3) := by decide +kernel
theorem dX7_guess_52 : decode cX7_guess 52 = .ok (.ireturn, 1) := by decide +kernel
theorem dX7_guess_53 : decode cX7_guess 53 = .ok (.iload 4, 2) := by decide +kernel
theorem dX7_guess_55 : decode cX7_guess 55 = .ok (.iconst 1, 1) := by decide +kernel
theorem dX7_guess_56 : decode cX7_guess 56 = .ok (.if_icmp .ne 13, 3) := by decide +kernel
theorem dX7_guess_59 : decode cX7_guess 59 = .ok (.aload_n 0, 1) := by decide +kernel
theorem dX7_guess_60 : decode cX7_guess 60 = .ok (.getfield 44, 3) := by decide +kernel
theorem dX7_guess_63 : decode cX7_guess 63 = .ok (.invokevirtual 207, 3) := by decide +kernel
theorem dX7_guess_66 : decode cX7_guess 66 = .ok (.goto 11, 3) := by decide +kernel
theorem dX7_guess_69 : decode cX7_guess 69 = .ok (.aload_n 0, 1) := by decide +kernel
theorem dX7_guess_70 : decode cX7_guess 70 = .ok (.getfield 44, 3) := by decide +kernel
theorem dX7_guess_73 : decode cX7_guess 73 = .ok (.iload_n 2, 1) := by decide +kernel
theorem dX7_guess_74 : decode cX7_guess 74 = .ok (.invokevirtual 210, 3) := by decide +kernel
theorem dX7_guess_77 : decode cX7_guess 77 = .ok (.ireturn, 1) := by decide +kernel
theorem dX7_wanted_0 : decode cX7_wanted 0 = .ok (.aload_n 0, 1) := by decide +kernel
theorem dX7_wanted_1 : decode cX7_wanted 1 = .ok (.getfield 26, 3) := by decide +kernel
theorem dX7_wanted_4 : decode cX7_wanted 4 = .ok (.iload_n 1, 1) := by decide +kernel
theorem dX7_wanted_5 : decode cX7_wanted 5 = .ok (.invokevirtual 133, 3) := by decide +kernel
theorem dX7_wanted_8 : decode cX7_wanted 8 = .ok (.ifCond .eq 18, 3) := by decide +kernel
theorem dX7_wanted_11 : decode cX7_wanted 11 = .ok (.iload_n 2, 1) := by decide +kernel
theorem dX7_wanted_12 : decode cX7_wanted 12 = .ok (.ifCond .lt 14, 3) := by decide +kernel
theorem dX7_wanted_15 : decode cX7_wanted 15 = .ok (.iload_n 2, 1) := by decide +kernel
theorem dX7_wanted_16 : decode cX7_wanted 16 = .ok (.bipush 16, 2) := by decide +kernel
theorem dX7_wanted_18 : decode cX7_wanted 18 = .ok (.if_icmp .ge 8, 3) := by decide +kernel
theorem dX7_wanted_21 : decode cX7_wanted 21 = .ok (.iload_n 3, 1) := by decide +kernel
theorem dX7_wanted_22 : decode cX7_wanted 22 = .ok (.iconst (-1), 1) := by decide +kernel
theorem dX7_wanted_23 : decode cX7_wanted 23 = .ok (.if_icmp .ge 6, 3) := by decide +kernel
theorem dX7_wanted_26 : decode cX7_wanted 26 = .ok (.ldc 66, 2) := by decide +kernel
theorem dX7_wanted_28 : decode cX7_wanted 28 = .ok (.ireturn, 1) := by decide +kernel
theorem dX7_wanted_29 : decode cX7_wanted 29 = .ok (.aload_n 0, 1) := by decide +kernel
theorem dX7_wanted_30 : decode cX7_wanted 30 = .ok (.getfield 44, 3) := by decide +kernel
theorem dX7_wanted_33 : decode cX7_wanted 33 = .ok (.aload_n 0, 1) := by decide +kernel
theorem dX7_wanted_34 : decode cX7_wanted 34 = .ok (.getfield 26, 3) := by decide +kernel
theorem dX7_wanted_37 : decode cX7_wanted 37 = .ok (.iload_n 1, 1) := by decide +kernel
theorem dX7_wanted_38 : decode cX7_wanted 38 = .ok (.iload_n 2, 1) := by decide +kernel
theorem dX7_wanted_39 : decode cX7_wanted 39 = .ok (.invokevirtual 213, 3) := by decide +kernel
theorem dX7_wanted_42 : decode cX7_wanted 42 = .ok (.istore 4, 2) := by decide +kernel
theorem dX7_wanted_44 : decode cX7_wanted 44 = .ok (.iload_n 3, 1) := by decide +kernel
theorem dX7_wanted_45 : decode cX7_wanted 45 = .ok (.iconst (-1), 1) := by decide +kernel
theorem dX7_wanted_46 : decode cX7_wanted 46 = .ok (.if_icmp .ne 8, 3) := by decide +kernel
theorem dX7_wanted_49 : decode cX7_wanted 49 = .ok (.iload 4, 2) := by decide +kernel
theorem dX7_wanted_51 : decode cX7_wanted 51 = .ok (.goto 13, 3) := by decide +kernel
theorem dX7_wanted_54 : decode cX7_wanted 54 = .ok (.aload_n 0, 1) := by decide +kernel
theorem dX7_wanted_55 : decode cX7_wanted 55 = .ok (.getfield 44, 3) := by decide +kernel
theorem dX7_wanted_58 : decode cX7_wanted 58 = .ok (.iload_n 3, 1) := by decide +kernel
theorem dX7_wanted_59 : decode cX7_wanted 59 = .ok (.iload 4, 2) := by decide +kernel
theorem dX7_wanted_61 : decode cX7_wanted 61 = .ok (.invokevirtual 217, 3) := by decide +kernel
theorem dX7_wanted_64 : decode cX7_wanted 64 = .ok (.ireturn, 1) := by decide +kernel
theorem dX7_brook_0 : decode cX7_brook 0 = .ok (.aload_n 0, 1) := by decide +kernel
theorem dX7_brook_1 : decode cX7_brook 1 = .ok (.getfield 26, 3) := by decide +kernel
theorem dX7_brook_4 : decode cX7_brook 4 = .ok (.iload_n 1, 1) := by decide +kernel
theorem dX7_brook_5 : decode cX7_brook 5 = .ok (.invokevirtual 133, 3) := by decide +kernel
theorem dX7_brook_8 : decode cX7_brook 8 = .ok (.ifCond .eq 18, 3) := by decide +kernel
theorem dX7_brook_11 : decode cX7_brook 11 = .ok (.aload_n 0, 1) := by decide +kernel
theorem dX7_brook_12 : decode cX7_brook 12 = .ok (.getfield 44, 3) := by decide +kernel
theorem dX7_brook_15 : decode cX7_brook 15 = .ok (.aload_n 0, 1) := by decide +kernel
theorem dX7_brook_16 : decode cX7_brook 16 = .ok (.getfield 26, 3) := by decide +kernel
theorem dX7_brook_19 : decode cX7_brook 19 = .ok (.iload_n 1, 1) := by decide +kernel
theorem dX7_brook_20 : decode cX7_brook 20 = .ok (.invokevirtual 220, 3) := by decide +kernel
theorem dX7_brook_23 : decode cX7_brook 23 = .ok (.goto 5, 3) := by decide +kernel
theorem dX7_brook_26 : decode cX7_brook 26 = .ok (.ldc 66, 2) := by decide +kernel
theorem dX7_brook_28 : decode cX7_brook 28 = .ok (.ireturn, 1) := by decide +kernel
theorem dX7_image_0 : decode cX7_image 0 = .ok (.iload_n 1, 1) := by decide +kernel
theorem dX7_image_1 : decode cX7_image 1 = .ok (.ifCond .lt 8, 3) := by decide +kernel
theorem dX7_image_4 : decode cX7_image 4 = .ok (.iload_n 1, 1) := by decide +kernel
theorem dX7_image_5 : decode cX7_image 5 = .ok (.iconst 2, 1) := by decide +kernel
theorem dX7_image_6 : decode cX7_image 6 = .ok (.if_icmp .lt 6, 3) := by decide +kernel
theorem dX7_image_9 : decode cX7_image 9 = .ok (.ldc 66, 2) := by decide +kernel
theorem dX7_image_11 : decode cX7_image 11 = .ok (.ireturn, 1) := by decide +kernel
theorem dX7_image_12 : decode cX7_image 12 = .ok (.aload_n 0, 1) := by decide +kernel
theorem dX7_image_13 : decode cX7_image 13 = .ok (.getfield 26, 3) := by decide +kernel
theorem dX7_image_16 : decode cX7_image 16 = .ok (.invokevirtual 148, 3) := by decide +kernel
theorem dX7_image_19 : decode cX7_image 19 = .ok (.ifCond .ne 6, 3) := by decide +kernel
theorem dX7_image_22 : decode cX7_image 22 = .ok (.ldc 143, 2) := by decide +kernel
theorem dX7_image_24 : decode cX7_image 24 = .ok (.ireturn, 1) := by decide +kernel
theorem dX7_image_25 : decode cX7_image 25 = .ok (.aload_n 0, 1) := by decide +kernel
theorem dX7_image_26 : decode cX7_image 26 = .ok (.getfield 30, 3) := by decide +kernel
theorem dX7_image_29 : decode cX7_image 29 = .ok (.iload_n 1, 1) := by decide +kernel
theorem dX7_image_30 : decode cX7_image 30 = .ok (.aaload, 1) := by decide +kernel
theorem dX7_image_31 : decode cX7_image 31 = .ok (.aload_n 0, 1) := by decide +kernel
theorem dX7_image_32 : decode cX7_image 32 = .ok (.getfield 26, 3) := by decide +kernel
theorem dX7_image_35 : decode cX7_image 35 = .ok (.invokevirtual 120, 3) := by decide +kernel
theorem dX7_image_38 : decode cX7_image 38 = .ok (.iconst 1, 1) := by decide +kernel
theorem dX7_image_39 : decode cX7_image 39 = .ok (.ireturn, 1) := by decide +kernel
theorem dX7_restore_0 : decode cX7_restore 0 = .ok (.iload_n 1, 1) := by decide +kernel
theorem dX7_restore_1 : decode cX7_restore 1 = .ok (.ifCond .lt 8, 3) := by decide +kernel
theorem dX7_restore_4 : decode cX7_restore 4 = .ok (.iload_n 1, 1) := by decide +kernel
theorem dX7_restore_5 : decode cX7_restore 5 = .ok (.iconst 2, 1) := by decide +kernel
theorem dX7_restore_6 : decode cX7_restore 6 = .ok (.if_icmp .lt 6, 3) := by decide +kernel
theorem dX7_restore_9 : decode cX7_restore 9 = .ok (.ldc 66, 2) := by decide +kernel
theorem dX7_restore_11 : decode cX7_restore 11 = .ok (.ireturn, 1) := by decide +kernel
theorem dX7_restore_12 : decode cX7_restore 12 = .ok (.aload_n 0, 1) := by decide +kernel
theorem dX7_restore_13 : decode cX7_restore 13 = .ok (.getfield 30, 3) := by decide +kernel
theorem dX7_restore_16 : decode cX7_restore 16 = .ok (.iload_n 1, 1) := by decide +kernel
theorem dX7_restore_17 : decode cX7_restore 17 = .ok (.aaload, 1) := by decide +kernel
theorem dX7_restore_18 : decode cX7_restore 18 = .ok (.invokevirtual 148, 3) := by decide +kernel
theorem dX7_restore_21 : decode cX7_restore 21 = .ok (.ifCond .ne 6, 3) := by decide +kernel
theorem dX7_restore_24 : decode cX7_restore 24 = .ok (.ldc 143, 2) := by decide +kernel
theorem dX7_restore_26 : decode cX7_restore 26 = .ok (.ireturn, 1) := by decide +kernel
theorem dX7_restore_27 : decode cX7_restore 27 = .ok (.aload_n 0, 1) := by decide +kernel
theorem dX7_restore_28 : decode cX7_restore 28 = .ok (.getfield 26, 3) := by decide +kernel
theorem dX7_restore_31 : decode cX7_restore 31 = .ok (.aload_n 0, 1) := by decide +kernel
theorem dX7_restore_32 : decode cX7_restore 32 = .ok (.getfield 30, 3) := by decide +kernel
theorem dX7_restore_35 : decode cX7_restore 35 = .ok (.iload_n 1, 1) := by decide +kernel
theorem dX7_restore_36 : decode cX7_restore 36 = .ok (.aaload, 1) := by decide +kernel
theorem dX7_restore_37 : decode cX7_restore 37 = .ok (.invokevirtual 120, 3) := by decide +kernel
theorem dX7_restore_40 : decode cX7_restore 40 = .ok (.aload_n 0, 1) := by decide +kernel
theorem dX7_restore_41 : decode cX7_restore 41 = .ok (.getfield 37, 3) := by decide +kernel
theorem dX7_restore_44 : decode cX7_restore 44 = .ok (.invokevirtual 124, 3) := by decide +kernel
theorem dX7_restore_47 : decode cX7_restore 47 = .ok (.iconst 1, 1) := by decide +kernel
theorem dX7_restore_48 : decode cX7_restore 48 = .ok (.ireturn, 1) := by decide +kernel
theorem dX7_kind_0 : decode cX7_kind 0 = .ok (.aload_n 0, 1) := by decide +kernel
theorem dX7_kind_1 : decode cX7_kind 1 = .ok (.getfield 26, 3) := by decide +kernel
theorem dX7_kind_4 : decode cX7_kind 4 = .ok (.iload_n 1, 1) := by decide +kernel
theorem dX7_kind_5 : decode cX7_kind 5 = .ok (.invokevirtual 133, 3) := by decide +kernel
theorem dX7_kind_8 : decode cX7_kind 8 = .ok (.ifCond .eq 15, 3) := by decide +kernel
theorem dX7_kind_11 : decode cX7_kind 11 = .ok (.aload_n 0, 1) := by decide +kernel
theorem dX7_kind_12 : decode cX7_kind 12 = .ok (.getfield 26, 3) := by decide +kernel
theorem dX7_kind_15 : decode cX7_kind 15 = .ok (.getfield 224, 3) := by decide +kernel
theorem dX7_kind_18 : decode cX7_kind 18 = .ok (.iload_n 1, 1) := by decide +kernel
theorem dX7_kind_19 : decode cX7_kind 19 = .ok (.iaload, 1) := by decide +kernel
theorem dX7_kind_20 : decode cX7_kind 20 = .ok (.goto 5, 3) := by decide +kernel
theorem dX7_kind_23 : decode cX7_kind 23 = .ok (.ldc 66, 2) := by decide +kernel
theorem dX7_kind_25 : decode cX7_kind 25 = .ok (.ireturn, 1) := by decide +kernel
theorem dX7_as_0 : decode cX7_as 0 = .ok (.aload_n 0, 1) := by decide +kernel
theorem dX7_as_1 : decode cX7_as 1 = .ok (.getfield 26, 3) := by decide +kernel
theorem dX7_as_4 : decode cX7_as 4 = .ok (.iload_n 1, 1) := by decide +kernel
theorem dX7_as_5 : decode cX7_as 5 = .ok (.invokevirtual 133, 3) := by decide +kernel
theorem dX7_as_8 : decode cX7_as 8 = .ok (.ifCond .eq 10, 3) := by decide +kernel
theorem dX7_as_11 : decode cX7_as 11 = .ok (.iload_n 2, 1) := by decide +kernel
theorem dX7_as_12 : decode cX7_as 12 = .ok (.invokestatic 227, 3) := by decide +kernel
theorem dX7_as_15 : decode cX7_as 15 = .ok (.ifCond .ne 6, 3) := by decide +kernel
theorem dX7_as_18 : decode cX7_as 18 = .ok (.ldc 66, 2) := by decide +kernel
theorem dX7_as_20 : decode cX7_as 20 = .ok (.ireturn, 1) := by decide +kernel
theorem dX7_as_21 : decode cX7_as 21 = .ok (.aload_n 0, 1) := by decide +kernel
theorem dX7_as_22 : decode cX7_as 22 = .ok (.getfield 26, 3) := by decide +kernel
theorem dX7_as_25 : decode cX7_as 25 = .ok (.getfield 224, 3) := by decide +kernel
theorem dX7_as_28 : decode cX7_as 28 = .ok (.iload_n 1, 1) := by decide +kernel
theorem dX7_as_29 : decode cX7_as 29 = .ok (.iaload, 1) := by decide +kernel
theorem dX7_as_30 : decode cX7_as 30 = .ok (.iload_n 2, 1) := by decide +kernel
theorem dX7_as_31 : decode cX7_as 31 = .ok (.invokestatic 230, 3) := by decide +kernel
theorem dX7_as_34 : decode cX7_as 34 = .ok (.ifCond .eq 11, 3) := by decide +kernel
theorem dX7_as_37 : decode cX7_as 37 = .ok (.aload_n 0, 1) := by decide +kernel
theorem dX7_as_38 : decode cX7_as 38 = .ok (.iload_n 1, 1) := by decide +kernel
theorem dX7_as_39 : decode cX7_as 39 = .ok (.invokevirtual 75, 3) := by decide +kernel
theorem dX7_as_42 : decode cX7_as 42 = .ok (.goto 8, 3) := by decide +kernel
theorem dX7_as_45 : decode cX7_as 45 = .ok (.aload_n 0, 1) := by decide +kernel
theorem dX7_as_46 : decode cX7_as 46 = .ok (.iconst 3, 1) := by decide +kernel
theorem dX7_as_47 : decode cX7_as 47 = .ok (.invokevirtual 67, 3) := by decide +kernel
theorem dX7_as_50 : decode cX7_as 50 = .ok (.ireturn, 1) := by decide +kernel
theorem dX7_ask_0 : decode cX7_ask 0 = .ok (.aload_n 0, 1) := by decide +kernel
theorem dX7_ask_1 : decode cX7_ask 1 = .ok (.getfield 26, 3) := by decide +kernel
theorem dX7_ask_4 : decode cX7_ask 4 = .ok (.iload_n 1, 1) := by decide +kernel
theorem dX7_ask_5 : decode cX7_ask 5 = .ok (.invokevirtual 133, 3) := by decide +kernel
theorem dX7_ask_8 : decode cX7_ask 8 = .ok (.ifCond .eq 12, 3) := by decide +kernel
theorem dX7_ask_11 : decode cX7_ask 11 = .ok (.iload_n 2, 1) := by decide +kernel
theorem dX7_ask_12 : decode cX7_ask 12 = .ok (.ifCond .lt 8, 3) := by decide +kernel
theorem dX7_ask_15 : decode cX7_ask 15 = .ok (.iload_n 2, 1) := by decide +kernel
theorem dX7_ask_16 : decode cX7_ask 16 = .ok (.iconst 1, 1) := by decide +kernel
theorem dX7_ask_17 : decode cX7_ask 17 = .ok (.if_icmp .le 6, 3) := by decide +kernel
theorem dX7_ask_20 : decode cX7_ask 20 = .ok (.ldc 66, 2) := by decide +kernel
theorem dX7_ask_22 : decode cX7_ask 22 = .ok (.ireturn, 1) := by decide +kernel
theorem dX7_ask_23 : decode cX7_ask 23 = .ok (.aload_n 0, 1) := by decide +kernel
theorem dX7_ask_24 : decode cX7_ask 24 = .ok (.getfield 51, 3) := by decide +kernel
theorem dX7_ask_27 : decode cX7_ask 27 = .ok (.aload_n 0, 1) := by decide +kernel
theorem dX7_ask_28 : decode cX7_ask 28 = .ok (.getfield 26, 3) := by decide +kernel
theorem dX7_ask_31 : decode cX7_ask 31 = .ok (.iload_n 1, 1) := by decide +kernel
theorem dX7_ask_32 : decode cX7_ask 32 = .ok (.iload_n 2, 1) := by decide +kernel
theorem dX7_ask_33 : decode cX7_ask 33 = .ok (.invokevirtual 233, 3) := by decide +kernel
theorem dX7_ask_36 : decode cX7_ask 36 = .ok (.ireturn, 1) := by decide +kernel
theorem dX7_trace_0 : decode cX7_trace 0 = .ok (.aload_n 0, 1) := by decide +kernel
theorem dX7_trace_1 : decode cX7_trace 1 = .ok (.getfield 51, 3) := by decide +kernel
theorem dX7_trace_4 : decode cX7_trace 4 = .ok (.iload_n 1, 1) := by decide +kernel
theorem dX7_trace_5 : decode cX7_trace 5 = .ok (.invokevirtual 236, 3) := by decide +kernel
theorem dX7_trace_8 : decode cX7_trace 8 = .ok (.ireturn, 1) := by decide +kernel
theorem dX7_count_0 : decode cX7_count 0 = .ok (.iload_n 1, 1) := by decide +kernel
theorem dX7_count_1 : decode cX7_count 1 = .ok (.tableswitch 99 0 6 #[43, 51, 59, 67, 75, 83, 91], 43) := by decide +kernel
theorem dX7_count_44 : decode cX7_count 44 = .ok (.aload_n 0, 1) := by decide +kernel
theorem dX7_count_45 : decode cX7_count 45 = .ok (.getfield 10, 3) := by decide +kernel
theorem dX7_count_48 : decode cX7_count 48 = .ok (.invokevirtual 239, 3) := by decide +kernel
theorem dX7_count_51 : decode cX7_count 51 = .ok (.ireturn, 1) := by decide +kernel
theorem dX7_count_52 : decode cX7_count 52 = .ok (.aload_n 0, 1) := by decide +kernel
theorem dX7_count_53 : decode cX7_count 53 = .ok (.getfield 26, 3) := by decide +kernel
theorem dX7_count_56 : decode cX7_count 56 = .ok (.getfield 127, 3) := by decide +kernel
theorem dX7_count_59 : decode cX7_count 59 = .ok (.ireturn, 1) := by decide +kernel
theorem dX7_count_60 : decode cX7_count 60 = .ok (.aload_n 0, 1) := by decide +kernel
theorem dX7_count_61 : decode cX7_count 61 = .ok (.getfield 26, 3) := by decide +kernel
theorem dX7_count_64 : decode cX7_count 64 = .ok (.invokevirtual 242, 3) := by decide +kernel
theorem dX7_count_67 : decode cX7_count 67 = .ok (.ireturn, 1) := by decide +kernel
theorem dX7_count_68 : decode cX7_count 68 = .ok (.aload_n 0, 1) := by decide +kernel
theorem dX7_count_69 : decode cX7_count 69 = .ok (.getfield 37, 3) := by decide +kernel
theorem dX7_count_72 : decode cX7_count 72 = .ok (.invokevirtual 157, 3) := by decide +kernel
theorem dX7_count_75 : decode cX7_count 75 = .ok (.ireturn, 1) := by decide +kernel
theorem dX7_count_76 : decode cX7_count 76 = .ok (.aload_n 0, 1) := by decide +kernel
theorem dX7_count_77 : decode cX7_count 77 = .ok (.getfield 26, 3) := by decide +kernel
theorem dX7_count_80 : decode cX7_count 80 = .ok (.invokevirtual 245, 3) := by decide +kernel
theorem dX7_count_83 : decode cX7_count 83 = .ok (.ireturn, 1) := by decide +kernel
theorem dX7_count_84 : decode cX7_count 84 = .ok (.aload_n 0, 1) := by decide +kernel
theorem dX7_count_85 : decode cX7_count 85 = .ok (.getfield 26, 3) := by decide +kernel
theorem dX7_count_88 : decode cX7_count 88 = .ok (.invokevirtual 248, 3) := by decide +kernel
theorem dX7_count_91 : decode cX7_count 91 = .ok (.ireturn, 1) := by decide +kernel
theorem dX7_count_92 : decode cX7_count 92 = .ok (.aload_n 0, 1) := by decide +kernel
theorem dX7_count_93 : decode cX7_count 93 = .ok (.getfield 19, 3) := by decide +kernel
theorem dX7_count_96 : decode cX7_count 96 = .ok (.invokevirtual 103, 3) := by decide +kernel
theorem dX7_count_99 : decode cX7_count 99 = .ok (.ireturn, 1) := by decide +kernel
theorem dX7_count_100 : decode cX7_count 100 = .ok (.ldc 66, 2) := by decide +kernel
theorem dX7_count_102 : decode cX7_count 102 = .ok (.ireturn, 1) := by decide +kernel
theorem dX7_status_0 : decode cX7_status 0 = .ok (.aload_n 0, 1) := by decide +kernel
theorem dX7_status_1 : decode cX7_status 1 = .ok (.getfield 55, 3) := by decide +kernel
theorem dX7_status_4 : decode cX7_status 4 = .ok (.ireturn, 1) := by decide +kernel
theorem dX7_found_0 : decode cX7_found 0 = .ok (.aload_n 0, 1) := by decide +kernel
theorem dX7_found_1 : decode cX7_found 1 = .ok (.iload_n 1, 1) := by decide +kernel
theorem dX7_found_2 : decode cX7_found 2 = .ok (.putfield 55, 3) := by decide +kernel
theorem dX7_found_5 : decode cX7_found 5 = .ok (.ldc 251, 2) := by decide +kernel
theorem dX7_found_7 : decode cX7_found 7 = .ok (.iload_n 1, 1) := by decide +kernel
theorem dX7_found_8 : decode cX7_found 8 = .ok (.isub, 1) := by decide +kernel
theorem dX7_found_9 : decode cX7_found 9 = .ok (.ireturn, 1) := by decide +kernel
theorem dX7_answered_0 : decode cX7_answered 0 = .ok (.aload_n 0, 1) := by decide +kernel
theorem dX7_answered_1 : decode cX7_answered 1 = .ok (.iconst 0, 1) := by decide +kernel
theorem dX7_answered_2 : decode cX7_answered 2 = .ok (.putfield 55, 3) := by decide +kernel
theorem dX7_answered_5 : decode cX7_answered 5 = .ok (.iload_n 1, 1) := by decide +kernel
theorem dX7_answered_6 : decode cX7_answered 6 = .ok (.ireturn, 1) := by decide +kernel
theorem dX7_sayIn_0 : decode cX7_sayIn 0 = .ok (.aload_n 0, 1) := by decide +kernel
theorem dX7_sayIn_1 : decode cX7_sayIn 1 = .ok (.getfield 26, 3) := by decide +kernel
theorem dX7_sayIn_4 : decode cX7_sayIn 4 = .ok (.iload_n 2, 1) := by decide +kernel
theorem dX7_sayIn_5 : decode cX7_sayIn 5 = .ok (.invokevirtual 252, 3) := by decide +kernel
theorem dX7_sayIn_8 : decode cX7_sayIn 8 = .ok (.istore_n 3, 1) := by decide +kernel
theorem dX7_sayIn_9 : decode cX7_sayIn 9 = .ok (.iload_n 3, 1) := by decide +kernel
theorem dX7_sayIn_10 : decode cX7_sayIn 10 = .ok (.ifCond .eq 21, 3) := by decide +kernel
theorem dX7_sayIn_13 : decode cX7_sayIn 13 = .ok (.aload_n 0, 1) := by decide +kernel
theorem dX7_sayIn_14 : decode cX7_sayIn 14 = .ok (.getfield 26, 3) := by decide +kernel
theorem dX7_sayIn_17 : decode cX7_sayIn 17 = .ok (.aload_n 0, 1) := by decide +kernel
theorem dX7_sayIn_18 : decode cX7_sayIn 18 = .ok (.getfield 26, 3) := by decide +kernel
theorem dX7_sayIn_21 : decode cX7_sayIn 21 = .ok (.getfield 136, 3) := by decide +kernel
theorem dX7_sayIn_24 : decode cX7_sayIn 24 = .ok (.iload_n 1, 1) := by decide +kernel
theorem dX7_sayIn_25 : decode cX7_sayIn 25 = .ok (.invokevirtual 255, 3) := by decide +kernel
theorem dX7_sayIn_28 : decode cX7_sayIn 28 = .ok (.goto 4, 3) := by decide +kernel
theorem dX7_sayIn_31 : decode cX7_sayIn 31 = .ok (.iconst 0, 1) := by decide +kernel
theorem dX7_sayIn_32 : decode cX7_sayIn 32 = .ok (.istore 4, 2) := by decide +kernel
theorem dX7_sayIn_34 : decode cX7_sayIn 34 = .ok (.aload_n 0, 1) := by decide +kernel
theorem dX7_sayIn_35 : decode cX7_sayIn 35 = .ok (.getfield 37, 3) := by decide +kernel
theorem dX7_sayIn_38 : decode cX7_sayIn 38 = .ok (.aload_n 0, 1) := by decide +kernel
theorem dX7_sayIn_39 : decode cX7_sayIn 39 = .ok (.getfield 26, 3) := by decide +kernel
theorem dX7_sayIn_42 : decode cX7_sayIn 42 = .ok (.getfield 136, 3) := by decide +kernel
theorem dX7_sayIn_45 : decode cX7_sayIn 45 = .ok (.iload_n 3, 1) := by decide +kernel
theorem dX7_sayIn_46 : decode cX7_sayIn 46 = .ok (.ifCond .eq 7, 3) := by decide +kernel
theorem dX7_sayIn_49 : decode cX7_sayIn 49 = .ok (.iload_n 1, 1) := by decide +kernel
theorem dX7_sayIn_50 : decode cX7_sayIn 50 = .ok (.goto 4, 3) := by decide +kernel
theorem dX7_sayIn_53 : decode cX7_sayIn 53 = .ok (.iconst (-1), 1) := by decide +kernel
theorem dX7_sayIn_54 : decode cX7_sayIn 54 = .ok (.invokevirtual 258, 3) := by decide +kernel
theorem dX7_sayIn_57 : decode cX7_sayIn 57 = .ok (.iload_n 3, 1) := by decide +kernel
theorem dX7_sayIn_58 : decode cX7_sayIn 58 = .ok (.ifCond .eq 39, 3) := by decide +kernel
theorem dX7_sayIn_61 : decode cX7_sayIn 61 = .ok (.aload_n 0, 1) := by decide +kernel
theorem dX7_sayIn_62 : decode cX7_sayIn 62 = .ok (.getfield 26, 3) := by decide +kernel
theorem dX7_sayIn_65 : decode cX7_sayIn 65 = .ok (.getfield 185, 3) := by decide +kernel
theorem dX7_sayIn_68 : decode cX7_sayIn 68 = .ok (.iload_n 1, 1) := by decide +kernel
theorem dX7_sayIn_69 : decode cX7_sayIn 69 = .ok (.dup2, 1) := by decide +kernel
theorem dX7_sayIn_70 : decode cX7_sayIn 70 = .ok (.iaload, 1) := by decide +kernel
theorem dX7_sayIn_71 : decode cX7_sayIn 71 = .ok (.iconst 1, 1) := by decide +kernel
theorem dX7_sayIn_72 : decode cX7_sayIn 72 = .ok (.iadd, 1) := by decide +kernel
theorem dX7_sayIn_73 : decode cX7_sayIn 73 = .ok (.iastore, 1) := by decide +kernel
theorem dX7_sayIn_74 : decode cX7_sayIn 74 = .ok (.aload_n 0, 1) := by decide +kernel
theorem dX7_sayIn_75 : decode cX7_sayIn 75 = .ok (.getfield 26, 3) := by decide +kernel
theorem dX7_sayIn_78 : decode cX7_sayIn 78 = .ok (.aload_n 0, 1) := by decide +kernel
theorem dX7_sayIn_79 : decode cX7_sayIn 79 = .ok (.getfield 26, 3) := by decide +kernel
theorem dX7_sayIn_82 : decode cX7_sayIn 82 = .ok (.aload_n 0, 1) := by decide +kernel
theorem dX7_sayIn_83 : decode cX7_sayIn 83 = .ok (.getfield 26, 3) := by decide +kernel
theorem dX7_sayIn_86 : decode cX7_sayIn 86 = .ok (.getfield 136, 3) := by decide +kernel
theorem dX7_sayIn_89 : decode cX7_sayIn 89 = .ok (.iload 4, 2) := by decide +kernel
theorem dX7_sayIn_91 : decode cX7_sayIn 91 = .ok (.invokevirtual 262, 3) := by decide +kernel
theorem dX7_sayIn_94 : decode cX7_sayIn 94 = .ok (.putfield 136, 3) := by decide +kernel
theorem dX7_sayIn_97 : decode cX7_sayIn 97 = .ok (.iload 4, 2) := by decide +kernel
theorem dX7_sayIn_99 : decode cX7_sayIn 99 = .ok (.ireturn, 1) := by decide +kernel
theorem dX7_areSayings_0 : decode cX7_areSayings 0 = .ok (.iload_n 2, 1) := by decide +kernel
theorem dX7_areSayings_1 : decode cX7_areSayings 1 = .ok (.istore 4, 2) := by decide +kernel
theorem dX7_areSayings_3 : decode cX7_areSayings 3 = .ok (.iload 4, 2) := by decide +kernel
theorem dX7_areSayings_5 : decode cX7_areSayings 5 = .ok (.iload_n 2, 1) := by decide +kernel
theorem dX7_areSayings_6 : decode cX7_areSayings 6 = .ok (.iload_n 3, 1) := by decide +kernel
theorem dX7_areSayings_7 : decode cX7_areSayings 7 = .ok (.iadd, 1) := by decide +kernel
theorem dX7_areSayings_8 : decode cX7_areSayings 8 = .ok (.if_icmp .ge 43, 3) := by decide +kernel
theorem dX7_areSayings_11 : decode cX7_areSayings 11 = .ok (.aload_n 0, 1) := by decide +kernel
theorem dX7_areSayings_12 : decode cX7_areSayings 12 = .ok (.getfield 10, 3) := by decide +kernel
theorem dX7_areSayings_15 : decode cX7_areSayings 15 = .ok (.iload_n 1, 1) := by decide +kernel
theorem dX7_areSayings_16 : decode cX7_areSayings 16 = .ok (.iload 4, 2) := by decide +kernel
theorem dX7_areSayings_18 : decode cX7_areSayings 18 = .ok (.invokevirtual 265, 3) := by decide +kernel
theorem dX7_areSayings_21 : decode cX7_areSayings 21 = .ok (.istore 5, 2) := by decide +kernel
theorem dX7_areSayings_23 : decode cX7_areSayings 23 = .ok (.iload 5, 2) := by decide +kernel
theorem dX7_areSayings_25 : decode cX7_areSayings 25 = .ok (.ifCond .lt 18, 3) := by decide +kernel
theorem dX7_areSayings_28 : decode cX7_areSayings 28 = .ok (.aload_n 0, 1) := by decide +kernel
theorem dX7_areSayings_29 : decode cX7_areSayings 29 = .ok (.getfield 26, 3) := by decide +kernel
theorem dX7_areSayings_32 : decode cX7_areSayings 32 = .ok (.iload 5, 2) := by decide +kernel
theorem dX7_areSayings_34 : decode cX7_areSayings 34 = .ok (.bipush 16, 2) := by decide +kernel
theorem dX7_areSayings_36 : decode cX7_areSayings 36 = .ok (.idiv, 1) := by decide +kernel
theorem dX7_areSayings_37 : decode cX7_areSayings 37 = .ok (.invokevirtual 133, 3) := by decide +kernel
theorem dX7_areSayings_40 : decode cX7_areSayings 40 = .ok (.ifCond .ne 5, 3) := by decide +kernel
theorem dX7_areSayings_43 : decode cX7_areSayings 43 = .ok (.iconst 0, 1) := by decide +kernel
theorem dX7_areSayings_44 : decode cX7_areSayings 44 = .ok (.ireturn, 1) := by decide +kernel
theorem dX7_areSayings_45 : decode cX7_areSayings 45 = .ok (.iinc 4 1, 3) := by decide +kernel
theorem dX7_areSayings_48 : decode cX7_areSayings 48 = .ok (.goto (-45), 3) := by decide +kernel
theorem dX7_areSayings_51 : decode cX7_areSayings 51 = .ok (.iconst 1, 1) := by decide +kernel
theorem dX7_areSayings_52 : decode cX7_areSayings 52 = .ok (.ireturn, 1) := by decide +kernel
theorem dX7_sayAll_0 : decode cX7_sayAll 0 = .ok (.iconst 0, 1) := by decide +kernel
theorem dX7_sayAll_1 : decode cX7_sayAll 1 = .ok (.istore 4, 2) := by decide +kernel
theorem dX7_sayAll_3 : decode cX7_sayAll 3 = .ok (.iload_n 2, 1) := by decide +kernel
theorem dX7_sayAll_4 : decode cX7_sayAll 4 = .ok (.istore 5, 2) := by decide +kernel
theorem dX7_sayAll_6 : decode cX7_sayAll 6 = .ok (.iload 5, 2) := by decide +kernel
theorem dX7_sayAll_8 : decode cX7_sayAll 8 = .ok (.iload_n 2, 1) := by decide +kernel
theorem dX7_sayAll_9 : decode cX7_sayAll 9 = .ok (.iload_n 3, 1) := by decide +kernel
theorem dX7_sayAll_10 : decode cX7_sayAll 10 = .ok (.iadd, 1) := by decide +kernel
theorem dX7_sayAll_11 : decode cX7_sayAll 11 = .ok (.if_icmp .ge 64, 3) := by decide +kernel
theorem dX7_sayAll_14 : decode cX7_sayAll 14 = .ok (.aload_n 0, 1) := by decide +kernel
theorem dX7_sayAll_15 : decode cX7_sayAll 15 = .ok (.getfield 10, 3) := by decide +kernel
theorem dX7_sayAll_18 : decode cX7_sayAll 18 = .ok (.iload_n 1, 1) := by decide +kernel
theorem dX7_sayAll_19 : decode cX7_sayAll 19 = .ok (.iload 5, 2) := by decide +kernel
theorem dX7_sayAll_21 : decode cX7_sayAll 21 = .ok (.invokevirtual 265, 3) := by decide +kernel
theorem dX7_sayAll_24 : decode cX7_sayAll 24 = .ok (.istore 6, 2) := by decide +kernel
theorem dX7_sayAll_26 : decode cX7_sayAll 26 = .ok (.iload 6, 2) := by decide +kernel
theorem dX7_sayAll_28 : decode cX7_sayAll 28 = .ok (.bipush 16, 2) := by decide +kernel
theorem dX7_sayAll_30 : decode cX7_sayAll 30 = .ok (.idiv, 1) := by decide +kernel
theorem dX7_sayAll_31 : decode cX7_sayAll 31 = .ok (.istore 7, 2) := by decide +kernel
theorem dX7_sayAll_33 : decode cX7_sayAll 33 = .ok (.aload_n 0, 1) := by decide +kernel
theorem dX7_sayAll_34 : decode cX7_sayAll 34 = .ok (.getfield 26, 3) := by decide +kernel
theorem dX7_sayAll_37 : decode cX7_sayAll 37 = .ok (.aload_n 0, 1) := by decide +kernel
theorem dX7_sayAll_38 : decode cX7_sayAll 38 = .ok (.getfield 26, 3) := by decide +kernel
theorem dX7_sayAll_41 : decode cX7_sayAll 41 = .ok (.getfield 136, 3) := by decide +kernel
theorem dX7_sayAll_44 : decode cX7_sayAll 44 = .ok (.iload 7, 2) := by decide +kernel
theorem dX7_sayAll_46 : decode cX7_sayAll 46 = .ok (.invokevirtual 139, 3) := by decide +kernel
theorem dX7_sayAll_49 : decode cX7_sayAll 49 = .ok (.ifCond .ne 20, 3) := by decide +kernel
theorem dX7_sayAll_52 : decode cX7_sayAll 52 = .ok (.aload_n 0, 1) := by decide +kernel
theorem dX7_sayAll_53 : decode cX7_sayAll 53 = .ok (.iload 7, 2) := by decide +kernel
theorem dX7_sayAll_55 : decode cX7_sayAll 55 = .ok (.iload 6, 2) := by decide +kernel
theorem dX7_sayAll_57 : decode cX7_sayAll 57 = .ok (.bipush 16, 2) := by decide +kernel
theorem dX7_sayAll_59 : decode cX7_sayAll 59 = .ok (.irem, 1) := by decide +kernel
theorem dX7_sayAll_60 : decode cX7_sayAll 60 = .ok (.invokevirtual 144, 3) := by decide +kernel
theorem dX7_sayAll_63 : decode cX7_sayAll 63 = .ok (.ifCond .eq 6, 3) := by decide +kernel
theorem dX7_sayAll_66 : decode cX7_sayAll 66 = .ok (.iinc 4 1, 3) := by decide +kernel
theorem dX7_sayAll_69 : decode cX7_sayAll 69 = .ok (.iinc 5 1, 3) := by decide +kernel
theorem dX7_sayAll_72 : decode cX7_sayAll 72 = .ok (.goto (-66), 3) := by decide +kernel
theorem dX7_sayAll_75 : decode cX7_sayAll 75 = .ok (.iload 4, 2) := by decide +kernel
theorem dX7_sayAll_77 : decode cX7_sayAll 77 = .ok (.ireturn, 1) := by decide +kernel
theorem dX7_refusalToForetell_0 : decode cX7_refusalToForetell 0 = .ok (.aload_n 0, 1) := by decide +kernel
theorem dX7_refusalToForetell_1 : decode cX7_refusalToForetell 1 = .ok (.getfield 26, 3) := by decide +kernel
theorem dX7_refusalToForetell_4 : decode cX7_refusalToForetell 4 = .ok (.invokevirtual 148, 3) := by decide +kernel
theorem dX7_refusalToForetell_7 : decode cX7_refusalToForetell 7 = .ok (.ifCond .ne 6, 3) := by decide +kernel
theorem dX7_refusalToForetell_10 : decode cX7_refusalToForetell 10 = .ok (.ldc 143, 2) := by decide +kernel
theorem dX7_refusalToForetell_12 : decode cX7_refusalToForetell 12 = .ok (.ireturn, 1) := by decide +kernel
theorem dX7_refusalToForetell_13 : decode cX7_refusalToForetell 13 = .ok (.aload_n 0, 1) := by decide +kernel
theorem dX7_refusalToForetell_14 : decode cX7_refusalToForetell 14 = .ok (.getfield 10, 3) := by decide +kernel
theorem dX7_refusalToForetell_17 : decode cX7_refusalToForetell 17 = .ok (.iload_n 1, 1) := by decide +kernel
theorem dX7_refusalToForetell_18 : decode cX7_refusalToForetell 18 = .ok (.invokevirtual 59, 3) := by decide +kernel
theorem dX7_refusalToForetell_21 : decode cX7_refusalToForetell 21 = .ok (.ifCond .eq 30, 3) := by decide +kernel
theorem dX7_refusalToForetell_24 : decode cX7_refusalToForetell 24 = .ok (.aload_n 0, 1) := by decide +kernel
theorem dX7_refusalToForetell_25 : decode cX7_refusalToForetell 25 = .ok (.getfield 10, 3) := by decide +kernel
theorem dX7_refusalToForetell_28 : decode cX7_refusalToForetell 28 = .ok (.iload_n 3, 1) := by decide +kernel
theorem dX7_refusalToForetell_29 : decode cX7_refusalToForetell 29 = .ok (.invokevirtual 59, 3) := by decide +kernel
theorem dX7_refusalToForetell_32 : decode cX7_refusalToForetell 32 = .ok (.ifCond .eq 19, 3) := by decide +kernel
theorem dX7_refusalToForetell_35 : decode cX7_refusalToForetell 35 = .ok (.iload_n 2, 1) := by decide +kernel
theorem dX7_refusalToForetell_36 : decode cX7_refusalToForetell 36 = .ok (.iconst 1, 1) := by decide +kernel
theorem dX7_refusalToForetell_37 : decode cX7_refusalToForetell 37 = .ok (.if_icmp .lt 14, 3) := by decide +kernel
theorem dX7_refusalToForetell_40 : decode cX7_refusalToForetell 40 = .ok (.iload_n 2, 1) := by decide +kernel
theorem dX7_refusalToForetell_41 : decode cX7_refusalToForetell 41 = .ok (.bipush 8, 2) := by decide +kernel
theorem dX7_refusalToForetell_43 : decode cX7_refusalToForetell 43 = .ok (.if_icmp .gt 8, 3) := by decide +kernel
theorem dX7_refusalToForetell_46 : decode cX7_refusalToForetell 46 = .ok (.iload 4, 2) := by decide +kernel
theorem dX7_refusalToForetell_48 : decode cX7_refusalToForetell 48 = .ok (.ifCond .ne 6, 3) := by decide +kernel
theorem dX7_refusalToForetell_51 : decode cX7_refusalToForetell 51 = .ok (.ldc 66, 2) := by decide +kernel
theorem dX7_refusalToForetell_53 : decode cX7_refusalToForetell 53 = .ok (.ireturn, 1) := by decide +kernel
theorem dX7_refusalToForetell_54 : decode cX7_refusalToForetell 54 = .ok (.aload_n 0, 1) := by decide +kernel
theorem dX7_refusalToForetell_55 : decode cX7_refusalToForetell 55 = .ok (.getfield 10, 3) := by decide +kernel
theorem dX7_refusalToForetell_58 : decode cX7_refusalToForetell 58 = .ok (.iload_n 1, 1) := by decide +kernel
theorem dX7_refusalToForetell_59 : decode cX7_refusalToForetell 59 = .ok (.invokevirtual 78, 3) := by decide +kernel
theorem dX7_refusalToForetell_62 : decode cX7_refusalToForetell 62 = .ok (.ifCond .ne 14, 3) := by decide +kernel
theorem dX7_refusalToForetell_65 : decode cX7_refusalToForetell 65 = .ok (.aload_n 0, 1) := by decide +kernel
theorem dX7_refusalToForetell_66 : decode cX7_refusalToForetell 66 = .ok (.getfield 10, 3) := by decide +kernel
theorem dX7_refusalToForetell_69 : decode cX7_refusalToForetell 69 = .ok (.iload_n 3, 1) := by decide +kernel
theorem dX7_refusalToForetell_70 : decode cX7_refusalToForetell 70 = .ok (.invokevirtual 78, 3) := by decide +kernel
theorem dX7_refusalToForetell_73 : decode cX7_refusalToForetell 73 = .ok (.ifCond .eq 9, 3) := by decide +kernel
theorem dX7_refusalToForetell_76 : decode cX7_refusalToForetell 76 = .ok (.aload_n 0, 1) := by decide +kernel
theorem dX7_refusalToForetell_77 : decode cX7_refusalToForetell 77 = .ok (.iconst 1, 1) := by decide +kernel
theorem dX7_refusalToForetell_78 : decode cX7_refusalToForetell 78 = .ok (.invokevirtual 67, 3) := by decide +kernel
theorem dX7_refusalToForetell_81 : decode cX7_refusalToForetell 81 = .ok (.ireturn, 1) := by decide +kernel
theorem dX7_refusalToForetell_82 : decode cX7_refusalToForetell 82 = .ok (.aload_n 0, 1) := by decide +kernel
theorem dX7_refusalToForetell_83 : decode cX7_refusalToForetell 83 = .ok (.getfield 10, 3) := by decide +kernel
theorem dX7_refusalToForetell_86 : decode cX7_refusalToForetell 86 = .ok (.iload_n 1, 1) := by decide +kernel
theorem dX7_refusalToForetell_87 : decode cX7_refusalToForetell 87 = .ok (.iconst 0, 1) := by decide +kernel
theorem dX7_refusalToForetell_88 : decode cX7_refusalToForetell 88 = .ok (.iload_n 2, 1) := by decide +kernel
theorem dX7_refusalToForetell_89 : decode cX7_refusalToForetell 89 = .ok (.invokevirtual 81, 3) := by decide +kernel
theorem dX7_refusalToForetell_92 : decode cX7_refusalToForetell 92 = .ok (.ifCond .eq 22, 3) := by decide +kernel
theorem dX7_refusalToForetell_95 : decode cX7_refusalToForetell 95 = .ok (.aload_n 0, 1) := by decide +kernel
theorem dX7_refusalToForetell_96 : decode cX7_refusalToForetell 96 = .ok (.getfield 10, 3) := by decide +kernel
theorem dX7_refusalToForetell_99 : decode cX7_refusalToForetell 99 = .ok (.iload_n 3, 1) := by decide +kernel
theorem dX7_refusalToForetell_100 : decode cX7_refusalToForetell 100 = .ok (.iconst 0, 1) := by decide +kernel
theorem dX7_refusalToForetell_101 : decode cX7_refusalToForetell 101 = .ok (.aload_n 0, 1) := by decide +kernel
theorem dX7_refusalToForetell_102 : decode cX7_refusalToForetell 102 = .ok (.getfield 26, 3) := by decide +kernel
theorem dX7_refusalToForetell_105 : decode cX7_refusalToForetell 105 = .ok (.getfield 127, 3) := by decide +kernel
theorem dX7_refusalToForetell_108 : decode cX7_refusalToForetell 108 = .ok (.invokevirtual 81, 3) := by decide +kernel
theorem dX7_refusalToForetell_111 : decode cX7_refusalToForetell 111 = .ok (.ifCond .ne 9, 3) := by decide +kernel
theorem dX7_refusalToForetell_114 : decode cX7_refusalToForetell 114 = .ok (.aload_n 0, 1) := by decide +kernel
theorem dX7_refusalToForetell_115 : decode cX7_refusalToForetell 115 = .ok (.iconst 2, 1) := by decide +kernel
theorem dX7_refusalToForetell_116 : decode cX7_refusalToForetell 116 = .ok (.invokevirtual 67, 3) := by decide +kernel
theorem dX7_refusalToForetell_119 : decode cX7_refusalToForetell 119 = .ok (.ireturn, 1) := by decide +kernel
theorem dX7_refusalToForetell_120 : decode cX7_refusalToForetell 120 = .ok (.iconst 0, 1) := by decide +kernel
theorem dX7_refusalToForetell_121 : decode cX7_refusalToForetell 121 = .ok (.istore 5, 2) := by decide +kernel
theorem dX7_refusalToForetell_123 : decode cX7_refusalToForetell 123 = .ok (.iload 5, 2) := by decide +kernel
theorem dX7_refusalToForetell_125 : decode cX7_refusalToForetell 125 = .ok (.iload_n 2, 1) := by decide +kernel
theorem dX7_refusalToForetell_126 : decode cX7_refusalToForetell 126 = .ok (.if_icmp .ge 32, 3) := by decide +kernel
theorem dX7_refusalToForetell_129 : decode cX7_refusalToForetell 129 = .ok (.aload_n 0, 1) := by decide +kernel
theorem dX7_refusalToForetell_130 : decode cX7_refusalToForetell 130 = .ok (.getfield 26, 3) := by decide +kernel
theorem dX7_refusalToForetell_133 : decode cX7_refusalToForetell 133 = .ok (.aload_n 0, 1) := by decide +kernel
theorem dX7_refusalToForetell_134 : decode cX7_refusalToForetell 134 = .ok (.getfield 10, 3) := by decide +kernel
theorem dX7_refusalToForetell_137 : decode cX7_refusalToForetell 137 = .ok (.iload_n 1, 1) := by decide +kernel
theorem dX7_refusalToForetell_138 : decode cX7_refusalToForetell 138 = .ok (.iload 5, 2) := by decide +kernel
theorem dX7_refusalToForetell_140 : decode cX7_refusalToForetell 140 = .ok (.invokevirtual 265, 3) := by decide +kernel
theorem dX7_refusalToForetell_143 : decode cX7_refusalToForetell 143 = .ok (.invokevirtual 133, 3) := by decide +kernel
theorem dX7_refusalToForetell_146 : decode cX7_refusalToForetell 146 = .ok (.ifCond .ne 6, 3) := by decide +kernel
theorem dX7_refusalToForetell_149 : decode cX7_refusalToForetell 149 = .ok (.ldc 66, 2) := by decide +kernel
theorem dX7_refusalToForetell_151 : decode cX7_refusalToForetell 151 = .ok (.ireturn, 1) := by decide +kernel
theorem dX7_refusalToForetell_152 : decode cX7_refusalToForetell 152 = .ok (.iinc 5 1, 3) := by decide +kernel
theorem dX7_refusalToForetell_155 : decode cX7_refusalToForetell 155 = .ok (.goto (-32), 3) := by decide +kernel
theorem dX7_refusalToForetell_158 : decode cX7_refusalToForetell 158 = .ok (.aload_n 0, 1) := by decide +kernel
theorem dX7_refusalToForetell_159 : decode cX7_refusalToForetell 159 = .ok (.iconst 0, 1) := by decide +kernel
theorem dX7_refusalToForetell_160 : decode cX7_refusalToForetell 160 = .ok (.invokevirtual 75, 3) := by decide +kernel
theorem dX7_refusalToForetell_163 : decode cX7_refusalToForetell 163 = .ok (.ireturn, 1) := by decide +kernel
theorem dX7_foretellLies_0 : decode cX7_foretellLies 0 = .ok (.aload_n 0, 1) := by decide +kernel
theorem dX7_foretellLies_1 : decode cX7_foretellLies 1 = .ok (.getfield 44, 3) := by decide +kernel
theorem dX7_foretellLies_4 : decode cX7_foretellLies 4 = .ok (.aload_n 0, 1) := by decide +kernel
theorem dX7_foretellLies_5 : decode cX7_foretellLies 5 = .ok (.getfield 26, 3) := by decide +kernel
theorem dX7_foretellLies_8 : decode cX7_foretellLies 8 = .ok (.getfield 136, 3) := by decide +kernel
theorem dX7_foretellLies_11 : decode cX7_foretellLies 11 = .ok (.invokevirtual 268, 3) := by decide +kernel
theorem dX7_foretellLies_14 : decode cX7_foretellLies 14 = .ok (.iconst 0, 1) := by decide +kernel
theorem dX7_foretellLies_15 : decode cX7_foretellLies 15 = .ok (.istore 4, 2) := by decide +kernel
theorem dX7_foretellLies_17 : decode cX7_foretellLies 17 = .ok (.iload 4, 2) := by decide +kernel
theorem dX7_foretellLies_19 : decode cX7_foretellLies 19 = .ok (.iload_n 2, 1) := by decide +kernel
theorem dX7_foretellLies_20 : decode cX7_foretellLies 20 = .ok (.if_icmp .ge 32, 3) := by decide +kernel
theorem dX7_foretellLies_23 : decode cX7_foretellLies 23 = .ok (.aload_n 0, 1) := by decide +kernel
theorem dX7_foretellLies_24 : decode cX7_foretellLies 24 = .ok (.getfield 44, 3) := by decide +kernel
theorem dX7_foretellLies_27 : decode cX7_foretellLies 27 = .ok (.aload_n 0, 1) := by decide +kernel
theorem dX7_foretellLies_28 : decode cX7_foretellLies 28 = .ok (.getfield 26, 3) := by decide +kernel
theorem dX7_foretellLies_31 : decode cX7_foretellLies 31 = .ok (.aload_n 0, 1) := by decide +kernel
theorem dX7_foretellLies_32 : decode cX7_foretellLies 32 = .ok (.getfield 10, 3) := by decide +kernel
theorem dX7_foretellLies_35 : decode cX7_foretellLies 35 = .ok (.iload_n 1, 1) := by decide +kernel
theorem dX7_foretellLies_36 : decode cX7_foretellLies 36 = .ok (.iload 4, 2) := by decide +kernel
theorem dX7_foretellLies_38 : decode cX7_foretellLies 38 = .ok (.invokevirtual 265, 3) := by decide +kernel
theorem dX7_foretellLies_41 : decode cX7_foretellLies 41 = .ok (.iload 4, 2) := by decide +kernel
theorem dX7_foretellLies_43 : decode cX7_foretellLies 43 = .ok (.invokevirtual 272, 3) := by decide +kernel
theorem dX7_foretellLies_46 : decode cX7_foretellLies 46 = .ok (.iinc 4 1, 3) := by decide +kernel
theorem dX7_foretellLies_49 : decode cX7_foretellLies 49 = .ok (.goto (-32), 3) := by decide +kernel
theorem dX7_foretellLies_52 : decode cX7_foretellLies 52 = .ok (.aload_n 0, 1) := by decide +kernel
theorem dX7_foretellLies_53 : decode cX7_foretellLies 53 = .ok (.getfield 44, 3) := by decide +kernel
theorem dX7_foretellLies_56 : decode cX7_foretellLies 56 = .ok (.iload_n 2, 1) := by decide +kernel
theorem dX7_foretellLies_57 : decode cX7_foretellLies 57 = .ok (.aload_n 0, 1) := by decide +kernel
theorem dX7_foretellLies_58 : decode cX7_foretellLies 58 = .ok (.iload_n 3, 1) := by decide +kernel
theorem dX7_foretellLies_59 : decode cX7_foretellLies 59 = .ok (.invokevirtual 276, 3) := by decide +kernel
theorem dX7_foretellLies_62 : decode cX7_foretellLies 62 = .ok (.invokevirtual 279, 3) := by decide +kernel
theorem dX7_foretellLies_65 : decode cX7_foretellLies 65 = .ok (.return_, 1) := by decide +kernel
theorem dX7_standsAsOne_0 : decode cX7_standsAsOne 0 = .ok (.iconst 0, 1) := by decide +kernel
theorem dX7_standsAsOne_1 : decode cX7_standsAsOne 1 = .ok (.istore_n 2, 1) := by decide +kernel
theorem dX7_standsAsOne_2 : decode cX7_standsAsOne 2 = .ok (.iconst 0, 1) := by decide +kernel
theorem dX7_standsAsOne_3 : decode cX7_standsAsOne 3 = .ok (.istore_n 3, 1) := by decide +kernel
theorem dX7_standsAsOne_4 : decode cX7_standsAsOne 4 = .ok (.iload_n 3, 1) := by decide +kernel
theorem dX7_standsAsOne_5 : decode cX7_standsAsOne 5 = .ok (.aload_n 0, 1) := by decide +kernel
theorem dX7_standsAsOne_6 : decode cX7_standsAsOne 6 = .ok (.getfield 26, 3) := by decide +kernel
theorem dX7_standsAsOne_9 : decode cX7_standsAsOne 9 = .ok (.getfield 127, 3) := by decide +kernel
theorem dX7_standsAsOne_12 : decode cX7_standsAsOne 12 = .ok (.if_icmp .ge 43, 3) := by decide +kernel
theorem dX7_standsAsOne_15 : decode cX7_standsAsOne 15 = .ok (.aload_n 0, 1) := by decide +kernel
theorem dX7_standsAsOne_16 : decode cX7_standsAsOne 16 = .ok (.getfield 10, 3) := by decide +kernel
theorem dX7_standsAsOne_19 : decode cX7_standsAsOne 19 = .ok (.iload_n 1, 1) := by decide +kernel
theorem dX7_standsAsOne_20 : decode cX7_standsAsOne 20 = .ok (.iload_n 3, 1) := by decide +kernel
theorem dX7_standsAsOne_21 : decode cX7_standsAsOne 21 = .ok (.invokevirtual 265, 3) := by decide +kernel
theorem dX7_standsAsOne_24 : decode cX7_standsAsOne 24 = .ok (.istore 4, 2) := by decide +kernel
theorem dX7_standsAsOne_26 : decode cX7_standsAsOne 26 = .ok (.iload 4, 2) := by decide +kernel
theorem dX7_standsAsOne_28 : decode cX7_standsAsOne 28 = .ok (.ifCond .lt 10, 3) := by decide +kernel
theorem dX7_standsAsOne_31 : decode cX7_standsAsOne 31 = .ok (.iload 4, 2) := by decide +kernel
theorem dX7_standsAsOne_33 : decode cX7_standsAsOne 33 = .ok (.bipush 16, 2) := by decide +kernel
theorem dX7_standsAsOne_35 : decode cX7_standsAsOne 35 = .ok (.if_icmp .lt 5, 3) := by decide +kernel
theorem dX7_standsAsOne_38 : decode cX7_standsAsOne 38 = .ok (.iconst (-1), 1) := by decide +kernel
theorem dX7_standsAsOne_39 : decode cX7_standsAsOne 39 = .ok (.ireturn, 1) := by decide +kernel
theorem dX7_standsAsOne_40 : decode cX7_standsAsOne 40 = .ok (.iload_n 2, 1) := by decide +kernel
theorem dX7_standsAsOne_41 : decode cX7_standsAsOne 41 = .ok (.iload 4, 2) := by decide +kernel
theorem dX7_standsAsOne_43 : decode cX7_standsAsOne 43 = .ok (.iconst 4, 1) := by decide +kernel
theorem dX7_standsAsOne_44 : decode cX7_standsAsOne 44 = .ok (.iload_n 3, 1) := by decide +kernel
theorem dX7_standsAsOne_45 : decode cX7_standsAsOne 45 = .ok (.imul, 1) := by decide +kernel
theorem dX7_standsAsOne_46 : decode cX7_standsAsOne 46 = .ok (.ishl, 1) := by decide +kernel
theorem dX7_standsAsOne_47 : decode cX7_standsAsOne 47 = .ok (.ior, 1) := by decide +kernel
theorem dX7_standsAsOne_48 : decode cX7_standsAsOne 48 = .ok (.istore_n 2, 1) := by decide +kernel
theorem dX7_standsAsOne_49 : decode cX7_standsAsOne 49 = .ok (.iinc 3 1, 3) := by decide +kernel
theorem dX7_standsAsOne_52 : decode cX7_standsAsOne 52 = .ok (.goto (-48), 3) := by decide +kernel
theorem dX7_standsAsOne_55 : decode cX7_standsAsOne 55 = .ok (.iload_n 2, 1) := by decide +kernel
theorem dX7_standsAsOne_56 : decode cX7_standsAsOne 56 = .ok (.ireturn, 1) := by decide +kernel
theorem dX8_init_0 : decode cX8_init 0 = .ok (.aload_n 0, 1) := by decide +kernel
theorem dX8_init_1 : decode cX8_init 1 = .ok (.invokespecial 1, 3) := by decide +kernel
theorem dX8_init_4 : decode cX8_init 4 = .ok (.aload_n 0, 1) := by decide +kernel
theorem dX8_init_5 : decode cX8_init 5 = .ok (.bipush 8, 2) := by decide +kernel
theorem dX8_init_7 : decode cX8_init 7 = .ok (.newarray .int, 2) := by decide +kernel
theorem dX8_init_9 : decode cX8_init 9 = .ok (.putfield 7, 3) := by decide +kernel
theorem dX8_init_12 : decode cX8_init 12 = .ok (.aload_n 0, 1) := by decide +kernel
theorem dX8_init_13 : decode cX8_init 13 = .ok (.bipush 8, 2) := by decide +kernel
theorem dX8_init_15 : decode cX8_init 15 = .ok (.newarray .int, 2) := by decide +kernel
theorem dX8_init_17 : decode cX8_init 17 = .ok (.putfield 13, 3) := by decide +kernel
theorem dX8_init_20 : decode cX8_init 20 = .ok (.aload_n 0, 1) := by decide +kernel
theorem dX8_init_21 : decode cX8_init 21 = .ok (.sipush 320, 3) := by decide +kernel
theorem dX8_init_24 : decode cX8_init 24 = .ok (.newarray .int, 2) := by decide +kernel
theorem dX8_init_26 : decode cX8_init 26 = .ok (.putfield 16, 3) := by decide +kernel
theorem dX8_init_29 : decode cX8_init 29 = .ok (.aload_n 0, 1) := by decide +kernel
theorem dX8_init_30 : decode cX8_init 30 = .ok (.sipush 400, 3) := by decide +kernel
theorem dX8_init_33 : decode cX8_init 33 = .ok (.newarray .int, 2) := by decide +kernel
theorem dX8_init_35 : decode cX8_init 35 = .ok (.putfield 19, 3) := by decide +kernel
theorem dX8_init_38 : decode cX8_init 38 = .ok (.aload_n 0, 1) := by decide +kernel
theorem dX8_init_39 : decode cX8_init 39 = .ok (.sipush 168, 3) := by decide +kernel
theorem dX8_init_42 : decode cX8_init 42 = .ok (.newarray .int, 2) := by decide +kernel
theorem dX8_init_44 : decode cX8_init 44 = .ok (.putfield 22, 3) := by decide +kernel
theorem dX8_init_47 : decode cX8_init 47 = .ok (.aload_n 0, 1) := by decide +kernel
theorem dX8_init_48 : decode cX8_init 48 = .ok (.sipush 168, 3) := by decide +kernel
theorem dX8_init_51 : decode cX8_init 51 = .ok (.newarray .int, 2) := by decide +kernel
theorem dX8_init_53 : decode cX8_init 53 = .ok (.putfield 25, 3) := by decide +kernel
theorem dX8_init_56 : decode cX8_init 56 = .ok (.aload_n 0, 1) := by decide +kernel
theorem dX8_init_57 : decode cX8_init 57 = .ok (.sipush 336, 3) := by decide +kernel
theorem dX8_init_60 : decode cX8_init 60 = .ok (.newarray .int, 2) := by decide +kernel
theorem dX8_init_62 : decode cX8_init 62 = .ok (.putfield 28, 3) := by decide +kernel
theorem dX8_init_65 : decode cX8_init 65 = .ok (.aload_n 0, 1) := by decide +kernel
theorem dX8_init_66 : decode cX8_init 66 = .ok (.iconst 2, 1) := by decide +kernel
theorem dX8_init_67 : decode cX8_init 67 = .ok (.newarray .boolean, 2) := by decide +kernel
theorem dX8_init_69 : decode cX8_init 69 = .ok (.putfield 31, 3) := by decide +kernel
theorem dX8_init_72 : decode cX8_init 72 = .ok (.aload_n 0, 1) := by decide +kernel
theorem dX8_init_73 : decode cX8_init 73 = .ok (.sipush 168, 3) := by decide +kernel
theorem dX8_init_76 : decode cX8_init 76 = .ok (.newarray .int, 2) := by decide +kernel
theorem dX8_init_78 : decode cX8_init 78 = .ok (.putfield 35, 3) := by decide +kernel
theorem dX8_init_81 : decode cX8_init 81 = .ok (.aload_n 0, 1) := by decide +kernel
theorem dX8_init_82 : decode cX8_init 82 = .ok (.bipush 6, 2) := by decide +kernel
theorem dX8_init_84 : decode cX8_init 84 = .ok (.newarray .int, 2) := by decide +kernel
theorem dX8_init_86 : decode cX8_init 86 = .ok (.putfield 38, 3) := by decide +kernel
theorem dX8_init_89 : decode cX8_init 89 = .ok (.aload_n 0, 1) := by decide +kernel
theorem dX8_init_90 : decode cX8_init 90 = .ok (.bipush 16, 2) := by decide +kernel
theorem dX8_init_92 : decode cX8_init 92 = .ok (.newarray .int, 2) := by decide +kernel
theorem dX8_init_94 : decode cX8_init 94 = .ok (.putfield 41, 3) := by decide +kernel
theorem dX8_init_97 : decode cX8_init 97 = .ok (.aload_n 0, 1) := by decide +kernel
theorem dX8_init_98 : decode cX8_init 98 = .ok (.bipush 40, 2) := by decide +kernel
theorem dX8_init_100 : decode cX8_init 100 = .ok (.newarray .int, 2) := by decide +kernel
theorem dX8_init_102 : decode cX8_init 102 = .ok (.putfield 44, 3) := by decide +kernel
theorem dX8_init_105 : decode cX8_init 105 = .ok (.aload_n 0, 1) := by decide +kernel
theorem dX8_init_106 : decode cX8_init 106 = .ok (.bipush 8, 2) := by decide +kernel
theorem dX8_init_108 : decode cX8_init 108 = .ok (.newarray .int, 2) := by decide +kernel
theorem dX8_init_110 : decode cX8_init 110 = .ok (.putfield 47, 3) := by decide +kernel
theorem dX8_init_113 : decode cX8_init 113 = .ok (.iconst 0, 1) := by decide +kernel
theorem dX8_init_114 : decode cX8_init 114 = .ok (.istore_n 1, 1) := by decide +kernel
theorem dX8_init_115 : decode cX8_init 115 = .ok (.iload_n 1, 1) := by decide +kernel
theorem dX8_init_116 : decode cX8_init 116 = .ok (.bipush 8, 2) := by decide +kernel
theorem dX8_init_118 : decode cX8_init 118 = .ok (.if_icmp .ge 17, 3) := by decide +kernel
theorem dX8_init_121 : decode cX8_init 121 = .ok (.aload_n 0, 1) := by decide +kernel
theorem dX8_init_122 : decode cX8_init 122 = .ok (.getfield 7, 3) := by decide +kernel
theorem dX8_init_125 : decode cX8_init 125 = .ok (.iload_n 1, 1) := by decide +kernel
theorem dX8_init_126 : decode cX8_init 126 = .ok (.ldc 50, 2) := by decide +kernel
theorem dX8_init_128 : decode cX8_init 128 = .ok (.iastore, 1) := by decide +kernel
theorem dX8_init_129 : decode cX8_init 129 = .ok (.iinc 1 1, 3) := by decide +kernel
theorem dX8_init_132 : decode cX8_init 132 = .ok (.goto (-17), 3) := by decide +kernel
theorem dX8_init_135 : decode cX8_init 135 = .ok (.return_, 1) := by decide +kernel
theorem dX8_in_0 : decode cX8_in 0 = .ok (.iload_n 0, 1) := by decide +kernel
theorem dX8_in_1 : decode cX8_in 1 = .ok (.iload_n 1, 1) := by decide +kernel
theorem dX8_in_2 : decode cX8_in 2 = .ok (.if_icmp .lt 12, 3) := by decide +kernel
theorem dX8_in_5 : decode cX8_in 5 = .ok (.iload_n 0, 1) := by decide +kernel
theorem dX8_in_6 : decode cX8_in 6 = .ok (.iload_n 2, 1) := by decide +kernel
theorem dX8_in_7 : decode cX8_in 7 = .ok (.if_icmp .gt 7, 3) := by decide +kernel
theorem dX8_in_10 : decode cX8_in 10 = .ok (.iconst 1, 1) := by decide +kernel
theorem dX8_in_11 : decode cX8_in 11 = .ok (.goto 4, 3) := by decide +kernel
theorem dX8_in_14 : decode cX8_in 14 = .ok (.iconst 0, 1) := by decide +kernel
theorem dX8_in_15 : decode cX8_in 15 = .ok (.ireturn, 1) := by decide +kernel
theorem dX8_has_0 : decode cX8_has 0 = .ok (.iload_n 0, 1) := by decide +kernel
theorem dX8_has_1 : decode cX8_has 1 = .ok (.iload_n 1, 1) := by decide +kernel
theorem dX8_has_2 : decode cX8_has 2 = .ok (.ishr, 1) := by decide +kernel
theorem dX8_has_3 : decode cX8_has 3 = .ok (.iconst 1, 1) := by decide +kernel
theorem dX8_has_4 : decode cX8_has 4 = .ok (.iand, 1) := by decide +kernel
theorem dX8_has_5 : decode cX8_has 5 = .ok (.iconst 1, 1) := by decide +kernel
theorem dX8_has_6 : decode cX8_has 6 = .ok (.if_icmp .ne 7, 3) := by decide +kernel
theorem dX8_has_9 : decode cX8_has 9 = .ok (.iconst 1, 1) := by decide +kernel
theorem dX8_has_10 : decode cX8_has 10 = .ok (.goto 4, 3) := by decide +kernel
theorem dX8_has_13 : decode cX8_has 13 = .ok (.iconst 0, 1) := by decide +kernel
theorem dX8_has_14 : decode cX8_has 14 = .ok (.ireturn, 1) := by decide +kernel
theorem dX8_finds_0 : decode cX8_finds 0 = .ok (.aload_n 0, 1) := by decide +kernel
theorem dX8_finds_1 : decode cX8_finds 1 = .ok (.iload_n 1, 1) := by decide +kernel
theorem dX8_finds_2 : decode cX8_finds 2 = .ok (.putfield 51, 3) := by decide +kernel
theorem dX8_finds_5 : decode cX8_finds 5 = .ok (.ldc 55, 2) := by decide +kernel
theorem dX8_finds_7 : decode cX8_finds 7 = .ok (.iload_n 1, 1) := by decide +kernel
theorem dX8_finds_8 : decode cX8_finds 8 = .ok (.isub, 1) := by decide +kernel
theorem dX8_finds_9 : decode cX8_finds 9 = .ok (.ireturn, 1) := by decide +kernel
theorem dX8_did_0 : decode cX8_did 0 = .ok (.aload_n 0, 1) := by decide +kernel
theorem dX8_did_1 : decode cX8_did 1 = .ok (.iconst 0, 1) := by decide +kernel
theorem dX8_did_2 : decode cX8_did 2 = .ok (.putfield 51, 3) := by decide +kernel
theorem dX8_did_5 : decode cX8_did 5 = .ok (.iload_n 1, 1) := by decide +kernel
theorem dX8_did_6 : decode cX8_did 6 = .ok (.ireturn, 1) := by decide +kernel
theorem dX8_isRow_0 : decode cX8_isRow 0 = .ok (.iload_n 0, 1) := by decide +kernel
theorem dX8_isRow_1 : decode cX8_isRow 1 = .ok (.iconst 0, 1) := by decide +kernel
theorem dX8_isRow_2 : decode cX8_isRow 2 = .ok (.bipush 7, 2) := by decide +kernel
theorem dX8_isRow_4 : decode cX8_isRow 4 = .ok (.invokestatic 56, 3) := by decide +kernel
theorem dX8_isRow_7 : decode cX8_isRow 7 = .ok (.ireturn, 1) := by decide +kernel
theorem dX8_isMissing_0 : decode cX8_isMissing 0 = .ok (.aload_n 0, 1) := by decide +kernel
theorem dX8_isMissing_1 : decode cX8_isMissing 1 = .ok (.getfield 7, 3) := by decide +kernel
theorem dX8_isMissing_4 : decode cX8_isMissing 4 = .ok (.iload_n 1, 1) := by decide +kernel
theorem dX8_isMissing_5 : decode cX8_isMissing 5 = .ok (.iaload, 1) := by decide +kernel
theorem dX8_isMissing_6 : decode cX8_isMissing 6 = .ok (.ldc 50, 2) := by decide +kernel
theorem dX8_isMissing_8 : decode cX8_isMissing 8 = .ok (.if_icmp .ne 7, 3) := by decide +kernel
theorem dX8_isMissing_11 : decode cX8_isMissing 11 = .ok (.iconst 1, 1) := by decide +kernel
theorem dX8_isMissing_12 : decode cX8_isMissing 12 = .ok (.goto 4, 3) := by decide +kernel
theorem dX8_isMissing_15 : decode cX8_isMissing 15 = .ok (.iconst 0, 1) := by decide +kernel
theorem dX8_isMissing_16 : decode cX8_isMissing 16 = .ok (.ireturn, 1) := by decide +kernel
theorem dX8_row_0 : decode cX8_row 0 = .ok (.iload_n 1, 1) := by decide +kernel
theorem dX8_row_1 : decode cX8_row 1 = .ok (.invokestatic 60, 3) := by decide +kernel
theorem dX8_row_4 : decode cX8_row 4 = .ok (.ifCond .eq 18, 3) := by decide +kernel
theorem dX8_row_7 : decode cX8_row 7 = .ok (.iload_n 2, 1) := by decide +kernel
theorem dX8_row_8 : decode cX8_row 8 = .ok (.iconst 0, 1) := by decide +kernel
theorem dX8_row_9 : decode cX8_row 9 = .ok (.iconst 2, 1) := by decide +kernel
theorem dX8_row_10 : decode cX8_row 10 = .ok (.invokestatic 56, 3) := by decide +kernel
theorem dX8_row_13 : decode cX8_row 13 = .ok (.ifCond .eq 9, 3) := by decide +kernel
theorem dX8_row_16 : decode cX8_row 16 = .ok (.iload_n 3, 1) := by decide +kernel
theorem dX8_row_17 : decode cX8_row 17 = .ok (.bipush 40, 2) := by decide +kernel
theorem dX8_row_19 : decode cX8_row 19 = .ok (.if_icmp .le 6, 3) := by decide +kernel
theorem dX8_row_22 : decode cX8_row 22 = .ok (.ldc 64, 2) := by decide +kernel
theorem dX8_row_24 : decode cX8_row 24 = .ok (.ireturn, 1) := by decide +kernel
theorem dX8_row_25 : decode cX8_row 25 = .ok (.iload_n 3, 1) := by decide +kernel
theorem dX8_row_26 : decode cX8_row 26 = .ok (.ifCond .ge 9, 3) := by decide +kernel
theorem dX8_row_29 : decode cX8_row 29 = .ok (.aload_n 0, 1) := by decide +kernel
theorem dX8_row_30 : decode cX8_row 30 = .ok (.iconst 4, 1) := by decide +kernel
theorem dX8_row_31 : decode cX8_row 31 = .ok (.invokevirtual 65, 3) := by decide +kernel
theorem dX8_row_34 : decode cX8_row 34 = .ok (.ireturn, 1) := by decide +kernel
theorem dX8_row_35 : decode cX8_row 35 = .ok (.aload_n 0, 1) := by decide +kernel
theorem dX8_row_36 : decode cX8_row 36 = .ok (.getfield 7, 3) := by decide +kernel
theorem dX8_row_39 : decode cX8_row 39 = .ok (.iload_n 1, 1) := by decide +kernel
theorem dX8_row_40 : decode cX8_row 40 = .ok (.iload_n 2, 1) := by decide +kernel
theorem dX8_row_41 : decode cX8_row 41 = .ok (.iastore, 1) := by decide +kernel
theorem dX8_row_42 : decode cX8_row 42 = .ok (.aload_n 0, 1) := by decide +kernel
theorem dX8_row_43 : decode cX8_row 43 = .ok (.getfield 13, 3) := by decide +kernel
theorem dX8_row_46 : decode cX8_row 46 = .ok (.iload_n 1, 1) := by decide +kernel
theorem dX8_row_47 : decode cX8_row 47 = .ok (.iload_n 3, 1) := by decide +kernel
theorem dX8_row_48 : decode cX8_row 48 = .ok (.iastore, 1) := by decide +kernel
theorem dX8_row_49 : decode cX8_row 49 = .ok (.iconst 0, 1) := by decide +kernel
theorem dX8_row_50 : decode cX8_row 50 = .ok (.istore 4, 2) := by decide +kernel
theorem dX8_row_52 : decode cX8_row 52 = .ok (.iload 4, 2) := by decide +kernel
theorem dX8_row_54 : decode cX8_row 54 = .ok (.iload_n 3, 1) := by decide +kernel
theorem dX8_row_55 : decode cX8_row 55 = .ok (.if_icmp .ge 22, 3) := by decide +kernel
theorem dX8_row_58 : decode cX8_row 58 = .ok (.aload_n 0, 1) := by decide +kernel
theorem dX8_row_59 : decode cX8_row 59 = .ok (.getfield 16, 3) := by decide +kernel
theorem dX8_row_62 : decode cX8_row 62 = .ok (.bipush 40, 2) := by decide +kernel
theorem dX8_row_64 : decode cX8_row 64 = .ok (.iload_n 1, 1) := by decide +kernel
theorem dX8_row_65 : decode cX8_row 65 = .ok (.imul, 1) := by decide +kernel
theorem dX8_row_66 : decode cX8_row 66 = .ok (.iload 4, 2) := by decide +kernel
theorem dX8_row_68 : decode cX8_row 68 = .ok (.iadd, 1) := by decide +kernel
theorem dX8_row_69 : decode cX8_row 69 = .ok (.iconst 0, 1) := by decide +kernel
theorem dX8_row_70 : decode cX8_row 70 = .ok (.iastore, 1) := by decide +kernel
theorem dX8_row_71 : decode cX8_row 71 = .ok (.iinc 4 1, 3) := by decide +kernel
theorem dX8_row_74 : decode cX8_row 74 = .ok (.goto (-22), 3) := by decide +kernel
theorem dX8_row_77 : decode cX8_row 77 = .ok (.aload_n 0, 1) := by decide +kernel
theorem dX8_row_78 : decode cX8_row 78 = .ok (.iload_n 3, 1) := by decide +kernel
theorem dX8_row_79 : decode cX8_row 79 = .ok (.invokevirtual 69, 3) := by decide +kernel
theorem dX8_row_82 : decode cX8_row 82 = .ok (.ireturn, 1) := by decide +kernel
theorem dX8_set_0 : decode cX8_set 0 = .ok (.iload_n 1, 1) := by decide +kernel
theorem dX8_set_1 : decode cX8_set 1 = .ok (.invokestatic 60, 3) := by decide +kernel
theorem dX8_set_4 : decode cX8_set 4 = .ok (.ifCond .ne 6, 3) := by decide +kernel
theorem dX8_set_7 : decode cX8_set 7 = .ok (.ldc 64, 2) := by decide +kernel
theorem dX8_set_9 : decode cX8_set 9 = .ok (.ireturn, 1) := by decide +kernel
theorem dX8_set_10 : decode cX8_set 10 = .ok (.aload_n 0, 1) := by decide +kernel
theorem dX8_set_11 : decode cX8_set 11 = .ok (.iload_n 1, 1) := by decide +kernel
theorem dX8_set_12 : decode cX8_set 12 = .ok (.invokevirtual 72, 3) := by decide +kernel
theorem dX8_set_15 : decode cX8_set 15 = .ok (.ifCond .eq 9, 3) := by decide +kernel
theorem dX8_set_18 : decode cX8_set 18 = .ok (.aload_n 0, 1) := by decide +kernel
theorem dX8_set_19 : decode cX8_set 19 = .ok (.iconst 1, 1) := by decide +kernel
theorem dX8_set_20 : decode cX8_set 20 = .ok (.invokevirtual 65, 3) := by decide +kernel
theorem dX8_set_23 : decode cX8_set 23 = .ok (.ireturn, 1) := by decide +kernel
theorem dX8_set_24 : decode cX8_set 24 = .ok (.iload_n 2, 1) := by decide +kernel
theorem dX8_set_25 : decode cX8_set 25 = .ok (.iconst 0, 1) := by decide +kernel
theorem dX8_set_26 : decode cX8_set 26 = .ok (.aload_n 0, 1) := by decide +kernel
theorem dX8_set_27 : decode cX8_set 27 = .ok (.getfield 13, 3) := by decide +kernel
theorem dX8_set_30 : decode cX8_set 30 = .ok (.iload_n 1, 1) := by decide +kernel
theorem dX8_set_31 : decode cX8_set 31 = .ok (.iaload, 1) := by decide +kernel
theorem dX8_set_32 : decode cX8_set 32 = .ok (.iconst 1, 1) := by decide +kernel
theorem dX8_set_33 : decode cX8_set 33 = .ok (.isub, 1) := by decide +kernel
theorem dX8_set_34 : decode cX8_set 34 = .ok (.invokestatic 56, 3) := by decide +kernel
theorem dX8_set_37 : decode cX8_set 37 = .ok (.ifCond .ne 9, 3) := by decide +kernel
theorem dX8_set_40 : decode cX8_set 40 = .ok (.aload_n 0, 1) := by decide +kernel
theorem dX8_set_41 : decode cX8_set 41 = .ok (.iconst 2, 1) := by decide +kernel
theorem dX8_set_42 : decode cX8_set 42 = .ok (.invokevirtual 65, 3) := by decide +kernel
theorem dX8_set_45 : decode cX8_set 45 = .ok (.ireturn, 1) := by decide +kernel
theorem dX8_set_46 : decode cX8_set 46 = .ok (.aload_n 0, 1) := by decide +kernel
theorem dX8_set_47 : decode cX8_set 47 = .ok (.getfield 16, 3) := by decide +kernel
theorem dX8_set_50 : decode cX8_set 50 = .ok (.bipush 40, 2) := by decide +kernel
theorem dX8_set_52 : decode cX8_set 52 = .ok (.iload_n 1, 1) := by decide +kernel
theorem dX8_set_53 : decode cX8_set 53 = .ok (.imul, 1) := by decide +kernel
theorem dX8_set_54 : decode cX8_set 54 = .ok (.iload_n 2, 1) := by decide +kernel
theorem dX8_set_55 : decode cX8_set 55 = .ok (.iadd, 1) := by decide +kernel
theorem dX8_set_56 : decode cX8_set 56 = .ok (.aload_n 0, 1) := by decide +kernel
theorem dX8_set_57 : decode cX8_set 57 = .ok (.getfield 7, 3) := by decide +kernel
theorem dX8_set_60 : decode cX8_set 60 = .ok (.iload_n 1, 1) := by decide +kernel
theorem dX8_set_61 : decode cX8_set 61 = .ok (.iaload, 1) := by decide +kernel
theorem dX8_set_62 : decode cX8_set 62 = .ok (.ifCond .ne 8, 3) := by decide +kernel
theorem dX8_set_65 : decode cX8_set 65 = .ok (.iload_n 3, 1) := by decide +kernel
theorem dX8_set_66 : decode cX8_set 66 = .ok (.i2b, 1) := by decide +kernel
theorem dX8_set_67 : decode cX8_set 67 = .ok (.goto 19, 3) := by decide +kernel
theorem dX8_set_70 : decode cX8_set 70 = .ok (.aload_n 0, 1) := by decide +kernel
theorem dX8_set_71 : decode cX8_set 71 = .ok (.getfield 7, 3) := by decide +kernel
theorem dX8_set_74 : decode cX8_set 74 = .ok (.iload_n 1, 1) := by decide +kernel
theorem dX8_set_75 : decode cX8_set 75 = .ok (.iaload, 1) := by decide +kernel
theorem dX8_set_76 : decode cX8_set 76 = .ok (.iconst 1, 1) := by decide +kernel
theorem dX8_set_77 : decode cX8_set 77 = .ok (.if_icmp .ne 8, 3) := by decide +kernel
theorem dX8_set_80 : decode cX8_set 80 = .ok (.iload_n 3, 1) := by decide +kernel
theorem dX8_set_81 : decode cX8_set 81 = .ok (.i2s, 1) := by decide +kernel
theorem dX8_set_82 : decode cX8_set 82 = .ok (.goto 4, 3) := by decide +kernel
theorem dX8_set_85 : decode cX8_set 85 = .ok (.iload_n 3, 1) := by decide +kernel
theorem dX8_set_86 : decode cX8_set 86 = .ok (.iastore, 1) := by decide +kernel
theorem dX8_set_87 : decode cX8_set 87 = .ok (.aload_n 0, 1) := by decide +kernel
theorem dX8_set_88 : decode cX8_set 88 = .ok (.aload_n 0, 1) := by decide +kernel
theorem dX8_set_89 : decode cX8_set 89 = .ok (.getfield 16, 3) := by decide +kernel
theorem dX8_set_92 : decode cX8_set 92 = .ok (.bipush 40, 2) := by decide +kernel
theorem dX8_set_94 : decode cX8_set 94 = .ok (.iload_n 1, 1) := by decide +kernel
theorem dX8_set_95 : decode cX8_set 95 = .ok (.imul, 1) := by decide +kernel
theorem dX8_set_96 : decode cX8_set 96 = .ok (.iload_n 2, 1) := by decide +kernel
theorem dX8_set_97 : decode cX8_set 97 = .ok (.iadd, 1) := by decide +kernel
theorem dX8_set_98 : decode cX8_set 98 = .ok (.iaload, 1) := by decide +kernel
theorem dX8_set_99 : decode cX8_set 99 = .ok (.invokevirtual 69, 3) := by decide +kernel
theorem dX8_set_102 : decode cX8_set 102 = .ok (.ireturn, 1) := by decide +kernel
theorem dX8_copy_0 : decode cX8_copy 0 = .ok (.iload_n 1, 1) := by decide +kernel
theorem dX8_copy_1 : decode cX8_copy 1 = .ok (.invokestatic 60, 3) := by decide +kernel
theorem dX8_copy_4 : decode cX8_copy 4 = .ok (.ifCond .eq 10, 3) := by decide +kernel
theorem dX8_copy_7 : decode cX8_copy 7 = .ok (.iload_n 3, 1) := by decide +kernel
theorem dX8_copy_8 : decode cX8_copy 8 = .ok (.invokestatic 60, 3) := by decide +kernel
theorem dX8_copy_11 : decode cX8_copy 11 = .ok (.ifCond .ne 6, 3) := by decide +kernel
theorem dX8_copy_14 : decode cX8_copy 14 = .ok (.ldc 64, 2) := by decide +kernel
theorem dX8_copy_16 : decode cX8_copy 16 = .ok (.ireturn, 1) := by decide +kernel
theorem dX8_copy_17 : decode cX8_copy 17 = .ok (.aload_n 0, 1) := by decide +kernel
theorem dX8_copy_18 : decode cX8_copy 18 = .ok (.iload_n 1, 1) := by decide +kernel
theorem dX8_copy_19 : decode cX8_copy 19 = .ok (.invokevirtual 72, 3) := by decide +kernel
theorem dX8_copy_22 : decode cX8_copy 22 = .ok (.ifCond .ne 11, 3) := by decide +kernel
theorem dX8_copy_25 : decode cX8_copy 25 = .ok (.aload_n 0, 1) := by decide +kernel
theorem dX8_copy_26 : decode cX8_copy 26 = .ok (.iload_n 3, 1) := by decide +kernel
theorem dX8_copy_27 : decode cX8_copy 27 = .ok (.invokevirtual 72, 3) := by decide +kernel
theorem dX8_copy_30 : decode cX8_copy 30 = .ok (.ifCond .eq 9, 3) := by decide +kernel
theorem dX8_copy_33 : decode cX8_copy 33 = .ok (.aload_n 0, 1) := by decide +kernel
theorem dX8_copy_34 : decode cX8_copy 34 = .ok (.iconst 1, 1) := by decide +kernel
theorem dX8_copy_35 : decode cX8_copy 35 = .ok (.invokevirtual 65, 3) := by decide +kernel
theorem dX8_copy_38 : decode cX8_copy 38 = .ok (.ireturn, 1) := by decide +kernel
theorem dX8_copy_39 : decode cX8_copy 39 = .ok (.aload_n 0, 1) := by decide +kernel
theorem dX8_copy_40 : decode cX8_copy 40 = .ok (.getfield 7, 3) := by decide +kernel
theorem dX8_copy_43 : decode cX8_copy 43 = .ok (.iload_n 1, 1) := by decide +kernel
theorem dX8_copy_44 : decode cX8_copy 44 = .ok (.iaload, 1) := by decide +kernel
theorem dX8_copy_45 : decode cX8_copy 45 = .ok (.aload_n 0, 1) := by decide +kernel
theorem dX8_copy_46 : decode cX8_copy 46 = .ok (.getfield 7, 3) := by decide +kernel
theorem dX8_copy_49 : decode cX8_copy 49 = .ok (.iload_n 3, 1) := by decide +kernel
theorem dX8_copy_50 : decode cX8_copy 50 = .ok (.iaload, 1) := by decide +kernel
theorem dX8_copy_51 : decode cX8_copy 51 = .ok (.if_icmp .eq 9, 3) := by decide +kernel
theorem dX8_copy_54 : decode cX8_copy 54 = .ok (.aload_n 0, 1) := by decide +kernel
theorem dX8_copy_55 : decode cX8_copy 55 = .ok (.iconst 5, 1) := by decide +kernel
theorem dX8_copy_56 : decode cX8_copy 56 = .ok (.invokevirtual 65, 3) := by decide +kernel
theorem dX8_copy_59 : decode cX8_copy 59 = .ok (.ireturn, 1) := by decide +kernel
theorem dX8_copy_60 : decode cX8_copy 60 = .ok (.iload_n 2, 1) := by decide +kernel
theorem dX8_copy_61 : decode cX8_copy 61 = .ok (.ifCond .lt 40, 3) := by decide +kernel
theorem dX8_copy_64 : decode cX8_copy 64 = .ok (.iload 4, 2) := by decide +kernel
theorem dX8_copy_66 : decode cX8_copy 66 = .ok (.ifCond .lt 35, 3) := by decide +kernel
theorem dX8_copy_69 : decode cX8_copy 69 = .ok (.iload 5, 2) := by decide +kernel
theorem dX8_copy_71 : decode cX8_copy 71 = .ok (.ifCond .lt 30, 3) := by decide +kernel
theorem dX8_copy_74 : decode cX8_copy 74 = .ok (.iload 5, 2) := by decide +kernel
theorem dX8_copy_76 : decode cX8_copy 76 = .ok (.aload_n 0, 1) := by decide +kernel
theorem dX8_copy_77 : decode cX8_copy 77 = .ok (.getfield 13, 3) := by decide +kernel
theorem dX8_copy_80 : decode cX8_copy 80 = .ok (.iload_n 1, 1) := by decide +kernel
theorem dX8_copy_81 : decode cX8_copy 81 = .ok (.iaload, 1) := by decide +kernel
theorem dX8_copy_82 : decode cX8_copy 82 = .ok (.iload_n 2, 1) := by decide +kernel
theorem dX8_copy_83 : decode cX8_copy 83 = .ok (.isub, 1) := by decide +kernel
theorem dX8_copy_84 : decode cX8_copy 84 = .ok (.if_icmp .gt 17, 3) := by decide +kernel
theorem dX8_copy_87 : decode cX8_copy 87 = .ok (.iload 5, 2) := by decide +kernel
end
section
theorem dX8_copy_89 : decode cX8_copy 89 = .ok (.aload_n 0, 1) := by decide +kernel
theorem dX8_copy_90 : decode cX8_copy 90 = .ok (.getfield 13, 3) := by decide +kernel
theorem dX8_copy_93 : decode cX8_copy 93 = .ok (.iload_n 3, 1) := by decide +kernel
theorem dX8_copy_94 : decode cX8_copy 94 = .ok (.iaload, 1) := by decide +kernel
theorem dX8_copy_95 : decode cX8_copy 95 = .ok (.iload 4, 2) := by decide +kernel
theorem dX8_copy_97 : decode cX8_copy 97 = .ok (.isub, 1) := by decide +kernel
theorem dX8_copy_98 : decode cX8_copy 98 = .ok (.if_icmp .le 9, 3) := by decide +kernel
theorem dX8_copy_101 : decode cX8_copy 101 = .ok (.aload_n 0, 1) := by decide +kernel
theorem dX8_copy_102 : decode cX8_copy 102 = .ok (.iconst 2, 1) := by decide +kernel
theorem dX8_copy_103 : decode cX8_copy 103 = .ok (.invokevirtual 65, 3) := by decide +kernel
theorem dX8_copy_106 : decode cX8_copy 106 = .ok (.ireturn, 1) := by decide +kernel
theorem dX8_copy_107 : decode cX8_copy 107 = .ok (.iconst 0, 1) := by decide +kernel
theorem dX8_copy_108 : decode cX8_copy 108 = .ok (.istore 6, 2) := by decide +kernel
theorem dX8_copy_110 : decode cX8_copy 110 = .ok (.iload 6, 2) := by decide +kernel
theorem dX8_copy_112 : decode cX8_copy 112 = .ok (.iload 5, 2) := by decide +kernel
theorem dX8_copy_114 : decode cX8_copy 114 = .ok (.if_icmp .ge 30, 3) := by decide +kernel
theorem dX8_copy_117 : decode cX8_copy 117 = .ok (.aload_n 0, 1) := by decide +kernel
theorem dX8_copy_118 : decode cX8_copy 118 = .ok (.getfield 44, 3) := by decide +kernel
theorem dX8_copy_121 : decode cX8_copy 121 = .ok (.iload 6, 2) := by decide +kernel
theorem dX8_copy_123 : decode cX8_copy 123 = .ok (.aload_n 0, 1) := by decide +kernel
theorem dX8_copy_124 : decode cX8_copy 124 = .ok (.getfield 16, 3) := by decide +kernel
theorem dX8_copy_127 : decode cX8_copy 127 = .ok (.bipush 40, 2) := by decide +kernel
theorem dX8_copy_129 : decode cX8_copy 129 = .ok (.iload_n 1, 1) := by decide +kernel
theorem dX8_copy_130 : decode cX8_copy 130 = .ok (.imul, 1) := by decide +kernel
theorem dX8_copy_131 : decode cX8_copy 131 = .ok (.iload_n 2, 1) := by decide +kernel
theorem dX8_copy_132 : decode cX8_copy 132 = .ok (.iadd, 1) := by decide +kernel
theorem dX8_copy_133 : decode cX8_copy 133 = .ok (.iload 6, 2) := by decide +kernel
theorem dX8_copy_135 : decode cX8_copy 135 = .ok (.iadd, 1) := by decide +kernel
theorem dX8_copy_136 : decode cX8_copy 136 = .ok (.iaload, 1) := by decide +kernel
theorem dX8_copy_137 : decode cX8_copy 137 = .ok (.iastore, 1) := by decide +kernel
theorem dX8_copy_138 : decode cX8_copy 138 = .ok (.iinc 6 1, 3) := by decide +kernel
theorem dX8_copy_141 : decode cX8_copy 141 = .ok (.goto (-31), 3) := by decide +kernel
theorem dX8_copy_144 : decode cX8_copy 144 = .ok (.iconst 0, 1) := by decide +kernel
theorem dX8_copy_145 : decode cX8_copy 145 = .ok (.istore 6, 2) := by decide +kernel
theorem dX8_copy_147 : decode cX8_copy 147 = .ok (.iload 6, 2) := by decide +kernel
theorem dX8_copy_149 : decode cX8_copy 149 = .ok (.iload 5, 2) := by decide +kernel
theorem dX8_copy_151 : decode cX8_copy 151 = .ok (.if_icmp .ge 31, 3) := by decide +kernel
theorem dX8_copy_154 : decode cX8_copy 154 = .ok (.aload_n 0, 1) := by decide +kernel
theorem dX8_copy_155 : decode cX8_copy 155 = .ok (.getfield 16, 3) := by decide +kernel
theorem dX8_copy_158 : decode cX8_copy 158 = .ok (.bipush 40, 2) := by decide +kernel
theorem dX8_copy_160 : decode cX8_copy 160 = .ok (.iload_n 3, 1) := by decide +kernel
theorem dX8_copy_161 : decode cX8_copy 161 = .ok (.imul, 1) := by decide +kernel
theorem dX8_copy_162 : decode cX8_copy 162 = .ok (.iload 4, 2) := by decide +kernel
theorem dX8_copy_164 : decode cX8_copy 164 = .ok (.iadd, 1) := by decide +kernel
theorem dX8_copy_165 : decode cX8_copy 165 = .ok (.iload 6, 2) := by decide +kernel
theorem dX8_copy_167 : decode cX8_copy 167 = .ok (.iadd, 1) := by decide +kernel
theorem dX8_copy_168 : decode cX8_copy 168 = .ok (.aload_n 0, 1) := by decide +kernel
theorem dX8_copy_169 : decode cX8_copy 169 = .ok (.getfield 44, 3) := by decide +kernel
theorem dX8_copy_172 : decode cX8_copy 172 = .ok (.iload 6, 2) := by decide +kernel
theorem dX8_copy_174 : decode cX8_copy 174 = .ok (.iaload, 1) := by decide +kernel
theorem dX8_copy_175 : decode cX8_copy 175 = .ok (.iastore, 1) := by decide +kernel
theorem dX8_copy_176 : decode cX8_copy 176 = .ok (.iinc 6 1, 3) := by decide +kernel
theorem dX8_copy_179 : decode cX8_copy 179 = .ok (.goto (-32), 3) := by decide +kernel
theorem dX8_copy_182 : decode cX8_copy 182 = .ok (.aload_n 0, 1) := by decide +kernel
theorem dX8_copy_183 : decode cX8_copy 183 = .ok (.iload 5, 2) := by decide +kernel
theorem dX8_copy_185 : decode cX8_copy 185 = .ok (.invokevirtual 69, 3) := by decide +kernel
theorem dX8_copy_188 : decode cX8_copy 188 = .ok (.ireturn, 1) := by decide +kernel
theorem dX8_drop_0 : decode cX8_drop 0 = .ok (.iload_n 1, 1) := by decide +kernel
theorem dX8_drop_1 : decode cX8_drop 1 = .ok (.invokestatic 60, 3) := by decide +kernel
theorem dX8_drop_4 : decode cX8_drop 4 = .ok (.ifCond .ne 6, 3) := by decide +kernel
theorem dX8_drop_7 : decode cX8_drop 7 = .ok (.ldc 64, 2) := by decide +kernel
theorem dX8_drop_9 : decode cX8_drop 9 = .ok (.ireturn, 1) := by decide +kernel
theorem dX8_drop_10 : decode cX8_drop 10 = .ok (.aload_n 0, 1) := by decide +kernel
theorem dX8_drop_11 : decode cX8_drop 11 = .ok (.iload_n 1, 1) := by decide +kernel
theorem dX8_drop_12 : decode cX8_drop 12 = .ok (.invokevirtual 72, 3) := by decide +kernel
theorem dX8_drop_15 : decode cX8_drop 15 = .ok (.ifCond .eq 9, 3) := by decide +kernel
theorem dX8_drop_18 : decode cX8_drop 18 = .ok (.aload_n 0, 1) := by decide +kernel
theorem dX8_drop_19 : decode cX8_drop 19 = .ok (.iconst 1, 1) := by decide +kernel
theorem dX8_drop_20 : decode cX8_drop 20 = .ok (.invokevirtual 65, 3) := by decide +kernel
theorem dX8_drop_23 : decode cX8_drop 23 = .ok (.ireturn, 1) := by decide +kernel
theorem dX8_drop_24 : decode cX8_drop 24 = .ok (.aload_n 0, 1) := by decide +kernel
theorem dX8_drop_25 : decode cX8_drop 25 = .ok (.getfield 7, 3) := by decide +kernel
theorem dX8_drop_28 : decode cX8_drop 28 = .ok (.iload_n 1, 1) := by decide +kernel
theorem dX8_drop_29 : decode cX8_drop 29 = .ok (.ldc 50, 2) := by decide +kernel
theorem dX8_drop_31 : decode cX8_drop 31 = .ok (.iastore, 1) := by decide +kernel
theorem dX8_drop_32 : decode cX8_drop 32 = .ok (.aload_n 0, 1) := by decide +kernel
theorem dX8_drop_33 : decode cX8_drop 33 = .ok (.aload_n 0, 1) := by decide +kernel
theorem dX8_drop_34 : decode cX8_drop 34 = .ok (.getfield 13, 3) := by decide +kernel
theorem dX8_drop_37 : decode cX8_drop 37 = .ok (.iload_n 1, 1) := by decide +kernel
theorem dX8_drop_38 : decode cX8_drop 38 = .ok (.iaload, 1) := by decide +kernel
theorem dX8_drop_39 : decode cX8_drop 39 = .ok (.invokevirtual 69, 3) := by decide +kernel
theorem dX8_drop_42 : decode cX8_drop 42 = .ok (.ireturn, 1) := by decide +kernel
theorem dX8_feed_0 : decode cX8_feed 0 = .ok (.iload_n 3, 1) := by decide +kernel
theorem dX8_feed_1 : decode cX8_feed 1 = .ok (.iconst 1, 1) := by decide +kernel
theorem dX8_feed_2 : decode cX8_feed 2 = .ok (.bipush 8, 2) := by decide +kernel
theorem dX8_feed_4 : decode cX8_feed 4 = .ok (.invokestatic 56, 3) := by decide +kernel
theorem dX8_feed_7 : decode cX8_feed 7 = .ok (.ifCond .ne 6, 3) := by decide +kernel
theorem dX8_feed_10 : decode cX8_feed 10 = .ok (.ldc 64, 2) := by decide +kernel
theorem dX8_feed_12 : decode cX8_feed 12 = .ok (.ireturn, 1) := by decide +kernel
theorem dX8_feed_13 : decode cX8_feed 13 = .ok (.aload_n 0, 1) := by decide +kernel
theorem dX8_feed_14 : decode cX8_feed 14 = .ok (.getfield 75, 3) := by decide +kernel
theorem dX8_feed_17 : decode cX8_feed 17 = .ok (.iload_n 3, 1) := by decide +kernel
theorem dX8_feed_18 : decode cX8_feed 18 = .ok (.iadd, 1) := by decide +kernel
theorem dX8_feed_19 : decode cX8_feed 19 = .ok (.sipush 400, 3) := by decide +kernel
theorem dX8_feed_22 : decode cX8_feed 22 = .ok (.if_icmp .le 6, 3) := by decide +kernel
theorem dX8_feed_25 : decode cX8_feed 25 = .ok (.ldc 78, 2) := by decide +kernel
theorem dX8_feed_27 : decode cX8_feed 27 = .ok (.ireturn, 1) := by decide +kernel
theorem dX8_feed_28 : decode cX8_feed 28 = .ok (.iload_n 3, 1) := by decide +kernel
theorem dX8_feed_29 : decode cX8_feed 29 = .ok (.iconst 1, 1) := by decide +kernel
theorem dX8_feed_30 : decode cX8_feed 30 = .ok (.isub, 1) := by decide +kernel
theorem dX8_feed_31 : decode cX8_feed 31 = .ok (.istore 4, 2) := by decide +kernel
theorem dX8_feed_33 : decode cX8_feed 33 = .ok (.iload 4, 2) := by decide +kernel
theorem dX8_feed_35 : decode cX8_feed 35 = .ok (.ifCond .lt 40, 3) := by decide +kernel
theorem dX8_feed_38 : decode cX8_feed 38 = .ok (.aload_n 0, 1) := by decide +kernel
theorem dX8_feed_39 : decode cX8_feed 39 = .ok (.getfield 19, 3) := by decide +kernel
theorem dX8_feed_42 : decode cX8_feed 42 = .ok (.aload_n 0, 1) := by decide +kernel
theorem dX8_feed_43 : decode cX8_feed 43 = .ok (.getfield 75, 3) := by decide +kernel
theorem dX8_feed_46 : decode cX8_feed 46 = .ok (.lload_n 1, 1) := by decide +kernel
theorem dX8_feed_47 : decode cX8_feed 47 = .ok (.bipush 8, 2) := by decide +kernel
theorem dX8_feed_49 : decode cX8_feed 49 = .ok (.iload 4, 2) := by decide +kernel
theorem dX8_feed_51 : decode cX8_feed 51 = .ok (.imul, 1) := by decide +kernel
theorem dX8_feed_52 : decode cX8_feed 52 = .ok (.lshr, 1) := by decide +kernel
theorem dX8_feed_53 : decode cX8_feed 53 = .ok (.ldc2_w 79, 3) := by decide +kernel
theorem dX8_feed_56 : decode cX8_feed 56 = .ok (.land, 1) := by decide +kernel
theorem dX8_feed_57 : decode cX8_feed 57 = .ok (.l2i, 1) := by decide +kernel
theorem dX8_feed_58 : decode cX8_feed 58 = .ok (.iastore, 1) := by decide +kernel
theorem dX8_feed_59 : decode cX8_feed 59 = .ok (.aload_n 0, 1) := by decide +kernel
theorem dX8_feed_60 : decode cX8_feed 60 = .ok (.dup, 1) := by decide +kernel
theorem dX8_feed_61 : decode cX8_feed 61 = .ok (.getfield 75, 3) := by decide +kernel
theorem dX8_feed_64 : decode cX8_feed 64 = .ok (.iconst 1, 1) := by decide +kernel
theorem dX8_feed_65 : decode cX8_feed 65 = .ok (.iadd, 1) := by decide +kernel
theorem dX8_feed_66 : decode cX8_feed 66 = .ok (.putfield 75, 3) := by decide +kernel
theorem dX8_feed_69 : decode cX8_feed 69 = .ok (.iinc 4 (-1), 3) := by decide +kernel
theorem dX8_feed_72 : decode cX8_feed 72 = .ok (.goto (-39), 3) := by decide +kernel
theorem dX8_feed_75 : decode cX8_feed 75 = .ok (.aload_n 0, 1) := by decide +kernel
theorem dX8_feed_76 : decode cX8_feed 76 = .ok (.getfield 75, 3) := by decide +kernel
theorem dX8_feed_79 : decode cX8_feed 79 = .ok (.ireturn, 1) := by decide +kernel
theorem dX8_here_0 : decode cX8_here 0 = .ok (.aload_n 0, 1) := by decide +kernel
theorem dX8_here_1 : decode cX8_here 1 = .ok (.getfield 81, 3) := by decide +kernel
theorem dX8_here_4 : decode cX8_here 4 = .ok (.aload_n 0, 1) := by decide +kernel
theorem dX8_here_5 : decode cX8_here 5 = .ok (.getfield 75, 3) := by decide +kernel
theorem dX8_here_8 : decode cX8_here 8 = .ok (.if_icmp .ge 15, 3) := by decide +kernel
theorem dX8_here_11 : decode cX8_here 11 = .ok (.aload_n 0, 1) := by decide +kernel
theorem dX8_here_12 : decode cX8_here 12 = .ok (.getfield 19, 3) := by decide +kernel
theorem dX8_here_15 : decode cX8_here 15 = .ok (.aload_n 0, 1) := by decide +kernel
theorem dX8_here_16 : decode cX8_here 16 = .ok (.getfield 81, 3) := by decide +kernel
theorem dX8_here_19 : decode cX8_here 19 = .ok (.iaload, 1) := by decide +kernel
theorem dX8_here_20 : decode cX8_here 20 = .ok (.goto 4, 3) := by decide +kernel
theorem dX8_here_23 : decode cX8_here 23 = .ok (.iconst (-1), 1) := by decide +kernel
theorem dX8_here_24 : decode cX8_here 24 = .ok (.ireturn, 1) := by decide +kernel
theorem dX8_nextToken_0 : decode cX8_nextToken 0 = .ok (.aload_n 0, 1) := by decide +kernel
theorem dX8_nextToken_1 : decode cX8_nextToken 1 = .ok (.invokevirtual 84, 3) := by decide +kernel
theorem dX8_nextToken_4 : decode cX8_nextToken 4 = .ok (.bipush 32, 2) := by decide +kernel
theorem dX8_nextToken_6 : decode cX8_nextToken 6 = .ok (.if_icmp .eq 12, 3) := by decide +kernel
theorem dX8_nextToken_9 : decode cX8_nextToken 9 = .ok (.aload_n 0, 1) := by decide +kernel
theorem dX8_nextToken_10 : decode cX8_nextToken 10 = .ok (.invokevirtual 84, 3) := by decide +kernel
theorem dX8_nextToken_13 : decode cX8_nextToken 13 = .ok (.bipush 10, 2) := by decide +kernel
theorem dX8_nextToken_15 : decode cX8_nextToken 15 = .ok (.if_icmp .ne 16, 3) := by decide +kernel
theorem dX8_nextToken_18 : decode cX8_nextToken 18 = .ok (.aload_n 0, 1) := by decide +kernel
theorem dX8_nextToken_19 : decode cX8_nextToken 19 = .ok (.dup, 1) := by decide +kernel
theorem dX8_nextToken_20 : decode cX8_nextToken 20 = .ok (.getfield 81, 3) := by decide +kernel
theorem dX8_nextToken_23 : decode cX8_nextToken 23 = .ok (.iconst 1, 1) := by decide +kernel
theorem dX8_nextToken_24 : decode cX8_nextToken 24 = .ok (.iadd, 1) := by decide +kernel
theorem dX8_nextToken_25 : decode cX8_nextToken 25 = .ok (.putfield 81, 3) := by decide +kernel
theorem dX8_nextToken_28 : decode cX8_nextToken 28 = .ok (.goto (-28), 3) := by decide +kernel
theorem dX8_nextToken_31 : decode cX8_nextToken 31 = .ok (.aload_n 0, 1) := by decide +kernel
theorem dX8_nextToken_32 : decode cX8_nextToken 32 = .ok (.aload_n 0, 1) := by decide +kernel
theorem dX8_nextToken_33 : decode cX8_nextToken 33 = .ok (.getfield 81, 3) := by decide +kernel
theorem dX8_nextToken_36 : decode cX8_nextToken 36 = .ok (.putfield 88, 3) := by decide +kernel
theorem dX8_nextToken_39 : decode cX8_nextToken 39 = .ok (.aload_n 0, 1) := by decide +kernel
theorem dX8_nextToken_40 : decode cX8_nextToken 40 = .ok (.invokevirtual 84, 3) := by decide +kernel
theorem dX8_nextToken_43 : decode cX8_nextToken 43 = .ok (.ifCond .ge 11, 3) := by decide +kernel
theorem dX8_nextToken_46 : decode cX8_nextToken 46 = .ok (.aload_n 0, 1) := by decide +kernel
theorem dX8_nextToken_47 : decode cX8_nextToken 47 = .ok (.iconst 0, 1) := by decide +kernel
theorem dX8_nextToken_48 : decode cX8_nextToken 48 = .ok (.putfield 91, 3) := by decide +kernel
theorem dX8_nextToken_51 : decode cX8_nextToken 51 = .ok (.goto 234, 3) := by decide +kernel
theorem dX8_nextToken_54 : decode cX8_nextToken 54 = .ok (.aload_n 0, 1) := by decide +kernel
theorem dX8_nextToken_55 : decode cX8_nextToken 55 = .ok (.invokevirtual 84, 3) := by decide +kernel
theorem dX8_nextToken_58 : decode cX8_nextToken 58 = .ok (.bipush 97, 2) := by decide +kernel
theorem dX8_nextToken_60 : decode cX8_nextToken 60 = .ok (.bipush 122, 2) := by decide +kernel
theorem dX8_nextToken_62 : decode cX8_nextToken 62 = .ok (.invokestatic 56, 3) := by decide +kernel
theorem dX8_nextToken_65 : decode cX8_nextToken 65 = .ok (.ifCond .eq 82, 3) := by decide +kernel
theorem dX8_nextToken_68 : decode cX8_nextToken 68 = .ok (.aload_n 0, 1) := by decide +kernel
theorem dX8_nextToken_69 : decode cX8_nextToken 69 = .ok (.iconst 1, 1) := by decide +kernel
theorem dX8_nextToken_70 : decode cX8_nextToken 70 = .ok (.putfield 91, 3) := by decide +kernel
theorem dX8_nextToken_73 : decode cX8_nextToken 73 = .ok (.aload_n 0, 1) := by decide +kernel
theorem dX8_nextToken_74 : decode cX8_nextToken 74 = .ok (.lconst 0, 1) := by decide +kernel
theorem dX8_nextToken_75 : decode cX8_nextToken 75 = .ok (.putfield 94, 3) := by decide +kernel
theorem dX8_nextToken_78 : decode cX8_nextToken 78 = .ok (.aload_n 0, 1) := by decide +kernel
theorem dX8_nextToken_79 : decode cX8_nextToken 79 = .ok (.invokevirtual 84, 3) := by decide +kernel
theorem dX8_nextToken_82 : decode cX8_nextToken 82 = .ok (.bipush 97, 2) := by decide +kernel
theorem dX8_nextToken_84 : decode cX8_nextToken 84 = .ok (.bipush 122, 2) := by decide +kernel
theorem dX8_nextToken_86 : decode cX8_nextToken 86 = .ok (.invokestatic 56, 3) := by decide +kernel
theorem dX8_nextToken_89 : decode cX8_nextToken 89 = .ok (.ifCond .eq 196, 3) := by decide +kernel
theorem dX8_nextToken_92 : decode cX8_nextToken 92 = .ok (.aload_n 0, 1) := by decide +kernel
theorem dX8_nextToken_93 : decode cX8_nextToken 93 = .ok (.aload_n 0, 1) := by decide +kernel
theorem dX8_nextToken_94 : decode cX8_nextToken 94 = .ok (.getfield 81, 3) := by decide +kernel
theorem dX8_nextToken_97 : decode cX8_nextToken 97 = .ok (.aload_n 0, 1) := by decide +kernel
theorem dX8_nextToken_98 : decode cX8_nextToken 98 = .ok (.getfield 88, 3) := by decide +kernel
theorem dX8_nextToken_101 : decode cX8_nextToken 101 = .ok (.isub, 1) := by decide +kernel
theorem dX8_nextToken_102 : decode cX8_nextToken 102 = .ok (.bipush 9, 2) := by decide +kernel
theorem dX8_nextToken_104 : decode cX8_nextToken 104 = .ok (.if_icmp .ge 24, 3) := by decide +kernel
theorem dX8_nextToken_107 : decode cX8_nextToken 107 = .ok (.ldc2_w 98, 3) := by decide +kernel
theorem dX8_nextToken_110 : decode cX8_nextToken 110 = .ok (.aload_n 0, 1) := by decide +kernel
theorem dX8_nextToken_111 : decode cX8_nextToken 111 = .ok (.getfield 94, 3) := by decide +kernel
theorem dX8_nextToken_114 : decode cX8_nextToken 114 = .ok (.lmul, 1) := by decide +kernel
theorem dX8_nextToken_115 : decode cX8_nextToken 115 = .ok (.aload_n 0, 1) := by decide +kernel
theorem dX8_nextToken_116 : decode cX8_nextToken 116 = .ok (.invokevirtual 84, 3) := by decide +kernel
theorem dX8_nextToken_119 : decode cX8_nextToken 119 = .ok (.i2l, 1) := by decide +kernel
theorem dX8_nextToken_120 : decode cX8_nextToken 120 = .ok (.ladd, 1) := by decide +kernel
theorem dX8_nextToken_121 : decode cX8_nextToken 121 = .ok (.ldc2_w 100, 3) := by decide +kernel
theorem dX8_nextToken_124 : decode cX8_nextToken 124 = .ok (.lsub, 1) := by decide +kernel
theorem dX8_nextToken_125 : decode cX8_nextToken 125 = .ok (.goto 6, 3) := by decide +kernel
theorem dX8_nextToken_128 : decode cX8_nextToken 128 = .ok (.ldc2_w 102, 3) := by decide +kernel
theorem dX8_nextToken_131 : decode cX8_nextToken 131 = .ok (.putfield 94, 3) := by decide +kernel
theorem dX8_nextToken_134 : decode cX8_nextToken 134 = .ok (.aload_n 0, 1) := by decide +kernel
theorem dX8_nextToken_135 : decode cX8_nextToken 135 = .ok (.dup, 1) := by decide +kernel
theorem dX8_nextToken_136 : decode cX8_nextToken 136 = .ok (.getfield 81, 3) := by decide +kernel
theorem dX8_nextToken_139 : decode cX8_nextToken 139 = .ok (.iconst 1, 1) := by decide +kernel
theorem dX8_nextToken_140 : decode cX8_nextToken 140 = .ok (.iadd, 1) := by decide +kernel
theorem dX8_nextToken_141 : decode cX8_nextToken 141 = .ok (.putfield 81, 3) := by decide +kernel
theorem dX8_nextToken_144 : decode cX8_nextToken 144 = .ok (.goto (-66), 3) := by decide +kernel
theorem dX8_nextToken_147 : decode cX8_nextToken 147 = .ok (.aload_n 0, 1) := by decide +kernel
theorem dX8_nextToken_148 : decode cX8_nextToken 148 = .ok (.invokevirtual 84, 3) := by decide +kernel
theorem dX8_nextToken_151 : decode cX8_nextToken 151 = .ok (.bipush 48, 2) := by decide +kernel
theorem dX8_nextToken_153 : decode cX8_nextToken 153 = .ok (.bipush 57, 2) := by decide +kernel
theorem dX8_nextToken_155 : decode cX8_nextToken 155 = .ok (.invokestatic 56, 3) := by decide +kernel
theorem dX8_nextToken_158 : decode cX8_nextToken 158 = .ok (.ifCond .eq 99, 3) := by decide +kernel
theorem dX8_nextToken_161 : decode cX8_nextToken 161 = .ok (.aload_n 0, 1) := by decide +kernel
theorem dX8_nextToken_162 : decode cX8_nextToken 162 = .ok (.iconst 0, 1) := by decide +kernel
theorem dX8_nextToken_163 : decode cX8_nextToken 163 = .ok (.putfield 104, 3) := by decide +kernel
theorem dX8_nextToken_166 : decode cX8_nextToken 166 = .ok (.aload_n 0, 1) := by decide +kernel
theorem dX8_nextToken_167 : decode cX8_nextToken 167 = .ok (.invokevirtual 84, 3) := by decide +kernel
theorem dX8_nextToken_170 : decode cX8_nextToken 170 = .ok (.bipush 48, 2) := by decide +kernel
theorem dX8_nextToken_172 : decode cX8_nextToken 172 = .ok (.bipush 57, 2) := by decide +kernel
theorem dX8_nextToken_174 : decode cX8_nextToken 174 = .ok (.invokestatic 56, 3) := by decide +kernel
theorem dX8_nextToken_177 : decode cX8_nextToken 177 = .ok (.ifCond .eq 55, 3) := by decide +kernel
theorem dX8_nextToken_180 : decode cX8_nextToken 180 = .ok (.aload_n 0, 1) := by decide +kernel
theorem dX8_nextToken_181 : decode cX8_nextToken 181 = .ok (.aload_n 0, 1) := by decide +kernel
theorem dX8_nextToken_182 : decode cX8_nextToken 182 = .ok (.getfield 81, 3) := by decide +kernel
theorem dX8_nextToken_185 : decode cX8_nextToken 185 = .ok (.aload_n 0, 1) := by decide +kernel
theorem dX8_nextToken_186 : decode cX8_nextToken 186 = .ok (.getfield 88, 3) := by decide +kernel
theorem dX8_nextToken_189 : decode cX8_nextToken 189 = .ok (.isub, 1) := by decide +kernel
theorem dX8_nextToken_190 : decode cX8_nextToken 190 = .ok (.iconst 3, 1) := by decide +kernel
theorem dX8_nextToken_191 : decode cX8_nextToken 191 = .ok (.if_icmp .ge 21, 3) := by decide +kernel
theorem dX8_nextToken_194 : decode cX8_nextToken 194 = .ok (.bipush 10, 2) := by decide +kernel
theorem dX8_nextToken_196 : decode cX8_nextToken 196 = .ok (.aload_n 0, 1) := by decide +kernel
theorem dX8_nextToken_197 : decode cX8_nextToken 197 = .ok (.getfield 104, 3) := by decide +kernel
theorem dX8_nextToken_200 : decode cX8_nextToken 200 = .ok (.imul, 1) := by decide +kernel
theorem dX8_nextToken_201 : decode cX8_nextToken 201 = .ok (.aload_n 0, 1) := by decide +kernel
theorem dX8_nextToken_202 : decode cX8_nextToken 202 = .ok (.invokevirtual 84, 3) := by decide +kernel
theorem dX8_nextToken_205 : decode cX8_nextToken 205 = .ok (.iadd, 1) := by decide +kernel
theorem dX8_nextToken_206 : decode cX8_nextToken 206 = .ok (.bipush 48, 2) := by decide +kernel
theorem dX8_nextToken_208 : decode cX8_nextToken 208 = .ok (.isub, 1) := by decide +kernel
theorem dX8_nextToken_209 : decode cX8_nextToken 209 = .ok (.goto 7, 3) := by decide +kernel
theorem dX8_nextToken_212 : decode cX8_nextToken 212 = .ok (.aload_n 0, 1) := by decide +kernel
theorem dX8_nextToken_213 : decode cX8_nextToken 213 = .ok (.getfield 104, 3) := by decide +kernel
theorem dX8_nextToken_216 : decode cX8_nextToken 216 = .ok (.putfield 104, 3) := by decide +kernel
theorem dX8_nextToken_219 : decode cX8_nextToken 219 = .ok (.aload_n 0, 1) := by decide +kernel
theorem dX8_nextToken_220 : decode cX8_nextToken 220 = .ok (.dup, 1) := by decide +kernel
theorem dX8_nextToken_221 : decode cX8_nextToken 221 = .ok (.getfield 81, 3) := by decide +kernel
theorem dX8_nextToken_224 : decode cX8_nextToken 224 = .ok (.iconst 1, 1) := by decide +kernel
theorem dX8_nextToken_225 : decode cX8_nextToken 225 = .ok (.iadd, 1) := by decide +kernel
theorem dX8_nextToken_226 : decode cX8_nextToken 226 = .ok (.putfield 81, 3) := by decide +kernel
theorem dX8_nextToken_229 : decode cX8_nextToken 229 = .ok (.goto (-63), 3) := by decide +kernel
theorem dX8_nextToken_232 : decode cX8_nextToken 232 = .ok (.aload_n 0, 1) := by decide +kernel
theorem dX8_nextToken_233 : decode cX8_nextToken 233 = .ok (.aload_n 0, 1) := by decide +kernel
theorem dX8_nextToken_234 : decode cX8_nextToken 234 = .ok (.getfield 81, 3) := by decide +kernel
theorem dX8_nextToken_237 : decode cX8_nextToken 237 = .ok (.aload_n 0, 1) := by decide +kernel
theorem dX8_nextToken_238 : decode cX8_nextToken 238 = .ok (.getfield 88, 3) := by decide +kernel
theorem dX8_nextToken_241 : decode cX8_nextToken 241 = .ok (.isub, 1) := by decide +kernel
theorem dX8_nextToken_242 : decode cX8_nextToken 242 = .ok (.iconst 3, 1) := by decide +kernel
theorem dX8_nextToken_243 : decode cX8_nextToken 243 = .ok (.if_icmp .le 7, 3) := by decide +kernel
theorem dX8_nextToken_246 : decode cX8_nextToken 246 = .ok (.iconst 4, 1) := by decide +kernel
theorem dX8_nextToken_247 : decode cX8_nextToken 247 = .ok (.goto 4, 3) := by decide +kernel
theorem dX8_nextToken_250 : decode cX8_nextToken 250 = .ok (.iconst 2, 1) := by decide +kernel
theorem dX8_nextToken_251 : decode cX8_nextToken 251 = .ok (.putfield 91, 3) := by decide +kernel
theorem dX8_nextToken_254 : decode cX8_nextToken 254 = .ok (.goto 31, 3) := by decide +kernel
theorem dX8_nextToken_257 : decode cX8_nextToken 257 = .ok (.aload_n 0, 1) := by decide +kernel
theorem dX8_nextToken_258 : decode cX8_nextToken 258 = .ok (.aload_n 0, 1) := by decide +kernel
theorem dX8_nextToken_259 : decode cX8_nextToken 259 = .ok (.invokevirtual 84, 3) := by decide +kernel
theorem dX8_nextToken_262 : decode cX8_nextToken 262 = .ok (.bipush 59, 2) := by decide +kernel
theorem dX8_nextToken_264 : decode cX8_nextToken 264 = .ok (.if_icmp .ne 7, 3) := by decide +kernel
theorem dX8_nextToken_267 : decode cX8_nextToken 267 = .ok (.iconst 3, 1) := by decide +kernel
theorem dX8_nextToken_268 : decode cX8_nextToken 268 = .ok (.goto 4, 3) := by decide +kernel
theorem dX8_nextToken_271 : decode cX8_nextToken 271 = .ok (.iconst 4, 1) := by decide +kernel
theorem dX8_nextToken_272 : decode cX8_nextToken 272 = .ok (.putfield 91, 3) := by decide +kernel
theorem dX8_nextToken_275 : decode cX8_nextToken 275 = .ok (.aload_n 0, 1) := by decide +kernel
theorem dX8_nextToken_276 : decode cX8_nextToken 276 = .ok (.dup, 1) := by decide +kernel
theorem dX8_nextToken_277 : decode cX8_nextToken 277 = .ok (.getfield 81, 3) := by decide +kernel
theorem dX8_nextToken_280 : decode cX8_nextToken 280 = .ok (.iconst 1, 1) := by decide +kernel
theorem dX8_nextToken_281 : decode cX8_nextToken 281 = .ok (.iadd, 1) := by decide +kernel
theorem dX8_nextToken_282 : decode cX8_nextToken 282 = .ok (.putfield 81, 3) := by decide +kernel
theorem dX8_nextToken_285 : decode cX8_nextToken 285 = .ok (.return_, 1) := by decide +kernel
theorem dX8_fails_0 : decode cX8_fails 0 = .ok (.aload_n 0, 1) := by decide +kernel
theorem dX8_fails_1 : decode cX8_fails 1 = .ok (.iload_n 1, 1) := by decide +kernel
theorem dX8_fails_2 : decode cX8_fails 2 = .ok (.putfield 107, 3) := by decide +kernel
theorem dX8_fails_5 : decode cX8_fails 5 = .ok (.iconst 0, 1) := by decide +kernel
theorem dX8_fails_6 : decode cX8_fails 6 = .ok (.ireturn, 1) := by decide +kernel
theorem dX8_isName_0 : decode cX8_isName 0 = .ok (.aload_n 0, 1) := by decide +kernel
theorem dX8_isName_1 : decode cX8_isName 1 = .ok (.getfield 91, 3) := by decide +kernel
theorem dX8_isName_4 : decode cX8_isName 4 = .ok (.iconst 1, 1) := by decide +kernel
theorem dX8_isName_5 : decode cX8_isName 5 = .ok (.if_icmp .ne 16, 3) := by decide +kernel
theorem dX8_isName_8 : decode cX8_isName 8 = .ok (.aload_n 0, 1) := by decide +kernel
theorem dX8_isName_9 : decode cX8_isName 9 = .ok (.getfield 94, 3) := by decide +kernel
theorem dX8_isName_12 : decode cX8_isName 12 = .ok (.lload_n 1, 1) := by decide +kernel
theorem dX8_isName_13 : decode cX8_isName 13 = .ok (.lcmp, 1) := by decide +kernel
theorem dX8_isName_14 : decode cX8_isName 14 = .ok (.ifCond .ne 7, 3) := by decide +kernel
theorem dX8_isName_17 : decode cX8_isName 17 = .ok (.iconst 1, 1) := by decide +kernel
theorem dX8_isName_18 : decode cX8_isName 18 = .ok (.goto 4, 3) := by decide +kernel
theorem dX8_isName_21 : decode cX8_isName 21 = .ok (.iconst 0, 1) := by decide +kernel
theorem dX8_isName_22 : decode cX8_isName 22 = .ok (.ireturn, 1) := by decide +kernel
theorem dX8_isNumber_0 : decode cX8_isNumber 0 = .ok (.aload_n 0, 1) := by decide +kernel
theorem dX8_isNumber_1 : decode cX8_isNumber 1 = .ok (.invokevirtual 110, 3) := by decide +kernel
theorem dX8_isNumber_4 : decode cX8_isNumber 4 = .ok (.aload_n 0, 1) := by decide +kernel
theorem dX8_isNumber_5 : decode cX8_isNumber 5 = .ok (.getfield 91, 3) := by decide +kernel
theorem dX8_isNumber_8 : decode cX8_isNumber 8 = .ok (.iconst 2, 1) := by decide +kernel
theorem dX8_isNumber_9 : decode cX8_isNumber 9 = .ok (.if_icmp .eq 9, 3) := by decide +kernel
theorem dX8_isNumber_12 : decode cX8_isNumber 12 = .ok (.aload_n 0, 1) := by decide +kernel
theorem dX8_isNumber_13 : decode cX8_isNumber 13 = .ok (.iconst 1, 1) := by decide +kernel
theorem dX8_isNumber_14 : decode cX8_isNumber 14 = .ok (.invokevirtual 113, 3) := by decide +kernel
theorem dX8_isNumber_17 : decode cX8_isNumber 17 = .ok (.ireturn, 1) := by decide +kernel
theorem dX8_isNumber_18 : decode cX8_isNumber 18 = .ok (.aload_n 0, 1) := by decide +kernel
theorem dX8_isNumber_19 : decode cX8_isNumber 19 = .ok (.getfield 104, 3) := by decide +kernel
theorem dX8_isNumber_22 : decode cX8_isNumber 22 = .ok (.iload_n 1, 1) := by decide +kernel
theorem dX8_isNumber_23 : decode cX8_isNumber 23 = .ok (.iload_n 2, 1) := by decide +kernel
theorem dX8_isNumber_24 : decode cX8_isNumber 24 = .ok (.invokestatic 56, 3) := by decide +kernel
theorem dX8_isNumber_27 : decode cX8_isNumber 27 = .ok (.ifCond .ne 11, 3) := by decide +kernel
theorem dX8_isNumber_30 : decode cX8_isNumber 30 = .ok (.aload_n 0, 1) := by decide +kernel
theorem dX8_isNumber_31 : decode cX8_isNumber 31 = .ok (.iconst 2, 1) := by decide +kernel
theorem dX8_isNumber_32 : decode cX8_isNumber 32 = .ok (.invokevirtual 113, 3) := by decide +kernel
theorem dX8_isNumber_35 : decode cX8_isNumber 35 = .ok (.ifCond .eq 7, 3) := by decide +kernel
theorem dX8_isNumber_38 : decode cX8_isNumber 38 = .ok (.iconst 1, 1) := by decide +kernel
theorem dX8_isNumber_39 : decode cX8_isNumber 39 = .ok (.goto 4, 3) := by decide +kernel
theorem dX8_isNumber_42 : decode cX8_isNumber 42 = .ok (.iconst 0, 1) := by decide +kernel
theorem dX8_isNumber_43 : decode cX8_isNumber 43 = .ok (.ireturn, 1) := by decide +kernel
theorem dX8_isEnd_0 : decode cX8_isEnd 0 = .ok (.aload_n 0, 1) := by decide +kernel
theorem dX8_isEnd_1 : decode cX8_isEnd 1 = .ok (.invokevirtual 110, 3) := by decide +kernel
theorem dX8_isEnd_4 : decode cX8_isEnd 4 = .ok (.aload_n 0, 1) := by decide +kernel
theorem dX8_isEnd_5 : decode cX8_isEnd 5 = .ok (.getfield 91, 3) := by decide +kernel
theorem dX8_isEnd_8 : decode cX8_isEnd 8 = .ok (.iconst 3, 1) := by decide +kernel
theorem dX8_isEnd_9 : decode cX8_isEnd 9 = .ok (.if_icmp .eq 11, 3) := by decide +kernel
theorem dX8_isEnd_12 : decode cX8_isEnd 12 = .ok (.aload_n 0, 1) := by decide +kernel
theorem dX8_isEnd_13 : decode cX8_isEnd 13 = .ok (.iconst 1, 1) := by decide +kernel
theorem dX8_isEnd_14 : decode cX8_isEnd 14 = .ok (.invokevirtual 113, 3) := by decide +kernel
theorem dX8_isEnd_17 : decode cX8_isEnd 17 = .ok (.ifCond .eq 7, 3) := by decide +kernel
theorem dX8_isEnd_20 : decode cX8_isEnd 20 = .ok (.iconst 1, 1) := by decide +kernel
theorem dX8_isEnd_21 : decode cX8_isEnd 21 = .ok (.goto 4, 3) := by decide +kernel
theorem dX8_isEnd_24 : decode cX8_isEnd 24 = .ok (.iconst 0, 1) := by decide +kernel
theorem dX8_isEnd_25 : decode cX8_isEnd 25 = .ok (.ireturn, 1) := by decide +kernel
theorem dX8_isFacts_0 : decode cX8_isFacts 0 = .ok (.aload_n 0, 1) := by decide +kernel
theorem dX8_isFacts_1 : decode cX8_isFacts 1 = .ok (.invokevirtual 110, 3) := by decide +kernel
theorem dX8_isFacts_4 : decode cX8_isFacts 4 = .ok (.aload_n 0, 1) := by decide +kernel
theorem dX8_isFacts_5 : decode cX8_isFacts 5 = .ok (.ldc2_w 116, 3) := by decide +kernel
theorem dX8_isFacts_8 : decode cX8_isFacts 8 = .ok (.invokevirtual 118, 3) := by decide +kernel
theorem dX8_isFacts_11 : decode cX8_isFacts 11 = .ok (.ifCond .ne 9, 3) := by decide +kernel
theorem dX8_isFacts_14 : decode cX8_isFacts 14 = .ok (.aload_n 0, 1) := by decide +kernel
theorem dX8_isFacts_15 : decode cX8_isFacts 15 = .ok (.iconst 1, 1) := by decide +kernel
theorem dX8_isFacts_16 : decode cX8_isFacts 16 = .ok (.invokevirtual 113, 3) := by decide +kernel
theorem dX8_isFacts_19 : decode cX8_isFacts 19 = .ok (.ireturn, 1) := by decide +kernel
theorem dX8_isFacts_20 : decode cX8_isFacts 20 = .ok (.aload_n 0, 1) := by decide +kernel
theorem dX8_isFacts_21 : decode cX8_isFacts 21 = .ok (.iconst 0, 1) := by decide +kernel
theorem dX8_isFacts_22 : decode cX8_isFacts 22 = .ok (.sipush 255, 3) := by decide +kernel
theorem dX8_isFacts_25 : decode cX8_isFacts 25 = .ok (.invokevirtual 122, 3) := by decide +kernel
theorem dX8_isFacts_28 : decode cX8_isFacts 28 = .ok (.ifCond .ne 5, 3) := by decide +kernel
theorem dX8_isFacts_31 : decode cX8_isFacts 31 = .ok (.iconst 0, 1) := by decide +kernel
theorem dX8_isFacts_32 : decode cX8_isFacts 32 = .ok (.ireturn, 1) := by decide +kernel
theorem dX8_isFacts_33 : decode cX8_isFacts 33 = .ok (.aload_n 0, 1) := by decide +kernel
theorem dX8_isFacts_34 : decode cX8_isFacts 34 = .ok (.getfield 25, 3) := by decide +kernel
theorem dX8_isFacts_37 : decode cX8_isFacts 37 = .ok (.iconst 1, 1) := by decide +kernel
theorem dX8_isFacts_38 : decode cX8_isFacts 38 = .ok (.aload_n 0, 1) := by decide +kernel
theorem dX8_isFacts_39 : decode cX8_isFacts 39 = .ok (.getfield 104, 3) := by decide +kernel
theorem dX8_isFacts_42 : decode cX8_isFacts 42 = .ok (.iastore, 1) := by decide +kernel
theorem dX8_isFacts_43 : decode cX8_isFacts 43 = .ok (.aload_n 0, 1) := by decide +kernel
theorem dX8_isFacts_44 : decode cX8_isFacts 44 = .ok (.bipush 8, 2) := by decide +kernel
theorem dX8_isFacts_46 : decode cX8_isFacts 46 = .ok (.bipush 15, 2) := by decide +kernel
theorem dX8_isFacts_48 : decode cX8_isFacts 48 = .ok (.invokevirtual 122, 3) := by decide +kernel
theorem dX8_isFacts_51 : decode cX8_isFacts 51 = .ok (.ifCond .ne 5, 3) := by decide +kernel
theorem dX8_isFacts_54 : decode cX8_isFacts 54 = .ok (.iconst 0, 1) := by decide +kernel
theorem dX8_isFacts_55 : decode cX8_isFacts 55 = .ok (.ireturn, 1) := by decide +kernel
theorem dX8_isFacts_56 : decode cX8_isFacts 56 = .ok (.aload_n 0, 1) := by decide +kernel
theorem dX8_isFacts_57 : decode cX8_isFacts 57 = .ok (.getfield 25, 3) := by decide +kernel
theorem dX8_isFacts_60 : decode cX8_isFacts 60 = .ok (.iconst 2, 1) := by decide +kernel
theorem dX8_isFacts_61 : decode cX8_isFacts 61 = .ok (.aload_n 0, 1) := by decide +kernel
theorem dX8_isFacts_62 : decode cX8_isFacts 62 = .ok (.getfield 104, 3) := by decide +kernel
theorem dX8_isFacts_65 : decode cX8_isFacts 65 = .ok (.iastore, 1) := by decide +kernel
theorem dX8_isFacts_66 : decode cX8_isFacts 66 = .ok (.aload_n 0, 1) := by decide +kernel
theorem dX8_isFacts_67 : decode cX8_isFacts 67 = .ok (.invokevirtual 126, 3) := by decide +kernel
theorem dX8_isFacts_70 : decode cX8_isFacts 70 = .ok (.ireturn, 1) := by decide +kernel
theorem dX8_isWall_0 : decode cX8_isWall 0 = .ok (.aload_n 0, 1) := by decide +kernel
theorem dX8_isWall_1 : decode cX8_isWall 1 = .ok (.iconst 0, 1) := by decide +kernel
theorem dX8_isWall_2 : decode cX8_isWall 2 = .ok (.bipush 15, 2) := by decide +kernel
theorem dX8_isWall_4 : decode cX8_isWall 4 = .ok (.invokevirtual 122, 3) := by decide +kernel
theorem dX8_isWall_7 : decode cX8_isWall 7 = .ok (.ifCond .ne 5, 3) := by decide +kernel
theorem dX8_isWall_10 : decode cX8_isWall 10 = .ok (.iconst 0, 1) := by decide +kernel
theorem dX8_isWall_11 : decode cX8_isWall 11 = .ok (.ireturn, 1) := by decide +kernel
theorem dX8_isWall_12 : decode cX8_isWall 12 = .ok (.aload_n 0, 1) := by decide +kernel
theorem dX8_isWall_13 : decode cX8_isWall 13 = .ok (.getfield 104, 3) := by decide +kernel
theorem dX8_isWall_16 : decode cX8_isWall 16 = .ok (.istore_n 1, 1) := by decide +kernel
theorem dX8_isWall_17 : decode cX8_isWall 17 = .ok (.aload_n 0, 1) := by decide +kernel
theorem dX8_isWall_18 : decode cX8_isWall 18 = .ok (.iconst 0, 1) := by decide +kernel
theorem dX8_isWall_19 : decode cX8_isWall 19 = .ok (.bipush 7, 2) := by decide +kernel
theorem dX8_isWall_21 : decode cX8_isWall 21 = .ok (.invokevirtual 122, 3) := by decide +kernel
theorem dX8_isWall_24 : decode cX8_isWall 24 = .ok (.ifCond .ne 5, 3) := by decide +kernel
theorem dX8_isWall_27 : decode cX8_isWall 27 = .ok (.iconst 0, 1) := by decide +kernel
theorem dX8_isWall_28 : decode cX8_isWall 28 = .ok (.ireturn, 1) := by decide +kernel
theorem dX8_isWall_29 : decode cX8_isWall 29 = .ok (.bipush 40, 2) := by decide +kernel
theorem dX8_isWall_31 : decode cX8_isWall 31 = .ok (.iload_n 1, 1) := by decide +kernel
theorem dX8_isWall_32 : decode cX8_isWall 32 = .ok (.iadd, 1) := by decide +kernel
theorem dX8_isWall_33 : decode cX8_isWall 33 = .ok (.bipush 16, 2) := by decide +kernel
theorem dX8_isWall_35 : decode cX8_isWall 35 = .ok (.aload_n 0, 1) := by decide +kernel
theorem dX8_isWall_36 : decode cX8_isWall 36 = .ok (.getfield 104, 3) := by decide +kernel
theorem dX8_isWall_39 : decode cX8_isWall 39 = .ok (.imul, 1) := by decide +kernel
theorem dX8_isWall_40 : decode cX8_isWall 40 = .ok (.iadd, 1) := by decide +kernel
theorem dX8_isWall_41 : decode cX8_isWall 41 = .ok (.istore_n 2, 1) := by decide +kernel
theorem dX8_isWall_42 : decode cX8_isWall 42 = .ok (.aload_n 0, 1) := by decide +kernel
theorem dX8_isWall_43 : decode cX8_isWall 43 = .ok (.getfield 25, 3) := by decide +kernel
theorem dX8_isWall_46 : decode cX8_isWall 46 = .ok (.iload_n 2, 1) := by decide +kernel
theorem dX8_isWall_47 : decode cX8_isWall 47 = .ok (.aload_n 0, 1) := by decide +kernel
theorem dX8_isWall_48 : decode cX8_isWall 48 = .ok (.getfield 25, 3) := by decide +kernel
theorem dX8_isWall_51 : decode cX8_isWall 51 = .ok (.iload_n 2, 1) := by decide +kernel
theorem dX8_isWall_52 : decode cX8_isWall 52 = .ok (.iaload, 1) := by decide +kernel
theorem dX8_isWall_53 : decode cX8_isWall 53 = .ok (.iconst 1, 1) := by decide +kernel
theorem dX8_isWall_54 : decode cX8_isWall 54 = .ok (.ior, 1) := by decide +kernel
theorem dX8_isWall_55 : decode cX8_isWall 55 = .ok (.iastore, 1) := by decide +kernel
theorem dX8_isWall_56 : decode cX8_isWall 56 = .ok (.aload_n 0, 1) := by decide +kernel
theorem dX8_isWall_57 : decode cX8_isWall 57 = .ok (.invokevirtual 126, 3) := by decide +kernel
theorem dX8_isWall_60 : decode cX8_isWall 60 = .ok (.ireturn, 1) := by decide +kernel
theorem dX8_isPath_0 : decode cX8_isPath 0 = .ok (.aload_n 0, 1) := by decide +kernel
theorem dX8_isPath_1 : decode cX8_isPath 1 = .ok (.iconst 0, 1) := by decide +kernel
theorem dX8_isPath_2 : decode cX8_isPath 2 = .ok (.bipush 7, 2) := by decide +kernel
theorem dX8_isPath_4 : decode cX8_isPath 4 = .ok (.invokevirtual 122, 3) := by decide +kernel
theorem dX8_isPath_7 : decode cX8_isPath 7 = .ok (.ifCond .ne 5, 3) := by decide +kernel
theorem dX8_isPath_10 : decode cX8_isPath 10 = .ok (.iconst 0, 1) := by decide +kernel
theorem dX8_isPath_11 : decode cX8_isPath 11 = .ok (.ireturn, 1) := by decide +kernel
theorem dX8_isPath_12 : decode cX8_isPath 12 = .ok (.aload_n 0, 1) := by decide +kernel
theorem dX8_isPath_13 : decode cX8_isPath 13 = .ok (.getfield 104, 3) := by decide +kernel
theorem dX8_isPath_16 : decode cX8_isPath 16 = .ok (.istore_n 1, 1) := by decide +kernel
theorem dX8_isPath_17 : decode cX8_isPath 17 = .ok (.aload_n 0, 1) := by decide +kernel
theorem dX8_isPath_18 : decode cX8_isPath 18 = .ok (.iconst 0, 1) := by decide +kernel
theorem dX8_isPath_19 : decode cX8_isPath 19 = .ok (.bipush 15, 2) := by decide +kernel
theorem dX8_isPath_21 : decode cX8_isPath 21 = .ok (.invokevirtual 122, 3) := by decide +kernel
theorem dX8_isPath_24 : decode cX8_isPath 24 = .ok (.ifCond .ne 5, 3) := by decide +kernel
theorem dX8_isPath_27 : decode cX8_isPath 27 = .ok (.iconst 0, 1) := by decide +kernel
theorem dX8_isPath_28 : decode cX8_isPath 28 = .ok (.ireturn, 1) := by decide +kernel
theorem dX8_isPath_29 : decode cX8_isPath 29 = .ok (.aload_n 0, 1) := by decide +kernel
theorem dX8_isPath_30 : decode cX8_isPath 30 = .ok (.getfield 104, 3) := by decide +kernel
theorem dX8_isPath_33 : decode cX8_isPath 33 = .ok (.istore_n 2, 1) := by decide +kernel
theorem dX8_isPath_34 : decode cX8_isPath 34 = .ok (.aload_n 0, 1) := by decide +kernel
theorem dX8_isPath_35 : decode cX8_isPath 35 = .ok (.iload_n 2, 1) := by decide +kernel
theorem dX8_isPath_36 : decode cX8_isPath 36 = .ok (.bipush 15, 2) := by decide +kernel
theorem dX8_isPath_38 : decode cX8_isPath 38 = .ok (.invokevirtual 122, 3) := by decide +kernel
theorem dX8_isPath_41 : decode cX8_isPath 41 = .ok (.ifCond .ne 5, 3) := by decide +kernel
theorem dX8_isPath_44 : decode cX8_isPath 44 = .ok (.iconst 0, 1) := by decide +kernel
theorem dX8_isPath_45 : decode cX8_isPath 45 = .ok (.ireturn, 1) := by decide +kernel
theorem dX8_isPath_46 : decode cX8_isPath 46 = .ok (.iload_n 2, 1) := by decide +kernel
theorem dX8_isPath_47 : decode cX8_isPath 47 = .ok (.istore_n 3, 1) := by decide +kernel
theorem dX8_isPath_48 : decode cX8_isPath 48 = .ok (.iload_n 3, 1) := by decide +kernel
theorem dX8_isPath_49 : decode cX8_isPath 49 = .ok (.aload_n 0, 1) := by decide +kernel
theorem dX8_isPath_50 : decode cX8_isPath 50 = .ok (.getfield 104, 3) := by decide +kernel
theorem dX8_isPath_53 : decode cX8_isPath 53 = .ok (.if_icmp .gt 39, 3) := by decide +kernel
theorem dX8_isPath_56 : decode cX8_isPath 56 = .ok (.aload_n 0, 1) := by decide +kernel
theorem dX8_isPath_57 : decode cX8_isPath 57 = .ok (.getfield 25, 3) := by decide +kernel
theorem dX8_isPath_60 : decode cX8_isPath 60 = .ok (.bipush 40, 2) := by decide +kernel
theorem dX8_isPath_62 : decode cX8_isPath 62 = .ok (.iload_n 3, 1) := by decide +kernel
theorem dX8_isPath_63 : decode cX8_isPath 63 = .ok (.iadd, 1) := by decide +kernel
theorem dX8_isPath_64 : decode cX8_isPath 64 = .ok (.bipush 16, 2) := by decide +kernel
theorem dX8_isPath_66 : decode cX8_isPath 66 = .ok (.iload_n 1, 1) := by decide +kernel
theorem dX8_isPath_67 : decode cX8_isPath 67 = .ok (.imul, 1) := by decide +kernel
theorem dX8_isPath_68 : decode cX8_isPath 68 = .ok (.iadd, 1) := by decide +kernel
theorem dX8_isPath_69 : decode cX8_isPath 69 = .ok (.aload_n 0, 1) := by decide +kernel
theorem dX8_isPath_70 : decode cX8_isPath 70 = .ok (.getfield 25, 3) := by decide +kernel
theorem dX8_isPath_73 : decode cX8_isPath 73 = .ok (.bipush 40, 2) := by decide +kernel
theorem dX8_isPath_75 : decode cX8_isPath 75 = .ok (.iload_n 3, 1) := by decide +kernel
theorem dX8_isPath_76 : decode cX8_isPath 76 = .ok (.iadd, 1) := by decide +kernel
theorem dX8_isPath_77 : decode cX8_isPath 77 = .ok (.bipush 16, 2) := by decide +kernel
theorem dX8_isPath_79 : decode cX8_isPath 79 = .ok (.iload_n 1, 1) := by decide +kernel
theorem dX8_isPath_80 : decode cX8_isPath 80 = .ok (.imul, 1) := by decide +kernel
theorem dX8_isPath_81 : decode cX8_isPath 81 = .ok (.iadd, 1) := by decide +kernel
theorem dX8_isPath_82 : decode cX8_isPath 82 = .ok (.iaload, 1) := by decide +kernel
theorem dX8_isPath_83 : decode cX8_isPath 83 = .ok (.iconst 2, 1) := by decide +kernel
theorem dX8_isPath_84 : decode cX8_isPath 84 = .ok (.ior, 1) := by decide +kernel
theorem dX8_isPath_85 : decode cX8_isPath 85 = .ok (.iastore, 1) := by decide +kernel
theorem dX8_isPath_86 : decode cX8_isPath 86 = .ok (.iinc 3 1, 3) := by decide +kernel
theorem dX8_isPath_89 : decode cX8_isPath 89 = .ok (.goto (-41), 3) := by decide +kernel
theorem dX8_isPath_92 : decode cX8_isPath 92 = .ok (.aload_n 0, 1) := by decide +kernel
theorem dX8_isPath_93 : decode cX8_isPath 93 = .ok (.invokevirtual 126, 3) := by decide +kernel
theorem dX8_isPath_96 : decode cX8_isPath 96 = .ok (.ireturn, 1) := by decide +kernel
theorem dX8_isOf_0 : decode cX8_isOf 0 = .ok (.iload_n 2, 1) := by decide +kernel
theorem dX8_isOf_1 : decode cX8_isOf 1 = .ok (.aload_n 0, 1) := by decide +kernel
theorem dX8_isOf_2 : decode cX8_isOf 2 = .ok (.bipush 10, 2) := by decide +kernel
theorem dX8_isOf_4 : decode cX8_isOf 4 = .ok (.iload_n 1, 1) := by decide +kernel
theorem dX8_isOf_5 : decode cX8_isOf 5 = .ok (.iadd, 1) := by decide +kernel
theorem dX8_isOf_6 : decode cX8_isOf 6 = .ok (.iaload, 1) := by decide +kernel
theorem dX8_isOf_7 : decode cX8_isOf 7 = .ok (.if_icmp .lt 51, 3) := by decide +kernel
theorem dX8_isOf_10 : decode cX8_isOf 10 = .ok (.iload_n 2, 1) := by decide +kernel
theorem dX8_isOf_11 : decode cX8_isOf 11 = .ok (.aload_n 0, 1) := by decide +kernel
theorem dX8_isOf_12 : decode cX8_isOf 12 = .ok (.bipush 10, 2) := by decide +kernel
theorem dX8_isOf_14 : decode cX8_isOf 14 = .ok (.iload_n 1, 1) := by decide +kernel
theorem dX8_isOf_15 : decode cX8_isOf 15 = .ok (.iadd, 1) := by decide +kernel
theorem dX8_isOf_16 : decode cX8_isOf 16 = .ok (.iaload, 1) := by decide +kernel
theorem dX8_isOf_17 : decode cX8_isOf 17 = .ok (.aload_n 0, 1) := by decide +kernel
theorem dX8_isOf_18 : decode cX8_isOf 18 = .ok (.bipush 22, 2) := by decide +kernel
theorem dX8_isOf_20 : decode cX8_isOf 20 = .ok (.iload_n 1, 1) := by decide +kernel
theorem dX8_isOf_21 : decode cX8_isOf 21 = .ok (.iadd, 1) := by decide +kernel
theorem dX8_isOf_22 : decode cX8_isOf 22 = .ok (.iaload, 1) := by decide +kernel
theorem dX8_isOf_23 : decode cX8_isOf 23 = .ok (.iadd, 1) := by decide +kernel
theorem dX8_isOf_24 : decode cX8_isOf 24 = .ok (.if_icmp .ge 34, 3) := by decide +kernel
theorem dX8_isOf_27 : decode cX8_isOf 27 = .ok (.iload_n 3, 1) := by decide +kernel
theorem dX8_isOf_28 : decode cX8_isOf 28 = .ok (.aload_n 0, 1) := by decide +kernel
theorem dX8_isOf_29 : decode cX8_isOf 29 = .ok (.bipush 16, 2) := by decide +kernel
theorem dX8_isOf_31 : decode cX8_isOf 31 = .ok (.iload_n 1, 1) := by decide +kernel
theorem dX8_isOf_32 : decode cX8_isOf 32 = .ok (.iadd, 1) := by decide +kernel
theorem dX8_isOf_33 : decode cX8_isOf 33 = .ok (.iaload, 1) := by decide +kernel
theorem dX8_isOf_34 : decode cX8_isOf 34 = .ok (.if_icmp .lt 24, 3) := by decide +kernel
theorem dX8_isOf_37 : decode cX8_isOf 37 = .ok (.iload_n 3, 1) := by decide +kernel
theorem dX8_isOf_38 : decode cX8_isOf 38 = .ok (.aload_n 0, 1) := by decide +kernel
theorem dX8_isOf_39 : decode cX8_isOf 39 = .ok (.bipush 16, 2) := by decide +kernel
theorem dX8_isOf_41 : decode cX8_isOf 41 = .ok (.iload_n 1, 1) := by decide +kernel
theorem dX8_isOf_42 : decode cX8_isOf 42 = .ok (.iadd, 1) := by decide +kernel
theorem dX8_isOf_43 : decode cX8_isOf 43 = .ok (.iaload, 1) := by decide +kernel
theorem dX8_isOf_44 : decode cX8_isOf 44 = .ok (.aload_n 0, 1) := by decide +kernel
theorem dX8_isOf_45 : decode cX8_isOf 45 = .ok (.bipush 28, 2) := by decide +kernel
theorem dX8_isOf_47 : decode cX8_isOf 47 = .ok (.iload_n 1, 1) := by decide +kernel
theorem dX8_isOf_48 : decode cX8_isOf 48 = .ok (.iadd, 1) := by decide +kernel
theorem dX8_isOf_49 : decode cX8_isOf 49 = .ok (.iaload, 1) := by decide +kernel
theorem dX8_isOf_50 : decode cX8_isOf 50 = .ok (.iadd, 1) := by decide +kernel
theorem dX8_isOf_51 : decode cX8_isOf 51 = .ok (.if_icmp .ge 7, 3) := by decide +kernel
theorem dX8_isOf_54 : decode cX8_isOf 54 = .ok (.iconst 1, 1) := by decide +kernel
theorem dX8_isOf_55 : decode cX8_isOf 55 = .ok (.goto 4, 3) := by decide +kernel
theorem dX8_isOf_58 : decode cX8_isOf 58 = .ok (.iconst 0, 1) := by decide +kernel
theorem dX8_isOf_59 : decode cX8_isOf 59 = .ok (.ireturn, 1) := by decide +kernel
theorem dX8_houseAt_0 : decode cX8_houseAt 0 = .ok (.iconst 0, 1) := by decide +kernel
theorem dX8_houseAt_1 : decode cX8_houseAt 1 = .ok (.istore_n 3, 1) := by decide +kernel
theorem dX8_houseAt_2 : decode cX8_houseAt 2 = .ok (.iload_n 3, 1) := by decide +kernel
theorem dX8_houseAt_3 : decode cX8_houseAt 3 = .ok (.aload_n 0, 1) := by decide +kernel
theorem dX8_houseAt_4 : decode cX8_houseAt 4 = .ok (.iconst 3, 1) := by decide +kernel
theorem dX8_houseAt_5 : decode cX8_houseAt 5 = .ok (.iaload, 1) := by decide +kernel
theorem dX8_houseAt_6 : decode cX8_houseAt 6 = .ok (.if_icmp .ge 21, 3) := by decide +kernel
theorem dX8_houseAt_9 : decode cX8_houseAt 9 = .ok (.aload_n 0, 1) := by decide +kernel
theorem dX8_houseAt_10 : decode cX8_houseAt 10 = .ok (.iload_n 3, 1) := by decide +kernel
theorem dX8_houseAt_11 : decode cX8_houseAt 11 = .ok (.iload_n 1, 1) := by decide +kernel
theorem dX8_houseAt_12 : decode cX8_houseAt 12 = .ok (.iload_n 2, 1) := by decide +kernel
theorem dX8_houseAt_13 : decode cX8_houseAt 13 = .ok (.invokestatic 130, 3) := by decide +kernel
theorem dX8_houseAt_16 : decode cX8_houseAt 16 = .ok (.ifCond .eq 5, 3) := by decide +kernel
theorem dX8_houseAt_19 : decode cX8_houseAt 19 = .ok (.iload_n 3, 1) := by decide +kernel
theorem dX8_houseAt_20 : decode cX8_houseAt 20 = .ok (.ireturn, 1) := by decide +kernel
theorem dX8_houseAt_21 : decode cX8_houseAt 21 = .ok (.iinc 3 1, 3) := by decide +kernel
theorem dX8_houseAt_24 : decode cX8_houseAt 24 = .ok (.goto (-22), 3) := by decide +kernel
theorem dX8_houseAt_27 : decode cX8_houseAt 27 = .ok (.ldc 50, 2) := by decide +kernel
theorem dX8_houseAt_29 : decode cX8_houseAt 29 = .ok (.ireturn, 1) := by decide +kernel
theorem dX8_isWallAt_0 : decode cX8_isWallAt 0 = .ok (.aload_n 0, 1) := by decide +kernel
theorem dX8_isWallAt_1 : decode cX8_isWallAt 1 = .ok (.bipush 40, 2) := by decide +kernel
theorem dX8_isWallAt_3 : decode cX8_isWallAt 3 = .ok (.iload_n 1, 1) := by decide +kernel
theorem dX8_isWallAt_4 : decode cX8_isWallAt 4 = .ok (.iadd, 1) := by decide +kernel
theorem dX8_isWallAt_5 : decode cX8_isWallAt 5 = .ok (.bipush 16, 2) := by decide +kernel
theorem dX8_isWallAt_7 : decode cX8_isWallAt 7 = .ok (.iload_n 2, 1) := by decide +kernel
theorem dX8_isWallAt_8 : decode cX8_isWallAt 8 = .ok (.imul, 1) := by decide +kernel
theorem dX8_isWallAt_9 : decode cX8_isWallAt 9 = .ok (.iadd, 1) := by decide +kernel
theorem dX8_isWallAt_10 : decode cX8_isWallAt 10 = .ok (.iaload, 1) := by decide +kernel
theorem dX8_isWallAt_11 : decode cX8_isWallAt 11 = .ok (.iconst 1, 1) := by decide +kernel
theorem dX8_isWallAt_12 : decode cX8_isWallAt 12 = .ok (.iand, 1) := by decide +kernel
theorem dX8_isWallAt_13 : decode cX8_isWallAt 13 = .ok (.iconst 1, 1) := by decide +kernel
theorem dX8_isWallAt_14 : decode cX8_isWallAt 14 = .ok (.if_icmp .ne 7, 3) := by decide +kernel
theorem dX8_isWallAt_17 : decode cX8_isWallAt 17 = .ok (.iconst 1, 1) := by decide +kernel
theorem dX8_isWallAt_18 : decode cX8_isWallAt 18 = .ok (.goto 4, 3) := by decide +kernel
theorem dX8_isWallAt_21 : decode cX8_isWallAt 21 = .ok (.iconst 0, 1) := by decide +kernel
theorem dX8_isWallAt_22 : decode cX8_isWallAt 22 = .ok (.ireturn, 1) := by decide +kernel
theorem dX8_isHouse_0 : decode cX8_isHouse 0 = .ok (.aload_n 0, 1) := by decide +kernel
theorem dX8_isHouse_1 : decode cX8_isHouse 1 = .ok (.getfield 25, 3) := by decide +kernel
theorem dX8_isHouse_4 : decode cX8_isHouse 4 = .ok (.iconst 3, 1) := by decide +kernel
theorem dX8_isHouse_5 : decode cX8_isHouse 5 = .ok (.iaload, 1) := by decide +kernel
theorem dX8_isHouse_6 : decode cX8_isHouse 6 = .ok (.istore_n 1, 1) := by decide +kernel
theorem dX8_isHouse_7 : decode cX8_isHouse 7 = .ok (.aload_n 0, 1) := by decide +kernel
theorem dX8_isHouse_8 : decode cX8_isHouse 8 = .ok (.invokevirtual 110, 3) := by decide +kernel
theorem dX8_isHouse_11 : decode cX8_isHouse 11 = .ok (.aload_n 0, 1) := by decide +kernel
theorem dX8_isHouse_12 : decode cX8_isHouse 12 = .ok (.ldc2_w 134, 3) := by decide +kernel
theorem dX8_isHouse_15 : decode cX8_isHouse 15 = .ok (.invokevirtual 118, 3) := by decide +kernel
theorem dX8_isHouse_18 : decode cX8_isHouse 18 = .ok (.ifCond .eq 7, 3) := by decide +kernel
theorem dX8_isHouse_21 : decode cX8_isHouse 21 = .ok (.iconst 1, 1) := by decide +kernel
theorem dX8_isHouse_22 : decode cX8_isHouse 22 = .ok (.goto 60, 3) := by decide +kernel
theorem dX8_isHouse_25 : decode cX8_isHouse 25 = .ok (.aload_n 0, 1) := by decide +kernel
theorem dX8_isHouse_26 : decode cX8_isHouse 26 = .ok (.ldc2_w 136, 3) := by decide +kernel
theorem dX8_isHouse_29 : decode cX8_isHouse 29 = .ok (.invokevirtual 118, 3) := by decide +kernel
theorem dX8_isHouse_32 : decode cX8_isHouse 32 = .ok (.ifCond .eq 7, 3) := by decide +kernel
theorem dX8_isHouse_35 : decode cX8_isHouse 35 = .ok (.iconst 2, 1) := by decide +kernel
theorem dX8_isHouse_36 : decode cX8_isHouse 36 = .ok (.goto 46, 3) := by decide +kernel
theorem dX8_isHouse_39 : decode cX8_isHouse 39 = .ok (.aload_n 0, 1) := by decide +kernel
theorem dX8_isHouse_40 : decode cX8_isHouse 40 = .ok (.ldc2_w 138, 3) := by decide +kernel
theorem dX8_isHouse_43 : decode cX8_isHouse 43 = .ok (.invokevirtual 118, 3) := by decide +kernel
theorem dX8_isHouse_46 : decode cX8_isHouse 46 = .ok (.ifCond .eq 7, 3) := by decide +kernel
theorem dX8_isHouse_49 : decode cX8_isHouse 49 = .ok (.iconst 3, 1) := by decide +kernel
theorem dX8_isHouse_50 : decode cX8_isHouse 50 = .ok (.goto 32, 3) := by decide +kernel
theorem dX8_isHouse_53 : decode cX8_isHouse 53 = .ok (.aload_n 0, 1) := by decide +kernel
theorem dX8_isHouse_54 : decode cX8_isHouse 54 = .ok (.ldc2_w 140, 3) := by decide +kernel
theorem dX8_isHouse_57 : decode cX8_isHouse 57 = .ok (.invokevirtual 118, 3) := by decide +kernel
theorem dX8_isHouse_60 : decode cX8_isHouse 60 = .ok (.ifCond .eq 7, 3) := by decide +kernel
theorem dX8_isHouse_63 : decode cX8_isHouse 63 = .ok (.iconst 4, 1) := by decide +kernel
theorem dX8_isHouse_64 : decode cX8_isHouse 64 = .ok (.goto 18, 3) := by decide +kernel
theorem dX8_isHouse_67 : decode cX8_isHouse 67 = .ok (.aload_n 0, 1) := by decide +kernel
theorem dX8_isHouse_68 : decode cX8_isHouse 68 = .ok (.ldc2_w 142, 3) := by decide +kernel
theorem dX8_isHouse_71 : decode cX8_isHouse 71 = .ok (.invokevirtual 118, 3) := by decide +kernel
theorem dX8_isHouse_74 : decode cX8_isHouse 74 = .ok (.ifCond .eq 7, 3) := by decide +kernel
theorem dX8_isHouse_77 : decode cX8_isHouse 77 = .ok (.iconst 5, 1) := by decide +kernel
theorem dX8_isHouse_78 : decode cX8_isHouse 78 = .ok (.goto 4, 3) := by decide +kernel
theorem dX8_isHouse_81 : decode cX8_isHouse 81 = .ok (.iconst 0, 1) := by decide +kernel
theorem dX8_isHouse_82 : decode cX8_isHouse 82 = .ok (.istore_n 2, 1) := by decide +kernel
theorem dX8_isHouse_83 : decode cX8_isHouse 83 = .ok (.iload_n 2, 1) := by decide +kernel
theorem dX8_isHouse_84 : decode cX8_isHouse 84 = .ok (.ifCond .ne 9, 3) := by decide +kernel
theorem dX8_isHouse_87 : decode cX8_isHouse 87 = .ok (.aload_n 0, 1) := by decide +kernel
theorem dX8_isHouse_88 : decode cX8_isHouse 88 = .ok (.iconst 1, 1) := by decide +kernel
theorem dX8_isHouse_89 : decode cX8_isHouse 89 = .ok (.invokevirtual 113, 3) := by decide +kernel
theorem dX8_isHouse_92 : decode cX8_isHouse 92 = .ok (.ireturn, 1) := by decide +kernel
theorem dX8_isHouse_93 : decode cX8_isHouse 93 = .ok (.aload_n 0, 1) := by decide +kernel
theorem dX8_isHouse_94 : decode cX8_isHouse 94 = .ok (.getfield 25, 3) := by decide +kernel
theorem dX8_isHouse_97 : decode cX8_isHouse 97 = .ok (.iconst 4, 1) := by decide +kernel
theorem dX8_isHouse_98 : decode cX8_isHouse 98 = .ok (.iload_n 1, 1) := by decide +kernel
theorem dX8_isHouse_99 : decode cX8_isHouse 99 = .ok (.iadd, 1) := by decide +kernel
theorem dX8_isHouse_100 : decode cX8_isHouse 100 = .ok (.iload_n 2, 1) := by decide +kernel
theorem dX8_isHouse_101 : decode cX8_isHouse 101 = .ok (.iastore, 1) := by decide +kernel
theorem dX8_isHouse_102 : decode cX8_isHouse 102 = .ok (.aload_n 0, 1) := by decide +kernel
theorem dX8_isHouse_103 : decode cX8_isHouse 103 = .ok (.getfield 25, 3) := by decide +kernel
theorem dX8_isHouse_106 : decode cX8_isHouse 106 = .ok (.bipush 34, 2) := by decide +kernel
theorem dX8_isHouse_108 : decode cX8_isHouse 108 = .ok (.iload_n 1, 1) := by decide +kernel
theorem dX8_isHouse_109 : decode cX8_isHouse 109 = .ok (.iadd, 1) := by decide +kernel
theorem dX8_isHouse_110 : decode cX8_isHouse 110 = .ok (.iconst 0, 1) := by decide +kernel
theorem dX8_isHouse_111 : decode cX8_isHouse 111 = .ok (.iastore, 1) := by decide +kernel
theorem dX8_isHouse_112 : decode cX8_isHouse 112 = .ok (.iconst 0, 1) := by decide +kernel
theorem dX8_isHouse_113 : decode cX8_isHouse 113 = .ok (.istore_n 3, 1) := by decide +kernel
theorem dX8_isHouse_114 : decode cX8_isHouse 114 = .ok (.iload_n 3, 1) := by decide +kernel
theorem dX8_isHouse_115 : decode cX8_isHouse 115 = .ok (.iconst 4, 1) := by decide +kernel
theorem dX8_isHouse_116 : decode cX8_isHouse 116 = .ok (.if_icmp .ge 75, 3) := by decide +kernel
theorem dX8_isHouse_119 : decode cX8_isHouse 119 = .ok (.aload_n 0, 1) := by decide +kernel
theorem dX8_isHouse_120 : decode cX8_isHouse 120 = .ok (.iload_n 3, 1) := by decide +kernel
theorem dX8_isHouse_121 : decode cX8_isHouse 121 = .ok (.iconst 2, 1) := by decide +kernel
theorem dX8_isHouse_122 : decode cX8_isHouse 122 = .ok (.if_icmp .ge 7, 3) := by decide +kernel
theorem dX8_isHouse_125 : decode cX8_isHouse 125 = .ok (.iconst 0, 1) := by decide +kernel
theorem dX8_isHouse_126 : decode cX8_isHouse 126 = .ok (.goto 4, 3) := by decide +kernel
theorem dX8_isHouse_129 : decode cX8_isHouse 129 = .ok (.iconst 1, 1) := by decide +kernel
theorem dX8_isHouse_130 : decode cX8_isHouse 130 = .ok (.iload_n 3, 1) := by decide +kernel
theorem dX8_isHouse_131 : decode cX8_isHouse 131 = .ok (.ifCond .ne 8, 3) := by decide +kernel
theorem dX8_isHouse_134 : decode cX8_isHouse 134 = .ok (.bipush 15, 2) := by decide +kernel
theorem dX8_isHouse_136 : decode cX8_isHouse 136 = .ok (.goto 23, 3) := by decide +kernel
theorem dX8_isHouse_139 : decode cX8_isHouse 139 = .ok (.iload_n 3, 1) := by decide +kernel
theorem dX8_isHouse_140 : decode cX8_isHouse 140 = .ok (.iconst 1, 1) := by decide +kernel
theorem dX8_isHouse_141 : decode cX8_isHouse 141 = .ok (.if_icmp .ne 8, 3) := by decide +kernel
theorem dX8_isHouse_144 : decode cX8_isHouse 144 = .ok (.bipush 7, 2) := by decide +kernel
theorem dX8_isHouse_146 : decode cX8_isHouse 146 = .ok (.goto 13, 3) := by decide +kernel
theorem dX8_isHouse_149 : decode cX8_isHouse 149 = .ok (.iload_n 3, 1) := by decide +kernel
theorem dX8_isHouse_150 : decode cX8_isHouse 150 = .ok (.iconst 2, 1) := by decide +kernel
theorem dX8_isHouse_151 : decode cX8_isHouse 151 = .ok (.if_icmp .ne 7, 3) := by decide +kernel
theorem dX8_isHouse_154 : decode cX8_isHouse 154 = .ok (.iconst 4, 1) := by decide +kernel
theorem dX8_isHouse_155 : decode cX8_isHouse 155 = .ok (.goto 4, 3) := by decide +kernel
theorem dX8_isHouse_158 : decode cX8_isHouse 158 = .ok (.iconst 3, 1) := by decide +kernel
theorem dX8_isHouse_159 : decode cX8_isHouse 159 = .ok (.invokevirtual 122, 3) := by decide +kernel
theorem dX8_isHouse_162 : decode cX8_isHouse 162 = .ok (.ifCond .ne 5, 3) := by decide +kernel
theorem dX8_isHouse_165 : decode cX8_isHouse 165 = .ok (.iconst 0, 1) := by decide +kernel
theorem dX8_isHouse_166 : decode cX8_isHouse 166 = .ok (.ireturn, 1) := by decide +kernel
theorem dX8_isHouse_167 : decode cX8_isHouse 167 = .ok (.aload_n 0, 1) := by decide +kernel
theorem dX8_isHouse_168 : decode cX8_isHouse 168 = .ok (.getfield 25, 3) := by decide +kernel
theorem dX8_isHouse_171 : decode cX8_isHouse 171 = .ok (.bipush 10, 2) := by decide +kernel
theorem dX8_isHouse_173 : decode cX8_isHouse 173 = .ok (.bipush 6, 2) := by decide +kernel
theorem dX8_isHouse_175 : decode cX8_isHouse 175 = .ok (.iload_n 3, 1) := by decide +kernel
theorem dX8_isHouse_176 : decode cX8_isHouse 176 = .ok (.imul, 1) := by decide +kernel
theorem dX8_isHouse_177 : decode cX8_isHouse 177 = .ok (.iadd, 1) := by decide +kernel
theorem dX8_isHouse_178 : decode cX8_isHouse 178 = .ok (.iload_n 1, 1) := by decide +kernel
theorem dX8_isHouse_179 : decode cX8_isHouse 179 = .ok (.iadd, 1) := by decide +kernel
theorem dX8_isHouse_180 : decode cX8_isHouse 180 = .ok (.aload_n 0, 1) := by decide +kernel
theorem dX8_isHouse_181 : decode cX8_isHouse 181 = .ok (.getfield 104, 3) := by decide +kernel
theorem dX8_isHouse_184 : decode cX8_isHouse 184 = .ok (.iastore, 1) := by decide +kernel
theorem dX8_isHouse_185 : decode cX8_isHouse 185 = .ok (.iinc 3 1, 3) := by decide +kernel
theorem dX8_isHouse_188 : decode cX8_isHouse 188 = .ok (.goto (-74), 3) := by decide +kernel
theorem dX8_isHouse_191 : decode cX8_isHouse 191 = .ok (.aload_n 0, 1) := by decide +kernel
theorem dX8_isHouse_192 : decode cX8_isHouse 192 = .ok (.getfield 25, 3) := by decide +kernel
theorem dX8_isHouse_195 : decode cX8_isHouse 195 = .ok (.bipush 10, 2) := by decide +kernel
theorem dX8_isHouse_197 : decode cX8_isHouse 197 = .ok (.iload_n 1, 1) := by decide +kernel
theorem dX8_isHouse_198 : decode cX8_isHouse 198 = .ok (.iadd, 1) := by decide +kernel
theorem dX8_isHouse_199 : decode cX8_isHouse 199 = .ok (.iaload, 1) := by decide +kernel
theorem dX8_isHouse_200 : decode cX8_isHouse 200 = .ok (.istore_n 3, 1) := by decide +kernel
theorem dX8_isHouse_201 : decode cX8_isHouse 201 = .ok (.iload_n 3, 1) := by decide +kernel
theorem dX8_isHouse_202 : decode cX8_isHouse 202 = .ok (.aload_n 0, 1) := by decide +kernel
theorem dX8_isHouse_203 : decode cX8_isHouse 203 = .ok (.getfield 25, 3) := by decide +kernel
theorem dX8_isHouse_206 : decode cX8_isHouse 206 = .ok (.bipush 10, 2) := by decide +kernel
theorem dX8_isHouse_208 : decode cX8_isHouse 208 = .ok (.iload_n 1, 1) := by decide +kernel
theorem dX8_isHouse_209 : decode cX8_isHouse 209 = .ok (.iadd, 1) := by decide +kernel
theorem dX8_isHouse_210 : decode cX8_isHouse 210 = .ok (.iaload, 1) := by decide +kernel
theorem dX8_isHouse_211 : decode cX8_isHouse 211 = .ok (.aload_n 0, 1) := by decide +kernel
theorem dX8_isHouse_212 : decode cX8_isHouse 212 = .ok (.getfield 25, 3) := by decide +kernel
theorem dX8_isHouse_215 : decode cX8_isHouse 215 = .ok (.bipush 22, 2) := by decide +kernel
theorem dX8_isHouse_217 : decode cX8_isHouse 217 = .ok (.iload_n 1, 1) := by decide +kernel
theorem dX8_isHouse_218 : decode cX8_isHouse 218 = .ok (.iadd, 1) := by decide +kernel
theorem dX8_isHouse_219 : decode cX8_isHouse 219 = .ok (.iaload, 1) := by decide +kernel
theorem dX8_isHouse_220 : decode cX8_isHouse 220 = .ok (.iadd, 1) := by decide +kernel
theorem dX8_isHouse_221 : decode cX8_isHouse 221 = .ok (.if_icmp .ge 97, 3) := by decide +kernel
theorem dX8_isHouse_224 : decode cX8_isHouse 224 = .ok (.aload_n 0, 1) := by decide +kernel
theorem dX8_isHouse_225 : decode cX8_isHouse 225 = .ok (.getfield 25, 3) := by decide +kernel
theorem dX8_isHouse_228 : decode cX8_isHouse 228 = .ok (.bipush 16, 2) := by decide +kernel
theorem dX8_isHouse_230 : decode cX8_isHouse 230 = .ok (.iload_n 1, 1) := by decide +kernel
theorem dX8_isHouse_231 : decode cX8_isHouse 231 = .ok (.iadd, 1) := by decide +kernel
theorem dX8_isHouse_232 : decode cX8_isHouse 232 = .ok (.iaload, 1) := by decide +kernel
theorem dX8_isHouse_233 : decode cX8_isHouse 233 = .ok (.istore 4, 2) := by decide +kernel
theorem dX8_isHouse_235 : decode cX8_isHouse 235 = .ok (.iload 4, 2) := by decide +kernel
theorem dX8_isHouse_237 : decode cX8_isHouse 237 = .ok (.aload_n 0, 1) := by decide +kernel
theorem dX8_isHouse_238 : decode cX8_isHouse 238 = .ok (.getfield 25, 3) := by decide +kernel
theorem dX8_isHouse_241 : decode cX8_isHouse 241 = .ok (.bipush 16, 2) := by decide +kernel
theorem dX8_isHouse_243 : decode cX8_isHouse 243 = .ok (.iload_n 1, 1) := by decide +kernel
theorem dX8_isHouse_244 : decode cX8_isHouse 244 = .ok (.iadd, 1) := by decide +kernel
theorem dX8_isHouse_245 : decode cX8_isHouse 245 = .ok (.iaload, 1) := by decide +kernel
theorem dX8_isHouse_246 : decode cX8_isHouse 246 = .ok (.aload_n 0, 1) := by decide +kernel
theorem dX8_isHouse_247 : decode cX8_isHouse 247 = .ok (.getfield 25, 3) := by decide +kernel
theorem dX8_isHouse_250 : decode cX8_isHouse 250 = .ok (.bipush 28, 2) := by decide +kernel
theorem dX8_isHouse_252 : decode cX8_isHouse 252 = .ok (.iload_n 1, 1) := by decide +kernel
theorem dX8_isHouse_253 : decode cX8_isHouse 253 = .ok (.iadd, 1) := by decide +kernel
theorem dX8_isHouse_254 : decode cX8_isHouse 254 = .ok (.iaload, 1) := by decide +kernel
theorem dX8_isHouse_255 : decode cX8_isHouse 255 = .ok (.iadd, 1) := by decide +kernel
theorem dX8_isHouse_256 : decode cX8_isHouse 256 = .ok (.if_icmp .ge 56, 3) := by decide +kernel
theorem dX8_isHouse_259 : decode cX8_isHouse 259 = .ok (.iload_n 3, 1) := by decide +kernel
theorem dX8_isHouse_260 : decode cX8_isHouse 260 = .ok (.bipush 15, 2) := by decide +kernel
theorem dX8_isHouse_262 : decode cX8_isHouse 262 = .ok (.if_icmp .gt 38, 3) := by decide +kernel
theorem dX8_isHouse_265 : decode cX8_isHouse 265 = .ok (.iload 4, 2) := by decide +kernel
theorem dX8_isHouse_267 : decode cX8_isHouse 267 = .ok (.bipush 7, 2) := by decide +kernel
theorem dX8_isHouse_269 : decode cX8_isHouse 269 = .ok (.if_icmp .gt 31, 3) := by decide +kernel
theorem dX8_isHouse_272 : decode cX8_isHouse 272 = .ok (.aload_n 0, 1) := by decide +kernel
theorem dX8_isHouse_273 : decode cX8_isHouse 273 = .ok (.getfield 25, 3) := by decide +kernel
theorem dX8_isHouse_276 : decode cX8_isHouse 276 = .ok (.iload_n 3, 1) := by decide +kernel
theorem dX8_isHouse_277 : decode cX8_isHouse 277 = .ok (.iload 4, 2) := by decide +kernel
theorem dX8_isHouse_279 : decode cX8_isHouse 279 = .ok (.invokestatic 144, 3) := by decide +kernel
theorem dX8_isHouse_282 : decode cX8_isHouse 282 = .ok (.ifCond .ne 18, 3) := by decide +kernel
theorem dX8_isHouse_285 : decode cX8_isHouse 285 = .ok (.aload_n 0, 1) := by decide +kernel
theorem dX8_isHouse_286 : decode cX8_isHouse 286 = .ok (.getfield 25, 3) := by decide +kernel
theorem dX8_isHouse_289 : decode cX8_isHouse 289 = .ok (.iload_n 3, 1) := by decide +kernel
theorem dX8_isHouse_290 : decode cX8_isHouse 290 = .ok (.iload 4, 2) := by decide +kernel
theorem dX8_isHouse_292 : decode cX8_isHouse 292 = .ok (.invokestatic 148, 3) := by decide +kernel
theorem dX8_isHouse_295 : decode cX8_isHouse 295 = .ok (.ldc 50, 2) := by decide +kernel
theorem dX8_isHouse_297 : decode cX8_isHouse 297 = .ok (.if_icmp .eq 9, 3) := by decide +kernel
theorem dX8_isHouse_300 : decode cX8_isHouse 300 = .ok (.aload_n 0, 1) := by decide +kernel
theorem dX8_isHouse_301 : decode cX8_isHouse 301 = .ok (.iconst 2, 1) := by decide +kernel
theorem dX8_isHouse_302 : decode cX8_isHouse 302 = .ok (.invokevirtual 113, 3) := by decide +kernel
theorem dX8_isHouse_305 : decode cX8_isHouse 305 = .ok (.ireturn, 1) := by decide +kernel
theorem dX8_isHouse_306 : decode cX8_isHouse 306 = .ok (.iinc 4 1, 3) := by decide +kernel
theorem dX8_isHouse_309 : decode cX8_isHouse 309 = .ok (.goto (-74), 3) := by decide +kernel
theorem dX8_isHouse_312 : decode cX8_isHouse 312 = .ok (.iinc 3 1, 3) := by decide +kernel
theorem dX8_isHouse_315 : decode cX8_isHouse 315 = .ok (.goto (-114), 3) := by decide +kernel
theorem dX8_isHouse_318 : decode cX8_isHouse 318 = .ok (.aload_n 0, 1) := by decide +kernel
theorem dX8_isHouse_319 : decode cX8_isHouse 319 = .ok (.getfield 25, 3) := by decide +kernel
theorem dX8_isHouse_322 : decode cX8_isHouse 322 = .ok (.iconst 3, 1) := by decide +kernel
theorem dX8_isHouse_323 : decode cX8_isHouse 323 = .ok (.dup2, 1) := by decide +kernel
theorem dX8_isHouse_324 : decode cX8_isHouse 324 = .ok (.iaload, 1) := by decide +kernel
theorem dX8_isHouse_325 : decode cX8_isHouse 325 = .ok (.iconst 1, 1) := by decide +kernel
theorem dX8_isHouse_326 : decode cX8_isHouse 326 = .ok (.iadd, 1) := by decide +kernel
theorem dX8_isHouse_327 : decode cX8_isHouse 327 = .ok (.iastore, 1) := by decide +kernel
theorem dX8_isHouse_328 : decode cX8_isHouse 328 = .ok (.aload_n 0, 1) := by decide +kernel
theorem dX8_isHouse_329 : decode cX8_isHouse 329 = .ok (.invokevirtual 126, 3) := by decide +kernel
theorem dX8_isHouse_332 : decode cX8_isHouse 332 = .ok (.ireturn, 1) := by decide +kernel
theorem dX8_areItems_0 : decode cX8_areItems 0 = .ok (.iconst 0, 1) := by decide +kernel
theorem dX8_areItems_1 : decode cX8_areItems 1 = .ok (.istore 5, 2) := by decide +kernel
theorem dX8_areItems_3 : decode cX8_areItems 3 = .ok (.aload_n 0, 1) := by decide +kernel
theorem dX8_areItems_4 : decode cX8_areItems 4 = .ok (.lload_n 2, 1) := by decide +kernel
theorem dX8_areItems_5 : decode cX8_areItems 5 = .ok (.invokevirtual 118, 3) := by decide +kernel
theorem dX8_areItems_8 : decode cX8_areItems 8 = .ok (.ifCond .eq 62, 3) := by decide +kernel
theorem dX8_areItems_11 : decode cX8_areItems 11 = .ok (.iload 5, 2) := by decide +kernel
theorem dX8_areItems_13 : decode cX8_areItems 13 = .ok (.iload 4, 2) := by decide +kernel
theorem dX8_areItems_15 : decode cX8_areItems 15 = .ok (.if_icmp .ne 9, 3) := by decide +kernel
theorem dX8_areItems_18 : decode cX8_areItems 18 = .ok (.aload_n 0, 1) := by decide +kernel
theorem dX8_areItems_19 : decode cX8_areItems 19 = .ok (.iconst 3, 1) := by decide +kernel
theorem dX8_areItems_20 : decode cX8_areItems 20 = .ok (.invokevirtual 113, 3) := by decide +kernel
theorem dX8_areItems_23 : decode cX8_areItems 23 = .ok (.ireturn, 1) := by decide +kernel
theorem dX8_areItems_24 : decode cX8_areItems 24 = .ok (.iinc 5 1, 3) := by decide +kernel
theorem dX8_areItems_27 : decode cX8_areItems 27 = .ok (.iload_n 1, 1) := by decide +kernel
theorem dX8_areItems_28 : decode cX8_areItems 28 = .ok (.ifCond .ne 10, 3) := by decide +kernel
theorem dX8_areItems_31 : decode cX8_areItems 31 = .ok (.aload_n 0, 1) := by decide +kernel
theorem dX8_areItems_32 : decode cX8_areItems 32 = .ok (.invokevirtual 152, 3) := by decide +kernel
theorem dX8_areItems_35 : decode cX8_areItems 35 = .ok (.goto 19, 3) := by decide +kernel
theorem dX8_areItems_38 : decode cX8_areItems 38 = .ok (.iload_n 1, 1) := by decide +kernel
theorem dX8_areItems_39 : decode cX8_areItems 39 = .ok (.iconst 1, 1) := by decide +kernel
theorem dX8_areItems_40 : decode cX8_areItems 40 = .ok (.if_icmp .ne 10, 3) := by decide +kernel
theorem dX8_areItems_43 : decode cX8_areItems 43 = .ok (.aload_n 0, 1) := by decide +kernel
theorem dX8_areItems_44 : decode cX8_areItems 44 = .ok (.invokevirtual 155, 3) := by decide +kernel
theorem dX8_areItems_47 : decode cX8_areItems 47 = .ok (.goto 7, 3) := by decide +kernel
theorem dX8_areItems_50 : decode cX8_areItems 50 = .ok (.aload_n 0, 1) := by decide +kernel
theorem dX8_areItems_51 : decode cX8_areItems 51 = .ok (.invokevirtual 158, 3) := by decide +kernel
theorem dX8_areItems_54 : decode cX8_areItems 54 = .ok (.istore 6, 2) := by decide +kernel
theorem dX8_areItems_56 : decode cX8_areItems 56 = .ok (.iload 6, 2) := by decide +kernel
theorem dX8_areItems_58 : decode cX8_areItems 58 = .ok (.ifCond .ne 5, 3) := by decide +kernel
theorem dX8_areItems_61 : decode cX8_areItems 61 = .ok (.iconst 0, 1) := by decide +kernel
theorem dX8_areItems_62 : decode cX8_areItems 62 = .ok (.ireturn, 1) := by decide +kernel
theorem dX8_areItems_63 : decode cX8_areItems 63 = .ok (.aload_n 0, 1) := by decide +kernel
theorem dX8_areItems_64 : decode cX8_areItems 64 = .ok (.invokevirtual 110, 3) := by decide +kernel
theorem dX8_areItems_67 : decode cX8_areItems 67 = .ok (.goto (-64), 3) := by decide +kernel
theorem dX8_areItems_70 : decode cX8_areItems 70 = .ok (.iconst 1, 1) := by decide +kernel
theorem dX8_areItems_71 : decode cX8_areItems 71 = .ok (.ireturn, 1) := by decide +kernel
theorem dX8_isField_0 : decode cX8_isField 0 = .ok (.iconst 0, 1) := by decide +kernel
theorem dX8_isField_1 : decode cX8_isField 1 = .ok (.istore_n 1, 1) := by decide +kernel
theorem dX8_isField_2 : decode cX8_isField 2 = .ok (.iload_n 1, 1) := by decide +kernel
theorem dX8_isField_3 : decode cX8_isField 3 = .ok (.sipush 168, 3) := by decide +kernel
theorem dX8_isField_6 : decode cX8_isField 6 = .ok (.if_icmp .ge 16, 3) := by decide +kernel
theorem dX8_isField_9 : decode cX8_isField 9 = .ok (.aload_n 0, 1) := by decide +kernel
theorem dX8_isField_10 : decode cX8_isField 10 = .ok (.getfield 25, 3) := by decide +kernel
theorem dX8_isField_13 : decode cX8_isField 13 = .ok (.iload_n 1, 1) := by decide +kernel
theorem dX8_isField_14 : decode cX8_isField 14 = .ok (.iconst 0, 1) := by decide +kernel
theorem dX8_isField_15 : decode cX8_isField 15 = .ok (.iastore, 1) := by decide +kernel
theorem dX8_isField_16 : decode cX8_isField 16 = .ok (.iinc 1 1, 3) := by decide +kernel
theorem dX8_isField_19 : decode cX8_isField 19 = .ok (.goto (-17), 3) := by decide +kernel
theorem dX8_isField_22 : decode cX8_isField 22 = .ok (.aload_n 0, 1) := by decide +kernel
theorem dX8_isField_23 : decode cX8_isField 23 = .ok (.getfield 25, 3) := by decide +kernel
theorem dX8_isField_26 : decode cX8_isField 26 = .ok (.iconst 0, 1) := by decide +kernel
theorem dX8_isField_27 : decode cX8_isField 27 = .ok (.iconst 1, 1) := by decide +kernel
theorem dX8_isField_28 : decode cX8_isField 28 = .ok (.iastore, 1) := by decide +kernel
theorem dX8_isField_29 : decode cX8_isField 29 = .ok (.aload_n 0, 1) := by decide +kernel
theorem dX8_isField_30 : decode cX8_isField 30 = .ok (.iconst 0, 1) := by decide +kernel
theorem dX8_isField_31 : decode cX8_isField 31 = .ok (.putfield 81, 3) := by decide +kernel
theorem dX8_isField_34 : decode cX8_isField 34 = .ok (.aload_n 0, 1) := by decide +kernel
theorem dX8_isField_35 : decode cX8_isField 35 = .ok (.invokevirtual 161, 3) := by decide +kernel
theorem dX8_isField_38 : decode cX8_isField 38 = .ok (.ifCond .ne 5, 3) := by decide +kernel
theorem dX8_isField_41 : decode cX8_isField 41 = .ok (.iconst 0, 1) := by decide +kernel
theorem dX8_isField_42 : decode cX8_isField 42 = .ok (.ireturn, 1) := by decide +kernel
theorem dX8_isField_43 : decode cX8_isField 43 = .ok (.aload_n 0, 1) := by decide +kernel
theorem dX8_isField_44 : decode cX8_isField 44 = .ok (.invokevirtual 110, 3) := by decide +kernel
theorem dX8_isField_47 : decode cX8_isField 47 = .ok (.aload_n 0, 1) := by decide +kernel
theorem dX8_isField_48 : decode cX8_isField 48 = .ok (.iconst 0, 1) := by decide +kernel
theorem dX8_isField_49 : decode cX8_isField 49 = .ok (.ldc2_w 164, 3) := by decide +kernel
theorem dX8_isField_52 : decode cX8_isField 52 = .ok (.bipush 12, 2) := by decide +kernel
theorem dX8_isField_54 : decode cX8_isField 54 = .ok (.invokevirtual 166, 3) := by decide +kernel
theorem dX8_isField_57 : decode cX8_isField 57 = .ok (.ifCond .eq 29, 3) := by decide +kernel
theorem dX8_isField_60 : decode cX8_isField 60 = .ok (.aload_n 0, 1) := by decide +kernel
theorem dX8_isField_61 : decode cX8_isField 61 = .ok (.iconst 1, 1) := by decide +kernel
theorem dX8_isField_62 : decode cX8_isField 62 = .ok (.ldc2_w 170, 3) := by decide +kernel
theorem dX8_isField_65 : decode cX8_isField 65 = .ok (.bipush 8, 2) := by decide +kernel
theorem dX8_isField_67 : decode cX8_isField 67 = .ok (.invokevirtual 166, 3) := by decide +kernel
theorem dX8_isField_70 : decode cX8_isField 70 = .ok (.ifCond .eq 16, 3) := by decide +kernel
theorem dX8_isField_73 : decode cX8_isField 73 = .ok (.aload_n 0, 1) := by decide +kernel
theorem dX8_isField_74 : decode cX8_isField 74 = .ok (.iconst 2, 1) := by decide +kernel
theorem dX8_isField_75 : decode cX8_isField 75 = .ok (.ldc2_w 172, 3) := by decide +kernel
theorem dX8_isField_78 : decode cX8_isField 78 = .ok (.bipush 6, 2) := by decide +kernel
theorem dX8_isField_80 : decode cX8_isField 80 = .ok (.invokevirtual 166, 3) := by decide +kernel
theorem dX8_isField_83 : decode cX8_isField 83 = .ok (.ifCond .ne 5, 3) := by decide +kernel
theorem dX8_isField_86 : decode cX8_isField 86 = .ok (.iconst 0, 1) := by decide +kernel
theorem dX8_isField_87 : decode cX8_isField 87 = .ok (.ireturn, 1) := by decide +kernel
theorem dX8_isField_88 : decode cX8_isField 88 = .ok (.aload_n 0, 1) := by decide +kernel
theorem dX8_isField_89 : decode cX8_isField 89 = .ok (.getfield 91, 3) := by decide +kernel
theorem dX8_isField_92 : decode cX8_isField 92 = .ok (.ifCond .ne 12, 3) := by decide +kernel
theorem dX8_isField_95 : decode cX8_isField 95 = .ok (.aload_n 0, 1) := by decide +kernel
theorem dX8_isField_96 : decode cX8_isField 96 = .ok (.getfield 25, 3) := by decide +kernel
theorem dX8_isField_99 : decode cX8_isField 99 = .ok (.iconst 3, 1) := by decide +kernel
theorem dX8_isField_100 : decode cX8_isField 100 = .ok (.iaload, 1) := by decide +kernel
theorem dX8_isField_101 : decode cX8_isField 101 = .ok (.ifCond .gt 11, 3) := by decide +kernel
theorem dX8_isField_104 : decode cX8_isField 104 = .ok (.aload_n 0, 1) := by decide +kernel
theorem dX8_isField_105 : decode cX8_isField 105 = .ok (.iconst 1, 1) := by decide +kernel
theorem dX8_isField_106 : decode cX8_isField 106 = .ok (.invokevirtual 113, 3) := by decide +kernel
theorem dX8_isField_109 : decode cX8_isField 109 = .ok (.ifCond .eq 7, 3) := by decide +kernel
theorem dX8_isField_112 : decode cX8_isField 112 = .ok (.iconst 1, 1) := by decide +kernel
theorem dX8_isField_113 : decode cX8_isField 113 = .ok (.goto 4, 3) := by decide +kernel
theorem dX8_isField_116 : decode cX8_isField 116 = .ok (.iconst 0, 1) := by decide +kernel
theorem dX8_isField_117 : decode cX8_isField 117 = .ok (.ireturn, 1) := by decide +kernel
theorem dX8_field_0 : decode cX8_field 0 = .ok (.aload_n 0, 1) := by decide +kernel
theorem dX8_field_1 : decode cX8_field 1 = .ok (.invokevirtual 174, 3) := by decide +kernel
theorem dX8_field_4 : decode cX8_field 4 = .ok (.istore_n 1, 1) := by decide +kernel
theorem dX8_field_5 : decode cX8_field 5 = .ok (.aload_n 0, 1) := by decide +kernel
theorem dX8_field_6 : decode cX8_field 6 = .ok (.iconst 0, 1) := by decide +kernel
theorem dX8_field_7 : decode cX8_field 7 = .ok (.putfield 75, 3) := by decide +kernel
theorem dX8_field_10 : decode cX8_field 10 = .ok (.iload_n 1, 1) := by decide +kernel
theorem dX8_field_11 : decode cX8_field 11 = .ok (.ifCond .ne 19, 3) := by decide +kernel
theorem dX8_field_14 : decode cX8_field 14 = .ok (.aload_n 0, 1) := by decide +kernel
theorem dX8_field_15 : decode cX8_field 15 = .ok (.aload_n 0, 1) := by decide +kernel
theorem dX8_field_16 : decode cX8_field 16 = .ok (.getfield 107, 3) := by decide +kernel
theorem dX8_field_19 : decode cX8_field 19 = .ok (.putfield 177, 3) := by decide +kernel
theorem dX8_field_22 : decode cX8_field 22 = .ok (.ldc 180, 2) := by decide +kernel
theorem dX8_field_24 : decode cX8_field 24 = .ok (.aload_n 0, 1) := by decide +kernel
theorem dX8_field_25 : decode cX8_field 25 = .ok (.getfield 88, 3) := by decide +kernel
theorem dX8_field_28 : decode cX8_field 28 = .ok (.isub, 1) := by decide +kernel
theorem dX8_field_29 : decode cX8_field 29 = .ok (.ireturn, 1) := by decide +kernel
theorem dX8_field_30 : decode cX8_field 30 = .ok (.iconst 0, 1) := by decide +kernel
theorem dX8_field_31 : decode cX8_field 31 = .ok (.istore_n 2, 1) := by decide +kernel
theorem dX8_field_32 : decode cX8_field 32 = .ok (.iload_n 2, 1) := by decide +kernel
theorem dX8_field_33 : decode cX8_field 33 = .ok (.sipush 168, 3) := by decide +kernel
theorem dX8_field_36 : decode cX8_field 36 = .ok (.if_icmp .ge 21, 3) := by decide +kernel
theorem dX8_field_39 : decode cX8_field 39 = .ok (.aload_n 0, 1) := by decide +kernel
theorem dX8_field_40 : decode cX8_field 40 = .ok (.getfield 22, 3) := by decide +kernel
theorem dX8_field_43 : decode cX8_field 43 = .ok (.iload_n 2, 1) := by decide +kernel
theorem dX8_field_44 : decode cX8_field 44 = .ok (.aload_n 0, 1) := by decide +kernel
theorem dX8_field_45 : decode cX8_field 45 = .ok (.getfield 25, 3) := by decide +kernel
theorem dX8_field_48 : decode cX8_field 48 = .ok (.iload_n 2, 1) := by decide +kernel
theorem dX8_field_49 : decode cX8_field 49 = .ok (.iaload, 1) := by decide +kernel
theorem dX8_field_50 : decode cX8_field 50 = .ok (.iastore, 1) := by decide +kernel
theorem dX8_field_51 : decode cX8_field 51 = .ok (.iinc 2 1, 3) := by decide +kernel
theorem dX8_field_54 : decode cX8_field 54 = .ok (.goto (-22), 3) := by decide +kernel
theorem dX8_field_57 : decode cX8_field 57 = .ok (.aload_n 0, 1) := by decide +kernel
theorem dX8_field_58 : decode cX8_field 58 = .ok (.iconst 0, 1) := by decide +kernel
theorem dX8_field_59 : decode cX8_field 59 = .ok (.putfield 181, 3) := by decide +kernel
theorem dX8_field_62 : decode cX8_field 62 = .ok (.aload_n 0, 1) := by decide +kernel
theorem dX8_field_63 : decode cX8_field 63 = .ok (.getfield 22, 3) := by decide +kernel
theorem dX8_field_66 : decode cX8_field 66 = .ok (.iconst 3, 1) := by decide +kernel
theorem dX8_field_67 : decode cX8_field 67 = .ok (.iaload, 1) := by decide +kernel
theorem dX8_field_68 : decode cX8_field 68 = .ok (.ireturn, 1) := by decide +kernel
theorem dX8_fault_0 : decode cX8_fault 0 = .ok (.aload_n 0, 1) := by decide +kernel
theorem dX8_fault_1 : decode cX8_fault 1 = .ok (.getfield 177, 3) := by decide +kernel
theorem dX8_fault_4 : decode cX8_fault 4 = .ok (.ireturn, 1) := by decide +kernel
theorem dX8_isThere_0 : decode cX8_isThere 0 = .ok (.iload_n 1, 1) := by decide +kernel
theorem dX8_isThere_1 : decode cX8_isThere 1 = .ok (.iconst 0, 1) := by decide +kernel
theorem dX8_isThere_2 : decode cX8_isThere 2 = .ok (.aload_n 0, 1) := by decide +kernel
theorem dX8_isThere_3 : decode cX8_isThere 3 = .ok (.getfield 22, 3) := by decide +kernel
theorem dX8_isThere_6 : decode cX8_isThere 6 = .ok (.iconst 3, 1) := by decide +kernel
theorem dX8_isThere_7 : decode cX8_isThere 7 = .ok (.iaload, 1) := by decide +kernel
theorem dX8_isThere_8 : decode cX8_isThere 8 = .ok (.iconst 1, 1) := by decide +kernel
theorem dX8_isThere_9 : decode cX8_isThere 9 = .ok (.isub, 1) := by decide +kernel
theorem dX8_isThere_10 : decode cX8_isThere 10 = .ok (.invokestatic 56, 3) := by decide +kernel
theorem dX8_isThere_13 : decode cX8_isThere 13 = .ok (.ireturn, 1) := by decide +kernel
theorem dX8_meetsEast_0 : decode cX8_meetsEast 0 = .ok (.aload_n 0, 1) := by decide +kernel
theorem dX8_meetsEast_1 : decode cX8_meetsEast 1 = .ok (.getfield 22, 3) := by decide +kernel
theorem dX8_meetsEast_4 : decode cX8_meetsEast 4 = .ok (.bipush 10, 2) := by decide +kernel
theorem dX8_meetsEast_6 : decode cX8_meetsEast 6 = .ok (.iload_n 1, 1) := by decide +kernel
theorem dX8_meetsEast_7 : decode cX8_meetsEast 7 = .ok (.iadd, 1) := by decide +kernel
theorem dX8_meetsEast_8 : decode cX8_meetsEast 8 = .ok (.iaload, 1) := by decide +kernel
theorem dX8_meetsEast_9 : decode cX8_meetsEast 9 = .ok (.iconst 1, 1) := by decide +kernel
theorem dX8_meetsEast_10 : decode cX8_meetsEast 10 = .ok (.iadd, 1) := by decide +kernel
theorem dX8_meetsEast_11 : decode cX8_meetsEast 11 = .ok (.istore_n 3, 1) := by decide +kernel
theorem dX8_meetsEast_12 : decode cX8_meetsEast 12 = .ok (.aload_n 0, 1) := by decide +kernel
theorem dX8_meetsEast_13 : decode cX8_meetsEast 13 = .ok (.getfield 22, 3) := by decide +kernel
theorem dX8_meetsEast_16 : decode cX8_meetsEast 16 = .ok (.bipush 10, 2) := by decide +kernel
theorem dX8_meetsEast_18 : decode cX8_meetsEast 18 = .ok (.iload_n 2, 1) := by decide +kernel
theorem dX8_meetsEast_19 : decode cX8_meetsEast 19 = .ok (.iadd, 1) := by decide +kernel
theorem dX8_meetsEast_20 : decode cX8_meetsEast 20 = .ok (.iaload, 1) := by decide +kernel
theorem dX8_meetsEast_21 : decode cX8_meetsEast 21 = .ok (.iload_n 3, 1) := by decide +kernel
theorem dX8_meetsEast_22 : decode cX8_meetsEast 22 = .ok (.aload_n 0, 1) := by decide +kernel
theorem dX8_meetsEast_23 : decode cX8_meetsEast 23 = .ok (.getfield 22, 3) := by decide +kernel
theorem dX8_meetsEast_26 : decode cX8_meetsEast 26 = .ok (.bipush 22, 2) := by decide +kernel
theorem dX8_meetsEast_28 : decode cX8_meetsEast 28 = .ok (.iload_n 1, 1) := by decide +kernel
theorem dX8_meetsEast_29 : decode cX8_meetsEast 29 = .ok (.iadd, 1) := by decide +kernel
theorem dX8_meetsEast_30 : decode cX8_meetsEast 30 = .ok (.iaload, 1) := by decide +kernel
theorem dX8_meetsEast_31 : decode cX8_meetsEast 31 = .ok (.iadd, 1) := by decide +kernel
theorem dX8_meetsEast_32 : decode cX8_meetsEast 32 = .ok (.if_icmp .ge 30, 3) := by decide +kernel
theorem dX8_meetsEast_35 : decode cX8_meetsEast 35 = .ok (.iload_n 3, 1) := by decide +kernel
theorem dX8_meetsEast_36 : decode cX8_meetsEast 36 = .ok (.aload_n 0, 1) := by decide +kernel
theorem dX8_meetsEast_37 : decode cX8_meetsEast 37 = .ok (.getfield 22, 3) := by decide +kernel
theorem dX8_meetsEast_40 : decode cX8_meetsEast 40 = .ok (.bipush 10, 2) := by decide +kernel
theorem dX8_meetsEast_42 : decode cX8_meetsEast 42 = .ok (.iload_n 2, 1) := by decide +kernel
theorem dX8_meetsEast_43 : decode cX8_meetsEast 43 = .ok (.iadd, 1) := by decide +kernel
theorem dX8_meetsEast_44 : decode cX8_meetsEast 44 = .ok (.iaload, 1) := by decide +kernel
theorem dX8_meetsEast_45 : decode cX8_meetsEast 45 = .ok (.aload_n 0, 1) := by decide +kernel
theorem dX8_meetsEast_46 : decode cX8_meetsEast 46 = .ok (.getfield 22, 3) := by decide +kernel
theorem dX8_meetsEast_49 : decode cX8_meetsEast 49 = .ok (.bipush 22, 2) := by decide +kernel
theorem dX8_meetsEast_51 : decode cX8_meetsEast 51 = .ok (.iload_n 2, 1) := by decide +kernel
theorem dX8_meetsEast_52 : decode cX8_meetsEast 52 = .ok (.iadd, 1) := by decide +kernel
theorem dX8_meetsEast_53 : decode cX8_meetsEast 53 = .ok (.iaload, 1) := by decide +kernel
theorem dX8_meetsEast_54 : decode cX8_meetsEast 54 = .ok (.iadd, 1) := by decide +kernel
theorem dX8_meetsEast_55 : decode cX8_meetsEast 55 = .ok (.if_icmp .ge 7, 3) := by decide +kernel
theorem dX8_meetsEast_58 : decode cX8_meetsEast 58 = .ok (.iconst 1, 1) := by decide +kernel
theorem dX8_meetsEast_59 : decode cX8_meetsEast 59 = .ok (.goto 4, 3) := by decide +kernel
theorem dX8_meetsEast_62 : decode cX8_meetsEast 62 = .ok (.iconst 0, 1) := by decide +kernel
theorem dX8_meetsEast_63 : decode cX8_meetsEast 63 = .ok (.istore 4, 2) := by decide +kernel
theorem dX8_meetsEast_65 : decode cX8_meetsEast 65 = .ok (.iload 4, 2) := by decide +kernel
theorem dX8_meetsEast_67 : decode cX8_meetsEast 67 = .ok (.ifCond .eq 69, 3) := by decide +kernel
theorem dX8_meetsEast_70 : decode cX8_meetsEast 70 = .ok (.aload_n 0, 1) := by decide +kernel
theorem dX8_meetsEast_71 : decode cX8_meetsEast 71 = .ok (.getfield 22, 3) := by decide +kernel
theorem dX8_meetsEast_74 : decode cX8_meetsEast 74 = .ok (.bipush 16, 2) := by decide +kernel
theorem dX8_meetsEast_76 : decode cX8_meetsEast 76 = .ok (.iload_n 2, 1) := by decide +kernel
theorem dX8_meetsEast_77 : decode cX8_meetsEast 77 = .ok (.iadd, 1) := by decide +kernel
theorem dX8_meetsEast_78 : decode cX8_meetsEast 78 = .ok (.iaload, 1) := by decide +kernel
theorem dX8_meetsEast_79 : decode cX8_meetsEast 79 = .ok (.aload_n 0, 1) := by decide +kernel
theorem dX8_meetsEast_80 : decode cX8_meetsEast 80 = .ok (.getfield 22, 3) := by decide +kernel
theorem dX8_meetsEast_83 : decode cX8_meetsEast 83 = .ok (.bipush 16, 2) := by decide +kernel
theorem dX8_meetsEast_85 : decode cX8_meetsEast 85 = .ok (.iload_n 1, 1) := by decide +kernel
theorem dX8_meetsEast_86 : decode cX8_meetsEast 86 = .ok (.iadd, 1) := by decide +kernel
theorem dX8_meetsEast_87 : decode cX8_meetsEast 87 = .ok (.iaload, 1) := by decide +kernel
theorem dX8_meetsEast_88 : decode cX8_meetsEast 88 = .ok (.aload_n 0, 1) := by decide +kernel
theorem dX8_meetsEast_89 : decode cX8_meetsEast 89 = .ok (.getfield 22, 3) := by decide +kernel
theorem dX8_meetsEast_92 : decode cX8_meetsEast 92 = .ok (.bipush 28, 2) := by decide +kernel
theorem dX8_meetsEast_94 : decode cX8_meetsEast 94 = .ok (.iload_n 1, 1) := by decide +kernel
theorem dX8_meetsEast_95 : decode cX8_meetsEast 95 = .ok (.iadd, 1) := by decide +kernel
theorem dX8_meetsEast_96 : decode cX8_meetsEast 96 = .ok (.iaload, 1) := by decide +kernel
theorem dX8_meetsEast_97 : decode cX8_meetsEast 97 = .ok (.iadd, 1) := by decide +kernel
theorem dX8_meetsEast_98 : decode cX8_meetsEast 98 = .ok (.if_icmp .ge 38, 3) := by decide +kernel
theorem dX8_meetsEast_101 : decode cX8_meetsEast 101 = .ok (.aload_n 0, 1) := by decide +kernel
theorem dX8_meetsEast_102 : decode cX8_meetsEast 102 = .ok (.getfield 22, 3) := by decide +kernel
theorem dX8_meetsEast_105 : decode cX8_meetsEast 105 = .ok (.bipush 16, 2) := by decide +kernel
theorem dX8_meetsEast_107 : decode cX8_meetsEast 107 = .ok (.iload_n 1, 1) := by decide +kernel
theorem dX8_meetsEast_108 : decode cX8_meetsEast 108 = .ok (.iadd, 1) := by decide +kernel
theorem dX8_meetsEast_109 : decode cX8_meetsEast 109 = .ok (.iaload, 1) := by decide +kernel
theorem dX8_meetsEast_110 : decode cX8_meetsEast 110 = .ok (.aload_n 0, 1) := by decide +kernel
theorem dX8_meetsEast_111 : decode cX8_meetsEast 111 = .ok (.getfield 22, 3) := by decide +kernel
theorem dX8_meetsEast_114 : decode cX8_meetsEast 114 = .ok (.bipush 16, 2) := by decide +kernel
theorem dX8_meetsEast_116 : decode cX8_meetsEast 116 = .ok (.iload_n 2, 1) := by decide +kernel
theorem dX8_meetsEast_117 : decode cX8_meetsEast 117 = .ok (.iadd, 1) := by decide +kernel
theorem dX8_meetsEast_118 : decode cX8_meetsEast 118 = .ok (.iaload, 1) := by decide +kernel
theorem dX8_meetsEast_119 : decode cX8_meetsEast 119 = .ok (.aload_n 0, 1) := by decide +kernel
theorem dX8_meetsEast_120 : decode cX8_meetsEast 120 = .ok (.getfield 22, 3) := by decide +kernel
theorem dX8_meetsEast_123 : decode cX8_meetsEast 123 = .ok (.bipush 28, 2) := by decide +kernel
theorem dX8_meetsEast_125 : decode cX8_meetsEast 125 = .ok (.iload_n 2, 1) := by decide +kernel
theorem dX8_meetsEast_126 : decode cX8_meetsEast 126 = .ok (.iadd, 1) := by decide +kernel
theorem dX8_meetsEast_127 : decode cX8_meetsEast 127 = .ok (.iaload, 1) := by decide +kernel
theorem dX8_meetsEast_128 : decode cX8_meetsEast 128 = .ok (.iadd, 1) := by decide +kernel
theorem dX8_meetsEast_129 : decode cX8_meetsEast 129 = .ok (.if_icmp .ge 7, 3) := by decide +kernel
theorem dX8_meetsEast_132 : decode cX8_meetsEast 132 = .ok (.iconst 1, 1) := by decide +kernel
theorem dX8_meetsEast_133 : decode cX8_meetsEast 133 = .ok (.goto 4, 3) := by decide +kernel
theorem dX8_meetsEast_136 : decode cX8_meetsEast 136 = .ok (.iconst 0, 1) := by decide +kernel
theorem dX8_meetsEast_137 : decode cX8_meetsEast 137 = .ok (.ireturn, 1) := by decide +kernel
theorem dX8_isStopped_0 : decode cX8_isStopped 0 = .ok (.aload_n 0, 1) := by decide +kernel
theorem dX8_isStopped_1 : decode cX8_isStopped 1 = .ok (.getfield 22, 3) := by decide +kernel
theorem dX8_isStopped_4 : decode cX8_isStopped 4 = .ok (.bipush 10, 2) := by decide +kernel
theorem dX8_isStopped_6 : decode cX8_isStopped 6 = .ok (.iload_n 1, 1) := by decide +kernel
theorem dX8_isStopped_7 : decode cX8_isStopped 7 = .ok (.iadd, 1) := by decide +kernel
theorem dX8_isStopped_8 : decode cX8_isStopped 8 = .ok (.iaload, 1) := by decide +kernel
theorem dX8_isStopped_9 : decode cX8_isStopped 9 = .ok (.aload_n 0, 1) := by decide +kernel
theorem dX8_isStopped_10 : decode cX8_isStopped 10 = .ok (.getfield 22, 3) := by decide +kernel
theorem dX8_isStopped_13 : decode cX8_isStopped 13 = .ok (.bipush 22, 2) := by decide +kernel
theorem dX8_isStopped_15 : decode cX8_isStopped 15 = .ok (.iload_n 1, 1) := by decide +kernel
theorem dX8_isStopped_16 : decode cX8_isStopped 16 = .ok (.iadd, 1) := by decide +kernel
theorem dX8_isStopped_17 : decode cX8_isStopped 17 = .ok (.iaload, 1) := by decide +kernel
theorem dX8_isStopped_18 : decode cX8_isStopped 18 = .ok (.iadd, 1) := by decide +kernel
theorem dX8_isStopped_19 : decode cX8_isStopped 19 = .ok (.istore_n 2, 1) := by decide +kernel
theorem dX8_isStopped_20 : decode cX8_isStopped 20 = .ok (.iload_n 2, 1) := by decide +kernel
theorem dX8_isStopped_21 : decode cX8_isStopped 21 = .ok (.bipush 15, 2) := by decide +kernel
theorem dX8_isStopped_23 : decode cX8_isStopped 23 = .ok (.if_icmp .le 5, 3) := by decide +kernel
theorem dX8_isStopped_26 : decode cX8_isStopped 26 = .ok (.iconst 1, 1) := by decide +kernel
theorem dX8_isStopped_27 : decode cX8_isStopped 27 = .ok (.ireturn, 1) := by decide +kernel
theorem dX8_isStopped_28 : decode cX8_isStopped 28 = .ok (.iconst 0, 1) := by decide +kernel
theorem dX8_isStopped_29 : decode cX8_isStopped 29 = .ok (.istore_n 3, 1) := by decide +kernel
theorem dX8_isStopped_30 : decode cX8_isStopped 30 = .ok (.aload_n 0, 1) := by decide +kernel
theorem dX8_isStopped_31 : decode cX8_isStopped 31 = .ok (.getfield 22, 3) := by decide +kernel
theorem dX8_isStopped_34 : decode cX8_isStopped 34 = .ok (.bipush 16, 2) := by decide +kernel
theorem dX8_isStopped_36 : decode cX8_isStopped 36 = .ok (.iload_n 1, 1) := by decide +kernel
theorem dX8_isStopped_37 : decode cX8_isStopped 37 = .ok (.iadd, 1) := by decide +kernel
theorem dX8_isStopped_38 : decode cX8_isStopped 38 = .ok (.iaload, 1) := by decide +kernel
theorem dX8_isStopped_39 : decode cX8_isStopped 39 = .ok (.istore 4, 2) := by decide +kernel
theorem dX8_isStopped_41 : decode cX8_isStopped 41 = .ok (.iload 4, 2) := by decide +kernel
theorem dX8_isStopped_43 : decode cX8_isStopped 43 = .ok (.aload_n 0, 1) := by decide +kernel
theorem dX8_isStopped_44 : decode cX8_isStopped 44 = .ok (.getfield 22, 3) := by decide +kernel
theorem dX8_isStopped_47 : decode cX8_isStopped 47 = .ok (.bipush 16, 2) := by decide +kernel
theorem dX8_isStopped_49 : decode cX8_isStopped 49 = .ok (.iload_n 1, 1) := by decide +kernel
theorem dX8_isStopped_50 : decode cX8_isStopped 50 = .ok (.iadd, 1) := by decide +kernel
theorem dX8_isStopped_51 : decode cX8_isStopped 51 = .ok (.iaload, 1) := by decide +kernel
theorem dX8_isStopped_52 : decode cX8_isStopped 52 = .ok (.aload_n 0, 1) := by decide +kernel
theorem dX8_isStopped_53 : decode cX8_isStopped 53 = .ok (.getfield 22, 3) := by decide +kernel
theorem dX8_isStopped_56 : decode cX8_isStopped 56 = .ok (.bipush 28, 2) := by decide +kernel
theorem dX8_isStopped_58 : decode cX8_isStopped 58 = .ok (.iload_n 1, 1) := by decide +kernel
theorem dX8_isStopped_59 : decode cX8_isStopped 59 = .ok (.iadd, 1) := by decide +kernel
theorem dX8_isStopped_60 : decode cX8_isStopped 60 = .ok (.iaload, 1) := by decide +kernel
theorem dX8_isStopped_61 : decode cX8_isStopped 61 = .ok (.iadd, 1) := by decide +kernel
theorem dX8_isStopped_62 : decode cX8_isStopped 62 = .ok (.if_icmp .ge 32, 3) := by decide +kernel
theorem dX8_isStopped_65 : decode cX8_isStopped 65 = .ok (.iload_n 3, 1) := by decide +kernel
theorem dX8_isStopped_66 : decode cX8_isStopped 66 = .ok (.ifCond .ne 16, 3) := by decide +kernel
theorem dX8_isStopped_69 : decode cX8_isStopped 69 = .ok (.aload_n 0, 1) := by decide +kernel
theorem dX8_isStopped_70 : decode cX8_isStopped 70 = .ok (.getfield 22, 3) := by decide +kernel
theorem dX8_isStopped_73 : decode cX8_isStopped 73 = .ok (.iload_n 2, 1) := by decide +kernel
theorem dX8_isStopped_74 : decode cX8_isStopped 74 = .ok (.iload 4, 2) := by decide +kernel
theorem dX8_isStopped_76 : decode cX8_isStopped 76 = .ok (.invokestatic 144, 3) := by decide +kernel
theorem dX8_isStopped_79 : decode cX8_isStopped 79 = .ok (.ifCond .eq 7, 3) := by decide +kernel
theorem dX8_isStopped_82 : decode cX8_isStopped 82 = .ok (.iconst 1, 1) := by decide +kernel
theorem dX8_isStopped_83 : decode cX8_isStopped 83 = .ok (.goto 4, 3) := by decide +kernel
theorem dX8_isStopped_86 : decode cX8_isStopped 86 = .ok (.iconst 0, 1) := by decide +kernel
theorem dX8_isStopped_87 : decode cX8_isStopped 87 = .ok (.istore_n 3, 1) := by decide +kernel
theorem dX8_isStopped_88 : decode cX8_isStopped 88 = .ok (.iinc 4 1, 3) := by decide +kernel
theorem dX8_isStopped_91 : decode cX8_isStopped 91 = .ok (.goto (-50), 3) := by decide +kernel
theorem dX8_isStopped_94 : decode cX8_isStopped 94 = .ok (.iload_n 3, 1) := by decide +kernel
theorem dX8_isStopped_95 : decode cX8_isStopped 95 = .ok (.ireturn, 1) := by decide +kernel
theorem dX8_slide_0 : decode cX8_slide 0 = .ok (.iconst 1, 1) := by decide +kernel
theorem dX8_slide_1 : decode cX8_slide 1 = .ok (.iload_n 1, 1) := by decide +kernel
theorem dX8_slide_2 : decode cX8_slide 2 = .ok (.ishl, 1) := by decide +kernel
theorem dX8_slide_3 : decode cX8_slide 3 = .ok (.istore_n 2, 1) := by decide +kernel
theorem dX8_slide_4 : decode cX8_slide 4 = .ok (.iconst 0, 1) := by decide +kernel
theorem dX8_slide_5 : decode cX8_slide 5 = .ok (.istore_n 3, 1) := by decide +kernel
theorem dX8_slide_6 : decode cX8_slide 6 = .ok (.iload_n 3, 1) := by decide +kernel
theorem dX8_slide_7 : decode cX8_slide 7 = .ok (.bipush 6, 2) := by decide +kernel
theorem dX8_slide_9 : decode cX8_slide 9 = .ok (.if_icmp .ge 89, 3) := by decide +kernel
theorem dX8_slide_12 : decode cX8_slide 12 = .ok (.iconst 0, 1) := by decide +kernel
theorem dX8_slide_13 : decode cX8_slide 13 = .ok (.istore 4, 2) := by decide +kernel
theorem dX8_slide_15 : decode cX8_slide 15 = .ok (.iload 4, 2) := by decide +kernel
theorem dX8_slide_17 : decode cX8_slide 17 = .ok (.aload_n 0, 1) := by decide +kernel
theorem dX8_slide_18 : decode cX8_slide 18 = .ok (.getfield 22, 3) := by decide +kernel
theorem dX8_slide_21 : decode cX8_slide 21 = .ok (.iconst 3, 1) := by decide +kernel
theorem dX8_slide_22 : decode cX8_slide 22 = .ok (.iaload, 1) := by decide +kernel
theorem dX8_slide_23 : decode cX8_slide 23 = .ok (.if_icmp .ge 69, 3) := by decide +kernel
theorem dX8_slide_26 : decode cX8_slide 26 = .ok (.iconst 0, 1) := by decide +kernel
theorem dX8_slide_27 : decode cX8_slide 27 = .ok (.istore 5, 2) := by decide +kernel
theorem dX8_slide_29 : decode cX8_slide 29 = .ok (.iload 5, 2) := by decide +kernel
theorem dX8_slide_31 : decode cX8_slide 31 = .ok (.aload_n 0, 1) := by decide +kernel
theorem dX8_slide_32 : decode cX8_slide 32 = .ok (.getfield 22, 3) := by decide +kernel
theorem dX8_slide_35 : decode cX8_slide 35 = .ok (.iconst 3, 1) := by decide +kernel
theorem dX8_slide_36 : decode cX8_slide 36 = .ok (.iaload, 1) := by decide +kernel
theorem dX8_slide_37 : decode cX8_slide 37 = .ok (.if_icmp .ge 49, 3) := by decide +kernel
theorem dX8_slide_40 : decode cX8_slide 40 = .ok (.iload_n 2, 1) := by decide +kernel
theorem dX8_slide_41 : decode cX8_slide 41 = .ok (.iload_n 2, 1) := by decide +kernel
theorem dX8_slide_42 : decode cX8_slide 42 = .ok (.iload 4, 2) := by decide +kernel
theorem dX8_slide_44 : decode cX8_slide 44 = .ok (.invokestatic 184, 3) := by decide +kernel
theorem dX8_slide_47 : decode cX8_slide 47 = .ok (.ifCond .eq 30, 3) := by decide +kernel
theorem dX8_slide_50 : decode cX8_slide 50 = .ok (.iload_n 2, 1) := by decide +kernel
theorem dX8_slide_51 : decode cX8_slide 51 = .ok (.iload 5, 2) := by decide +kernel
theorem dX8_slide_53 : decode cX8_slide 53 = .ok (.invokestatic 184, 3) := by decide +kernel
theorem dX8_slide_56 : decode cX8_slide 56 = .ok (.ifCond .ne 21, 3) := by decide +kernel
theorem dX8_slide_59 : decode cX8_slide 59 = .ok (.aload_n 0, 1) := by decide +kernel
theorem dX8_slide_60 : decode cX8_slide 60 = .ok (.iload 4, 2) := by decide +kernel
theorem dX8_slide_62 : decode cX8_slide 62 = .ok (.iload 5, 2) := by decide +kernel
theorem dX8_slide_64 : decode cX8_slide 64 = .ok (.invokevirtual 187, 3) := by decide +kernel
theorem dX8_slide_67 : decode cX8_slide 67 = .ok (.ifCond .eq 10, 3) := by decide +kernel
theorem dX8_slide_70 : decode cX8_slide 70 = .ok (.iconst 1, 1) := by decide +kernel
theorem dX8_slide_71 : decode cX8_slide 71 = .ok (.iload 5, 2) := by decide +kernel
theorem dX8_slide_73 : decode cX8_slide 73 = .ok (.ishl, 1) := by decide +kernel
theorem dX8_slide_74 : decode cX8_slide 74 = .ok (.goto 4, 3) := by decide +kernel
theorem dX8_slide_77 : decode cX8_slide 77 = .ok (.iconst 0, 1) := by decide +kernel
theorem dX8_slide_78 : decode cX8_slide 78 = .ok (.ior, 1) := by decide +kernel
theorem dX8_slide_79 : decode cX8_slide 79 = .ok (.istore_n 2, 1) := by decide +kernel
theorem dX8_slide_80 : decode cX8_slide 80 = .ok (.iinc 5 1, 3) := by decide +kernel
theorem dX8_slide_83 : decode cX8_slide 83 = .ok (.goto (-54), 3) := by decide +kernel
theorem dX8_slide_86 : decode cX8_slide 86 = .ok (.iinc 4 1, 3) := by decide +kernel
theorem dX8_slide_89 : decode cX8_slide 89 = .ok (.goto (-74), 3) := by decide +kernel
theorem dX8_slide_92 : decode cX8_slide 92 = .ok (.iinc 3 1, 3) := by decide +kernel
theorem dX8_slide_95 : decode cX8_slide 95 = .ok (.goto (-89), 3) := by decide +kernel
theorem dX8_slide_98 : decode cX8_slide 98 = .ok (.iconst 0, 1) := by decide +kernel
theorem dX8_slide_99 : decode cX8_slide 99 = .ok (.istore_n 3, 1) := by decide +kernel
theorem dX8_slide_100 : decode cX8_slide 100 = .ok (.iload_n 3, 1) := by decide +kernel
theorem dX8_slide_101 : decode cX8_slide 101 = .ok (.aload_n 0, 1) := by decide +kernel
theorem dX8_slide_102 : decode cX8_slide 102 = .ok (.getfield 22, 3) := by decide +kernel
theorem dX8_slide_105 : decode cX8_slide 105 = .ok (.iconst 3, 1) := by decide +kernel
theorem dX8_slide_106 : decode cX8_slide 106 = .ok (.iaload, 1) := by decide +kernel
theorem dX8_slide_107 : decode cX8_slide 107 = .ok (.if_icmp .ge 27, 3) := by decide +kernel
theorem dX8_slide_110 : decode cX8_slide 110 = .ok (.iload_n 2, 1) := by decide +kernel
theorem dX8_slide_111 : decode cX8_slide 111 = .ok (.iload_n 3, 1) := by decide +kernel
theorem dX8_slide_112 : decode cX8_slide 112 = .ok (.invokestatic 184, 3) := by decide +kernel
theorem dX8_slide_115 : decode cX8_slide 115 = .ok (.ifCond .eq 13, 3) := by decide +kernel
theorem dX8_slide_118 : decode cX8_slide 118 = .ok (.aload_n 0, 1) := by decide +kernel
theorem dX8_slide_119 : decode cX8_slide 119 = .ok (.iload_n 3, 1) := by decide +kernel
theorem dX8_slide_120 : decode cX8_slide 120 = .ok (.invokevirtual 190, 3) := by decide +kernel
theorem dX8_slide_123 : decode cX8_slide 123 = .ok (.ifCond .eq 5, 3) := by decide +kernel
theorem dX8_slide_126 : decode cX8_slide 126 = .ok (.iconst 0, 1) := by decide +kernel
theorem dX8_slide_127 : decode cX8_slide 127 = .ok (.ireturn, 1) := by decide +kernel
theorem dX8_slide_128 : decode cX8_slide 128 = .ok (.iinc 3 1, 3) := by decide +kernel
theorem dX8_slide_131 : decode cX8_slide 131 = .ok (.goto (-31), 3) := by decide +kernel
theorem dX8_slide_134 : decode cX8_slide 134 = .ok (.iconst 0, 1) := by decide +kernel
theorem dX8_slide_135 : decode cX8_slide 135 = .ok (.istore_n 3, 1) := by decide +kernel
theorem dX8_slide_136 : decode cX8_slide 136 = .ok (.iload_n 3, 1) := by decide +kernel
theorem dX8_slide_137 : decode cX8_slide 137 = .ok (.aload_n 0, 1) := by decide +kernel
theorem dX8_slide_138 : decode cX8_slide 138 = .ok (.getfield 22, 3) := by decide +kernel
theorem dX8_slide_141 : decode cX8_slide 141 = .ok (.iconst 3, 1) := by decide +kernel
theorem dX8_slide_142 : decode cX8_slide 142 = .ok (.iaload, 1) := by decide +kernel
theorem dX8_slide_143 : decode cX8_slide 143 = .ok (.if_icmp .ge 34, 3) := by decide +kernel
theorem dX8_slide_146 : decode cX8_slide 146 = .ok (.aload_n 0, 1) := by decide +kernel
theorem dX8_slide_147 : decode cX8_slide 147 = .ok (.getfield 22, 3) := by decide +kernel
theorem dX8_slide_150 : decode cX8_slide 150 = .ok (.bipush 10, 2) := by decide +kernel
theorem dX8_slide_152 : decode cX8_slide 152 = .ok (.iload_n 3, 1) := by decide +kernel
theorem dX8_slide_153 : decode cX8_slide 153 = .ok (.iadd, 1) := by decide +kernel
theorem dX8_slide_154 : decode cX8_slide 154 = .ok (.dup2, 1) := by decide +kernel
theorem dX8_slide_155 : decode cX8_slide 155 = .ok (.iaload, 1) := by decide +kernel
theorem dX8_slide_156 : decode cX8_slide 156 = .ok (.iload_n 2, 1) := by decide +kernel
theorem dX8_slide_157 : decode cX8_slide 157 = .ok (.iload_n 3, 1) := by decide +kernel
theorem dX8_slide_158 : decode cX8_slide 158 = .ok (.invokestatic 184, 3) := by decide +kernel
theorem dX8_slide_161 : decode cX8_slide 161 = .ok (.ifCond .eq 7, 3) := by decide +kernel
theorem dX8_slide_164 : decode cX8_slide 164 = .ok (.iconst 1, 1) := by decide +kernel
theorem dX8_slide_165 : decode cX8_slide 165 = .ok (.goto 4, 3) := by decide +kernel
theorem dX8_slide_168 : decode cX8_slide 168 = .ok (.iconst 0, 1) := by decide +kernel
theorem dX8_slide_169 : decode cX8_slide 169 = .ok (.iadd, 1) := by decide +kernel
theorem dX8_slide_170 : decode cX8_slide 170 = .ok (.iastore, 1) := by decide +kernel
theorem dX8_slide_171 : decode cX8_slide 171 = .ok (.iinc 3 1, 3) := by decide +kernel
theorem dX8_slide_174 : decode cX8_slide 174 = .ok (.goto (-38), 3) := by decide +kernel
theorem dX8_slide_177 : decode cX8_slide 177 = .ok (.iload_n 2, 1) := by decide +kernel
theorem dX8_slide_178 : decode cX8_slide 178 = .ok (.ireturn, 1) := by decide +kernel
theorem dX8_isDrowned_0 : decode cX8_isDrowned 0 = .ok (.aload_n 0, 1) := by decide +kernel
theorem dX8_isDrowned_1 : decode cX8_isDrowned 1 = .ok (.getfield 22, 3) := by decide +kernel
theorem dX8_isDrowned_4 : decode cX8_isDrowned 4 = .ok (.bipush 10, 2) := by decide +kernel
theorem dX8_isDrowned_6 : decode cX8_isDrowned 6 = .ok (.iload_n 1, 1) := by decide +kernel
theorem dX8_isDrowned_7 : decode cX8_isDrowned 7 = .ok (.iadd, 1) := by decide +kernel
theorem dX8_isDrowned_8 : decode cX8_isDrowned 8 = .ok (.iaload, 1) := by decide +kernel
theorem dX8_isDrowned_9 : decode cX8_isDrowned 9 = .ok (.aload_n 0, 1) := by decide +kernel
theorem dX8_isDrowned_10 : decode cX8_isDrowned 10 = .ok (.getfield 22, 3) := by decide +kernel
theorem dX8_isDrowned_13 : decode cX8_isDrowned 13 = .ok (.bipush 22, 2) := by decide +kernel
theorem dX8_isDrowned_15 : decode cX8_isDrowned 15 = .ok (.iload_n 1, 1) := by decide +kernel
theorem dX8_isDrowned_16 : decode cX8_isDrowned 16 = .ok (.iadd, 1) := by decide +kernel
theorem dX8_isDrowned_17 : decode cX8_isDrowned 17 = .ok (.iaload, 1) := by decide +kernel
theorem dX8_isDrowned_18 : decode cX8_isDrowned 18 = .ok (.iadd, 1) := by decide +kernel
theorem dX8_isDrowned_19 : decode cX8_isDrowned 19 = .ok (.aload_n 0, 1) := by decide +kernel
theorem dX8_isDrowned_20 : decode cX8_isDrowned 20 = .ok (.getfield 22, 3) := by decide +kernel
theorem dX8_isDrowned_23 : decode cX8_isDrowned 23 = .ok (.iconst 2, 1) := by decide +kernel
theorem dX8_isDrowned_24 : decode cX8_isDrowned 24 = .ok (.iaload, 1) := by decide +kernel
theorem dX8_isDrowned_25 : decode cX8_isDrowned 25 = .ok (.if_icmp .le 7, 3) := by decide +kernel
theorem dX8_isDrowned_28 : decode cX8_isDrowned 28 = .ok (.iconst 1, 1) := by decide +kernel
theorem dX8_isDrowned_29 : decode cX8_isDrowned 29 = .ok (.goto 4, 3) := by decide +kernel
theorem dX8_isDrowned_32 : decode cX8_isDrowned 32 = .ok (.iconst 0, 1) := by decide +kernel
theorem dX8_isDrowned_33 : decode cX8_isDrowned 33 = .ok (.ireturn, 1) := by decide +kernel
theorem dX8_isLie_0 : decode cX8_isLie 0 = .ok (.iload_n 1, 1) := by decide +kernel
theorem dX8_isLie_1 : decode cX8_isLie 1 = .ok (.iconst 1, 1) := by decide +kernel
theorem dX8_isLie_2 : decode cX8_isLie 2 = .ok (.iand, 1) := by decide +kernel
theorem dX8_isLie_3 : decode cX8_isLie 3 = .ok (.ifCond .ne 7, 3) := by decide +kernel
theorem dX8_isLie_6 : decode cX8_isLie 6 = .ok (.iconst 1, 1) := by decide +kernel
theorem dX8_isLie_7 : decode cX8_isLie 7 = .ok (.goto 4, 3) := by decide +kernel
theorem dX8_isLie_10 : decode cX8_isLie 10 = .ok (.iconst 0, 1) := by decide +kernel
theorem dX8_isLie_11 : decode cX8_isLie 11 = .ok (.aload_n 0, 1) := by decide +kernel
theorem dX8_isLie_12 : decode cX8_isLie 12 = .ok (.getfield 22, 3) := by decide +kernel
theorem dX8_isLie_15 : decode cX8_isLie 15 = .ok (.iconst 1, 1) := by decide +kernel
theorem dX8_isLie_16 : decode cX8_isLie 16 = .ok (.iaload, 1) := by decide +kernel
theorem dX8_isLie_17 : decode cX8_isLie 17 = .ok (.iload_n 1, 1) := by decide +kernel
theorem dX8_isLie_18 : decode cX8_isLie 18 = .ok (.iconst 2, 1) := by decide +kernel
theorem dX8_isLie_19 : decode cX8_isLie 19 = .ok (.idiv, 1) := by decide +kernel
theorem dX8_isLie_20 : decode cX8_isLie 20 = .ok (.invokestatic 184, 3) := by decide +kernel
theorem dX8_isLie_23 : decode cX8_isLie 23 = .ok (.if_icmp .ne 7, 3) := by decide +kernel
theorem dX8_isLie_26 : decode cX8_isLie 26 = .ok (.iconst 1, 1) := by decide +kernel
theorem dX8_isLie_27 : decode cX8_isLie 27 = .ok (.goto 4, 3) := by decide +kernel
theorem dX8_isLie_30 : decode cX8_isLie 30 = .ok (.iconst 0, 1) := by decide +kernel
theorem dX8_isLie_31 : decode cX8_isLie 31 = .ok (.ireturn, 1) := by decide +kernel
theorem dX8_saying_0 : decode cX8_saying 0 = .ok (.aload_n 0, 1) := by decide +kernel
theorem dX8_saying_1 : decode cX8_saying 1 = .ok (.getfield 181, 3) := by decide +kernel
theorem dX8_saying_4 : decode cX8_saying 4 = .ok (.bipush 24, 2) := by decide +kernel
theorem dX8_saying_6 : decode cX8_saying 6 = .ok (.if_icmp .ne 43, 3) := by decide +kernel
theorem dX8_saying_9 : decode cX8_saying 9 = .ok (.iconst 0, 1) := by decide +kernel
theorem dX8_saying_10 : decode cX8_saying 10 = .ok (.istore_n 3, 1) := by decide +kernel
theorem dX8_saying_11 : decode cX8_saying 11 = .ok (.iload_n 3, 1) := by decide +kernel
theorem dX8_saying_12 : decode cX8_saying 12 = .ok (.sipush 161, 3) := by decide +kernel
theorem dX8_saying_15 : decode cX8_saying 15 = .ok (.if_icmp .ge 24, 3) := by decide +kernel
theorem dX8_saying_18 : decode cX8_saying 18 = .ok (.aload_n 0, 1) := by decide +kernel
theorem dX8_saying_19 : decode cX8_saying 19 = .ok (.getfield 35, 3) := by decide +kernel
theorem dX8_saying_22 : decode cX8_saying 22 = .ok (.iload_n 3, 1) := by decide +kernel
theorem dX8_saying_23 : decode cX8_saying 23 = .ok (.aload_n 0, 1) := by decide +kernel
theorem dX8_saying_24 : decode cX8_saying 24 = .ok (.getfield 35, 3) := by decide +kernel
theorem dX8_saying_27 : decode cX8_saying 27 = .ok (.iload_n 3, 1) := by decide +kernel
theorem dX8_saying_28 : decode cX8_saying 28 = .ok (.bipush 7, 2) := by decide +kernel
theorem dX8_saying_30 : decode cX8_saying 30 = .ok (.iadd, 1) := by decide +kernel
theorem dX8_saying_31 : decode cX8_saying 31 = .ok (.iaload, 1) := by decide +kernel
theorem dX8_saying_32 : decode cX8_saying 32 = .ok (.iastore, 1) := by decide +kernel
theorem dX8_saying_33 : decode cX8_saying 33 = .ok (.iinc 3 1, 3) := by decide +kernel
theorem dX8_saying_36 : decode cX8_saying 36 = .ok (.goto (-25), 3) := by decide +kernel
theorem dX8_saying_39 : decode cX8_saying 39 = .ok (.aload_n 0, 1) := by decide +kernel
theorem dX8_saying_40 : decode cX8_saying 40 = .ok (.dup, 1) := by decide +kernel
theorem dX8_saying_41 : decode cX8_saying 41 = .ok (.getfield 181, 3) := by decide +kernel
theorem dX8_saying_44 : decode cX8_saying 44 = .ok (.iconst 1, 1) := by decide +kernel
theorem dX8_saying_45 : decode cX8_saying 45 = .ok (.isub, 1) := by decide +kernel
theorem dX8_saying_46 : decode cX8_saying 46 = .ok (.putfield 181, 3) := by decide +kernel
theorem dX8_saying_49 : decode cX8_saying 49 = .ok (.iconst 0, 1) := by decide +kernel
theorem dX8_saying_50 : decode cX8_saying 50 = .ok (.istore_n 3, 1) := by decide +kernel
theorem dX8_saying_51 : decode cX8_saying 51 = .ok (.iload_n 3, 1) := by decide +kernel
theorem dX8_saying_52 : decode cX8_saying 52 = .ok (.bipush 6, 2) := by decide +kernel
theorem dX8_saying_54 : decode cX8_saying 54 = .ok (.if_icmp .ge 32, 3) := by decide +kernel
theorem dX8_saying_57 : decode cX8_saying 57 = .ok (.aload_n 0, 1) := by decide +kernel
theorem dX8_saying_58 : decode cX8_saying 58 = .ok (.getfield 35, 3) := by decide +kernel
theorem dX8_saying_61 : decode cX8_saying 61 = .ok (.bipush 7, 2) := by decide +kernel
theorem dX8_saying_63 : decode cX8_saying 63 = .ok (.aload_n 0, 1) := by decide +kernel
theorem dX8_saying_64 : decode cX8_saying 64 = .ok (.getfield 181, 3) := by decide +kernel
theorem dX8_saying_67 : decode cX8_saying 67 = .ok (.imul, 1) := by decide +kernel
theorem dX8_saying_68 : decode cX8_saying 68 = .ok (.iload_n 3, 1) := by decide +kernel
theorem dX8_saying_69 : decode cX8_saying 69 = .ok (.iadd, 1) := by decide +kernel
theorem dX8_saying_70 : decode cX8_saying 70 = .ok (.aload_n 0, 1) := by decide +kernel
theorem dX8_saying_71 : decode cX8_saying 71 = .ok (.getfield 22, 3) := by decide +kernel
theorem dX8_saying_74 : decode cX8_saying 74 = .ok (.bipush 10, 2) := by decide +kernel
theorem dX8_saying_76 : decode cX8_saying 76 = .ok (.iload_n 3, 1) := by decide +kernel
theorem dX8_saying_77 : decode cX8_saying 77 = .ok (.iadd, 1) := by decide +kernel
theorem dX8_saying_78 : decode cX8_saying 78 = .ok (.iaload, 1) := by decide +kernel
theorem dX8_saying_79 : decode cX8_saying 79 = .ok (.iastore, 1) := by decide +kernel
theorem dX8_saying_80 : decode cX8_saying 80 = .ok (.iinc 3 1, 3) := by decide +kernel
theorem dX8_saying_83 : decode cX8_saying 83 = .ok (.goto (-32), 3) := by decide +kernel
theorem dX8_saying_86 : decode cX8_saying 86 = .ok (.aload_n 0, 1) := by decide +kernel
theorem dX8_saying_87 : decode cX8_saying 87 = .ok (.iload_n 2, 1) := by decide +kernel
theorem dX8_saying_88 : decode cX8_saying 88 = .ok (.invokevirtual 193, 3) := by decide +kernel
theorem dX8_saying_91 : decode cX8_saying 91 = .ok (.istore_n 3, 1) := by decide +kernel
theorem dX8_saying_92 : decode cX8_saying 92 = .ok (.aload_n 0, 1) := by decide +kernel
theorem dX8_saying_93 : decode cX8_saying 93 = .ok (.getfield 35, 3) := by decide +kernel
theorem dX8_saying_96 : decode cX8_saying 96 = .ok (.bipush 7, 2) := by decide +kernel
theorem dX8_saying_98 : decode cX8_saying 98 = .ok (.aload_n 0, 1) := by decide +kernel
theorem dX8_saying_99 : decode cX8_saying 99 = .ok (.getfield 181, 3) := by decide +kernel
theorem dX8_saying_102 : decode cX8_saying 102 = .ok (.imul, 1) := by decide +kernel
theorem dX8_saying_103 : decode cX8_saying 103 = .ok (.bipush 6, 2) := by decide +kernel
theorem dX8_saying_105 : decode cX8_saying 105 = .ok (.iadd, 1) := by decide +kernel
theorem dX8_saying_106 : decode cX8_saying 106 = .ok (.iload_n 3, 1) := by decide +kernel
theorem dX8_saying_107 : decode cX8_saying 107 = .ok (.ifCond .eq 7, 3) := by decide +kernel
theorem dX8_saying_110 : decode cX8_saying 110 = .ok (.iload_n 1, 1) := by decide +kernel
theorem dX8_saying_111 : decode cX8_saying 111 = .ok (.goto 5, 3) := by decide +kernel
theorem dX8_saying_114 : decode cX8_saying 114 = .ok (.ldc 50, 2) := by decide +kernel
theorem dX8_saying_116 : decode cX8_saying 116 = .ok (.iastore, 1) := by decide +kernel
theorem dX8_saying_117 : decode cX8_saying 117 = .ok (.aload_n 0, 1) := by decide +kernel
theorem dX8_saying_118 : decode cX8_saying 118 = .ok (.dup, 1) := by decide +kernel
theorem dX8_saying_119 : decode cX8_saying 119 = .ok (.getfield 181, 3) := by decide +kernel
theorem dX8_saying_122 : decode cX8_saying 122 = .ok (.iconst 1, 1) := by decide +kernel
theorem dX8_saying_123 : decode cX8_saying 123 = .ok (.iadd, 1) := by decide +kernel
theorem dX8_saying_124 : decode cX8_saying 124 = .ok (.putfield 181, 3) := by decide +kernel
theorem dX8_saying_127 : decode cX8_saying 127 = .ok (.iload_n 3, 1) := by decide +kernel
theorem dX8_saying_128 : decode cX8_saying 128 = .ok (.ifCond .ne 5, 3) := by decide +kernel
theorem dX8_saying_131 : decode cX8_saying 131 = .ok (.iconst 0, 1) := by decide +kernel
theorem dX8_saying_132 : decode cX8_saying 132 = .ok (.ireturn, 1) := by decide +kernel
theorem dX8_saying_133 : decode cX8_saying 133 = .ok (.aload_n 0, 1) := by decide +kernel
theorem dX8_saying_134 : decode cX8_saying 134 = .ok (.getfield 22, 3) := by decide +kernel
theorem dX8_saying_137 : decode cX8_saying 137 = .ok (.bipush 34, 2) := by decide +kernel
theorem dX8_saying_139 : decode cX8_saying 139 = .ok (.iload_n 1, 1) := by decide +kernel
theorem dX8_saying_140 : decode cX8_saying 140 = .ok (.iadd, 1) := by decide +kernel
theorem dX8_saying_141 : decode cX8_saying 141 = .ok (.dup2, 1) := by decide +kernel
theorem dX8_saying_142 : decode cX8_saying 142 = .ok (.iaload, 1) := by decide +kernel
theorem dX8_saying_143 : decode cX8_saying 143 = .ok (.iconst 1, 1) := by decide +kernel
theorem dX8_saying_144 : decode cX8_saying 144 = .ok (.iadd, 1) := by decide +kernel
theorem dX8_saying_145 : decode cX8_saying 145 = .ok (.iastore, 1) := by decide +kernel
theorem dX8_saying_146 : decode cX8_saying 146 = .ok (.aload_n 0, 1) := by decide +kernel
theorem dX8_saying_147 : decode cX8_saying 147 = .ok (.iload_n 1, 1) := by decide +kernel
theorem dX8_saying_148 : decode cX8_saying 148 = .ok (.invokevirtual 196, 3) := by decide +kernel
theorem dX8_saying_151 : decode cX8_saying 151 = .ok (.ireturn, 1) := by decide +kernel
theorem dX8_say_0 : decode cX8_say 0 = .ok (.aload_n 0, 1) := by decide +kernel
theorem dX8_say_1 : decode cX8_say 1 = .ok (.iload_n 1, 1) := by decide +kernel
theorem dX8_say_2 : decode cX8_say 2 = .ok (.invokevirtual 199, 3) := by decide +kernel
theorem dX8_say_5 : decode cX8_say 5 = .ok (.ifCond .eq 13, 3) := by decide +kernel
theorem dX8_say_8 : decode cX8_say 8 = .ok (.iload_n 2, 1) := by decide +kernel
theorem dX8_say_9 : decode cX8_say 9 = .ok (.iconst 0, 1) := by decide +kernel
theorem dX8_say_10 : decode cX8_say 10 = .ok (.bipush 15, 2) := by decide +kernel
theorem dX8_say_12 : decode cX8_say 12 = .ok (.invokestatic 56, 3) := by decide +kernel
theorem dX8_say_15 : decode cX8_say 15 = .ok (.ifCond .ne 6, 3) := by decide +kernel
theorem dX8_say_18 : decode cX8_say 18 = .ok (.ldc 64, 2) := by decide +kernel
theorem dX8_say_20 : decode cX8_say 20 = .ok (.ireturn, 1) := by decide +kernel
theorem dX8_say_21 : decode cX8_say 21 = .ok (.aload_n 0, 1) := by decide +kernel
theorem dX8_say_22 : decode cX8_say 22 = .ok (.iload_n 1, 1) := by decide +kernel
theorem dX8_say_23 : decode cX8_say 23 = .ok (.invokevirtual 202, 3) := by decide +kernel
theorem dX8_say_26 : decode cX8_say 26 = .ok (.ifCond .eq 8, 3) := by decide +kernel
theorem dX8_say_29 : decode cX8_say 29 = .ok (.ldc 205, 2) := by decide +kernel
theorem dX8_say_31 : decode cX8_say 31 = .ok (.goto 9, 3) := by decide +kernel
theorem dX8_say_34 : decode cX8_say 34 = .ok (.aload_n 0, 1) := by decide +kernel
theorem dX8_say_35 : decode cX8_say 35 = .ok (.iload_n 1, 1) := by decide +kernel
theorem dX8_say_36 : decode cX8_say 36 = .ok (.iload_n 2, 1) := by decide +kernel
theorem dX8_say_37 : decode cX8_say 37 = .ok (.invokevirtual 206, 3) := by decide +kernel
theorem dX8_say_40 : decode cX8_say 40 = .ok (.ireturn, 1) := by decide +kernel
theorem dX8_talk_0 : decode cX8_talk 0 = .ok (.aload_n 0, 1) := by decide +kernel
theorem dX8_talk_1 : decode cX8_talk 1 = .ok (.getfield 22, 3) := by decide +kernel
theorem dX8_talk_4 : decode cX8_talk 4 = .ok (.iconst 0, 1) := by decide +kernel
theorem dX8_talk_5 : decode cX8_talk 5 = .ok (.iaload, 1) := by decide +kernel
theorem dX8_talk_6 : decode cX8_talk 6 = .ok (.ifCond .ne 6, 3) := by decide +kernel
theorem dX8_talk_9 : decode cX8_talk 9 = .ok (.ldc 205, 2) := by decide +kernel
theorem dX8_talk_11 : decode cX8_talk 11 = .ok (.ireturn, 1) := by decide +kernel
theorem dX8_talk_12 : decode cX8_talk 12 = .ok (.iload_n 1, 1) := by decide +kernel
theorem dX8_talk_13 : decode cX8_talk 13 = .ok (.invokestatic 60, 3) := by decide +kernel
theorem dX8_talk_16 : decode cX8_talk 16 = .ok (.ifCond .eq 13, 3) := by decide +kernel
theorem dX8_talk_19 : decode cX8_talk 19 = .ok (.iload_n 3, 1) := by decide +kernel
theorem dX8_talk_20 : decode cX8_talk 20 = .ok (.iconst 1, 1) := by decide +kernel
theorem dX8_talk_21 : decode cX8_talk 21 = .ok (.bipush 20, 2) := by decide +kernel
theorem dX8_talk_23 : decode cX8_talk 23 = .ok (.invokestatic 56, 3) := by decide +kernel
theorem dX8_talk_26 : decode cX8_talk 26 = .ok (.ifCond .ne 6, 3) := by decide +kernel
theorem dX8_talk_29 : decode cX8_talk 29 = .ok (.ldc 64, 2) := by decide +kernel
theorem dX8_talk_31 : decode cX8_talk 31 = .ok (.ireturn, 1) := by decide +kernel
theorem dX8_talk_32 : decode cX8_talk 32 = .ok (.aload_n 0, 1) := by decide +kernel
theorem dX8_talk_33 : decode cX8_talk 33 = .ok (.iload_n 1, 1) := by decide +kernel
theorem dX8_talk_34 : decode cX8_talk 34 = .ok (.invokevirtual 72, 3) := by decide +kernel
theorem dX8_talk_37 : decode cX8_talk 37 = .ok (.ifCond .eq 9, 3) := by decide +kernel
theorem dX8_talk_40 : decode cX8_talk 40 = .ok (.aload_n 0, 1) := by decide +kernel
theorem dX8_talk_41 : decode cX8_talk 41 = .ok (.iconst 1, 1) := by decide +kernel
theorem dX8_talk_42 : decode cX8_talk 42 = .ok (.invokevirtual 65, 3) := by decide +kernel
theorem dX8_talk_45 : decode cX8_talk 45 = .ok (.ireturn, 1) := by decide +kernel
theorem dX8_talk_46 : decode cX8_talk 46 = .ok (.iload_n 2, 1) := by decide +kernel
theorem dX8_talk_47 : decode cX8_talk 47 = .ok (.ifCond .lt 15, 3) := by decide +kernel
theorem dX8_talk_50 : decode cX8_talk 50 = .ok (.iload_n 3, 1) := by decide +kernel
theorem dX8_talk_51 : decode cX8_talk 51 = .ok (.aload_n 0, 1) := by decide +kernel
theorem dX8_talk_52 : decode cX8_talk 52 = .ok (.getfield 13, 3) := by decide +kernel
theorem dX8_talk_55 : decode cX8_talk 55 = .ok (.iload_n 1, 1) := by decide +kernel
theorem dX8_talk_56 : decode cX8_talk 56 = .ok (.iaload, 1) := by decide +kernel
theorem dX8_talk_57 : decode cX8_talk 57 = .ok (.iload_n 2, 1) := by decide +kernel
theorem dX8_talk_58 : decode cX8_talk 58 = .ok (.isub, 1) := by decide +kernel
theorem dX8_talk_59 : decode cX8_talk 59 = .ok (.if_icmp .le 9, 3) := by decide +kernel
theorem dX8_talk_62 : decode cX8_talk 62 = .ok (.aload_n 0, 1) := by decide +kernel
theorem dX8_talk_63 : decode cX8_talk 63 = .ok (.iconst 2, 1) := by decide +kernel
theorem dX8_talk_64 : decode cX8_talk 64 = .ok (.invokevirtual 65, 3) := by decide +kernel
theorem dX8_talk_67 : decode cX8_talk 67 = .ok (.ireturn, 1) := by decide +kernel
theorem dX8_talk_68 : decode cX8_talk 68 = .ok (.iload_n 2, 1) := by decide +kernel
theorem dX8_talk_69 : decode cX8_talk 69 = .ok (.istore 4, 2) := by decide +kernel
theorem dX8_talk_71 : decode cX8_talk 71 = .ok (.iload 4, 2) := by decide +kernel
theorem dX8_talk_73 : decode cX8_talk 73 = .ok (.iload_n 2, 1) := by decide +kernel
theorem dX8_talk_74 : decode cX8_talk 74 = .ok (.iload_n 3, 1) := by decide +kernel
theorem dX8_talk_75 : decode cX8_talk 75 = .ok (.iadd, 1) := by decide +kernel
theorem dX8_talk_76 : decode cX8_talk 76 = .ok (.if_icmp .ge 42, 3) := by decide +kernel
theorem dX8_talk_79 : decode cX8_talk 79 = .ok (.aload_n 0, 1) := by decide +kernel
theorem dX8_talk_80 : decode cX8_talk 80 = .ok (.getfield 16, 3) := by decide +kernel
theorem dX8_talk_83 : decode cX8_talk 83 = .ok (.bipush 40, 2) := by decide +kernel
theorem dX8_talk_85 : decode cX8_talk 85 = .ok (.iload_n 1, 1) := by decide +kernel
theorem dX8_talk_86 : decode cX8_talk 86 = .ok (.imul, 1) := by decide +kernel
theorem dX8_talk_87 : decode cX8_talk 87 = .ok (.iload 4, 2) := by decide +kernel
theorem dX8_talk_89 : decode cX8_talk 89 = .ok (.iadd, 1) := by decide +kernel
theorem dX8_talk_90 : decode cX8_talk 90 = .ok (.iaload, 1) := by decide +kernel
theorem dX8_talk_91 : decode cX8_talk 91 = .ok (.iconst 0, 1) := by decide +kernel
theorem dX8_talk_92 : decode cX8_talk 92 = .ok (.bipush 16, 2) := by decide +kernel
theorem dX8_talk_94 : decode cX8_talk 94 = .ok (.aload_n 0, 1) := by decide +kernel
theorem dX8_talk_95 : decode cX8_talk 95 = .ok (.getfield 22, 3) := by decide +kernel
theorem dX8_talk_98 : decode cX8_talk 98 = .ok (.iconst 3, 1) := by decide +kernel
theorem dX8_talk_99 : decode cX8_talk 99 = .ok (.iaload, 1) := by decide +kernel
theorem dX8_talk_100 : decode cX8_talk 100 = .ok (.imul, 1) := by decide +kernel
theorem dX8_talk_101 : decode cX8_talk 101 = .ok (.iconst 1, 1) := by decide +kernel
theorem dX8_talk_102 : decode cX8_talk 102 = .ok (.isub, 1) := by decide +kernel
theorem dX8_talk_103 : decode cX8_talk 103 = .ok (.invokestatic 56, 3) := by decide +kernel
theorem dX8_talk_106 : decode cX8_talk 106 = .ok (.ifCond .ne 6, 3) := by decide +kernel
theorem dX8_talk_109 : decode cX8_talk 109 = .ok (.ldc 64, 2) := by decide +kernel
theorem dX8_talk_111 : decode cX8_talk 111 = .ok (.ireturn, 1) := by decide +kernel
theorem dX8_talk_112 : decode cX8_talk 112 = .ok (.iinc 4 1, 3) := by decide +kernel
theorem dX8_talk_115 : decode cX8_talk 115 = .ok (.goto (-44), 3) := by decide +kernel
theorem dX8_talk_118 : decode cX8_talk 118 = .ok (.iconst 0, 1) := by decide +kernel
theorem dX8_talk_119 : decode cX8_talk 119 = .ok (.istore 4, 2) := by decide +kernel
theorem dX8_talk_121 : decode cX8_talk 121 = .ok (.iload_n 2, 1) := by decide +kernel
theorem dX8_talk_122 : decode cX8_talk 122 = .ok (.istore 5, 2) := by decide +kernel
theorem dX8_talk_124 : decode cX8_talk 124 = .ok (.iload 5, 2) := by decide +kernel
theorem dX8_talk_126 : decode cX8_talk 126 = .ok (.iload_n 2, 1) := by decide +kernel
theorem dX8_talk_127 : decode cX8_talk 127 = .ok (.iload_n 3, 1) := by decide +kernel
theorem dX8_talk_128 : decode cX8_talk 128 = .ok (.iadd, 1) := by decide +kernel
theorem dX8_talk_129 : decode cX8_talk 129 = .ok (.if_icmp .ge 69, 3) := by decide +kernel
theorem dX8_talk_132 : decode cX8_talk 132 = .ok (.aload_n 0, 1) := by decide +kernel
theorem dX8_talk_133 : decode cX8_talk 133 = .ok (.getfield 16, 3) := by decide +kernel
theorem dX8_talk_136 : decode cX8_talk 136 = .ok (.bipush 40, 2) := by decide +kernel
theorem dX8_talk_138 : decode cX8_talk 138 = .ok (.iload_n 1, 1) := by decide +kernel
theorem dX8_talk_139 : decode cX8_talk 139 = .ok (.imul, 1) := by decide +kernel
theorem dX8_talk_140 : decode cX8_talk 140 = .ok (.iload 5, 2) := by decide +kernel
theorem dX8_talk_142 : decode cX8_talk 142 = .ok (.iadd, 1) := by decide +kernel
theorem dX8_talk_143 : decode cX8_talk 143 = .ok (.iaload, 1) := by decide +kernel
theorem dX8_talk_144 : decode cX8_talk 144 = .ok (.bipush 16, 2) := by decide +kernel
theorem dX8_talk_146 : decode cX8_talk 146 = .ok (.idiv, 1) := by decide +kernel
theorem dX8_talk_147 : decode cX8_talk 147 = .ok (.istore 6, 2) := by decide +kernel
theorem dX8_talk_149 : decode cX8_talk 149 = .ok (.aload_n 0, 1) := by decide +kernel
theorem dX8_talk_150 : decode cX8_talk 150 = .ok (.iload 6, 2) := by decide +kernel
theorem dX8_talk_152 : decode cX8_talk 152 = .ok (.invokevirtual 202, 3) := by decide +kernel
theorem dX8_talk_155 : decode cX8_talk 155 = .ok (.ifCond .ne 37, 3) := by decide +kernel
theorem dX8_talk_158 : decode cX8_talk 158 = .ok (.iload 4, 2) := by decide +kernel
theorem dX8_talk_160 : decode cX8_talk 160 = .ok (.aload_n 0, 1) := by decide +kernel
theorem dX8_talk_161 : decode cX8_talk 161 = .ok (.iload 6, 2) := by decide +kernel
theorem dX8_talk_163 : decode cX8_talk 163 = .ok (.aload_n 0, 1) := by decide +kernel
theorem dX8_talk_164 : decode cX8_talk 164 = .ok (.getfield 16, 3) := by decide +kernel
theorem dX8_talk_167 : decode cX8_talk 167 = .ok (.bipush 40, 2) := by decide +kernel
theorem dX8_talk_169 : decode cX8_talk 169 = .ok (.iload_n 1, 1) := by decide +kernel
theorem dX8_talk_170 : decode cX8_talk 170 = .ok (.imul, 1) := by decide +kernel
theorem dX8_talk_171 : decode cX8_talk 171 = .ok (.iload 5, 2) := by decide +kernel
theorem dX8_talk_173 : decode cX8_talk 173 = .ok (.iadd, 1) := by decide +kernel
theorem dX8_talk_174 : decode cX8_talk 174 = .ok (.iaload, 1) := by decide +kernel
theorem dX8_talk_175 : decode cX8_talk 175 = .ok (.bipush 16, 2) := by decide +kernel
theorem dX8_talk_177 : decode cX8_talk 177 = .ok (.irem, 1) := by decide +kernel
theorem dX8_talk_178 : decode cX8_talk 178 = .ok (.invokevirtual 206, 3) := by decide +kernel
theorem dX8_talk_181 : decode cX8_talk 181 = .ok (.ifCond .eq 7, 3) := by decide +kernel
theorem dX8_talk_184 : decode cX8_talk 184 = .ok (.iconst 1, 1) := by decide +kernel
theorem dX8_talk_185 : decode cX8_talk 185 = .ok (.goto 4, 3) := by decide +kernel
theorem dX8_talk_188 : decode cX8_talk 188 = .ok (.iconst 0, 1) := by decide +kernel
theorem dX8_talk_189 : decode cX8_talk 189 = .ok (.iadd, 1) := by decide +kernel
theorem dX8_talk_190 : decode cX8_talk 190 = .ok (.istore 4, 2) := by decide +kernel
theorem dX8_talk_192 : decode cX8_talk 192 = .ok (.iinc 5 1, 3) := by decide +kernel
theorem dX8_talk_195 : decode cX8_talk 195 = .ok (.goto (-71), 3) := by decide +kernel
theorem dX8_talk_198 : decode cX8_talk 198 = .ok (.aload_n 0, 1) := by decide +kernel
theorem dX8_talk_199 : decode cX8_talk 199 = .ok (.iload 4, 2) := by decide +kernel
theorem dX8_talk_201 : decode cX8_talk 201 = .ok (.invokevirtual 69, 3) := by decide +kernel
theorem dX8_talk_204 : decode cX8_talk 204 = .ok (.ireturn, 1) := by decide +kernel
theorem dX8_undo_0 : decode cX8_undo 0 = .ok (.aload_n 0, 1) := by decide +kernel
theorem dX8_undo_1 : decode cX8_undo 1 = .ok (.getfield 181, 3) := by decide +kernel
theorem dX8_undo_4 : decode cX8_undo 4 = .ok (.ifCond .ne 6, 3) := by decide +kernel
theorem dX8_undo_7 : decode cX8_undo 7 = .ok (.ldc 205, 2) := by decide +kernel
theorem dX8_undo_9 : decode cX8_undo 9 = .ok (.ireturn, 1) := by decide +kernel
theorem dX8_undo_10 : decode cX8_undo 10 = .ok (.aload_n 0, 1) := by decide +kernel
theorem dX8_undo_11 : decode cX8_undo 11 = .ok (.dup, 1) := by decide +kernel
theorem dX8_undo_12 : decode cX8_undo 12 = .ok (.getfield 181, 3) := by decide +kernel
theorem dX8_undo_15 : decode cX8_undo 15 = .ok (.iconst 1, 1) := by decide +kernel
theorem dX8_undo_16 : decode cX8_undo 16 = .ok (.isub, 1) := by decide +kernel
theorem dX8_undo_17 : decode cX8_undo 17 = .ok (.putfield 181, 3) := by decide +kernel
theorem dX8_undo_20 : decode cX8_undo 20 = .ok (.iconst 0, 1) := by decide +kernel
theorem dX8_undo_21 : decode cX8_undo 21 = .ok (.istore_n 1, 1) := by decide +kernel
theorem dX8_undo_22 : decode cX8_undo 22 = .ok (.iload_n 1, 1) := by decide +kernel
theorem dX8_undo_23 : decode cX8_undo 23 = .ok (.bipush 6, 2) := by decide +kernel
theorem dX8_undo_25 : decode cX8_undo 25 = .ok (.if_icmp .ge 32, 3) := by decide +kernel
theorem dX8_undo_28 : decode cX8_undo 28 = .ok (.aload_n 0, 1) := by decide +kernel
theorem dX8_undo_29 : decode cX8_undo 29 = .ok (.getfield 22, 3) := by decide +kernel
theorem dX8_undo_32 : decode cX8_undo 32 = .ok (.bipush 10, 2) := by decide +kernel
theorem dX8_undo_34 : decode cX8_undo 34 = .ok (.iload_n 1, 1) := by decide +kernel
theorem dX8_undo_35 : decode cX8_undo 35 = .ok (.iadd, 1) := by decide +kernel
theorem dX8_undo_36 : decode cX8_undo 36 = .ok (.aload_n 0, 1) := by decide +kernel
theorem dX8_undo_37 : decode cX8_undo 37 = .ok (.getfield 35, 3) := by decide +kernel
theorem dX8_undo_40 : decode cX8_undo 40 = .ok (.bipush 7, 2) := by decide +kernel
theorem dX8_undo_42 : decode cX8_undo 42 = .ok (.aload_n 0, 1) := by decide +kernel
theorem dX8_undo_43 : decode cX8_undo 43 = .ok (.getfield 181, 3) := by decide +kernel
theorem dX8_undo_46 : decode cX8_undo 46 = .ok (.imul, 1) := by decide +kernel
theorem dX8_undo_47 : decode cX8_undo 47 = .ok (.iload_n 1, 1) := by decide +kernel
theorem dX8_undo_48 : decode cX8_undo 48 = .ok (.iadd, 1) := by decide +kernel
theorem dX8_undo_49 : decode cX8_undo 49 = .ok (.iaload, 1) := by decide +kernel
theorem dX8_undo_50 : decode cX8_undo 50 = .ok (.iastore, 1) := by decide +kernel
theorem dX8_undo_51 : decode cX8_undo 51 = .ok (.iinc 1 1, 3) := by decide +kernel
theorem dX8_undo_54 : decode cX8_undo 54 = .ok (.goto (-32), 3) := by decide +kernel
theorem dX8_undo_57 : decode cX8_undo 57 = .ok (.aload_n 0, 1) := by decide +kernel
theorem dX8_undo_58 : decode cX8_undo 58 = .ok (.getfield 35, 3) := by decide +kernel
theorem dX8_undo_61 : decode cX8_undo 61 = .ok (.bipush 7, 2) := by decide +kernel
theorem dX8_undo_63 : decode cX8_undo 63 = .ok (.aload_n 0, 1) := by decide +kernel
theorem dX8_undo_64 : decode cX8_undo 64 = .ok (.getfield 181, 3) := by decide +kernel
theorem dX8_undo_67 : decode cX8_undo 67 = .ok (.imul, 1) := by decide +kernel
theorem dX8_undo_68 : decode cX8_undo 68 = .ok (.bipush 6, 2) := by decide +kernel
theorem dX8_undo_70 : decode cX8_undo 70 = .ok (.iadd, 1) := by decide +kernel
theorem dX8_undo_71 : decode cX8_undo 71 = .ok (.iaload, 1) := by decide +kernel
theorem dX8_undo_72 : decode cX8_undo 72 = .ok (.istore_n 1, 1) := by decide +kernel
theorem dX8_undo_73 : decode cX8_undo 73 = .ok (.iload_n 1, 1) := by decide +kernel
theorem dX8_undo_74 : decode cX8_undo 74 = .ok (.ldc 50, 2) := by decide +kernel
theorem dX8_undo_76 : decode cX8_undo 76 = .ok (.if_icmp .eq 16, 3) := by decide +kernel
theorem dX8_undo_79 : decode cX8_undo 79 = .ok (.aload_n 0, 1) := by decide +kernel
theorem dX8_undo_80 : decode cX8_undo 80 = .ok (.getfield 22, 3) := by decide +kernel
theorem dX8_undo_83 : decode cX8_undo 83 = .ok (.bipush 34, 2) := by decide +kernel
theorem dX8_undo_85 : decode cX8_undo 85 = .ok (.iload_n 1, 1) := by decide +kernel
theorem dX8_undo_86 : decode cX8_undo 86 = .ok (.iadd, 1) := by decide +kernel
theorem dX8_undo_87 : decode cX8_undo 87 = .ok (.dup2, 1) := by decide +kernel
theorem dX8_undo_88 : decode cX8_undo 88 = .ok (.iaload, 1) := by decide +kernel
theorem dX8_undo_89 : decode cX8_undo 89 = .ok (.iconst 1, 1) := by decide +kernel
theorem dX8_undo_90 : decode cX8_undo 90 = .ok (.isub, 1) := by decide +kernel
theorem dX8_undo_91 : decode cX8_undo 91 = .ok (.iastore, 1) := by decide +kernel
theorem dX8_undo_92 : decode cX8_undo 92 = .ok (.aload_n 0, 1) := by decide +kernel
theorem dX8_undo_93 : decode cX8_undo 93 = .ok (.getfield 181, 3) := by decide +kernel
theorem dX8_undo_96 : decode cX8_undo 96 = .ok (.ireturn, 1) := by decide +kernel
theorem dX8_isOpen_0 : decode cX8_isOpen 0 = .ok (.aload_n 0, 1) := by decide +kernel
theorem dX8_isOpen_1 : decode cX8_isOpen 1 = .ok (.getfield 22, 3) := by decide +kernel
theorem dX8_isOpen_4 : decode cX8_isOpen 4 = .ok (.bipush 10, 2) := by decide +kernel
theorem dX8_isOpen_6 : decode cX8_isOpen 6 = .ok (.iload_n 1, 1) := by decide +kernel
theorem dX8_isOpen_7 : decode cX8_isOpen 7 = .ok (.iadd, 1) := by decide +kernel
theorem dX8_isOpen_8 : decode cX8_isOpen 8 = .ok (.iaload, 1) := by decide +kernel
theorem dX8_isOpen_9 : decode cX8_isOpen 9 = .ok (.istore_n 2, 1) := by decide +kernel
theorem dX8_isOpen_10 : decode cX8_isOpen 10 = .ok (.aload_n 0, 1) := by decide +kernel
theorem dX8_isOpen_11 : decode cX8_isOpen 11 = .ok (.getfield 22, 3) := by decide +kernel
theorem dX8_isOpen_14 : decode cX8_isOpen 14 = .ok (.bipush 16, 2) := by decide +kernel
theorem dX8_isOpen_16 : decode cX8_isOpen 16 = .ok (.iload_n 1, 1) := by decide +kernel
theorem dX8_isOpen_17 : decode cX8_isOpen 17 = .ok (.iadd, 1) := by decide +kernel
theorem dX8_isOpen_18 : decode cX8_isOpen 18 = .ok (.iaload, 1) := by decide +kernel
theorem dX8_isOpen_19 : decode cX8_isOpen 19 = .ok (.aload_n 0, 1) := by decide +kernel
theorem dX8_isOpen_20 : decode cX8_isOpen 20 = .ok (.getfield 22, 3) := by decide +kernel
theorem dX8_isOpen_23 : decode cX8_isOpen 23 = .ok (.bipush 28, 2) := by decide +kernel
theorem dX8_isOpen_25 : decode cX8_isOpen 25 = .ok (.iload_n 1, 1) := by decide +kernel
theorem dX8_isOpen_26 : decode cX8_isOpen 26 = .ok (.iadd, 1) := by decide +kernel
theorem dX8_isOpen_27 : decode cX8_isOpen 27 = .ok (.iaload, 1) := by decide +kernel
theorem dX8_isOpen_28 : decode cX8_isOpen 28 = .ok (.iadd, 1) := by decide +kernel
theorem dX8_isOpen_29 : decode cX8_isOpen 29 = .ok (.istore_n 3, 1) := by decide +kernel
theorem dX8_isOpen_30 : decode cX8_isOpen 30 = .ok (.iload_n 3, 1) := by decide +kernel
theorem dX8_isOpen_31 : decode cX8_isOpen 31 = .ok (.bipush 8, 2) := by decide +kernel
theorem dX8_isOpen_33 : decode cX8_isOpen 33 = .ok (.if_icmp .ge 39, 3) := by decide +kernel
theorem dX8_isOpen_36 : decode cX8_isOpen 36 = .ok (.aload_n 0, 1) := by decide +kernel
theorem dX8_isOpen_37 : decode cX8_isOpen 37 = .ok (.getfield 22, 3) := by decide +kernel
theorem dX8_isOpen_40 : decode cX8_isOpen 40 = .ok (.bipush 40, 2) := by decide +kernel
theorem dX8_isOpen_42 : decode cX8_isOpen 42 = .ok (.iload_n 2, 1) := by decide +kernel
theorem dX8_isOpen_43 : decode cX8_isOpen 43 = .ok (.iadd, 1) := by decide +kernel
theorem dX8_isOpen_44 : decode cX8_isOpen 44 = .ok (.bipush 16, 2) := by decide +kernel
theorem dX8_isOpen_46 : decode cX8_isOpen 46 = .ok (.iload_n 3, 1) := by decide +kernel
theorem dX8_isOpen_47 : decode cX8_isOpen 47 = .ok (.imul, 1) := by decide +kernel
theorem dX8_isOpen_48 : decode cX8_isOpen 48 = .ok (.iadd, 1) := by decide +kernel
theorem dX8_isOpen_49 : decode cX8_isOpen 49 = .ok (.iaload, 1) := by decide +kernel
theorem dX8_isOpen_50 : decode cX8_isOpen 50 = .ok (.iconst 2, 1) := by decide +kernel
theorem dX8_isOpen_51 : decode cX8_isOpen 51 = .ok (.if_icmp .ne 21, 3) := by decide +kernel
theorem dX8_isOpen_54 : decode cX8_isOpen 54 = .ok (.aload_n 0, 1) := by decide +kernel
theorem dX8_isOpen_55 : decode cX8_isOpen 55 = .ok (.getfield 22, 3) := by decide +kernel
theorem dX8_isOpen_58 : decode cX8_isOpen 58 = .ok (.iload_n 2, 1) := by decide +kernel
theorem dX8_isOpen_59 : decode cX8_isOpen 59 = .ok (.iload_n 3, 1) := by decide +kernel
theorem dX8_isOpen_60 : decode cX8_isOpen 60 = .ok (.invokestatic 148, 3) := by decide +kernel
theorem dX8_isOpen_63 : decode cX8_isOpen 63 = .ok (.ldc 50, 2) := by decide +kernel
theorem dX8_isOpen_65 : decode cX8_isOpen 65 = .ok (.if_icmp .ne 7, 3) := by decide +kernel
theorem dX8_isOpen_68 : decode cX8_isOpen 68 = .ok (.iconst 1, 1) := by decide +kernel
theorem dX8_isOpen_69 : decode cX8_isOpen 69 = .ok (.goto 4, 3) := by decide +kernel
theorem dX8_isOpen_72 : decode cX8_isOpen 72 = .ok (.iconst 0, 1) := by decide +kernel
theorem dX8_isOpen_73 : decode cX8_isOpen 73 = .ok (.ireturn, 1) := by decide +kernel
theorem dX8_isBoxed_0 : decode cX8_isBoxed 0 = .ok (.iconst 1, 1) := by decide +kernel
theorem dX8_isBoxed_1 : decode cX8_isBoxed 1 = .ok (.istore_n 2, 1) := by decide +kernel
theorem dX8_isBoxed_2 : decode cX8_isBoxed 2 = .ok (.aload_n 0, 1) := by decide +kernel
theorem dX8_isBoxed_3 : decode cX8_isBoxed 3 = .ok (.getfield 22, 3) := by decide +kernel
theorem dX8_isBoxed_6 : decode cX8_isBoxed 6 = .ok (.bipush 16, 2) := by decide +kernel
theorem dX8_isBoxed_8 : decode cX8_isBoxed 8 = .ok (.iload_n 1, 1) := by decide +kernel
theorem dX8_isBoxed_9 : decode cX8_isBoxed 9 = .ok (.iadd, 1) := by decide +kernel
theorem dX8_isBoxed_10 : decode cX8_isBoxed 10 = .ok (.iaload, 1) := by decide +kernel
theorem dX8_isBoxed_11 : decode cX8_isBoxed 11 = .ok (.istore_n 3, 1) := by decide +kernel
theorem dX8_isBoxed_12 : decode cX8_isBoxed 12 = .ok (.iload_n 3, 1) := by decide +kernel
theorem dX8_isBoxed_13 : decode cX8_isBoxed 13 = .ok (.aload_n 0, 1) := by decide +kernel
theorem dX8_isBoxed_14 : decode cX8_isBoxed 14 = .ok (.getfield 22, 3) := by decide +kernel
theorem dX8_isBoxed_17 : decode cX8_isBoxed 17 = .ok (.bipush 16, 2) := by decide +kernel
theorem dX8_isBoxed_19 : decode cX8_isBoxed 19 = .ok (.iload_n 1, 1) := by decide +kernel
theorem dX8_isBoxed_20 : decode cX8_isBoxed 20 = .ok (.iadd, 1) := by decide +kernel
theorem dX8_isBoxed_21 : decode cX8_isBoxed 21 = .ok (.iaload, 1) := by decide +kernel
theorem dX8_isBoxed_22 : decode cX8_isBoxed 22 = .ok (.aload_n 0, 1) := by decide +kernel
theorem dX8_isBoxed_23 : decode cX8_isBoxed 23 = .ok (.getfield 22, 3) := by decide +kernel
theorem dX8_isBoxed_26 : decode cX8_isBoxed 26 = .ok (.bipush 28, 2) := by decide +kernel
theorem dX8_isBoxed_28 : decode cX8_isBoxed 28 = .ok (.iload_n 1, 1) := by decide +kernel
theorem dX8_isBoxed_29 : decode cX8_isBoxed 29 = .ok (.iadd, 1) := by decide +kernel
theorem dX8_isBoxed_30 : decode cX8_isBoxed 30 = .ok (.iaload, 1) := by decide +kernel
theorem dX8_isBoxed_31 : decode cX8_isBoxed 31 = .ok (.iadd, 1) := by decide +kernel
theorem dX8_isBoxed_32 : decode cX8_isBoxed 32 = .ok (.if_icmp .ge 75, 3) := by decide +kernel
theorem dX8_isBoxed_35 : decode cX8_isBoxed 35 = .ok (.iload_n 2, 1) := by decide +kernel
theorem dX8_isBoxed_36 : decode cX8_isBoxed 36 = .ok (.ifCond .eq 63, 3) := by decide +kernel
theorem dX8_isBoxed_39 : decode cX8_isBoxed 39 = .ok (.aload_n 0, 1) := by decide +kernel
theorem dX8_isBoxed_40 : decode cX8_isBoxed 40 = .ok (.getfield 22, 3) := by decide +kernel
theorem dX8_isBoxed_43 : decode cX8_isBoxed 43 = .ok (.aload_n 0, 1) := by decide +kernel
theorem dX8_isBoxed_44 : decode cX8_isBoxed 44 = .ok (.getfield 22, 3) := by decide +kernel
theorem dX8_isBoxed_47 : decode cX8_isBoxed 47 = .ok (.bipush 10, 2) := by decide +kernel
theorem dX8_isBoxed_49 : decode cX8_isBoxed 49 = .ok (.iload_n 1, 1) := by decide +kernel
theorem dX8_isBoxed_50 : decode cX8_isBoxed 50 = .ok (.iadd, 1) := by decide +kernel
theorem dX8_isBoxed_51 : decode cX8_isBoxed 51 = .ok (.iaload, 1) := by decide +kernel
theorem dX8_isBoxed_52 : decode cX8_isBoxed 52 = .ok (.iconst 1, 1) := by decide +kernel
theorem dX8_isBoxed_53 : decode cX8_isBoxed 53 = .ok (.isub, 1) := by decide +kernel
theorem dX8_isBoxed_54 : decode cX8_isBoxed 54 = .ok (.iload_n 3, 1) := by decide +kernel
theorem dX8_isBoxed_55 : decode cX8_isBoxed 55 = .ok (.invokestatic 148, 3) := by decide +kernel
theorem dX8_isBoxed_58 : decode cX8_isBoxed 58 = .ok (.ldc 50, 2) := by decide +kernel
theorem dX8_isBoxed_60 : decode cX8_isBoxed 60 = .ok (.if_icmp .eq 39, 3) := by decide +kernel
theorem dX8_isBoxed_63 : decode cX8_isBoxed 63 = .ok (.aload_n 0, 1) := by decide +kernel
theorem dX8_isBoxed_64 : decode cX8_isBoxed 64 = .ok (.getfield 22, 3) := by decide +kernel
theorem dX8_isBoxed_67 : decode cX8_isBoxed 67 = .ok (.aload_n 0, 1) := by decide +kernel
theorem dX8_isBoxed_68 : decode cX8_isBoxed 68 = .ok (.getfield 22, 3) := by decide +kernel
theorem dX8_isBoxed_71 : decode cX8_isBoxed 71 = .ok (.bipush 10, 2) := by decide +kernel
theorem dX8_isBoxed_73 : decode cX8_isBoxed 73 = .ok (.iload_n 1, 1) := by decide +kernel
theorem dX8_isBoxed_74 : decode cX8_isBoxed 74 = .ok (.iadd, 1) := by decide +kernel
theorem dX8_isBoxed_75 : decode cX8_isBoxed 75 = .ok (.iaload, 1) := by decide +kernel
theorem dX8_isBoxed_76 : decode cX8_isBoxed 76 = .ok (.aload_n 0, 1) := by decide +kernel
theorem dX8_isBoxed_77 : decode cX8_isBoxed 77 = .ok (.getfield 22, 3) := by decide +kernel
theorem dX8_isBoxed_80 : decode cX8_isBoxed 80 = .ok (.bipush 22, 2) := by decide +kernel
theorem dX8_isBoxed_82 : decode cX8_isBoxed 82 = .ok (.iload_n 1, 1) := by decide +kernel
theorem dX8_isBoxed_83 : decode cX8_isBoxed 83 = .ok (.iadd, 1) := by decide +kernel
theorem dX8_isBoxed_84 : decode cX8_isBoxed 84 = .ok (.iaload, 1) := by decide +kernel
theorem dX8_isBoxed_85 : decode cX8_isBoxed 85 = .ok (.iadd, 1) := by decide +kernel
theorem dX8_isBoxed_86 : decode cX8_isBoxed 86 = .ok (.iload_n 3, 1) := by decide +kernel
theorem dX8_isBoxed_87 : decode cX8_isBoxed 87 = .ok (.invokestatic 148, 3) := by decide +kernel
theorem dX8_isBoxed_90 : decode cX8_isBoxed 90 = .ok (.ldc 50, 2) := by decide +kernel
theorem dX8_isBoxed_92 : decode cX8_isBoxed 92 = .ok (.if_icmp .eq 7, 3) := by decide +kernel
theorem dX8_isBoxed_95 : decode cX8_isBoxed 95 = .ok (.iconst 1, 1) := by decide +kernel
theorem dX8_isBoxed_96 : decode cX8_isBoxed 96 = .ok (.goto 4, 3) := by decide +kernel
theorem dX8_isBoxed_99 : decode cX8_isBoxed 99 = .ok (.iconst 0, 1) := by decide +kernel
theorem dX8_isBoxed_100 : decode cX8_isBoxed 100 = .ok (.istore_n 2, 1) := by decide +kernel
theorem dX8_isBoxed_101 : decode cX8_isBoxed 101 = .ok (.iinc 3 1, 3) := by decide +kernel
theorem dX8_isBoxed_104 : decode cX8_isBoxed 104 = .ok (.goto (-92), 3) := by decide +kernel
theorem dX8_isBoxed_107 : decode cX8_isBoxed 107 = .ok (.iload_n 2, 1) := by decide +kernel
theorem dX8_isBoxed_108 : decode cX8_isBoxed 108 = .ok (.ireturn, 1) := by decide +kernel
theorem dX8_rentOf_0 : decode cX8_rentOf 0 = .ok (.aload_n 0, 1) := by decide +kernel
theorem dX8_rentOf_1 : decode cX8_rentOf 1 = .ok (.iload_n 1, 1) := by decide +kernel
theorem dX8_rentOf_2 : decode cX8_rentOf 2 = .ok (.invokevirtual 202, 3) := by decide +kernel
theorem dX8_rentOf_5 : decode cX8_rentOf 5 = .ok (.ifCond .eq 7, 3) := by decide +kernel
theorem dX8_rentOf_8 : decode cX8_rentOf 8 = .ok (.iconst 0, 1) := by decide +kernel
theorem dX8_rentOf_9 : decode cX8_rentOf 9 = .ok (.goto 32, 3) := by decide +kernel
theorem dX8_rentOf_12 : decode cX8_rentOf 12 = .ok (.aload_n 0, 1) := by decide +kernel
theorem dX8_rentOf_13 : decode cX8_rentOf 13 = .ok (.getfield 22, 3) := by decide +kernel
theorem dX8_rentOf_16 : decode cX8_rentOf 16 = .ok (.bipush 10, 2) := by decide +kernel
theorem dX8_rentOf_18 : decode cX8_rentOf 18 = .ok (.iload_n 1, 1) := by decide +kernel
theorem dX8_rentOf_19 : decode cX8_rentOf 19 = .ok (.iadd, 1) := by decide +kernel
theorem dX8_rentOf_20 : decode cX8_rentOf 20 = .ok (.iaload, 1) := by decide +kernel
theorem dX8_rentOf_21 : decode cX8_rentOf 21 = .ok (.aload_n 0, 1) := by decide +kernel
theorem dX8_rentOf_22 : decode cX8_rentOf 22 = .ok (.getfield 22, 3) := by decide +kernel
theorem dX8_rentOf_25 : decode cX8_rentOf 25 = .ok (.bipush 22, 2) := by decide +kernel
theorem dX8_rentOf_27 : decode cX8_rentOf 27 = .ok (.iload_n 1, 1) := by decide +kernel
theorem dX8_rentOf_28 : decode cX8_rentOf 28 = .ok (.iadd, 1) := by decide +kernel
theorem dX8_rentOf_29 : decode cX8_rentOf 29 = .ok (.iaload, 1) := by decide +kernel
theorem dX8_rentOf_30 : decode cX8_rentOf 30 = .ok (.imul, 1) := by decide +kernel
theorem dX8_rentOf_31 : decode cX8_rentOf 31 = .ok (.aload_n 0, 1) := by decide +kernel
theorem dX8_rentOf_32 : decode cX8_rentOf 32 = .ok (.getfield 22, 3) := by decide +kernel
theorem dX8_rentOf_35 : decode cX8_rentOf 35 = .ok (.bipush 28, 2) := by decide +kernel
theorem dX8_rentOf_37 : decode cX8_rentOf 37 = .ok (.iload_n 1, 1) := by decide +kernel
theorem dX8_rentOf_38 : decode cX8_rentOf 38 = .ok (.iadd, 1) := by decide +kernel
theorem dX8_rentOf_39 : decode cX8_rentOf 39 = .ok (.iaload, 1) := by decide +kernel
theorem dX8_rentOf_40 : decode cX8_rentOf 40 = .ok (.imul, 1) := by decide +kernel
theorem dX8_rentOf_41 : decode cX8_rentOf 41 = .ok (.ireturn, 1) := by decide +kernel
theorem dX8_house_0 : decode cX8_house 0 = .ok (.aload_n 0, 1) := by decide +kernel
theorem dX8_house_1 : decode cX8_house 1 = .ok (.iload_n 1, 1) := by decide +kernel
theorem dX8_house_2 : decode cX8_house 2 = .ok (.invokevirtual 199, 3) := by decide +kernel
theorem dX8_house_5 : decode cX8_house 5 = .ok (.ifCond .eq 13, 3) := by decide +kernel
theorem dX8_house_8 : decode cX8_house 8 = .ok (.iload_n 2, 1) := by decide +kernel
theorem dX8_house_9 : decode cX8_house 9 = .ok (.iconst 0, 1) := by decide +kernel
theorem dX8_house_10 : decode cX8_house 10 = .ok (.bipush 8, 2) := by decide +kernel
theorem dX8_house_12 : decode cX8_house 12 = .ok (.invokestatic 56, 3) := by decide +kernel
theorem dX8_house_15 : decode cX8_house 15 = .ok (.ifCond .ne 6, 3) := by decide +kernel
theorem dX8_house_18 : decode cX8_house 18 = .ok (.ldc 64, 2) := by decide +kernel
theorem dX8_house_20 : decode cX8_house 20 = .ok (.ireturn, 1) := by decide +kernel
theorem dX8_house_21 : decode cX8_house 21 = .ok (.iload_n 2, 1) := by decide +kernel
theorem dX8_house_22 : decode cX8_house 22 = .ok (.tableswitch 92 4 8 #[34, 48, 62, 76, 82], 34) := by decide +kernel
theorem dX8_house_56 : decode cX8_house 56 = .ok (.aload_n 0, 1) := by decide +kernel
theorem dX8_house_57 : decode cX8_house 57 = .ok (.iload_n 1, 1) := by decide +kernel
theorem dX8_house_58 : decode cX8_house 58 = .ok (.invokevirtual 202, 3) := by decide +kernel
theorem dX8_house_61 : decode cX8_house 61 = .ok (.ifCond .eq 7, 3) := by decide +kernel
theorem dX8_house_64 : decode cX8_house 64 = .ok (.iconst 1, 1) := by decide +kernel
theorem dX8_house_65 : decode cX8_house 65 = .ok (.goto 4, 3) := by decide +kernel
theorem dX8_house_68 : decode cX8_house 68 = .ok (.iconst 0, 1) := by decide +kernel
theorem dX8_house_69 : decode cX8_house 69 = .ok (.ireturn, 1) := by decide +kernel
theorem dX8_house_70 : decode cX8_house 70 = .ok (.aload_n 0, 1) := by decide +kernel
theorem dX8_house_71 : decode cX8_house 71 = .ok (.iload_n 1, 1) := by decide +kernel
theorem dX8_house_72 : decode cX8_house 72 = .ok (.invokevirtual 210, 3) := by decide +kernel
theorem dX8_house_75 : decode cX8_house 75 = .ok (.ifCond .eq 7, 3) := by decide +kernel
theorem dX8_house_78 : decode cX8_house 78 = .ok (.iconst 1, 1) := by decide +kernel
theorem dX8_house_79 : decode cX8_house 79 = .ok (.goto 4, 3) := by decide +kernel
theorem dX8_house_82 : decode cX8_house 82 = .ok (.iconst 0, 1) := by decide +kernel
theorem dX8_house_83 : decode cX8_house 83 = .ok (.ireturn, 1) := by decide +kernel
theorem dX8_house_84 : decode cX8_house 84 = .ok (.aload_n 0, 1) := by decide +kernel
theorem dX8_house_85 : decode cX8_house 85 = .ok (.iload_n 1, 1) := by decide +kernel
theorem dX8_house_86 : decode cX8_house 86 = .ok (.invokevirtual 213, 3) := by decide +kernel
theorem dX8_house_89 : decode cX8_house 89 = .ok (.ifCond .eq 7, 3) := by decide +kernel
theorem dX8_house_92 : decode cX8_house 92 = .ok (.iconst 1, 1) := by decide +kernel
theorem dX8_house_93 : decode cX8_house 93 = .ok (.goto 4, 3) := by decide +kernel
theorem dX8_house_96 : decode cX8_house 96 = .ok (.iconst 0, 1) := by decide +kernel
theorem dX8_house_97 : decode cX8_house 97 = .ok (.ireturn, 1) := by decide +kernel
theorem dX8_house_98 : decode cX8_house 98 = .ok (.aload_n 0, 1) := by decide +kernel
theorem dX8_house_99 : decode cX8_house 99 = .ok (.iload_n 1, 1) := by decide +kernel
theorem dX8_house_100 : decode cX8_house 100 = .ok (.invokevirtual 216, 3) := by decide +kernel
theorem dX8_house_103 : decode cX8_house 103 = .ok (.ireturn, 1) := by decide +kernel
theorem dX8_house_104 : decode cX8_house 104 = .ok (.aload_n 0, 1) := by decide +kernel
theorem dX8_house_105 : decode cX8_house 105 = .ok (.getfield 22, 3) := by decide +kernel
theorem dX8_house_108 : decode cX8_house 108 = .ok (.bipush 34, 2) := by decide +kernel
theorem dX8_house_110 : decode cX8_house 110 = .ok (.iload_n 1, 1) := by decide +kernel
theorem dX8_house_111 : decode cX8_house 111 = .ok (.iadd, 1) := by decide +kernel
theorem dX8_house_112 : decode cX8_house 112 = .ok (.iaload, 1) := by decide +kernel
theorem dX8_house_113 : decode cX8_house 113 = .ok (.ireturn, 1) := by decide +kernel
theorem dX8_house_114 : decode cX8_house 114 = .ok (.aload_n 0, 1) := by decide +kernel
theorem dX8_house_115 : decode cX8_house 115 = .ok (.getfield 22, 3) := by decide +kernel
theorem dX8_house_118 : decode cX8_house 118 = .ok (.bipush 10, 2) := by decide +kernel
theorem dX8_house_120 : decode cX8_house 120 = .ok (.bipush 6, 2) := by decide +kernel
theorem dX8_house_122 : decode cX8_house 122 = .ok (.iload_n 2, 1) := by decide +kernel
theorem dX8_house_123 : decode cX8_house 123 = .ok (.imul, 1) := by decide +kernel
theorem dX8_house_124 : decode cX8_house 124 = .ok (.iadd, 1) := by decide +kernel
theorem dX8_house_125 : decode cX8_house 125 = .ok (.iload_n 1, 1) := by decide +kernel
theorem dX8_house_126 : decode cX8_house 126 = .ok (.iadd, 1) := by decide +kernel
theorem dX8_house_127 : decode cX8_house 127 = .ok (.iaload, 1) := by decide +kernel
theorem dX8_house_128 : decode cX8_house 128 = .ok (.ireturn, 1) := by decide +kernel
theorem dX8_cell_0 : decode cX8_cell 0 = .ok (.aload_n 0, 1) := by decide +kernel
theorem dX8_cell_1 : decode cX8_cell 1 = .ok (.getfield 22, 3) := by decide +kernel
theorem dX8_cell_4 : decode cX8_cell 4 = .ok (.iconst 0, 1) := by decide +kernel
theorem dX8_cell_5 : decode cX8_cell 5 = .ok (.iaload, 1) := by decide +kernel
theorem dX8_cell_6 : decode cX8_cell 6 = .ok (.ifCond .ne 6, 3) := by decide +kernel
theorem dX8_cell_9 : decode cX8_cell 9 = .ok (.ldc 205, 2) := by decide +kernel
theorem dX8_cell_11 : decode cX8_cell 11 = .ok (.ireturn, 1) := by decide +kernel
theorem dX8_cell_12 : decode cX8_cell 12 = .ok (.iload_n 1, 1) := by decide +kernel
theorem dX8_cell_13 : decode cX8_cell 13 = .ok (.iconst 0, 1) := by decide +kernel
theorem dX8_cell_14 : decode cX8_cell 14 = .ok (.bipush 127, 2) := by decide +kernel
theorem dX8_cell_16 : decode cX8_cell 16 = .ok (.invokestatic 56, 3) := by decide +kernel
theorem dX8_cell_19 : decode cX8_cell 19 = .ok (.ifCond .ne 6, 3) := by decide +kernel
theorem dX8_cell_22 : decode cX8_cell 22 = .ok (.ldc 64, 2) := by decide +kernel
theorem dX8_cell_24 : decode cX8_cell 24 = .ok (.ireturn, 1) := by decide +kernel
theorem dX8_cell_25 : decode cX8_cell 25 = .ok (.aload_n 0, 1) := by decide +kernel
theorem dX8_cell_26 : decode cX8_cell 26 = .ok (.getfield 22, 3) := by decide +kernel
theorem dX8_cell_29 : decode cX8_cell 29 = .ok (.iload_n 1, 1) := by decide +kernel
theorem dX8_cell_30 : decode cX8_cell 30 = .ok (.bipush 16, 2) := by decide +kernel
theorem dX8_cell_32 : decode cX8_cell 32 = .ok (.irem, 1) := by decide +kernel
theorem dX8_cell_33 : decode cX8_cell 33 = .ok (.iload_n 1, 1) := by decide +kernel
theorem dX8_cell_34 : decode cX8_cell 34 = .ok (.bipush 16, 2) := by decide +kernel
theorem dX8_cell_36 : decode cX8_cell 36 = .ok (.idiv, 1) := by decide +kernel
theorem dX8_cell_37 : decode cX8_cell 37 = .ok (.invokestatic 148, 3) := by decide +kernel
theorem dX8_cell_40 : decode cX8_cell 40 = .ok (.istore_n 2, 1) := by decide +kernel
theorem dX8_cell_41 : decode cX8_cell 41 = .ok (.iload_n 2, 1) := by decide +kernel
theorem dX8_cell_42 : decode cX8_cell 42 = .ok (.ldc 50, 2) := by decide +kernel
theorem dX8_cell_44 : decode cX8_cell 44 = .ok (.if_icmp .eq 5, 3) := by decide +kernel
theorem dX8_cell_47 : decode cX8_cell 47 = .ok (.iload_n 2, 1) := by decide +kernel
theorem dX8_cell_48 : decode cX8_cell 48 = .ok (.ireturn, 1) := by decide +kernel
theorem dX8_cell_49 : decode cX8_cell 49 = .ok (.aload_n 0, 1) := by decide +kernel
theorem dX8_cell_50 : decode cX8_cell 50 = .ok (.getfield 22, 3) := by decide +kernel
theorem dX8_cell_53 : decode cX8_cell 53 = .ok (.bipush 40, 2) := by decide +kernel
theorem dX8_cell_55 : decode cX8_cell 55 = .ok (.iload_n 1, 1) := by decide +kernel
theorem dX8_cell_56 : decode cX8_cell 56 = .ok (.iadd, 1) := by decide +kernel
theorem dX8_cell_57 : decode cX8_cell 57 = .ok (.iaload, 1) := by decide +kernel
theorem dX8_cell_58 : decode cX8_cell 58 = .ok (.istore_n 3, 1) := by decide +kernel
theorem dX8_cell_59 : decode cX8_cell 59 = .ok (.iload_n 3, 1) := by decide +kernel
theorem dX8_cell_60 : decode cX8_cell 60 = .ok (.iconst 1, 1) := by decide +kernel
theorem dX8_cell_61 : decode cX8_cell 61 = .ok (.iand, 1) := by decide +kernel
theorem dX8_cell_62 : decode cX8_cell 62 = .ok (.iconst 1, 1) := by decide +kernel
theorem dX8_cell_63 : decode cX8_cell 63 = .ok (.if_icmp .ne 7, 3) := by decide +kernel
theorem dX8_cell_66 : decode cX8_cell 66 = .ok (.iconst (-1), 1) := by decide +kernel
theorem dX8_cell_67 : decode cX8_cell 67 = .ok (.goto 33, 3) := by decide +kernel
theorem dX8_cell_70 : decode cX8_cell 70 = .ok (.iload_n 3, 1) := by decide +kernel
theorem dX8_cell_71 : decode cX8_cell 71 = .ok (.iconst 2, 1) := by decide +kernel
theorem dX8_cell_72 : decode cX8_cell 72 = .ok (.if_icmp .ne 8, 3) := by decide +kernel
theorem dX8_cell_75 : decode cX8_cell 75 = .ok (.bipush (-2), 2) := by decide +kernel
theorem dX8_cell_77 : decode cX8_cell 77 = .ok (.goto 23, 3) := by decide +kernel
theorem dX8_cell_80 : decode cX8_cell 80 = .ok (.iload_n 1, 1) := by decide +kernel
theorem dX8_cell_81 : decode cX8_cell 81 = .ok (.bipush 16, 2) := by decide +kernel
theorem dX8_cell_83 : decode cX8_cell 83 = .ok (.irem, 1) := by decide +kernel
theorem dX8_cell_84 : decode cX8_cell 84 = .ok (.aload_n 0, 1) := by decide +kernel
theorem dX8_cell_85 : decode cX8_cell 85 = .ok (.getfield 22, 3) := by decide +kernel
theorem dX8_cell_88 : decode cX8_cell 88 = .ok (.iconst 2, 1) := by decide +kernel
theorem dX8_cell_89 : decode cX8_cell 89 = .ok (.iaload, 1) := by decide +kernel
theorem dX8_cell_90 : decode cX8_cell 90 = .ok (.if_icmp .lt 8, 3) := by decide +kernel
theorem dX8_cell_93 : decode cX8_cell 93 = .ok (.bipush (-3), 2) := by decide +kernel
theorem dX8_cell_95 : decode cX8_cell 95 = .ok (.goto 5, 3) := by decide +kernel
theorem dX8_cell_98 : decode cX8_cell 98 = .ok (.bipush (-4), 2) := by decide +kernel
theorem dX8_cell_100 : decode cX8_cell 100 = .ok (.ireturn, 1) := by decide +kernel
theorem dX8_putAside_0 : decode cX8_putAside 0 = .ok (.iconst 0, 1) := by decide +kernel
theorem dX8_putAside_1 : decode cX8_putAside 1 = .ok (.istore_n 1, 1) := by decide +kernel
theorem dX8_putAside_2 : decode cX8_putAside 2 = .ok (.iload_n 1, 1) := by decide +kernel
theorem dX8_putAside_3 : decode cX8_putAside 3 = .ok (.bipush 6, 2) := by decide +kernel
theorem dX8_putAside_5 : decode cX8_putAside 5 = .ok (.if_icmp .ge 24, 3) := by decide +kernel
theorem dX8_putAside_8 : decode cX8_putAside 8 = .ok (.aload_n 0, 1) := by decide +kernel
theorem dX8_putAside_9 : decode cX8_putAside 9 = .ok (.getfield 38, 3) := by decide +kernel
theorem dX8_putAside_12 : decode cX8_putAside 12 = .ok (.iload_n 1, 1) := by decide +kernel
theorem dX8_putAside_13 : decode cX8_putAside 13 = .ok (.aload_n 0, 1) := by decide +kernel
theorem dX8_putAside_14 : decode cX8_putAside 14 = .ok (.getfield 22, 3) := by decide +kernel
theorem dX8_putAside_17 : decode cX8_putAside 17 = .ok (.bipush 10, 2) := by decide +kernel
theorem dX8_putAside_19 : decode cX8_putAside 19 = .ok (.iload_n 1, 1) := by decide +kernel
theorem dX8_putAside_20 : decode cX8_putAside 20 = .ok (.iadd, 1) := by decide +kernel
theorem dX8_putAside_21 : decode cX8_putAside 21 = .ok (.iaload, 1) := by decide +kernel
theorem dX8_putAside_22 : decode cX8_putAside 22 = .ok (.iastore, 1) := by decide +kernel
theorem dX8_putAside_23 : decode cX8_putAside 23 = .ok (.iinc 1 1, 3) := by decide +kernel
theorem dX8_putAside_26 : decode cX8_putAside 26 = .ok (.goto (-24), 3) := by decide +kernel
theorem dX8_putAside_29 : decode cX8_putAside 29 = .ok (.return_, 1) := by decide +kernel
theorem dX8_putBack_0 : decode cX8_putBack 0 = .ok (.iconst 0, 1) := by decide +kernel
theorem dX8_putBack_1 : decode cX8_putBack 1 = .ok (.istore_n 1, 1) := by decide +kernel
theorem dX8_putBack_2 : decode cX8_putBack 2 = .ok (.iload_n 1, 1) := by decide +kernel
theorem dX8_putBack_3 : decode cX8_putBack 3 = .ok (.bipush 6, 2) := by decide +kernel
theorem dX8_putBack_5 : decode cX8_putBack 5 = .ok (.if_icmp .ge 24, 3) := by decide +kernel
theorem dX8_putBack_8 : decode cX8_putBack 8 = .ok (.aload_n 0, 1) := by decide +kernel
theorem dX8_putBack_9 : decode cX8_putBack 9 = .ok (.getfield 22, 3) := by decide +kernel
theorem dX8_putBack_12 : decode cX8_putBack 12 = .ok (.bipush 10, 2) := by decide +kernel
theorem dX8_putBack_14 : decode cX8_putBack 14 = .ok (.iload_n 1, 1) := by decide +kernel
theorem dX8_putBack_15 : decode cX8_putBack 15 = .ok (.iadd, 1) := by decide +kernel
theorem dX8_putBack_16 : decode cX8_putBack 16 = .ok (.aload_n 0, 1) := by decide +kernel
theorem dX8_putBack_17 : decode cX8_putBack 17 = .ok (.getfield 38, 3) := by decide +kernel
theorem dX8_putBack_20 : decode cX8_putBack 20 = .ok (.iload_n 1, 1) := by decide +kernel
theorem dX8_putBack_21 : decode cX8_putBack 21 = .ok (.iaload, 1) := by decide +kernel
theorem dX8_putBack_22 : decode cX8_putBack 22 = .ok (.iastore, 1) := by decide +kernel
theorem dX8_putBack_23 : decode cX8_putBack 23 = .ok (.iinc 1 1, 3) := by decide +kernel
theorem dX8_putBack_26 : decode cX8_putBack 26 = .ok (.goto (-24), 3) := by decide +kernel
theorem dX8_putBack_29 : decode cX8_putBack 29 = .ok (.return_, 1) := by decide +kernel
theorem dX8_whyNot_0 : decode cX8_whyNot 0 = .ok (.aload_n 0, 1) := by decide +kernel
theorem dX8_whyNot_1 : decode cX8_whyNot 1 = .ok (.getfield 22, 3) := by decide +kernel
theorem dX8_whyNot_4 : decode cX8_whyNot 4 = .ok (.iconst 0, 1) := by decide +kernel
theorem dX8_whyNot_5 : decode cX8_whyNot 5 = .ok (.iaload, 1) := by decide +kernel
theorem dX8_whyNot_6 : decode cX8_whyNot 6 = .ok (.ifCond .ne 6, 3) := by decide +kernel
theorem dX8_whyNot_9 : decode cX8_whyNot 9 = .ok (.ldc 205, 2) := by decide +kernel
theorem dX8_whyNot_11 : decode cX8_whyNot 11 = .ok (.ireturn, 1) := by decide +kernel
theorem dX8_whyNot_12 : decode cX8_whyNot 12 = .ok (.iload_n 1, 1) := by decide +kernel
theorem dX8_whyNot_13 : decode cX8_whyNot 13 = .ok (.invokestatic 60, 3) := by decide +kernel
theorem dX8_whyNot_16 : decode cX8_whyNot 16 = .ok (.ifCond .eq 25, 3) := by decide +kernel
theorem dX8_whyNot_19 : decode cX8_whyNot 19 = .ok (.iload_n 3, 1) := by decide +kernel
theorem dX8_whyNot_20 : decode cX8_whyNot 20 = .ok (.invokestatic 60, 3) := by decide +kernel
theorem dX8_whyNot_23 : decode cX8_whyNot 23 = .ok (.ifCond .eq 18, 3) := by decide +kernel
theorem dX8_whyNot_26 : decode cX8_whyNot 26 = .ok (.iload_n 2, 1) := by decide +kernel
theorem dX8_whyNot_27 : decode cX8_whyNot 27 = .ok (.iconst 1, 1) := by decide +kernel
theorem dX8_whyNot_28 : decode cX8_whyNot 28 = .ok (.bipush 8, 2) := by decide +kernel
theorem dX8_whyNot_30 : decode cX8_whyNot 30 = .ok (.invokestatic 56, 3) := by decide +kernel
theorem dX8_whyNot_33 : decode cX8_whyNot 33 = .ok (.ifCond .eq 8, 3) := by decide +kernel
theorem dX8_whyNot_36 : decode cX8_whyNot 36 = .ok (.iload 4, 2) := by decide +kernel
theorem dX8_whyNot_38 : decode cX8_whyNot 38 = .ok (.ifCond .ne 6, 3) := by decide +kernel
theorem dX8_whyNot_41 : decode cX8_whyNot 41 = .ok (.ldc 64, 2) := by decide +kernel
theorem dX8_whyNot_43 : decode cX8_whyNot 43 = .ok (.ireturn, 1) := by decide +kernel
theorem dX8_whyNot_44 : decode cX8_whyNot 44 = .ok (.aload_n 0, 1) := by decide +kernel
theorem dX8_whyNot_45 : decode cX8_whyNot 45 = .ok (.iload_n 1, 1) := by decide +kernel
theorem dX8_whyNot_46 : decode cX8_whyNot 46 = .ok (.invokevirtual 72, 3) := by decide +kernel
theorem dX8_whyNot_49 : decode cX8_whyNot 49 = .ok (.ifCond .ne 11, 3) := by decide +kernel
theorem dX8_whyNot_52 : decode cX8_whyNot 52 = .ok (.aload_n 0, 1) := by decide +kernel
theorem dX8_whyNot_53 : decode cX8_whyNot 53 = .ok (.iload_n 3, 1) := by decide +kernel
theorem dX8_whyNot_54 : decode cX8_whyNot 54 = .ok (.invokevirtual 72, 3) := by decide +kernel
end
section
theorem dX8_whyNot_57 : decode cX8_whyNot 57 = .ok (.ifCond .eq 9, 3) := by decide +kernel
theorem dX8_whyNot_60 : decode cX8_whyNot 60 = .ok (.aload_n 0, 1) := by decide +kernel
theorem dX8_whyNot_61 : decode cX8_whyNot 61 = .ok (.iconst 1, 1) := by decide +kernel
theorem dX8_whyNot_62 : decode cX8_whyNot 62 = .ok (.invokevirtual 65, 3) := by decide +kernel
theorem dX8_whyNot_65 : decode cX8_whyNot 65 = .ok (.ireturn, 1) := by decide +kernel
theorem dX8_whyNot_66 : decode cX8_whyNot 66 = .ok (.aload_n 0, 1) := by decide +kernel
theorem dX8_whyNot_67 : decode cX8_whyNot 67 = .ok (.getfield 13, 3) := by decide +kernel
theorem dX8_whyNot_70 : decode cX8_whyNot 70 = .ok (.iload_n 1, 1) := by decide +kernel
theorem dX8_whyNot_71 : decode cX8_whyNot 71 = .ok (.iaload, 1) := by decide +kernel
theorem dX8_whyNot_72 : decode cX8_whyNot 72 = .ok (.iload_n 2, 1) := by decide +kernel
theorem dX8_whyNot_73 : decode cX8_whyNot 73 = .ok (.if_icmp .lt 18, 3) := by decide +kernel
theorem dX8_whyNot_76 : decode cX8_whyNot 76 = .ok (.aload_n 0, 1) := by decide +kernel
theorem dX8_whyNot_77 : decode cX8_whyNot 77 = .ok (.getfield 13, 3) := by decide +kernel
theorem dX8_whyNot_80 : decode cX8_whyNot 80 = .ok (.iload_n 3, 1) := by decide +kernel
theorem dX8_whyNot_81 : decode cX8_whyNot 81 = .ok (.iaload, 1) := by decide +kernel
theorem dX8_whyNot_82 : decode cX8_whyNot 82 = .ok (.aload_n 0, 1) := by decide +kernel
theorem dX8_whyNot_83 : decode cX8_whyNot 83 = .ok (.getfield 22, 3) := by decide +kernel
theorem dX8_whyNot_86 : decode cX8_whyNot 86 = .ok (.iconst 3, 1) := by decide +kernel
theorem dX8_whyNot_87 : decode cX8_whyNot 87 = .ok (.iaload, 1) := by decide +kernel
theorem dX8_whyNot_88 : decode cX8_whyNot 88 = .ok (.if_icmp .ge 9, 3) := by decide +kernel
theorem dX8_whyNot_91 : decode cX8_whyNot 91 = .ok (.aload_n 0, 1) := by decide +kernel
theorem dX8_whyNot_92 : decode cX8_whyNot 92 = .ok (.iconst 2, 1) := by decide +kernel
theorem dX8_whyNot_93 : decode cX8_whyNot 93 = .ok (.invokevirtual 65, 3) := by decide +kernel
theorem dX8_whyNot_96 : decode cX8_whyNot 96 = .ok (.ireturn, 1) := by decide +kernel
theorem dX8_whyNot_97 : decode cX8_whyNot 97 = .ok (.iconst 0, 1) := by decide +kernel
theorem dX8_whyNot_98 : decode cX8_whyNot 98 = .ok (.istore 5, 2) := by decide +kernel
theorem dX8_whyNot_100 : decode cX8_whyNot 100 = .ok (.iload 5, 2) := by decide +kernel
theorem dX8_whyNot_102 : decode cX8_whyNot 102 = .ok (.iload_n 2, 1) := by decide +kernel
theorem dX8_whyNot_103 : decode cX8_whyNot 103 = .ok (.if_icmp .ge 31, 3) := by decide +kernel
theorem dX8_whyNot_106 : decode cX8_whyNot 106 = .ok (.aload_n 0, 1) := by decide +kernel
theorem dX8_whyNot_107 : decode cX8_whyNot 107 = .ok (.aload_n 0, 1) := by decide +kernel
theorem dX8_whyNot_108 : decode cX8_whyNot 108 = .ok (.getfield 16, 3) := by decide +kernel
theorem dX8_whyNot_111 : decode cX8_whyNot 111 = .ok (.bipush 40, 2) := by decide +kernel
theorem dX8_whyNot_113 : decode cX8_whyNot 113 = .ok (.iload_n 1, 1) := by decide +kernel
theorem dX8_whyNot_114 : decode cX8_whyNot 114 = .ok (.imul, 1) := by decide +kernel
theorem dX8_whyNot_115 : decode cX8_whyNot 115 = .ok (.iload 5, 2) := by decide +kernel
theorem dX8_whyNot_117 : decode cX8_whyNot 117 = .ok (.iadd, 1) := by decide +kernel
theorem dX8_whyNot_118 : decode cX8_whyNot 118 = .ok (.iaload, 1) := by decide +kernel
theorem dX8_whyNot_119 : decode cX8_whyNot 119 = .ok (.invokevirtual 199, 3) := by decide +kernel
theorem dX8_whyNot_122 : decode cX8_whyNot 122 = .ok (.ifCond .ne 6, 3) := by decide +kernel
theorem dX8_whyNot_125 : decode cX8_whyNot 125 = .ok (.ldc 64, 2) := by decide +kernel
theorem dX8_whyNot_127 : decode cX8_whyNot 127 = .ok (.ireturn, 1) := by decide +kernel
theorem dX8_whyNot_128 : decode cX8_whyNot 128 = .ok (.iinc 5 1, 3) := by decide +kernel
theorem dX8_whyNot_131 : decode cX8_whyNot 131 = .ok (.goto (-31), 3) := by decide +kernel
theorem dX8_whyNot_134 : decode cX8_whyNot 134 = .ok (.aload_n 0, 1) := by decide +kernel
theorem dX8_whyNot_135 : decode cX8_whyNot 135 = .ok (.iconst 0, 1) := by decide +kernel
theorem dX8_whyNot_136 : decode cX8_whyNot 136 = .ok (.putfield 51, 3) := by decide +kernel
theorem dX8_whyNot_139 : decode cX8_whyNot 139 = .ok (.iconst 0, 1) := by decide +kernel
theorem dX8_whyNot_140 : decode cX8_whyNot 140 = .ok (.ireturn, 1) := by decide +kernel
theorem dX8_isSo_0 : decode cX8_isSo 0 = .ok (.aload_n 0, 1) := by decide +kernel
theorem dX8_isSo_1 : decode cX8_isSo 1 = .ok (.invokevirtual 219, 3) := by decide +kernel
theorem dX8_isSo_4 : decode cX8_isSo 4 = .ok (.iconst 0, 1) := by decide +kernel
theorem dX8_isSo_5 : decode cX8_isSo 5 = .ok (.istore 5, 2) := by decide +kernel
theorem dX8_isSo_7 : decode cX8_isSo 7 = .ok (.iconst 0, 1) := by decide +kernel
theorem dX8_isSo_8 : decode cX8_isSo 8 = .ok (.istore 6, 2) := by decide +kernel
theorem dX8_isSo_10 : decode cX8_isSo 10 = .ok (.iload 6, 2) := by decide +kernel
theorem dX8_isSo_12 : decode cX8_isSo 12 = .ok (.iload_n 2, 1) := by decide +kernel
theorem dX8_isSo_13 : decode cX8_isSo 13 = .ok (.if_icmp .ge 40, 3) := by decide +kernel
theorem dX8_isSo_16 : decode cX8_isSo 16 = .ok (.iload 4, 2) := by decide +kernel
theorem dX8_isSo_18 : decode cX8_isSo 18 = .ok (.iload 6, 2) := by decide +kernel
theorem dX8_isSo_20 : decode cX8_isSo 20 = .ok (.invokestatic 184, 3) := by decide +kernel
theorem dX8_isSo_23 : decode cX8_isSo 23 = .ok (.ifCond .eq 24, 3) := by decide +kernel
theorem dX8_isSo_26 : decode cX8_isSo 26 = .ok (.iload 5, 2) := by decide +kernel
theorem dX8_isSo_28 : decode cX8_isSo 28 = .ok (.aload_n 0, 1) := by decide +kernel
theorem dX8_isSo_29 : decode cX8_isSo 29 = .ok (.aload_n 0, 1) := by decide +kernel
theorem dX8_isSo_30 : decode cX8_isSo 30 = .ok (.getfield 16, 3) := by decide +kernel
theorem dX8_isSo_33 : decode cX8_isSo 33 = .ok (.bipush 40, 2) := by decide +kernel
theorem dX8_isSo_35 : decode cX8_isSo 35 = .ok (.iload_n 1, 1) := by decide +kernel
theorem dX8_isSo_36 : decode cX8_isSo 36 = .ok (.imul, 1) := by decide +kernel
theorem dX8_isSo_37 : decode cX8_isSo 37 = .ok (.iload 6, 2) := by decide +kernel
theorem dX8_isSo_39 : decode cX8_isSo 39 = .ok (.iadd, 1) := by decide +kernel
theorem dX8_isSo_40 : decode cX8_isSo 40 = .ok (.iaload, 1) := by decide +kernel
theorem dX8_isSo_41 : decode cX8_isSo 41 = .ok (.invokevirtual 196, 3) := by decide +kernel
theorem dX8_isSo_44 : decode cX8_isSo 44 = .ok (.ior, 1) := by decide +kernel
theorem dX8_isSo_45 : decode cX8_isSo 45 = .ok (.istore 5, 2) := by decide +kernel
theorem dX8_isSo_47 : decode cX8_isSo 47 = .ok (.iinc 6 1, 3) := by decide +kernel
theorem dX8_isSo_50 : decode cX8_isSo 50 = .ok (.goto (-40), 3) := by decide +kernel
theorem dX8_isSo_53 : decode cX8_isSo 53 = .ok (.iload 5, 2) := by decide +kernel
theorem dX8_isSo_55 : decode cX8_isSo 55 = .ok (.ifCond .lt 7, 3) := by decide +kernel
theorem dX8_isSo_58 : decode cX8_isSo 58 = .ok (.iconst 1, 1) := by decide +kernel
theorem dX8_isSo_59 : decode cX8_isSo 59 = .ok (.goto 4, 3) := by decide +kernel
theorem dX8_isSo_62 : decode cX8_isSo 62 = .ok (.iconst 0, 1) := by decide +kernel
theorem dX8_isSo_63 : decode cX8_isSo 63 = .ok (.istore 6, 2) := by decide +kernel
theorem dX8_isSo_65 : decode cX8_isSo 65 = .ok (.iconst 0, 1) := by decide +kernel
theorem dX8_isSo_66 : decode cX8_isSo 66 = .ok (.istore 7, 2) := by decide +kernel
theorem dX8_isSo_68 : decode cX8_isSo 68 = .ok (.iload 7, 2) := by decide +kernel
theorem dX8_isSo_70 : decode cX8_isSo 70 = .ok (.aload_n 0, 1) := by decide +kernel
theorem dX8_isSo_71 : decode cX8_isSo 71 = .ok (.getfield 22, 3) := by decide +kernel
theorem dX8_isSo_74 : decode cX8_isSo 74 = .ok (.iconst 3, 1) := by decide +kernel
theorem dX8_isSo_75 : decode cX8_isSo 75 = .ok (.iaload, 1) := by decide +kernel
theorem dX8_isSo_76 : decode cX8_isSo 76 = .ok (.if_icmp .ge 46, 3) := by decide +kernel
theorem dX8_isSo_79 : decode cX8_isSo 79 = .ok (.iload 6, 2) := by decide +kernel
theorem dX8_isSo_81 : decode cX8_isSo 81 = .ok (.ifCond .eq 32, 3) := by decide +kernel
theorem dX8_isSo_84 : decode cX8_isSo 84 = .ok (.aload_n 0, 1) := by decide +kernel
theorem dX8_isSo_85 : decode cX8_isSo 85 = .ok (.getfield 22, 3) := by decide +kernel
theorem dX8_isSo_88 : decode cX8_isSo 88 = .ok (.bipush 10, 2) := by decide +kernel
theorem dX8_isSo_90 : decode cX8_isSo 90 = .ok (.iload 7, 2) := by decide +kernel
theorem dX8_isSo_92 : decode cX8_isSo 92 = .ok (.iadd, 1) := by decide +kernel
theorem dX8_isSo_93 : decode cX8_isSo 93 = .ok (.iaload, 1) := by decide +kernel
theorem dX8_isSo_94 : decode cX8_isSo 94 = .ok (.aload_n 0, 1) := by decide +kernel
theorem dX8_isSo_95 : decode cX8_isSo 95 = .ok (.getfield 16, 3) := by decide +kernel
theorem dX8_isSo_98 : decode cX8_isSo 98 = .ok (.bipush 40, 2) := by decide +kernel
theorem dX8_isSo_100 : decode cX8_isSo 100 = .ok (.iload_n 3, 1) := by decide +kernel
theorem dX8_isSo_101 : decode cX8_isSo 101 = .ok (.imul, 1) := by decide +kernel
theorem dX8_isSo_102 : decode cX8_isSo 102 = .ok (.iload 7, 2) := by decide +kernel
theorem dX8_isSo_104 : decode cX8_isSo 104 = .ok (.iadd, 1) := by decide +kernel
theorem dX8_isSo_105 : decode cX8_isSo 105 = .ok (.iaload, 1) := by decide +kernel
theorem dX8_isSo_106 : decode cX8_isSo 106 = .ok (.if_icmp .ne 7, 3) := by decide +kernel
theorem dX8_isSo_109 : decode cX8_isSo 109 = .ok (.iconst 1, 1) := by decide +kernel
theorem dX8_isSo_110 : decode cX8_isSo 110 = .ok (.goto 4, 3) := by decide +kernel
theorem dX8_isSo_113 : decode cX8_isSo 113 = .ok (.iconst 0, 1) := by decide +kernel
theorem dX8_isSo_114 : decode cX8_isSo 114 = .ok (.istore 6, 2) := by decide +kernel
theorem dX8_isSo_116 : decode cX8_isSo 116 = .ok (.iinc 7 1, 3) := by decide +kernel
theorem dX8_isSo_119 : decode cX8_isSo 119 = .ok (.goto (-51), 3) := by decide +kernel
theorem dX8_isSo_122 : decode cX8_isSo 122 = .ok (.aload_n 0, 1) := by decide +kernel
theorem dX8_isSo_123 : decode cX8_isSo 123 = .ok (.invokevirtual 222, 3) := by decide +kernel
theorem dX8_isSo_126 : decode cX8_isSo 126 = .ok (.iload 6, 2) := by decide +kernel
theorem dX8_isSo_128 : decode cX8_isSo 128 = .ok (.ireturn, 1) := by decide +kernel
theorem dX8_lies_0 : decode cX8_lies 0 = .ok (.aload_n 0, 1) := by decide +kernel
theorem dX8_lies_1 : decode cX8_lies 1 = .ok (.iload_n 1, 1) := by decide +kernel
theorem dX8_lies_2 : decode cX8_lies 2 = .ok (.iload_n 2, 1) := by decide +kernel
theorem dX8_lies_3 : decode cX8_lies 3 = .ok (.iload_n 3, 1) := by decide +kernel
theorem dX8_lies_4 : decode cX8_lies 4 = .ok (.iload 4, 2) := by decide +kernel
theorem dX8_lies_6 : decode cX8_lies 6 = .ok (.iconst (-1), 1) := by decide +kernel
theorem dX8_lies_7 : decode cX8_lies 7 = .ok (.if_icmp .lt 7, 3) := by decide +kernel
theorem dX8_lies_10 : decode cX8_lies 10 = .ok (.iconst 1, 1) := by decide +kernel
theorem dX8_lies_11 : decode cX8_lies 11 = .ok (.goto 4, 3) := by decide +kernel
theorem dX8_lies_14 : decode cX8_lies 14 = .ok (.iconst 0, 1) := by decide +kernel
theorem dX8_lies_15 : decode cX8_lies 15 = .ok (.invokevirtual 225, 3) := by decide +kernel
theorem dX8_lies_18 : decode cX8_lies 18 = .ok (.istore 5, 2) := by decide +kernel
theorem dX8_lies_20 : decode cX8_lies 20 = .ok (.iload 5, 2) := by decide +kernel
theorem dX8_lies_22 : decode cX8_lies 22 = .ok (.ifCond .eq 6, 3) := by decide +kernel
theorem dX8_lies_25 : decode cX8_lies 25 = .ok (.iload 5, 2) := by decide +kernel
theorem dX8_lies_27 : decode cX8_lies 27 = .ok (.ireturn, 1) := by decide +kernel
theorem dX8_lies_28 : decode cX8_lies 28 = .ok (.iconst 0, 1) := by decide +kernel
theorem dX8_lies_29 : decode cX8_lies 29 = .ok (.istore 6, 2) := by decide +kernel
theorem dX8_lies_31 : decode cX8_lies 31 = .ok (.iconst 0, 1) := by decide +kernel
theorem dX8_lies_32 : decode cX8_lies 32 = .ok (.istore 7, 2) := by decide +kernel
theorem dX8_lies_34 : decode cX8_lies 34 = .ok (.iload 7, 2) := by decide +kernel
theorem dX8_lies_36 : decode cX8_lies 36 = .ok (.iconst 1, 1) := by decide +kernel
theorem dX8_lies_37 : decode cX8_lies 37 = .ok (.iload_n 2, 1) := by decide +kernel
theorem dX8_lies_38 : decode cX8_lies 38 = .ok (.ishl, 1) := by decide +kernel
theorem dX8_lies_39 : decode cX8_lies 39 = .ok (.if_icmp .ge 34, 3) := by decide +kernel
theorem dX8_lies_42 : decode cX8_lies 42 = .ok (.aload_n 0, 1) := by decide +kernel
theorem dX8_lies_43 : decode cX8_lies 43 = .ok (.iload_n 1, 1) := by decide +kernel
theorem dX8_lies_44 : decode cX8_lies 44 = .ok (.iload_n 2, 1) := by decide +kernel
theorem dX8_lies_45 : decode cX8_lies 45 = .ok (.iload_n 3, 1) := by decide +kernel
theorem dX8_lies_46 : decode cX8_lies 46 = .ok (.iload 7, 2) := by decide +kernel
theorem dX8_lies_48 : decode cX8_lies 48 = .ok (.invokevirtual 229, 3) := by decide +kernel
theorem dX8_lies_51 : decode cX8_lies 51 = .ok (.ifCond .eq 16, 3) := by decide +kernel
theorem dX8_lies_54 : decode cX8_lies 54 = .ok (.iload 6, 2) := by decide +kernel
theorem dX8_lies_56 : decode cX8_lies 56 = .ok (.iload 4, 2) := by decide +kernel
theorem dX8_lies_58 : decode cX8_lies 58 = .ok (.if_icmp .ne 6, 3) := by decide +kernel
theorem dX8_lies_61 : decode cX8_lies 61 = .ok (.iload 7, 2) := by decide +kernel
theorem dX8_lies_63 : decode cX8_lies 63 = .ok (.ireturn, 1) := by decide +kernel
theorem dX8_lies_64 : decode cX8_lies 64 = .ok (.iinc 6 1, 3) := by decide +kernel
theorem dX8_lies_67 : decode cX8_lies 67 = .ok (.iinc 7 1, 3) := by decide +kernel
theorem dX8_lies_70 : decode cX8_lies 70 = .ok (.goto (-36), 3) := by decide +kernel
theorem dX8_lies_73 : decode cX8_lies 73 = .ok (.iload 4, 2) := by decide +kernel
theorem dX8_lies_75 : decode cX8_lies 75 = .ok (.iconst (-1), 1) := by decide +kernel
theorem dX8_lies_76 : decode cX8_lies 76 = .ok (.if_icmp .ne 8, 3) := by decide +kernel
theorem dX8_lies_79 : decode cX8_lies 79 = .ok (.iload 6, 2) := by decide +kernel
theorem dX8_lies_81 : decode cX8_lies 81 = .ok (.goto 5, 3) := by decide +kernel
theorem dX8_lies_84 : decode cX8_lies 84 = .ok (.ldc 50, 2) := by decide +kernel
theorem dX8_lies_86 : decode cX8_lies 86 = .ok (.ireturn, 1) := by decide +kernel
theorem dX8_bits_0 : decode cX8_bits 0 = .ok (.iconst 0, 1) := by decide +kernel
theorem dX8_bits_1 : decode cX8_bits 1 = .ok (.istore_n 1, 1) := by decide +kernel
theorem dX8_bits_2 : decode cX8_bits 2 = .ok (.iconst 0, 1) := by decide +kernel
theorem dX8_bits_3 : decode cX8_bits 3 = .ok (.istore_n 2, 1) := by decide +kernel
theorem dX8_bits_4 : decode cX8_bits 4 = .ok (.iload_n 2, 1) := by decide +kernel
theorem dX8_bits_5 : decode cX8_bits 5 = .ok (.bipush 8, 2) := by decide +kernel
theorem dX8_bits_7 : decode cX8_bits 7 = .ok (.if_icmp .ge 17, 3) := by decide +kernel
theorem dX8_bits_10 : decode cX8_bits 10 = .ok (.iload_n 1, 1) := by decide +kernel
theorem dX8_bits_11 : decode cX8_bits 11 = .ok (.iload_n 0, 1) := by decide +kernel
theorem dX8_bits_12 : decode cX8_bits 12 = .ok (.iload_n 2, 1) := by decide +kernel
theorem dX8_bits_13 : decode cX8_bits 13 = .ok (.ishr, 1) := by decide +kernel
theorem dX8_bits_14 : decode cX8_bits 14 = .ok (.iconst 1, 1) := by decide +kernel
theorem dX8_bits_15 : decode cX8_bits 15 = .ok (.iand, 1) := by decide +kernel
theorem dX8_bits_16 : decode cX8_bits 16 = .ok (.iadd, 1) := by decide +kernel
theorem dX8_bits_17 : decode cX8_bits 17 = .ok (.istore_n 1, 1) := by decide +kernel
theorem dX8_bits_18 : decode cX8_bits 18 = .ok (.iinc 2 1, 3) := by decide +kernel
theorem dX8_bits_21 : decode cX8_bits 21 = .ok (.goto (-17), 3) := by decide +kernel
theorem dX8_bits_24 : decode cX8_bits 24 = .ok (.iload_n 1, 1) := by decide +kernel
theorem dX8_bits_25 : decode cX8_bits 25 = .ok (.ireturn, 1) := by decide +kernel
theorem dX8_guess_0 : decode cX8_guess 0 = .ok (.aload_n 0, 1) := by decide +kernel
theorem dX8_guess_1 : decode cX8_guess 1 = .ok (.iload_n 1, 1) := by decide +kernel
theorem dX8_guess_2 : decode cX8_guess 2 = .ok (.iload_n 2, 1) := by decide +kernel
theorem dX8_guess_3 : decode cX8_guess 3 = .ok (.iload_n 3, 1) := by decide +kernel
theorem dX8_guess_4 : decode cX8_guess 4 = .ok (.iload 4, 2) := by decide +kernel
theorem dX8_guess_6 : decode cX8_guess 6 = .ok (.iconst 0, 1) := by decide +kernel
theorem dX8_guess_7 : decode cX8_guess 7 = .ok (.iconst 2, 1) := by decide +kernel
theorem dX8_guess_8 : decode cX8_guess 8 = .ok (.invokestatic 56, 3) := by decide +kernel
theorem dX8_guess_11 : decode cX8_guess 11 = .ok (.invokevirtual 225, 3) := by decide +kernel
theorem dX8_guess_14 : decode cX8_guess 14 = .ok (.istore 5, 2) := by decide +kernel
theorem dX8_guess_16 : decode cX8_guess 16 = .ok (.iload 5, 2) := by decide +kernel
theorem dX8_guess_18 : decode cX8_guess 18 = .ok (.ifCond .eq 6, 3) := by decide +kernel
theorem dX8_guess_21 : decode cX8_guess 21 = .ok (.iload 5, 2) := by decide +kernel
theorem dX8_guess_23 : decode cX8_guess 23 = .ok (.ireturn, 1) := by decide +kernel
theorem dX8_guess_24 : decode cX8_guess 24 = .ok (.iconst 0, 1) := by decide +kernel
theorem dX8_guess_25 : decode cX8_guess 25 = .ok (.istore 6, 2) := by decide +kernel
theorem dX8_guess_27 : decode cX8_guess 27 = .ok (.ldc 50, 2) := by decide +kernel
theorem dX8_guess_29 : decode cX8_guess 29 = .ok (.istore 7, 2) := by decide +kernel
theorem dX8_guess_31 : decode cX8_guess 31 = .ok (.sipush 255, 3) := by decide +kernel
theorem dX8_guess_34 : decode cX8_guess 34 = .ok (.istore 8, 2) := by decide +kernel
theorem dX8_guess_36 : decode cX8_guess 36 = .ok (.iconst 0, 1) := by decide +kernel
theorem dX8_guess_37 : decode cX8_guess 37 = .ok (.istore 9, 2) := by decide +kernel
theorem dX8_guess_39 : decode cX8_guess 39 = .ok (.iload 9, 2) := by decide +kernel
theorem dX8_guess_41 : decode cX8_guess 41 = .ok (.bipush 8, 2) := by decide +kernel
theorem dX8_guess_43 : decode cX8_guess 43 = .ok (.if_icmp .ge 17, 3) := by decide +kernel
theorem dX8_guess_46 : decode cX8_guess 46 = .ok (.aload_n 0, 1) := by decide +kernel
theorem dX8_guess_47 : decode cX8_guess 47 = .ok (.getfield 47, 3) := by decide +kernel
theorem dX8_guess_50 : decode cX8_guess 50 = .ok (.iload 9, 2) := by decide +kernel
theorem dX8_guess_52 : decode cX8_guess 52 = .ok (.iconst 0, 1) := by decide +kernel
theorem dX8_guess_53 : decode cX8_guess 53 = .ok (.iastore, 1) := by decide +kernel
theorem dX8_guess_54 : decode cX8_guess 54 = .ok (.iinc 9 1, 3) := by decide +kernel
theorem dX8_guess_57 : decode cX8_guess 57 = .ok (.goto (-18), 3) := by decide +kernel
theorem dX8_guess_60 : decode cX8_guess 60 = .ok (.iconst 0, 1) := by decide +kernel
theorem dX8_guess_61 : decode cX8_guess 61 = .ok (.istore 9, 2) := by decide +kernel
theorem dX8_guess_63 : decode cX8_guess 63 = .ok (.iload 9, 2) := by decide +kernel
theorem dX8_guess_65 : decode cX8_guess 65 = .ok (.iconst 1, 1) := by decide +kernel
theorem dX8_guess_66 : decode cX8_guess 66 = .ok (.iload_n 2, 1) := by decide +kernel
theorem dX8_guess_67 : decode cX8_guess 67 = .ok (.ishl, 1) := by decide +kernel
theorem dX8_guess_68 : decode cX8_guess 68 = .ok (.if_icmp .ge 92, 3) := by decide +kernel
theorem dX8_guess_71 : decode cX8_guess 71 = .ok (.aload_n 0, 1) := by decide +kernel
theorem dX8_guess_72 : decode cX8_guess 72 = .ok (.iload_n 1, 1) := by decide +kernel
theorem dX8_guess_73 : decode cX8_guess 73 = .ok (.iload_n 2, 1) := by decide +kernel
theorem dX8_guess_74 : decode cX8_guess 74 = .ok (.iload_n 3, 1) := by decide +kernel
theorem dX8_guess_75 : decode cX8_guess 75 = .ok (.iload 9, 2) := by decide +kernel
theorem dX8_guess_77 : decode cX8_guess 77 = .ok (.invokevirtual 229, 3) := by decide +kernel
theorem dX8_guess_80 : decode cX8_guess 80 = .ok (.ifCond .eq 74, 3) := by decide +kernel
theorem dX8_guess_83 : decode cX8_guess 83 = .ok (.iinc 6 1, 3) := by decide +kernel
theorem dX8_guess_86 : decode cX8_guess 86 = .ok (.iload 7, 2) := by decide +kernel
theorem dX8_guess_88 : decode cX8_guess 88 = .ok (.ldc 50, 2) := by decide +kernel
theorem dX8_guess_90 : decode cX8_guess 90 = .ok (.if_icmp .eq 16, 3) := by decide +kernel
theorem dX8_guess_93 : decode cX8_guess 93 = .ok (.iload 9, 2) := by decide +kernel
theorem dX8_guess_95 : decode cX8_guess 95 = .ok (.invokestatic 233, 3) := by decide +kernel
theorem dX8_guess_98 : decode cX8_guess 98 = .ok (.iload 7, 2) := by decide +kernel
theorem dX8_guess_100 : decode cX8_guess 100 = .ok (.invokestatic 233, 3) := by decide +kernel
theorem dX8_guess_103 : decode cX8_guess 103 = .ok (.if_icmp .ge 8, 3) := by decide +kernel
theorem dX8_guess_106 : decode cX8_guess 106 = .ok (.iload 9, 2) := by decide +kernel
theorem dX8_guess_108 : decode cX8_guess 108 = .ok (.goto 5, 3) := by decide +kernel
theorem dX8_guess_111 : decode cX8_guess 111 = .ok (.iload 7, 2) := by decide +kernel
theorem dX8_guess_113 : decode cX8_guess 113 = .ok (.istore 7, 2) := by decide +kernel
theorem dX8_guess_115 : decode cX8_guess 115 = .ok (.iload 8, 2) := by decide +kernel
theorem dX8_guess_117 : decode cX8_guess 117 = .ok (.iload 9, 2) := by decide +kernel
theorem dX8_guess_119 : decode cX8_guess 119 = .ok (.iand, 1) := by decide +kernel
theorem dX8_guess_120 : decode cX8_guess 120 = .ok (.istore 8, 2) := by decide +kernel
theorem dX8_guess_122 : decode cX8_guess 122 = .ok (.iconst 0, 1) := by decide +kernel
theorem dX8_guess_123 : decode cX8_guess 123 = .ok (.istore 10, 2) := by decide +kernel
theorem dX8_guess_125 : decode cX8_guess 125 = .ok (.iload 10, 2) := by decide +kernel
theorem dX8_guess_127 : decode cX8_guess 127 = .ok (.iload_n 2, 1) := by decide +kernel
theorem dX8_guess_128 : decode cX8_guess 128 = .ok (.if_icmp .ge 26, 3) := by decide +kernel
theorem dX8_guess_131 : decode cX8_guess 131 = .ok (.aload_n 0, 1) := by decide +kernel
theorem dX8_guess_132 : decode cX8_guess 132 = .ok (.getfield 47, 3) := by decide +kernel
theorem dX8_guess_135 : decode cX8_guess 135 = .ok (.iload 10, 2) := by decide +kernel
theorem dX8_guess_137 : decode cX8_guess 137 = .ok (.dup2, 1) := by decide +kernel
theorem dX8_guess_138 : decode cX8_guess 138 = .ok (.iaload, 1) := by decide +kernel
theorem dX8_guess_139 : decode cX8_guess 139 = .ok (.iload 9, 2) := by decide +kernel
theorem dX8_guess_141 : decode cX8_guess 141 = .ok (.iload 10, 2) := by decide +kernel
theorem dX8_guess_143 : decode cX8_guess 143 = .ok (.ishr, 1) := by decide +kernel
theorem dX8_guess_144 : decode cX8_guess 144 = .ok (.iconst 1, 1) := by decide +kernel
theorem dX8_guess_145 : decode cX8_guess 145 = .ok (.iand, 1) := by decide +kernel
theorem dX8_guess_146 : decode cX8_guess 146 = .ok (.iadd, 1) := by decide +kernel
theorem dX8_guess_147 : decode cX8_guess 147 = .ok (.iastore, 1) := by decide +kernel
theorem dX8_guess_148 : decode cX8_guess 148 = .ok (.iinc 10 1, 3) := by decide +kernel
theorem dX8_guess_151 : decode cX8_guess 151 = .ok (.goto (-26), 3) := by decide +kernel
theorem dX8_guess_154 : decode cX8_guess 154 = .ok (.iinc 9 1, 3) := by decide +kernel
theorem dX8_guess_157 : decode cX8_guess 157 = .ok (.goto (-94), 3) := by decide +kernel
theorem dX8_guess_160 : decode cX8_guess 160 = .ok (.iload 6, 2) := by decide +kernel
theorem dX8_guess_162 : decode cX8_guess 162 = .ok (.ifCond .ne 6, 3) := by decide +kernel
theorem dX8_guess_165 : decode cX8_guess 165 = .ok (.ldc 50, 2) := by decide +kernel
theorem dX8_guess_167 : decode cX8_guess 167 = .ok (.ireturn, 1) := by decide +kernel
theorem dX8_guess_168 : decode cX8_guess 168 = .ok (.ldc 50, 2) := by decide +kernel
theorem dX8_guess_170 : decode cX8_guess 170 = .ok (.istore 9, 2) := by decide +kernel
theorem dX8_guess_172 : decode cX8_guess 172 = .ok (.iload 6, 2) := by decide +kernel
theorem dX8_guess_174 : decode cX8_guess 174 = .ok (.istore 10, 2) := by decide +kernel
theorem dX8_guess_176 : decode cX8_guess 176 = .ok (.iconst 0, 1) := by decide +kernel
theorem dX8_guess_177 : decode cX8_guess 177 = .ok (.istore 11, 2) := by decide +kernel
theorem dX8_guess_179 : decode cX8_guess 179 = .ok (.iload 11, 2) := by decide +kernel
theorem dX8_guess_181 : decode cX8_guess 181 = .ok (.iload_n 2, 1) := by decide +kernel
theorem dX8_guess_182 : decode cX8_guess 182 = .ok (.if_icmp .ge 83, 3) := by decide +kernel
theorem dX8_guess_185 : decode cX8_guess 185 = .ok (.aload_n 0, 1) := by decide +kernel
theorem dX8_guess_186 : decode cX8_guess 186 = .ok (.getfield 47, 3) := by decide +kernel
theorem dX8_guess_189 : decode cX8_guess 189 = .ok (.iload 11, 2) := by decide +kernel
theorem dX8_guess_191 : decode cX8_guess 191 = .ok (.iaload, 1) := by decide +kernel
theorem dX8_guess_192 : decode cX8_guess 192 = .ok (.iload 6, 2) := by decide +kernel
theorem dX8_guess_194 : decode cX8_guess 194 = .ok (.aload_n 0, 1) := by decide +kernel
theorem dX8_guess_195 : decode cX8_guess 195 = .ok (.getfield 47, 3) := by decide +kernel
theorem dX8_guess_198 : decode cX8_guess 198 = .ok (.iload 11, 2) := by decide +kernel
theorem dX8_guess_200 : decode cX8_guess 200 = .ok (.iaload, 1) := by decide +kernel
theorem dX8_guess_201 : decode cX8_guess 201 = .ok (.isub, 1) := by decide +kernel
theorem dX8_guess_202 : decode cX8_guess 202 = .ok (.if_icmp .le 13, 3) := by decide +kernel
theorem dX8_guess_205 : decode cX8_guess 205 = .ok (.aload_n 0, 1) := by decide +kernel
theorem dX8_guess_206 : decode cX8_guess 206 = .ok (.getfield 47, 3) := by decide +kernel
theorem dX8_guess_209 : decode cX8_guess 209 = .ok (.iload 11, 2) := by decide +kernel
theorem dX8_guess_211 : decode cX8_guess 211 = .ok (.iaload, 1) := by decide +kernel
theorem dX8_guess_212 : decode cX8_guess 212 = .ok (.goto 13, 3) := by decide +kernel
theorem dX8_guess_215 : decode cX8_guess 215 = .ok (.iload 6, 2) := by decide +kernel
theorem dX8_guess_217 : decode cX8_guess 217 = .ok (.aload_n 0, 1) := by decide +kernel
theorem dX8_guess_218 : decode cX8_guess 218 = .ok (.getfield 47, 3) := by decide +kernel
theorem dX8_guess_221 : decode cX8_guess 221 = .ok (.iload 11, 2) := by decide +kernel
theorem dX8_guess_223 : decode cX8_guess 223 = .ok (.iaload, 1) := by decide +kernel
theorem dX8_guess_224 : decode cX8_guess 224 = .ok (.isub, 1) := by decide +kernel
theorem dX8_guess_225 : decode cX8_guess 225 = .ok (.istore 12, 2) := by decide +kernel
theorem dX8_guess_227 : decode cX8_guess 227 = .ok (.iload 12, 2) := by decide +kernel
theorem dX8_guess_229 : decode cX8_guess 229 = .ok (.iload 10, 2) := by decide +kernel
theorem dX8_guess_231 : decode cX8_guess 231 = .ok (.if_icmp .ge 8, 3) := by decide +kernel
theorem dX8_guess_234 : decode cX8_guess 234 = .ok (.iload 11, 2) := by decide +kernel
theorem dX8_guess_236 : decode cX8_guess 236 = .ok (.goto 5, 3) := by decide +kernel
theorem dX8_guess_239 : decode cX8_guess 239 = .ok (.iload 9, 2) := by decide +kernel
theorem dX8_guess_241 : decode cX8_guess 241 = .ok (.istore 9, 2) := by decide +kernel
theorem dX8_guess_243 : decode cX8_guess 243 = .ok (.iload 12, 2) := by decide +kernel
theorem dX8_guess_245 : decode cX8_guess 245 = .ok (.iload 10, 2) := by decide +kernel
theorem dX8_guess_247 : decode cX8_guess 247 = .ok (.if_icmp .ge 8, 3) := by decide +kernel
theorem dX8_guess_250 : decode cX8_guess 250 = .ok (.iload 12, 2) := by decide +kernel
theorem dX8_guess_252 : decode cX8_guess 252 = .ok (.goto 5, 3) := by decide +kernel
theorem dX8_guess_255 : decode cX8_guess 255 = .ok (.iload 10, 2) := by decide +kernel
theorem dX8_guess_257 : decode cX8_guess 257 = .ok (.istore 10, 2) := by decide +kernel
theorem dX8_guess_259 : decode cX8_guess 259 = .ok (.iinc 11 1, 3) := by decide +kernel
theorem dX8_guess_262 : decode cX8_guess 262 = .ok (.goto (-83), 3) := by decide +kernel
theorem dX8_guess_265 : decode cX8_guess 265 = .ok (.iload 4, 2) := by decide +kernel
theorem dX8_guess_267 : decode cX8_guess 267 = .ok (.ifCond .ne 8, 3) := by decide +kernel
theorem dX8_guess_270 : decode cX8_guess 270 = .ok (.iload 7, 2) := by decide +kernel
theorem dX8_guess_272 : decode cX8_guess 272 = .ok (.goto 16, 3) := by decide +kernel
theorem dX8_guess_275 : decode cX8_guess 275 = .ok (.iload 4, 2) := by decide +kernel
theorem dX8_guess_277 : decode cX8_guess 277 = .ok (.iconst 1, 1) := by decide +kernel
theorem dX8_guess_278 : decode cX8_guess 278 = .ok (.if_icmp .ne 8, 3) := by decide +kernel
theorem dX8_guess_281 : decode cX8_guess 281 = .ok (.iload 8, 2) := by decide +kernel
theorem dX8_guess_283 : decode cX8_guess 283 = .ok (.goto 5, 3) := by decide +kernel
theorem dX8_guess_286 : decode cX8_guess 286 = .ok (.iload 9, 2) := by decide +kernel
theorem dX8_guess_288 : decode cX8_guess 288 = .ok (.ireturn, 1) := by decide +kernel
theorem dX8_rows_0 : decode cX8_rows 0 = .ok (.iconst 1, 1) := by decide +kernel
theorem dX8_rows_1 : decode cX8_rows 1 = .ok (.istore_n 1, 1) := by decide +kernel
theorem dX8_rows_2 : decode cX8_rows 2 = .ok (.iconst 0, 1) := by decide +kernel
theorem dX8_rows_3 : decode cX8_rows 3 = .ok (.istore_n 2, 1) := by decide +kernel
theorem dX8_rows_4 : decode cX8_rows 4 = .ok (.iload_n 2, 1) := by decide +kernel
theorem dX8_rows_5 : decode cX8_rows 5 = .ok (.iload_n 0, 1) := by decide +kernel
theorem dX8_rows_6 : decode cX8_rows 6 = .ok (.if_icmp .ge 14, 3) := by decide +kernel
theorem dX8_rows_9 : decode cX8_rows 9 = .ok (.iload_n 1, 1) := by decide +kernel
theorem dX8_rows_10 : decode cX8_rows 10 = .ok (.bipush 6, 2) := by decide +kernel
theorem dX8_rows_12 : decode cX8_rows 12 = .ok (.imul, 1) := by decide +kernel
theorem dX8_rows_13 : decode cX8_rows 13 = .ok (.istore_n 1, 1) := by decide +kernel
theorem dX8_rows_14 : decode cX8_rows 14 = .ok (.iinc 2 1, 3) := by decide +kernel
theorem dX8_rows_17 : decode cX8_rows 17 = .ok (.goto (-13), 3) := by decide +kernel
theorem dX8_rows_20 : decode cX8_rows 20 = .ok (.iload_n 1, 1) := by decide +kernel
theorem dX8_rows_21 : decode cX8_rows 21 = .ok (.ireturn, 1) := by decide +kernel
theorem dX8_whose_0 : decode cX8_whose 0 = .ok (.iload_n 0, 1) := by decide +kernel
theorem dX8_whose_1 : decode cX8_whose 1 = .ok (.iload_n 1, 1) := by decide +kernel
theorem dX8_whose_2 : decode cX8_whose 2 = .ok (.iconst 1, 1) := by decide +kernel
theorem dX8_whose_3 : decode cX8_whose 3 = .ok (.isub, 1) := by decide +kernel
theorem dX8_whose_4 : decode cX8_whose 4 = .ok (.iload_n 2, 1) := by decide +kernel
theorem dX8_whose_5 : decode cX8_whose 5 = .ok (.isub, 1) := by decide +kernel
theorem dX8_whose_6 : decode cX8_whose 6 = .ok (.invokestatic 236, 3) := by decide +kernel
theorem dX8_whose_9 : decode cX8_whose 9 = .ok (.idiv, 1) := by decide +kernel
theorem dX8_whose_10 : decode cX8_whose 10 = .ok (.bipush 6, 2) := by decide +kernel
theorem dX8_whose_12 : decode cX8_whose 12 = .ok (.irem, 1) := by decide +kernel
theorem dX8_whose_13 : decode cX8_whose 13 = .ok (.ireturn, 1) := by decide +kernel
theorem dX8_brings_0 : decode cX8_brings 0 = .ok (.aload_n 0, 1) := by decide +kernel
theorem dX8_brings_1 : decode cX8_brings 1 = .ok (.invokevirtual 219, 3) := by decide +kernel
theorem dX8_brings_4 : decode cX8_brings 4 = .ok (.iconst 1, 1) := by decide +kernel
theorem dX8_brings_5 : decode cX8_brings 5 = .ok (.istore 5, 2) := by decide +kernel
theorem dX8_brings_7 : decode cX8_brings 7 = .ok (.iconst 0, 1) := by decide +kernel
theorem dX8_brings_8 : decode cX8_brings 8 = .ok (.istore 6, 2) := by decide +kernel
theorem dX8_brings_10 : decode cX8_brings 10 = .ok (.iload 6, 2) := by decide +kernel
theorem dX8_brings_12 : decode cX8_brings 12 = .ok (.iload_n 2, 1) := by decide +kernel
theorem dX8_brings_13 : decode cX8_brings 13 = .ok (.if_icmp .ge 71, 3) := by decide +kernel
theorem dX8_brings_16 : decode cX8_brings 16 = .ok (.iload 5, 2) := by decide +kernel
theorem dX8_brings_18 : decode cX8_brings 18 = .ok (.ifCond .eq 66, 3) := by decide +kernel
theorem dX8_brings_21 : decode cX8_brings 21 = .ok (.iload_n 1, 1) := by decide +kernel
theorem dX8_brings_22 : decode cX8_brings 22 = .ok (.iload_n 2, 1) := by decide +kernel
theorem dX8_brings_23 : decode cX8_brings 23 = .ok (.iload 6, 2) := by decide +kernel
theorem dX8_brings_25 : decode cX8_brings 25 = .ok (.invokestatic 239, 3) := by decide +kernel
theorem dX8_brings_28 : decode cX8_brings 28 = .ok (.istore 7, 2) := by decide +kernel
theorem dX8_brings_30 : decode cX8_brings 30 = .ok (.iload 7, 2) := by decide +kernel
theorem dX8_brings_32 : decode cX8_brings 32 = .ok (.aload_n 0, 1) := by decide +kernel
theorem dX8_brings_33 : decode cX8_brings 33 = .ok (.getfield 22, 3) := by decide +kernel
theorem dX8_brings_36 : decode cX8_brings 36 = .ok (.iconst 3, 1) := by decide +kernel
theorem dX8_brings_37 : decode cX8_brings 37 = .ok (.iaload, 1) := by decide +kernel
theorem dX8_brings_38 : decode cX8_brings 38 = .ok (.if_icmp .ge 16, 3) := by decide +kernel
theorem dX8_brings_41 : decode cX8_brings 41 = .ok (.aload_n 0, 1) := by decide +kernel
theorem dX8_brings_42 : decode cX8_brings 42 = .ok (.iload 7, 2) := by decide +kernel
theorem dX8_brings_44 : decode cX8_brings 44 = .ok (.invokevirtual 202, 3) := by decide +kernel
theorem dX8_brings_47 : decode cX8_brings 47 = .ok (.ifCond .ne 7, 3) := by decide +kernel
theorem dX8_brings_50 : decode cX8_brings 50 = .ok (.iconst 1, 1) := by decide +kernel
theorem dX8_brings_51 : decode cX8_brings 51 = .ok (.goto 4, 3) := by decide +kernel
theorem dX8_brings_54 : decode cX8_brings 54 = .ok (.iconst 0, 1) := by decide +kernel
theorem dX8_brings_55 : decode cX8_brings 55 = .ok (.istore 5, 2) := by decide +kernel
theorem dX8_brings_57 : decode cX8_brings 57 = .ok (.iload 5, 2) := by decide +kernel
theorem dX8_brings_59 : decode cX8_brings 59 = .ok (.ifCond .eq 19, 3) := by decide +kernel
theorem dX8_brings_62 : decode cX8_brings 62 = .ok (.aload_n 0, 1) := by decide +kernel
theorem dX8_brings_63 : decode cX8_brings 63 = .ok (.iload 7, 2) := by decide +kernel
theorem dX8_brings_65 : decode cX8_brings 65 = .ok (.invokevirtual 196, 3) := by decide +kernel
theorem dX8_brings_68 : decode cX8_brings 68 = .ok (.ifCond .lt 7, 3) := by decide +kernel
theorem dX8_brings_71 : decode cX8_brings 71 = .ok (.iconst 1, 1) := by decide +kernel
theorem dX8_brings_72 : decode cX8_brings 72 = .ok (.goto 4, 3) := by decide +kernel
theorem dX8_brings_75 : decode cX8_brings 75 = .ok (.iconst 0, 1) := by decide +kernel
theorem dX8_brings_76 : decode cX8_brings 76 = .ok (.istore 5, 2) := by decide +kernel
theorem dX8_brings_78 : decode cX8_brings 78 = .ok (.iinc 6 1, 3) := by decide +kernel
theorem dX8_brings_81 : decode cX8_brings 81 = .ok (.goto (-71), 3) := by decide +kernel
theorem dX8_brings_84 : decode cX8_brings 84 = .ok (.iload 5, 2) := by decide +kernel
theorem dX8_brings_86 : decode cX8_brings 86 = .ok (.ifCond .eq 21, 3) := by decide +kernel
theorem dX8_brings_89 : decode cX8_brings 89 = .ok (.aload_n 0, 1) := by decide +kernel
theorem dX8_brings_90 : decode cX8_brings 90 = .ok (.getfield 22, 3) := by decide +kernel
theorem dX8_brings_93 : decode cX8_brings 93 = .ok (.bipush 10, 2) := by decide +kernel
theorem dX8_brings_95 : decode cX8_brings 95 = .ok (.iload_n 3, 1) := by decide +kernel
theorem dX8_brings_96 : decode cX8_brings 96 = .ok (.iadd, 1) := by decide +kernel
theorem dX8_brings_97 : decode cX8_brings 97 = .ok (.iaload, 1) := by decide +kernel
theorem dX8_brings_98 : decode cX8_brings 98 = .ok (.iload 4, 2) := by decide +kernel
theorem dX8_brings_100 : decode cX8_brings 100 = .ok (.if_icmp .lt 7, 3) := by decide +kernel
theorem dX8_brings_103 : decode cX8_brings 103 = .ok (.iconst 1, 1) := by decide +kernel
theorem dX8_brings_104 : decode cX8_brings 104 = .ok (.goto 4, 3) := by decide +kernel
theorem dX8_brings_107 : decode cX8_brings 107 = .ok (.iconst 0, 1) := by decide +kernel
theorem dX8_brings_108 : decode cX8_brings 108 = .ok (.istore 6, 2) := by decide +kernel
theorem dX8_brings_110 : decode cX8_brings 110 = .ok (.aload_n 0, 1) := by decide +kernel
theorem dX8_brings_111 : decode cX8_brings 111 = .ok (.invokevirtual 222, 3) := by decide +kernel
theorem dX8_brings_114 : decode cX8_brings 114 = .ok (.iload 6, 2) := by decide +kernel
theorem dX8_brings_116 : decode cX8_brings 116 = .ok (.ireturn, 1) := by decide +kernel
theorem dX8_wanted_0 : decode cX8_wanted 0 = .ok (.aload_n 0, 1) := by decide +kernel
theorem dX8_wanted_1 : decode cX8_wanted 1 = .ok (.iload_n 1, 1) := by decide +kernel
theorem dX8_wanted_2 : decode cX8_wanted 2 = .ok (.invokevirtual 199, 3) := by decide +kernel
theorem dX8_wanted_5 : decode cX8_wanted 5 = .ok (.ifCond .eq 18, 3) := by decide +kernel
theorem dX8_wanted_8 : decode cX8_wanted 8 = .ok (.iload_n 2, 1) := by decide +kernel
theorem dX8_wanted_9 : decode cX8_wanted 9 = .ok (.iconst 0, 1) := by decide +kernel
theorem dX8_wanted_10 : decode cX8_wanted 10 = .ok (.bipush 15, 2) := by decide +kernel
theorem dX8_wanted_12 : decode cX8_wanted 12 = .ok (.invokestatic 56, 3) := by decide +kernel
theorem dX8_wanted_15 : decode cX8_wanted 15 = .ok (.ifCond .eq 8, 3) := by decide +kernel
theorem dX8_wanted_18 : decode cX8_wanted 18 = .ok (.iload_n 3, 1) := by decide +kernel
theorem dX8_wanted_19 : decode cX8_wanted 19 = .ok (.iconst (-1), 1) := by decide +kernel
theorem dX8_wanted_20 : decode cX8_wanted 20 = .ok (.if_icmp .ge 6, 3) := by decide +kernel
theorem dX8_wanted_23 : decode cX8_wanted 23 = .ok (.ldc 64, 2) := by decide +kernel
theorem dX8_wanted_25 : decode cX8_wanted 25 = .ok (.ireturn, 1) := by decide +kernel
theorem dX8_wanted_26 : decode cX8_wanted 26 = .ok (.iconst 0, 1) := by decide +kernel
theorem dX8_wanted_27 : decode cX8_wanted 27 = .ok (.istore 4, 2) := by decide +kernel
theorem dX8_wanted_29 : decode cX8_wanted 29 = .ok (.iload 4, 2) := by decide +kernel
theorem dX8_wanted_31 : decode cX8_wanted 31 = .ok (.iconst 5, 1) := by decide +kernel
theorem dX8_wanted_32 : decode cX8_wanted 32 = .ok (.if_icmp .ge 71, 3) := by decide +kernel
theorem dX8_wanted_35 : decode cX8_wanted 35 = .ok (.iconst 0, 1) := by decide +kernel
theorem dX8_wanted_36 : decode cX8_wanted 36 = .ok (.istore 5, 2) := by decide +kernel
theorem dX8_wanted_38 : decode cX8_wanted 38 = .ok (.iload 5, 2) := by decide +kernel
theorem dX8_wanted_40 : decode cX8_wanted 40 = .ok (.iload 4, 2) := by decide +kernel
theorem dX8_wanted_42 : decode cX8_wanted 42 = .ok (.invokestatic 236, 3) := by decide +kernel
theorem dX8_wanted_45 : decode cX8_wanted 45 = .ok (.if_icmp .ge 52, 3) := by decide +kernel
theorem dX8_wanted_48 : decode cX8_wanted 48 = .ok (.aload_n 0, 1) := by decide +kernel
theorem dX8_wanted_49 : decode cX8_wanted 49 = .ok (.iload 5, 2) := by decide +kernel
theorem dX8_wanted_51 : decode cX8_wanted 51 = .ok (.iload 4, 2) := by decide +kernel
theorem dX8_wanted_53 : decode cX8_wanted 53 = .ok (.iload_n 1, 1) := by decide +kernel
theorem dX8_wanted_54 : decode cX8_wanted 54 = .ok (.iload_n 2, 1) := by decide +kernel
theorem dX8_wanted_55 : decode cX8_wanted 55 = .ok (.invokevirtual 243, 3) := by decide +kernel
theorem dX8_wanted_58 : decode cX8_wanted 58 = .ok (.ifCond .eq 33, 3) := by decide +kernel
theorem dX8_wanted_61 : decode cX8_wanted 61 = .ok (.iload_n 3, 1) := by decide +kernel
theorem dX8_wanted_62 : decode cX8_wanted 62 = .ok (.iconst (-1), 1) := by decide +kernel
theorem dX8_wanted_63 : decode cX8_wanted 63 = .ok (.if_icmp .ne 8, 3) := by decide +kernel
theorem dX8_wanted_66 : decode cX8_wanted 66 = .ok (.iload 4, 2) := by decide +kernel
theorem dX8_wanted_68 : decode cX8_wanted 68 = .ok (.goto 22, 3) := by decide +kernel
theorem dX8_wanted_71 : decode cX8_wanted 71 = .ok (.iload_n 3, 1) := by decide +kernel
theorem dX8_wanted_72 : decode cX8_wanted 72 = .ok (.iload 4, 2) := by decide +kernel
theorem dX8_wanted_74 : decode cX8_wanted 74 = .ok (.if_icmp .ge 14, 3) := by decide +kernel
theorem dX8_wanted_77 : decode cX8_wanted 77 = .ok (.iload 5, 2) := by decide +kernel
theorem dX8_wanted_79 : decode cX8_wanted 79 = .ok (.iload 4, 2) := by decide +kernel
theorem dX8_wanted_81 : decode cX8_wanted 81 = .ok (.iload_n 3, 1) := by decide +kernel
theorem dX8_wanted_82 : decode cX8_wanted 82 = .ok (.invokestatic 239, 3) := by decide +kernel
theorem dX8_wanted_85 : decode cX8_wanted 85 = .ok (.goto 5, 3) := by decide +kernel
theorem dX8_wanted_88 : decode cX8_wanted 88 = .ok (.ldc 50, 2) := by decide +kernel
theorem dX8_wanted_90 : decode cX8_wanted 90 = .ok (.ireturn, 1) := by decide +kernel
theorem dX8_wanted_91 : decode cX8_wanted 91 = .ok (.iinc 5 1, 3) := by decide +kernel
theorem dX8_wanted_94 : decode cX8_wanted 94 = .ok (.goto (-56), 3) := by decide +kernel
theorem dX8_wanted_97 : decode cX8_wanted 97 = .ok (.iinc 4 1, 3) := by decide +kernel
theorem dX8_wanted_100 : decode cX8_wanted 100 = .ok (.goto (-71), 3) := by decide +kernel
theorem dX8_wanted_103 : decode cX8_wanted 103 = .ok (.ldc 50, 2) := by decide +kernel
theorem dX8_wanted_105 : decode cX8_wanted 105 = .ok (.ireturn, 1) := by decide +kernel
theorem dX8_brook_0 : decode cX8_brook 0 = .ok (.aload_n 0, 1) := by decide +kernel
theorem dX8_brook_1 : decode cX8_brook 1 = .ok (.iload_n 1, 1) := by decide +kernel
theorem dX8_brook_2 : decode cX8_brook 2 = .ok (.invokevirtual 199, 3) := by decide +kernel
theorem dX8_brook_5 : decode cX8_brook 5 = .ok (.ifCond .ne 6, 3) := by decide +kernel
theorem dX8_brook_8 : decode cX8_brook 8 = .ok (.ldc 64, 2) := by decide +kernel
theorem dX8_brook_10 : decode cX8_brook 10 = .ok (.ireturn, 1) := by decide +kernel
theorem dX8_brook_11 : decode cX8_brook 11 = .ok (.aload_n 0, 1) := by decide +kernel
theorem dX8_brook_12 : decode cX8_brook 12 = .ok (.invokevirtual 219, 3) := by decide +kernel
theorem dX8_brook_15 : decode cX8_brook 15 = .ok (.iconst 0, 1) := by decide +kernel
theorem dX8_brook_16 : decode cX8_brook 16 = .ok (.istore_n 2, 1) := by decide +kernel
theorem dX8_brook_17 : decode cX8_brook 17 = .ok (.iconst 1, 1) := by decide +kernel
theorem dX8_brook_18 : decode cX8_brook 18 = .ok (.istore_n 3, 1) := by decide +kernel
theorem dX8_brook_19 : decode cX8_brook 19 = .ok (.aload_n 0, 1) := by decide +kernel
theorem dX8_brook_20 : decode cX8_brook 20 = .ok (.iload_n 1, 1) := by decide +kernel
theorem dX8_brook_21 : decode cX8_brook 21 = .ok (.invokevirtual 202, 3) := by decide +kernel
theorem dX8_brook_24 : decode cX8_brook 24 = .ok (.ifCond .ne 27, 3) := by decide +kernel
theorem dX8_brook_27 : decode cX8_brook 27 = .ok (.iload_n 3, 1) := by decide +kernel
theorem dX8_brook_28 : decode cX8_brook 28 = .ok (.ifCond .eq 23, 3) := by decide +kernel
theorem dX8_brook_31 : decode cX8_brook 31 = .ok (.aload_n 0, 1) := by decide +kernel
theorem dX8_brook_32 : decode cX8_brook 32 = .ok (.iload_n 1, 1) := by decide +kernel
theorem dX8_brook_33 : decode cX8_brook 33 = .ok (.invokevirtual 196, 3) := by decide +kernel
theorem dX8_brook_36 : decode cX8_brook 36 = .ok (.ifCond .eq 7, 3) := by decide +kernel
theorem dX8_brook_39 : decode cX8_brook 39 = .ok (.iconst 1, 1) := by decide +kernel
theorem dX8_brook_40 : decode cX8_brook 40 = .ok (.goto 4, 3) := by decide +kernel
theorem dX8_brook_43 : decode cX8_brook 43 = .ok (.iconst 0, 1) := by decide +kernel
theorem dX8_brook_44 : decode cX8_brook 44 = .ok (.istore_n 3, 1) := by decide +kernel
theorem dX8_brook_45 : decode cX8_brook 45 = .ok (.iinc 2 1, 3) := by decide +kernel
theorem dX8_brook_48 : decode cX8_brook 48 = .ok (.goto (-29), 3) := by decide +kernel
theorem dX8_brook_51 : decode cX8_brook 51 = .ok (.aload_n 0, 1) := by decide +kernel
theorem dX8_brook_52 : decode cX8_brook 52 = .ok (.invokevirtual 222, 3) := by decide +kernel
theorem dX8_brook_55 : decode cX8_brook 55 = .ok (.iload_n 3, 1) := by decide +kernel
theorem dX8_brook_56 : decode cX8_brook 56 = .ok (.ifCond .eq 7, 3) := by decide +kernel
theorem dX8_brook_59 : decode cX8_brook 59 = .ok (.iload_n 2, 1) := by decide +kernel
theorem dX8_brook_60 : decode cX8_brook 60 = .ok (.goto 5, 3) := by decide +kernel
theorem dX8_brook_63 : decode cX8_brook 63 = .ok (.ldc 50, 2) := by decide +kernel
theorem dX8_brook_65 : decode cX8_brook 65 = .ok (.ireturn, 1) := by decide +kernel
theorem dX8_image_0 : decode cX8_image 0 = .ok (.iload_n 1, 1) := by decide +kernel
theorem dX8_image_1 : decode cX8_image 1 = .ok (.iconst 0, 1) := by decide +kernel
theorem dX8_image_2 : decode cX8_image 2 = .ok (.iconst 1, 1) := by decide +kernel
theorem dX8_image_3 : decode cX8_image 3 = .ok (.invokestatic 56, 3) := by decide +kernel
theorem dX8_image_6 : decode cX8_image 6 = .ok (.ifCond .ne 6, 3) := by decide +kernel
theorem dX8_image_9 : decode cX8_image 9 = .ok (.ldc 64, 2) := by decide +kernel
theorem dX8_image_11 : decode cX8_image 11 = .ok (.ireturn, 1) := by decide +kernel
theorem dX8_image_12 : decode cX8_image 12 = .ok (.aload_n 0, 1) := by decide +kernel
theorem dX8_image_13 : decode cX8_image 13 = .ok (.getfield 22, 3) := by decide +kernel
theorem dX8_image_16 : decode cX8_image 16 = .ok (.iconst 0, 1) := by decide +kernel
theorem dX8_image_17 : decode cX8_image 17 = .ok (.iaload, 1) := by decide +kernel
theorem dX8_image_18 : decode cX8_image 18 = .ok (.ifCond .ne 6, 3) := by decide +kernel
theorem dX8_image_21 : decode cX8_image 21 = .ok (.ldc 205, 2) := by decide +kernel
theorem dX8_image_23 : decode cX8_image 23 = .ok (.ireturn, 1) := by decide +kernel
theorem dX8_image_24 : decode cX8_image 24 = .ok (.iconst 0, 1) := by decide +kernel
theorem dX8_image_25 : decode cX8_image 25 = .ok (.istore_n 2, 1) := by decide +kernel
theorem dX8_image_26 : decode cX8_image 26 = .ok (.iload_n 2, 1) := by decide +kernel
theorem dX8_image_27 : decode cX8_image 27 = .ok (.sipush 168, 3) := by decide +kernel
theorem dX8_image_30 : decode cX8_image 30 = .ok (.if_icmp .ge 27, 3) := by decide +kernel
theorem dX8_image_33 : decode cX8_image 33 = .ok (.aload_n 0, 1) := by decide +kernel
theorem dX8_image_34 : decode cX8_image 34 = .ok (.getfield 28, 3) := by decide +kernel
theorem dX8_image_37 : decode cX8_image 37 = .ok (.sipush 168, 3) := by decide +kernel
theorem dX8_image_40 : decode cX8_image 40 = .ok (.iload_n 1, 1) := by decide +kernel
theorem dX8_image_41 : decode cX8_image 41 = .ok (.imul, 1) := by decide +kernel
theorem dX8_image_42 : decode cX8_image 42 = .ok (.iload_n 2, 1) := by decide +kernel
theorem dX8_image_43 : decode cX8_image 43 = .ok (.iadd, 1) := by decide +kernel
theorem dX8_image_44 : decode cX8_image 44 = .ok (.aload_n 0, 1) := by decide +kernel
theorem dX8_image_45 : decode cX8_image 45 = .ok (.getfield 22, 3) := by decide +kernel
theorem dX8_image_48 : decode cX8_image 48 = .ok (.iload_n 2, 1) := by decide +kernel
theorem dX8_image_49 : decode cX8_image 49 = .ok (.iaload, 1) := by decide +kernel
theorem dX8_image_50 : decode cX8_image 50 = .ok (.iastore, 1) := by decide +kernel
theorem dX8_image_51 : decode cX8_image 51 = .ok (.iinc 2 1, 3) := by decide +kernel
theorem dX8_image_54 : decode cX8_image 54 = .ok (.goto (-28), 3) := by decide +kernel
theorem dX8_image_57 : decode cX8_image 57 = .ok (.aload_n 0, 1) := by decide +kernel
theorem dX8_image_58 : decode cX8_image 58 = .ok (.getfield 31, 3) := by decide +kernel
theorem dX8_image_61 : decode cX8_image 61 = .ok (.iload_n 1, 1) := by decide +kernel
theorem dX8_image_62 : decode cX8_image 62 = .ok (.iconst 1, 1) := by decide +kernel
theorem dX8_image_63 : decode cX8_image 63 = .ok (.bastore, 1) := by decide +kernel
theorem dX8_image_64 : decode cX8_image 64 = .ok (.iconst 1, 1) := by decide +kernel
theorem dX8_image_65 : decode cX8_image 65 = .ok (.ireturn, 1) := by decide +kernel
theorem dX8_restore_0 : decode cX8_restore 0 = .ok (.iload_n 1, 1) := by decide +kernel
theorem dX8_restore_1 : decode cX8_restore 1 = .ok (.iconst 0, 1) := by decide +kernel
theorem dX8_restore_2 : decode cX8_restore 2 = .ok (.iconst 1, 1) := by decide +kernel
theorem dX8_restore_3 : decode cX8_restore 3 = .ok (.invokestatic 56, 3) := by decide +kernel
theorem dX8_restore_6 : decode cX8_restore 6 = .ok (.ifCond .ne 6, 3) := by decide +kernel
theorem dX8_restore_9 : decode cX8_restore 9 = .ok (.ldc 64, 2) := by decide +kernel
theorem dX8_restore_11 : decode cX8_restore 11 = .ok (.ireturn, 1) := by decide +kernel
theorem dX8_restore_12 : decode cX8_restore 12 = .ok (.aload_n 0, 1) := by decide +kernel
theorem dX8_restore_13 : decode cX8_restore 13 = .ok (.getfield 31, 3) := by decide +kernel
theorem dX8_restore_16 : decode cX8_restore 16 = .ok (.iload_n 1, 1) := by decide +kernel
theorem dX8_restore_17 : decode cX8_restore 17 = .ok (.baload, 1) := by decide +kernel
theorem dX8_restore_18 : decode cX8_restore 18 = .ok (.ifCond .ne 6, 3) := by decide +kernel
theorem dX8_restore_21 : decode cX8_restore 21 = .ok (.ldc 205, 2) := by decide +kernel
theorem dX8_restore_23 : decode cX8_restore 23 = .ok (.ireturn, 1) := by decide +kernel
theorem dX8_restore_24 : decode cX8_restore 24 = .ok (.iconst 0, 1) := by decide +kernel
theorem dX8_restore_25 : decode cX8_restore 25 = .ok (.istore_n 2, 1) := by decide +kernel
theorem dX8_restore_26 : decode cX8_restore 26 = .ok (.iload_n 2, 1) := by decide +kernel
theorem dX8_restore_27 : decode cX8_restore 27 = .ok (.sipush 168, 3) := by decide +kernel
theorem dX8_restore_30 : decode cX8_restore 30 = .ok (.if_icmp .ge 27, 3) := by decide +kernel
theorem dX8_restore_33 : decode cX8_restore 33 = .ok (.aload_n 0, 1) := by decide +kernel
theorem dX8_restore_34 : decode cX8_restore 34 = .ok (.getfield 22, 3) := by decide +kernel
theorem dX8_restore_37 : decode cX8_restore 37 = .ok (.iload_n 2, 1) := by decide +kernel
theorem dX8_restore_38 : decode cX8_restore 38 = .ok (.aload_n 0, 1) := by decide +kernel
theorem dX8_restore_39 : decode cX8_restore 39 = .ok (.getfield 28, 3) := by decide +kernel
theorem dX8_restore_42 : decode cX8_restore 42 = .ok (.sipush 168, 3) := by decide +kernel
theorem dX8_restore_45 : decode cX8_restore 45 = .ok (.iload_n 1, 1) := by decide +kernel
theorem dX8_restore_46 : decode cX8_restore 46 = .ok (.imul, 1) := by decide +kernel
theorem dX8_restore_47 : decode cX8_restore 47 = .ok (.iload_n 2, 1) := by decide +kernel
theorem dX8_restore_48 : decode cX8_restore 48 = .ok (.iadd, 1) := by decide +kernel
theorem dX8_restore_49 : decode cX8_restore 49 = .ok (.iaload, 1) := by decide +kernel
theorem dX8_restore_50 : decode cX8_restore 50 = .ok (.iastore, 1) := by decide +kernel
theorem dX8_restore_51 : decode cX8_restore 51 = .ok (.iinc 2 1, 3) := by decide +kernel
theorem dX8_restore_54 : decode cX8_restore 54 = .ok (.goto (-28), 3) := by decide +kernel
theorem dX8_restore_57 : decode cX8_restore 57 = .ok (.aload_n 0, 1) := by decide +kernel
theorem dX8_restore_58 : decode cX8_restore 58 = .ok (.iconst 0, 1) := by decide +kernel
theorem dX8_restore_59 : decode cX8_restore 59 = .ok (.putfield 181, 3) := by decide +kernel
theorem dX8_restore_62 : decode cX8_restore 62 = .ok (.iconst 1, 1) := by decide +kernel
theorem dX8_restore_63 : decode cX8_restore 63 = .ok (.ireturn, 1) := by decide +kernel
theorem dX8_kind_0 : decode cX8_kind 0 = .ok (.aload_n 0, 1) := by decide +kernel
theorem dX8_kind_1 : decode cX8_kind 1 = .ok (.iload_n 1, 1) := by decide +kernel
theorem dX8_kind_2 : decode cX8_kind 2 = .ok (.invokevirtual 199, 3) := by decide +kernel
theorem dX8_kind_5 : decode cX8_kind 5 = .ok (.ifCond .eq 14, 3) := by decide +kernel
theorem dX8_kind_8 : decode cX8_kind 8 = .ok (.aload_n 0, 1) := by decide +kernel
theorem dX8_kind_9 : decode cX8_kind 9 = .ok (.getfield 22, 3) := by decide +kernel
theorem dX8_kind_12 : decode cX8_kind 12 = .ok (.iconst 4, 1) := by decide +kernel
theorem dX8_kind_13 : decode cX8_kind 13 = .ok (.iload_n 1, 1) := by decide +kernel
theorem dX8_kind_14 : decode cX8_kind 14 = .ok (.iadd, 1) := by decide +kernel
theorem dX8_kind_15 : decode cX8_kind 15 = .ok (.iaload, 1) := by decide +kernel
theorem dX8_kind_16 : decode cX8_kind 16 = .ok (.goto 5, 3) := by decide +kernel
theorem dX8_kind_19 : decode cX8_kind 19 = .ok (.ldc 64, 2) := by decide +kernel
theorem dX8_kind_21 : decode cX8_kind 21 = .ok (.ireturn, 1) := by decide +kernel
theorem dX8_above_0 : decode cX8_above 0 = .ok (.iload_n 0, 1) := by decide +kernel
theorem dX8_above_1 : decode cX8_above 1 = .ok (.iconst 5, 1) := by decide +kernel
theorem dX8_above_2 : decode cX8_above 2 = .ok (.if_icmp .ne 7, 3) := by decide +kernel
theorem dX8_above_5 : decode cX8_above 5 = .ok (.iconst 4, 1) := by decide +kernel
theorem dX8_above_6 : decode cX8_above 6 = .ok (.goto 18, 3) := by decide +kernel
theorem dX8_above_9 : decode cX8_above 9 = .ok (.iload_n 0, 1) := by decide +kernel
theorem dX8_above_10 : decode cX8_above 10 = .ok (.iconst 4, 1) := by decide +kernel
theorem dX8_above_11 : decode cX8_above 11 = .ok (.if_icmp .eq 8, 3) := by decide +kernel
theorem dX8_above_14 : decode cX8_above 14 = .ok (.iload_n 0, 1) := by decide +kernel
theorem dX8_above_15 : decode cX8_above 15 = .ok (.iconst 3, 1) := by decide +kernel
theorem dX8_above_16 : decode cX8_above 16 = .ok (.if_icmp .ne 7, 3) := by decide +kernel
theorem dX8_above_19 : decode cX8_above 19 = .ok (.iconst 2, 1) := by decide +kernel
theorem dX8_above_20 : decode cX8_above 20 = .ok (.goto 4, 3) := by decide +kernel
theorem dX8_above_23 : decode cX8_above 23 = .ok (.iconst 0, 1) := by decide +kernel
theorem dX8_above_24 : decode cX8_above 24 = .ok (.ireturn, 1) := by decide +kernel
theorem dX8_isKind_0 : decode cX8_isKind 0 = .ok (.iload_n 0, 1) := by decide +kernel
theorem dX8_isKind_1 : decode cX8_isKind 1 = .ok (.istore_n 2, 1) := by decide +kernel
theorem dX8_isKind_2 : decode cX8_isKind 2 = .ok (.iload_n 2, 1) := by decide +kernel
theorem dX8_isKind_3 : decode cX8_isKind 3 = .ok (.iload_n 1, 1) := by decide +kernel
theorem dX8_isKind_4 : decode cX8_isKind 4 = .ok (.if_icmp .eq 15, 3) := by decide +kernel
theorem dX8_isKind_7 : decode cX8_isKind 7 = .ok (.iload_n 2, 1) := by decide +kernel
theorem dX8_isKind_8 : decode cX8_isKind 8 = .ok (.ifCond .eq 11, 3) := by decide +kernel
theorem dX8_isKind_11 : decode cX8_isKind 11 = .ok (.iload_n 2, 1) := by decide +kernel
theorem dX8_isKind_12 : decode cX8_isKind 12 = .ok (.invokestatic 246, 3) := by decide +kernel
theorem dX8_isKind_15 : decode cX8_isKind 15 = .ok (.istore_n 2, 1) := by decide +kernel
theorem dX8_isKind_16 : decode cX8_isKind 16 = .ok (.goto (-14), 3) := by decide +kernel
theorem dX8_isKind_19 : decode cX8_isKind 19 = .ok (.iload_n 2, 1) := by decide +kernel
theorem dX8_isKind_20 : decode cX8_isKind 20 = .ok (.iload_n 1, 1) := by decide +kernel
theorem dX8_isKind_21 : decode cX8_isKind 21 = .ok (.if_icmp .ne 7, 3) := by decide +kernel
theorem dX8_isKind_24 : decode cX8_isKind 24 = .ok (.iconst 1, 1) := by decide +kernel
theorem dX8_isKind_25 : decode cX8_isKind 25 = .ok (.goto 4, 3) := by decide +kernel
theorem dX8_isKind_28 : decode cX8_isKind 28 = .ok (.iconst 0, 1) := by decide +kernel
theorem dX8_isKind_29 : decode cX8_isKind 29 = .ok (.ireturn, 1) := by decide +kernel
theorem dX8_as_0 : decode cX8_as 0 = .ok (.aload_n 0, 1) := by decide +kernel
theorem dX8_as_1 : decode cX8_as 1 = .ok (.iload_n 1, 1) := by decide +kernel
theorem dX8_as_2 : decode cX8_as 2 = .ok (.invokevirtual 199, 3) := by decide +kernel
theorem dX8_as_5 : decode cX8_as 5 = .ok (.ifCond .eq 12, 3) := by decide +kernel
theorem dX8_as_8 : decode cX8_as 8 = .ok (.iload_n 2, 1) := by decide +kernel
theorem dX8_as_9 : decode cX8_as 9 = .ok (.iconst 0, 1) := by decide +kernel
theorem dX8_as_10 : decode cX8_as 10 = .ok (.iconst 5, 1) := by decide +kernel
theorem dX8_as_11 : decode cX8_as 11 = .ok (.invokestatic 56, 3) := by decide +kernel
theorem dX8_as_14 : decode cX8_as 14 = .ok (.ifCond .ne 6, 3) := by decide +kernel
theorem dX8_as_17 : decode cX8_as 17 = .ok (.ldc 64, 2) := by decide +kernel
theorem dX8_as_19 : decode cX8_as 19 = .ok (.ireturn, 1) := by decide +kernel
theorem dX8_as_20 : decode cX8_as 20 = .ok (.aload_n 0, 1) := by decide +kernel
theorem dX8_as_21 : decode cX8_as 21 = .ok (.getfield 22, 3) := by decide +kernel
theorem dX8_as_24 : decode cX8_as 24 = .ok (.iconst 4, 1) := by decide +kernel
theorem dX8_as_25 : decode cX8_as 25 = .ok (.iload_n 1, 1) := by decide +kernel
theorem dX8_as_26 : decode cX8_as 26 = .ok (.iadd, 1) := by decide +kernel
theorem dX8_as_27 : decode cX8_as 27 = .ok (.iaload, 1) := by decide +kernel
theorem dX8_as_28 : decode cX8_as 28 = .ok (.iload_n 2, 1) := by decide +kernel
theorem dX8_as_29 : decode cX8_as 29 = .ok (.invokestatic 249, 3) := by decide +kernel
theorem dX8_as_32 : decode cX8_as 32 = .ok (.ifCond .eq 11, 3) := by decide +kernel
theorem dX8_as_35 : decode cX8_as 35 = .ok (.aload_n 0, 1) := by decide +kernel
theorem dX8_as_36 : decode cX8_as 36 = .ok (.iload_n 1, 1) := by decide +kernel
theorem dX8_as_37 : decode cX8_as 37 = .ok (.invokevirtual 69, 3) := by decide +kernel
theorem dX8_as_40 : decode cX8_as 40 = .ok (.goto 8, 3) := by decide +kernel
theorem dX8_as_43 : decode cX8_as 43 = .ok (.aload_n 0, 1) := by decide +kernel
theorem dX8_as_44 : decode cX8_as 44 = .ok (.iconst 3, 1) := by decide +kernel
theorem dX8_as_45 : decode cX8_as 45 = .ok (.invokevirtual 65, 3) := by decide +kernel
theorem dX8_as_48 : decode cX8_as 48 = .ok (.ireturn, 1) := by decide +kernel
theorem dX8_leave_0 : decode cX8_leave 0 = .ok (.aload_n 0, 1) := by decide +kernel
theorem dX8_leave_1 : decode cX8_leave 1 = .ok (.getfield 252, 3) := by decide +kernel
theorem dX8_leave_4 : decode cX8_leave 4 = .ok (.bipush 16, 2) := by decide +kernel
theorem dX8_leave_6 : decode cX8_leave 6 = .ok (.if_icmp .ge 23, 3) := by decide +kernel
theorem dX8_leave_9 : decode cX8_leave 9 = .ok (.aload_n 0, 1) := by decide +kernel
theorem dX8_leave_10 : decode cX8_leave 10 = .ok (.getfield 41, 3) := by decide +kernel
theorem dX8_leave_13 : decode cX8_leave 13 = .ok (.aload_n 0, 1) := by decide +kernel
theorem dX8_leave_14 : decode cX8_leave 14 = .ok (.getfield 252, 3) := by decide +kernel
theorem dX8_leave_17 : decode cX8_leave 17 = .ok (.iload_n 1, 1) := by decide +kernel
theorem dX8_leave_18 : decode cX8_leave 18 = .ok (.iastore, 1) := by decide +kernel
theorem dX8_leave_19 : decode cX8_leave 19 = .ok (.aload_n 0, 1) := by decide +kernel
theorem dX8_leave_20 : decode cX8_leave 20 = .ok (.dup, 1) := by decide +kernel
theorem dX8_leave_21 : decode cX8_leave 21 = .ok (.getfield 252, 3) := by decide +kernel
theorem dX8_leave_24 : decode cX8_leave 24 = .ok (.iconst 1, 1) := by decide +kernel
theorem dX8_leave_25 : decode cX8_leave 25 = .ok (.iadd, 1) := by decide +kernel
theorem dX8_leave_26 : decode cX8_leave 26 = .ok (.putfield 252, 3) := by decide +kernel
theorem dX8_leave_29 : decode cX8_leave 29 = .ok (.return_, 1) := by decide +kernel
theorem dX8_body10_0 : decode cX8_body10 0 = .ok (.aload_n 0, 1) := by decide +kernel
theorem dX8_body10_1 : decode cX8_body10 1 = .ok (.bipush 10, 2) := by decide +kernel
theorem dX8_body10_3 : decode cX8_body10 3 = .ok (.invokevirtual 255, 3) := by decide +kernel
theorem dX8_body10_6 : decode cX8_body10 6 = .ok (.aload_n 0, 1) := by decide +kernel
theorem dX8_body10_7 : decode cX8_body10 7 = .ok (.getfield 22, 3) := by decide +kernel
theorem dX8_body10_10 : decode cX8_body10 10 = .ok (.bipush 22, 2) := by decide +kernel
theorem dX8_body10_12 : decode cX8_body10 12 = .ok (.iload_n 1, 1) := by decide +kernel
theorem dX8_body10_13 : decode cX8_body10 13 = .ok (.iadd, 1) := by decide +kernel
theorem dX8_body10_14 : decode cX8_body10 14 = .ok (.iaload, 1) := by decide +kernel
theorem dX8_body10_15 : decode cX8_body10 15 = .ok (.aload_n 0, 1) := by decide +kernel
theorem dX8_body10_16 : decode cX8_body10 16 = .ok (.getfield 22, 3) := by decide +kernel
theorem dX8_body10_19 : decode cX8_body10 19 = .ok (.bipush 28, 2) := by decide +kernel
theorem dX8_body10_21 : decode cX8_body10 21 = .ok (.iload_n 1, 1) := by decide +kernel
theorem dX8_body10_22 : decode cX8_body10 22 = .ok (.iadd, 1) := by decide +kernel
theorem dX8_body10_23 : decode cX8_body10 23 = .ok (.iaload, 1) := by decide +kernel
theorem dX8_body10_24 : decode cX8_body10 24 = .ok (.imul, 1) := by decide +kernel
theorem dX8_body10_25 : decode cX8_body10 25 = .ok (.ireturn, 1) := by decide +kernel
theorem dX8_body11_0 : decode cX8_body11 0 = .ok (.aload_n 0, 1) := by decide +kernel
theorem dX8_body11_1 : decode cX8_body11 1 = .ok (.bipush 11, 2) := by decide +kernel
theorem dX8_body11_3 : decode cX8_body11 3 = .ok (.invokevirtual 255, 3) := by decide +kernel
theorem dX8_body11_6 : decode cX8_body11 6 = .ok (.aload_n 0, 1) := by decide +kernel
theorem dX8_body11_7 : decode cX8_body11 7 = .ok (.iload_n 1, 1) := by decide +kernel
theorem dX8_body11_8 : decode cX8_body11 8 = .ok (.invokevirtual 259, 3) := by decide +kernel
theorem dX8_body11_11 : decode cX8_body11 11 = .ok (.istore_n 2, 1) := by decide +kernel
theorem dX8_body11_12 : decode cX8_body11 12 = .ok (.iload_n 2, 1) := by decide +kernel
theorem dX8_body11_13 : decode cX8_body11 13 = .ok (.aload_n 0, 1) := by decide +kernel
theorem dX8_body11_14 : decode cX8_body11 14 = .ok (.iload_n 1, 1) := by decide +kernel
theorem dX8_body11_15 : decode cX8_body11 15 = .ok (.invokevirtual 262, 3) := by decide +kernel
theorem dX8_body11_18 : decode cX8_body11 18 = .ok (.iadd, 1) := by decide +kernel
theorem dX8_body11_19 : decode cX8_body11 19 = .ok (.ireturn, 1) := by decide +kernel
theorem dX8_body12_0 : decode cX8_body12 0 = .ok (.aload_n 0, 1) := by decide +kernel
theorem dX8_body12_1 : decode cX8_body12 1 = .ok (.bipush 12, 2) := by decide +kernel
theorem dX8_body12_3 : decode cX8_body12 3 = .ok (.invokevirtual 255, 3) := by decide +kernel
theorem dX8_body12_6 : decode cX8_body12 6 = .ok (.aload_n 0, 1) := by decide +kernel
theorem dX8_body12_7 : decode cX8_body12 7 = .ok (.iload_n 1, 1) := by decide +kernel
theorem dX8_body12_8 : decode cX8_body12 8 = .ok (.invokevirtual 265, 3) := by decide +kernel
theorem dX8_body12_11 : decode cX8_body12 11 = .ok (.ineg, 1) := by decide +kernel
theorem dX8_body12_12 : decode cX8_body12 12 = .ok (.ireturn, 1) := by decide +kernel
theorem dX8_body13_0 : decode cX8_body13 0 = .ok (.aload_n 0, 1) := by decide +kernel
theorem dX8_body13_1 : decode cX8_body13 1 = .ok (.bipush 13, 2) := by decide +kernel
theorem dX8_body13_3 : decode cX8_body13 3 = .ok (.invokevirtual 255, 3) := by decide +kernel
theorem dX8_body13_6 : decode cX8_body13 6 = .ok (.aload_n 0, 1) := by decide +kernel
theorem dX8_body13_7 : decode cX8_body13 7 = .ok (.iload_n 1, 1) := by decide +kernel
theorem dX8_body13_8 : decode cX8_body13 8 = .ok (.invokevirtual 259, 3) := by decide +kernel
theorem dX8_body13_11 : decode cX8_body13 11 = .ok (.bipush 100, 2) := by decide +kernel
theorem dX8_body13_13 : decode cX8_body13 13 = .ok (.isub, 1) := by decide +kernel
theorem dX8_body13_14 : decode cX8_body13 14 = .ok (.ireturn, 1) := by decide +kernel
theorem dX8_body14_0 : decode cX8_body14 0 = .ok (.aload_n 0, 1) := by decide +kernel
theorem dX8_body14_1 : decode cX8_body14 1 = .ok (.bipush 14, 2) := by decide +kernel
theorem dX8_body14_3 : decode cX8_body14 3 = .ok (.invokevirtual 255, 3) := by decide +kernel
theorem dX8_body14_6 : decode cX8_body14 6 = .ok (.iconst 2, 1) := by decide +kernel
theorem dX8_body14_7 : decode cX8_body14 7 = .ok (.aload_n 0, 1) := by decide +kernel
theorem dX8_body14_8 : decode cX8_body14 8 = .ok (.iload_n 1, 1) := by decide +kernel
theorem dX8_body14_9 : decode cX8_body14 9 = .ok (.invokevirtual 265, 3) := by decide +kernel
theorem dX8_body14_12 : decode cX8_body14 12 = .ok (.imul, 1) := by decide +kernel
theorem dX8_body14_13 : decode cX8_body14 13 = .ok (.ireturn, 1) := by decide +kernel
theorem dX8_sizeOfOther_0 : decode cX8_sizeOfOther 0 = .ok (.aload_n 0, 1) := by decide +kernel
theorem dX8_sizeOfOther_1 : decode cX8_sizeOfOther 1 = .ok (.getfield 22, 3) := by decide +kernel
theorem dX8_sizeOfOther_4 : decode cX8_sizeOfOther 4 = .ok (.iconst 4, 1) := by decide +kernel
theorem dX8_sizeOfOther_5 : decode cX8_sizeOfOther 5 = .ok (.iload_n 1, 1) := by decide +kernel
theorem dX8_sizeOfOther_6 : decode cX8_sizeOfOther 6 = .ok (.iadd, 1) := by decide +kernel
theorem dX8_sizeOfOther_7 : decode cX8_sizeOfOther 7 = .ok (.iaload, 1) := by decide +kernel
theorem dX8_sizeOfOther_8 : decode cX8_sizeOfOther 8 = .ok (.iconst 3, 1) := by decide +kernel
theorem dX8_sizeOfOther_9 : decode cX8_sizeOfOther 9 = .ok (.if_icmp .ne 11, 3) := by decide +kernel
theorem dX8_sizeOfOther_12 : decode cX8_sizeOfOther 12 = .ok (.aload_n 0, 1) := by decide +kernel
theorem dX8_sizeOfOther_13 : decode cX8_sizeOfOther 13 = .ok (.iload_n 1, 1) := by decide +kernel
theorem dX8_sizeOfOther_14 : decode cX8_sizeOfOther 14 = .ok (.invokevirtual 268, 3) := by decide +kernel
theorem dX8_sizeOfOther_17 : decode cX8_sizeOfOther 17 = .ok (.goto 28, 3) := by decide +kernel
theorem dX8_sizeOfOther_20 : decode cX8_sizeOfOther 20 = .ok (.aload_n 0, 1) := by decide +kernel
theorem dX8_sizeOfOther_21 : decode cX8_sizeOfOther 21 = .ok (.getfield 22, 3) := by decide +kernel
theorem dX8_sizeOfOther_24 : decode cX8_sizeOfOther 24 = .ok (.iconst 4, 1) := by decide +kernel
theorem dX8_sizeOfOther_25 : decode cX8_sizeOfOther 25 = .ok (.iload_n 1, 1) := by decide +kernel
theorem dX8_sizeOfOther_26 : decode cX8_sizeOfOther 26 = .ok (.iadd, 1) := by decide +kernel
theorem dX8_sizeOfOther_27 : decode cX8_sizeOfOther 27 = .ok (.iaload, 1) := by decide +kernel
theorem dX8_sizeOfOther_28 : decode cX8_sizeOfOther 28 = .ok (.iconst 5, 1) := by decide +kernel
theorem dX8_sizeOfOther_29 : decode cX8_sizeOfOther 29 = .ok (.if_icmp .ne 11, 3) := by decide +kernel
theorem dX8_sizeOfOther_32 : decode cX8_sizeOfOther 32 = .ok (.aload_n 0, 1) := by decide +kernel
theorem dX8_sizeOfOther_33 : decode cX8_sizeOfOther 33 = .ok (.iload_n 1, 1) := by decide +kernel
theorem dX8_sizeOfOther_34 : decode cX8_sizeOfOther 34 = .ok (.invokevirtual 271, 3) := by decide +kernel
theorem dX8_sizeOfOther_37 : decode cX8_sizeOfOther 37 = .ok (.goto 8, 3) := by decide +kernel
theorem dX8_sizeOfOther_40 : decode cX8_sizeOfOther 40 = .ok (.aload_n 0, 1) := by decide +kernel
theorem dX8_sizeOfOther_41 : decode cX8_sizeOfOther 41 = .ok (.iload_n 1, 1) := by decide +kernel
theorem dX8_sizeOfOther_42 : decode cX8_sizeOfOther 42 = .ok (.invokevirtual 265, 3) := by decide +kernel
theorem dX8_sizeOfOther_45 : decode cX8_sizeOfOther 45 = .ok (.ireturn, 1) := by decide +kernel
theorem dX8_body20_0 : decode cX8_body20 0 = .ok (.aload_n 0, 1) := by decide +kernel
theorem dX8_body20_1 : decode cX8_body20 1 = .ok (.bipush 20, 2) := by decide +kernel
theorem dX8_body20_3 : decode cX8_body20 3 = .ok (.invokevirtual 255, 3) := by decide +kernel
theorem dX8_body20_6 : decode cX8_body20 6 = .ok (.iload_n 1, 1) := by decide +kernel
theorem dX8_body20_7 : decode cX8_body20 7 = .ok (.ireturn, 1) := by decide +kernel
theorem dX8_body21_0 : decode cX8_body21 0 = .ok (.aload_n 0, 1) := by decide +kernel
theorem dX8_body21_1 : decode cX8_body21 1 = .ok (.bipush 21, 2) := by decide +kernel
theorem dX8_body21_3 : decode cX8_body21 3 = .ok (.invokevirtual 255, 3) := by decide +kernel
theorem dX8_body21_6 : decode cX8_body21 6 = .ok (.aload_n 0, 1) := by decide +kernel
theorem dX8_body21_7 : decode cX8_body21 7 = .ok (.iload_n 1, 1) := by decide +kernel
theorem dX8_body21_8 : decode cX8_body21 8 = .ok (.invokevirtual 274, 3) := by decide +kernel
theorem dX8_body21_11 : decode cX8_body21 11 = .ok (.aload_n 0, 1) := by decide +kernel
theorem dX8_body21_12 : decode cX8_body21 12 = .ok (.getfield 22, 3) := by decide +kernel
theorem dX8_body21_15 : decode cX8_body21 15 = .ok (.bipush 10, 2) := by decide +kernel
theorem dX8_body21_17 : decode cX8_body21 17 = .ok (.iload_n 1, 1) := by decide +kernel
theorem dX8_body21_18 : decode cX8_body21 18 = .ok (.iadd, 1) := by decide +kernel
theorem dX8_body21_19 : decode cX8_body21 19 = .ok (.iaload, 1) := by decide +kernel
theorem dX8_body21_20 : decode cX8_body21 20 = .ok (.iadd, 1) := by decide +kernel
theorem dX8_body21_21 : decode cX8_body21 21 = .ok (.ireturn, 1) := by decide +kernel
theorem dX8_body22_0 : decode cX8_body22 0 = .ok (.aload_n 0, 1) := by decide +kernel
theorem dX8_body22_1 : decode cX8_body22 1 = .ok (.bipush 22, 2) := by decide +kernel
theorem dX8_body22_3 : decode cX8_body22 3 = .ok (.invokevirtual 255, 3) := by decide +kernel
theorem dX8_body22_6 : decode cX8_body22 6 = .ok (.aload_n 0, 1) := by decide +kernel
theorem dX8_body22_7 : decode cX8_body22 7 = .ok (.iload_n 1, 1) := by decide +kernel
theorem dX8_body22_8 : decode cX8_body22 8 = .ok (.invokevirtual 277, 3) := by decide +kernel
theorem dX8_body22_11 : decode cX8_body22 11 = .ok (.sipush 1000, 3) := by decide +kernel
theorem dX8_body22_14 : decode cX8_body22 14 = .ok (.isub, 1) := by decide +kernel
theorem dX8_body22_15 : decode cX8_body22 15 = .ok (.ireturn, 1) := by decide +kernel
theorem dX8_body23_0 : decode cX8_body23 0 = .ok (.aload_n 0, 1) := by decide +kernel
theorem dX8_body23_1 : decode cX8_body23 1 = .ok (.bipush 23, 2) := by decide +kernel
theorem dX8_body23_3 : decode cX8_body23 3 = .ok (.invokevirtual 255, 3) := by decide +kernel
theorem dX8_body23_6 : decode cX8_body23 6 = .ok (.aload_n 0, 1) := by decide +kernel
theorem dX8_body23_7 : decode cX8_body23 7 = .ok (.iload_n 1, 1) := by decide +kernel
theorem dX8_body23_8 : decode cX8_body23 8 = .ok (.invokevirtual 274, 3) := by decide +kernel
theorem dX8_body23_11 : decode cX8_body23 11 = .ok (.istore_n 2, 1) := by decide +kernel
theorem dX8_body23_12 : decode cX8_body23 12 = .ok (.iload_n 2, 1) := by decide +kernel
theorem dX8_body23_13 : decode cX8_body23 13 = .ok (.aload_n 0, 1) := by decide +kernel
theorem dX8_body23_14 : decode cX8_body23 14 = .ok (.iload_n 1, 1) := by decide +kernel
theorem dX8_body23_15 : decode cX8_body23 15 = .ok (.invokevirtual 280, 3) := by decide +kernel
theorem dX8_body23_18 : decode cX8_body23 18 = .ok (.isub, 1) := by decide +kernel
theorem dX8_body23_19 : decode cX8_body23 19 = .ok (.ireturn, 1) := by decide +kernel
theorem dX8_body24_0 : decode cX8_body24 0 = .ok (.aload_n 0, 1) := by decide +kernel
theorem dX8_body24_1 : decode cX8_body24 1 = .ok (.bipush 24, 2) := by decide +kernel
theorem dX8_body24_3 : decode cX8_body24 3 = .ok (.invokevirtual 255, 3) := by decide +kernel
theorem dX8_body24_6 : decode cX8_body24 6 = .ok (.iconst 2, 1) := by decide +kernel
theorem dX8_body24_7 : decode cX8_body24 7 = .ok (.aload_n 0, 1) := by decide +kernel
theorem dX8_body24_8 : decode cX8_body24 8 = .ok (.iload_n 1, 1) := by decide +kernel
theorem dX8_body24_9 : decode cX8_body24 9 = .ok (.invokevirtual 283, 3) := by decide +kernel
theorem dX8_body24_12 : decode cX8_body24 12 = .ok (.imul, 1) := by decide +kernel
theorem dX8_body24_13 : decode cX8_body24 13 = .ok (.ireturn, 1) := by decide +kernel
theorem dX8_markOf_0 : decode cX8_markOf 0 = .ok (.aload_n 0, 1) := by decide +kernel
theorem dX8_markOf_1 : decode cX8_markOf 1 = .ok (.getfield 22, 3) := by decide +kernel
theorem dX8_markOf_4 : decode cX8_markOf 4 = .ok (.iconst 4, 1) := by decide +kernel
theorem dX8_markOf_5 : decode cX8_markOf 5 = .ok (.iload_n 1, 1) := by decide +kernel
theorem dX8_markOf_6 : decode cX8_markOf 6 = .ok (.iadd, 1) := by decide +kernel
theorem dX8_markOf_7 : decode cX8_markOf 7 = .ok (.iaload, 1) := by decide +kernel
theorem dX8_markOf_8 : decode cX8_markOf 8 = .ok (.tableswitch 54 1 5 #[36, 54, 54, 42, 48], 36) := by decide +kernel
theorem dX8_markOf_44 : decode cX8_markOf 44 = .ok (.aload_n 0, 1) := by decide +kernel
theorem dX8_markOf_45 : decode cX8_markOf 45 = .ok (.iload_n 1, 1) := by decide +kernel
theorem dX8_markOf_46 : decode cX8_markOf 46 = .ok (.invokevirtual 286, 3) := by decide +kernel
theorem dX8_markOf_49 : decode cX8_markOf 49 = .ok (.ireturn, 1) := by decide +kernel
theorem dX8_markOf_50 : decode cX8_markOf 50 = .ok (.aload_n 0, 1) := by decide +kernel
theorem dX8_markOf_51 : decode cX8_markOf 51 = .ok (.iload_n 1, 1) := by decide +kernel
theorem dX8_markOf_52 : decode cX8_markOf 52 = .ok (.invokevirtual 283, 3) := by decide +kernel
theorem dX8_markOf_55 : decode cX8_markOf 55 = .ok (.ireturn, 1) := by decide +kernel
theorem dX8_markOf_56 : decode cX8_markOf 56 = .ok (.aload_n 0, 1) := by decide +kernel
theorem dX8_markOf_57 : decode cX8_markOf 57 = .ok (.iload_n 1, 1) := by decide +kernel
theorem dX8_markOf_58 : decode cX8_markOf 58 = .ok (.invokevirtual 289, 3) := by decide +kernel
theorem dX8_markOf_61 : decode cX8_markOf 61 = .ok (.ireturn, 1) := by decide +kernel
theorem dX8_markOf_62 : decode cX8_markOf 62 = .ok (.aload_n 0, 1) := by decide +kernel
theorem dX8_markOf_63 : decode cX8_markOf 63 = .ok (.iload_n 1, 1) := by decide +kernel
theorem dX8_markOf_64 : decode cX8_markOf 64 = .ok (.invokevirtual 277, 3) := by decide +kernel
theorem dX8_markOf_67 : decode cX8_markOf 67 = .ok (.ireturn, 1) := by decide +kernel
theorem dX8_ask_0 : decode cX8_ask 0 = .ok (.aload_n 0, 1) := by decide +kernel
theorem dX8_ask_1 : decode cX8_ask 1 = .ok (.iload_n 1, 1) := by decide +kernel
theorem dX8_ask_2 : decode cX8_ask 2 = .ok (.invokevirtual 199, 3) := by decide +kernel
theorem dX8_ask_5 : decode cX8_ask 5 = .ok (.ifCond .eq 12, 3) := by decide +kernel
theorem dX8_ask_8 : decode cX8_ask 8 = .ok (.iload_n 2, 1) := by decide +kernel
theorem dX8_ask_9 : decode cX8_ask 9 = .ok (.iconst 0, 1) := by decide +kernel
theorem dX8_ask_10 : decode cX8_ask 10 = .ok (.iconst 1, 1) := by decide +kernel
theorem dX8_ask_11 : decode cX8_ask 11 = .ok (.invokestatic 56, 3) := by decide +kernel
theorem dX8_ask_14 : decode cX8_ask 14 = .ok (.ifCond .ne 6, 3) := by decide +kernel
theorem dX8_ask_17 : decode cX8_ask 17 = .ok (.ldc 64, 2) := by decide +kernel
theorem dX8_ask_19 : decode cX8_ask 19 = .ok (.ireturn, 1) := by decide +kernel
theorem dX8_ask_20 : decode cX8_ask 20 = .ok (.aload_n 0, 1) := by decide +kernel
theorem dX8_ask_21 : decode cX8_ask 21 = .ok (.iconst 0, 1) := by decide +kernel
theorem dX8_ask_22 : decode cX8_ask 22 = .ok (.putfield 252, 3) := by decide +kernel
theorem dX8_ask_25 : decode cX8_ask 25 = .ok (.iload_n 2, 1) := by decide +kernel
theorem dX8_ask_26 : decode cX8_ask 26 = .ok (.iconst 1, 1) := by decide +kernel
theorem dX8_ask_27 : decode cX8_ask 27 = .ok (.if_icmp .ne 9, 3) := by decide +kernel
theorem dX8_ask_30 : decode cX8_ask 30 = .ok (.aload_n 0, 1) := by decide +kernel
theorem dX8_ask_31 : decode cX8_ask 31 = .ok (.iload_n 1, 1) := by decide +kernel
theorem dX8_ask_32 : decode cX8_ask 32 = .ok (.invokevirtual 262, 3) := by decide +kernel
theorem dX8_ask_35 : decode cX8_ask 35 = .ok (.ireturn, 1) := by decide +kernel
theorem dX8_ask_36 : decode cX8_ask 36 = .ok (.aload_n 0, 1) := by decide +kernel
theorem dX8_ask_37 : decode cX8_ask 37 = .ok (.getfield 22, 3) := by decide +kernel
theorem dX8_ask_40 : decode cX8_ask 40 = .ok (.iconst 4, 1) := by decide +kernel
theorem dX8_ask_41 : decode cX8_ask 41 = .ok (.iload_n 1, 1) := by decide +kernel
theorem dX8_ask_42 : decode cX8_ask 42 = .ok (.iadd, 1) := by decide +kernel
theorem dX8_ask_43 : decode cX8_ask 43 = .ok (.iaload, 1) := by decide +kernel
theorem dX8_ask_44 : decode cX8_ask 44 = .ok (.iconst 1, 1) := by decide +kernel
theorem dX8_ask_45 : decode cX8_ask 45 = .ok (.if_icmp .ne 11, 3) := by decide +kernel
theorem dX8_ask_48 : decode cX8_ask 48 = .ok (.aload_n 0, 1) := by decide +kernel
theorem dX8_ask_49 : decode cX8_ask 49 = .ok (.iload_n 1, 1) := by decide +kernel
theorem dX8_ask_50 : decode cX8_ask 50 = .ok (.invokevirtual 280, 3) := by decide +kernel
theorem dX8_ask_53 : decode cX8_ask 53 = .ok (.goto 8, 3) := by decide +kernel
theorem dX8_ask_56 : decode cX8_ask 56 = .ok (.aload_n 0, 1) := by decide +kernel
theorem dX8_ask_57 : decode cX8_ask 57 = .ok (.iload_n 1, 1) := by decide +kernel
theorem dX8_ask_58 : decode cX8_ask 58 = .ok (.invokevirtual 292, 3) := by decide +kernel
theorem dX8_ask_61 : decode cX8_ask 61 = .ok (.ireturn, 1) := by decide +kernel
theorem dX8_trace_0 : decode cX8_trace 0 = .ok (.iload_n 1, 1) := by decide +kernel
theorem dX8_trace_1 : decode cX8_trace 1 = .ok (.iconst 0, 1) := by decide +kernel
theorem dX8_trace_2 : decode cX8_trace 2 = .ok (.aload_n 0, 1) := by decide +kernel
theorem dX8_trace_3 : decode cX8_trace 3 = .ok (.getfield 252, 3) := by decide +kernel
theorem dX8_trace_6 : decode cX8_trace 6 = .ok (.iconst 1, 1) := by decide +kernel
theorem dX8_trace_7 : decode cX8_trace 7 = .ok (.isub, 1) := by decide +kernel
theorem dX8_trace_8 : decode cX8_trace 8 = .ok (.invokestatic 56, 3) := by decide +kernel
theorem dX8_trace_11 : decode cX8_trace 11 = .ok (.ifCond .eq 12, 3) := by decide +kernel
theorem dX8_trace_14 : decode cX8_trace 14 = .ok (.aload_n 0, 1) := by decide +kernel
theorem dX8_trace_15 : decode cX8_trace 15 = .ok (.getfield 41, 3) := by decide +kernel
theorem dX8_trace_18 : decode cX8_trace 18 = .ok (.iload_n 1, 1) := by decide +kernel
theorem dX8_trace_19 : decode cX8_trace 19 = .ok (.iaload, 1) := by decide +kernel
theorem dX8_trace_20 : decode cX8_trace 20 = .ok (.goto 5, 3) := by decide +kernel
theorem dX8_trace_23 : decode cX8_trace 23 = .ok (.ldc 50, 2) := by decide +kernel
theorem dX8_trace_25 : decode cX8_trace 25 = .ok (.ireturn, 1) := by decide +kernel
theorem dX8_count_0 : decode cX8_count 0 = .ok (.iconst 0, 1) := by decide +kernel
theorem dX8_count_1 : decode cX8_count 1 = .ok (.istore_n 2, 1) := by decide +kernel
theorem dX8_count_2 : decode cX8_count 2 = .ok (.iload_n 1, 1) := by decide +kernel
theorem dX8_count_3 : decode cX8_count 3 = .ok (.tableswitch 181 0 6 #[41, 73, 80, 111, 116, 148, 176], 41) := by decide +kernel
theorem dX8_count_44 : decode cX8_count 44 = .ok (.iconst 0, 1) := by decide +kernel
theorem dX8_count_45 : decode cX8_count 45 = .ok (.istore_n 3, 1) := by decide +kernel
theorem dX8_count_46 : decode cX8_count 46 = .ok (.iload_n 3, 1) := by decide +kernel
theorem dX8_count_47 : decode cX8_count 47 = .ok (.bipush 8, 2) := by decide +kernel
theorem dX8_count_49 : decode cX8_count 49 = .ok (.if_icmp .ge 25, 3) := by decide +kernel
theorem dX8_count_52 : decode cX8_count 52 = .ok (.iload_n 2, 1) := by decide +kernel
theorem dX8_count_53 : decode cX8_count 53 = .ok (.aload_n 0, 1) := by decide +kernel
theorem dX8_count_54 : decode cX8_count 54 = .ok (.iload_n 3, 1) := by decide +kernel
theorem dX8_count_55 : decode cX8_count 55 = .ok (.invokevirtual 72, 3) := by decide +kernel
theorem dX8_count_58 : decode cX8_count 58 = .ok (.ifCond .eq 7, 3) := by decide +kernel
theorem dX8_count_61 : decode cX8_count 61 = .ok (.iconst 0, 1) := by decide +kernel
theorem dX8_count_62 : decode cX8_count 62 = .ok (.goto 4, 3) := by decide +kernel
theorem dX8_count_65 : decode cX8_count 65 = .ok (.iconst 1, 1) := by decide +kernel
theorem dX8_count_66 : decode cX8_count 66 = .ok (.iadd, 1) := by decide +kernel
theorem dX8_count_67 : decode cX8_count 67 = .ok (.istore_n 2, 1) := by decide +kernel
theorem dX8_count_68 : decode cX8_count 68 = .ok (.iinc 3 1, 3) := by decide +kernel
theorem dX8_count_71 : decode cX8_count 71 = .ok (.goto (-25), 3) := by decide +kernel
theorem dX8_count_74 : decode cX8_count 74 = .ok (.iload_n 2, 1) := by decide +kernel
theorem dX8_count_75 : decode cX8_count 75 = .ok (.ireturn, 1) := by decide +kernel
theorem dX8_count_76 : decode cX8_count 76 = .ok (.aload_n 0, 1) := by decide +kernel
theorem dX8_count_77 : decode cX8_count 77 = .ok (.getfield 22, 3) := by decide +kernel
theorem dX8_count_80 : decode cX8_count 80 = .ok (.iconst 3, 1) := by decide +kernel
theorem dX8_count_81 : decode cX8_count 81 = .ok (.iaload, 1) := by decide +kernel
theorem dX8_count_82 : decode cX8_count 82 = .ok (.ireturn, 1) := by decide +kernel
theorem dX8_count_83 : decode cX8_count 83 = .ok (.iconst 0, 1) := by decide +kernel
theorem dX8_count_84 : decode cX8_count 84 = .ok (.istore_n 3, 1) := by decide +kernel
theorem dX8_count_85 : decode cX8_count 85 = .ok (.iload_n 3, 1) := by decide +kernel
theorem dX8_count_86 : decode cX8_count 86 = .ok (.sipush 128, 3) := by decide +kernel
theorem dX8_count_89 : decode cX8_count 89 = .ok (.if_icmp .ge 23, 3) := by decide +kernel
theorem dX8_count_92 : decode cX8_count 92 = .ok (.iload_n 2, 1) := by decide +kernel
theorem dX8_count_93 : decode cX8_count 93 = .ok (.aload_n 0, 1) := by decide +kernel
theorem dX8_count_94 : decode cX8_count 94 = .ok (.getfield 22, 3) := by decide +kernel
theorem dX8_count_97 : decode cX8_count 97 = .ok (.bipush 40, 2) := by decide +kernel
theorem dX8_count_99 : decode cX8_count 99 = .ok (.iload_n 3, 1) := by decide +kernel
theorem dX8_count_100 : decode cX8_count 100 = .ok (.iadd, 1) := by decide +kernel
theorem dX8_count_101 : decode cX8_count 101 = .ok (.iaload, 1) := by decide +kernel
theorem dX8_count_102 : decode cX8_count 102 = .ok (.iconst 1, 1) := by decide +kernel
theorem dX8_count_103 : decode cX8_count 103 = .ok (.iand, 1) := by decide +kernel
theorem dX8_count_104 : decode cX8_count 104 = .ok (.iadd, 1) := by decide +kernel
theorem dX8_count_105 : decode cX8_count 105 = .ok (.istore_n 2, 1) := by decide +kernel
theorem dX8_count_106 : decode cX8_count 106 = .ok (.iinc 3 1, 3) := by decide +kernel
theorem dX8_count_109 : decode cX8_count 109 = .ok (.goto (-24), 3) := by decide +kernel
theorem dX8_count_112 : decode cX8_count 112 = .ok (.iload_n 2, 1) := by decide +kernel
theorem dX8_count_113 : decode cX8_count 113 = .ok (.ireturn, 1) := by decide +kernel
theorem dX8_count_114 : decode cX8_count 114 = .ok (.aload_n 0, 1) := by decide +kernel
theorem dX8_count_115 : decode cX8_count 115 = .ok (.getfield 181, 3) := by decide +kernel
theorem dX8_count_118 : decode cX8_count 118 = .ok (.ireturn, 1) := by decide +kernel
theorem dX8_count_119 : decode cX8_count 119 = .ok (.iconst 0, 1) := by decide +kernel
theorem dX8_count_120 : decode cX8_count 120 = .ok (.istore_n 3, 1) := by decide +kernel
theorem dX8_count_121 : decode cX8_count 121 = .ok (.iload_n 3, 1) := by decide +kernel
theorem dX8_count_122 : decode cX8_count 122 = .ok (.aload_n 0, 1) := by decide +kernel
theorem dX8_count_123 : decode cX8_count 123 = .ok (.getfield 22, 3) := by decide +kernel
theorem dX8_count_126 : decode cX8_count 126 = .ok (.iconst 3, 1) := by decide +kernel
theorem dX8_count_127 : decode cX8_count 127 = .ok (.iaload, 1) := by decide +kernel
theorem dX8_count_128 : decode cX8_count 128 = .ok (.if_icmp .ge 21, 3) := by decide +kernel
theorem dX8_count_131 : decode cX8_count 131 = .ok (.iload_n 2, 1) := by decide +kernel
theorem dX8_count_132 : decode cX8_count 132 = .ok (.aload_n 0, 1) := by decide +kernel
theorem dX8_count_133 : decode cX8_count 133 = .ok (.getfield 22, 3) := by decide +kernel
theorem dX8_count_136 : decode cX8_count 136 = .ok (.bipush 34, 2) := by decide +kernel
theorem dX8_count_138 : decode cX8_count 138 = .ok (.iload_n 3, 1) := by decide +kernel
theorem dX8_count_139 : decode cX8_count 139 = .ok (.iadd, 1) := by decide +kernel
theorem dX8_count_140 : decode cX8_count 140 = .ok (.iaload, 1) := by decide +kernel
theorem dX8_count_141 : decode cX8_count 141 = .ok (.iadd, 1) := by decide +kernel
theorem dX8_count_142 : decode cX8_count 142 = .ok (.istore_n 2, 1) := by decide +kernel
theorem dX8_count_143 : decode cX8_count 143 = .ok (.iinc 3 1, 3) := by decide +kernel
theorem dX8_count_146 : decode cX8_count 146 = .ok (.goto (-25), 3) := by decide +kernel
theorem dX8_count_149 : decode cX8_count 149 = .ok (.iload_n 2, 1) := by decide +kernel
theorem dX8_count_150 : decode cX8_count 150 = .ok (.ireturn, 1) := by decide +kernel
theorem dX8_count_151 : decode cX8_count 151 = .ok (.iconst 0, 1) := by decide +kernel
theorem dX8_count_152 : decode cX8_count 152 = .ok (.istore_n 3, 1) := by decide +kernel
theorem dX8_count_153 : decode cX8_count 153 = .ok (.iload_n 3, 1) := by decide +kernel
theorem dX8_count_154 : decode cX8_count 154 = .ok (.aload_n 0, 1) := by decide +kernel
theorem dX8_count_155 : decode cX8_count 155 = .ok (.getfield 22, 3) := by decide +kernel
theorem dX8_count_158 : decode cX8_count 158 = .ok (.iconst 3, 1) := by decide +kernel
theorem dX8_count_159 : decode cX8_count 159 = .ok (.iaload, 1) := by decide +kernel
theorem dX8_count_160 : decode cX8_count 160 = .ok (.if_icmp .ge 17, 3) := by decide +kernel
theorem dX8_count_163 : decode cX8_count 163 = .ok (.iload_n 2, 1) := by decide +kernel
theorem dX8_count_164 : decode cX8_count 164 = .ok (.aload_n 0, 1) := by decide +kernel
theorem dX8_count_165 : decode cX8_count 165 = .ok (.iload_n 3, 1) := by decide +kernel
theorem dX8_count_166 : decode cX8_count 166 = .ok (.invokevirtual 216, 3) := by decide +kernel
theorem dX8_count_169 : decode cX8_count 169 = .ok (.iadd, 1) := by decide +kernel
theorem dX8_count_170 : decode cX8_count 170 = .ok (.istore_n 2, 1) := by decide +kernel
theorem dX8_count_171 : decode cX8_count 171 = .ok (.iinc 3 1, 3) := by decide +kernel
theorem dX8_count_174 : decode cX8_count 174 = .ok (.goto (-21), 3) := by decide +kernel
theorem dX8_count_177 : decode cX8_count 177 = .ok (.iload_n 2, 1) := by decide +kernel
theorem dX8_count_178 : decode cX8_count 178 = .ok (.ireturn, 1) := by decide +kernel
theorem dX8_count_179 : decode cX8_count 179 = .ok (.aload_n 0, 1) := by decide +kernel
theorem dX8_count_180 : decode cX8_count 180 = .ok (.getfield 75, 3) := by decide +kernel
theorem dX8_count_183 : decode cX8_count 183 = .ok (.ireturn, 1) := by decide +kernel
theorem dX8_count_184 : decode cX8_count 184 = .ok (.ldc 64, 2) := by decide +kernel
theorem dX8_count_186 : decode cX8_count 186 = .ok (.ireturn, 1) := by decide +kernel
theorem dX8_status_0 : decode cX8_status 0 = .ok (.aload_n 0, 1) := by decide +kernel
theorem dX8_status_1 : decode cX8_status 1 = .ok (.getfield 51, 3) := by decide +kernel
theorem dX8_status_4 : decode cX8_status 4 = .ok (.ireturn, 1) := by decide +kernel
theorem dJ6_bitCount_0f7a4_0 : decode cJ6_bitCount_0f7a4 0 = .ok (.iload_n 0, 1) := by decide +kernel
theorem dJ6_bitCount_0f7a4_1 : decode cJ6_bitCount_0f7a4 1 = .ok (.iload_n 0, 1) := by decide +kernel
theorem dJ6_bitCount_0f7a4_2 : decode cJ6_bitCount_0f7a4 2 = .ok (.iconst 1, 1) := by decide +kernel
theorem dJ6_bitCount_0f7a4_3 : decode cJ6_bitCount_0f7a4 3 = .ok (.iushr, 1) := by decide +kernel
theorem dJ6_bitCount_0f7a4_4 : decode cJ6_bitCount_0f7a4 4 = .ok (.ldc_w 265, 3) := by decide +kernel
theorem dJ6_bitCount_0f7a4_7 : decode cJ6_bitCount_0f7a4 7 = .ok (.iand, 1) := by decide +kernel
theorem dJ6_bitCount_0f7a4_8 : decode cJ6_bitCount_0f7a4 8 = .ok (.isub, 1) := by decide +kernel
theorem dJ6_bitCount_0f7a4_9 : decode cJ6_bitCount_0f7a4 9 = .ok (.istore_n 0, 1) := by decide +kernel
theorem dJ6_bitCount_0f7a4_10 : decode cJ6_bitCount_0f7a4 10 = .ok (.iload_n 0, 1) := by decide +kernel
theorem dJ6_bitCount_0f7a4_11 : decode cJ6_bitCount_0f7a4 11 = .ok (.ldc_w 266, 3) := by decide +kernel
theorem dJ6_bitCount_0f7a4_14 : decode cJ6_bitCount_0f7a4 14 = .ok (.iand, 1) := by decide +kernel
theorem dJ6_bitCount_0f7a4_15 : decode cJ6_bitCount_0f7a4 15 = .ok (.iload_n 0, 1) := by decide +kernel
theorem dJ6_bitCount_0f7a4_16 : decode cJ6_bitCount_0f7a4 16 = .ok (.iconst 2, 1) := by decide +kernel
theorem dJ6_bitCount_0f7a4_17 : decode cJ6_bitCount_0f7a4 17 = .ok (.iushr, 1) := by decide +kernel
theorem dJ6_bitCount_0f7a4_18 : decode cJ6_bitCount_0f7a4 18 = .ok (.ldc_w 266, 3) := by decide +kernel
theorem dJ6_bitCount_0f7a4_21 : decode cJ6_bitCount_0f7a4 21 = .ok (.iand, 1) := by decide +kernel
theorem dJ6_bitCount_0f7a4_22 : decode cJ6_bitCount_0f7a4 22 = .ok (.iadd, 1) := by decide +kernel
theorem dJ6_bitCount_0f7a4_23 : decode cJ6_bitCount_0f7a4 23 = .ok (.istore_n 0, 1) := by decide +kernel
theorem dJ6_bitCount_0f7a4_24 : decode cJ6_bitCount_0f7a4 24 = .ok (.iload_n 0, 1) := by decide +kernel
theorem dJ6_bitCount_0f7a4_25 : decode cJ6_bitCount_0f7a4 25 = .ok (.iload_n 0, 1) := by decide +kernel
theorem dJ6_bitCount_0f7a4_26 : decode cJ6_bitCount_0f7a4 26 = .ok (.iconst 4, 1) := by decide +kernel
theorem dJ6_bitCount_0f7a4_27 : decode cJ6_bitCount_0f7a4 27 = .ok (.iushr, 1) := by decide +kernel
theorem dJ6_bitCount_0f7a4_28 : decode cJ6_bitCount_0f7a4 28 = .ok (.iadd, 1) := by decide +kernel
theorem dJ6_bitCount_0f7a4_29 : decode cJ6_bitCount_0f7a4 29 = .ok (.ldc_w 267, 3) := by decide +kernel
theorem dJ6_bitCount_0f7a4_32 : decode cJ6_bitCount_0f7a4 32 = .ok (.iand, 1) := by decide +kernel
theorem dJ6_bitCount_0f7a4_33 : decode cJ6_bitCount_0f7a4 33 = .ok (.istore_n 0, 1) := by decide +kernel
theorem dJ6_bitCount_0f7a4_34 : decode cJ6_bitCount_0f7a4 34 = .ok (.iload_n 0, 1) := by decide +kernel
theorem dJ6_bitCount_0f7a4_35 : decode cJ6_bitCount_0f7a4 35 = .ok (.iload_n 0, 1) := by decide +kernel
theorem dJ6_bitCount_0f7a4_36 : decode cJ6_bitCount_0f7a4 36 = .ok (.bipush 8, 2) := by decide +kernel
theorem dJ6_bitCount_0f7a4_38 : decode cJ6_bitCount_0f7a4 38 = .ok (.iushr, 1) := by decide +kernel
theorem dJ6_bitCount_0f7a4_39 : decode cJ6_bitCount_0f7a4 39 = .ok (.iadd, 1) := by decide +kernel
theorem dJ6_bitCount_0f7a4_40 : decode cJ6_bitCount_0f7a4 40 = .ok (.istore_n 0, 1) := by decide +kernel
theorem dJ6_bitCount_0f7a4_41 : decode cJ6_bitCount_0f7a4 41 = .ok (.iload_n 0, 1) := by decide +kernel
theorem dJ6_bitCount_0f7a4_42 : decode cJ6_bitCount_0f7a4 42 = .ok (.iload_n 0, 1) := by decide +kernel
theorem dJ6_bitCount_0f7a4_43 : decode cJ6_bitCount_0f7a4 43 = .ok (.bipush 16, 2) := by decide +kernel
theorem dJ6_bitCount_0f7a4_45 : decode cJ6_bitCount_0f7a4 45 = .ok (.iushr, 1) := by decide +kernel
theorem dJ6_bitCount_0f7a4_46 : decode cJ6_bitCount_0f7a4 46 = .ok (.iadd, 1) := by decide +kernel
theorem dJ6_bitCount_0f7a4_47 : decode cJ6_bitCount_0f7a4 47 = .ok (.istore_n 0, 1) := by decide +kernel
theorem dJ6_bitCount_0f7a4_48 : decode cJ6_bitCount_0f7a4 48 = .ok (.iload_n 0, 1) := by decide +kernel
theorem dJ6_bitCount_0f7a4_49 : decode cJ6_bitCount_0f7a4 49 = .ok (.bipush 63, 2) := by decide +kernel
theorem dJ6_bitCount_0f7a4_51 : decode cJ6_bitCount_0f7a4 51 = .ok (.iand, 1) := by decide +kernel
theorem dJ6_bitCount_0f7a4_52 : decode cJ6_bitCount_0f7a4 52 = .ok (.ireturn, 1) := by decide +kernel
theorem dJ9_max_7cf53_0 : decode cJ9_max_7cf53 0 = .ok (.iload_n 0, 1) := by decide +kernel
theorem dJ9_max_7cf53_1 : decode cJ9_max_7cf53 1 = .ok (.iload_n 1, 1) := by decide +kernel
theorem dJ9_max_7cf53_2 : decode cJ9_max_7cf53 2 = .ok (.if_icmp .lt 7, 3) := by decide +kernel
theorem dJ9_max_7cf53_5 : decode cJ9_max_7cf53 5 = .ok (.iload_n 0, 1) := by decide +kernel
theorem dJ9_max_7cf53_6 : decode cJ9_max_7cf53 6 = .ok (.goto 4, 3) := by decide +kernel
theorem dJ9_max_7cf53_9 : decode cJ9_max_7cf53 9 = .ok (.iload_n 1, 1) := by decide +kernel
theorem dJ9_max_7cf53_10 : decode cJ9_max_7cf53 10 = .ok (.ireturn, 1) := by decide +kernel
theorem dJ9_min_7cf53_0 : decode cJ9_min_7cf53 0 = .ok (.iload_n 0, 1) := by decide +kernel
theorem dJ9_min_7cf53_1 : decode cJ9_min_7cf53 1 = .ok (.iload_n 1, 1) := by decide +kernel
theorem dJ9_min_7cf53_2 : decode cJ9_min_7cf53 2 = .ok (.if_icmp .gt 7, 3) := by decide +kernel
theorem dJ9_min_7cf53_5 : decode cJ9_min_7cf53 5 = .ok (.iload_n 0, 1) := by decide +kernel
theorem dJ9_min_7cf53_6 : decode cJ9_min_7cf53 6 = .ok (.goto 4, 3) := by decide +kernel
theorem dJ9_min_7cf53_9 : decode cJ9_min_7cf53 9 = .ok (.iload_n 1, 1) := by decide +kernel
theorem dJ9_min_7cf53_10 : decode cJ9_min_7cf53 10 = .ok (.ireturn, 1) := by decide +kernel
theorem dJ0_length_8abf5_0 : decode cJ0_length_8abf5 0 = .ok (.aload_n 0, 1) := by decide +kernel
theorem dJ0_length_8abf5_1 : decode cJ0_length_8abf5 1 = .ok (.getfield 9, 3) := by decide +kernel
theorem dJ0_length_8abf5_4 : decode cJ0_length_8abf5 4 = .ok (.arraylength, 1) := by decide +kernel
theorem dJ0_length_8abf5_5 : decode cJ0_length_8abf5 5 = .ok (.aload_n 0, 1) := by decide +kernel
theorem dJ0_length_8abf5_6 : decode cJ0_length_8abf5 6 = .ok (.invokevirtual 335, 3) := by decide +kernel
theorem dJ0_length_8abf5_9 : decode cJ0_length_8abf5 9 = .ok (.ishr, 1) := by decide +kernel
theorem dJ0_length_8abf5_10 : decode cJ0_length_8abf5 10 = .ok (.ireturn, 1) := by decide +kernel
theorem dJ0_charAt_5068e_0 : decode cJ0_charAt_5068e 0 = .ok (.aload_n 0, 1) := by decide +kernel
theorem dJ0_charAt_5068e_1 : decode cJ0_charAt_5068e 1 = .ok (.invokevirtual 492, 3) := by decide +kernel
theorem dJ0_charAt_5068e_4 : decode cJ0_charAt_5068e 4 = .ok (.ifCond .eq 12, 3) := by decide +kernel
theorem dJ0_charAt_5068e_7 : decode cJ0_charAt_5068e 7 = .ok (.aload_n 0, 1) := by decide +kernel
theorem dJ0_charAt_5068e_8 : decode cJ0_charAt_5068e 8 = .ok (.getfield 9, 3) := by decide +kernel
theorem dJ0_charAt_5068e_11 : decode cJ0_charAt_5068e 11 = .ok (.iload_n 1, 1) := by decide +kernel
theorem dJ0_charAt_5068e_12 : decode cJ0_charAt_5068e 12 = .ok (.invokestatic 495, 3) := by decide +kernel
theorem dJ0_charAt_5068e_15 : decode cJ0_charAt_5068e 15 = .ok (.ireturn, 1) := by decide +kernel
theorem dJ0_charAt_5068e_16 : decode cJ0_charAt_5068e 16 = .ok (.aload_n 0, 1) := by decide +kernel
theorem dJ0_charAt_5068e_17 : decode cJ0_charAt_5068e 17 = .ok (.getfield 9, 3) := by decide +kernel
theorem dJ0_charAt_5068e_20 : decode cJ0_charAt_5068e 20 = .ok (.iload_n 1, 1) := by decide +kernel
theorem dJ0_charAt_5068e_21 : decode cJ0_charAt_5068e 21 = .ok (.invokestatic 498, 3) := by decide +kernel
theorem dJ0_charAt_5068e_24 : decode cJ0_charAt_5068e 24 = .ok (.ireturn, 1) := by decide +kernel
theorem dJ0_coder_7d493_0 : decode cJ0_coder_7d493 0 = .ok (.getstatic 38, 3) := by decide +kernel
theorem dJ0_coder_7d493_3 : decode cJ0_coder_7d493 3 = .ok (.ifCond .eq 10, 3) := by decide +kernel
theorem dJ0_coder_7d493_6 : decode cJ0_coder_7d493 6 = .ok (.aload_n 0, 1) := by decide +kernel
theorem dJ0_coder_7d493_7 : decode cJ0_coder_7d493 7 = .ok (.getfield 15, 3) := by decide +kernel
theorem dJ0_coder_7d493_10 : decode cJ0_coder_7d493 10 = .ok (.goto 4, 3) := by decide +kernel
theorem dJ0_coder_7d493_13 : decode cJ0_coder_7d493 13 = .ok (.iconst 1, 1) := by decide +kernel
theorem dJ0_coder_7d493_14 : decode cJ0_coder_7d493 14 = .ok (.ireturn, 1) := by decide +kernel
theorem dJ0_isLatin1_aae02_0 : decode cJ0_isLatin1_aae02 0 = .ok (.getstatic 38, 3) := by decide +kernel
theorem dJ0_isLatin1_aae02_3 : decode cJ0_isLatin1_aae02 3 = .ok (.ifCond .eq 14, 3) := by decide +kernel
theorem dJ0_isLatin1_aae02_6 : decode cJ0_isLatin1_aae02 6 = .ok (.aload_n 0, 1) := by decide +kernel
theorem dJ0_isLatin1_aae02_7 : decode cJ0_isLatin1_aae02 7 = .ok (.getfield 15, 3) := by decide +kernel
theorem dJ0_isLatin1_aae02_10 : decode cJ0_isLatin1_aae02 10 = .ok (.ifCond .ne 7, 3) := by decide +kernel
theorem dJ0_isLatin1_aae02_13 : decode cJ0_isLatin1_aae02 13 = .ok (.iconst 1, 1) := by decide +kernel
theorem dJ0_isLatin1_aae02_14 : decode cJ0_isLatin1_aae02 14 = .ok (.goto 4, 3) := by decide +kernel
theorem dJ0_isLatin1_aae02_17 : decode cJ0_isLatin1_aae02 17 = .ok (.iconst 0, 1) := by decide +kernel
theorem dJ0_isLatin1_aae02_18 : decode cJ0_isLatin1_aae02 18 = .ok (.ireturn, 1) := by decide +kernel
theorem dJ0_checkIndex_df160_0 : decode cJ0_checkIndex_df160 0 = .ok (.iload_n 0, 1) := by decide +kernel
theorem dJ0_checkIndex_df160_1 : decode cJ0_checkIndex_df160 1 = .ok (.iload_n 1, 1) := by decide +kernel
theorem dJ0_checkIndex_df160_2 : decode cJ0_checkIndex_df160 2 = .ok (.getstatic 1053, 3) := by decide +kernel
theorem dJ0_checkIndex_df160_5 : decode cJ0_checkIndex_df160 5 = .ok (.invokestatic 1059, 3) := by decide +kernel
theorem dJ0_checkIndex_df160_8 : decode cJ0_checkIndex_df160 8 = .ok (.pop, 1) := by decide +kernel
theorem dJ0_checkIndex_df160_9 : decode cJ0_checkIndex_df160 9 = .ok (.return_, 1) := by decide +kernel
theorem dJ1_charAt_3b067_0 : decode cJ1_charAt_3b067 0 = .ok (.iload_n 1, 1) := by decide +kernel
theorem dJ1_charAt_3b067_1 : decode cJ1_charAt_3b067 1 = .ok (.aload_n 0, 1) := by decide +kernel
theorem dJ1_charAt_3b067_2 : decode cJ1_charAt_3b067 2 = .ok (.arraylength, 1) := by decide +kernel
theorem dJ1_charAt_3b067_3 : decode cJ1_charAt_3b067 3 = .ok (.invokestatic 9, 3) := by decide +kernel
theorem dJ1_charAt_3b067_6 : decode cJ1_charAt_3b067 6 = .ok (.aload_n 0, 1) := by decide +kernel
theorem dJ1_charAt_3b067_7 : decode cJ1_charAt_3b067 7 = .ok (.iload_n 1, 1) := by decide +kernel
theorem dJ1_charAt_3b067_8 : decode cJ1_charAt_3b067 8 = .ok (.baload, 1) := by decide +kernel
theorem dJ1_charAt_3b067_9 : decode cJ1_charAt_3b067 9 = .ok (.sipush 255, 3) := by decide +kernel
theorem dJ1_charAt_3b067_12 : decode cJ1_charAt_3b067 12 = .ok (.iand, 1) := by decide +kernel
theorem dJ1_charAt_3b067_13 : decode cJ1_charAt_3b067 13 = .ok (.i2c, 1) := by decide +kernel
theorem dJ1_charAt_3b067_14 : decode cJ1_charAt_3b067 14 = .ok (.ireturn, 1) := by decide +kernel
theorem dJ2_getChar_3b067_0 : decode cJ2_getChar_3b067 0 = .ok (.getstatic 44, 3) := by decide +kernel
theorem dJ2_getChar_3b067_3 : decode cJ2_getChar_3b067 3 = .ok (.ifCond .ne 25, 3) := by decide +kernel
theorem dJ2_getChar_3b067_6 : decode cJ2_getChar_3b067 6 = .ok (.iload_n 1, 1) := by decide +kernel
theorem dJ2_getChar_3b067_7 : decode cJ2_getChar_3b067 7 = .ok (.ifCond .lt 11, 3) := by decide +kernel
theorem dJ2_getChar_3b067_10 : decode cJ2_getChar_3b067 10 = .ok (.iload_n 1, 1) := by decide +kernel
theorem dJ2_getChar_3b067_11 : decode cJ2_getChar_3b067 11 = .ok (.aload_n 0, 1) := by decide +kernel
theorem dJ2_getChar_3b067_12 : decode cJ2_getChar_3b067 12 = .ok (.invokestatic 48, 3) := by decide +kernel
theorem dJ2_getChar_3b067_15 : decode cJ2_getChar_3b067 15 = .ok (.if_icmp .lt 13, 3) := by decide +kernel
theorem dJ2_getChar_3b067_18 : decode cJ2_getChar_3b067 18 = .ok (.new 52, 3) := by decide +kernel
theorem dJ2_getChar_3b067_21 : decode cJ2_getChar_3b067 21 = .ok (.dup, 1) := by decide +kernel
theorem dJ2_getChar_3b067_22 : decode cJ2_getChar_3b067 22 = .ok (.ldc 54, 2) := by decide +kernel
theorem dJ2_getChar_3b067_24 : decode cJ2_getChar_3b067 24 = .ok (.invokespecial 56, 3) := by decide +kernel
theorem dJ2_getChar_3b067_27 : decode cJ2_getChar_3b067 27 = .ok (.athrow, 1) := by decide +kernel
theorem dJ2_getChar_3b067_28 : decode cJ2_getChar_3b067 28 = .ok (.iload_n 1, 1) := by decide +kernel
theorem dJ2_getChar_3b067_29 : decode cJ2_getChar_3b067 29 = .ok (.iconst 1, 1) := by decide +kernel
theorem dJ2_getChar_3b067_30 : decode cJ2_getChar_3b067 30 = .ok (.ishl, 1) := by decide +kernel
theorem dJ2_getChar_3b067_31 : decode cJ2_getChar_3b067 31 = .ok (.istore_n 1, 1) := by decide +kernel
theorem dJ2_getChar_3b067_32 : decode cJ2_getChar_3b067 32 = .ok (.aload_n 0, 1) := by decide +kernel
theorem dJ2_getChar_3b067_33 : decode cJ2_getChar_3b067 33 = .ok (.iload_n 1, 1) := by decide +kernel
theorem dJ2_getChar_3b067_34 : decode cJ2_getChar_3b067 34 = .ok (.iinc 1 1, 3) := by decide +kernel
theorem dJ2_getChar_3b067_37 : decode cJ2_getChar_3b067 37 = .ok (.baload, 1) := by decide +kernel
theorem dJ2_getChar_3b067_38 : decode cJ2_getChar_3b067 38 = .ok (.sipush 255, 3) := by decide +kernel
theorem dJ2_getChar_3b067_41 : decode cJ2_getChar_3b067 41 = .ok (.iand, 1) := by decide +kernel
theorem dJ2_getChar_3b067_42 : decode cJ2_getChar_3b067 42 = .ok (.getstatic 59, 3) := by decide +kernel
theorem dJ2_getChar_3b067_45 : decode cJ2_getChar_3b067 45 = .ok (.ishl, 1) := by decide +kernel
theorem dJ2_getChar_3b067_46 : decode cJ2_getChar_3b067 46 = .ok (.aload_n 0, 1) := by decide +kernel
theorem dJ2_getChar_3b067_47 : decode cJ2_getChar_3b067 47 = .ok (.iload_n 1, 1) := by decide +kernel
theorem dJ2_getChar_3b067_48 : decode cJ2_getChar_3b067 48 = .ok (.baload, 1) := by decide +kernel
theorem dJ2_getChar_3b067_49 : decode cJ2_getChar_3b067 49 = .ok (.sipush 255, 3) := by decide +kernel
theorem dJ2_getChar_3b067_52 : decode cJ2_getChar_3b067 52 = .ok (.iand, 1) := by decide +kernel
theorem dJ2_getChar_3b067_53 : decode cJ2_getChar_3b067 53 = .ok (.getstatic 63, 3) := by decide +kernel
theorem dJ2_getChar_3b067_56 : decode cJ2_getChar_3b067 56 = .ok (.ishl, 1) := by decide +kernel
theorem dJ2_getChar_3b067_57 : decode cJ2_getChar_3b067 57 = .ok (.ior, 1) := by decide +kernel
theorem dJ2_getChar_3b067_58 : decode cJ2_getChar_3b067 58 = .ok (.i2c, 1) := by decide +kernel
theorem dJ2_getChar_3b067_59 : decode cJ2_getChar_3b067 59 = .ok (.ireturn, 1) := by decide +kernel
theorem dJ2_length_9d52b_0 : decode cJ2_length_9d52b 0 = .ok (.aload_n 0, 1) := by decide +kernel
theorem dJ2_length_9d52b_1 : decode cJ2_length_9d52b 1 = .ok (.arraylength, 1) := by decide +kernel
theorem dJ2_length_9d52b_2 : decode cJ2_length_9d52b 2 = .ok (.iconst 1, 1) := by decide +kernel
theorem dJ2_length_9d52b_3 : decode cJ2_length_9d52b 3 = .ok (.ishr, 1) := by decide +kernel
theorem dJ2_length_9d52b_4 : decode cJ2_length_9d52b 4 = .ok (.ireturn, 1) := by decide +kernel
theorem dJ2_charAt_3b067_0 : decode cJ2_charAt_3b067 0 = .ok (.iload_n 1, 1) := by decide +kernel
theorem dJ2_charAt_3b067_1 : decode cJ2_charAt_3b067 1 = .ok (.aload_n 0, 1) := by decide +kernel
theorem dJ2_charAt_3b067_2 : decode cJ2_charAt_3b067 2 = .ok (.invokestatic 67, 3) := by decide +kernel
theorem dJ2_charAt_3b067_5 : decode cJ2_charAt_3b067 5 = .ok (.aload_n 0, 1) := by decide +kernel
theorem dJ2_charAt_3b067_6 : decode cJ2_charAt_3b067 6 = .ok (.iload_n 1, 1) := by decide +kernel
theorem dJ2_charAt_3b067_7 : decode cJ2_charAt_3b067 7 = .ok (.invokestatic 71, 3) := by decide +kernel
theorem dJ2_charAt_3b067_10 : decode cJ2_charAt_3b067 10 = .ok (.ireturn, 1) := by decide +kernel
theorem dJ2_checkIndex_2214a_0 : decode cJ2_checkIndex_2214a 0 = .ok (.iload_n 0, 1) := by decide +kernel
theorem dJ2_checkIndex_2214a_1 : decode cJ2_checkIndex_2214a 1 = .ok (.aload_n 1, 1) := by decide +kernel
theorem dJ2_checkIndex_2214a_2 : decode cJ2_checkIndex_2214a 2 = .ok (.invokestatic 48, 3) := by decide +kernel
theorem dJ2_checkIndex_2214a_5 : decode cJ2_checkIndex_2214a 5 = .ok (.invokestatic 414, 3) := by decide +kernel
theorem dJ2_checkIndex_2214a_8 : decode cJ2_checkIndex_2214a 8 = .ok (.return_, 1) := by decide +kernel
theorem dJ3_checkIndex_8e157_0 : decode cJ3_checkIndex_8e157 0 = .ok (.iload_n 0, 1) := by decide +kernel
theorem dJ3_checkIndex_8e157_1 : decode cJ3_checkIndex_8e157 1 = .ok (.ifCond .lt 8, 3) := by decide +kernel
theorem dJ3_checkIndex_8e157_4 : decode cJ3_checkIndex_8e157 4 = .ok (.iload_n 0, 1) := by decide +kernel
theorem dJ3_checkIndex_8e157_5 : decode cJ3_checkIndex_8e157 5 = .ok (.iload_n 1, 1) := by decide +kernel
theorem dJ3_checkIndex_8e157_6 : decode cJ3_checkIndex_8e157 6 = .ok (.if_icmp .lt 10, 3) := by decide +kernel
theorem dJ3_checkIndex_8e157_9 : decode cJ3_checkIndex_8e157 9 = .ok (.aload_n 2, 1) := by decide +kernel
theorem dJ3_checkIndex_8e157_10 : decode cJ3_checkIndex_8e157 10 = .ok (.iload_n 0, 1) := by decide +kernel
theorem dJ3_checkIndex_8e157_11 : decode cJ3_checkIndex_8e157 11 = .ok (.iload_n 1, 1) := by decide +kernel
theorem dJ3_checkIndex_8e157_12 : decode cJ3_checkIndex_8e157 12 = .ok (.invokestatic 95, 3) := by decide +kernel
theorem dJ3_checkIndex_8e157_15 : decode cJ3_checkIndex_8e157 15 = .ok (.athrow, 1) := by decide +kernel
theorem dJ3_checkIndex_8e157_16 : decode cJ3_checkIndex_8e157 16 = .ok (.iload_n 0, 1) := by decide +kernel
theorem dJ3_checkIndex_8e157_17 : decode cJ3_checkIndex_8e157 17 = .ok (.ireturn, 1) := by decide +kernel
theorem dL_law_0 : decode cL_law 0 = .ok (.new 7, 3) := by decide +kernel
theorem dL_law_3 : decode cL_law 3 = .ok (.dup, 1) := by decide +kernel
theorem dL_law_4 : decode cL_law 4 = .ok (.invokespecial 9, 3) := by decide +kernel
theorem dL_law_7 : decode cL_law 7 = .ok (.astore_n 1, 1) := by decide +kernel
theorem dL_law_8 : decode cL_law 8 = .ok (.new 10, 3) := by decide +kernel
theorem dL_law_11 : decode cL_law 11 = .ok (.dup, 1) := by decide +kernel
theorem dL_law_12 : decode cL_law 12 = .ok (.invokespecial 12, 3) := by decide +kernel
theorem dL_law_15 : decode cL_law 15 = .ok (.astore_n 2, 1) := by decide +kernel
theorem dL_law_16 : decode cL_law 16 = .ok (.iconst 0, 1) := by decide +kernel
theorem dL_law_17 : decode cL_law 17 = .ok (.istore_n 3, 1) := by decide +kernel
theorem dL_law_18 : decode cL_law 18 = .ok (.iload_n 3, 1) := by decide +kernel
theorem dL_law_19 : decode cL_law 19 = .ok (.aload_n 0, 1) := by decide +kernel
theorem dL_law_20 : decode cL_law 20 = .ok (.arraylength, 1) := by decide +kernel
theorem dL_law_21 : decode cL_law 21 = .ok (.bipush 6, 2) := by decide +kernel
theorem dL_law_23 : decode cL_law 23 = .ok (.isub, 1) := by decide +kernel
theorem dL_law_24 : decode cL_law 24 = .ok (.if_icmp .gt 898, 3) := by decide +kernel
theorem dL_law_27 : decode cL_law 27 = .ok (.aload_n 0, 1) := by decide +kernel
theorem dL_law_28 : decode cL_law 28 = .ok (.iload_n 3, 1) := by decide +kernel
theorem dL_law_29 : decode cL_law 29 = .ok (.iaload, 1) := by decide +kernel
theorem dL_law_30 : decode cL_law 30 = .ok (.bipush 31, 2) := by decide +kernel
theorem dL_law_32 : decode cL_law 32 = .ok (.iand, 1) := by decide +kernel
theorem dL_law_33 : decode cL_law 33 = .ok (.tableswitch 883 0 23 #[111, 154, 197, 260, 283, 346, 359, 372, 405, 448, 461, 494, 517, 570, 623, 666, 689, 712, 735, 758, 791, 824, 847, 870], 111) := by decide +kernel
theorem dL_law_144 : decode cL_law 144 = .ok (.aload_n 1, 1) := by decide +kernel
theorem dL_law_145 : decode cL_law 145 = .ok (.aload_n 0, 1) := by decide +kernel
theorem dL_law_146 : decode cL_law 146 = .ok (.iload_n 3, 1) := by decide +kernel
theorem dL_law_147 : decode cL_law 147 = .ok (.iconst 1, 1) := by decide +kernel
theorem dL_law_148 : decode cL_law 148 = .ok (.iadd, 1) := by decide +kernel
theorem dL_law_149 : decode cL_law 149 = .ok (.iaload, 1) := by decide +kernel
theorem dL_law_150 : decode cL_law 150 = .ok (.aload_n 0, 1) := by decide +kernel
theorem dL_law_151 : decode cL_law 151 = .ok (.iload_n 3, 1) := by decide +kernel
theorem dL_law_152 : decode cL_law 152 = .ok (.iconst 2, 1) := by decide +kernel
theorem dL_law_153 : decode cL_law 153 = .ok (.iadd, 1) := by decide +kernel
theorem dL_law_154 : decode cL_law 154 = .ok (.iaload, 1) := by decide +kernel
theorem dL_law_155 : decode cL_law 155 = .ok (.aload_n 0, 1) := by decide +kernel
theorem dL_law_156 : decode cL_law 156 = .ok (.iload_n 3, 1) := by decide +kernel
theorem dL_law_157 : decode cL_law 157 = .ok (.iconst 3, 1) := by decide +kernel
theorem dL_law_158 : decode cL_law 158 = .ok (.iadd, 1) := by decide +kernel
theorem dL_law_159 : decode cL_law 159 = .ok (.iaload, 1) := by decide +kernel
theorem dL_law_160 : decode cL_law 160 = .ok (.invokevirtual 13, 3) := by decide +kernel
theorem dL_law_163 : decode cL_law 163 = .ok (.aload_n 2, 1) := by decide +kernel
theorem dL_law_164 : decode cL_law 164 = .ok (.aload_n 0, 1) := by decide +kernel
theorem dL_law_165 : decode cL_law 165 = .ok (.iload_n 3, 1) := by decide +kernel
theorem dL_law_166 : decode cL_law 166 = .ok (.iconst 1, 1) := by decide +kernel
theorem dL_law_167 : decode cL_law 167 = .ok (.iadd, 1) := by decide +kernel
theorem dL_law_168 : decode cL_law 168 = .ok (.iaload, 1) := by decide +kernel
theorem dL_law_169 : decode cL_law 169 = .ok (.aload_n 0, 1) := by decide +kernel
theorem dL_law_170 : decode cL_law 170 = .ok (.iload_n 3, 1) := by decide +kernel
theorem dL_law_171 : decode cL_law 171 = .ok (.iconst 2, 1) := by decide +kernel
theorem dL_law_172 : decode cL_law 172 = .ok (.iadd, 1) := by decide +kernel
theorem dL_law_173 : decode cL_law 173 = .ok (.iaload, 1) := by decide +kernel
theorem dL_law_174 : decode cL_law 174 = .ok (.aload_n 0, 1) := by decide +kernel
theorem dL_law_175 : decode cL_law 175 = .ok (.iload_n 3, 1) := by decide +kernel
theorem dL_law_176 : decode cL_law 176 = .ok (.iconst 3, 1) := by decide +kernel
theorem dL_law_177 : decode cL_law 177 = .ok (.iadd, 1) := by decide +kernel
theorem dL_law_178 : decode cL_law 178 = .ok (.iaload, 1) := by decide +kernel
theorem dL_law_179 : decode cL_law 179 = .ok (.invokevirtual 17, 3) := by decide +kernel
theorem dL_law_182 : decode cL_law 182 = .ok (.if_icmp .eq 734, 3) := by decide +kernel
theorem dL_law_185 : decode cL_law 185 = .ok (.iconst 0, 1) := by decide +kernel
theorem dL_law_186 : decode cL_law 186 = .ok (.ireturn, 1) := by decide +kernel
theorem dL_law_187 : decode cL_law 187 = .ok (.aload_n 1, 1) := by decide +kernel
theorem dL_law_188 : decode cL_law 188 = .ok (.aload_n 0, 1) := by decide +kernel
theorem dL_law_189 : decode cL_law 189 = .ok (.iload_n 3, 1) := by decide +kernel
theorem dL_law_190 : decode cL_law 190 = .ok (.iconst 1, 1) := by decide +kernel
theorem dL_law_191 : decode cL_law 191 = .ok (.iadd, 1) := by decide +kernel
theorem dL_law_192 : decode cL_law 192 = .ok (.iaload, 1) := by decide +kernel
theorem dL_law_193 : decode cL_law 193 = .ok (.aload_n 0, 1) := by decide +kernel
theorem dL_law_194 : decode cL_law 194 = .ok (.iload_n 3, 1) := by decide +kernel
theorem dL_law_195 : decode cL_law 195 = .ok (.iconst 2, 1) := by decide +kernel
theorem dL_law_196 : decode cL_law 196 = .ok (.iadd, 1) := by decide +kernel
theorem dL_law_197 : decode cL_law 197 = .ok (.iaload, 1) := by decide +kernel
theorem dL_law_198 : decode cL_law 198 = .ok (.aload_n 0, 1) := by decide +kernel
theorem dL_law_199 : decode cL_law 199 = .ok (.iload_n 3, 1) := by decide +kernel
theorem dL_law_200 : decode cL_law 200 = .ok (.iconst 3, 1) := by decide +kernel
theorem dL_law_201 : decode cL_law 201 = .ok (.iadd, 1) := by decide +kernel
theorem dL_law_202 : decode cL_law 202 = .ok (.iaload, 1) := by decide +kernel
theorem dL_law_203 : decode cL_law 203 = .ok (.invokevirtual 18, 3) := by decide +kernel
theorem dL_law_206 : decode cL_law 206 = .ok (.aload_n 2, 1) := by decide +kernel
theorem dL_law_207 : decode cL_law 207 = .ok (.aload_n 0, 1) := by decide +kernel
theorem dL_law_208 : decode cL_law 208 = .ok (.iload_n 3, 1) := by decide +kernel
theorem dL_law_209 : decode cL_law 209 = .ok (.iconst 1, 1) := by decide +kernel
theorem dL_law_210 : decode cL_law 210 = .ok (.iadd, 1) := by decide +kernel
theorem dL_law_211 : decode cL_law 211 = .ok (.iaload, 1) := by decide +kernel
theorem dL_law_212 : decode cL_law 212 = .ok (.aload_n 0, 1) := by decide +kernel
theorem dL_law_213 : decode cL_law 213 = .ok (.iload_n 3, 1) := by decide +kernel
theorem dL_law_214 : decode cL_law 214 = .ok (.iconst 2, 1) := by decide +kernel
theorem dL_law_215 : decode cL_law 215 = .ok (.iadd, 1) := by decide +kernel
theorem dL_law_216 : decode cL_law 216 = .ok (.iaload, 1) := by decide +kernel
theorem dL_law_217 : decode cL_law 217 = .ok (.aload_n 0, 1) := by decide +kernel
theorem dL_law_218 : decode cL_law 218 = .ok (.iload_n 3, 1) := by decide +kernel
theorem dL_law_219 : decode cL_law 219 = .ok (.iconst 3, 1) := by decide +kernel
theorem dL_law_220 : decode cL_law 220 = .ok (.iadd, 1) := by decide +kernel
theorem dL_law_221 : decode cL_law 221 = .ok (.iaload, 1) := by decide +kernel
theorem dL_law_222 : decode cL_law 222 = .ok (.invokevirtual 21, 3) := by decide +kernel
theorem dL_law_225 : decode cL_law 225 = .ok (.if_icmp .eq 691, 3) := by decide +kernel
theorem dL_law_228 : decode cL_law 228 = .ok (.iconst 0, 1) := by decide +kernel
theorem dL_law_229 : decode cL_law 229 = .ok (.ireturn, 1) := by decide +kernel
theorem dL_law_230 : decode cL_law 230 = .ok (.aload_n 1, 1) := by decide +kernel
theorem dL_law_231 : decode cL_law 231 = .ok (.aload_n 0, 1) := by decide +kernel
theorem dL_law_232 : decode cL_law 232 = .ok (.iload_n 3, 1) := by decide +kernel
theorem dL_law_233 : decode cL_law 233 = .ok (.iconst 1, 1) := by decide +kernel
theorem dL_law_234 : decode cL_law 234 = .ok (.iadd, 1) := by decide +kernel
theorem dL_law_235 : decode cL_law 235 = .ok (.iaload, 1) := by decide +kernel
theorem dL_law_236 : decode cL_law 236 = .ok (.aload_n 0, 1) := by decide +kernel
theorem dL_law_237 : decode cL_law 237 = .ok (.iload_n 3, 1) := by decide +kernel
theorem dL_law_238 : decode cL_law 238 = .ok (.iconst 2, 1) := by decide +kernel
theorem dL_law_239 : decode cL_law 239 = .ok (.iadd, 1) := by decide +kernel
theorem dL_law_240 : decode cL_law 240 = .ok (.iaload, 1) := by decide +kernel
theorem dL_law_241 : decode cL_law 241 = .ok (.aload_n 0, 1) := by decide +kernel
theorem dL_law_242 : decode cL_law 242 = .ok (.iload_n 3, 1) := by decide +kernel
theorem dL_law_243 : decode cL_law 243 = .ok (.iconst 3, 1) := by decide +kernel
theorem dL_law_244 : decode cL_law 244 = .ok (.iadd, 1) := by decide +kernel
theorem dL_law_245 : decode cL_law 245 = .ok (.iaload, 1) := by decide +kernel
theorem dL_law_246 : decode cL_law 246 = .ok (.aload_n 0, 1) := by decide +kernel
theorem dL_law_247 : decode cL_law 247 = .ok (.iload_n 3, 1) := by decide +kernel
theorem dL_law_248 : decode cL_law 248 = .ok (.iconst 4, 1) := by decide +kernel
theorem dL_law_249 : decode cL_law 249 = .ok (.iadd, 1) := by decide +kernel
theorem dL_law_250 : decode cL_law 250 = .ok (.iaload, 1) := by decide +kernel
theorem dL_law_251 : decode cL_law 251 = .ok (.aload_n 0, 1) := by decide +kernel
theorem dL_law_252 : decode cL_law 252 = .ok (.iload_n 3, 1) := by decide +kernel
theorem dL_law_253 : decode cL_law 253 = .ok (.iconst 5, 1) := by decide +kernel
theorem dL_law_254 : decode cL_law 254 = .ok (.iadd, 1) := by decide +kernel
theorem dL_law_255 : decode cL_law 255 = .ok (.iaload, 1) := by decide +kernel
theorem dL_law_256 : decode cL_law 256 = .ok (.invokevirtual 22, 3) := by decide +kernel
theorem dL_law_259 : decode cL_law 259 = .ok (.aload_n 2, 1) := by decide +kernel
theorem dL_law_260 : decode cL_law 260 = .ok (.aload_n 0, 1) := by decide +kernel
theorem dL_law_261 : decode cL_law 261 = .ok (.iload_n 3, 1) := by decide +kernel
theorem dL_law_262 : decode cL_law 262 = .ok (.iconst 1, 1) := by decide +kernel
theorem dL_law_263 : decode cL_law 263 = .ok (.iadd, 1) := by decide +kernel
theorem dL_law_264 : decode cL_law 264 = .ok (.iaload, 1) := by decide +kernel
theorem dL_law_265 : decode cL_law 265 = .ok (.aload_n 0, 1) := by decide +kernel
theorem dL_law_266 : decode cL_law 266 = .ok (.iload_n 3, 1) := by decide +kernel
theorem dL_law_267 : decode cL_law 267 = .ok (.iconst 2, 1) := by decide +kernel
theorem dL_law_268 : decode cL_law 268 = .ok (.iadd, 1) := by decide +kernel
theorem dL_law_269 : decode cL_law 269 = .ok (.iaload, 1) := by decide +kernel
theorem dL_law_270 : decode cL_law 270 = .ok (.aload_n 0, 1) := by decide +kernel
theorem dL_law_271 : decode cL_law 271 = .ok (.iload_n 3, 1) := by decide +kernel
theorem dL_law_272 : decode cL_law 272 = .ok (.iconst 3, 1) := by decide +kernel
theorem dL_law_273 : decode cL_law 273 = .ok (.iadd, 1) := by decide +kernel
theorem dL_law_274 : decode cL_law 274 = .ok (.iaload, 1) := by decide +kernel
theorem dL_law_275 : decode cL_law 275 = .ok (.aload_n 0, 1) := by decide +kernel
theorem dL_law_276 : decode cL_law 276 = .ok (.iload_n 3, 1) := by decide +kernel
theorem dL_law_277 : decode cL_law 277 = .ok (.iconst 4, 1) := by decide +kernel
theorem dL_law_278 : decode cL_law 278 = .ok (.iadd, 1) := by decide +kernel
theorem dL_law_279 : decode cL_law 279 = .ok (.iaload, 1) := by decide +kernel
theorem dL_law_280 : decode cL_law 280 = .ok (.aload_n 0, 1) := by decide +kernel
theorem dL_law_281 : decode cL_law 281 = .ok (.iload_n 3, 1) := by decide +kernel
theorem dL_law_282 : decode cL_law 282 = .ok (.iconst 5, 1) := by decide +kernel
theorem dL_law_283 : decode cL_law 283 = .ok (.iadd, 1) := by decide +kernel
theorem dL_law_284 : decode cL_law 284 = .ok (.iaload, 1) := by decide +kernel
theorem dL_law_285 : decode cL_law 285 = .ok (.invokevirtual 26, 3) := by decide +kernel
theorem dL_law_288 : decode cL_law 288 = .ok (.if_icmp .eq 628, 3) := by decide +kernel
theorem dL_law_291 : decode cL_law 291 = .ok (.iconst 0, 1) := by decide +kernel
theorem dL_law_292 : decode cL_law 292 = .ok (.ireturn, 1) := by decide +kernel
theorem dL_law_293 : decode cL_law 293 = .ok (.aload_n 1, 1) := by decide +kernel
theorem dL_law_294 : decode cL_law 294 = .ok (.aload_n 0, 1) := by decide +kernel
theorem dL_law_295 : decode cL_law 295 = .ok (.iload_n 3, 1) := by decide +kernel
theorem dL_law_296 : decode cL_law 296 = .ok (.iconst 1, 1) := by decide +kernel
theorem dL_law_297 : decode cL_law 297 = .ok (.iadd, 1) := by decide +kernel
theorem dL_law_298 : decode cL_law 298 = .ok (.iaload, 1) := by decide +kernel
theorem dL_law_299 : decode cL_law 299 = .ok (.invokevirtual 27, 3) := by decide +kernel
theorem dL_law_302 : decode cL_law 302 = .ok (.aload_n 2, 1) := by decide +kernel
theorem dL_law_303 : decode cL_law 303 = .ok (.aload_n 0, 1) := by decide +kernel
theorem dL_law_304 : decode cL_law 304 = .ok (.iload_n 3, 1) := by decide +kernel
theorem dL_law_305 : decode cL_law 305 = .ok (.iconst 1, 1) := by decide +kernel
theorem dL_law_306 : decode cL_law 306 = .ok (.iadd, 1) := by decide +kernel
theorem dL_law_307 : decode cL_law 307 = .ok (.iaload, 1) := by decide +kernel
theorem dL_law_308 : decode cL_law 308 = .ok (.invokevirtual 31, 3) := by decide +kernel
theorem dL_law_311 : decode cL_law 311 = .ok (.if_icmp .eq 605, 3) := by decide +kernel
theorem dL_law_314 : decode cL_law 314 = .ok (.iconst 0, 1) := by decide +kernel
theorem dL_law_315 : decode cL_law 315 = .ok (.ireturn, 1) := by decide +kernel
theorem dL_law_316 : decode cL_law 316 = .ok (.aload_n 1, 1) := by decide +kernel
theorem dL_law_317 : decode cL_law 317 = .ok (.aload_n 0, 1) := by decide +kernel
theorem dL_law_318 : decode cL_law 318 = .ok (.iload_n 3, 1) := by decide +kernel
theorem dL_law_319 : decode cL_law 319 = .ok (.iconst 1, 1) := by decide +kernel
theorem dL_law_320 : decode cL_law 320 = .ok (.iadd, 1) := by decide +kernel
theorem dL_law_321 : decode cL_law 321 = .ok (.iaload, 1) := by decide +kernel
theorem dL_law_322 : decode cL_law 322 = .ok (.i2l, 1) := by decide +kernel
theorem dL_law_323 : decode cL_law 323 = .ok (.bipush 32, 2) := by decide +kernel
theorem dL_law_325 : decode cL_law 325 = .ok (.lshl, 1) := by decide +kernel
theorem dL_law_326 : decode cL_law 326 = .ok (.aload_n 0, 1) := by decide +kernel
theorem dL_law_327 : decode cL_law 327 = .ok (.iload_n 3, 1) := by decide +kernel
theorem dL_law_328 : decode cL_law 328 = .ok (.iconst 2, 1) := by decide +kernel
theorem dL_law_329 : decode cL_law 329 = .ok (.iadd, 1) := by decide +kernel
theorem dL_law_330 : decode cL_law 330 = .ok (.iaload, 1) := by decide +kernel
theorem dL_law_331 : decode cL_law 331 = .ok (.i2l, 1) := by decide +kernel
theorem dL_law_332 : decode cL_law 332 = .ok (.ldc2_w 32, 3) := by decide +kernel
theorem dL_law_335 : decode cL_law 335 = .ok (.land, 1) := by decide +kernel
theorem dL_law_336 : decode cL_law 336 = .ok (.lor, 1) := by decide +kernel
theorem dL_law_337 : decode cL_law 337 = .ok (.aload_n 0, 1) := by decide +kernel
theorem dL_law_338 : decode cL_law 338 = .ok (.iload_n 3, 1) := by decide +kernel
theorem dL_law_339 : decode cL_law 339 = .ok (.iconst 3, 1) := by decide +kernel
theorem dL_law_340 : decode cL_law 340 = .ok (.iadd, 1) := by decide +kernel
theorem dL_law_341 : decode cL_law 341 = .ok (.iaload, 1) := by decide +kernel
theorem dL_law_342 : decode cL_law 342 = .ok (.invokevirtual 34, 3) := by decide +kernel
theorem dL_law_345 : decode cL_law 345 = .ok (.aload_n 2, 1) := by decide +kernel
theorem dL_law_346 : decode cL_law 346 = .ok (.aload_n 0, 1) := by decide +kernel
theorem dL_law_347 : decode cL_law 347 = .ok (.iload_n 3, 1) := by decide +kernel
theorem dL_law_348 : decode cL_law 348 = .ok (.iconst 1, 1) := by decide +kernel
theorem dL_law_349 : decode cL_law 349 = .ok (.iadd, 1) := by decide +kernel
theorem dL_law_350 : decode cL_law 350 = .ok (.iaload, 1) := by decide +kernel
theorem dL_law_351 : decode cL_law 351 = .ok (.i2l, 1) := by decide +kernel
theorem dL_law_352 : decode cL_law 352 = .ok (.bipush 32, 2) := by decide +kernel
theorem dL_law_354 : decode cL_law 354 = .ok (.lshl, 1) := by decide +kernel
theorem dL_law_355 : decode cL_law 355 = .ok (.aload_n 0, 1) := by decide +kernel
theorem dL_law_356 : decode cL_law 356 = .ok (.iload_n 3, 1) := by decide +kernel
theorem dL_law_357 : decode cL_law 357 = .ok (.iconst 2, 1) := by decide +kernel
theorem dL_law_358 : decode cL_law 358 = .ok (.iadd, 1) := by decide +kernel
theorem dL_law_359 : decode cL_law 359 = .ok (.iaload, 1) := by decide +kernel
theorem dL_law_360 : decode cL_law 360 = .ok (.i2l, 1) := by decide +kernel
theorem dL_law_361 : decode cL_law 361 = .ok (.ldc2_w 32, 3) := by decide +kernel
theorem dL_law_364 : decode cL_law 364 = .ok (.land, 1) := by decide +kernel
theorem dL_law_365 : decode cL_law 365 = .ok (.lor, 1) := by decide +kernel
theorem dL_law_366 : decode cL_law 366 = .ok (.aload_n 0, 1) := by decide +kernel
theorem dL_law_367 : decode cL_law 367 = .ok (.iload_n 3, 1) := by decide +kernel
theorem dL_law_368 : decode cL_law 368 = .ok (.iconst 3, 1) := by decide +kernel
theorem dL_law_369 : decode cL_law 369 = .ok (.iadd, 1) := by decide +kernel
theorem dL_law_370 : decode cL_law 370 = .ok (.iaload, 1) := by decide +kernel
theorem dL_law_371 : decode cL_law 371 = .ok (.invokevirtual 38, 3) := by decide +kernel
theorem dL_law_374 : decode cL_law 374 = .ok (.if_icmp .eq 542, 3) := by decide +kernel
theorem dL_law_377 : decode cL_law 377 = .ok (.iconst 0, 1) := by decide +kernel
theorem dL_law_378 : decode cL_law 378 = .ok (.ireturn, 1) := by decide +kernel
theorem dL_law_379 : decode cL_law 379 = .ok (.aload_n 1, 1) := by decide +kernel
theorem dL_law_380 : decode cL_law 380 = .ok (.invokevirtual 39, 3) := by decide +kernel
theorem dL_law_383 : decode cL_law 383 = .ok (.aload_n 2, 1) := by decide +kernel
theorem dL_law_384 : decode cL_law 384 = .ok (.invokevirtual 43, 3) := by decide +kernel
theorem dL_law_387 : decode cL_law 387 = .ok (.if_icmp .eq 529, 3) := by decide +kernel
theorem dL_law_390 : decode cL_law 390 = .ok (.iconst 0, 1) := by decide +kernel
theorem dL_law_391 : decode cL_law 391 = .ok (.ireturn, 1) := by decide +kernel
theorem dL_law_392 : decode cL_law 392 = .ok (.aload_n 1, 1) := by decide +kernel
theorem dL_law_393 : decode cL_law 393 = .ok (.invokevirtual 44, 3) := by decide +kernel
theorem dL_law_396 : decode cL_law 396 = .ok (.aload_n 2, 1) := by decide +kernel
theorem dL_law_397 : decode cL_law 397 = .ok (.invokevirtual 47, 3) := by decide +kernel
theorem dL_law_400 : decode cL_law 400 = .ok (.if_icmp .eq 516, 3) := by decide +kernel
theorem dL_law_403 : decode cL_law 403 = .ok (.iconst 0, 1) := by decide +kernel
theorem dL_law_404 : decode cL_law 404 = .ok (.ireturn, 1) := by decide +kernel
theorem dL_law_405 : decode cL_law 405 = .ok (.aload_n 1, 1) := by decide +kernel
theorem dL_law_406 : decode cL_law 406 = .ok (.aload_n 0, 1) := by decide +kernel
theorem dL_law_407 : decode cL_law 407 = .ok (.iload_n 3, 1) := by decide +kernel
theorem dL_law_408 : decode cL_law 408 = .ok (.iconst 1, 1) := by decide +kernel
theorem dL_law_409 : decode cL_law 409 = .ok (.iadd, 1) := by decide +kernel
theorem dL_law_410 : decode cL_law 410 = .ok (.iaload, 1) := by decide +kernel
theorem dL_law_411 : decode cL_law 411 = .ok (.aload_n 0, 1) := by decide +kernel
theorem dL_law_412 : decode cL_law 412 = .ok (.iload_n 3, 1) := by decide +kernel
theorem dL_law_413 : decode cL_law 413 = .ok (.iconst 2, 1) := by decide +kernel
theorem dL_law_414 : decode cL_law 414 = .ok (.iadd, 1) := by decide +kernel
theorem dL_law_415 : decode cL_law 415 = .ok (.iaload, 1) := by decide +kernel
theorem dL_law_416 : decode cL_law 416 = .ok (.invokevirtual 48, 3) := by decide +kernel
theorem dL_law_419 : decode cL_law 419 = .ok (.aload_n 2, 1) := by decide +kernel
theorem dL_law_420 : decode cL_law 420 = .ok (.aload_n 0, 1) := by decide +kernel
theorem dL_law_421 : decode cL_law 421 = .ok (.iload_n 3, 1) := by decide +kernel
theorem dL_law_422 : decode cL_law 422 = .ok (.iconst 1, 1) := by decide +kernel
theorem dL_law_423 : decode cL_law 423 = .ok (.iadd, 1) := by decide +kernel
theorem dL_law_424 : decode cL_law 424 = .ok (.iaload, 1) := by decide +kernel
theorem dL_law_425 : decode cL_law 425 = .ok (.aload_n 0, 1) := by decide +kernel
theorem dL_law_426 : decode cL_law 426 = .ok (.iload_n 3, 1) := by decide +kernel
theorem dL_law_427 : decode cL_law 427 = .ok (.iconst 2, 1) := by decide +kernel
theorem dL_law_428 : decode cL_law 428 = .ok (.iadd, 1) := by decide +kernel
theorem dL_law_429 : decode cL_law 429 = .ok (.iaload, 1) := by decide +kernel
theorem dL_law_430 : decode cL_law 430 = .ok (.invokevirtual 52, 3) := by decide +kernel
theorem dL_law_433 : decode cL_law 433 = .ok (.if_icmp .eq 483, 3) := by decide +kernel
theorem dL_law_436 : decode cL_law 436 = .ok (.iconst 0, 1) := by decide +kernel
theorem dL_law_437 : decode cL_law 437 = .ok (.ireturn, 1) := by decide +kernel
theorem dL_law_438 : decode cL_law 438 = .ok (.aload_n 1, 1) := by decide +kernel
theorem dL_law_439 : decode cL_law 439 = .ok (.aload_n 0, 1) := by decide +kernel
theorem dL_law_440 : decode cL_law 440 = .ok (.iload_n 3, 1) := by decide +kernel
theorem dL_law_441 : decode cL_law 441 = .ok (.iconst 1, 1) := by decide +kernel
theorem dL_law_442 : decode cL_law 442 = .ok (.iadd, 1) := by decide +kernel
theorem dL_law_443 : decode cL_law 443 = .ok (.iaload, 1) := by decide +kernel
theorem dL_law_444 : decode cL_law 444 = .ok (.aload_n 0, 1) := by decide +kernel
theorem dL_law_445 : decode cL_law 445 = .ok (.iload_n 3, 1) := by decide +kernel
theorem dL_law_446 : decode cL_law 446 = .ok (.iconst 2, 1) := by decide +kernel
theorem dL_law_447 : decode cL_law 447 = .ok (.iadd, 1) := by decide +kernel
theorem dL_law_448 : decode cL_law 448 = .ok (.iaload, 1) := by decide +kernel
theorem dL_law_449 : decode cL_law 449 = .ok (.aload_n 0, 1) := by decide +kernel
theorem dL_law_450 : decode cL_law 450 = .ok (.iload_n 3, 1) := by decide +kernel
theorem dL_law_451 : decode cL_law 451 = .ok (.iconst 3, 1) := by decide +kernel
theorem dL_law_452 : decode cL_law 452 = .ok (.iadd, 1) := by decide +kernel
theorem dL_law_453 : decode cL_law 453 = .ok (.iaload, 1) := by decide +kernel
theorem dL_law_454 : decode cL_law 454 = .ok (.invokevirtual 53, 3) := by decide +kernel
theorem dL_law_457 : decode cL_law 457 = .ok (.aload_n 2, 1) := by decide +kernel
theorem dL_law_458 : decode cL_law 458 = .ok (.aload_n 0, 1) := by decide +kernel
theorem dL_law_459 : decode cL_law 459 = .ok (.iload_n 3, 1) := by decide +kernel
theorem dL_law_460 : decode cL_law 460 = .ok (.iconst 1, 1) := by decide +kernel
theorem dL_law_461 : decode cL_law 461 = .ok (.iadd, 1) := by decide +kernel
theorem dL_law_462 : decode cL_law 462 = .ok (.iaload, 1) := by decide +kernel
theorem dL_law_463 : decode cL_law 463 = .ok (.aload_n 0, 1) := by decide +kernel
theorem dL_law_464 : decode cL_law 464 = .ok (.iload_n 3, 1) := by decide +kernel
theorem dL_law_465 : decode cL_law 465 = .ok (.iconst 2, 1) := by decide +kernel
theorem dL_law_466 : decode cL_law 466 = .ok (.iadd, 1) := by decide +kernel
theorem dL_law_467 : decode cL_law 467 = .ok (.iaload, 1) := by decide +kernel
theorem dL_law_468 : decode cL_law 468 = .ok (.aload_n 0, 1) := by decide +kernel
theorem dL_law_469 : decode cL_law 469 = .ok (.iload_n 3, 1) := by decide +kernel
theorem dL_law_470 : decode cL_law 470 = .ok (.iconst 3, 1) := by decide +kernel
theorem dL_law_471 : decode cL_law 471 = .ok (.iadd, 1) := by decide +kernel
theorem dL_law_472 : decode cL_law 472 = .ok (.iaload, 1) := by decide +kernel
theorem dL_law_473 : decode cL_law 473 = .ok (.invokevirtual 56, 3) := by decide +kernel
theorem dL_law_476 : decode cL_law 476 = .ok (.if_icmp .eq 440, 3) := by decide +kernel
theorem dL_law_479 : decode cL_law 479 = .ok (.iconst 0, 1) := by decide +kernel
theorem dL_law_480 : decode cL_law 480 = .ok (.ireturn, 1) := by decide +kernel
theorem dL_law_481 : decode cL_law 481 = .ok (.aload_n 1, 1) := by decide +kernel
theorem dL_law_482 : decode cL_law 482 = .ok (.invokevirtual 57, 3) := by decide +kernel
theorem dL_law_485 : decode cL_law 485 = .ok (.aload_n 2, 1) := by decide +kernel
theorem dL_law_486 : decode cL_law 486 = .ok (.invokevirtual 60, 3) := by decide +kernel
theorem dL_law_489 : decode cL_law 489 = .ok (.if_icmp .eq 427, 3) := by decide +kernel
theorem dL_law_492 : decode cL_law 492 = .ok (.iconst 0, 1) := by decide +kernel
theorem dL_law_493 : decode cL_law 493 = .ok (.ireturn, 1) := by decide +kernel
theorem dL_law_494 : decode cL_law 494 = .ok (.aload_n 1, 1) := by decide +kernel
theorem dL_law_495 : decode cL_law 495 = .ok (.aload_n 0, 1) := by decide +kernel
theorem dL_law_496 : decode cL_law 496 = .ok (.iload_n 3, 1) := by decide +kernel
theorem dL_law_497 : decode cL_law 497 = .ok (.iconst 1, 1) := by decide +kernel
theorem dL_law_498 : decode cL_law 498 = .ok (.iadd, 1) := by decide +kernel
theorem dL_law_499 : decode cL_law 499 = .ok (.iaload, 1) := by decide +kernel
theorem dL_law_500 : decode cL_law 500 = .ok (.aload_n 0, 1) := by decide +kernel
theorem dL_law_501 : decode cL_law 501 = .ok (.iload_n 3, 1) := by decide +kernel
theorem dL_law_502 : decode cL_law 502 = .ok (.iconst 2, 1) := by decide +kernel
theorem dL_law_503 : decode cL_law 503 = .ok (.iadd, 1) := by decide +kernel
theorem dL_law_504 : decode cL_law 504 = .ok (.iaload, 1) := by decide +kernel
theorem dL_law_505 : decode cL_law 505 = .ok (.invokevirtual 61, 3) := by decide +kernel
theorem dL_law_508 : decode cL_law 508 = .ok (.aload_n 2, 1) := by decide +kernel
theorem dL_law_509 : decode cL_law 509 = .ok (.aload_n 0, 1) := by decide +kernel
theorem dL_law_510 : decode cL_law 510 = .ok (.iload_n 3, 1) := by decide +kernel
theorem dL_law_511 : decode cL_law 511 = .ok (.iconst 1, 1) := by decide +kernel
theorem dL_law_512 : decode cL_law 512 = .ok (.iadd, 1) := by decide +kernel
theorem dL_law_513 : decode cL_law 513 = .ok (.iaload, 1) := by decide +kernel
theorem dL_law_514 : decode cL_law 514 = .ok (.aload_n 0, 1) := by decide +kernel
theorem dL_law_515 : decode cL_law 515 = .ok (.iload_n 3, 1) := by decide +kernel
theorem dL_law_516 : decode cL_law 516 = .ok (.iconst 2, 1) := by decide +kernel
theorem dL_law_517 : decode cL_law 517 = .ok (.iadd, 1) := by decide +kernel
theorem dL_law_518 : decode cL_law 518 = .ok (.iaload, 1) := by decide +kernel
theorem dL_law_519 : decode cL_law 519 = .ok (.invokevirtual 64, 3) := by decide +kernel
theorem dL_law_522 : decode cL_law 522 = .ok (.if_icmp .eq 394, 3) := by decide +kernel
theorem dL_law_525 : decode cL_law 525 = .ok (.iconst 0, 1) := by decide +kernel
theorem dL_law_526 : decode cL_law 526 = .ok (.ireturn, 1) := by decide +kernel
theorem dL_law_527 : decode cL_law 527 = .ok (.aload_n 1, 1) := by decide +kernel
theorem dL_law_528 : decode cL_law 528 = .ok (.aload_n 0, 1) := by decide +kernel
theorem dL_law_529 : decode cL_law 529 = .ok (.iload_n 3, 1) := by decide +kernel
theorem dL_law_530 : decode cL_law 530 = .ok (.iconst 1, 1) := by decide +kernel
theorem dL_law_531 : decode cL_law 531 = .ok (.iadd, 1) := by decide +kernel
theorem dL_law_532 : decode cL_law 532 = .ok (.iaload, 1) := by decide +kernel
theorem dL_law_533 : decode cL_law 533 = .ok (.invokevirtual 65, 3) := by decide +kernel
theorem dL_law_536 : decode cL_law 536 = .ok (.aload_n 2, 1) := by decide +kernel
theorem dL_law_537 : decode cL_law 537 = .ok (.aload_n 0, 1) := by decide +kernel
theorem dL_law_538 : decode cL_law 538 = .ok (.iload_n 3, 1) := by decide +kernel
theorem dL_law_539 : decode cL_law 539 = .ok (.iconst 1, 1) := by decide +kernel
theorem dL_law_540 : decode cL_law 540 = .ok (.iadd, 1) := by decide +kernel
theorem dL_law_541 : decode cL_law 541 = .ok (.iaload, 1) := by decide +kernel
theorem dL_law_542 : decode cL_law 542 = .ok (.invokevirtual 68, 3) := by decide +kernel
theorem dL_law_545 : decode cL_law 545 = .ok (.if_icmp .eq 371, 3) := by decide +kernel
theorem dL_law_548 : decode cL_law 548 = .ok (.iconst 0, 1) := by decide +kernel
theorem dL_law_549 : decode cL_law 549 = .ok (.ireturn, 1) := by decide +kernel
theorem dL_law_550 : decode cL_law 550 = .ok (.aload_n 1, 1) := by decide +kernel
theorem dL_law_551 : decode cL_law 551 = .ok (.aload_n 0, 1) := by decide +kernel
theorem dL_law_552 : decode cL_law 552 = .ok (.iload_n 3, 1) := by decide +kernel
theorem dL_law_553 : decode cL_law 553 = .ok (.iconst 1, 1) := by decide +kernel
theorem dL_law_554 : decode cL_law 554 = .ok (.iadd, 1) := by decide +kernel
theorem dL_law_555 : decode cL_law 555 = .ok (.iaload, 1) := by decide +kernel
theorem dL_law_556 : decode cL_law 556 = .ok (.aload_n 0, 1) := by decide +kernel
theorem dL_law_557 : decode cL_law 557 = .ok (.iload_n 3, 1) := by decide +kernel
theorem dL_law_558 : decode cL_law 558 = .ok (.iconst 2, 1) := by decide +kernel
theorem dL_law_559 : decode cL_law 559 = .ok (.iadd, 1) := by decide +kernel
theorem dL_law_560 : decode cL_law 560 = .ok (.iaload, 1) := by decide +kernel
theorem dL_law_561 : decode cL_law 561 = .ok (.aload_n 0, 1) := by decide +kernel
theorem dL_law_562 : decode cL_law 562 = .ok (.iload_n 3, 1) := by decide +kernel
theorem dL_law_563 : decode cL_law 563 = .ok (.iconst 3, 1) := by decide +kernel
theorem dL_law_564 : decode cL_law 564 = .ok (.iadd, 1) := by decide +kernel
theorem dL_law_565 : decode cL_law 565 = .ok (.iaload, 1) := by decide +kernel
theorem dL_law_566 : decode cL_law 566 = .ok (.aload_n 0, 1) := by decide +kernel
theorem dL_law_567 : decode cL_law 567 = .ok (.iload_n 3, 1) := by decide +kernel
theorem dL_law_568 : decode cL_law 568 = .ok (.iconst 4, 1) := by decide +kernel
theorem dL_law_569 : decode cL_law 569 = .ok (.iadd, 1) := by decide +kernel
theorem dL_law_570 : decode cL_law 570 = .ok (.iaload, 1) := by decide +kernel
theorem dL_law_571 : decode cL_law 571 = .ok (.invokevirtual 69, 3) := by decide +kernel
theorem dL_law_574 : decode cL_law 574 = .ok (.aload_n 2, 1) := by decide +kernel
theorem dL_law_575 : decode cL_law 575 = .ok (.aload_n 0, 1) := by decide +kernel
theorem dL_law_576 : decode cL_law 576 = .ok (.iload_n 3, 1) := by decide +kernel
theorem dL_law_577 : decode cL_law 577 = .ok (.iconst 1, 1) := by decide +kernel
theorem dL_law_578 : decode cL_law 578 = .ok (.iadd, 1) := by decide +kernel
theorem dL_law_579 : decode cL_law 579 = .ok (.iaload, 1) := by decide +kernel
theorem dL_law_580 : decode cL_law 580 = .ok (.aload_n 0, 1) := by decide +kernel
theorem dL_law_581 : decode cL_law 581 = .ok (.iload_n 3, 1) := by decide +kernel
theorem dL_law_582 : decode cL_law 582 = .ok (.iconst 2, 1) := by decide +kernel
theorem dL_law_583 : decode cL_law 583 = .ok (.iadd, 1) := by decide +kernel
theorem dL_law_584 : decode cL_law 584 = .ok (.iaload, 1) := by decide +kernel
theorem dL_law_585 : decode cL_law 585 = .ok (.aload_n 0, 1) := by decide +kernel
theorem dL_law_586 : decode cL_law 586 = .ok (.iload_n 3, 1) := by decide +kernel
theorem dL_law_587 : decode cL_law 587 = .ok (.iconst 3, 1) := by decide +kernel
theorem dL_law_588 : decode cL_law 588 = .ok (.iadd, 1) := by decide +kernel
theorem dL_law_589 : decode cL_law 589 = .ok (.iaload, 1) := by decide +kernel
theorem dL_law_590 : decode cL_law 590 = .ok (.aload_n 0, 1) := by decide +kernel
theorem dL_law_591 : decode cL_law 591 = .ok (.iload_n 3, 1) := by decide +kernel
theorem dL_law_592 : decode cL_law 592 = .ok (.iconst 4, 1) := by decide +kernel
theorem dL_law_593 : decode cL_law 593 = .ok (.iadd, 1) := by decide +kernel
theorem dL_law_594 : decode cL_law 594 = .ok (.iaload, 1) := by decide +kernel
theorem dL_law_595 : decode cL_law 595 = .ok (.invokevirtual 73, 3) := by decide +kernel
theorem dL_law_598 : decode cL_law 598 = .ok (.if_icmp .eq 318, 3) := by decide +kernel
theorem dL_law_601 : decode cL_law 601 = .ok (.iconst 0, 1) := by decide +kernel
theorem dL_law_602 : decode cL_law 602 = .ok (.ireturn, 1) := by decide +kernel
theorem dL_law_603 : decode cL_law 603 = .ok (.aload_n 1, 1) := by decide +kernel
theorem dL_law_604 : decode cL_law 604 = .ok (.aload_n 0, 1) := by decide +kernel
theorem dL_law_605 : decode cL_law 605 = .ok (.iload_n 3, 1) := by decide +kernel
theorem dL_law_606 : decode cL_law 606 = .ok (.iconst 1, 1) := by decide +kernel
theorem dL_law_607 : decode cL_law 607 = .ok (.iadd, 1) := by decide +kernel
theorem dL_law_608 : decode cL_law 608 = .ok (.iaload, 1) := by decide +kernel
theorem dL_law_609 : decode cL_law 609 = .ok (.aload_n 0, 1) := by decide +kernel
theorem dL_law_610 : decode cL_law 610 = .ok (.iload_n 3, 1) := by decide +kernel
theorem dL_law_611 : decode cL_law 611 = .ok (.iconst 2, 1) := by decide +kernel
theorem dL_law_612 : decode cL_law 612 = .ok (.iadd, 1) := by decide +kernel
theorem dL_law_613 : decode cL_law 613 = .ok (.iaload, 1) := by decide +kernel
theorem dL_law_614 : decode cL_law 614 = .ok (.aload_n 0, 1) := by decide +kernel
theorem dL_law_615 : decode cL_law 615 = .ok (.iload_n 3, 1) := by decide +kernel
theorem dL_law_616 : decode cL_law 616 = .ok (.iconst 3, 1) := by decide +kernel
theorem dL_law_617 : decode cL_law 617 = .ok (.iadd, 1) := by decide +kernel
theorem dL_law_618 : decode cL_law 618 = .ok (.iaload, 1) := by decide +kernel
theorem dL_law_619 : decode cL_law 619 = .ok (.aload_n 0, 1) := by decide +kernel
theorem dL_law_620 : decode cL_law 620 = .ok (.iload_n 3, 1) := by decide +kernel
theorem dL_law_621 : decode cL_law 621 = .ok (.iconst 4, 1) := by decide +kernel
theorem dL_law_622 : decode cL_law 622 = .ok (.iadd, 1) := by decide +kernel
theorem dL_law_623 : decode cL_law 623 = .ok (.iaload, 1) := by decide +kernel
theorem dL_law_624 : decode cL_law 624 = .ok (.invokevirtual 74, 3) := by decide +kernel
theorem dL_law_627 : decode cL_law 627 = .ok (.aload_n 2, 1) := by decide +kernel
theorem dL_law_628 : decode cL_law 628 = .ok (.aload_n 0, 1) := by decide +kernel
theorem dL_law_629 : decode cL_law 629 = .ok (.iload_n 3, 1) := by decide +kernel
theorem dL_law_630 : decode cL_law 630 = .ok (.iconst 1, 1) := by decide +kernel
theorem dL_law_631 : decode cL_law 631 = .ok (.iadd, 1) := by decide +kernel
theorem dL_law_632 : decode cL_law 632 = .ok (.iaload, 1) := by decide +kernel
theorem dL_law_633 : decode cL_law 633 = .ok (.aload_n 0, 1) := by decide +kernel
theorem dL_law_634 : decode cL_law 634 = .ok (.iload_n 3, 1) := by decide +kernel
theorem dL_law_635 : decode cL_law 635 = .ok (.iconst 2, 1) := by decide +kernel
theorem dL_law_636 : decode cL_law 636 = .ok (.iadd, 1) := by decide +kernel
theorem dL_law_637 : decode cL_law 637 = .ok (.iaload, 1) := by decide +kernel
theorem dL_law_638 : decode cL_law 638 = .ok (.aload_n 0, 1) := by decide +kernel
theorem dL_law_639 : decode cL_law 639 = .ok (.iload_n 3, 1) := by decide +kernel
theorem dL_law_640 : decode cL_law 640 = .ok (.iconst 3, 1) := by decide +kernel
theorem dL_law_641 : decode cL_law 641 = .ok (.iadd, 1) := by decide +kernel
theorem dL_law_642 : decode cL_law 642 = .ok (.iaload, 1) := by decide +kernel
theorem dL_law_643 : decode cL_law 643 = .ok (.aload_n 0, 1) := by decide +kernel
theorem dL_law_644 : decode cL_law 644 = .ok (.iload_n 3, 1) := by decide +kernel
theorem dL_law_645 : decode cL_law 645 = .ok (.iconst 4, 1) := by decide +kernel
theorem dL_law_646 : decode cL_law 646 = .ok (.iadd, 1) := by decide +kernel
theorem dL_law_647 : decode cL_law 647 = .ok (.iaload, 1) := by decide +kernel
theorem dL_law_648 : decode cL_law 648 = .ok (.invokevirtual 77, 3) := by decide +kernel
theorem dL_law_651 : decode cL_law 651 = .ok (.if_icmp .eq 265, 3) := by decide +kernel
theorem dL_law_654 : decode cL_law 654 = .ok (.iconst 0, 1) := by decide +kernel
theorem dL_law_655 : decode cL_law 655 = .ok (.ireturn, 1) := by decide +kernel
theorem dL_law_656 : decode cL_law 656 = .ok (.aload_n 1, 1) := by decide +kernel
theorem dL_law_657 : decode cL_law 657 = .ok (.aload_n 0, 1) := by decide +kernel
theorem dL_law_658 : decode cL_law 658 = .ok (.iload_n 3, 1) := by decide +kernel
theorem dL_law_659 : decode cL_law 659 = .ok (.iconst 1, 1) := by decide +kernel
theorem dL_law_660 : decode cL_law 660 = .ok (.iadd, 1) := by decide +kernel
theorem dL_law_661 : decode cL_law 661 = .ok (.iaload, 1) := by decide +kernel
theorem dL_law_662 : decode cL_law 662 = .ok (.aload_n 0, 1) := by decide +kernel
theorem dL_law_663 : decode cL_law 663 = .ok (.iload_n 3, 1) := by decide +kernel
theorem dL_law_664 : decode cL_law 664 = .ok (.iconst 2, 1) := by decide +kernel
theorem dL_law_665 : decode cL_law 665 = .ok (.iadd, 1) := by decide +kernel
theorem dL_law_666 : decode cL_law 666 = .ok (.iaload, 1) := by decide +kernel
theorem dL_law_667 : decode cL_law 667 = .ok (.aload_n 0, 1) := by decide +kernel
theorem dL_law_668 : decode cL_law 668 = .ok (.iload_n 3, 1) := by decide +kernel
theorem dL_law_669 : decode cL_law 669 = .ok (.iconst 3, 1) := by decide +kernel
theorem dL_law_670 : decode cL_law 670 = .ok (.iadd, 1) := by decide +kernel
theorem dL_law_671 : decode cL_law 671 = .ok (.iaload, 1) := by decide +kernel
theorem dL_law_672 : decode cL_law 672 = .ok (.invokevirtual 78, 3) := by decide +kernel
theorem dL_law_675 : decode cL_law 675 = .ok (.aload_n 2, 1) := by decide +kernel
theorem dL_law_676 : decode cL_law 676 = .ok (.aload_n 0, 1) := by decide +kernel
theorem dL_law_677 : decode cL_law 677 = .ok (.iload_n 3, 1) := by decide +kernel
theorem dL_law_678 : decode cL_law 678 = .ok (.iconst 1, 1) := by decide +kernel
theorem dL_law_679 : decode cL_law 679 = .ok (.iadd, 1) := by decide +kernel
theorem dL_law_680 : decode cL_law 680 = .ok (.iaload, 1) := by decide +kernel
theorem dL_law_681 : decode cL_law 681 = .ok (.aload_n 0, 1) := by decide +kernel
theorem dL_law_682 : decode cL_law 682 = .ok (.iload_n 3, 1) := by decide +kernel
theorem dL_law_683 : decode cL_law 683 = .ok (.iconst 2, 1) := by decide +kernel
theorem dL_law_684 : decode cL_law 684 = .ok (.iadd, 1) := by decide +kernel
theorem dL_law_685 : decode cL_law 685 = .ok (.iaload, 1) := by decide +kernel
theorem dL_law_686 : decode cL_law 686 = .ok (.aload_n 0, 1) := by decide +kernel
theorem dL_law_687 : decode cL_law 687 = .ok (.iload_n 3, 1) := by decide +kernel
theorem dL_law_688 : decode cL_law 688 = .ok (.iconst 3, 1) := by decide +kernel
theorem dL_law_689 : decode cL_law 689 = .ok (.iadd, 1) := by decide +kernel
theorem dL_law_690 : decode cL_law 690 = .ok (.iaload, 1) := by decide +kernel
theorem dL_law_691 : decode cL_law 691 = .ok (.invokevirtual 81, 3) := by decide +kernel
theorem dL_law_694 : decode cL_law 694 = .ok (.if_icmp .eq 222, 3) := by decide +kernel
theorem dL_law_697 : decode cL_law 697 = .ok (.iconst 0, 1) := by decide +kernel
theorem dL_law_698 : decode cL_law 698 = .ok (.ireturn, 1) := by decide +kernel
theorem dL_law_699 : decode cL_law 699 = .ok (.aload_n 1, 1) := by decide +kernel
theorem dL_law_700 : decode cL_law 700 = .ok (.aload_n 0, 1) := by decide +kernel
theorem dL_law_701 : decode cL_law 701 = .ok (.iload_n 3, 1) := by decide +kernel
theorem dL_law_702 : decode cL_law 702 = .ok (.iconst 1, 1) := by decide +kernel
theorem dL_law_703 : decode cL_law 703 = .ok (.iadd, 1) := by decide +kernel
theorem dL_law_704 : decode cL_law 704 = .ok (.iaload, 1) := by decide +kernel
theorem dL_law_705 : decode cL_law 705 = .ok (.invokevirtual 82, 3) := by decide +kernel
theorem dL_law_708 : decode cL_law 708 = .ok (.aload_n 2, 1) := by decide +kernel
theorem dL_law_709 : decode cL_law 709 = .ok (.aload_n 0, 1) := by decide +kernel
theorem dL_law_710 : decode cL_law 710 = .ok (.iload_n 3, 1) := by decide +kernel
theorem dL_law_711 : decode cL_law 711 = .ok (.iconst 1, 1) := by decide +kernel
theorem dL_law_712 : decode cL_law 712 = .ok (.iadd, 1) := by decide +kernel
theorem dL_law_713 : decode cL_law 713 = .ok (.iaload, 1) := by decide +kernel
theorem dL_law_714 : decode cL_law 714 = .ok (.invokevirtual 85, 3) := by decide +kernel
theorem dL_law_717 : decode cL_law 717 = .ok (.if_icmp .eq 199, 3) := by decide +kernel
theorem dL_law_720 : decode cL_law 720 = .ok (.iconst 0, 1) := by decide +kernel
theorem dL_law_721 : decode cL_law 721 = .ok (.ireturn, 1) := by decide +kernel
theorem dL_law_722 : decode cL_law 722 = .ok (.aload_n 1, 1) := by decide +kernel
theorem dL_law_723 : decode cL_law 723 = .ok (.aload_n 0, 1) := by decide +kernel
theorem dL_law_724 : decode cL_law 724 = .ok (.iload_n 3, 1) := by decide +kernel
theorem dL_law_725 : decode cL_law 725 = .ok (.iconst 1, 1) := by decide +kernel
theorem dL_law_726 : decode cL_law 726 = .ok (.iadd, 1) := by decide +kernel
theorem dL_law_727 : decode cL_law 727 = .ok (.iaload, 1) := by decide +kernel
theorem dL_law_728 : decode cL_law 728 = .ok (.invokevirtual 86, 3) := by decide +kernel
theorem dL_law_731 : decode cL_law 731 = .ok (.aload_n 2, 1) := by decide +kernel
theorem dL_law_732 : decode cL_law 732 = .ok (.aload_n 0, 1) := by decide +kernel
theorem dL_law_733 : decode cL_law 733 = .ok (.iload_n 3, 1) := by decide +kernel
theorem dL_law_734 : decode cL_law 734 = .ok (.iconst 1, 1) := by decide +kernel
theorem dL_law_735 : decode cL_law 735 = .ok (.iadd, 1) := by decide +kernel
theorem dL_law_736 : decode cL_law 736 = .ok (.iaload, 1) := by decide +kernel
theorem dL_law_737 : decode cL_law 737 = .ok (.invokevirtual 89, 3) := by decide +kernel
theorem dL_law_740 : decode cL_law 740 = .ok (.if_icmp .eq 176, 3) := by decide +kernel
theorem dL_law_743 : decode cL_law 743 = .ok (.iconst 0, 1) := by decide +kernel
theorem dL_law_744 : decode cL_law 744 = .ok (.ireturn, 1) := by decide +kernel
theorem dL_law_745 : decode cL_law 745 = .ok (.aload_n 1, 1) := by decide +kernel
theorem dL_law_746 : decode cL_law 746 = .ok (.aload_n 0, 1) := by decide +kernel
theorem dL_law_747 : decode cL_law 747 = .ok (.iload_n 3, 1) := by decide +kernel
theorem dL_law_748 : decode cL_law 748 = .ok (.iconst 1, 1) := by decide +kernel
theorem dL_law_749 : decode cL_law 749 = .ok (.iadd, 1) := by decide +kernel
theorem dL_law_750 : decode cL_law 750 = .ok (.iaload, 1) := by decide +kernel
theorem dL_law_751 : decode cL_law 751 = .ok (.invokevirtual 90, 3) := by decide +kernel
theorem dL_law_754 : decode cL_law 754 = .ok (.aload_n 2, 1) := by decide +kernel
theorem dL_law_755 : decode cL_law 755 = .ok (.aload_n 0, 1) := by decide +kernel
theorem dL_law_756 : decode cL_law 756 = .ok (.iload_n 3, 1) := by decide +kernel
theorem dL_law_757 : decode cL_law 757 = .ok (.iconst 1, 1) := by decide +kernel
theorem dL_law_758 : decode cL_law 758 = .ok (.iadd, 1) := by decide +kernel
theorem dL_law_759 : decode cL_law 759 = .ok (.iaload, 1) := by decide +kernel
theorem dL_law_760 : decode cL_law 760 = .ok (.invokevirtual 93, 3) := by decide +kernel
theorem dL_law_763 : decode cL_law 763 = .ok (.if_icmp .eq 153, 3) := by decide +kernel
theorem dL_law_766 : decode cL_law 766 = .ok (.iconst 0, 1) := by decide +kernel
theorem dL_law_767 : decode cL_law 767 = .ok (.ireturn, 1) := by decide +kernel
theorem dL_law_768 : decode cL_law 768 = .ok (.aload_n 1, 1) := by decide +kernel
theorem dL_law_769 : decode cL_law 769 = .ok (.aload_n 0, 1) := by decide +kernel
theorem dL_law_770 : decode cL_law 770 = .ok (.iload_n 3, 1) := by decide +kernel
theorem dL_law_771 : decode cL_law 771 = .ok (.iconst 1, 1) := by decide +kernel
theorem dL_law_772 : decode cL_law 772 = .ok (.iadd, 1) := by decide +kernel
theorem dL_law_773 : decode cL_law 773 = .ok (.iaload, 1) := by decide +kernel
theorem dL_law_774 : decode cL_law 774 = .ok (.invokevirtual 94, 3) := by decide +kernel
theorem dL_law_777 : decode cL_law 777 = .ok (.aload_n 2, 1) := by decide +kernel
theorem dL_law_778 : decode cL_law 778 = .ok (.aload_n 0, 1) := by decide +kernel
theorem dL_law_779 : decode cL_law 779 = .ok (.iload_n 3, 1) := by decide +kernel
theorem dL_law_780 : decode cL_law 780 = .ok (.iconst 1, 1) := by decide +kernel
theorem dL_law_781 : decode cL_law 781 = .ok (.iadd, 1) := by decide +kernel
theorem dL_law_782 : decode cL_law 782 = .ok (.iaload, 1) := by decide +kernel
theorem dL_law_783 : decode cL_law 783 = .ok (.invokevirtual 97, 3) := by decide +kernel
theorem dL_law_786 : decode cL_law 786 = .ok (.if_icmp .eq 130, 3) := by decide +kernel
theorem dL_law_789 : decode cL_law 789 = .ok (.iconst 0, 1) := by decide +kernel
theorem dL_law_790 : decode cL_law 790 = .ok (.ireturn, 1) := by decide +kernel
theorem dL_law_791 : decode cL_law 791 = .ok (.aload_n 1, 1) := by decide +kernel
theorem dL_law_792 : decode cL_law 792 = .ok (.aload_n 0, 1) := by decide +kernel
theorem dL_law_793 : decode cL_law 793 = .ok (.iload_n 3, 1) := by decide +kernel
theorem dL_law_794 : decode cL_law 794 = .ok (.iconst 1, 1) := by decide +kernel
theorem dL_law_795 : decode cL_law 795 = .ok (.iadd, 1) := by decide +kernel
theorem dL_law_796 : decode cL_law 796 = .ok (.iaload, 1) := by decide +kernel
theorem dL_law_797 : decode cL_law 797 = .ok (.aload_n 0, 1) := by decide +kernel
theorem dL_law_798 : decode cL_law 798 = .ok (.iload_n 3, 1) := by decide +kernel
theorem dL_law_799 : decode cL_law 799 = .ok (.iconst 2, 1) := by decide +kernel
theorem dL_law_800 : decode cL_law 800 = .ok (.iadd, 1) := by decide +kernel
theorem dL_law_801 : decode cL_law 801 = .ok (.iaload, 1) := by decide +kernel
theorem dL_law_802 : decode cL_law 802 = .ok (.invokevirtual 98, 3) := by decide +kernel
theorem dL_law_805 : decode cL_law 805 = .ok (.aload_n 2, 1) := by decide +kernel
theorem dL_law_806 : decode cL_law 806 = .ok (.aload_n 0, 1) := by decide +kernel
theorem dL_law_807 : decode cL_law 807 = .ok (.iload_n 3, 1) := by decide +kernel
theorem dL_law_808 : decode cL_law 808 = .ok (.iconst 1, 1) := by decide +kernel
theorem dL_law_809 : decode cL_law 809 = .ok (.iadd, 1) := by decide +kernel
theorem dL_law_810 : decode cL_law 810 = .ok (.iaload, 1) := by decide +kernel
theorem dL_law_811 : decode cL_law 811 = .ok (.aload_n 0, 1) := by decide +kernel
theorem dL_law_812 : decode cL_law 812 = .ok (.iload_n 3, 1) := by decide +kernel
theorem dL_law_813 : decode cL_law 813 = .ok (.iconst 2, 1) := by decide +kernel
theorem dL_law_814 : decode cL_law 814 = .ok (.iadd, 1) := by decide +kernel
theorem dL_law_815 : decode cL_law 815 = .ok (.iaload, 1) := by decide +kernel
theorem dL_law_816 : decode cL_law 816 = .ok (.invokevirtual 101, 3) := by decide +kernel
theorem dL_law_819 : decode cL_law 819 = .ok (.if_icmp .eq 97, 3) := by decide +kernel
theorem dL_law_822 : decode cL_law 822 = .ok (.iconst 0, 1) := by decide +kernel
theorem dL_law_823 : decode cL_law 823 = .ok (.ireturn, 1) := by decide +kernel
theorem dL_law_824 : decode cL_law 824 = .ok (.aload_n 1, 1) := by decide +kernel
theorem dL_law_825 : decode cL_law 825 = .ok (.aload_n 0, 1) := by decide +kernel
theorem dL_law_826 : decode cL_law 826 = .ok (.iload_n 3, 1) := by decide +kernel
theorem dL_law_827 : decode cL_law 827 = .ok (.iconst 1, 1) := by decide +kernel
theorem dL_law_828 : decode cL_law 828 = .ok (.iadd, 1) := by decide +kernel
theorem dL_law_829 : decode cL_law 829 = .ok (.iaload, 1) := by decide +kernel
theorem dL_law_830 : decode cL_law 830 = .ok (.aload_n 0, 1) := by decide +kernel
theorem dL_law_831 : decode cL_law 831 = .ok (.iload_n 3, 1) := by decide +kernel
theorem dL_law_832 : decode cL_law 832 = .ok (.iconst 2, 1) := by decide +kernel
theorem dL_law_833 : decode cL_law 833 = .ok (.iadd, 1) := by decide +kernel
theorem dL_law_834 : decode cL_law 834 = .ok (.iaload, 1) := by decide +kernel
theorem dL_law_835 : decode cL_law 835 = .ok (.invokevirtual 102, 3) := by decide +kernel
theorem dL_law_838 : decode cL_law 838 = .ok (.aload_n 2, 1) := by decide +kernel
theorem dL_law_839 : decode cL_law 839 = .ok (.aload_n 0, 1) := by decide +kernel
theorem dL_law_840 : decode cL_law 840 = .ok (.iload_n 3, 1) := by decide +kernel
theorem dL_law_841 : decode cL_law 841 = .ok (.iconst 1, 1) := by decide +kernel
theorem dL_law_842 : decode cL_law 842 = .ok (.iadd, 1) := by decide +kernel
theorem dL_law_843 : decode cL_law 843 = .ok (.iaload, 1) := by decide +kernel
theorem dL_law_844 : decode cL_law 844 = .ok (.aload_n 0, 1) := by decide +kernel
theorem dL_law_845 : decode cL_law 845 = .ok (.iload_n 3, 1) := by decide +kernel
theorem dL_law_846 : decode cL_law 846 = .ok (.iconst 2, 1) := by decide +kernel
theorem dL_law_847 : decode cL_law 847 = .ok (.iadd, 1) := by decide +kernel
theorem dL_law_848 : decode cL_law 848 = .ok (.iaload, 1) := by decide +kernel
theorem dL_law_849 : decode cL_law 849 = .ok (.invokevirtual 105, 3) := by decide +kernel
theorem dL_law_852 : decode cL_law 852 = .ok (.if_icmp .eq 64, 3) := by decide +kernel
theorem dL_law_855 : decode cL_law 855 = .ok (.iconst 0, 1) := by decide +kernel
theorem dL_law_856 : decode cL_law 856 = .ok (.ireturn, 1) := by decide +kernel
theorem dL_law_857 : decode cL_law 857 = .ok (.aload_n 1, 1) := by decide +kernel
theorem dL_law_858 : decode cL_law 858 = .ok (.aload_n 0, 1) := by decide +kernel
theorem dL_law_859 : decode cL_law 859 = .ok (.iload_n 3, 1) := by decide +kernel
theorem dL_law_860 : decode cL_law 860 = .ok (.iconst 1, 1) := by decide +kernel
theorem dL_law_861 : decode cL_law 861 = .ok (.iadd, 1) := by decide +kernel
theorem dL_law_862 : decode cL_law 862 = .ok (.iaload, 1) := by decide +kernel
theorem dL_law_863 : decode cL_law 863 = .ok (.invokevirtual 106, 3) := by decide +kernel
theorem dL_law_866 : decode cL_law 866 = .ok (.aload_n 2, 1) := by decide +kernel
theorem dL_law_867 : decode cL_law 867 = .ok (.aload_n 0, 1) := by decide +kernel
theorem dL_law_868 : decode cL_law 868 = .ok (.iload_n 3, 1) := by decide +kernel
theorem dL_law_869 : decode cL_law 869 = .ok (.iconst 1, 1) := by decide +kernel
theorem dL_law_870 : decode cL_law 870 = .ok (.iadd, 1) := by decide +kernel
theorem dL_law_871 : decode cL_law 871 = .ok (.iaload, 1) := by decide +kernel
theorem dL_law_872 : decode cL_law 872 = .ok (.invokevirtual 109, 3) := by decide +kernel
theorem dL_law_875 : decode cL_law 875 = .ok (.if_icmp .eq 41, 3) := by decide +kernel
theorem dL_law_878 : decode cL_law 878 = .ok (.iconst 0, 1) := by decide +kernel
theorem dL_law_879 : decode cL_law 879 = .ok (.ireturn, 1) := by decide +kernel
theorem dL_law_880 : decode cL_law 880 = .ok (.aload_n 1, 1) := by decide +kernel
theorem dL_law_881 : decode cL_law 881 = .ok (.aload_n 0, 1) := by decide +kernel
theorem dL_law_882 : decode cL_law 882 = .ok (.iload_n 3, 1) := by decide +kernel
theorem dL_law_883 : decode cL_law 883 = .ok (.iconst 1, 1) := by decide +kernel
theorem dL_law_884 : decode cL_law 884 = .ok (.iadd, 1) := by decide +kernel
theorem dL_law_885 : decode cL_law 885 = .ok (.iaload, 1) := by decide +kernel
theorem dL_law_886 : decode cL_law 886 = .ok (.invokevirtual 110, 3) := by decide +kernel
theorem dL_law_889 : decode cL_law 889 = .ok (.aload_n 2, 1) := by decide +kernel
theorem dL_law_890 : decode cL_law 890 = .ok (.aload_n 0, 1) := by decide +kernel
theorem dL_law_891 : decode cL_law 891 = .ok (.iload_n 3, 1) := by decide +kernel
theorem dL_law_892 : decode cL_law 892 = .ok (.iconst 1, 1) := by decide +kernel
theorem dL_law_893 : decode cL_law 893 = .ok (.iadd, 1) := by decide +kernel
theorem dL_law_894 : decode cL_law 894 = .ok (.iaload, 1) := by decide +kernel
theorem dL_law_895 : decode cL_law 895 = .ok (.invokevirtual 113, 3) := by decide +kernel
theorem dL_law_898 : decode cL_law 898 = .ok (.if_icmp .eq 18, 3) := by decide +kernel
theorem dL_law_901 : decode cL_law 901 = .ok (.iconst 0, 1) := by decide +kernel
theorem dL_law_902 : decode cL_law 902 = .ok (.ireturn, 1) := by decide +kernel
theorem dL_law_903 : decode cL_law 903 = .ok (.aload_n 1, 1) := by decide +kernel
theorem dL_law_904 : decode cL_law 904 = .ok (.invokevirtual 114, 3) := by decide +kernel
theorem dL_law_907 : decode cL_law 907 = .ok (.aload_n 2, 1) := by decide +kernel
theorem dL_law_908 : decode cL_law 908 = .ok (.invokevirtual 117, 3) := by decide +kernel
theorem dL_law_911 : decode cL_law 911 = .ok (.if_icmp .eq 5, 3) := by decide +kernel
theorem dL_law_914 : decode cL_law 914 = .ok (.iconst 0, 1) := by decide +kernel
theorem dL_law_915 : decode cL_law 915 = .ok (.ireturn, 1) := by decide +kernel
theorem dL_law_916 : decode cL_law 916 = .ok (.iinc 3 6, 3) := by decide +kernel
theorem dL_law_919 : decode cL_law 919 = .ok (.goto (-901), 3) := by decide +kernel
theorem dL_law_922 : decode cL_law 922 = .ok (.iconst 1, 1) := by decide +kernel
theorem dL_law_923 : decode cL_law 923 = .ok (.ireturn, 1) := by decide +kernel
end
section
/-! THE WORLD AS A PURE MEMORY: all objects are made by the two constructors; afterwards the shape stays, only numbers change.
A value: an int, a long, or the number of a cell. Memory: per cell and place an int (fields and elements alike), and a long. -/
abbrev XV : Type := Int32 ⊕ (Int64 ⊕ Nat)
abbrev xi (v : Int32) : XV := Sum.inl v
abbrev xl (v : Int64) : XV := Sum.inr (Sum.inl v)
abbrev xr (k : Nat) : XV := Sum.inr (Sum.inr k)
abbrev XM : Type := (Nat → Nat → Int32) × (Nat → Nat → Int64)
/-- classes' numbers and slots; addresses of the cells; array classes; the first address that may be written; the script -/
abbrev XG : Type := va_G × (Nat → Nat) × (Nat → ClassId) × Nat × Nat × (Nat → Int32)
/-- a method: name, code, locals, answer -/
abbrev XY : Type := MethodName × ByteArray × Nat × Option FieldType
/-- a cell's shape: an object (class, fields: none an int, some none a long, some (some k) the cell k), or an array (0 ints, 1 bytes, 2 booleans, 3 cells; length) -/
abbrev XK : Type := (Nat × List (Option (Option Nat))) ⊕ (Nat × Nat)
def xcv (g : XG) : XV → Value
  | .inl v => .int v
  | .inr (.inl v) => .long v
  | .inr (.inr k) => .ref (g.2.1 k)
def xcat : XV → Nat
  | .inr (.inl _) => 2
  | _ => 1
theorem xcat_eq (g : XG) (v : XV) : (xcv g v).category = xcat v := by
  rcases v with v | v | v <;> rfl
def xcs (l : List XV) : Nat := (l.map xcat).sum
theorem xcs_eq (g : XG) (l : List XV) : ((l.map (xcv g)).map fun v => v.category).sum = xcs l := by
  induction l with
  | nil => rfl
  | cons a t ih => simp only [List.map_cons, List.sum_cons, xcs, xcat_eq] at ih ⊢; rw [ih]
def xfield (f : Nat) : List XK := [.inl (1, [none, none, none, none, some (some (f + 1)), some (some (f + 2)), some (some (f + 3)), some (some (f + 4)), some (some (f + 5)), some (some (f + 6)), some (some (f + 7))]), .inr (0, 8), .inr (0, 8), .inr (0, 6), .inr (0, 6), .inr (0, 6), .inr (0, 6), .inr (0, 6)]
def xsh : List XK := [
  .inl (6, [some (some 1), some (some 5), some (some 8), some (some 7), some (some 40), some (some 43), some (some 47), none]),
  .inl (5, [some (some 2), some (some 3), some (some 4)]), .inr (0, 8), .inr (0, 8), .inr (0, 320),
  .inl (4, [some (some 6), none, some (some 16), none, none, none, none, none, none]), .inr (1, 400),
  .inr (3, 2)] ++ xfield 8 ++ xfield 16 ++ xfield 24 ++ xfield 32 ++ [
  .inl (3, [some (some 41), some (some 42), none, none]), .inr (0, 24), .inr (0, 24),
  .inl (2, [some (some 44), some (some 45), none, some (some 46)]), .inr (0, 256), .inr (0, 256), .inr (0, 4),
  .inl (0, [some (some 48), none]), .inr (0, 16),
  .inl (7, [some (some 50), some (some 51), some (some 52), none, none, some (some 53), none, none, none, some none, none, none, none, some (some 54), some (some 55), some (some 56), some (some 57), none, some (some 58), some (some 59), none, some (some 60), some (some 61), some (some 62)]),
  .inr (0, 8), .inr (0, 8), .inr (0, 320), .inr (0, 400), .inr (0, 168), .inr (0, 168), .inr (0, 336), .inr (2, 2), .inr (0, 168), .inr (0, 6), .inr (0, 16), .inr (0, 40), .inr (0, 8)]
theorem xsh_len : xsh.length = 63 := rfl
/-- the cells that an array of cells holds -/
def xrf (_k j : Nat) : Nat := 24 + 8 * j
def xfv (g : XG) (M : XM) (k j : Nat) : Option (Option Nat) → Value
  | none => .int (M.1 k j)
  | some none => .long (M.2 k j)
  | some (some r) => .ref (g.2.1 r)
def xce (g : XG) (M : XM) (k : Nat) : XK → va_E
  | .inl (ci, ks) => .inr (ci, ks.mapIdx (fun j f => xfv g M k j f))
  | .inr (t, n) => .inl (g.2.2.1 t, n, if t = 3 then .inr (.inr (.inr (.inr (fun j => some (g.2.1 (xrf k j)))))) else .inl (M.1 k))
def xws (g : XG) (M : XM) : va_W := xsh.mapIdx (fun k s => (g.2.1 k, xce g M k s))
theorem xws_at {g : XG} {M : XM} {k : Nat} {s : XK} (h : xsh[k]? = some s) : (xws g M)[k]? = some (g.2.1 k, xce g M k s) := by
  simp [xws, List.getElem?_mapIdx, h]
theorem xce_congr {g : XG} {M M' : XM} {k : Nat} (s : XK) (h : M'.1 k = M.1 k ∧ M'.2 k = M.2 k) : xce g M' k s = xce g M k s := by
  have e : ∀ j f, xfv g M' k j f = xfv g M k j f := by
    intro j f
    rcases f with _ | _ | r
    · simp [xfv, h.1]
    · simp [xfv, h.2]
    · rfl
  rcases s with ⟨ci, ks⟩ | ⟨t, n⟩
  · simp only [xce, e]
  · simp only [xce, h.1]
theorem xws_set {g : XG} {M M' : XM} {k : Nat} {s : XK} (h : xsh[k]? = some s) (hM : ∀ a, a ≠ k → M'.1 a = M.1 a ∧ M'.2 a = M.2 a) :
    (xws g M).set k (g.2.1 k, xce g M' k s) = xws g M' := by
  apply List.ext_getElem?
  intro i
  by_cases hi : i = k
  · subst hi
    have hl : i < (xws g M).length := by
      have := (List.getElem?_eq_some_iff.mp h).1
      simpa [xws] using this
    rw [List.getElem?_set_self hl, xws_at h]
  · rw [List.getElem?_set_ne (fun q => hi q.symm)]
    simp only [xws, List.getElem?_mapIdx]
    cases hs : xsh[i]? with
    | none => rfl
    | some q => simp only [Option.map_some]; rw [xce_congr q (hM i hi)]
/-- the memory with a cell's numbers replaced -/
def xum (M : XM) (k : Nat) (f : Nat → Int32) : XM := (fun a => if a = k then f else M.1 a, M.2)
/-- with one number replaced -/
def xup (M : XM) (k j : Nat) (x : Int32) : XM := xum M k (upd (M.1 k) j x)
def xul (M : XM) (k j : Nat) (x : Int64) : XM := (M.1, fun a => if a = k then (fun b => if b = j then x else M.2 k b) else M.2 a)
theorem xum_self (M : XM) (k : Nat) (f : Nat → Int32) : (xum M k f).1 k = f := by simp [xum]
theorem xum_ne (M : XM) {k a : Nat} (f : Nat → Int32) (h : a ≠ k) : (xum M k f).1 a = M.1 a := by simp [xum, h]
theorem xws_setI {g : XG} {M : XM} {k j ci : Nat} {ks : List (Option (Option Nat))} {x : Int32} (h : xsh[k]? = some (.inl (ci, ks))) (hj : ks[j]? = some none) :
    (xws g M).set k (g.2.1 k, .inr (ci, (ks.mapIdx (fun j f => xfv g M k j f)).set j (.int x))) = xws g (xup M k j x) := by
  rw [← xws_set (M := M) (M' := xup M k j x) h (fun a ha => ⟨xum_ne _ _ ha, rfl⟩)]
  congr 1
  show (g.2.1 k, (Sum.inr (ci, _) : va_E)) = (g.2.1 k, Sum.inr (ci, _))
  congr 3
  apply List.ext_getElem?
  intro i
  by_cases hi : i = j
  · subst hi
    have hl : i < (ks.mapIdx (fun j f => xfv g M k j f)).length := by
      have := (List.getElem?_eq_some_iff.mp hj).1
      simpa using this
    rw [List.getElem?_set_self hl, List.getElem?_mapIdx, hj]
    simp [xfv, xup, xum, upd]
  · rw [List.getElem?_set_ne (fun q => hi q.symm), List.getElem?_mapIdx, List.getElem?_mapIdx]
    cases ks[i]? with
    | none => rfl
    | some f =>
      rcases f with _ | _ | r
      · simp [xfv, xup, xum, upd, hi]
      · rfl
      · rfl
theorem xws_setL {g : XG} {M : XM} {k j ci : Nat} {ks : List (Option (Option Nat))} {x : Int64} (h : xsh[k]? = some (.inl (ci, ks))) (hj : ks[j]? = some (some none)) :
    (xws g M).set k (g.2.1 k, .inr (ci, (ks.mapIdx (fun j f => xfv g M k j f)).set j (.long x))) = xws g (xul M k j x) := by
  rw [← xws_set (M := M) (M' := xul M k j x) h (fun a ha => ⟨rfl, by simp [xul, ha]⟩)]
  congr 1
  show (g.2.1 k, (Sum.inr (ci, _) : va_E)) = (g.2.1 k, Sum.inr (ci, _))
  congr 3
  apply List.ext_getElem?
  intro i
  by_cases hi : i = j
  · subst hi
    have hl : i < (ks.mapIdx (fun j f => xfv g M k j f)).length := by
      have := (List.getElem?_eq_some_iff.mp hj).1
      simpa using this
    rw [List.getElem?_set_self hl, List.getElem?_mapIdx, hj]
    simp [xfv, xul]
  · rw [List.getElem?_set_ne (fun q => hi q.symm), List.getElem?_mapIdx, List.getElem?_mapIdx]
    cases ks[i]? with
    | none => rfl
    | some f =>
      rcases f with _ | _ | r
      · rfl
      · simp [xfv, xul, hi]
      · rfl
theorem xws_setA {g : XG} {M : XM} {k t n : Nat} {f : Nat → Int32} (h : xsh[k]? = some (.inr (t, n))) (ht : t ≠ 3) :
    (xws g M).set k (g.2.1 k, .inl (g.2.2.1 t, n, .inl f)) = xws g (xum M k f) := by
  rw [← xws_set (M := M) (M' := xum M k f) h (fun a ha => ⟨xum_ne _ _ ha, rfl⟩)]
  simp [xce, ht, xum]
theorem xws_atA {g : XG} {M : XM} {k t n : Nat} (h : xsh[k]? = some (.inr (t, n))) (ht : t ≠ 3) : (xws g M)[k]? = some (g.2.1 k, .inl (g.2.2.1 t, n, .inl (M.1 k))) := by
  rw [xws_at h]; simp [xce, ht]
def xtys (g : XG) : List (ClassId × FieldType) := [(g.2.2.1 0, .int), (g.2.2.1 1, .byte), (g.2.2.1 2, .boolean), (g.2.2.1 3, .object "LieSlides$Field")]
def xA (g : XG) : Nat → Prop := fun q => g.2.2.2.1 ≤ q
/-! what is read and never written: three static tables (cells 1000 ..), the script (1003), nine texts (1100 .., their bytes 1200 ..) -/
def xtab (j i : Nat) : Int32 := match j with
  | 0 => [0, 0, 0, 2, 2, 4].getD i 0
  | 1 => [10, 13, 11, 12, 0, 14].getD i 0
  | _ => [20, 23, 21, 0, 22, 24].getD i 0
def xtc (j : Nat) : String := match j with
  | 0 => "LieSlides$Kinds"
  | _ => "LieSlides$Bodies"
def xtn (j : Nat) : String := match j with
  | 0 => "PARENTS"
  | 1 => "SIZE_BODIES"
  | _ => "MARK_BODIES"
def xtx (i : Nat) : String := ["facts", "wall", "path", "house", "judge", "inn", "mill", "shop", "hut"].getD i ""
def xsx (i : Nat) : Nat := [63, 86, 92, 97, 114, 118, 120, 122, 124].getD i 0
def xby : List (List Int32) := [[102, 97, 99, 116, 115], [119, 97, 108, 108], [112, 97, 116, 104], [104, 111, 117, 115, 101], [106, 117, 100, 103, 101], [105, 110, 110], [109, 105, 108, 108], [115, 104, 111, 112], [104, 117, 116]]
def xln : List Nat := [5, 4, 4, 5, 5, 3, 4, 4, 3]
def XRO (g : XG) (U : State) : Prop :=
  (∀ j, j < 3 → va_T .int (g.2.1 (1000 + j)) 6 (fun i => .int (xtab j i)) (xA g) U U.heap ∧ va_Z (xtc j) (xtn j) "[I" (.ref (g.2.1 (1000 + j))) (xA g) U U.heap) ∧
  va_T .int (g.2.1 1003) g.2.2.2.2.1 (fun i => .int (g.2.2.2.2.2 i)) (xA g) U U.heap ∧
  va_Z "java/lang/String" "COMPACT_STRINGS" "Z" (.int 1) (xA g) U U.heap ∧
  vk_S 9 xln xby (fun i => g.2.1 (1100 + i)) (fun i => g.2.1 (1200 + i)) (xA g) U U.heap ∧
  ∀ i, i < 9 → vk_R "LieSlides$Reader" (xsx i) (xtx i) (g.2.1 (1100 + i)) U
theorem XRO.move {g : XG} {s U : State} (h : XRO g s) (hW : s.WarmedH U.vm) (hq : ∀ a : Nat, a < s.heap.size → ¬ xA g a → U.heap[a]? = s.heap[a]?) : XRO g U := by
  obtain ⟨h1, h2, h3, h4, h5⟩ := h
  exact ⟨fun j hj => ⟨va_T.moved hW.alike ((h1 j hj).1.kept hq), va_Z.moved hW.alike ((h1 j hj).2.kept hq)⟩, va_T.moved hW.alike (h2.kept hq), va_Z.moved hW.alike (h3.kept hq), vk_S.moved hW.alike (h4.kept hq), fun i hi => vk_R.warm hW (h5 i hi)⟩
theorem XRO.call {g : XG} {U : State} (h : XRO g U) (f : JFrame) (mk : MethodId) (a : Array Value) : XRO g (U.calling f mk a) := by
  obtain ⟨h1, h2, h3, h4, h5⟩ := h
  have r : U.vm.Alike (U.calling f mk a).vm := Vm.Alike.refl U.vm
  exact ⟨fun j hj => ⟨va_T.moved r (h1 j hj).1, va_Z.moved r (h1 j hj).2⟩, va_T.moved r h2, va_Z.moved r h3, vk_S.moved r h4, fun i hi => vk_R.same (u := U) rfl (h5 i hi)⟩
/-! the words of the tables that stay good -/
def xTB : List Cond := lw_tbl.filter goodWord
theorem xTB_of {w : Cond} (h : w ∈ lw_tbl) (hg : goodWord w = true) : w ∈ xTB := List.mem_filter.mpr ⟨h, hg⟩
theorem xTB_at {w : Cond} (i : Nat) (h : lw_tbl[i]? = some w) (hg : goodWord w = true) : w ∈ xTB := xTB_of (List.mem_of_getElem? h) hg
def xmw (y : XY) : List Cond := Cond.code y.1 y.2.1 y.2.2.1 y.2.2.2 :: xTB
/-! locals -/
def xlp (g : XG) : Nat → List (Option XV) → List (Nat × Value)
  | _, [] => []
  | i, none :: t => xlp g (i + 1) t
  | i, some v :: t => (i, xcv g v) :: xlp g (i + 1) t
theorem xlp_mem {g : XG} {q : Nat × Value} : ∀ {lx : List (Option XV)} {n : Nat}, q ∈ xlp g n lx ↔ ∃ i x, lx[i]? = some (some x) ∧ q = (n + i, xcv g x)
  | [], n => by simp [xlp]
  | none :: t, n => by
    rw [xlp, xlp_mem (lx := t)]
    constructor
    · rintro ⟨i, x, h, rfl⟩
      exact ⟨i + 1, x, by simpa using h, by rw [Nat.add_right_comm, Nat.add_assoc]⟩
    · rintro ⟨i, x, h, rfl⟩
      cases i with
      | zero => simp at h
      | succ i => exact ⟨i, x, by simpa using h, by rw [Nat.add_right_comm, Nat.add_assoc]⟩
  | some v :: t, n => by
    rw [xlp, List.mem_cons, xlp_mem (lx := t)]
    constructor
    · rintro (rfl | ⟨i, x, h, rfl⟩)
      · exact ⟨0, v, rfl, rfl⟩
      · exact ⟨i + 1, x, by simpa using h, by rw [Nat.add_right_comm, Nat.add_assoc]⟩
    · rintro ⟨i, x, h, rfl⟩
      cases i with
      | zero => simp at h; subst h; exact Or.inl rfl
      | succ i => exact Or.inr ⟨i, x, by simpa using h, by rw [Nat.add_right_comm, Nat.add_assoc]⟩
def XL (g : XG) (nL : Nat) (lx : List (Option XV)) (ls : Array Slot) : Prop := lv_has ls nL (xlp g 0 lx)
theorem XL.at {g : XG} {nL i : Nat} {lx : List (Option XV)} {ls : Array Slot} {v : XV} (h : XL g nL lx ls) (hi : lx[i]? = some (some v)) : ls[i]? = some (.val (xcv g v)) :=
  h.2.2 (i, xcv g v) (xlp_mem.mpr ⟨i, v, hi, by rw [Nat.zero_add]⟩)
/-- no long stands just ahead of place i -/
def xok1 (lx : List (Option XV)) (i : Nat) : Bool := match i with
  | 0 => true
  | j + 1 => match lx[j]? with
    | some (some (.inr (.inl _))) => false
    | _ => true
theorem XL.set {g : XG} {nL i : Nat} {lx : List (Option XV)} {ls : Array Slot} {v : XV} (hok : xok1 lx i = true)
    (h : lv_has ls nL ((i, xcv g v) :: (xlp g 0 lx).filter (fun q => !(q.1 == i) && !(q.1 + 1 == i && q.2.category == 2)))) : XL g nL (lx.set i (some v)) ls := by
  refine ⟨h.1, h.2.1, fun q hq => ?_⟩
  obtain ⟨j, x, hj, rfl⟩ := xlp_mem.mp hq
  rw [Nat.zero_add] at hq ⊢
  by_cases e : j = i
  · subst e
    have hl : j < lx.length := by
      have := (List.getElem?_eq_some_iff.mp hj).1
      simpa using this
    rw [List.getElem?_set_self hl] at hj
    cases hj
    exact h.2.2 _ List.mem_cons_self
  · rw [List.getElem?_set_ne (fun q => e q.symm)] at hj
    refine h.2.2 (j, xcv g x) (List.mem_cons_of_mem _ (List.mem_filter.mpr ⟨xlp_mem.mpr ⟨j, x, hj, by rw [Nat.zero_add]⟩, ?_⟩))
    simp only [Bool.and_eq_true, Bool.not_eq_true', beq_eq_false_iff_ne, ne_eq, Bool.and_eq_false_iff, e, not_false_iff, true_and]
    by_cases e2 : j + 1 = i
    · right
      subst e2
      simp only [xok1, hj] at hok
      rw [xcat_eq]
      rcases x with x | x | x
      · simp [xcat]
      · simp at hok
      · simp [xcat]
    · exact Or.inl e2
def xent (n : Nat) (vs : List XV) : List (Option XV) := (vs.flatMap fun v => match v with
  | .inr (.inl x) => [some (xl x), none]
  | v => [some v]) ++ List.replicate (n - xcs vs) none
theorem xent_args {g : XG} (k : Nat) : ∀ (vs : List XV) (n : Nat), ∀ q ∈ xlp g n ((vs.flatMap fun v => match v with
  | .inr (.inl x) => [some (xl x), none]
  | v => [some v]) ++ List.replicate k none), q ∈ lv_args n (vs.map (xcv g))
  | [], n, q, h => by
    obtain ⟨i, x, hi, -⟩ := xlp_mem.mp h
    simp only [List.flatMap_nil, List.nil_append] at hi
    have := List.eq_of_mem_replicate (List.mem_of_getElem? hi)
    cases this
  | v :: t, n, q, h => by
    rcases v with v | v | v
    · simp only [List.flatMap_cons, List.cons_append, List.nil_append, xlp] at h
      simp only [List.map_cons, lv_args, xcv, Value.category]
      rcases List.mem_cons.mp h with rfl | h
      · exact List.mem_cons_self
      · exact List.mem_cons_of_mem _ (xent_args k t (n + 1) q h)
    · simp only [List.flatMap_cons, List.cons_append, List.nil_append, xlp] at h
      simp only [List.map_cons, lv_args, xcv, Value.category]
      rcases List.mem_cons.mp h with rfl | h
      · exact List.mem_cons_self
      · exact List.mem_cons_of_mem _ (xent_args k t (n + 2) q h)
    · simp only [List.flatMap_cons, List.cons_append, List.nil_append, xlp] at h
      simp only [List.map_cons, lv_args, xcv, Value.category]
      rcases List.mem_cons.mp h with rfl | h
      · exact List.mem_cons_self
      · exact List.mem_cons_of_mem _ (xent_args k t (n + 1) q h)
theorem xsl_len (g : XG) : ∀ vs : List XV, (lg_sl (vs.map (xcv g))).length = xcs vs
  | [] => rfl
  | v :: t => by
    have ih := xsl_len g t
    simp only [lg_sl, List.map_cons, List.flatMap_cons, List.length_append, xcs, List.sum_cons, xcat_eq] at ih ⊢
    rw [ih]
    rcases v with v | v | v <;> rfl
/-! the machine within a method; the heap; how it ends -/
def XAt (g : XG) (y : XY) (p : Program) (s : State) (m : MethodId) (args : Array Value) (meth : Method) (c : Code) : Prop :=
  p.tables.exec = Jvm.exec ∧ c.code = y.2.1 ∧ meth.sig.returnType = y.2.2.2 ∧ c.maxLocals = y.2.2.1 ∧ s.vm.findClass y.1.cls = some m.cls ∧ (∀ w ∈ xTB, w.before args s = true) ∧ meth.locks = false ∧ va_K g.1 vwCl (xtys g) s ∧ XRO g s
def XRm (d : Nat) (R : Room) (cells slots : Nat) : Prop := d ≤ R.frames ∧ 60 * d ≤ R.locals ∧ cells ≤ R.cells ∧ slots ≤ R.slots
def XH (g : XG) (M : XM) (s : State) (H : Heap) (locs : List Loc) : Prop := va_P g.1 vwCl (xws g M) H ∧ va_D (xA g) (xws g M) ∧ va_S (xA g) s.heap H locs
def XRet (y : XY) (pc : Nat) (r : Option XV) : Prop := match r with
  | none => decode y.2.1 pc = .ok (.return_, 1) ∧ y.2.2.2 = none
  | some (.inl v) => decode y.2.1 pc = .ok (.ireturn, 1) ∧ ∃ ty, y.2.2.2 = some ty ∧ narrow ty (.int v) = .int v
  | some (.inr (.inl _)) => False
  | some (.inr (.inr _)) => decode y.2.1 pc = .ok (.areturn, 1) ∧ ∃ rt, y.2.2.2 = some rt ∧ ((∃ n, rt = .object n) ∨ ∃ t, rt = .array t)
/-- FROM HERE: method y at pc, with these locals, stack and memory (and d frames of room), ends with Q -/
def XW (g : XG) (l : Launch) (y : XY) (d pc : Nat) (lx : List (Option XV)) (st : List XV) (M : XM) (Q : Option XV → XM → Prop) : Prop :=
  ∀ (p : Program) (e : Env) (R : Room) (s : State) (m : MethodId) (args : Array Value) (below : List Frame) (meth : Method) (c : Code) (H : Heap) (locs : List Loc) (cells slots : Nat) (Qf : State → Prop) (ls : Array Slot),
    XAt g y p s m args meth c → XRm d R cells slots → XH g M s H locs → XL g y.2.2.1 lx ls →
    (∀ (r : Option XV) (M' : XM) (H' : Heap) (locs' : List Loc) (pc' : Nat) (ls' : Array Slot), Q r M' → XH g M' s H' locs' → XRet y pc' r → W p l e R s m args below meth c H' locs' cells slots Qf (F0 m pc' ls' (r.toList.map (xcv g)))) →
    W p l e R s m args below meth c H locs cells slots Qf (F0 m pc ls (st.map (xcv g)))
def xroom (d : Nat) : Room := { frames := d, cells := 0, slots := 0, locals := 60 * d }
def XPc (g : XG) (as : List XV) (M : XM) : Array Value → State → Prop := fun a U => a = (as.map (xcv g)).toArray ∧ va_K g.1 vwCl (xtys g) U ∧ va_P g.1 vwCl (xws g M) U.heap ∧ va_D (xA g) (xws g M) ∧ XRO g U
def XQc (g : XG) (Q : Option XV → XM → Prop) : Array Value → State → Outcome → State → Prop := fun _ st o t => (∃ r M', o = .returned (r.map (xcv g)) ∧ Q r M' ∧ va_P g.1 vwCl (xws g M') t.heap ∧ va_D (xA g) (xws g M')) ∧ va_F (xA g) st t
/-- what the tables say of a method: its code; n arguments -/
def XOk (z : XY) (n : Nat) : Prop := Cond.code z.1 z.2.1 z.2.2.1 z.2.2.2 ∈ lw_tbl ∧ plainName z.1.cls = true ∧ (z.1.cls ≠ "java/lang/invoke/MethodHandle" ∧ z.1.cls ≠ "java/lang/invoke/VarHandle" ∧ (parseMethodDescriptor z.1.desc).map (fun d => d.parameters.length) = some n) ∧ z.2.2.1 ≤ 40
theorem xmet {g : XG} {l : Launch} {z : XY} {n d : Nat} {as : List XV} {M : XM} {Q : Option XV → XM → Prop} (hz : XOk z n) (hn : Nat.ble (xcs as) z.2.2.1 = true) (h : XW g l z d 0 (xent z.2.2.1 as) [] M Q) :
    Met l z.1 (xmw z) (xroom d) (XPc g as M) (XQc g Q) 0 0 (xA g) := by
  refine Met.ofW (cc := z.2.1) (maxL := z.2.2.1) (ret := z.2.2.2) hz.2.1 rfl ?_
  intro p e s m args below meth c s₁ B hml hv
  obtain ⟨rfl, hK, hP, hD, hRO⟩ := hv
  have hts := atoms_spec (ws := xmw z) B.pre
  have hlocks : meth.locks = false := B.notSynchronized
  have hl := lv_entry (as.map (xcv g)) (n := z.2.2.1) (by rw [xsl_len]; exact Nat.le_of_ble_eq_true hn)
  rw [lg_entry_eq]
  generalize (lg_sl (as.map (xcv g)) ++ List.replicate (z.2.2.1 - (lg_sl (as.map (xcv g))).length) Slot.unset).toArray = ls at hl ⊢
  refine h p e _ s m _ below meth c s.heap [] 0 0 _ ls ⟨B.exec, B.bytes, B.returns, hml, findClass_of_methodNamed B.named, fun w hw => hts w (List.mem_cons_of_mem _ hw), hlocks, hK, hRO⟩ ⟨Nat.le_refl _, Nat.le_refl _, Nat.le_refl _, Nat.le_refl _⟩ ⟨hP, hD, va_S.rf⟩ ⟨hl.1, hl.2.1, fun q hq => hl.2.2 q (xent_args _ as 0 q hq)⟩ ?_
  intro r M' H' locs' pc' ls' hQ hH hr
  rcases r with _ | v | v | v
  · obtain ⟨h1, h2⟩ := hr
    exact W.vret B.exec B.bytes (B.returns.trans h2) (fun t ht hW => ⟨⟨none, M', rfl, hQ, by rw [ht]; exact hH.1, hH.2.1⟩, hH.2.2.F ht⟩) hH.2.2.2.2 h1
  · obtain ⟨h1, ty, h2, h3⟩ := hr
    exact W.zret B.exec B.bytes (B.returns.trans h2) h3 (fun t ht hW => ⟨⟨some (.inl v), M', rfl, hQ, by rw [ht]; exact hH.1, hH.2.1⟩, hH.2.2.F ht⟩) hH.2.2.2.2 h1
  · exact hr.elim
  · obtain ⟨h1, rt, h2, h3⟩ := hr
    exact W.aret B.exec B.bytes (B.returns.trans h2) h3 (Or.inr ⟨_, rfl⟩) (fun t ht hW => ⟨⟨some (.inr (.inr v)), M', rfl, hQ, by rw [ht]; exact hH.1, hH.2.1⟩, hH.2.2.F ht⟩) hH.2.2.2.2 h1
end
section
section XRULES
variable {g : XG} {l : Launch} {y : XY} {d pc : Nat} {lx : List (Option XV)} {st : List XV} {M : XM} {Q : Option XV → XM → Prop}
theorem xw_iconst {n : Int} {v : Int32} (hd : decode y.2.1 pc = .ok (.iconst n, 1)) (hv : Int32.ofInt n = v) (h : XW g l y d (pc + 1) lx (xi v :: st) M Q) : XW g l y d pc lx (st) M Q := by
  intro p e R s m args below meth c H locs cells slots Qf ls hA hR hH hL hret
  exact lv_iconst hA.1 hA.2.1 hd hv (h p e R s m args below meth c H locs cells slots Qf ls hA hR hH hL hret)
theorem xw_bipush {n : Int} {v : Int32} (hd : decode y.2.1 pc = .ok (.bipush n, 2)) (hv : (Int8.ofInt n).toInt32 = v) (h : XW g l y d (pc + 2) lx (xi v :: st) M Q) : XW g l y d pc lx (st) M Q := by
  intro p e R s m args below meth c H locs cells slots Qf ls hA hR hH hL hret
  exact lv_bipush hA.1 hA.2.1 hd hv (h p e R s m args below meth c H locs cells slots Qf ls hA hR hH hL hret)
theorem xw_sipush {n : Int} {v : Int32} (hd : decode y.2.1 pc = .ok (.sipush n, 3)) (hv : (Int16.ofInt n).toInt32 = v) (h : XW g l y d (pc + 3) lx (xi v :: st) M Q) : XW g l y d pc lx (st) M Q := by
  intro p e R s m args below meth c H locs cells slots Qf ls hA hR hH hL hret
  exact lv_sipush hA.1 hA.2.1 hd hv (h p e R s m args below meth c H locs cells slots Qf ls hA hR hH hL hret)
theorem xw_lconst {n : Fin 2} {v : Int64} (hd : decode y.2.1 pc = .ok (.lconst n, 1)) (hv : Int64.ofNat (n : Nat) = v) (h : XW g l y d (pc + 1) lx (xl v :: st) M Q) : XW g l y d pc lx (st) M Q := by
  intro p e R s m args below meth c H locs cells slots Qf ls hA hR hH hL hret
  exact lv_lconst hA.1 hA.2.1 hd hv (h p e R s m args below meth c H locs cells slots Qf ls hA hR hH hL hret)
theorem xw_ldc {n : Nat} {v : Int32} (hd : decode y.2.1 pc = .ok (.ldc n, 2)) (hc : Cond.constant y.1.cls n v ∈ xTB) (h : XW g l y d (pc + 2) lx (xi v :: st) M Q) : XW g l y d pc lx (st) M Q := by
  intro p e R s m args below meth c H locs cells slots Qf ls hA hR hH hL hret
  exact lv_ldc hA.1 hA.2.1 hA.2.2.2.2.1 (hA.2.2.2.2.2.1 _ hc) hd (h p e R s m args below meth c H locs cells slots Qf ls hA hR hH hL hret)
theorem xw_ldcw {n : Nat} {v : Int32} (hd : decode y.2.1 pc = .ok (.ldc_w n, 3)) (hc : Cond.constant y.1.cls n v ∈ xTB) (h : XW g l y d (pc + 3) lx (xi v :: st) M Q) : XW g l y d pc lx (st) M Q := by
  intro p e R s m args below meth c H locs cells slots Qf ls hA hR hH hL hret
  exact lv_ldcw hA.1 hA.2.1 hA.2.2.2.2.1 (hA.2.2.2.2.2.1 _ hc) hd (h p e R s m args below meth c H locs cells slots Qf ls hA hR hH hL hret)
theorem xw_ldc2 {n : Nat} {v : Int64} (hd : decode y.2.1 pc = .ok (.ldc2_w n, 3)) (hc : Cond.constantLong y.1.cls n v ∈ xTB) (h : XW g l y d (pc + 3) lx (xl v :: st) M Q) : XW g l y d pc lx (st) M Q := by
  intro p e R s m args below meth c H locs cells slots Qf ls hA hR hH hL hret
  exact lv_ldc2 hA.1 hA.2.1 hA.2.2.2.2.1 (hA.2.2.2.2.2.1 _ hc) hd (h p e R s m args below meth c H locs cells slots Qf ls hA hR hH hL hret)
theorem xw_iload_n {k : Fin 4} {x : Int32} (hd : decode y.2.1 pc = .ok (.iload_n k, 1)) (hl : lx[(k : Nat)]? = some (some (xi x))) (h : XW g l y d (pc + 1) lx (xi x :: st) M Q) : XW g l y d pc lx (st) M Q := by
  intro p e R s m args below meth c H locs cells slots Qf ls hA hR hH hL hret
  exact lv_iload_n hA.1 hA.2.1 hd rfl (hL.at hl) (h p e R s m args below meth c H locs cells slots Qf ls hA hR hH hL hret)
theorem xw_iload {i : Nat} {x : Int32} (hd : decode y.2.1 pc = .ok (.iload i, 2)) (hl : lx[i]? = some (some (xi x))) (h : XW g l y d (pc + 2) lx (xi x :: st) M Q) : XW g l y d pc lx (st) M Q := by
  intro p e R s m args below meth c H locs cells slots Qf ls hA hR hH hL hret
  exact lv_iload hA.1 hA.2.1 hd (hL.at hl) (h p e R s m args below meth c H locs cells slots Qf ls hA hR hH hL hret)
theorem xw_lload_n {k : Fin 4} {x : Int64} (hd : decode y.2.1 pc = .ok (.lload_n k, 1)) (hl : lx[(k : Nat)]? = some (some (xl x))) (h : XW g l y d (pc + 1) lx (xl x :: st) M Q) : XW g l y d pc lx (st) M Q := by
  intro p e R s m args below meth c H locs cells slots Qf ls hA hR hH hL hret
  exact lv_lload_n hA.1 hA.2.1 hd rfl (hL.at hl) (h p e R s m args below meth c H locs cells slots Qf ls hA hR hH hL hret)
theorem xw_lload {i : Nat} {x : Int64} (hd : decode y.2.1 pc = .ok (.lload i, 2)) (hl : lx[i]? = some (some (xl x))) (h : XW g l y d (pc + 2) lx (xl x :: st) M Q) : XW g l y d pc lx (st) M Q := by
  intro p e R s m args below meth c H locs cells slots Qf ls hA hR hH hL hret
  exact lv_lload hA.1 hA.2.1 hd (hL.at hl) (h p e R s m args below meth c H locs cells slots Qf ls hA hR hH hL hret)
theorem xw_aload_n {k : Fin 4} {x : Nat} (hd : decode y.2.1 pc = .ok (.aload_n k, 1)) (hl : lx[(k : Nat)]? = some (some (xr x))) (h : XW g l y d (pc + 1) lx (xr x :: st) M Q) : XW g l y d pc lx (st) M Q := by
  intro p e R s m args below meth c H locs cells slots Qf ls hA hR hH hL hret
  exact lv_aload_n hA.1 hA.2.1 hd rfl (hL.at hl) (h p e R s m args below meth c H locs cells slots Qf ls hA hR hH hL hret)
theorem xw_aload {i : Nat} {x : Nat} (hd : decode y.2.1 pc = .ok (.aload i, 2)) (hl : lx[i]? = some (some (xr x))) (h : XW g l y d (pc + 2) lx (xr x :: st) M Q) : XW g l y d pc lx (st) M Q := by
  intro p e R s m args below meth c H locs cells slots Qf ls hA hR hH hL hret
  exact lv_aload hA.1 hA.2.1 hd (hL.at hl) (h p e R s m args below meth c H locs cells slots Qf ls hA hR hH hL hret)
theorem xw_istore_n {k : Fin 4} {x : Int32} (hd : decode y.2.1 pc = .ok (.istore_n k, 1)) (hn : Nat.blt (k : Nat) y.2.2.1 = true) (hok : xok1 lx (k : Nat) = true) (h : XW g l y d (pc + 1) (lx.set (k : Nat) (some (xi x))) st M Q) : XW g l y d pc lx (xi x :: st) M Q := by
  intro p e R s m args below meth c H locs cells slots Qf ls hA hR hH hL hret
  exact lv_istore_n hA.1 hA.2.1 hd rfl hL (Nat.le_of_ble_eq_true hn) rfl (fun ls' hl' => h p e R s m args below meth c H locs cells slots Qf ls' hA hR hH (XL.set hok hl') hret)
theorem xw_istore {i : Nat} {x : Int32} (hd : decode y.2.1 pc = .ok (.istore i, 2)) (hn : Nat.blt i y.2.2.1 = true) (hok : xok1 lx i = true) (h : XW g l y d (pc + 2) (lx.set i (some (xi x))) st M Q) : XW g l y d pc lx (xi x :: st) M Q := by
  intro p e R s m args below meth c H locs cells slots Qf ls hA hR hH hL hret
  exact lv_istore hA.1 hA.2.1 hd hL (Nat.le_of_ble_eq_true hn) rfl (fun ls' hl' => h p e R s m args below meth c H locs cells slots Qf ls' hA hR hH (XL.set hok hl') hret)
theorem xw_astore_n {k : Fin 4} {x : Nat} (hd : decode y.2.1 pc = .ok (.astore_n k, 1)) (hn : Nat.blt (k : Nat) y.2.2.1 = true) (hok : xok1 lx (k : Nat) = true) (h : XW g l y d (pc + 1) (lx.set (k : Nat) (some (xr x))) st M Q) : XW g l y d pc lx (xr x :: st) M Q := by
  intro p e R s m args below meth c H locs cells slots Qf ls hA hR hH hL hret
  exact lv_astore_n hA.1 hA.2.1 hd rfl hL (Nat.le_of_ble_eq_true hn) rfl (fun ls' hl' => h p e R s m args below meth c H locs cells slots Qf ls' hA hR hH (XL.set hok hl') hret)
theorem xw_astore {i : Nat} {x : Nat} (hd : decode y.2.1 pc = .ok (.astore i, 2)) (hn : Nat.blt i y.2.2.1 = true) (hok : xok1 lx i = true) (h : XW g l y d (pc + 2) (lx.set i (some (xr x))) st M Q) : XW g l y d pc lx (xr x :: st) M Q := by
  intro p e R s m args below meth c H locs cells slots Qf ls hA hR hH hL hret
  exact lv_astore hA.1 hA.2.1 hd hL (Nat.le_of_ble_eq_true hn) rfl (fun ls' hl' => h p e R s m args below meth c H locs cells slots Qf ls' hA hR hH (XL.set hok hl') hret)
theorem xw_iinc {i : Nat} {n : Int} {x v : Int32} (hd : decode y.2.1 pc = .ok (.iinc i n, 3)) (hv : Int32.ofInt n = v) (hn : Nat.blt i y.2.2.1 = true) (hok : xok1 lx i = true) (hl : lx[i]? = some (some (xi x))) (h : XW g l y d (pc + 3) (lx.set i (some (xi (x + v)))) st M Q) : XW g l y d pc lx st M Q := by
  subst hv
  intro p e R s m args below meth c H locs cells slots Qf ls hA hR hH hL hret
  have hm : (i, Value.int x) ∈ xlp g 0 lx := xlp_mem.mpr ⟨i, xi x, hl, by rw [Nat.zero_add]; rfl⟩
  obtain ⟨k, hk⟩ := List.getElem?_of_mem hm
  exact lv_iinc hA.1 hA.2.1 hd hL hk rfl (Nat.le_of_ble_eq_true hn) rfl (fun ls' hl' => h p e R s m args below meth c H locs cells slots Qf ls' hA hR hH (XL.set hok hl') hret)
theorem xw_iadd {x y2 : Int32} (hd : decode y.2.1 pc = .ok (.iadd, 1)) (h : XW g l y d (pc + 1) lx (xi (x + y2) :: st) M Q) : XW g l y d pc lx (xi y2 :: xi x :: st) M Q := by
  intro p e R s m args below meth c H locs cells slots Qf ls hA hR hH hL hret
  exact lv_iadd hA.1 hA.2.1 hd (h p e R s m args below meth c H locs cells slots Qf ls hA hR hH hL hret)
theorem xw_isub {x y2 : Int32} (hd : decode y.2.1 pc = .ok (.isub, 1)) (h : XW g l y d (pc + 1) lx (xi (x - y2) :: st) M Q) : XW g l y d pc lx (xi y2 :: xi x :: st) M Q := by
  intro p e R s m args below meth c H locs cells slots Qf ls hA hR hH hL hret
  exact lv_isub hA.1 hA.2.1 hd (h p e R s m args below meth c H locs cells slots Qf ls hA hR hH hL hret)
theorem xw_imul {x y2 : Int32} (hd : decode y.2.1 pc = .ok (.imul, 1)) (h : XW g l y d (pc + 1) lx (xi (x * y2) :: st) M Q) : XW g l y d pc lx (xi y2 :: xi x :: st) M Q := by
  intro p e R s m args below meth c H locs cells slots Qf ls hA hR hH hL hret
  exact lv_imul hA.1 hA.2.1 hd (h p e R s m args below meth c H locs cells slots Qf ls hA hR hH hL hret)
theorem xw_iand {x y2 : Int32} (hd : decode y.2.1 pc = .ok (.iand, 1)) (h : XW g l y d (pc + 1) lx (xi (x &&& y2) :: st) M Q) : XW g l y d pc lx (xi y2 :: xi x :: st) M Q := by
  intro p e R s m args below meth c H locs cells slots Qf ls hA hR hH hL hret
  exact lv_iand hA.1 hA.2.1 hd (h p e R s m args below meth c H locs cells slots Qf ls hA hR hH hL hret)
theorem xw_ior {x y2 : Int32} (hd : decode y.2.1 pc = .ok (.ior, 1)) (h : XW g l y d (pc + 1) lx (xi (x ||| y2) :: st) M Q) : XW g l y d pc lx (xi y2 :: xi x :: st) M Q := by
  intro p e R s m args below meth c H locs cells slots Qf ls hA hR hH hL hret
  exact lv_ior hA.1 hA.2.1 hd (h p e R s m args below meth c H locs cells slots Qf ls hA hR hH hL hret)
theorem xw_ixor {x y2 : Int32} (hd : decode y.2.1 pc = .ok (.ixor, 1)) (h : XW g l y d (pc + 1) lx (xi (x ^^^ y2) :: st) M Q) : XW g l y d pc lx (xi y2 :: xi x :: st) M Q := by
  intro p e R s m args below meth c H locs cells slots Qf ls hA hR hH hL hret
  exact lv_ixor hA.1 hA.2.1 hd (h p e R s m args below meth c H locs cells slots Qf ls hA hR hH hL hret)
theorem xw_ishl {x y2 : Int32} (hd : decode y.2.1 pc = .ok (.ishl, 1)) (h : XW g l y d (pc + 1) lx (xi (x <<< (y2 &&& 31)) :: st) M Q) : XW g l y d pc lx (xi y2 :: xi x :: st) M Q := by
  intro p e R s m args below meth c H locs cells slots Qf ls hA hR hH hL hret
  exact lv_ishl hA.1 hA.2.1 hd (h p e R s m args below meth c H locs cells slots Qf ls hA hR hH hL hret)
theorem xw_ishr {x y2 : Int32} (hd : decode y.2.1 pc = .ok (.ishr, 1)) (h : XW g l y d (pc + 1) lx (xi (x >>> (y2 &&& 31)) :: st) M Q) : XW g l y d pc lx (xi y2 :: xi x :: st) M Q := by
  intro p e R s m args below meth c H locs cells slots Qf ls hA hR hH hL hret
  exact lv_ishr hA.1 hA.2.1 hd (h p e R s m args below meth c H locs cells slots Qf ls hA hR hH hL hret)
theorem xw_iushr {x y2 : Int32} (hd : decode y.2.1 pc = .ok (.iushr, 1)) (h : XW g l y d (pc + 1) lx (xi ((x.toUInt32 >>> (y2.toUInt32 &&& Int32.toUInt32 31)).toInt32) :: st) M Q) : XW g l y d pc lx (xi y2 :: xi x :: st) M Q := by
  intro p e R s m args below meth c H locs cells slots Qf ls hA hR hH hL hret
  exact lv_iushr hA.1 hA.2.1 hd rfl (h p e R s m args below meth c H locs cells slots Qf ls hA hR hH hL hret)
theorem xw_idiv {x y2 : Int32} (hd : decode y.2.1 pc = .ok (.idiv, 1)) (hne : ¬ y2 = 0) (h : XW g l y d (pc + 1) lx (xi (x / y2) :: st) M Q) : XW g l y d pc lx (xi y2 :: xi x :: st) M Q := by
  intro p e R s m args below meth c H locs cells slots Qf ls hA hR hH hL hret
  exact lv_idiv hA.1 hA.2.1 hd hne (h p e R s m args below meth c H locs cells slots Qf ls hA hR hH hL hret)
theorem xw_irem {x y2 : Int32} (hd : decode y.2.1 pc = .ok (.irem, 1)) (hne : ¬ y2 = 0) (h : XW g l y d (pc + 1) lx (xi (x - x / y2 * y2) :: st) M Q) : XW g l y d pc lx (xi y2 :: xi x :: st) M Q := by
  intro p e R s m args below meth c H locs cells slots Qf ls hA hR hH hL hret
  exact lv_irem hA.1 hA.2.1 hd hne (h p e R s m args below meth c H locs cells slots Qf ls hA hR hH hL hret)
theorem xw_ineg {x : Int32} (hd : decode y.2.1 pc = .ok (.ineg, 1)) (h : XW g l y d (pc + 1) lx (xi (-x) :: st) M Q) : XW g l y d pc lx (xi x :: st) M Q := by
  intro p e R s m args below meth c H locs cells slots Qf ls hA hR hH hL hret
  exact lv_ineg hA.1 hA.2.1 hd (h p e R s m args below meth c H locs cells slots Qf ls hA hR hH hL hret)
theorem xw_ladd {x y2 : Int64} (hd : decode y.2.1 pc = .ok (.ladd, 1)) (h : XW g l y d (pc + 1) lx (xl (x + y2) :: st) M Q) : XW g l y d pc lx (xl y2 :: xl x :: st) M Q := by
  intro p e R s m args below meth c H locs cells slots Qf ls hA hR hH hL hret
  exact lv_ladd hA.1 hA.2.1 hd (h p e R s m args below meth c H locs cells slots Qf ls hA hR hH hL hret)
theorem xw_lsub {x y2 : Int64} (hd : decode y.2.1 pc = .ok (.lsub, 1)) (h : XW g l y d (pc + 1) lx (xl (x - y2) :: st) M Q) : XW g l y d pc lx (xl y2 :: xl x :: st) M Q := by
  intro p e R s m args below meth c H locs cells slots Qf ls hA hR hH hL hret
  exact lv_lsub hA.1 hA.2.1 hd (h p e R s m args below meth c H locs cells slots Qf ls hA hR hH hL hret)
theorem xw_lmul {x y2 : Int64} (hd : decode y.2.1 pc = .ok (.lmul, 1)) (h : XW g l y d (pc + 1) lx (xl (x * y2) :: st) M Q) : XW g l y d pc lx (xl y2 :: xl x :: st) M Q := by
  intro p e R s m args below meth c H locs cells slots Qf ls hA hR hH hL hret
  exact lv_lmul hA.1 hA.2.1 hd (h p e R s m args below meth c H locs cells slots Qf ls hA hR hH hL hret)
theorem xw_land {x y2 : Int64} (hd : decode y.2.1 pc = .ok (.land, 1)) (h : XW g l y d (pc + 1) lx (xl (x &&& y2) :: st) M Q) : XW g l y d pc lx (xl y2 :: xl x :: st) M Q := by
  intro p e R s m args below meth c H locs cells slots Qf ls hA hR hH hL hret
  exact lv_land hA.1 hA.2.1 hd (h p e R s m args below meth c H locs cells slots Qf ls hA hR hH hL hret)
theorem xw_lor {x y2 : Int64} (hd : decode y.2.1 pc = .ok (.lor, 1)) (h : XW g l y d (pc + 1) lx (xl (x ||| y2) :: st) M Q) : XW g l y d pc lx (xl y2 :: xl x :: st) M Q := by
  intro p e R s m args below meth c H locs cells slots Qf ls hA hR hH hL hret
  exact lv_lor hA.1 hA.2.1 hd (h p e R s m args below meth c H locs cells slots Qf ls hA hR hH hL hret)
theorem xw_lxor {x y2 : Int64} (hd : decode y.2.1 pc = .ok (.lxor, 1)) (h : XW g l y d (pc + 1) lx (xl (x ^^^ y2) :: st) M Q) : XW g l y d pc lx (xl y2 :: xl x :: st) M Q := by
  intro p e R s m args below meth c H locs cells slots Qf ls hA hR hH hL hret
  exact lv_lxor hA.1 hA.2.1 hd (h p e R s m args below meth c H locs cells slots Qf ls hA hR hH hL hret)
theorem xw_lshl {x : Int64} {y2 : Int32} (hd : decode y.2.1 pc = .ok (.lshl, 1)) (h : XW g l y d (pc + 1) lx (xl (x <<< (y2.toInt64 &&& 63)) :: st) M Q) : XW g l y d pc lx (xi y2 :: xl x :: st) M Q := by
  intro p e R s m args below meth c H locs cells slots Qf ls hA hR hH hL hret
  exact lv_lshl hA.1 hA.2.1 hd rfl (h p e R s m args below meth c H locs cells slots Qf ls hA hR hH hL hret)
theorem xw_lshr {x : Int64} {y2 : Int32} (hd : decode y.2.1 pc = .ok (.lshr, 1)) (h : XW g l y d (pc + 1) lx (xl (x >>> (y2.toInt64 &&& 63)) :: st) M Q) : XW g l y d pc lx (xi y2 :: xl x :: st) M Q := by
  intro p e R s m args below meth c H locs cells slots Qf ls hA hR hH hL hret
  exact lv_lshr hA.1 hA.2.1 hd rfl (h p e R s m args below meth c H locs cells slots Qf ls hA hR hH hL hret)
theorem xw_lcmp {x y2 : Int64} (hd : decode y.2.1 pc = .ok (.lcmp, 1)) (h : XW g l y d (pc + 1) lx (xi (lg_cmp x y2) :: st) M Q) : XW g l y d pc lx (xl y2 :: xl x :: st) M Q := by
  intro p e R s m args below meth c H locs cells slots Qf ls hA hR hH hL hret
  exact W.lcmp hA.1 hA.2.1 hd (h p e R s m args below meth c H locs cells slots Qf ls hA hR hH hL hret)
theorem xw_i2l {x : Int32} (hd : decode y.2.1 pc = .ok (.i2l, 1)) (h : XW g l y d (pc + 1) lx (xl x.toInt64 :: st) M Q) : XW g l y d pc lx (xi x :: st) M Q := by
  intro p e R s m args below meth c H locs cells slots Qf ls hA hR hH hL hret
  exact lv_i2l hA.1 hA.2.1 hd rfl (h p e R s m args below meth c H locs cells slots Qf ls hA hR hH hL hret)
theorem xw_l2i {x : Int64} (hd : decode y.2.1 pc = .ok (.l2i, 1)) (h : XW g l y d (pc + 1) lx (xi x.toInt32 :: st) M Q) : XW g l y d pc lx (xl x :: st) M Q := by
  intro p e R s m args below meth c H locs cells slots Qf ls hA hR hH hL hret
  exact lv_l2i hA.1 hA.2.1 hd rfl (h p e R s m args below meth c H locs cells slots Qf ls hA hR hH hL hret)
theorem xw_i2b {x : Int32} (hd : decode y.2.1 pc = .ok (.i2b, 1)) (h : XW g l y d (pc + 1) lx (xi x.toInt8.toInt32 :: st) M Q) : XW g l y d pc lx (xi x :: st) M Q := by
  intro p e R s m args below meth c H locs cells slots Qf ls hA hR hH hL hret
  exact lv_i2b hA.1 hA.2.1 hd rfl (h p e R s m args below meth c H locs cells slots Qf ls hA hR hH hL hret)
theorem xw_i2s {x : Int32} (hd : decode y.2.1 pc = .ok (.i2s, 1)) (h : XW g l y d (pc + 1) lx (xi x.toInt16.toInt32 :: st) M Q) : XW g l y d pc lx (xi x :: st) M Q := by
  intro p e R s m args below meth c H locs cells slots Qf ls hA hR hH hL hret
  exact lv_i2s hA.1 hA.2.1 hd rfl (h p e R s m args below meth c H locs cells slots Qf ls hA hR hH hL hret)
theorem xw_i2c {x : Int32} (hd : decode y.2.1 pc = .ok (.i2c, 1)) (h : XW g l y d (pc + 1) lx (xi (x.toUInt32 % 65536).toInt32 :: st) M Q) : XW g l y d pc lx (xi x :: st) M Q := by
  intro p e R s m args below meth c H locs cells slots Qf ls hA hR hH hL hret
  exact lv_i2c hA.1 hA.2.1 hd rfl (h p e R s m args below meth c H locs cells slots Qf ls hA hR hH hL hret)
theorem xw_dup {a : XV} (hd : decode y.2.1 pc = .ok (.dup, 1)) (h1 : xcat a = 1) (h : XW g l y d (pc + 1) lx (a :: a :: st) M Q) : XW g l y d pc lx (a :: st) M Q := by
  intro p e R s m args below meth c H locs cells slots Qf ls hA hR hH hL hret
  exact lv_dup hA.1 hA.2.1 hd ((xcat_eq g a).trans h1) (h p e R s m args below meth c H locs cells slots Qf ls hA hR hH hL hret)
theorem xw_dup2 {a b : XV} (hd : decode y.2.1 pc = .ok (.dup2, 1)) (h1 : xcat a = 1) (h2 : xcat b = 1) (h : XW g l y d (pc + 1) lx (a :: b :: a :: b :: st) M Q) : XW g l y d pc lx (a :: b :: st) M Q := by
  intro p e R s m args below meth c H locs cells slots Qf ls hA hR hH hL hret
  exact lv_dup2_11 hA.1 hA.2.1 hd ((xcat_eq g a).trans h1) ((xcat_eq g b).trans h2) (h p e R s m args below meth c H locs cells slots Qf ls hA hR hH hL hret)
theorem xw_dup_x1 {a b : XV} (hd : decode y.2.1 pc = .ok (.dup_x1, 1)) (h1 : xcat a = 1) (h2 : xcat b = 1) (h : XW g l y d (pc + 1) lx (a :: b :: a :: st) M Q) : XW g l y d pc lx (a :: b :: st) M Q := by
  intro p e R s m args below meth c H locs cells slots Qf ls hA hR hH hL hret
  exact lv_dup_x1 hA.1 hA.2.1 hd ((xcat_eq g a).trans h1) ((xcat_eq g b).trans h2) (h p e R s m args below meth c H locs cells slots Qf ls hA hR hH hL hret)
theorem xw_dup_x2 {a b f0 : XV} (hd : decode y.2.1 pc = .ok (.dup_x2, 1)) (h1 : xcat a = 1) (h2 : xcat b = 1) (h3 : xcat f0 = 1) (h : XW g l y d (pc + 1) lx (a :: b :: f0 :: a :: st) M Q) : XW g l y d pc lx (a :: b :: f0 :: st) M Q := by
  intro p e R s m args below meth c H locs cells slots Qf ls hA hR hH hL hret
  exact lv_dup_x2 hA.1 hA.2.1 hd ((xcat_eq g a).trans h1) ((xcat_eq g b).trans h2) ((xcat_eq g f0).trans h3) (h p e R s m args below meth c H locs cells slots Qf ls hA hR hH hL hret)
theorem xw_pop {a : XV} (hd : decode y.2.1 pc = .ok (.pop, 1)) (h1 : xcat a = 1) (h : XW g l y d (pc + 1) lx (st) M Q) : XW g l y d pc lx (a :: st) M Q := by
  intro p e R s m args below meth c H locs cells slots Qf ls hA hR hH hL hret
  exact lv_pop hA.1 hA.2.1 hd ((xcat_eq g a).trans h1) (h p e R s m args below meth c H locs cells slots Qf ls hA hR hH hL hret)
theorem xw_if_eq {x : Int32} {off : Int} {tgt : Nat} (hd : decode y.2.1 pc = .ok (.ifCond .eq off, 3)) (ht : (pc : Int) + off = (tgt : Int)) (kt : x = 0 → XW g l y d tgt lx st M Q) (kf : ¬ (x = 0) → XW g l y d (pc + 3) lx st M Q) : XW g l y d pc lx (xi x :: st) M Q := by
  intro p e R s m args below meth c H locs cells slots Qf ls hA hR hH hL hret
  exact lv_if_eq hA.1 hA.2.1 hd ht (fun q => kt q p e R s m args below meth c H locs cells slots Qf ls hA hR hH hL hret) (fun q => kf q p e R s m args below meth c H locs cells slots Qf ls hA hR hH hL hret)
theorem xw_if_ne {x : Int32} {off : Int} {tgt : Nat} (hd : decode y.2.1 pc = .ok (.ifCond .ne off, 3)) (ht : (pc : Int) + off = (tgt : Int)) (kt : ¬ x = 0 → XW g l y d tgt lx st M Q) (kf : x = 0 → XW g l y d (pc + 3) lx st M Q) : XW g l y d pc lx (xi x :: st) M Q := by
  intro p e R s m args below meth c H locs cells slots Qf ls hA hR hH hL hret
  exact lv_if_ne hA.1 hA.2.1 hd ht (fun q => kt q p e R s m args below meth c H locs cells slots Qf ls hA hR hH hL hret) (fun q => kf q p e R s m args below meth c H locs cells slots Qf ls hA hR hH hL hret)
theorem xw_if_lt {x : Int32} {off : Int} {tgt : Nat} (hd : decode y.2.1 pc = .ok (.ifCond .lt off, 3)) (ht : (pc : Int) + off = (tgt : Int)) (kt : x < 0 → XW g l y d tgt lx st M Q) (kf : ¬ (x < 0) → XW g l y d (pc + 3) lx st M Q) : XW g l y d pc lx (xi x :: st) M Q := by
  intro p e R s m args below meth c H locs cells slots Qf ls hA hR hH hL hret
  exact lv_if_lt hA.1 hA.2.1 hd ht (fun q => kt q p e R s m args below meth c H locs cells slots Qf ls hA hR hH hL hret) (fun q => kf q p e R s m args below meth c H locs cells slots Qf ls hA hR hH hL hret)
theorem xw_if_ge {x : Int32} {off : Int} {tgt : Nat} (hd : decode y.2.1 pc = .ok (.ifCond .ge off, 3)) (ht : (pc : Int) + off = (tgt : Int)) (kt : 0 ≤ x → XW g l y d tgt lx st M Q) (kf : ¬ (0 ≤ x) → XW g l y d (pc + 3) lx st M Q) : XW g l y d pc lx (xi x :: st) M Q := by
  intro p e R s m args below meth c H locs cells slots Qf ls hA hR hH hL hret
  exact lv_if_ge hA.1 hA.2.1 hd ht (fun q => kt q p e R s m args below meth c H locs cells slots Qf ls hA hR hH hL hret) (fun q => kf q p e R s m args below meth c H locs cells slots Qf ls hA hR hH hL hret)
theorem xw_if_gt {x : Int32} {off : Int} {tgt : Nat} (hd : decode y.2.1 pc = .ok (.ifCond .gt off, 3)) (ht : (pc : Int) + off = (tgt : Int)) (kt : 0 < x → XW g l y d tgt lx st M Q) (kf : ¬ (0 < x) → XW g l y d (pc + 3) lx st M Q) : XW g l y d pc lx (xi x :: st) M Q := by
  intro p e R s m args below meth c H locs cells slots Qf ls hA hR hH hL hret
  exact lv_if_gt hA.1 hA.2.1 hd ht (fun q => kt q p e R s m args below meth c H locs cells slots Qf ls hA hR hH hL hret) (fun q => kf q p e R s m args below meth c H locs cells slots Qf ls hA hR hH hL hret)
theorem xw_if_le {x : Int32} {off : Int} {tgt : Nat} (hd : decode y.2.1 pc = .ok (.ifCond .le off, 3)) (ht : (pc : Int) + off = (tgt : Int)) (kt : x ≤ 0 → XW g l y d tgt lx st M Q) (kf : ¬ (x ≤ 0) → XW g l y d (pc + 3) lx st M Q) : XW g l y d pc lx (xi x :: st) M Q := by
  intro p e R s m args below meth c H locs cells slots Qf ls hA hR hH hL hret
  exact lv_if_le hA.1 hA.2.1 hd ht (fun q => kt q p e R s m args below meth c H locs cells slots Qf ls hA hR hH hL hret) (fun q => kf q p e R s m args below meth c H locs cells slots Qf ls hA hR hH hL hret)
theorem xw_icmp_eq {x y2 : Int32} {off : Int} {tgt : Nat} (hd : decode y.2.1 pc = .ok (.if_icmp .eq off, 3)) (ht : (pc : Int) + off = (tgt : Int)) (kt : x = y2 → XW g l y d tgt lx st M Q) (kf : ¬ (x = y2) → XW g l y d (pc + 3) lx st M Q) : XW g l y d pc lx (xi y2 :: xi x :: st) M Q := by
  intro p e R s m args below meth c H locs cells slots Qf ls hA hR hH hL hret
  exact lv_icmp_eq hA.1 hA.2.1 hd ht (fun q => kt q p e R s m args below meth c H locs cells slots Qf ls hA hR hH hL hret) (fun q => kf q p e R s m args below meth c H locs cells slots Qf ls hA hR hH hL hret)
theorem xw_icmp_ne {x y2 : Int32} {off : Int} {tgt : Nat} (hd : decode y.2.1 pc = .ok (.if_icmp .ne off, 3)) (ht : (pc : Int) + off = (tgt : Int)) (kt : ¬ x = y2 → XW g l y d tgt lx st M Q) (kf : x = y2 → XW g l y d (pc + 3) lx st M Q) : XW g l y d pc lx (xi y2 :: xi x :: st) M Q := by
  intro p e R s m args below meth c H locs cells slots Qf ls hA hR hH hL hret
  exact lv_icmp_ne hA.1 hA.2.1 hd ht (fun q => kt q p e R s m args below meth c H locs cells slots Qf ls hA hR hH hL hret) (fun q => kf q p e R s m args below meth c H locs cells slots Qf ls hA hR hH hL hret)
theorem xw_icmp_lt {x y2 : Int32} {off : Int} {tgt : Nat} (hd : decode y.2.1 pc = .ok (.if_icmp .lt off, 3)) (ht : (pc : Int) + off = (tgt : Int)) (kt : x < y2 → XW g l y d tgt lx st M Q) (kf : ¬ (x < y2) → XW g l y d (pc + 3) lx st M Q) : XW g l y d pc lx (xi y2 :: xi x :: st) M Q := by
  intro p e R s m args below meth c H locs cells slots Qf ls hA hR hH hL hret
  exact lv_icmp_lt hA.1 hA.2.1 hd ht (fun q => kt q p e R s m args below meth c H locs cells slots Qf ls hA hR hH hL hret) (fun q => kf q p e R s m args below meth c H locs cells slots Qf ls hA hR hH hL hret)
theorem xw_icmp_ge {x y2 : Int32} {off : Int} {tgt : Nat} (hd : decode y.2.1 pc = .ok (.if_icmp .ge off, 3)) (ht : (pc : Int) + off = (tgt : Int)) (kt : y2 ≤ x → XW g l y d tgt lx st M Q) (kf : ¬ (y2 ≤ x) → XW g l y d (pc + 3) lx st M Q) : XW g l y d pc lx (xi y2 :: xi x :: st) M Q := by
  intro p e R s m args below meth c H locs cells slots Qf ls hA hR hH hL hret
  exact lv_icmp_ge hA.1 hA.2.1 hd ht (fun q => kt q p e R s m args below meth c H locs cells slots Qf ls hA hR hH hL hret) (fun q => kf q p e R s m args below meth c H locs cells slots Qf ls hA hR hH hL hret)
theorem xw_icmp_gt {x y2 : Int32} {off : Int} {tgt : Nat} (hd : decode y.2.1 pc = .ok (.if_icmp .gt off, 3)) (ht : (pc : Int) + off = (tgt : Int)) (kt : y2 < x → XW g l y d tgt lx st M Q) (kf : ¬ (y2 < x) → XW g l y d (pc + 3) lx st M Q) : XW g l y d pc lx (xi y2 :: xi x :: st) M Q := by
  intro p e R s m args below meth c H locs cells slots Qf ls hA hR hH hL hret
  exact lv_icmp_gt hA.1 hA.2.1 hd ht (fun q => kt q p e R s m args below meth c H locs cells slots Qf ls hA hR hH hL hret) (fun q => kf q p e R s m args below meth c H locs cells slots Qf ls hA hR hH hL hret)
theorem xw_icmp_le {x y2 : Int32} {off : Int} {tgt : Nat} (hd : decode y.2.1 pc = .ok (.if_icmp .le off, 3)) (ht : (pc : Int) + off = (tgt : Int)) (kt : x ≤ y2 → XW g l y d tgt lx st M Q) (kf : ¬ (x ≤ y2) → XW g l y d (pc + 3) lx st M Q) : XW g l y d pc lx (xi y2 :: xi x :: st) M Q := by
  intro p e R s m args below meth c H locs cells slots Qf ls hA hR hH hL hret
  exact lv_icmp_le hA.1 hA.2.1 hd ht (fun q => kt q p e R s m args below meth c H locs cells slots Qf ls hA hR hH hL hret) (fun q => kf q p e R s m args below meth c H locs cells slots Qf ls hA hR hH hL hret)
theorem xw_goto {off : Int} {tgt : Nat} (hd : decode y.2.1 pc = .ok (.goto off, 3)) (ht : (pc : Int) + off = (tgt : Int)) (h : XW g l y d tgt lx st M Q) : XW g l y d pc lx st M Q := by
  intro p e R s m args below meth c H locs cells slots Qf ls hA hR hH hL hret
  exact lv_goto hA.1 hA.2.1 hd ht (h p e R s m args below meth c H locs cells slots Qf ls hA hR hH hL hret)
theorem xw_tabIn {dflt lo hi : Int} {offs : Array Int} {len : Nat} {x : Int32} {off : Int} {tgt : Nat} (hd : decode y.2.1 pc = .ok (.tableswitch dflt lo hi offs, len)) (h1 : ¬ x.toInt < lo) (h2 : ¬ hi < x.toInt) (ho : offs[(x.toInt - lo).toNat]? = some off) (ht : (pc : Int) + off = (tgt : Int)) (h : XW g l y d tgt lx st M Q) : XW g l y d pc lx (xi x :: st) M Q := by
  intro p e R s m args below meth c H locs cells slots Qf ls hA hR hH hL hret
  exact lv_tableIn hA.1 hA.2.1 hd h1 h2 ho ht (h p e R s m args below meth c H locs cells slots Qf ls hA hR hH hL hret)
theorem xw_tabOut {dflt lo hi : Int} {offs : Array Int} {len : Nat} {x : Int32} {tgt : Nat} (hd : decode y.2.1 pc = .ok (.tableswitch dflt lo hi offs, len)) (h1 : x.toInt < lo ∨ hi < x.toInt) (ht : (pc : Int) + dflt = (tgt : Int)) (h : XW g l y d tgt lx st M Q) : XW g l y d pc lx (xi x :: st) M Q := by
  intro p e R s m args below meth c H locs cells slots Qf ls hA hR hH hL hret
  exact lv_tableOut hA.1 hA.2.1 hd h1 ht (h p e R s m args below meth c H locs cells slots Qf ls hA hR hH hL hret)
theorem xw_ireti {v : Int32} (hd : decode y.2.1 pc = .ok (.ireturn, 1)) (hr : y.2.2.2 = some .int) (hq : Q (some (xi v)) M) : XW g l y d pc lx [xi v] M Q := by
  intro p e R s m args below meth c H locs cells slots Qf ls hA hR hH hL hret
  exact hret (some (xi v)) M H locs pc ls hq hH ⟨hd, .int, hr, vp_nar_int v⟩
theorem xw_iretN {v : Int32} {ty : FieldType} (hd : decode y.2.1 pc = .ok (.ireturn, 1)) (hr : y.2.2.2 = some ty) (hn : narrow ty (.int v) = .int v) (hq : Q (some (xi v)) M) : XW g l y d pc lx [xi v] M Q := by
  intro p e R s m args below meth c H locs cells slots Qf ls hA hR hH hL hret
  exact hret (some (xi v)) M H locs pc ls hq hH ⟨hd, ty, hr, hn⟩
theorem xw_iretz {v : Int32} (hd : decode y.2.1 pc = .ok (.ireturn, 1)) (hr : y.2.2.2 = some .boolean) (hv : v = 0 ∨ v = 1) (hq : Q (some (xi v)) M) : XW g l y d pc lx [xi v] M Q :=
  xw_iretN hd hr (by rcases hv with rfl | rfl <;> rfl) hq
theorem xw_ret (hd : decode y.2.1 pc = .ok (.return_, 1)) (hr : y.2.2.2 = none) (hq : Q none M) : XW g l y d pc lx [] M Q := by
  intro p e R s m args below meth c H locs cells slots Qf ls hA hR hH hL hret
  exact hret none M H locs pc ls hq hH ⟨hd, hr⟩
theorem xw_aret {k : Nat} {rt : FieldType} (hd : decode y.2.1 pc = .ok (.areturn, 1)) (hr : y.2.2.2 = some rt) (ho : (∃ n, rt = .object n) ∨ ∃ t, rt = .array t) (hq : Q (some (xr k)) M) : XW g l y d pc lx [xr k] M Q := by
  intro p e R s m args below meth c H locs cells slots Qf ls hA hR hH hL hret
  exact hret (some (xr k)) M H locs pc ls hq hH ⟨hd, rt, hr, ho⟩
/-- own's constant idx is field j of class ci -/
def XFL (own : String) (idx ci j : Nat) : Prop := ∃ (C : String) (T : u_T) (N : Nat), vwCl[ci]? = some (C, T, N) ∧ j < N ∧ Cond.fieldLink own idx C (T j).2.1 (T j).2.2.1 ∈ xTB ∧ (∀ w ∈ u_ws C T N, w ∈ xTB) ∧ (T j).1 = C
def XFP (own : String) (idx ci j : Nat) (ty : FieldType) : Prop := ∃ (C : String) (T : u_T) (N : Nat) (ty0 : Nat → FieldType), vwCl[ci]? = some (C, T, N) ∧ j < N ∧ Cond.fieldLink own idx C (T j).2.1 (T j).2.2.1 ∈ xTB ∧ (∀ w ∈ u_ws C T N, w ∈ xTB) ∧ (T j).1 = C ∧ (∀ k, k < N → parseFieldDescriptor (T k).2.2.1 = some (ty0 k)) ∧ (∀ a, a < N → ∀ b, b < N → a ≠ b → (T a).2.1 ≠ (T b).2.1) ∧ (T j).2.2.2 = false ∧ ty0 j = ty
theorem xw_getF {idx ci j k : Nat} {ks : List (Option (Option Nat))} {f : Option (Option Nat)} {v : XV} (hd : decode y.2.1 pc = .ok (.getfield idx, 3)) (hl : XFL y.1.cls idx ci j) (hs : xsh[k]? = some (.inl (ci, ks))) (hj : ks[j]? = some f) (hv : ∀ g, xfv g M k j f = xcv g v) (h : XW g l y d (pc + 3) lx (v :: st) M Q) : XW g l y d pc lx (xr k :: st) M Q := by
  intro p e R s m args below meth c H locs cells slots Qf ls hA hR hH hL hret
  obtain ⟨C, T, N, hc, hjN, hlk, hin, hT⟩ := hl
  have he : (xws g M)[k]? = some (g.2.1 k, .inr (ci, ks.mapIdx (fun j f => xfv g M k j f))) := xws_at hs
  exact va_get (D := g.1) (v := xcv g v) (C := C) (T := T) (N := N) (ref := C) hA.1 hA.2.1 hA.2.2.2.2.2.1 hin hA.2.2.2.2.1 hA.2.2.2.2.2.2.2.1 hH.1 k he hc j hjN (hA.2.2.2.2.2.1 _ hlk) (fun x hx => by rw [hT] at hx; exact hx) (by rw [List.getElem?_mapIdx, hj]; exact congrArg some (hv g)) hd (h p e R s m args below meth c H locs cells slots Qf ls hA hR hH hL hret)
theorem xw_getI {idx ci j k : Nat} {ks : List (Option (Option Nat))} (hd : decode y.2.1 pc = .ok (.getfield idx, 3)) (hl : XFL y.1.cls idx ci j) (hs : xsh[k]? = some (.inl (ci, ks))) (hj : ks[j]? = some none) (h : XW g l y d (pc + 3) lx (xi (M.1 k j) :: st) M Q) : XW g l y d pc lx (xr k :: st) M Q := xw_getF hd hl hs hj (fun _ => rfl) h
theorem xw_getL {idx ci j k : Nat} {ks : List (Option (Option Nat))} (hd : decode y.2.1 pc = .ok (.getfield idx, 3)) (hl : XFL y.1.cls idx ci j) (hs : xsh[k]? = some (.inl (ci, ks))) (hj : ks[j]? = some (some none)) (h : XW g l y d (pc + 3) lx (xl (M.2 k j) :: st) M Q) : XW g l y d pc lx (xr k :: st) M Q := xw_getF hd hl hs hj (fun _ => rfl) h
theorem xw_getR {idx ci j k r : Nat} {ks : List (Option (Option Nat))} (hd : decode y.2.1 pc = .ok (.getfield idx, 3)) (hl : XFL y.1.cls idx ci j) (hs : xsh[k]? = some (.inl (ci, ks))) (hj : ks[j]? = some (some (some r))) (h : XW g l y d (pc + 3) lx (xr r :: st) M Q) : XW g l y d pc lx (xr k :: st) M Q := xw_getF hd hl hs hj (fun _ => rfl) h
theorem xw_putI {idx ci j k : Nat} {ks : List (Option (Option Nat))} {v : Int32} (hd : decode y.2.1 pc = .ok (.putfield idx, 3)) (hl : XFP y.1.cls idx ci j .int) (hs : xsh[k]? = some (.inl (ci, ks))) (hj : ks[j]? = some none) (h : XW g l y d (pc + 3) lx st (xup M k j v) Q) : XW g l y d pc lx (xi v :: xr k :: st) M Q := by
  intro p e R s m args below meth c H locs cells slots Qf ls hA hR hH hL hret
  obtain ⟨C, T, N, ty0, hc, hjN, hlk, hin, hT, hty, hnm, hfin, ht⟩ := hl
  have he : (xws g M)[k]? = some (g.2.1 k, .inr (ci, ks.mapIdx (fun j f => xfv g M k j f))) := xws_at hs
  refine va_put (D := g.1) (v := .int v) (ty := .int) (C := C) (T := T) (N := N) (ref := C) hA.1 hA.2.1 hA.2.2.2.2.2.1 hin ty0 hty hnm hA.2.2.2.2.1 hA.2.2.2.2.2.2.2.1 hH.1 hH.2.1 hH.2.2 k he hc j hjN (hA.2.2.2.2.2.1 _ hlk) (fun x hx => by rw [hT] at hx; exact hx) hfin (by rw [hty j hjN, ht]) (vp_nar_int v) rfl (by have := (List.getElem?_eq_some_iff.mp hj).1; simpa using this) hd (fun H1 locs1 hP hD hS => ?_)
  rw [xws_setI hs hj] at hP hD
  exact h p e R s m args below meth c H1 locs1 cells slots Qf ls hA hR ⟨hP, hD, hS⟩ hL hret
theorem xw_putL {idx ci j k : Nat} {ks : List (Option (Option Nat))} {v : Int64} (hd : decode y.2.1 pc = .ok (.putfield idx, 3)) (hl : XFP y.1.cls idx ci j .long) (hs : xsh[k]? = some (.inl (ci, ks))) (hj : ks[j]? = some (some none)) (h : XW g l y d (pc + 3) lx st (xul M k j v) Q) : XW g l y d pc lx (xl v :: xr k :: st) M Q := by
  intro p e R s m args below meth c H locs cells slots Qf ls hA hR hH hL hret
  obtain ⟨C, T, N, ty0, hc, hjN, hlk, hin, hT, hty, hnm, hfin, ht⟩ := hl
  have he : (xws g M)[k]? = some (g.2.1 k, .inr (ci, ks.mapIdx (fun j f => xfv g M k j f))) := xws_at hs
  refine va_put (D := g.1) (v := .long v) (ty := .long) (C := C) (T := T) (N := N) (ref := C) hA.1 hA.2.1 hA.2.2.2.2.2.1 hin ty0 hty hnm hA.2.2.2.2.1 hA.2.2.2.2.2.2.2.1 hH.1 hH.2.1 hH.2.2 k he hc j hjN (hA.2.2.2.2.2.1 _ hlk) (fun x hx => by rw [hT] at hx; exact hx) hfin (by rw [hty j hjN, ht]) rfl rfl (by have := (List.getElem?_eq_some_iff.mp hj).1; simpa using this) hd (fun H1 locs1 hP hD hS => ?_)
  rw [xws_setL hs hj] at hP hD
  exact h p e R s m args below meth c H1 locs1 cells slots Qf ls hA hR ⟨hP, hD, hS⟩ hL hret
theorem xw_iald {k n : Nat} {i : Int32} (hd : decode y.2.1 pc = .ok (.iaload, 1)) (hs : xsh[k]? = some (.inr (0, n))) (hin : vp_in i n) (h : XW g l y d (pc + 1) lx (xi (M.1 k i.toNatClampNeg) :: st) M Q) : XW g l y d pc lx (xi i :: xr k :: st) M Q := by
  intro p e R s m args below meth c H locs cells slots Qf ls hA hR hH hL hret
  exact va_iald hA.1 hA.2.1 hA.2.2.2.2.2.2.2.1 hH.1 k 0 (xws_atA hs (by decide)) rfl hin hd (h p e R s m args below meth c H locs cells slots Qf ls hA hR hH hL hret)
theorem xw_bald {k n : Nat} {i : Int32} (hd : decode y.2.1 pc = .ok (.baload, 1)) (hs : xsh[k]? = some (.inr (1, n))) (hin : vp_in i n) (h : XW g l y d (pc + 1) lx (xi (M.1 k i.toNatClampNeg) :: st) M Q) : XW g l y d pc lx (xi i :: xr k :: st) M Q := by
  intro p e R s m args below meth c H locs cells slots Qf ls hA hR hH hL hret
  exact va_bald hA.1 hA.2.1 hA.2.2.2.2.2.2.2.1 hH.1 k 1 (xws_atA hs (by decide)) rfl hin hd (h p e R s m args below meth c H locs cells slots Qf ls hA hR hH hL hret)
theorem xw_zald {k n : Nat} {i : Int32} (hd : decode y.2.1 pc = .ok (.baload, 1)) (hs : xsh[k]? = some (.inr (2, n))) (hin : vp_in i n) (h : XW g l y d (pc + 1) lx (xi (M.1 k i.toNatClampNeg) :: st) M Q) : XW g l y d pc lx (xi i :: xr k :: st) M Q := by
  intro p e R s m args below meth c H locs cells slots Qf ls hA hR hH hL hret
  exact va_zald hA.1 hA.2.1 hA.2.2.2.2.2.2.2.1 hH.1 k 2 (xws_atA hs (by decide)) rfl hin hd (h p e R s m args below meth c H locs cells slots Qf ls hA hR hH hL hret)
theorem xw_aald {k n : Nat} {i : Int32} (hd : decode y.2.1 pc = .ok (.aaload, 1)) (hs : xsh[k]? = some (.inr (3, n))) (hin : vp_in i n) (h : XW g l y d (pc + 1) lx (xr (xrf k i.toNatClampNeg) :: st) M Q) : XW g l y d pc lx (xi i :: xr k :: st) M Q := by
  intro p e R s m args below meth c H locs cells slots Qf ls hA hR hH hL hret
  exact va_aldq (C := "LieSlides$Field") hA.1 hA.2.1 hA.2.2.2.2.2.2.2.1 hH.1 k 3 (xws_at hs) rfl hin hd (h p e R s m args below meth c H locs cells slots Qf ls hA hR hH hL hret)
theorem xw_iast {k n : Nat} {i x : Int32} (hd : decode y.2.1 pc = .ok (.iastore, 1)) (hs : xsh[k]? = some (.inr (0, n))) (hin : vp_in i n) (h : XW g l y d (pc + 1) lx st (xup M k i.toNatClampNeg x) Q) : XW g l y d pc lx (xi x :: xi i :: xr k :: st) M Q := by
  intro p e R s m args below meth c H locs cells slots Qf ls hA hR hH hL hret
  refine va_iast hA.1 hA.2.1 hA.2.2.2.2.2.2.2.1 hH.1 hH.2.1 hH.2.2 k 0 (xws_atA hs (by decide)) rfl hin hd (fun H1 locs1 hP hD hS => ?_)
  rw [xws_setA hs (by decide)] at hP hD
  exact h p e R s m args below meth c H1 locs1 cells slots Qf ls hA hR ⟨hP, hD, hS⟩ hL hret
theorem xw_bast {k n : Nat} {i x : Int32} (hd : decode y.2.1 pc = .ok (.bastore, 1)) (hs : xsh[k]? = some (.inr (1, n))) (hin : vp_in i n) (h : XW g l y d (pc + 1) lx st (xup M k i.toNatClampNeg (vp_nar .byte x)) Q) : XW g l y d pc lx (xi x :: xi i :: xr k :: st) M Q := by
  intro p e R s m args below meth c H locs cells slots Qf ls hA hR hH hL hret
  refine va_bast hA.1 hA.2.1 hA.2.2.2.2.2.2.2.1 hH.1 hH.2.1 hH.2.2 k 1 (xws_atA hs (by decide)) rfl hin hd (fun H1 locs1 hP hD hS => ?_)
  rw [xws_setA hs (by decide)] at hP hD
  exact h p e R s m args below meth c H1 locs1 cells slots Qf ls hA hR ⟨hP, hD, hS⟩ hL hret
theorem xw_zast {k n : Nat} {i x : Int32} (hd : decode y.2.1 pc = .ok (.bastore, 1)) (hs : xsh[k]? = some (.inr (2, n))) (hin : vp_in i n) (h : XW g l y d (pc + 1) lx st (xup M k i.toNatClampNeg (vp_nar .boolean x)) Q) : XW g l y d pc lx (xi x :: xi i :: xr k :: st) M Q := by
  intro p e R s m args below meth c H locs cells slots Qf ls hA hR hH hL hret
  refine va_zast hA.1 hA.2.1 hA.2.2.2.2.2.2.2.1 hH.1 hH.2.1 hH.2.2 k 2 (xws_atA hs (by decide)) rfl hin hd (fun H1 locs1 hP hD hS => ?_)
  rw [xws_setA hs (by decide)] at hP hD
  exact h p e R s m args below meth c H1 locs1 cells slots Qf ls hA hR ⟨hP, hD, hS⟩ hL hret
/-! what is only read -/
theorem xw_getsT {idx j : Nat} (hd : decode y.2.1 pc = .ok (.getstatic idx, 3)) (hj : j < 3) (hlk : Cond.fieldLink y.1.cls idx (xtc j) (xtn j) "[I" ∈ xTB) (h : XW g l y d (pc + 3) lx (xr (1000 + j) :: st) M Q) : XW g l y d pc lx st M Q := by
  intro p e R s m args below meth c H locs cells slots Qf ls hA hR hH hL hret
  exact va_gets hA.1 hA.2.1 (hA.2.2.2.2.2.2.2.2.1 j hj).2 hH.2.2 hA.2.2.2.2.1 (hA.2.2.2.2.2.1 _ hlk) (fun _ h9 => h9) hd (h p e R s m args below meth c H locs cells slots Qf ls hA hR hH hL hret)
theorem xw_getsC {idx : Nat} (hd : decode y.2.1 pc = .ok (.getstatic idx, 3)) (hlk : Cond.fieldLink y.1.cls idx "java/lang/String" "COMPACT_STRINGS" "Z" ∈ xTB) (h : XW g l y d (pc + 3) lx (xi 1 :: st) M Q) : XW g l y d pc lx st M Q := by
  intro p e R s m args below meth c H locs cells slots Qf ls hA hR hH hL hret
  exact va_gets hA.1 hA.2.1 hA.2.2.2.2.2.2.2.2.2.2.1 hH.2.2 hA.2.2.2.2.1 (hA.2.2.2.2.2.1 _ hlk) (fun _ h9 => h9) hd (h p e R s m args below meth c H locs cells slots Qf ls hA hR hH hL hret)
theorem xw_ialdT {j k : Nat} {i : Int32} (hd : decode y.2.1 pc = .ok (.iaload, 1)) (hk : k = 1000 + j) (hj : j < 3) (hin : vp_in i 6) (h : XW g l y d (pc + 1) lx (xi (xtab j i.toNatClampNeg) :: st) M Q) : XW g l y d pc lx (xi i :: xr k :: st) M Q := by
  subst hk
  intro p e R s m args below meth c H locs cells slots Qf ls hA hR hH hL hret
  exact va_ti hA.1 hA.2.1 (hA.2.2.2.2.2.2.2.2.1 j hj).1 hH.2.2 hin rfl hd (h p e R s m args below meth c H locs cells slots Qf ls hA hR hH hL hret)
theorem xw_ialdS {i : Int32} (hd : decode y.2.1 pc = .ok (.iaload, 1)) (hin : vp_in i g.2.2.2.2.1) (h : XW g l y d (pc + 1) lx (xi (g.2.2.2.2.2 i.toNatClampNeg) :: st) M Q) : XW g l y d pc lx (xi i :: xr 1003 :: st) M Q := by
  intro p e R s m args below meth c H locs cells slots Qf ls hA hR hH hL hret
  exact va_ti hA.1 hA.2.1 hA.2.2.2.2.2.2.2.2.2.1 hH.2.2 hin rfl hd (h p e R s m args below meth c H locs cells slots Qf ls hA hR hH hL hret)
theorem xw_alenS (hd : decode y.2.1 pc = .ok (.arraylength, 1)) (h : XW g l y d (pc + 1) lx (xi (Int32.ofNat g.2.2.2.2.1) :: st) M Q) : XW g l y d pc lx (xr 1003 :: st) M Q := by
  intro p e R s m args below meth c H locs cells slots Qf ls hA hR hH hL hret
  exact va_tlen hA.1 hA.2.1 hA.2.2.2.2.2.2.2.2.2.1 hH.2.2 rfl hd (h p e R s m args below meth c H locs cells slots Qf ls hA hR hH hL hret)
theorem xw_ldcS {idx i : Nat} (hd : decode y.2.1 pc = .ok (.ldc idx, 2)) (hy : y.1.cls = "LieSlides$Reader") (hi : i < 9) (hx : xsx i = idx) (h : XW g l y d (pc + 2) lx (xr (1100 + i) :: st) M Q) : XW g l y d pc lx st M Q := by
  subst hx
  intro p e R s m args below meth c H locs cells slots Qf ls hA hR hH hL hret
  exact va_ldcS hA.1 hA.2.1 (own := "LieSlides$Reader") (by rw [← hy]; exact hA.2.2.2.2.1) (hA.2.2.2.2.2.2.2.2.2.2.2.2 i hi) hd (h p e R s m args below meth c H locs cells slots Qf ls hA hR hH hL hret)
theorem xw_getSv {idx i k : Nat} (hd : decode y.2.1 pc = .ok (.getfield idx, 3)) (hk : k = 1100 + i) (hi : i < 9) (hlk : Cond.fieldLink y.1.cls idx "java/lang/String" "value" "[B" ∈ xTB) (h : XW g l y d (pc + 3) lx (xr (1200 + i) :: st) M Q) : XW g l y d pc lx (xr k :: st) M Q := by
  subst hk
  intro p e R s m args below meth c H locs cells slots Qf ls hA hR hH hL hret
  exact vk_getf hA.1 hA.2.1 (hA.2.2.2.2.2.2.2.2.2.2.2.1.1 i hi).2.2.1 hH.2.2 hA.2.2.2.2.1 (hA.2.2.2.2.2.1 _ hlk) (fun _ h9 => h9) hd (h p e R s m args below meth c H locs cells slots Qf ls hA hR hH hL hret)
theorem xw_getSc {idx i k : Nat} (hd : decode y.2.1 pc = .ok (.getfield idx, 3)) (hk : k = 1100 + i) (hi : i < 9) (hlk : Cond.fieldLink y.1.cls idx "java/lang/String" "coder" "B" ∈ xTB) (h : XW g l y d (pc + 3) lx (xi 0 :: st) M Q) : XW g l y d pc lx (xr k :: st) M Q := by
  subst hk
  intro p e R s m args below meth c H locs cells slots Qf ls hA hR hH hL hret
  exact vk_getf hA.1 hA.2.1 (hA.2.2.2.2.2.2.2.2.2.2.2.1.1 i hi).2.1 hH.2.2 hA.2.2.2.2.1 (hA.2.2.2.2.2.1 _ hlk) (fun _ h9 => h9) hd (h p e R s m args below meth c H locs cells slots Qf ls hA hR hH hL hret)
theorem xw_baldS {i k : Nat} {j : Int32} (hd : decode y.2.1 pc = .ok (.baload, 1)) (hk : k = 1200 + i) (hi : i < 9) (hin : vp_in j (xln.getD i 0)) (h : XW g l y d (pc + 1) lx (xi ((xby.getD i []).getD j.toNatClampNeg 0) :: st) M Q) : XW g l y d pc lx (xi j :: xr k :: st) M Q := by
  subst hk
  intro p e R s m args below meth c H locs cells slots Qf ls hA hR hH hL hret
  exact va_tb hA.1 hA.2.1 (hA.2.2.2.2.2.2.2.2.2.2.2.1.1 i hi).2.2.2 hH.2.2 hin rfl hd (h p e R s m args below meth c H locs cells slots Qf ls hA hR hH hL hret)
theorem xw_alenB {i k : Nat} (hd : decode y.2.1 pc = .ok (.arraylength, 1)) (hk : k = 1200 + i) (hi : i < 9) (h : XW g l y d (pc + 1) lx (xi (Int32.ofNat (xln.getD i 0)) :: st) M Q) : XW g l y d pc lx (xr k :: st) M Q := by
  subst hk
  intro p e R s m args below meth c H locs cells slots Qf ls hA hR hH hL hret
  exact va_tlen hA.1 hA.2.1 (hA.2.2.2.2.2.2.2.2.2.2.2.1.1 i hi).2.2.2 hH.2.2 rfl hd (h p e R s m args below meth c H locs cells slots Qf ls hA hR hH hL hret)
/-! calls -/
def XLV (own : String) (idx : Nat) (z : XY) : Prop := Cond.methodLink own idx z.1 ∈ xTB ∧ Cond.instanceMethod z.1 ∈ xTB ∧ Cond.selects z.1.cls z.1 z.1 ∈ xTB ∧ Cond.initialized z.1.cls ∈ xTB
def XLS (own : String) (idx : Nat) (z : XY) : Prop := Cond.methodLink own idx z.1 ∈ xTB ∧ Cond.static z.1 ∈ xTB ∧ Cond.initialized z.1.cls ∈ xTB
theorem xgood (z : XY) (n : Nat) (hz : XOk z n) : GoodIn xTB (xmw z) := by
  intro w hw
  rcases List.mem_cons.mp hw with rfl | hw
  · exact ⟨xTB_of hz.1 rfl, Or.inl rfl⟩
  · exact ⟨hw, good_of_word (List.mem_filter.mp hw).2⟩
theorem xpc_blind (as : List XV) : FrameBlind (XPc g as M) := by
  intro a U f mk hq
  obtain ⟨q0, qK, qP, qD, qR⟩ := hq
  exact ⟨q0, va_K.moved (u := U) (U := U.calling f mk a) (Vm.Alike.refl U.vm) qK, qP, qD, qR.call f mk a⟩
theorem xrun_go {p : Program} {e : Env} {R : Room} {s : State} {m : MethodId} {args : Array Value} {below : List Frame} {meth : Method} {c : Code} {H : Heap} {locs : List Loc} {cells slots : Nat} {Qf : State → Prop} {ls : Array Slot} {rest : List XV} {st0 : List Value} {a : Array Value} {Q' : Option XV → XM → Prop}
    (hr : va_Run p l e R s m args below meth c H locs cells slots 0 0 (F0 m pc ls st0) (rest.map (xcv g)) (XQc g Q' a) (xA g)) (hS : va_S (xA g) s.heap H locs)
    (hk : ∀ (r : Option XV) (M' : XM) (H' : Heap) (locs' : List Loc), Q' r M' → XH g M' s H' locs' → W p l e R s m args below meth c H' locs' cells slots Qf (F0 m (pc + 3) ls ((r.toList ++ rest).map (xcv g)))) :
    W p l e R s m args below meth c H locs cells slots Qf (F0 m pc ls st0) := by
  intro T hT X
  obtain ⟨v, st₀, t, T', L, h0, X', hL, e1, e2, ⟨⟨r, M', hv, hq, hP, hD⟩, hz, hkp⟩, st⟩ := hr T hT X
  cases hv
  rw [h0] at hz hkp
  have hS' : va_S (xA g) s.heap T'.heap (locs ++ L) := ⟨Nat.le_trans hS.1 (by rw [e1]; exact hz), fun q h1 h2 => by rw [e1, hkp q (Nat.lt_of_lt_of_le h1 hS.1) h2]; exact hS.2.1 q h1 h2, fun q hq => by
      rcases List.mem_append.mp hq with h | h
      · exact hS.2.2 q h
      · exact hL q h⟩
  obtain ⟨t2, a1, b1⟩ := hk r M' T'.heap (locs ++ L) hq ⟨by rw [e1]; exact hP, hD, hS'⟩ T' rfl X'
  refine ⟨t2, st t2 ?_, b1⟩
  have e3 : (r.map (xcv g)).toList ++ rest.map (xcv g) = (r.toList ++ rest).map (xcv g) := by cases r <;> simp
  rw [e3]
  exact a1
theorem xw_callV {z : XY} {k idx n ci N : Nat} {T : u_T} {as rest : List XV} {ks : List (Option (Option Nat))} {Q' : Option XV → XM → Prop} (hd : decode y.2.1 pc = .ok (.invokevirtual idx, 3)) (hz : XOk z n) (hl : XLV y.1.cls idx z) (hs : xsh[k]? = some (.inl (ci, ks))) (hc : vwCl[ci]? = some (z.1.cls, T, N)) (hn : as.length = n) (hw : Nat.ble (xcs rest) 8 = true) (ha : Nat.ble (xcs (xr k :: as)) z.2.2.1 = true)
    (hb : XW g l z d 0 (xent z.2.2.1 (xr k :: as)) [] M Q') (hk : ∀ r M', Q' r M' → XW g l y (d + 1) (pc + 3) lx (r.toList ++ rest) M' Q) : XW g l y (d + 1) pc lx (as.reverse ++ xr k :: rest) M Q := by
  intro p e R s m args below meth c H locs cells slots Qf ls hA hR hH hL hret
  have hts := hA.2.2.2.2.2.1
  have hcb := callB_of (R := R) (own := y.1.cls) (index := idx) (y := z.1) (bytes := z.2.1) (maxL := z.2.2.1) (ret := z.2.2.2) (rm := xroom d) (mc := 0) (ms := 0) n hts (xgood z n hz) rfl rfl rfl (hts _ hl.2.2.2) (hts _ hl.1) hz.2.2.1 ⟨hR.1, by have := hR.2.1; have := hz.2.2.2; show 8 + (z.2.2.1 + 11) + 60 * d ≤ R.locals; omega⟩
  have hrec := va_recv hA.2.2.2.2.2.2.2.1 hH.1 hc (xws_at hs)
  refine xrun_go (Q' := Q') (va_runV (nL := y.2.2.1) (As := as.map (xcv g)) (rest := rest.map (xcv g)) (b := g.2.1 k) (C := z.1.cls) ⟨hA.1, hA.2.1, hA.2.2.2.1, hA.2.2.2.2.1, hts⟩ (xmet (as := xr k :: as) hz ha hb) ⟨hcb, hts _ hl.2.1, hts _ hl.2.2.1⟩ ⟨xpc_blind _, hrec, fun U hU hW => ⟨rfl, va_K.moved hW.alike hA.2.2.2.2.2.2.2.1, by rw [hU]; exact hH.1, hH.2.1, hA.2.2.2.2.2.2.2.2.move hW (fun a h1 h2 => by rw [hU]; exact hH.2.2.2.1 a h1 h2)⟩⟩ rfl (by rw [List.length_map]; exact hn) hL.1 (by simp [xcv]) (lv_room (by rw [xcs_eq]; exact Nat.le_of_ble_eq_true hw)) hd ⟨hR.2.2.1, hR.2.2.2⟩) hH.2.2 (fun r M' H' locs' hq hH' => hk r M' hq p e R s m args below meth c H' locs' cells slots Qf ls hA hR hH' hL hret)
theorem xw_callS {z : XY} {idx n : Nat} {as rest : List XV} {Q' : Option XV → XM → Prop} (hd : decode y.2.1 pc = .ok (.invokestatic idx, 3)) (hz : XOk z n) (hl : XLS y.1.cls idx z) (hn : as.length = n) (hw : Nat.ble (xcs rest) 8 = true) (ha : Nat.ble (xcs as) z.2.2.1 = true)
    (hb : XW g l z d 0 (xent z.2.2.1 as) [] M Q') (hk : ∀ r M', Q' r M' → XW g l y (d + 1) (pc + 3) lx (r.toList ++ rest) M' Q) : XW g l y (d + 1) pc lx (as.reverse ++ rest) M Q := by
  intro p e R s m args below meth c H locs cells slots Qf ls hA hR hH hL hret
  have hts := hA.2.2.2.2.2.1
  have hcb := callB_of (R := R) (own := y.1.cls) (index := idx) (y := z.1) (bytes := z.2.1) (maxL := z.2.2.1) (ret := z.2.2.2) (rm := xroom d) (mc := 0) (ms := 0) n hts (xgood z n hz) rfl rfl rfl (hts _ hl.2.2) (hts _ hl.1) hz.2.2.1 ⟨hR.1, by have := hR.2.1; have := hz.2.2.2; show 8 + (z.2.2.1 + 11) + 60 * d ≤ R.locals; omega⟩
  refine xrun_go (Q' := Q') (va_runS (nL := y.2.2.1) (As := as.map (xcv g)) (rest := rest.map (xcv g)) ⟨hA.1, hA.2.1, hA.2.2.2.1, hA.2.2.2.2.1, hts⟩ (xmet (as := as) hz ha hb) ⟨hcb, hts _ hl.2.1⟩ ⟨xpc_blind _, fun U hU hW => ⟨rfl, va_K.moved hW.alike hA.2.2.2.2.2.2.2.1, by rw [hU]; exact hH.1, hH.2.1, hA.2.2.2.2.2.2.2.2.move hW (fun a h1 h2 => by rw [hU]; exact hH.2.2.2.1 a h1 h2)⟩⟩ rfl (by rw [List.length_map]; exact hn) hL.1 (by simp) (lv_room (by rw [xcs_eq]; exact Nat.le_of_ble_eq_true hw)) hd ⟨hR.2.2.1, hR.2.2.2⟩) hH.2.2 (fun r M' H' locs' hq hH' => hk r M' hq p e R s m args below meth c H' locs' cells slots Qf ls hA hR hH' hL hret)
theorem xw_callT {z : XY} {i k idx n : Nat} {as rest : List XV} {Q' : Option XV → XM → Prop} (hd : decode y.2.1 pc = .ok (.invokevirtual idx, 3)) (hz : XOk z n) (hl : XLV y.1.cls idx z) (hk1 : k = 1100 + i) (hi : i < 9) (hc : z.1.cls = "java/lang/String") (hn : as.length = n) (hw : Nat.ble (xcs rest) 8 = true) (ha : Nat.ble (xcs (xr k :: as)) z.2.2.1 = true)
    (hb : XW g l z d 0 (xent z.2.2.1 (xr k :: as)) [] M Q') (hk : ∀ r M', Q' r M' → XW g l y (d + 1) (pc + 3) lx (r.toList ++ rest) M' Q) : XW g l y (d + 1) pc lx (as.reverse ++ xr k :: rest) M Q := by
  intro p e R s m args below meth c H locs cells slots Qf ls hA hR hH hL hret
  have hts := hA.2.2.2.2.2.1
  have hcb := callB_of (R := R) (own := y.1.cls) (index := idx) (y := z.1) (bytes := z.2.1) (maxL := z.2.2.1) (ret := z.2.2.2) (rm := xroom d) (mc := 0) (ms := 0) n hts (xgood z n hz) rfl rfl rfl (hts _ hl.2.2.2) (hts _ hl.1) hz.2.2.1 ⟨hR.1, by have := hR.2.1; have := hz.2.2.2; show 8 + (z.2.2.1 + 11) + 60 * d ≤ R.locals; omega⟩
  have hrec := vk_recv hA.2.2.2.2.2.2.2.2.2.2.2.1 hi hH.2.2
  rw [← hc, ← hk1] at hrec
  refine xrun_go (Q' := Q') (va_runV (nL := y.2.2.1) (As := as.map (xcv g)) (rest := rest.map (xcv g)) (b := g.2.1 k) (C := z.1.cls) ⟨hA.1, hA.2.1, hA.2.2.2.1, hA.2.2.2.2.1, hts⟩ (xmet (as := xr k :: as) hz ha hb) ⟨hcb, hts _ hl.2.1, hts _ hl.2.2.1⟩ ⟨xpc_blind _, hrec, fun U hU hW => ⟨rfl, va_K.moved hW.alike hA.2.2.2.2.2.2.2.1, by rw [hU]; exact hH.1, hH.2.1, hA.2.2.2.2.2.2.2.2.move hW (fun a h1 h2 => by rw [hU]; exact hH.2.2.2.1 a h1 h2)⟩⟩ rfl (by rw [List.length_map]; exact hn) hL.1 (by simp [xcv]) (lv_room (by rw [xcs_eq]; exact Nat.le_of_ble_eq_true hw)) hd ⟨hR.2.2.1, hR.2.2.2⟩) hH.2.2 (fun r M' H' locs' hq hH' => hk r M' hq p e R s m args below meth c H' locs' cells slots Qf ls hA hR hH' hL hret)
/-! Math.max, Math.min, System.arraycopy -/
theorem xw_mmax {idx : Nat} {a b : Int32} {rest : List XV} (hd : decode y.2.1 pc = .ok (.invokestatic idx, 3)) (hl : Cond.methodLink y.1.cls idx Lib.Math.max.name ∈ xTB) (hz : Cond.static Lib.Math.max.name ∈ xTB ∧ Cond.initialized "java/lang/Math" ∈ xTB ∧ Cond.code Lib.Math.max.name Lib.Math.max.code 2 (some .int) ∈ lw_tbl) (hw : Nat.ble (xcs rest) 8 = true) (h : XW g l y (d + 1) (pc + 3) lx (xi (if a < b then b else a) :: rest) M Q) : XW g l y (d + 1) pc lx (xi b :: xi a :: rest) M Q := by
  intro p e R s m args below meth c H locs cells slots Qf ls hA hR hH hL hret
  have hts := hA.2.2.2.2.2.1
  exact va_mmax hA.1 hA.2.1 (hA.2.2.2.1.trans hL.1.symm) hA.2.2.2.2.1 (hts _ hl) (hts _ hz.1) (hts _ hz.2.1) (hts _ (xTB_of hz.2.2 rfl)) (by have := hR.1; omega) (by rw [xcs_eq]; have := hR.2.1; have := Nat.le_of_ble_eq_true hw; omega) hR.2.2.1 hR.2.2.2 hd (h p e R s m args below meth c H locs cells slots Qf ls hA hR hH hL hret)
theorem xw_mmin {idx : Nat} {a b : Int32} {rest : List XV} (hd : decode y.2.1 pc = .ok (.invokestatic idx, 3)) (hl : Cond.methodLink y.1.cls idx Lib.Math.min.name ∈ xTB) (hz : Cond.static Lib.Math.min.name ∈ xTB ∧ Cond.initialized "java/lang/Math" ∈ xTB ∧ Cond.code Lib.Math.min.name Lib.Math.min.code 2 (some .int) ∈ lw_tbl) (hw : Nat.ble (xcs rest) 8 = true) (h : XW g l y (d + 1) (pc + 3) lx (xi (if b < a then b else a) :: rest) M Q) : XW g l y (d + 1) pc lx (xi b :: xi a :: rest) M Q := by
  intro p e R s m args below meth c H locs cells slots Qf ls hA hR hH hL hret
  have hts := hA.2.2.2.2.2.1
  exact va_mmin hA.1 hA.2.1 (hA.2.2.2.1.trans hL.1.symm) hA.2.2.2.2.1 (hts _ hl) (hts _ hz.1) (hts _ hz.2.1) (hts _ (xTB_of hz.2.2 rfl)) (by have := hR.1; omega) (by rw [xcs_eq]; have := hR.2.1; have := Nat.le_of_ble_eq_true hw; omega) hR.2.2.1 hR.2.2.2 hd (h p e R s m args below meth c H locs cells slots Qf ls hA hR hH hL hret)
theorem xw_acopy {idx k0 k1 n0 n1 : Nat} {sp dp n : Int32} {rest : List XV} (hd : decode y.2.1 pc = .ok (.invokestatic idx, 3)) (hl : Cond.methodLink y.1.cls idx arraycopyName ∈ xTB) (hz : Cond.native arraycopyName ∈ xTB ∧ Cond.static arraycopyName ∈ xTB ∧ Cond.initialized "java/lang/System" ∈ xTB) (hw : Nat.ble (xcs rest) 8 = true) (hs0 : xsh[k0]? = some (.inr (0, n0))) (hs1 : xsh[k1]? = some (.inr (0, n1)))
    (h1 : ¬ sp < 0) (h2 : ¬ dp < 0) (h3 : ¬ n < 0) (h4 : sp.toNatClampNeg + n.toNatClampNeg ≤ n0) (h5 : dp.toNatClampNeg + n.toNatClampNeg ≤ n1) (h : XW g l y (d + 1) (pc + 3) lx rest (xum M k1 (va_cpy (M.1 k0) (M.1 k1) sp.toNatClampNeg dp.toNatClampNeg n.toNatClampNeg)) Q) : XW g l y (d + 1) pc lx (xi n :: xi dp :: xr k1 :: xi sp :: xr k0 :: rest) M Q := by
  intro p e R s m args below meth c H locs cells slots Qf ls hA hR hH hL hret
  have hts := hA.2.2.2.2.2.1
  have e9 : nativeFrameWords "java/lang/System" "arraycopy" 5 = 7 := by decide
  refine va_copyi (ty := .int) hA.1 hA.2.1 (hA.2.2.2.1.trans hL.1.symm) hA.2.2.2.2.1 (hts _ hl) (hts _ hz.1) (hts _ hz.2.1) (hts _ hz.2.2) hA.2.2.2.2.2.2.2.1 hH.1 hH.2.1 hH.2.2 k0 k1 0 0 (xws_atA hs0 (by decide)) (xws_atA hs1 (by decide)) rfl rfl rfl h1 h2 h3 h4 h5 (fun _ _ => rfl) (by have := hR.1; omega) (by rw [xcs_eq]; have := hR.2.1; have := Nat.le_of_ble_eq_true hw; omega) hd (fun H1 locs1 hP hD hS => ?_)
  rw [xws_setA hs1 (by decide)] at hP hD
  exact h p e R s m args below meth c H1 locs1 cells slots Qf ls hA hR ⟨hP, hD, hS⟩ hL hret
end XRULES
end

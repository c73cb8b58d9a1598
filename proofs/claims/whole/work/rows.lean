section
/-! names and words: by program (wip/whole/gen01.py) out of the claim -/
/-- a private method of a class that the tables say can be made, by its rows of tables_1 -/
def lw_okq (q : MethodName × Nat) : Prop := (q.1.cls ≠ "java/lang/invoke/MethodHandle" ∧ q.1.cls ≠ "java/lang/invoke/VarHandle") ∧ Cond.instantiable q.1.cls q.2 ∈ tables_1 ∧ Cond.privateMethod q.1 ∈ tables_1 ∧ Cond.instanceMethod q.1 ∈ tables_1
theorem lw_p0 : lw_okq (⟨"SeenByOne", "refuse", "(I)I"⟩, 9) := ⟨⟨by decide +kernel, by decide +kernel⟩, List.mem_of_getElem? (i := 15) (by decide +kernel), List.mem_of_getElem? (i := 168) (by decide +kernel), List.mem_of_getElem? (i := 169) (by decide +kernel)⟩
theorem lw_p1 : lw_okq (⟨"SeenByOne", "lacksRow", "(I)I"⟩, 9) := ⟨⟨by decide +kernel, by decide +kernel⟩, List.mem_of_getElem? (i := 15) (by decide +kernel), List.mem_of_getElem? (i := 180) (by decide +kernel), List.mem_of_getElem? (i := 181) (by decide +kernel)⟩
theorem lw_p2 : lw_okq (⟨"SeenByOne", "lacksRows", "(II)I"⟩, 9) := ⟨⟨by decide +kernel, by decide +kernel⟩, List.mem_of_getElem? (i := 15) (by decide +kernel), List.mem_of_getElem? (i := 204) (by decide +kernel), List.mem_of_getElem? (i := 205) (by decide +kernel)⟩
theorem lw_p3 : lw_okq (⟨"SeenByOne", "wordOf", "(II)I"⟩, 9) := ⟨⟨by decide +kernel, by decide +kernel⟩, List.mem_of_getElem? (i := 15) (by decide +kernel), List.mem_of_getElem? (i := 247) (by decide +kernel), List.mem_of_getElem? (i := 248) (by decide +kernel)⟩
theorem lw_p4 : lw_okq (⟨"SeenByOne$Ground", "lookersInto", "(I)I"⟩, 13) := ⟨⟨by decide +kernel, by decide +kernel⟩, List.mem_of_getElem? (i := 25) (by decide +kernel), List.mem_of_getElem? (i := 261) (by decide +kernel), List.mem_of_getElem? (i := 262) (by decide +kernel)⟩
theorem lw_p5 : lw_okq (⟨"SeenByOne$Ground", "looksInto", "(II)Z"⟩, 13) := ⟨⟨by decide +kernel, by decide +kernel⟩, List.mem_of_getElem? (i := 25) (by decide +kernel), List.mem_of_getElem? (i := 265) (by decide +kernel), List.mem_of_getElem? (i := 266) (by decide +kernel)⟩
theorem lw_p6 : lw_okq (⟨"SeenByOne", "lacksSight", "(II)I"⟩, 9) := ⟨⟨by decide +kernel, by decide +kernel⟩, List.mem_of_getElem? (i := 15) (by decide +kernel), List.mem_of_getElem? (i := 372) (by decide +kernel), List.mem_of_getElem? (i := 373) (by decide +kernel)⟩
theorem lw_p7 : lw_okq (⟨"SeenByOne", "lacksHouses", "(II)I"⟩, 9) := ⟨⟨by decide +kernel, by decide +kernel⟩, List.mem_of_getElem? (i := 15) (by decide +kernel), List.mem_of_getElem? (i := 376) (by decide +kernel), List.mem_of_getElem? (i := 377) (by decide +kernel)⟩
theorem lw_p8 : lw_okq (⟨"SeenByOne", "lacksHouse", "(I)I"⟩, 9) := ⟨⟨by decide +kernel, by decide +kernel⟩, List.mem_of_getElem? (i := 15) (by decide +kernel), List.mem_of_getElem? (i := 385) (by decide +kernel), List.mem_of_getElem? (i := 386) (by decide +kernel)⟩
theorem lw_p9 : lw_okq (⟨"SeenByOne$Reader", "readItem", "()V"⟩, 5) := ⟨⟨by decide +kernel, by decide +kernel⟩, List.mem_of_getElem? (i := 398) (by decide +kernel), List.mem_of_getElem? (i := 425) (by decide +kernel), List.mem_of_getElem? (i := 426) (by decide +kernel)⟩
theorem lw_p10 : lw_okq (⟨"SeenByOne$Reader", "readWord", "()I"⟩, 5) := ⟨⟨by decide +kernel, by decide +kernel⟩, List.mem_of_getElem? (i := 398) (by decide +kernel), List.mem_of_getElem? (i := 429) (by decide +kernel), List.mem_of_getElem? (i := 430) (by decide +kernel)⟩
theorem lw_p11 : lw_okq (⟨"SeenByOne$Reader", "sameLetters", "(Ljava/lang/String;)I"⟩, 5) := ⟨⟨by decide +kernel, by decide +kernel⟩, List.mem_of_getElem? (i := 398) (by decide +kernel), List.mem_of_getElem? (i := 441) (by decide +kernel), List.mem_of_getElem? (i := 442) (by decide +kernel)⟩
theorem lw_p12 : lw_okq (⟨"SeenByOne$Reader", "signAt", "(I)I"⟩, 5) := ⟨⟨by decide +kernel, by decide +kernel⟩, List.mem_of_getElem? (i := 398) (by decide +kernel), List.mem_of_getElem? (i := 455) (by decide +kernel), List.mem_of_getElem? (i := 456) (by decide +kernel)⟩
theorem lw_p13 : lw_okq (⟨"SeenByOne$Reader", "faultAt", "(I)V"⟩, 5) := ⟨⟨by decide +kernel, by decide +kernel⟩, List.mem_of_getElem? (i := 398) (by decide +kernel), List.mem_of_getElem? (i := 498) (by decide +kernel), List.mem_of_getElem? (i := 499) (by decide +kernel)⟩
theorem lw_p14 : lw_okq (⟨"SeenByOne$Reader", "readThing", "(I)V"⟩, 5) := ⟨⟨by decide +kernel, by decide +kernel⟩, List.mem_of_getElem? (i := 398) (by decide +kernel), List.mem_of_getElem? (i := 502) (by decide +kernel), List.mem_of_getElem? (i := 503) (by decide +kernel)⟩
theorem lw_p15 : lw_okq (⟨"SeenByOne$Reader", "readNumber", "(II)I"⟩, 5) := ⟨⟨by decide +kernel, by decide +kernel⟩, List.mem_of_getElem? (i := 398) (by decide +kernel), List.mem_of_getElem? (i := 507) (by decide +kernel), List.mem_of_getElem? (i := 508) (by decide +kernel)⟩
def lw_privs_1 : List (MethodName × Nat) := [(⟨"SeenByOne", "refuse", "(I)I"⟩, 9), (⟨"SeenByOne", "lacksRow", "(I)I"⟩, 9), (⟨"SeenByOne", "lacksRows", "(II)I"⟩, 9), (⟨"SeenByOne", "wordOf", "(II)I"⟩, 9), (⟨"SeenByOne$Ground", "lookersInto", "(I)I"⟩, 13), (⟨"SeenByOne$Ground", "looksInto", "(II)Z"⟩, 13), (⟨"SeenByOne", "lacksSight", "(II)I"⟩, 9), (⟨"SeenByOne", "lacksHouses", "(II)I"⟩, 9), (⟨"SeenByOne", "lacksHouse", "(I)I"⟩, 9), (⟨"SeenByOne$Reader", "readItem", "()V"⟩, 5), (⟨"SeenByOne$Reader", "readWord", "()I"⟩, 5), (⟨"SeenByOne$Reader", "sameLetters", "(Ljava/lang/String;)I"⟩, 5), (⟨"SeenByOne$Reader", "signAt", "(I)I"⟩, 5), (⟨"SeenByOne$Reader", "faultAt", "(I)V"⟩, 5), (⟨"SeenByOne$Reader", "readThing", "(I)V"⟩, 5), (⟨"SeenByOne$Reader", "readNumber", "(II)I"⟩, 5)]
theorem lw_r1 : ∀ q ∈ lw_privs_1, lw_okq q := List.forall_mem_cons.mpr ⟨lw_p0, List.forall_mem_cons.mpr ⟨lw_p1, List.forall_mem_cons.mpr ⟨lw_p2, List.forall_mem_cons.mpr ⟨lw_p3, List.forall_mem_cons.mpr ⟨lw_p4, List.forall_mem_cons.mpr ⟨lw_p5, List.forall_mem_cons.mpr ⟨lw_p6, List.forall_mem_cons.mpr ⟨lw_p7, List.forall_mem_cons.mpr ⟨lw_p8, List.forall_mem_cons.mpr ⟨lw_p9, List.forall_mem_cons.mpr ⟨lw_p10, List.forall_mem_cons.mpr ⟨lw_p11, List.forall_mem_cons.mpr ⟨lw_p12, List.forall_mem_cons.mpr ⟨lw_p13, List.forall_mem_cons.mpr ⟨lw_p14, List.forall_mem_cons.mpr ⟨lw_p15, fun _ h => absurd h List.not_mem_nil⟩⟩⟩⟩⟩⟩⟩⟩⟩⟩⟩⟩⟩⟩⟩⟩
theorem lw_p16 : lw_okq (⟨"SeenByOne$Reader", "readSign", "(C)V"⟩, 5) := ⟨⟨by decide +kernel, by decide +kernel⟩, List.mem_of_getElem? (i := 398) (by decide +kernel), List.mem_of_getElem? (i := 511) (by decide +kernel), List.mem_of_getElem? (i := 512) (by decide +kernel)⟩
theorem lw_p17 : lw_okq (⟨"SeenByOne$Reader", "digitAt", "(I)I"⟩, 5) := ⟨⟨by decide +kernel, by decide +kernel⟩, List.mem_of_getElem? (i := 398) (by decide +kernel), List.mem_of_getElem? (i := 515) (by decide +kernel), List.mem_of_getElem? (i := 516) (by decide +kernel)⟩
theorem lw_p18 : lw_okq (⟨"SeenByOne$Reader", "readHouse", "(I)I"⟩, 5) := ⟨⟨by decide +kernel, by decide +kernel⟩, List.mem_of_getElem? (i := 398) (by decide +kernel), List.mem_of_getElem? (i := 521) (by decide +kernel), List.mem_of_getElem? (i := 522) (by decide +kernel)⟩
theorem lw_p19 : lw_okq (⟨"SeenByOne$Reader", "tellShut", "(II)V"⟩, 5) := ⟨⟨by decide +kernel, by decide +kernel⟩, List.mem_of_getElem? (i := 398) (by decide +kernel), List.mem_of_getElem? (i := 526) (by decide +kernel), List.mem_of_getElem? (i := 527) (by decide +kernel)⟩
theorem lw_p20 : lw_okq (⟨"SeenByOne$Reader", "tellDrawn", "(I)V"⟩, 5) := ⟨⟨by decide +kernel, by decide +kernel⟩, List.mem_of_getElem? (i := 398) (by decide +kernel), List.mem_of_getElem? (i := 531) (by decide +kernel), List.mem_of_getElem? (i := 532) (by decide +kernel)⟩
theorem lw_p21 : lw_okq (⟨"SeenByOne", "addRightWhenDrawn", "(I)V"⟩, 9) := ⟨⟨by decide +kernel, by decide +kernel⟩, List.mem_of_getElem? (i := 15) (by decide +kernel), List.mem_of_getElem? (i := 613) (by decide +kernel), List.mem_of_getElem? (i := 614) (by decide +kernel)⟩
theorem lw_p22 : lw_okq (⟨"SeenByOne", "bestDrawnSet", "()I"⟩, 9) := ⟨⟨by decide +kernel, by decide +kernel⟩, List.mem_of_getElem? (i := 15) (by decide +kernel), List.mem_of_getElem? (i := 622) (by decide +kernel), List.mem_of_getElem? (i := 623) (by decide +kernel)⟩
theorem lw_p23 : lw_okq (⟨"SeenByOne", "rightWithNewHouse", "(III)I"⟩, 9) := ⟨⟨by decide +kernel, by decide +kernel⟩, List.mem_of_getElem? (i := 15) (by decide +kernel), List.mem_of_getElem? (i := 630) (by decide +kernel), List.mem_of_getElem? (i := 631) (by decide +kernel)⟩
theorem lw_p24 : lw_okq (⟨"SeenByOne", "lacksStorey", "(I)I"⟩, 9) := ⟨⟨by decide +kernel, by decide +kernel⟩, List.mem_of_getElem? (i := 15) (by decide +kernel), List.mem_of_getElem? (i := 642) (by decide +kernel), List.mem_of_getElem? (i := 643) (by decide +kernel)⟩
theorem lw_p25 : lw_okq (⟨"SeenByOne", "tryStorey", "(I)V"⟩, 9) := ⟨⟨by decide +kernel, by decide +kernel⟩, List.mem_of_getElem? (i := 15) (by decide +kernel), List.mem_of_getElem? (i := 646) (by decide +kernel), List.mem_of_getElem? (i := 647) (by decide +kernel)⟩
theorem lw_p26 : lw_okq (⟨"SeenByOne", "fitsIn", "(LSeenByOne$Shelf;I)I"⟩, 9) := ⟨⟨by decide +kernel, by decide +kernel⟩, List.mem_of_getElem? (i := 15) (by decide +kernel), List.mem_of_getElem? (i := 696) (by decide +kernel), List.mem_of_getElem? (i := 697) (by decide +kernel)⟩
theorem lw_p27 : lw_okq (⟨"SeenByOne$Ground", "drawGrowth", "()I"⟩, 13) := ⟨⟨by decide +kernel, by decide +kernel⟩, List.mem_of_getElem? (i := 25) (by decide +kernel), List.mem_of_getElem? (i := 726) (by decide +kernel), List.mem_of_getElem? (i := 727) (by decide +kernel)⟩
theorem lw_p28 : lw_okq (⟨"SeenByOne$Acts", "begins", "(I)V"⟩, 5) := ⟨⟨by decide +kernel, by decide +kernel⟩, List.mem_of_getElem? (i := 89) (by decide +kernel), List.mem_of_getElem? (i := 756) (by decide +kernel), List.mem_of_getElem? (i := 757) (by decide +kernel)⟩
theorem lw_p29 : lw_okq (⟨"SeenByOneModel", "isShelf", "(I)Z"⟩, 38) := ⟨⟨by decide +kernel, by decide +kernel⟩, List.mem_of_getElem? (i := 792) (by decide +kernel), List.mem_of_getElem? (i := 917) (by decide +kernel), List.mem_of_getElem? (i := 918) (by decide +kernel)⟩
theorem lw_p30 : lw_okq (⟨"SeenByOneModel", "no", "(I)I"⟩, 38) := ⟨⟨by decide +kernel, by decide +kernel⟩, List.mem_of_getElem? (i := 792) (by decide +kernel), List.mem_of_getElem? (i := 921) (by decide +kernel), List.mem_of_getElem? (i := 922) (by decide +kernel)⟩
theorem lw_p31 : lw_okq (⟨"SeenByOneModel", "isThing", "(I)Z"⟩, 38) := ⟨⟨by decide +kernel, by decide +kernel⟩, List.mem_of_getElem? (i := 792) (by decide +kernel), List.mem_of_getElem? (i := 941) (by decide +kernel), List.mem_of_getElem? (i := 942) (by decide +kernel)⟩
def lw_privs_2 : List (MethodName × Nat) := [(⟨"SeenByOne$Reader", "readSign", "(C)V"⟩, 5), (⟨"SeenByOne$Reader", "digitAt", "(I)I"⟩, 5), (⟨"SeenByOne$Reader", "readHouse", "(I)I"⟩, 5), (⟨"SeenByOne$Reader", "tellShut", "(II)V"⟩, 5), (⟨"SeenByOne$Reader", "tellDrawn", "(I)V"⟩, 5), (⟨"SeenByOne", "addRightWhenDrawn", "(I)V"⟩, 9), (⟨"SeenByOne", "bestDrawnSet", "()I"⟩, 9), (⟨"SeenByOne", "rightWithNewHouse", "(III)I"⟩, 9), (⟨"SeenByOne", "lacksStorey", "(I)I"⟩, 9), (⟨"SeenByOne", "tryStorey", "(I)V"⟩, 9), (⟨"SeenByOne", "fitsIn", "(LSeenByOne$Shelf;I)I"⟩, 9), (⟨"SeenByOne$Ground", "drawGrowth", "()I"⟩, 13), (⟨"SeenByOne$Acts", "begins", "(I)V"⟩, 5), (⟨"SeenByOneModel", "isShelf", "(I)Z"⟩, 38), (⟨"SeenByOneModel", "no", "(I)I"⟩, 38), (⟨"SeenByOneModel", "isThing", "(I)Z"⟩, 38)]
theorem lw_r2 : ∀ q ∈ lw_privs_2, lw_okq q := List.forall_mem_cons.mpr ⟨lw_p16, List.forall_mem_cons.mpr ⟨lw_p17, List.forall_mem_cons.mpr ⟨lw_p18, List.forall_mem_cons.mpr ⟨lw_p19, List.forall_mem_cons.mpr ⟨lw_p20, List.forall_mem_cons.mpr ⟨lw_p21, List.forall_mem_cons.mpr ⟨lw_p22, List.forall_mem_cons.mpr ⟨lw_p23, List.forall_mem_cons.mpr ⟨lw_p24, List.forall_mem_cons.mpr ⟨lw_p25, List.forall_mem_cons.mpr ⟨lw_p26, List.forall_mem_cons.mpr ⟨lw_p27, List.forall_mem_cons.mpr ⟨lw_p28, List.forall_mem_cons.mpr ⟨lw_p29, List.forall_mem_cons.mpr ⟨lw_p30, List.forall_mem_cons.mpr ⟨lw_p31, fun _ h => absurd h List.not_mem_nil⟩⟩⟩⟩⟩⟩⟩⟩⟩⟩⟩⟩⟩⟩⟩⟩
theorem lw_p32 : lw_okq (⟨"SeenByOneModel", "isHouse", "(I)Z"⟩, 38) := ⟨⟨by decide +kernel, by decide +kernel⟩, List.mem_of_getElem? (i := 792) (by decide +kernel), List.mem_of_getElem? (i := 953) (by decide +kernel), List.mem_of_getElem? (i := 954) (by decide +kernel)⟩
theorem lw_p33 : lw_okq (⟨"SeenByOneModel", "tall", "(I)I"⟩, 38) := ⟨⟨by decide +kernel, by decide +kernel⟩, List.mem_of_getElem? (i := 792) (by decide +kernel), List.mem_of_getElem? (i := 957) (by decide +kernel), List.mem_of_getElem? (i := 958) (by decide +kernel)⟩
theorem lw_p34 : lw_okq (⟨"SeenByOneModel", "seersOf", "(I)I"⟩, 38) := ⟨⟨by decide +kernel, by decide +kernel⟩, List.mem_of_getElem? (i := 792) (by decide +kernel), List.mem_of_getElem? (i := 961) (by decide +kernel), List.mem_of_getElem? (i := 962) (by decide +kernel)⟩
theorem lw_p35 : lw_okq (⟨"SeenByOneModel", "seesInto", "(I)I"⟩, 38) := ⟨⟨by decide +kernel, by decide +kernel⟩, List.mem_of_getElem? (i := 792) (by decide +kernel), List.mem_of_getElem? (i := 965) (by decide +kernel), List.mem_of_getElem? (i := 966) (by decide +kernel)⟩
theorem lw_p36 : lw_okq (⟨"SeenByOneModel", "isSeen", "(II)Z"⟩, 38) := ⟨⟨by decide +kernel, by decide +kernel⟩, List.mem_of_getElem? (i := 792) (by decide +kernel), List.mem_of_getElem? (i := 969) (by decide +kernel), List.mem_of_getElem? (i := 970) (by decide +kernel)⟩
theorem lw_p37 : lw_okq (⟨"SeenByOneModel", "looks", "(II)Z"⟩, 38) := ⟨⟨by decide +kernel, by decide +kernel⟩, List.mem_of_getElem? (i := 792) (by decide +kernel), List.mem_of_getElem? (i := 973) (by decide +kernel), List.mem_of_getElem? (i := 974) (by decide +kernel)⟩
theorem lw_p38 : lw_okq (⟨"SeenByOneModel", "distance", "(II)I"⟩, 38) := ⟨⟨by decide +kernel, by decide +kernel⟩, List.mem_of_getElem? (i := 792) (by decide +kernel), List.mem_of_getElem? (i := 977) (by decide +kernel), List.mem_of_getElem? (i := 978) (by decide +kernel)⟩
theorem lw_p39 : lw_okq (⟨"SeenByOneModel", "sizeOf", "(I)I"⟩, 38) := ⟨⟨by decide +kernel, by decide +kernel⟩, List.mem_of_getElem? (i := 792) (by decide +kernel), List.mem_of_getElem? (i := 981) (by decide +kernel), List.mem_of_getElem? (i := 982) (by decide +kernel)⟩
theorem lw_p40 : lw_okq (⟨"SeenByOneModel", "inWay", "(II)I"⟩, 38) := ⟨⟨by decide +kernel, by decide +kernel⟩, List.mem_of_getElem? (i := 792) (by decide +kernel), List.mem_of_getElem? (i := 985) (by decide +kernel), List.mem_of_getElem? (i := 986) (by decide +kernel)⟩
theorem lw_p41 : lw_okq (⟨"SeenByOneModel", "divides", "(II)I"⟩, 38) := ⟨⟨by decide +kernel, by decide +kernel⟩, List.mem_of_getElem? (i := 792) (by decide +kernel), List.mem_of_getElem? (i := 989) (by decide +kernel), List.mem_of_getElem? (i := 990) (by decide +kernel)⟩
theorem lw_p42 : lw_okq (⟨"SeenByOneModel", "at", "(II)I"⟩, 38) := ⟨⟨by decide +kernel, by decide +kernel⟩, List.mem_of_getElem? (i := 792) (by decide +kernel), List.mem_of_getElem? (i := 993) (by decide +kernel), List.mem_of_getElem? (i := 994) (by decide +kernel)⟩
theorem lw_p43 : lw_okq (⟨"SeenByOneModel", "eyes", "(I)I"⟩, 38) := ⟨⟨by decide +kernel, by decide +kernel⟩, List.mem_of_getElem? (i := 792) (by decide +kernel), List.mem_of_getElem? (i := 997) (by decide +kernel), List.mem_of_getElem? (i := 998) (by decide +kernel)⟩
theorem lw_p44 : lw_okq (⟨"SeenByOneModel", "many", "(I)I"⟩, 38) := ⟨⟨by decide +kernel, by decide +kernel⟩, List.mem_of_getElem? (i := 792) (by decide +kernel), List.mem_of_getElem? (i := 1001) (by decide +kernel), List.mem_of_getElem? (i := 1002) (by decide +kernel)⟩
theorem lw_p45 : lw_okq (⟨"SeenByOneModel", "isRight", "(I)Z"⟩, 38) := ⟨⟨by decide +kernel, by decide +kernel⟩, List.mem_of_getElem? (i := 792) (by decide +kernel), List.mem_of_getElem? (i := 1005) (by decide +kernel), List.mem_of_getElem? (i := 1006) (by decide +kernel)⟩
theorem lw_p46 : lw_okq (⟨"SeenByOneModel", "adds", "(IIIII)I"⟩, 38) := ⟨⟨by decide +kernel, by decide +kernel⟩, List.mem_of_getElem? (i := 792) (by decide +kernel), List.mem_of_getElem? (i := 1013) (by decide +kernel), List.mem_of_getElem? (i := 1014) (by decide +kernel)⟩
theorem lw_p47 : lw_okq (⟨"SeenByOneModel", "barredTwo", "(II)I"⟩, 38) := ⟨⟨by decide +kernel, by decide +kernel⟩, List.mem_of_getElem? (i := 792) (by decide +kernel), List.mem_of_getElem? (i := 1033) (by decide +kernel), List.mem_of_getElem? (i := 1034) (by decide +kernel)⟩
def lw_privs_3 : List (MethodName × Nat) := [(⟨"SeenByOneModel", "isHouse", "(I)Z"⟩, 38), (⟨"SeenByOneModel", "tall", "(I)I"⟩, 38), (⟨"SeenByOneModel", "seersOf", "(I)I"⟩, 38), (⟨"SeenByOneModel", "seesInto", "(I)I"⟩, 38), (⟨"SeenByOneModel", "isSeen", "(II)Z"⟩, 38), (⟨"SeenByOneModel", "looks", "(II)Z"⟩, 38), (⟨"SeenByOneModel", "distance", "(II)I"⟩, 38), (⟨"SeenByOneModel", "sizeOf", "(I)I"⟩, 38), (⟨"SeenByOneModel", "inWay", "(II)I"⟩, 38), (⟨"SeenByOneModel", "divides", "(II)I"⟩, 38), (⟨"SeenByOneModel", "at", "(II)I"⟩, 38), (⟨"SeenByOneModel", "eyes", "(I)I"⟩, 38), (⟨"SeenByOneModel", "many", "(I)I"⟩, 38), (⟨"SeenByOneModel", "isRight", "(I)Z"⟩, 38), (⟨"SeenByOneModel", "adds", "(IIIII)I"⟩, 38), (⟨"SeenByOneModel", "barredTwo", "(II)I"⟩, 38)]
theorem lw_r3 : ∀ q ∈ lw_privs_3, lw_okq q := List.forall_mem_cons.mpr ⟨lw_p32, List.forall_mem_cons.mpr ⟨lw_p33, List.forall_mem_cons.mpr ⟨lw_p34, List.forall_mem_cons.mpr ⟨lw_p35, List.forall_mem_cons.mpr ⟨lw_p36, List.forall_mem_cons.mpr ⟨lw_p37, List.forall_mem_cons.mpr ⟨lw_p38, List.forall_mem_cons.mpr ⟨lw_p39, List.forall_mem_cons.mpr ⟨lw_p40, List.forall_mem_cons.mpr ⟨lw_p41, List.forall_mem_cons.mpr ⟨lw_p42, List.forall_mem_cons.mpr ⟨lw_p43, List.forall_mem_cons.mpr ⟨lw_p44, List.forall_mem_cons.mpr ⟨lw_p45, List.forall_mem_cons.mpr ⟨lw_p46, List.forall_mem_cons.mpr ⟨lw_p47, fun _ h => absurd h List.not_mem_nil⟩⟩⟩⟩⟩⟩⟩⟩⟩⟩⟩⟩⟩⟩⟩⟩
theorem lw_p48 : lw_okq (⟨"SeenByOneModel", "barred", "(I)I"⟩, 38) := ⟨⟨by decide +kernel, by decide +kernel⟩, List.mem_of_getElem? (i := 792) (by decide +kernel), List.mem_of_getElem? (i := 1041) (by decide +kernel), List.mem_of_getElem? (i := 1042) (by decide +kernel)⟩
theorem lw_p49 : lw_okq (⟨"SeenByOneModel", "wants", "(I)I"⟩, 38) := ⟨⟨by decide +kernel, by decide +kernel⟩, List.mem_of_getElem? (i := 792) (by decide +kernel), List.mem_of_getElem? (i := 1049) (by decide +kernel), List.mem_of_getElem? (i := 1050) (by decide +kernel)⟩
theorem lw_p50 : lw_okq (⟨"SeenByOneModel", "all", "([IZ)V"⟩, 38) := ⟨⟨by decide +kernel, by decide +kernel⟩, List.mem_of_getElem? (i := 792) (by decide +kernel), List.mem_of_getElem? (i := 1053) (by decide +kernel), List.mem_of_getElem? (i := 1054) (by decide +kernel)⟩
theorem lw_p51 : lw_okq (⟨"SeenByOneModel", "carries", "([I[IIZ)I"⟩, 38) := ⟨⟨by decide +kernel, by decide +kernel⟩, List.mem_of_getElem? (i := 792) (by decide +kernel), List.mem_of_getElem? (i := 1057) (by decide +kernel), List.mem_of_getElem? (i := 1058) (by decide +kernel)⟩
theorem lw_p52 : lw_okq (⟨"SeenByOneModel", "item", "()Z"⟩, 38) := ⟨⟨by decide +kernel, by decide +kernel⟩, List.mem_of_getElem? (i := 792) (by decide +kernel), List.mem_of_getElem? (i := 1061) (by decide +kernel), List.mem_of_getElem? (i := 1062) (by decide +kernel)⟩
theorem lw_p53 : lw_okq (⟨"SeenByOneModel", "isWordAt", "(I)Z"⟩, 38) := ⟨⟨by decide +kernel, by decide +kernel⟩, List.mem_of_getElem? (i := 792) (by decide +kernel), List.mem_of_getElem? (i := 1065) (by decide +kernel), List.mem_of_getElem? (i := 1066) (by decide +kernel)⟩
theorem lw_p54 : lw_okq (⟨"SeenByOneModel", "isFull", "(I)Z"⟩, 38) := ⟨⟨by decide +kernel, by decide +kernel⟩, List.mem_of_getElem? (i := 792) (by decide +kernel), List.mem_of_getElem? (i := 1069) (by decide +kernel), List.mem_of_getElem? (i := 1070) (by decide +kernel)⟩
theorem lw_p55 : lw_okq (⟨"SeenByOneModel", "wrong", "(I)Z"⟩, 38) := ⟨⟨by decide +kernel, by decide +kernel⟩, List.mem_of_getElem? (i := 792) (by decide +kernel), List.mem_of_getElem? (i := 1073) (by decide +kernel), List.mem_of_getElem? (i := 1074) (by decide +kernel)⟩
theorem lw_p56 : lw_okq (⟨"SeenByOneModel", "word", "()I"⟩, 38) := ⟨⟨by decide +kernel, by decide +kernel⟩, List.mem_of_getElem? (i := 792) (by decide +kernel), List.mem_of_getElem? (i := 1077) (by decide +kernel), List.mem_of_getElem? (i := 1078) (by decide +kernel)⟩
theorem lw_p57 : lw_okq (⟨"SeenByOneModel", "number", "()Z"⟩, 38) := ⟨⟨by decide +kernel, by decide +kernel⟩, List.mem_of_getElem? (i := 792) (by decide +kernel), List.mem_of_getElem? (i := 1081) (by decide +kernel), List.mem_of_getElem? (i := 1082) (by decide +kernel)⟩
theorem lw_p58 : lw_okq (⟨"SeenByOneModel", "isDigit", "()Z"⟩, 38) := ⟨⟨by decide +kernel, by decide +kernel⟩, List.mem_of_getElem? (i := 792) (by decide +kernel), List.mem_of_getElem? (i := 1085) (by decide +kernel), List.mem_of_getElem? (i := 1086) (by decide +kernel)⟩
theorem lw_p59 : lw_okq (⟨"SeenByOneModel", "isSo", "(II)Z"⟩, 38) := ⟨⟨by decide +kernel, by decide +kernel⟩, List.mem_of_getElem? (i := 792) (by decide +kernel), List.mem_of_getElem? (i := 1089) (by decide +kernel), List.mem_of_getElem? (i := 1090) (by decide +kernel)⟩
theorem lw_p60 : lw_okq (⟨"SeenByOneModel", "noTen", "(I)I"⟩, 38) := ⟨⟨by decide +kernel, by decide +kernel⟩, List.mem_of_getElem? (i := 792) (by decide +kernel), List.mem_of_getElem? (i := 1105) (by decide +kernel), List.mem_of_getElem? (i := 1106) (by decide +kernel)⟩
theorem lw_p61 : lw_okq (⟨"SeenByOneModel", "allRight", "()I"⟩, 38) := ⟨⟨by decide +kernel, by decide +kernel⟩, List.mem_of_getElem? (i := 792) (by decide +kernel), List.mem_of_getElem? (i := 1117) (by decide +kernel), List.mem_of_getElem? (i := 1118) (by decide +kernel)⟩
theorem lw_p62 : lw_okq (⟨"SeenByOneModel", "costOf", "(II)I"⟩, 38) := ⟨⟨by decide +kernel, by decide +kernel⟩, List.mem_of_getElem? (i := 792) (by decide +kernel), List.mem_of_getElem? (i := 1129) (by decide +kernel), List.mem_of_getElem? (i := 1130) (by decide +kernel)⟩
theorem lw_p63 : lw_okq (⟨"SeenByOneModel", "keptOf", "(I)I"⟩, 38) := ⟨⟨by decide +kernel, by decide +kernel⟩, List.mem_of_getElem? (i := 792) (by decide +kernel), List.mem_of_getElem? (i := 1137) (by decide +kernel), List.mem_of_getElem? (i := 1138) (by decide +kernel)⟩
def lw_privs_4 : List (MethodName × Nat) := [(⟨"SeenByOneModel", "barred", "(I)I"⟩, 38), (⟨"SeenByOneModel", "wants", "(I)I"⟩, 38), (⟨"SeenByOneModel", "all", "([IZ)V"⟩, 38), (⟨"SeenByOneModel", "carries", "([I[IIZ)I"⟩, 38), (⟨"SeenByOneModel", "item", "()Z"⟩, 38), (⟨"SeenByOneModel", "isWordAt", "(I)Z"⟩, 38), (⟨"SeenByOneModel", "isFull", "(I)Z"⟩, 38), (⟨"SeenByOneModel", "wrong", "(I)Z"⟩, 38), (⟨"SeenByOneModel", "word", "()I"⟩, 38), (⟨"SeenByOneModel", "number", "()Z"⟩, 38), (⟨"SeenByOneModel", "isDigit", "()Z"⟩, 38), (⟨"SeenByOneModel", "isSo", "(II)Z"⟩, 38), (⟨"SeenByOneModel", "noTen", "(I)I"⟩, 38), (⟨"SeenByOneModel", "allRight", "()I"⟩, 38), (⟨"SeenByOneModel", "costOf", "(II)I"⟩, 38), (⟨"SeenByOneModel", "keptOf", "(I)I"⟩, 38)]
theorem lw_r4 : ∀ q ∈ lw_privs_4, lw_okq q := List.forall_mem_cons.mpr ⟨lw_p48, List.forall_mem_cons.mpr ⟨lw_p49, List.forall_mem_cons.mpr ⟨lw_p50, List.forall_mem_cons.mpr ⟨lw_p51, List.forall_mem_cons.mpr ⟨lw_p52, List.forall_mem_cons.mpr ⟨lw_p53, List.forall_mem_cons.mpr ⟨lw_p54, List.forall_mem_cons.mpr ⟨lw_p55, List.forall_mem_cons.mpr ⟨lw_p56, List.forall_mem_cons.mpr ⟨lw_p57, List.forall_mem_cons.mpr ⟨lw_p58, List.forall_mem_cons.mpr ⟨lw_p59, List.forall_mem_cons.mpr ⟨lw_p60, List.forall_mem_cons.mpr ⟨lw_p61, List.forall_mem_cons.mpr ⟨lw_p62, List.forall_mem_cons.mpr ⟨lw_p63, fun _ h => absurd h List.not_mem_nil⟩⟩⟩⟩⟩⟩⟩⟩⟩⟩⟩⟩⟩⟩⟩⟩
theorem lw_p64 : lw_okq (⟨"SeenByOneModel", "shutters", "(Z)V"⟩, 38) := ⟨⟨by decide +kernel, by decide +kernel⟩, List.mem_of_getElem? (i := 792) (by decide +kernel), List.mem_of_getElem? (i := 1145) (by decide +kernel), List.mem_of_getElem? (i := 1146) (by decide +kernel)⟩
theorem lw_p65 : lw_okq (⟨"SeenByOneModel", "drawnOnes", "()I"⟩, 38) := ⟨⟨by decide +kernel, by decide +kernel⟩, List.mem_of_getElem? (i := 792) (by decide +kernel), List.mem_of_getElem? (i := 1153) (by decide +kernel), List.mem_of_getElem? (i := 1154) (by decide +kernel)⟩
theorem lw_p66 : lw_okq (⟨"SeenByOneModel", "houses", "()I"⟩, 38) := ⟨⟨by decide +kernel, by decide +kernel⟩, List.mem_of_getElem? (i := 792) (by decide +kernel), List.mem_of_getElem? (i := 1157) (by decide +kernel), List.mem_of_getElem? (i := 1158) (by decide +kernel)⟩
theorem lw_p67 : lw_okq (⟨"SeenByOneModel", "draws", "(I)V"⟩, 38) := ⟨⟨by decide +kernel, by decide +kernel⟩, List.mem_of_getElem? (i := 792) (by decide +kernel), List.mem_of_getElem? (i := 1161) (by decide +kernel), List.mem_of_getElem? (i := 1162) (by decide +kernel)⟩
theorem lw_p68 : lw_okq (⟨"SeenByOneModel", "rightInBoth", "()I"⟩, 38) := ⟨⟨by decide +kernel, by decide +kernel⟩, List.mem_of_getElem? (i := 792) (by decide +kernel), List.mem_of_getElem? (i := 1165) (by decide +kernel), List.mem_of_getElem? (i := 1166) (by decide +kernel)⟩
theorem lw_p69 : lw_okq (⟨"SeenByOneModel", "noMuch", "(I)I"⟩, 38) := ⟨⟨by decide +kernel, by decide +kernel⟩, List.mem_of_getElem? (i := 792) (by decide +kernel), List.mem_of_getElem? (i := 1177) (by decide +kernel), List.mem_of_getElem? (i := 1178) (by decide +kernel)⟩
theorem lw_p70 : lw_okq (⟨"SeenByOneModel", "firstOf", "(I)I"⟩, 38) := ⟨⟨by decide +kernel, by decide +kernel⟩, List.mem_of_getElem? (i := 792) (by decide +kernel), List.mem_of_getElem? (i := 1197) (by decide +kernel), List.mem_of_getElem? (i := 1198) (by decide +kernel)⟩
theorem lw_p71 : lw_okq (⟨"SeenByOneModel", "lists", "(I)V"⟩, 38) := ⟨⟨by decide +kernel, by decide +kernel⟩, List.mem_of_getElem? (i := 792) (by decide +kernel), List.mem_of_getElem? (i := 1209) (by decide +kernel), List.mem_of_getElem? (i := 1210) (by decide +kernel)⟩
theorem lw_p72 : lw_okq (⟨"SeenByOneModel", "intAt", "(II)I"⟩, 38) := ⟨⟨by decide +kernel, by decide +kernel⟩, List.mem_of_getElem? (i := 792) (by decide +kernel), List.mem_of_getElem? (i := 1213) (by decide +kernel), List.mem_of_getElem? (i := 1214) (by decide +kernel)⟩
theorem lw_p73 : lw_okq (⟨"SeenByOneModel", "shutMany", "()I"⟩, 38) := ⟨⟨by decide +kernel, by decide +kernel⟩, List.mem_of_getElem? (i := 792) (by decide +kernel), List.mem_of_getElem? (i := 1229) (by decide +kernel), List.mem_of_getElem? (i := 1230) (by decide +kernel)⟩
theorem lw_p74 : lw_okq (⟨"SeenByOneModel", "draws3", "()I"⟩, 38) := ⟨⟨by decide +kernel, by decide +kernel⟩, List.mem_of_getElem? (i := 792) (by decide +kernel), List.mem_of_getElem? (i := 1237) (by decide +kernel), List.mem_of_getElem? (i := 1238) (by decide +kernel)⟩
theorem lw_p75 : lw_okq (⟨"SeenByOneModel", "standing", "(II)I"⟩, 38) := ⟨⟨by decide +kernel, by decide +kernel⟩, List.mem_of_getElem? (i := 792) (by decide +kernel), List.mem_of_getElem? (i := 1250) (by decide +kernel), List.mem_of_getElem? (i := 1251) (by decide +kernel)⟩
theorem lw_p76 : lw_okq (⟨"SeenByOneModel", "body", "(I)V"⟩, 38) := ⟨⟨by decide +kernel, by decide +kernel⟩, List.mem_of_getElem? (i := 792) (by decide +kernel), List.mem_of_getElem? (i := 1254) (by decide +kernel), List.mem_of_getElem? (i := 1255) (by decide +kernel)⟩
theorem lw_p77 : lw_okq (⟨"SeenByOneModel", "looking", "(II)I"⟩, 38) := ⟨⟨by decide +kernel, by decide +kernel⟩, List.mem_of_getElem? (i := 792) (by decide +kernel), List.mem_of_getElem? (i := 1258) (by decide +kernel), List.mem_of_getElem? (i := 1259) (by decide +kernel)⟩
theorem lw_p78 : lw_okq (⟨"SeenByOneModel", "hiding", "(II)I"⟩, 38) := ⟨⟨by decide +kernel, by decide +kernel⟩, List.mem_of_getElem? (i := 792) (by decide +kernel), List.mem_of_getElem? (i := 1262) (by decide +kernel), List.mem_of_getElem? (i := 1263) (by decide +kernel)⟩
def lw_privs_5 : List (MethodName × Nat) := [(⟨"SeenByOneModel", "shutters", "(Z)V"⟩, 38), (⟨"SeenByOneModel", "drawnOnes", "()I"⟩, 38), (⟨"SeenByOneModel", "houses", "()I"⟩, 38), (⟨"SeenByOneModel", "draws", "(I)V"⟩, 38), (⟨"SeenByOneModel", "rightInBoth", "()I"⟩, 38), (⟨"SeenByOneModel", "noMuch", "(I)I"⟩, 38), (⟨"SeenByOneModel", "firstOf", "(I)I"⟩, 38), (⟨"SeenByOneModel", "lists", "(I)V"⟩, 38), (⟨"SeenByOneModel", "intAt", "(II)I"⟩, 38), (⟨"SeenByOneModel", "shutMany", "()I"⟩, 38), (⟨"SeenByOneModel", "draws3", "()I"⟩, 38), (⟨"SeenByOneModel", "standing", "(II)I"⟩, 38), (⟨"SeenByOneModel", "body", "(I)V"⟩, 38), (⟨"SeenByOneModel", "looking", "(II)I"⟩, 38), (⟨"SeenByOneModel", "hiding", "(II)I"⟩, 38)]
theorem lw_r5 : ∀ q ∈ lw_privs_5, lw_okq q := List.forall_mem_cons.mpr ⟨lw_p64, List.forall_mem_cons.mpr ⟨lw_p65, List.forall_mem_cons.mpr ⟨lw_p66, List.forall_mem_cons.mpr ⟨lw_p67, List.forall_mem_cons.mpr ⟨lw_p68, List.forall_mem_cons.mpr ⟨lw_p69, List.forall_mem_cons.mpr ⟨lw_p70, List.forall_mem_cons.mpr ⟨lw_p71, List.forall_mem_cons.mpr ⟨lw_p72, List.forall_mem_cons.mpr ⟨lw_p73, List.forall_mem_cons.mpr ⟨lw_p74, List.forall_mem_cons.mpr ⟨lw_p75, List.forall_mem_cons.mpr ⟨lw_p76, List.forall_mem_cons.mpr ⟨lw_p77, List.forall_mem_cons.mpr ⟨lw_p78, fun _ h => absurd h List.not_mem_nil⟩⟩⟩⟩⟩⟩⟩⟩⟩⟩⟩⟩⟩⟩⟩
def lw_privs : List (MethodName × Nat) := lw_privs_1 ++ (lw_privs_2 ++ (lw_privs_3 ++ (lw_privs_4 ++ (lw_privs_5))))
def lw_tbl : List Cond := k2_sels lw_privs ++ tables_1
theorem lw_privs_ok : ∀ q ∈ lw_privs, lw_okq q := by
  show ∀ q ∈ lw_privs_1 ++ (lw_privs_2 ++ (lw_privs_3 ++ (lw_privs_4 ++ (lw_privs_5)))), lw_okq q
  exact List.forall_mem_append.mpr ⟨lw_r1, List.forall_mem_append.mpr ⟨lw_r2, List.forall_mem_append.mpr ⟨lw_r3, List.forall_mem_append.mpr ⟨lw_r4, lw_r5⟩⟩⟩⟩
def RX0 : String := "SeenByOne$Acts"
def TX0 : u_T := fun k => match k with
  | 0 => ("SeenByOne$Acts", "bodies", "[I", true)
  | 1 => ("SeenByOne$Acts", "kind", "I", false)
  | 2 => ("SeenByOne$Acts", "m", "I", false)
  | 3 => ("SeenByOne$Acts", "k", "I", false)
  | _ => ("SeenByOne$Acts", "ran", "I", false)
def tyX0 : Nat → FieldType := fun k => match k with
  | 0 => .array .int
  | 1 => .int
  | 2 => .int
  | 3 => .int
  | _ => .int
abbrev wsX00 : List Cond := u_ws RX0 TX0 5
theorem nmX0 : ∀ a, a < 5 → ∀ b, b < 5 → a ≠ b → (TX0 a).2.1 ≠ (TX0 b).2.1 := by decide +kernel
theorem tyX0_ok : ∀ k, k < 5 → parseFieldDescriptor (TX0 k).2.2.1 = some (tyX0 k) := by decide +kernel
abbrev cX0_init : ByteArray := prog_2_method_1_code
def yX0_init : MethodName := ⟨RX0, "<init>", "()V"⟩
abbrev cX0_forget : ByteArray := prog_2_method_2_code
def yX0_forget : MethodName := ⟨RX0, "forget", "()V"⟩
abbrev cX0_actor : ByteArray := prog_2_method_3_code
def yX0_actor : MethodName := ⟨RX0, "actor", "(III)V"⟩
abbrev cX0_bodyAt : ByteArray := prog_2_method_4_code
def yX0_bodyAt : MethodName := ⟨RX0, "bodyAt", "(I)I"⟩
abbrev cX0_begins : ByteArray := prog_2_method_5_code
def yX0_begins : MethodName := ⟨RX0, "begins", "(I)V"⟩
abbrev cX0_stands : ByteArray := prog_2_method_6_code
def yX0_stands : MethodName := ⟨RX0, "stands", "(I)I"⟩
abbrev cX0_looks : ByteArray := prog_2_method_7_code
def yX0_looks : MethodName := ⟨RX0, "looks", "(I)I"⟩
abbrev cX0_hides : ByteArray := prog_2_method_8_code
def yX0_hides : MethodName := ⟨RX0, "hides", "(I)I"⟩
def RX1 : String := "SeenByOne$Ground"
def TX1 : u_T := fun k => match k with
  | 0 => ("SeenByOne$Ground", "count", "I", false)
  | 1 => ("SeenByOne$Ground", "summer", "I", false)
  | 2 => ("SeenByOne$Ground", "far", "I", false)
  | 3 => ("SeenByOne$Ground", "drawn", "I", false)
  | 4 => ("SeenByOne$Ground", "fines", "I", false)
  | 5 => ("SeenByOne$Ground", "seed", "I", false)
  | 6 => ("SeenByOne$Ground", "kinds", "[I", true)
  | 7 => ("SeenByOne$Ground", "xs", "[I", true)
  | 8 => ("SeenByOne$Ground", "ys", "[I", true)
  | 9 => ("SeenByOne$Ground", "heights", "[I", true)
  | 10 => ("SeenByOne$Ground", "as", "[I", true)
  | 11 => ("SeenByOne$Ground", "shutInto", "[I", true)
  | _ => ("SeenByOne$Ground", "lookers", "[I", true)
def tyX1 : Nat → FieldType := fun k => match k with
  | 0 => .int
  | 1 => .int
  | 2 => .int
  | 3 => .int
  | 4 => .int
  | 5 => .int
  | 6 => .array .int
  | 7 => .array .int
  | 8 => .array .int
  | 9 => .array .int
  | 10 => .array .int
  | 11 => .array .int
  | _ => .array .int
abbrev wsX10 : List Cond := u_ws RX1 TX1 13
theorem nmX1 : ∀ a, a < 13 → ∀ b, b < 13 → a ≠ b → (TX1 a).2.1 ≠ (TX1 b).2.1 := by decide +kernel
theorem tyX1_ok : ∀ k, k < 13 → parseFieldDescriptor (TX1 k).2.2.1 = some (tyX1 k) := by decide +kernel
abbrev cX1_init : ByteArray := prog_3_method_1_code
def yX1_init : MethodName := ⟨RX1, "<init>", "()V"⟩
abbrev cX1_copyFrom : ByteArray := prog_3_method_2_code
def yX1_copyFrom : MethodName := ⟨RX1, "copyFrom", "(LSeenByOne$Ground;)V"⟩
abbrev cX1_has : ByteArray := prog_3_method_3_code
def yX1_has : MethodName := ⟨RX1, "has", "(I)Z"⟩
abbrev cX1_isHouse : ByteArray := prog_3_method_4_code
def yX1_isHouse : MethodName := ⟨RX1, "isHouse", "(I)Z"⟩
abbrev cX1_isFull : ByteArray := prog_3_method_5_code
def yX1_isFull : MethodName := ⟨RX1, "isFull", "()Z"⟩
abbrev cX1_thingAt : ByteArray := prog_3_method_6_code
def yX1_thingAt : MethodName := ⟨RX1, "thingAt", "(II)I"⟩
abbrev cX1_add : ByteArray := prog_3_method_7_code
def yX1_add : MethodName := ⟨RX1, "add", "(IIIII)I"⟩
abbrev cX1_dropLatest : ByteArray := prog_3_method_8_code
def yX1_dropLatest : MethodName := ⟨RX1, "dropLatest", "()V"⟩
abbrev cX1_takeAway : ByteArray := prog_3_method_9_code
def yX1_takeAway : MethodName := ⟨RX1, "takeAway", "(I)V"⟩
abbrev cX1_houses : ByteArray := prog_3_method_10_code
def yX1_houses : MethodName := ⟨RX1, "houses", "()I"⟩
abbrev cX1_towers : ByteArray := prog_3_method_11_code
def yX1_towers : MethodName := ⟨RX1, "towers", "()I"⟩
abbrev cX1_tallOf : ByteArray := prog_3_method_12_code
def yX1_tallOf : MethodName := ⟨RX1, "tallOf", "(I)I"⟩
abbrev cX1_eyesOf : ByteArray := prog_3_method_13_code
def yX1_eyesOf : MethodName := ⟨RX1, "eyesOf", "(I)I"⟩
abbrev cX1_distanceOf : ByteArray := prog_3_method_14_code
def yX1_distanceOf : MethodName := ⟨RX1, "distanceOf", "(II)I"⟩
abbrev cX1_lookAround : ByteArray := prog_3_method_15_code
def yX1_lookAround : MethodName := ⟨RX1, "lookAround", "()V"⟩
abbrev cX1_lookersInto : ByteArray := prog_3_method_16_code
def yX1_lookersInto : MethodName := ⟨RX1, "lookersInto", "(I)I"⟩
abbrev cX1_looksInto : ByteArray := prog_3_method_17_code
def yX1_looksInto : MethodName := ⟨RX1, "looksInto", "(II)Z"⟩
abbrev cX1_firstBar : ByteArray := prog_3_method_18_code
def yX1_firstBar : MethodName := ⟨RX1, "firstBar", "(II)I"⟩
abbrev cX1_greatestDivisor : ByteArray := prog_3_method_19_code
def yX1_greatestDivisor : MethodName := ⟨RX1, "greatestDivisor", "(II)I"⟩
abbrev cX1_lookersSeeing : ByteArray := prog_3_method_20_code
def yX1_lookersSeeing : MethodName := ⟨RX1, "lookersSeeing", "(I)I"⟩
abbrev cX1_seersOf : ByteArray := prog_3_method_21_code
def yX1_seersOf : MethodName := ⟨RX1, "seersOf", "(I)I"⟩
abbrev cX1_countSeenBy : ByteArray := prog_3_method_22_code
def yX1_countSeenBy : MethodName := ⟨RX1, "countSeenBy", "(I)I"⟩
abbrev cX1_rightHouses : ByteArray := prog_3_method_23_code
def yX1_rightHouses : MethodName := ⟨RX1, "rightHouses", "()I"⟩
abbrev cX1_countRight : ByteArray := prog_3_method_24_code
def yX1_countRight : MethodName := ⟨RX1, "countRight", "()I"⟩
abbrev cX1_countShutters : ByteArray := prog_3_method_25_code
def yX1_countShutters : MethodName := ⟨RX1, "countShutters", "()I"⟩
abbrev cX1_costOf : ByteArray := prog_3_method_26_code
def yX1_costOf : MethodName := ⟨RX1, "costOf", "(II)I"⟩
abbrev cX1_keptSeer : ByteArray := prog_3_method_27_code
def yX1_keptSeer : MethodName := ⟨RX1, "keptSeer", "(I)I"⟩
abbrev cX1_seersTooMany : ByteArray := prog_3_method_28_code
def yX1_seersTooMany : MethodName := ⟨RX1, "seersTooMany", "(I)I"⟩
abbrev cX1_hopelessHouses : ByteArray := prog_3_method_29_code
def yX1_hopelessHouses : MethodName := ⟨RX1, "hopelessHouses", "()I"⟩
abbrev cX1_cheapestShutters : ByteArray := prog_3_method_30_code
def yX1_cheapestShutters : MethodName := ⟨RX1, "cheapestShutters", "()I"⟩
abbrev cX1_cheapestCost : ByteArray := prog_3_method_31_code
def yX1_cheapestCost : MethodName := ⟨RX1, "cheapestCost", "()I"⟩
abbrev cX1_passYear : ByteArray := prog_3_method_32_code
def yX1_passYear : MethodName := ⟨RX1, "passYear", "()V"⟩
abbrev cX1_drawGrowth : ByteArray := prog_3_method_33_code
def yX1_drawGrowth : MethodName := ⟨RX1, "drawGrowth", "()I"⟩
def RX2 : String := "SeenByOne$Reader"
def TX2 : u_T := fun k => match k with
  | 0 => ("SeenByOne$Reader", "text", "LSeenByOne$Shelf;", true)
  | 1 => ("SeenByOne$Reader", "told", "LSeenByOne$Ground;", true)
  | 2 => ("SeenByOne$Reader", "place", "I", false)
  | 3 => ("SeenByOne$Reader", "firstDigit", "I", false)
  | _ => ("SeenByOne$Reader", "faultPlace", "I", false)
def tyX2 : Nat → FieldType := fun k => match k with
  | 0 => .object "SeenByOne$Shelf"
  | 1 => .object "SeenByOne$Ground"
  | 2 => .int
  | 3 => .int
  | _ => .int
abbrev wsX20 : List Cond := u_ws RX2 TX2 5
theorem nmX2 : ∀ a, a < 5 → ∀ b, b < 5 → a ≠ b → (TX2 a).2.1 ≠ (TX2 b).2.1 := by decide +kernel
theorem tyX2_ok : ∀ k, k < 5 → parseFieldDescriptor (TX2 k).2.2.1 = some (tyX2 k) := by decide +kernel
abbrev cX2_init : ByteArray := prog_4_method_1_code
def yX2_init : MethodName := ⟨RX2, "<init>", "(LSeenByOne$Shelf;LSeenByOne$Ground;)V"⟩
abbrev cX2_readItems : ByteArray := prog_4_method_2_code
def yX2_readItems : MethodName := ⟨RX2, "readItems", "()I"⟩
abbrev cX2_readItem : ByteArray := prog_4_method_3_code
def yX2_readItem : MethodName := ⟨RX2, "readItem", "()V"⟩
abbrev cX2_readThing : ByteArray := prog_4_method_4_code
def yX2_readThing : MethodName := ⟨RX2, "readThing", "(I)V"⟩
abbrev cX2_tellShut : ByteArray := prog_4_method_5_code
def yX2_tellShut : MethodName := ⟨RX2, "tellShut", "(II)V"⟩
abbrev cX2_tellDrawn : ByteArray := prog_4_method_6_code
def yX2_tellDrawn : MethodName := ⟨RX2, "tellDrawn", "(I)V"⟩
abbrev cX2_readHouse : ByteArray := prog_4_method_7_code
def yX2_readHouse : MethodName := ⟨RX2, "readHouse", "(I)I"⟩
abbrev cX2_readWord : ByteArray := prog_4_method_8_code
def yX2_readWord : MethodName := ⟨RX2, "readWord", "()I"⟩
abbrev cX2_lettersOf : ByteArray := prog_4_method_9_code
def yX2_lettersOf : MethodName := ⟨RX2, "lettersOf", "(I)Ljava/lang/String;"⟩
abbrev cX2_sameLetters : ByteArray := prog_4_method_10_code
def yX2_sameLetters : MethodName := ⟨RX2, "sameLetters", "(Ljava/lang/String;)I"⟩
abbrev cX2_readSign : ByteArray := prog_4_method_11_code
def yX2_readSign : MethodName := ⟨RX2, "readSign", "(C)V"⟩
abbrev cX2_readNumber : ByteArray := prog_4_method_12_code
def yX2_readNumber : MethodName := ⟨RX2, "readNumber", "(II)I"⟩
abbrev cX2_digitAt : ByteArray := prog_4_method_13_code
def yX2_digitAt : MethodName := ⟨RX2, "digitAt", "(I)I"⟩
abbrev cX2_signAt : ByteArray := prog_4_method_14_code
def yX2_signAt : MethodName := ⟨RX2, "signAt", "(I)I"⟩
abbrev cX2_faultAt : ByteArray := prog_4_method_15_code
def yX2_faultAt : MethodName := ⟨RX2, "faultAt", "(I)V"⟩
def RX3 : String := "SeenByOne$Shelf"
def TX3 : u_T := fun k => match k with
  | 0 => ("SeenByOne$Shelf", "held", "I", false)
  | 1 => ("SeenByOne$Shelf", "size", "I", false)
  | _ => ("SeenByOne$Shelf", "elements", "[J", true)
def tyX3 : Nat → FieldType := fun k => match k with
  | 0 => .int
  | 1 => .int
  | _ => .array .long
abbrev wsX30 : List Cond := u_ws RX3 TX3 3
theorem nmX3 : ∀ a, a < 3 → ∀ b, b < 3 → a ≠ b → (TX3 a).2.1 ≠ (TX3 b).2.1 := by decide +kernel
theorem tyX3_ok : ∀ k, k < 3 → parseFieldDescriptor (TX3 k).2.2.1 = some (tyX3 k) := by decide +kernel
abbrev cX3_init : ByteArray := prog_5_method_1_code
def yX3_init : MethodName := ⟨RX3, "<init>", "()V"⟩
abbrev cX3_holdsRow : ByteArray := prog_5_method_2_code
def yX3_holdsRow : MethodName := ⟨RX3, "holdsRow", "()Z"⟩
abbrev cX3_holdsThing : ByteArray := prog_5_method_3_code
def yX3_holdsThing : MethodName := ⟨RX3, "holdsThing", "()Z"⟩
abbrev cX3_becomeRow : ByteArray := prog_5_method_4_code
def yX3_becomeRow : MethodName := ⟨RX3, "becomeRow", "(II)V"⟩
abbrev cX3_hasElement : ByteArray := prog_5_method_5_code
def yX3_hasElement : MethodName := ⟨RX3, "hasElement", "(I)Z"⟩
abbrev cX3_hasElements : ByteArray := prog_5_method_6_code
def yX3_hasElements : MethodName := ⟨RX3, "hasElements", "(II)Z"⟩
abbrev cX3_put : ByteArray := prog_5_method_7_code
def yX3_put : MethodName := ⟨RX3, "put", "(IJ)V"⟩
abbrev cX3_intAt : ByteArray := prog_5_method_8_code
def yX3_intAt : MethodName := ⟨RX3, "intAt", "(I)I"⟩
def RX4 : String := "SeenByOne"
def TX4 : u_T := fun k => match k with
  | 0 => ("SeenByOne", "shelves", "[LSeenByOne$Shelf;", true)
  | 1 => ("SeenByOne", "ground", "LSeenByOne$Ground;", true)
  | 2 => ("SeenByOne", "image", "LSeenByOne$Ground;", true)
  | 3 => ("SeenByOne", "trial", "LSeenByOne$Ground;", true)
  | 4 => ("SeenByOne", "acts", "LSeenByOne$Acts;", true)
  | 5 => ("SeenByOne", "refusals", "[I", true)
  | 6 => ("SeenByOne", "rightWhenDrawn", "[I", true)
  | 7 => ("SeenByOne", "hasImage", "Z", false)
  | _ => ("SeenByOne", "latestFault", "I", false)
def tyX4 : Nat → FieldType := fun k => match k with
  | 0 => .array (.object "SeenByOne$Shelf")
  | 1 => .object "SeenByOne$Ground"
  | 2 => .object "SeenByOne$Ground"
  | 3 => .object "SeenByOne$Ground"
  | 4 => .object "SeenByOne$Acts"
  | 5 => .array .int
  | 6 => .array .int
  | 7 => .boolean
  | _ => .int
abbrev wsX40 : List Cond := u_ws RX4 TX4 9
theorem nmX4 : ∀ a, a < 9 → ∀ b, b < 9 → a ≠ b → (TX4 a).2.1 ≠ (TX4 b).2.1 := by decide +kernel
theorem tyX4_ok : ∀ k, k < 9 → parseFieldDescriptor (TX4 k).2.2.1 = some (tyX4 k) := by decide +kernel
abbrev cX4_init : ByteArray := prog_1_method_1_code
def yX4_init : MethodName := ⟨RX4, "<init>", "()V"⟩
abbrev cX4_row : ByteArray := prog_1_method_2_code
def yX4_row : MethodName := ⟨RX4, "row", "(III)I"⟩
abbrev cX4_set : ByteArray := prog_1_method_3_code
def yX4_set : MethodName := ⟨RX4, "set", "(IIJ)I"⟩
abbrev cX4_copy : ByteArray := prog_1_method_4_code
def yX4_copy : MethodName := ⟨RX4, "copy", "(IIIII)I"⟩
abbrev cX4_element : ByteArray := prog_1_method_5_code
def yX4_element : MethodName := ⟨RX4, "element", "(II)J"⟩
abbrev cX4_show : ByteArray := prog_1_method_6_code
def yX4_show : MethodName := ⟨RX4, "show", "(II)I"⟩
abbrev cX4_holds : ByteArray := prog_1_method_7_code
def yX4_holds : MethodName := ⟨RX4, "holds", "(I)I"⟩
abbrev cX4_says : ByteArray := prog_1_method_8_code
def yX4_says : MethodName := ⟨RX4, "says", "(II)I"⟩
abbrev cX4_wordOf : ByteArray := prog_1_method_9_code
def yX4_wordOf : MethodName := ⟨RX4, "wordOf", "(II)I"⟩
abbrev cX4_thing : ByteArray := prog_1_method_10_code
def yX4_thing : MethodName := ⟨RX4, "thing", "(IIIII)I"⟩
abbrev cX4_thingOf : ByteArray := prog_1_method_11_code
def yX4_thingOf : MethodName := ⟨RX4, "thingOf", "(II)I"⟩
abbrev cX4_height : ByteArray := prog_1_method_12_code
def yX4_height : MethodName := ⟨RX4, "height", "(II)I"⟩
abbrev cX4_ask : ByteArray := prog_1_method_13_code
def yX4_ask : MethodName := ⟨RX4, "ask", "(II)I"⟩
abbrev cX4_shut : ByteArray := prog_1_method_14_code
def yX4_shut : MethodName := ⟨RX4, "shut", "(IIZ)I"⟩
abbrev cX4_draw : ByteArray := prog_1_method_15_code
def yX4_draw : MethodName := ⟨RX4, "draw", "(IZ)I"⟩
abbrev cX4_ground : ByteArray := prog_1_method_16_code
def yX4_ground : MethodName := ⟨RX4, "ground", "(I)I"⟩
abbrev cX4_fault : ByteArray := prog_1_method_17_code
def yX4_fault : MethodName := ⟨RX4, "fault", "()I"⟩
abbrev cX4_sees : ByteArray := prog_1_method_18_code
def yX4_sees : MethodName := ⟨RX4, "sees", "(III)I"⟩
abbrev cX4_bars : ByteArray := prog_1_method_19_code
def yX4_bars : MethodName := ⟨RX4, "bars", "(II)I"⟩
abbrev cX4_seers : ByteArray := prog_1_method_20_code
def yX4_seers : MethodName := ⟨RX4, "seers", "(I)I"⟩
abbrev cX4_right : ByteArray := prog_1_method_21_code
def yX4_right : MethodName := ⟨RX4, "right", "()I"⟩
abbrev cX4_first : ByteArray := prog_1_method_22_code
def yX4_first : MethodName := ⟨RX4, "first", "()I"⟩
abbrev cX4_cost : ByteArray := prog_1_method_23_code
def yX4_cost : MethodName := ⟨RX4, "cost", "(II)I"⟩
abbrev cX4_cheapest : ByteArray := prog_1_method_24_code
def yX4_cheapest : MethodName := ⟨RX4, "cheapest", "(I)I"⟩
abbrev cX4_keeps : ByteArray := prog_1_method_25_code
def yX4_keeps : MethodName := ⟨RX4, "keeps", "(I)I"⟩
abbrev cX4_curtains : ByteArray := prog_1_method_26_code
def yX4_curtains : MethodName := ⟨RX4, "curtains", "(I)I"⟩
abbrev cX4_addRightWhenDrawn : ByteArray := prog_1_method_27_code
def yX4_addRightWhenDrawn : MethodName := ⟨RX4, "addRightWhenDrawn", "(I)V"⟩
abbrev cX4_bestDrawnSet : ByteArray := prog_1_method_28_code
def yX4_bestDrawnSet : MethodName := ⟨RX4, "bestDrawnSet", "()I"⟩
abbrev cX4_newly : ByteArray := prog_1_method_29_code
def yX4_newly : MethodName := ⟨RX4, "newly", "(I)I"⟩
abbrev cX4_rightWithNewHouse : ByteArray := prog_1_method_30_code
def yX4_rightWithNewHouse : MethodName := ⟨RX4, "rightWithNewHouse", "(III)I"⟩
abbrev cX4_storey : ByteArray := prog_1_method_31_code
def yX4_storey : MethodName := ⟨RX4, "storey", "(I)I"⟩
abbrev cX4_blinded : ByteArray := prog_1_method_32_code
def yX4_blinded : MethodName := ⟨RX4, "blinded", "(I)I"⟩
abbrev cX4_tryStorey : ByteArray := prog_1_method_33_code
def yX4_tryStorey : MethodName := ⟨RX4, "tryStorey", "(I)V"⟩
abbrev cX4_felled : ByteArray := prog_1_method_34_code
def yX4_felled : MethodName := ⟨RX4, "felled", "(I)I"⟩
abbrev cX4_pairs : ByteArray := prog_1_method_35_code
def yX4_pairs : MethodName := ⟨RX4, "pairs", "()I"⟩
abbrev cX4_back : ByteArray := prog_1_method_36_code
def yX4_back : MethodName := ⟨RX4, "back", "(I)I"⟩
abbrev cX4_most : ByteArray := prog_1_method_37_code
def yX4_most : MethodName := ⟨RX4, "most", "()I"⟩
abbrev cX4_list : ByteArray := prog_1_method_38_code
def yX4_list : MethodName := ⟨RX4, "list", "(II)I"⟩
abbrev cX4_firstWrong : ByteArray := prog_1_method_39_code
def yX4_firstWrong : MethodName := ⟨RX4, "firstWrong", "(LSeenByOne$Ground;LSeenByOne$Shelf;)I"⟩
abbrev cX4_countUnlike : ByteArray := prog_1_method_40_code
def yX4_countUnlike : MethodName := ⟨RX4, "countUnlike", "(LSeenByOne$Ground;LSeenByOne$Shelf;)I"⟩
abbrev cX4_unlikeBits : ByteArray := prog_1_method_41_code
def yX4_unlikeBits : MethodName := ⟨RX4, "unlikeBits", "(LSeenByOne$Ground;LSeenByOne$Shelf;I)I"⟩
abbrev cX4_fitsIn : ByteArray := prog_1_method_42_code
def yX4_fitsIn : MethodName := ⟨RX4, "fitsIn", "(LSeenByOne$Shelf;I)I"⟩
abbrev cX4_night : ByteArray := prog_1_method_43_code
def yX4_night : MethodName := ⟨RX4, "night", "(I)I"⟩
abbrev cX4_shuts : ByteArray := prog_1_method_44_code
def yX4_shuts : MethodName := ⟨RX4, "shuts", "()I"⟩
abbrev cX4_opens : ByteArray := prog_1_method_45_code
def yX4_opens : MethodName := ⟨RX4, "opens", "()I"⟩
abbrev cX4_years : ByteArray := prog_1_method_46_code
def yX4_years : MethodName := ⟨RX4, "years", "(I)I"⟩
abbrev cX4_seed : ByteArray := prog_1_method_47_code
def yX4_seed : MethodName := ⟨RX4, "seed", "(I)I"⟩
abbrev cX4_act : ByteArray := prog_1_method_48_code
def yX4_act : MethodName := ⟨RX4, "act", "(III)I"⟩
abbrev cX4_trace : ByteArray := prog_1_method_49_code
def yX4_trace : MethodName := ⟨RX4, "trace", "(I)I"⟩
abbrev cX4_image : ByteArray := prog_1_method_50_code
def yX4_image : MethodName := ⟨RX4, "image", "()I"⟩
abbrev cX4_restore : ByteArray := prog_1_method_51_code
def yX4_restore : MethodName := ⟨RX4, "restore", "()I"⟩
abbrev cX4_status : ByteArray := prog_1_method_52_code
def yX4_status : MethodName := ⟨RX4, "status", "(I)I"⟩
abbrev cX4_refuse : ByteArray := prog_1_method_53_code
def yX4_refuse : MethodName := ⟨RX4, "refuse", "(I)I"⟩
abbrev cX4_lacksRow : ByteArray := prog_1_method_54_code
def yX4_lacksRow : MethodName := ⟨RX4, "lacksRow", "(I)I"⟩
abbrev cX4_lacksRows : ByteArray := prog_1_method_55_code
def yX4_lacksRows : MethodName := ⟨RX4, "lacksRows", "(II)I"⟩
abbrev cX4_lacksHouse : ByteArray := prog_1_method_56_code
def yX4_lacksHouse : MethodName := ⟨RX4, "lacksHouse", "(I)I"⟩
abbrev cX4_lacksHouses : ByteArray := prog_1_method_57_code
def yX4_lacksHouses : MethodName := ⟨RX4, "lacksHouses", "(II)I"⟩
abbrev cX4_lacksSight : ByteArray := prog_1_method_58_code
def yX4_lacksSight : MethodName := ⟨RX4, "lacksSight", "(II)I"⟩
abbrev cX4_lacksStorey : ByteArray := prog_1_method_59_code
def yX4_lacksStorey : MethodName := ⟨RX4, "lacksStorey", "(I)I"⟩
abbrev cX4_isShelf : ByteArray := prog_1_method_60_code
def yX4_isShelf : MethodName := ⟨RX4, "isShelf", "(I)Z"⟩
abbrev cX4_isKind : ByteArray := prog_1_method_61_code
def yX4_isKind : MethodName := ⟨RX4, "isKind", "(I)Z"⟩
abbrev cX4_isHouseKind : ByteArray := prog_1_method_62_code
def yX4_isHouseKind : MethodName := ⟨RX4, "isHouseKind", "(I)Z"⟩
abbrev cX4_isTreeKind : ByteArray := prog_1_method_63_code
def yX4_isTreeKind : MethodName := ⟨RX4, "isTreeKind", "(I)Z"⟩
abbrev cX4_isOfKind : ByteArray := prog_1_method_64_code
def yX4_isOfKind : MethodName := ⟨RX4, "isOfKind", "(II)Z"⟩
abbrev cX4_isPlace : ByteArray := prog_1_method_65_code
def yX4_isPlace : MethodName := ⟨RX4, "isPlace", "(II)Z"⟩
abbrev cX4_isHeight : ByteArray := prog_1_method_66_code
def yX4_isHeight : MethodName := ⟨RX4, "isHeight", "(I)Z"⟩
abbrev cX4_isSummer : ByteArray := prog_1_method_67_code
def yX4_isSummer : MethodName := ⟨RX4, "isSummer", "(I)Z"⟩
abbrev cX4_isFar : ByteArray := prog_1_method_68_code
def yX4_isFar : MethodName := ⟨RX4, "isFar", "(I)Z"⟩
abbrev cX4_bit : ByteArray := prog_1_method_69_code
def yX4_bit : MethodName := ⟨RX4, "bit", "(I)I"⟩
abbrev cX4_isIn : ByteArray := prog_1_method_70_code
def yX4_isIn : MethodName := ⟨RX4, "isIn", "(II)Z"⟩
abbrev cX4_lowestOf : ByteArray := prog_1_method_71_code
def yX4_lowestOf : MethodName := ⟨RX4, "lowestOf", "(I)I"⟩
def RX5 : String := "SeenByOneModel"
def TX5 : u_T := fun k => match k with
  | 0 => ("SeenByOneModel", "things", "I", false)
  | 1 => ("SeenByOneModel", "summer", "I", false)
  | 2 => ("SeenByOneModel", "farthest", "I", false)
  | 3 => ("SeenByOneModel", "fines", "I", false)
  | 4 => ("SeenByOneModel", "seed", "I", false)
  | 5 => ("SeenByOneModel", "fault", "I", false)
  | 6 => ("SeenByOneModel", "refused", "[I", true)
  | 7 => ("SeenByOneModel", "kind", "[I", true)
  | 8 => ("SeenByOneModel", "xs", "[I", true)
  | 9 => ("SeenByOneModel", "ys", "[I", true)
  | 10 => ("SeenByOneModel", "high", "[I", true)
  | 11 => ("SeenByOneModel", "part", "[I", true)
  | 12 => ("SeenByOneModel", "drawn", "[I", true)
  | 13 => ("SeenByOneModel", "shut", "[I", true)
  | 14 => ("SeenByOneModel", "held", "[I", true)
  | 15 => ("SeenByOneModel", "sort", "[I", true)
  | 16 => ("SeenByOneModel", "size", "[I", true)
  | 17 => ("SeenByOneModel", "shown", "[I", true)
  | 18 => ("SeenByOneModel", "cells", "[J", true)
  | 19 => ("SeenByOneModel", "carried", "[J", true)
  | 20 => ("SeenByOneModel", "words", "[I", true)
  | 21 => ("SeenByOneModel", "tell", "[I", true)
  | 22 => ("SeenByOneModel", "base", "I", false)
  | 23 => ("SeenByOneModel", "place", "I", false)
  | 24 => ("SeenByOneModel", "end", "I", false)
  | 25 => ("SeenByOneModel", "told", "I", false)
  | 26 => ("SeenByOneModel", "wrongAt", "I", false)
  | 27 => ("SeenByOneModel", "was", "[I", true)
  | 28 => ("SeenByOneModel", "kept", "[I", true)
  | 29 => ("SeenByOneModel", "cheapCost", "I", false)
  | 30 => ("SeenByOneModel", "cheapNever", "I", false)
  | 31 => ("SeenByOneModel", "cheapMany", "I", false)
  | 32 => ("SeenByOneModel", "seen", "[I", true)
  | 33 => ("SeenByOneModel", "toldAt", "I", false)
  | 34 => ("SeenByOneModel", "toldOff", "I", false)
  | 35 => ("SeenByOneModel", "trace", "[I", true)
  | 36 => ("SeenByOneModel", "ran", "I", false)
  | _ => ("SeenByOneModel", "isKept", "Z", false)
def tyX5 : Nat → FieldType := fun k => match k with
  | 0 => .int
  | 1 => .int
  | 2 => .int
  | 3 => .int
  | 4 => .int
  | 5 => .int
  | 6 => .array .int
  | 7 => .array .int
  | 8 => .array .int
  | 9 => .array .int
  | 10 => .array .int
  | 11 => .array .int
  | 12 => .array .int
  | 13 => .array .int
  | 14 => .array .int
  | 15 => .array .int
  | 16 => .array .int
  | 17 => .array .int
  | 18 => .array .long
  | 19 => .array .long
  | 20 => .array .int
  | 21 => .array .int
  | 22 => .int
  | 23 => .int
  | 24 => .int
  | 25 => .int
  | 26 => .int
  | 27 => .array .int
  | 28 => .array .int
  | 29 => .int
  | 30 => .int
  | 31 => .int
  | 32 => .array .int
  | 33 => .int
  | 34 => .int
  | 35 => .array .int
  | 36 => .int
  | _ => .boolean
abbrev wsX50 : List Cond := u_ws RX5 TX5 38
theorem nmX5 : ∀ a, a < 38 → ∀ b, b < 38 → a ≠ b → (TX5 a).2.1 ≠ (TX5 b).2.1 := by decide +kernel
theorem tyX5_ok : ∀ k, k < 38 → parseFieldDescriptor (TX5 k).2.2.1 = some (tyX5 k) := by decide +kernel
abbrev cX5_init : ByteArray := prog_7_method_1_code
def yX5_init : MethodName := ⟨RX5, "<init>", "()V"⟩
abbrev cX5_no : ByteArray := prog_7_method_2_code
def yX5_no : MethodName := ⟨RX5, "no", "(I)I"⟩
abbrev cX5_noTen : ByteArray := prog_7_method_3_code
def yX5_noTen : MethodName := ⟨RX5, "noTen", "(I)I"⟩
abbrev cX5_noMuch : ByteArray := prog_7_method_4_code
def yX5_noMuch : MethodName := ⟨RX5, "noMuch", "(I)I"⟩
abbrev cX5_isShelf : ByteArray := prog_7_method_5_code
def yX5_isShelf : MethodName := ⟨RX5, "isShelf", "(I)Z"⟩
abbrev cX5_isThing : ByteArray := prog_7_method_6_code
def yX5_isThing : MethodName := ⟨RX5, "isThing", "(I)Z"⟩
abbrev cX5_isHouse : ByteArray := prog_7_method_7_code
def yX5_isHouse : MethodName := ⟨RX5, "isHouse", "(I)Z"⟩
abbrev cX5_barred : ByteArray := prog_7_method_8_code
def yX5_barred : MethodName := ⟨RX5, "barred", "(I)I"⟩
abbrev cX5_barredTwo : ByteArray := prog_7_method_9_code
def yX5_barredTwo : MethodName := ⟨RX5, "barredTwo", "(II)I"⟩
abbrev cX5_row : ByteArray := prog_7_method_10_code
def yX5_row : MethodName := ⟨RX5, "row", "(III)I"⟩
abbrev cX5_set : ByteArray := prog_7_method_11_code
def yX5_set : MethodName := ⟨RX5, "set", "(IIJ)I"⟩
abbrev cX5_copy : ByteArray := prog_7_method_12_code
def yX5_copy : MethodName := ⟨RX5, "copy", "(IIIII)I"⟩
abbrev cX5_element : ByteArray := prog_7_method_13_code
def yX5_element : MethodName := ⟨RX5, "element", "(II)J"⟩
abbrev cX5_show : ByteArray := prog_7_method_14_code
def yX5_show : MethodName := ⟨RX5, "show", "(II)I"⟩
abbrev cX5_holds : ByteArray := prog_7_method_15_code
def yX5_holds : MethodName := ⟨RX5, "holds", "(I)I"⟩
abbrev cX5_says : ByteArray := prog_7_method_16_code
def yX5_says : MethodName := ⟨RX5, "says", "(II)I"⟩
abbrev cX5_wants : ByteArray := prog_7_method_17_code
def yX5_wants : MethodName := ⟨RX5, "wants", "(I)I"⟩
abbrev cX5_intAt : ByteArray := prog_7_method_18_code
def yX5_intAt : MethodName := ⟨RX5, "intAt", "(II)I"⟩
abbrev cX5_many : ByteArray := prog_7_method_19_code
def yX5_many : MethodName := ⟨RX5, "many", "(I)I"⟩
abbrev cX5_at : ByteArray := prog_7_method_20_code
def yX5_at : MethodName := ⟨RX5, "at", "(II)I"⟩
abbrev cX5_adds : ByteArray := prog_7_method_21_code
def yX5_adds : MethodName := ⟨RX5, "adds", "(IIIII)I"⟩
abbrev cX5_thing : ByteArray := prog_7_method_22_code
def yX5_thing : MethodName := ⟨RX5, "thing", "(IIIII)I"⟩
abbrev cX5_thingOf : ByteArray := prog_7_method_23_code
def yX5_thingOf : MethodName := ⟨RX5, "thingOf", "(II)I"⟩
abbrev cX5_height : ByteArray := prog_7_method_24_code
def yX5_height : MethodName := ⟨RX5, "height", "(II)I"⟩
abbrev cX5_ask : ByteArray := prog_7_method_25_code
def yX5_ask : MethodName := ⟨RX5, "ask", "(II)I"⟩
abbrev cX5_shut : ByteArray := prog_7_method_26_code
def yX5_shut : MethodName := ⟨RX5, "shut", "(IIZ)I"⟩
abbrev cX5_draw : ByteArray := prog_7_method_27_code
def yX5_draw : MethodName := ⟨RX5, "draw", "(IZ)I"⟩
abbrev cX5_wrong : ByteArray := prog_7_method_28_code
def yX5_wrong : MethodName := ⟨RX5, "wrong", "(I)Z"⟩
abbrev cX5_word : ByteArray := prog_7_method_29_code
def yX5_word : MethodName := ⟨RX5, "word", "()I"⟩
abbrev cX5_isDigit : ByteArray := prog_7_method_30_code
def yX5_isDigit : MethodName := ⟨RX5, "isDigit", "()Z"⟩
abbrev cX5_number : ByteArray := prog_7_method_31_code
def yX5_number : MethodName := ⟨RX5, "number", "()Z"⟩
abbrev cX5_isSo : ByteArray := prog_7_method_32_code
def yX5_isSo : MethodName := ⟨RX5, "isSo", "(II)Z"⟩
abbrev cX5_isFull : ByteArray := prog_7_method_33_code
def yX5_isFull : MethodName := ⟨RX5, "isFull", "(I)Z"⟩
abbrev cX5_isWordAt : ByteArray := prog_7_method_34_code
def yX5_isWordAt : MethodName := ⟨RX5, "isWordAt", "(I)Z"⟩
abbrev cX5_item : ByteArray := prog_7_method_35_code
def yX5_item : MethodName := ⟨RX5, "item", "()Z"⟩
abbrev cX5_carries : ByteArray := prog_7_method_36_code
def yX5_carries : MethodName := ⟨RX5, "carries", "([I[IIZ)I"⟩
abbrev cX5_all : ByteArray := prog_7_method_37_code
def yX5_all : MethodName := ⟨RX5, "all", "([IZ)V"⟩
abbrev cX5_ground : ByteArray := prog_7_method_38_code
def yX5_ground : MethodName := ⟨RX5, "ground", "(I)I"⟩
abbrev cX5_fault : ByteArray := prog_7_method_39_code
def yX5_fault : MethodName := ⟨RX5, "fault", "()I"⟩
abbrev cX5_tall : ByteArray := prog_7_method_40_code
def yX5_tall : MethodName := ⟨RX5, "tall", "(I)I"⟩
abbrev cX5_eyes : ByteArray := prog_7_method_41_code
def yX5_eyes : MethodName := ⟨RX5, "eyes", "(I)I"⟩
abbrev cX5_sizeOf : ByteArray := prog_7_method_42_code
def yX5_sizeOf : MethodName := ⟨RX5, "sizeOf", "(I)I"⟩
abbrev cX5_distance : ByteArray := prog_7_method_43_code
def yX5_distance : MethodName := ⟨RX5, "distance", "(II)I"⟩
abbrev cX5_divides : ByteArray := prog_7_method_44_code
def yX5_divides : MethodName := ⟨RX5, "divides", "(II)I"⟩
abbrev cX5_inWay : ByteArray := prog_7_method_45_code
def yX5_inWay : MethodName := ⟨RX5, "inWay", "(II)I"⟩
abbrev cX5_looks : ByteArray := prog_7_method_46_code
def yX5_looks : MethodName := ⟨RX5, "looks", "(II)Z"⟩
abbrev cX5_isSeen : ByteArray := prog_7_method_47_code
def yX5_isSeen : MethodName := ⟨RX5, "isSeen", "(II)Z"⟩
abbrev cX5_seesInto : ByteArray := prog_7_method_48_code
def yX5_seesInto : MethodName := ⟨RX5, "seesInto", "(I)I"⟩
abbrev cX5_seersOf : ByteArray := prog_7_method_49_code
def yX5_seersOf : MethodName := ⟨RX5, "seersOf", "(I)I"⟩
abbrev cX5_isRight : ByteArray := prog_7_method_50_code
def yX5_isRight : MethodName := ⟨RX5, "isRight", "(I)Z"⟩
abbrev cX5_allRight : ByteArray := prog_7_method_51_code
def yX5_allRight : MethodName := ⟨RX5, "allRight", "()I"⟩
abbrev cX5_sees : ByteArray := prog_7_method_52_code
def yX5_sees : MethodName := ⟨RX5, "sees", "(III)I"⟩
abbrev cX5_bars : ByteArray := prog_7_method_53_code
def yX5_bars : MethodName := ⟨RX5, "bars", "(II)I"⟩
abbrev cX5_seers : ByteArray := prog_7_method_54_code
def yX5_seers : MethodName := ⟨RX5, "seers", "(I)I"⟩
abbrev cX5_right : ByteArray := prog_7_method_55_code
def yX5_right : MethodName := ⟨RX5, "right", "()I"⟩
abbrev cX5_first : ByteArray := prog_7_method_56_code
def yX5_first : MethodName := ⟨RX5, "first", "()I"⟩
abbrev cX5_costOf : ByteArray := prog_7_method_57_code
def yX5_costOf : MethodName := ⟨RX5, "costOf", "(II)I"⟩
abbrev cX5_cost : ByteArray := prog_7_method_58_code
def yX5_cost : MethodName := ⟨RX5, "cost", "(II)I"⟩
abbrev cX5_keptOf : ByteArray := prog_7_method_59_code
def yX5_keptOf : MethodName := ⟨RX5, "keptOf", "(I)I"⟩
abbrev cX5_keeps : ByteArray := prog_7_method_60_code
def yX5_keeps : MethodName := ⟨RX5, "keeps", "(I)I"⟩
abbrev cX5_shutters : ByteArray := prog_7_method_61_code
def yX5_shutters : MethodName := ⟨RX5, "shutters", "(Z)V"⟩
abbrev cX5_cheapest : ByteArray := prog_7_method_62_code
def yX5_cheapest : MethodName := ⟨RX5, "cheapest", "(I)I"⟩
abbrev cX5_houses : ByteArray := prog_7_method_63_code
def yX5_houses : MethodName := ⟨RX5, "houses", "()I"⟩
abbrev cX5_draws : ByteArray := prog_7_method_64_code
def yX5_draws : MethodName := ⟨RX5, "draws", "(I)V"⟩
abbrev cX5_drawnOnes : ByteArray := prog_7_method_65_code
def yX5_drawnOnes : MethodName := ⟨RX5, "drawnOnes", "()I"⟩
abbrev cX5_rightInBoth : ByteArray := prog_7_method_66_code
def yX5_rightInBoth : MethodName := ⟨RX5, "rightInBoth", "()I"⟩
abbrev cX5_curtains : ByteArray := prog_7_method_67_code
def yX5_curtains : MethodName := ⟨RX5, "curtains", "(I)I"⟩
abbrev cX5_newly : ByteArray := prog_7_method_68_code
def yX5_newly : MethodName := ⟨RX5, "newly", "(I)I"⟩
abbrev cX5_storey : ByteArray := prog_7_method_69_code
def yX5_storey : MethodName := ⟨RX5, "storey", "(I)I"⟩
abbrev cX5_blinded : ByteArray := prog_7_method_70_code
def yX5_blinded : MethodName := ⟨RX5, "blinded", "(I)I"⟩
abbrev cX5_felled : ByteArray := prog_7_method_71_code
def yX5_felled : MethodName := ⟨RX5, "felled", "(I)I"⟩
abbrev cX5_pairs : ByteArray := prog_7_method_72_code
def yX5_pairs : MethodName := ⟨RX5, "pairs", "()I"⟩
abbrev cX5_firstOf : ByteArray := prog_7_method_73_code
def yX5_firstOf : MethodName := ⟨RX5, "firstOf", "(I)I"⟩
abbrev cX5_back : ByteArray := prog_7_method_74_code
def yX5_back : MethodName := ⟨RX5, "back", "(I)I"⟩
abbrev cX5_most : ByteArray := prog_7_method_75_code
def yX5_most : MethodName := ⟨RX5, "most", "()I"⟩
abbrev cX5_lists : ByteArray := prog_7_method_76_code
def yX5_lists : MethodName := ⟨RX5, "lists", "(I)V"⟩
abbrev cX5_list : ByteArray := prog_7_method_77_code
def yX5_list : MethodName := ⟨RX5, "list", "(II)I"⟩
abbrev cX5_night : ByteArray := prog_7_method_78_code
def yX5_night : MethodName := ⟨RX5, "night", "(I)I"⟩
abbrev cX5_shuts : ByteArray := prog_7_method_79_code
def yX5_shuts : MethodName := ⟨RX5, "shuts", "()I"⟩
abbrev cX5_shutMany : ByteArray := prog_7_method_80_code
def yX5_shutMany : MethodName := ⟨RX5, "shutMany", "()I"⟩
abbrev cX5_opens : ByteArray := prog_7_method_81_code
def yX5_opens : MethodName := ⟨RX5, "opens", "()I"⟩
abbrev cX5_draws3 : ByteArray := prog_7_method_82_code
def yX5_draws3 : MethodName := ⟨RX5, "draws3", "()I"⟩
abbrev cX5_years : ByteArray := prog_7_method_83_code
def yX5_years : MethodName := ⟨RX5, "years", "(I)I"⟩
abbrev cX5_seed : ByteArray := prog_7_method_84_code
def yX5_seed : MethodName := ⟨RX5, "seed", "(I)I"⟩
abbrev cX5_body : ByteArray := prog_7_method_85_code
def yX5_body : MethodName := ⟨RX5, "body", "(I)V"⟩
abbrev cX5_standing : ByteArray := prog_7_method_86_code
def yX5_standing : MethodName := ⟨RX5, "standing", "(II)I"⟩
abbrev cX5_looking : ByteArray := prog_7_method_87_code
def yX5_looking : MethodName := ⟨RX5, "looking", "(II)I"⟩
abbrev cX5_hiding : ByteArray := prog_7_method_88_code
def yX5_hiding : MethodName := ⟨RX5, "hiding", "(II)I"⟩
abbrev cX5_act : ByteArray := prog_7_method_89_code
def yX5_act : MethodName := ⟨RX5, "act", "(III)I"⟩
abbrev cX5_trace : ByteArray := prog_7_method_90_code
def yX5_trace : MethodName := ⟨RX5, "trace", "(I)I"⟩
abbrev cX5_image : ByteArray := prog_7_method_91_code
def yX5_image : MethodName := ⟨RX5, "image", "()I"⟩
abbrev cX5_restore : ByteArray := prog_7_method_92_code
def yX5_restore : MethodName := ⟨RX5, "restore", "()I"⟩
abbrev cX5_status : ByteArray := prog_7_method_93_code
def yX5_status : MethodName := ⟨RX5, "status", "(I)I"⟩
def RJ6 : String := "java/lang/Integer"
abbrev cJ6_bitCount_0f7a4 : ByteArray := prog_8_method_49_code
def yJ6_bitCount_0f7a4 : MethodName := ⟨RJ6, "bitCount", "(I)I"⟩
def RJ9 : String := "java/lang/Math"
abbrev cJ9_abs_0f7a4 : ByteArray := prog_9_method_59_code
def yJ9_abs_0f7a4 : MethodName := ⟨RJ9, "abs", "(I)I"⟩
abbrev cJ9_max_7cf53 : ByteArray := prog_9_method_65_code
def yJ9_max_7cf53 : MethodName := ⟨RJ9, "max", "(II)I"⟩
abbrev cJ9_min_7cf53 : ByteArray := prog_9_method_69_code
def yJ9_min_7cf53 : MethodName := ⟨RJ9, "min", "(II)I"⟩
def RJ0 : String := "java/lang/String"
abbrev cJ0_length_8abf5 : ByteArray := prog_10_method_54_code
def yJ0_length_8abf5 : MethodName := ⟨RJ0, "length", "()I"⟩
abbrev cJ0_charAt_5068e : ByteArray := prog_10_method_56_code
def yJ0_charAt_5068e : MethodName := ⟨RJ0, "charAt", "(I)C"⟩
abbrev cJ0_coder_7d493 : ByteArray := prog_10_method_152_code
def yJ0_coder_7d493 : MethodName := ⟨RJ0, "coder", "()B"⟩
abbrev cJ0_isLatin1_aae02 : ByteArray := prog_10_method_154_code
def yJ0_isLatin1_aae02 : MethodName := ⟨RJ0, "isLatin1", "()Z"⟩
abbrev cJ0_checkIndex_df160 : ByteArray := prog_10_method_155_code
def yJ0_checkIndex_df160 : MethodName := ⟨RJ0, "checkIndex", "(II)V"⟩
def RJ1 : String := "java/lang/StringLatin1"
abbrev cJ1_charAt_3b067 : ByteArray := prog_11_method_2_code
def yJ1_charAt_3b067 : MethodName := ⟨RJ1, "charAt", "([BI)C"⟩
def RJ2 : String := "java/lang/StringUTF16"
abbrev cJ2_getChar_3b067 : ByteArray := prog_12_method_5_code
def yJ2_getChar_3b067 : MethodName := ⟨RJ2, "getChar", "([BI)C"⟩
abbrev cJ2_length_9d52b : ByteArray := prog_12_method_6_code
def yJ2_length_9d52b : MethodName := ⟨RJ2, "length", "([B)I"⟩
abbrev cJ2_charAt_3b067 : ByteArray := prog_12_method_83_code
def yJ2_charAt_3b067 : MethodName := ⟨RJ2, "charAt", "([BI)C"⟩
abbrev cJ2_checkIndex_2214a : ByteArray := prog_12_method_91_code
def yJ2_checkIndex_2214a : MethodName := ⟨RJ2, "checkIndex", "(I[B)V"⟩
def RJ10 : String := "java/lang/System"
def RJ3 : String := "jdk/internal/util/Preconditions"
abbrev cJ3_checkIndex_8e157 : ByteArray := prog_14_method_11_code
def yJ3_checkIndex_8e157 : MethodName := ⟨RJ3, "checkIndex", "(IILjava/util/function/BiFunction;)I"⟩
abbrev cL_law : ByteArray := code
def GW : List Cond := lw_tbl.filter goodWord
theorem gw_in {i : Nat} {w : Cond} (h : lw_tbl[i]? = some w) (hg : goodWord w = true) : w ∈ GW := List.mem_filter.mpr ⟨List.mem_of_getElem? h, hg⟩
theorem gw_tbl {w : Cond} (h : w ∈ GW) : w ∈ lw_tbl := (List.mem_filter.mp h).1
theorem gw_good {w : Cond} (h : w ∈ GW) : goodWord w = true := (List.mem_filter.mp h).2
theorem inG0 : ∀ w ∈ wsX00, w ∈ GW := by
  have h : ∀ k, k < 5 → u_lay RX0 TX0 k ∈ GW := by
    intro k hk
    match k, hk with
    | 0, _ => exact gw_in (i := 179) (by decide +kernel) (by decide +kernel)
    | 1, _ => exact gw_in (i := 181) (by decide +kernel) (by decide +kernel)
    | 2, _ => exact gw_in (i := 183) (by decide +kernel) (by decide +kernel)
    | 3, _ => exact gw_in (i := 185) (by decide +kernel) (by decide +kernel)
    | 4, _ => exact gw_in (i := 187) (by decide +kernel) (by decide +kernel)
    | n + 5, h => exact absurd h (by omega)
  intro w hw
  obtain ⟨k, hk, rfl⟩ := List.mem_map.mp hw
  exact h k (List.mem_range.mp hk)
theorem inG1 : ∀ w ∈ wsX10, w ∈ GW := by
  have h : ∀ k, k < 13 → u_lay RX1 TX1 k ∈ GW := by
    intro k hk
    match k, hk with
    | 0, _ => exact gw_in (i := 139) (by decide +kernel) (by decide +kernel)
    | 1, _ => exact gw_in (i := 141) (by decide +kernel) (by decide +kernel)
    | 2, _ => exact gw_in (i := 143) (by decide +kernel) (by decide +kernel)
    | 3, _ => exact gw_in (i := 145) (by decide +kernel) (by decide +kernel)
    | 4, _ => exact gw_in (i := 147) (by decide +kernel) (by decide +kernel)
    | 5, _ => exact gw_in (i := 149) (by decide +kernel) (by decide +kernel)
    | 6, _ => exact gw_in (i := 151) (by decide +kernel) (by decide +kernel)
    | 7, _ => exact gw_in (i := 153) (by decide +kernel) (by decide +kernel)
    | 8, _ => exact gw_in (i := 155) (by decide +kernel) (by decide +kernel)
    | 9, _ => exact gw_in (i := 157) (by decide +kernel) (by decide +kernel)
    | 10, _ => exact gw_in (i := 159) (by decide +kernel) (by decide +kernel)
    | 11, _ => exact gw_in (i := 161) (by decide +kernel) (by decide +kernel)
    | 12, _ => exact gw_in (i := 163) (by decide +kernel) (by decide +kernel)
    | n + 13, h => exact absurd h (by omega)
  intro w hw
  obtain ⟨k, hk, rfl⟩ := List.mem_map.mp hw
  exact h k (List.mem_range.mp hk)
theorem inG2 : ∀ w ∈ wsX20, w ∈ GW := by
  have h : ∀ k, k < 5 → u_lay RX2 TX2 k ∈ GW := by
    intro k hk
    match k, hk with
    | 0, _ => exact gw_in (i := 488) (by decide +kernel) (by decide +kernel)
    | 1, _ => exact gw_in (i := 490) (by decide +kernel) (by decide +kernel)
    | 2, _ => exact gw_in (i := 492) (by decide +kernel) (by decide +kernel)
    | 3, _ => exact gw_in (i := 494) (by decide +kernel) (by decide +kernel)
    | 4, _ => exact gw_in (i := 496) (by decide +kernel) (by decide +kernel)
    | n + 5, h => exact absurd h (by omega)
  intro w hw
  obtain ⟨k, hk, rfl⟩ := List.mem_map.mp hw
  exact h k (List.mem_range.mp hk)
theorem inG3 : ∀ w ∈ wsX30, w ∈ GW := by
  have h : ∀ k, k < 3 → u_lay RX3 TX3 k ∈ GW := by
    intro k hk
    match k, hk with
    | 0, _ => exact gw_in (i := 203) (by decide +kernel) (by decide +kernel)
    | 1, _ => exact gw_in (i := 205) (by decide +kernel) (by decide +kernel)
    | 2, _ => exact gw_in (i := 207) (by decide +kernel) (by decide +kernel)
    | n + 3, h => exact absurd h (by omega)
  intro w hw
  obtain ⟨k, hk, rfl⟩ := List.mem_map.mp hw
  exact h k (List.mem_range.mp hk)
theorem inG4 : ∀ w ∈ wsX40, w ∈ GW := by
  have h : ∀ k, k < 9 → u_lay RX4 TX4 k ∈ GW := by
    intro k hk
    match k, hk with
    | 0, _ => exact gw_in (i := 220) (by decide +kernel) (by decide +kernel)
    | 1, _ => exact gw_in (i := 222) (by decide +kernel) (by decide +kernel)
    | 2, _ => exact gw_in (i := 224) (by decide +kernel) (by decide +kernel)
    | 3, _ => exact gw_in (i := 226) (by decide +kernel) (by decide +kernel)
    | 4, _ => exact gw_in (i := 228) (by decide +kernel) (by decide +kernel)
    | 5, _ => exact gw_in (i := 230) (by decide +kernel) (by decide +kernel)
    | 6, _ => exact gw_in (i := 232) (by decide +kernel) (by decide +kernel)
    | 7, _ => exact gw_in (i := 234) (by decide +kernel) (by decide +kernel)
    | 8, _ => exact gw_in (i := 236) (by decide +kernel) (by decide +kernel)
    | n + 9, h => exact absurd h (by omega)
  intro w hw
  obtain ⟨k, hk, rfl⟩ := List.mem_map.mp hw
  exact h k (List.mem_range.mp hk)
theorem inG5 : ∀ w ∈ wsX50, w ∈ GW := by
  have h : ∀ k, k < 38 → u_lay RX5 TX5 k ∈ GW := by
    intro k hk
    match k, hk with
    | 0, _ => exact gw_in (i := 914) (by decide +kernel) (by decide +kernel)
    | 1, _ => exact gw_in (i := 916) (by decide +kernel) (by decide +kernel)
    | 2, _ => exact gw_in (i := 918) (by decide +kernel) (by decide +kernel)
    | 3, _ => exact gw_in (i := 920) (by decide +kernel) (by decide +kernel)
    | 4, _ => exact gw_in (i := 922) (by decide +kernel) (by decide +kernel)
    | 5, _ => exact gw_in (i := 924) (by decide +kernel) (by decide +kernel)
    | 6, _ => exact gw_in (i := 926) (by decide +kernel) (by decide +kernel)
    | 7, _ => exact gw_in (i := 928) (by decide +kernel) (by decide +kernel)
    | 8, _ => exact gw_in (i := 930) (by decide +kernel) (by decide +kernel)
    | 9, _ => exact gw_in (i := 932) (by decide +kernel) (by decide +kernel)
    | 10, _ => exact gw_in (i := 934) (by decide +kernel) (by decide +kernel)
    | 11, _ => exact gw_in (i := 936) (by decide +kernel) (by decide +kernel)
    | 12, _ => exact gw_in (i := 938) (by decide +kernel) (by decide +kernel)
    | 13, _ => exact gw_in (i := 940) (by decide +kernel) (by decide +kernel)
    | 14, _ => exact gw_in (i := 942) (by decide +kernel) (by decide +kernel)
    | 15, _ => exact gw_in (i := 944) (by decide +kernel) (by decide +kernel)
    | 16, _ => exact gw_in (i := 946) (by decide +kernel) (by decide +kernel)
    | 17, _ => exact gw_in (i := 948) (by decide +kernel) (by decide +kernel)
    | 18, _ => exact gw_in (i := 950) (by decide +kernel) (by decide +kernel)
    | 19, _ => exact gw_in (i := 952) (by decide +kernel) (by decide +kernel)
    | 20, _ => exact gw_in (i := 954) (by decide +kernel) (by decide +kernel)
    | 21, _ => exact gw_in (i := 956) (by decide +kernel) (by decide +kernel)
    | 22, _ => exact gw_in (i := 958) (by decide +kernel) (by decide +kernel)
    | 23, _ => exact gw_in (i := 960) (by decide +kernel) (by decide +kernel)
    | 24, _ => exact gw_in (i := 962) (by decide +kernel) (by decide +kernel)
    | 25, _ => exact gw_in (i := 964) (by decide +kernel) (by decide +kernel)
    | 26, _ => exact gw_in (i := 966) (by decide +kernel) (by decide +kernel)
    | 27, _ => exact gw_in (i := 968) (by decide +kernel) (by decide +kernel)
    | 28, _ => exact gw_in (i := 970) (by decide +kernel) (by decide +kernel)
    | 29, _ => exact gw_in (i := 972) (by decide +kernel) (by decide +kernel)
    | 30, _ => exact gw_in (i := 974) (by decide +kernel) (by decide +kernel)
    | 31, _ => exact gw_in (i := 976) (by decide +kernel) (by decide +kernel)
    | 32, _ => exact gw_in (i := 978) (by decide +kernel) (by decide +kernel)
    | 33, _ => exact gw_in (i := 980) (by decide +kernel) (by decide +kernel)
    | 34, _ => exact gw_in (i := 982) (by decide +kernel) (by decide +kernel)
    | 35, _ => exact gw_in (i := 984) (by decide +kernel) (by decide +kernel)
    | 36, _ => exact gw_in (i := 986) (by decide +kernel) (by decide +kernel)
    | 37, _ => exact gw_in (i := 988) (by decide +kernel) (by decide +kernel)
    | n + 38, h => exact absurd h (by omega)
  intro w hw
  obtain ⟨k, hk, rfl⟩ := List.mem_map.mp hw
  exact h k (List.mem_range.mp hk)
abbrev mm_T : Type := MethodName × ByteArray × Nat × Option FieldType
def mX0_init : mm_T := (yX0_init, cX0_init, 1, none)
def mX0_forget : mm_T := (yX0_forget, cX0_forget, 1, none)
def mX0_actor : mm_T := (yX0_actor, cX0_actor, 4, none)
def mX0_bodyAt : mm_T := (yX0_bodyAt, cX0_bodyAt, 2, some .int)
def mX0_begins : mm_T := (yX0_begins, cX0_begins, 2, none)
def mX0_stands : mm_T := (yX0_stands, cX0_stands, 3, some .int)
def mX0_looks : mm_T := (yX0_looks, cX0_looks, 4, some .int)
def mX0_hides : mm_T := (yX0_hides, cX0_hides, 3, some .int)
def mX1_init : mm_T := (yX1_init, cX1_init, 1, none)
def mX1_copyFrom : mm_T := (yX1_copyFrom, cX1_copyFrom, 2, none)
def mX1_has : mm_T := (yX1_has, cX1_has, 2, some .boolean)
def mX1_isHouse : mm_T := (yX1_isHouse, cX1_isHouse, 2, some .boolean)
def mX1_isFull : mm_T := (yX1_isFull, cX1_isFull, 1, some .boolean)
def mX1_thingAt : mm_T := (yX1_thingAt, cX1_thingAt, 4, some .int)
def mX1_add : mm_T := (yX1_add, cX1_add, 6, some .int)
def mX1_dropLatest : mm_T := (yX1_dropLatest, cX1_dropLatest, 1, none)
def mX1_takeAway : mm_T := (yX1_takeAway, cX1_takeAway, 2, none)
def mX1_houses : mm_T := (yX1_houses, cX1_houses, 3, some .int)
def mX1_towers : mm_T := (yX1_towers, cX1_towers, 3, some .int)
def mX1_tallOf : mm_T := (yX1_tallOf, cX1_tallOf, 2, some .int)
def mX1_eyesOf : mm_T := (yX1_eyesOf, cX1_eyesOf, 2, some .int)
def mX1_distanceOf : mm_T := (yX1_distanceOf, cX1_distanceOf, 3, some .int)
def mX1_lookAround : mm_T := (yX1_lookAround, cX1_lookAround, 2, none)
def mX1_lookersInto : mm_T := (yX1_lookersInto, cX1_lookersInto, 4, some .int)
def mX1_looksInto : mm_T := (yX1_looksInto, cX1_looksInto, 4, some .boolean)
def mX1_firstBar : mm_T := (yX1_firstBar, cX1_firstBar, 11, some .int)
def mX1_greatestDivisor : mm_T := (yX1_greatestDivisor, cX1_greatestDivisor, 3, some .int)
def mX1_lookersSeeing : mm_T := (yX1_lookersSeeing, cX1_lookersSeeing, 2, some .int)
def mX1_seersOf : mm_T := (yX1_seersOf, cX1_seersOf, 2, some .int)
def mX1_countSeenBy : mm_T := (yX1_countSeenBy, cX1_countSeenBy, 4, some .int)
def mX1_rightHouses : mm_T := (yX1_rightHouses, cX1_rightHouses, 6, some .int)
def mX1_countRight : mm_T := (yX1_countRight, cX1_countRight, 1, some .int)
def mX1_countShutters : mm_T := (yX1_countShutters, cX1_countShutters, 3, some .int)
def mX1_costOf : mm_T := (yX1_costOf, cX1_costOf, 3, some .int)
def mX1_keptSeer : mm_T := (yX1_keptSeer, cX1_keptSeer, 6, some .int)
def mX1_seersTooMany : mm_T := (yX1_seersTooMany, cX1_seersTooMany, 3, some .int)
def mX1_hopelessHouses : mm_T := (yX1_hopelessHouses, cX1_hopelessHouses, 3, some .int)
def mX1_cheapestShutters : mm_T := (yX1_cheapestShutters, cX1_cheapestShutters, 3, some .int)
def mX1_cheapestCost : mm_T := (yX1_cheapestCost, cX1_cheapestCost, 5, some .int)
def mX1_passYear : mm_T := (yX1_passYear, cX1_passYear, 2, none)
def mX1_drawGrowth : mm_T := (yX1_drawGrowth, cX1_drawGrowth, 1, some .int)
def mX2_init : mm_T := (yX2_init, cX2_init, 3, none)
def mX2_readItems : mm_T := (yX2_readItems, cX2_readItems, 2, some .int)
def mX2_readItem : mm_T := (yX2_readItem, cX2_readItem, 3, none)
def mX2_readThing : mm_T := (yX2_readThing, cX2_readThing, 7, none)
def mX2_tellShut : mm_T := (yX2_tellShut, cX2_tellShut, 3, none)
def mX2_tellDrawn : mm_T := (yX2_tellDrawn, cX2_tellDrawn, 2, none)
def mX2_readHouse : mm_T := (yX2_readHouse, cX2_readHouse, 3, some .int)
def mX2_readWord : mm_T := (yX2_readWord, cX2_readWord, 5, some .int)
def mX2_lettersOf : mm_T := (yX2_lettersOf, cX2_lettersOf, 1, some (.object "java/lang/String"))
def mX2_sameLetters : mm_T := (yX2_sameLetters, cX2_sameLetters, 3, some .int)
def mX2_readSign : mm_T := (yX2_readSign, cX2_readSign, 2, none)
def mX2_readNumber : mm_T := (yX2_readNumber, cX2_readNumber, 5, some .int)
def mX2_digitAt : mm_T := (yX2_digitAt, cX2_digitAt, 3, some .int)
def mX2_signAt : mm_T := (yX2_signAt, cX2_signAt, 2, some .int)
def mX2_faultAt : mm_T := (yX2_faultAt, cX2_faultAt, 2, none)
def mX3_init : mm_T := (yX3_init, cX3_init, 1, none)
def mX3_holdsRow : mm_T := (yX3_holdsRow, cX3_holdsRow, 1, some .boolean)
def mX3_holdsThing : mm_T := (yX3_holdsThing, cX3_holdsThing, 1, some .boolean)
def mX3_becomeRow : mm_T := (yX3_becomeRow, cX3_becomeRow, 4, none)
def mX3_hasElement : mm_T := (yX3_hasElement, cX3_hasElement, 2, some .boolean)
def mX3_hasElements : mm_T := (yX3_hasElements, cX3_hasElements, 3, some .boolean)
def mX3_put : mm_T := (yX3_put, cX3_put, 4, none)
def mX3_intAt : mm_T := (yX3_intAt, cX3_intAt, 2, some .int)
def mX4_init : mm_T := (yX4_init, cX4_init, 2, none)
def mX4_row : mm_T := (yX4_row, cX4_row, 4, some .int)
def mX4_set : mm_T := (yX4_set, cX4_set, 6, some .int)
def mX4_copy : mm_T := (yX4_copy, cX4_copy, 7, some .int)
def mX4_element : mm_T := (yX4_element, cX4_element, 3, some .long)
def mX4_show : mm_T := (yX4_show, cX4_show, 3, some .int)
def mX4_holds : mm_T := (yX4_holds, cX4_holds, 2, some .int)
def mX4_says : mm_T := (yX4_says, cX4_says, 4, some .int)
def mX4_wordOf : mm_T := (yX4_wordOf, cX4_wordOf, 3, some .int)
def mX4_thing : mm_T := (yX4_thing, cX4_thing, 7, some .int)
def mX4_thingOf : mm_T := (yX4_thingOf, cX4_thingOf, 3, some .int)
def mX4_height : mm_T := (yX4_height, cX4_height, 4, some .int)
def mX4_ask : mm_T := (yX4_ask, cX4_ask, 4, some .int)
def mX4_shut : mm_T := (yX4_shut, cX4_shut, 5, some .int)
def mX4_draw : mm_T := (yX4_draw, cX4_draw, 4, some .int)
def mX4_ground : mm_T := (yX4_ground, cX4_ground, 5, some .int)
def mX4_fault : mm_T := (yX4_fault, cX4_fault, 1, some .int)
def mX4_sees : mm_T := (yX4_sees, cX4_sees, 6, some .int)
def mX4_bars : mm_T := (yX4_bars, cX4_bars, 4, some .int)
def mX4_seers : mm_T := (yX4_seers, cX4_seers, 3, some .int)
def mX4_right : mm_T := (yX4_right, cX4_right, 1, some .int)
def mX4_first : mm_T := (yX4_first, cX4_first, 1, some .int)
def mX4_cost : mm_T := (yX4_cost, cX4_cost, 4, some .int)
def mX4_cheapest : mm_T := (yX4_cheapest, cX4_cheapest, 2, some .int)
def mX4_keeps : mm_T := (yX4_keeps, cX4_keeps, 3, some .int)
def mX4_curtains : mm_T := (yX4_curtains, cX4_curtains, 3, some .int)
def mX4_addRightWhenDrawn : mm_T := (yX4_addRightWhenDrawn, cX4_addRightWhenDrawn, 4, none)
def mX4_bestDrawnSet : mm_T := (yX4_bestDrawnSet, cX4_bestDrawnSet, 6, some .int)
def mX4_newly : mm_T := (yX4_newly, cX4_newly, 7, some .int)
def mX4_rightWithNewHouse : mm_T := (yX4_rightWithNewHouse, cX4_rightWithNewHouse, 5, some .int)
def mX4_storey : mm_T := (yX4_storey, cX4_storey, 3, some .int)
def mX4_blinded : mm_T := (yX4_blinded, cX4_blinded, 5, some .int)
def mX4_tryStorey : mm_T := (yX4_tryStorey, cX4_tryStorey, 2, none)
def mX4_felled : mm_T := (yX4_felled, cX4_felled, 2, some .int)
def mX4_pairs : mm_T := (yX4_pairs, cX4_pairs, 4, some .int)
def mX4_back : mm_T := (yX4_back, cX4_back, 5, some .int)
def mX4_most : mm_T := (yX4_most, cX4_most, 5, some .int)
def mX4_list : mm_T := (yX4_list, cX4_list, 4, some .int)
def mX4_firstWrong : mm_T := (yX4_firstWrong, cX4_firstWrong, 3, some .int)
def mX4_countUnlike : mm_T := (yX4_countUnlike, cX4_countUnlike, 4, some .int)
def mX4_unlikeBits : mm_T := (yX4_unlikeBits, cX4_unlikeBits, 4, some .int)
def mX4_fitsIn : mm_T := (yX4_fitsIn, cX4_fitsIn, 3, some .int)
def mX4_night : mm_T := (yX4_night, cX4_night, 5, some .int)
def mX4_shuts : mm_T := (yX4_shuts, cX4_shuts, 3, some .int)
def mX4_opens : mm_T := (yX4_opens, cX4_opens, 3, some .int)
def mX4_years : mm_T := (yX4_years, cX4_years, 4, some .int)
def mX4_seed : mm_T := (yX4_seed, cX4_seed, 3, some .int)
def mX4_act : mm_T := (yX4_act, cX4_act, 4, some .int)
def mX4_trace : mm_T := (yX4_trace, cX4_trace, 2, some .int)
def mX4_image : mm_T := (yX4_image, cX4_image, 1, some .int)
def mX4_restore : mm_T := (yX4_restore, cX4_restore, 2, some .int)
def mX4_status : mm_T := (yX4_status, cX4_status, 2, some .int)
def mX4_refuse : mm_T := (yX4_refuse, cX4_refuse, 2, some .int)
def mX4_lacksRow : mm_T := (yX4_lacksRow, cX4_lacksRow, 2, some .int)
def mX4_lacksRows : mm_T := (yX4_lacksRows, cX4_lacksRows, 3, some .int)
def mX4_lacksHouse : mm_T := (yX4_lacksHouse, cX4_lacksHouse, 2, some .int)
def mX4_lacksHouses : mm_T := (yX4_lacksHouses, cX4_lacksHouses, 3, some .int)
def mX4_lacksSight : mm_T := (yX4_lacksSight, cX4_lacksSight, 4, some .int)
def mX4_lacksStorey : mm_T := (yX4_lacksStorey, cX4_lacksStorey, 3, some .int)
def mX4_isShelf : mm_T := (yX4_isShelf, cX4_isShelf, 1, some .boolean)
def mX4_isKind : mm_T := (yX4_isKind, cX4_isKind, 1, some .boolean)
def mX4_isHouseKind : mm_T := (yX4_isHouseKind, cX4_isHouseKind, 1, some .boolean)
def mX4_isTreeKind : mm_T := (yX4_isTreeKind, cX4_isTreeKind, 1, some .boolean)
def mX4_isOfKind : mm_T := (yX4_isOfKind, cX4_isOfKind, 2, some .boolean)
def mX4_isPlace : mm_T := (yX4_isPlace, cX4_isPlace, 2, some .boolean)
def mX4_isHeight : mm_T := (yX4_isHeight, cX4_isHeight, 1, some .boolean)
def mX4_isSummer : mm_T := (yX4_isSummer, cX4_isSummer, 1, some .boolean)
def mX4_isFar : mm_T := (yX4_isFar, cX4_isFar, 1, some .boolean)
def mX4_bit : mm_T := (yX4_bit, cX4_bit, 1, some .int)
def mX4_isIn : mm_T := (yX4_isIn, cX4_isIn, 2, some .boolean)
def mX4_lowestOf : mm_T := (yX4_lowestOf, cX4_lowestOf, 2, some .int)
def mX5_init : mm_T := (yX5_init, cX5_init, 1, none)
def mX5_no : mm_T := (yX5_no, cX5_no, 2, some .int)
def mX5_noTen : mm_T := (yX5_noTen, cX5_noTen, 2, some .int)
def mX5_noMuch : mm_T := (yX5_noMuch, cX5_noMuch, 2, some .int)
def mX5_isShelf : mm_T := (yX5_isShelf, cX5_isShelf, 2, some .boolean)
def mX5_isThing : mm_T := (yX5_isThing, cX5_isThing, 2, some .boolean)
def mX5_isHouse : mm_T := (yX5_isHouse, cX5_isHouse, 2, some .boolean)
def mX5_barred : mm_T := (yX5_barred, cX5_barred, 2, some .int)
def mX5_barredTwo : mm_T := (yX5_barredTwo, cX5_barredTwo, 3, some .int)
def mX5_row : mm_T := (yX5_row, cX5_row, 5, some .int)
def mX5_set : mm_T := (yX5_set, cX5_set, 5, some .int)
def mX5_copy : mm_T := (yX5_copy, cX5_copy, 7, some .int)
def mX5_element : mm_T := (yX5_element, cX5_element, 3, some .long)
def mX5_show : mm_T := (yX5_show, cX5_show, 3, some .int)
def mX5_holds : mm_T := (yX5_holds, cX5_holds, 2, some .int)
def mX5_says : mm_T := (yX5_says, cX5_says, 5, some .int)
def mX5_wants : mm_T := (yX5_wants, cX5_wants, 2, some .int)
def mX5_intAt : mm_T := (yX5_intAt, cX5_intAt, 3, some .int)
def mX5_many : mm_T := (yX5_many, cX5_many, 4, some .int)
def mX5_at : mm_T := (yX5_at, cX5_at, 4, some .int)
def mX5_adds : mm_T := (yX5_adds, cX5_adds, 7, some .int)
def mX5_thing : mm_T := (yX5_thing, cX5_thing, 6, some .int)
def mX5_thingOf : mm_T := (yX5_thingOf, cX5_thingOf, 3, some .int)
def mX5_height : mm_T := (yX5_height, cX5_height, 4, some .int)
def mX5_ask : mm_T := (yX5_ask, cX5_ask, 4, some .int)
def mX5_shut : mm_T := (yX5_shut, cX5_shut, 6, some .int)
def mX5_draw : mm_T := (yX5_draw, cX5_draw, 5, some .int)
def mX5_wrong : mm_T := (yX5_wrong, cX5_wrong, 2, some .boolean)
def mX5_word : mm_T := (yX5_word, cX5_word, 6, some .int)
def mX5_isDigit : mm_T := (yX5_isDigit, cX5_isDigit, 1, some .boolean)
def mX5_number : mm_T := (yX5_number, cX5_number, 1, some .boolean)
def mX5_isSo : mm_T := (yX5_isSo, cX5_isSo, 3, some .boolean)
def mX5_isFull : mm_T := (yX5_isFull, cX5_isFull, 2, some .boolean)
def mX5_isWordAt : mm_T := (yX5_isWordAt, cX5_isWordAt, 4, some .boolean)
def mX5_item : mm_T := (yX5_item, cX5_item, 6, some .boolean)
def mX5_carries : mm_T := (yX5_carries, cX5_carries, 6, some .int)
def mX5_all : mm_T := (yX5_all, cX5_all, 4, none)
def mX5_ground : mm_T := (yX5_ground, cX5_ground, 5, some .int)
def mX5_fault : mm_T := (yX5_fault, cX5_fault, 1, some .int)
def mX5_tall : mm_T := (yX5_tall, cX5_tall, 2, some .int)
def mX5_eyes : mm_T := (yX5_eyes, cX5_eyes, 2, some .int)
def mX5_sizeOf : mm_T := (yX5_sizeOf, cX5_sizeOf, 2, some .int)
def mX5_distance : mm_T := (yX5_distance, cX5_distance, 5, some .int)
def mX5_divides : mm_T := (yX5_divides, cX5_divides, 3, some .int)
def mX5_inWay : mm_T := (yX5_inWay, cX5_inWay, 9, some .int)
def mX5_looks : mm_T := (yX5_looks, cX5_looks, 3, some .boolean)
def mX5_isSeen : mm_T := (yX5_isSeen, cX5_isSeen, 3, some .boolean)
def mX5_seesInto : mm_T := (yX5_seesInto, cX5_seesInto, 4, some .int)
def mX5_seersOf : mm_T := (yX5_seersOf, cX5_seersOf, 4, some .int)
def mX5_isRight : mm_T := (yX5_isRight, cX5_isRight, 2, some .boolean)
def mX5_allRight : mm_T := (yX5_allRight, cX5_allRight, 3, some .int)
def mX5_sees : mm_T := (yX5_sees, cX5_sees, 5, some .int)
def mX5_bars : mm_T := (yX5_bars, cX5_bars, 4, some .int)
def mX5_seers : mm_T := (yX5_seers, cX5_seers, 3, some .int)
def mX5_right : mm_T := (yX5_right, cX5_right, 1, some .int)
def mX5_first : mm_T := (yX5_first, cX5_first, 3, some .int)
def mX5_costOf : mm_T := (yX5_costOf, cX5_costOf, 3, some .int)
def mX5_cost : mm_T := (yX5_cost, cX5_cost, 4, some .int)
def mX5_keptOf : mm_T := (yX5_keptOf, cX5_keptOf, 5, some .int)
def mX5_keeps : mm_T := (yX5_keeps, cX5_keeps, 3, some .int)
def mX5_shutters : mm_T := (yX5_shutters, cX5_shutters, 6, none)
def mX5_cheapest : mm_T := (yX5_cheapest, cX5_cheapest, 2, some .int)
def mX5_houses : mm_T := (yX5_houses, cX5_houses, 3, some .int)
def mX5_draws : mm_T := (yX5_draws, cX5_draws, 3, none)
def mX5_drawnOnes : mm_T := (yX5_drawnOnes, cX5_drawnOnes, 3, some .int)
def mX5_rightInBoth : mm_T := (yX5_rightInBoth, cX5_rightInBoth, 3, some .int)
def mX5_curtains : mm_T := (yX5_curtains, cX5_curtains, 8, some .int)
def mX5_newly : mm_T := (yX5_newly, cX5_newly, 6, some .int)
def mX5_storey : mm_T := (yX5_storey, cX5_storey, 4, some .int)
def mX5_blinded : mm_T := (yX5_blinded, cX5_blinded, 5, some .int)
def mX5_felled : mm_T := (yX5_felled, cX5_felled, 4, some .int)
def mX5_pairs : mm_T := (yX5_pairs, cX5_pairs, 4, some .int)
def mX5_firstOf : mm_T := (yX5_firstOf, cX5_firstOf, 3, some .int)
def mX5_back : mm_T := (yX5_back, cX5_back, 5, some .int)
def mX5_most : mm_T := (yX5_most, cX5_most, 6, some .int)
def mX5_lists : mm_T := (yX5_lists, cX5_lists, 4, none)
def mX5_list : mm_T := (yX5_list, cX5_list, 6, some .int)
def mX5_night : mm_T := (yX5_night, cX5_night, 4, some .int)
def mX5_shuts : mm_T := (yX5_shuts, cX5_shuts, 1, some .int)
def mX5_shutMany : mm_T := (yX5_shutMany, cX5_shutMany, 3, some .int)
def mX5_opens : mm_T := (yX5_opens, cX5_opens, 3, some .int)
def mX5_draws3 : mm_T := (yX5_draws3, cX5_draws3, 1, some .int)
def mX5_years : mm_T := (yX5_years, cX5_years, 5, some .int)
def mX5_seed : mm_T := (yX5_seed, cX5_seed, 3, some .int)
def mX5_body : mm_T := (yX5_body, cX5_body, 2, none)
def mX5_standing : mm_T := (yX5_standing, cX5_standing, 6, some .int)
def mX5_looking : mm_T := (yX5_looking, cX5_looking, 6, some .int)
def mX5_hiding : mm_T := (yX5_hiding, cX5_hiding, 5, some .int)
def mX5_act : mm_T := (yX5_act, cX5_act, 4, some .int)
def mX5_trace : mm_T := (yX5_trace, cX5_trace, 2, some .int)
def mX5_image : mm_T := (yX5_image, cX5_image, 1, some .int)
def mX5_restore : mm_T := (yX5_restore, cX5_restore, 2, some .int)
def mX5_status : mm_T := (yX5_status, cX5_status, 2, some .int)
def mJ6_bitCount_0f7a4 : mm_T := (yJ6_bitCount_0f7a4, cJ6_bitCount_0f7a4, 1, some .int)
def mJ9_abs_0f7a4 : mm_T := (yJ9_abs_0f7a4, cJ9_abs_0f7a4, 1, some .int)
def mJ9_max_7cf53 : mm_T := (yJ9_max_7cf53, cJ9_max_7cf53, 2, some .int)
def mJ9_min_7cf53 : mm_T := (yJ9_min_7cf53, cJ9_min_7cf53, 2, some .int)
def mJ0_length_8abf5 : mm_T := (yJ0_length_8abf5, cJ0_length_8abf5, 1, some .int)
def mJ0_charAt_5068e : mm_T := (yJ0_charAt_5068e, cJ0_charAt_5068e, 2, some .char)
def mJ0_coder_7d493 : mm_T := (yJ0_coder_7d493, cJ0_coder_7d493, 1, some .byte)
def mJ0_isLatin1_aae02 : mm_T := (yJ0_isLatin1_aae02, cJ0_isLatin1_aae02, 1, some .boolean)
def mJ0_checkIndex_df160 : mm_T := (yJ0_checkIndex_df160, cJ0_checkIndex_df160, 2, none)
def mJ1_charAt_3b067 : mm_T := (yJ1_charAt_3b067, cJ1_charAt_3b067, 2, some .char)
def mJ2_getChar_3b067 : mm_T := (yJ2_getChar_3b067, cJ2_getChar_3b067, 2, some .char)
def mJ2_length_9d52b : mm_T := (yJ2_length_9d52b, cJ2_length_9d52b, 1, some .int)
def mJ2_charAt_3b067 : mm_T := (yJ2_charAt_3b067, cJ2_charAt_3b067, 2, some .char)
def mJ2_checkIndex_2214a : mm_T := (yJ2_checkIndex_2214a, cJ2_checkIndex_2214a, 2, none)
def mJ3_checkIndex_8e157 : mm_T := (yJ3_checkIndex_8e157, cJ3_checkIndex_8e157, 3, some .int)
def mL_law : mm_T := (x, code, 4, some .boolean)
def kO_l : List Nat := [4, 8, 1, 6, 6, 6, 6, 6, 6, 6, 1, 6, 6, 6, 6, 6, 6, 6, 1, 6, 6, 6, 6, 6, 6, 6, 0, 6, 6, 6, 3, 7, 3, 7, 3, 7, 3, 7, 3, 7, 3, 7, 3, 7, 3, 7, 5, 6, 6, 6, 6, 6, 6, 6, 6, 6, 6, 6, 6, 7, 7, 6, 6, 6, 6, 6, 6]
def zO_l : List Nat := [0, 8, 0, 8, 8, 8, 8, 8, 8, 8, 0, 8, 8, 8, 8, 8, 8, 8, 0, 8, 8, 8, 8, 8, 8, 8, 0, 20, 8, 256, 0, 160, 0, 160, 0, 160, 0, 160, 0, 160, 0, 160, 0, 160, 0, 160, 0, 8, 8, 8, 8, 8, 8, 8, 8, 8, 8, 8, 8, 1280, 160, 32, 5, 70, 70, 8, 20]
/-- the kind of the object number a: a class 0 .. 5, int[] 6, long[] 7, Shelf[] 8 -/
def kO (a : Nat) : Nat := kO_l.getD a 2
def zO (a : Nat) : Nat := zO_l.getD a 0
end

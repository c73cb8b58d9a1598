section
/-! names and words: by program (wip/whole/gen01.py) out of the claim -/
/-- a private method of a class that the tables say can be made, by its rows of tables_1 -/
def lw_okq (q : MethodName × Nat) : Prop := (q.1.cls ≠ "java/lang/invoke/MethodHandle" ∧ q.1.cls ≠ "java/lang/invoke/VarHandle") ∧ Cond.instantiable q.1.cls q.2 ∈ tables_1 ∧ Cond.privateMethod q.1 ∈ tables_1 ∧ Cond.instanceMethod q.1 ∈ tables_1
theorem lw_p0 : lw_okq (⟨"SeenByOne", "refuse", "(I)I"⟩, 9) := ⟨⟨by decide +kernel, by decide +kernel⟩, List.mem_of_getElem? (i := 15) (by decide +kernel), List.mem_of_getElem? (i := 168) (by decide +kernel), List.mem_of_getElem? (i := 169) (by decide +kernel)⟩
theorem lw_p1 : lw_okq (⟨"SeenByOne", "lacksRow", "(I)I"⟩, 9) := ⟨⟨by decide +kernel, by decide +kernel⟩, List.mem_of_getElem? (i := 15) (by decide +kernel), List.mem_of_getElem? (i := 180) (by decide +kernel), List.mem_of_getElem? (i := 181) (by decide +kernel)⟩
theorem lw_p2 : lw_okq (⟨"SeenByOne", "lacksRows", "(II)I"⟩, 9) := ⟨⟨by decide +kernel, by decide +kernel⟩, List.mem_of_getElem? (i := 15) (by decide +kernel), List.mem_of_getElem? (i := 204) (by decide +kernel), List.mem_of_getElem? (i := 205) (by decide +kernel)⟩
theorem lw_p3 : lw_okq (⟨"SeenByOne", "wordOf", "(II)I"⟩, 9) := ⟨⟨by decide +kernel, by decide +kernel⟩, List.mem_of_getElem? (i := 15) (by decide +kernel), List.mem_of_getElem? (i := 247) (by decide +kernel), List.mem_of_getElem? (i := 248) (by decide +kernel)⟩
theorem lw_p4 : lw_okq (⟨"SeenByOne$Ground", "lookersInto", "(I)I"⟩, 13) := ⟨⟨by decide +kernel, by decide +kernel⟩, List.mem_of_getElem? (i := 25) (by decide +kernel), List.mem_of_getElem? (i := 261) (by decide +kernel), List.mem_of_getElem? (i := 262) (by decide +kernel)⟩
theorem lw_p5 : lw_okq (⟨"SeenByOne$Ground", "looksInto", "(II)Z"⟩, 13) := ⟨⟨by decide +kernel, by decide +kernel⟩, List.mem_of_getElem? (i := 25) (by decide +kernel), List.mem_of_getElem? (i := 265) (by decide +kernel), List.mem_of_getElem? (i := 266) (by decide +kernel)⟩
theorem lw_p6 : lw_okq (⟨"SeenByOne", "lacksSight", "(II)I"⟩, 9) := ⟨⟨by decide +kernel, by decide +kernel⟩, List.mem_of_getElem? (i := 15) (by decide +kernel), List.mem_of_getElem? (i := 372) (by decide +kernel), List.mem_of_getElem? (i := 373) (by decide +kernel)⟩
theorem lw_p7 : lw_okq (⟨"SeenByOne", "lacksHouses", "(II)I"⟩, 9) := ⟨⟨by decide +kernel, by decide +kernel⟩, List.mem_of_getElem? (i := 15) (by decide +kernel), List.mem_of_getElem? (i := 376) (by decide +kernel), List.mem_of_getElem? (i := 377) (by decide +kernel)⟩
theorem lw_p8 : lw_okq (⟨"SeenByOne", "lacksHouse", "(I)I"⟩, 9) := ⟨⟨by decide +kernel, by decide +kernel⟩, List.mem_of_getElem? (i := 15) (by decide +kernel), List.mem_of_getElem? (i := 385) (by decide +kernel), List.mem_of_getElem? (i := 386) (by decide +kernel)⟩
theorem lw_p9 : lw_okq (⟨"SeenByOne$Reader", "readItem", "()V"⟩, 5) := ⟨⟨by decide +kernel, by decide +kernel⟩, List.mem_of_getElem? (i := 398) (by decide +kernel), List.mem_of_getElem? (i := 425) (by decide +kernel), List.mem_of_getElem? (i := 426) (by decide +kernel)⟩
theorem lw_p10 : lw_okq (⟨"SeenByOne$Reader", "readWord", "()I"⟩, 5) := ⟨⟨by decide +kernel, by decide +kernel⟩, List.mem_of_getElem? (i := 398) (by decide +kernel), List.mem_of_getElem? (i := 429) (by decide +kernel), List.mem_of_getElem? (i := 430) (by decide +kernel)⟩
theorem lw_p11 : lw_okq (⟨"SeenByOne$Reader", "sameLetters", "(Ljava/lang/String;)I"⟩, 5) := ⟨⟨by decide +kernel, by decide +kernel⟩, List.mem_of_getElem? (i := 398) (by decide +kernel), List.mem_of_getElem? (i := 441) (by decide +kernel), List.mem_of_getElem? (i := 442) (by decide +kernel)⟩
theorem lw_p12 : lw_okq (⟨"SeenByOne$Reader", "signAt", "(I)I"⟩, 5) := ⟨⟨by decide +kernel, by decide +kernel⟩, List.mem_of_getElem? (i := 398) (by decide +kernel), List.mem_of_getElem? (i := 455) (by decide +kernel), List.mem_of_getElem? (i := 456) (by decide +kernel)⟩
theorem lw_p13 : lw_okq (⟨"SeenByOne$Reader", "faultAt", "(I)V"⟩, 5) := ⟨⟨by decide +kernel, by decide +kernel⟩, List.mem_of_getElem? (i := 398) (by decide +kernel), List.mem_of_getElem? (i := 498) (by decide +kernel), List.mem_of_getElem? (i := 499) (by decide +kernel)⟩
theorem lw_p14 : lw_okq (⟨"SeenByOne$Reader", "readThing", "(I)V"⟩, 5) := ⟨⟨by decide +kernel, by decide +kernel⟩, List.mem_of_getElem? (i := 398) (by decide +kernel), List.mem_of_getElem? (i := 502) (by decide +kernel), List.mem_of_getElem? (i := 503) (by decide +kernel)⟩
theorem lw_p15 : lw_okq (⟨"SeenByOne$Reader", "readNumber", "(II)I"⟩, 5) := ⟨⟨by decide +kernel, by decide +kernel⟩, List.mem_of_getElem? (i := 398) (by decide +kernel), List.mem_of_getElem? (i := 507) (by decide +kernel), List.mem_of_getElem? (i := 508) (by decide +kernel)⟩
def lw_privs_1 : List (MethodName × Nat) := [(⟨"SeenByOne", "refuse", "(I)I"⟩, 9), (⟨"SeenByOne", "lacksRow", "(I)I"⟩, 9), (⟨"SeenByOne", "lacksRows", "(II)I"⟩, 9), (⟨"SeenByOne", "wordOf", "(II)I"⟩, 9), (⟨"SeenByOne$Ground", "lookersInto", "(I)I"⟩, 13), (⟨"SeenByOne$Ground", "looksInto", "(II)Z"⟩, 13), (⟨"SeenByOne", "lacksSight", "(II)I"⟩, 9), (⟨"SeenByOne", "lacksHouses", "(II)I"⟩, 9), (⟨"SeenByOne", "lacksHouse", "(I)I"⟩, 9), (⟨"SeenByOne$Reader", "readItem", "()V"⟩, 5), (⟨"SeenByOne$Reader", "readWord", "()I"⟩, 5), (⟨"SeenByOne$Reader", "sameLetters", "(Ljava/lang/String;)I"⟩, 5), (⟨"SeenByOne$Reader", "signAt", "(I)I"⟩, 5), (⟨"SeenByOne$Reader", "faultAt", "(I)V"⟩, 5), (⟨"SeenByOne$Reader", "readThing", "(I)V"⟩, 5), (⟨"SeenByOne$Reader", "readNumber", "(II)I"⟩, 5)]
theorem lw_r1 : ∀ q ∈ lw_privs_1, lw_okq q := List.forall_mem_cons.mpr ⟨lw_p0, List.forall_mem_cons.mpr ⟨lw_p1, List.forall_mem_cons.mpr ⟨lw_p2, List.forall_mem_cons.mpr ⟨lw_p3, List.forall_mem_cons.mpr ⟨lw_p4, List.forall_mem_cons.mpr ⟨lw_p5, List.forall_mem_cons.mpr ⟨lw_p6, List.forall_mem_cons.mpr ⟨lw_p7, List.forall_mem_cons.mpr ⟨lw_p8, List.forall_mem_cons.mpr ⟨lw_p9, List.forall_mem_cons.mpr ⟨lw_p10, List.forall_mem_cons.mpr ⟨lw_p11, List.forall_mem_cons.mpr ⟨lw_p12, List.forall_mem_cons.mpr ⟨lw_p13, List.forall_mem_cons.mpr ⟨lw_p14, List.forall_mem_cons.mpr ⟨lw_p15, fun _ h => absurd h List.not_mem_nil⟩⟩⟩⟩⟩⟩⟩⟩⟩⟩⟩⟩⟩⟩⟩⟩
theorem lw_p16 : lw_okq (⟨"SeenByOne$Reader", "readSign", "(C)V"⟩, 5) := ⟨⟨by decide +kernel, by decide +kernel⟩, List.mem_of_getElem? (i := 398) (by decide +kernel), List.mem_of_getElem? (i := 511) (by decide +kernel), List.mem_of_getElem? (i := 512) (by decide +kernel)⟩
theorem lw_p17 : lw_okq (⟨"SeenByOne$Reader", "digitAt", "(I)I"⟩, 5) := ⟨⟨by decide +kernel, by decide +kernel⟩, List.mem_of_getElem? (i := 398) (by decide +kernel), List.mem_of_getElem? (i := 515) (by decide +kernel), List.mem_of_getElem? (i := 516) (by decide +kernel)⟩
theorem lw_p18 : lw_okq (⟨"SeenByOne$Reader", "readHouse", "(I)I"⟩, 5) := ⟨⟨by decide +kernel, by decide +kernel⟩, List.mem_of_getElem? (i := 398) (by decide +kernel), List.mem_of_getElem? (i := 521) (by decide +kernel), List.mem_of_getElem? (i := 522) (by decide +kernel)⟩
theorem lw_p19 : lw_okq (⟨"SeenByOne$Reader", "tellShut", "(II)V"⟩, 5) := ⟨⟨by decide +kernel, by decide +kernel⟩, List.mem_of_getElem? (i := 398) (by decide +kernel), List.mem_of_getElem? (i := 526) (by decide +kernel), List.mem_of_getElem? (i := 527) (by decide +kernel)⟩
theorem lw_p20 : lw_okq (⟨"SeenByOne$Reader", "tellDrawn", "(I)V"⟩, 5) := ⟨⟨by decide +kernel, by decide +kernel⟩, List.mem_of_getElem? (i := 398) (by decide +kernel), List.mem_of_getElem? (i := 531) (by decide +kernel), List.mem_of_getElem? (i := 532) (by decide +kernel)⟩
theorem lw_p21 : lw_okq (⟨"SeenByOne", "addRightWhenDrawn", "(I)V"⟩, 9) := ⟨⟨by decide +kernel, by decide +kernel⟩, List.mem_of_getElem? (i := 15) (by decide +kernel), List.mem_of_getElem? (i := 613) (by decide +kernel), List.mem_of_getElem? (i := 614) (by decide +kernel)⟩
theorem lw_p22 : lw_okq (⟨"SeenByOne", "bestDrawnSet", "()I"⟩, 9) := ⟨⟨by decide +kernel, by decide +kernel⟩, List.mem_of_getElem? (i := 15) (by decide +kernel), List.mem_of_getElem? (i := 622) (by decide +kernel), List.mem_of_getElem? (i := 623) (by decide +kernel)⟩
theorem lw_p23 : lw_okq (⟨"SeenByOne", "rightWithNewHouse", "(III)I"⟩, 9) := ⟨⟨by decide +kernel, by decide +kernel⟩, List.mem_of_getElem? (i := 15) (by decide +kernel), List.mem_of_getElem? (i := 630) (by decide +kernel), List.mem_of_getElem? (i := 631) (by decide +kernel)⟩
theorem lw_p24 : lw_okq (⟨"SeenByOne", "lacksStorey", "(I)I"⟩, 9) := ⟨⟨by decide +kernel, by decide +kernel⟩, List.mem_of_getElem? (i := 15) (by decide +kernel), List.mem_of_getElem? (i := 642) (by decide +kernel), List.mem_of_getElem? (i := 643) (by decide +kernel)⟩
theorem lw_p25 : lw_okq (⟨"SeenByOne", "tryStorey", "(I)V"⟩, 9) := ⟨⟨by decide +kernel, by decide +kernel⟩, List.mem_of_getElem? (i := 15) (by decide +kernel), List.mem_of_getElem? (i := 646) (by decide +kernel), List.mem_of_getElem? (i := 647) (by decide +kernel)⟩
theorem lw_p26 : lw_okq (⟨"SeenByOne", "fitsIn", "(LSeenByOne$Shelf;I)I"⟩, 9) := ⟨⟨by decide +kernel, by decide +kernel⟩, List.mem_of_getElem? (i := 15) (by decide +kernel), List.mem_of_getElem? (i := 696) (by decide +kernel), List.mem_of_getElem? (i := 697) (by decide +kernel)⟩
theorem lw_p27 : lw_okq (⟨"SeenByOne$Ground", "drawGrowth", "()I"⟩, 13) := ⟨⟨by decide +kernel, by decide +kernel⟩, List.mem_of_getElem? (i := 25) (by decide +kernel), List.mem_of_getElem? (i := 726) (by decide +kernel), List.mem_of_getElem? (i := 727) (by decide +kernel)⟩
theorem lw_p28 : lw_okq (⟨"SeenByOne$Acts", "begins", "(I)V"⟩, 5) := ⟨⟨by decide +kernel, by decide +kernel⟩, List.mem_of_getElem? (i := 89) (by decide +kernel), List.mem_of_getElem? (i := 756) (by decide +kernel), List.mem_of_getElem? (i := 757) (by decide +kernel)⟩
theorem lw_p29 : lw_okq (⟨"SeenByOneModel", "isShelf", "(I)Z"⟩, 38) := ⟨⟨by decide +kernel, by decide +kernel⟩, List.mem_of_getElem? (i := 792) (by decide +kernel), List.mem_of_getElem? (i := 917) (by decide +kernel), List.mem_of_getElem? (i := 918) (by decide +kernel)⟩
theorem lw_p30 : lw_okq (⟨"SeenByOneModel", "no", "(I)I"⟩, 38) := ⟨⟨by decide +kernel, by decide +kernel⟩, List.mem_of_getElem? (i := 792) (by decide +kernel), List.mem_of_getElem? (i := 921) (by decide +kernel), List.mem_of_getElem? (i := 922) (by decide +kernel)⟩
theorem lw_p31 : lw_okq (⟨"SeenByOneModel", "isThing", "(I)Z"⟩, 38) := ⟨⟨by decide +kernel, by decide +kernel⟩, List.mem_of_getElem? (i := 792) (by decide +kernel), List.mem_of_getElem? (i := 941) (by decide +kernel), List.mem_of_getElem? (i := 942) (by decide +kernel)⟩
def lw_privs_2 : List (MethodName × Nat) := [(⟨"SeenByOne$Reader", "readSign", "(C)V"⟩, 5), (⟨"SeenByOne$Reader", "digitAt", "(I)I"⟩, 5), (⟨"SeenByOne$Reader", "readHouse", "(I)I"⟩, 5), (⟨"SeenByOne$Reader", "tellShut", "(II)V"⟩, 5), (⟨"SeenByOne$Reader", "tellDrawn", "(I)V"⟩, 5), (⟨"SeenByOne", "addRightWhenDrawn", "(I)V"⟩, 9), (⟨"SeenByOne", "bestDrawnSet", "()I"⟩, 9), (⟨"SeenByOne", "rightWithNewHouse", "(III)I"⟩, 9), (⟨"SeenByOne", "lacksStorey", "(I)I"⟩, 9), (⟨"SeenByOne", "tryStorey", "(I)V"⟩, 9), (⟨"SeenByOne", "fitsIn", "(LSeenByOne$Shelf;I)I"⟩, 9), (⟨"SeenByOne$Ground", "drawGrowth", "()I"⟩, 13), (⟨"SeenByOne$Acts", "begins", "(I)V"⟩, 5), (⟨"SeenByOneModel", "isShelf", "(I)Z"⟩, 38), (⟨"SeenByOneModel", "no", "(I)I"⟩, 38), (⟨"SeenByOneModel", "isThing", "(I)Z"⟩, 38)]
theorem lw_r2 : ∀ q ∈ lw_privs_2, lw_okq q := List.forall_mem_cons.mpr ⟨lw_p16, List.forall_mem_cons.mpr ⟨lw_p17, List.forall_mem_cons.mpr ⟨lw_p18, List.forall_mem_cons.mpr ⟨lw_p19, List.forall_mem_cons.mpr ⟨lw_p20, List.forall_mem_cons.mpr ⟨lw_p21, List.forall_mem_cons.mpr ⟨lw_p22, List.forall_mem_cons.mpr ⟨lw_p23, List.forall_mem_cons.mpr ⟨lw_p24, List.forall_mem_cons.mpr ⟨lw_p25, List.forall_mem_cons.mpr ⟨lw_p26, List.forall_mem_cons.mpr ⟨lw_p27, List.forall_mem_cons.mpr ⟨lw_p28, List.forall_mem_cons.mpr ⟨lw_p29, List.forall_mem_cons.mpr ⟨lw_p30, List.forall_mem_cons.mpr ⟨lw_p31, fun _ h => absurd h List.not_mem_nil⟩⟩⟩⟩⟩⟩⟩⟩⟩⟩⟩⟩⟩⟩⟩⟩
theorem lw_p32 : lw_okq (⟨"SeenByOneModel", "isHouse", "(I)Z"⟩, 38) := ⟨⟨by decide +kernel, by decide +kernel⟩, List.mem_of_getElem? (i := 792) (by decide +kernel), List.mem_of_getElem? (i := 953) (by decide +kernel), List.mem_of_getElem? (i := 954) (by decide +kernel)⟩
theorem lw_p33 : lw_okq (⟨"SeenByOneModel", "tall", "(I)I"⟩, 38) := ⟨⟨by decide +kernel, by decide +kernel⟩, List.mem_of_getElem? (i := 792) (by decide +kernel), List.mem_of_getElem? (i := 957) (by decide +kernel), List.mem_of_getElem? (i := 958) (by decide +kernel)⟩
theorem lw_p34 : lw_okq (⟨"SeenByOneModel", "seersOf", "(I)I"⟩, 38) := ⟨⟨by decide +kernel, by decide +kernel⟩, List.mem_of_getElem? (i := 792) (by decide +kernel), List.mem_of_getElem? (i := 961) (by decide +kernel), List.mem_of_getElem? (i := 962) (by decide +kernel)⟩
theorem lw_p35 : lw_okq (⟨"SeenByOneModel", "seesInto", "(I)I"⟩, 38) := ⟨⟨by decide +kernel, by decide +kernel⟩, List.mem_of_getElem? (i := 792) (by decide +kernel), List.mem_of_getElem? (i := 965) (by decide +kernel), List.mem_of_getElem? (i := 966) (by decide +kernel)⟩
theorem lw_p36 : lw_okq (⟨"SeenByOneModel", "isSeen", "(II)Z"⟩, 38) := ⟨⟨by decide +kernel, by decide +kernel⟩, List.mem_of_getElem? (i := 792) (by decide +kernel), List.mem_of_getElem? (i := 969) (by decide +kernel), List.mem_of_getElem? (i := 970) (by decide +kernel)⟩
theorem lw_p37 : lw_okq (⟨"SeenByOneModel", "looks", "(II)Z"⟩, 38) := ⟨⟨by decide +kernel, by decide +kernel⟩, List.mem_of_getElem? (i := 792) (by decide +kernel), List.mem_of_getElem? (i := 973) (by decide +kernel), List.mem_of_getElem? (i := 974) (by decide +kernel)⟩
theorem lw_p38 : lw_okq (⟨"SeenByOneModel", "distance", "(II)I"⟩, 38) := ⟨⟨by decide +kernel, by decide +kernel⟩, List.mem_of_getElem? (i := 792) (by decide +kernel), List.mem_of_getElem? (i := 977) (by decide +kernel), List.mem_of_getElem? (i := 978) (by decide +kernel)⟩
theorem lw_p39 : lw_okq (⟨"SeenByOneModel", "sizeOf", "(I)I"⟩, 38) := ⟨⟨by decide +kernel, by decide +kernel⟩, List.mem_of_getElem? (i := 792) (by decide +kernel), List.mem_of_getElem? (i := 981) (by decide +kernel), List.mem_of_getElem? (i := 982) (by decide +kernel)⟩
theorem lw_p40 : lw_okq (⟨"SeenByOneModel", "inWay", "(II)I"⟩, 38) := ⟨⟨by decide +kernel, by decide +kernel⟩, List.mem_of_getElem? (i := 792) (by decide +kernel), List.mem_of_getElem? (i := 985) (by decide +kernel), List.mem_of_getElem? (i := 986) (by decide +kernel)⟩
theorem lw_p41 : lw_okq (⟨"SeenByOneModel", "divides", "(II)I"⟩, 38) := ⟨⟨by decide +kernel, by decide +kernel⟩, List.mem_of_getElem? (i := 792) (by decide +kernel), List.mem_of_getElem? (i := 989) (by decide +kernel), List.mem_of_getElem? (i := 990) (by decide +kernel)⟩
theorem lw_p42 : lw_okq (⟨"SeenByOneModel", "at", "(II)I"⟩, 38) := ⟨⟨by decide +kernel, by decide +kernel⟩, List.mem_of_getElem? (i := 792) (by decide +kernel), List.mem_of_getElem? (i := 993) (by decide +kernel), List.mem_of_getElem? (i := 994) (by decide +kernel)⟩
theorem lw_p43 : lw_okq (⟨"SeenByOneModel", "eyes", "(I)I"⟩, 38) := ⟨⟨by decide +kernel, by decide +kernel⟩, List.mem_of_getElem? (i := 792) (by decide +kernel), List.mem_of_getElem? (i := 997) (by decide +kernel), List.mem_of_getElem? (i := 998) (by decide +kernel)⟩
theorem lw_p44 : lw_okq (⟨"SeenByOneModel", "many", "(I)I"⟩, 38) := ⟨⟨by decide +kernel, by decide +kernel⟩, List.mem_of_getElem? (i := 792) (by decide +kernel), List.mem_of_getElem? (i := 1001) (by decide +kernel), List.mem_of_getElem? (i := 1002) (by decide +kernel)⟩
theorem lw_p45 : lw_okq (⟨"SeenByOneModel", "isRight", "(I)Z"⟩, 38) := ⟨⟨by decide +kernel, by decide +kernel⟩, List.mem_of_getElem? (i := 792) (by decide +kernel), List.mem_of_getElem? (i := 1005) (by decide +kernel), List.mem_of_getElem? (i := 1006) (by decide +kernel)⟩
theorem lw_p46 : lw_okq (⟨"SeenByOneModel", "adds", "(IIIII)I"⟩, 38) := ⟨⟨by decide +kernel, by decide +kernel⟩, List.mem_of_getElem? (i := 792) (by decide +kernel), List.mem_of_getElem? (i := 1013) (by decide +kernel), List.mem_of_getElem? (i := 1014) (by decide +kernel)⟩
theorem lw_p47 : lw_okq (⟨"SeenByOneModel", "barredTwo", "(II)I"⟩, 38) := ⟨⟨by decide +kernel, by decide +kernel⟩, List.mem_of_getElem? (i := 792) (by decide +kernel), List.mem_of_getElem? (i := 1033) (by decide +kernel), List.mem_of_getElem? (i := 1034) (by decide +kernel)⟩
def lw_privs_3 : List (MethodName × Nat) := [(⟨"SeenByOneModel", "isHouse", "(I)Z"⟩, 38), (⟨"SeenByOneModel", "tall", "(I)I"⟩, 38), (⟨"SeenByOneModel", "seersOf", "(I)I"⟩, 38), (⟨"SeenByOneModel", "seesInto", "(I)I"⟩, 38), (⟨"SeenByOneModel", "isSeen", "(II)Z"⟩, 38), (⟨"SeenByOneModel", "looks", "(II)Z"⟩, 38), (⟨"SeenByOneModel", "distance", "(II)I"⟩, 38), (⟨"SeenByOneModel", "sizeOf", "(I)I"⟩, 38), (⟨"SeenByOneModel", "inWay", "(II)I"⟩, 38), (⟨"SeenByOneModel", "divides", "(II)I"⟩, 38), (⟨"SeenByOneModel", "at", "(II)I"⟩, 38), (⟨"SeenByOneModel", "eyes", "(I)I"⟩, 38), (⟨"SeenByOneModel", "many", "(I)I"⟩, 38), (⟨"SeenByOneModel", "isRight", "(I)Z"⟩, 38), (⟨"SeenByOneModel", "adds", "(IIIII)I"⟩, 38), (⟨"SeenByOneModel", "barredTwo", "(II)I"⟩, 38)]
theorem lw_r3 : ∀ q ∈ lw_privs_3, lw_okq q := List.forall_mem_cons.mpr ⟨lw_p32, List.forall_mem_cons.mpr ⟨lw_p33, List.forall_mem_cons.mpr ⟨lw_p34, List.forall_mem_cons.mpr ⟨lw_p35, List.forall_mem_cons.mpr ⟨lw_p36, List.forall_mem_cons.mpr ⟨lw_p37, List.forall_mem_cons.mpr ⟨lw_p38, List.forall_mem_cons.mpr ⟨lw_p39, List.forall_mem_cons.mpr ⟨lw_p40, List.forall_mem_cons.mpr ⟨lw_p41, List.forall_mem_cons.mpr ⟨lw_p42, List.forall_mem_cons.mpr ⟨lw_p43, List.forall_mem_cons.mpr ⟨lw_p44, List.forall_mem_cons.mpr ⟨lw_p45, List.forall_mem_cons.mpr ⟨lw_p46, List.forall_mem_cons.mpr ⟨lw_p47, fun _ h => absurd h List.not_mem_nil⟩⟩⟩⟩⟩⟩⟩⟩⟩⟩⟩⟩⟩⟩⟩⟩
theorem lw_p48 : lw_okq (⟨"SeenByOneModel", "barred", "(I)I"⟩, 38) := ⟨⟨by decide +kernel, by decide +kernel⟩, List.mem_of_getElem? (i := 792) (by decide +kernel), List.mem_of_getElem? (i := 1041) (by decide +kernel), List.mem_of_getElem? (i := 1042) (by decide +kernel)⟩
theorem lw_p49 : lw_okq (⟨"SeenByOneModel", "wants", "(I)I"⟩, 38) := ⟨⟨by decide +kernel, by decide +kernel⟩, List.mem_of_getElem? (i := 792) (by decide +kernel), List.mem_of_getElem? (i := 1049) (by decide +kernel), List.mem_of_getElem? (i := 1050) (by decide +kernel)⟩
theorem lw_p50 : lw_okq (⟨"SeenByOneModel", "all", "([IZ)V"⟩, 38) := ⟨⟨by decide +kernel, by decide +kernel⟩, List.mem_of_getElem? (i := 792) (by decide +kernel), List.mem_of_getElem? (i := 1053) (by decide +kernel), List.mem_of_getElem? (i := 1054) (by decide +kernel)⟩
theorem lw_p51 : lw_okq (⟨"SeenByOneModel", "carries", "([I[IIZ)I"⟩, 38) := ⟨⟨by decide +kernel, by decide +kernel⟩, List.mem_of_getElem? (i := 792) (by decide +kernel), List.mem_of_getElem? (i := 1057) (by decide +kernel), List.mem_of_getElem? (i := 1058) (by decide +kernel)⟩
theorem lw_p52 : lw_okq (⟨"SeenByOneModel", "item", "()Z"⟩, 38) := ⟨⟨by decide +kernel, by decide +kernel⟩, List.mem_of_getElem? (i := 792) (by decide +kernel), List.mem_of_getElem? (i := 1061) (by decide +kernel), List.mem_of_getElem? (i := 1062) (by decide +kernel)⟩
theorem lw_p53 : lw_okq (⟨"SeenByOneModel", "isWordAt", "(I)Z"⟩, 38) := ⟨⟨by decide +kernel, by decide +kernel⟩, List.mem_of_getElem? (i := 792) (by decide +kernel), List.mem_of_getElem? (i := 1065) (by decide +kernel), List.mem_of_getElem? (i := 1066) (by decide +kernel)⟩
theorem lw_p54 : lw_okq (⟨"SeenByOneModel", "isFull", "(I)Z"⟩, 38) := ⟨⟨by decide +kernel, by decide +kernel⟩, List.mem_of_getElem? (i := 792) (by decide +kernel), List.mem_of_getElem? (i := 1069) (by decide +kernel), List.mem_of_getElem? (i := 1070) (by decide +kernel)⟩
theorem lw_p55 : lw_okq (⟨"SeenByOneModel", "wrong", "(I)Z"⟩, 38) := ⟨⟨by decide +kernel, by decide +kernel⟩, List.mem_of_getElem? (i := 792) (by decide +kernel), List.mem_of_getElem? (i := 1073) (by decide +kernel), List.mem_of_getElem? (i := 1074) (by decide +kernel)⟩
theorem lw_p56 : lw_okq (⟨"SeenByOneModel", "word", "()I"⟩, 38) := ⟨⟨by decide +kernel, by decide +kernel⟩, List.mem_of_getElem? (i := 792) (by decide +kernel), List.mem_of_getElem? (i := 1077) (by decide +kernel), List.mem_of_getElem? (i := 1078) (by decide +kernel)⟩
theorem lw_p57 : lw_okq (⟨"SeenByOneModel", "number", "()Z"⟩, 38) := ⟨⟨by decide +kernel, by decide +kernel⟩, List.mem_of_getElem? (i := 792) (by decide +kernel), List.mem_of_getElem? (i := 1081) (by decide +kernel), List.mem_of_getElem? (i := 1082) (by decide +kernel)⟩
theorem lw_p58 : lw_okq (⟨"SeenByOneModel", "isDigit", "()Z"⟩, 38) := ⟨⟨by decide +kernel, by decide +kernel⟩, List.mem_of_getElem? (i := 792) (by decide +kernel), List.mem_of_getElem? (i := 1085) (by decide +kernel), List.mem_of_getElem? (i := 1086) (by decide +kernel)⟩
theorem lw_p59 : lw_okq (⟨"SeenByOneModel", "isSo", "(II)Z"⟩, 38) := ⟨⟨by decide +kernel, by decide +kernel⟩, List.mem_of_getElem? (i := 792) (by decide +kernel), List.mem_of_getElem? (i := 1089) (by decide +kernel), List.mem_of_getElem? (i := 1090) (by decide +kernel)⟩
theorem lw_p60 : lw_okq (⟨"SeenByOneModel", "noTen", "(I)I"⟩, 38) := ⟨⟨by decide +kernel, by decide +kernel⟩, List.mem_of_getElem? (i := 792) (by decide +kernel), List.mem_of_getElem? (i := 1105) (by decide +kernel), List.mem_of_getElem? (i := 1106) (by decide +kernel)⟩
theorem lw_p61 : lw_okq (⟨"SeenByOneModel", "allRight", "()I"⟩, 38) := ⟨⟨by decide +kernel, by decide +kernel⟩, List.mem_of_getElem? (i := 792) (by decide +kernel), List.mem_of_getElem? (i := 1117) (by decide +kernel), List.mem_of_getElem? (i := 1118) (by decide +kernel)⟩
theorem lw_p62 : lw_okq (⟨"SeenByOneModel", "costOf", "(II)I"⟩, 38) := ⟨⟨by decide +kernel, by decide +kernel⟩, List.mem_of_getElem? (i := 792) (by decide +kernel), List.mem_of_getElem? (i := 1129) (by decide +kernel), List.mem_of_getElem? (i := 1130) (by decide +kernel)⟩
theorem lw_p63 : lw_okq (⟨"SeenByOneModel", "keptOf", "(I)I"⟩, 38) := ⟨⟨by decide +kernel, by decide +kernel⟩, List.mem_of_getElem? (i := 792) (by decide +kernel), List.mem_of_getElem? (i := 1137) (by decide +kernel), List.mem_of_getElem? (i := 1138) (by decide +kernel)⟩
def lw_privs_4 : List (MethodName × Nat) := [(⟨"SeenByOneModel", "barred", "(I)I"⟩, 38), (⟨"SeenByOneModel", "wants", "(I)I"⟩, 38), (⟨"SeenByOneModel", "all", "([IZ)V"⟩, 38), (⟨"SeenByOneModel", "carries", "([I[IIZ)I"⟩, 38), (⟨"SeenByOneModel", "item", "()Z"⟩, 38), (⟨"SeenByOneModel", "isWordAt", "(I)Z"⟩, 38), (⟨"SeenByOneModel", "isFull", "(I)Z"⟩, 38), (⟨"SeenByOneModel", "wrong", "(I)Z"⟩, 38), (⟨"SeenByOneModel", "word", "()I"⟩, 38), (⟨"SeenByOneModel", "number", "()Z"⟩, 38), (⟨"SeenByOneModel", "isDigit", "()Z"⟩, 38), (⟨"SeenByOneModel", "isSo", "(II)Z"⟩, 38), (⟨"SeenByOneModel", "noTen", "(I)I"⟩, 38), (⟨"SeenByOneModel", "allRight", "()I"⟩, 38), (⟨"SeenByOneModel", "costOf", "(II)I"⟩, 38), (⟨"SeenByOneModel", "keptOf", "(I)I"⟩, 38)]
theorem lw_r4 : ∀ q ∈ lw_privs_4, lw_okq q := List.forall_mem_cons.mpr ⟨lw_p48, List.forall_mem_cons.mpr ⟨lw_p49, List.forall_mem_cons.mpr ⟨lw_p50, List.forall_mem_cons.mpr ⟨lw_p51, List.forall_mem_cons.mpr ⟨lw_p52, List.forall_mem_cons.mpr ⟨lw_p53, List.forall_mem_cons.mpr ⟨lw_p54, List.forall_mem_cons.mpr ⟨lw_p55, List.forall_mem_cons.mpr ⟨lw_p56, List.forall_mem_cons.mpr ⟨lw_p57, List.forall_mem_cons.mpr ⟨lw_p58, List.forall_mem_cons.mpr ⟨lw_p59, List.forall_mem_cons.mpr ⟨lw_p60, List.forall_mem_cons.mpr ⟨lw_p61, List.forall_mem_cons.mpr ⟨lw_p62, List.forall_mem_cons.mpr ⟨lw_p63, fun _ h => absurd h List.not_mem_nil⟩⟩⟩⟩⟩⟩⟩⟩⟩⟩⟩⟩⟩⟩⟩⟩
theorem lw_p64 : lw_okq (⟨"SeenByOneModel", "shutters", "(Z)V"⟩, 38) := ⟨⟨by decide +kernel, by decide +kernel⟩, List.mem_of_getElem? (i := 792) (by decide +kernel), List.mem_of_getElem? (i := 1145) (by decide +kernel), List.mem_of_getElem? (i := 1146) (by decide +kernel)⟩
theorem lw_p65 : lw_okq (⟨"SeenByOneModel", "drawnOnes", "()I"⟩, 38) := ⟨⟨by decide +kernel, by decide +kernel⟩, List.mem_of_getElem? (i := 792) (by decide +kernel), List.mem_of_getElem? (i := 1153) (by decide +kernel), List.mem_of_getElem? (i := 1154) (by decide +kernel)⟩
theorem lw_p66 : lw_okq (⟨"SeenByOneModel", "houses", "()I"⟩, 38) := ⟨⟨by decide +kernel, by decide +kernel⟩, List.mem_of_getElem? (i := 792) (by decide +kernel), List.mem_of_getElem? (i := 1157) (by decide +kernel), List.mem_of_getElem? (i := 1158) (by decide +kernel)⟩
theorem lw_p67 : lw_okq (⟨"SeenByOneModel", "draws", "(I)V"⟩, 38) := ⟨⟨by decide +kernel, by decide +kernel⟩, List.mem_of_getElem? (i := 792) (by decide +kernel), List.mem_of_getElem? (i := 1161) (by decide +kernel), List.mem_of_getElem? (i := 1162) (by decide +kernel)⟩
theorem lw_p68 : lw_okq (⟨"SeenByOneModel", "rightInBoth", "()I"⟩, 38) := ⟨⟨by decide +kernel, by decide +kernel⟩, List.mem_of_getElem? (i := 792) (by decide +kernel), List.mem_of_getElem? (i := 1165) (by decide +kernel), List.mem_of_getElem? (i := 1166) (by decide +kernel)⟩
theorem lw_p69 : lw_okq (⟨"SeenByOneModel", "noMuch", "(I)I"⟩, 38) := ⟨⟨by decide +kernel, by decide +kernel⟩, List.mem_of_getElem? (i := 792) (by decide +kernel), List.mem_of_getElem? (i := 1177) (by decide +kernel), List.mem_of_getElem? (i := 1178) (by decide +kernel)⟩
theorem lw_p70 : lw_okq (⟨"SeenByOneModel", "firstOf", "(I)I"⟩, 38) := ⟨⟨by decide +kernel, by decide +kernel⟩, List.mem_of_getElem? (i := 792) (by decide +kernel), List.mem_of_getElem? (i := 1197) (by decide +kernel), List.mem_of_getElem? (i := 1198) (by decide +kernel)⟩
theorem lw_p71 : lw_okq (⟨"SeenByOneModel", "lists", "(I)V"⟩, 38) := ⟨⟨by decide +kernel, by decide +kernel⟩, List.mem_of_getElem? (i := 792) (by decide +kernel), List.mem_of_getElem? (i := 1209) (by decide +kernel), List.mem_of_getElem? (i := 1210) (by decide +kernel)⟩
theorem lw_p72 : lw_okq (⟨"SeenByOneModel", "intAt", "(II)I"⟩, 38) := ⟨⟨by decide +kernel, by decide +kernel⟩, List.mem_of_getElem? (i := 792) (by decide +kernel), List.mem_of_getElem? (i := 1213) (by decide +kernel), List.mem_of_getElem? (i := 1214) (by decide +kernel)⟩
theorem lw_p73 : lw_okq (⟨"SeenByOneModel", "shutMany", "()I"⟩, 38) := ⟨⟨by decide +kernel, by decide +kernel⟩, List.mem_of_getElem? (i := 792) (by decide +kernel), List.mem_of_getElem? (i := 1229) (by decide +kernel), List.mem_of_getElem? (i := 1230) (by decide +kernel)⟩
theorem lw_p74 : lw_okq (⟨"SeenByOneModel", "draws3", "()I"⟩, 38) := ⟨⟨by decide +kernel, by decide +kernel⟩, List.mem_of_getElem? (i := 792) (by decide +kernel), List.mem_of_getElem? (i := 1237) (by decide +kernel), List.mem_of_getElem? (i := 1238) (by decide +kernel)⟩
theorem lw_p75 : lw_okq (⟨"SeenByOneModel", "standing", "(II)I"⟩, 38) := ⟨⟨by decide +kernel, by decide +kernel⟩, List.mem_of_getElem? (i := 792) (by decide +kernel), List.mem_of_getElem? (i := 1250) (by decide +kernel), List.mem_of_getElem? (i := 1251) (by decide +kernel)⟩
theorem lw_p76 : lw_okq (⟨"SeenByOneModel", "body", "(I)V"⟩, 38) := ⟨⟨by decide +kernel, by decide +kernel⟩, List.mem_of_getElem? (i := 792) (by decide +kernel), List.mem_of_getElem? (i := 1254) (by decide +kernel), List.mem_of_getElem? (i := 1255) (by decide +kernel)⟩
theorem lw_p77 : lw_okq (⟨"SeenByOneModel", "looking", "(II)I"⟩, 38) := ⟨⟨by decide +kernel, by decide +kernel⟩, List.mem_of_getElem? (i := 792) (by decide +kernel), List.mem_of_getElem? (i := 1258) (by decide +kernel), List.mem_of_getElem? (i := 1259) (by decide +kernel)⟩
theorem lw_p78 : lw_okq (⟨"SeenByOneModel", "hiding", "(II)I"⟩, 38) := ⟨⟨by decide +kernel, by decide +kernel⟩, List.mem_of_getElem? (i := 792) (by decide +kernel), List.mem_of_getElem? (i := 1262) (by decide +kernel), List.mem_of_getElem? (i := 1263) (by decide +kernel)⟩
def lw_privs_5 : List (MethodName × Nat) := [(⟨"SeenByOneModel", "shutters", "(Z)V"⟩, 38), (⟨"SeenByOneModel", "drawnOnes", "()I"⟩, 38), (⟨"SeenByOneModel", "houses", "()I"⟩, 38), (⟨"SeenByOneModel", "draws", "(I)V"⟩, 38), (⟨"SeenByOneModel", "rightInBoth", "()I"⟩, 38), (⟨"SeenByOneModel", "noMuch", "(I)I"⟩, 38), (⟨"SeenByOneModel", "firstOf", "(I)I"⟩, 38), (⟨"SeenByOneModel", "lists", "(I)V"⟩, 38), (⟨"SeenByOneModel", "intAt", "(II)I"⟩, 38), (⟨"SeenByOneModel", "shutMany", "()I"⟩, 38), (⟨"SeenByOneModel", "draws3", "()I"⟩, 38), (⟨"SeenByOneModel", "standing", "(II)I"⟩, 38), (⟨"SeenByOneModel", "body", "(I)V"⟩, 38), (⟨"SeenByOneModel", "looking", "(II)I"⟩, 38), (⟨"SeenByOneModel", "hiding", "(II)I"⟩, 38)]
theorem lw_r5 : ∀ q ∈ lw_privs_5, lw_okq q := List.forall_mem_cons.mpr ⟨lw_p64, List.forall_mem_cons.mpr ⟨lw_p65, List.forall_mem_cons.mpr ⟨lw_p66, List.forall_mem_cons.mpr ⟨lw_p67, List.forall_mem_cons.mpr ⟨lw_p68, List.forall_mem_cons.mpr ⟨lw_p69, List.forall_mem_cons.mpr ⟨lw_p70, List.forall_mem_cons.mpr ⟨lw_p71, List.forall_mem_cons.mpr ⟨lw_p72, List.forall_mem_cons.mpr ⟨lw_p73, List.forall_mem_cons.mpr ⟨lw_p74, List.forall_mem_cons.mpr ⟨lw_p75, List.forall_mem_cons.mpr ⟨lw_p76, List.forall_mem_cons.mpr ⟨lw_p77, List.forall_mem_cons.mpr ⟨lw_p78, fun _ h => absurd h List.not_mem_nil⟩⟩⟩⟩⟩⟩⟩⟩⟩⟩⟩⟩⟩⟩⟩
def lw_privs : List (MethodName × Nat) := lw_privs_1 ++ (lw_privs_2 ++ (lw_privs_3 ++ (lw_privs_4 ++ (lw_privs_5))))
def lw_tbl : List Cond := k2_sels lw_privs ++ tables_1
theorem lw_privs_ok : ∀ q ∈ lw_privs, lw_okq q := by
  show ∀ q ∈ lw_privs_1 ++ (lw_privs_2 ++ (lw_privs_3 ++ (lw_privs_4 ++ (lw_privs_5)))), lw_okq q
  exact List.forall_mem_append.mpr ⟨lw_r1, List.forall_mem_append.mpr ⟨lw_r2, List.forall_mem_append.mpr ⟨lw_r3, List.forall_mem_append.mpr ⟨lw_r4, lw_r5⟩⟩⟩⟩
def RX0 : String := "SeenByOne$Acts"
def TX0 : u_T := fun k => match k with
  | 0 => ("SeenByOne$Acts", "bodies", "[I", true)
  | 1 => ("SeenByOne$Acts", "kind", "I", false)
  | 2 => ("SeenByOne$Acts", "m", "I", false)
  | 3 => ("SeenByOne$Acts", "k", "I", false)
  | _ => ("SeenByOne$Acts", "ran", "I", false)
def tyX0 : Nat → FieldType := fun k => match k with
  | 0 => .array .int
  | 1 => .int
  | 2 => .int
  | 3 => .int
  | _ => .int
abbrev wsX00 : List Cond := u_ws RX0 TX0 5
theorem nmX0 : ∀ a, a < 5 → ∀ b, b < 5 → a ≠ b → (TX0 a).2.1 ≠ (TX0 b).2.1 := by decide +kernel
theorem tyX0_ok : ∀ k, k < 5 → parseFieldDescriptor (TX0 k).2.2.1 = some (tyX0 k) := by decide +kernel
abbrev cX0_init : ByteArray := prog_2_method_1_code
def yX0_init : MethodName := ⟨RX0, "<init>", "()V"⟩
abbrev cX0_forget : ByteArray := prog_2_method_2_code
def yX0_forget : MethodName := ⟨RX0, "forget", "()V"⟩
abbrev cX0_actor : ByteArray := prog_2_method_3_code
def yX0_actor : MethodName := ⟨RX0, "actor", "(III)V"⟩
abbrev cX0_bodyAt : ByteArray := prog_2_method_4_code
def yX0_bodyAt : MethodName := ⟨RX0, "bodyAt", "(I)I"⟩
abbrev cX0_begins : ByteArray := prog_2_method_5_code
def yX0_begins : MethodName := ⟨RX0, "begins", "(I)V"⟩
abbrev cX0_stands : ByteArray := prog_2_method_6_code
def yX0_stands : MethodName := ⟨RX0, "stands", "(I)I"⟩
abbrev cX0_looks : ByteArray := prog_2_method_7_code
def yX0_looks : MethodName := ⟨RX0, "looks", "(I)I"⟩
abbrev cX0_hides : ByteArray := prog_2_method_8_code
def yX0_hides : MethodName := ⟨RX0, "hides", "(I)I"⟩
def RX1 : String := "SeenByOne$Ground"
def TX1 : u_T := fun k => match k with
  | 0 => ("SeenByOne$Ground", "count", "I", false)
  | 1 => ("SeenByOne$Ground", "summer", "I", false)
  | 2 => ("SeenByOne$Ground", "far", "I", false)
  | 3 => ("SeenByOne$Ground", "drawn", "I", false)
  | 4 => ("SeenByOne$Ground", "fines", "I", false)
  | 5 => ("SeenByOne$Ground", "seed", "I", false)
  | 6 => ("SeenByOne$Ground", "kinds", "[I", true)
  | 7 => ("SeenByOne$Ground", "xs", "[I", true)
  | 8 => ("SeenByOne$Ground", "ys", "[I", true)
  | 9 => ("SeenByOne$Ground", "heights", "[I", true)
  | 10 => ("SeenByOne$Ground", "as", "[I", true)
  | 11 => ("SeenByOne$Ground", "shutInto", "[I", true)
  | _ => ("SeenByOne$Ground", "lookers", "[I", true)
def tyX1 : Nat → FieldType := fun k => match k with
  | 0 => .int
  | 1 => .int
  | 2 => .int
  | 3 => .int
  | 4 => .int
  | 5 => .int
  | 6 => .array .int
  | 7 => .array .int
  | 8 => .array .int
  | 9 => .array .int
  | 10 => .array .int
  | 11 => .array .int
  | _ => .array .int
abbrev wsX10 : List Cond := u_ws RX1 TX1 13
theorem nmX1 : ∀ a, a < 13 → ∀ b, b < 13 → a ≠ b → (TX1 a).2.1 ≠ (TX1 b).2.1 := by decide +kernel
theorem tyX1_ok : ∀ k, k < 13 → parseFieldDescriptor (TX1 k).2.2.1 = some (tyX1 k) := by decide +kernel
abbrev cX1_init : ByteArray := prog_3_method_1_code
def yX1_init : MethodName := ⟨RX1, "<init>", "()V"⟩
abbrev cX1_copyFrom : ByteArray := prog_3_method_2_code
def yX1_copyFrom : MethodName := ⟨RX1, "copyFrom", "(LSeenByOne$Ground;)V"⟩
abbrev cX1_has : ByteArray := prog_3_method_3_code
def yX1_has : MethodName := ⟨RX1, "has", "(I)Z"⟩
abbrev cX1_isHouse : ByteArray := prog_3_method_4_code
def yX1_isHouse : MethodName := ⟨RX1, "isHouse", "(I)Z"⟩
abbrev cX1_isFull : ByteArray := prog_3_method_5_code
def yX1_isFull : MethodName := ⟨RX1, "isFull", "()Z"⟩
abbrev cX1_thingAt : ByteArray := prog_3_method_6_code
def yX1_thingAt : MethodName := ⟨RX1, "thingAt", "(II)I"⟩
abbrev cX1_add : ByteArray := prog_3_method_7_code
def yX1_add : MethodName := ⟨RX1, "add", "(IIIII)I"⟩
abbrev cX1_dropLatest : ByteArray := prog_3_method_8_code
def yX1_dropLatest : MethodName := ⟨RX1, "dropLatest", "()V"⟩
abbrev cX1_takeAway : ByteArray := prog_3_method_9_code
def yX1_takeAway : MethodName := ⟨RX1, "takeAway", "(I)V"⟩
abbrev cX1_houses : ByteArray := prog_3_method_10_code
def yX1_houses : MethodName := ⟨RX1, "houses", "()I"⟩
abbrev cX1_towers : ByteArray := prog_3_method_11_code
def yX1_towers : MethodName := ⟨RX1, "towers", "()I"⟩
abbrev cX1_tallOf : ByteArray := prog_3_method_12_code
def yX1_tallOf : MethodName := ⟨RX1, "tallOf", "(I)I"⟩
abbrev cX1_eyesOf : ByteArray := prog_3_method_13_code
def yX1_eyesOf : MethodName := ⟨RX1, "eyesOf", "(I)I"⟩
abbrev cX1_distanceOf : ByteArray := prog_3_method_14_code
def yX1_distanceOf : MethodName := ⟨RX1, "distanceOf", "(II)I"⟩
abbrev cX1_lookAround : ByteArray := prog_3_method_15_code
def yX1_lookAround : MethodName := ⟨RX1, "lookAround", "()V"⟩
abbrev cX1_lookersInto : ByteArray := prog_3_method_16_code
def yX1_lookersInto : MethodName := ⟨RX1, "lookersInto", "(I)I"⟩
abbrev cX1_looksInto : ByteArray := prog_3_method_17_code
def yX1_looksInto : MethodName := ⟨RX1, "looksInto", "(II)Z"⟩
abbrev cX1_firstBar : ByteArray := prog_3_method_18_code
def yX1_firstBar : MethodName := ⟨RX1, "firstBar", "(II)I"⟩
abbrev cX1_greatestDivisor : ByteArray := prog_3_method_19_code
def yX1_greatestDivisor : MethodName := ⟨RX1, "greatestDivisor", "(II)I"⟩
abbrev cX1_lookersSeeing : ByteArray := prog_3_method_20_code
def yX1_lookersSeeing : MethodName := ⟨RX1, "lookersSeeing", "(I)I"⟩
abbrev cX1_seersOf : ByteArray := prog_3_method_21_code
def yX1_seersOf : MethodName := ⟨RX1, "seersOf", "(I)I"⟩
abbrev cX1_countSeenBy : ByteArray := prog_3_method_22_code
def yX1_countSeenBy : MethodName := ⟨RX1, "countSeenBy", "(I)I"⟩
abbrev cX1_rightHouses : ByteArray := prog_3_method_23_code
def yX1_rightHouses : MethodName := ⟨RX1, "rightHouses", "()I"⟩
abbrev cX1_countRight : ByteArray := prog_3_method_24_code
def yX1_countRight : MethodName := ⟨RX1, "countRight", "()I"⟩
abbrev cX1_countShutters : ByteArray := prog_3_method_25_code
def yX1_countShutters : MethodName := ⟨RX1, "countShutters", "()I"⟩
abbrev cX1_costOf : ByteArray := prog_3_method_26_code
def yX1_costOf : MethodName := ⟨RX1, "costOf", "(II)I"⟩
abbrev cX1_keptSeer : ByteArray := prog_3_method_27_code
def yX1_keptSeer : MethodName := ⟨RX1, "keptSeer", "(I)I"⟩
abbrev cX1_seersTooMany : ByteArray := prog_3_method_28_code
def yX1_seersTooMany : MethodName := ⟨RX1, "seersTooMany", "(I)I"⟩
abbrev cX1_hopelessHouses : ByteArray := prog_3_method_29_code
def yX1_hopelessHouses : MethodName := ⟨RX1, "hopelessHouses", "()I"⟩
abbrev cX1_cheapestShutters : ByteArray := prog_3_method_30_code
def yX1_cheapestShutters : MethodName := ⟨RX1, "cheapestShutters", "()I"⟩
abbrev cX1_cheapestCost : ByteArray := prog_3_method_31_code
def yX1_cheapestCost : MethodName := ⟨RX1, "cheapestCost", "()I"⟩
abbrev cX1_passYear : ByteArray := prog_3_method_32_code
def yX1_passYear : MethodName := ⟨RX1, "passYear", "()V"⟩
abbrev cX1_drawGrowth : ByteArray := prog_3_method_33_code
def yX1_drawGrowth : MethodName := ⟨RX1, "drawGrowth", "()I"⟩
def RX2 : String := "SeenByOne$Reader"
def TX2 : u_T := fun k => match k with
  | 0 => ("SeenByOne$Reader", "text", "LSeenByOne$Shelf;", true)
  | 1 => ("SeenByOne$Reader", "told", "LSeenByOne$Ground;", true)
  | 2 => ("SeenByOne$Reader", "place", "I", false)
  | 3 => ("SeenByOne$Reader", "firstDigit", "I", false)
  | _ => ("SeenByOne$Reader", "faultPlace", "I", false)
def tyX2 : Nat → FieldType := fun k => match k with
  | 0 => .object "SeenByOne$Shelf"
  | 1 => .object "SeenByOne$Ground"
  | 2 => .int
  | 3 => .int
  | _ => .int
abbrev wsX20 : List Cond := u_ws RX2 TX2 5
theorem nmX2 : ∀ a, a < 5 → ∀ b, b < 5 → a ≠ b → (TX2 a).2.1 ≠ (TX2 b).2.1 := by decide +kernel
theorem tyX2_ok : ∀ k, k < 5 → parseFieldDescriptor (TX2 k).2.2.1 = some (tyX2 k) := by decide +kernel
abbrev cX2_init : ByteArray := prog_4_method_1_code
def yX2_init : MethodName := ⟨RX2, "<init>", "(LSeenByOne$Shelf;LSeenByOne$Ground;)V"⟩
abbrev cX2_readItems : ByteArray := prog_4_method_2_code
def yX2_readItems : MethodName := ⟨RX2, "readItems", "()I"⟩
abbrev cX2_readItem : ByteArray := prog_4_method_3_code
def yX2_readItem : MethodName := ⟨RX2, "readItem", "()V"⟩
abbrev cX2_readThing : ByteArray := prog_4_method_4_code
def yX2_readThing : MethodName := ⟨RX2, "readThing", "(I)V"⟩
abbrev cX2_tellShut : ByteArray := prog_4_method_5_code
def yX2_tellShut : MethodName := ⟨RX2, "tellShut", "(II)V"⟩
abbrev cX2_tellDrawn : ByteArray := prog_4_method_6_code
def yX2_tellDrawn : MethodName := ⟨RX2, "tellDrawn", "(I)V"⟩
abbrev cX2_readHouse : ByteArray := prog_4_method_7_code
def yX2_readHouse : MethodName := ⟨RX2, "readHouse", "(I)I"⟩
abbrev cX2_readWord : ByteArray := prog_4_method_8_code
def yX2_readWord : MethodName := ⟨RX2, "readWord", "()I"⟩
abbrev cX2_lettersOf : ByteArray := prog_4_method_9_code
def yX2_lettersOf : MethodName := ⟨RX2, "lettersOf", "(I)Ljava/lang/String;"⟩
abbrev cX2_sameLetters : ByteArray := prog_4_method_10_code
def yX2_sameLetters : MethodName := ⟨RX2, "sameLetters", "(Ljava/lang/String;)I"⟩
abbrev cX2_readSign : ByteArray := prog_4_method_11_code
def yX2_readSign : MethodName := ⟨RX2, "readSign", "(C)V"⟩
abbrev cX2_readNumber : ByteArray := prog_4_method_12_code
def yX2_readNumber : MethodName := ⟨RX2, "readNumber", "(II)I"⟩
abbrev cX2_digitAt : ByteArray := prog_4_method_13_code
def yX2_digitAt : MethodName := ⟨RX2, "digitAt", "(I)I"⟩
abbrev cX2_signAt : ByteArray := prog_4_method_14_code
def yX2_signAt : MethodName := ⟨RX2, "signAt", "(I)I"⟩
abbrev cX2_faultAt : ByteArray := prog_4_method_15_code
def yX2_faultAt : MethodName := ⟨RX2, "faultAt", "(I)V"⟩
def RX3 : String := "SeenByOne$Shelf"
def TX3 : u_T := fun k => match k with
  | 0 => ("SeenByOne$Shelf", "held", "I", false)
  | 1 => ("SeenByOne$Shelf", "size", "I", false)
  | _ => ("SeenByOne$Shelf", "elements", "[J", true)
def tyX3 : Nat → FieldType := fun k => match k with
  | 0 => .int
  | 1 => .int
  | _ => .array .long
abbrev wsX30 : List Cond := u_ws RX3 TX3 3
theorem nmX3 : ∀ a, a < 3 → ∀ b, b < 3 → a ≠ b → (TX3 a).2.1 ≠ (TX3 b).2.1 := by decide +kernel
theorem tyX3_ok : ∀ k, k < 3 → parseFieldDescriptor (TX3 k).2.2.1 = some (tyX3 k) := by decide +kernel
abbrev cX3_init : ByteArray := prog_5_method_1_code
def yX3_init : MethodName := ⟨RX3, "<init>", "()V"⟩
abbrev cX3_holdsRow : ByteArray := prog_5_method_2_code
def yX3_holdsRow : MethodName := ⟨RX3, "holdsRow", "()Z"⟩
abbrev cX3_holdsThing : ByteArray := prog_5_method_3_code
def yX3_holdsThing : MethodName := ⟨RX3, "holdsThing", "()Z"⟩
abbrev cX3_becomeRow : ByteArray := prog_5_method_4_code
def yX3_becomeRow : MethodName := ⟨RX3, "becomeRow", "(II)V"⟩
abbrev cX3_hasElement : ByteArray := prog_5_method_5_code
def yX3_hasElement : MethodName := ⟨RX3, "hasElement", "(I)Z"⟩
abbrev cX3_hasElements : ByteArray := prog_5_method_6_code
def yX3_hasElements : MethodName := ⟨RX3, "hasElements", "(II)Z"⟩
abbrev cX3_put : ByteArray := prog_5_method_7_code
def yX3_put : MethodName := ⟨RX3, "put", "(IJ)V"⟩
abbrev cX3_intAt : ByteArray := prog_5_method_8_code
def yX3_intAt : MethodName := ⟨RX3, "intAt", "(I)I"⟩
def RX4 : String := "SeenByOne"
def TX4 : u_T := fun k => match k with
  | 0 => ("SeenByOne", "shelves", "[LSeenByOne$Shelf;", true)
  | 1 => ("SeenByOne", "ground", "LSeenByOne$Ground;", true)
  | 2 => ("SeenByOne", "image", "LSeenByOne$Ground;", true)
  | 3 => ("SeenByOne", "trial", "LSeenByOne$Ground;", true)
  | 4 => ("SeenByOne", "acts", "LSeenByOne$Acts;", true)
  | 5 => ("SeenByOne", "refusals", "[I", true)
  | 6 => ("SeenByOne", "rightWhenDrawn", "[I", true)
  | 7 => ("SeenByOne", "hasImage", "Z", false)
  | _ => ("SeenByOne", "latestFault", "I", false)
def tyX4 : Nat → FieldType := fun k => match k with
  | 0 => .array (.object "SeenByOne$Shelf")
  | 1 => .object "SeenByOne$Ground"
  | 2 => .object "SeenByOne$Ground"
  | 3 => .object "SeenByOne$Ground"
  | 4 => .object "SeenByOne$Acts"
  | 5 => .array .int
  | 6 => .array .int
  | 7 => .boolean
  | _ => .int
abbrev wsX40 : List Cond := u_ws RX4 TX4 9
theorem nmX4 : ∀ a, a < 9 → ∀ b, b < 9 → a ≠ b → (TX4 a).2.1 ≠ (TX4 b).2.1 := by decide +kernel
theorem tyX4_ok : ∀ k, k < 9 → parseFieldDescriptor (TX4 k).2.2.1 = some (tyX4 k) := by decide +kernel
abbrev cX4_init : ByteArray := prog_1_method_1_code
def yX4_init : MethodName := ⟨RX4, "<init>", "()V"⟩
abbrev cX4_row : ByteArray := prog_1_method_2_code
def yX4_row : MethodName := ⟨RX4, "row", "(III)I"⟩
abbrev cX4_set : ByteArray := prog_1_method_3_code
def yX4_set : MethodName := ⟨RX4, "set", "(IIJ)I"⟩
abbrev cX4_copy : ByteArray := prog_1_method_4_code
def yX4_copy : MethodName := ⟨RX4, "copy", "(IIIII)I"⟩
abbrev cX4_element : ByteArray := prog_1_method_5_code
def yX4_element : MethodName := ⟨RX4, "element", "(II)J"⟩
abbrev cX4_show : ByteArray := prog_1_method_6_code
def yX4_show : MethodName := ⟨RX4, "show", "(II)I"⟩
abbrev cX4_holds : ByteArray := prog_1_method_7_code
def yX4_holds : MethodName := ⟨RX4, "holds", "(I)I"⟩
abbrev cX4_says : ByteArray := prog_1_method_8_code
def yX4_says : MethodName := ⟨RX4, "says", "(II)I"⟩
abbrev cX4_wordOf : ByteArray := prog_1_method_9_code
def yX4_wordOf : MethodName := ⟨RX4, "wordOf", "(II)I"⟩
abbrev cX4_thing : ByteArray := prog_1_method_10_code
def yX4_thing : MethodName := ⟨RX4, "thing", "(IIIII)I"⟩
abbrev cX4_thingOf : ByteArray := prog_1_method_11_code
def yX4_thingOf : MethodName := ⟨RX4, "thingOf", "(II)I"⟩
abbrev cX4_height : ByteArray := prog_1_method_12_code
def yX4_height : MethodName := ⟨RX4, "height", "(II)I"⟩
abbrev cX4_ask : ByteArray := prog_1_method_13_code
def yX4_ask : MethodName := ⟨RX4, "ask", "(II)I"⟩
abbrev cX4_shut : ByteArray := prog_1_method_14_code
def yX4_shut : MethodName := ⟨RX4, "shut", "(IIZ)I"⟩
abbrev cX4_draw : ByteArray := prog_1_method_15_code
def yX4_draw : MethodName := ⟨RX4, "draw", "(IZ)I"⟩
abbrev cX4_ground : ByteArray := prog_1_method_16_code
def yX4_ground : MethodName := ⟨RX4, "ground", "(I)I"⟩
abbrev cX4_fault : ByteArray := prog_1_method_17_code
def yX4_fault : MethodName := ⟨RX4, "fault", "()I"⟩
abbrev cX4_sees : ByteArray := prog_1_method_18_code
def yX4_sees : MethodName := ⟨RX4, "sees", "(III)I"⟩
abbrev cX4_bars : ByteArray := prog_1_method_19_code
def yX4_bars : MethodName := ⟨RX4, "bars", "(II)I"⟩
abbrev cX4_seers : ByteArray := prog_1_method_20_code
def yX4_seers : MethodName := ⟨RX4, "seers", "(I)I"⟩
abbrev cX4_right : ByteArray := prog_1_method_21_code
def yX4_right : MethodName := ⟨RX4, "right", "()I"⟩
abbrev cX4_first : ByteArray := prog_1_method_22_code
def yX4_first : MethodName := ⟨RX4, "first", "()I"⟩
abbrev cX4_cost : ByteArray := prog_1_method_23_code
def yX4_cost : MethodName := ⟨RX4, "cost", "(II)I"⟩
abbrev cX4_cheapest : ByteArray := prog_1_method_24_code
def yX4_cheapest : MethodName := ⟨RX4, "cheapest", "(I)I"⟩
abbrev cX4_keeps : ByteArray := prog_1_method_25_code
def yX4_keeps : MethodName := ⟨RX4, "keeps", "(I)I"⟩
abbrev cX4_curtains : ByteArray := prog_1_method_26_code
def yX4_curtains : MethodName := ⟨RX4, "curtains", "(I)I"⟩
abbrev cX4_addRightWhenDrawn : ByteArray := prog_1_method_27_code
def yX4_addRightWhenDrawn : MethodName := ⟨RX4, "addRightWhenDrawn", "(I)V"⟩
abbrev cX4_bestDrawnSet : ByteArray := prog_1_method_28_code
def yX4_bestDrawnSet : MethodName := ⟨RX4, "bestDrawnSet", "()I"⟩
abbrev cX4_newly : ByteArray := prog_1_method_29_code
def yX4_newly : MethodName := ⟨RX4, "newly", "(I)I"⟩
abbrev cX4_rightWithNewHouse : ByteArray := prog_1_method_30_code
def yX4_rightWithNewHouse : MethodName := ⟨RX4, "rightWithNewHouse", "(III)I"⟩
abbrev cX4_storey : ByteArray := prog_1_method_31_code
def yX4_storey : MethodName := ⟨RX4, "storey", "(I)I"⟩
abbrev cX4_blinded : ByteArray := prog_1_method_32_code
def yX4_blinded : MethodName := ⟨RX4, "blinded", "(I)I"⟩
abbrev cX4_tryStorey : ByteArray := prog_1_method_33_code
def yX4_tryStorey : MethodName := ⟨RX4, "tryStorey", "(I)V"⟩
abbrev cX4_felled : ByteArray := prog_1_method_34_code
def yX4_felled : MethodName := ⟨RX4, "felled", "(I)I"⟩
abbrev cX4_pairs : ByteArray := prog_1_method_35_code
def yX4_pairs : MethodName := ⟨RX4, "pairs", "()I"⟩
abbrev cX4_back : ByteArray := prog_1_method_36_code
def yX4_back : MethodName := ⟨RX4, "back", "(I)I"⟩
abbrev cX4_most : ByteArray := prog_1_method_37_code
def yX4_most : MethodName := ⟨RX4, "most", "()I"⟩
abbrev cX4_list : ByteArray := prog_1_method_38_code
def yX4_list : MethodName := ⟨RX4, "list", "(II)I"⟩
abbrev cX4_firstWrong : ByteArray := prog_1_method_39_code
def yX4_firstWrong : MethodName := ⟨RX4, "firstWrong", "(LSeenByOne$Ground;LSeenByOne$Shelf;)I"⟩
abbrev cX4_countUnlike : ByteArray := prog_1_method_40_code
def yX4_countUnlike : MethodName := ⟨RX4, "countUnlike", "(LSeenByOne$Ground;LSeenByOne$Shelf;)I"⟩
abbrev cX4_unlikeBits : ByteArray := prog_1_method_41_code
def yX4_unlikeBits : MethodName := ⟨RX4, "unlikeBits", "(LSeenByOne$Ground;LSeenByOne$Shelf;I)I"⟩
abbrev cX4_fitsIn : ByteArray := prog_1_method_42_code
def yX4_fitsIn : MethodName := ⟨RX4, "fitsIn", "(LSeenByOne$Shelf;I)I"⟩
abbrev cX4_night : ByteArray := prog_1_method_43_code
def yX4_night : MethodName := ⟨RX4, "night", "(I)I"⟩
abbrev cX4_shuts : ByteArray := prog_1_method_44_code
def yX4_shuts : MethodName := ⟨RX4, "shuts", "()I"⟩
abbrev cX4_opens : ByteArray := prog_1_method_45_code
def yX4_opens : MethodName := ⟨RX4, "opens", "()I"⟩
abbrev cX4_years : ByteArray := prog_1_method_46_code
def yX4_years : MethodName := ⟨RX4, "years", "(I)I"⟩
abbrev cX4_seed : ByteArray := prog_1_method_47_code
def yX4_seed : MethodName := ⟨RX4, "seed", "(I)I"⟩
abbrev cX4_act : ByteArray := prog_1_method_48_code
def yX4_act : MethodName := ⟨RX4, "act", "(III)I"⟩
abbrev cX4_trace : ByteArray := prog_1_method_49_code
def yX4_trace : MethodName := ⟨RX4, "trace", "(I)I"⟩
abbrev cX4_image : ByteArray := prog_1_method_50_code
def yX4_image : MethodName := ⟨RX4, "image", "()I"⟩
abbrev cX4_restore : ByteArray := prog_1_method_51_code
def yX4_restore : MethodName := ⟨RX4, "restore", "()I"⟩
abbrev cX4_status : ByteArray := prog_1_method_52_code
def yX4_status : MethodName := ⟨RX4, "status", "(I)I"⟩
abbrev cX4_refuse : ByteArray := prog_1_method_53_code
def yX4_refuse : MethodName := ⟨RX4, "refuse", "(I)I"⟩
abbrev cX4_lacksRow : ByteArray := prog_1_method_54_code
def yX4_lacksRow : MethodName := ⟨RX4, "lacksRow", "(I)I"⟩
abbrev cX4_lacksRows : ByteArray := prog_1_method_55_code
def yX4_lacksRows : MethodName := ⟨RX4, "lacksRows", "(II)I"⟩
abbrev cX4_lacksHouse : ByteArray := prog_1_method_56_code
def yX4_lacksHouse : MethodName := ⟨RX4, "lacksHouse", "(I)I"⟩
abbrev cX4_lacksHouses : ByteArray := prog_1_method_57_code
def yX4_lacksHouses : MethodName := ⟨RX4, "lacksHouses", "(II)I"⟩
abbrev cX4_lacksSight : ByteArray := prog_1_method_58_code
def yX4_lacksSight : MethodName := ⟨RX4, "lacksSight", "(II)I"⟩
abbrev cX4_lacksStorey : ByteArray := prog_1_method_59_code
def yX4_lacksStorey : MethodName := ⟨RX4, "lacksStorey", "(I)I"⟩
abbrev cX4_isShelf : ByteArray := prog_1_method_60_code
def yX4_isShelf : MethodName := ⟨RX4, "isShelf", "(I)Z"⟩
abbrev cX4_isKind : ByteArray := prog_1_method_61_code
def yX4_isKind : MethodName := ⟨RX4, "isKind", "(I)Z"⟩
abbrev cX4_isHouseKind : ByteArray := prog_1_method_62_code
def yX4_isHouseKind : MethodName := ⟨RX4, "isHouseKind", "(I)Z"⟩
abbrev cX4_isTreeKind : ByteArray := prog_1_method_63_code
def yX4_isTreeKind : MethodName := ⟨RX4, "isTreeKind", "(I)Z"⟩
abbrev cX4_isOfKind : ByteArray := prog_1_method_64_code
def yX4_isOfKind : MethodName := ⟨RX4, "isOfKind", "(II)Z"⟩
abbrev cX4_isPlace : ByteArray := prog_1_method_65_code
def yX4_isPlace : MethodName := ⟨RX4, "isPlace", "(II)Z"⟩
abbrev cX4_isHeight : ByteArray := prog_1_method_66_code
def yX4_isHeight : MethodName := ⟨RX4, "isHeight", "(I)Z"⟩
abbrev cX4_isSummer : ByteArray := prog_1_method_67_code
def yX4_isSummer : MethodName := ⟨RX4, "isSummer", "(I)Z"⟩
abbrev cX4_isFar : ByteArray := prog_1_method_68_code
def yX4_isFar : MethodName := ⟨RX4, "isFar", "(I)Z"⟩
abbrev cX4_bit : ByteArray := prog_1_method_69_code
def yX4_bit : MethodName := ⟨RX4, "bit", "(I)I"⟩
abbrev cX4_isIn : ByteArray := prog_1_method_70_code
def yX4_isIn : MethodName := ⟨RX4, "isIn", "(II)Z"⟩
abbrev cX4_lowestOf : ByteArray := prog_1_method_71_code
def yX4_lowestOf : MethodName := ⟨RX4, "lowestOf", "(I)I"⟩
def RX5 : String := "SeenByOneModel"
def TX5 : u_T := fun k => match k with
  | 0 => ("SeenByOneModel", "things", "I", false)
  | 1 => ("SeenByOneModel", "summer", "I", false)
  | 2 => ("SeenByOneModel", "farthest", "I", false)
  | 3 => ("SeenByOneModel", "fines", "I", false)
  | 4 => ("SeenByOneModel", "seed", "I", false)
  | 5 => ("SeenByOneModel", "fault", "I", false)
  | 6 => ("SeenByOneModel", "refused", "[I", true)
  | 7 => ("SeenByOneModel", "kind", "[I", true)
  | 8 => ("SeenByOneModel", "xs", "[I", true)
  | 9 => ("SeenByOneModel", "ys", "[I", true)
  | 10 => ("SeenByOneModel", "high", "[I", true)
  | 11 => ("SeenByOneModel", "part", "[I", true)
  | 12 => ("SeenByOneModel", "drawn", "[I", true)
  | 13 => ("SeenByOneModel", "shut", "[I", true)
  | 14 => ("SeenByOneModel", "held", "[I", true)
  | 15 => ("SeenByOneModel", "sort", "[I", true)
  | 16 => ("SeenByOneModel", "size", "[I", true)
  | 17 => ("SeenByOneModel", "shown", "[I", true)
  | 18 => ("SeenByOneModel", "cells", "[J", true)
  | 19 => ("SeenByOneModel", "carried", "[J", true)
  | 20 => ("SeenByOneModel", "words", "[I", true)
  | 21 => ("SeenByOneModel", "tell", "[I", true)
  | 22 => ("SeenByOneModel", "base", "I", false)
  | 23 => ("SeenByOneModel", "place", "I", false)
  | 24 => ("SeenByOneModel", "end", "I", false)
  | 25 => ("SeenByOneModel", "told", "I", false)
  | 26 => ("SeenByOneModel", "wrongAt", "I", false)
  | 27 => ("SeenByOneModel", "was", "[I", true)
  | 28 => ("SeenByOneModel", "kept", "[I", true)
  | 29 => ("SeenByOneModel", "cheapCost", "I", false)
  | 30 => ("SeenByOneModel", "cheapNever", "I", false)
  | 31 => ("SeenByOneModel", "cheapMany", "I", false)
  | 32 => ("SeenByOneModel", "seen", "[I", true)
  | 33 => ("SeenByOneModel", "toldAt", "I", false)
  | 34 => ("SeenByOneModel", "toldOff", "I", false)
  | 35 => ("SeenByOneModel", "trace", "[I", true)
  | 36 => ("SeenByOneModel", "ran", "I", false)
  | _ => ("SeenByOneModel", "isKept", "Z", false)
def tyX5 : Nat → FieldType := fun k => match k with
  | 0 => .int
  | 1 => .int
  | 2 => .int
  | 3 => .int
  | 4 => .int
  | 5 => .int
  | 6 => .array .int
  | 7 => .array .int
  | 8 => .array .int
  | 9 => .array .int
  | 10 => .array .int
  | 11 => .array .int
  | 12 => .array .int
  | 13 => .array .int
  | 14 => .array .int
  | 15 => .array .int
  | 16 => .array .int
  | 17 => .array .int
  | 18 => .array .long
  | 19 => .array .long
  | 20 => .array .int
  | 21 => .array .int
  | 22 => .int
  | 23 => .int
  | 24 => .int
  | 25 => .int
  | 26 => .int
  | 27 => .array .int
  | 28 => .array .int
  | 29 => .int
  | 30 => .int
  | 31 => .int
  | 32 => .array .int
  | 33 => .int
  | 34 => .int
  | 35 => .array .int
  | 36 => .int
  | _ => .boolean
abbrev wsX50 : List Cond := u_ws RX5 TX5 38
theorem nmX5 : ∀ a, a < 38 → ∀ b, b < 38 → a ≠ b → (TX5 a).2.1 ≠ (TX5 b).2.1 := by decide +kernel
theorem tyX5_ok : ∀ k, k < 38 → parseFieldDescriptor (TX5 k).2.2.1 = some (tyX5 k) := by decide +kernel
abbrev cX5_init : ByteArray := prog_7_method_1_code
def yX5_init : MethodName := ⟨RX5, "<init>", "()V"⟩
abbrev cX5_no : ByteArray := prog_7_method_2_code
def yX5_no : MethodName := ⟨RX5, "no", "(I)I"⟩
abbrev cX5_noTen : ByteArray := prog_7_method_3_code
def yX5_noTen : MethodName := ⟨RX5, "noTen", "(I)I"⟩
abbrev cX5_noMuch : ByteArray := prog_7_method_4_code
def yX5_noMuch : MethodName := ⟨RX5, "noMuch", "(I)I"⟩
abbrev cX5_isShelf : ByteArray := prog_7_method_5_code
def yX5_isShelf : MethodName := ⟨RX5, "isShelf", "(I)Z"⟩
abbrev cX5_isThing : ByteArray := prog_7_method_6_code
def yX5_isThing : MethodName := ⟨RX5, "isThing", "(I)Z"⟩
abbrev cX5_isHouse : ByteArray := prog_7_method_7_code
def yX5_isHouse : MethodName := ⟨RX5, "isHouse", "(I)Z"⟩
abbrev cX5_barred : ByteArray := prog_7_method_8_code
def yX5_barred : MethodName := ⟨RX5, "barred", "(I)I"⟩
abbrev cX5_barredTwo : ByteArray := prog_7_method_9_code
def yX5_barredTwo : MethodName := ⟨RX5, "barredTwo", "(II)I"⟩
abbrev cX5_row : ByteArray := prog_7_method_10_code
def yX5_row : MethodName := ⟨RX5, "row", "(III)I"⟩
abbrev cX5_set : ByteArray := prog_7_method_11_code
def yX5_set : MethodName := ⟨RX5, "set", "(IIJ)I"⟩
abbrev cX5_copy : ByteArray := prog_7_method_12_code
def yX5_copy : MethodName := ⟨RX5, "copy", "(IIIII)I"⟩
abbrev cX5_element : ByteArray := prog_7_method_13_code
def yX5_element : MethodName := ⟨RX5, "element", "(II)J"⟩
abbrev cX5_show : ByteArray := prog_7_method_14_code
def yX5_show : MethodName := ⟨RX5, "show", "(II)I"⟩
abbrev cX5_holds : ByteArray := prog_7_method_15_code
def yX5_holds : MethodName := ⟨RX5, "holds", "(I)I"⟩
abbrev cX5_says : ByteArray := prog_7_method_16_code
def yX5_says : MethodName := ⟨RX5, "says", "(II)I"⟩
abbrev cX5_wants : ByteArray := prog_7_method_17_code
def yX5_wants : MethodName := ⟨RX5, "wants", "(I)I"⟩
abbrev cX5_intAt : ByteArray := prog_7_method_18_code
def yX5_intAt : MethodName := ⟨RX5, "intAt", "(II)I"⟩
abbrev cX5_many : ByteArray := prog_7_method_19_code
def yX5_many : MethodName := ⟨RX5, "many", "(I)I"⟩
abbrev cX5_at : ByteArray := prog_7_method_20_code
def yX5_at : MethodName := ⟨RX5, "at", "(II)I"⟩
abbrev cX5_adds : ByteArray := prog_7_method_21_code
def yX5_adds : MethodName := ⟨RX5, "adds", "(IIIII)I"⟩
abbrev cX5_thing : ByteArray := prog_7_method_22_code
def yX5_thing : MethodName := ⟨RX5, "thing", "(IIIII)I"⟩
abbrev cX5_thingOf : ByteArray := prog_7_method_23_code
def yX5_thingOf : MethodName := ⟨RX5, "thingOf", "(II)I"⟩
abbrev cX5_height : ByteArray := prog_7_method_24_code
def yX5_height : MethodName := ⟨RX5, "height", "(II)I"⟩
abbrev cX5_ask : ByteArray := prog_7_method_25_code
def yX5_ask : MethodName := ⟨RX5, "ask", "(II)I"⟩
abbrev cX5_shut : ByteArray := prog_7_method_26_code
def yX5_shut : MethodName := ⟨RX5, "shut", "(IIZ)I"⟩
abbrev cX5_draw : ByteArray := prog_7_method_27_code
def yX5_draw : MethodName := ⟨RX5, "draw", "(IZ)I"⟩
abbrev cX5_wrong : ByteArray := prog_7_method_28_code
def yX5_wrong : MethodName := ⟨RX5, "wrong", "(I)Z"⟩
abbrev cX5_word : ByteArray := prog_7_method_29_code
def yX5_word : MethodName := ⟨RX5, "word", "()I"⟩
abbrev cX5_isDigit : ByteArray := prog_7_method_30_code
def yX5_isDigit : MethodName := ⟨RX5, "isDigit", "()Z"⟩
abbrev cX5_number : ByteArray := prog_7_method_31_code
def yX5_number : MethodName := ⟨RX5, "number", "()Z"⟩
abbrev cX5_isSo : ByteArray := prog_7_method_32_code
def yX5_isSo : MethodName := ⟨RX5, "isSo", "(II)Z"⟩
abbrev cX5_isFull : ByteArray := prog_7_method_33_code
def yX5_isFull : MethodName := ⟨RX5, "isFull", "(I)Z"⟩
abbrev cX5_isWordAt : ByteArray := prog_7_method_34_code
def yX5_isWordAt : MethodName := ⟨RX5, "isWordAt", "(I)Z"⟩
abbrev cX5_item : ByteArray := prog_7_method_35_code
def yX5_item : MethodName := ⟨RX5, "item", "()Z"⟩
abbrev cX5_carries : ByteArray := prog_7_method_36_code
def yX5_carries : MethodName := ⟨RX5, "carries", "([I[IIZ)I"⟩
abbrev cX5_all : ByteArray := prog_7_method_37_code
def yX5_all : MethodName := ⟨RX5, "all", "([IZ)V"⟩
abbrev cX5_ground : ByteArray := prog_7_method_38_code
def yX5_ground : MethodName := ⟨RX5, "ground", "(I)I"⟩
abbrev cX5_fault : ByteArray := prog_7_method_39_code
def yX5_fault : MethodName := ⟨RX5, "fault", "()I"⟩
abbrev cX5_tall : ByteArray := prog_7_method_40_code
def yX5_tall : MethodName := ⟨RX5, "tall", "(I)I"⟩
abbrev cX5_eyes : ByteArray := prog_7_method_41_code
def yX5_eyes : MethodName := ⟨RX5, "eyes", "(I)I"⟩
abbrev cX5_sizeOf : ByteArray := prog_7_method_42_code
def yX5_sizeOf : MethodName := ⟨RX5, "sizeOf", "(I)I"⟩
abbrev cX5_distance : ByteArray := prog_7_method_43_code
def yX5_distance : MethodName := ⟨RX5, "distance", "(II)I"⟩
abbrev cX5_divides : ByteArray := prog_7_method_44_code
def yX5_divides : MethodName := ⟨RX5, "divides", "(II)I"⟩
abbrev cX5_inWay : ByteArray := prog_7_method_45_code
def yX5_inWay : MethodName := ⟨RX5, "inWay", "(II)I"⟩
abbrev cX5_looks : ByteArray := prog_7_method_46_code
def yX5_looks : MethodName := ⟨RX5, "looks", "(II)Z"⟩
abbrev cX5_isSeen : ByteArray := prog_7_method_47_code
def yX5_isSeen : MethodName := ⟨RX5, "isSeen", "(II)Z"⟩
abbrev cX5_seesInto : ByteArray := prog_7_method_48_code
def yX5_seesInto : MethodName := ⟨RX5, "seesInto", "(I)I"⟩
abbrev cX5_seersOf : ByteArray := prog_7_method_49_code
def yX5_seersOf : MethodName := ⟨RX5, "seersOf", "(I)I"⟩
abbrev cX5_isRight : ByteArray := prog_7_method_50_code
def yX5_isRight : MethodName := ⟨RX5, "isRight", "(I)Z"⟩
abbrev cX5_allRight : ByteArray := prog_7_method_51_code
def yX5_allRight : MethodName := ⟨RX5, "allRight", "()I"⟩
abbrev cX5_sees : ByteArray := prog_7_method_52_code
def yX5_sees : MethodName := ⟨RX5, "sees", "(III)I"⟩
abbrev cX5_bars : ByteArray := prog_7_method_53_code
def yX5_bars : MethodName := ⟨RX5, "bars", "(II)I"⟩
abbrev cX5_seers : ByteArray := prog_7_method_54_code
def yX5_seers : MethodName := ⟨RX5, "seers", "(I)I"⟩
abbrev cX5_right : ByteArray := prog_7_method_55_code
def yX5_right : MethodName := ⟨RX5, "right", "()I"⟩
abbrev cX5_first : ByteArray := prog_7_method_56_code
def yX5_first : MethodName := ⟨RX5, "first", "()I"⟩
abbrev cX5_costOf : ByteArray := prog_7_method_57_code
def yX5_costOf : MethodName := ⟨RX5, "costOf", "(II)I"⟩
abbrev cX5_cost : ByteArray := prog_7_method_58_code
def yX5_cost : MethodName := ⟨RX5, "cost", "(II)I"⟩
abbrev cX5_keptOf : ByteArray := prog_7_method_59_code
def yX5_keptOf : MethodName := ⟨RX5, "keptOf", "(I)I"⟩
abbrev cX5_keeps : ByteArray := prog_7_method_60_code
def yX5_keeps : MethodName := ⟨RX5, "keeps", "(I)I"⟩
abbrev cX5_shutters : ByteArray := prog_7_method_61_code
def yX5_shutters : MethodName := ⟨RX5, "shutters", "(Z)V"⟩
abbrev cX5_cheapest : ByteArray := prog_7_method_62_code
def yX5_cheapest : MethodName := ⟨RX5, "cheapest", "(I)I"⟩
abbrev cX5_houses : ByteArray := prog_7_method_63_code
def yX5_houses : MethodName := ⟨RX5, "houses", "()I"⟩
abbrev cX5_draws : ByteArray := prog_7_method_64_code
def yX5_draws : MethodName := ⟨RX5, "draws", "(I)V"⟩
abbrev cX5_drawnOnes : ByteArray := prog_7_method_65_code
def yX5_drawnOnes : MethodName := ⟨RX5, "drawnOnes", "()I"⟩
abbrev cX5_rightInBoth : ByteArray := prog_7_method_66_code
def yX5_rightInBoth : MethodName := ⟨RX5, "rightInBoth", "()I"⟩
abbrev cX5_curtains : ByteArray := prog_7_method_67_code
def yX5_curtains : MethodName := ⟨RX5, "curtains", "(I)I"⟩
abbrev cX5_newly : ByteArray := prog_7_method_68_code
def yX5_newly : MethodName := ⟨RX5, "newly", "(I)I"⟩
abbrev cX5_storey : ByteArray := prog_7_method_69_code
def yX5_storey : MethodName := ⟨RX5, "storey", "(I)I"⟩
abbrev cX5_blinded : ByteArray := prog_7_method_70_code
def yX5_blinded : MethodName := ⟨RX5, "blinded", "(I)I"⟩
abbrev cX5_felled : ByteArray := prog_7_method_71_code
def yX5_felled : MethodName := ⟨RX5, "felled", "(I)I"⟩
abbrev cX5_pairs : ByteArray := prog_7_method_72_code
def yX5_pairs : MethodName := ⟨RX5, "pairs", "()I"⟩
abbrev cX5_firstOf : ByteArray := prog_7_method_73_code
def yX5_firstOf : MethodName := ⟨RX5, "firstOf", "(I)I"⟩
abbrev cX5_back : ByteArray := prog_7_method_74_code
def yX5_back : MethodName := ⟨RX5, "back", "(I)I"⟩
abbrev cX5_most : ByteArray := prog_7_method_75_code
def yX5_most : MethodName := ⟨RX5, "most", "()I"⟩
abbrev cX5_lists : ByteArray := prog_7_method_76_code
def yX5_lists : MethodName := ⟨RX5, "lists", "(I)V"⟩
abbrev cX5_list : ByteArray := prog_7_method_77_code
def yX5_list : MethodName := ⟨RX5, "list", "(II)I"⟩
abbrev cX5_night : ByteArray := prog_7_method_78_code
def yX5_night : MethodName := ⟨RX5, "night", "(I)I"⟩
abbrev cX5_shuts : ByteArray := prog_7_method_79_code
def yX5_shuts : MethodName := ⟨RX5, "shuts", "()I"⟩
abbrev cX5_shutMany : ByteArray := prog_7_method_80_code
def yX5_shutMany : MethodName := ⟨RX5, "shutMany", "()I"⟩
abbrev cX5_opens : ByteArray := prog_7_method_81_code
def yX5_opens : MethodName := ⟨RX5, "opens", "()I"⟩
abbrev cX5_draws3 : ByteArray := prog_7_method_82_code
def yX5_draws3 : MethodName := ⟨RX5, "draws3", "()I"⟩
abbrev cX5_years : ByteArray := prog_7_method_83_code
def yX5_years : MethodName := ⟨RX5, "years", "(I)I"⟩
abbrev cX5_seed : ByteArray := prog_7_method_84_code
def yX5_seed : MethodName := ⟨RX5, "seed", "(I)I"⟩
abbrev cX5_body : ByteArray := prog_7_method_85_code
def yX5_body : MethodName := ⟨RX5, "body", "(I)V"⟩
abbrev cX5_standing : ByteArray := prog_7_method_86_code
def yX5_standing : MethodName := ⟨RX5, "standing", "(II)I"⟩
abbrev cX5_looking : ByteArray := prog_7_method_87_code
def yX5_looking : MethodName := ⟨RX5, "looking", "(II)I"⟩
abbrev cX5_hiding : ByteArray := prog_7_method_88_code
def yX5_hiding : MethodName := ⟨RX5, "hiding", "(II)I"⟩
abbrev cX5_act : ByteArray := prog_7_method_89_code
def yX5_act : MethodName := ⟨RX5, "act", "(III)I"⟩
abbrev cX5_trace : ByteArray := prog_7_method_90_code
def yX5_trace : MethodName := ⟨RX5, "trace", "(I)I"⟩
abbrev cX5_image : ByteArray := prog_7_method_91_code
def yX5_image : MethodName := ⟨RX5, "image", "()I"⟩
abbrev cX5_restore : ByteArray := prog_7_method_92_code
def yX5_restore : MethodName := ⟨RX5, "restore", "()I"⟩
abbrev cX5_status : ByteArray := prog_7_method_93_code
def yX5_status : MethodName := ⟨RX5, "status", "(I)I"⟩
def RJ6 : String := "java/lang/Integer"
abbrev cJ6_bitCount_0f7a4 : ByteArray := prog_8_method_49_code
def yJ6_bitCount_0f7a4 : MethodName := ⟨RJ6, "bitCount", "(I)I"⟩
def RJ9 : String := "java/lang/Math"
abbrev cJ9_abs_0f7a4 : ByteArray := prog_9_method_59_code
def yJ9_abs_0f7a4 : MethodName := ⟨RJ9, "abs", "(I)I"⟩
abbrev cJ9_max_7cf53 : ByteArray := prog_9_method_65_code
def yJ9_max_7cf53 : MethodName := ⟨RJ9, "max", "(II)I"⟩
abbrev cJ9_min_7cf53 : ByteArray := prog_9_method_69_code
def yJ9_min_7cf53 : MethodName := ⟨RJ9, "min", "(II)I"⟩
def RJ0 : String := "java/lang/String"
abbrev cJ0_length_8abf5 : ByteArray := prog_10_method_54_code
def yJ0_length_8abf5 : MethodName := ⟨RJ0, "length", "()I"⟩
abbrev cJ0_charAt_5068e : ByteArray := prog_10_method_56_code
def yJ0_charAt_5068e : MethodName := ⟨RJ0, "charAt", "(I)C"⟩
abbrev cJ0_coder_7d493 : ByteArray := prog_10_method_152_code
def yJ0_coder_7d493 : MethodName := ⟨RJ0, "coder", "()B"⟩
abbrev cJ0_isLatin1_aae02 : ByteArray := prog_10_method_154_code
def yJ0_isLatin1_aae02 : MethodName := ⟨RJ0, "isLatin1", "()Z"⟩
abbrev cJ0_checkIndex_df160 : ByteArray := prog_10_method_155_code
def yJ0_checkIndex_df160 : MethodName := ⟨RJ0, "checkIndex", "(II)V"⟩
def RJ1 : String := "java/lang/StringLatin1"
abbrev cJ1_charAt_3b067 : ByteArray := prog_11_method_2_code
def yJ1_charAt_3b067 : MethodName := ⟨RJ1, "charAt", "([BI)C"⟩
def RJ2 : String := "java/lang/StringUTF16"
abbrev cJ2_getChar_3b067 : ByteArray := prog_12_method_5_code
def yJ2_getChar_3b067 : MethodName := ⟨RJ2, "getChar", "([BI)C"⟩
abbrev cJ2_length_9d52b : ByteArray := prog_12_method_6_code
def yJ2_length_9d52b : MethodName := ⟨RJ2, "length", "([B)I"⟩
abbrev cJ2_charAt_3b067 : ByteArray := prog_12_method_83_code
def yJ2_charAt_3b067 : MethodName := ⟨RJ2, "charAt", "([BI)C"⟩
abbrev cJ2_checkIndex_2214a : ByteArray := prog_12_method_91_code
def yJ2_checkIndex_2214a : MethodName := ⟨RJ2, "checkIndex", "(I[B)V"⟩
def RJ10 : String := "java/lang/System"
def RJ3 : String := "jdk/internal/util/Preconditions"
abbrev cJ3_checkIndex_8e157 : ByteArray := prog_14_method_11_code
def yJ3_checkIndex_8e157 : MethodName := ⟨RJ3, "checkIndex", "(IILjava/util/function/BiFunction;)I"⟩
abbrev cL_law : ByteArray := code
def GW : List Cond := lw_tbl.filter goodWord
theorem gw_in {i : Nat} {w : Cond} (h : lw_tbl[i]? = some w) (hg : goodWord w = true) : w ∈ GW := List.mem_filter.mpr ⟨List.mem_of_getElem? h, hg⟩
theorem gw_tbl {w : Cond} (h : w ∈ GW) : w ∈ lw_tbl := (List.mem_filter.mp h).1
theorem gw_good {w : Cond} (h : w ∈ GW) : goodWord w = true := (List.mem_filter.mp h).2
theorem inG0 : ∀ w ∈ wsX00, w ∈ GW := by
  have h : ∀ k, k < 5 → u_lay RX0 TX0 k ∈ GW := by
    intro k hk
    match k, hk with
    | 0, _ => exact gw_in (i := 179) (by decide +kernel) (by decide +kernel)
    | 1, _ => exact gw_in (i := 181) (by decide +kernel) (by decide +kernel)
    | 2, _ => exact gw_in (i := 183) (by decide +kernel) (by decide +kernel)
    | 3, _ => exact gw_in (i := 185) (by decide +kernel) (by decide +kernel)
    | 4, _ => exact gw_in (i := 187) (by decide +kernel) (by decide +kernel)
    | n + 5, h => exact absurd h (by omega)
  intro w hw
  obtain ⟨k, hk, rfl⟩ := List.mem_map.mp hw
  exact h k (List.mem_range.mp hk)
theorem inG1 : ∀ w ∈ wsX10, w ∈ GW := by
  have h : ∀ k, k < 13 → u_lay RX1 TX1 k ∈ GW := by
    intro k hk
    match k, hk with
    | 0, _ => exact gw_in (i := 139) (by decide +kernel) (by decide +kernel)
    | 1, _ => exact gw_in (i := 141) (by decide +kernel) (by decide +kernel)
    | 2, _ => exact gw_in (i := 143) (by decide +kernel) (by decide +kernel)
    | 3, _ => exact gw_in (i := 145) (by decide +kernel) (by decide +kernel)
    | 4, _ => exact gw_in (i := 147) (by decide +kernel) (by decide +kernel)
    | 5, _ => exact gw_in (i := 149) (by decide +kernel) (by decide +kernel)
    | 6, _ => exact gw_in (i := 151) (by decide +kernel) (by decide +kernel)
    | 7, _ => exact gw_in (i := 153) (by decide +kernel) (by decide +kernel)
    | 8, _ => exact gw_in (i := 155) (by decide +kernel) (by decide +kernel)
    | 9, _ => exact gw_in (i := 157) (by decide +kernel) (by decide +kernel)
    | 10, _ => exact gw_in (i := 159) (by decide +kernel) (by decide +kernel)
    | 11, _ => exact gw_in (i := 161) (by decide +kernel) (by decide +kernel)
    | 12, _ => exact gw_in (i := 163) (by decide +kernel) (by decide +kernel)
    | n + 13, h => exact absurd h (by omega)
  intro w hw
  obtain ⟨k, hk, rfl⟩ := List.mem_map.mp hw
  exact h k (List.mem_range.mp hk)
theorem inG2 : ∀ w ∈ wsX20, w ∈ GW := by
  have h : ∀ k, k < 5 → u_lay RX2 TX2 k ∈ GW := by
    intro k hk
    match k, hk with
    | 0, _ => exact gw_in (i := 488) (by decide +kernel) (by decide +kernel)
    | 1, _ => exact gw_in (i := 490) (by decide +kernel) (by decide +kernel)
    | 2, _ => exact gw_in (i := 492) (by decide +kernel) (by decide +kernel)
    | 3, _ => exact gw_in (i := 494) (by decide +kernel) (by decide +kernel)
    | 4, _ => exact gw_in (i := 496) (by decide +kernel) (by decide +kernel)
    | n + 5, h => exact absurd h (by omega)
  intro w hw
  obtain ⟨k, hk, rfl⟩ := List.mem_map.mp hw
  exact h k (List.mem_range.mp hk)
theorem inG3 : ∀ w ∈ wsX30, w ∈ GW := by
  have h : ∀ k, k < 3 → u_lay RX3 TX3 k ∈ GW := by
    intro k hk
    match k, hk with
    | 0, _ => exact gw_in (i := 203) (by decide +kernel) (by decide +kernel)
    | 1, _ => exact gw_in (i := 205) (by decide +kernel) (by decide +kernel)
    | 2, _ => exact gw_in (i := 207) (by decide +kernel) (by decide +kernel)
    | n + 3, h => exact absurd h (by omega)
  intro w hw
  obtain ⟨k, hk, rfl⟩ := List.mem_map.mp hw
  exact h k (List.mem_range.mp hk)
theorem inG4 : ∀ w ∈ wsX40, w ∈ GW := by
  have h : ∀ k, k < 9 → u_lay RX4 TX4 k ∈ GW := by
    intro k hk
    match k, hk with
    | 0, _ => exact gw_in (i := 220) (by decide +kernel) (by decide +kernel)
    | 1, _ => exact gw_in (i := 222) (by decide +kernel) (by decide +kernel)
    | 2, _ => exact gw_in (i := 224) (by decide +kernel) (by decide +kernel)
    | 3, _ => exact gw_in (i := 226) (by decide +kernel) (by decide +kernel)
    | 4, _ => exact gw_in (i := 228) (by decide +kernel) (by decide +kernel)
    | 5, _ => exact gw_in (i := 230) (by decide +kernel) (by decide +kernel)
    | 6, _ => exact gw_in (i := 232) (by decide +kernel) (by decide +kernel)
    | 7, _ => exact gw_in (i := 234) (by decide +kernel) (by decide +kernel)
    | 8, _ => exact gw_in (i := 236) (by decide +kernel) (by decide +kernel)
    | n + 9, h => exact absurd h (by omega)
  intro w hw
  obtain ⟨k, hk, rfl⟩ := List.mem_map.mp hw
  exact h k (List.mem_range.mp hk)
theorem inG5 : ∀ w ∈ wsX50, w ∈ GW := by
  have h : ∀ k, k < 38 → u_lay RX5 TX5 k ∈ GW := by
    intro k hk
    match k, hk with
    | 0, _ => exact gw_in (i := 914) (by decide +kernel) (by decide +kernel)
    | 1, _ => exact gw_in (i := 916) (by decide +kernel) (by decide +kernel)
    | 2, _ => exact gw_in (i := 918) (by decide +kernel) (by decide +kernel)
    | 3, _ => exact gw_in (i := 920) (by decide +kernel) (by decide +kernel)
    | 4, _ => exact gw_in (i := 922) (by decide +kernel) (by decide +kernel)
    | 5, _ => exact gw_in (i := 924) (by decide +kernel) (by decide +kernel)
    | 6, _ => exact gw_in (i := 926) (by decide +kernel) (by decide +kernel)
    | 7, _ => exact gw_in (i := 928) (by decide +kernel) (by decide +kernel)
    | 8, _ => exact gw_in (i := 930) (by decide +kernel) (by decide +kernel)
    | 9, _ => exact gw_in (i := 932) (by decide +kernel) (by decide +kernel)
    | 10, _ => exact gw_in (i := 934) (by decide +kernel) (by decide +kernel)
    | 11, _ => exact gw_in (i := 936) (by decide +kernel) (by decide +kernel)
    | 12, _ => exact gw_in (i := 938) (by decide +kernel) (by decide +kernel)
    | 13, _ => exact gw_in (i := 940) (by decide +kernel) (by decide +kernel)
    | 14, _ => exact gw_in (i := 942) (by decide +kernel) (by decide +kernel)
    | 15, _ => exact gw_in (i := 944) (by decide +kernel) (by decide +kernel)
    | 16, _ => exact gw_in (i := 946) (by decide +kernel) (by decide +kernel)
    | 17, _ => exact gw_in (i := 948) (by decide +kernel) (by decide +kernel)
    | 18, _ => exact gw_in (i := 950) (by decide +kernel) (by decide +kernel)
    | 19, _ => exact gw_in (i := 952) (by decide +kernel) (by decide +kernel)
    | 20, _ => exact gw_in (i := 954) (by decide +kernel) (by decide +kernel)
    | 21, _ => exact gw_in (i := 956) (by decide +kernel) (by decide +kernel)
    | 22, _ => exact gw_in (i := 958) (by decide +kernel) (by decide +kernel)
    | 23, _ => exact gw_in (i := 960) (by decide +kernel) (by decide +kernel)
    | 24, _ => exact gw_in (i := 962) (by decide +kernel) (by decide +kernel)
    | 25, _ => exact gw_in (i := 964) (by decide +kernel) (by decide +kernel)
    | 26, _ => exact gw_in (i := 966) (by decide +kernel) (by decide +kernel)
    | 27, _ => exact gw_in (i := 968) (by decide +kernel) (by decide +kernel)
    | 28, _ => exact gw_in (i := 970) (by decide +kernel) (by decide +kernel)
    | 29, _ => exact gw_in (i := 972) (by decide +kernel) (by decide +kernel)
    | 30, _ => exact gw_in (i := 974) (by decide +kernel) (by decide +kernel)
    | 31, _ => exact gw_in (i := 976) (by decide +kernel) (by decide +kernel)
    | 32, _ => exact gw_in (i := 978) (by decide +kernel) (by decide +kernel)
    | 33, _ => exact gw_in (i := 980) (by decide +kernel) (by decide +kernel)
    | 34, _ => exact gw_in (i := 982) (by decide +kernel) (by decide +kernel)
    | 35, _ => exact gw_in (i := 984) (by decide +kernel) (by decide +kernel)
    | 36, _ => exact gw_in (i := 986) (by decide +kernel) (by decide +kernel)
    | 37, _ => exact gw_in (i := 988) (by decide +kernel) (by decide +kernel)
    | n + 38, h => exact absurd h (by omega)
  intro w hw
  obtain ⟨k, hk, rfl⟩ := List.mem_map.mp hw
  exact h k (List.mem_range.mp hk)
abbrev mm_T : Type := MethodName × ByteArray × Nat × Option FieldType
def mX0_init : mm_T := (yX0_init, cX0_init, 1, none)
def mX0_forget : mm_T := (yX0_forget, cX0_forget, 1, none)
def mX0_actor : mm_T := (yX0_actor, cX0_actor, 4, none)
def mX0_bodyAt : mm_T := (yX0_bodyAt, cX0_bodyAt, 2, some .int)
def mX0_begins : mm_T := (yX0_begins, cX0_begins, 2, none)
def mX0_stands : mm_T := (yX0_stands, cX0_stands, 3, some .int)
def mX0_looks : mm_T := (yX0_looks, cX0_looks, 4, some .int)
def mX0_hides : mm_T := (yX0_hides, cX0_hides, 3, some .int)
def mX1_init : mm_T := (yX1_init, cX1_init, 1, none)
def mX1_copyFrom : mm_T := (yX1_copyFrom, cX1_copyFrom, 2, none)
def mX1_has : mm_T := (yX1_has, cX1_has, 2, some .boolean)
def mX1_isHouse : mm_T := (yX1_isHouse, cX1_isHouse, 2, some .boolean)
def mX1_isFull : mm_T := (yX1_isFull, cX1_isFull, 1, some .boolean)
def mX1_thingAt : mm_T := (yX1_thingAt, cX1_thingAt, 4, some .int)
def mX1_add : mm_T := (yX1_add, cX1_add, 6, some .int)
def mX1_dropLatest : mm_T := (yX1_dropLatest, cX1_dropLatest, 1, none)
def mX1_takeAway : mm_T := (yX1_takeAway, cX1_takeAway, 2, none)
def mX1_houses : mm_T := (yX1_houses, cX1_houses, 3, some .int)
def mX1_towers : mm_T := (yX1_towers, cX1_towers, 3, some .int)
def mX1_tallOf : mm_T := (yX1_tallOf, cX1_tallOf, 2, some .int)
def mX1_eyesOf : mm_T := (yX1_eyesOf, cX1_eyesOf, 2, some .int)
def mX1_distanceOf : mm_T := (yX1_distanceOf, cX1_distanceOf, 3, some .int)
def mX1_lookAround : mm_T := (yX1_lookAround, cX1_lookAround, 2, none)
def mX1_lookersInto : mm_T := (yX1_lookersInto, cX1_lookersInto, 4, some .int)
def mX1_looksInto : mm_T := (yX1_looksInto, cX1_looksInto, 4, some .boolean)
def mX1_firstBar : mm_T := (yX1_firstBar, cX1_firstBar, 11, some .int)
def mX1_greatestDivisor : mm_T := (yX1_greatestDivisor, cX1_greatestDivisor, 3, some .int)
def mX1_lookersSeeing : mm_T := (yX1_lookersSeeing, cX1_lookersSeeing, 2, some .int)
def mX1_seersOf : mm_T := (yX1_seersOf, cX1_seersOf, 2, some .int)
def mX1_countSeenBy : mm_T := (yX1_countSeenBy, cX1_countSeenBy, 4, some .int)
def mX1_rightHouses : mm_T := (yX1_rightHouses, cX1_rightHouses, 6, some .int)
def mX1_countRight : mm_T := (yX1_countRight, cX1_countRight, 1, some .int)
def mX1_countShutters : mm_T := (yX1_countShutters, cX1_countShutters, 3, some .int)
def mX1_costOf : mm_T := (yX1_costOf, cX1_costOf, 3, some .int)
def mX1_keptSeer : mm_T := (yX1_keptSeer, cX1_keptSeer, 6, some .int)
def mX1_seersTooMany : mm_T := (yX1_seersTooMany, cX1_seersTooMany, 3, some .int)
def mX1_hopelessHouses : mm_T := (yX1_hopelessHouses, cX1_hopelessHouses, 3, some .int)
def mX1_cheapestShutters : mm_T := (yX1_cheapestShutters, cX1_cheapestShutters, 3, some .int)
def mX1_cheapestCost : mm_T := (yX1_cheapestCost, cX1_cheapestCost, 5, some .int)
def mX1_passYear : mm_T := (yX1_passYear, cX1_passYear, 2, none)
def mX1_drawGrowth : mm_T := (yX1_drawGrowth, cX1_drawGrowth, 1, some .int)
def mX2_init : mm_T := (yX2_init, cX2_init, 3, none)
def mX2_readItems : mm_T := (yX2_readItems, cX2_readItems, 2, some .int)
def mX2_readItem : mm_T := (yX2_readItem, cX2_readItem, 3, none)
def mX2_readThing : mm_T := (yX2_readThing, cX2_readThing, 7, none)
def mX2_tellShut : mm_T := (yX2_tellShut, cX2_tellShut, 3, none)
def mX2_tellDrawn : mm_T := (yX2_tellDrawn, cX2_tellDrawn, 2, none)
def mX2_readHouse : mm_T := (yX2_readHouse, cX2_readHouse, 3, some .int)
def mX2_readWord : mm_T := (yX2_readWord, cX2_readWord, 5, some .int)
def mX2_lettersOf : mm_T := (yX2_lettersOf, cX2_lettersOf, 1, some (.object "java/lang/String"))
def mX2_sameLetters : mm_T := (yX2_sameLetters, cX2_sameLetters, 3, some .int)
def mX2_readSign : mm_T := (yX2_readSign, cX2_readSign, 2, none)
def mX2_readNumber : mm_T := (yX2_readNumber, cX2_readNumber, 5, some .int)
def mX2_digitAt : mm_T := (yX2_digitAt, cX2_digitAt, 3, some .int)
def mX2_signAt : mm_T := (yX2_signAt, cX2_signAt, 2, some .int)
def mX2_faultAt : mm_T := (yX2_faultAt, cX2_faultAt, 2, none)
def mX3_init : mm_T := (yX3_init, cX3_init, 1, none)
def mX3_holdsRow : mm_T := (yX3_holdsRow, cX3_holdsRow, 1, some .boolean)
def mX3_holdsThing : mm_T := (yX3_holdsThing, cX3_holdsThing, 1, some .boolean)
def mX3_becomeRow : mm_T := (yX3_becomeRow, cX3_becomeRow, 4, none)
def mX3_hasElement : mm_T := (yX3_hasElement, cX3_hasElement, 2, some .boolean)
def mX3_hasElements : mm_T := (yX3_hasElements, cX3_hasElements, 3, some .boolean)
def mX3_put : mm_T := (yX3_put, cX3_put, 4, none)
def mX3_intAt : mm_T := (yX3_intAt, cX3_intAt, 2, some .int)
def mX4_init : mm_T := (yX4_init, cX4_init, 2, none)
def mX4_row : mm_T := (yX4_row, cX4_row, 4, some .int)
def mX4_set : mm_T := (yX4_set, cX4_set, 6, some .int)
def mX4_copy : mm_T := (yX4_copy, cX4_copy, 7, some .int)
def mX4_element : mm_T := (yX4_element, cX4_element, 3, some .long)
def mX4_show : mm_T := (yX4_show, cX4_show, 3, some .int)
def mX4_holds : mm_T := (yX4_holds, cX4_holds, 2, some .int)
def mX4_says : mm_T := (yX4_says, cX4_says, 4, some .int)
def mX4_wordOf : mm_T := (yX4_wordOf, cX4_wordOf, 3, some .int)
def mX4_thing : mm_T := (yX4_thing, cX4_thing, 7, some .int)
def mX4_thingOf : mm_T := (yX4_thingOf, cX4_thingOf, 3, some .int)
def mX4_height : mm_T := (yX4_height, cX4_height, 4, some .int)
def mX4_ask : mm_T := (yX4_ask, cX4_ask, 4, some .int)
def mX4_shut : mm_T := (yX4_shut, cX4_shut, 5, some .int)
def mX4_draw : mm_T := (yX4_draw, cX4_draw, 4, some .int)
def mX4_ground : mm_T := (yX4_ground, cX4_ground, 5, some .int)
def mX4_fault : mm_T := (yX4_fault, cX4_fault, 1, some .int)
def mX4_sees : mm_T := (yX4_sees, cX4_sees, 6, some .int)
def mX4_bars : mm_T := (yX4_bars, cX4_bars, 4, some .int)
def mX4_seers : mm_T := (yX4_seers, cX4_seers, 3, some .int)
def mX4_right : mm_T := (yX4_right, cX4_right, 1, some .int)
def mX4_first : mm_T := (yX4_first, cX4_first, 1, some .int)
def mX4_cost : mm_T := (yX4_cost, cX4_cost, 4, some .int)
def mX4_cheapest : mm_T := (yX4_cheapest, cX4_cheapest, 2, some .int)
def mX4_keeps : mm_T := (yX4_keeps, cX4_keeps, 3, some .int)
def mX4_curtains : mm_T := (yX4_curtains, cX4_curtains, 3, some .int)
def mX4_addRightWhenDrawn : mm_T := (yX4_addRightWhenDrawn, cX4_addRightWhenDrawn, 4, none)
def mX4_bestDrawnSet : mm_T := (yX4_bestDrawnSet, cX4_bestDrawnSet, 6, some .int)
def mX4_newly : mm_T := (yX4_newly, cX4_newly, 7, some .int)
def mX4_rightWithNewHouse : mm_T := (yX4_rightWithNewHouse, cX4_rightWithNewHouse, 5, some .int)
def mX4_storey : mm_T := (yX4_storey, cX4_storey, 3, some .int)
def mX4_blinded : mm_T := (yX4_blinded, cX4_blinded, 5, some .int)
def mX4_tryStorey : mm_T := (yX4_tryStorey, cX4_tryStorey, 2, none)
def mX4_felled : mm_T := (yX4_felled, cX4_felled, 2, some .int)
def mX4_pairs : mm_T := (yX4_pairs, cX4_pairs, 4, some .int)
def mX4_back : mm_T := (yX4_back, cX4_back, 5, some .int)
def mX4_most : mm_T := (yX4_most, cX4_most, 5, some .int)
def mX4_list : mm_T := (yX4_list, cX4_list, 4, some .int)
def mX4_firstWrong : mm_T := (yX4_firstWrong, cX4_firstWrong, 3, some .int)
def mX4_countUnlike : mm_T := (yX4_countUnlike, cX4_countUnlike, 4, some .int)
def mX4_unlikeBits : mm_T := (yX4_unlikeBits, cX4_unlikeBits, 4, some .int)
def mX4_fitsIn : mm_T := (yX4_fitsIn, cX4_fitsIn, 3, some .int)
def mX4_night : mm_T := (yX4_night, cX4_night, 5, some .int)
def mX4_shuts : mm_T := (yX4_shuts, cX4_shuts, 3, some .int)
def mX4_opens : mm_T := (yX4_opens, cX4_opens, 3, some .int)
def mX4_years : mm_T := (yX4_years, cX4_years, 4, some .int)
def mX4_seed : mm_T := (yX4_seed, cX4_seed, 3, some .int)
def mX4_act : mm_T := (yX4_act, cX4_act, 4, some .int)
def mX4_trace : mm_T := (yX4_trace, cX4_trace, 2, some .int)
def mX4_image : mm_T := (yX4_image, cX4_image, 1, some .int)
def mX4_restore : mm_T := (yX4_restore, cX4_restore, 2, some .int)
def mX4_status : mm_T := (yX4_status, cX4_status, 2, some .int)
def mX4_refuse : mm_T := (yX4_refuse, cX4_refuse, 2, some .int)
def mX4_lacksRow : mm_T := (yX4_lacksRow, cX4_lacksRow, 2, some .int)
def mX4_lacksRows : mm_T := (yX4_lacksRows, cX4_lacksRows, 3, some .int)
def mX4_lacksHouse : mm_T := (yX4_lacksHouse, cX4_lacksHouse, 2, some .int)
def mX4_lacksHouses : mm_T := (yX4_lacksHouses, cX4_lacksHouses, 3, some .int)
def mX4_lacksSight : mm_T := (yX4_lacksSight, cX4_lacksSight, 4, some .int)
def mX4_lacksStorey : mm_T := (yX4_lacksStorey, cX4_lacksStorey, 3, some .int)
def mX4_isShelf : mm_T := (yX4_isShelf, cX4_isShelf, 1, some .boolean)
def mX4_isKind : mm_T := (yX4_isKind, cX4_isKind, 1, some .boolean)
def mX4_isHouseKind : mm_T := (yX4_isHouseKind, cX4_isHouseKind, 1, some .boolean)
def mX4_isTreeKind : mm_T := (yX4_isTreeKind, cX4_isTreeKind, 1, some .boolean)
def mX4_isOfKind : mm_T := (yX4_isOfKind, cX4_isOfKind, 2, some .boolean)
def mX4_isPlace : mm_T := (yX4_isPlace, cX4_isPlace, 2, some .boolean)
def mX4_isHeight : mm_T := (yX4_isHeight, cX4_isHeight, 1, some .boolean)
def mX4_isSummer : mm_T := (yX4_isSummer, cX4_isSummer, 1, some .boolean)
def mX4_isFar : mm_T := (yX4_isFar, cX4_isFar, 1, some .boolean)
def mX4_bit : mm_T := (yX4_bit, cX4_bit, 1, some .int)
def mX4_isIn : mm_T := (yX4_isIn, cX4_isIn, 2, some .boolean)
def mX4_lowestOf : mm_T := (yX4_lowestOf, cX4_lowestOf, 2, some .int)
def mX5_init : mm_T := (yX5_init, cX5_init, 1, none)
def mX5_no : mm_T := (yX5_no, cX5_no, 2, some .int)
def mX5_noTen : mm_T := (yX5_noTen, cX5_noTen, 2, some .int)
def mX5_noMuch : mm_T := (yX5_noMuch, cX5_noMuch, 2, some .int)
def mX5_isShelf : mm_T := (yX5_isShelf, cX5_isShelf, 2, some .boolean)
def mX5_isThing : mm_T := (yX5_isThing, cX5_isThing, 2, some .boolean)
def mX5_isHouse : mm_T := (yX5_isHouse, cX5_isHouse, 2, some .boolean)
def mX5_barred : mm_T := (yX5_barred, cX5_barred, 2, some .int)
def mX5_barredTwo : mm_T := (yX5_barredTwo, cX5_barredTwo, 3, some .int)
def mX5_row : mm_T := (yX5_row, cX5_row, 5, some .int)
def mX5_set : mm_T := (yX5_set, cX5_set, 5, some .int)
def mX5_copy : mm_T := (yX5_copy, cX5_copy, 7, some .int)
def mX5_element : mm_T := (yX5_element, cX5_element, 3, some .long)
def mX5_show : mm_T := (yX5_show, cX5_show, 3, some .int)
def mX5_holds : mm_T := (yX5_holds, cX5_holds, 2, some .int)
def mX5_says : mm_T := (yX5_says, cX5_says, 5, some .int)
def mX5_wants : mm_T := (yX5_wants, cX5_wants, 2, some .int)
def mX5_intAt : mm_T := (yX5_intAt, cX5_intAt, 3, some .int)
def mX5_many : mm_T := (yX5_many, cX5_many, 4, some .int)
def mX5_at : mm_T := (yX5_at, cX5_at, 4, some .int)
def mX5_adds : mm_T := (yX5_adds, cX5_adds, 7, some .int)
def mX5_thing : mm_T := (yX5_thing, cX5_thing, 6, some .int)
def mX5_thingOf : mm_T := (yX5_thingOf, cX5_thingOf, 3, some .int)
def mX5_height : mm_T := (yX5_height, cX5_height, 4, some .int)
def mX5_ask : mm_T := (yX5_ask, cX5_ask, 4, some .int)
def mX5_shut : mm_T := (yX5_shut, cX5_shut, 6, some .int)
def mX5_draw : mm_T := (yX5_draw, cX5_draw, 5, some .int)
def mX5_wrong : mm_T := (yX5_wrong, cX5_wrong, 2, some .boolean)
def mX5_word : mm_T := (yX5_word, cX5_word, 6, some .int)
def mX5_isDigit : mm_T := (yX5_isDigit, cX5_isDigit, 1, some .boolean)
def mX5_number : mm_T := (yX5_number, cX5_number, 1, some .boolean)
def mX5_isSo : mm_T := (yX5_isSo, cX5_isSo, 3, some .boolean)
def mX5_isFull : mm_T := (yX5_isFull, cX5_isFull, 2, some .boolean)
def mX5_isWordAt : mm_T := (yX5_isWordAt, cX5_isWordAt, 4, some .boolean)
def mX5_item : mm_T := (yX5_item, cX5_item, 6, some .boolean)
def mX5_carries : mm_T := (yX5_carries, cX5_carries, 6, some .int)
def mX5_all : mm_T := (yX5_all, cX5_all, 4, none)
def mX5_ground : mm_T := (yX5_ground, cX5_ground, 5, some .int)
def mX5_fault : mm_T := (yX5_fault, cX5_fault, 1, some .int)
def mX5_tall : mm_T := (yX5_tall, cX5_tall, 2, some .int)
def mX5_eyes : mm_T := (yX5_eyes, cX5_eyes, 2, some .int)
def mX5_sizeOf : mm_T := (yX5_sizeOf, cX5_sizeOf, 2, some .int)
def mX5_distance : mm_T := (yX5_distance, cX5_distance, 5, some .int)
def mX5_divides : mm_T := (yX5_divides, cX5_divides, 3, some .int)
def mX5_inWay : mm_T := (yX5_inWay, cX5_inWay, 9, some .int)
def mX5_looks : mm_T := (yX5_looks, cX5_looks, 3, some .boolean)
def mX5_isSeen : mm_T := (yX5_isSeen, cX5_isSeen, 3, some .boolean)
def mX5_seesInto : mm_T := (yX5_seesInto, cX5_seesInto, 4, some .int)
def mX5_seersOf : mm_T := (yX5_seersOf, cX5_seersOf, 4, some .int)
def mX5_isRight : mm_T := (yX5_isRight, cX5_isRight, 2, some .boolean)
def mX5_allRight : mm_T := (yX5_allRight, cX5_allRight, 3, some .int)
def mX5_sees : mm_T := (yX5_sees, cX5_sees, 5, some .int)
def mX5_bars : mm_T := (yX5_bars, cX5_bars, 4, some .int)
def mX5_seers : mm_T := (yX5_seers, cX5_seers, 3, some .int)
def mX5_right : mm_T := (yX5_right, cX5_right, 1, some .int)
def mX5_first : mm_T := (yX5_first, cX5_first, 3, some .int)
def mX5_costOf : mm_T := (yX5_costOf, cX5_costOf, 3, some .int)
def mX5_cost : mm_T := (yX5_cost, cX5_cost, 4, some .int)
def mX5_keptOf : mm_T := (yX5_keptOf, cX5_keptOf, 5, some .int)
def mX5_keeps : mm_T := (yX5_keeps, cX5_keeps, 3, some .int)
def mX5_shutters : mm_T := (yX5_shutters, cX5_shutters, 6, none)
def mX5_cheapest : mm_T := (yX5_cheapest, cX5_cheapest, 2, some .int)
def mX5_houses : mm_T := (yX5_houses, cX5_houses, 3, some .int)
def mX5_draws : mm_T := (yX5_draws, cX5_draws, 3, none)
def mX5_drawnOnes : mm_T := (yX5_drawnOnes, cX5_drawnOnes, 3, some .int)
def mX5_rightInBoth : mm_T := (yX5_rightInBoth, cX5_rightInBoth, 3, some .int)
def mX5_curtains : mm_T := (yX5_curtains, cX5_curtains, 8, some .int)
def mX5_newly : mm_T := (yX5_newly, cX5_newly, 6, some .int)
def mX5_storey : mm_T := (yX5_storey, cX5_storey, 4, some .int)
def mX5_blinded : mm_T := (yX5_blinded, cX5_blinded, 5, some .int)
def mX5_felled : mm_T := (yX5_felled, cX5_felled, 4, some .int)
def mX5_pairs : mm_T := (yX5_pairs, cX5_pairs, 4, some .int)
def mX5_firstOf : mm_T := (yX5_firstOf, cX5_firstOf, 3, some .int)
def mX5_back : mm_T := (yX5_back, cX5_back, 5, some .int)
def mX5_most : mm_T := (yX5_most, cX5_most, 6, some .int)
def mX5_lists : mm_T := (yX5_lists, cX5_lists, 4, none)
def mX5_list : mm_T := (yX5_list, cX5_list, 6, some .int)
def mX5_night : mm_T := (yX5_night, cX5_night, 4, some .int)
def mX5_shuts : mm_T := (yX5_shuts, cX5_shuts, 1, some .int)
def mX5_shutMany : mm_T := (yX5_shutMany, cX5_shutMany, 3, some .int)
def mX5_opens : mm_T := (yX5_opens, cX5_opens, 3, some .int)
def mX5_draws3 : mm_T := (yX5_draws3, cX5_draws3, 1, some .int)
def mX5_years : mm_T := (yX5_years, cX5_years, 5, some .int)
def mX5_seed : mm_T := (yX5_seed, cX5_seed, 3, some .int)
def mX5_body : mm_T := (yX5_body, cX5_body, 2, none)
def mX5_standing : mm_T := (yX5_standing, cX5_standing, 6, some .int)
def mX5_looking : mm_T := (yX5_looking, cX5_looking, 6, some .int)
def mX5_hiding : mm_T := (yX5_hiding, cX5_hiding, 5, some .int)
def mX5_act : mm_T := (yX5_act, cX5_act, 4, some .int)
def mX5_trace : mm_T := (yX5_trace, cX5_trace, 2, some .int)
def mX5_image : mm_T := (yX5_image, cX5_image, 1, some .int)
def mX5_restore : mm_T := (yX5_restore, cX5_restore, 2, some .int)
def mX5_status : mm_T := (yX5_status, cX5_status, 2, some .int)
def mJ6_bitCount_0f7a4 : mm_T := (yJ6_bitCount_0f7a4, cJ6_bitCount_0f7a4, 1, some .int)
def mJ9_abs_0f7a4 : mm_T := (yJ9_abs_0f7a4, cJ9_abs_0f7a4, 1, some .int)
def mJ9_max_7cf53 : mm_T := (yJ9_max_7cf53, cJ9_max_7cf53, 2, some .int)
def mJ9_min_7cf53 : mm_T := (yJ9_min_7cf53, cJ9_min_7cf53, 2, some .int)
def mJ0_length_8abf5 : mm_T := (yJ0_length_8abf5, cJ0_length_8abf5, 1, some .int)
def mJ0_charAt_5068e : mm_T := (yJ0_charAt_5068e, cJ0_charAt_5068e, 2, some .char)
def mJ0_coder_7d493 : mm_T := (yJ0_coder_7d493, cJ0_coder_7d493, 1, some .byte)
def mJ0_isLatin1_aae02 : mm_T := (yJ0_isLatin1_aae02, cJ0_isLatin1_aae02, 1, some .boolean)
def mJ0_checkIndex_df160 : mm_T := (yJ0_checkIndex_df160, cJ0_checkIndex_df160, 2, none)
def mJ1_charAt_3b067 : mm_T := (yJ1_charAt_3b067, cJ1_charAt_3b067, 2, some .char)
def mJ2_getChar_3b067 : mm_T := (yJ2_getChar_3b067, cJ2_getChar_3b067, 2, some .char)
def mJ2_length_9d52b : mm_T := (yJ2_length_9d52b, cJ2_length_9d52b, 1, some .int)
def mJ2_charAt_3b067 : mm_T := (yJ2_charAt_3b067, cJ2_charAt_3b067, 2, some .char)
def mJ2_checkIndex_2214a : mm_T := (yJ2_checkIndex_2214a, cJ2_checkIndex_2214a, 2, none)
def mJ3_checkIndex_8e157 : mm_T := (yJ3_checkIndex_8e157, cJ3_checkIndex_8e157, 3, some .int)
def mL_law : mm_T := (x, code, 4, some .boolean)
def kO_l : List Nat := [4, 8, 1, 6, 6, 6, 6, 6, 6, 6, 1, 6, 6, 6, 6, 6, 6, 6, 1, 6, 6, 6, 6, 6, 6, 6, 0, 6, 6, 6, 3, 7, 3, 7, 3, 7, 3, 7, 3, 7, 3, 7, 3, 7, 3, 7, 5, 6, 6, 6, 6, 6, 6, 6, 6, 6, 6, 6, 6, 7, 7, 6, 6, 6, 6, 6, 6]
def zO_l : List Nat := [0, 8, 0, 8, 8, 8, 8, 8, 8, 8, 0, 8, 8, 8, 8, 8, 8, 8, 0, 8, 8, 8, 8, 8, 8, 8, 0, 20, 8, 256, 0, 160, 0, 160, 0, 160, 0, 160, 0, 160, 0, 160, 0, 160, 0, 160, 0, 8, 8, 8, 8, 8, 8, 8, 8, 8, 8, 8, 8, 1280, 160, 32, 5, 70, 70, 8, 20]
/-- the kind of the object number a: a class 0 .. 5, int[] 6, long[] 7, Shelf[] 8 -/
def kO (a : Nat) : Nat := kO_l.getD a 2
def zO (a : Nat) : Nat := zO_l.getD a 0
end
section
/-! the light judgement: values, a memory of numbered objects, one predicate over the machine, a row an instruction -/
abbrev vv_T : Type := Int32 ⊕ (Int64 ⊕ (Option Nat ⊕ (Nat ⊕ Unit)))
abbrev vv_I (x : Int32) : vv_T := Sum.inl x
abbrev vv_L (x : Int64) : vv_T := Sum.inr (Sum.inl x)
abbrev vv_A (a : Option Nat) : vv_T := Sum.inr (Sum.inr (Sum.inl a))
abbrev vv_E (a : Nat) : vv_T := Sum.inr (Sum.inr (Sum.inr (Sum.inl a)))
abbrev vv_U : vv_T := Sum.inr (Sum.inr (Sum.inr (Sum.inr ())))
def to_V (b : Nat) : vv_T → Value
  | .inl x => .int x
  | .inr (.inl x) => .long x
  | .inr (.inr (.inl o)) => va_rf (o.map (fun a => b + a))
  | .inr (.inr (.inr (.inl a))) => .ref a
  | .inr (.inr (.inr (.inr _))) => .null
def vv_c : vv_T → Nat
  | .inr (.inl _) => 2
  | _ => 1
theorem to_V_c (b : Nat) (v : vv_T) : (to_V b v).category = vv_c v := by
  rcases v with x | x | (_ | a) | a | a <;> rfl
theorem sum_c (b : Nat) : ∀ st : List vv_T, ((st.map (to_V b)).map fun v => v.category).sum = (st.map vv_c).sum := by
  intro st
  induction st with
  | nil => rfl
  | cons v t ih => simp only [List.map_cons, List.sum_cons, to_V_c, ih]
/-- the memory: ints, longs, references by object and place; how many objects -/
abbrev mx_T : Type := (Nat → Nat → Int32) × (Nat → Nat → Int64) × (Nat → Nat → Option Nat) × Nat
def mx_isR (c k : Nat) : Bool := match c with
  | 0 => k == 0
  | 1 => Nat.ble 6 k
  | 2 => Nat.ble k 1
  | 3 => k == 2
  | 4 => Nat.ble k 6
  | _ => (Nat.ble 6 k && Nat.ble k 21) || k == 27 || k == 28 || k == 32 || k == 35
def mx_N : Nat → Nat
  | 0 => 5
  | 1 => 13
  | 2 => 5
  | 3 => 3
  | 4 => 9
  | _ => 38
abbrev mCl : List vw_C := [(RX0, TX0, 5), (RX1, TX1, 13), (RX2, TX2, 5), (RX3, TX3, 3), (RX4, TX4, 9), (RX5, TX5, 38)]
abbrev md_T : Type := va_G × ClassId × ClassId × ClassId × (Nat → Nat) × (Nat → Nat)
abbrev mTys (D : md_T) : List (ClassId × FieldType) := [(D.2.1, .int), (D.2.2.1, .long), (D.2.2.2.1, .object RX3)]
def mx_sl (b : Nat) (X : mx_T) (c a k : Nat) : Value := if mx_isR c k = true then va_rf ((X.2.2.1 a k).map (fun q => b + q)) else .int (X.1 a k)
def mx_fs (b : Nat) (X : mx_T) (c a : Nat) : List Value := (List.range (mx_N c)).map (mx_sl b X c a)
def mx_ct (b : Nat) (D : md_T) (X : mx_T) (a : Nat) : va_E :=
  if kO a = 6 then .inl (D.2.1, zO a, .inl (X.1 a))
  else if kO a = 7 then .inl (D.2.2.1, zO a, .inr (.inl (X.2.1 a)))
  else if kO a = 8 then .inl (D.2.2.2.1, zO a, .inr (.inr (.inr (.inr (fun j => (X.2.2.1 a j).map (fun q => b + q))))))
  else .inr (kO a, mx_fs b X (kO a) a)
def mx_R (b : Nat) (D : md_T) (X : mx_T) (H : Heap) : Prop := H.size = b + X.2.2.2 ∧ ∀ a, a < X.2.2.2 → va_at D.1 mCl (b + a, mx_ct b D X a) H
theorem mx_one {b : Nat} {D : md_T} {X : mx_T} {H : Heap} (h : mx_R b D X H) {a : Nat} (ha : a < X.2.2.2) {e : va_E} (he : mx_ct b D X a = e) : va_P D.1 mCl [(b + a, e)] H := by
  intro k q hk
  cases k with
  | zero =>
    cases hk
    rw [← he]
    exact h.2 a ha
  | succ k => simp at hk
theorem mx_oneD {b a : Nat} {e : va_E} : va_D (fun q => b ≤ q) [(b + a, e)] := by
  refine ⟨fun i j p q hi hj _ => ?_, fun k q hk => ?_⟩
  · have h1 : i < 1 := (List.getElem?_eq_some_iff.mp hi).1
    have h2 : j < 1 := (List.getElem?_eq_some_iff.mp hj).1
    omega
  · cases k with
    | zero =>
      cases hk
      exact Nat.le_add_right b a
    | succ k => simp at hk
/-- one cell rewritten -/
theorem mx_set {b : Nat} {D : md_T} {X Y : mx_T} {H H1 : Heap} (h : mx_R b D X H) {a : Nat} (hn : Y.2.2.2 = X.2.2.2) (hz : H1.size = H.size) (oq : ∀ q : Nat, q ≠ b + a → H1[q]? = H[q]?)
    (h1 : va_at D.1 mCl (b + a, mx_ct b D Y a) H1) (ho : ∀ a', a' ≠ a → mx_ct b D Y a' = mx_ct b D X a') : mx_R b D Y H1 := by
  refine ⟨by rw [hz, hn]; exact h.1, fun a' ha' => ?_⟩
  by_cases e : a' = a
  · subst e; exact h1
  · rw [ho a' e]
    exact (h.2 a' (by omega)).kept (oq _ (by omega))
def up_I (I : Nat → Nat → Int32) (a k : Nat) (v : Int32) : Nat → Nat → Int32 := fun a' => if a' = a then upd (I a) k v else I a'
def up_L (L : Nat → Nat → Int64) (a k : Nat) (v : Int64) : Nat → Nat → Int64 := fun a' => if a' = a then vp_updL (L a) k v else L a'
def up_R (R : Nat → Nat → Option Nat) (a k : Nat) (v : Option Nat) : Nat → Nat → Option Nat := fun a' => if a' = a then va_up (R a) k v else R a'
theorem up_I_ne {I : Nat → Nat → Int32} {a k : Nat} {v : Int32} {a' : Nat} (h : a' ≠ a) : up_I I a k v a' = I a' := if_neg h
theorem up_I_eq {I : Nat → Nat → Int32} {a k : Nat} {v : Int32} : up_I I a k v a = upd (I a) k v := if_pos rfl
theorem up_L_ne {I : Nat → Nat → Int64} {a k : Nat} {v : Int64} {a' : Nat} (h : a' ≠ a) : up_L I a k v a' = I a' := if_neg h
theorem up_L_eq {I : Nat → Nat → Int64} {a k : Nat} {v : Int64} : up_L I a k v a = vp_updL (I a) k v := if_pos rfl
theorem up_R_ne {I : Nat → Nat → Option Nat} {a k : Nat} {v : Option Nat} {a' : Nat} (h : a' ≠ a) : up_R I a k v a' = I a' := if_neg h
theorem up_R_eq {I : Nat → Nat → Option Nat} {a k : Nat} {v : Option Nat} : up_R I a k v a = va_up (I a) k v := if_pos rfl
theorem mx_ct_eq {b : Nat} {D : md_T} {X Y : mx_T} {a : Nat} (h1 : Y.1 a = X.1 a) (h2 : Y.2.1 a = X.2.1 a) (h3 : Y.2.2.1 a = X.2.2.1 a) : mx_ct b D Y a = mx_ct b D X a := by
  have e : ∀ c, mx_fs b Y c a = mx_fs b X c a := by
    intro c
    unfold mx_fs
    congr 1
    funext k
    unfold mx_sl
    rw [h1, h3]
  unfold mx_ct
  rw [h1, h2, h3, e]
/-- what the tables and the strings say -/
abbrev ms_N : Nat := 5
abbrev ms_tx : List (Nat × String) := [(118, "thing"), (120, "summer"), (121, "far"), (122, "shut"), (124, "draw")]
abbrev ms_len : List Nat := [5, 6, 3, 4, 4]
abbrev ms_byt : List (List Int32) := [[116, 104, 105, 110, 103], [115, 117, 109, 109, 101, 114], [102, 97, 114], [115, 104, 117, 116], [100, 114, 97, 119]]
def ms_S (b : Nat) (D : md_T) (U : State) : Prop :=
  vk_S ms_N ms_len ms_byt D.2.2.2.2.1 D.2.2.2.2.2 (fun q => b ≤ q) U U.heap ∧ (∀ (i : Nat) (q : Nat × String), ms_tx[i]? = some q → vk_R RX2 q.1 q.2 (D.2.2.2.2.1 i) U) ∧
  va_Z "java/lang/String" "COMPACT_STRINGS" "Z" (.int 1) (fun q => b ≤ q) U U.heap ∧ va_Zq "jdk/internal/util/Preconditions" "SIOOBE_FORMATTER" "Ljava/util/function/BiFunction;" (fun q => b ≤ q) U U.heap
abbrev mn_T : List (String × Nat × MethodName × String) := [(RX4, 17, yX1_init, RX4), (RX4, 30, yX0_init, RX4), (RX4, 50, yX3_init, RX4), (RX1, 62, yX4_isHouseKind, RX4), (RX1, 65, yX4_bit, RX4), (RX2, 90, yX4_bit, RX4), (RX1, 113, yX4_isIn, RX4), (RX1, 136, yX4_isTreeKind, RX4), (RX0, 32, yX4_isHouseKind, RX4), (RX0, 36, yX4_isTreeKind, RX4)]
def wm_K (b : Nat) (D : md_T) (U : State) : Prop := va_K D.1 mCl (mTys D) U ∧ (∀ (i : Nat) (q : String × Nat × MethodName × String), mn_T[i]? = some q → va_Nw (.methodLinkNest q.1 q.2.1 q.2.2.1 q.2.2.2) U) ∧ va_AO RX3 U ∧ ms_S b D U
/-- the same tables and heap: only the frames are others -/
theorem wm_K.calling {b : Nat} {D : md_T} {U : State} (h : wm_K b D U) (g : JFrame) (mk : MethodId) (a : Array Value) : wm_K b D (U.calling g mk a) := by
  obtain ⟨h1, h2, h3, h4, h5, h6, h7⟩ := h
  have hA : U.vm.Alike (U.calling g mk a).vm := Vm.Alike.refl U.vm
  refine ⟨va_K.moved (u := U) hA h1, fun i q hq => va_Nw.same rfl (u := U) rfl (h2 i q hq), va_AO.moved (u := U) hA h3, vk_S.moved (u := U) hA h4, fun i q hq => vk_R.same (u := U) rfl (h5 i q hq), va_Z.moved (u := U) hA h6, va_Zq.moved (u := U) hA h7⟩
theorem wm_K.warm {b : Nat} {D : md_T} {s U : State} (h : wm_K b D s) (hW : s.WarmedH U.vm) (hq : ∀ a : Nat, a < s.heap.size → ¬ b ≤ a → U.heap[a]? = s.heap[a]?) : wm_K b D U := by
  obtain ⟨h1, h2, h3, h4, h5, h6, h7⟩ := h
  exact ⟨va_K.moved hW.alike h1, fun i q hq => va_Nw.warmM hW (h2 i q hq), va_AO.moved hW.alike h3, (vk_S.moved hW.alike h4).kept hq, fun i q hq => vk_R.warm hW (h5 i q hq), (va_Z.moved hW.alike h6).kept hq, (va_Zq.moved hW.alike h7).kept hq⟩
/-- the locals -/
def wm_L (b nL : Nat) (ls : List vv_T) (arr : Array Slot) : Prop := arr.size = nL ∧ lv_wf arr ∧ ∀ (j : Nat) (v : vv_T), ls[j]? = some v → v ≠ vv_U → arr[j]? = some (.val (to_V b v))
def vv_isU : vv_T → Bool
  | .inr (.inr (.inr (.inr _))) => true
  | _ => false
def ls_V (b : Nat) : Nat → List vv_T → List (Nat × Value)
  | _, [] => []
  | i, v :: t => if vv_isU v = true then ls_V b (i + 1) t else (i, to_V b v) :: ls_V b (i + 1) t
theorem vv_isU_iff {v : vv_T} : vv_isU v = true ↔ v = vv_U := by
  rcases v with x | x | a | a | a <;> simp [vv_isU]
theorem ls_V_mem {b : Nat} : ∀ (ls : List vv_T) (i : Nat) (q : Nat × Value), q ∈ ls_V b i ls → ∃ (j : Nat) (v : vv_T), q = (i + j, to_V b v) ∧ ls[j]? = some v ∧ v ≠ vv_U := by
  intro ls
  induction ls with
  | nil => intro i q h; cases h
  | cons w t ih =>
    intro i q h
    unfold ls_V at h
    split at h
    · obtain ⟨j, v, h1, h2, h3⟩ := ih (i + 1) q h
      exact ⟨j + 1, v, by rw [h1]; congr 1; omega, by simpa using h2, h3⟩
    · next hw =>
      rcases List.mem_cons.mp h with h | h
      · exact ⟨0, w, h, rfl, fun e => hw (vv_isU_iff.mpr e)⟩
      · obtain ⟨j, v, h1, h2, h3⟩ := ih (i + 1) q h
        exact ⟨j + 1, v, by rw [h1]; congr 1; omega, by simpa using h2, h3⟩
theorem ls_V_in {b : Nat} : ∀ (ls : List vv_T) (i j : Nat) (v : vv_T), ls[j]? = some v → v ≠ vv_U → (i + j, to_V b v) ∈ ls_V b i ls := by
  intro ls
  induction ls with
  | nil => intro i j v h; simp at h
  | cons w t ih =>
    intro i j v h hv
    unfold ls_V
    cases j with
    | zero =>
      cases h
      rw [if_neg (fun e => hv (vv_isU_iff.mp e))]
      exact List.mem_cons_self
    | succ j =>
      have h2 := ih (i + 1) j v (by simpa using h) hv
      rw [show i + 1 + j = i + (j + 1) by omega] at h2
      split
      · exact h2
      · exact List.mem_cons_of_mem _ h2
theorem wm_L.has {b nL : Nat} {ls : List vv_T} {arr : Array Slot} (h : wm_L b nL ls arr) : lv_has arr nL (ls_V b 0 ls) := by
  refine ⟨h.1, h.2.1, fun q hq => ?_⟩
  obtain ⟨j, v, h1, h2, h3⟩ := ls_V_mem ls 0 q hq
  rw [h1]
  simpa using h.2.2 j v h2 h3
/-- a value is stored: no long begins just ahead of it -/
def ls_ok (ls : List vv_T) (i : Nat) : Bool := match i with
  | 0 => true
  | j + 1 => match ls[j]? with
    | some (.inr (.inl _)) => false
    | _ => true
theorem wm_L.st {b nL : Nat} {ls : List vv_T} {arr' : Array Slot} {i : Nat} {w : vv_T} (hi : i < ls.length) (hok : ls_ok ls i = true) (h : lv_has arr' nL ((i, to_V b w) :: (ls_V b 0 ls).filter (fun q => !(q.1 == i) && !(q.1 + 1 == i && q.2.category == 2)))) : wm_L b nL (ls.set i w) arr' := by
  refine ⟨h.1, h.2.1, fun j v hj hv => ?_⟩
  by_cases e : j = i
  · subst e
    rw [List.getElem?_set_self hi] at hj
    cases hj
    exact h.2.2 _ List.mem_cons_self
  · rw [List.getElem?_set_ne (Ne.symm e)] at hj
    have hm := ls_V_in (b := b) ls 0 j v hj hv
    rw [Nat.zero_add] at hm
    refine h.2.2 (j, to_V b v) (List.mem_cons_of_mem _ (List.mem_filter.mpr ⟨hm, ?_⟩))
    simp only [Bool.and_eq_true, Bool.not_eq_true', beq_eq_false_iff_ne, ne_eq, Bool.and_eq_false_iff]
    refine ⟨e, ?_⟩
    by_cases e2 : j + 1 = i
    · right
      subst e2
      rw [to_V_c]
      simp only [ls_ok, hj] at hok
      rcases v with x | x | a | a | a
      · simp [vv_c]
      · simp at hok
      · simp [vv_c]
      · simp [vv_c]
      · simp [vv_c]
    · exact Or.inl e2
/-- what is said of the method on top -/
def wm_S (k : mm_T) (p : Program) (s : State) (m : MethodId) (args : Array Value) (meth : Method) (c : Code) (b : Nat) (D : md_T) : Prop :=
  p.tables.exec = Jvm.exec ∧ c.code = k.2.1 ∧ c.maxLocals = k.2.2.1 ∧ meth.sig.returnType = k.2.2.2 ∧ s.vm.findClass k.1.cls = some m.cls ∧ (∀ w ∈ GW, w.before args s = true) ∧ meth.locks = false ∧ meth.name = k.1.name ∧ wm_K b D s ∧ b ≤ s.heap.size
def wm_Q (b : Nat) (D : md_T) (Q : Option vv_T → mx_T → Prop) : Array Value → State → Outcome → State → Prop := fun _ st o t => (∃ (r : Option vv_T) (Y : mx_T), o = .returned (r.map (to_V b)) ∧ Q r Y ∧ mx_R b D Y t.heap) ∧ va_F (fun q => b ≤ q) st t
/-- the machine stands in method k at pc, with these locals, stack and memory: it comes to its end, and its answer and memory have Q; d calls deep, at most mc cells of ms slots more -/
def wm_W (l : Launch) (k : mm_T) (d mc ms pc : Nat) (ls st : List vv_T) (X : mx_T) (Q : Option vv_T → mx_T → Prop) : Prop :=
  ∀ (b : Nat) (D : md_T) (p : Program) (e : Env) (R : Room) (s : State) (m : MethodId) (args : Array Value) (below : List Frame) (meth : Method) (c : Code) (H : Heap) (locs : List Loc) (cells slots MC MS : Nat) (arr : Array Slot),
    wm_S k p s m args meth c b D → (d ≤ R.frames ∧ 40 * d ≤ R.locals ∧ MC ≤ R.cells ∧ MS ≤ R.slots) → cells + mc ≤ MC → slots + ms ≤ MS → va_S (fun q => b ≤ q) s.heap H locs → mx_R b D X H → wm_L b k.2.2.1 ls arr →
    W p l e R s m args below meth c H locs cells slots (MQ below (wm_Q b D Q) args s MC MS (fun q => b ≤ q)) (F0 m pc arr (st.map (to_V b)))
def wm_C (l : Launch) (k : mm_T) (d mc ms : Nat) (as : List vv_T) (X : mx_T) (Q : Option vv_T → mx_T → Prop) : Prop :=
  ∀ (b : Nat) (D : md_T), Met l k.1 (.code k.1 k.2.1 k.2.2.1 k.2.2.2 :: GW) { frames := d, cells := mc, slots := ms, locals := 40 * d } (va_Pc (as.map (to_V b)) (fun U => wm_K b D U ∧ mx_R b D X U.heap)) (wm_Q b D Q) mc ms (fun q => b ≤ q)
/-- an instruction of the method, and where the next one stands -/
def op_at (k : mm_T) (pc : Nat) (i : Instr) (len np : Nat) : Prop := decode k.2.1 pc = .ok (i, len) ∧ pc + len = np
def en_L (as : List vv_T) : List vv_T := as.flatMap (fun v => if vv_c v = 2 then [v, vv_U] else [v])
theorem en_mem {b : Nat} : ∀ (as : List vv_T) (i j : Nat) (v : vv_T), (en_L as)[j]? = some v → v ≠ vv_U → (i + j, to_V b v) ∈ lv_args i (as.map (to_V b)) := by
  intro as
  induction as with
  | nil => intro i j v h; simp [en_L] at h
  | cons w t ih =>
    intro i j v h hv
    simp only [List.map_cons, lv_args, to_V_c]
    by_cases hc : vv_c w = 2
    · have e : en_L (w :: t) = w :: vv_U :: en_L t := by simp [en_L, hc]
      rw [e] at h
      rw [if_pos hc]
      match j, h with
      | 0, h => cases h; exact List.mem_cons_self
      | 1, h => cases h; exact absurd rfl hv
      | j + 2, h =>
        have h2 := ih (i + 2) j v (by simpa using h) hv
        rw [show i + 2 + j = i + (j + 2) by omega] at h2
        exact List.mem_cons_of_mem _ h2
    · have e : en_L (w :: t) = w :: en_L t := by simp [en_L, hc]
      rw [e] at h
      rw [if_neg hc]
      match j, h with
      | 0, h => cases h; exact List.mem_cons_self
      | j + 1, h =>
        have h2 := ih (i + 1) j v (by simpa using h) hv
        rw [show i + 1 + j = i + (j + 1) by omega] at h2
        exact List.mem_cons_of_mem _ h2
theorem en_len {b : Nat} : ∀ (as : List vv_T), (lg_sl (as.map (to_V b))).length = (en_L as).length := by
  intro as
  induction as with
  | nil => rfl
  | cons w t ih =>
    have h1 : lg_sl ((w :: t).map (to_V b)) = (if vv_c w = 2 then [Slot.val (to_V b w), Slot.second] else [Slot.val (to_V b w)]) ++ lg_sl (t.map (to_V b)) := by
      simp [lg_sl, to_V_c]
    have h2 : en_L (w :: t) = (if vv_c w = 2 then [w, vv_U] else [w]) ++ en_L t := by simp [en_L]
    rw [h1, h2, List.length_append, List.length_append, ih]
    split <;> rfl
theorem wm_of {l : Launch} {k : mm_T} {d mc ms : Nat} {as ls : List vv_T} {X : mx_T} {Q : Option vv_T → mx_T → Prop} (hy : plainName k.1.cls = true) (hn : (en_L as).length ≤ k.2.2.1) (hl : en_L as ++ List.replicate (k.2.2.1 - (en_L as).length) vv_U = ls)
    (h : wm_W l k d mc ms 0 ls [] X Q) : wm_C l k d mc ms as X Q := by
  intro b D
  refine Met.ofW (cc := k.2.1) (maxL := k.2.2.1) (ret := k.2.2.2) hy rfl ?_
  intro p e s m args below meth c s₁ B hml hv
  obtain ⟨rfl, hK, hX⟩ := hv
  have hts := atoms_spec B.pre
  have hl0 := lv_entry (as.map (to_V b)) (n := k.2.2.1) (by rw [en_len]; exact hn)
  rw [lg_entry_eq]
  generalize (lg_sl (as.map (to_V b)) ++ List.replicate (k.2.2.1 - (lg_sl (as.map (to_V b))).length) Slot.unset).toArray = arr at hl0 ⊢
  refine h b D p e _ s m _ below meth c s.heap [] 0 0 mc ms arr ⟨B.exec, B.bytes, hml, B.returns, findClass_of_methodNamed B.named, fun w hw => hts w (List.mem_cons_of_mem _ hw), B.notSynchronized, (name_of_methodNamed B.named B.method).1, hK, by rw [hX.1]; exact Nat.le_add_right _ _⟩ ⟨Nat.le_refl _, Nat.le_refl _, Nat.le_refl _, Nat.le_refl _⟩ (by omega) (by omega) va_S.rf hX ⟨hl0.1, hl0.2.1, fun j v hj hv => ?_⟩
  subst hl
  have hj2 : (en_L as)[j]? = some v := by
    by_cases q : j < (en_L as).length
    · rwa [List.getElem?_append_left q] at hj
    · rw [List.getElem?_append_right (by omega)] at hj
      exact absurd (List.eq_of_mem_replicate (List.mem_of_getElem? hj)) hv
  have h2 := en_mem (b := b) as 0 j v hj2 hv
  rw [Nat.zero_add] at h2
  exact hl0.2.2 _ h2
end
section
/-! the rows of the light judgement: an instruction each (by program: wip/whole/gen03.py) -/
section RR
variable {l : Launch} {k : mm_T} {d mc ms pc np : Nat} {ls st : List vv_T} {X : mx_T} {Q : Option vv_T → mx_T → Prop}
theorem rr_iconst {n : Int} {v : Int32} (hd : op_at k pc (.iconst n) 1 np) (hv : Int32.ofInt n = v) (kk : wm_W l k d mc ms np ls (vv_I v :: st) X Q) : wm_W l k d mc ms pc ls (st) X Q := by
  intro b D p e R s m args below meth c H locs cells slots MC MS arr hS hR hc hs hV hX hL
  obtain ⟨hd, rfl⟩ := hd
  exact lv_iconst hS.1 hS.2.1 hd hv (kk b D p e R s m args below meth c H locs cells slots MC MS arr hS hR hc hs hV hX hL)
theorem rr_bipush {n : Int} {v : Int32} (hd : op_at k pc (.bipush n) 2 np) (hv : (Int8.ofInt n).toInt32 = v) (kk : wm_W l k d mc ms np ls (vv_I v :: st) X Q) : wm_W l k d mc ms pc ls (st) X Q := by
  intro b D p e R s m args below meth c H locs cells slots MC MS arr hS hR hc hs hV hX hL
  obtain ⟨hd, rfl⟩ := hd
  exact lv_bipush hS.1 hS.2.1 hd hv (kk b D p e R s m args below meth c H locs cells slots MC MS arr hS hR hc hs hV hX hL)
theorem rr_sipush {n : Int} {v : Int32} (hd : op_at k pc (.sipush n) 3 np) (hv : (Int16.ofInt n).toInt32 = v) (kk : wm_W l k d mc ms np ls (vv_I v :: st) X Q) : wm_W l k d mc ms pc ls (st) X Q := by
  intro b D p e R s m args below meth c H locs cells slots MC MS arr hS hR hc hs hV hX hL
  obtain ⟨hd, rfl⟩ := hd
  exact lv_sipush hS.1 hS.2.1 hd hv (kk b D p e R s m args below meth c H locs cells slots MC MS arr hS hR hc hs hV hX hL)
theorem rr_lconst {n : Fin 2} {v : Int64} (hd : op_at k pc (.lconst n) 1 np) (hv : Int64.ofNat (n : Nat) = v) (kk : wm_W l k d mc ms np ls (vv_L v :: st) X Q) : wm_W l k d mc ms pc ls (st) X Q := by
  intro b D p e R s m args below meth c H locs cells slots MC MS arr hS hR hc hs hV hX hL
  obtain ⟨hd, rfl⟩ := hd
  exact lv_lconst hS.1 hS.2.1 hd hv (kk b D p e R s m args below meth c H locs cells slots MC MS arr hS hR hc hs hV hX hL)
theorem rr_iload_n {i : Fin 4} {j : Nat} {x : Int32} (hd : op_at k pc (.iload_n i) 1 np) (hi : (i : Nat) = j) (hl : ls[j]? = some (vv_I x)) (kk : wm_W l k d mc ms np ls (vv_I x :: st) X Q) : wm_W l k d mc ms pc ls (st) X Q := by
  intro b D p e R s m args below meth c H locs cells slots MC MS arr hS hR hc hs hV hX hL
  obtain ⟨hd, rfl⟩ := hd
  exact lv_iload_n hS.1 hS.2.1 hd hi (hL.2.2 _ _ hl (fun q => by cases q)) (kk b D p e R s m args below meth c H locs cells slots MC MS arr hS hR hc hs hV hX hL)
theorem rr_iload {j : Nat} {x : Int32} (hd : op_at k pc (.iload j) 2 np) (hl : ls[j]? = some (vv_I x)) (kk : wm_W l k d mc ms np ls (vv_I x :: st) X Q) : wm_W l k d mc ms pc ls (st) X Q := by
  intro b D p e R s m args below meth c H locs cells slots MC MS arr hS hR hc hs hV hX hL
  obtain ⟨hd, rfl⟩ := hd
  exact lv_iload hS.1 hS.2.1 hd (hL.2.2 _ _ hl (fun q => by cases q)) (kk b D p e R s m args below meth c H locs cells slots MC MS arr hS hR hc hs hV hX hL)
theorem rr_lload_n {i : Fin 4} {j : Nat} {x : Int64} (hd : op_at k pc (.lload_n i) 1 np) (hi : (i : Nat) = j) (hl : ls[j]? = some (vv_L x)) (kk : wm_W l k d mc ms np ls (vv_L x :: st) X Q) : wm_W l k d mc ms pc ls (st) X Q := by
  intro b D p e R s m args below meth c H locs cells slots MC MS arr hS hR hc hs hV hX hL
  obtain ⟨hd, rfl⟩ := hd
  exact lv_lload_n hS.1 hS.2.1 hd hi (hL.2.2 _ _ hl (fun q => by cases q)) (kk b D p e R s m args below meth c H locs cells slots MC MS arr hS hR hc hs hV hX hL)
theorem rr_lload {j : Nat} {x : Int64} (hd : op_at k pc (.lload j) 2 np) (hl : ls[j]? = some (vv_L x)) (kk : wm_W l k d mc ms np ls (vv_L x :: st) X Q) : wm_W l k d mc ms pc ls (st) X Q := by
  intro b D p e R s m args below meth c H locs cells slots MC MS arr hS hR hc hs hV hX hL
  obtain ⟨hd, rfl⟩ := hd
  exact lv_lload hS.1 hS.2.1 hd (hL.2.2 _ _ hl (fun q => by cases q)) (kk b D p e R s m args below meth c H locs cells slots MC MS arr hS hR hc hs hV hX hL)
theorem rr_aload_n {i : Fin 4} {j x : Nat} (hd : op_at k pc (.aload_n i) 1 np) (hi : (i : Nat) = j) (hl : ls[j]? = some (vv_A (some x))) (kk : wm_W l k d mc ms np ls (vv_A (some x) :: st) X Q) : wm_W l k d mc ms pc ls (st) X Q := by
  intro b D p e R s m args below meth c H locs cells slots MC MS arr hS hR hc hs hV hX hL
  obtain ⟨hd, rfl⟩ := hd
  exact lv_aload_n hS.1 hS.2.1 hd hi (hL.2.2 _ _ hl (fun q => by cases q)) (kk b D p e R s m args below meth c H locs cells slots MC MS arr hS hR hc hs hV hX hL)
theorem rr_aload {j x : Nat} (hd : op_at k pc (.aload j) 2 np) (hl : ls[j]? = some (vv_A (some x))) (kk : wm_W l k d mc ms np ls (vv_A (some x) :: st) X Q) : wm_W l k d mc ms pc ls (st) X Q := by
  intro b D p e R s m args below meth c H locs cells slots MC MS arr hS hR hc hs hV hX hL
  obtain ⟨hd, rfl⟩ := hd
  exact lv_aload hS.1 hS.2.1 hd (hL.2.2 _ _ hl (fun q => by cases q)) (kk b D p e R s m args below meth c H locs cells slots MC MS arr hS hR hc hs hV hX hL)
theorem rr_aload_nE {i : Fin 4} {j x : Nat} (hd : op_at k pc (.aload_n i) 1 np) (hi : (i : Nat) = j) (hl : ls[j]? = some (vv_E x)) (kk : wm_W l k d mc ms np ls (vv_E x :: st) X Q) : wm_W l k d mc ms pc ls (st) X Q := by
  intro b D p e R s m args below meth c H locs cells slots MC MS arr hS hR hc hs hV hX hL
  obtain ⟨hd, rfl⟩ := hd
  exact lv_aload_n hS.1 hS.2.1 hd hi (hL.2.2 _ _ hl (fun q => by cases q)) (kk b D p e R s m args below meth c H locs cells slots MC MS arr hS hR hc hs hV hX hL)
theorem rr_aloadE {j x : Nat} (hd : op_at k pc (.aload j) 2 np) (hl : ls[j]? = some (vv_E x)) (kk : wm_W l k d mc ms np ls (vv_E x :: st) X Q) : wm_W l k d mc ms pc ls (st) X Q := by
  intro b D p e R s m args below meth c H locs cells slots MC MS arr hS hR hc hs hV hX hL
  obtain ⟨hd, rfl⟩ := hd
  exact lv_aload hS.1 hS.2.1 hd (hL.2.2 _ _ hl (fun q => by cases q)) (kk b D p e R s m args below meth c H locs cells slots MC MS arr hS hR hc hs hV hX hL)
theorem rr_istore_n {i : Fin 4} {j : Nat} {x : Int32} {ls2 : List vv_T} (hd : op_at k pc (.istore_n i) 1 np) (hi : (i : Nat) = j) (hj : j < ls.length) (hn : j < k.2.2.1) (ho : ls_ok ls j = true) (h2 : ls.set j (vv_I x) = ls2) (kk : wm_W l k d mc ms np ls2 st X Q) : wm_W l k d mc ms pc ls (vv_I x :: st) X Q := by
  subst h2
  intro b D p e R s m args below meth c H locs cells slots MC MS arr hS hR hc hs hV hX hL
  obtain ⟨hd, rfl⟩ := hd
  exact lv_istore_n hS.1 hS.2.1 hd hi hL.has hn rfl (fun arr2 h => kk b D p e R s m args below meth c H locs cells slots MC MS arr2 hS hR hc hs hV hX (wm_L.st (w := vv_I x) hj ho h))
theorem rr_istore  {j : Nat} {x : Int32} {ls2 : List vv_T} (hd : op_at k pc (.istore j) 2 np) (hj : j < ls.length) (hn : j < k.2.2.1) (ho : ls_ok ls j = true) (h2 : ls.set j (vv_I x) = ls2) (kk : wm_W l k d mc ms np ls2 st X Q) : wm_W l k d mc ms pc ls (vv_I x :: st) X Q := by
  subst h2
  intro b D p e R s m args below meth c H locs cells slots MC MS arr hS hR hc hs hV hX hL
  obtain ⟨hd, rfl⟩ := hd
  exact lv_istore hS.1 hS.2.1 hd hL.has hn rfl (fun arr2 h => kk b D p e R s m args below meth c H locs cells slots MC MS arr2 hS hR hc hs hV hX (wm_L.st (w := vv_I x) hj ho h))
theorem rr_astore_n {i : Fin 4} {j : Nat} {x : Nat} {ls2 : List vv_T} (hd : op_at k pc (.astore_n i) 1 np) (hi : (i : Nat) = j) (hj : j < ls.length) (hn : j < k.2.2.1) (ho : ls_ok ls j = true) (h2 : ls.set j (vv_A (some x)) = ls2) (kk : wm_W l k d mc ms np ls2 st X Q) : wm_W l k d mc ms pc ls (vv_A (some x) :: st) X Q := by
  subst h2
  intro b D p e R s m args below meth c H locs cells slots MC MS arr hS hR hc hs hV hX hL
  obtain ⟨hd, rfl⟩ := hd
  exact lv_astore_n hS.1 hS.2.1 hd hi hL.has hn rfl (fun arr2 h => kk b D p e R s m args below meth c H locs cells slots MC MS arr2 hS hR hc hs hV hX (wm_L.st (w := vv_A (some x)) hj ho h))
theorem rr_astore  {j : Nat} {x : Nat} {ls2 : List vv_T} (hd : op_at k pc (.astore j) 2 np) (hj : j < ls.length) (hn : j < k.2.2.1) (ho : ls_ok ls j = true) (h2 : ls.set j (vv_A (some x)) = ls2) (kk : wm_W l k d mc ms np ls2 st X Q) : wm_W l k d mc ms pc ls (vv_A (some x) :: st) X Q := by
  subst h2
  intro b D p e R s m args below meth c H locs cells slots MC MS arr hS hR hc hs hV hX hL
  obtain ⟨hd, rfl⟩ := hd
  exact lv_astore hS.1 hS.2.1 hd hL.has hn rfl (fun arr2 h => kk b D p e R s m args below meth c H locs cells slots MC MS arr2 hS hR hc hs hV hX (wm_L.st (w := vv_A (some x)) hj ho h))
theorem rr_astore_nE {i : Fin 4} {j : Nat} {x : Nat} {ls2 : List vv_T} (hd : op_at k pc (.astore_n i) 1 np) (hi : (i : Nat) = j) (hj : j < ls.length) (hn : j < k.2.2.1) (ho : ls_ok ls j = true) (h2 : ls.set j (vv_E x) = ls2) (kk : wm_W l k d mc ms np ls2 st X Q) : wm_W l k d mc ms pc ls (vv_E x :: st) X Q := by
  subst h2
  intro b D p e R s m args below meth c H locs cells slots MC MS arr hS hR hc hs hV hX hL
  obtain ⟨hd, rfl⟩ := hd
  exact lv_astore_n hS.1 hS.2.1 hd hi hL.has hn rfl (fun arr2 h => kk b D p e R s m args below meth c H locs cells slots MC MS arr2 hS hR hc hs hV hX (wm_L.st (w := vv_E x) hj ho h))
theorem rr_astoreE  {j : Nat} {x : Nat} {ls2 : List vv_T} (hd : op_at k pc (.astore j) 2 np) (hj : j < ls.length) (hn : j < k.2.2.1) (ho : ls_ok ls j = true) (h2 : ls.set j (vv_E x) = ls2) (kk : wm_W l k d mc ms np ls2 st X Q) : wm_W l k d mc ms pc ls (vv_E x :: st) X Q := by
  subst h2
  intro b D p e R s m args below meth c H locs cells slots MC MS arr hS hR hc hs hV hX hL
  obtain ⟨hd, rfl⟩ := hd
  exact lv_astore hS.1 hS.2.1 hd hL.has hn rfl (fun arr2 h => kk b D p e R s m args below meth c H locs cells slots MC MS arr2 hS hR hc hs hV hX (wm_L.st (w := vv_E x) hj ho h))
theorem rr_iinc {j : Nat} {n : Int} {x v : Int32} {ls2 : List vv_T} (hd : op_at k pc (.iinc j n) 3 np) (hl : ls[j]? = some (vv_I x)) (hv : x + Int32.ofInt n = v) (hn : j < k.2.2.1) (ho : ls_ok ls j = true) (h2 : ls.set j (vv_I v) = ls2) (kk : wm_W l k d mc ms np ls2 st X Q) : wm_W l k d mc ms pc ls st X Q := by
  subst h2
  intro b D p e R s m args below meth c H locs cells slots MC MS arr hS hR hc hs hV hX hL
  obtain ⟨hd, rfl⟩ := hd
  have hm := ls_V_in (b := b) ls 0 j _ hl (fun q => by cases q)
  rw [Nat.zero_add] at hm
  obtain ⟨kx, hkx⟩ := List.getElem?_of_mem hm
  exact lv_iinc hS.1 hS.2.1 hd hL.has hkx hv hn rfl (fun arr2 h => kk b D p e R s m args below meth c H locs cells slots MC MS arr2 hS hR hc hs hV hX (wm_L.st (w := vv_I v) (List.getElem?_eq_some_iff.mp hl).1 ho h))
theorem rr_dup {v : vv_T} (hd : op_at k pc (.dup) 1 np) (hv : vv_c v = 1) (kk : wm_W l k d mc ms np ls (v :: v :: st) X Q) : wm_W l k d mc ms pc ls (v :: st) X Q := by
  intro b D p e R s m args below meth c H locs cells slots MC MS arr hS hR hc hs hV hX hL
  obtain ⟨hd, rfl⟩ := hd
  exact lv_dup hS.1 hS.2.1 hd (by rw [to_V_c]; exact hv) (kk b D p e R s m args below meth c H locs cells slots MC MS arr hS hR hc hs hV hX hL)
theorem rr_dup_x1 {v w : vv_T} (hd : op_at k pc (.dup_x1) 1 np) (hv : vv_c v = 1) (hw : vv_c w = 1) (kk : wm_W l k d mc ms np ls (v :: w :: v :: st) X Q) : wm_W l k d mc ms pc ls (v :: w :: st) X Q := by
  intro b D p e R s m args below meth c H locs cells slots MC MS arr hS hR hc hs hV hX hL
  obtain ⟨hd, rfl⟩ := hd
  exact lv_dup_x1 hS.1 hS.2.1 hd (by rw [to_V_c]; exact hv) (by rw [to_V_c]; exact hw) (kk b D p e R s m args below meth c H locs cells slots MC MS arr hS hR hc hs hV hX hL)
theorem rr_dup2 {v w : vv_T} (hd : op_at k pc (.dup2) 1 np) (hv : vv_c v = 1) (hw : vv_c w = 1) (kk : wm_W l k d mc ms np ls (v :: w :: v :: w :: st) X Q) : wm_W l k d mc ms pc ls (v :: w :: st) X Q := by
  intro b D p e R s m args below meth c H locs cells slots MC MS arr hS hR hc hs hV hX hL
  obtain ⟨hd, rfl⟩ := hd
  exact lv_dup2_11 hS.1 hS.2.1 hd (by rw [to_V_c]; exact hv) (by rw [to_V_c]; exact hw) (kk b D p e R s m args below meth c H locs cells slots MC MS arr hS hR hc hs hV hX hL)
theorem rr_pop {v : vv_T} (hd : op_at k pc (.pop) 1 np) (hv : vv_c v = 1) (kk : wm_W l k d mc ms np ls (st) X Q) : wm_W l k d mc ms pc ls (v :: st) X Q := by
  intro b D p e R s m args below meth c H locs cells slots MC MS arr hS hR hc hs hV hX hL
  obtain ⟨hd, rfl⟩ := hd
  exact lv_pop hS.1 hS.2.1 hd (by rw [to_V_c]; exact hv) (kk b D p e R s m args below meth c H locs cells slots MC MS arr hS hR hc hs hV hX hL)
theorem rr_iadd {x y : Int32} (hd : op_at k pc (.iadd) 1 np) (kk : wm_W l k d mc ms np ls (vv_I (x + y) :: st) X Q) : wm_W l k d mc ms pc ls (vv_I y :: vv_I x :: st) X Q := by
  intro b D p e R s m args below meth c H locs cells slots MC MS arr hS hR hc hs hV hX hL
  obtain ⟨hd, rfl⟩ := hd
  exact lv_iadd hS.1 hS.2.1 hd (kk b D p e R s m args below meth c H locs cells slots MC MS arr hS hR hc hs hV hX hL)
theorem rr_isub {x y : Int32} (hd : op_at k pc (.isub) 1 np) (kk : wm_W l k d mc ms np ls (vv_I (x - y) :: st) X Q) : wm_W l k d mc ms pc ls (vv_I y :: vv_I x :: st) X Q := by
  intro b D p e R s m args below meth c H locs cells slots MC MS arr hS hR hc hs hV hX hL
  obtain ⟨hd, rfl⟩ := hd
  exact lv_isub hS.1 hS.2.1 hd (kk b D p e R s m args below meth c H locs cells slots MC MS arr hS hR hc hs hV hX hL)
theorem rr_imul {x y : Int32} (hd : op_at k pc (.imul) 1 np) (kk : wm_W l k d mc ms np ls (vv_I (x * y) :: st) X Q) : wm_W l k d mc ms pc ls (vv_I y :: vv_I x :: st) X Q := by
  intro b D p e R s m args below meth c H locs cells slots MC MS arr hS hR hc hs hV hX hL
  obtain ⟨hd, rfl⟩ := hd
  exact lv_imul hS.1 hS.2.1 hd (kk b D p e R s m args below meth c H locs cells slots MC MS arr hS hR hc hs hV hX hL)
theorem rr_iand {x y : Int32} (hd : op_at k pc (.iand) 1 np) (kk : wm_W l k d mc ms np ls (vv_I (x &&& y) :: st) X Q) : wm_W l k d mc ms pc ls (vv_I y :: vv_I x :: st) X Q := by
  intro b D p e R s m args below meth c H locs cells slots MC MS arr hS hR hc hs hV hX hL
  obtain ⟨hd, rfl⟩ := hd
  exact lv_iand hS.1 hS.2.1 hd (kk b D p e R s m args below meth c H locs cells slots MC MS arr hS hR hc hs hV hX hL)
theorem rr_ior {x y : Int32} (hd : op_at k pc (.ior) 1 np) (kk : wm_W l k d mc ms np ls (vv_I (x ||| y) :: st) X Q) : wm_W l k d mc ms pc ls (vv_I y :: vv_I x :: st) X Q := by
  intro b D p e R s m args below meth c H locs cells slots MC MS arr hS hR hc hs hV hX hL
  obtain ⟨hd, rfl⟩ := hd
  exact lv_ior hS.1 hS.2.1 hd (kk b D p e R s m args below meth c H locs cells slots MC MS arr hS hR hc hs hV hX hL)
theorem rr_ixor {x y : Int32} (hd : op_at k pc (.ixor) 1 np) (kk : wm_W l k d mc ms np ls (vv_I (x ^^^ y) :: st) X Q) : wm_W l k d mc ms pc ls (vv_I y :: vv_I x :: st) X Q := by
  intro b D p e R s m args below meth c H locs cells slots MC MS arr hS hR hc hs hV hX hL
  obtain ⟨hd, rfl⟩ := hd
  exact lv_ixor hS.1 hS.2.1 hd (kk b D p e R s m args below meth c H locs cells slots MC MS arr hS hR hc hs hV hX hL)
theorem rr_ishl {x y : Int32} (hd : op_at k pc (.ishl) 1 np) (kk : wm_W l k d mc ms np ls (vv_I (x <<< (y &&& 31)) :: st) X Q) : wm_W l k d mc ms pc ls (vv_I y :: vv_I x :: st) X Q := by
  intro b D p e R s m args below meth c H locs cells slots MC MS arr hS hR hc hs hV hX hL
  obtain ⟨hd, rfl⟩ := hd
  exact lv_ishl hS.1 hS.2.1 hd (kk b D p e R s m args below meth c H locs cells slots MC MS arr hS hR hc hs hV hX hL)
theorem rr_ishr {x y : Int32} (hd : op_at k pc (.ishr) 1 np) (kk : wm_W l k d mc ms np ls (vv_I (x >>> (y &&& 31)) :: st) X Q) : wm_W l k d mc ms pc ls (vv_I y :: vv_I x :: st) X Q := by
  intro b D p e R s m args below meth c H locs cells slots MC MS arr hS hR hc hs hV hX hL
  obtain ⟨hd, rfl⟩ := hd
  exact lv_ishr hS.1 hS.2.1 hd (kk b D p e R s m args below meth c H locs cells slots MC MS arr hS hR hc hs hV hX hL)
theorem rr_idiv {x y : Int32} (hd : op_at k pc (.idiv) 1 np) (hne : ¬ y = 0) (kk : wm_W l k d mc ms np ls (vv_I (x / y) :: st) X Q) : wm_W l k d mc ms pc ls (vv_I y :: vv_I x :: st) X Q := by
  intro b D p e R s m args below meth c H locs cells slots MC MS arr hS hR hc hs hV hX hL
  obtain ⟨hd, rfl⟩ := hd
  exact lv_idiv hS.1 hS.2.1 hd hne (kk b D p e R s m args below meth c H locs cells slots MC MS arr hS hR hc hs hV hX hL)
theorem rr_irem {x y : Int32} (hd : op_at k pc (.irem) 1 np) (hne : ¬ y = 0) (kk : wm_W l k d mc ms np ls (vv_I (x - x / y * y) :: st) X Q) : wm_W l k d mc ms pc ls (vv_I y :: vv_I x :: st) X Q := by
  intro b D p e R s m args below meth c H locs cells slots MC MS arr hS hR hc hs hV hX hL
  obtain ⟨hd, rfl⟩ := hd
  exact lv_irem hS.1 hS.2.1 hd hne (kk b D p e R s m args below meth c H locs cells slots MC MS arr hS hR hc hs hV hX hL)
theorem rr_ineg {x : Int32} (hd : op_at k pc (.ineg) 1 np) (kk : wm_W l k d mc ms np ls (vv_I (-x) :: st) X Q) : wm_W l k d mc ms pc ls (vv_I x :: st) X Q := by
  intro b D p e R s m args below meth c H locs cells slots MC MS arr hS hR hc hs hV hX hL
  obtain ⟨hd, rfl⟩ := hd
  exact lv_ineg hS.1 hS.2.1 hd (kk b D p e R s m args below meth c H locs cells slots MC MS arr hS hR hc hs hV hX hL)
theorem rr_iushr {x y : Int32} (hd : op_at k pc (.iushr) 1 np) (kk : wm_W l k d mc ms np ls (vv_I ((x.toUInt32 >>> (y.toUInt32 &&& Int32.toUInt32 31)).toInt32) :: st) X Q) : wm_W l k d mc ms pc ls (vv_I y :: vv_I x :: st) X Q := by
  intro b D p e R s m args below meth c H locs cells slots MC MS arr hS hR hc hs hV hX hL
  obtain ⟨hd, rfl⟩ := hd
  exact lv_iushr hS.1 hS.2.1 hd rfl (kk b D p e R s m args below meth c H locs cells slots MC MS arr hS hR hc hs hV hX hL)
theorem rr_l2i {x : Int64} (hd : op_at k pc (.l2i) 1 np) (kk : wm_W l k d mc ms np ls (vv_I x.toInt32 :: st) X Q) : wm_W l k d mc ms pc ls (vv_L x :: st) X Q := by
  intro b D p e R s m args below meth c H locs cells slots MC MS arr hS hR hc hs hV hX hL
  obtain ⟨hd, rfl⟩ := hd
  exact lv_l2i hS.1 hS.2.1 hd rfl (kk b D p e R s m args below meth c H locs cells slots MC MS arr hS hR hc hs hV hX hL)
theorem rr_i2l {x : Int32} (hd : op_at k pc (.i2l) 1 np) (kk : wm_W l k d mc ms np ls (vv_L x.toInt64 :: st) X Q) : wm_W l k d mc ms pc ls (vv_I x :: st) X Q := by
  intro b D p e R s m args below meth c H locs cells slots MC MS arr hS hR hc hs hV hX hL
  obtain ⟨hd, rfl⟩ := hd
  exact lv_i2l hS.1 hS.2.1 hd rfl (kk b D p e R s m args below meth c H locs cells slots MC MS arr hS hR hc hs hV hX hL)
theorem rr_i2b {x : Int32} (hd : op_at k pc (.i2b) 1 np) (kk : wm_W l k d mc ms np ls (vv_I x.toInt8.toInt32 :: st) X Q) : wm_W l k d mc ms pc ls (vv_I x :: st) X Q := by
  intro b D p e R s m args below meth c H locs cells slots MC MS arr hS hR hc hs hV hX hL
  obtain ⟨hd, rfl⟩ := hd
  exact lv_i2b hS.1 hS.2.1 hd rfl (kk b D p e R s m args below meth c H locs cells slots MC MS arr hS hR hc hs hV hX hL)
theorem rr_i2s {x : Int32} (hd : op_at k pc (.i2s) 1 np) (kk : wm_W l k d mc ms np ls (vv_I x.toInt16.toInt32 :: st) X Q) : wm_W l k d mc ms pc ls (vv_I x :: st) X Q := by
  intro b D p e R s m args below meth c H locs cells slots MC MS arr hS hR hc hs hV hX hL
  obtain ⟨hd, rfl⟩ := hd
  exact lv_i2s hS.1 hS.2.1 hd rfl (kk b D p e R s m args below meth c H locs cells slots MC MS arr hS hR hc hs hV hX hL)
theorem rr_i2c {x : Int32} (hd : op_at k pc (.i2c) 1 np) (kk : wm_W l k d mc ms np ls (vv_I (x.toUInt32 % 65536).toInt32 :: st) X Q) : wm_W l k d mc ms pc ls (vv_I x :: st) X Q := by
  intro b D p e R s m args below meth c H locs cells slots MC MS arr hS hR hc hs hV hX hL
  obtain ⟨hd, rfl⟩ := hd
  exact lv_i2c hS.1 hS.2.1 hd rfl (kk b D p e R s m args below meth c H locs cells slots MC MS arr hS hR hc hs hV hX hL)
theorem rr_land {x y : Int64} (hd : op_at k pc (.land) 1 np) (kk : wm_W l k d mc ms np ls (vv_L (x &&& y) :: st) X Q) : wm_W l k d mc ms pc ls (vv_L y :: vv_L x :: st) X Q := by
  intro b D p e R s m args below meth c H locs cells slots MC MS arr hS hR hc hs hV hX hL
  obtain ⟨hd, rfl⟩ := hd
  exact lv_land hS.1 hS.2.1 hd (kk b D p e R s m args below meth c H locs cells slots MC MS arr hS hR hc hs hV hX hL)
theorem rr_lor {x y : Int64} (hd : op_at k pc (.lor) 1 np) (kk : wm_W l k d mc ms np ls (vv_L (x ||| y) :: st) X Q) : wm_W l k d mc ms pc ls (vv_L y :: vv_L x :: st) X Q := by
  intro b D p e R s m args below meth c H locs cells slots MC MS arr hS hR hc hs hV hX hL
  obtain ⟨hd, rfl⟩ := hd
  exact lv_lor hS.1 hS.2.1 hd (kk b D p e R s m args below meth c H locs cells slots MC MS arr hS hR hc hs hV hX hL)
theorem rr_lshl {x : Int64} {y : Int32} (hd : op_at k pc (.lshl) 1 np) (kk : wm_W l k d mc ms np ls (vv_L (x <<< (y.toInt64 &&& 63)) :: st) X Q) : wm_W l k d mc ms pc ls (vv_I y :: vv_L x :: st) X Q := by
  intro b D p e R s m args below meth c H locs cells slots MC MS arr hS hR hc hs hV hX hL
  obtain ⟨hd, rfl⟩ := hd
  exact lv_lshl hS.1 hS.2.1 hd rfl (kk b D p e R s m args below meth c H locs cells slots MC MS arr hS hR hc hs hV hX hL)
theorem rr_ldc {i : Nat} {v : Int32} (hd : op_at k pc (.ldc i) 2 np) (hw : Cond.constant k.1.cls i v ∈ GW) (kk : wm_W l k d mc ms np ls (vv_I v :: st) X Q) : wm_W l k d mc ms pc ls (st) X Q := by
  intro b D p e R s m args below meth c H locs cells slots MC MS arr hS hR hc hs hV hX hL
  obtain ⟨hd, rfl⟩ := hd
  exact lv_ldc hS.1 hS.2.1 hS.2.2.2.2.1 (hS.2.2.2.2.2.1 _ hw) hd (kk b D p e R s m args below meth c H locs cells slots MC MS arr hS hR hc hs hV hX hL)
theorem rr_ldcw {i : Nat} {v : Int32} (hd : op_at k pc (.ldc_w i) 3 np) (hw : Cond.constant k.1.cls i v ∈ GW) (kk : wm_W l k d mc ms np ls (vv_I v :: st) X Q) : wm_W l k d mc ms pc ls (st) X Q := by
  intro b D p e R s m args below meth c H locs cells slots MC MS arr hS hR hc hs hV hX hL
  obtain ⟨hd, rfl⟩ := hd
  exact lv_ldcw hS.1 hS.2.1 hS.2.2.2.2.1 (hS.2.2.2.2.2.1 _ hw) hd (kk b D p e R s m args below meth c H locs cells slots MC MS arr hS hR hc hs hV hX hL)
theorem rr_ldc2 {i : Nat} {v : Int64} (hd : op_at k pc (.ldc2_w i) 3 np) (hw : Cond.constantLong k.1.cls i v ∈ GW) (kk : wm_W l k d mc ms np ls (vv_L v :: st) X Q) : wm_W l k d mc ms pc ls (st) X Q := by
  intro b D p e R s m args below meth c H locs cells slots MC MS arr hS hR hc hs hV hX hL
  obtain ⟨hd, rfl⟩ := hd
  exact lv_ldc2 hS.1 hS.2.1 hS.2.2.2.2.1 (hS.2.2.2.2.2.1 _ hw) hd (kk b D p e R s m args below meth c H locs cells slots MC MS arr hS hR hc hs hV hX hL)
theorem rr_if_eq {x : Int32} {off : Int} {tgt : Nat} (hd : op_at k pc (.ifCond .eq off) 3 np) (ht : (pc : Int) + off = (tgt : Int)) (kt : x = 0 → wm_W l k d mc ms tgt ls st X Q) (kf : ¬ (x = 0) → wm_W l k d mc ms np ls st X Q) : wm_W l k d mc ms pc ls (vv_I x :: st) X Q := by
  intro b D p e R s m args below meth c H locs cells slots MC MS arr hS hR hc hs hV hX hL
  obtain ⟨hd, rfl⟩ := hd
  exact lv_if_eq hS.1 hS.2.1 hd ht (fun q => kt q b D p e R s m args below meth c H locs cells slots MC MS arr hS hR hc hs hV hX hL) (fun q => kf q b D p e R s m args below meth c H locs cells slots MC MS arr hS hR hc hs hV hX hL)
theorem rr_if_ne {x : Int32} {off : Int} {tgt : Nat} (hd : op_at k pc (.ifCond .ne off) 3 np) (ht : (pc : Int) + off = (tgt : Int)) (kt : ¬ x = 0 → wm_W l k d mc ms tgt ls st X Q) (kf : x = 0 → wm_W l k d mc ms np ls st X Q) : wm_W l k d mc ms pc ls (vv_I x :: st) X Q := by
  intro b D p e R s m args below meth c H locs cells slots MC MS arr hS hR hc hs hV hX hL
  obtain ⟨hd, rfl⟩ := hd
  exact lv_if_ne hS.1 hS.2.1 hd ht (fun q => kt q b D p e R s m args below meth c H locs cells slots MC MS arr hS hR hc hs hV hX hL) (fun q => kf q b D p e R s m args below meth c H locs cells slots MC MS arr hS hR hc hs hV hX hL)
theorem rr_if_lt {x : Int32} {off : Int} {tgt : Nat} (hd : op_at k pc (.ifCond .lt off) 3 np) (ht : (pc : Int) + off = (tgt : Int)) (kt : x < 0 → wm_W l k d mc ms tgt ls st X Q) (kf : ¬ (x < 0) → wm_W l k d mc ms np ls st X Q) : wm_W l k d mc ms pc ls (vv_I x :: st) X Q := by
  intro b D p e R s m args below meth c H locs cells slots MC MS arr hS hR hc hs hV hX hL
  obtain ⟨hd, rfl⟩ := hd
  exact lv_if_lt hS.1 hS.2.1 hd ht (fun q => kt q b D p e R s m args below meth c H locs cells slots MC MS arr hS hR hc hs hV hX hL) (fun q => kf q b D p e R s m args below meth c H locs cells slots MC MS arr hS hR hc hs hV hX hL)
theorem rr_if_ge {x : Int32} {off : Int} {tgt : Nat} (hd : op_at k pc (.ifCond .ge off) 3 np) (ht : (pc : Int) + off = (tgt : Int)) (kt : 0 ≤ x → wm_W l k d mc ms tgt ls st X Q) (kf : ¬ (0 ≤ x) → wm_W l k d mc ms np ls st X Q) : wm_W l k d mc ms pc ls (vv_I x :: st) X Q := by
  intro b D p e R s m args below meth c H locs cells slots MC MS arr hS hR hc hs hV hX hL
  obtain ⟨hd, rfl⟩ := hd
  exact lv_if_ge hS.1 hS.2.1 hd ht (fun q => kt q b D p e R s m args below meth c H locs cells slots MC MS arr hS hR hc hs hV hX hL) (fun q => kf q b D p e R s m args below meth c H locs cells slots MC MS arr hS hR hc hs hV hX hL)
theorem rr_if_gt {x : Int32} {off : Int} {tgt : Nat} (hd : op_at k pc (.ifCond .gt off) 3 np) (ht : (pc : Int) + off = (tgt : Int)) (kt : 0 < x → wm_W l k d mc ms tgt ls st X Q) (kf : ¬ (0 < x) → wm_W l k d mc ms np ls st X Q) : wm_W l k d mc ms pc ls (vv_I x :: st) X Q := by
  intro b D p e R s m args below meth c H locs cells slots MC MS arr hS hR hc hs hV hX hL
  obtain ⟨hd, rfl⟩ := hd
  exact lv_if_gt hS.1 hS.2.1 hd ht (fun q => kt q b D p e R s m args below meth c H locs cells slots MC MS arr hS hR hc hs hV hX hL) (fun q => kf q b D p e R s m args below meth c H locs cells slots MC MS arr hS hR hc hs hV hX hL)
theorem rr_if_le {x : Int32} {off : Int} {tgt : Nat} (hd : op_at k pc (.ifCond .le off) 3 np) (ht : (pc : Int) + off = (tgt : Int)) (kt : x ≤ 0 → wm_W l k d mc ms tgt ls st X Q) (kf : ¬ (x ≤ 0) → wm_W l k d mc ms np ls st X Q) : wm_W l k d mc ms pc ls (vv_I x :: st) X Q := by
  intro b D p e R s m args below meth c H locs cells slots MC MS arr hS hR hc hs hV hX hL
  obtain ⟨hd, rfl⟩ := hd
  exact lv_if_le hS.1 hS.2.1 hd ht (fun q => kt q b D p e R s m args below meth c H locs cells slots MC MS arr hS hR hc hs hV hX hL) (fun q => kf q b D p e R s m args below meth c H locs cells slots MC MS arr hS hR hc hs hV hX hL)
theorem rr_icmp_eq {x y : Int32} {off : Int} {tgt : Nat} (hd : op_at k pc (.if_icmp .eq off) 3 np) (ht : (pc : Int) + off = (tgt : Int)) (kt : x = y → wm_W l k d mc ms tgt ls st X Q) (kf : ¬ (x = y) → wm_W l k d mc ms np ls st X Q) : wm_W l k d mc ms pc ls (vv_I y :: vv_I x :: st) X Q := by
  intro b D p e R s m args below meth c H locs cells slots MC MS arr hS hR hc hs hV hX hL
  obtain ⟨hd, rfl⟩ := hd
  exact lv_icmp_eq hS.1 hS.2.1 hd ht (fun q => kt q b D p e R s m args below meth c H locs cells slots MC MS arr hS hR hc hs hV hX hL) (fun q => kf q b D p e R s m args below meth c H locs cells slots MC MS arr hS hR hc hs hV hX hL)
theorem rr_icmp_ne {x y : Int32} {off : Int} {tgt : Nat} (hd : op_at k pc (.if_icmp .ne off) 3 np) (ht : (pc : Int) + off = (tgt : Int)) (kt : ¬ x = y → wm_W l k d mc ms tgt ls st X Q) (kf : x = y → wm_W l k d mc ms np ls st X Q) : wm_W l k d mc ms pc ls (vv_I y :: vv_I x :: st) X Q := by
  intro b D p e R s m args below meth c H locs cells slots MC MS arr hS hR hc hs hV hX hL
  obtain ⟨hd, rfl⟩ := hd
  exact lv_icmp_ne hS.1 hS.2.1 hd ht (fun q => kt q b D p e R s m args below meth c H locs cells slots MC MS arr hS hR hc hs hV hX hL) (fun q => kf q b D p e R s m args below meth c H locs cells slots MC MS arr hS hR hc hs hV hX hL)
theorem rr_icmp_lt {x y : Int32} {off : Int} {tgt : Nat} (hd : op_at k pc (.if_icmp .lt off) 3 np) (ht : (pc : Int) + off = (tgt : Int)) (kt : x < y → wm_W l k d mc ms tgt ls st X Q) (kf : ¬ (x < y) → wm_W l k d mc ms np ls st X Q) : wm_W l k d mc ms pc ls (vv_I y :: vv_I x :: st) X Q := by
  intro b D p e R s m args below meth c H locs cells slots MC MS arr hS hR hc hs hV hX hL
  obtain ⟨hd, rfl⟩ := hd
  exact lv_icmp_lt hS.1 hS.2.1 hd ht (fun q => kt q b D p e R s m args below meth c H locs cells slots MC MS arr hS hR hc hs hV hX hL) (fun q => kf q b D p e R s m args below meth c H locs cells slots MC MS arr hS hR hc hs hV hX hL)
theorem rr_icmp_ge {x y : Int32} {off : Int} {tgt : Nat} (hd : op_at k pc (.if_icmp .ge off) 3 np) (ht : (pc : Int) + off = (tgt : Int)) (kt : y ≤ x → wm_W l k d mc ms tgt ls st X Q) (kf : ¬ (y ≤ x) → wm_W l k d mc ms np ls st X Q) : wm_W l k d mc ms pc ls (vv_I y :: vv_I x :: st) X Q := by
  intro b D p e R s m args below meth c H locs cells slots MC MS arr hS hR hc hs hV hX hL
  obtain ⟨hd, rfl⟩ := hd
  exact lv_icmp_ge hS.1 hS.2.1 hd ht (fun q => kt q b D p e R s m args below meth c H locs cells slots MC MS arr hS hR hc hs hV hX hL) (fun q => kf q b D p e R s m args below meth c H locs cells slots MC MS arr hS hR hc hs hV hX hL)
theorem rr_icmp_gt {x y : Int32} {off : Int} {tgt : Nat} (hd : op_at k pc (.if_icmp .gt off) 3 np) (ht : (pc : Int) + off = (tgt : Int)) (kt : y < x → wm_W l k d mc ms tgt ls st X Q) (kf : ¬ (y < x) → wm_W l k d mc ms np ls st X Q) : wm_W l k d mc ms pc ls (vv_I y :: vv_I x :: st) X Q := by
  intro b D p e R s m args below meth c H locs cells slots MC MS arr hS hR hc hs hV hX hL
  obtain ⟨hd, rfl⟩ := hd
  exact lv_icmp_gt hS.1 hS.2.1 hd ht (fun q => kt q b D p e R s m args below meth c H locs cells slots MC MS arr hS hR hc hs hV hX hL) (fun q => kf q b D p e R s m args below meth c H locs cells slots MC MS arr hS hR hc hs hV hX hL)
theorem rr_icmp_le {x y : Int32} {off : Int} {tgt : Nat} (hd : op_at k pc (.if_icmp .le off) 3 np) (ht : (pc : Int) + off = (tgt : Int)) (kt : x ≤ y → wm_W l k d mc ms tgt ls st X Q) (kf : ¬ (x ≤ y) → wm_W l k d mc ms np ls st X Q) : wm_W l k d mc ms pc ls (vv_I y :: vv_I x :: st) X Q := by
  intro b D p e R s m args below meth c H locs cells slots MC MS arr hS hR hc hs hV hX hL
  obtain ⟨hd, rfl⟩ := hd
  exact lv_icmp_le hS.1 hS.2.1 hd ht (fun q => kt q b D p e R s m args below meth c H locs cells slots MC MS arr hS hR hc hs hV hX hL) (fun q => kf q b D p e R s m args below meth c H locs cells slots MC MS arr hS hR hc hs hV hX hL)
theorem rr_goto {off : Int} {tgt : Nat} (hd : op_at k pc (.goto off) 3 np) (ht : (pc : Int) + off = (tgt : Int)) (kk : wm_W l k d mc ms tgt ls st X Q) : wm_W l k d mc ms pc ls st X Q := by
  intro b D p e R s m args below meth c H locs cells slots MC MS arr hS hR hc hs hV hX hL
  obtain ⟨hd, rfl⟩ := hd
  exact lv_goto hS.1 hS.2.1 hd ht (kk b D p e R s m args below meth c H locs cells slots MC MS arr hS hR hc hs hV hX hL)
theorem rr_tabIn {dflt lo hi : Int} {offs : Array Int} {len : Nat} {x : Int32} {off : Int} {tgt : Nat} (hd : op_at k pc (.tableswitch dflt lo hi offs) len np) (h1 : ¬ x.toInt < lo) (h2 : ¬ hi < x.toInt) (ho : offs[(x.toInt - lo).toNat]? = some off) (ht : (pc : Int) + off = (tgt : Int)) (kk : wm_W l k d mc ms tgt ls st X Q) : wm_W l k d mc ms pc ls (vv_I x :: st) X Q := by
  intro b D p e R s m args below meth c H locs cells slots MC MS arr hS hR hc hs hV hX hL
  obtain ⟨hd, rfl⟩ := hd
  exact lv_tableIn hS.1 hS.2.1 hd h1 h2 ho ht (kk b D p e R s m args below meth c H locs cells slots MC MS arr hS hR hc hs hV hX hL)
theorem rr_tabOut {dflt lo hi : Int} {offs : Array Int} {len : Nat} {x : Int32} {tgt : Nat} (hd : op_at k pc (.tableswitch dflt lo hi offs) len np) (h : x.toInt < lo ∨ hi < x.toInt) (ht : (pc : Int) + dflt = (tgt : Int)) (kk : wm_W l k d mc ms tgt ls st X Q) : wm_W l k d mc ms pc ls (vv_I x :: st) X Q := by
  intro b D p e R s m args below meth c H locs cells slots MC MS arr hS hR hc hs hV hX hL
  obtain ⟨hd, rfl⟩ := hd
  exact lv_tableOut hS.1 hS.2.1 hd h ht (kk b D p e R s m args below meth c H locs cells slots MC MS arr hS hR hc hs hV hX hL)
theorem rr_lookup {dflt : Int} {ps : Array (Int × Int)} {len : Nat} {x : Int32} {off : Int} {tgt : Nat} (hd : op_at k pc (.lookupswitch dflt ps) len np) (hp : (ps.toList.zip (ps.toList.drop 1)).all (fun (a, next) => a.1 < next.1) = true) (ho : Op.lookupswitch.offset ps.toList dflt x.toInt = off) (ht : (pc : Int) + off = (tgt : Int)) (kk : wm_W l k d mc ms tgt ls st X Q) : wm_W l k d mc ms pc ls (vv_I x :: st) X Q := by
  intro b D p e R s m args below meth c H locs cells slots MC MS arr hS hR hc hs hV hX hL
  obtain ⟨hd, rfl⟩ := hd
  exact lv_lookup hS.1 hS.2.1 hd hp ho ht (kk b D p e R s m args below meth c H locs cells slots MC MS arr hS hR hc hs hV hX hL)
theorem rr_ireturn {v : Int32} {ty : FieldType} (hd : op_at k pc (.ireturn) 1 np) (hr : k.2.2.2 = some ty) (hn : narrow ty (.int v) = .int v) (hq : Q (some (vv_I v)) X) : wm_W l k d mc ms pc ls [vv_I v] X Q := by
  intro b D p e R s m args below meth c H locs cells slots MC MS arr hS hR hc hs hV hX hL
  obtain ⟨hd, rfl⟩ := hd
  exact W.widen (k := MC) (n := MS) (by omega) (by omega) (W.zret hS.1 hS.2.1 (hS.2.2.2.1.trans hr) hn (fun t ht hW => ⟨⟨some (vv_I v), X, rfl, hq, by rw [ht]; exact hX⟩, hV.F ht⟩) hV.2.2 hd hS.2.2.2.2.2.2.1)
theorem rr_lreturn {v : Int64} (hd : op_at k pc (.lreturn) 1 np) (hr : k.2.2.2 = some .long) (hq : Q (some (vv_L v)) X) : wm_W l k d mc ms pc ls [vv_L v] X Q := by
  intro b D p e R s m args below meth c H locs cells slots MC MS arr hS hR hc hs hV hX hL
  obtain ⟨hd, rfl⟩ := hd
  exact W.widen (k := MC) (n := MS) (by omega) (by omega) (W.lret hS.1 hS.2.1 (hS.2.2.2.1.trans hr) (fun t ht hW => ⟨⟨some (vv_L v), X, rfl, hq, by rw [ht]; exact hX⟩, hV.F ht⟩) hV.2.2 hd hS.2.2.2.2.2.2.1)
theorem rr_areturnE {a : Nat} {rt : FieldType} (hd : op_at k pc (.areturn) 1 np) (hr : k.2.2.2 = some rt) (hrt : (∃ n, rt = .object n) ∨ ∃ t, rt = .array t) (hq : Q (some (vv_E a)) X) : wm_W l k d mc ms pc ls [vv_E a] X Q := by
  intro b D p e R s m args below meth c H locs cells slots MC MS arr hS hR hc hs hV hX hL
  obtain ⟨hd, rfl⟩ := hd
  exact W.widen (k := MC) (n := MS) (by omega) (by omega) (W.aret hS.1 hS.2.1 (hS.2.2.2.1.trans hr) hrt (Or.inr ⟨a, rfl⟩) (fun t ht hW => ⟨⟨some (vv_E a), X, rfl, hq, by rw [ht]; exact hX⟩, hV.F ht⟩) hV.2.2 hd hS.2.2.2.2.2.2.1)
theorem rr_return  (hd : op_at k pc (.return_) 1 np) (hr : k.2.2.2 = none) (hq : Q (none) X) : wm_W l k d mc ms pc ls [] X Q := by
  intro b D p e R s m args below meth c H locs cells slots MC MS arr hS hR hc hs hV hX hL
  obtain ⟨hd, rfl⟩ := hd
  exact W.widen (k := MC) (n := MS) (by omega) (by omega) (W.vret hS.1 hS.2.1 (hS.2.2.2.1.trans hr) (fun t ht hW => ⟨⟨none, X, rfl, hq, by rw [ht]; exact hX⟩, hV.F ht⟩) hV.2.2 hd hS.2.2.2.2.2.2.1)
/-- a field of an object: class number ci, field number f; the link of the method's own class -/
abbrev fl_T (k : mm_T) (i ci f : Nat) : Prop := ∃ (C : String) (T : u_T) (N : Nat) (ty : Nat → FieldType), mCl[ci]? = some (C, T, N) ∧ f < N ∧ N = mx_N ci ∧ (∀ w ∈ u_ws C T N, w ∈ GW) ∧ (∀ j, j < N → parseFieldDescriptor (T j).2.2.1 = some (ty j)) ∧ (∀ a, a < N → ∀ b, b < N → a ≠ b → (T a).2.1 ≠ (T b).2.1) ∧ Cond.fieldLink k.1.cls i (T f).1 (T f).2.1 (T f).2.2.1 ∈ GW
theorem mx_ctO {b : Nat} {D : md_T} {X : mx_T} {a ci : Nat} (h : kO a = ci) (hc : ci < 6) : mx_ct b D X a = .inr (ci, mx_fs b X ci a) := by
  unfold mx_ct
  rw [h, if_neg (by omega), if_neg (by omega), if_neg (by omega)]
theorem mx_fsk {b : Nat} {X : mx_T} {ci a f : Nat} (hf : f < mx_N ci) : (mx_fs b X ci a)[f]? = some (mx_sl b X ci a f) := by
  unfold mx_fs
  rw [List.getElem?_map, List.getElem?_range hf]
  rfl
theorem mx_fsl {b : Nat} {X : mx_T} {ci a : Nat} : (mx_fs b X ci a).length = mx_N ci := by simp [mx_fs]
theorem rr_get {i ci f a : Nat} {w : vv_T} (hd : op_at k pc (.getfield i) 3 np) (hF : fl_T k i ci f) (hk : kO a = ci) (hci : ci < 6) (ha : a < X.2.2.2) (hw : ∀ b, mx_sl b X ci a f = to_V b w) (kk : wm_W l k d mc ms np ls (w :: st) X Q) : wm_W l k d mc ms pc ls (vv_A (some a) :: st) X Q := by
  intro b D p e R s m args below meth c H locs cells slots MC MS arr hS hR hc hs hV hX hL
  obtain ⟨hd, rfl⟩ := hd
  obtain ⟨C, T, N, ty, f1, f2, f3, f4, f5, f6, f7⟩ := hF
  subst f3
  have hP := mx_one hX ha (mx_ctO hk hci)
  refine va_get hS.1 hS.2.1 hS.2.2.2.2.2.1 f4 hS.2.2.2.2.1 hS.2.2.2.2.2.2.2.2.1.1 hP 0 rfl f1 f f2 (hS.2.2.2.2.2.1 _ f7) (fun _ h => h) (mx_fsk f2) hd ?_
  rw [hw b]
  exact (kk b D p e R s m args below meth c H locs cells slots MC MS arr hS hR hc hs hV hX hL)
theorem rr_geti {i ci f a : Nat} (hd : op_at k pc (.getfield i) 3 np) (hF : fl_T k i ci f) (hk : kO a = ci) (ha : a < X.2.2.2) (hc : ci < 6 ∧ mx_isR ci f = false) (kk : wm_W l k d mc ms np ls (vv_I (X.1 a f) :: st) X Q) : wm_W l k d mc ms pc ls (vv_A (some a) :: st) X Q :=
  rr_get hd hF hk hc.1 ha (fun b => by rw [mx_sl, if_neg (by rw [hc.2]; decide)]; rfl) kk
theorem rr_getr {i ci f a : Nat} {w : Option Nat} (hd : op_at k pc (.getfield i) 3 np) (hF : fl_T k i ci f) (hk : kO a = ci) (ha : a < X.2.2.2) (hc : ci < 6 ∧ mx_isR ci f = true) (hr : X.2.2.1 a f = w) (kk : wm_W l k d mc ms np ls (vv_A w :: st) X Q) : wm_W l k d mc ms pc ls (vv_A (some a) :: st) X Q :=
  rr_get hd hF hk hc.1 ha (fun b => by rw [mx_sl, if_pos hc.2, hr]; rfl) kk
theorem mx_put {b : Nat} {D : md_T} {Y : mx_T} {ci f a : Nat} {v : Value} {H H1 : Heap} {fs : List Value} (hX : mx_R b D X H) (hk : kO a = ci) (hc : ci < 6) (hn : Y.2.2.2 = X.2.2.2) (hz : H1.size = H.size) (oq : ∀ q : Nat, q ≠ b + a → H1[q]? = H[q]?)
    (hP : va_P D.1 mCl ([(b + a, (.inr (ci, fs) : va_E))].set 0 (b + a, .inr (ci, fs.set f v))) H1) (he : mx_fs b Y ci a = fs.set f v) (ho : ∀ a', a' ≠ a → Y.1 a' = X.1 a' ∧ Y.2.1 a' = X.2.1 a' ∧ Y.2.2.1 a' = X.2.2.1 a') : mx_R b D Y H1 :=
  mx_set hX hn hz oq (by rw [mx_ctO hk hc, he]; exact hP 0 _ rfl) (fun a' h => mx_ct_eq (ho a' h).1 (ho a' h).2.1 (ho a' h).2.2)
theorem mx_fs_upI {b : Nat} {I : Nat → Nat → Int32} {L : Nat → Nat → Int64} {Rf : Nat → Nat → Option Nat} {n ci f a : Nat} {v : Int32} (hf : f < mx_N ci) (hr : mx_isR ci f = false) : mx_fs b (up_I I a f v, L, Rf, n) ci a = (mx_fs b (I, L, Rf, n) ci a).set f (.int v) := by
  apply List.ext_getElem?
  intro j
  by_cases hj : j < mx_N ci
  · rw [mx_fsk hj]
    by_cases e : j = f
    · subst e
      rw [List.getElem?_set_self (by rw [mx_fsl]; exact hj)]
      simp [mx_sl, hr, up_I, upd]
    · rw [List.getElem?_set_ne (Ne.symm e), mx_fsk hj]
      simp [mx_sl, up_I, upd, e]
  · rw [List.getElem?_eq_none (by rw [mx_fsl]; omega), List.getElem?_eq_none (by rw [List.length_set, mx_fsl]; omega)]
theorem mx_fs_upR {b : Nat} {I : Nat → Nat → Int32} {L : Nat → Nat → Int64} {Rf : Nat → Nat → Option Nat} {n ci f a : Nat} {v : Option Nat} (hf : f < mx_N ci) (hr : mx_isR ci f = true) : mx_fs b (I, L, up_R Rf a f v, n) ci a = (mx_fs b (I, L, Rf, n) ci a).set f (va_rf (v.map (fun q => b + q))) := by
  apply List.ext_getElem?
  intro j
  by_cases hj : j < mx_N ci
  · rw [mx_fsk hj]
    by_cases e : j = f
    · subst e
      rw [List.getElem?_set_self (by rw [mx_fsl]; exact hj)]
      simp [mx_sl, hr, up_R, va_up]
    · rw [List.getElem?_set_ne (Ne.symm e), mx_fsk hj]
      simp [mx_sl, up_R, va_up, e]
  · rw [List.getElem?_eq_none (by rw [mx_fsl]; omega), List.getElem?_eq_none (by rw [List.length_set, mx_fsl]; omega)]
/-- what a write to one cell does to the frame -/
theorem mx_wr {b a : Nat} {H0 H H1 : Heap} {locs1 : List Loc} (hz : H.size = H1.size) (hV : va_S (fun q => q = b + a) H H1 locs1) {locs : List Loc} (h0 : va_S (fun q => b ≤ q) H0 H locs) : va_S (fun q => b ≤ q) H0 H1 (locs ++ locs1) := by
  refine ⟨Nat.le_trans h0.1 hV.1, fun q h1 h2 => ?_, fun q hq => ?_⟩
  · rw [hV.2.1 q (Nat.lt_of_lt_of_le h1 h0.1) (fun e => h2 (by rw [e]; exact Nat.le_add_right b a))]
    exact h0.2.1 q h1 h2
  · rcases List.mem_append.mp hq with h | h
    · exact h0.2.2 q h
    · have := hV.2.2 q h
      rw [this]
      exact Nat.le_add_right b a
theorem wm_vS {b a i : Nat} {H0 H H1 : Heap} {locs : List Loc} (hV : va_S (fun q => b ≤ q) H0 H locs) (z : H1.size = H.size) (oq : ∀ q : Nat, q ≠ b + a → H1[q]? = H[q]?) : va_S (fun q => b ≤ q) H0 H1 (locs ++ [⟨b + a, i⟩]) := hV.put z oq (Nat.le_add_right b a)
theorem mx_at {b : Nat} {D : md_T} {X : mx_T} {H : Heap} (h : mx_R b D X H) {a ci : Nat} (hk : kO a = ci) (hci : ci < 6) (ha : a < X.2.2.2) : va_at D.1 mCl (b + a, .inr (ci, mx_fs b X ci a)) H := by
  rw [← mx_ctO hk hci]
  exact h.2 a ha
theorem rr_put {i ci f a : Nat} {w : vv_T} {ty : FieldType} {Y : mx_T} (hd : op_at k pc (.putfield i) 3 np) (hF : fl_T k i ci f) (hk : kO a = ci) (ha : a < X.2.2.2) (hci : ci < 6)
    (hfin : ∀ q : vw_C, mCl[ci]? = some q → ((q.2.1 f).2.2.2 = false ∨ ((q.2.1 f).2.2.2 = true ∧ k.1.name = "<init>" ∧ (q.2.1 f).1 = k.1.cls)) ∧ parseFieldDescriptor (q.2.1 f).2.2.1 = some ty) (hn : ∀ b, narrow ty (to_V b w) = to_V b w) (hfit : ∀ b, fits ty (to_V b w) = true)
    (hY : ∀ b, mx_fs b Y ci a = (mx_fs b X ci a).set f (to_V b w)) (hYn : Y.2.2.2 = X.2.2.2) (hYo : ∀ a', a' ≠ a → Y.1 a' = X.1 a' ∧ Y.2.1 a' = X.2.1 a' ∧ Y.2.2.1 a' = X.2.2.1 a')
    (kk : wm_W l k d mc ms np ls st Y Q) : wm_W l k d mc ms pc ls (w :: vv_A (some a) :: st) X Q := by
  intro b D p e R s m args below meth c H locs cells slots MC MS arr hS hR hcl hs hV hX hL
  obtain ⟨hd, rfl⟩ := hd
  obtain ⟨C, T, N, tyF, f1, f2, f3, f4, f5, f6, f7⟩ := hF
  subst f3
  obtain ⟨g1, g2⟩ := hfin _ f1
  have hts := hS.2.2.2.2.2.1
  have hown := hS.2.2.2.2.1
  have hK := hS.2.2.2.2.2.2.2.2.1.1
  have hap := va_apart (own := k.1.cls) hts f4 tyF f5 f6 hK f1
  obtain ⟨r, h1, cell, q1, q2, q3, q4⟩ := mx_at hX hk hci ha
  have hr : r = (C, T, mx_N ci) := Option.some.inj (h1.symm.trans f1)
  subst hr
  obtain ⟨hSl, hfc, kC, hkC, hkind⟩ := hK.1 ci _ f1
  obtain ⟨cf, kf, fi, fd, hi, hsl⟩ := hSl f f2
  have hlay := hts _ (f4 _ (u_in_lay f2))
  have hst := (u_facts hfc hkC (u_lays hts f4 f2) hi).1
  have fin : ∀ H' : Heap, H'[b + a]? = some (cell.setSlot fd.slot (to_V b w)) → H'.size = H.size → (∀ q, q ≠ b + a → H'[q]? = H[q]?) → W p l e R s m args below meth c H' (locs ++ [⟨b + a, fd.slot⟩]) cells slots (MQ below (wm_Q b D Q) args s MC MS (fun q => b ≤ q)) (F0 m (pc + 3) arr (st.map (to_V b))) := by
    intro H' e1 e2 e3
    rw [hsl] at e1
    refine kk b D p e R s m args below meth c H' _ cells slots MC MS arr hS hR hcl hs (wm_vS hV e2 e3) (mx_set hX hYn e2 e3 ?_ (fun a' h => mx_ct_eq (hYo a' h).1 (hYo a' h).2.1 (hYo a' h).2.2)) hL
    rw [mx_ctO hk hci, hY b]
    exact ⟨_, f1, t_OB.to (V := updV (vp_V (mx_fs b X ci a)) f (to_V b w)) ⟨_, e1, q2, q3, t_set q4 hap f2 (to_V b w)⟩ (fun j _ => vp_updV_set (by rw [mx_fsl]; exact f2) (to_V b w) j)⟩
  rcases g1 with g1 | ⟨g1, g3, g4⟩
  · unfold u_lay at hlay
    rw [if_neg (by rw [g1]; decide)] at hlay
    have h6 := u_store hfc hkC hkind hlay hi g2 (hn b) (hfit b)
    exact W.putK hS.1 hS.2.1 (f := fd) ⟨hown, hts _ f7, ⟨_, _, _, hi⟩, hst⟩ (by rw [q2]; exact h6) q1 q3 (by rw [hsl]; exact k2_hasslot (q4 f f2)) rfl rfl hd fin
  · unfold u_lay at hlay
    rw [if_pos g1] at hlay
    have hcf : m.cls = cf := by
      obtain ⟨_, _, c', _, _, _, -, -, hf', -, -, -, hown2, -⟩ := Cond.laysFinal_spec hlay
      have e1 : c' = cf := by have := hi.symm.trans hf'; simp at this; exact this.1.symm
      have g4' : (T f).1 = k.1.cls := g4
      rw [g4'] at hown2
      rw [← e1]; exact Option.some.inj (hown.symm.trans hown2)
    have h6 := u_fits hfc hkC hkind (Or.inr hlay) hi g2 (hn b) (hfit b)
    exact W.putFinK hS.1 hS.2.1 hown (hts _ f7) hi hst hcf (hS.2.2.2.2.2.2.2.1.trans g3) (by rw [q2]; exact h6) q1 q3 (by rw [hsl]; exact k2_hasslot (q4 f f2)) rfl rfl hd fin
theorem rr_puti {i ci f a : Nat} {v : Int32} {ty : FieldType} {I : Nat → Nat → Int32} {L : Nat → Nat → Int64} {Rf : Nat → Nat → Option Nat} {n : Nat} (hd : op_at k pc (.putfield i) 3 np) (hF : fl_T k i ci f) (hk : kO a = ci) (ha : a < n) (hc : ci < 6 ∧ mx_isR ci f = false)
    (hfin : ∀ q : vw_C, mCl[ci]? = some q → (q.2.1 f).2.2.2 = false ∧ parseFieldDescriptor (q.2.1 f).2.2.1 = some ty) (hn : narrow ty (.int v) = .int v) (hfit : fits ty (.int v) = true) (hf : f < mx_N ci) (kk : wm_W l k d mc ms np ls st (up_I I a f v, L, Rf, n) Q) : wm_W l k d mc ms pc ls (vv_I v :: vv_A (some a) :: st) (I, L, Rf, n) Q :=
  rr_put (Y := (up_I I a f v, L, Rf, n)) hd hF hk ha hc.1 (fun q hq => ⟨Or.inl (hfin q hq).1, (hfin q hq).2⟩) (fun _ => hn) (fun _ => hfit) (fun b => mx_fs_upI hf hc.2) rfl (fun a' h => ⟨up_I_ne h, rfl, rfl⟩) kk
theorem rr_putr {i ci f a : Nat} {v : Nat} {ty : FieldType} {I : Nat → Nat → Int32} {L : Nat → Nat → Int64} {Rf : Nat → Nat → Option Nat} {n : Nat} (hd : op_at k pc (.putfield i) 3 np) (hF : fl_T k i ci f) (hk : kO a = ci) (ha : a < n) (hc : ci < 6 ∧ mx_isR ci f = true)
    (hfin : ∀ q : vw_C, mCl[ci]? = some q → (q.2.1 f).2.2.2 = true ∧ k.1.name = "<init>" ∧ (q.2.1 f).1 = k.1.cls ∧ parseFieldDescriptor (q.2.1 f).2.2.1 = some ty) (hn : ∀ q, narrow ty (.ref q) = .ref q) (hfit : ∀ q, fits ty (.ref q) = true) (hf : f < mx_N ci) (kk : wm_W l k d mc ms np ls st (I, L, up_R Rf a f (some v), n) Q) : wm_W l k d mc ms pc ls (vv_A (some v) :: vv_A (some a) :: st) (I, L, Rf, n) Q :=
  rr_put (Y := (I, L, up_R Rf a f (some v), n)) hd hF hk ha hc.1 (fun q hq => ⟨Or.inr ⟨(hfin q hq).1, (hfin q hq).2.1, (hfin q hq).2.2.1⟩, (hfin q hq).2.2.2⟩) (fun b => hn (b + v)) (fun b => hfit (b + v)) (fun b => mx_fs_upR hf hc.2) rfl (fun a' h => ⟨rfl, rfl, up_R_ne h⟩) kk
/-! arrays -/
theorem mx_ct6 {b : Nat} {D : md_T} {X : mx_T} {a : Nat} (h : kO a = 6) : mx_ct b D X a = .inl (D.2.1, zO a, .inl (X.1 a)) := by
  unfold mx_ct; rw [if_pos h]
theorem mx_ct7 {b : Nat} {D : md_T} {X : mx_T} {a : Nat} (h : kO a = 7) : mx_ct b D X a = .inl (D.2.2.1, zO a, .inr (.inl (X.2.1 a))) := by
  unfold mx_ct; rw [h, if_neg (by omega), if_pos rfl]
theorem mx_ct8 {b : Nat} {D : md_T} {X : mx_T} {a : Nat} (h : kO a = 8) : mx_ct b D X a = .inl (D.2.2.2.1, zO a, .inr (.inr (.inr (.inr (fun j => (X.2.2.1 a j).map (fun q => b + q)))))) := by
  unfold mx_ct; rw [h, if_neg (by omega), if_neg (by omega), if_pos rfl]
theorem rr_iald {a z : Nat} {j : Int32} (hd : op_at k pc .iaload 1 np) (hk : kO a = 6 ∧ zO a = z) (ha : a < X.2.2.2) (hin : vp_in j z) (kk : wm_W l k d mc ms np ls (vv_I (X.1 a j.toNatClampNeg) :: st) X Q) : wm_W l k d mc ms pc ls (vv_I j :: vv_A (some a) :: st) X Q := by
  intro b D p e R s m args below meth c H locs cells slots MC MS arr hS hR hcl hs hV hX hL
  obtain ⟨hd, rfl⟩ := hd
  obtain ⟨hk, rfl⟩ := hk
  exact va_iald hS.1 hS.2.1 hS.2.2.2.2.2.2.2.2.1.1 (mx_one hX ha (mx_ct6 hk)) 0 0 rfl rfl hin hd (kk b D p e R s m args below meth c H locs cells slots MC MS arr hS hR hcl hs hV hX hL)
theorem rr_lald {a z : Nat} {j : Int32} (hd : op_at k pc .laload 1 np) (hk : kO a = 7 ∧ zO a = z) (ha : a < X.2.2.2) (hin : vp_in j z) (kk : wm_W l k d mc ms np ls (vv_L (X.2.1 a j.toNatClampNeg) :: st) X Q) : wm_W l k d mc ms pc ls (vv_I j :: vv_A (some a) :: st) X Q := by
  intro b D p e R s m args below meth c H locs cells slots MC MS arr hS hR hcl hs hV hX hL
  obtain ⟨hd, rfl⟩ := hd
  obtain ⟨hk, rfl⟩ := hk
  exact va_lald hS.1 hS.2.1 hS.2.2.2.2.2.2.2.2.1.1 (mx_one hX ha (mx_ct7 hk)) 0 1 rfl rfl hin hd (kk b D p e R s m args below meth c H locs cells slots MC MS arr hS hR hcl hs hV hX hL)
theorem rr_aald {a z : Nat} {j : Int32} {w : Option Nat} (hd : op_at k pc .aaload 1 np) (hk : kO a = 8 ∧ zO a = z) (ha : a < X.2.2.2) (hin : vp_in j z) (hw : X.2.2.1 a j.toNatClampNeg = w) (kk : wm_W l k d mc ms np ls (vv_A w :: st) X Q) : wm_W l k d mc ms pc ls (vv_I j :: vv_A (some a) :: st) X Q := by
  intro b D p e R s m args below meth c H locs cells slots MC MS arr hS hR hcl hs hV hX hL
  obtain ⟨hd, rfl⟩ := hd
  obtain ⟨hk, rfl⟩ := hk
  subst hw
  exact va_aldq hS.1 hS.2.1 hS.2.2.2.2.2.2.2.2.1.1 (mx_one hX ha (mx_ct8 hk)) 0 2 rfl rfl hin hd (kk b D p e R s m args below meth c H locs cells slots MC MS arr hS hR hcl hs hV hX hL)
theorem rr_alen {a z : Nat} {v : Int32} (hd : op_at k pc .arraylength 1 np) (hk : (kO a = 6 ∨ kO a = 7 ∨ kO a = 8) ∧ zO a = z) (ha : a < X.2.2.2) (hv : Int32.ofNat z = v) (kk : wm_W l k d mc ms np ls (vv_I v :: st) X Q) : wm_W l k d mc ms pc ls (vv_A (some a) :: st) X Q := by
  intro b D p e R s m args below meth c H locs cells slots MC MS arr hS hR hcl hs hV hX hL
  obtain ⟨hd, rfl⟩ := hd
  obtain ⟨hk, rfl⟩ := hk
  have K2 := kk b D p e R s m args below meth c H locs cells slots MC MS arr hS hR hcl hs hV hX hL
  rcases hk with hk | hk | hk
  · exact va_alen hS.1 hS.2.1 hS.2.2.2.2.2.2.2.2.1.1 (mx_one hX ha (mx_ct6 hk)) 0 0 rfl rfl hv hd K2
  · exact va_alen hS.1 hS.2.1 hS.2.2.2.2.2.2.2.2.1.1 (mx_one hX ha (mx_ct7 hk)) 0 1 rfl rfl hv hd K2
  · exact va_alen hS.1 hS.2.1 hS.2.2.2.2.2.2.2.2.1.1 (mx_one hX ha (mx_ct8 hk)) 0 2 rfl rfl hv hd K2
theorem rr_iast {a z : Nat} {j v : Int32} {I : Nat → Nat → Int32} {L : Nat → Nat → Int64} {Rf : Nat → Nat → Option Nat} {n : Nat} (hd : op_at k pc .iastore 1 np) (hk : kO a = 6 ∧ zO a = z) (ha : a < n) (hin : vp_in j z) (kk : wm_W l k d mc ms np ls st (up_I I a j.toNatClampNeg v, L, Rf, n) Q) : wm_W l k d mc ms pc ls (vv_I v :: vv_I j :: vv_A (some a) :: st) (I, L, Rf, n) Q := by
  intro b D p e R s m args below meth c H locs cells slots MC MS arr hS hR hcl hs hV hX hL
  obtain ⟨hd, rfl⟩ := hd
  obtain ⟨hk, rfl⟩ := hk
  have hc0 : H[b + a]? = some (vp_cell D.2.1 (zO a, .inl (I a))) := by
    have h := hX.2 a ha
    rw [mx_ct6 hk] at h
    exact h
  refine W.iast hS.1 hS.2.1 hc0 ((hS.2.2.2.2.2.2.2.2.1.1.2 0 (D.2.1, .int) rfl).1 _ (fun j => .int (I a j))) (fun q => by cases q) (by show ¬ (j < 0 ∨ (arrV _ _ _).slots.size ≤ _); rw [arrV_size]; exact hin) rfl rfl hd fun H1 e1 z1 oq => ?_
  refine kk b D p e R s m args below meth c H1 _ cells slots MC MS arr hS hR hcl hs (wm_vS hV z1 oq) (mx_set (Y := (up_I I a j.toNatClampNeg v, L, Rf, n)) hX rfl z1 oq ?_ (fun a' h => mx_ct_eq (up_I_ne h) rfl rfl)) hL
  rw [mx_ct6 hk]
  show H1[b + a]? = some (vp_cell _ _)
  rw [e1, vp_cell_i, vp_cell_i, arrV_store]
  congr 2
  funext q
  show _ = Value.int (up_I I a j.toNatClampNeg v a q)
  rw [up_I_eq]
  by_cases hq : q = j.toNatClampNeg
  · subst hq
    simp [updV, upd]
  · simp [updV, upd, hq]
theorem rr_last {a z : Nat} {j : Int32} {v : Int64} {I : Nat → Nat → Int32} {L : Nat → Nat → Int64} {Rf : Nat → Nat → Option Nat} {n : Nat} (hd : op_at k pc .lastore 1 np) (hk : kO a = 7 ∧ zO a = z) (ha : a < n) (hin : vp_in j z) (kk : wm_W l k d mc ms np ls st (I, up_L L a j.toNatClampNeg v, Rf, n) Q) : wm_W l k d mc ms pc ls (vv_L v :: vv_I j :: vv_A (some a) :: st) (I, L, Rf, n) Q := by
  intro b D p e R s m args below meth c H locs cells slots MC MS arr hS hR hcl hs hV hX hL
  obtain ⟨hd, rfl⟩ := hd
  obtain ⟨hk, rfl⟩ := hk
  have hc0 : H[b + a]? = some (vp_cell D.2.2.1 (zO a, .inr (.inl (L a)))) := by
    have h := hX.2 a ha
    rw [mx_ct7 hk] at h
    exact h
  refine W.last hS.1 hS.2.1 hc0 ((hS.2.2.2.2.2.2.2.2.1.1.2 1 (D.2.2.1, .long) rfl).1 _ (fun j => .long (L a j))) (fun q => by cases q) (by show ¬ (j < 0 ∨ (arrV _ _ _).slots.size ≤ _); rw [arrV_size]; exact hin) rfl rfl hd fun H1 e1 z1 oq => ?_
  refine kk b D p e R s m args below meth c H1 _ cells slots MC MS arr hS hR hcl hs (wm_vS hV z1 oq) (mx_set (Y := (I, up_L L a j.toNatClampNeg v, Rf, n)) hX rfl z1 oq ?_ (fun a' h => mx_ct_eq rfl (up_L_ne h) rfl)) hL
  rw [mx_ct7 hk]
  show H1[b + a]? = some (vp_cell _ _)
  rw [e1, vp_cell_l, vp_cell_l, arrV_store]
  congr 2
  funext q
  show _ = Value.long (up_L L a j.toNatClampNeg v a q)
  rw [up_L_eq]
  by_cases hq : q = j.toNatClampNeg
  · subst hq
    simp [updV, vp_updL]
  · simp [updV, vp_updL, hq]
/-! calls -/
abbrev cl_B (k k2 : mm_T) (i n : Nat) : Prop := Cond.methodLink k.1.cls i k2.1 ∈ GW ∧ Cond.code k2.1 k2.2.1 k2.2.2.1 k2.2.2.2 ∈ GW ∧ Cond.initialized k2.1.cls ∈ GW ∧ (k2.1.cls ≠ "java/lang/invoke/MethodHandle" ∧ k2.1.cls ≠ "java/lang/invoke/VarHandle" ∧ (parseMethodDescriptor k2.1.desc).map (fun d => d.parameters.length) = some n) ∧ k2.2.2.1 ≤ 21
abbrev cl_V (k k2 : mm_T) (i n : Nat) : Prop := cl_B k k2 i n ∧ Cond.instanceMethod k2.1 ∈ GW ∧ Cond.selects k2.1.cls k2.1 k2.1 ∈ GW
abbrev cl_S (k k2 : mm_T) (i n : Nat) : Prop := cl_B k k2 i n ∧ Cond.static k2.1 ∈ GW
abbrev cl_N (k k2 : mm_T) (i n j : Nat) : Prop := (∃ q, mn_T[j]? = some q ∧ q = (k.1.cls, i, k2.1, q.2.2.2)) ∧ Cond.code k2.1 k2.2.1 k2.2.2.1 k2.2.2.2 ∈ GW ∧ Cond.initialized k2.1.cls ∈ GW ∧ (k2.1.cls ≠ "java/lang/invoke/MethodHandle" ∧ k2.1.cls ≠ "java/lang/invoke/VarHandle" ∧ (parseMethodDescriptor k2.1.desc).map (fun d => d.parameters.length) = some n) ∧ k2.2.2.1 ≤ 21
theorem gw_goodIn {k k2 : mm_T} (h : Cond.code k2.1 k2.2.1 k2.2.2.1 k2.2.2.2 ∈ GW) : GoodIn GW (.code k2.1 k2.2.1 k2.2.2.1 k2.2.2.2 :: GW) := by
  intro w hw
  have hw2 : w ∈ GW := by
    rcases List.mem_cons.mp hw with e | e
    · rw [e]; exact h
    · exact e
  exact ⟨hw2, good_of_word (gw_good hw2)⟩
theorem wm_call {mc2 ms2 : Nat} {As st0 rest : List vv_T} {Q2 : Option vv_T → mx_T → Prop} {b : Nat} {D : md_T} {p : Program} {e : Env} {R : Room} {s : State} {m : MethodId} {args : Array Value} {below : List Frame} {meth : Method} {c : Code} {H : Heap} {locs : List Loc} {cells slots MC MS : Nat} {arr : Array Slot} {pc : Nat}
    (hr : va_Run p l e R s m args below meth c H locs cells slots mc2 ms2 (F0 m pc arr (st0.map (to_V b))) (rest.map (to_V b)) (wm_Q b D Q2 (As.map (to_V b)).toArray) (fun q => b ≤ q))
    (hS : wm_S k p s m args meth c b D) (hR : d ≤ R.frames ∧ 40 * d ≤ R.locals ∧ MC ≤ R.cells ∧ MS ≤ R.slots) (hc : cells + mc ≤ MC) (hs : slots + ms ≤ MS) (hV : va_S (fun q => b ≤ q) s.heap H locs) (hL : wm_L b k.2.2.1 ls arr)
    {mc1 ms1 : Nat} (h1 : mc1 + mc2 = mc) (h2 : ms1 + ms2 = ms) (kk : ∀ (r : Option vv_T) (Y : mx_T), Q2 r Y → wm_W l k d mc1 ms1 (pc + 3) ls (r.toList ++ rest) Y Q) :
    W p l e R s m args below meth c H locs cells slots (MQ below (wm_Q b D Q) args s MC MS (fun q => b ≤ q)) (F0 m pc arr (st0.map (to_V b))) := by
  intro T hT Xs
  obtain ⟨v, st₀, t, T', L, h0, X', hLc, e1, e2, ⟨⟨r, Y, hv, hq, hm⟩, hz, hk⟩, st⟩ := hr T hT Xs
  cases hv
  rw [h0] at hz hk
  have K2 := kk r Y hq b D p e R s m args below meth c T'.heap (locs ++ L) (cells + mc2) (slots + ms2) MC MS arr hS hR (by omega) (by omega)
    ⟨Nat.le_trans hV.1 (by rw [e1]; exact hz), fun q g1 g2 => by rw [e1, hk q (Nat.lt_of_lt_of_le g1 hV.1) g2]; exact hV.2.1 q g1 g2, fun q hq => by
      rcases List.mem_append.mp hq with h | h
      · exact hV.2.2 q h
      · exact hLc q h⟩ (by rw [e1]; exact hm) hL
  rw [List.map_append, show r.toList.map (to_V b) = (r.map (to_V b)).toList by cases r <;> rfl] at K2
  obtain ⟨t2, a1, b1⟩ := K2 T' rfl X'
  exact ⟨t2, st t2 a1, b1⟩
theorem wm_blind {b : Nat} {D : md_T} {X : mx_T} {av : List Value} : FrameBlind (va_Pc av (fun U => wm_K b D U ∧ mx_R b D X U.heap)) := fun a U g mk q => ⟨q.1, q.2.1.calling g mk a, q.2.2⟩
theorem wm_pre {k : mm_T} {p : Program} {s : State} {m : MethodId} {args : Array Value} {meth : Method} {c : Code} {b : Nat} {D : md_T} {H : Heap} {locs : List Loc} {av : List Value} (hS : wm_S k p s m args meth c b D) (hV : va_S (fun q => b ≤ q) s.heap H locs) (hX : mx_R b D X H) : ∀ U : State, U.heap = H → s.WarmedH U.vm → va_Pc av (fun U => wm_K b D U ∧ mx_R b D X U.heap) av.toArray U :=
  fun U hU hW => ⟨rfl, hS.2.2.2.2.2.2.2.2.1.warm hW (fun a h1 h2 => by rw [hU]; exact hV.2.1 a h1 h2), by rw [hU]; exact hX⟩
theorem rr_callV {k2 : mm_T} {i n d2 a ci mc2 ms2 mc1 ms1 : Nat} {As st0 rest : List vv_T} {Q2 : Option vv_T → mx_T → Prop} (hd : op_at k pc (.invokevirtual i) 3 np) (hc : cl_V k k2 i n) (hM : wm_C l k2 d2 mc2 ms2 (vv_A (some a) :: As) X Q2) (hdd : d2 + 1 ≤ d) (hk : kO a = ci) (hci : ci < 6) (hcn : ∀ q, mCl[ci]? = some q → q.1 = k2.1.cls) (ha : a < X.2.2.2)
    (hn : As.length = n) (hst : As.reverse ++ vv_A (some a) :: rest = st0) (hW : (rest.map vv_c).sum ≤ 8) (h1 : mc1 + mc2 = mc) (h2 : ms1 + ms2 = ms) (kk : ∀ (r : Option vv_T) (Y : mx_T), Q2 r Y → wm_W l k d mc1 ms1 np ls (r.toList ++ rest) Y Q) : wm_W l k d mc ms pc ls st0 X Q := by
  subst hst
  intro b D p e R s m args below meth c H locs cells slots MC MS arr hS hR hcl hs hV hX hL
  obtain ⟨hd, rfl⟩ := hd
  obtain ⟨⟨c1, c2, c3, c4, c5⟩, c6, c7⟩ := hc
  have hts := hS.2.2.2.2.2.1
  obtain ⟨r, g1, cell, q1, q2, q3, -⟩ := mx_at hX hk hci ha
  have hrc := hcn r g1
  have hrec : ∃ cellB : Cell, H[b + a]? = some cellB ∧ cellB.vm.isStatics = false ∧ s.vm.findClass k2.1.cls = some cellB.cls := ⟨cell, q1, by rw [q3]; rfl, by rw [q2, ← hrc]; exact (hS.2.2.2.2.2.2.2.2.1.1.1 ci r g1).2.1⟩
  refine wm_call (As := vv_A (some a) :: As) (rest := rest) (d := d) (k := k) (va_runV (As := As.map (to_V b)) (rest := rest.map (to_V b)) (C := k2.1.cls) ⟨hS.1, hS.2.1, hS.2.2.1, hS.2.2.2.2.1, hts⟩ (hM b D) ⟨callB_of n hts (gw_goodIn (k := k) c2) rfl rfl rfl (hts _ c3) (hts _ c1) c4 ⟨by show d2 + 1 ≤ _; omega, by show 8 + (k2.2.2.1 + 11) + 40 * d2 ≤ _; omega⟩, hts _ c6, hts _ c7⟩ ⟨wm_blind, hrec, wm_pre hS hV hX⟩ rfl (by rw [List.length_map]; exact hn) hL.1 ?_ (lv_room (by rw [sum_c]; exact hW)) hd ⟨by omega, by omega⟩) hS hR hcl hs hV hL h1 h2 kk
  show List.map (to_V b) (As.reverse ++ vv_A (some a) :: rest) = (As.map (to_V b)).reverse ++ _
  rw [List.map_append, List.map_reverse]
  rfl
theorem rr_callS {k2 : mm_T} {i n d2 mc2 ms2 mc1 ms1 : Nat} {As st0 rest : List vv_T} {Q2 : Option vv_T → mx_T → Prop} (hd : op_at k pc (.invokestatic i) 3 np) (hc : cl_S k k2 i n) (hM : wm_C l k2 d2 mc2 ms2 As X Q2) (hdd : d2 + 1 ≤ d)
    (hn : As.length = n) (hst : As.reverse ++ rest = st0) (hW : (rest.map vv_c).sum ≤ 8) (h1 : mc1 + mc2 = mc) (h2 : ms1 + ms2 = ms) (kk : ∀ (r : Option vv_T) (Y : mx_T), Q2 r Y → wm_W l k d mc1 ms1 np ls (r.toList ++ rest) Y Q) : wm_W l k d mc ms pc ls st0 X Q := by
  subst hst
  intro b D p e R s m args below meth c H locs cells slots MC MS arr hS hR hcl hs hV hX hL
  obtain ⟨hd, rfl⟩ := hd
  obtain ⟨⟨c1, c2, c3, c4, c5⟩, c6⟩ := hc
  have hts := hS.2.2.2.2.2.1
  refine wm_call (As := As) (rest := rest) (d := d) (k := k) (va_runS (As := As.map (to_V b)) (rest := rest.map (to_V b)) ⟨hS.1, hS.2.1, hS.2.2.1, hS.2.2.2.2.1, hts⟩ (hM b D) ⟨callB_of n hts (gw_goodIn (k := k) c2) rfl rfl rfl (hts _ c3) (hts _ c1) c4 ⟨by show d2 + 1 ≤ _; omega, by show 8 + (k2.2.2.1 + 11) + 40 * d2 ≤ _; omega⟩, hts _ c6⟩ ⟨wm_blind, wm_pre hS hV hX⟩ rfl (by rw [List.length_map]; exact hn) hL.1 ?_ (lv_room (by rw [sum_c]; exact hW)) hd ⟨by omega, by omega⟩) hS hR hcl hs hV hL h1 h2 kk
  show List.map (to_V b) (As.reverse ++ rest) = (As.map (to_V b)).reverse ++ _
  rw [List.map_append, List.map_reverse]
theorem rr_callSN {k2 : mm_T} {i n j d2 mc2 ms2 mc1 ms1 : Nat} {As st0 rest : List vv_T} {Q2 : Option vv_T → mx_T → Prop} (hd : op_at k pc (.invokestatic i) 3 np) (hc : cl_N k k2 i n j ∧ Cond.static k2.1 ∈ GW) (hM : wm_C l k2 d2 mc2 ms2 As X Q2) (hdd : d2 + 1 ≤ d)
    (hn : As.length = n) (hst : As.reverse ++ rest = st0) (hW : (rest.map vv_c).sum ≤ 8) (h1 : mc1 + mc2 = mc) (h2 : ms1 + ms2 = ms) (kk : ∀ (r : Option vv_T) (Y : mx_T), Q2 r Y → wm_W l k d mc1 ms1 np ls (r.toList ++ rest) Y Q) : wm_W l k d mc ms pc ls st0 X Q := by
  subst hst
  intro b D p e R s m args below meth c H locs cells slots MC MS arr hS hR hcl hs hV hX hL
  obtain ⟨hd, rfl⟩ := hd
  obtain ⟨⟨⟨qn, n1, n2⟩, c2, c3, c4, c5⟩, c6⟩ := hc
  have hts := hS.2.2.2.2.2.1
  have hN := hS.2.2.2.2.2.2.2.2.1.2.1 j qn n1
  rw [n2] at hN
  refine wm_call (As := As) (rest := rest) (d := d) (k := k) (va_runSN (As := As.map (to_V b)) (rest := rest.map (to_V b)) ⟨hS.1, hS.2.1, hS.2.2.1, hS.2.2.2.2.1, hts⟩ (hM b D) ⟨va_cnB n hts (gw_goodIn (k := k) c2) rfl rfl rfl hN (hts _ c3) c4 ⟨by show d2 + 1 ≤ _; omega, by show 8 + (k2.2.2.1 + 11) + 40 * d2 ≤ _; omega⟩, hts _ c6, trivial⟩ ⟨wm_blind, wm_pre hS hV hX⟩ rfl (by rw [List.length_map]; exact hn) hL.1 ?_ (lv_room (by rw [sum_c]; exact hW)) hd ⟨by omega, by omega⟩) hS hR hcl hs hV hL h1 h2 kk
  show List.map (to_V b) (As.reverse ++ rest) = (As.map (to_V b)).reverse ++ _
  rw [List.map_append, List.map_reverse]
theorem rr_callI {k2 : mm_T} {i n d2 a mc2 ms2 mc1 ms1 : Nat} {As st0 rest : List vv_T} {Q2 : Option vv_T → mx_T → Prop} (hd : op_at k pc (.invokespecial i) 3 np) (hc : cl_B k k2 i n ∧ Cond.instanceMethod k2.1 ∈ GW ∧ k2.1.name = "<init>" ∧ k2.2.2.2 = none) (hM : wm_C l k2 d2 mc2 ms2 (vv_A (some a) :: As) X Q2) (hdd : d2 + 1 ≤ d)
    (hn : As.length = n) (hst : As.reverse ++ vv_A (some a) :: rest = st0) (hW : (rest.map vv_c).sum ≤ 8) (h1 : mc1 + mc2 = mc) (h2 : ms1 + ms2 = ms) (kk : ∀ (r : Option vv_T) (Y : mx_T), Q2 r Y → wm_W l k d mc1 ms1 np ls (r.toList ++ rest) Y Q) : wm_W l k d mc ms pc ls st0 X Q := by
  subst hst
  intro b D p e R s m args below meth c H locs cells slots MC MS arr hS hR hcl hs hV hX hL
  obtain ⟨hd, rfl⟩ := hd
  obtain ⟨⟨c1, c2, c3, c4, c5⟩, c6, c7, c8⟩ := hc
  have hts := hS.2.2.2.2.2.1
  refine wm_call (As := vv_A (some a) :: As) (rest := rest) (d := d) (k := k) (va_runI (As := As.map (to_V b)) (rest := rest.map (to_V b)) (b := b + a) ⟨hS.1, hS.2.1, hS.2.2.1, hS.2.2.2.2.1, hts⟩ (hM b D) ⟨callB_of (ret := none) n hts (gw_goodIn (k := k) c2) (by rw [c8]) rfl rfl (hts _ c3) (hts _ c1) c4 ⟨by show d2 + 1 ≤ _; omega, by show 8 + (k2.2.2.1 + 11) + 40 * d2 ≤ _; omega⟩, c7, hts _ c6⟩ ⟨wm_blind, wm_pre hS hV hX⟩ rfl (by rw [List.length_map]; exact hn) hL.1 ?_ (lv_room (by rw [sum_c]; exact hW)) hd ⟨by omega, by omega⟩) hS hR hcl hs hV hL h1 h2 kk
  show List.map (to_V b) (As.reverse ++ vv_A (some a) :: rest) = (As.map (to_V b)).reverse ++ _
  rw [List.map_append, List.map_reverse]
  rfl
theorem rr_callIN {k2 : mm_T} {i n j d2 a mc2 ms2 mc1 ms1 : Nat} {As st0 rest : List vv_T} {Q2 : Option vv_T → mx_T → Prop} (hd : op_at k pc (.invokespecial i) 3 np) (hc : cl_N k k2 i n j ∧ Cond.instanceMethod k2.1 ∈ GW ∧ k2.1.name = "<init>" ∧ k2.2.2.2 = none) (hM : wm_C l k2 d2 mc2 ms2 (vv_A (some a) :: As) X Q2) (hdd : d2 + 1 ≤ d)
    (hn : As.length = n) (hst : As.reverse ++ vv_A (some a) :: rest = st0) (hW : (rest.map vv_c).sum ≤ 8) (h1 : mc1 + mc2 = mc) (h2 : ms1 + ms2 = ms) (kk : ∀ (r : Option vv_T) (Y : mx_T), Q2 r Y → wm_W l k d mc1 ms1 np ls (r.toList ++ rest) Y Q) : wm_W l k d mc ms pc ls st0 X Q := by
  subst hst
  intro b D p e R s m args below meth c H locs cells slots MC MS arr hS hR hcl hs hV hX hL
  obtain ⟨hd, rfl⟩ := hd
  obtain ⟨⟨⟨qn, n1, n2⟩, c2, c3, c4, c5⟩, c6, c7, c8⟩ := hc
  have hts := hS.2.2.2.2.2.1
  have hN := hS.2.2.2.2.2.2.2.2.1.2.1 j qn n1
  rw [n2] at hN
  refine wm_call (As := vv_A (some a) :: As) (rest := rest) (d := d) (k := k) (va_runIN (As := As.map (to_V b)) (rest := rest.map (to_V b)) (b := b + a) ⟨hS.1, hS.2.1, hS.2.2.1, hS.2.2.2.2.1, hts⟩ (hM b D) ⟨va_cnB (ret := none) n hts (gw_goodIn (k := k) c2) (by rw [c8]) rfl rfl hN (hts _ c3) c4 ⟨by show d2 + 1 ≤ _; omega, by show 8 + (k2.2.2.1 + 11) + 40 * d2 ≤ _; omega⟩, c7, hts _ c6⟩ ⟨wm_blind, wm_pre hS hV hX⟩ rfl (by rw [List.length_map]; exact hn) hL.1 ?_ (lv_room (by rw [sum_c]; exact hW)) hd ⟨by omega, by omega⟩) hS hR hcl hs hV hL h1 h2 kk
  show List.map (to_V b) (As.reverse ++ vv_A (some a) :: rest) = (As.map (to_V b)).reverse ++ _
  rw [List.map_append, List.map_reverse]
  rfl
end RR
end

section
-- ===== PART A: goes FIRST, ahead of the names: the tables' words, and 'selects' of the private methods out of them =====
/-- a private method of a class that the tables say can be made, by its rows of tables_1 -/
def lw_okq (q : MethodName × Nat) : Prop := (q.1.cls ≠ "java/lang/invoke/MethodHandle" ∧ q.1.cls ≠ "java/lang/invoke/VarHandle") ∧ Cond.instantiable q.1.cls q.2 ∈ tables_1 ∧ Cond.privateMethod q.1 ∈ tables_1 ∧ Cond.instanceMethod q.1 ∈ tables_1
theorem lw_p0 : lw_okq (⟨"GrudgeGlasses", "finding", "(I)I"⟩, 8) := ⟨⟨by decide +kernel, by decide +kernel⟩, List.mem_of_getElem? (i := 16) (by decide +kernel), List.mem_of_getElem? (i := 174) (by decide +kernel), List.mem_of_getElem? (i := 175) (by decide +kernel)⟩
theorem lw_p1 : lw_okq (⟨"GrudgeGlasses", "isThere", "(I)Z"⟩, 8) := ⟨⟨by decide +kernel, by decide +kernel⟩, List.mem_of_getElem? (i := 16) (by decide +kernel), List.mem_of_getElem? (i := 195) (by decide +kernel), List.mem_of_getElem? (i := 196) (by decide +kernel)⟩
theorem lw_p2 : lw_okq (⟨"GrudgeGlasses", "maySet", "(II)Z"⟩, 8) := ⟨⟨by decide +kernel, by decide +kernel⟩, List.mem_of_getElem? (i := 16) (by decide +kernel), List.mem_of_getElem? (i := 234) (by decide +kernel), List.mem_of_getElem? (i := 235) (by decide +kernel)⟩
theorem lw_p3 : lw_okq (⟨"GrudgeGlasses", "areTwo", "(II)Z"⟩, 8) := ⟨⟨by decide +kernel, by decide +kernel⟩, List.mem_of_getElem? (i := 16) (by decide +kernel), List.mem_of_getElem? (i := 272) (by decide +kernel), List.mem_of_getElem? (i := 273) (by decide +kernel)⟩
theorem lw_p4 : lw_okq (⟨"GrudgeGlasses", "trialOf", "(I)LGrudgeGlasses$One;"⟩, 8) := ⟨⟨by decide +kernel, by decide +kernel⟩, List.mem_of_getElem? (i := 16) (by decide +kernel), List.mem_of_getElem? (i := 331) (by decide +kernel), List.mem_of_getElem? (i := 332) (by decide +kernel)⟩
theorem lw_p5 : lw_okq (⟨"GrudgeGlasses", "daysOrNone", "(I)I"⟩, 8) := ⟨⟨by decide +kernel, by decide +kernel⟩, List.mem_of_getElem? (i := 16) (by decide +kernel), List.mem_of_getElem? (i := 357) (by decide +kernel), List.mem_of_getElem? (i := 358) (by decide +kernel)⟩
theorem lw_p6 : lw_okq (⟨"GrudgeGlasses$Quay", "sharpnessAtOthers", "(I)I"⟩, 4) := ⟨⟨by decide +kernel, by decide +kernel⟩, List.mem_of_getElem? (i := 24) (by decide +kernel), List.mem_of_getElem? (i := 405) (by decide +kernel), List.mem_of_getElem? (i := 406) (by decide +kernel)⟩
theorem lw_p7 : lw_okq (⟨"GrudgeGlasses", "faultOfSheet", "(I)I"⟩, 8) := ⟨⟨by decide +kernel, by decide +kernel⟩, List.mem_of_getElem? (i := 16) (by decide +kernel), List.mem_of_getElem? (i := 585) (by decide +kernel), List.mem_of_getElem? (i := 586) (by decide +kernel)⟩
theorem lw_p8 : lw_okq (⟨"GrudgeGlasses", "faultOfSheetFor", "(II)I"⟩, 8) := ⟨⟨by decide +kernel, by decide +kernel⟩, List.mem_of_getElem? (i := 16) (by decide +kernel), List.mem_of_getElem? (i := 618) (by decide +kernel), List.mem_of_getElem? (i := 619) (by decide +kernel)⟩
theorem lw_p9 : lw_okq (⟨"GrudgeGlassesModel", "finds", "(I)I"⟩, 15) := ⟨⟨by decide +kernel, by decide +kernel⟩, List.mem_of_getElem? (i := 657) (by decide +kernel), List.mem_of_getElem? (i := 717) (by decide +kernel), List.mem_of_getElem? (i := 718) (by decide +kernel)⟩
theorem lw_p10 : lw_okq (⟨"GrudgeGlassesModel", "comesAs", "(III)I"⟩, 15) := ⟨⟨by decide +kernel, by decide +kernel⟩, List.mem_of_getElem? (i := 657) (by decide +kernel), List.mem_of_getElem? (i := 722) (by decide +kernel), List.mem_of_getElem? (i := 723) (by decide +kernel)⟩
theorem lw_p11 : lw_okq (⟨"GrudgeGlassesModel", "put", "(III)V"⟩, 15) := ⟨⟨by decide +kernel, by decide +kernel⟩, List.mem_of_getElem? (i := 657) (by decide +kernel), List.mem_of_getElem? (i := 726) (by decide +kernel), List.mem_of_getElem? (i := 727) (by decide +kernel)⟩
theorem lw_p12 : lw_okq (⟨"GrudgeGlassesModel", "isPerson", "(I)Z"⟩, 15) := ⟨⟨by decide +kernel, by decide +kernel⟩, List.mem_of_getElem? (i := 657) (by decide +kernel), List.mem_of_getElem? (i := 734) (by decide +kernel), List.mem_of_getElem? (i := 735) (by decide +kernel)⟩
theorem lw_p13 : lw_okq (⟨"GrudgeGlassesModel", "it", "(II)I"⟩, 15) := ⟨⟨by decide +kernel, by decide +kernel⟩, List.mem_of_getElem? (i := 657) (by decide +kernel), List.mem_of_getElem? (i := 738) (by decide +kernel), List.mem_of_getElem? (i := 739) (by decide +kernel)⟩
theorem lw_p14 : lw_okq (⟨"GrudgeGlassesModel", "grinds", "(I)I"⟩, 15) := ⟨⟨by decide +kernel, by decide +kernel⟩, List.mem_of_getElem? (i := 657) (by decide +kernel), List.mem_of_getElem? (i := 742) (by decide +kernel), List.mem_of_getElem? (i := 743) (by decide +kernel)⟩
theorem lw_p15 : lw_okq (⟨"GrudgeGlassesModel", "eases", "(I)I"⟩, 15) := ⟨⟨by decide +kernel, by decide +kernel⟩, List.mem_of_getElem? (i := 657) (by decide +kernel), List.mem_of_getElem? (i := 749) (by decide +kernel), List.mem_of_getElem? (i := 750) (by decide +kernel)⟩
def lw_privs_1 : List (MethodName × Nat) := [(⟨"GrudgeGlasses", "finding", "(I)I"⟩, 8), (⟨"GrudgeGlasses", "isThere", "(I)Z"⟩, 8), (⟨"GrudgeGlasses", "maySet", "(II)Z"⟩, 8), (⟨"GrudgeGlasses", "areTwo", "(II)Z"⟩, 8), (⟨"GrudgeGlasses", "trialOf", "(I)LGrudgeGlasses$One;"⟩, 8), (⟨"GrudgeGlasses", "daysOrNone", "(I)I"⟩, 8), (⟨"GrudgeGlasses$Quay", "sharpnessAtOthers", "(I)I"⟩, 4), (⟨"GrudgeGlasses", "faultOfSheet", "(I)I"⟩, 8), (⟨"GrudgeGlasses", "faultOfSheetFor", "(II)I"⟩, 8), (⟨"GrudgeGlassesModel", "finds", "(I)I"⟩, 15), (⟨"GrudgeGlassesModel", "comesAs", "(III)I"⟩, 15), (⟨"GrudgeGlassesModel", "put", "(III)V"⟩, 15), (⟨"GrudgeGlassesModel", "isPerson", "(I)Z"⟩, 15), (⟨"GrudgeGlassesModel", "it", "(II)I"⟩, 15), (⟨"GrudgeGlassesModel", "grinds", "(I)I"⟩, 15), (⟨"GrudgeGlassesModel", "eases", "(I)I"⟩, 15)]
theorem lw_r1 : ∀ q ∈ lw_privs_1, lw_okq q := List.forall_mem_cons.mpr ⟨lw_p0, List.forall_mem_cons.mpr ⟨lw_p1, List.forall_mem_cons.mpr ⟨lw_p2, List.forall_mem_cons.mpr ⟨lw_p3, List.forall_mem_cons.mpr ⟨lw_p4, List.forall_mem_cons.mpr ⟨lw_p5, List.forall_mem_cons.mpr ⟨lw_p6, List.forall_mem_cons.mpr ⟨lw_p7, List.forall_mem_cons.mpr ⟨lw_p8, List.forall_mem_cons.mpr ⟨lw_p9, List.forall_mem_cons.mpr ⟨lw_p10, List.forall_mem_cons.mpr ⟨lw_p11, List.forall_mem_cons.mpr ⟨lw_p12, List.forall_mem_cons.mpr ⟨lw_p13, List.forall_mem_cons.mpr ⟨lw_p14, List.forall_mem_cons.mpr ⟨lw_p15, fun _ h => absurd h List.not_mem_nil⟩⟩⟩⟩⟩⟩⟩⟩⟩⟩⟩⟩⟩⟩⟩⟩
theorem lw_p16 : lw_okq (⟨"GrudgeGlassesModel", "sight", "(I)I"⟩, 15) := ⟨⟨by decide +kernel, by decide +kernel⟩, List.mem_of_getElem? (i := 657) (by decide +kernel), List.mem_of_getElem? (i := 753) (by decide +kernel), List.mem_of_getElem? (i := 754) (by decide +kernel)⟩
theorem lw_p17 : lw_okq (⟨"GrudgeGlassesModel", "looksAt", "(II)I"⟩, 15) := ⟨⟨by decide +kernel, by decide +kernel⟩, List.mem_of_getElem? (i := 657) (by decide +kernel), List.mem_of_getElem? (i := 757) (by decide +kernel), List.mem_of_getElem? (i := 758) (by decide +kernel)⟩
theorem lw_p18 : lw_okq (⟨"GrudgeGlassesModel", "grows", "(I)I"⟩, 15) := ⟨⟨by decide +kernel, by decide +kernel⟩, List.mem_of_getElem? (i := 657) (by decide +kernel), List.mem_of_getElem? (i := 761) (by decide +kernel), List.mem_of_getElem? (i := 762) (by decide +kernel)⟩
theorem lw_p19 : lw_okq (⟨"GrudgeGlassesModel", "mayBe", "(II)Z"⟩, 15) := ⟨⟨by decide +kernel, by decide +kernel⟩, List.mem_of_getElem? (i := 657) (by decide +kernel), List.mem_of_getElem? (i := 769) (by decide +kernel), List.mem_of_getElem? (i := 770) (by decide +kernel)⟩
theorem lw_p20 : lw_okq (⟨"GrudgeGlassesModel", "becomes", "(II)I"⟩, 15) := ⟨⟨by decide +kernel, by decide +kernel⟩, List.mem_of_getElem? (i := 657) (by decide +kernel), List.mem_of_getElem? (i := 773) (by decide +kernel), List.mem_of_getElem? (i := 774) (by decide +kernel)⟩
theorem lw_p21 : lw_okq (⟨"GrudgeGlassesModel", "isGround", "(I)I"⟩, 15) := ⟨⟨by decide +kernel, by decide +kernel⟩, List.mem_of_getElem? (i := 657) (by decide +kernel), List.mem_of_getElem? (i := 791) (by decide +kernel), List.mem_of_getElem? (i := 792) (by decide +kernel)⟩
theorem lw_p22 : lw_okq (⟨"GrudgeGlassesModel", "areTwo", "(II)Z"⟩, 15) := ⟨⟨by decide +kernel, by decide +kernel⟩, List.mem_of_getElem? (i := 657) (by decide +kernel), List.mem_of_getElem? (i := 799) (by decide +kernel), List.mem_of_getElem? (i := 800) (by decide +kernel)⟩
theorem lw_p23 : lw_okq (⟨"GrudgeGlassesModel", "lends", "(II)V"⟩, 15) := ⟨⟨by decide +kernel, by decide +kernel⟩, List.mem_of_getElem? (i := 657) (by decide +kernel), List.mem_of_getElem? (i := 803) (by decide +kernel), List.mem_of_getElem? (i := 804) (by decide +kernel)⟩
theorem lw_p24 : lw_okq (⟨"GrudgeGlassesModel", "seesBy", "(II)I"⟩, 15) := ⟨⟨by decide +kernel, by decide +kernel⟩, List.mem_of_getElem? (i := 657) (by decide +kernel), List.mem_of_getElem? (i := 815) (by decide +kernel), List.mem_of_getElem? (i := 816) (by decide +kernel)⟩
theorem lw_p25 : lw_okq (⟨"GrudgeGlassesModel", "goesFor", "(I)V"⟩, 15) := ⟨⟨by decide +kernel, by decide +kernel⟩, List.mem_of_getElem? (i := 657) (by decide +kernel), List.mem_of_getElem? (i := 823) (by decide +kernel), List.mem_of_getElem? (i := 824) (by decide +kernel)⟩
theorem lw_p26 : lw_okq (⟨"GrudgeGlassesModel", "goes", "()V"⟩, 15) := ⟨⟨by decide +kernel, by decide +kernel⟩, List.mem_of_getElem? (i := 657) (by decide +kernel), List.mem_of_getElem? (i := 827) (by decide +kernel), List.mem_of_getElem? (i := 828) (by decide +kernel)⟩
theorem lw_p27 : lw_okq (⟨"GrudgeGlassesModel", "sums", "(I)I"⟩, 15) := ⟨⟨by decide +kernel, by decide +kernel⟩, List.mem_of_getElem? (i := 657) (by decide +kernel), List.mem_of_getElem? (i := 831) (by decide +kernel), List.mem_of_getElem? (i := 832) (by decide +kernel)⟩
theorem lw_p28 : lw_okq (⟨"GrudgeGlassesModel", "thoseWith", "(II)I"⟩, 15) := ⟨⟨by decide +kernel, by decide +kernel⟩, List.mem_of_getElem? (i := 657) (by decide +kernel), List.mem_of_getElem? (i := 839) (by decide +kernel), List.mem_of_getElem? (i := 840) (by decide +kernel)⟩
theorem lw_p29 : lw_okq (⟨"GrudgeGlassesModel", "seen", "()I"⟩, 15) := ⟨⟨by decide +kernel, by decide +kernel⟩, List.mem_of_getElem? (i := 657) (by decide +kernel), List.mem_of_getElem? (i := 843) (by decide +kernel), List.mem_of_getElem? (i := 844) (by decide +kernel)⟩
theorem lw_p30 : lw_okq (⟨"GrudgeGlassesModel", "thinks", "()V"⟩, 15) := ⟨⟨by decide +kernel, by decide +kernel⟩, List.mem_of_getElem? (i := 657) (by decide +kernel), List.mem_of_getElem? (i := 851) (by decide +kernel), List.mem_of_getElem? (i := 852) (by decide +kernel)⟩
theorem lw_p31 : lw_okq (⟨"GrudgeGlassesModel", "putsBack", "()V"⟩, 15) := ⟨⟨by decide +kernel, by decide +kernel⟩, List.mem_of_getElem? (i := 657) (by decide +kernel), List.mem_of_getElem? (i := 858) (by decide +kernel), List.mem_of_getElem? (i := 859) (by decide +kernel)⟩
def lw_privs_2 : List (MethodName × Nat) := [(⟨"GrudgeGlassesModel", "sight", "(I)I"⟩, 15), (⟨"GrudgeGlassesModel", "looksAt", "(II)I"⟩, 15), (⟨"GrudgeGlassesModel", "grows", "(I)I"⟩, 15), (⟨"GrudgeGlassesModel", "mayBe", "(II)Z"⟩, 15), (⟨"GrudgeGlassesModel", "becomes", "(II)I"⟩, 15), (⟨"GrudgeGlassesModel", "isGround", "(I)I"⟩, 15), (⟨"GrudgeGlassesModel", "areTwo", "(II)Z"⟩, 15), (⟨"GrudgeGlassesModel", "lends", "(II)V"⟩, 15), (⟨"GrudgeGlassesModel", "seesBy", "(II)I"⟩, 15), (⟨"GrudgeGlassesModel", "goesFor", "(I)V"⟩, 15), (⟨"GrudgeGlassesModel", "goes", "()V"⟩, 15), (⟨"GrudgeGlassesModel", "sums", "(I)I"⟩, 15), (⟨"GrudgeGlassesModel", "thoseWith", "(II)I"⟩, 15), (⟨"GrudgeGlassesModel", "seen", "()I"⟩, 15), (⟨"GrudgeGlassesModel", "thinks", "()V"⟩, 15), (⟨"GrudgeGlassesModel", "putsBack", "()V"⟩, 15)]
theorem lw_r2 : ∀ q ∈ lw_privs_2, lw_okq q := List.forall_mem_cons.mpr ⟨lw_p16, List.forall_mem_cons.mpr ⟨lw_p17, List.forall_mem_cons.mpr ⟨lw_p18, List.forall_mem_cons.mpr ⟨lw_p19, List.forall_mem_cons.mpr ⟨lw_p20, List.forall_mem_cons.mpr ⟨lw_p21, List.forall_mem_cons.mpr ⟨lw_p22, List.forall_mem_cons.mpr ⟨lw_p23, List.forall_mem_cons.mpr ⟨lw_p24, List.forall_mem_cons.mpr ⟨lw_p25, List.forall_mem_cons.mpr ⟨lw_p26, List.forall_mem_cons.mpr ⟨lw_p27, List.forall_mem_cons.mpr ⟨lw_p28, List.forall_mem_cons.mpr ⟨lw_p29, List.forall_mem_cons.mpr ⟨lw_p30, List.forall_mem_cons.mpr ⟨lw_p31, fun _ h => absurd h List.not_mem_nil⟩⟩⟩⟩⟩⟩⟩⟩⟩⟩⟩⟩⟩⟩⟩⟩
theorem lw_p32 : lw_okq (⟨"GrudgeGlassesModel", "easedIn", "(I)I"⟩, 15) := ⟨⟨by decide +kernel, by decide +kernel⟩, List.mem_of_getElem? (i := 657) (by decide +kernel), List.mem_of_getElem? (i := 870) (by decide +kernel), List.mem_of_getElem? (i := 871) (by decide +kernel)⟩
theorem lw_p33 : lw_okq (⟨"GrudgeGlassesModel", "orNone", "(I)I"⟩, 15) := ⟨⟨by decide +kernel, by decide +kernel⟩, List.mem_of_getElem? (i := 657) (by decide +kernel), List.mem_of_getElem? (i := 874) (by decide +kernel), List.mem_of_getElem? (i := 875) (by decide +kernel)⟩
theorem lw_p34 : lw_okq (⟨"GrudgeGlassesModel", "grudgeOn", "(II)I"⟩, 15) := ⟨⟨by decide +kernel, by decide +kernel⟩, List.mem_of_getElem? (i := 657) (by decide +kernel), List.mem_of_getElem? (i := 899) (by decide +kernel), List.mem_of_getElem? (i := 900) (by decide +kernel)⟩
theorem lw_p35 : lw_okq (⟨"GrudgeGlassesModel", "allLooks", "(I)I"⟩, 15) := ⟨⟨by decide +kernel, by decide +kernel⟩, List.mem_of_getElem? (i := 657) (by decide +kernel), List.mem_of_getElem? (i := 911) (by decide +kernel), List.mem_of_getElem? (i := 912) (by decide +kernel)⟩
theorem lw_p36 : lw_okq (⟨"GrudgeGlassesModel", "areSeen", "(I)Z"⟩, 15) := ⟨⟨by decide +kernel, by decide +kernel⟩, List.mem_of_getElem? (i := 657) (by decide +kernel), List.mem_of_getElem? (i := 922) (by decide +kernel), List.mem_of_getElem? (i := 923) (by decide +kernel)⟩
theorem lw_p37 : lw_okq (⟨"GrudgeGlassesModel", "reads", "()V"⟩, 15) := ⟨⟨by decide +kernel, by decide +kernel⟩, List.mem_of_getElem? (i := 657) (by decide +kernel), List.mem_of_getElem? (i := 938) (by decide +kernel), List.mem_of_getElem? (i := 939) (by decide +kernel)⟩
theorem lw_p38 : lw_okq (⟨"GrudgeGlassesModel", "isByte", "(III)Z"⟩, 15) := ⟨⟨by decide +kernel, by decide +kernel⟩, List.mem_of_getElem? (i := 657) (by decide +kernel), List.mem_of_getElem? (i := 942) (by decide +kernel), List.mem_of_getElem? (i := 943) (by decide +kernel)⟩
theorem lw_p39 : lw_okq (⟨"GrudgeGlassesModel", "wordHere", "()I"⟩, 15) := ⟨⟨by decide +kernel, by decide +kernel⟩, List.mem_of_getElem? (i := 657) (by decide +kernel), List.mem_of_getElem? (i := 946) (by decide +kernel), List.mem_of_getElem? (i := 947) (by decide +kernel)⟩
theorem lw_p40 : lw_okq (⟨"GrudgeGlassesModel", "isName", "(II)Z"⟩, 15) := ⟨⟨by decide +kernel, by decide +kernel⟩, List.mem_of_getElem? (i := 657) (by decide +kernel), List.mem_of_getElem? (i := 950) (by decide +kernel), List.mem_of_getElem? (i := 951) (by decide +kernel)⟩
theorem lw_p41 : lw_okq (⟨"GrudgeGlassesModel", "item", "()V"⟩, 15) := ⟨⟨by decide +kernel, by decide +kernel⟩, List.mem_of_getElem? (i := 657) (by decide +kernel), List.mem_of_getElem? (i := 956) (by decide +kernel), List.mem_of_getElem? (i := 957) (by decide +kernel)⟩
theorem lw_p42 : lw_okq (⟨"GrudgeGlassesModel", "personItem", "()V"⟩, 15) := ⟨⟨by decide +kernel, by decide +kernel⟩, List.mem_of_getElem? (i := 657) (by decide +kernel), List.mem_of_getElem? (i := 960) (by decide +kernel), List.mem_of_getElem? (i := 961) (by decide +kernel)⟩
theorem lw_p43 : lw_okq (⟨"GrudgeGlassesModel", "perhaps", "(IIII)I"⟩, 15) := ⟨⟨by decide +kernel, by decide +kernel⟩, List.mem_of_getElem? (i := 657) (by decide +kernel), List.mem_of_getElem? (i := 964) (by decide +kernel), List.mem_of_getElem? (i := 965) (by decide +kernel)⟩
theorem lw_p44 : lw_okq (⟨"GrudgeGlassesModel", "passes", "(I)Z"⟩, 15) := ⟨⟨by decide +kernel, by decide +kernel⟩, List.mem_of_getElem? (i := 657) (by decide +kernel), List.mem_of_getElem? (i := 968) (by decide +kernel), List.mem_of_getElem? (i := 969) (by decide +kernel)⟩
theorem lw_p45 : lw_okq (⟨"GrudgeGlassesModel", "number", "(II)I"⟩, 15) := ⟨⟨by decide +kernel, by decide +kernel⟩, List.mem_of_getElem? (i := 657) (by decide +kernel), List.mem_of_getElem? (i := 972) (by decide +kernel), List.mem_of_getElem? (i := 973) (by decide +kernel)⟩
theorem lw_p46 : lw_okq (⟨"GrudgeGlassesModel", "grindItem", "()V"⟩, 15) := ⟨⟨by decide +kernel, by decide +kernel⟩, List.mem_of_getElem? (i := 657) (by decide +kernel), List.mem_of_getElem? (i := 976) (by decide +kernel), List.mem_of_getElem? (i := 977) (by decide +kernel)⟩
theorem lw_p47 : lw_okq (⟨"GrudgeGlassesModel", "notThere", "(I)I"⟩, 15) := ⟨⟨by decide +kernel, by decide +kernel⟩, List.mem_of_getElem? (i := 657) (by decide +kernel), List.mem_of_getElem? (i := 992) (by decide +kernel), List.mem_of_getElem? (i := 993) (by decide +kernel)⟩
def lw_privs_3 : List (MethodName × Nat) := [(⟨"GrudgeGlassesModel", "easedIn", "(I)I"⟩, 15), (⟨"GrudgeGlassesModel", "orNone", "(I)I"⟩, 15), (⟨"GrudgeGlassesModel", "grudgeOn", "(II)I"⟩, 15), (⟨"GrudgeGlassesModel", "allLooks", "(I)I"⟩, 15), (⟨"GrudgeGlassesModel", "areSeen", "(I)Z"⟩, 15), (⟨"GrudgeGlassesModel", "reads", "()V"⟩, 15), (⟨"GrudgeGlassesModel", "isByte", "(III)Z"⟩, 15), (⟨"GrudgeGlassesModel", "wordHere", "()I"⟩, 15), (⟨"GrudgeGlassesModel", "isName", "(II)Z"⟩, 15), (⟨"GrudgeGlassesModel", "item", "()V"⟩, 15), (⟨"GrudgeGlassesModel", "personItem", "()V"⟩, 15), (⟨"GrudgeGlassesModel", "perhaps", "(IIII)I"⟩, 15), (⟨"GrudgeGlassesModel", "passes", "(I)Z"⟩, 15), (⟨"GrudgeGlassesModel", "number", "(II)I"⟩, 15), (⟨"GrudgeGlassesModel", "grindItem", "()V"⟩, 15), (⟨"GrudgeGlassesModel", "notThere", "(I)I"⟩, 15)]
theorem lw_r3 : ∀ q ∈ lw_privs_3, lw_okq q := List.forall_mem_cons.mpr ⟨lw_p32, List.forall_mem_cons.mpr ⟨lw_p33, List.forall_mem_cons.mpr ⟨lw_p34, List.forall_mem_cons.mpr ⟨lw_p35, List.forall_mem_cons.mpr ⟨lw_p36, List.forall_mem_cons.mpr ⟨lw_p37, List.forall_mem_cons.mpr ⟨lw_p38, List.forall_mem_cons.mpr ⟨lw_p39, List.forall_mem_cons.mpr ⟨lw_p40, List.forall_mem_cons.mpr ⟨lw_p41, List.forall_mem_cons.mpr ⟨lw_p42, List.forall_mem_cons.mpr ⟨lw_p43, List.forall_mem_cons.mpr ⟨lw_p44, List.forall_mem_cons.mpr ⟨lw_p45, List.forall_mem_cons.mpr ⟨lw_p46, List.forall_mem_cons.mpr ⟨lw_p47, fun _ h => absurd h List.not_mem_nil⟩⟩⟩⟩⟩⟩⟩⟩⟩⟩⟩⟩⟩⟩⟩⟩
theorem lw_p48 : lw_okq (⟨"GrudgeGlassesModel", "notCopied", "(IIIII)I"⟩, 15) := ⟨⟨by decide +kernel, by decide +kernel⟩, List.mem_of_getElem? (i := 657) (by decide +kernel), List.mem_of_getElem? (i := 1004) (by decide +kernel), List.mem_of_getElem? (i := 1005) (by decide +kernel)⟩
theorem lw_p49 : lw_okq (⟨"GrudgeGlassesModel", "notAsked", "(II)I"⟩, 15) := ⟨⟨by decide +kernel, by decide +kernel⟩, List.mem_of_getElem? (i := 657) (by decide +kernel), List.mem_of_getElem? (i := 1016) (by decide +kernel), List.mem_of_getElem? (i := 1017) (by decide +kernel)⟩
theorem lw_p50 : lw_okq (⟨"GrudgeGlassesModel", "isBook", "(II)Z"⟩, 15) := ⟨⟨by decide +kernel, by decide +kernel⟩, List.mem_of_getElem? (i := 657) (by decide +kernel), List.mem_of_getElem? (i := 1024) (by decide +kernel), List.mem_of_getElem? (i := 1025) (by decide +kernel)⟩
def lw_privs_4 : List (MethodName × Nat) := [(⟨"GrudgeGlassesModel", "notCopied", "(IIIII)I"⟩, 15), (⟨"GrudgeGlassesModel", "notAsked", "(II)I"⟩, 15), (⟨"GrudgeGlassesModel", "isBook", "(II)Z"⟩, 15)]
theorem lw_r4 : ∀ q ∈ lw_privs_4, lw_okq q := List.forall_mem_cons.mpr ⟨lw_p48, List.forall_mem_cons.mpr ⟨lw_p49, List.forall_mem_cons.mpr ⟨lw_p50, fun _ h => absurd h List.not_mem_nil⟩⟩⟩
def lw_privs : List (MethodName × Nat) := lw_privs_1 ++ (lw_privs_2 ++ (lw_privs_3 ++ (lw_privs_4)))
def lw_tbl : List Cond := k2_sels lw_privs ++ tables_1
theorem lw_privs_ok : ∀ q ∈ lw_privs, lw_okq q := by
  show ∀ q ∈ lw_privs_1 ++ (lw_privs_2 ++ (lw_privs_3 ++ (lw_privs_4))), lw_okq q
  exact List.forall_mem_append.mpr ⟨lw_r1, List.forall_mem_append.mpr ⟨lw_r2, List.forall_mem_append.mpr ⟨lw_r3, lw_r4⟩⟩⟩
end
section
def RX0 : String := "GrudgeGlasses$One"
def TX0 : u_T := fun k => match k with
  | 0 => ("GrudgeGlasses$One", "number", "I", false)
  | 1 => ("GrudgeGlasses$One", "kind", "I", false)
  | 2 => ("GrudgeGlasses$One", "grudge", "I", false)
  | 3 => ("GrudgeGlasses$One", "at", "I", false)
  | 4 => ("GrudgeGlasses$One", "up", "I", false)
  | 5 => ("GrudgeGlasses$One", "shows", "I", false)
  | 6 => ("GrudgeGlasses$One", "power", "I", false)
  | _ => ("GrudgeGlasses$One", "worn", "I", false)
def tyX0 : Nat → FieldType := fun k => match k with
  | 0 => .int
  | 1 => .int
  | 2 => .int
  | 3 => .int
  | 4 => .int
  | 5 => .int
  | 6 => .int
  | _ => .int
theorem nmX0 : ∀ a, a < 8 → ∀ b, b < 8 → a ≠ b → (TX0 a).2.1 ≠ (TX0 b).2.1 := by decide +kernel
theorem tyX0_ok : ∀ k, k < 8 → parseFieldDescriptor (TX0 k).2.2.1 = some (tyX0 k) := by decide +kernel
abbrev cX0_init : ByteArray := prog_2_method_1_code
def yX0_init : MethodName := ⟨RX0, "<init>", "()V"⟩
abbrev cX0_begin : ByteArray := prog_2_method_2_code
def yX0_begin : MethodName := ⟨RX0, "begin", "(II)V"⟩
abbrev cX0_become : ByteArray := prog_2_method_3_code
def yX0_become : MethodName := ⟨RX0, "become", "(LGrudgeGlasses$One;)V"⟩
abbrev cX0_takePairOf : ByteArray := prog_2_method_4_code
def yX0_takePairOf : MethodName := ⟨RX0, "takePairOf", "(LGrudgeGlasses$One;)V"⟩
abbrev cX0_told : ByteArray := prog_2_method_5_code
def yX0_told : MethodName := ⟨RX0, "told", "(I)I"⟩
abbrev cX0_put : ByteArray := prog_2_method_6_code
def yX0_put : MethodName := ⟨RX0, "put", "(II)V"⟩
abbrev cX0_haveGround : ByteArray := prog_2_method_7_code
def yX0_haveGround : MethodName := ⟨RX0, "haveGround", "()V"⟩
abbrev cX0_grinding : ByteArray := prog_2_method_8_code
def yX0_grinding : MethodName := ⟨RX0, "grinding", "()I"⟩
abbrev cX0_sharpnessAt : ByteArray := prog_2_method_9_code
def yX0_sharpnessAt : MethodName := ⟨RX0, "sharpnessAt", "(I)I"⟩
abbrev cX0_sharpnessAtItsOne : ByteArray := prog_2_method_10_code
def yX0_sharpnessAtItsOne : MethodName := ⟨RX0, "sharpnessAtItsOne", "()I"⟩
abbrev cX0_forgiving : ByteArray := prog_2_method_11_code
def yX0_forgiving : MethodName := ⟨RX0, "forgiving", "(I)I"⟩
abbrev cX0_growing : ByteArray := prog_2_method_12_code
def yX0_growing : MethodName := ⟨RX0, "growing", "(I)I"⟩
abbrev cX0_letDayGo : ByteArray := prog_2_method_13_code
def yX0_letDayGo : MethodName := ⟨RX0, "letDayGo", "()V"⟩
abbrev cX0_letDaysGo : ByteArray := prog_2_method_14_code
def yX0_letDaysGo : MethodName := ⟨RX0, "letDaysGo", "(I)V"⟩
def RX1 : String := "GrudgeGlasses$Quay"
def TX1 : u_T := fun k => match k with
  | 0 => ("GrudgeGlasses$Quay", "day", "I", false)
  | 1 => ("GrudgeGlasses$Quay", "count", "I", false)
  | 2 => ("GrudgeGlasses$Quay", "people", "[LGrudgeGlasses$One;", true)
  | _ => ("GrudgeGlasses$Quay", "seenBy", "[I", true)
def tyX1 : Nat → FieldType := fun k => match k with
  | 0 => .int
  | 1 => .int
  | 2 => .array (.object "GrudgeGlasses$One")
  | _ => .array .int
theorem nmX1 : ∀ a, a < 4 → ∀ b, b < 4 → a ≠ b → (TX1 a).2.1 ≠ (TX1 b).2.1 := by decide +kernel
theorem tyX1_ok : ∀ k, k < 4 → parseFieldDescriptor (TX1 k).2.2.1 = some (tyX1 k) := by decide +kernel
abbrev cX1_init : ByteArray := prog_3_method_1_code
def yX1_init : MethodName := ⟨RX1, "<init>", "()V"⟩
abbrev cX1_become : ByteArray := prog_3_method_2_code
def yX1_become : MethodName := ⟨RX1, "become", "(LGrudgeGlasses$Quay;)V"⟩
abbrev cX1_isFull : ByteArray := prog_3_method_3_code
def yX1_isFull : MethodName := ⟨RX1, "isFull", "()Z"⟩
abbrev cX1_welcome : ByteArray := prog_3_method_4_code
def yX1_welcome : MethodName := ⟨RX1, "welcome", "(I)LGrudgeGlasses$One;"⟩
abbrev cX1_letDaysGo : ByteArray := prog_3_method_5_code
def yX1_letDaysGo : MethodName := ⟨RX1, "letDaysGo", "(I)V"⟩
abbrev cX1_all : ByteArray := prog_3_method_6_code
def yX1_all : MethodName := ⟨RX1, "all", "()I"⟩
abbrev cX1_grudges : ByteArray := prog_3_method_7_code
def yX1_grudges : MethodName := ⟨RX1, "grudges", "()I"⟩
abbrev cX1_wornTogether : ByteArray := prog_3_method_8_code
def yX1_wornTogether : MethodName := ⟨RX1, "wornTogether", "()I"⟩
abbrev cX1_pairsThatShowNobody : ByteArray := prog_3_method_9_code
def yX1_pairsThatShowNobody : MethodName := ⟨RX1, "pairsThatShowNobody", "()I"⟩
abbrev cX1_thoseWithoutGrudge : ByteArray := prog_3_method_10_code
def yX1_thoseWithoutGrudge : MethodName := ⟨RX1, "thoseWithoutGrudge", "()I"⟩
abbrev cX1_thoseUp : ByteArray := prog_3_method_11_code
def yX1_thoseUp : MethodName := ⟨RX1, "thoseUp", "()I"⟩
abbrev cX1_othersAsSharpAs : ByteArray := prog_3_method_12_code
def yX1_othersAsSharpAs : MethodName := ⟨RX1, "othersAsSharpAs", "(II)I"⟩
abbrev cX1_thoseSeen : ByteArray := prog_3_method_13_code
def yX1_thoseSeen : MethodName := ⟨RX1, "thoseSeen", "()I"⟩
abbrev cX1_noteWhoSeesWhom : ByteArray := prog_3_method_14_code
def yX1_noteWhoSeesWhom : MethodName := ⟨RX1, "noteWhoSeesWhom", "()V"⟩
abbrev cX1_seenWithUp : ByteArray := prog_3_method_15_code
def yX1_seenWithUp : MethodName := ⟨RX1, "seenWithUp", "(I)I"⟩
abbrev cX1_sharpestOfAll : ByteArray := prog_3_method_16_code
def yX1_sharpestOfAll : MethodName := ⟨RX1, "sharpestOfAll", "()I"⟩
abbrev cX1_sharpnessAtOthers : ByteArray := prog_3_method_17_code
def yX1_sharpnessAtOthers : MethodName := ⟨RX1, "sharpnessAtOthers", "(I)I"⟩
def RX2 : String := "GrudgeGlasses$Sheet"
def TX2 : u_T := fun k => match k with
  | 0 => ("GrudgeGlasses$Sheet", "bits", "I", false)
  | 1 => ("GrudgeGlasses$Sheet", "size", "I", false)
  | _ => ("GrudgeGlasses$Sheet", "numbers", "[J", true)
def tyX2 : Nat → FieldType := fun k => match k with
  | 0 => .int
  | 1 => .int
  | _ => .array .long
theorem nmX2 : ∀ a, a < 3 → ∀ b, b < 3 → a ≠ b → (TX2 a).2.1 ≠ (TX2 b).2.1 := by decide +kernel
theorem tyX2_ok : ∀ k, k < 3 → parseFieldDescriptor (TX2 k).2.2.1 = some (tyX2 k) := by decide +kernel
abbrev cX2_init : ByteArray := prog_4_method_1_code
def yX2_init : MethodName := ⟨RX2, "<init>", "()V"⟩
abbrev cX2_begin : ByteArray := prog_4_method_2_code
def yX2_begin : MethodName := ⟨RX2, "begin", "(II)V"⟩
abbrev cX2_isMissing : ByteArray := prog_4_method_3_code
def yX2_isMissing : MethodName := ⟨RX2, "isMissing", "()Z"⟩
abbrev cX2_has : ByteArray := prog_4_method_4_code
def yX2_has : MethodName := ⟨RX2, "has", "(II)Z"⟩
abbrev cX2_put : ByteArray := prog_4_method_5_code
def yX2_put : MethodName := ⟨RX2, "put", "(IJ)V"⟩
def RX3 : String := "GrudgeGlasses$Tape"
def TX3 : u_T := fun k => match k with
  | 0 => ("GrudgeGlasses$Tape", "bytes", "[I", true)
  | 1 => ("GrudgeGlasses$Tape", "length", "I", false)
  | 2 => ("GrudgeGlasses$Tape", "token", "I", false)
  | 3 => ("GrudgeGlasses$Tape", "start", "I", false)
  | _ => ("GrudgeGlasses$Tape", "end", "I", false)
def tyX3 : Nat → FieldType := fun k => match k with
  | 0 => .array .int
  | 1 => .int
  | 2 => .int
  | 3 => .int
  | _ => .int
theorem nmX3 : ∀ a, a < 5 → ∀ b, b < 5 → a ≠ b → (TX3 a).2.1 ≠ (TX3 b).2.1 := by decide +kernel
theorem tyX3_ok : ∀ k, k < 5 → parseFieldDescriptor (TX3 k).2.2.1 = some (tyX3 k) := by decide +kernel
abbrev cX3_init : ByteArray := prog_5_method_1_code
def yX3_init : MethodName := ⟨RX3, "<init>", "()V"⟩
abbrev cX3_add : ByteArray := prog_5_method_2_code
def yX3_add : MethodName := ⟨RX3, "add", "(I)V"⟩
abbrev cX3_rewind : ByteArray := prog_5_method_3_code
def yX3_rewind : MethodName := ⟨RX3, "rewind", "()V"⟩
abbrev cX3_step : ByteArray := prog_5_method_4_code
def yX3_step : MethodName := ⟨RX3, "step", "()V"⟩
abbrev cX3_isLetter : ByteArray := prog_5_method_5_code
def yX3_isLetter : MethodName := ⟨RX3, "isLetter", "(I)Z"⟩
abbrev cX3_isDigit : ByteArray := prog_5_method_6_code
def yX3_isDigit : MethodName := ⟨RX3, "isDigit", "(I)Z"⟩
abbrev cX3_isAtEnd : ByteArray := prog_5_method_7_code
def yX3_isAtEnd : MethodName := ⟨RX3, "isAtEnd", "()Z"⟩
abbrev cX3_isAtSign : ByteArray := prog_5_method_8_code
def yX3_isAtSign : MethodName := ⟨RX3, "isAtSign", "()Z"⟩
abbrev cX3_isAtWord : ByteArray := prog_5_method_9_code
def yX3_isAtWord : MethodName := ⟨RX3, "isAtWord", "(Ljava/lang/String;)Z"⟩
abbrev cX3_isAtNumberBelow : ByteArray := prog_5_method_10_code
def yX3_isAtNumberBelow : MethodName := ⟨RX3, "isAtNumberBelow", "(I)Z"⟩
abbrev cX3_number : ByteArray := prog_5_method_11_code
def yX3_number : MethodName := ⟨RX3, "number", "()I"⟩
def RX4 : String := "GrudgeGlasses$Text"
def TX4 : u_T := fun k => match k with
  | _ => ("", "", "", false)
def tyX4 : Nat → FieldType := fun k => match k with
  | _ => .int
theorem nmX4 : ∀ a, a < 0 → ∀ b, b < 0 → a ≠ b → (TX4 a).2.1 ≠ (TX4 b).2.1 := by decide +kernel
theorem tyX4_ok : ∀ k, k < 0 → parseFieldDescriptor (TX4 k).2.2.1 = some (tyX4 k) := by decide +kernel
abbrev cX4_items : ByteArray := prog_6_method_2_code
def yX4_items : MethodName := ⟨RX4, "items", "(LGrudgeGlasses$Tape;LGrudgeGlasses$Quay;)I"⟩
abbrev cX4_takesItem : ByteArray := prog_6_method_3_code
def yX4_takesItem : MethodName := ⟨RX4, "takesItem", "(LGrudgeGlasses$Tape;LGrudgeGlasses$Quay;)Z"⟩
abbrev cX4_takesOne : ByteArray := prog_6_method_4_code
def yX4_takesOne : MethodName := ⟨RX4, "takesOne", "(LGrudgeGlasses$Tape;LGrudgeGlasses$Quay;I)Z"⟩
abbrev cX4_takesGrind : ByteArray := prog_6_method_5_code
def yX4_takesGrind : MethodName := ⟨RX4, "takesGrind", "(LGrudgeGlasses$Tape;LGrudgeGlasses$Quay;)Z"⟩
abbrev cX4_takesUp : ByteArray := prog_6_method_6_code
def yX4_takesUp : MethodName := ⟨RX4, "takesUp", "(LGrudgeGlasses$Tape;LGrudgeGlasses$Quay;I)Z"⟩
abbrev cX4_kindThere : ByteArray := prog_6_method_7_code
def yX4_kindThere : MethodName := ⟨RX4, "kindThere", "(LGrudgeGlasses$Tape;)I"⟩
abbrev cX4_nameOf : ByteArray := prog_6_method_8_code
def yX4_nameOf : MethodName := ⟨RX4, "nameOf", "(I)Ljava/lang/String;"⟩
def RX5 : String := "GrudgeGlasses"
def TX5 : u_T := fun k => match k with
  | 0 => ("GrudgeGlasses", "here", "LGrudgeGlasses$Quay;", true)
  | 1 => ("GrudgeGlasses", "kept", "LGrudgeGlasses$Quay;", true)
  | 2 => ("GrudgeGlasses", "trial", "LGrudgeGlasses$Quay;", true)
  | 3 => ("GrudgeGlasses", "trialOne", "LGrudgeGlasses$One;", true)
  | 4 => ("GrudgeGlasses", "tape", "LGrudgeGlasses$Tape;", true)
  | 5 => ("GrudgeGlasses", "sheets", "[LGrudgeGlasses$Sheet;", true)
  | 6 => ("GrudgeGlasses", "found", "[I", true)
  | _ => ("GrudgeGlasses", "isKept", "Z", false)
def tyX5 : Nat → FieldType := fun k => match k with
  | 0 => .object "GrudgeGlasses$Quay"
  | 1 => .object "GrudgeGlasses$Quay"
  | 2 => .object "GrudgeGlasses$Quay"
  | 3 => .object "GrudgeGlasses$One"
  | 4 => .object "GrudgeGlasses$Tape"
  | 5 => .array (.object "GrudgeGlasses$Sheet")
  | 6 => .array .int
  | _ => .boolean
theorem nmX5 : ∀ a, a < 8 → ∀ b, b < 8 → a ≠ b → (TX5 a).2.1 ≠ (TX5 b).2.1 := by decide +kernel
theorem tyX5_ok : ∀ k, k < 8 → parseFieldDescriptor (TX5 k).2.2.1 = some (tyX5 k) := by decide +kernel
abbrev cX5_init : ByteArray := prog_1_method_1_code
def yX5_init : MethodName := ⟨RX5, "<init>", "()V"⟩
abbrev cX5_person : ByteArray := prog_1_method_2_code
def yX5_person : MethodName := ⟨RX5, "person", "(I)I"⟩
abbrev cX5_of : ByteArray := prog_1_method_3_code
def yX5_of : MethodName := ⟨RX5, "of", "(II)I"⟩
abbrev cX5_set : ByteArray := prog_1_method_4_code
def yX5_set : MethodName := ⟨RX5, "set", "(III)I"⟩
abbrev cX5_turn : ByteArray := prog_1_method_5_code
def yX5_turn : MethodName := ⟨RX5, "turn", "(II)I"⟩
abbrev cX5_as : ByteArray := prog_1_method_6_code
def yX5_as : MethodName := ⟨RX5, "as", "(II)I"⟩
abbrev cX5_grind : ByteArray := prog_1_method_7_code
def yX5_grind : MethodName := ⟨RX5, "grind", "(I)I"⟩
abbrev cX5_lend : ByteArray := prog_1_method_8_code
def yX5_lend : MethodName := ⟨RX5, "lend", "(II)I"⟩
abbrev cX5_looks : ByteArray := prog_1_method_9_code
def yX5_looks : MethodName := ⟨RX5, "looks", "(II)I"⟩
abbrev cX5_sees : ByteArray := prog_1_method_10_code
def yX5_sees : MethodName := ⟨RX5, "sees", "(II)I"⟩
abbrev cX5_days : ByteArray := prog_1_method_11_code
def yX5_days : MethodName := ⟨RX5, "days", "(I)I"⟩
abbrev cX5_now : ByteArray := prog_1_method_12_code
def yX5_now : MethodName := ⟨RX5, "now", "(I)I"⟩
abbrev cX5_on : ByteArray := prog_1_method_13_code
def yX5_on : MethodName := ⟨RX5, "on", "(III)I"⟩
abbrev cX5_then : ByteArray := prog_1_method_14_code
def yX5_then : MethodName := ⟨RX5, "then", "(III)I"⟩
abbrev cX5_forgives : ByteArray := prog_1_method_15_code
def yX5_forgives : MethodName := ⟨RX5, "forgives", "(I)I"⟩
abbrev cX5_worn : ByteArray := prog_1_method_16_code
def yX5_worn : MethodName := ⟨RX5, "worn", "(I)I"⟩
abbrev cX5_unseen : ByteArray := prog_1_method_17_code
def yX5_unseen : MethodName := ⟨RX5, "unseen", "(I)I"⟩
abbrev cX5_borrow : ByteArray := prog_1_method_18_code
def yX5_borrow : MethodName := ⟨RX5, "borrow", "(I)I"⟩
abbrev cX5_kind : ByteArray := prog_1_method_19_code
def yX5_kind : MethodName := ⟨RX5, "kind", "(I)I"⟩
abbrev cX5_better : ByteArray := prog_1_method_20_code
def yX5_better : MethodName := ⟨RX5, "better", "(II)I"⟩
abbrev cX5_most : ByteArray := prog_1_method_21_code
def yX5_most : MethodName := ⟨RX5, "most", "(II)I"⟩
abbrev cX5_sharpest : ByteArray := prog_1_method_22_code
def yX5_sharpest : MethodName := ⟨RX5, "sharpest", "(I)I"⟩
abbrev cX5_push : ByteArray := prog_1_method_23_code
def yX5_push : MethodName := ⟨RX5, "push", "()I"⟩
abbrev cX5_feed : ByteArray := prog_1_method_24_code
def yX5_feed : MethodName := ⟨RX5, "feed", "(II)I"⟩
abbrev cX5_wipe : ByteArray := prog_1_method_25_code
def yX5_wipe : MethodName := ⟨RX5, "wipe", "()I"⟩
abbrev cX5_quay : ByteArray := prog_1_method_26_code
def yX5_quay : MethodName := ⟨RX5, "quay", "()I"⟩
abbrev cX5_sheet : ByteArray := prog_1_method_27_code
def yX5_sheet : MethodName := ⟨RX5, "sheet", "(III)I"⟩
abbrev cX5_write : ByteArray := prog_1_method_28_code
def yX5_write : MethodName := ⟨RX5, "write", "(IIJ)J"⟩
abbrev cX5_copy : ByteArray := prog_1_method_29_code
def yX5_copy : MethodName := ⟨RX5, "copy", "(IIIII)I"⟩
abbrev cX5_lays : ByteArray := prog_1_method_30_code
def yX5_lays : MethodName := ⟨RX5, "lays", "(I)I"⟩
abbrev cX5_book : ByteArray := prog_1_method_31_code
def yX5_book : MethodName := ⟨RX5, "book", "(II)I"⟩
abbrev cX5_read : ByteArray := prog_1_method_32_code
def yX5_read : MethodName := ⟨RX5, "read", "(II)I"⟩
abbrev cX5_image : ByteArray := prog_1_method_33_code
def yX5_image : MethodName := ⟨RX5, "image", "()I"⟩
abbrev cX5_undo : ByteArray := prog_1_method_34_code
def yX5_undo : MethodName := ⟨RX5, "undo", "()I"⟩
abbrev cX5_tear : ByteArray := prog_1_method_35_code
def yX5_tear : MethodName := ⟨RX5, "tear", "()I"⟩
abbrev cX5_count : ByteArray := prog_1_method_36_code
def yX5_count : MethodName := ⟨RX5, "count", "(I)I"⟩
abbrev cX5_status : ByteArray := prog_1_method_37_code
def yX5_status : MethodName := ⟨RX5, "status", "(I)I"⟩
abbrev cX5_finding : ByteArray := prog_1_method_38_code
def yX5_finding : MethodName := ⟨RX5, "finding", "(I)I"⟩
abbrev cX5_daysOrNone : ByteArray := prog_1_method_39_code
def yX5_daysOrNone : MethodName := ⟨RX5, "daysOrNone", "(I)I"⟩
abbrev cX5_isThere : ByteArray := prog_1_method_40_code
def yX5_isThere : MethodName := ⟨RX5, "isThere", "(I)Z"⟩
abbrev cX5_areTwo : ByteArray := prog_1_method_41_code
def yX5_areTwo : MethodName := ⟨RX5, "areTwo", "(II)Z"⟩
abbrev cX5_maySet : ByteArray := prog_1_method_42_code
def yX5_maySet : MethodName := ⟨RX5, "maySet", "(II)Z"⟩
abbrev cX5_trialOf : ByteArray := prog_1_method_43_code
def yX5_trialOf : MethodName := ⟨RX5, "trialOf", "(I)LGrudgeGlasses$One;"⟩
abbrev cX5_faultOfSheet : ByteArray := prog_1_method_44_code
def yX5_faultOfSheet : MethodName := ⟨RX5, "faultOfSheet", "(I)I"⟩
abbrev cX5_faultOfSheetFor : ByteArray := prog_1_method_45_code
def yX5_faultOfSheetFor : MethodName := ⟨RX5, "faultOfSheetFor", "(II)I"⟩
abbrev cX5_isUpTo : ByteArray := prog_1_method_46_code
def yX5_isUpTo : MethodName := ⟨RX5, "isUpTo", "(II)Z"⟩
abbrev cX5_isSheet : ByteArray := prog_1_method_47_code
def yX5_isSheet : MethodName := ⟨RX5, "isSheet", "(I)Z"⟩
abbrev cX5_isKind : ByteArray := prog_1_method_48_code
def yX5_isKind : MethodName := ⟨RX5, "isKind", "(I)Z"⟩
abbrev cX5_isOrIsUnder : ByteArray := prog_1_method_49_code
def yX5_isOrIsUnder : MethodName := ⟨RX5, "isOrIsUnder", "(II)Z"⟩
abbrev cX5_daysTillForgiven : ByteArray := prog_1_method_50_code
def yX5_daysTillForgiven : MethodName := ⟨RX5, "daysTillForgiven", "(LGrudgeGlasses$One;)I"⟩
abbrev cX5_daysTillWornOut : ByteArray := prog_1_method_51_code
def yX5_daysTillWornOut : MethodName := ⟨RX5, "daysTillWornOut", "(LGrudgeGlasses$One;)I"⟩
abbrev cX5_daysTillUnseen : ByteArray := prog_1_method_52_code
def yX5_daysTillUnseen : MethodName := ⟨RX5, "daysTillUnseen", "(LGrudgeGlasses$Quay;I)I"⟩
abbrev cX5_goesAsTold : ByteArray := prog_1_method_53_code
def yX5_goesAsTold : MethodName := ⟨RX5, "goesAsTold", "(LGrudgeGlasses$One;LGrudgeGlasses$Sheet;)Z"⟩
def RX6 : String := "GrudgeGlassesModel"
def TX6 : u_T := fun k => match k with
  | 0 => ("GrudgeGlassesModel", "m", "[I", true)
  | 1 => ("GrudgeGlassesModel", "kept", "[I", true)
  | 2 => ("GrudgeGlassesModel", "was", "[I", true)
  | 3 => ("GrudgeGlassesModel", "isKept", "Z", false)
  | 4 => ("GrudgeGlassesModel", "found", "[I", true)
  | 5 => ("GrudgeGlassesModel", "tape", "[I", true)
  | 6 => ("GrudgeGlassesModel", "taped", "I", false)
  | 7 => ("GrudgeGlassesModel", "token", "I", false)
  | 8 => ("GrudgeGlassesModel", "begin", "I", false)
  | 9 => ("GrudgeGlassesModel", "at", "I", false)
  | 10 => ("GrudgeGlassesModel", "value", "I", false)
  | 11 => ("GrudgeGlassesModel", "bad", "Z", false)
  | 12 => ("GrudgeGlassesModel", "bitsOf", "[I", true)
  | 13 => ("GrudgeGlassesModel", "sizeOf", "[I", true)
  | _ => ("GrudgeGlassesModel", "cells", "[J", true)
def tyX6 : Nat → FieldType := fun k => match k with
  | 0 => .array .int
  | 1 => .array .int
  | 2 => .array .int
  | 3 => .boolean
  | 4 => .array .int
  | 5 => .array .int
  | 6 => .int
  | 7 => .int
  | 8 => .int
  | 9 => .int
  | 10 => .int
  | 11 => .boolean
  | 12 => .array .int
  | 13 => .array .int
  | _ => .array .long
theorem nmX6 : ∀ a, a < 15 → ∀ b, b < 15 → a ≠ b → (TX6 a).2.1 ≠ (TX6 b).2.1 := by decide +kernel
theorem tyX6_ok : ∀ k, k < 15 → parseFieldDescriptor (TX6 k).2.2.1 = some (tyX6 k) := by decide +kernel
abbrev cX6_init : ByteArray := prog_8_method_1_code
def yX6_init : MethodName := ⟨RX6, "<init>", "()V"⟩
abbrev cX6_finds : ByteArray := prog_8_method_2_code
def yX6_finds : MethodName := ⟨RX6, "finds", "(I)I"⟩
abbrev cX6_orNone : ByteArray := prog_8_method_3_code
def yX6_orNone : MethodName := ⟨RX6, "orNone", "(I)I"⟩
abbrev cX6_in : ByteArray := prog_8_method_4_code
def yX6_in : MethodName := ⟨RX6, "in", "(JII)Z"⟩
abbrev cX6_held : ByteArray := prog_8_method_5_code
def yX6_held : MethodName := ⟨RX6, "held", "(III)I"⟩
abbrev cX6_copyAll : ByteArray := prog_8_method_6_code
def yX6_copyAll : MethodName := ⟨RX6, "copyAll", "([I[I)V"⟩
abbrev cX6_bits : ByteArray := prog_8_method_7_code
def yX6_bits : MethodName := ⟨RX6, "bits", "(I)I"⟩
abbrev cX6_becomes : ByteArray := prog_8_method_8_code
def yX6_becomes : MethodName := ⟨RX6, "becomes", "(II)I"⟩
abbrev cX6_isPerson : ByteArray := prog_8_method_9_code
def yX6_isPerson : MethodName := ⟨RX6, "isPerson", "(I)Z"⟩
abbrev cX6_areTwo : ByteArray := prog_8_method_10_code
def yX6_areTwo : MethodName := ⟨RX6, "areTwo", "(II)Z"⟩
abbrev cX6_it : ByteArray := prog_8_method_11_code
def yX6_it : MethodName := ⟨RX6, "it", "(II)I"⟩
abbrev cX6_put : ByteArray := prog_8_method_12_code
def yX6_put : MethodName := ⟨RX6, "put", "(III)V"⟩
abbrev cX6_grinds : ByteArray := prog_8_method_13_code
def yX6_grinds : MethodName := ⟨RX6, "grinds", "(I)I"⟩
abbrev cX6_looksAt : ByteArray := prog_8_method_14_code
def yX6_looksAt : MethodName := ⟨RX6, "looksAt", "(II)I"⟩
abbrev cX6_sight : ByteArray := prog_8_method_15_code
def yX6_sight : MethodName := ⟨RX6, "sight", "(I)I"⟩
abbrev cX6_eases : ByteArray := prog_8_method_16_code
def yX6_eases : MethodName := ⟨RX6, "eases", "(I)I"⟩
abbrev cX6_grows : ByteArray := prog_8_method_17_code
def yX6_grows : MethodName := ⟨RX6, "grows", "(I)I"⟩
abbrev cX6_comesAs : ByteArray := prog_8_method_18_code
def yX6_comesAs : MethodName := ⟨RX6, "comesAs", "(III)I"⟩
abbrev cX6_person : ByteArray := prog_8_method_19_code
def yX6_person : MethodName := ⟨RX6, "person", "(I)I"⟩
abbrev cX6_of : ByteArray := prog_8_method_20_code
def yX6_of : MethodName := ⟨RX6, "of", "(II)I"⟩
abbrev cX6_mayBe : ByteArray := prog_8_method_21_code
def yX6_mayBe : MethodName := ⟨RX6, "mayBe", "(II)Z"⟩
abbrev cX6_set : ByteArray := prog_8_method_22_code
def yX6_set : MethodName := ⟨RX6, "set", "(III)I"⟩
abbrev cX6_turn : ByteArray := prog_8_method_23_code
def yX6_turn : MethodName := ⟨RX6, "turn", "(II)I"⟩
abbrev cX6_as : ByteArray := prog_8_method_24_code
def yX6_as : MethodName := ⟨RX6, "as", "(II)I"⟩
abbrev cX6_isGround : ByteArray := prog_8_method_25_code
def yX6_isGround : MethodName := ⟨RX6, "isGround", "(I)I"⟩
abbrev cX6_grind : ByteArray := prog_8_method_26_code
def yX6_grind : MethodName := ⟨RX6, "grind", "(I)I"⟩
abbrev cX6_lends : ByteArray := prog_8_method_27_code
def yX6_lends : MethodName := ⟨RX6, "lends", "(II)V"⟩
abbrev cX6_lend : ByteArray := prog_8_method_28_code
def yX6_lend : MethodName := ⟨RX6, "lend", "(II)I"⟩
abbrev cX6_looks : ByteArray := prog_8_method_29_code
def yX6_looks : MethodName := ⟨RX6, "looks", "(II)I"⟩
abbrev cX6_seesBy : ByteArray := prog_8_method_30_code
def yX6_seesBy : MethodName := ⟨RX6, "seesBy", "(II)I"⟩
abbrev cX6_sees : ByteArray := prog_8_method_31_code
def yX6_sees : MethodName := ⟨RX6, "sees", "(II)I"⟩
abbrev cX6_goes : ByteArray := prog_8_method_32_code
def yX6_goes : MethodName := ⟨RX6, "goes", "()V"⟩
abbrev cX6_goesFor : ByteArray := prog_8_method_33_code
def yX6_goesFor : MethodName := ⟨RX6, "goesFor", "(I)V"⟩
abbrev cX6_sums : ByteArray := prog_8_method_34_code
def yX6_sums : MethodName := ⟨RX6, "sums", "(I)I"⟩
abbrev cX6_days : ByteArray := prog_8_method_35_code
def yX6_days : MethodName := ⟨RX6, "days", "(I)I"⟩
abbrev cX6_seen : ByteArray := prog_8_method_36_code
def yX6_seen : MethodName := ⟨RX6, "seen", "()I"⟩
abbrev cX6_thoseWith : ByteArray := prog_8_method_37_code
def yX6_thoseWith : MethodName := ⟨RX6, "thoseWith", "(II)I"⟩
abbrev cX6_now : ByteArray := prog_8_method_38_code
def yX6_now : MethodName := ⟨RX6, "now", "(I)I"⟩
abbrev cX6_thinks : ByteArray := prog_8_method_39_code
def yX6_thinks : MethodName := ⟨RX6, "thinks", "()V"⟩
abbrev cX6_putsBack : ByteArray := prog_8_method_40_code
def yX6_putsBack : MethodName := ⟨RX6, "putsBack", "()V"⟩
abbrev cX6_on : ByteArray := prog_8_method_41_code
def yX6_on : MethodName := ⟨RX6, "on", "(III)I"⟩
abbrev cX6_then : ByteArray := prog_8_method_42_code
def yX6_then : MethodName := ⟨RX6, "then", "(III)I"⟩
abbrev cX6_easedIn : ByteArray := prog_8_method_43_code
def yX6_easedIn : MethodName := ⟨RX6, "easedIn", "(I)I"⟩
abbrev cX6_forgives : ByteArray := prog_8_method_44_code
def yX6_forgives : MethodName := ⟨RX6, "forgives", "(I)I"⟩
abbrev cX6_worn : ByteArray := prog_8_method_45_code
def yX6_worn : MethodName := ⟨RX6, "worn", "(I)I"⟩
abbrev cX6_unseen : ByteArray := prog_8_method_46_code
def yX6_unseen : MethodName := ⟨RX6, "unseen", "(I)I"⟩
abbrev cX6_borrow : ByteArray := prog_8_method_47_code
def yX6_borrow : MethodName := ⟨RX6, "borrow", "(I)I"⟩
abbrev cX6_kind : ByteArray := prog_8_method_48_code
def yX6_kind : MethodName := ⟨RX6, "kind", "(I)I"⟩
abbrev cX6_grudgeOn : ByteArray := prog_8_method_49_code
def yX6_grudgeOn : MethodName := ⟨RX6, "grudgeOn", "(II)I"⟩
abbrev cX6_better : ByteArray := prog_8_method_50_code
def yX6_better : MethodName := ⟨RX6, "better", "(II)I"⟩
abbrev cX6_most : ByteArray := prog_8_method_51_code
def yX6_most : MethodName := ⟨RX6, "most", "(II)I"⟩
abbrev cX6_allLooks : ByteArray := prog_8_method_52_code
def yX6_allLooks : MethodName := ⟨RX6, "allLooks", "(I)I"⟩
abbrev cX6_sharpest : ByteArray := prog_8_method_53_code
def yX6_sharpest : MethodName := ⟨RX6, "sharpest", "(I)I"⟩
abbrev cX6_areSeen : ByteArray := prog_8_method_54_code
def yX6_areSeen : MethodName := ⟨RX6, "areSeen", "(I)Z"⟩
abbrev cX6_push : ByteArray := prog_8_method_55_code
def yX6_push : MethodName := ⟨RX6, "push", "()I"⟩
abbrev cX6_feed : ByteArray := prog_8_method_56_code
def yX6_feed : MethodName := ⟨RX6, "feed", "(II)I"⟩
abbrev cX6_wipe : ByteArray := prog_8_method_57_code
def yX6_wipe : MethodName := ⟨RX6, "wipe", "()I"⟩
abbrev cX6_isByte : ByteArray := prog_8_method_58_code
def yX6_isByte : MethodName := ⟨RX6, "isByte", "(III)Z"⟩
abbrev cX6_isName : ByteArray := prog_8_method_59_code
def yX6_isName : MethodName := ⟨RX6, "isName", "(II)Z"⟩
abbrev cX6_wordHere : ByteArray := prog_8_method_60_code
def yX6_wordHere : MethodName := ⟨RX6, "wordHere", "()I"⟩
abbrev cX6_reads : ByteArray := prog_8_method_61_code
def yX6_reads : MethodName := ⟨RX6, "reads", "()V"⟩
abbrev cX6_passes : ByteArray := prog_8_method_62_code
def yX6_passes : MethodName := ⟨RX6, "passes", "(I)Z"⟩
abbrev cX6_number : ByteArray := prog_8_method_63_code
def yX6_number : MethodName := ⟨RX6, "number", "(II)I"⟩
abbrev cX6_perhaps : ByteArray := prog_8_method_64_code
def yX6_perhaps : MethodName := ⟨RX6, "perhaps", "(IIII)I"⟩
abbrev cX6_personItem : ByteArray := prog_8_method_65_code
def yX6_personItem : MethodName := ⟨RX6, "personItem", "()V"⟩
abbrev cX6_grindItem : ByteArray := prog_8_method_66_code
def yX6_grindItem : MethodName := ⟨RX6, "grindItem", "()V"⟩
abbrev cX6_item : ByteArray := prog_8_method_67_code
def yX6_item : MethodName := ⟨RX6, "item", "()V"⟩
abbrev cX6_quay : ByteArray := prog_8_method_68_code
def yX6_quay : MethodName := ⟨RX6, "quay", "()I"⟩
abbrev cX6_isSheet : ByteArray := prog_8_method_69_code
def yX6_isSheet : MethodName := ⟨RX6, "isSheet", "(I)Z"⟩
abbrev cX6_sheet : ByteArray := prog_8_method_70_code
def yX6_sheet : MethodName := ⟨RX6, "sheet", "(III)I"⟩
abbrev cX6_notThere : ByteArray := prog_8_method_71_code
def yX6_notThere : MethodName := ⟨RX6, "notThere", "(I)I"⟩
abbrev cX6_cutTo : ByteArray := prog_8_method_72_code
def yX6_cutTo : MethodName := ⟨RX6, "cutTo", "(IJ)J"⟩
abbrev cX6_write : ByteArray := prog_8_method_73_code
def yX6_write : MethodName := ⟨RX6, "write", "(IIJ)J"⟩
abbrev cX6_notCopied : ByteArray := prog_8_method_74_code
def yX6_notCopied : MethodName := ⟨RX6, "notCopied", "(IIIII)I"⟩
abbrev cX6_copy : ByteArray := prog_8_method_75_code
def yX6_copy : MethodName := ⟨RX6, "copy", "(IIIII)I"⟩
abbrev cX6_lays : ByteArray := prog_8_method_76_code
def yX6_lays : MethodName := ⟨RX6, "lays", "(I)I"⟩
abbrev cX6_notAsked : ByteArray := prog_8_method_77_code
def yX6_notAsked : MethodName := ⟨RX6, "notAsked", "(II)I"⟩
abbrev cX6_book : ByteArray := prog_8_method_78_code
def yX6_book : MethodName := ⟨RX6, "book", "(II)I"⟩
abbrev cX6_isBook : ByteArray := prog_8_method_79_code
def yX6_isBook : MethodName := ⟨RX6, "isBook", "(II)Z"⟩
abbrev cX6_read : ByteArray := prog_8_method_80_code
def yX6_read : MethodName := ⟨RX6, "read", "(II)I"⟩
abbrev cX6_image : ByteArray := prog_8_method_81_code
def yX6_image : MethodName := ⟨RX6, "image", "()I"⟩
abbrev cX6_undo : ByteArray := prog_8_method_82_code
def yX6_undo : MethodName := ⟨RX6, "undo", "()I"⟩
abbrev cX6_tear : ByteArray := prog_8_method_83_code
def yX6_tear : MethodName := ⟨RX6, "tear", "()I"⟩
abbrev cX6_count : ByteArray := prog_8_method_84_code
def yX6_count : MethodName := ⟨RX6, "count", "(I)I"⟩
abbrev cX6_status : ByteArray := prog_8_method_85_code
def yX6_status : MethodName := ⟨RX6, "status", "(I)I"⟩
def RJ6 : String := "java/lang/Integer"
def TJ6 : u_T := fun k => match k with
  | _ => ("", "", "", false)
def tyJ6 : Nat → FieldType := fun k => match k with
  | _ => .int
theorem nmJ6 : ∀ a, a < 0 → ∀ b, b < 0 → a ≠ b → (TJ6 a).2.1 ≠ (TJ6 b).2.1 := by decide +kernel
theorem tyJ6_ok : ∀ k, k < 0 → parseFieldDescriptor (TJ6 k).2.2.1 = some (tyJ6 k) := by decide +kernel
abbrev cJ6_bitCount_0f7a4 : ByteArray := prog_9_method_49_code
def yJ6_bitCount_0f7a4 : MethodName := ⟨RJ6, "bitCount", "(I)I"⟩
def RJ9 : String := "java/lang/Math"
def TJ9 : u_T := fun k => match k with
  | _ => ("", "", "", false)
def tyJ9 : Nat → FieldType := fun k => match k with
  | _ => .int
theorem nmJ9 : ∀ a, a < 0 → ∀ b, b < 0 → a ≠ b → (TJ9 a).2.1 ≠ (TJ9 b).2.1 := by decide +kernel
theorem tyJ9_ok : ∀ k, k < 0 → parseFieldDescriptor (TJ9 k).2.2.1 = some (tyJ9 k) := by decide +kernel
abbrev cJ9_max_7cf53 : ByteArray := prog_10_method_65_code
def yJ9_max_7cf53 : MethodName := ⟨RJ9, "max", "(II)I"⟩
abbrev cJ9_min_7cf53 : ByteArray := prog_10_method_69_code
def yJ9_min_7cf53 : MethodName := ⟨RJ9, "min", "(II)I"⟩
def RJ0 : String := "java/lang/String"
def TJ0 : u_T := fun k => match k with
  | _ => ("", "", "", false)
def tyJ0 : Nat → FieldType := fun k => match k with
  | _ => .int
theorem nmJ0 : ∀ a, a < 0 → ∀ b, b < 0 → a ≠ b → (TJ0 a).2.1 ≠ (TJ0 b).2.1 := by decide +kernel
theorem tyJ0_ok : ∀ k, k < 0 → parseFieldDescriptor (TJ0 k).2.2.1 = some (tyJ0 k) := by decide +kernel
abbrev cJ0_length_8abf5 : ByteArray := prog_11_method_54_code
def yJ0_length_8abf5 : MethodName := ⟨RJ0, "length", "()I"⟩
abbrev cJ0_charAt_5068e : ByteArray := prog_11_method_56_code
def yJ0_charAt_5068e : MethodName := ⟨RJ0, "charAt", "(I)C"⟩
abbrev cJ0_coder_7d493 : ByteArray := prog_11_method_152_code
def yJ0_coder_7d493 : MethodName := ⟨RJ0, "coder", "()B"⟩
abbrev cJ0_isLatin1_aae02 : ByteArray := prog_11_method_154_code
def yJ0_isLatin1_aae02 : MethodName := ⟨RJ0, "isLatin1", "()Z"⟩
abbrev cJ0_checkIndex_df160 : ByteArray := prog_11_method_155_code
def yJ0_checkIndex_df160 : MethodName := ⟨RJ0, "checkIndex", "(II)V"⟩
def RJ1 : String := "java/lang/StringLatin1"
def TJ1 : u_T := fun k => match k with
  | _ => ("", "", "", false)
def tyJ1 : Nat → FieldType := fun k => match k with
  | _ => .int
theorem nmJ1 : ∀ a, a < 0 → ∀ b, b < 0 → a ≠ b → (TJ1 a).2.1 ≠ (TJ1 b).2.1 := by decide +kernel
theorem tyJ1_ok : ∀ k, k < 0 → parseFieldDescriptor (TJ1 k).2.2.1 = some (tyJ1 k) := by decide +kernel
abbrev cJ1_charAt_3b067 : ByteArray := prog_12_method_2_code
def yJ1_charAt_3b067 : MethodName := ⟨RJ1, "charAt", "([BI)C"⟩
def RJ2 : String := "java/lang/StringUTF16"
def TJ2 : u_T := fun k => match k with
  | _ => ("", "", "", false)
def tyJ2 : Nat → FieldType := fun k => match k with
  | _ => .int
theorem nmJ2 : ∀ a, a < 0 → ∀ b, b < 0 → a ≠ b → (TJ2 a).2.1 ≠ (TJ2 b).2.1 := by decide +kernel
theorem tyJ2_ok : ∀ k, k < 0 → parseFieldDescriptor (TJ2 k).2.2.1 = some (tyJ2 k) := by decide +kernel
abbrev cJ2_getChar_3b067 : ByteArray := prog_13_method_5_code
def yJ2_getChar_3b067 : MethodName := ⟨RJ2, "getChar", "([BI)C"⟩
abbrev cJ2_length_9d52b : ByteArray := prog_13_method_6_code
def yJ2_length_9d52b : MethodName := ⟨RJ2, "length", "([B)I"⟩
abbrev cJ2_charAt_3b067 : ByteArray := prog_13_method_83_code
def yJ2_charAt_3b067 : MethodName := ⟨RJ2, "charAt", "([BI)C"⟩
abbrev cJ2_checkIndex_2214a : ByteArray := prog_13_method_91_code
def yJ2_checkIndex_2214a : MethodName := ⟨RJ2, "checkIndex", "(I[B)V"⟩
def RJ10 : String := "java/lang/System"
def TJ10 : u_T := fun k => match k with
  | _ => ("", "", "", false)
def tyJ10 : Nat → FieldType := fun k => match k with
  | _ => .int
theorem nmJ10 : ∀ a, a < 0 → ∀ b, b < 0 → a ≠ b → (TJ10 a).2.1 ≠ (TJ10 b).2.1 := by decide +kernel
theorem tyJ10_ok : ∀ k, k < 0 → parseFieldDescriptor (TJ10 k).2.2.1 = some (tyJ10 k) := by decide +kernel
def RJ3 : String := "jdk/internal/util/Preconditions"
def TJ3 : u_T := fun k => match k with
  | _ => ("", "", "", false)
def tyJ3 : Nat → FieldType := fun k => match k with
  | _ => .int
theorem nmJ3 : ∀ a, a < 0 → ∀ b, b < 0 → a ≠ b → (TJ3 a).2.1 ≠ (TJ3 b).2.1 := by decide +kernel
theorem tyJ3_ok : ∀ k, k < 0 → parseFieldDescriptor (TJ3 k).2.2.1 = some (tyJ3 k) := by decide +kernel
abbrev cJ3_checkIndex_8e157 : ByteArray := prog_15_method_11_code
def yJ3_checkIndex_8e157 : MethodName := ⟨RJ3, "checkIndex", "(IILjava/util/function/BiFunction;)I"⟩
def RL : String := "GrudgeGlassesLaw"
abbrev cL_law : ByteArray := code
def yL_law : MethodName := ⟨RL, "law", "([I)Z"⟩
abbrev vwCl : List vw_C := [(RX0, TX0, 8), (RX1, TX1, 4), (RX2, TX2, 3), (RX3, TX3, 5), (RX5, TX5, 8), (RX6, TX6, 15)]
/-! the words that are kept at every call: all of lw_tbl but the strings -/
def tG : List Cond := lw_tbl.filter goodWord
theorem tg_mem {w : Cond} (i : Nat) (h : lw_tbl[i]? = some w) (g : goodWord w = true) : w ∈ tG := List.mem_filter.mpr ⟨List.mem_of_getElem? h, g⟩
theorem tg_all {ws : List Cond} (ps : List Nat) (hp : ws = ps.filterMap (fun i => lw_tbl[i]?)) (h : ws.all goodWord = true) : ∀ w ∈ ws, w ∈ tG := fun w hw => by
  have h1 := List.all_eq_true.mp h w hw
  rw [hp] at hw
  obtain ⟨i, -, hi⟩ := List.mem_filterMap.mp hw
  exact tg_mem i hi h1
theorem tg_good {w : Cond} (h : w ∈ tG) : (w.onTables && w.keeps) = true ∨ ∃ ty, w = .arrayClass ty := good_of_word (List.mem_filter.mp h).2
theorem tg_in {k : Cond} {ws : List Cond} (h : ∀ w ∈ ws, w ∈ tG) : GoodIn (k :: tG) ws := fun w hw => ⟨List.mem_cons_of_mem _ (h w hw), tg_good (h w hw)⟩
theorem wi_L : (.initialized RL : Cond) ∈ tG := tg_mem 51 (by decide +kernel) (by decide +kernel)
theorem wi_X5 : (.initialized RX5 : Cond) ∈ tG := tg_mem 52 (by decide +kernel) (by decide +kernel)
theorem wi_X1 : (.initialized RX1 : Cond) ∈ tG := tg_mem 53 (by decide +kernel) (by decide +kernel)
theorem wi_X0 : (.initialized RX0 : Cond) ∈ tG := tg_mem 54 (by decide +kernel) (by decide +kernel)
theorem wi_X3 : (.initialized RX3 : Cond) ∈ tG := tg_mem 55 (by decide +kernel) (by decide +kernel)
theorem wi_X2 : (.initialized RX2 : Cond) ∈ tG := tg_mem 56 (by decide +kernel) (by decide +kernel)
theorem wi_X6 : (.initialized RX6 : Cond) ∈ tG := tg_mem 57 (by decide +kernel) (by decide +kernel)
theorem wi_J9 : (.initialized RJ9 : Cond) ∈ tG := tg_mem 58 (by decide +kernel) (by decide +kernel)
theorem wi_J6 : (.initialized RJ6 : Cond) ∈ tG := tg_mem 59 (by decide +kernel) (by decide +kernel)
theorem wi_X4 : (.initialized RX4 : Cond) ∈ tG := tg_mem 60 (by decide +kernel) (by decide +kernel)
theorem wi_J0 : (.initialized RJ0 : Cond) ∈ tG := tg_mem 61 (by decide +kernel) (by decide +kernel)
theorem wi_J1 : (.initialized RJ1 : Cond) ∈ tG := tg_mem 62 (by decide +kernel) (by decide +kernel)
theorem wi_J3 : (.initialized RJ3 : Cond) ∈ tG := tg_mem 63 (by decide +kernel) (by decide +kernel)
theorem wi_J2 : (.initialized RJ2 : Cond) ∈ tG := tg_mem 64 (by decide +kernel) (by decide +kernel)
theorem wi_J10 : (.initialized RJ10 : Cond) ∈ tG := tg_mem 65 (by decide +kernel) (by decide +kernel)
theorem wc_L_7 : (.classLink RL 7 RX5 : Cond) ∈ tG := tg_mem 66 (by decide +kernel) (by decide +kernel)
theorem wn_X5 : (.instantiable RX5 8 : Cond) ∈ tG := tg_mem 67 (by decide +kernel) (by decide +kernel)
theorem wm_L_9 : (.methodLink RL 9 yX5_init : Cond) ∈ tG := tg_mem 68 (by decide +kernel) (by decide +kernel)
theorem wI_X5_init : (.instanceMethod yX5_init : Cond) ∈ tG := tg_mem 69 (by decide +kernel) (by decide +kernel)
theorem wd_X5_init : (.code yX5_init cX5_init 2 none : Cond) ∈ tG := tg_mem 70 (by decide +kernel) (by decide +kernel)
theorem wm_X5_3 : (.methodLink RX5 3 objectInit : Cond) ∈ tG := tg_mem 71 (by decide +kernel) (by decide +kernel)
theorem wI_O_init : (.instanceMethod objectInit : Cond) ∈ tG := tg_mem 72 (by decide +kernel) (by decide +kernel)
theorem wd_O_init : (.code objectInit object_method_1_code 1 none : Cond) ∈ tG := tg_mem 73 (by decide +kernel) (by decide +kernel)
theorem wc_X5_9 : (.classLink RX5 9 RX1 : Cond) ∈ tG := tg_mem 74 (by decide +kernel) (by decide +kernel)
theorem wn_X1 : (.instantiable RX1 4 : Cond) ∈ tG := tg_mem 75 (by decide +kernel) (by decide +kernel)
theorem wm_X5_11 : (.methodLink RX5 11 yX1_init : Cond) ∈ tG := tg_mem 76 (by decide +kernel) (by decide +kernel)
theorem wI_X1_init : (.instanceMethod yX1_init : Cond) ∈ tG := tg_mem 77 (by decide +kernel) (by decide +kernel)
theorem wd_X1_init : (.code yX1_init cX1_init 2 none : Cond) ∈ tG := tg_mem 78 (by decide +kernel) (by decide +kernel)
theorem wm_X1_3 : (.methodLink RX1 3 objectInit : Cond) ∈ tG := tg_mem 79 (by decide +kernel) (by decide +kernel)
theorem wc_X1_18 : (.classLink RX1 18 RX0 : Cond) ∈ tG := tg_mem 80 (by decide +kernel) (by decide +kernel)
theorem wo_One : (.arrayOver (.object "GrudgeGlasses$One") : Cond) ∈ lw_tbl := List.mem_of_getElem? (i := 81) (by decide +kernel)
theorem wn_X0 : (.instantiable RX0 8 : Cond) ∈ tG := tg_mem 82 (by decide +kernel) (by decide +kernel)
theorem wq_X1_28 : (.methodLinkNest RX1 28 yX0_init RX5 : Cond) ∈ lw_tbl := List.mem_of_getElem? (i := 83) (by decide +kernel)
theorem wI_X0_init : (.instanceMethod yX0_init : Cond) ∈ tG := tg_mem 84 (by decide +kernel) (by decide +kernel)
theorem wd_X0_init : (.code yX0_init cX0_init 1 none : Cond) ∈ tG := tg_mem 85 (by decide +kernel) (by decide +kernel)
theorem wm_X0_3 : (.methodLink RX0 3 objectInit : Cond) ∈ tG := tg_mem 86 (by decide +kernel) (by decide +kernel)
theorem wf_X0_9 : (.fieldLink RX0 9 RX0 "number" "I" : Cond) ∈ tG := tg_mem 87 (by decide +kernel) (by decide +kernel)
theorem wg_X5_69 : (.fieldLinkNest RX5 69 RX0 "number" "I" RX5 : Cond) ∈ lw_tbl := List.mem_of_getElem? (i := 88) (by decide +kernel)
theorem wf_X0_15 : (.fieldLink RX0 15 RX0 "kind" "I" : Cond) ∈ tG := tg_mem 89 (by decide +kernel) (by decide +kernel)
theorem wg_X5_91 : (.fieldLinkNest RX5 91 RX0 "kind" "I" RX5 : Cond) ∈ lw_tbl := List.mem_of_getElem? (i := 90) (by decide +kernel)
theorem wf_X0_18 : (.fieldLink RX0 18 RX0 "grudge" "I" : Cond) ∈ tG := tg_mem 91 (by decide +kernel) (by decide +kernel)
theorem wg_X4_77 : (.fieldLinkNest RX4 77 RX0 "grudge" "I" RX5 : Cond) ∈ lw_tbl := List.mem_of_getElem? (i := 92) (by decide +kernel)
theorem wg_X5_98 : (.fieldLinkNest RX5 98 RX0 "grudge" "I" RX5 : Cond) ∈ lw_tbl := List.mem_of_getElem? (i := 93) (by decide +kernel)
theorem wg_X1_40 : (.fieldLinkNest RX1 40 RX0 "grudge" "I" RX5 : Cond) ∈ lw_tbl := List.mem_of_getElem? (i := 94) (by decide +kernel)
theorem wf_X0_21 : (.fieldLink RX0 21 RX0 "at" "I" : Cond) ∈ tG := tg_mem 95 (by decide +kernel) (by decide +kernel)
theorem wg_X4_86 : (.fieldLinkNest RX4 86 RX0 "at" "I" RX5 : Cond) ∈ lw_tbl := List.mem_of_getElem? (i := 96) (by decide +kernel)
theorem wg_X5_101 : (.fieldLinkNest RX5 101 RX0 "at" "I" RX5 : Cond) ∈ lw_tbl := List.mem_of_getElem? (i := 97) (by decide +kernel)
theorem wf_X0_24 : (.fieldLink RX0 24 RX0 "up" "I" : Cond) ∈ tG := tg_mem 98 (by decide +kernel) (by decide +kernel)
theorem wg_X4_95 : (.fieldLinkNest RX4 95 RX0 "up" "I" RX5 : Cond) ∈ lw_tbl := List.mem_of_getElem? (i := 99) (by decide +kernel)
theorem wg_X1_49 : (.fieldLinkNest RX1 49 RX0 "up" "I" RX5 : Cond) ∈ lw_tbl := List.mem_of_getElem? (i := 100) (by decide +kernel)
theorem wf_X0_27 : (.fieldLink RX0 27 RX0 "shows" "I" : Cond) ∈ tG := tg_mem 101 (by decide +kernel) (by decide +kernel)
theorem wg_X1_46 : (.fieldLinkNest RX1 46 RX0 "shows" "I" RX5 : Cond) ∈ lw_tbl := List.mem_of_getElem? (i := 102) (by decide +kernel)
theorem wf_X0_30 : (.fieldLink RX0 30 RX0 "power" "I" : Cond) ∈ tG := tg_mem 103 (by decide +kernel) (by decide +kernel)
theorem wg_X5_108 : (.fieldLinkNest RX5 108 RX0 "power" "I" RX5 : Cond) ∈ lw_tbl := List.mem_of_getElem? (i := 104) (by decide +kernel)
theorem wf_X0_33 : (.fieldLink RX0 33 RX0 "worn" "I" : Cond) ∈ tG := tg_mem 105 (by decide +kernel) (by decide +kernel)
theorem wg_X1_43 : (.fieldLinkNest RX1 43 RX0 "worn" "I" RX5 : Cond) ∈ lw_tbl := List.mem_of_getElem? (i := 106) (by decide +kernel)
theorem wg_X5_152 : (.fieldLinkNest RX5 152 RX0 "worn" "I" RX5 : Cond) ∈ lw_tbl := List.mem_of_getElem? (i := 107) (by decide +kernel)
theorem wa_int : (.arrayClass .int : Cond) ∈ tG := tg_mem 125 (by decide +kernel) (by decide +kernel)
theorem wf_X1_9 : (.fieldLink RX1 9 RX1 "day" "I" : Cond) ∈ tG := tg_mem 126 (by decide +kernel) (by decide +kernel)
theorem wg_X5_128 : (.fieldLinkNest RX5 128 RX1 "day" "I" RX5 : Cond) ∈ lw_tbl := List.mem_of_getElem? (i := 127) (by decide +kernel)
theorem wf_X1_15 : (.fieldLink RX1 15 RX1 "count" "I" : Cond) ∈ tG := tg_mem 128 (by decide +kernel) (by decide +kernel)
theorem wg_X4_83 : (.fieldLinkNest RX4 83 RX1 "count" "I" RX5 : Cond) ∈ lw_tbl := List.mem_of_getElem? (i := 129) (by decide +kernel)
theorem wg_X5_173 : (.fieldLinkNest RX5 173 RX1 "count" "I" RX5 : Cond) ∈ lw_tbl := List.mem_of_getElem? (i := 130) (by decide +kernel)
theorem wf_X1_20 : (.fieldLink RX1 20 RX1 "people" "[LGrudgeGlasses$One;" : Cond) ∈ tG := tg_mem 131 (by decide +kernel) (by decide +kernel)
theorem wg_X5_76 : (.fieldLinkNest RX5 76 RX1 "people" "[LGrudgeGlasses$One;" RX5 : Cond) ∈ lw_tbl := List.mem_of_getElem? (i := 132) (by decide +kernel)
theorem wg_X4_88 : (.fieldLinkNest RX4 88 RX1 "people" "[LGrudgeGlasses$One;" RX5 : Cond) ∈ lw_tbl := List.mem_of_getElem? (i := 133) (by decide +kernel)
theorem wf_X1_24 : (.fieldLink RX1 24 RX1 "seenBy" "[I" : Cond) ∈ tG := tg_mem 134 (by decide +kernel) (by decide +kernel)
theorem wc_X5_22 : (.classLink RX5 22 RX0 : Cond) ∈ tG := tg_mem 144 (by decide +kernel) (by decide +kernel)
theorem wq_X5_24 : (.methodLinkNest RX5 24 yX0_init RX5 : Cond) ∈ lw_tbl := List.mem_of_getElem? (i := 145) (by decide +kernel)
theorem wc_X5_29 : (.classLink RX5 29 RX3 : Cond) ∈ tG := tg_mem 146 (by decide +kernel) (by decide +kernel)
theorem wn_X3 : (.instantiable RX3 5 : Cond) ∈ tG := tg_mem 147 (by decide +kernel) (by decide +kernel)
theorem wq_X5_31 : (.methodLinkNest RX5 31 yX3_init RX5 : Cond) ∈ lw_tbl := List.mem_of_getElem? (i := 148) (by decide +kernel)
theorem wI_X3_init : (.instanceMethod yX3_init : Cond) ∈ tG := tg_mem 149 (by decide +kernel) (by decide +kernel)
theorem wd_X3_init : (.code yX3_init cX3_init 1 none : Cond) ∈ tG := tg_mem 150 (by decide +kernel) (by decide +kernel)
theorem wm_X3_3 : (.methodLink RX3 3 objectInit : Cond) ∈ tG := tg_mem 151 (by decide +kernel) (by decide +kernel)
theorem wf_X3_9 : (.fieldLink RX3 9 RX3 "bytes" "[I" : Cond) ∈ tG := tg_mem 152 (by decide +kernel) (by decide +kernel)
theorem wf_X3_15 : (.fieldLink RX3 15 RX3 "length" "I" : Cond) ∈ tG := tg_mem 153 (by decide +kernel) (by decide +kernel)
theorem wg_X5_194 : (.fieldLinkNest RX5 194 RX3 "length" "I" RX5 : Cond) ∈ lw_tbl := List.mem_of_getElem? (i := 154) (by decide +kernel)
theorem wf_X3_19 : (.fieldLink RX3 19 RX3 "token" "I" : Cond) ∈ tG := tg_mem 155 (by decide +kernel) (by decide +kernel)
theorem wf_X3_22 : (.fieldLink RX3 22 RX3 "start" "I" : Cond) ∈ tG := tg_mem 156 (by decide +kernel) (by decide +kernel)
theorem wg_X4_30 : (.fieldLinkNest RX4 30 RX3 "start" "I" RX5 : Cond) ∈ lw_tbl := List.mem_of_getElem? (i := 157) (by decide +kernel)
theorem wf_X3_25 : (.fieldLink RX3 25 RX3 "end" "I" : Cond) ∈ tG := tg_mem 158 (by decide +kernel) (by decide +kernel)
theorem wc_X5_36 : (.classLink RX5 36 RX2 : Cond) ∈ tG := tg_mem 170 (by decide +kernel) (by decide +kernel)
theorem wo_Sheet : (.arrayOver (.object "GrudgeGlasses$Sheet") : Cond) ∈ lw_tbl := List.mem_of_getElem? (i := 171) (by decide +kernel)
theorem wn_X2 : (.instantiable RX2 3 : Cond) ∈ tG := tg_mem 172 (by decide +kernel) (by decide +kernel)
theorem wq_X5_50 : (.methodLinkNest RX5 50 yX2_init RX5 : Cond) ∈ lw_tbl := List.mem_of_getElem? (i := 173) (by decide +kernel)
theorem wI_X2_init : (.instanceMethod yX2_init : Cond) ∈ tG := tg_mem 174 (by decide +kernel) (by decide +kernel)
theorem wd_X2_init : (.code yX2_init cX2_init 1 none : Cond) ∈ tG := tg_mem 175 (by decide +kernel) (by decide +kernel)
theorem wm_X2_3 : (.methodLink RX2 3 objectInit : Cond) ∈ tG := tg_mem 176 (by decide +kernel) (by decide +kernel)
theorem wf_X2_9 : (.fieldLink RX2 9 RX2 "bits" "I" : Cond) ∈ tG := tg_mem 177 (by decide +kernel) (by decide +kernel)
theorem wg_X5_230 : (.fieldLinkNest RX5 230 RX2 "bits" "I" RX5 : Cond) ∈ lw_tbl := List.mem_of_getElem? (i := 178) (by decide +kernel)
theorem wf_X2_15 : (.fieldLink RX2 15 RX2 "size" "I" : Cond) ∈ tG := tg_mem 179 (by decide +kernel) (by decide +kernel)
theorem wg_X5_213 : (.fieldLinkNest RX5 213 RX2 "size" "I" RX5 : Cond) ∈ lw_tbl := List.mem_of_getElem? (i := 180) (by decide +kernel)
theorem wf_X2_18 : (.fieldLink RX2 18 RX2 "numbers" "[J" : Cond) ∈ tG := tg_mem 181 (by decide +kernel) (by decide +kernel)
theorem wg_X5_219 : (.fieldLinkNest RX5 219 RX2 "numbers" "[J" RX5 : Cond) ∈ lw_tbl := List.mem_of_getElem? (i := 182) (by decide +kernel)
theorem wa_long : (.arrayClass .long : Cond) ∈ tG := tg_mem 190 (by decide +kernel) (by decide +kernel)
theorem wf_X5_12 : (.fieldLink RX5 12 RX5 "here" "LGrudgeGlasses$Quay;" : Cond) ∈ tG := tg_mem 191 (by decide +kernel) (by decide +kernel)
theorem wf_X5_16 : (.fieldLink RX5 16 RX5 "kept" "LGrudgeGlasses$Quay;" : Cond) ∈ tG := tg_mem 192 (by decide +kernel) (by decide +kernel)
theorem wf_X5_19 : (.fieldLink RX5 19 RX5 "trial" "LGrudgeGlasses$Quay;" : Cond) ∈ tG := tg_mem 193 (by decide +kernel) (by decide +kernel)
theorem wf_X5_25 : (.fieldLink RX5 25 RX5 "trialOne" "LGrudgeGlasses$One;" : Cond) ∈ tG := tg_mem 194 (by decide +kernel) (by decide +kernel)
theorem wf_X5_32 : (.fieldLink RX5 32 RX5 "tape" "LGrudgeGlasses$Tape;" : Cond) ∈ tG := tg_mem 195 (by decide +kernel) (by decide +kernel)
theorem wf_X5_38 : (.fieldLink RX5 38 RX5 "sheets" "[LGrudgeGlasses$Sheet;" : Cond) ∈ tG := tg_mem 196 (by decide +kernel) (by decide +kernel)
theorem wf_X5_42 : (.fieldLink RX5 42 RX5 "found" "[I" : Cond) ∈ tG := tg_mem 197 (by decide +kernel) (by decide +kernel)
theorem wf_X5_46 : (.fieldLink RX5 46 RX5 "isKept" "Z" : Cond) ∈ tG := tg_mem 198 (by decide +kernel) (by decide +kernel)
theorem wm_L_13 : (.methodLink RL 13 yX5_person : Cond) ∈ tG := tg_mem 216 (by decide +kernel) (by decide +kernel)
theorem wI_X5_person : (.instanceMethod yX5_person : Cond) ∈ tG := tg_mem 217 (by decide +kernel) (by decide +kernel)
theorem ws_X5_person : (.selects RX5 yX5_person yX5_person : Cond) ∈ tG := tg_mem 218 (by decide +kernel) (by decide +kernel)
theorem wd_X5_person : (.code yX5_person cX5_person 2 (some .int) : Cond) ∈ tG := tg_mem 219 (by decide +kernel) (by decide +kernel)
theorem wm_X5_51 : (.methodLink RX5 51 yX5_isKind : Cond) ∈ tG := tg_mem 220 (by decide +kernel) (by decide +kernel)
theorem wt_X5_isKind : (.static yX5_isKind : Cond) ∈ tG := tg_mem 221 (by decide +kernel) (by decide +kernel)
theorem wd_X5_isKind : (.code yX5_isKind cX5_isKind 1 (some .boolean) : Cond) ∈ tG := tg_mem 222 (by decide +kernel) (by decide +kernel)
theorem wk_X5_55 : (.constant RX5 55 (-1000000001) : Cond) ∈ tG := tg_mem 223 (by decide +kernel) (by decide +kernel)
theorem wm_X5_56 : (.methodLink RX5 56 yX5_finding : Cond) ∈ tG := tg_mem 224 (by decide +kernel) (by decide +kernel)
theorem wI_X5_finding : (.instanceMethod yX5_finding : Cond) ∈ tG := tg_mem 226 (by decide +kernel) (by decide +kernel)
theorem wd_X5_finding : (.code yX5_finding cX5_finding 3 (some .int) : Cond) ∈ tG := tg_mem 227 (by decide +kernel) (by decide +kernel)
theorem wm_X5_60 : (.methodLink RX5 60 yX1_isFull : Cond) ∈ tG := tg_mem 228 (by decide +kernel) (by decide +kernel)
theorem wI_X1_isFull : (.instanceMethod yX1_isFull : Cond) ∈ tG := tg_mem 229 (by decide +kernel) (by decide +kernel)
theorem ws_X1_isFull : (.selects RX1 yX1_isFull yX1_isFull : Cond) ∈ tG := tg_mem 230 (by decide +kernel) (by decide +kernel)
theorem wd_X1_isFull : (.code yX1_isFull cX1_isFull 1 (some .boolean) : Cond) ∈ tG := tg_mem 231 (by decide +kernel) (by decide +kernel)
theorem wk_X5_64 : (.constant RX5 64 (-1000000002) : Cond) ∈ tG := tg_mem 232 (by decide +kernel) (by decide +kernel)
theorem wm_X5_65 : (.methodLink RX5 65 yX1_welcome : Cond) ∈ tG := tg_mem 233 (by decide +kernel) (by decide +kernel)
theorem wI_X1_welcome : (.instanceMethod yX1_welcome : Cond) ∈ tG := tg_mem 234 (by decide +kernel) (by decide +kernel)
theorem ws_X1_welcome : (.selects RX1 yX1_welcome yX1_welcome : Cond) ∈ tG := tg_mem 235 (by decide +kernel) (by decide +kernel)
theorem wd_X1_welcome : (.code yX1_welcome cX1_welcome 3 (some (.object "GrudgeGlasses$One")) : Cond) ∈ tG := tg_mem 236 (by decide +kernel) (by decide +kernel)
theorem wm_X1_33 : (.methodLink RX1 33 yX0_begin : Cond) ∈ tG := tg_mem 237 (by decide +kernel) (by decide +kernel)
theorem wI_X0_begin : (.instanceMethod yX0_begin : Cond) ∈ tG := tg_mem 238 (by decide +kernel) (by decide +kernel)
theorem ws_X0_begin : (.selects RX0 yX0_begin yX0_begin : Cond) ∈ tG := tg_mem 239 (by decide +kernel) (by decide +kernel)
theorem wd_X0_begin : (.code yX0_begin cX0_begin 3 none : Cond) ∈ tG := tg_mem 240 (by decide +kernel) (by decide +kernel)
theorem wm_L_18 : (.methodLink RL 18 yX5_of : Cond) ∈ tG := tg_mem 241 (by decide +kernel) (by decide +kernel)
theorem wI_X5_of : (.instanceMethod yX5_of : Cond) ∈ tG := tg_mem 242 (by decide +kernel) (by decide +kernel)
theorem ws_X5_of : (.selects RX5 yX5_of yX5_of : Cond) ∈ tG := tg_mem 243 (by decide +kernel) (by decide +kernel)
theorem wd_X5_of : (.code yX5_of cX5_of 3 (some .int) : Cond) ∈ tG := tg_mem 244 (by decide +kernel) (by decide +kernel)
theorem wm_X5_73 : (.methodLink RX5 73 yX5_isThere : Cond) ∈ tG := tg_mem 245 (by decide +kernel) (by decide +kernel)
theorem wI_X5_isThere : (.instanceMethod yX5_isThere : Cond) ∈ tG := tg_mem 247 (by decide +kernel) (by decide +kernel)
theorem wd_X5_isThere : (.code yX5_isThere cX5_isThere 2 (some .boolean) : Cond) ∈ tG := tg_mem 248 (by decide +kernel) (by decide +kernel)
theorem wm_X5_80 : (.methodLink RX5 80 yX0_told : Cond) ∈ tG := tg_mem 249 (by decide +kernel) (by decide +kernel)
theorem wI_X0_told : (.instanceMethod yX0_told : Cond) ∈ tG := tg_mem 250 (by decide +kernel) (by decide +kernel)
theorem ws_X0_told : (.selects RX0 yX0_told yX0_told : Cond) ∈ tG := tg_mem 251 (by decide +kernel) (by decide +kernel)
theorem wd_X0_told : (.code yX0_told cX0_told 2 (some .int) : Cond) ∈ tG := tg_mem 252 (by decide +kernel) (by decide +kernel)
theorem wm_X0_40 : (.methodLink RX0 40 yX0_grinding : Cond) ∈ tG := tg_mem 253 (by decide +kernel) (by decide +kernel)
theorem wI_X0_grinding : (.instanceMethod yX0_grinding : Cond) ∈ tG := tg_mem 254 (by decide +kernel) (by decide +kernel)
theorem ws_X0_grinding : (.selects RX0 yX0_grinding yX0_grinding : Cond) ∈ tG := tg_mem 255 (by decide +kernel) (by decide +kernel)
theorem wd_X0_grinding : (.code yX0_grinding cX0_grinding 3 (some .int) : Cond) ∈ tG := tg_mem 256 (by decide +kernel) (by decide +kernel)
theorem wm_X0_55 : (.methodLink RX0 55 yJ9_min_7cf53 : Cond) ∈ tG := tg_mem 257 (by decide +kernel) (by decide +kernel)
theorem wt_J9_min_7cf53 : (.static yJ9_min_7cf53 : Cond) ∈ tG := tg_mem 258 (by decide +kernel) (by decide +kernel)
theorem wd_J9_min_7cf53 : (.code yJ9_min_7cf53 cJ9_min_7cf53 2 (some .int) : Cond) ∈ tG := tg_mem 259 (by decide +kernel) (by decide +kernel)
theorem wm_X0_44 : (.methodLink RX0 44 yX0_sharpnessAtItsOne : Cond) ∈ tG := tg_mem 260 (by decide +kernel) (by decide +kernel)
theorem wI_X0_sharpnessAtItsOne : (.instanceMethod yX0_sharpnessAtItsOne : Cond) ∈ tG := tg_mem 261 (by decide +kernel) (by decide +kernel)
theorem ws_X0_sharpnessAtItsOne : (.selects RX0 yX0_sharpnessAtItsOne yX0_sharpnessAtItsOne : Cond) ∈ tG := tg_mem 262 (by decide +kernel) (by decide +kernel)
theorem wd_X0_sharpnessAtItsOne : (.code yX0_sharpnessAtItsOne cX0_sharpnessAtItsOne 1 (some .int) : Cond) ∈ tG := tg_mem 263 (by decide +kernel) (by decide +kernel)
theorem wm_X0_64 : (.methodLink RX0 64 yX0_sharpnessAt : Cond) ∈ tG := tg_mem 264 (by decide +kernel) (by decide +kernel)
theorem wI_X0_sharpnessAt : (.instanceMethod yX0_sharpnessAt : Cond) ∈ tG := tg_mem 265 (by decide +kernel) (by decide +kernel)
theorem ws_X0_sharpnessAt : (.selects RX0 yX0_sharpnessAt yX0_sharpnessAt : Cond) ∈ tG := tg_mem 266 (by decide +kernel) (by decide +kernel)
theorem wd_X0_sharpnessAt : (.code yX0_sharpnessAt cX0_sharpnessAt 5 (some .int) : Cond) ∈ tG := tg_mem 267 (by decide +kernel) (by decide +kernel)
theorem wm_X0_61 : (.methodLink RX0 61 yJ9_max_7cf53 : Cond) ∈ tG := tg_mem 268 (by decide +kernel) (by decide +kernel)
theorem wt_J9_max_7cf53 : (.static yJ9_max_7cf53 : Cond) ∈ tG := tg_mem 269 (by decide +kernel) (by decide +kernel)
theorem wd_J9_max_7cf53 : (.code yJ9_max_7cf53 cJ9_max_7cf53 2 (some .int) : Cond) ∈ tG := tg_mem 270 (by decide +kernel) (by decide +kernel)
theorem wm_X0_47 : (.methodLink RX0 47 yX0_forgiving : Cond) ∈ tG := tg_mem 271 (by decide +kernel) (by decide +kernel)
theorem wI_X0_forgiving : (.instanceMethod yX0_forgiving : Cond) ∈ tG := tg_mem 272 (by decide +kernel) (by decide +kernel)
theorem ws_X0_forgiving : (.selects RX0 yX0_forgiving yX0_forgiving : Cond) ∈ tG := tg_mem 273 (by decide +kernel) (by decide +kernel)
theorem wd_X0_forgiving : (.code yX0_forgiving cX0_forgiving 5 (some .int) : Cond) ∈ tG := tg_mem 274 (by decide +kernel) (by decide +kernel)
theorem wm_X0_51 : (.methodLink RX0 51 yX0_growing : Cond) ∈ tG := tg_mem 275 (by decide +kernel) (by decide +kernel)
theorem wI_X0_growing : (.instanceMethod yX0_growing : Cond) ∈ tG := tg_mem 276 (by decide +kernel) (by decide +kernel)
theorem ws_X0_growing : (.selects RX0 yX0_growing yX0_growing : Cond) ∈ tG := tg_mem 277 (by decide +kernel) (by decide +kernel)
theorem wd_X0_growing : (.code yX0_growing cX0_growing 4 (some .int) : Cond) ∈ tG := tg_mem 278 (by decide +kernel) (by decide +kernel)
theorem wk_X0_54 : (.constant RX0 54 (-1000000001) : Cond) ∈ tG := tg_mem 279 (by decide +kernel) (by decide +kernel)
theorem wm_L_23 : (.methodLink RL 23 yX5_set : Cond) ∈ tG := tg_mem 280 (by decide +kernel) (by decide +kernel)
theorem wI_X5_set : (.instanceMethod yX5_set : Cond) ∈ tG := tg_mem 281 (by decide +kernel) (by decide +kernel)
theorem ws_X5_set : (.selects RX5 yX5_set yX5_set : Cond) ∈ tG := tg_mem 282 (by decide +kernel) (by decide +kernel)
theorem wd_X5_set : (.code yX5_set cX5_set 6 (some .int) : Cond) ∈ tG := tg_mem 283 (by decide +kernel) (by decide +kernel)
theorem wm_X5_83 : (.methodLink RX5 83 yX5_maySet : Cond) ∈ tG := tg_mem 284 (by decide +kernel) (by decide +kernel)
theorem wI_X5_maySet : (.instanceMethod yX5_maySet : Cond) ∈ tG := tg_mem 286 (by decide +kernel) (by decide +kernel)
theorem wd_X5_maySet : (.code yX5_maySet cX5_maySet 3 (some .boolean) : Cond) ∈ tG := tg_mem 287 (by decide +kernel) (by decide +kernel)
theorem wm_X5_121 : (.methodLink RX5 121 yX5_isUpTo : Cond) ∈ tG := tg_mem 288 (by decide +kernel) (by decide +kernel)
theorem wt_X5_isUpTo : (.static yX5_isUpTo : Cond) ∈ tG := tg_mem 289 (by decide +kernel) (by decide +kernel)
theorem wd_X5_isUpTo : (.code yX5_isUpTo cX5_isUpTo 2 (some .boolean) : Cond) ∈ tG := tg_mem 290 (by decide +kernel) (by decide +kernel)
theorem wm_X5_87 : (.methodLink RX5 87 yX0_put : Cond) ∈ tG := tg_mem 291 (by decide +kernel) (by decide +kernel)
theorem wI_X0_put : (.instanceMethod yX0_put : Cond) ∈ tG := tg_mem 292 (by decide +kernel) (by decide +kernel)
theorem ws_X0_put : (.selects RX0 yX0_put yX0_put : Cond) ∈ tG := tg_mem 293 (by decide +kernel) (by decide +kernel)
theorem wd_X0_put : (.code yX0_put cX0_put 3 none : Cond) ∈ tG := tg_mem 294 (by decide +kernel) (by decide +kernel)
theorem wm_L_28 : (.methodLink RL 28 yX5_turn : Cond) ∈ tG := tg_mem 295 (by decide +kernel) (by decide +kernel)
theorem wI_X5_turn : (.instanceMethod yX5_turn : Cond) ∈ tG := tg_mem 296 (by decide +kernel) (by decide +kernel)
theorem ws_X5_turn : (.selects RX5 yX5_turn yX5_turn : Cond) ∈ tG := tg_mem 297 (by decide +kernel) (by decide +kernel)
theorem wd_X5_turn : (.code yX5_turn cX5_turn 5 (some .int) : Cond) ∈ tG := tg_mem 298 (by decide +kernel) (by decide +kernel)
theorem wm_L_32 : (.methodLink RL 32 yX5_as : Cond) ∈ tG := tg_mem 299 (by decide +kernel) (by decide +kernel)
theorem wI_X5_as : (.instanceMethod yX5_as : Cond) ∈ tG := tg_mem 300 (by decide +kernel) (by decide +kernel)
theorem ws_X5_as : (.selects RX5 yX5_as yX5_as : Cond) ∈ tG := tg_mem 301 (by decide +kernel) (by decide +kernel)
theorem wd_X5_as : (.code yX5_as cX5_as 4 (some .int) : Cond) ∈ tG := tg_mem 302 (by decide +kernel) (by decide +kernel)
theorem wm_X5_94 : (.methodLink RX5 94 yX5_isOrIsUnder : Cond) ∈ tG := tg_mem 303 (by decide +kernel) (by decide +kernel)
theorem wt_X5_isOrIsUnder : (.static yX5_isOrIsUnder : Cond) ∈ tG := tg_mem 304 (by decide +kernel) (by decide +kernel)
theorem wd_X5_isOrIsUnder : (.code yX5_isOrIsUnder cX5_isOrIsUnder 4 (some .boolean) : Cond) ∈ tG := tg_mem 305 (by decide +kernel) (by decide +kernel)
theorem wf_X5_262 : (.fieldLink RX5 262 RX5 "KIND_ABOVE" "[I" : Cond) ∈ tG := tg_mem 306 (by decide +kernel) (by decide +kernel)
theorem wz_X5_KIND_ABOVE : (.laysStatic RX5 "KIND_ABOVE" "[I" : Cond) ∈ lw_tbl := List.mem_of_getElem? (i := 307) (by decide +kernel)
theorem wk_X5_97 : (.constant RX5 97 (-1000000003) : Cond) ∈ tG := tg_mem 308 (by decide +kernel) (by decide +kernel)
theorem wm_L_36 : (.methodLink RL 36 yX5_grind : Cond) ∈ tG := tg_mem 309 (by decide +kernel) (by decide +kernel)
theorem wI_X5_grind : (.instanceMethod yX5_grind : Cond) ∈ tG := tg_mem 310 (by decide +kernel) (by decide +kernel)
theorem ws_X5_grind : (.selects RX5 yX5_grind yX5_grind : Cond) ∈ tG := tg_mem 311 (by decide +kernel) (by decide +kernel)
theorem wd_X5_grind : (.code yX5_grind cX5_grind 3 (some .int) : Cond) ∈ tG := tg_mem 312 (by decide +kernel) (by decide +kernel)
theorem wk_X5_104 : (.constant RX5 104 (-1000000005) : Cond) ∈ tG := tg_mem 313 (by decide +kernel) (by decide +kernel)
theorem wm_X5_105 : (.methodLink RX5 105 yX0_haveGround : Cond) ∈ tG := tg_mem 314 (by decide +kernel) (by decide +kernel)
theorem wI_X0_haveGround : (.instanceMethod yX0_haveGround : Cond) ∈ tG := tg_mem 315 (by decide +kernel) (by decide +kernel)
theorem ws_X0_haveGround : (.selects RX0 yX0_haveGround yX0_haveGround : Cond) ∈ tG := tg_mem 316 (by decide +kernel) (by decide +kernel)
theorem wd_X0_haveGround : (.code yX0_haveGround cX0_haveGround 1 none : Cond) ∈ tG := tg_mem 317 (by decide +kernel) (by decide +kernel)
theorem wm_L_40 : (.methodLink RL 40 yX5_lend : Cond) ∈ tG := tg_mem 318 (by decide +kernel) (by decide +kernel)
theorem wI_X5_lend : (.instanceMethod yX5_lend : Cond) ∈ tG := tg_mem 319 (by decide +kernel) (by decide +kernel)
theorem ws_X5_lend : (.selects RX5 yX5_lend yX5_lend : Cond) ∈ tG := tg_mem 320 (by decide +kernel) (by decide +kernel)
theorem wd_X5_lend : (.code yX5_lend cX5_lend 5 (some .int) : Cond) ∈ tG := tg_mem 321 (by decide +kernel) (by decide +kernel)
theorem wm_X5_111 : (.methodLink RX5 111 yX5_areTwo : Cond) ∈ tG := tg_mem 322 (by decide +kernel) (by decide +kernel)
theorem wI_X5_areTwo : (.instanceMethod yX5_areTwo : Cond) ∈ tG := tg_mem 324 (by decide +kernel) (by decide +kernel)
theorem wd_X5_areTwo : (.code yX5_areTwo cX5_areTwo 3 (some .boolean) : Cond) ∈ tG := tg_mem 325 (by decide +kernel) (by decide +kernel)
theorem wm_X5_114 : (.methodLink RX5 114 yX0_takePairOf : Cond) ∈ tG := tg_mem 326 (by decide +kernel) (by decide +kernel)
theorem wI_X0_takePairOf : (.instanceMethod yX0_takePairOf : Cond) ∈ tG := tg_mem 327 (by decide +kernel) (by decide +kernel)
theorem ws_X0_takePairOf : (.selects RX0 yX0_takePairOf yX0_takePairOf : Cond) ∈ tG := tg_mem 328 (by decide +kernel) (by decide +kernel)
theorem wd_X0_takePairOf : (.code yX0_takePairOf cX0_takePairOf 2 none : Cond) ∈ tG := tg_mem 329 (by decide +kernel) (by decide +kernel)
theorem wm_L_44 : (.methodLink RL 44 yX5_looks : Cond) ∈ tG := tg_mem 330 (by decide +kernel) (by decide +kernel)
theorem wI_X5_looks : (.instanceMethod yX5_looks : Cond) ∈ tG := tg_mem 331 (by decide +kernel) (by decide +kernel)
theorem ws_X5_looks : (.selects RX5 yX5_looks yX5_looks : Cond) ∈ tG := tg_mem 332 (by decide +kernel) (by decide +kernel)
theorem wd_X5_looks : (.code yX5_looks cX5_looks 3 (some .int) : Cond) ∈ tG := tg_mem 333 (by decide +kernel) (by decide +kernel)
theorem wm_X5_118 : (.methodLink RX5 118 yX0_sharpnessAt : Cond) ∈ tG := tg_mem 334 (by decide +kernel) (by decide +kernel)
theorem wm_L_48 : (.methodLink RL 48 yX5_sees : Cond) ∈ tG := tg_mem 335 (by decide +kernel) (by decide +kernel)
theorem wI_X5_sees : (.instanceMethod yX5_sees : Cond) ∈ tG := tg_mem 336 (by decide +kernel) (by decide +kernel)
theorem ws_X5_sees : (.selects RX5 yX5_sees yX5_sees : Cond) ∈ tG := tg_mem 337 (by decide +kernel) (by decide +kernel)
theorem wd_X5_sees : (.code yX5_sees cX5_sees 3 (some .int) : Cond) ∈ tG := tg_mem 338 (by decide +kernel) (by decide +kernel)
theorem wm_X5_124 : (.methodLink RX5 124 yX1_othersAsSharpAs : Cond) ∈ tG := tg_mem 339 (by decide +kernel) (by decide +kernel)
theorem wI_X1_othersAsSharpAs : (.instanceMethod yX1_othersAsSharpAs : Cond) ∈ tG := tg_mem 340 (by decide +kernel) (by decide +kernel)
theorem ws_X1_othersAsSharpAs : (.selects RX1 yX1_othersAsSharpAs yX1_othersAsSharpAs : Cond) ∈ tG := tg_mem 341 (by decide +kernel) (by decide +kernel)
theorem wd_X1_othersAsSharpAs : (.code yX1_othersAsSharpAs cX1_othersAsSharpAs 5 (some .int) : Cond) ∈ tG := tg_mem 342 (by decide +kernel) (by decide +kernel)
theorem wm_X1_52 : (.methodLink RX1 52 yX0_sharpnessAt : Cond) ∈ tG := tg_mem 343 (by decide +kernel) (by decide +kernel)
theorem wm_L_52 : (.methodLink RL 52 yX5_days : Cond) ∈ tG := tg_mem 344 (by decide +kernel) (by decide +kernel)
theorem wI_X5_days : (.instanceMethod yX5_days : Cond) ∈ tG := tg_mem 345 (by decide +kernel) (by decide +kernel)
theorem ws_X5_days : (.selects RX5 yX5_days yX5_days : Cond) ∈ tG := tg_mem 346 (by decide +kernel) (by decide +kernel)
theorem wd_X5_days : (.code yX5_days cX5_days 2 (some .int) : Cond) ∈ tG := tg_mem 347 (by decide +kernel) (by decide +kernel)
theorem wm_X5_131 : (.methodLink RX5 131 yX1_letDaysGo : Cond) ∈ tG := tg_mem 348 (by decide +kernel) (by decide +kernel)
theorem wI_X1_letDaysGo : (.instanceMethod yX1_letDaysGo : Cond) ∈ tG := tg_mem 349 (by decide +kernel) (by decide +kernel)
theorem ws_X1_letDaysGo : (.selects RX1 yX1_letDaysGo yX1_letDaysGo : Cond) ∈ tG := tg_mem 350 (by decide +kernel) (by decide +kernel)
theorem wd_X1_letDaysGo : (.code yX1_letDaysGo cX1_letDaysGo 4 none : Cond) ∈ tG := tg_mem 351 (by decide +kernel) (by decide +kernel)
theorem wm_X1_37 : (.methodLink RX1 37 yX0_letDayGo : Cond) ∈ tG := tg_mem 352 (by decide +kernel) (by decide +kernel)
theorem wI_X0_letDayGo : (.instanceMethod yX0_letDayGo : Cond) ∈ tG := tg_mem 353 (by decide +kernel) (by decide +kernel)
theorem ws_X0_letDayGo : (.selects RX0 yX0_letDayGo yX0_letDayGo : Cond) ∈ tG := tg_mem 354 (by decide +kernel) (by decide +kernel)
theorem wd_X0_letDayGo : (.code yX0_letDayGo cX0_letDayGo 3 none : Cond) ∈ tG := tg_mem 355 (by decide +kernel) (by decide +kernel)
theorem wm_X5_135 : (.methodLink RX5 135 yX1_grudges : Cond) ∈ tG := tg_mem 356 (by decide +kernel) (by decide +kernel)
theorem wI_X1_grudges : (.instanceMethod yX1_grudges : Cond) ∈ tG := tg_mem 357 (by decide +kernel) (by decide +kernel)
theorem ws_X1_grudges : (.selects RX1 yX1_grudges yX1_grudges : Cond) ∈ tG := tg_mem 358 (by decide +kernel) (by decide +kernel)
theorem wd_X1_grudges : (.code yX1_grudges cX1_grudges 3 (some .int) : Cond) ∈ tG := tg_mem 359 (by decide +kernel) (by decide +kernel)
theorem wm_L_56 : (.methodLink RL 56 yX5_now : Cond) ∈ tG := tg_mem 360 (by decide +kernel) (by decide +kernel)
theorem wI_X5_now : (.instanceMethod yX5_now : Cond) ∈ tG := tg_mem 361 (by decide +kernel) (by decide +kernel)
theorem ws_X5_now : (.selects RX5 yX5_now yX5_now : Cond) ∈ tG := tg_mem 362 (by decide +kernel) (by decide +kernel)
theorem wd_X5_now : (.code yX5_now cX5_now 2 (some .int) : Cond) ∈ tG := tg_mem 363 (by decide +kernel) (by decide +kernel)
theorem wm_X5_139 : (.methodLink RX5 139 yX1_thoseWithoutGrudge : Cond) ∈ tG := tg_mem 364 (by decide +kernel) (by decide +kernel)
theorem wI_X1_thoseWithoutGrudge : (.instanceMethod yX1_thoseWithoutGrudge : Cond) ∈ tG := tg_mem 365 (by decide +kernel) (by decide +kernel)
theorem ws_X1_thoseWithoutGrudge : (.selects RX1 yX1_thoseWithoutGrudge yX1_thoseWithoutGrudge : Cond) ∈ tG := tg_mem 366 (by decide +kernel) (by decide +kernel)
theorem wd_X1_thoseWithoutGrudge : (.code yX1_thoseWithoutGrudge cX1_thoseWithoutGrudge 3 (some .int) : Cond) ∈ tG := tg_mem 367 (by decide +kernel) (by decide +kernel)
theorem wm_X5_142 : (.methodLink RX5 142 yX1_thoseSeen : Cond) ∈ tG := tg_mem 368 (by decide +kernel) (by decide +kernel)
theorem wI_X1_thoseSeen : (.instanceMethod yX1_thoseSeen : Cond) ∈ tG := tg_mem 369 (by decide +kernel) (by decide +kernel)
theorem ws_X1_thoseSeen : (.selects RX1 yX1_thoseSeen yX1_thoseSeen : Cond) ∈ tG := tg_mem 370 (by decide +kernel) (by decide +kernel)
theorem wd_X1_thoseSeen : (.code yX1_thoseSeen cX1_thoseSeen 3 (some .int) : Cond) ∈ tG := tg_mem 371 (by decide +kernel) (by decide +kernel)
theorem wm_X1_56 : (.methodLink RX1 56 yX1_othersAsSharpAs : Cond) ∈ tG := tg_mem 372 (by decide +kernel) (by decide +kernel)
theorem wm_X5_145 : (.methodLink RX5 145 yX1_thoseUp : Cond) ∈ tG := tg_mem 373 (by decide +kernel) (by decide +kernel)
theorem wI_X1_thoseUp : (.instanceMethod yX1_thoseUp : Cond) ∈ tG := tg_mem 374 (by decide +kernel) (by decide +kernel)
theorem ws_X1_thoseUp : (.selects RX1 yX1_thoseUp yX1_thoseUp : Cond) ∈ tG := tg_mem 375 (by decide +kernel) (by decide +kernel)
theorem wd_X1_thoseUp : (.code yX1_thoseUp cX1_thoseUp 3 (some .int) : Cond) ∈ tG := tg_mem 376 (by decide +kernel) (by decide +kernel)
theorem wm_L_60 : (.methodLink RL 60 yX5_on : Cond) ∈ tG := tg_mem 377 (by decide +kernel) (by decide +kernel)
theorem wI_X5_on : (.instanceMethod yX5_on : Cond) ∈ tG := tg_mem 378 (by decide +kernel) (by decide +kernel)
theorem ws_X5_on : (.selects RX5 yX5_on yX5_on : Cond) ∈ tG := tg_mem 379 (by decide +kernel) (by decide +kernel)
theorem wd_X5_on : (.code yX5_on cX5_on 5 (some .int) : Cond) ∈ tG := tg_mem 380 (by decide +kernel) (by decide +kernel)
theorem wm_X5_148 : (.methodLink RX5 148 yX5_trialOf : Cond) ∈ tG := tg_mem 381 (by decide +kernel) (by decide +kernel)
theorem wI_X5_trialOf : (.instanceMethod yX5_trialOf : Cond) ∈ tG := tg_mem 383 (by decide +kernel) (by decide +kernel)
theorem wd_X5_trialOf : (.code yX5_trialOf cX5_trialOf 2 (some (.object "GrudgeGlasses$One")) : Cond) ∈ tG := tg_mem 384 (by decide +kernel) (by decide +kernel)
theorem wm_X5_260 : (.methodLink RX5 260 yX0_become : Cond) ∈ tG := tg_mem 385 (by decide +kernel) (by decide +kernel)
theorem wI_X0_become : (.instanceMethod yX0_become : Cond) ∈ tG := tg_mem 386 (by decide +kernel) (by decide +kernel)
theorem ws_X0_become : (.selects RX0 yX0_become yX0_become : Cond) ∈ tG := tg_mem 387 (by decide +kernel) (by decide +kernel)
theorem wd_X0_become : (.code yX0_become cX0_become 2 none : Cond) ∈ tG := tg_mem 388 (by decide +kernel) (by decide +kernel)
theorem wm_X0_36 : (.methodLink RX0 36 yX0_takePairOf : Cond) ∈ tG := tg_mem 389 (by decide +kernel) (by decide +kernel)
theorem wm_X5_151 : (.methodLink RX5 151 yX0_letDaysGo : Cond) ∈ tG := tg_mem 390 (by decide +kernel) (by decide +kernel)
theorem wI_X0_letDaysGo : (.instanceMethod yX0_letDaysGo : Cond) ∈ tG := tg_mem 391 (by decide +kernel) (by decide +kernel)
theorem ws_X0_letDaysGo : (.selects RX0 yX0_letDaysGo yX0_letDaysGo : Cond) ∈ tG := tg_mem 392 (by decide +kernel) (by decide +kernel)
theorem wd_X0_letDaysGo : (.code yX0_letDaysGo cX0_letDaysGo 3 none : Cond) ∈ tG := tg_mem 393 (by decide +kernel) (by decide +kernel)
theorem wm_X0_67 : (.methodLink RX0 67 yX0_letDayGo : Cond) ∈ tG := tg_mem 394 (by decide +kernel) (by decide +kernel)
theorem wm_L_64 : (.methodLink RL 64 yX5_then : Cond) ∈ tG := tg_mem 395 (by decide +kernel) (by decide +kernel)
theorem wI_X5_then : (.instanceMethod yX5_then : Cond) ∈ tG := tg_mem 396 (by decide +kernel) (by decide +kernel)
theorem ws_X5_then : (.selects RX5 yX5_then yX5_then : Cond) ∈ tG := tg_mem 397 (by decide +kernel) (by decide +kernel)
theorem wd_X5_then : (.code yX5_then cX5_then 5 (some .int) : Cond) ∈ tG := tg_mem 398 (by decide +kernel) (by decide +kernel)
theorem wm_L_68 : (.methodLink RL 68 yX5_forgives : Cond) ∈ tG := tg_mem 399 (by decide +kernel) (by decide +kernel)
theorem wI_X5_forgives : (.instanceMethod yX5_forgives : Cond) ∈ tG := tg_mem 400 (by decide +kernel) (by decide +kernel)
theorem ws_X5_forgives : (.selects RX5 yX5_forgives yX5_forgives : Cond) ∈ tG := tg_mem 401 (by decide +kernel) (by decide +kernel)
theorem wd_X5_forgives : (.code yX5_forgives cX5_forgives 2 (some .int) : Cond) ∈ tG := tg_mem 402 (by decide +kernel) (by decide +kernel)
theorem wm_X5_155 : (.methodLink RX5 155 yX5_daysTillForgiven : Cond) ∈ tG := tg_mem 403 (by decide +kernel) (by decide +kernel)
theorem wt_X5_daysTillForgiven : (.static yX5_daysTillForgiven : Cond) ∈ tG := tg_mem 404 (by decide +kernel) (by decide +kernel)
theorem wd_X5_daysTillForgiven : (.code yX5_daysTillForgiven cX5_daysTillForgiven 2 (some .int) : Cond) ∈ tG := tg_mem 405 (by decide +kernel) (by decide +kernel)
theorem wm_X5_247 : (.methodLink RX5 247 yX0_letDayGo : Cond) ∈ tG := tg_mem 406 (by decide +kernel) (by decide +kernel)
theorem wm_X5_159 : (.methodLink RX5 159 yX5_daysOrNone : Cond) ∈ tG := tg_mem 407 (by decide +kernel) (by decide +kernel)
theorem wI_X5_daysOrNone : (.instanceMethod yX5_daysOrNone : Cond) ∈ tG := tg_mem 409 (by decide +kernel) (by decide +kernel)
theorem wd_X5_daysOrNone : (.code yX5_daysOrNone cX5_daysOrNone 2 (some .int) : Cond) ∈ tG := tg_mem 410 (by decide +kernel) (by decide +kernel)
theorem wk_X5_176 : (.constant RX5 176 (-1000000004) : Cond) ∈ tG := tg_mem 411 (by decide +kernel) (by decide +kernel)
theorem wm_L_72 : (.methodLink RL 72 yX5_worn : Cond) ∈ tG := tg_mem 412 (by decide +kernel) (by decide +kernel)
theorem wI_X5_worn : (.instanceMethod yX5_worn : Cond) ∈ tG := tg_mem 413 (by decide +kernel) (by decide +kernel)
theorem ws_X5_worn : (.selects RX5 yX5_worn yX5_worn : Cond) ∈ tG := tg_mem 414 (by decide +kernel) (by decide +kernel)
theorem wd_X5_worn : (.code yX5_worn cX5_worn 2 (some .int) : Cond) ∈ tG := tg_mem 415 (by decide +kernel) (by decide +kernel)
theorem wm_X5_162 : (.methodLink RX5 162 yX5_daysTillWornOut : Cond) ∈ tG := tg_mem 416 (by decide +kernel) (by decide +kernel)
theorem wt_X5_daysTillWornOut : (.static yX5_daysTillWornOut : Cond) ∈ tG := tg_mem 417 (by decide +kernel) (by decide +kernel)
theorem wd_X5_daysTillWornOut : (.code yX5_daysTillWornOut cX5_daysTillWornOut 2 (some .int) : Cond) ∈ tG := tg_mem 418 (by decide +kernel) (by decide +kernel)
theorem wm_L_76 : (.methodLink RL 76 yX5_unseen : Cond) ∈ tG := tg_mem 419 (by decide +kernel) (by decide +kernel)
theorem wI_X5_unseen : (.instanceMethod yX5_unseen : Cond) ∈ tG := tg_mem 420 (by decide +kernel) (by decide +kernel)
theorem ws_X5_unseen : (.selects RX5 yX5_unseen yX5_unseen : Cond) ∈ tG := tg_mem 421 (by decide +kernel) (by decide +kernel)
theorem wd_X5_unseen : (.code yX5_unseen cX5_unseen 2 (some .int) : Cond) ∈ tG := tg_mem 422 (by decide +kernel) (by decide +kernel)
theorem wm_X5_165 : (.methodLink RX5 165 yX1_become : Cond) ∈ tG := tg_mem 423 (by decide +kernel) (by decide +kernel)
theorem wI_X1_become : (.instanceMethod yX1_become : Cond) ∈ tG := tg_mem 424 (by decide +kernel) (by decide +kernel)
theorem ws_X1_become : (.selects RX1 yX1_become yX1_become : Cond) ∈ tG := tg_mem 425 (by decide +kernel) (by decide +kernel)
theorem wd_X1_become : (.code yX1_become cX1_become 3 none : Cond) ∈ tG := tg_mem 426 (by decide +kernel) (by decide +kernel)
theorem wm_X1_29 : (.methodLink RX1 29 yX0_become : Cond) ∈ tG := tg_mem 427 (by decide +kernel) (by decide +kernel)
theorem wm_X5_169 : (.methodLink RX5 169 yX5_daysTillUnseen : Cond) ∈ tG := tg_mem 428 (by decide +kernel) (by decide +kernel)
theorem wt_X5_daysTillUnseen : (.static yX5_daysTillUnseen : Cond) ∈ tG := tg_mem 429 (by decide +kernel) (by decide +kernel)
theorem wd_X5_daysTillUnseen : (.code yX5_daysTillUnseen cX5_daysTillUnseen 3 (some .int) : Cond) ∈ tG := tg_mem 430 (by decide +kernel) (by decide +kernel)
theorem wm_L_80 : (.methodLink RL 80 yX5_borrow : Cond) ∈ tG := tg_mem 431 (by decide +kernel) (by decide +kernel)
theorem wI_X5_borrow : (.instanceMethod yX5_borrow : Cond) ∈ tG := tg_mem 432 (by decide +kernel) (by decide +kernel)
theorem ws_X5_borrow : (.selects RX5 yX5_borrow yX5_borrow : Cond) ∈ tG := tg_mem 433 (by decide +kernel) (by decide +kernel)
theorem wd_X5_borrow : (.code yX5_borrow cX5_borrow 7 (some .int) : Cond) ∈ tG := tg_mem 434 (by decide +kernel) (by decide +kernel)
theorem wm_L_84 : (.methodLink RL 84 yX5_kind : Cond) ∈ tG := tg_mem 435 (by decide +kernel) (by decide +kernel)
theorem wI_X5_kind : (.instanceMethod yX5_kind : Cond) ∈ tG := tg_mem 436 (by decide +kernel) (by decide +kernel)
theorem ws_X5_kind : (.selects RX5 yX5_kind yX5_kind : Cond) ∈ tG := tg_mem 437 (by decide +kernel) (by decide +kernel)
theorem wd_X5_kind : (.code yX5_kind cX5_kind 7 (some .int) : Cond) ∈ tG := tg_mem 438 (by decide +kernel) (by decide +kernel)
theorem wm_L_88 : (.methodLink RL 88 yX5_better : Cond) ∈ tG := tg_mem 439 (by decide +kernel) (by decide +kernel)
theorem wI_X5_better : (.instanceMethod yX5_better : Cond) ∈ tG := tg_mem 440 (by decide +kernel) (by decide +kernel)
theorem ws_X5_better : (.selects RX5 yX5_better yX5_better : Cond) ∈ tG := tg_mem 441 (by decide +kernel) (by decide +kernel)
theorem wd_X5_better : (.code yX5_better cX5_better 7 (some .int) : Cond) ∈ tG := tg_mem 442 (by decide +kernel) (by decide +kernel)
theorem wm_L_92 : (.methodLink RL 92 yX5_most : Cond) ∈ tG := tg_mem 443 (by decide +kernel) (by decide +kernel)
theorem wI_X5_most : (.instanceMethod yX5_most : Cond) ∈ tG := tg_mem 444 (by decide +kernel) (by decide +kernel)
theorem ws_X5_most : (.selects RX5 yX5_most yX5_most : Cond) ∈ tG := tg_mem 445 (by decide +kernel) (by decide +kernel)
theorem wd_X5_most : (.code yX5_most cX5_most 5 (some .int) : Cond) ∈ tG := tg_mem 446 (by decide +kernel) (by decide +kernel)
theorem wm_L_96 : (.methodLink RL 96 yX5_sharpest : Cond) ∈ tG := tg_mem 447 (by decide +kernel) (by decide +kernel)
theorem wI_X5_sharpest : (.instanceMethod yX5_sharpest : Cond) ∈ tG := tg_mem 448 (by decide +kernel) (by decide +kernel)
theorem ws_X5_sharpest : (.selects RX5 yX5_sharpest yX5_sharpest : Cond) ∈ tG := tg_mem 449 (by decide +kernel) (by decide +kernel)
theorem wd_X5_sharpest : (.code yX5_sharpest cX5_sharpest 2 (some .int) : Cond) ∈ tG := tg_mem 450 (by decide +kernel) (by decide +kernel)
theorem wm_X5_177 : (.methodLink RX5 177 yX1_sharpestOfAll : Cond) ∈ tG := tg_mem 451 (by decide +kernel) (by decide +kernel)
theorem wI_X1_sharpestOfAll : (.instanceMethod yX1_sharpestOfAll : Cond) ∈ tG := tg_mem 452 (by decide +kernel) (by decide +kernel)
theorem ws_X1_sharpestOfAll : (.selects RX1 yX1_sharpestOfAll yX1_sharpestOfAll : Cond) ∈ tG := tg_mem 453 (by decide +kernel) (by decide +kernel)
theorem wd_X1_sharpestOfAll : (.code yX1_sharpestOfAll cX1_sharpestOfAll 5 (some .int) : Cond) ∈ tG := tg_mem 454 (by decide +kernel) (by decide +kernel)
theorem wm_X1_64 : (.methodLink RX1 64 yX1_sharpnessAtOthers : Cond) ∈ tG := tg_mem 455 (by decide +kernel) (by decide +kernel)
theorem wI_X1_sharpnessAtOthers : (.instanceMethod yX1_sharpnessAtOthers : Cond) ∈ tG := tg_mem 457 (by decide +kernel) (by decide +kernel)
theorem wd_X1_sharpnessAtOthers : (.code yX1_sharpnessAtOthers cX1_sharpnessAtOthers 4 (some .int) : Cond) ∈ tG := tg_mem 458 (by decide +kernel) (by decide +kernel)
theorem wm_L_100 : (.methodLink RL 100 yX5_push : Cond) ∈ tG := tg_mem 459 (by decide +kernel) (by decide +kernel)
theorem wI_X5_push : (.instanceMethod yX5_push : Cond) ∈ tG := tg_mem 460 (by decide +kernel) (by decide +kernel)
theorem ws_X5_push : (.selects RX5 yX5_push yX5_push : Cond) ∈ tG := tg_mem 461 (by decide +kernel) (by decide +kernel)
theorem wd_X5_push : (.code yX5_push cX5_push 4 (some .int) : Cond) ∈ tG := tg_mem 462 (by decide +kernel) (by decide +kernel)
theorem wm_X5_180 : (.methodLink RX5 180 yX1_noteWhoSeesWhom : Cond) ∈ tG := tg_mem 463 (by decide +kernel) (by decide +kernel)
theorem wI_X1_noteWhoSeesWhom : (.instanceMethod yX1_noteWhoSeesWhom : Cond) ∈ tG := tg_mem 464 (by decide +kernel) (by decide +kernel)
theorem ws_X1_noteWhoSeesWhom : (.selects RX1 yX1_noteWhoSeesWhom yX1_noteWhoSeesWhom : Cond) ∈ tG := tg_mem 465 (by decide +kernel) (by decide +kernel)
theorem wd_X1_noteWhoSeesWhom : (.code yX1_noteWhoSeesWhom cX1_noteWhoSeesWhom 2 none : Cond) ∈ tG := tg_mem 466 (by decide +kernel) (by decide +kernel)
theorem wm_X5_183 : (.methodLink RX5 183 yX1_all : Cond) ∈ tG := tg_mem 467 (by decide +kernel) (by decide +kernel)
theorem wI_X1_all : (.instanceMethod yX1_all : Cond) ∈ tG := tg_mem 468 (by decide +kernel) (by decide +kernel)
theorem ws_X1_all : (.selects RX1 yX1_all yX1_all : Cond) ∈ tG := tg_mem 469 (by decide +kernel) (by decide +kernel)
theorem wd_X1_all : (.code yX1_all cX1_all 1 (some .int) : Cond) ∈ tG := tg_mem 470 (by decide +kernel) (by decide +kernel)
theorem wm_X5_186 : (.methodLink RX5 186 yJ6_bitCount_0f7a4 : Cond) ∈ tG := tg_mem 471 (by decide +kernel) (by decide +kernel)
theorem wt_J6_bitCount_0f7a4 : (.static yJ6_bitCount_0f7a4 : Cond) ∈ tG := tg_mem 472 (by decide +kernel) (by decide +kernel)
theorem wd_J6_bitCount_0f7a4 : (.code yJ6_bitCount_0f7a4 cJ6_bitCount_0f7a4 1 (some .int) : Cond) ∈ tG := tg_mem 473 (by decide +kernel) (by decide +kernel)
theorem wk_J6_265 : (.constant RJ6 265 (1431655765) : Cond) ∈ tG := tg_mem 474 (by decide +kernel) (by decide +kernel)
theorem wk_J6_266 : (.constant RJ6 266 (858993459) : Cond) ∈ tG := tg_mem 475 (by decide +kernel) (by decide +kernel)
theorem wk_J6_267 : (.constant RJ6 267 (252645135) : Cond) ∈ tG := tg_mem 476 (by decide +kernel) (by decide +kernel)
theorem wm_X5_191 : (.methodLink RX5 191 yX1_seenWithUp : Cond) ∈ tG := tg_mem 477 (by decide +kernel) (by decide +kernel)
theorem wI_X1_seenWithUp : (.instanceMethod yX1_seenWithUp : Cond) ∈ tG := tg_mem 478 (by decide +kernel) (by decide +kernel)
theorem ws_X1_seenWithUp : (.selects RX1 yX1_seenWithUp yX1_seenWithUp : Cond) ∈ tG := tg_mem 479 (by decide +kernel) (by decide +kernel)
theorem wd_X1_seenWithUp : (.code yX1_seenWithUp cX1_seenWithUp 5 (some .int) : Cond) ∈ tG := tg_mem 480 (by decide +kernel) (by decide +kernel)
theorem wm_X1_60 : (.methodLink RX1 60 yX1_all : Cond) ∈ tG := tg_mem 481 (by decide +kernel) (by decide +kernel)
theorem wm_L_105 : (.methodLink RL 105 yX5_feed : Cond) ∈ tG := tg_mem 482 (by decide +kernel) (by decide +kernel)
theorem wI_X5_feed : (.instanceMethod yX5_feed : Cond) ∈ tG := tg_mem 483 (by decide +kernel) (by decide +kernel)
theorem ws_X5_feed : (.selects RX5 yX5_feed yX5_feed : Cond) ∈ tG := tg_mem 484 (by decide +kernel) (by decide +kernel)
theorem wd_X5_feed : (.code yX5_feed cX5_feed 4 (some .int) : Cond) ∈ tG := tg_mem 485 (by decide +kernel) (by decide +kernel)
theorem wm_X5_197 : (.methodLink RX5 197 yX3_add : Cond) ∈ tG := tg_mem 486 (by decide +kernel) (by decide +kernel)
theorem wI_X3_add : (.instanceMethod yX3_add : Cond) ∈ tG := tg_mem 487 (by decide +kernel) (by decide +kernel)
theorem ws_X3_add : (.selects RX3 yX3_add yX3_add : Cond) ∈ tG := tg_mem 488 (by decide +kernel) (by decide +kernel)
theorem wd_X3_add : (.code yX3_add cX3_add 2 none : Cond) ∈ tG := tg_mem 489 (by decide +kernel) (by decide +kernel)
theorem wm_L_109 : (.methodLink RL 109 yX5_wipe : Cond) ∈ tG := tg_mem 490 (by decide +kernel) (by decide +kernel)
theorem wI_X5_wipe : (.instanceMethod yX5_wipe : Cond) ∈ tG := tg_mem 491 (by decide +kernel) (by decide +kernel)
theorem ws_X5_wipe : (.selects RX5 yX5_wipe yX5_wipe : Cond) ∈ tG := tg_mem 492 (by decide +kernel) (by decide +kernel)
theorem wd_X5_wipe : (.code yX5_wipe cX5_wipe 2 (some .int) : Cond) ∈ tG := tg_mem 493 (by decide +kernel) (by decide +kernel)
theorem wm_L_113 : (.methodLink RL 113 yX5_quay : Cond) ∈ tG := tg_mem 494 (by decide +kernel) (by decide +kernel)
theorem wI_X5_quay : (.instanceMethod yX5_quay : Cond) ∈ tG := tg_mem 495 (by decide +kernel) (by decide +kernel)
theorem ws_X5_quay : (.selects RX5 yX5_quay yX5_quay : Cond) ∈ tG := tg_mem 496 (by decide +kernel) (by decide +kernel)
theorem wd_X5_quay : (.code yX5_quay cX5_quay 2 (some .int) : Cond) ∈ tG := tg_mem 497 (by decide +kernel) (by decide +kernel)
theorem wm_X5_200 : (.methodLink RX5 200 yX4_items : Cond) ∈ tG := tg_mem 498 (by decide +kernel) (by decide +kernel)
theorem wt_X4_items : (.static yX4_items : Cond) ∈ tG := tg_mem 499 (by decide +kernel) (by decide +kernel)
theorem wd_X4_items : (.code yX4_items cX4_items 3 (some .int) : Cond) ∈ tG := tg_mem 500 (by decide +kernel) (by decide +kernel)
theorem wm_X4_9 : (.methodLink RX4 9 yX3_rewind : Cond) ∈ tG := tg_mem 501 (by decide +kernel) (by decide +kernel)
theorem wI_X3_rewind : (.instanceMethod yX3_rewind : Cond) ∈ tG := tg_mem 502 (by decide +kernel) (by decide +kernel)
theorem ws_X3_rewind : (.selects RX3 yX3_rewind yX3_rewind : Cond) ∈ tG := tg_mem 503 (by decide +kernel) (by decide +kernel)
theorem wd_X3_rewind : (.code yX3_rewind cX3_rewind 1 none : Cond) ∈ tG := tg_mem 504 (by decide +kernel) (by decide +kernel)
theorem wm_X3_28 : (.methodLink RX3 28 yX3_step : Cond) ∈ tG := tg_mem 505 (by decide +kernel) (by decide +kernel)
theorem wI_X3_step : (.instanceMethod yX3_step : Cond) ∈ tG := tg_mem 506 (by decide +kernel) (by decide +kernel)
theorem ws_X3_step : (.selects RX3 yX3_step yX3_step : Cond) ∈ tG := tg_mem 507 (by decide +kernel) (by decide +kernel)
theorem wd_X3_step : (.code yX3_step cX3_step 1 none : Cond) ∈ tG := tg_mem 508 (by decide +kernel) (by decide +kernel)
theorem wm_X3_31 : (.methodLink RX3 31 yX3_isLetter : Cond) ∈ tG := tg_mem 509 (by decide +kernel) (by decide +kernel)
theorem wt_X3_isLetter : (.static yX3_isLetter : Cond) ∈ tG := tg_mem 510 (by decide +kernel) (by decide +kernel)
theorem wd_X3_isLetter : (.code yX3_isLetter cX3_isLetter 1 (some .boolean) : Cond) ∈ tG := tg_mem 511 (by decide +kernel) (by decide +kernel)
theorem wm_X3_35 : (.methodLink RX3 35 yX3_isDigit : Cond) ∈ tG := tg_mem 512 (by decide +kernel) (by decide +kernel)
theorem wt_X3_isDigit : (.static yX3_isDigit : Cond) ∈ tG := tg_mem 513 (by decide +kernel) (by decide +kernel)
theorem wd_X3_isDigit : (.code yX3_isDigit cX3_isDigit 1 (some .boolean) : Cond) ∈ tG := tg_mem 514 (by decide +kernel) (by decide +kernel)
theorem wm_X4_14 : (.methodLink RX4 14 yX4_takesItem : Cond) ∈ tG := tg_mem 515 (by decide +kernel) (by decide +kernel)
theorem wt_X4_takesItem : (.static yX4_takesItem : Cond) ∈ tG := tg_mem 516 (by decide +kernel) (by decide +kernel)
theorem wd_X4_takesItem : (.code yX4_takesItem cX4_takesItem 3 (some .boolean) : Cond) ∈ tG := tg_mem 517 (by decide +kernel) (by decide +kernel)
theorem wr_X4_34 : (.stringRef RX4 34 "grind" : Cond) ∈ lw_tbl := List.mem_of_getElem? (i := 518) (by decide +kernel)
theorem wm_X4_36 : (.methodLink RX4 36 yX3_isAtWord : Cond) ∈ tG := tg_mem 519 (by decide +kernel) (by decide +kernel)
theorem wI_X3_isAtWord : (.instanceMethod yX3_isAtWord : Cond) ∈ tG := tg_mem 520 (by decide +kernel) (by decide +kernel)
theorem ws_X3_isAtWord : (.selects RX3 yX3_isAtWord yX3_isAtWord : Cond) ∈ tG := tg_mem 521 (by decide +kernel) (by decide +kernel)
theorem wd_X3_isAtWord : (.code yX3_isAtWord cX3_isAtWord 3 (some .boolean) : Cond) ∈ tG := tg_mem 522 (by decide +kernel) (by decide +kernel)
theorem wm_X3_38 : (.methodLink RX3 38 yJ0_length_8abf5 : Cond) ∈ tG := tg_mem 523 (by decide +kernel) (by decide +kernel)
theorem wI_J0_length_8abf5 : (.instanceMethod yJ0_length_8abf5 : Cond) ∈ tG := tg_mem 524 (by decide +kernel) (by decide +kernel)
theorem ws_J0_length_8abf5 : (.selects RJ0 yJ0_length_8abf5 yJ0_length_8abf5 : Cond) ∈ tG := tg_mem 525 (by decide +kernel) (by decide +kernel)
theorem wd_J0_length_8abf5 : (.code yJ0_length_8abf5 cJ0_length_8abf5 1 (some .int) : Cond) ∈ tG := tg_mem 526 (by decide +kernel) (by decide +kernel)
theorem wm_J0_335 : (.methodLink RJ0 335 yJ0_coder_7d493 : Cond) ∈ tG := tg_mem 527 (by decide +kernel) (by decide +kernel)
theorem wI_J0_coder_7d493 : (.instanceMethod yJ0_coder_7d493 : Cond) ∈ tG := tg_mem 528 (by decide +kernel) (by decide +kernel)
theorem ws_J0_coder_7d493 : (.selects RJ0 yJ0_coder_7d493 yJ0_coder_7d493 : Cond) ∈ tG := tg_mem 529 (by decide +kernel) (by decide +kernel)
theorem wd_J0_coder_7d493 : (.code yJ0_coder_7d493 cJ0_coder_7d493 1 (some .byte) : Cond) ∈ tG := tg_mem 530 (by decide +kernel) (by decide +kernel)
theorem wf_J0_38 : (.fieldLink RJ0 38 RJ0 "COMPACT_STRINGS" "Z" : Cond) ∈ tG := tg_mem 531 (by decide +kernel) (by decide +kernel)
theorem wz_J0_COMPACT_STRINGS : (.laysStatic RJ0 "COMPACT_STRINGS" "Z" : Cond) ∈ lw_tbl := List.mem_of_getElem? (i := 532) (by decide +kernel)
theorem wm_X3_43 : (.methodLink RX3 43 yJ0_charAt_5068e : Cond) ∈ tG := tg_mem 533 (by decide +kernel) (by decide +kernel)
theorem wI_J0_charAt_5068e : (.instanceMethod yJ0_charAt_5068e : Cond) ∈ tG := tg_mem 534 (by decide +kernel) (by decide +kernel)
theorem ws_J0_charAt_5068e : (.selects RJ0 yJ0_charAt_5068e yJ0_charAt_5068e : Cond) ∈ tG := tg_mem 535 (by decide +kernel) (by decide +kernel)
theorem wd_J0_charAt_5068e : (.code yJ0_charAt_5068e cJ0_charAt_5068e 2 (some .char) : Cond) ∈ tG := tg_mem 536 (by decide +kernel) (by decide +kernel)
theorem wm_J0_492 : (.methodLink RJ0 492 yJ0_isLatin1_aae02 : Cond) ∈ tG := tg_mem 537 (by decide +kernel) (by decide +kernel)
theorem wI_J0_isLatin1_aae02 : (.instanceMethod yJ0_isLatin1_aae02 : Cond) ∈ tG := tg_mem 538 (by decide +kernel) (by decide +kernel)
theorem ws_J0_isLatin1_aae02 : (.selects RJ0 yJ0_isLatin1_aae02 yJ0_isLatin1_aae02 : Cond) ∈ tG := tg_mem 539 (by decide +kernel) (by decide +kernel)
theorem wd_J0_isLatin1_aae02 : (.code yJ0_isLatin1_aae02 cJ0_isLatin1_aae02 1 (some .boolean) : Cond) ∈ tG := tg_mem 540 (by decide +kernel) (by decide +kernel)
theorem wm_J0_495 : (.methodLink RJ0 495 yJ1_charAt_3b067 : Cond) ∈ tG := tg_mem 541 (by decide +kernel) (by decide +kernel)
theorem wt_J1_charAt_3b067 : (.static yJ1_charAt_3b067 : Cond) ∈ tG := tg_mem 542 (by decide +kernel) (by decide +kernel)
theorem wd_J1_charAt_3b067 : (.code yJ1_charAt_3b067 cJ1_charAt_3b067 2 (some .char) : Cond) ∈ tG := tg_mem 543 (by decide +kernel) (by decide +kernel)
theorem wm_J1_9 : (.methodLink RJ1 9 yJ0_checkIndex_df160 : Cond) ∈ tG := tg_mem 544 (by decide +kernel) (by decide +kernel)
theorem wt_J0_checkIndex_df160 : (.static yJ0_checkIndex_df160 : Cond) ∈ tG := tg_mem 545 (by decide +kernel) (by decide +kernel)
theorem wd_J0_checkIndex_df160 : (.code yJ0_checkIndex_df160 cJ0_checkIndex_df160 2 none : Cond) ∈ tG := tg_mem 546 (by decide +kernel) (by decide +kernel)
theorem wf_J0_1053 : (.fieldLink RJ0 1053 RJ3 "SIOOBE_FORMATTER" "Ljava/util/function/BiFunction;" : Cond) ∈ tG := tg_mem 547 (by decide +kernel) (by decide +kernel)
theorem wz_J3_SIOOBE_FORMATTER : (.laysStatic RJ3 "SIOOBE_FORMATTER" "Ljava/util/function/BiFunction;" : Cond) ∈ lw_tbl := List.mem_of_getElem? (i := 548) (by decide +kernel)
theorem wm_J0_1059 : (.methodLink RJ0 1059 yJ3_checkIndex_8e157 : Cond) ∈ tG := tg_mem 549 (by decide +kernel) (by decide +kernel)
theorem wt_J3_checkIndex_8e157 : (.static yJ3_checkIndex_8e157 : Cond) ∈ tG := tg_mem 550 (by decide +kernel) (by decide +kernel)
theorem wd_J3_checkIndex_8e157 : (.code yJ3_checkIndex_8e157 cJ3_checkIndex_8e157 3 (some .int) : Cond) ∈ tG := tg_mem 551 (by decide +kernel) (by decide +kernel)
theorem wm_J0_498 : (.methodLink RJ0 498 yJ2_charAt_3b067 : Cond) ∈ tG := tg_mem 552 (by decide +kernel) (by decide +kernel)
theorem wt_J2_charAt_3b067 : (.static yJ2_charAt_3b067 : Cond) ∈ tG := tg_mem 553 (by decide +kernel) (by decide +kernel)
theorem wd_J2_charAt_3b067 : (.code yJ2_charAt_3b067 cJ2_charAt_3b067 2 (some .char) : Cond) ∈ tG := tg_mem 554 (by decide +kernel) (by decide +kernel)
theorem wm_J2_67 : (.methodLink RJ2 67 yJ2_checkIndex_2214a : Cond) ∈ tG := tg_mem 555 (by decide +kernel) (by decide +kernel)
theorem wt_J2_checkIndex_2214a : (.static yJ2_checkIndex_2214a : Cond) ∈ tG := tg_mem 556 (by decide +kernel) (by decide +kernel)
theorem wd_J2_checkIndex_2214a : (.code yJ2_checkIndex_2214a cJ2_checkIndex_2214a 2 none : Cond) ∈ tG := tg_mem 557 (by decide +kernel) (by decide +kernel)
theorem wm_J2_48 : (.methodLink RJ2 48 yJ2_length_9d52b : Cond) ∈ tG := tg_mem 558 (by decide +kernel) (by decide +kernel)
theorem wt_J2_length_9d52b : (.static yJ2_length_9d52b : Cond) ∈ tG := tg_mem 559 (by decide +kernel) (by decide +kernel)
theorem wd_J2_length_9d52b : (.code yJ2_length_9d52b cJ2_length_9d52b 1 (some .int) : Cond) ∈ tG := tg_mem 560 (by decide +kernel) (by decide +kernel)
theorem wm_J2_414 : (.methodLink RJ2 414 yJ0_checkIndex_df160 : Cond) ∈ tG := tg_mem 561 (by decide +kernel) (by decide +kernel)
theorem wm_J2_71 : (.methodLink RJ2 71 yJ2_getChar_3b067 : Cond) ∈ tG := tg_mem 562 (by decide +kernel) (by decide +kernel)
theorem wt_J2_getChar_3b067 : (.static yJ2_getChar_3b067 : Cond) ∈ tG := tg_mem 563 (by decide +kernel) (by decide +kernel)
theorem wd_J2_getChar_3b067 : (.code yJ2_getChar_3b067 cJ2_getChar_3b067 2 (some .char) : Cond) ∈ tG := tg_mem 564 (by decide +kernel) (by decide +kernel)
theorem wf_J2_44 : (.fieldLink RJ2 44 RJ2 "$assertionsDisabled" "Z" : Cond) ∈ tG := tg_mem 565 (by decide +kernel) (by decide +kernel)
theorem wz_J2_assertionsDisabled : (.laysStatic RJ2 "$assertionsDisabled" "Z" : Cond) ∈ lw_tbl := List.mem_of_getElem? (i := 566) (by decide +kernel)
theorem wf_J2_59 : (.fieldLink RJ2 59 RJ2 "HI_BYTE_SHIFT" "I" : Cond) ∈ tG := tg_mem 567 (by decide +kernel) (by decide +kernel)
theorem wz_J2_HI_BYTE_SHIFT : (.laysStatic RJ2 "HI_BYTE_SHIFT" "I" : Cond) ∈ lw_tbl := List.mem_of_getElem? (i := 568) (by decide +kernel)
theorem wf_J2_63 : (.fieldLink RJ2 63 RJ2 "LO_BYTE_SHIFT" "I" : Cond) ∈ tG := tg_mem 569 (by decide +kernel) (by decide +kernel)
theorem wz_J2_LO_BYTE_SHIFT : (.laysStatic RJ2 "LO_BYTE_SHIFT" "I" : Cond) ∈ lw_tbl := List.mem_of_getElem? (i := 570) (by decide +kernel)
theorem wm_X4_40 : (.methodLink RX4 40 yX4_takesGrind : Cond) ∈ tG := tg_mem 571 (by decide +kernel) (by decide +kernel)
theorem wt_X4_takesGrind : (.static yX4_takesGrind : Cond) ∈ tG := tg_mem 572 (by decide +kernel) (by decide +kernel)
theorem wd_X4_takesGrind : (.code yX4_takesGrind cX4_takesGrind 3 (some .boolean) : Cond) ∈ tG := tg_mem 573 (by decide +kernel) (by decide +kernel)
theorem wm_X4_27 : (.methodLink RX4 27 yX3_step : Cond) ∈ tG := tg_mem 574 (by decide +kernel) (by decide +kernel)
theorem wm_X4_69 : (.methodLink RX4 69 yX3_isAtNumberBelow : Cond) ∈ tG := tg_mem 575 (by decide +kernel) (by decide +kernel)
theorem wI_X3_isAtNumberBelow : (.instanceMethod yX3_isAtNumberBelow : Cond) ∈ tG := tg_mem 576 (by decide +kernel) (by decide +kernel)
theorem ws_X3_isAtNumberBelow : (.selects RX3 yX3_isAtNumberBelow yX3_isAtNumberBelow : Cond) ∈ tG := tg_mem 577 (by decide +kernel) (by decide +kernel)
theorem wd_X3_isAtNumberBelow : (.code yX3_isAtNumberBelow cX3_isAtNumberBelow 2 (some .boolean) : Cond) ∈ tG := tg_mem 578 (by decide +kernel) (by decide +kernel)
theorem wm_X3_47 : (.methodLink RX3 47 yX3_number : Cond) ∈ tG := tg_mem 579 (by decide +kernel) (by decide +kernel)
theorem wI_X3_number : (.instanceMethod yX3_number : Cond) ∈ tG := tg_mem 580 (by decide +kernel) (by decide +kernel)
theorem ws_X3_number : (.selects RX3 yX3_number yX3_number : Cond) ∈ tG := tg_mem 581 (by decide +kernel) (by decide +kernel)
theorem wd_X3_number : (.code yX3_number cX3_number 3 (some .int) : Cond) ∈ tG := tg_mem 582 (by decide +kernel) (by decide +kernel)
theorem wm_X3_50 : (.methodLink RX3 50 yJ9_min_7cf53 : Cond) ∈ tG := tg_mem 583 (by decide +kernel) (by decide +kernel)
theorem wm_X4_73 : (.methodLink RX4 73 yX3_number : Cond) ∈ tG := tg_mem 584 (by decide +kernel) (by decide +kernel)
theorem wm_X4_92 : (.methodLink RX4 92 yX0_haveGround : Cond) ∈ tG := tg_mem 585 (by decide +kernel) (by decide +kernel)
theorem wr_X4_43 : (.stringRef RX4 43 "up" : Cond) ∈ lw_tbl := List.mem_of_getElem? (i := 586) (by decide +kernel)
theorem wm_X4_45 : (.methodLink RX4 45 yX4_takesUp : Cond) ∈ tG := tg_mem 587 (by decide +kernel) (by decide +kernel)
theorem wt_X4_takesUp : (.static yX4_takesUp : Cond) ∈ tG := tg_mem 588 (by decide +kernel) (by decide +kernel)
theorem wd_X4_takesUp : (.code yX4_takesUp cX4_takesUp 3 (some .boolean) : Cond) ∈ tG := tg_mem 589 (by decide +kernel) (by decide +kernel)
theorem wr_X4_49 : (.stringRef RX4 49 "down" : Cond) ∈ lw_tbl := List.mem_of_getElem? (i := 590) (by decide +kernel)
theorem wm_X4_51 : (.methodLink RX4 51 yX4_kindThere : Cond) ∈ tG := tg_mem 591 (by decide +kernel) (by decide +kernel)
theorem wt_X4_kindThere : (.static yX4_kindThere : Cond) ∈ tG := tg_mem 592 (by decide +kernel) (by decide +kernel)
theorem wd_X4_kindThere : (.code yX4_kindThere cX4_kindThere 2 (some .int) : Cond) ∈ tG := tg_mem 593 (by decide +kernel) (by decide +kernel)
theorem wm_X4_97 : (.methodLink RX4 97 yX4_nameOf : Cond) ∈ tG := tg_mem 594 (by decide +kernel) (by decide +kernel)
theorem wt_X4_nameOf : (.static yX4_nameOf : Cond) ∈ tG := tg_mem 595 (by decide +kernel) (by decide +kernel)
theorem wd_X4_nameOf : (.code yX4_nameOf cX4_nameOf 1 (some (.object "java/lang/String")) : Cond) ∈ tG := tg_mem 596 (by decide +kernel) (by decide +kernel)
theorem wr_X4_101 : (.stringRef RX4 101 "brother" : Cond) ∈ lw_tbl := List.mem_of_getElem? (i := 597) (by decide +kernel)
theorem wr_X4_103 : (.stringRef RX4 103 "bride" : Cond) ∈ lw_tbl := List.mem_of_getElem? (i := 598) (by decide +kernel)
theorem wr_X4_105 : (.stringRef RX4 105 "saint" : Cond) ∈ lw_tbl := List.mem_of_getElem? (i := 599) (by decide +kernel)
theorem wr_X4_107 : (.stringRef RX4 107 "twin" : Cond) ∈ lw_tbl := List.mem_of_getElem? (i := 600) (by decide +kernel)
theorem wr_X4_109 : (.stringRef RX4 109 "widow" : Cond) ∈ lw_tbl := List.mem_of_getElem? (i := 601) (by decide +kernel)
theorem wr_X4_111 : (.stringRef RX4 111 "person" : Cond) ∈ lw_tbl := List.mem_of_getElem? (i := 602) (by decide +kernel)
theorem wm_X4_55 : (.methodLink RX4 55 yX1_isFull : Cond) ∈ tG := tg_mem 603 (by decide +kernel) (by decide +kernel)
theorem wm_X4_60 : (.methodLink RX4 60 yX4_takesOne : Cond) ∈ tG := tg_mem 604 (by decide +kernel) (by decide +kernel)
theorem wt_X4_takesOne : (.static yX4_takesOne : Cond) ∈ tG := tg_mem 605 (by decide +kernel) (by decide +kernel)
theorem wd_X4_takesOne : (.code yX4_takesOne cX4_takesOne 4 (some .boolean) : Cond) ∈ tG := tg_mem 606 (by decide +kernel) (by decide +kernel)
theorem wm_X4_63 : (.methodLink RX4 63 yX1_welcome : Cond) ∈ tG := tg_mem 607 (by decide +kernel) (by decide +kernel)
theorem wr_X4_67 : (.stringRef RX4 67 "grudge" : Cond) ∈ lw_tbl := List.mem_of_getElem? (i := 608) (by decide +kernel)
theorem wr_X4_81 : (.stringRef RX4 81 "at" : Cond) ∈ lw_tbl := List.mem_of_getElem? (i := 609) (by decide +kernel)
theorem wm_X4_20 : (.methodLink RX4 20 yX3_isAtEnd : Cond) ∈ tG := tg_mem 610 (by decide +kernel) (by decide +kernel)
theorem wI_X3_isAtEnd : (.instanceMethod yX3_isAtEnd : Cond) ∈ tG := tg_mem 611 (by decide +kernel) (by decide +kernel)
theorem ws_X3_isAtEnd : (.selects RX3 yX3_isAtEnd yX3_isAtEnd : Cond) ∈ tG := tg_mem 612 (by decide +kernel) (by decide +kernel)
theorem wd_X3_isAtEnd : (.code yX3_isAtEnd cX3_isAtEnd 1 (some .boolean) : Cond) ∈ tG := tg_mem 613 (by decide +kernel) (by decide +kernel)
theorem wm_X4_24 : (.methodLink RX4 24 yX3_isAtSign : Cond) ∈ tG := tg_mem 614 (by decide +kernel) (by decide +kernel)
theorem wI_X3_isAtSign : (.instanceMethod yX3_isAtSign : Cond) ∈ tG := tg_mem 615 (by decide +kernel) (by decide +kernel)
theorem ws_X3_isAtSign : (.selects RX3 yX3_isAtSign yX3_isAtSign : Cond) ∈ tG := tg_mem 616 (by decide +kernel) (by decide +kernel)
theorem wd_X3_isAtSign : (.code yX3_isAtSign cX3_isAtSign 1 (some .boolean) : Cond) ∈ tG := tg_mem 617 (by decide +kernel) (by decide +kernel)
theorem wa_byte : (.arrayClass .byte : Cond) ∈ tG := tg_mem 618 (by decide +kernel) (by decide +kernel)
theorem wm_L_117 : (.methodLink RL 117 yX5_sheet : Cond) ∈ tG := tg_mem 619 (by decide +kernel) (by decide +kernel)
theorem wI_X5_sheet : (.instanceMethod yX5_sheet : Cond) ∈ tG := tg_mem 620 (by decide +kernel) (by decide +kernel)
theorem ws_X5_sheet : (.selects RX5 yX5_sheet yX5_sheet : Cond) ∈ tG := tg_mem 621 (by decide +kernel) (by decide +kernel)
theorem wd_X5_sheet : (.code yX5_sheet cX5_sheet 4 (some .int) : Cond) ∈ tG := tg_mem 622 (by decide +kernel) (by decide +kernel)
theorem wm_X5_206 : (.methodLink RX5 206 yX5_isSheet : Cond) ∈ tG := tg_mem 623 (by decide +kernel) (by decide +kernel)
theorem wt_X5_isSheet : (.static yX5_isSheet : Cond) ∈ tG := tg_mem 624 (by decide +kernel) (by decide +kernel)
theorem wd_X5_isSheet : (.code yX5_isSheet cX5_isSheet 1 (some .boolean) : Cond) ∈ tG := tg_mem 625 (by decide +kernel) (by decide +kernel)
theorem wk_X5_209 : (.constant RX5 209 (-1000000007) : Cond) ∈ tG := tg_mem 626 (by decide +kernel) (by decide +kernel)
theorem wm_X5_210 : (.methodLink RX5 210 yX2_begin : Cond) ∈ tG := tg_mem 627 (by decide +kernel) (by decide +kernel)
theorem wI_X2_begin : (.instanceMethod yX2_begin : Cond) ∈ tG := tg_mem 628 (by decide +kernel) (by decide +kernel)
theorem ws_X2_begin : (.selects RX2 yX2_begin yX2_begin : Cond) ∈ tG := tg_mem 629 (by decide +kernel) (by decide +kernel)
theorem wd_X2_begin : (.code yX2_begin cX2_begin 4 none : Cond) ∈ tG := tg_mem 630 (by decide +kernel) (by decide +kernel)
theorem wm_L_123 : (.methodLink RL 123 yX5_write : Cond) ∈ tG := tg_mem 631 (by decide +kernel) (by decide +kernel)
theorem wI_X5_write : (.instanceMethod yX5_write : Cond) ∈ tG := tg_mem 632 (by decide +kernel) (by decide +kernel)
theorem ws_X5_write : (.selects RX5 yX5_write yX5_write : Cond) ∈ tG := tg_mem 633 (by decide +kernel) (by decide +kernel)
theorem wd_X5_write : (.code yX5_write cX5_write 9 (some .long) : Cond) ∈ tG := tg_mem 634 (by decide +kernel) (by decide +kernel)
theorem wm_X5_216 : (.methodLink RX5 216 yX5_faultOfSheet : Cond) ∈ tG := tg_mem 635 (by decide +kernel) (by decide +kernel)
theorem wI_X5_faultOfSheet : (.instanceMethod yX5_faultOfSheet : Cond) ∈ tG := tg_mem 637 (by decide +kernel) (by decide +kernel)
theorem wd_X5_faultOfSheet : (.code yX5_faultOfSheet cX5_faultOfSheet 2 (some .int) : Cond) ∈ tG := tg_mem 638 (by decide +kernel) (by decide +kernel)
theorem wm_X5_226 : (.methodLink RX5 226 yX2_isMissing : Cond) ∈ tG := tg_mem 639 (by decide +kernel) (by decide +kernel)
theorem wI_X2_isMissing : (.instanceMethod yX2_isMissing : Cond) ∈ tG := tg_mem 640 (by decide +kernel) (by decide +kernel)
theorem ws_X2_isMissing : (.selects RX2 yX2_isMissing yX2_isMissing : Cond) ∈ tG := tg_mem 641 (by decide +kernel) (by decide +kernel)
theorem wd_X2_isMissing : (.code yX2_isMissing cX2_isMissing 1 (some .boolean) : Cond) ∈ tG := tg_mem 642 (by decide +kernel) (by decide +kernel)
theorem wk_X5_229 : (.constant RX5 229 (-1000000006) : Cond) ∈ tG := tg_mem 643 (by decide +kernel) (by decide +kernel)
theorem wm_X5_223 : (.methodLink RX5 223 yX2_put : Cond) ∈ tG := tg_mem 644 (by decide +kernel) (by decide +kernel)
theorem wI_X2_put : (.instanceMethod yX2_put : Cond) ∈ tG := tg_mem 645 (by decide +kernel) (by decide +kernel)
theorem ws_X2_put : (.selects RX2 yX2_put yX2_put : Cond) ∈ tG := tg_mem 646 (by decide +kernel) (by decide +kernel)
theorem wd_X2_put : (.code yX2_put cX2_put 4 none : Cond) ∈ tG := tg_mem 647 (by decide +kernel) (by decide +kernel)
theorem wm_L_128 : (.methodLink RL 128 yX5_copy : Cond) ∈ tG := tg_mem 648 (by decide +kernel) (by decide +kernel)
theorem wI_X5_copy : (.instanceMethod yX5_copy : Cond) ∈ tG := tg_mem 649 (by decide +kernel) (by decide +kernel)
theorem ws_X5_copy : (.selects RX5 yX5_copy yX5_copy : Cond) ∈ tG := tg_mem 650 (by decide +kernel) (by decide +kernel)
theorem wd_X5_copy : (.code yX5_copy cX5_copy 8 (some .int) : Cond) ∈ tG := tg_mem 651 (by decide +kernel) (by decide +kernel)
theorem wm_X5_233 : (.methodLink RX5 233 yX2_has : Cond) ∈ tG := tg_mem 652 (by decide +kernel) (by decide +kernel)
theorem wI_X2_has : (.instanceMethod yX2_has : Cond) ∈ tG := tg_mem 653 (by decide +kernel) (by decide +kernel)
theorem ws_X2_has : (.selects RX2 yX2_has yX2_has : Cond) ∈ tG := tg_mem 654 (by decide +kernel) (by decide +kernel)
theorem wd_X2_has : (.code yX2_has cX2_has 3 (some .boolean) : Cond) ∈ tG := tg_mem 655 (by decide +kernel) (by decide +kernel)
theorem wm_X5_236 : (.methodLink RX5 236 arraycopyName : Cond) ∈ tG := tg_mem 656 (by decide +kernel) (by decide +kernel)
theorem wt_arraycopy : (.static arraycopyName : Cond) ∈ tG := tg_mem 657 (by decide +kernel) (by decide +kernel)
theorem wv_arraycopy : (.native arraycopyName : Cond) ∈ tG := tg_mem 658 (by decide +kernel) (by decide +kernel)
theorem wm_L_133 : (.methodLink RL 133 yX5_lays : Cond) ∈ tG := tg_mem 659 (by decide +kernel) (by decide +kernel)
theorem wI_X5_lays : (.instanceMethod yX5_lays : Cond) ∈ tG := tg_mem 660 (by decide +kernel) (by decide +kernel)
theorem ws_X5_lays : (.selects RX5 yX5_lays yX5_lays : Cond) ∈ tG := tg_mem 661 (by decide +kernel) (by decide +kernel)
theorem wd_X5_lays : (.code yX5_lays cX5_lays 8 (some .int) : Cond) ∈ tG := tg_mem 662 (by decide +kernel) (by decide +kernel)
theorem wl_X5_242 : (.constantLong RX5 242 (99) : Cond) ∈ tG := tg_mem 663 (by decide +kernel) (by decide +kernel)
theorem wm_L_137 : (.methodLink RL 137 yX5_book : Cond) ∈ tG := tg_mem 664 (by decide +kernel) (by decide +kernel)
theorem wI_X5_book : (.instanceMethod yX5_book : Cond) ∈ tG := tg_mem 665 (by decide +kernel) (by decide +kernel)
theorem ws_X5_book : (.selects RX5 yX5_book yX5_book : Cond) ∈ tG := tg_mem 666 (by decide +kernel) (by decide +kernel)
theorem wd_X5_book : (.code yX5_book cX5_book 7 (some .int) : Cond) ∈ tG := tg_mem 667 (by decide +kernel) (by decide +kernel)
theorem wm_X5_244 : (.methodLink RX5 244 yX5_faultOfSheetFor : Cond) ∈ tG := tg_mem 668 (by decide +kernel) (by decide +kernel)
theorem wI_X5_faultOfSheetFor : (.instanceMethod yX5_faultOfSheetFor : Cond) ∈ tG := tg_mem 670 (by decide +kernel) (by decide +kernel)
theorem wd_X5_faultOfSheetFor : (.code yX5_faultOfSheetFor cX5_faultOfSheetFor 4 (some .int) : Cond) ∈ tG := tg_mem 671 (by decide +kernel) (by decide +kernel)
theorem wm_L_141 : (.methodLink RL 141 yX5_read : Cond) ∈ tG := tg_mem 672 (by decide +kernel) (by decide +kernel)
theorem wI_X5_read : (.instanceMethod yX5_read : Cond) ∈ tG := tg_mem 673 (by decide +kernel) (by decide +kernel)
theorem ws_X5_read : (.selects RX5 yX5_read yX5_read : Cond) ∈ tG := tg_mem 674 (by decide +kernel) (by decide +kernel)
theorem wd_X5_read : (.code yX5_read cX5_read 8 (some .int) : Cond) ∈ tG := tg_mem 675 (by decide +kernel) (by decide +kernel)
theorem wm_X5_250 : (.methodLink RX5 250 yX5_goesAsTold : Cond) ∈ tG := tg_mem 676 (by decide +kernel) (by decide +kernel)
theorem wt_X5_goesAsTold : (.static yX5_goesAsTold : Cond) ∈ tG := tg_mem 677 (by decide +kernel) (by decide +kernel)
theorem wd_X5_goesAsTold : (.code yX5_goesAsTold cX5_goesAsTold 3 (some .boolean) : Cond) ∈ tG := tg_mem 678 (by decide +kernel) (by decide +kernel)
theorem wm_L_145 : (.methodLink RL 145 yX5_image : Cond) ∈ tG := tg_mem 679 (by decide +kernel) (by decide +kernel)
theorem wI_X5_image : (.instanceMethod yX5_image : Cond) ∈ tG := tg_mem 680 (by decide +kernel) (by decide +kernel)
theorem ws_X5_image : (.selects RX5 yX5_image yX5_image : Cond) ∈ tG := tg_mem 681 (by decide +kernel) (by decide +kernel)
theorem wd_X5_image : (.code yX5_image cX5_image 1 (some .int) : Cond) ∈ tG := tg_mem 682 (by decide +kernel) (by decide +kernel)
theorem wm_L_149 : (.methodLink RL 149 yX5_undo : Cond) ∈ tG := tg_mem 683 (by decide +kernel) (by decide +kernel)
theorem wI_X5_undo : (.instanceMethod yX5_undo : Cond) ∈ tG := tg_mem 684 (by decide +kernel) (by decide +kernel)
theorem ws_X5_undo : (.selects RX5 yX5_undo yX5_undo : Cond) ∈ tG := tg_mem 685 (by decide +kernel) (by decide +kernel)
theorem wd_X5_undo : (.code yX5_undo cX5_undo 1 (some .int) : Cond) ∈ tG := tg_mem 686 (by decide +kernel) (by decide +kernel)
theorem wm_L_153 : (.methodLink RL 153 yX5_tear : Cond) ∈ tG := tg_mem 687 (by decide +kernel) (by decide +kernel)
theorem wI_X5_tear : (.instanceMethod yX5_tear : Cond) ∈ tG := tg_mem 688 (by decide +kernel) (by decide +kernel)
theorem ws_X5_tear : (.selects RX5 yX5_tear yX5_tear : Cond) ∈ tG := tg_mem 689 (by decide +kernel) (by decide +kernel)
theorem wd_X5_tear : (.code yX5_tear cX5_tear 2 (some .int) : Cond) ∈ tG := tg_mem 690 (by decide +kernel) (by decide +kernel)
theorem wm_L_157 : (.methodLink RL 157 yX5_count : Cond) ∈ tG := tg_mem 691 (by decide +kernel) (by decide +kernel)
theorem wI_X5_count : (.instanceMethod yX5_count : Cond) ∈ tG := tg_mem 692 (by decide +kernel) (by decide +kernel)
theorem ws_X5_count : (.selects RX5 yX5_count yX5_count : Cond) ∈ tG := tg_mem 693 (by decide +kernel) (by decide +kernel)
theorem wd_X5_count : (.code yX5_count cX5_count 2 (some .int) : Cond) ∈ tG := tg_mem 694 (by decide +kernel) (by decide +kernel)
theorem wm_X5_254 : (.methodLink RX5 254 yX1_pairsThatShowNobody : Cond) ∈ tG := tg_mem 695 (by decide +kernel) (by decide +kernel)
theorem wI_X1_pairsThatShowNobody : (.instanceMethod yX1_pairsThatShowNobody : Cond) ∈ tG := tg_mem 696 (by decide +kernel) (by decide +kernel)
theorem ws_X1_pairsThatShowNobody : (.selects RX1 yX1_pairsThatShowNobody yX1_pairsThatShowNobody : Cond) ∈ tG := tg_mem 697 (by decide +kernel) (by decide +kernel)
theorem wd_X1_pairsThatShowNobody : (.code yX1_pairsThatShowNobody cX1_pairsThatShowNobody 3 (some .int) : Cond) ∈ tG := tg_mem 698 (by decide +kernel) (by decide +kernel)
theorem wm_X5_257 : (.methodLink RX5 257 yX1_wornTogether : Cond) ∈ tG := tg_mem 699 (by decide +kernel) (by decide +kernel)
theorem wI_X1_wornTogether : (.instanceMethod yX1_wornTogether : Cond) ∈ tG := tg_mem 700 (by decide +kernel) (by decide +kernel)
theorem ws_X1_wornTogether : (.selects RX1 yX1_wornTogether yX1_wornTogether : Cond) ∈ tG := tg_mem 701 (by decide +kernel) (by decide +kernel)
theorem wd_X1_wornTogether : (.code yX1_wornTogether cX1_wornTogether 3 (some .int) : Cond) ∈ tG := tg_mem 702 (by decide +kernel) (by decide +kernel)
theorem wm_L_161 : (.methodLink RL 161 yX5_status : Cond) ∈ tG := tg_mem 703 (by decide +kernel) (by decide +kernel)
theorem wI_X5_status : (.instanceMethod yX5_status : Cond) ∈ tG := tg_mem 704 (by decide +kernel) (by decide +kernel)
theorem ws_X5_status : (.selects RX5 yX5_status yX5_status : Cond) ∈ tG := tg_mem 705 (by decide +kernel) (by decide +kernel)
theorem wd_X5_status : (.code yX5_status cX5_status 4 (some .int) : Cond) ∈ tG := tg_mem 706 (by decide +kernel) (by decide +kernel)
theorem wc_L_10 : (.classLink RL 10 RX6 : Cond) ∈ tG := tg_mem 707 (by decide +kernel) (by decide +kernel)
theorem wn_X6 : (.instantiable RX6 15 : Cond) ∈ tG := tg_mem 708 (by decide +kernel) (by decide +kernel)
theorem wm_L_12 : (.methodLink RL 12 yX6_init : Cond) ∈ tG := tg_mem 709 (by decide +kernel) (by decide +kernel)
theorem wI_X6_init : (.instanceMethod yX6_init : Cond) ∈ tG := tg_mem 710 (by decide +kernel) (by decide +kernel)
theorem wd_X6_init : (.code yX6_init cX6_init 1 none : Cond) ∈ tG := tg_mem 711 (by decide +kernel) (by decide +kernel)
theorem wm_X6_3 : (.methodLink RX6 3 objectInit : Cond) ∈ tG := tg_mem 712 (by decide +kernel) (by decide +kernel)
theorem wf_X6_9 : (.fieldLink RX6 9 RX6 "m" "[I" : Cond) ∈ tG := tg_mem 713 (by decide +kernel) (by decide +kernel)
theorem wf_X6_13 : (.fieldLink RX6 13 RX6 "kept" "[I" : Cond) ∈ tG := tg_mem 714 (by decide +kernel) (by decide +kernel)
theorem wf_X6_16 : (.fieldLink RX6 16 RX6 "was" "[I" : Cond) ∈ tG := tg_mem 715 (by decide +kernel) (by decide +kernel)
theorem wf_X6_224 : (.fieldLink RX6 224 RX6 "isKept" "Z" : Cond) ∈ tG := tg_mem 716 (by decide +kernel) (by decide +kernel)
theorem wf_X6_19 : (.fieldLink RX6 19 RX6 "found" "[I" : Cond) ∈ tG := tg_mem 717 (by decide +kernel) (by decide +kernel)
theorem wf_X6_22 : (.fieldLink RX6 22 RX6 "tape" "[I" : Cond) ∈ tG := tg_mem 718 (by decide +kernel) (by decide +kernel)
theorem wf_X6_147 : (.fieldLink RX6 147 RX6 "taped" "I" : Cond) ∈ tG := tg_mem 719 (by decide +kernel) (by decide +kernel)
theorem wf_X6_170 : (.fieldLink RX6 170 RX6 "token" "I" : Cond) ∈ tG := tg_mem 720 (by decide +kernel) (by decide +kernel)
theorem wf_X6_154 : (.fieldLink RX6 154 RX6 "begin" "I" : Cond) ∈ tG := tg_mem 721 (by decide +kernel) (by decide +kernel)
theorem wf_X6_157 : (.fieldLink RX6 157 RX6 "at" "I" : Cond) ∈ tG := tg_mem 722 (by decide +kernel) (by decide +kernel)
theorem wf_X6_167 : (.fieldLink RX6 167 RX6 "value" "I" : Cond) ∈ tG := tg_mem 723 (by decide +kernel) (by decide +kernel)
theorem wf_X6_176 : (.fieldLink RX6 176 RX6 "bad" "Z" : Cond) ∈ tG := tg_mem 724 (by decide +kernel) (by decide +kernel)
theorem wf_X6_25 : (.fieldLink RX6 25 RX6 "bitsOf" "[I" : Cond) ∈ tG := tg_mem 725 (by decide +kernel) (by decide +kernel)
theorem wf_X6_28 : (.fieldLink RX6 28 RX6 "sizeOf" "[I" : Cond) ∈ tG := tg_mem 726 (by decide +kernel) (by decide +kernel)
theorem wf_X6_31 : (.fieldLink RX6 31 RX6 "cells" "[J" : Cond) ∈ tG := tg_mem 727 (by decide +kernel) (by decide +kernel)
theorem wm_L_17 : (.methodLink RL 17 yX6_person : Cond) ∈ tG := tg_mem 759 (by decide +kernel) (by decide +kernel)
theorem wI_X6_person : (.instanceMethod yX6_person : Cond) ∈ tG := tg_mem 760 (by decide +kernel) (by decide +kernel)
theorem ws_X6_person : (.selects RX6 yX6_person yX6_person : Cond) ∈ tG := tg_mem 761 (by decide +kernel) (by decide +kernel)
theorem wd_X6_person : (.code yX6_person cX6_person 2 (some .int) : Cond) ∈ tG := tg_mem 762 (by decide +kernel) (by decide +kernel)
theorem wm_X6_41 : (.methodLink RX6 41 yX6_in : Cond) ∈ tG := tg_mem 763 (by decide +kernel) (by decide +kernel)
theorem wt_X6_in : (.static yX6_in : Cond) ∈ tG := tg_mem 764 (by decide +kernel) (by decide +kernel)
theorem wd_X6_in : (.code yX6_in cX6_in 4 (some .boolean) : Cond) ∈ tG := tg_mem 765 (by decide +kernel) (by decide +kernel)
theorem wk_X6_35 : (.constant RX6 35 (-1000000001) : Cond) ∈ tG := tg_mem 766 (by decide +kernel) (by decide +kernel)
theorem wm_X6_37 : (.methodLink RX6 37 yX6_finds : Cond) ∈ tG := tg_mem 767 (by decide +kernel) (by decide +kernel)
theorem wI_X6_finds : (.instanceMethod yX6_finds : Cond) ∈ tG := tg_mem 769 (by decide +kernel) (by decide +kernel)
theorem wd_X6_finds : (.code yX6_finds cX6_finds 2 (some .int) : Cond) ∈ tG := tg_mem 770 (by decide +kernel) (by decide +kernel)
theorem wk_X6_67 : (.constant RX6 67 (-1000000002) : Cond) ∈ tG := tg_mem 771 (by decide +kernel) (by decide +kernel)
theorem wm_X6_68 : (.methodLink RX6 68 yX6_comesAs : Cond) ∈ tG := tg_mem 772 (by decide +kernel) (by decide +kernel)
theorem wI_X6_comesAs : (.instanceMethod yX6_comesAs : Cond) ∈ tG := tg_mem 774 (by decide +kernel) (by decide +kernel)
theorem wd_X6_comesAs : (.code yX6_comesAs cX6_comesAs 5 (some .int) : Cond) ∈ tG := tg_mem 775 (by decide +kernel) (by decide +kernel)
theorem wm_X6_63 : (.methodLink RX6 63 yX6_put : Cond) ∈ tG := tg_mem 776 (by decide +kernel) (by decide +kernel)
theorem wI_X6_put : (.instanceMethod yX6_put : Cond) ∈ tG := tg_mem 778 (by decide +kernel) (by decide +kernel)
theorem wd_X6_put : (.code yX6_put cX6_put 4 none : Cond) ∈ tG := tg_mem 779 (by decide +kernel) (by decide +kernel)
theorem wm_L_22 : (.methodLink RL 22 yX6_of : Cond) ∈ tG := tg_mem 780 (by decide +kernel) (by decide +kernel)
theorem wI_X6_of : (.instanceMethod yX6_of : Cond) ∈ tG := tg_mem 781 (by decide +kernel) (by decide +kernel)
theorem ws_X6_of : (.selects RX6 yX6_of yX6_of : Cond) ∈ tG := tg_mem 782 (by decide +kernel) (by decide +kernel)
theorem wd_X6_of : (.code yX6_of cX6_of 3 (some .int) : Cond) ∈ tG := tg_mem 783 (by decide +kernel) (by decide +kernel)
theorem wm_X6_45 : (.methodLink RX6 45 yX6_isPerson : Cond) ∈ tG := tg_mem 784 (by decide +kernel) (by decide +kernel)
theorem wI_X6_isPerson : (.instanceMethod yX6_isPerson : Cond) ∈ tG := tg_mem 786 (by decide +kernel) (by decide +kernel)
theorem wd_X6_isPerson : (.code yX6_isPerson cX6_isPerson 2 (some .boolean) : Cond) ∈ tG := tg_mem 787 (by decide +kernel) (by decide +kernel)
theorem wm_X6_49 : (.methodLink RX6 49 yX6_it : Cond) ∈ tG := tg_mem 788 (by decide +kernel) (by decide +kernel)
theorem wI_X6_it : (.instanceMethod yX6_it : Cond) ∈ tG := tg_mem 790 (by decide +kernel) (by decide +kernel)
theorem wd_X6_it : (.code yX6_it cX6_it 3 (some .int) : Cond) ∈ tG := tg_mem 791 (by decide +kernel) (by decide +kernel)
theorem wm_X6_71 : (.methodLink RX6 71 yX6_grinds : Cond) ∈ tG := tg_mem 792 (by decide +kernel) (by decide +kernel)
theorem wI_X6_grinds : (.instanceMethod yX6_grinds : Cond) ∈ tG := tg_mem 794 (by decide +kernel) (by decide +kernel)
theorem wd_X6_grinds : (.code yX6_grinds cX6_grinds 4 (some .int) : Cond) ∈ tG := tg_mem 795 (by decide +kernel) (by decide +kernel)
theorem wm_X6_53 : (.methodLink RX6 53 yX6_held : Cond) ∈ tG := tg_mem 796 (by decide +kernel) (by decide +kernel)
theorem wt_X6_held : (.static yX6_held : Cond) ∈ tG := tg_mem 797 (by decide +kernel) (by decide +kernel)
theorem wd_X6_held : (.code yX6_held cX6_held 3 (some .int) : Cond) ∈ tG := tg_mem 798 (by decide +kernel) (by decide +kernel)
theorem wm_X6_74 : (.methodLink RX6 74 yX6_eases : Cond) ∈ tG := tg_mem 799 (by decide +kernel) (by decide +kernel)
theorem wI_X6_eases : (.instanceMethod yX6_eases : Cond) ∈ tG := tg_mem 801 (by decide +kernel) (by decide +kernel)
theorem wd_X6_eases : (.code yX6_eases cX6_eases 3 (some .int) : Cond) ∈ tG := tg_mem 802 (by decide +kernel) (by decide +kernel)
theorem wm_X6_60 : (.methodLink RX6 60 yX6_sight : Cond) ∈ tG := tg_mem 803 (by decide +kernel) (by decide +kernel)
theorem wI_X6_sight : (.instanceMethod yX6_sight : Cond) ∈ tG := tg_mem 805 (by decide +kernel) (by decide +kernel)
theorem wd_X6_sight : (.code yX6_sight cX6_sight 2 (some .int) : Cond) ∈ tG := tg_mem 806 (by decide +kernel) (by decide +kernel)
theorem wm_X6_57 : (.methodLink RX6 57 yX6_looksAt : Cond) ∈ tG := tg_mem 807 (by decide +kernel) (by decide +kernel)
theorem wI_X6_looksAt : (.instanceMethod yX6_looksAt : Cond) ∈ tG := tg_mem 809 (by decide +kernel) (by decide +kernel)
theorem wd_X6_looksAt : (.code yX6_looksAt cX6_looksAt 7 (some .int) : Cond) ∈ tG := tg_mem 810 (by decide +kernel) (by decide +kernel)
theorem wm_X6_77 : (.methodLink RX6 77 yX6_grows : Cond) ∈ tG := tg_mem 811 (by decide +kernel) (by decide +kernel)
theorem wI_X6_grows : (.instanceMethod yX6_grows : Cond) ∈ tG := tg_mem 813 (by decide +kernel) (by decide +kernel)
theorem wd_X6_grows : (.code yX6_grows cX6_grows 5 (some .int) : Cond) ∈ tG := tg_mem 814 (by decide +kernel) (by decide +kernel)
theorem wm_L_27 : (.methodLink RL 27 yX6_set : Cond) ∈ tG := tg_mem 815 (by decide +kernel) (by decide +kernel)
theorem wI_X6_set : (.instanceMethod yX6_set : Cond) ∈ tG := tg_mem 816 (by decide +kernel) (by decide +kernel)
theorem ws_X6_set : (.selects RX6 yX6_set yX6_set : Cond) ∈ tG := tg_mem 817 (by decide +kernel) (by decide +kernel)
theorem wd_X6_set : (.code yX6_set cX6_set 4 (some .int) : Cond) ∈ tG := tg_mem 818 (by decide +kernel) (by decide +kernel)
theorem wm_X6_80 : (.methodLink RX6 80 yX6_mayBe : Cond) ∈ tG := tg_mem 819 (by decide +kernel) (by decide +kernel)
theorem wI_X6_mayBe : (.instanceMethod yX6_mayBe : Cond) ∈ tG := tg_mem 821 (by decide +kernel) (by decide +kernel)
theorem wd_X6_mayBe : (.code yX6_mayBe cX6_mayBe 4 (some .boolean) : Cond) ∈ tG := tg_mem 822 (by decide +kernel) (by decide +kernel)
theorem wm_X6_84 : (.methodLink RX6 84 yX6_becomes : Cond) ∈ tG := tg_mem 823 (by decide +kernel) (by decide +kernel)
theorem wI_X6_becomes : (.instanceMethod yX6_becomes : Cond) ∈ tG := tg_mem 825 (by decide +kernel) (by decide +kernel)
theorem wd_X6_becomes : (.code yX6_becomes cX6_becomes 4 (some .int) : Cond) ∈ tG := tg_mem 826 (by decide +kernel) (by decide +kernel)
theorem wm_L_31 : (.methodLink RL 31 yX6_turn : Cond) ∈ tG := tg_mem 827 (by decide +kernel) (by decide +kernel)
theorem wI_X6_turn : (.instanceMethod yX6_turn : Cond) ∈ tG := tg_mem 828 (by decide +kernel) (by decide +kernel)
theorem ws_X6_turn : (.selects RX6 yX6_turn yX6_turn : Cond) ∈ tG := tg_mem 829 (by decide +kernel) (by decide +kernel)
theorem wd_X6_turn : (.code yX6_turn cX6_turn 3 (some .int) : Cond) ∈ tG := tg_mem 830 (by decide +kernel) (by decide +kernel)
theorem wm_L_35 : (.methodLink RL 35 yX6_as : Cond) ∈ tG := tg_mem 831 (by decide +kernel) (by decide +kernel)
theorem wI_X6_as : (.instanceMethod yX6_as : Cond) ∈ tG := tg_mem 832 (by decide +kernel) (by decide +kernel)
theorem ws_X6_as : (.selects RX6 yX6_as yX6_as : Cond) ∈ tG := tg_mem 833 (by decide +kernel) (by decide +kernel)
theorem wd_X6_as : (.code yX6_as cX6_as 5 (some .int) : Cond) ∈ tG := tg_mem 834 (by decide +kernel) (by decide +kernel)
theorem wk_X6_87 : (.constant RX6 87 (-1000000003) : Cond) ∈ tG := tg_mem 835 (by decide +kernel) (by decide +kernel)
theorem wm_L_39 : (.methodLink RL 39 yX6_grind : Cond) ∈ tG := tg_mem 836 (by decide +kernel) (by decide +kernel)
theorem wI_X6_grind : (.instanceMethod yX6_grind : Cond) ∈ tG := tg_mem 837 (by decide +kernel) (by decide +kernel)
theorem ws_X6_grind : (.selects RX6 yX6_grind yX6_grind : Cond) ∈ tG := tg_mem 838 (by decide +kernel) (by decide +kernel)
theorem wd_X6_grind : (.code yX6_grind cX6_grind 2 (some .int) : Cond) ∈ tG := tg_mem 839 (by decide +kernel) (by decide +kernel)
theorem wk_X6_88 : (.constant RX6 88 (-1000000005) : Cond) ∈ tG := tg_mem 840 (by decide +kernel) (by decide +kernel)
theorem wm_X6_89 : (.methodLink RX6 89 yX6_isGround : Cond) ∈ tG := tg_mem 841 (by decide +kernel) (by decide +kernel)
theorem wI_X6_isGround : (.instanceMethod yX6_isGround : Cond) ∈ tG := tg_mem 843 (by decide +kernel) (by decide +kernel)
theorem wd_X6_isGround : (.code yX6_isGround cX6_isGround 2 (some .int) : Cond) ∈ tG := tg_mem 844 (by decide +kernel) (by decide +kernel)
theorem wm_L_43 : (.methodLink RL 43 yX6_lend : Cond) ∈ tG := tg_mem 845 (by decide +kernel) (by decide +kernel)
theorem wI_X6_lend : (.instanceMethod yX6_lend : Cond) ∈ tG := tg_mem 846 (by decide +kernel) (by decide +kernel)
theorem ws_X6_lend : (.selects RX6 yX6_lend yX6_lend : Cond) ∈ tG := tg_mem 847 (by decide +kernel) (by decide +kernel)
theorem wd_X6_lend : (.code yX6_lend cX6_lend 3 (some .int) : Cond) ∈ tG := tg_mem 848 (by decide +kernel) (by decide +kernel)
theorem wm_X6_92 : (.methodLink RX6 92 yX6_areTwo : Cond) ∈ tG := tg_mem 849 (by decide +kernel) (by decide +kernel)
theorem wI_X6_areTwo : (.instanceMethod yX6_areTwo : Cond) ∈ tG := tg_mem 851 (by decide +kernel) (by decide +kernel)
theorem wd_X6_areTwo : (.code yX6_areTwo cX6_areTwo 3 (some .boolean) : Cond) ∈ tG := tg_mem 852 (by decide +kernel) (by decide +kernel)
theorem wm_X6_95 : (.methodLink RX6 95 yX6_lends : Cond) ∈ tG := tg_mem 853 (by decide +kernel) (by decide +kernel)
theorem wI_X6_lends : (.instanceMethod yX6_lends : Cond) ∈ tG := tg_mem 855 (by decide +kernel) (by decide +kernel)
theorem wd_X6_lends : (.code yX6_lends cX6_lends 5 none : Cond) ∈ tG := tg_mem 856 (by decide +kernel) (by decide +kernel)
theorem wm_L_47 : (.methodLink RL 47 yX6_looks : Cond) ∈ tG := tg_mem 857 (by decide +kernel) (by decide +kernel)
theorem wI_X6_looks : (.instanceMethod yX6_looks : Cond) ∈ tG := tg_mem 858 (by decide +kernel) (by decide +kernel)
theorem ws_X6_looks : (.selects RX6 yX6_looks yX6_looks : Cond) ∈ tG := tg_mem 859 (by decide +kernel) (by decide +kernel)
theorem wd_X6_looks : (.code yX6_looks cX6_looks 3 (some .int) : Cond) ∈ tG := tg_mem 860 (by decide +kernel) (by decide +kernel)
theorem wm_L_51 : (.methodLink RL 51 yX6_sees : Cond) ∈ tG := tg_mem 861 (by decide +kernel) (by decide +kernel)
theorem wI_X6_sees : (.instanceMethod yX6_sees : Cond) ∈ tG := tg_mem 862 (by decide +kernel) (by decide +kernel)
theorem ws_X6_sees : (.selects RX6 yX6_sees yX6_sees : Cond) ∈ tG := tg_mem 863 (by decide +kernel) (by decide +kernel)
theorem wd_X6_sees : (.code yX6_sees cX6_sees 3 (some .int) : Cond) ∈ tG := tg_mem 864 (by decide +kernel) (by decide +kernel)
theorem wm_X6_99 : (.methodLink RX6 99 yX6_seesBy : Cond) ∈ tG := tg_mem 865 (by decide +kernel) (by decide +kernel)
theorem wI_X6_seesBy : (.instanceMethod yX6_seesBy : Cond) ∈ tG := tg_mem 867 (by decide +kernel) (by decide +kernel)
theorem wd_X6_seesBy : (.code yX6_seesBy cX6_seesBy 5 (some .int) : Cond) ∈ tG := tg_mem 868 (by decide +kernel) (by decide +kernel)
theorem wm_L_55 : (.methodLink RL 55 yX6_days : Cond) ∈ tG := tg_mem 869 (by decide +kernel) (by decide +kernel)
theorem wI_X6_days : (.instanceMethod yX6_days : Cond) ∈ tG := tg_mem 870 (by decide +kernel) (by decide +kernel)
theorem ws_X6_days : (.selects RX6 yX6_days yX6_days : Cond) ∈ tG := tg_mem 871 (by decide +kernel) (by decide +kernel)
theorem wd_X6_days : (.code yX6_days cX6_days 2 (some .int) : Cond) ∈ tG := tg_mem 872 (by decide +kernel) (by decide +kernel)
theorem wm_X6_105 : (.methodLink RX6 105 yX6_goesFor : Cond) ∈ tG := tg_mem 873 (by decide +kernel) (by decide +kernel)
theorem wI_X6_goesFor : (.instanceMethod yX6_goesFor : Cond) ∈ tG := tg_mem 875 (by decide +kernel) (by decide +kernel)
theorem wd_X6_goesFor : (.code yX6_goesFor cX6_goesFor 3 none : Cond) ∈ tG := tg_mem 876 (by decide +kernel) (by decide +kernel)
theorem wm_X6_102 : (.methodLink RX6 102 yX6_goes : Cond) ∈ tG := tg_mem 877 (by decide +kernel) (by decide +kernel)
theorem wI_X6_goes : (.instanceMethod yX6_goes : Cond) ∈ tG := tg_mem 879 (by decide +kernel) (by decide +kernel)
theorem wd_X6_goes : (.code yX6_goes cX6_goes 3 none : Cond) ∈ tG := tg_mem 880 (by decide +kernel) (by decide +kernel)
theorem wm_X6_109 : (.methodLink RX6 109 yX6_sums : Cond) ∈ tG := tg_mem 881 (by decide +kernel) (by decide +kernel)
theorem wI_X6_sums : (.instanceMethod yX6_sums : Cond) ∈ tG := tg_mem 883 (by decide +kernel) (by decide +kernel)
theorem wd_X6_sums : (.code yX6_sums cX6_sums 4 (some .int) : Cond) ∈ tG := tg_mem 884 (by decide +kernel) (by decide +kernel)
theorem wm_L_59 : (.methodLink RL 59 yX6_now : Cond) ∈ tG := tg_mem 885 (by decide +kernel) (by decide +kernel)
theorem wI_X6_now : (.instanceMethod yX6_now : Cond) ∈ tG := tg_mem 886 (by decide +kernel) (by decide +kernel)
theorem ws_X6_now : (.selects RX6 yX6_now yX6_now : Cond) ∈ tG := tg_mem 887 (by decide +kernel) (by decide +kernel)
theorem wd_X6_now : (.code yX6_now cX6_now 2 (some .int) : Cond) ∈ tG := tg_mem 888 (by decide +kernel) (by decide +kernel)
theorem wm_X6_112 : (.methodLink RX6 112 yX6_thoseWith : Cond) ∈ tG := tg_mem 889 (by decide +kernel) (by decide +kernel)
theorem wI_X6_thoseWith : (.instanceMethod yX6_thoseWith : Cond) ∈ tG := tg_mem 891 (by decide +kernel) (by decide +kernel)
theorem wd_X6_thoseWith : (.code yX6_thoseWith cX6_thoseWith 5 (some .int) : Cond) ∈ tG := tg_mem 892 (by decide +kernel) (by decide +kernel)
theorem wm_X6_115 : (.methodLink RX6 115 yX6_seen : Cond) ∈ tG := tg_mem 893 (by decide +kernel) (by decide +kernel)
theorem wI_X6_seen : (.instanceMethod yX6_seen : Cond) ∈ tG := tg_mem 895 (by decide +kernel) (by decide +kernel)
theorem wd_X6_seen : (.code yX6_seen cX6_seen 3 (some .int) : Cond) ∈ tG := tg_mem 896 (by decide +kernel) (by decide +kernel)
theorem wm_L_63 : (.methodLink RL 63 yX6_on : Cond) ∈ tG := tg_mem 897 (by decide +kernel) (by decide +kernel)
theorem wI_X6_on : (.instanceMethod yX6_on : Cond) ∈ tG := tg_mem 898 (by decide +kernel) (by decide +kernel)
theorem ws_X6_on : (.selects RX6 yX6_on yX6_on : Cond) ∈ tG := tg_mem 899 (by decide +kernel) (by decide +kernel)
theorem wd_X6_on : (.code yX6_on cX6_on 5 (some .int) : Cond) ∈ tG := tg_mem 900 (by decide +kernel) (by decide +kernel)
theorem wm_X6_123 : (.methodLink RX6 123 yX6_thinks : Cond) ∈ tG := tg_mem 901 (by decide +kernel) (by decide +kernel)
theorem wI_X6_thinks : (.instanceMethod yX6_thinks : Cond) ∈ tG := tg_mem 903 (by decide +kernel) (by decide +kernel)
theorem wd_X6_thinks : (.code yX6_thinks cX6_thinks 1 none : Cond) ∈ tG := tg_mem 904 (by decide +kernel) (by decide +kernel)
theorem wm_X6_119 : (.methodLink RX6 119 yX6_copyAll : Cond) ∈ tG := tg_mem 905 (by decide +kernel) (by decide +kernel)
theorem wt_X6_copyAll : (.static yX6_copyAll : Cond) ∈ tG := tg_mem 906 (by decide +kernel) (by decide +kernel)
theorem wd_X6_copyAll : (.code yX6_copyAll cX6_copyAll 3 none : Cond) ∈ tG := tg_mem 907 (by decide +kernel) (by decide +kernel)
theorem wm_X6_126 : (.methodLink RX6 126 yX6_putsBack : Cond) ∈ tG := tg_mem 908 (by decide +kernel) (by decide +kernel)
theorem wI_X6_putsBack : (.instanceMethod yX6_putsBack : Cond) ∈ tG := tg_mem 910 (by decide +kernel) (by decide +kernel)
theorem wd_X6_putsBack : (.code yX6_putsBack cX6_putsBack 1 none : Cond) ∈ tG := tg_mem 911 (by decide +kernel) (by decide +kernel)
theorem wm_L_67 : (.methodLink RL 67 yX6_then : Cond) ∈ tG := tg_mem 912 (by decide +kernel) (by decide +kernel)
theorem wI_X6_then : (.instanceMethod yX6_then : Cond) ∈ tG := tg_mem 913 (by decide +kernel) (by decide +kernel)
theorem ws_X6_then : (.selects RX6 yX6_then yX6_then : Cond) ∈ tG := tg_mem 914 (by decide +kernel) (by decide +kernel)
theorem wd_X6_then : (.code yX6_then cX6_then 5 (some .int) : Cond) ∈ tG := tg_mem 915 (by decide +kernel) (by decide +kernel)
theorem wm_L_71 : (.methodLink RL 71 yX6_forgives : Cond) ∈ tG := tg_mem 916 (by decide +kernel) (by decide +kernel)
theorem wI_X6_forgives : (.instanceMethod yX6_forgives : Cond) ∈ tG := tg_mem 917 (by decide +kernel) (by decide +kernel)
theorem ws_X6_forgives : (.selects RX6 yX6_forgives yX6_forgives : Cond) ∈ tG := tg_mem 918 (by decide +kernel) (by decide +kernel)
theorem wd_X6_forgives : (.code yX6_forgives cX6_forgives 2 (some .int) : Cond) ∈ tG := tg_mem 919 (by decide +kernel) (by decide +kernel)
theorem wm_X6_129 : (.methodLink RX6 129 yX6_easedIn : Cond) ∈ tG := tg_mem 920 (by decide +kernel) (by decide +kernel)
theorem wI_X6_easedIn : (.instanceMethod yX6_easedIn : Cond) ∈ tG := tg_mem 922 (by decide +kernel) (by decide +kernel)
theorem wd_X6_easedIn : (.code yX6_easedIn cX6_easedIn 3 (some .int) : Cond) ∈ tG := tg_mem 923 (by decide +kernel) (by decide +kernel)
theorem wm_X6_132 : (.methodLink RX6 132 yX6_orNone : Cond) ∈ tG := tg_mem 924 (by decide +kernel) (by decide +kernel)
theorem wI_X6_orNone : (.instanceMethod yX6_orNone : Cond) ∈ tG := tg_mem 926 (by decide +kernel) (by decide +kernel)
theorem wd_X6_orNone : (.code yX6_orNone cX6_orNone 2 (some .int) : Cond) ∈ tG := tg_mem 927 (by decide +kernel) (by decide +kernel)
theorem wk_X6_36 : (.constant RX6 36 (-1000000004) : Cond) ∈ tG := tg_mem 928 (by decide +kernel) (by decide +kernel)
theorem wm_L_75 : (.methodLink RL 75 yX6_worn : Cond) ∈ tG := tg_mem 929 (by decide +kernel) (by decide +kernel)
theorem wI_X6_worn : (.instanceMethod yX6_worn : Cond) ∈ tG := tg_mem 930 (by decide +kernel) (by decide +kernel)
theorem ws_X6_worn : (.selects RX6 yX6_worn yX6_worn : Cond) ∈ tG := tg_mem 931 (by decide +kernel) (by decide +kernel)
theorem wd_X6_worn : (.code yX6_worn cX6_worn 3 (some .int) : Cond) ∈ tG := tg_mem 932 (by decide +kernel) (by decide +kernel)
theorem wm_L_79 : (.methodLink RL 79 yX6_unseen : Cond) ∈ tG := tg_mem 933 (by decide +kernel) (by decide +kernel)
theorem wI_X6_unseen : (.instanceMethod yX6_unseen : Cond) ∈ tG := tg_mem 934 (by decide +kernel) (by decide +kernel)
theorem ws_X6_unseen : (.selects RX6 yX6_unseen yX6_unseen : Cond) ∈ tG := tg_mem 935 (by decide +kernel) (by decide +kernel)
theorem wd_X6_unseen : (.code yX6_unseen cX6_unseen 3 (some .int) : Cond) ∈ tG := tg_mem 936 (by decide +kernel) (by decide +kernel)
theorem wm_L_83 : (.methodLink RL 83 yX6_borrow : Cond) ∈ tG := tg_mem 937 (by decide +kernel) (by decide +kernel)
theorem wI_X6_borrow : (.instanceMethod yX6_borrow : Cond) ∈ tG := tg_mem 938 (by decide +kernel) (by decide +kernel)
theorem ws_X6_borrow : (.selects RX6 yX6_borrow yX6_borrow : Cond) ∈ tG := tg_mem 939 (by decide +kernel) (by decide +kernel)
theorem wd_X6_borrow : (.code yX6_borrow cX6_borrow 7 (some .int) : Cond) ∈ tG := tg_mem 940 (by decide +kernel) (by decide +kernel)
theorem wm_L_87 : (.methodLink RL 87 yX6_kind : Cond) ∈ tG := tg_mem 941 (by decide +kernel) (by decide +kernel)
theorem wI_X6_kind : (.instanceMethod yX6_kind : Cond) ∈ tG := tg_mem 942 (by decide +kernel) (by decide +kernel)
theorem ws_X6_kind : (.selects RX6 yX6_kind yX6_kind : Cond) ∈ tG := tg_mem 943 (by decide +kernel) (by decide +kernel)
theorem wd_X6_kind : (.code yX6_kind cX6_kind 7 (some .int) : Cond) ∈ tG := tg_mem 944 (by decide +kernel) (by decide +kernel)
theorem wm_L_91 : (.methodLink RL 91 yX6_better : Cond) ∈ tG := tg_mem 945 (by decide +kernel) (by decide +kernel)
theorem wI_X6_better : (.instanceMethod yX6_better : Cond) ∈ tG := tg_mem 946 (by decide +kernel) (by decide +kernel)
theorem ws_X6_better : (.selects RX6 yX6_better yX6_better : Cond) ∈ tG := tg_mem 947 (by decide +kernel) (by decide +kernel)
theorem wd_X6_better : (.code yX6_better cX6_better 7 (some .int) : Cond) ∈ tG := tg_mem 948 (by decide +kernel) (by decide +kernel)
theorem wm_X6_135 : (.methodLink RX6 135 yX6_grudgeOn : Cond) ∈ tG := tg_mem 949 (by decide +kernel) (by decide +kernel)
theorem wI_X6_grudgeOn : (.instanceMethod yX6_grudgeOn : Cond) ∈ tG := tg_mem 951 (by decide +kernel) (by decide +kernel)
theorem wd_X6_grudgeOn : (.code yX6_grudgeOn cX6_grudgeOn 4 (some .int) : Cond) ∈ tG := tg_mem 952 (by decide +kernel) (by decide +kernel)
theorem wm_L_95 : (.methodLink RL 95 yX6_most : Cond) ∈ tG := tg_mem 953 (by decide +kernel) (by decide +kernel)
theorem wI_X6_most : (.instanceMethod yX6_most : Cond) ∈ tG := tg_mem 954 (by decide +kernel) (by decide +kernel)
theorem ws_X6_most : (.selects RX6 yX6_most yX6_most : Cond) ∈ tG := tg_mem 955 (by decide +kernel) (by decide +kernel)
theorem wd_X6_most : (.code yX6_most cX6_most 5 (some .int) : Cond) ∈ tG := tg_mem 956 (by decide +kernel) (by decide +kernel)
theorem wm_L_99 : (.methodLink RL 99 yX6_sharpest : Cond) ∈ tG := tg_mem 957 (by decide +kernel) (by decide +kernel)
theorem wI_X6_sharpest : (.instanceMethod yX6_sharpest : Cond) ∈ tG := tg_mem 958 (by decide +kernel) (by decide +kernel)
theorem ws_X6_sharpest : (.selects RX6 yX6_sharpest yX6_sharpest : Cond) ∈ tG := tg_mem 959 (by decide +kernel) (by decide +kernel)
theorem wd_X6_sharpest : (.code yX6_sharpest cX6_sharpest 6 (some .int) : Cond) ∈ tG := tg_mem 960 (by decide +kernel) (by decide +kernel)
theorem wm_X6_138 : (.methodLink RX6 138 yX6_allLooks : Cond) ∈ tG := tg_mem 961 (by decide +kernel) (by decide +kernel)
theorem wI_X6_allLooks : (.instanceMethod yX6_allLooks : Cond) ∈ tG := tg_mem 963 (by decide +kernel) (by decide +kernel)
theorem wd_X6_allLooks : (.code yX6_allLooks cX6_allLooks 4 (some .int) : Cond) ∈ tG := tg_mem 964 (by decide +kernel) (by decide +kernel)
theorem wm_L_104 : (.methodLink RL 104 yX6_push : Cond) ∈ tG := tg_mem 965 (by decide +kernel) (by decide +kernel)
theorem wI_X6_push : (.instanceMethod yX6_push : Cond) ∈ tG := tg_mem 966 (by decide +kernel) (by decide +kernel)
theorem ws_X6_push : (.selects RX6 yX6_push yX6_push : Cond) ∈ tG := tg_mem 967 (by decide +kernel) (by decide +kernel)
theorem wd_X6_push : (.code yX6_push cX6_push 4 (some .int) : Cond) ∈ tG := tg_mem 968 (by decide +kernel) (by decide +kernel)
theorem wm_X6_141 : (.methodLink RX6 141 yX6_bits : Cond) ∈ tG := tg_mem 969 (by decide +kernel) (by decide +kernel)
theorem wt_X6_bits : (.static yX6_bits : Cond) ∈ tG := tg_mem 970 (by decide +kernel) (by decide +kernel)
theorem wd_X6_bits : (.code yX6_bits cX6_bits 3 (some .int) : Cond) ∈ tG := tg_mem 971 (by decide +kernel) (by decide +kernel)
theorem wm_X6_144 : (.methodLink RX6 144 yX6_areSeen : Cond) ∈ tG := tg_mem 972 (by decide +kernel) (by decide +kernel)
theorem wI_X6_areSeen : (.instanceMethod yX6_areSeen : Cond) ∈ tG := tg_mem 974 (by decide +kernel) (by decide +kernel)
theorem wd_X6_areSeen : (.code yX6_areSeen cX6_areSeen 3 (some .boolean) : Cond) ∈ tG := tg_mem 975 (by decide +kernel) (by decide +kernel)
theorem wm_L_108 : (.methodLink RL 108 yX6_feed : Cond) ∈ tG := tg_mem 976 (by decide +kernel) (by decide +kernel)
theorem wI_X6_feed : (.instanceMethod yX6_feed : Cond) ∈ tG := tg_mem 977 (by decide +kernel) (by decide +kernel)
theorem ws_X6_feed : (.selects RX6 yX6_feed yX6_feed : Cond) ∈ tG := tg_mem 978 (by decide +kernel) (by decide +kernel)
theorem wd_X6_feed : (.code yX6_feed cX6_feed 4 (some .int) : Cond) ∈ tG := tg_mem 979 (by decide +kernel) (by decide +kernel)
theorem wm_L_112 : (.methodLink RL 112 yX6_wipe : Cond) ∈ tG := tg_mem 980 (by decide +kernel) (by decide +kernel)
theorem wI_X6_wipe : (.instanceMethod yX6_wipe : Cond) ∈ tG := tg_mem 981 (by decide +kernel) (by decide +kernel)
theorem ws_X6_wipe : (.selects RX6 yX6_wipe yX6_wipe : Cond) ∈ tG := tg_mem 982 (by decide +kernel) (by decide +kernel)
theorem wd_X6_wipe : (.code yX6_wipe cX6_wipe 2 (some .int) : Cond) ∈ tG := tg_mem 983 (by decide +kernel) (by decide +kernel)
theorem wm_L_116 : (.methodLink RL 116 yX6_quay : Cond) ∈ tG := tg_mem 984 (by decide +kernel) (by decide +kernel)
theorem wI_X6_quay : (.instanceMethod yX6_quay : Cond) ∈ tG := tg_mem 985 (by decide +kernel) (by decide +kernel)
theorem ws_X6_quay : (.selects RX6 yX6_quay yX6_quay : Cond) ∈ tG := tg_mem 986 (by decide +kernel) (by decide +kernel)
theorem wd_X6_quay : (.code yX6_quay cX6_quay 2 (some .int) : Cond) ∈ tG := tg_mem 987 (by decide +kernel) (by decide +kernel)
theorem wm_X6_180 : (.methodLink RX6 180 yX6_reads : Cond) ∈ tG := tg_mem 988 (by decide +kernel) (by decide +kernel)
theorem wI_X6_reads : (.instanceMethod yX6_reads : Cond) ∈ tG := tg_mem 990 (by decide +kernel) (by decide +kernel)
theorem wd_X6_reads : (.code yX6_reads cX6_reads 1 none : Cond) ∈ tG := tg_mem 991 (by decide +kernel) (by decide +kernel)
theorem wm_X6_163 : (.methodLink RX6 163 yX6_isByte : Cond) ∈ tG := tg_mem 992 (by decide +kernel) (by decide +kernel)
theorem wI_X6_isByte : (.instanceMethod yX6_isByte : Cond) ∈ tG := tg_mem 994 (by decide +kernel) (by decide +kernel)
theorem wd_X6_isByte : (.code yX6_isByte cX6_isByte 4 (some .boolean) : Cond) ∈ tG := tg_mem 995 (by decide +kernel) (by decide +kernel)
theorem wm_X6_173 : (.methodLink RX6 173 yX6_wordHere : Cond) ∈ tG := tg_mem 996 (by decide +kernel) (by decide +kernel)
theorem wI_X6_wordHere : (.instanceMethod yX6_wordHere : Cond) ∈ tG := tg_mem 998 (by decide +kernel) (by decide +kernel)
theorem wd_X6_wordHere : (.code yX6_wordHere cX6_wordHere 2 (some .int) : Cond) ∈ tG := tg_mem 999 (by decide +kernel) (by decide +kernel)
theorem wm_X6_160 : (.methodLink RX6 160 yX6_isName : Cond) ∈ tG := tg_mem 1000 (by decide +kernel) (by decide +kernel)
theorem wI_X6_isName : (.instanceMethod yX6_isName : Cond) ∈ tG := tg_mem 1002 (by decide +kernel) (by decide +kernel)
theorem wd_X6_isName : (.code yX6_isName cX6_isName 5 (some .boolean) : Cond) ∈ tG := tg_mem 1003 (by decide +kernel) (by decide +kernel)
theorem wf_X6_151 : (.fieldLink RX6 151 RX6 "NAMES" "[I" : Cond) ∈ tG := tg_mem 1004 (by decide +kernel) (by decide +kernel)
theorem wz_X6_NAMES : (.laysStatic RX6 "NAMES" "[I" : Cond) ∈ lw_tbl := List.mem_of_getElem? (i := 1005) (by decide +kernel)
theorem wm_X6_199 : (.methodLink RX6 199 yX6_item : Cond) ∈ tG := tg_mem 1006 (by decide +kernel) (by decide +kernel)
theorem wI_X6_item : (.instanceMethod yX6_item : Cond) ∈ tG := tg_mem 1008 (by decide +kernel) (by decide +kernel)
theorem wd_X6_item : (.code yX6_item cX6_item 3 none : Cond) ∈ tG := tg_mem 1009 (by decide +kernel) (by decide +kernel)
theorem wm_X6_193 : (.methodLink RX6 193 yX6_personItem : Cond) ∈ tG := tg_mem 1010 (by decide +kernel) (by decide +kernel)
theorem wI_X6_personItem : (.instanceMethod yX6_personItem : Cond) ∈ tG := tg_mem 1012 (by decide +kernel) (by decide +kernel)
theorem wd_X6_personItem : (.code yX6_personItem cX6_personItem 5 none : Cond) ∈ tG := tg_mem 1013 (by decide +kernel) (by decide +kernel)
theorem wm_X6_189 : (.methodLink RX6 189 yX6_perhaps : Cond) ∈ tG := tg_mem 1014 (by decide +kernel) (by decide +kernel)
theorem wI_X6_perhaps : (.instanceMethod yX6_perhaps : Cond) ∈ tG := tg_mem 1016 (by decide +kernel) (by decide +kernel)
theorem wd_X6_perhaps : (.code yX6_perhaps cX6_perhaps 5 (some .int) : Cond) ∈ tG := tg_mem 1017 (by decide +kernel) (by decide +kernel)
theorem wm_X6_183 : (.methodLink RX6 183 yX6_passes : Cond) ∈ tG := tg_mem 1018 (by decide +kernel) (by decide +kernel)
theorem wI_X6_passes : (.instanceMethod yX6_passes : Cond) ∈ tG := tg_mem 1020 (by decide +kernel) (by decide +kernel)
theorem wd_X6_passes : (.code yX6_passes cX6_passes 2 (some .boolean) : Cond) ∈ tG := tg_mem 1021 (by decide +kernel) (by decide +kernel)
theorem wm_X6_186 : (.methodLink RX6 186 yX6_number : Cond) ∈ tG := tg_mem 1022 (by decide +kernel) (by decide +kernel)
theorem wI_X6_number : (.instanceMethod yX6_number : Cond) ∈ tG := tg_mem 1024 (by decide +kernel) (by decide +kernel)
theorem wd_X6_number : (.code yX6_number cX6_number 4 (some .int) : Cond) ∈ tG := tg_mem 1025 (by decide +kernel) (by decide +kernel)
theorem wm_X6_196 : (.methodLink RX6 196 yX6_grindItem : Cond) ∈ tG := tg_mem 1026 (by decide +kernel) (by decide +kernel)
theorem wI_X6_grindItem : (.instanceMethod yX6_grindItem : Cond) ∈ tG := tg_mem 1028 (by decide +kernel) (by decide +kernel)
theorem wd_X6_grindItem : (.code yX6_grindItem cX6_grindItem 3 none : Cond) ∈ tG := tg_mem 1029 (by decide +kernel) (by decide +kernel)
theorem wm_L_120 : (.methodLink RL 120 yX6_sheet : Cond) ∈ tG := tg_mem 1030 (by decide +kernel) (by decide +kernel)
theorem wI_X6_sheet : (.instanceMethod yX6_sheet : Cond) ∈ tG := tg_mem 1031 (by decide +kernel) (by decide +kernel)
theorem ws_X6_sheet : (.selects RX6 yX6_sheet yX6_sheet : Cond) ∈ tG := tg_mem 1032 (by decide +kernel) (by decide +kernel)
theorem wd_X6_sheet : (.code yX6_sheet cX6_sheet 5 (some .int) : Cond) ∈ tG := tg_mem 1033 (by decide +kernel) (by decide +kernel)
theorem wm_X6_202 : (.methodLink RX6 202 yX6_isSheet : Cond) ∈ tG := tg_mem 1034 (by decide +kernel) (by decide +kernel)
theorem wt_X6_isSheet : (.static yX6_isSheet : Cond) ∈ tG := tg_mem 1035 (by decide +kernel) (by decide +kernel)
theorem wd_X6_isSheet : (.code yX6_isSheet cX6_isSheet 1 (some .boolean) : Cond) ∈ tG := tg_mem 1036 (by decide +kernel) (by decide +kernel)
theorem wk_X6_205 : (.constant RX6 205 (-1000000007) : Cond) ∈ tG := tg_mem 1037 (by decide +kernel) (by decide +kernel)
theorem wm_L_127 : (.methodLink RL 127 yX6_write : Cond) ∈ tG := tg_mem 1038 (by decide +kernel) (by decide +kernel)
theorem wI_X6_write : (.instanceMethod yX6_write : Cond) ∈ tG := tg_mem 1039 (by decide +kernel) (by decide +kernel)
theorem ws_X6_write : (.selects RX6 yX6_write yX6_write : Cond) ∈ tG := tg_mem 1040 (by decide +kernel) (by decide +kernel)
theorem wd_X6_write : (.code yX6_write cX6_write 8 (some .long) : Cond) ∈ tG := tg_mem 1041 (by decide +kernel) (by decide +kernel)
theorem wm_X6_207 : (.methodLink RX6 207 yX6_notThere : Cond) ∈ tG := tg_mem 1042 (by decide +kernel) (by decide +kernel)
theorem wI_X6_notThere : (.instanceMethod yX6_notThere : Cond) ∈ tG := tg_mem 1044 (by decide +kernel) (by decide +kernel)
theorem wd_X6_notThere : (.code yX6_notThere cX6_notThere 2 (some .int) : Cond) ∈ tG := tg_mem 1045 (by decide +kernel) (by decide +kernel)
theorem wk_X6_206 : (.constant RX6 206 (-1000000006) : Cond) ∈ tG := tg_mem 1046 (by decide +kernel) (by decide +kernel)
theorem wm_X6_210 : (.methodLink RX6 210 yX6_cutTo : Cond) ∈ tG := tg_mem 1047 (by decide +kernel) (by decide +kernel)
theorem wt_X6_cutTo : (.static yX6_cutTo : Cond) ∈ tG := tg_mem 1048 (by decide +kernel) (by decide +kernel)
theorem wd_X6_cutTo : (.code yX6_cutTo cX6_cutTo 3 (some .long) : Cond) ∈ tG := tg_mem 1049 (by decide +kernel) (by decide +kernel)
theorem wm_L_132 : (.methodLink RL 132 yX6_copy : Cond) ∈ tG := tg_mem 1050 (by decide +kernel) (by decide +kernel)
theorem wI_X6_copy : (.instanceMethod yX6_copy : Cond) ∈ tG := tg_mem 1051 (by decide +kernel) (by decide +kernel)
theorem ws_X6_copy : (.selects RX6 yX6_copy yX6_copy : Cond) ∈ tG := tg_mem 1052 (by decide +kernel) (by decide +kernel)
theorem wd_X6_copy : (.code yX6_copy cX6_copy 9 (some .int) : Cond) ∈ tG := tg_mem 1053 (by decide +kernel) (by decide +kernel)
theorem wm_X6_214 : (.methodLink RX6 214 yX6_notCopied : Cond) ∈ tG := tg_mem 1054 (by decide +kernel) (by decide +kernel)
theorem wI_X6_notCopied : (.instanceMethod yX6_notCopied : Cond) ∈ tG := tg_mem 1056 (by decide +kernel) (by decide +kernel)
theorem wd_X6_notCopied : (.code yX6_notCopied cX6_notCopied 7 (some .int) : Cond) ∈ tG := tg_mem 1057 (by decide +kernel) (by decide +kernel)
theorem wm_L_136 : (.methodLink RL 136 yX6_lays : Cond) ∈ tG := tg_mem 1058 (by decide +kernel) (by decide +kernel)
theorem wI_X6_lays : (.instanceMethod yX6_lays : Cond) ∈ tG := tg_mem 1059 (by decide +kernel) (by decide +kernel)
theorem ws_X6_lays : (.selects RX6 yX6_lays yX6_lays : Cond) ∈ tG := tg_mem 1060 (by decide +kernel) (by decide +kernel)
theorem wd_X6_lays : (.code yX6_lays cX6_lays 5 (some .int) : Cond) ∈ tG := tg_mem 1061 (by decide +kernel) (by decide +kernel)
theorem wm_L_140 : (.methodLink RL 140 yX6_book : Cond) ∈ tG := tg_mem 1062 (by decide +kernel) (by decide +kernel)
theorem wI_X6_book : (.instanceMethod yX6_book : Cond) ∈ tG := tg_mem 1063 (by decide +kernel) (by decide +kernel)
theorem ws_X6_book : (.selects RX6 yX6_book yX6_book : Cond) ∈ tG := tg_mem 1064 (by decide +kernel) (by decide +kernel)
theorem wd_X6_book : (.code yX6_book cX6_book 5 (some .int) : Cond) ∈ tG := tg_mem 1065 (by decide +kernel) (by decide +kernel)
theorem wm_X6_218 : (.methodLink RX6 218 yX6_notAsked : Cond) ∈ tG := tg_mem 1066 (by decide +kernel) (by decide +kernel)
theorem wI_X6_notAsked : (.instanceMethod yX6_notAsked : Cond) ∈ tG := tg_mem 1068 (by decide +kernel) (by decide +kernel)
theorem wd_X6_notAsked : (.code yX6_notAsked cX6_notAsked 4 (some .int) : Cond) ∈ tG := tg_mem 1069 (by decide +kernel) (by decide +kernel)
theorem wm_L_144 : (.methodLink RL 144 yX6_read : Cond) ∈ tG := tg_mem 1070 (by decide +kernel) (by decide +kernel)
theorem wI_X6_read : (.instanceMethod yX6_read : Cond) ∈ tG := tg_mem 1071 (by decide +kernel) (by decide +kernel)
theorem ws_X6_read : (.selects RX6 yX6_read yX6_read : Cond) ∈ tG := tg_mem 1072 (by decide +kernel) (by decide +kernel)
theorem wd_X6_read : (.code yX6_read cX6_read 6 (some .int) : Cond) ∈ tG := tg_mem 1073 (by decide +kernel) (by decide +kernel)
theorem wm_X6_221 : (.methodLink RX6 221 yX6_isBook : Cond) ∈ tG := tg_mem 1074 (by decide +kernel) (by decide +kernel)
theorem wI_X6_isBook : (.instanceMethod yX6_isBook : Cond) ∈ tG := tg_mem 1076 (by decide +kernel) (by decide +kernel)
theorem wd_X6_isBook : (.code yX6_isBook cX6_isBook 5 (some .boolean) : Cond) ∈ tG := tg_mem 1077 (by decide +kernel) (by decide +kernel)
theorem wm_L_148 : (.methodLink RL 148 yX6_image : Cond) ∈ tG := tg_mem 1078 (by decide +kernel) (by decide +kernel)
theorem wI_X6_image : (.instanceMethod yX6_image : Cond) ∈ tG := tg_mem 1079 (by decide +kernel) (by decide +kernel)
theorem ws_X6_image : (.selects RX6 yX6_image yX6_image : Cond) ∈ tG := tg_mem 1080 (by decide +kernel) (by decide +kernel)
theorem wd_X6_image : (.code yX6_image cX6_image 1 (some .int) : Cond) ∈ tG := tg_mem 1081 (by decide +kernel) (by decide +kernel)
theorem wm_L_152 : (.methodLink RL 152 yX6_undo : Cond) ∈ tG := tg_mem 1082 (by decide +kernel) (by decide +kernel)
theorem wI_X6_undo : (.instanceMethod yX6_undo : Cond) ∈ tG := tg_mem 1083 (by decide +kernel) (by decide +kernel)
theorem ws_X6_undo : (.selects RX6 yX6_undo yX6_undo : Cond) ∈ tG := tg_mem 1084 (by decide +kernel) (by decide +kernel)
theorem wd_X6_undo : (.code yX6_undo cX6_undo 1 (some .int) : Cond) ∈ tG := tg_mem 1085 (by decide +kernel) (by decide +kernel)
theorem wm_L_156 : (.methodLink RL 156 yX6_tear : Cond) ∈ tG := tg_mem 1086 (by decide +kernel) (by decide +kernel)
theorem wI_X6_tear : (.instanceMethod yX6_tear : Cond) ∈ tG := tg_mem 1087 (by decide +kernel) (by decide +kernel)
theorem ws_X6_tear : (.selects RX6 yX6_tear yX6_tear : Cond) ∈ tG := tg_mem 1088 (by decide +kernel) (by decide +kernel)
theorem wd_X6_tear : (.code yX6_tear cX6_tear 2 (some .int) : Cond) ∈ tG := tg_mem 1089 (by decide +kernel) (by decide +kernel)
theorem wm_L_160 : (.methodLink RL 160 yX6_count : Cond) ∈ tG := tg_mem 1090 (by decide +kernel) (by decide +kernel)
theorem wI_X6_count : (.instanceMethod yX6_count : Cond) ∈ tG := tg_mem 1091 (by decide +kernel) (by decide +kernel)
theorem ws_X6_count : (.selects RX6 yX6_count yX6_count : Cond) ∈ tG := tg_mem 1092 (by decide +kernel) (by decide +kernel)
theorem wd_X6_count : (.code yX6_count cX6_count 2 (some .int) : Cond) ∈ tG := tg_mem 1093 (by decide +kernel) (by decide +kernel)
theorem wm_L_164 : (.methodLink RL 164 yX6_status : Cond) ∈ tG := tg_mem 1094 (by decide +kernel) (by decide +kernel)
theorem wI_X6_status : (.instanceMethod yX6_status : Cond) ∈ tG := tg_mem 1095 (by decide +kernel) (by decide +kernel)
theorem ws_X6_status : (.selects RX6 yX6_status yX6_status : Cond) ∈ tG := tg_mem 1096 (by decide +kernel) (by decide +kernel)
theorem wd_X6_status : (.code yX6_status cX6_status 4 (some .int) : Cond) ∈ tG := tg_mem 1097 (by decide +kernel) (by decide +kernel)
theorem wl_L_121 : (.constantLong RL 121 (4294967295) : Cond) ∈ tG := tg_mem 1098 (by decide +kernel) (by decide +kernel)
theorem wf_J0_9 : (.fieldLink RJ0 9 RJ0 "value" "[B" : Cond) ∈ tG := tg_mem 1099 (by decide +kernel) (by decide +kernel)
theorem wf_J0_15 : (.fieldLink RJ0 15 RJ0 "coder" "B" : Cond) ∈ tG := tg_mem 1100 (by decide +kernel) (by decide +kernel)
theorem ws_X5_finding : (.selects RX5 yX5_finding yX5_finding : Cond) ∈ tG := tg_mem 0 (by decide +kernel) (by decide +kernel)
theorem ws_X5_isThere : (.selects RX5 yX5_isThere yX5_isThere : Cond) ∈ tG := tg_mem 1 (by decide +kernel) (by decide +kernel)
theorem ws_X5_maySet : (.selects RX5 yX5_maySet yX5_maySet : Cond) ∈ tG := tg_mem 2 (by decide +kernel) (by decide +kernel)
theorem ws_X5_areTwo : (.selects RX5 yX5_areTwo yX5_areTwo : Cond) ∈ tG := tg_mem 3 (by decide +kernel) (by decide +kernel)
theorem ws_X5_trialOf : (.selects RX5 yX5_trialOf yX5_trialOf : Cond) ∈ tG := tg_mem 4 (by decide +kernel) (by decide +kernel)
theorem ws_X5_daysOrNone : (.selects RX5 yX5_daysOrNone yX5_daysOrNone : Cond) ∈ tG := tg_mem 5 (by decide +kernel) (by decide +kernel)
theorem ws_X1_sharpnessAtOthers : (.selects RX1 yX1_sharpnessAtOthers yX1_sharpnessAtOthers : Cond) ∈ tG := tg_mem 6 (by decide +kernel) (by decide +kernel)
theorem ws_X5_faultOfSheet : (.selects RX5 yX5_faultOfSheet yX5_faultOfSheet : Cond) ∈ tG := tg_mem 7 (by decide +kernel) (by decide +kernel)
theorem ws_X5_faultOfSheetFor : (.selects RX5 yX5_faultOfSheetFor yX5_faultOfSheetFor : Cond) ∈ tG := tg_mem 8 (by decide +kernel) (by decide +kernel)
theorem ws_X6_finds : (.selects RX6 yX6_finds yX6_finds : Cond) ∈ tG := tg_mem 9 (by decide +kernel) (by decide +kernel)
theorem ws_X6_comesAs : (.selects RX6 yX6_comesAs yX6_comesAs : Cond) ∈ tG := tg_mem 10 (by decide +kernel) (by decide +kernel)
theorem ws_X6_put : (.selects RX6 yX6_put yX6_put : Cond) ∈ tG := tg_mem 11 (by decide +kernel) (by decide +kernel)
theorem ws_X6_isPerson : (.selects RX6 yX6_isPerson yX6_isPerson : Cond) ∈ tG := tg_mem 12 (by decide +kernel) (by decide +kernel)
theorem ws_X6_it : (.selects RX6 yX6_it yX6_it : Cond) ∈ tG := tg_mem 13 (by decide +kernel) (by decide +kernel)
theorem ws_X6_grinds : (.selects RX6 yX6_grinds yX6_grinds : Cond) ∈ tG := tg_mem 14 (by decide +kernel) (by decide +kernel)
theorem ws_X6_eases : (.selects RX6 yX6_eases yX6_eases : Cond) ∈ tG := tg_mem 15 (by decide +kernel) (by decide +kernel)
theorem ws_X6_sight : (.selects RX6 yX6_sight yX6_sight : Cond) ∈ tG := tg_mem 16 (by decide +kernel) (by decide +kernel)
theorem ws_X6_looksAt : (.selects RX6 yX6_looksAt yX6_looksAt : Cond) ∈ tG := tg_mem 17 (by decide +kernel) (by decide +kernel)
theorem ws_X6_grows : (.selects RX6 yX6_grows yX6_grows : Cond) ∈ tG := tg_mem 18 (by decide +kernel) (by decide +kernel)
theorem ws_X6_mayBe : (.selects RX6 yX6_mayBe yX6_mayBe : Cond) ∈ tG := tg_mem 19 (by decide +kernel) (by decide +kernel)
theorem ws_X6_becomes : (.selects RX6 yX6_becomes yX6_becomes : Cond) ∈ tG := tg_mem 20 (by decide +kernel) (by decide +kernel)
theorem ws_X6_isGround : (.selects RX6 yX6_isGround yX6_isGround : Cond) ∈ tG := tg_mem 21 (by decide +kernel) (by decide +kernel)
theorem ws_X6_areTwo : (.selects RX6 yX6_areTwo yX6_areTwo : Cond) ∈ tG := tg_mem 22 (by decide +kernel) (by decide +kernel)
theorem ws_X6_lends : (.selects RX6 yX6_lends yX6_lends : Cond) ∈ tG := tg_mem 23 (by decide +kernel) (by decide +kernel)
theorem ws_X6_seesBy : (.selects RX6 yX6_seesBy yX6_seesBy : Cond) ∈ tG := tg_mem 24 (by decide +kernel) (by decide +kernel)
theorem ws_X6_goesFor : (.selects RX6 yX6_goesFor yX6_goesFor : Cond) ∈ tG := tg_mem 25 (by decide +kernel) (by decide +kernel)
theorem ws_X6_goes : (.selects RX6 yX6_goes yX6_goes : Cond) ∈ tG := tg_mem 26 (by decide +kernel) (by decide +kernel)
theorem ws_X6_sums : (.selects RX6 yX6_sums yX6_sums : Cond) ∈ tG := tg_mem 27 (by decide +kernel) (by decide +kernel)
theorem ws_X6_thoseWith : (.selects RX6 yX6_thoseWith yX6_thoseWith : Cond) ∈ tG := tg_mem 28 (by decide +kernel) (by decide +kernel)
theorem ws_X6_seen : (.selects RX6 yX6_seen yX6_seen : Cond) ∈ tG := tg_mem 29 (by decide +kernel) (by decide +kernel)
theorem ws_X6_thinks : (.selects RX6 yX6_thinks yX6_thinks : Cond) ∈ tG := tg_mem 30 (by decide +kernel) (by decide +kernel)
theorem ws_X6_putsBack : (.selects RX6 yX6_putsBack yX6_putsBack : Cond) ∈ tG := tg_mem 31 (by decide +kernel) (by decide +kernel)
theorem ws_X6_easedIn : (.selects RX6 yX6_easedIn yX6_easedIn : Cond) ∈ tG := tg_mem 32 (by decide +kernel) (by decide +kernel)
theorem ws_X6_orNone : (.selects RX6 yX6_orNone yX6_orNone : Cond) ∈ tG := tg_mem 33 (by decide +kernel) (by decide +kernel)
theorem ws_X6_grudgeOn : (.selects RX6 yX6_grudgeOn yX6_grudgeOn : Cond) ∈ tG := tg_mem 34 (by decide +kernel) (by decide +kernel)
theorem ws_X6_allLooks : (.selects RX6 yX6_allLooks yX6_allLooks : Cond) ∈ tG := tg_mem 35 (by decide +kernel) (by decide +kernel)
theorem ws_X6_areSeen : (.selects RX6 yX6_areSeen yX6_areSeen : Cond) ∈ tG := tg_mem 36 (by decide +kernel) (by decide +kernel)
theorem ws_X6_reads : (.selects RX6 yX6_reads yX6_reads : Cond) ∈ tG := tg_mem 37 (by decide +kernel) (by decide +kernel)
theorem ws_X6_isByte : (.selects RX6 yX6_isByte yX6_isByte : Cond) ∈ tG := tg_mem 38 (by decide +kernel) (by decide +kernel)
theorem ws_X6_wordHere : (.selects RX6 yX6_wordHere yX6_wordHere : Cond) ∈ tG := tg_mem 39 (by decide +kernel) (by decide +kernel)
theorem ws_X6_isName : (.selects RX6 yX6_isName yX6_isName : Cond) ∈ tG := tg_mem 40 (by decide +kernel) (by decide +kernel)
theorem ws_X6_item : (.selects RX6 yX6_item yX6_item : Cond) ∈ tG := tg_mem 41 (by decide +kernel) (by decide +kernel)
theorem ws_X6_personItem : (.selects RX6 yX6_personItem yX6_personItem : Cond) ∈ tG := tg_mem 42 (by decide +kernel) (by decide +kernel)
theorem ws_X6_perhaps : (.selects RX6 yX6_perhaps yX6_perhaps : Cond) ∈ tG := tg_mem 43 (by decide +kernel) (by decide +kernel)
theorem ws_X6_passes : (.selects RX6 yX6_passes yX6_passes : Cond) ∈ tG := tg_mem 44 (by decide +kernel) (by decide +kernel)
theorem ws_X6_number : (.selects RX6 yX6_number yX6_number : Cond) ∈ tG := tg_mem 45 (by decide +kernel) (by decide +kernel)
theorem ws_X6_grindItem : (.selects RX6 yX6_grindItem yX6_grindItem : Cond) ∈ tG := tg_mem 46 (by decide +kernel) (by decide +kernel)
theorem ws_X6_notThere : (.selects RX6 yX6_notThere yX6_notThere : Cond) ∈ tG := tg_mem 47 (by decide +kernel) (by decide +kernel)
theorem ws_X6_notCopied : (.selects RX6 yX6_notCopied yX6_notCopied : Cond) ∈ tG := tg_mem 48 (by decide +kernel) (by decide +kernel)
theorem ws_X6_notAsked : (.selects RX6 yX6_notAsked yX6_notAsked : Cond) ∈ tG := tg_mem 49 (by decide +kernel) (by decide +kernel)
theorem ws_X6_isBook : (.selects RX6 yX6_isBook yX6_isBook : Cond) ∈ tG := tg_mem 50 (by decide +kernel) (by decide +kernel)
abbrev nK : Type := String × Nat × String × String × String × String
def nW (q : nK) : Cond := .fieldLinkNest q.1 q.2.1 q.2.2.1 q.2.2.2.1 q.2.2.2.2.1 q.2.2.2.2.2
def nstT : List nK := [(RX5, 69, RX0, "number", "I", RX5), (RX5, 91, RX0, "kind", "I", RX5), (RX4, 77, RX0, "grudge", "I", RX5), (RX5, 98, RX0, "grudge", "I", RX5), (RX1, 40, RX0, "grudge", "I", RX5), (RX4, 86, RX0, "at", "I", RX5), (RX5, 101, RX0, "at", "I", RX5), (RX4, 95, RX0, "up", "I", RX5), (RX1, 49, RX0, "up", "I", RX5), (RX1, 46, RX0, "shows", "I", RX5), (RX5, 108, RX0, "power", "I", RX5), (RX1, 43, RX0, "worn", "I", RX5), (RX5, 152, RX0, "worn", "I", RX5), (RX5, 128, RX1, "day", "I", RX5), (RX4, 83, RX1, "count", "I", RX5), (RX5, 173, RX1, "count", "I", RX5), (RX5, 76, RX1, "people", "[LGrudgeGlasses$One;", RX5), (RX4, 88, RX1, "people", "[LGrudgeGlasses$One;", RX5), (RX5, 194, RX3, "length", "I", RX5), (RX4, 30, RX3, "start", "I", RX5), (RX5, 230, RX2, "bits", "I", RX5), (RX5, 213, RX2, "size", "I", RX5), (RX5, 219, RX2, "numbers", "[J", RX5)]
theorem nst_in : ∀ q ∈ nstT, nW q ∈ lw_tbl := List.forall_mem_cons.mpr ⟨wg_X5_69, List.forall_mem_cons.mpr ⟨wg_X5_91, List.forall_mem_cons.mpr ⟨wg_X4_77, List.forall_mem_cons.mpr ⟨wg_X5_98, List.forall_mem_cons.mpr ⟨wg_X1_40, List.forall_mem_cons.mpr ⟨wg_X4_86, List.forall_mem_cons.mpr ⟨wg_X5_101, List.forall_mem_cons.mpr ⟨wg_X4_95, List.forall_mem_cons.mpr ⟨wg_X1_49, List.forall_mem_cons.mpr ⟨wg_X1_46, List.forall_mem_cons.mpr ⟨wg_X5_108, List.forall_mem_cons.mpr ⟨wg_X1_43, List.forall_mem_cons.mpr ⟨wg_X5_152, List.forall_mem_cons.mpr ⟨wg_X5_128, List.forall_mem_cons.mpr ⟨wg_X4_83, List.forall_mem_cons.mpr ⟨wg_X5_173, List.forall_mem_cons.mpr ⟨wg_X5_76, List.forall_mem_cons.mpr ⟨wg_X4_88, List.forall_mem_cons.mpr ⟨wg_X5_194, List.forall_mem_cons.mpr ⟨wg_X4_30, List.forall_mem_cons.mpr ⟨wg_X5_230, List.forall_mem_cons.mpr ⟨wg_X5_213, List.forall_mem_cons.mpr ⟨wg_X5_219, fun _ h => absurd h List.not_mem_nil⟩⟩⟩⟩⟩⟩⟩⟩⟩⟩⟩⟩⟩⟩⟩⟩⟩⟩⟩⟩⟩⟩⟩
theorem nwg_X5_69 : (RX5, 69, RX0, "number", "I", RX5) ∈ nstT := List.mem_of_getElem? (i := 0) rfl
theorem nwg_X5_91 : (RX5, 91, RX0, "kind", "I", RX5) ∈ nstT := List.mem_of_getElem? (i := 1) rfl
theorem nwg_X4_77 : (RX4, 77, RX0, "grudge", "I", RX5) ∈ nstT := List.mem_of_getElem? (i := 2) rfl
theorem nwg_X5_98 : (RX5, 98, RX0, "grudge", "I", RX5) ∈ nstT := List.mem_of_getElem? (i := 3) rfl
theorem nwg_X1_40 : (RX1, 40, RX0, "grudge", "I", RX5) ∈ nstT := List.mem_of_getElem? (i := 4) rfl
theorem nwg_X4_86 : (RX4, 86, RX0, "at", "I", RX5) ∈ nstT := List.mem_of_getElem? (i := 5) rfl
theorem nwg_X5_101 : (RX5, 101, RX0, "at", "I", RX5) ∈ nstT := List.mem_of_getElem? (i := 6) rfl
theorem nwg_X4_95 : (RX4, 95, RX0, "up", "I", RX5) ∈ nstT := List.mem_of_getElem? (i := 7) rfl
theorem nwg_X1_49 : (RX1, 49, RX0, "up", "I", RX5) ∈ nstT := List.mem_of_getElem? (i := 8) rfl
theorem nwg_X1_46 : (RX1, 46, RX0, "shows", "I", RX5) ∈ nstT := List.mem_of_getElem? (i := 9) rfl
theorem nwg_X5_108 : (RX5, 108, RX0, "power", "I", RX5) ∈ nstT := List.mem_of_getElem? (i := 10) rfl
theorem nwg_X1_43 : (RX1, 43, RX0, "worn", "I", RX5) ∈ nstT := List.mem_of_getElem? (i := 11) rfl
theorem nwg_X5_152 : (RX5, 152, RX0, "worn", "I", RX5) ∈ nstT := List.mem_of_getElem? (i := 12) rfl
theorem nwg_X5_128 : (RX5, 128, RX1, "day", "I", RX5) ∈ nstT := List.mem_of_getElem? (i := 13) rfl
theorem nwg_X4_83 : (RX4, 83, RX1, "count", "I", RX5) ∈ nstT := List.mem_of_getElem? (i := 14) rfl
theorem nwg_X5_173 : (RX5, 173, RX1, "count", "I", RX5) ∈ nstT := List.mem_of_getElem? (i := 15) rfl
theorem nwg_X5_76 : (RX5, 76, RX1, "people", "[LGrudgeGlasses$One;", RX5) ∈ nstT := List.mem_of_getElem? (i := 16) rfl
theorem nwg_X4_88 : (RX4, 88, RX1, "people", "[LGrudgeGlasses$One;", RX5) ∈ nstT := List.mem_of_getElem? (i := 17) rfl
theorem nwg_X5_194 : (RX5, 194, RX3, "length", "I", RX5) ∈ nstT := List.mem_of_getElem? (i := 18) rfl
theorem nwg_X4_30 : (RX4, 30, RX3, "start", "I", RX5) ∈ nstT := List.mem_of_getElem? (i := 19) rfl
theorem nwg_X5_230 : (RX5, 230, RX2, "bits", "I", RX5) ∈ nstT := List.mem_of_getElem? (i := 20) rfl
theorem nwg_X5_213 : (RX5, 213, RX2, "size", "I", RX5) ∈ nstT := List.mem_of_getElem? (i := 21) rfl
theorem nwg_X5_219 : (RX5, 219, RX2, "numbers", "[J", RX5) ∈ nstT := List.mem_of_getElem? (i := 22) rfl
theorem inX0 : ∀ w ∈ u_ws RX0 TX0 8, w ∈ tG := tg_all [108, 110, 112, 114, 116, 118, 120, 122] (by decide +kernel) (by decide +kernel)
theorem inX1 : ∀ w ∈ u_ws RX1 TX1 4, w ∈ tG := tg_all [135, 137, 139, 141] (by decide +kernel) (by decide +kernel)
theorem inX2 : ∀ w ∈ u_ws RX2 TX2 3, w ∈ tG := tg_all [183, 185, 187] (by decide +kernel) (by decide +kernel)
theorem inX3 : ∀ w ∈ u_ws RX3 TX3 5, w ∈ tG := tg_all [159, 161, 163, 165, 167] (by decide +kernel) (by decide +kernel)
theorem inX5 : ∀ w ∈ u_ws RX5 TX5 8, w ∈ tG := tg_all [199, 201, 203, 205, 207, 209, 211, 213] (by decide +kernel) (by decide +kernel)
theorem inX6 : ∀ w ∈ u_ws RX6 TX6 15, w ∈ tG := tg_all [728, 730, 732, 734, 736, 738, 740, 742, 744, 746, 748, 750, 752, 754, 756] (by decide +kernel) (by decide +kernel)
def LkV (own : String) (idx : Nat) (y : MethodName) (C : String) (bytes : ByteArray) (maxL : Nat) (ret : Option FieldType) (n : Nat) : Prop :=
  Cond.methodLink own idx y ∈ tG ∧ Cond.instanceMethod y ∈ tG ∧ Cond.selects C y y ∈ tG ∧ Cond.initialized C ∈ tG ∧ Cond.code y bytes maxL ret ∈ tG ∧ y.cls = C ∧ y.cls ≠ "java/lang/invoke/MethodHandle" ∧ y.cls ≠ "java/lang/invoke/VarHandle" ∧ (parseMethodDescriptor y.desc).map (fun d => d.parameters.length) = some n
def LkS (own : String) (idx : Nat) (y : MethodName) (bytes : ByteArray) (maxL : Nat) (ret : Option FieldType) (n : Nat) : Prop :=
  Cond.methodLink own idx y ∈ tG ∧ Cond.static y ∈ tG ∧ Cond.initialized y.cls ∈ tG ∧ Cond.code y bytes maxL ret ∈ tG ∧ y.cls ≠ "java/lang/invoke/MethodHandle" ∧ y.cls ≠ "java/lang/invoke/VarHandle" ∧ (parseMethodDescriptor y.desc).map (fun d => d.parameters.length) = some n
theorem lkV_L_13 : LkV RL 13 yX5_person RX5 cX5_person 2 (some .int) 1 := ⟨wm_L_13, wI_X5_person, ws_X5_person, wi_X5, wd_X5_person, by decide +kernel, by decide +kernel, by decide +kernel, by decide +kernel⟩
theorem lkS_X5_51 : LkS RX5 51 yX5_isKind cX5_isKind 1 (some .boolean) 1 := ⟨wm_X5_51, wt_X5_isKind, wi_X5, wd_X5_isKind, by decide +kernel, by decide +kernel, by decide +kernel⟩
theorem lkV_X5_56 : LkV RX5 56 yX5_finding RX5 cX5_finding 3 (some .int) 1 := ⟨wm_X5_56, wI_X5_finding, ws_X5_finding, wi_X5, wd_X5_finding, by decide +kernel, by decide +kernel, by decide +kernel, by decide +kernel⟩
theorem lkV_X5_60 : LkV RX5 60 yX1_isFull RX1 cX1_isFull 1 (some .boolean) 0 := ⟨wm_X5_60, wI_X1_isFull, ws_X1_isFull, wi_X1, wd_X1_isFull, by decide +kernel, by decide +kernel, by decide +kernel, by decide +kernel⟩
theorem lkV_X5_65 : LkV RX5 65 yX1_welcome RX1 cX1_welcome 3 (some (.object "GrudgeGlasses$One")) 1 := ⟨wm_X5_65, wI_X1_welcome, ws_X1_welcome, wi_X1, wd_X1_welcome, by decide +kernel, by decide +kernel, by decide +kernel, by decide +kernel⟩
theorem lkV_X1_33 : LkV RX1 33 yX0_begin RX0 cX0_begin 3 none 2 := ⟨wm_X1_33, wI_X0_begin, ws_X0_begin, wi_X0, wd_X0_begin, by decide +kernel, by decide +kernel, by decide +kernel, by decide +kernel⟩
theorem lkV_L_18 : LkV RL 18 yX5_of RX5 cX5_of 3 (some .int) 2 := ⟨wm_L_18, wI_X5_of, ws_X5_of, wi_X5, wd_X5_of, by decide +kernel, by decide +kernel, by decide +kernel, by decide +kernel⟩
theorem lkV_X5_73 : LkV RX5 73 yX5_isThere RX5 cX5_isThere 2 (some .boolean) 1 := ⟨wm_X5_73, wI_X5_isThere, ws_X5_isThere, wi_X5, wd_X5_isThere, by decide +kernel, by decide +kernel, by decide +kernel, by decide +kernel⟩
theorem lkV_X5_80 : LkV RX5 80 yX0_told RX0 cX0_told 2 (some .int) 1 := ⟨wm_X5_80, wI_X0_told, ws_X0_told, wi_X0, wd_X0_told, by decide +kernel, by decide +kernel, by decide +kernel, by decide +kernel⟩
theorem lkV_X0_40 : LkV RX0 40 yX0_grinding RX0 cX0_grinding 3 (some .int) 0 := ⟨wm_X0_40, wI_X0_grinding, ws_X0_grinding, wi_X0, wd_X0_grinding, by decide +kernel, by decide +kernel, by decide +kernel, by decide +kernel⟩
theorem lkS_X0_55 : LkS RX0 55 yJ9_min_7cf53 cJ9_min_7cf53 2 (some .int) 2 := ⟨wm_X0_55, wt_J9_min_7cf53, wi_J9, wd_J9_min_7cf53, by decide +kernel, by decide +kernel, by decide +kernel⟩
theorem lkV_X0_44 : LkV RX0 44 yX0_sharpnessAtItsOne RX0 cX0_sharpnessAtItsOne 1 (some .int) 0 := ⟨wm_X0_44, wI_X0_sharpnessAtItsOne, ws_X0_sharpnessAtItsOne, wi_X0, wd_X0_sharpnessAtItsOne, by decide +kernel, by decide +kernel, by decide +kernel, by decide +kernel⟩
theorem lkV_X0_64 : LkV RX0 64 yX0_sharpnessAt RX0 cX0_sharpnessAt 5 (some .int) 1 := ⟨wm_X0_64, wI_X0_sharpnessAt, ws_X0_sharpnessAt, wi_X0, wd_X0_sharpnessAt, by decide +kernel, by decide +kernel, by decide +kernel, by decide +kernel⟩
theorem lkS_X0_61 : LkS RX0 61 yJ9_max_7cf53 cJ9_max_7cf53 2 (some .int) 2 := ⟨wm_X0_61, wt_J9_max_7cf53, wi_J9, wd_J9_max_7cf53, by decide +kernel, by decide +kernel, by decide +kernel⟩
theorem lkV_X0_47 : LkV RX0 47 yX0_forgiving RX0 cX0_forgiving 5 (some .int) 1 := ⟨wm_X0_47, wI_X0_forgiving, ws_X0_forgiving, wi_X0, wd_X0_forgiving, by decide +kernel, by decide +kernel, by decide +kernel, by decide +kernel⟩
theorem lkV_X0_51 : LkV RX0 51 yX0_growing RX0 cX0_growing 4 (some .int) 1 := ⟨wm_X0_51, wI_X0_growing, ws_X0_growing, wi_X0, wd_X0_growing, by decide +kernel, by decide +kernel, by decide +kernel, by decide +kernel⟩
theorem lkV_L_23 : LkV RL 23 yX5_set RX5 cX5_set 6 (some .int) 3 := ⟨wm_L_23, wI_X5_set, ws_X5_set, wi_X5, wd_X5_set, by decide +kernel, by decide +kernel, by decide +kernel, by decide +kernel⟩
theorem lkV_X5_83 : LkV RX5 83 yX5_maySet RX5 cX5_maySet 3 (some .boolean) 2 := ⟨wm_X5_83, wI_X5_maySet, ws_X5_maySet, wi_X5, wd_X5_maySet, by decide +kernel, by decide +kernel, by decide +kernel, by decide +kernel⟩
theorem lkS_X5_121 : LkS RX5 121 yX5_isUpTo cX5_isUpTo 2 (some .boolean) 2 := ⟨wm_X5_121, wt_X5_isUpTo, wi_X5, wd_X5_isUpTo, by decide +kernel, by decide +kernel, by decide +kernel⟩
theorem lkV_X5_87 : LkV RX5 87 yX0_put RX0 cX0_put 3 none 2 := ⟨wm_X5_87, wI_X0_put, ws_X0_put, wi_X0, wd_X0_put, by decide +kernel, by decide +kernel, by decide +kernel, by decide +kernel⟩
theorem lkV_L_28 : LkV RL 28 yX5_turn RX5 cX5_turn 5 (some .int) 2 := ⟨wm_L_28, wI_X5_turn, ws_X5_turn, wi_X5, wd_X5_turn, by decide +kernel, by decide +kernel, by decide +kernel, by decide +kernel⟩
theorem lkV_L_32 : LkV RL 32 yX5_as RX5 cX5_as 4 (some .int) 2 := ⟨wm_L_32, wI_X5_as, ws_X5_as, wi_X5, wd_X5_as, by decide +kernel, by decide +kernel, by decide +kernel, by decide +kernel⟩
theorem lkS_X5_94 : LkS RX5 94 yX5_isOrIsUnder cX5_isOrIsUnder 4 (some .boolean) 2 := ⟨wm_X5_94, wt_X5_isOrIsUnder, wi_X5, wd_X5_isOrIsUnder, by decide +kernel, by decide +kernel, by decide +kernel⟩
theorem lkV_L_36 : LkV RL 36 yX5_grind RX5 cX5_grind 3 (some .int) 1 := ⟨wm_L_36, wI_X5_grind, ws_X5_grind, wi_X5, wd_X5_grind, by decide +kernel, by decide +kernel, by decide +kernel, by decide +kernel⟩
theorem lkV_X5_105 : LkV RX5 105 yX0_haveGround RX0 cX0_haveGround 1 none 0 := ⟨wm_X5_105, wI_X0_haveGround, ws_X0_haveGround, wi_X0, wd_X0_haveGround, by decide +kernel, by decide +kernel, by decide +kernel, by decide +kernel⟩
theorem lkV_L_40 : LkV RL 40 yX5_lend RX5 cX5_lend 5 (some .int) 2 := ⟨wm_L_40, wI_X5_lend, ws_X5_lend, wi_X5, wd_X5_lend, by decide +kernel, by decide +kernel, by decide +kernel, by decide +kernel⟩
theorem lkV_X5_111 : LkV RX5 111 yX5_areTwo RX5 cX5_areTwo 3 (some .boolean) 2 := ⟨wm_X5_111, wI_X5_areTwo, ws_X5_areTwo, wi_X5, wd_X5_areTwo, by decide +kernel, by decide +kernel, by decide +kernel, by decide +kernel⟩
theorem lkV_X5_114 : LkV RX5 114 yX0_takePairOf RX0 cX0_takePairOf 2 none 1 := ⟨wm_X5_114, wI_X0_takePairOf, ws_X0_takePairOf, wi_X0, wd_X0_takePairOf, by decide +kernel, by decide +kernel, by decide +kernel, by decide +kernel⟩
theorem lkV_L_44 : LkV RL 44 yX5_looks RX5 cX5_looks 3 (some .int) 2 := ⟨wm_L_44, wI_X5_looks, ws_X5_looks, wi_X5, wd_X5_looks, by decide +kernel, by decide +kernel, by decide +kernel, by decide +kernel⟩
theorem lkV_X5_118 : LkV RX5 118 yX0_sharpnessAt RX0 cX0_sharpnessAt 5 (some .int) 1 := ⟨wm_X5_118, wI_X0_sharpnessAt, ws_X0_sharpnessAt, wi_X0, wd_X0_sharpnessAt, by decide +kernel, by decide +kernel, by decide +kernel, by decide +kernel⟩
theorem lkV_L_48 : LkV RL 48 yX5_sees RX5 cX5_sees 3 (some .int) 2 := ⟨wm_L_48, wI_X5_sees, ws_X5_sees, wi_X5, wd_X5_sees, by decide +kernel, by decide +kernel, by decide +kernel, by decide +kernel⟩
theorem lkV_X5_124 : LkV RX5 124 yX1_othersAsSharpAs RX1 cX1_othersAsSharpAs 5 (some .int) 2 := ⟨wm_X5_124, wI_X1_othersAsSharpAs, ws_X1_othersAsSharpAs, wi_X1, wd_X1_othersAsSharpAs, by decide +kernel, by decide +kernel, by decide +kernel, by decide +kernel⟩
theorem lkV_X1_52 : LkV RX1 52 yX0_sharpnessAt RX0 cX0_sharpnessAt 5 (some .int) 1 := ⟨wm_X1_52, wI_X0_sharpnessAt, ws_X0_sharpnessAt, wi_X0, wd_X0_sharpnessAt, by decide +kernel, by decide +kernel, by decide +kernel, by decide +kernel⟩
theorem lkV_L_52 : LkV RL 52 yX5_days RX5 cX5_days 2 (some .int) 1 := ⟨wm_L_52, wI_X5_days, ws_X5_days, wi_X5, wd_X5_days, by decide +kernel, by decide +kernel, by decide +kernel, by decide +kernel⟩
theorem lkV_X5_131 : LkV RX5 131 yX1_letDaysGo RX1 cX1_letDaysGo 4 none 1 := ⟨wm_X5_131, wI_X1_letDaysGo, ws_X1_letDaysGo, wi_X1, wd_X1_letDaysGo, by decide +kernel, by decide +kernel, by decide +kernel, by decide +kernel⟩
theorem lkV_X1_37 : LkV RX1 37 yX0_letDayGo RX0 cX0_letDayGo 3 none 0 := ⟨wm_X1_37, wI_X0_letDayGo, ws_X0_letDayGo, wi_X0, wd_X0_letDayGo, by decide +kernel, by decide +kernel, by decide +kernel, by decide +kernel⟩
theorem lkV_X5_135 : LkV RX5 135 yX1_grudges RX1 cX1_grudges 3 (some .int) 0 := ⟨wm_X5_135, wI_X1_grudges, ws_X1_grudges, wi_X1, wd_X1_grudges, by decide +kernel, by decide +kernel, by decide +kernel, by decide +kernel⟩
theorem lkV_L_56 : LkV RL 56 yX5_now RX5 cX5_now 2 (some .int) 1 := ⟨wm_L_56, wI_X5_now, ws_X5_now, wi_X5, wd_X5_now, by decide +kernel, by decide +kernel, by decide +kernel, by decide +kernel⟩
theorem lkV_X5_139 : LkV RX5 139 yX1_thoseWithoutGrudge RX1 cX1_thoseWithoutGrudge 3 (some .int) 0 := ⟨wm_X5_139, wI_X1_thoseWithoutGrudge, ws_X1_thoseWithoutGrudge, wi_X1, wd_X1_thoseWithoutGrudge, by decide +kernel, by decide +kernel, by decide +kernel, by decide +kernel⟩
theorem lkV_X5_142 : LkV RX5 142 yX1_thoseSeen RX1 cX1_thoseSeen 3 (some .int) 0 := ⟨wm_X5_142, wI_X1_thoseSeen, ws_X1_thoseSeen, wi_X1, wd_X1_thoseSeen, by decide +kernel, by decide +kernel, by decide +kernel, by decide +kernel⟩
theorem lkV_X1_56 : LkV RX1 56 yX1_othersAsSharpAs RX1 cX1_othersAsSharpAs 5 (some .int) 2 := ⟨wm_X1_56, wI_X1_othersAsSharpAs, ws_X1_othersAsSharpAs, wi_X1, wd_X1_othersAsSharpAs, by decide +kernel, by decide +kernel, by decide +kernel, by decide +kernel⟩
theorem lkV_X5_145 : LkV RX5 145 yX1_thoseUp RX1 cX1_thoseUp 3 (some .int) 0 := ⟨wm_X5_145, wI_X1_thoseUp, ws_X1_thoseUp, wi_X1, wd_X1_thoseUp, by decide +kernel, by decide +kernel, by decide +kernel, by decide +kernel⟩
theorem lkV_L_60 : LkV RL 60 yX5_on RX5 cX5_on 5 (some .int) 3 := ⟨wm_L_60, wI_X5_on, ws_X5_on, wi_X5, wd_X5_on, by decide +kernel, by decide +kernel, by decide +kernel, by decide +kernel⟩
theorem lkV_X5_148 : LkV RX5 148 yX5_trialOf RX5 cX5_trialOf 2 (some (.object "GrudgeGlasses$One")) 1 := ⟨wm_X5_148, wI_X5_trialOf, ws_X5_trialOf, wi_X5, wd_X5_trialOf, by decide +kernel, by decide +kernel, by decide +kernel, by decide +kernel⟩
theorem lkV_X5_260 : LkV RX5 260 yX0_become RX0 cX0_become 2 none 1 := ⟨wm_X5_260, wI_X0_become, ws_X0_become, wi_X0, wd_X0_become, by decide +kernel, by decide +kernel, by decide +kernel, by decide +kernel⟩
theorem lkV_X0_36 : LkV RX0 36 yX0_takePairOf RX0 cX0_takePairOf 2 none 1 := ⟨wm_X0_36, wI_X0_takePairOf, ws_X0_takePairOf, wi_X0, wd_X0_takePairOf, by decide +kernel, by decide +kernel, by decide +kernel, by decide +kernel⟩
theorem lkV_X5_151 : LkV RX5 151 yX0_letDaysGo RX0 cX0_letDaysGo 3 none 1 := ⟨wm_X5_151, wI_X0_letDaysGo, ws_X0_letDaysGo, wi_X0, wd_X0_letDaysGo, by decide +kernel, by decide +kernel, by decide +kernel, by decide +kernel⟩
theorem lkV_X0_67 : LkV RX0 67 yX0_letDayGo RX0 cX0_letDayGo 3 none 0 := ⟨wm_X0_67, wI_X0_letDayGo, ws_X0_letDayGo, wi_X0, wd_X0_letDayGo, by decide +kernel, by decide +kernel, by decide +kernel, by decide +kernel⟩
theorem lkV_L_64 : LkV RL 64 yX5_then RX5 cX5_then 5 (some .int) 3 := ⟨wm_L_64, wI_X5_then, ws_X5_then, wi_X5, wd_X5_then, by decide +kernel, by decide +kernel, by decide +kernel, by decide +kernel⟩
theorem lkV_L_68 : LkV RL 68 yX5_forgives RX5 cX5_forgives 2 (some .int) 1 := ⟨wm_L_68, wI_X5_forgives, ws_X5_forgives, wi_X5, wd_X5_forgives, by decide +kernel, by decide +kernel, by decide +kernel, by decide +kernel⟩
theorem lkS_X5_155 : LkS RX5 155 yX5_daysTillForgiven cX5_daysTillForgiven 2 (some .int) 1 := ⟨wm_X5_155, wt_X5_daysTillForgiven, wi_X5, wd_X5_daysTillForgiven, by decide +kernel, by decide +kernel, by decide +kernel⟩
theorem lkV_X5_247 : LkV RX5 247 yX0_letDayGo RX0 cX0_letDayGo 3 none 0 := ⟨wm_X5_247, wI_X0_letDayGo, ws_X0_letDayGo, wi_X0, wd_X0_letDayGo, by decide +kernel, by decide +kernel, by decide +kernel, by decide +kernel⟩
theorem lkV_X5_159 : LkV RX5 159 yX5_daysOrNone RX5 cX5_daysOrNone 2 (some .int) 1 := ⟨wm_X5_159, wI_X5_daysOrNone, ws_X5_daysOrNone, wi_X5, wd_X5_daysOrNone, by decide +kernel, by decide +kernel, by decide +kernel, by decide +kernel⟩
theorem lkV_L_72 : LkV RL 72 yX5_worn RX5 cX5_worn 2 (some .int) 1 := ⟨wm_L_72, wI_X5_worn, ws_X5_worn, wi_X5, wd_X5_worn, by decide +kernel, by decide +kernel, by decide +kernel, by decide +kernel⟩
theorem lkS_X5_162 : LkS RX5 162 yX5_daysTillWornOut cX5_daysTillWornOut 2 (some .int) 1 := ⟨wm_X5_162, wt_X5_daysTillWornOut, wi_X5, wd_X5_daysTillWornOut, by decide +kernel, by decide +kernel, by decide +kernel⟩
theorem lkV_L_76 : LkV RL 76 yX5_unseen RX5 cX5_unseen 2 (some .int) 1 := ⟨wm_L_76, wI_X5_unseen, ws_X5_unseen, wi_X5, wd_X5_unseen, by decide +kernel, by decide +kernel, by decide +kernel, by decide +kernel⟩
theorem lkV_X5_165 : LkV RX5 165 yX1_become RX1 cX1_become 3 none 1 := ⟨wm_X5_165, wI_X1_become, ws_X1_become, wi_X1, wd_X1_become, by decide +kernel, by decide +kernel, by decide +kernel, by decide +kernel⟩
theorem lkV_X1_29 : LkV RX1 29 yX0_become RX0 cX0_become 2 none 1 := ⟨wm_X1_29, wI_X0_become, ws_X0_become, wi_X0, wd_X0_become, by decide +kernel, by decide +kernel, by decide +kernel, by decide +kernel⟩
theorem lkS_X5_169 : LkS RX5 169 yX5_daysTillUnseen cX5_daysTillUnseen 3 (some .int) 2 := ⟨wm_X5_169, wt_X5_daysTillUnseen, wi_X5, wd_X5_daysTillUnseen, by decide +kernel, by decide +kernel, by decide +kernel⟩
theorem lkV_L_80 : LkV RL 80 yX5_borrow RX5 cX5_borrow 7 (some .int) 1 := ⟨wm_L_80, wI_X5_borrow, ws_X5_borrow, wi_X5, wd_X5_borrow, by decide +kernel, by decide +kernel, by decide +kernel, by decide +kernel⟩
theorem lkV_L_84 : LkV RL 84 yX5_kind RX5 cX5_kind 7 (some .int) 1 := ⟨wm_L_84, wI_X5_kind, ws_X5_kind, wi_X5, wd_X5_kind, by decide +kernel, by decide +kernel, by decide +kernel, by decide +kernel⟩
theorem lkV_L_88 : LkV RL 88 yX5_better RX5 cX5_better 7 (some .int) 2 := ⟨wm_L_88, wI_X5_better, ws_X5_better, wi_X5, wd_X5_better, by decide +kernel, by decide +kernel, by decide +kernel, by decide +kernel⟩
theorem lkV_L_92 : LkV RL 92 yX5_most RX5 cX5_most 5 (some .int) 2 := ⟨wm_L_92, wI_X5_most, ws_X5_most, wi_X5, wd_X5_most, by decide +kernel, by decide +kernel, by decide +kernel, by decide +kernel⟩
theorem lkV_L_96 : LkV RL 96 yX5_sharpest RX5 cX5_sharpest 2 (some .int) 1 := ⟨wm_L_96, wI_X5_sharpest, ws_X5_sharpest, wi_X5, wd_X5_sharpest, by decide +kernel, by decide +kernel, by decide +kernel, by decide +kernel⟩
theorem lkV_X5_177 : LkV RX5 177 yX1_sharpestOfAll RX1 cX1_sharpestOfAll 5 (some .int) 0 := ⟨wm_X5_177, wI_X1_sharpestOfAll, ws_X1_sharpestOfAll, wi_X1, wd_X1_sharpestOfAll, by decide +kernel, by decide +kernel, by decide +kernel, by decide +kernel⟩
theorem lkV_X1_64 : LkV RX1 64 yX1_sharpnessAtOthers RX1 cX1_sharpnessAtOthers 4 (some .int) 1 := ⟨wm_X1_64, wI_X1_sharpnessAtOthers, ws_X1_sharpnessAtOthers, wi_X1, wd_X1_sharpnessAtOthers, by decide +kernel, by decide +kernel, by decide +kernel, by decide +kernel⟩
theorem lkV_L_100 : LkV RL 100 yX5_push RX5 cX5_push 4 (some .int) 0 := ⟨wm_L_100, wI_X5_push, ws_X5_push, wi_X5, wd_X5_push, by decide +kernel, by decide +kernel, by decide +kernel, by decide +kernel⟩
theorem lkV_X5_180 : LkV RX5 180 yX1_noteWhoSeesWhom RX1 cX1_noteWhoSeesWhom 2 none 0 := ⟨wm_X5_180, wI_X1_noteWhoSeesWhom, ws_X1_noteWhoSeesWhom, wi_X1, wd_X1_noteWhoSeesWhom, by decide +kernel, by decide +kernel, by decide +kernel, by decide +kernel⟩
theorem lkV_X5_183 : LkV RX5 183 yX1_all RX1 cX1_all 1 (some .int) 0 := ⟨wm_X5_183, wI_X1_all, ws_X1_all, wi_X1, wd_X1_all, by decide +kernel, by decide +kernel, by decide +kernel, by decide +kernel⟩
theorem lkS_X5_186 : LkS RX5 186 yJ6_bitCount_0f7a4 cJ6_bitCount_0f7a4 1 (some .int) 1 := ⟨wm_X5_186, wt_J6_bitCount_0f7a4, wi_J6, wd_J6_bitCount_0f7a4, by decide +kernel, by decide +kernel, by decide +kernel⟩
theorem lkV_X5_191 : LkV RX5 191 yX1_seenWithUp RX1 cX1_seenWithUp 5 (some .int) 1 := ⟨wm_X5_191, wI_X1_seenWithUp, ws_X1_seenWithUp, wi_X1, wd_X1_seenWithUp, by decide +kernel, by decide +kernel, by decide +kernel, by decide +kernel⟩
theorem lkV_X1_60 : LkV RX1 60 yX1_all RX1 cX1_all 1 (some .int) 0 := ⟨wm_X1_60, wI_X1_all, ws_X1_all, wi_X1, wd_X1_all, by decide +kernel, by decide +kernel, by decide +kernel, by decide +kernel⟩
theorem lkV_L_105 : LkV RL 105 yX5_feed RX5 cX5_feed 4 (some .int) 2 := ⟨wm_L_105, wI_X5_feed, ws_X5_feed, wi_X5, wd_X5_feed, by decide +kernel, by decide +kernel, by decide +kernel, by decide +kernel⟩
theorem lkV_X5_197 : LkV RX5 197 yX3_add RX3 cX3_add 2 none 1 := ⟨wm_X5_197, wI_X3_add, ws_X3_add, wi_X3, wd_X3_add, by decide +kernel, by decide +kernel, by decide +kernel, by decide +kernel⟩
theorem lkV_L_109 : LkV RL 109 yX5_wipe RX5 cX5_wipe 2 (some .int) 0 := ⟨wm_L_109, wI_X5_wipe, ws_X5_wipe, wi_X5, wd_X5_wipe, by decide +kernel, by decide +kernel, by decide +kernel, by decide +kernel⟩
theorem lkV_L_113 : LkV RL 113 yX5_quay RX5 cX5_quay 2 (some .int) 0 := ⟨wm_L_113, wI_X5_quay, ws_X5_quay, wi_X5, wd_X5_quay, by decide +kernel, by decide +kernel, by decide +kernel, by decide +kernel⟩
theorem lkS_X5_200 : LkS RX5 200 yX4_items cX4_items 3 (some .int) 2 := ⟨wm_X5_200, wt_X4_items, wi_X4, wd_X4_items, by decide +kernel, by decide +kernel, by decide +kernel⟩
theorem lkV_X4_9 : LkV RX4 9 yX3_rewind RX3 cX3_rewind 1 none 0 := ⟨wm_X4_9, wI_X3_rewind, ws_X3_rewind, wi_X3, wd_X3_rewind, by decide +kernel, by decide +kernel, by decide +kernel, by decide +kernel⟩
theorem lkV_X3_28 : LkV RX3 28 yX3_step RX3 cX3_step 1 none 0 := ⟨wm_X3_28, wI_X3_step, ws_X3_step, wi_X3, wd_X3_step, by decide +kernel, by decide +kernel, by decide +kernel, by decide +kernel⟩
theorem lkS_X3_31 : LkS RX3 31 yX3_isLetter cX3_isLetter 1 (some .boolean) 1 := ⟨wm_X3_31, wt_X3_isLetter, wi_X3, wd_X3_isLetter, by decide +kernel, by decide +kernel, by decide +kernel⟩
theorem lkS_X3_35 : LkS RX3 35 yX3_isDigit cX3_isDigit 1 (some .boolean) 1 := ⟨wm_X3_35, wt_X3_isDigit, wi_X3, wd_X3_isDigit, by decide +kernel, by decide +kernel, by decide +kernel⟩
theorem lkS_X4_14 : LkS RX4 14 yX4_takesItem cX4_takesItem 3 (some .boolean) 2 := ⟨wm_X4_14, wt_X4_takesItem, wi_X4, wd_X4_takesItem, by decide +kernel, by decide +kernel, by decide +kernel⟩
theorem lkV_X4_36 : LkV RX4 36 yX3_isAtWord RX3 cX3_isAtWord 3 (some .boolean) 1 := ⟨wm_X4_36, wI_X3_isAtWord, ws_X3_isAtWord, wi_X3, wd_X3_isAtWord, by decide +kernel, by decide +kernel, by decide +kernel, by decide +kernel⟩
theorem lkV_X3_38 : LkV RX3 38 yJ0_length_8abf5 RJ0 cJ0_length_8abf5 1 (some .int) 0 := ⟨wm_X3_38, wI_J0_length_8abf5, ws_J0_length_8abf5, wi_J0, wd_J0_length_8abf5, by decide +kernel, by decide +kernel, by decide +kernel, by decide +kernel⟩
theorem lkV_J0_335 : LkV RJ0 335 yJ0_coder_7d493 RJ0 cJ0_coder_7d493 1 (some .byte) 0 := ⟨wm_J0_335, wI_J0_coder_7d493, ws_J0_coder_7d493, wi_J0, wd_J0_coder_7d493, by decide +kernel, by decide +kernel, by decide +kernel, by decide +kernel⟩
theorem lkV_X3_43 : LkV RX3 43 yJ0_charAt_5068e RJ0 cJ0_charAt_5068e 2 (some .char) 1 := ⟨wm_X3_43, wI_J0_charAt_5068e, ws_J0_charAt_5068e, wi_J0, wd_J0_charAt_5068e, by decide +kernel, by decide +kernel, by decide +kernel, by decide +kernel⟩
theorem lkV_J0_492 : LkV RJ0 492 yJ0_isLatin1_aae02 RJ0 cJ0_isLatin1_aae02 1 (some .boolean) 0 := ⟨wm_J0_492, wI_J0_isLatin1_aae02, ws_J0_isLatin1_aae02, wi_J0, wd_J0_isLatin1_aae02, by decide +kernel, by decide +kernel, by decide +kernel, by decide +kernel⟩
theorem lkS_J0_495 : LkS RJ0 495 yJ1_charAt_3b067 cJ1_charAt_3b067 2 (some .char) 2 := ⟨wm_J0_495, wt_J1_charAt_3b067, wi_J1, wd_J1_charAt_3b067, by decide +kernel, by decide +kernel, by decide +kernel⟩
theorem lkS_J1_9 : LkS RJ1 9 yJ0_checkIndex_df160 cJ0_checkIndex_df160 2 none 2 := ⟨wm_J1_9, wt_J0_checkIndex_df160, wi_J0, wd_J0_checkIndex_df160, by decide +kernel, by decide +kernel, by decide +kernel⟩
theorem lkS_J0_1059 : LkS RJ0 1059 yJ3_checkIndex_8e157 cJ3_checkIndex_8e157 3 (some .int) 3 := ⟨wm_J0_1059, wt_J3_checkIndex_8e157, wi_J3, wd_J3_checkIndex_8e157, by decide +kernel, by decide +kernel, by decide +kernel⟩
theorem lkS_J0_498 : LkS RJ0 498 yJ2_charAt_3b067 cJ2_charAt_3b067 2 (some .char) 2 := ⟨wm_J0_498, wt_J2_charAt_3b067, wi_J2, wd_J2_charAt_3b067, by decide +kernel, by decide +kernel, by decide +kernel⟩
theorem lkS_J2_67 : LkS RJ2 67 yJ2_checkIndex_2214a cJ2_checkIndex_2214a 2 none 2 := ⟨wm_J2_67, wt_J2_checkIndex_2214a, wi_J2, wd_J2_checkIndex_2214a, by decide +kernel, by decide +kernel, by decide +kernel⟩
theorem lkS_J2_48 : LkS RJ2 48 yJ2_length_9d52b cJ2_length_9d52b 1 (some .int) 1 := ⟨wm_J2_48, wt_J2_length_9d52b, wi_J2, wd_J2_length_9d52b, by decide +kernel, by decide +kernel, by decide +kernel⟩
theorem lkS_J2_414 : LkS RJ2 414 yJ0_checkIndex_df160 cJ0_checkIndex_df160 2 none 2 := ⟨wm_J2_414, wt_J0_checkIndex_df160, wi_J0, wd_J0_checkIndex_df160, by decide +kernel, by decide +kernel, by decide +kernel⟩
theorem lkS_J2_71 : LkS RJ2 71 yJ2_getChar_3b067 cJ2_getChar_3b067 2 (some .char) 2 := ⟨wm_J2_71, wt_J2_getChar_3b067, wi_J2, wd_J2_getChar_3b067, by decide +kernel, by decide +kernel, by decide +kernel⟩
theorem lkS_X4_40 : LkS RX4 40 yX4_takesGrind cX4_takesGrind 3 (some .boolean) 2 := ⟨wm_X4_40, wt_X4_takesGrind, wi_X4, wd_X4_takesGrind, by decide +kernel, by decide +kernel, by decide +kernel⟩
theorem lkV_X4_27 : LkV RX4 27 yX3_step RX3 cX3_step 1 none 0 := ⟨wm_X4_27, wI_X3_step, ws_X3_step, wi_X3, wd_X3_step, by decide +kernel, by decide +kernel, by decide +kernel, by decide +kernel⟩
theorem lkV_X4_69 : LkV RX4 69 yX3_isAtNumberBelow RX3 cX3_isAtNumberBelow 2 (some .boolean) 1 := ⟨wm_X4_69, wI_X3_isAtNumberBelow, ws_X3_isAtNumberBelow, wi_X3, wd_X3_isAtNumberBelow, by decide +kernel, by decide +kernel, by decide +kernel, by decide +kernel⟩
theorem lkV_X3_47 : LkV RX3 47 yX3_number RX3 cX3_number 3 (some .int) 0 := ⟨wm_X3_47, wI_X3_number, ws_X3_number, wi_X3, wd_X3_number, by decide +kernel, by decide +kernel, by decide +kernel, by decide +kernel⟩
theorem lkS_X3_50 : LkS RX3 50 yJ9_min_7cf53 cJ9_min_7cf53 2 (some .int) 2 := ⟨wm_X3_50, wt_J9_min_7cf53, wi_J9, wd_J9_min_7cf53, by decide +kernel, by decide +kernel, by decide +kernel⟩
theorem lkV_X4_73 : LkV RX4 73 yX3_number RX3 cX3_number 3 (some .int) 0 := ⟨wm_X4_73, wI_X3_number, ws_X3_number, wi_X3, wd_X3_number, by decide +kernel, by decide +kernel, by decide +kernel, by decide +kernel⟩
theorem lkV_X4_92 : LkV RX4 92 yX0_haveGround RX0 cX0_haveGround 1 none 0 := ⟨wm_X4_92, wI_X0_haveGround, ws_X0_haveGround, wi_X0, wd_X0_haveGround, by decide +kernel, by decide +kernel, by decide +kernel, by decide +kernel⟩
theorem lkS_X4_45 : LkS RX4 45 yX4_takesUp cX4_takesUp 3 (some .boolean) 3 := ⟨wm_X4_45, wt_X4_takesUp, wi_X4, wd_X4_takesUp, by decide +kernel, by decide +kernel, by decide +kernel⟩
theorem lkS_X4_51 : LkS RX4 51 yX4_kindThere cX4_kindThere 2 (some .int) 1 := ⟨wm_X4_51, wt_X4_kindThere, wi_X4, wd_X4_kindThere, by decide +kernel, by decide +kernel, by decide +kernel⟩
theorem lkS_X4_97 : LkS RX4 97 yX4_nameOf cX4_nameOf 1 (some (.object "java/lang/String")) 1 := ⟨wm_X4_97, wt_X4_nameOf, wi_X4, wd_X4_nameOf, by decide +kernel, by decide +kernel, by decide +kernel⟩
theorem lkV_X4_55 : LkV RX4 55 yX1_isFull RX1 cX1_isFull 1 (some .boolean) 0 := ⟨wm_X4_55, wI_X1_isFull, ws_X1_isFull, wi_X1, wd_X1_isFull, by decide +kernel, by decide +kernel, by decide +kernel, by decide +kernel⟩
theorem lkS_X4_60 : LkS RX4 60 yX4_takesOne cX4_takesOne 4 (some .boolean) 3 := ⟨wm_X4_60, wt_X4_takesOne, wi_X4, wd_X4_takesOne, by decide +kernel, by decide +kernel, by decide +kernel⟩
theorem lkV_X4_63 : LkV RX4 63 yX1_welcome RX1 cX1_welcome 3 (some (.object "GrudgeGlasses$One")) 1 := ⟨wm_X4_63, wI_X1_welcome, ws_X1_welcome, wi_X1, wd_X1_welcome, by decide +kernel, by decide +kernel, by decide +kernel, by decide +kernel⟩
theorem lkV_X4_20 : LkV RX4 20 yX3_isAtEnd RX3 cX3_isAtEnd 1 (some .boolean) 0 := ⟨wm_X4_20, wI_X3_isAtEnd, ws_X3_isAtEnd, wi_X3, wd_X3_isAtEnd, by decide +kernel, by decide +kernel, by decide +kernel, by decide +kernel⟩
theorem lkV_X4_24 : LkV RX4 24 yX3_isAtSign RX3 cX3_isAtSign 1 (some .boolean) 0 := ⟨wm_X4_24, wI_X3_isAtSign, ws_X3_isAtSign, wi_X3, wd_X3_isAtSign, by decide +kernel, by decide +kernel, by decide +kernel, by decide +kernel⟩
theorem lkV_L_117 : LkV RL 117 yX5_sheet RX5 cX5_sheet 4 (some .int) 3 := ⟨wm_L_117, wI_X5_sheet, ws_X5_sheet, wi_X5, wd_X5_sheet, by decide +kernel, by decide +kernel, by decide +kernel, by decide +kernel⟩
theorem lkS_X5_206 : LkS RX5 206 yX5_isSheet cX5_isSheet 1 (some .boolean) 1 := ⟨wm_X5_206, wt_X5_isSheet, wi_X5, wd_X5_isSheet, by decide +kernel, by decide +kernel, by decide +kernel⟩
theorem lkV_X5_210 : LkV RX5 210 yX2_begin RX2 cX2_begin 4 none 2 := ⟨wm_X5_210, wI_X2_begin, ws_X2_begin, wi_X2, wd_X2_begin, by decide +kernel, by decide +kernel, by decide +kernel, by decide +kernel⟩
theorem lkV_L_123 : LkV RL 123 yX5_write RX5 cX5_write 9 (some .long) 3 := ⟨wm_L_123, wI_X5_write, ws_X5_write, wi_X5, wd_X5_write, by decide +kernel, by decide +kernel, by decide +kernel, by decide +kernel⟩
theorem lkV_X5_216 : LkV RX5 216 yX5_faultOfSheet RX5 cX5_faultOfSheet 2 (some .int) 1 := ⟨wm_X5_216, wI_X5_faultOfSheet, ws_X5_faultOfSheet, wi_X5, wd_X5_faultOfSheet, by decide +kernel, by decide +kernel, by decide +kernel, by decide +kernel⟩
theorem lkV_X5_226 : LkV RX5 226 yX2_isMissing RX2 cX2_isMissing 1 (some .boolean) 0 := ⟨wm_X5_226, wI_X2_isMissing, ws_X2_isMissing, wi_X2, wd_X2_isMissing, by decide +kernel, by decide +kernel, by decide +kernel, by decide +kernel⟩
theorem lkV_X5_223 : LkV RX5 223 yX2_put RX2 cX2_put 4 none 2 := ⟨wm_X5_223, wI_X2_put, ws_X2_put, wi_X2, wd_X2_put, by decide +kernel, by decide +kernel, by decide +kernel, by decide +kernel⟩
theorem lkV_L_128 : LkV RL 128 yX5_copy RX5 cX5_copy 8 (some .int) 5 := ⟨wm_L_128, wI_X5_copy, ws_X5_copy, wi_X5, wd_X5_copy, by decide +kernel, by decide +kernel, by decide +kernel, by decide +kernel⟩
theorem lkV_X5_233 : LkV RX5 233 yX2_has RX2 cX2_has 3 (some .boolean) 2 := ⟨wm_X5_233, wI_X2_has, ws_X2_has, wi_X2, wd_X2_has, by decide +kernel, by decide +kernel, by decide +kernel, by decide +kernel⟩
theorem lkV_L_133 : LkV RL 133 yX5_lays RX5 cX5_lays 8 (some .int) 1 := ⟨wm_L_133, wI_X5_lays, ws_X5_lays, wi_X5, wd_X5_lays, by decide +kernel, by decide +kernel, by decide +kernel, by decide +kernel⟩
theorem lkV_L_137 : LkV RL 137 yX5_book RX5 cX5_book 7 (some .int) 2 := ⟨wm_L_137, wI_X5_book, ws_X5_book, wi_X5, wd_X5_book, by decide +kernel, by decide +kernel, by decide +kernel, by decide +kernel⟩
theorem lkV_X5_244 : LkV RX5 244 yX5_faultOfSheetFor RX5 cX5_faultOfSheetFor 4 (some .int) 2 := ⟨wm_X5_244, wI_X5_faultOfSheetFor, ws_X5_faultOfSheetFor, wi_X5, wd_X5_faultOfSheetFor, by decide +kernel, by decide +kernel, by decide +kernel, by decide +kernel⟩
theorem lkV_L_141 : LkV RL 141 yX5_read RX5 cX5_read 8 (some .int) 2 := ⟨wm_L_141, wI_X5_read, ws_X5_read, wi_X5, wd_X5_read, by decide +kernel, by decide +kernel, by decide +kernel, by decide +kernel⟩
theorem lkS_X5_250 : LkS RX5 250 yX5_goesAsTold cX5_goesAsTold 3 (some .boolean) 2 := ⟨wm_X5_250, wt_X5_goesAsTold, wi_X5, wd_X5_goesAsTold, by decide +kernel, by decide +kernel, by decide +kernel⟩
theorem lkV_L_145 : LkV RL 145 yX5_image RX5 cX5_image 1 (some .int) 0 := ⟨wm_L_145, wI_X5_image, ws_X5_image, wi_X5, wd_X5_image, by decide +kernel, by decide +kernel, by decide +kernel, by decide +kernel⟩
theorem lkV_L_149 : LkV RL 149 yX5_undo RX5 cX5_undo 1 (some .int) 0 := ⟨wm_L_149, wI_X5_undo, ws_X5_undo, wi_X5, wd_X5_undo, by decide +kernel, by decide +kernel, by decide +kernel, by decide +kernel⟩
theorem lkV_L_153 : LkV RL 153 yX5_tear RX5 cX5_tear 2 (some .int) 0 := ⟨wm_L_153, wI_X5_tear, ws_X5_tear, wi_X5, wd_X5_tear, by decide +kernel, by decide +kernel, by decide +kernel, by decide +kernel⟩
theorem lkV_L_157 : LkV RL 157 yX5_count RX5 cX5_count 2 (some .int) 1 := ⟨wm_L_157, wI_X5_count, ws_X5_count, wi_X5, wd_X5_count, by decide +kernel, by decide +kernel, by decide +kernel, by decide +kernel⟩
theorem lkV_X5_254 : LkV RX5 254 yX1_pairsThatShowNobody RX1 cX1_pairsThatShowNobody 3 (some .int) 0 := ⟨wm_X5_254, wI_X1_pairsThatShowNobody, ws_X1_pairsThatShowNobody, wi_X1, wd_X1_pairsThatShowNobody, by decide +kernel, by decide +kernel, by decide +kernel, by decide +kernel⟩
theorem lkV_X5_257 : LkV RX5 257 yX1_wornTogether RX1 cX1_wornTogether 3 (some .int) 0 := ⟨wm_X5_257, wI_X1_wornTogether, ws_X1_wornTogether, wi_X1, wd_X1_wornTogether, by decide +kernel, by decide +kernel, by decide +kernel, by decide +kernel⟩
theorem lkV_L_161 : LkV RL 161 yX5_status RX5 cX5_status 4 (some .int) 1 := ⟨wm_L_161, wI_X5_status, ws_X5_status, wi_X5, wd_X5_status, by decide +kernel, by decide +kernel, by decide +kernel, by decide +kernel⟩
theorem lkV_L_17 : LkV RL 17 yX6_person RX6 cX6_person 2 (some .int) 1 := ⟨wm_L_17, wI_X6_person, ws_X6_person, wi_X6, wd_X6_person, by decide +kernel, by decide +kernel, by decide +kernel, by decide +kernel⟩
theorem lkS_X6_41 : LkS RX6 41 yX6_in cX6_in 4 (some .boolean) 3 := ⟨wm_X6_41, wt_X6_in, wi_X6, wd_X6_in, by decide +kernel, by decide +kernel, by decide +kernel⟩
theorem lkV_X6_37 : LkV RX6 37 yX6_finds RX6 cX6_finds 2 (some .int) 1 := ⟨wm_X6_37, wI_X6_finds, ws_X6_finds, wi_X6, wd_X6_finds, by decide +kernel, by decide +kernel, by decide +kernel, by decide +kernel⟩
theorem lkV_X6_68 : LkV RX6 68 yX6_comesAs RX6 cX6_comesAs 5 (some .int) 3 := ⟨wm_X6_68, wI_X6_comesAs, ws_X6_comesAs, wi_X6, wd_X6_comesAs, by decide +kernel, by decide +kernel, by decide +kernel, by decide +kernel⟩
theorem lkV_X6_63 : LkV RX6 63 yX6_put RX6 cX6_put 4 none 3 := ⟨wm_X6_63, wI_X6_put, ws_X6_put, wi_X6, wd_X6_put, by decide +kernel, by decide +kernel, by decide +kernel, by decide +kernel⟩
theorem lkV_L_22 : LkV RL 22 yX6_of RX6 cX6_of 3 (some .int) 2 := ⟨wm_L_22, wI_X6_of, ws_X6_of, wi_X6, wd_X6_of, by decide +kernel, by decide +kernel, by decide +kernel, by decide +kernel⟩
theorem lkV_X6_45 : LkV RX6 45 yX6_isPerson RX6 cX6_isPerson 2 (some .boolean) 1 := ⟨wm_X6_45, wI_X6_isPerson, ws_X6_isPerson, wi_X6, wd_X6_isPerson, by decide +kernel, by decide +kernel, by decide +kernel, by decide +kernel⟩
theorem lkV_X6_49 : LkV RX6 49 yX6_it RX6 cX6_it 3 (some .int) 2 := ⟨wm_X6_49, wI_X6_it, ws_X6_it, wi_X6, wd_X6_it, by decide +kernel, by decide +kernel, by decide +kernel, by decide +kernel⟩
theorem lkV_X6_71 : LkV RX6 71 yX6_grinds RX6 cX6_grinds 4 (some .int) 1 := ⟨wm_X6_71, wI_X6_grinds, ws_X6_grinds, wi_X6, wd_X6_grinds, by decide +kernel, by decide +kernel, by decide +kernel, by decide +kernel⟩
theorem lkS_X6_53 : LkS RX6 53 yX6_held cX6_held 3 (some .int) 3 := ⟨wm_X6_53, wt_X6_held, wi_X6, wd_X6_held, by decide +kernel, by decide +kernel, by decide +kernel⟩
theorem lkV_X6_74 : LkV RX6 74 yX6_eases RX6 cX6_eases 3 (some .int) 1 := ⟨wm_X6_74, wI_X6_eases, ws_X6_eases, wi_X6, wd_X6_eases, by decide +kernel, by decide +kernel, by decide +kernel, by decide +kernel⟩
theorem lkV_X6_60 : LkV RX6 60 yX6_sight RX6 cX6_sight 2 (some .int) 1 := ⟨wm_X6_60, wI_X6_sight, ws_X6_sight, wi_X6, wd_X6_sight, by decide +kernel, by decide +kernel, by decide +kernel, by decide +kernel⟩
theorem lkV_X6_57 : LkV RX6 57 yX6_looksAt RX6 cX6_looksAt 7 (some .int) 2 := ⟨wm_X6_57, wI_X6_looksAt, ws_X6_looksAt, wi_X6, wd_X6_looksAt, by decide +kernel, by decide +kernel, by decide +kernel, by decide +kernel⟩
theorem lkV_X6_77 : LkV RX6 77 yX6_grows RX6 cX6_grows 5 (some .int) 1 := ⟨wm_X6_77, wI_X6_grows, ws_X6_grows, wi_X6, wd_X6_grows, by decide +kernel, by decide +kernel, by decide +kernel, by decide +kernel⟩
theorem lkV_L_27 : LkV RL 27 yX6_set RX6 cX6_set 4 (some .int) 3 := ⟨wm_L_27, wI_X6_set, ws_X6_set, wi_X6, wd_X6_set, by decide +kernel, by decide +kernel, by decide +kernel, by decide +kernel⟩
theorem lkV_X6_80 : LkV RX6 80 yX6_mayBe RX6 cX6_mayBe 4 (some .boolean) 2 := ⟨wm_X6_80, wI_X6_mayBe, ws_X6_mayBe, wi_X6, wd_X6_mayBe, by decide +kernel, by decide +kernel, by decide +kernel, by decide +kernel⟩
theorem lkV_X6_84 : LkV RX6 84 yX6_becomes RX6 cX6_becomes 4 (some .int) 2 := ⟨wm_X6_84, wI_X6_becomes, ws_X6_becomes, wi_X6, wd_X6_becomes, by decide +kernel, by decide +kernel, by decide +kernel, by decide +kernel⟩
theorem lkV_L_31 : LkV RL 31 yX6_turn RX6 cX6_turn 3 (some .int) 2 := ⟨wm_L_31, wI_X6_turn, ws_X6_turn, wi_X6, wd_X6_turn, by decide +kernel, by decide +kernel, by decide +kernel, by decide +kernel⟩
theorem lkV_L_35 : LkV RL 35 yX6_as RX6 cX6_as 5 (some .int) 2 := ⟨wm_L_35, wI_X6_as, ws_X6_as, wi_X6, wd_X6_as, by decide +kernel, by decide +kernel, by decide +kernel, by decide +kernel⟩
theorem lkV_L_39 : LkV RL 39 yX6_grind RX6 cX6_grind 2 (some .int) 1 := ⟨wm_L_39, wI_X6_grind, ws_X6_grind, wi_X6, wd_X6_grind, by decide +kernel, by decide +kernel, by decide +kernel, by decide +kernel⟩
theorem lkV_X6_89 : LkV RX6 89 yX6_isGround RX6 cX6_isGround 2 (some .int) 1 := ⟨wm_X6_89, wI_X6_isGround, ws_X6_isGround, wi_X6, wd_X6_isGround, by decide +kernel, by decide +kernel, by decide +kernel, by decide +kernel⟩
theorem lkV_L_43 : LkV RL 43 yX6_lend RX6 cX6_lend 3 (some .int) 2 := ⟨wm_L_43, wI_X6_lend, ws_X6_lend, wi_X6, wd_X6_lend, by decide +kernel, by decide +kernel, by decide +kernel, by decide +kernel⟩
theorem lkV_X6_92 : LkV RX6 92 yX6_areTwo RX6 cX6_areTwo 3 (some .boolean) 2 := ⟨wm_X6_92, wI_X6_areTwo, ws_X6_areTwo, wi_X6, wd_X6_areTwo, by decide +kernel, by decide +kernel, by decide +kernel, by decide +kernel⟩
theorem lkV_X6_95 : LkV RX6 95 yX6_lends RX6 cX6_lends 5 none 2 := ⟨wm_X6_95, wI_X6_lends, ws_X6_lends, wi_X6, wd_X6_lends, by decide +kernel, by decide +kernel, by decide +kernel, by decide +kernel⟩
theorem lkV_L_47 : LkV RL 47 yX6_looks RX6 cX6_looks 3 (some .int) 2 := ⟨wm_L_47, wI_X6_looks, ws_X6_looks, wi_X6, wd_X6_looks, by decide +kernel, by decide +kernel, by decide +kernel, by decide +kernel⟩
theorem lkV_L_51 : LkV RL 51 yX6_sees RX6 cX6_sees 3 (some .int) 2 := ⟨wm_L_51, wI_X6_sees, ws_X6_sees, wi_X6, wd_X6_sees, by decide +kernel, by decide +kernel, by decide +kernel, by decide +kernel⟩
theorem lkV_X6_99 : LkV RX6 99 yX6_seesBy RX6 cX6_seesBy 5 (some .int) 2 := ⟨wm_X6_99, wI_X6_seesBy, ws_X6_seesBy, wi_X6, wd_X6_seesBy, by decide +kernel, by decide +kernel, by decide +kernel, by decide +kernel⟩
theorem lkV_L_55 : LkV RL 55 yX6_days RX6 cX6_days 2 (some .int) 1 := ⟨wm_L_55, wI_X6_days, ws_X6_days, wi_X6, wd_X6_days, by decide +kernel, by decide +kernel, by decide +kernel, by decide +kernel⟩
theorem lkV_X6_105 : LkV RX6 105 yX6_goesFor RX6 cX6_goesFor 3 none 1 := ⟨wm_X6_105, wI_X6_goesFor, ws_X6_goesFor, wi_X6, wd_X6_goesFor, by decide +kernel, by decide +kernel, by decide +kernel, by decide +kernel⟩
theorem lkV_X6_102 : LkV RX6 102 yX6_goes RX6 cX6_goes 3 none 0 := ⟨wm_X6_102, wI_X6_goes, ws_X6_goes, wi_X6, wd_X6_goes, by decide +kernel, by decide +kernel, by decide +kernel, by decide +kernel⟩
theorem lkV_X6_109 : LkV RX6 109 yX6_sums RX6 cX6_sums 4 (some .int) 1 := ⟨wm_X6_109, wI_X6_sums, ws_X6_sums, wi_X6, wd_X6_sums, by decide +kernel, by decide +kernel, by decide +kernel, by decide +kernel⟩
theorem lkV_L_59 : LkV RL 59 yX6_now RX6 cX6_now 2 (some .int) 1 := ⟨wm_L_59, wI_X6_now, ws_X6_now, wi_X6, wd_X6_now, by decide +kernel, by decide +kernel, by decide +kernel, by decide +kernel⟩
theorem lkV_X6_112 : LkV RX6 112 yX6_thoseWith RX6 cX6_thoseWith 5 (some .int) 2 := ⟨wm_X6_112, wI_X6_thoseWith, ws_X6_thoseWith, wi_X6, wd_X6_thoseWith, by decide +kernel, by decide +kernel, by decide +kernel, by decide +kernel⟩
theorem lkV_X6_115 : LkV RX6 115 yX6_seen RX6 cX6_seen 3 (some .int) 0 := ⟨wm_X6_115, wI_X6_seen, ws_X6_seen, wi_X6, wd_X6_seen, by decide +kernel, by decide +kernel, by decide +kernel, by decide +kernel⟩
theorem lkV_L_63 : LkV RL 63 yX6_on RX6 cX6_on 5 (some .int) 3 := ⟨wm_L_63, wI_X6_on, ws_X6_on, wi_X6, wd_X6_on, by decide +kernel, by decide +kernel, by decide +kernel, by decide +kernel⟩
theorem lkV_X6_123 : LkV RX6 123 yX6_thinks RX6 cX6_thinks 1 none 0 := ⟨wm_X6_123, wI_X6_thinks, ws_X6_thinks, wi_X6, wd_X6_thinks, by decide +kernel, by decide +kernel, by decide +kernel, by decide +kernel⟩
theorem lkS_X6_119 : LkS RX6 119 yX6_copyAll cX6_copyAll 3 none 2 := ⟨wm_X6_119, wt_X6_copyAll, wi_X6, wd_X6_copyAll, by decide +kernel, by decide +kernel, by decide +kernel⟩
theorem lkV_X6_126 : LkV RX6 126 yX6_putsBack RX6 cX6_putsBack 1 none 0 := ⟨wm_X6_126, wI_X6_putsBack, ws_X6_putsBack, wi_X6, wd_X6_putsBack, by decide +kernel, by decide +kernel, by decide +kernel, by decide +kernel⟩
theorem lkV_L_67 : LkV RL 67 yX6_then RX6 cX6_then 5 (some .int) 3 := ⟨wm_L_67, wI_X6_then, ws_X6_then, wi_X6, wd_X6_then, by decide +kernel, by decide +kernel, by decide +kernel, by decide +kernel⟩
theorem lkV_L_71 : LkV RL 71 yX6_forgives RX6 cX6_forgives 2 (some .int) 1 := ⟨wm_L_71, wI_X6_forgives, ws_X6_forgives, wi_X6, wd_X6_forgives, by decide +kernel, by decide +kernel, by decide +kernel, by decide +kernel⟩
theorem lkV_X6_129 : LkV RX6 129 yX6_easedIn RX6 cX6_easedIn 3 (some .int) 1 := ⟨wm_X6_129, wI_X6_easedIn, ws_X6_easedIn, wi_X6, wd_X6_easedIn, by decide +kernel, by decide +kernel, by decide +kernel, by decide +kernel⟩
theorem lkV_X6_132 : LkV RX6 132 yX6_orNone RX6 cX6_orNone 2 (some .int) 1 := ⟨wm_X6_132, wI_X6_orNone, ws_X6_orNone, wi_X6, wd_X6_orNone, by decide +kernel, by decide +kernel, by decide +kernel, by decide +kernel⟩
theorem lkV_L_75 : LkV RL 75 yX6_worn RX6 cX6_worn 3 (some .int) 1 := ⟨wm_L_75, wI_X6_worn, ws_X6_worn, wi_X6, wd_X6_worn, by decide +kernel, by decide +kernel, by decide +kernel, by decide +kernel⟩
theorem lkV_L_79 : LkV RL 79 yX6_unseen RX6 cX6_unseen 3 (some .int) 1 := ⟨wm_L_79, wI_X6_unseen, ws_X6_unseen, wi_X6, wd_X6_unseen, by decide +kernel, by decide +kernel, by decide +kernel, by decide +kernel⟩
theorem lkV_L_83 : LkV RL 83 yX6_borrow RX6 cX6_borrow 7 (some .int) 1 := ⟨wm_L_83, wI_X6_borrow, ws_X6_borrow, wi_X6, wd_X6_borrow, by decide +kernel, by decide +kernel, by decide +kernel, by decide +kernel⟩
theorem lkV_L_87 : LkV RL 87 yX6_kind RX6 cX6_kind 7 (some .int) 1 := ⟨wm_L_87, wI_X6_kind, ws_X6_kind, wi_X6, wd_X6_kind, by decide +kernel, by decide +kernel, by decide +kernel, by decide +kernel⟩
theorem lkV_L_91 : LkV RL 91 yX6_better RX6 cX6_better 7 (some .int) 2 := ⟨wm_L_91, wI_X6_better, ws_X6_better, wi_X6, wd_X6_better, by decide +kernel, by decide +kernel, by decide +kernel, by decide +kernel⟩
theorem lkV_X6_135 : LkV RX6 135 yX6_grudgeOn RX6 cX6_grudgeOn 4 (some .int) 2 := ⟨wm_X6_135, wI_X6_grudgeOn, ws_X6_grudgeOn, wi_X6, wd_X6_grudgeOn, by decide +kernel, by decide +kernel, by decide +kernel, by decide +kernel⟩
theorem lkV_L_95 : LkV RL 95 yX6_most RX6 cX6_most 5 (some .int) 2 := ⟨wm_L_95, wI_X6_most, ws_X6_most, wi_X6, wd_X6_most, by decide +kernel, by decide +kernel, by decide +kernel, by decide +kernel⟩
theorem lkV_L_99 : LkV RL 99 yX6_sharpest RX6 cX6_sharpest 6 (some .int) 1 := ⟨wm_L_99, wI_X6_sharpest, ws_X6_sharpest, wi_X6, wd_X6_sharpest, by decide +kernel, by decide +kernel, by decide +kernel, by decide +kernel⟩
theorem lkV_X6_138 : LkV RX6 138 yX6_allLooks RX6 cX6_allLooks 4 (some .int) 1 := ⟨wm_X6_138, wI_X6_allLooks, ws_X6_allLooks, wi_X6, wd_X6_allLooks, by decide +kernel, by decide +kernel, by decide +kernel, by decide +kernel⟩
theorem lkV_L_104 : LkV RL 104 yX6_push RX6 cX6_push 4 (some .int) 0 := ⟨wm_L_104, wI_X6_push, ws_X6_push, wi_X6, wd_X6_push, by decide +kernel, by decide +kernel, by decide +kernel, by decide +kernel⟩
theorem lkS_X6_141 : LkS RX6 141 yX6_bits cX6_bits 3 (some .int) 1 := ⟨wm_X6_141, wt_X6_bits, wi_X6, wd_X6_bits, by decide +kernel, by decide +kernel, by decide +kernel⟩
theorem lkV_X6_144 : LkV RX6 144 yX6_areSeen RX6 cX6_areSeen 3 (some .boolean) 1 := ⟨wm_X6_144, wI_X6_areSeen, ws_X6_areSeen, wi_X6, wd_X6_areSeen, by decide +kernel, by decide +kernel, by decide +kernel, by decide +kernel⟩
theorem lkV_L_108 : LkV RL 108 yX6_feed RX6 cX6_feed 4 (some .int) 2 := ⟨wm_L_108, wI_X6_feed, ws_X6_feed, wi_X6, wd_X6_feed, by decide +kernel, by decide +kernel, by decide +kernel, by decide +kernel⟩
theorem lkV_L_112 : LkV RL 112 yX6_wipe RX6 cX6_wipe 2 (some .int) 0 := ⟨wm_L_112, wI_X6_wipe, ws_X6_wipe, wi_X6, wd_X6_wipe, by decide +kernel, by decide +kernel, by decide +kernel, by decide +kernel⟩
theorem lkV_L_116 : LkV RL 116 yX6_quay RX6 cX6_quay 2 (some .int) 0 := ⟨wm_L_116, wI_X6_quay, ws_X6_quay, wi_X6, wd_X6_quay, by decide +kernel, by decide +kernel, by decide +kernel, by decide +kernel⟩
theorem lkV_X6_180 : LkV RX6 180 yX6_reads RX6 cX6_reads 1 none 0 := ⟨wm_X6_180, wI_X6_reads, ws_X6_reads, wi_X6, wd_X6_reads, by decide +kernel, by decide +kernel, by decide +kernel, by decide +kernel⟩
theorem lkV_X6_163 : LkV RX6 163 yX6_isByte RX6 cX6_isByte 4 (some .boolean) 3 := ⟨wm_X6_163, wI_X6_isByte, ws_X6_isByte, wi_X6, wd_X6_isByte, by decide +kernel, by decide +kernel, by decide +kernel, by decide +kernel⟩
theorem lkV_X6_173 : LkV RX6 173 yX6_wordHere RX6 cX6_wordHere 2 (some .int) 0 := ⟨wm_X6_173, wI_X6_wordHere, ws_X6_wordHere, wi_X6, wd_X6_wordHere, by decide +kernel, by decide +kernel, by decide +kernel, by decide +kernel⟩
theorem lkV_X6_160 : LkV RX6 160 yX6_isName RX6 cX6_isName 5 (some .boolean) 2 := ⟨wm_X6_160, wI_X6_isName, ws_X6_isName, wi_X6, wd_X6_isName, by decide +kernel, by decide +kernel, by decide +kernel, by decide +kernel⟩
theorem lkV_X6_199 : LkV RX6 199 yX6_item RX6 cX6_item 3 none 0 := ⟨wm_X6_199, wI_X6_item, ws_X6_item, wi_X6, wd_X6_item, by decide +kernel, by decide +kernel, by decide +kernel, by decide +kernel⟩
theorem lkV_X6_193 : LkV RX6 193 yX6_personItem RX6 cX6_personItem 5 none 0 := ⟨wm_X6_193, wI_X6_personItem, ws_X6_personItem, wi_X6, wd_X6_personItem, by decide +kernel, by decide +kernel, by decide +kernel, by decide +kernel⟩
theorem lkV_X6_189 : LkV RX6 189 yX6_perhaps RX6 cX6_perhaps 5 (some .int) 4 := ⟨wm_X6_189, wI_X6_perhaps, ws_X6_perhaps, wi_X6, wd_X6_perhaps, by decide +kernel, by decide +kernel, by decide +kernel, by decide +kernel⟩
theorem lkV_X6_183 : LkV RX6 183 yX6_passes RX6 cX6_passes 2 (some .boolean) 1 := ⟨wm_X6_183, wI_X6_passes, ws_X6_passes, wi_X6, wd_X6_passes, by decide +kernel, by decide +kernel, by decide +kernel, by decide +kernel⟩
theorem lkV_X6_186 : LkV RX6 186 yX6_number RX6 cX6_number 4 (some .int) 2 := ⟨wm_X6_186, wI_X6_number, ws_X6_number, wi_X6, wd_X6_number, by decide +kernel, by decide +kernel, by decide +kernel, by decide +kernel⟩
theorem lkV_X6_196 : LkV RX6 196 yX6_grindItem RX6 cX6_grindItem 3 none 0 := ⟨wm_X6_196, wI_X6_grindItem, ws_X6_grindItem, wi_X6, wd_X6_grindItem, by decide +kernel, by decide +kernel, by decide +kernel, by decide +kernel⟩
theorem lkV_L_120 : LkV RL 120 yX6_sheet RX6 cX6_sheet 5 (some .int) 3 := ⟨wm_L_120, wI_X6_sheet, ws_X6_sheet, wi_X6, wd_X6_sheet, by decide +kernel, by decide +kernel, by decide +kernel, by decide +kernel⟩
theorem lkS_X6_202 : LkS RX6 202 yX6_isSheet cX6_isSheet 1 (some .boolean) 1 := ⟨wm_X6_202, wt_X6_isSheet, wi_X6, wd_X6_isSheet, by decide +kernel, by decide +kernel, by decide +kernel⟩
theorem lkV_L_127 : LkV RL 127 yX6_write RX6 cX6_write 8 (some .long) 3 := ⟨wm_L_127, wI_X6_write, ws_X6_write, wi_X6, wd_X6_write, by decide +kernel, by decide +kernel, by decide +kernel, by decide +kernel⟩
theorem lkV_X6_207 : LkV RX6 207 yX6_notThere RX6 cX6_notThere 2 (some .int) 1 := ⟨wm_X6_207, wI_X6_notThere, ws_X6_notThere, wi_X6, wd_X6_notThere, by decide +kernel, by decide +kernel, by decide +kernel, by decide +kernel⟩
theorem lkS_X6_210 : LkS RX6 210 yX6_cutTo cX6_cutTo 3 (some .long) 2 := ⟨wm_X6_210, wt_X6_cutTo, wi_X6, wd_X6_cutTo, by decide +kernel, by decide +kernel, by decide +kernel⟩
theorem lkV_L_132 : LkV RL 132 yX6_copy RX6 cX6_copy 9 (some .int) 5 := ⟨wm_L_132, wI_X6_copy, ws_X6_copy, wi_X6, wd_X6_copy, by decide +kernel, by decide +kernel, by decide +kernel, by decide +kernel⟩
theorem lkV_X6_214 : LkV RX6 214 yX6_notCopied RX6 cX6_notCopied 7 (some .int) 5 := ⟨wm_X6_214, wI_X6_notCopied, ws_X6_notCopied, wi_X6, wd_X6_notCopied, by decide +kernel, by decide +kernel, by decide +kernel, by decide +kernel⟩
theorem lkV_L_136 : LkV RL 136 yX6_lays RX6 cX6_lays 5 (some .int) 1 := ⟨wm_L_136, wI_X6_lays, ws_X6_lays, wi_X6, wd_X6_lays, by decide +kernel, by decide +kernel, by decide +kernel, by decide +kernel⟩
theorem lkV_L_140 : LkV RL 140 yX6_book RX6 cX6_book 5 (some .int) 2 := ⟨wm_L_140, wI_X6_book, ws_X6_book, wi_X6, wd_X6_book, by decide +kernel, by decide +kernel, by decide +kernel, by decide +kernel⟩
theorem lkV_X6_218 : LkV RX6 218 yX6_notAsked RX6 cX6_notAsked 4 (some .int) 2 := ⟨wm_X6_218, wI_X6_notAsked, ws_X6_notAsked, wi_X6, wd_X6_notAsked, by decide +kernel, by decide +kernel, by decide +kernel, by decide +kernel⟩
theorem lkV_L_144 : LkV RL 144 yX6_read RX6 cX6_read 6 (some .int) 2 := ⟨wm_L_144, wI_X6_read, ws_X6_read, wi_X6, wd_X6_read, by decide +kernel, by decide +kernel, by decide +kernel, by decide +kernel⟩
theorem lkV_X6_221 : LkV RX6 221 yX6_isBook RX6 cX6_isBook 5 (some .boolean) 2 := ⟨wm_X6_221, wI_X6_isBook, ws_X6_isBook, wi_X6, wd_X6_isBook, by decide +kernel, by decide +kernel, by decide +kernel, by decide +kernel⟩
theorem lkV_L_148 : LkV RL 148 yX6_image RX6 cX6_image 1 (some .int) 0 := ⟨wm_L_148, wI_X6_image, ws_X6_image, wi_X6, wd_X6_image, by decide +kernel, by decide +kernel, by decide +kernel, by decide +kernel⟩
theorem lkV_L_152 : LkV RL 152 yX6_undo RX6 cX6_undo 1 (some .int) 0 := ⟨wm_L_152, wI_X6_undo, ws_X6_undo, wi_X6, wd_X6_undo, by decide +kernel, by decide +kernel, by decide +kernel, by decide +kernel⟩
theorem lkV_L_156 : LkV RL 156 yX6_tear RX6 cX6_tear 2 (some .int) 0 := ⟨wm_L_156, wI_X6_tear, ws_X6_tear, wi_X6, wd_X6_tear, by decide +kernel, by decide +kernel, by decide +kernel, by decide +kernel⟩
theorem lkV_L_160 : LkV RL 160 yX6_count RX6 cX6_count 2 (some .int) 1 := ⟨wm_L_160, wI_X6_count, ws_X6_count, wi_X6, wd_X6_count, by decide +kernel, by decide +kernel, by decide +kernel, by decide +kernel⟩
theorem lkV_L_164 : LkV RL 164 yX6_status RX6 cX6_status 4 (some .int) 1 := ⟨wm_L_164, wI_X6_status, ws_X6_status, wi_X6, wd_X6_status, by decide +kernel, by decide +kernel, by decide +kernel, by decide +kernel⟩
end
section
theorem dX0_init_0 : decode cX0_init 0 = .ok (.aload_n 0, 1) := by decide +kernel
theorem dX0_init_1 : decode cX0_init 1 = .ok (.invokespecial 3, 3) := by decide +kernel
theorem dX0_init_4 : decode cX0_init 4 = .ok (.return_, 1) := by decide +kernel
theorem dX0_begin_0 : decode cX0_begin 0 = .ok (.aload_n 0, 1) := by decide +kernel
theorem dX0_begin_1 : decode cX0_begin 1 = .ok (.iload_n 1, 1) := by decide +kernel
theorem dX0_begin_2 : decode cX0_begin 2 = .ok (.putfield 9, 3) := by decide +kernel
theorem dX0_begin_5 : decode cX0_begin 5 = .ok (.aload_n 0, 1) := by decide +kernel
theorem dX0_begin_6 : decode cX0_begin 6 = .ok (.iload_n 2, 1) := by decide +kernel
theorem dX0_begin_7 : decode cX0_begin 7 = .ok (.putfield 15, 3) := by decide +kernel
theorem dX0_begin_10 : decode cX0_begin 10 = .ok (.aload_n 0, 1) := by decide +kernel
theorem dX0_begin_11 : decode cX0_begin 11 = .ok (.bipush 20, 2) := by decide +kernel
theorem dX0_begin_13 : decode cX0_begin 13 = .ok (.putfield 18, 3) := by decide +kernel
theorem dX0_begin_16 : decode cX0_begin 16 = .ok (.aload_n 0, 1) := by decide +kernel
theorem dX0_begin_17 : decode cX0_begin 17 = .ok (.iconst (-1), 1) := by decide +kernel
theorem dX0_begin_18 : decode cX0_begin 18 = .ok (.putfield 21, 3) := by decide +kernel
theorem dX0_begin_21 : decode cX0_begin 21 = .ok (.aload_n 0, 1) := by decide +kernel
theorem dX0_begin_22 : decode cX0_begin 22 = .ok (.iconst 0, 1) := by decide +kernel
theorem dX0_begin_23 : decode cX0_begin 23 = .ok (.putfield 24, 3) := by decide +kernel
theorem dX0_begin_26 : decode cX0_begin 26 = .ok (.aload_n 0, 1) := by decide +kernel
theorem dX0_begin_27 : decode cX0_begin 27 = .ok (.iconst (-1), 1) := by decide +kernel
theorem dX0_begin_28 : decode cX0_begin 28 = .ok (.putfield 27, 3) := by decide +kernel
theorem dX0_begin_31 : decode cX0_begin 31 = .ok (.aload_n 0, 1) := by decide +kernel
theorem dX0_begin_32 : decode cX0_begin 32 = .ok (.iconst 0, 1) := by decide +kernel
theorem dX0_begin_33 : decode cX0_begin 33 = .ok (.putfield 30, 3) := by decide +kernel
theorem dX0_begin_36 : decode cX0_begin 36 = .ok (.aload_n 0, 1) := by decide +kernel
theorem dX0_begin_37 : decode cX0_begin 37 = .ok (.iconst 0, 1) := by decide +kernel
theorem dX0_begin_38 : decode cX0_begin 38 = .ok (.putfield 33, 3) := by decide +kernel
theorem dX0_begin_41 : decode cX0_begin 41 = .ok (.return_, 1) := by decide +kernel
theorem dX0_become_0 : decode cX0_become 0 = .ok (.aload_n 0, 1) := by decide +kernel
theorem dX0_become_1 : decode cX0_become 1 = .ok (.aload_n 1, 1) := by decide +kernel
theorem dX0_become_2 : decode cX0_become 2 = .ok (.getfield 9, 3) := by decide +kernel
theorem dX0_become_5 : decode cX0_become 5 = .ok (.putfield 9, 3) := by decide +kernel
theorem dX0_become_8 : decode cX0_become 8 = .ok (.aload_n 0, 1) := by decide +kernel
theorem dX0_become_9 : decode cX0_become 9 = .ok (.aload_n 1, 1) := by decide +kernel
theorem dX0_become_10 : decode cX0_become 10 = .ok (.getfield 15, 3) := by decide +kernel
theorem dX0_become_13 : decode cX0_become 13 = .ok (.putfield 15, 3) := by decide +kernel
theorem dX0_become_16 : decode cX0_become 16 = .ok (.aload_n 0, 1) := by decide +kernel
theorem dX0_become_17 : decode cX0_become 17 = .ok (.aload_n 1, 1) := by decide +kernel
theorem dX0_become_18 : decode cX0_become 18 = .ok (.getfield 18, 3) := by decide +kernel
theorem dX0_become_21 : decode cX0_become 21 = .ok (.putfield 18, 3) := by decide +kernel
theorem dX0_become_24 : decode cX0_become 24 = .ok (.aload_n 0, 1) := by decide +kernel
theorem dX0_become_25 : decode cX0_become 25 = .ok (.aload_n 1, 1) := by decide +kernel
theorem dX0_become_26 : decode cX0_become 26 = .ok (.getfield 21, 3) := by decide +kernel
theorem dX0_become_29 : decode cX0_become 29 = .ok (.putfield 21, 3) := by decide +kernel
theorem dX0_become_32 : decode cX0_become 32 = .ok (.aload_n 0, 1) := by decide +kernel
theorem dX0_become_33 : decode cX0_become 33 = .ok (.aload_n 1, 1) := by decide +kernel
theorem dX0_become_34 : decode cX0_become 34 = .ok (.getfield 24, 3) := by decide +kernel
theorem dX0_become_37 : decode cX0_become 37 = .ok (.putfield 24, 3) := by decide +kernel
theorem dX0_become_40 : decode cX0_become 40 = .ok (.aload_n 0, 1) := by decide +kernel
theorem dX0_become_41 : decode cX0_become 41 = .ok (.aload_n 1, 1) := by decide +kernel
theorem dX0_become_42 : decode cX0_become 42 = .ok (.invokevirtual 36, 3) := by decide +kernel
theorem dX0_become_45 : decode cX0_become 45 = .ok (.return_, 1) := by decide +kernel
theorem dX0_takePairOf_0 : decode cX0_takePairOf 0 = .ok (.aload_n 0, 1) := by decide +kernel
theorem dX0_takePairOf_1 : decode cX0_takePairOf 1 = .ok (.aload_n 1, 1) := by decide +kernel
theorem dX0_takePairOf_2 : decode cX0_takePairOf 2 = .ok (.getfield 27, 3) := by decide +kernel
theorem dX0_takePairOf_5 : decode cX0_takePairOf 5 = .ok (.putfield 27, 3) := by decide +kernel
theorem dX0_takePairOf_8 : decode cX0_takePairOf 8 = .ok (.aload_n 0, 1) := by decide +kernel
theorem dX0_takePairOf_9 : decode cX0_takePairOf 9 = .ok (.aload_n 1, 1) := by decide +kernel
theorem dX0_takePairOf_10 : decode cX0_takePairOf 10 = .ok (.getfield 30, 3) := by decide +kernel
theorem dX0_takePairOf_13 : decode cX0_takePairOf 13 = .ok (.putfield 30, 3) := by decide +kernel
theorem dX0_takePairOf_16 : decode cX0_takePairOf 16 = .ok (.aload_n 0, 1) := by decide +kernel
theorem dX0_takePairOf_17 : decode cX0_takePairOf 17 = .ok (.aload_n 1, 1) := by decide +kernel
theorem dX0_takePairOf_18 : decode cX0_takePairOf 18 = .ok (.getfield 33, 3) := by decide +kernel
theorem dX0_takePairOf_21 : decode cX0_takePairOf 21 = .ok (.putfield 33, 3) := by decide +kernel
theorem dX0_takePairOf_24 : decode cX0_takePairOf 24 = .ok (.return_, 1) := by decide +kernel
theorem dX0_told_0 : decode cX0_told 0 = .ok (.iload_n 1, 1) := by decide +kernel
theorem dX0_told_1 : decode cX0_told 1 = .ok (.tableswitch 113 0 9 #[55, 60, 65, 70, 75, 80, 85, 90, 95, 104], 55) := by decide +kernel
theorem dX0_told_56 : decode cX0_told 56 = .ok (.aload_n 0, 1) := by decide +kernel
theorem dX0_told_57 : decode cX0_told 57 = .ok (.getfield 15, 3) := by decide +kernel
theorem dX0_told_60 : decode cX0_told 60 = .ok (.ireturn, 1) := by decide +kernel
theorem dX0_told_61 : decode cX0_told 61 = .ok (.aload_n 0, 1) := by decide +kernel
theorem dX0_told_62 : decode cX0_told 62 = .ok (.getfield 18, 3) := by decide +kernel
theorem dX0_told_65 : decode cX0_told 65 = .ok (.ireturn, 1) := by decide +kernel
theorem dX0_told_66 : decode cX0_told 66 = .ok (.aload_n 0, 1) := by decide +kernel
theorem dX0_told_67 : decode cX0_told 67 = .ok (.getfield 21, 3) := by decide +kernel
theorem dX0_told_70 : decode cX0_told 70 = .ok (.ireturn, 1) := by decide +kernel
theorem dX0_told_71 : decode cX0_told 71 = .ok (.aload_n 0, 1) := by decide +kernel
theorem dX0_told_72 : decode cX0_told 72 = .ok (.getfield 24, 3) := by decide +kernel
theorem dX0_told_75 : decode cX0_told 75 = .ok (.ireturn, 1) := by decide +kernel
theorem dX0_told_76 : decode cX0_told 76 = .ok (.aload_n 0, 1) := by decide +kernel
theorem dX0_told_77 : decode cX0_told 77 = .ok (.getfield 27, 3) := by decide +kernel
theorem dX0_told_80 : decode cX0_told 80 = .ok (.ireturn, 1) := by decide +kernel
theorem dX0_told_81 : decode cX0_told 81 = .ok (.aload_n 0, 1) := by decide +kernel
theorem dX0_told_82 : decode cX0_told 82 = .ok (.getfield 30, 3) := by decide +kernel
theorem dX0_told_85 : decode cX0_told 85 = .ok (.ireturn, 1) := by decide +kernel
theorem dX0_told_86 : decode cX0_told 86 = .ok (.aload_n 0, 1) := by decide +kernel
theorem dX0_told_87 : decode cX0_told 87 = .ok (.getfield 33, 3) := by decide +kernel
theorem dX0_told_90 : decode cX0_told 90 = .ok (.ireturn, 1) := by decide +kernel
theorem dX0_told_91 : decode cX0_told 91 = .ok (.aload_n 0, 1) := by decide +kernel
theorem dX0_told_92 : decode cX0_told 92 = .ok (.invokevirtual 40, 3) := by decide +kernel
theorem dX0_told_95 : decode cX0_told 95 = .ok (.ireturn, 1) := by decide +kernel
theorem dX0_told_96 : decode cX0_told 96 = .ok (.aload_n 0, 1) := by decide +kernel
theorem dX0_told_97 : decode cX0_told 97 = .ok (.aload_n 0, 1) := by decide +kernel
theorem dX0_told_98 : decode cX0_told 98 = .ok (.invokevirtual 44, 3) := by decide +kernel
theorem dX0_told_101 : decode cX0_told 101 = .ok (.invokevirtual 47, 3) := by decide +kernel
theorem dX0_told_104 : decode cX0_told 104 = .ok (.ireturn, 1) := by decide +kernel
theorem dX0_told_105 : decode cX0_told 105 = .ok (.aload_n 0, 1) := by decide +kernel
theorem dX0_told_106 : decode cX0_told 106 = .ok (.aload_n 0, 1) := by decide +kernel
theorem dX0_told_107 : decode cX0_told 107 = .ok (.invokevirtual 44, 3) := by decide +kernel
theorem dX0_told_110 : decode cX0_told 110 = .ok (.invokevirtual 51, 3) := by decide +kernel
theorem dX0_told_113 : decode cX0_told 113 = .ok (.ireturn, 1) := by decide +kernel
theorem dX0_told_114 : decode cX0_told 114 = .ok (.ldc 54, 2) := by decide +kernel
theorem dX0_told_116 : decode cX0_told 116 = .ok (.ireturn, 1) := by decide +kernel
theorem dX0_put_0 : decode cX0_put 0 = .ok (.iload_n 1, 1) := by decide +kernel
theorem dX0_put_1 : decode cX0_put 1 = .ok (.tableswitch 87 1 6 #[39, 47, 55, 63, 71, 79], 39) := by decide +kernel
theorem dX0_put_40 : decode cX0_put 40 = .ok (.aload_n 0, 1) := by decide +kernel
theorem dX0_put_41 : decode cX0_put 41 = .ok (.iload_n 2, 1) := by decide +kernel
theorem dX0_put_42 : decode cX0_put 42 = .ok (.putfield 18, 3) := by decide +kernel
theorem dX0_put_45 : decode cX0_put 45 = .ok (.goto 43, 3) := by decide +kernel
theorem dX0_put_48 : decode cX0_put 48 = .ok (.aload_n 0, 1) := by decide +kernel
theorem dX0_put_49 : decode cX0_put 49 = .ok (.iload_n 2, 1) := by decide +kernel
theorem dX0_put_50 : decode cX0_put 50 = .ok (.putfield 21, 3) := by decide +kernel
theorem dX0_put_53 : decode cX0_put 53 = .ok (.goto 35, 3) := by decide +kernel
theorem dX0_put_56 : decode cX0_put 56 = .ok (.aload_n 0, 1) := by decide +kernel
theorem dX0_put_57 : decode cX0_put 57 = .ok (.iload_n 2, 1) := by decide +kernel
theorem dX0_put_58 : decode cX0_put 58 = .ok (.putfield 24, 3) := by decide +kernel
theorem dX0_put_61 : decode cX0_put 61 = .ok (.goto 27, 3) := by decide +kernel
theorem dX0_put_64 : decode cX0_put 64 = .ok (.aload_n 0, 1) := by decide +kernel
theorem dX0_put_65 : decode cX0_put 65 = .ok (.iload_n 2, 1) := by decide +kernel
theorem dX0_put_66 : decode cX0_put 66 = .ok (.putfield 27, 3) := by decide +kernel
theorem dX0_put_69 : decode cX0_put 69 = .ok (.goto 19, 3) := by decide +kernel
theorem dX0_put_72 : decode cX0_put 72 = .ok (.aload_n 0, 1) := by decide +kernel
theorem dX0_put_73 : decode cX0_put 73 = .ok (.iload_n 2, 1) := by decide +kernel
theorem dX0_put_74 : decode cX0_put 74 = .ok (.putfield 30, 3) := by decide +kernel
theorem dX0_put_77 : decode cX0_put 77 = .ok (.goto 11, 3) := by decide +kernel
theorem dX0_put_80 : decode cX0_put 80 = .ok (.aload_n 0, 1) := by decide +kernel
theorem dX0_put_81 : decode cX0_put 81 = .ok (.iload_n 2, 1) := by decide +kernel
theorem dX0_put_82 : decode cX0_put 82 = .ok (.putfield 33, 3) := by decide +kernel
theorem dX0_put_85 : decode cX0_put 85 = .ok (.goto 3, 3) := by decide +kernel
theorem dX0_put_88 : decode cX0_put 88 = .ok (.return_, 1) := by decide +kernel
theorem dX0_haveGround_0 : decode cX0_haveGround 0 = .ok (.aload_n 0, 1) := by decide +kernel
theorem dX0_haveGround_1 : decode cX0_haveGround 1 = .ok (.aload_n 0, 1) := by decide +kernel
theorem dX0_haveGround_2 : decode cX0_haveGround 2 = .ok (.getfield 21, 3) := by decide +kernel
theorem dX0_haveGround_5 : decode cX0_haveGround 5 = .ok (.putfield 27, 3) := by decide +kernel
theorem dX0_haveGround_8 : decode cX0_haveGround 8 = .ok (.aload_n 0, 1) := by decide +kernel
theorem dX0_haveGround_9 : decode cX0_haveGround 9 = .ok (.aload_n 0, 1) := by decide +kernel
theorem dX0_haveGround_10 : decode cX0_haveGround 10 = .ok (.invokevirtual 40, 3) := by decide +kernel
theorem dX0_haveGround_13 : decode cX0_haveGround 13 = .ok (.putfield 30, 3) := by decide +kernel
theorem dX0_haveGround_16 : decode cX0_haveGround 16 = .ok (.aload_n 0, 1) := by decide +kernel
theorem dX0_haveGround_17 : decode cX0_haveGround 17 = .ok (.iconst 0, 1) := by decide +kernel
theorem dX0_haveGround_18 : decode cX0_haveGround 18 = .ok (.putfield 33, 3) := by decide +kernel
theorem dX0_haveGround_21 : decode cX0_haveGround 21 = .ok (.aload_n 0, 1) := by decide +kernel
theorem dX0_haveGround_22 : decode cX0_haveGround 22 = .ok (.iconst 0, 1) := by decide +kernel
theorem dX0_haveGround_23 : decode cX0_haveGround 23 = .ok (.putfield 24, 3) := by decide +kernel
theorem dX0_haveGround_26 : decode cX0_haveGround 26 = .ok (.return_, 1) := by decide +kernel
theorem dX0_grinding_0 : decode cX0_grinding 0 = .ok (.bipush 99, 2) := by decide +kernel
theorem dX0_grinding_2 : decode cX0_grinding 2 = .ok (.aload_n 0, 1) := by decide +kernel
theorem dX0_grinding_3 : decode cX0_grinding 3 = .ok (.getfield 18, 3) := by decide +kernel
theorem dX0_grinding_6 : decode cX0_grinding 6 = .ok (.bipush 10, 2) := by decide +kernel
theorem dX0_grinding_8 : decode cX0_grinding 8 = .ok (.iadd, 1) := by decide +kernel
theorem dX0_grinding_9 : decode cX0_grinding 9 = .ok (.invokestatic 55, 3) := by decide +kernel
theorem dX0_grinding_12 : decode cX0_grinding 12 = .ok (.istore_n 1, 1) := by decide +kernel
theorem dX0_grinding_13 : decode cX0_grinding 13 = .ok (.aload_n 0, 1) := by decide +kernel
theorem dX0_grinding_14 : decode cX0_grinding 14 = .ok (.getfield 18, 3) := by decide +kernel
theorem dX0_grinding_17 : decode cX0_grinding 17 = .ok (.iconst 2, 1) := by decide +kernel
theorem dX0_grinding_18 : decode cX0_grinding 18 = .ok (.idiv, 1) := by decide +kernel
theorem dX0_grinding_19 : decode cX0_grinding 19 = .ok (.istore_n 2, 1) := by decide +kernel
theorem dX0_grinding_20 : decode cX0_grinding 20 = .ok (.aload_n 0, 1) := by decide +kernel
theorem dX0_grinding_21 : decode cX0_grinding 21 = .ok (.getfield 15, 3) := by decide +kernel
theorem dX0_grinding_24 : decode cX0_grinding 24 = .ok (.tableswitch 57 1 5 #[36, 38, 40, 42, 52], 36) := by decide +kernel
theorem dX0_grinding_60 : decode cX0_grinding 60 = .ok (.iload_n 1, 1) := by decide +kernel
theorem dX0_grinding_61 : decode cX0_grinding 61 = .ok (.ireturn, 1) := by decide +kernel
theorem dX0_grinding_62 : decode cX0_grinding 62 = .ok (.iload_n 2, 1) := by decide +kernel
theorem dX0_grinding_63 : decode cX0_grinding 63 = .ok (.ireturn, 1) := by decide +kernel
theorem dX0_grinding_64 : decode cX0_grinding 64 = .ok (.iconst 0, 1) := by decide +kernel
theorem dX0_grinding_65 : decode cX0_grinding 65 = .ok (.ireturn, 1) := by decide +kernel
theorem dX0_grinding_66 : decode cX0_grinding 66 = .ok (.bipush 99, 2) := by decide +kernel
theorem dX0_grinding_68 : decode cX0_grinding 68 = .ok (.iload_n 1, 1) := by decide +kernel
theorem dX0_grinding_69 : decode cX0_grinding 69 = .ok (.bipush 10, 2) := by decide +kernel
theorem dX0_grinding_71 : decode cX0_grinding 71 = .ok (.iadd, 1) := by decide +kernel
theorem dX0_grinding_72 : decode cX0_grinding 72 = .ok (.invokestatic 55, 3) := by decide +kernel
theorem dX0_grinding_75 : decode cX0_grinding 75 = .ok (.ireturn, 1) := by decide +kernel
theorem dX0_grinding_76 : decode cX0_grinding 76 = .ok (.iload_n 2, 1) := by decide +kernel
theorem dX0_grinding_77 : decode cX0_grinding 77 = .ok (.bipush 20, 2) := by decide +kernel
theorem dX0_grinding_79 : decode cX0_grinding 79 = .ok (.iadd, 1) := by decide +kernel
theorem dX0_grinding_80 : decode cX0_grinding 80 = .ok (.ireturn, 1) := by decide +kernel
theorem dX0_grinding_81 : decode cX0_grinding 81 = .ok (.aload_n 0, 1) := by decide +kernel
theorem dX0_grinding_82 : decode cX0_grinding 82 = .ok (.getfield 18, 3) := by decide +kernel
theorem dX0_grinding_85 : decode cX0_grinding 85 = .ok (.ireturn, 1) := by decide +kernel
theorem dX0_sharpnessAt_0 : decode cX0_sharpnessAt 0 = .ok (.aload_n 0, 1) := by decide +kernel
theorem dX0_sharpnessAt_1 : decode cX0_sharpnessAt 1 = .ok (.getfield 24, 3) := by decide +kernel
theorem dX0_sharpnessAt_4 : decode cX0_sharpnessAt 4 = .ok (.iconst 1, 1) := by decide +kernel
theorem dX0_sharpnessAt_5 : decode cX0_sharpnessAt 5 = .ok (.if_icmp .ne 6, 3) := by decide +kernel
theorem dX0_sharpnessAt_8 : decode cX0_sharpnessAt 8 = .ok (.bipush 50, 2) := by decide +kernel
theorem dX0_sharpnessAt_10 : decode cX0_sharpnessAt 10 = .ok (.ireturn, 1) := by decide +kernel
theorem dX0_sharpnessAt_11 : decode cX0_sharpnessAt 11 = .ok (.iload_n 1, 1) := by decide +kernel
theorem dX0_sharpnessAt_12 : decode cX0_sharpnessAt 12 = .ok (.aload_n 0, 1) := by decide +kernel
theorem dX0_sharpnessAt_13 : decode cX0_sharpnessAt 13 = .ok (.getfield 27, 3) := by decide +kernel
theorem dX0_sharpnessAt_16 : decode cX0_sharpnessAt 16 = .ok (.if_icmp .ne 19, 3) := by decide +kernel
theorem dX0_sharpnessAt_19 : decode cX0_sharpnessAt 19 = .ok (.iconst 0, 1) := by decide +kernel
theorem dX0_sharpnessAt_20 : decode cX0_sharpnessAt 20 = .ok (.aload_n 0, 1) := by decide +kernel
theorem dX0_sharpnessAt_21 : decode cX0_sharpnessAt 21 = .ok (.getfield 30, 3) := by decide +kernel
theorem dX0_sharpnessAt_24 : decode cX0_sharpnessAt 24 = .ok (.aload_n 0, 1) := by decide +kernel
theorem dX0_sharpnessAt_25 : decode cX0_sharpnessAt 25 = .ok (.getfield 33, 3) := by decide +kernel
theorem dX0_sharpnessAt_28 : decode cX0_sharpnessAt 28 = .ok (.isub, 1) := by decide +kernel
theorem dX0_sharpnessAt_29 : decode cX0_sharpnessAt 29 = .ok (.invokestatic 61, 3) := by decide +kernel
theorem dX0_sharpnessAt_32 : decode cX0_sharpnessAt 32 = .ok (.goto 9, 3) := by decide +kernel
theorem dX0_sharpnessAt_35 : decode cX0_sharpnessAt 35 = .ok (.aload_n 0, 1) := by decide +kernel
theorem dX0_sharpnessAt_36 : decode cX0_sharpnessAt 36 = .ok (.getfield 33, 3) := by decide +kernel
theorem dX0_sharpnessAt_39 : decode cX0_sharpnessAt 39 = .ok (.iconst 2, 1) := by decide +kernel
theorem dX0_sharpnessAt_40 : decode cX0_sharpnessAt 40 = .ok (.idiv, 1) := by decide +kernel
theorem dX0_sharpnessAt_41 : decode cX0_sharpnessAt 41 = .ok (.istore_n 2, 1) := by decide +kernel
theorem dX0_sharpnessAt_42 : decode cX0_sharpnessAt 42 = .ok (.iload_n 2, 1) := by decide +kernel
theorem dX0_sharpnessAt_43 : decode cX0_sharpnessAt 43 = .ok (.iload_n 1, 1) := by decide +kernel
theorem dX0_sharpnessAt_44 : decode cX0_sharpnessAt 44 = .ok (.aload_n 0, 1) := by decide +kernel
theorem dX0_sharpnessAt_45 : decode cX0_sharpnessAt 45 = .ok (.getfield 9, 3) := by decide +kernel
theorem dX0_sharpnessAt_48 : decode cX0_sharpnessAt 48 = .ok (.iconst 1, 1) := by decide +kernel
theorem dX0_sharpnessAt_49 : decode cX0_sharpnessAt 49 = .ok (.iadd, 1) := by decide +kernel
theorem dX0_sharpnessAt_50 : decode cX0_sharpnessAt 50 = .ok (.if_icmp .ne 7, 3) := by decide +kernel
theorem dX0_sharpnessAt_53 : decode cX0_sharpnessAt 53 = .ok (.iconst 5, 1) := by decide +kernel
theorem dX0_sharpnessAt_54 : decode cX0_sharpnessAt 54 = .ok (.goto 4, 3) := by decide +kernel
theorem dX0_sharpnessAt_57 : decode cX0_sharpnessAt 57 = .ok (.iconst 0, 1) := by decide +kernel
theorem dX0_sharpnessAt_58 : decode cX0_sharpnessAt 58 = .ok (.iadd, 1) := by decide +kernel
theorem dX0_sharpnessAt_59 : decode cX0_sharpnessAt 59 = .ok (.istore_n 3, 1) := by decide +kernel
theorem dX0_sharpnessAt_60 : decode cX0_sharpnessAt 60 = .ok (.iload_n 2, 1) := by decide +kernel
theorem dX0_sharpnessAt_61 : decode cX0_sharpnessAt 61 = .ok (.iload_n 1, 1) := by decide +kernel
theorem dX0_sharpnessAt_62 : decode cX0_sharpnessAt 62 = .ok (.aload_n 0, 1) := by decide +kernel
theorem dX0_sharpnessAt_63 : decode cX0_sharpnessAt 63 = .ok (.getfield 9, 3) := by decide +kernel
theorem dX0_sharpnessAt_66 : decode cX0_sharpnessAt 66 = .ok (.if_icmp .ge 7, 3) := by decide +kernel
theorem dX0_sharpnessAt_69 : decode cX0_sharpnessAt 69 = .ok (.iconst 2, 1) := by decide +kernel
theorem dX0_sharpnessAt_70 : decode cX0_sharpnessAt 70 = .ok (.goto 4, 3) := by decide +kernel
theorem dX0_sharpnessAt_73 : decode cX0_sharpnessAt 73 = .ok (.iconst 1, 1) := by decide +kernel
theorem dX0_sharpnessAt_74 : decode cX0_sharpnessAt 74 = .ok (.imul, 1) := by decide +kernel
theorem dX0_sharpnessAt_75 : decode cX0_sharpnessAt 75 = .ok (.istore 4, 2) := by decide +kernel
theorem dX0_sharpnessAt_77 : decode cX0_sharpnessAt 77 = .ok (.aload_n 0, 1) := by decide +kernel
theorem dX0_sharpnessAt_78 : decode cX0_sharpnessAt 78 = .ok (.getfield 15, 3) := by decide +kernel
theorem dX0_sharpnessAt_81 : decode cX0_sharpnessAt 81 = .ok (.tableswitch 68 1 5 #[35, 37, 40, 43, 61], 35) := by decide +kernel
theorem dX0_sharpnessAt_116 : decode cX0_sharpnessAt 116 = .ok (.iload_n 3, 1) := by decide +kernel
theorem dX0_sharpnessAt_117 : decode cX0_sharpnessAt 117 = .ok (.ireturn, 1) := by decide +kernel
theorem dX0_sharpnessAt_118 : decode cX0_sharpnessAt 118 = .ok (.iload 4, 2) := by decide +kernel
theorem dX0_sharpnessAt_120 : decode cX0_sharpnessAt 120 = .ok (.ireturn, 1) := by decide +kernel
theorem dX0_sharpnessAt_121 : decode cX0_sharpnessAt 121 = .ok (.bipush 10, 2) := by decide +kernel
theorem dX0_sharpnessAt_123 : decode cX0_sharpnessAt 123 = .ok (.ireturn, 1) := by decide +kernel
theorem dX0_sharpnessAt_124 : decode cX0_sharpnessAt 124 = .ok (.iload_n 3, 1) := by decide +kernel
theorem dX0_sharpnessAt_125 : decode cX0_sharpnessAt 125 = .ok (.aload_n 0, 1) := by decide +kernel
theorem dX0_sharpnessAt_126 : decode cX0_sharpnessAt 126 = .ok (.getfield 9, 3) := by decide +kernel
theorem dX0_sharpnessAt_129 : decode cX0_sharpnessAt 129 = .ok (.iload_n 1, 1) := by decide +kernel
theorem dX0_sharpnessAt_130 : decode cX0_sharpnessAt 130 = .ok (.iconst 1, 1) := by decide +kernel
theorem dX0_sharpnessAt_131 : decode cX0_sharpnessAt 131 = .ok (.iadd, 1) := by decide +kernel
theorem dX0_sharpnessAt_132 : decode cX0_sharpnessAt 132 = .ok (.if_icmp .ne 7, 3) := by decide +kernel
theorem dX0_sharpnessAt_135 : decode cX0_sharpnessAt 135 = .ok (.iconst 5, 1) := by decide +kernel
theorem dX0_sharpnessAt_136 : decode cX0_sharpnessAt 136 = .ok (.goto 4, 3) := by decide +kernel
theorem dX0_sharpnessAt_139 : decode cX0_sharpnessAt 139 = .ok (.iconst 0, 1) := by decide +kernel
theorem dX0_sharpnessAt_140 : decode cX0_sharpnessAt 140 = .ok (.iadd, 1) := by decide +kernel
theorem dX0_sharpnessAt_141 : decode cX0_sharpnessAt 141 = .ok (.ireturn, 1) := by decide +kernel
theorem dX0_sharpnessAt_142 : decode cX0_sharpnessAt 142 = .ok (.iconst 5, 1) := by decide +kernel
theorem dX0_sharpnessAt_143 : decode cX0_sharpnessAt 143 = .ok (.iload 4, 2) := by decide +kernel
theorem dX0_sharpnessAt_145 : decode cX0_sharpnessAt 145 = .ok (.invokestatic 61, 3) := by decide +kernel
theorem dX0_sharpnessAt_148 : decode cX0_sharpnessAt 148 = .ok (.ireturn, 1) := by decide +kernel
theorem dX0_sharpnessAt_149 : decode cX0_sharpnessAt 149 = .ok (.iload_n 2, 1) := by decide +kernel
theorem dX0_sharpnessAt_150 : decode cX0_sharpnessAt 150 = .ok (.ireturn, 1) := by decide +kernel
theorem dX0_sharpnessAtItsOne_0 : decode cX0_sharpnessAtItsOne 0 = .ok (.aload_n 0, 1) := by decide +kernel
theorem dX0_sharpnessAtItsOne_1 : decode cX0_sharpnessAtItsOne 1 = .ok (.getfield 21, 3) := by decide +kernel
theorem dX0_sharpnessAtItsOne_4 : decode cX0_sharpnessAtItsOne 4 = .ok (.iconst (-1), 1) := by decide +kernel
theorem dX0_sharpnessAtItsOne_5 : decode cX0_sharpnessAtItsOne 5 = .ok (.if_icmp .ne 7, 3) := by decide +kernel
theorem dX0_sharpnessAtItsOne_8 : decode cX0_sharpnessAtItsOne 8 = .ok (.iconst 0, 1) := by decide +kernel
theorem dX0_sharpnessAtItsOne_9 : decode cX0_sharpnessAtItsOne 9 = .ok (.goto 11, 3) := by decide +kernel
theorem dX0_sharpnessAtItsOne_12 : decode cX0_sharpnessAtItsOne 12 = .ok (.aload_n 0, 1) := by decide +kernel
theorem dX0_sharpnessAtItsOne_13 : decode cX0_sharpnessAtItsOne 13 = .ok (.aload_n 0, 1) := by decide +kernel
theorem dX0_sharpnessAtItsOne_14 : decode cX0_sharpnessAtItsOne 14 = .ok (.getfield 21, 3) := by decide +kernel
theorem dX0_sharpnessAtItsOne_17 : decode cX0_sharpnessAtItsOne 17 = .ok (.invokevirtual 64, 3) := by decide +kernel
theorem dX0_sharpnessAtItsOne_20 : decode cX0_sharpnessAtItsOne 20 = .ok (.ireturn, 1) := by decide +kernel
theorem dX0_forgiving_0 : decode cX0_forgiving 0 = .ok (.iload_n 1, 1) := by decide +kernel
theorem dX0_forgiving_1 : decode cX0_forgiving 1 = .ok (.bipush 30, 2) := by decide +kernel
theorem dX0_forgiving_3 : decode cX0_forgiving 3 = .ok (.if_icmp .ge 7, 3) := by decide +kernel
theorem dX0_forgiving_6 : decode cX0_forgiving 6 = .ok (.iconst 1, 1) := by decide +kernel
theorem dX0_forgiving_7 : decode cX0_forgiving 7 = .ok (.goto 4, 3) := by decide +kernel
theorem dX0_forgiving_10 : decode cX0_forgiving 10 = .ok (.iconst 0, 1) := by decide +kernel
theorem dX0_forgiving_11 : decode cX0_forgiving 11 = .ok (.istore_n 2, 1) := by decide +kernel
theorem dX0_forgiving_12 : decode cX0_forgiving 12 = .ok (.aload_n 0, 1) := by decide +kernel
theorem dX0_forgiving_13 : decode cX0_forgiving 13 = .ok (.getfield 18, 3) := by decide +kernel
theorem dX0_forgiving_16 : decode cX0_forgiving 16 = .ok (.bipush 50, 2) := by decide +kernel
theorem dX0_forgiving_18 : decode cX0_forgiving 18 = .ok (.if_icmp .le 7, 3) := by decide +kernel
theorem dX0_forgiving_21 : decode cX0_forgiving 21 = .ok (.iconst 0, 1) := by decide +kernel
theorem dX0_forgiving_22 : decode cX0_forgiving 22 = .ok (.goto 4, 3) := by decide +kernel
theorem dX0_forgiving_25 : decode cX0_forgiving 25 = .ok (.iload_n 2, 1) := by decide +kernel
theorem dX0_forgiving_26 : decode cX0_forgiving 26 = .ok (.istore_n 3, 1) := by decide +kernel
theorem dX0_forgiving_27 : decode cX0_forgiving 27 = .ok (.iconst 2, 1) := by decide +kernel
theorem dX0_forgiving_28 : decode cX0_forgiving 28 = .ok (.iload_n 2, 1) := by decide +kernel
theorem dX0_forgiving_29 : decode cX0_forgiving 29 = .ok (.imul, 1) := by decide +kernel
theorem dX0_forgiving_30 : decode cX0_forgiving 30 = .ok (.istore 4, 2) := by decide +kernel
theorem dX0_forgiving_32 : decode cX0_forgiving 32 = .ok (.aload_n 0, 1) := by decide +kernel
theorem dX0_forgiving_33 : decode cX0_forgiving 33 = .ok (.getfield 15, 3) := by decide +kernel
theorem dX0_forgiving_36 : decode cX0_forgiving 36 = .ok (.tableswitch 53 1 5 #[36, 38, 41, 43, 45], 36) := by decide +kernel
theorem dX0_forgiving_72 : decode cX0_forgiving 72 = .ok (.iload_n 3, 1) := by decide +kernel
theorem dX0_forgiving_73 : decode cX0_forgiving 73 = .ok (.ireturn, 1) := by decide +kernel
theorem dX0_forgiving_74 : decode cX0_forgiving 74 = .ok (.iload 4, 2) := by decide +kernel
theorem dX0_forgiving_76 : decode cX0_forgiving 76 = .ok (.ireturn, 1) := by decide +kernel
theorem dX0_forgiving_77 : decode cX0_forgiving 77 = .ok (.iconst 3, 1) := by decide +kernel
theorem dX0_forgiving_78 : decode cX0_forgiving 78 = .ok (.ireturn, 1) := by decide +kernel
theorem dX0_forgiving_79 : decode cX0_forgiving 79 = .ok (.iload_n 3, 1) := by decide +kernel
theorem dX0_forgiving_80 : decode cX0_forgiving 80 = .ok (.ireturn, 1) := by decide +kernel
theorem dX0_forgiving_81 : decode cX0_forgiving 81 = .ok (.iload 4, 2) := by decide +kernel
theorem dX0_forgiving_83 : decode cX0_forgiving 83 = .ok (.aload_n 0, 1) := by decide +kernel
theorem dX0_forgiving_84 : decode cX0_forgiving 84 = .ok (.getfield 24, 3) := by decide +kernel
theorem dX0_forgiving_87 : decode cX0_forgiving 87 = .ok (.iadd, 1) := by decide +kernel
theorem dX0_forgiving_88 : decode cX0_forgiving 88 = .ok (.ireturn, 1) := by decide +kernel
theorem dX0_forgiving_89 : decode cX0_forgiving 89 = .ok (.iload_n 2, 1) := by decide +kernel
theorem dX0_forgiving_90 : decode cX0_forgiving 90 = .ok (.ireturn, 1) := by decide +kernel
theorem dX0_growing_0 : decode cX0_growing 0 = .ok (.iload_n 1, 1) := by decide +kernel
theorem dX0_growing_1 : decode cX0_growing 1 = .ok (.bipush 60, 2) := by decide +kernel
theorem dX0_growing_3 : decode cX0_growing 3 = .ok (.if_icmp .lt 7, 3) := by decide +kernel
theorem dX0_growing_6 : decode cX0_growing 6 = .ok (.iconst 1, 1) := by decide +kernel
theorem dX0_growing_7 : decode cX0_growing 7 = .ok (.goto 4, 3) := by decide +kernel
theorem dX0_growing_10 : decode cX0_growing 10 = .ok (.iconst 0, 1) := by decide +kernel
theorem dX0_growing_11 : decode cX0_growing 11 = .ok (.istore_n 2, 1) := by decide +kernel
theorem dX0_growing_12 : decode cX0_growing 12 = .ok (.iload_n 2, 1) := by decide +kernel
theorem dX0_growing_13 : decode cX0_growing 13 = .ok (.iload_n 1, 1) := by decide +kernel
theorem dX0_growing_14 : decode cX0_growing 14 = .ok (.bipush 80, 2) := by decide +kernel
theorem dX0_growing_16 : decode cX0_growing 16 = .ok (.if_icmp .lt 7, 3) := by decide +kernel
theorem dX0_growing_19 : decode cX0_growing 19 = .ok (.iconst 1, 1) := by decide +kernel
theorem dX0_growing_20 : decode cX0_growing 20 = .ok (.goto 4, 3) := by decide +kernel
theorem dX0_growing_23 : decode cX0_growing 23 = .ok (.iconst 0, 1) := by decide +kernel
theorem dX0_growing_24 : decode cX0_growing 24 = .ok (.iadd, 1) := by decide +kernel
theorem dX0_growing_25 : decode cX0_growing 25 = .ok (.istore_n 3, 1) := by decide +kernel
theorem dX0_growing_26 : decode cX0_growing 26 = .ok (.aload_n 0, 1) := by decide +kernel
theorem dX0_growing_27 : decode cX0_growing 27 = .ok (.getfield 15, 3) := by decide +kernel
theorem dX0_growing_30 : decode cX0_growing 30 = .ok (.tableswitch 38 1 4 #[30, 38, 32, 34], 30) := by decide +kernel
theorem dX0_growing_60 : decode cX0_growing 60 = .ok (.iload_n 3, 1) := by decide +kernel
theorem dX0_growing_61 : decode cX0_growing 61 = .ok (.ireturn, 1) := by decide +kernel
theorem dX0_growing_62 : decode cX0_growing 62 = .ok (.iconst 0, 1) := by decide +kernel
theorem dX0_growing_63 : decode cX0_growing 63 = .ok (.ireturn, 1) := by decide +kernel
theorem dX0_growing_64 : decode cX0_growing 64 = .ok (.iconst 2, 1) := by decide +kernel
theorem dX0_growing_65 : decode cX0_growing 65 = .ok (.iload_n 3, 1) := by decide +kernel
theorem dX0_growing_66 : decode cX0_growing 66 = .ok (.imul, 1) := by decide +kernel
theorem dX0_growing_67 : decode cX0_growing 67 = .ok (.ireturn, 1) := by decide +kernel
theorem dX0_growing_68 : decode cX0_growing 68 = .ok (.iload_n 2, 1) := by decide +kernel
theorem dX0_growing_69 : decode cX0_growing 69 = .ok (.ireturn, 1) := by decide +kernel
theorem dX0_letDayGo_0 : decode cX0_letDayGo 0 = .ok (.aload_n 0, 1) := by decide +kernel
theorem dX0_letDayGo_1 : decode cX0_letDayGo 1 = .ok (.invokevirtual 44, 3) := by decide +kernel
theorem dX0_letDayGo_4 : decode cX0_letDayGo 4 = .ok (.istore_n 1, 1) := by decide +kernel
theorem dX0_letDayGo_5 : decode cX0_letDayGo 5 = .ok (.aload_n 0, 1) := by decide +kernel
theorem dX0_letDayGo_6 : decode cX0_letDayGo 6 = .ok (.getfield 18, 3) := by decide +kernel
theorem dX0_letDayGo_9 : decode cX0_letDayGo 9 = .ok (.aload_n 0, 1) := by decide +kernel
theorem dX0_letDayGo_10 : decode cX0_letDayGo 10 = .ok (.iload_n 1, 1) := by decide +kernel
theorem dX0_letDayGo_11 : decode cX0_letDayGo 11 = .ok (.invokevirtual 51, 3) := by decide +kernel
theorem dX0_letDayGo_14 : decode cX0_letDayGo 14 = .ok (.iadd, 1) := by decide +kernel
theorem dX0_letDayGo_15 : decode cX0_letDayGo 15 = .ok (.aload_n 0, 1) := by decide +kernel
theorem dX0_letDayGo_16 : decode cX0_letDayGo 16 = .ok (.iload_n 1, 1) := by decide +kernel
theorem dX0_letDayGo_17 : decode cX0_letDayGo 17 = .ok (.invokevirtual 47, 3) := by decide +kernel
theorem dX0_letDayGo_20 : decode cX0_letDayGo 20 = .ok (.isub, 1) := by decide +kernel
theorem dX0_letDayGo_21 : decode cX0_letDayGo 21 = .ok (.istore_n 2, 1) := by decide +kernel
theorem dX0_letDayGo_22 : decode cX0_letDayGo 22 = .ok (.aload_n 0, 1) := by decide +kernel
theorem dX0_letDayGo_23 : decode cX0_letDayGo 23 = .ok (.iconst 0, 1) := by decide +kernel
theorem dX0_letDayGo_24 : decode cX0_letDayGo 24 = .ok (.bipush 99, 2) := by decide +kernel
theorem dX0_letDayGo_26 : decode cX0_letDayGo 26 = .ok (.iload_n 2, 1) := by decide +kernel
theorem dX0_letDayGo_27 : decode cX0_letDayGo 27 = .ok (.invokestatic 55, 3) := by decide +kernel
theorem dX0_letDayGo_30 : decode cX0_letDayGo 30 = .ok (.invokestatic 61, 3) := by decide +kernel
theorem dX0_letDayGo_33 : decode cX0_letDayGo 33 = .ok (.putfield 18, 3) := by decide +kernel
theorem dX0_letDayGo_36 : decode cX0_letDayGo 36 = .ok (.aload_n 0, 1) := by decide +kernel
theorem dX0_letDayGo_37 : decode cX0_letDayGo 37 = .ok (.getfield 24, 3) := by decide +kernel
theorem dX0_letDayGo_40 : decode cX0_letDayGo 40 = .ok (.ifCond .ne 33, 3) := by decide +kernel
theorem dX0_letDayGo_43 : decode cX0_letDayGo 43 = .ok (.aload_n 0, 1) := by decide +kernel
theorem dX0_letDayGo_44 : decode cX0_letDayGo 44 = .ok (.getfield 18, 3) := by decide +kernel
theorem dX0_letDayGo_47 : decode cX0_letDayGo 47 = .ok (.aload_n 0, 1) := by decide +kernel
theorem dX0_letDayGo_48 : decode cX0_letDayGo 48 = .ok (.getfield 30, 3) := by decide +kernel
theorem dX0_letDayGo_51 : decode cX0_letDayGo 51 = .ok (.if_icmp .ge 22, 3) := by decide +kernel
theorem dX0_letDayGo_54 : decode cX0_letDayGo 54 = .ok (.aload_n 0, 1) := by decide +kernel
theorem dX0_letDayGo_55 : decode cX0_letDayGo 55 = .ok (.getfield 33, 3) := by decide +kernel
theorem dX0_letDayGo_58 : decode cX0_letDayGo 58 = .ok (.bipush 99, 2) := by decide +kernel
theorem dX0_letDayGo_60 : decode cX0_letDayGo 60 = .ok (.if_icmp .ge 13, 3) := by decide +kernel
theorem dX0_letDayGo_63 : decode cX0_letDayGo 63 = .ok (.aload_n 0, 1) := by decide +kernel
theorem dX0_letDayGo_64 : decode cX0_letDayGo 64 = .ok (.dup, 1) := by decide +kernel
theorem dX0_letDayGo_65 : decode cX0_letDayGo 65 = .ok (.getfield 33, 3) := by decide +kernel
theorem dX0_letDayGo_68 : decode cX0_letDayGo 68 = .ok (.iconst 1, 1) := by decide +kernel
theorem dX0_letDayGo_69 : decode cX0_letDayGo 69 = .ok (.iadd, 1) := by decide +kernel
theorem dX0_letDayGo_70 : decode cX0_letDayGo 70 = .ok (.putfield 33, 3) := by decide +kernel
theorem dX0_letDayGo_73 : decode cX0_letDayGo 73 = .ok (.return_, 1) := by decide +kernel
theorem dX0_letDaysGo_0 : decode cX0_letDaysGo 0 = .ok (.iconst 0, 1) := by decide +kernel
theorem dX0_letDaysGo_1 : decode cX0_letDaysGo 1 = .ok (.istore_n 2, 1) := by decide +kernel
theorem dX0_letDaysGo_2 : decode cX0_letDaysGo 2 = .ok (.iload_n 2, 1) := by decide +kernel
theorem dX0_letDaysGo_3 : decode cX0_letDaysGo 3 = .ok (.iload_n 1, 1) := by decide +kernel
theorem dX0_letDaysGo_4 : decode cX0_letDaysGo 4 = .ok (.if_icmp .ge 13, 3) := by decide +kernel
theorem dX0_letDaysGo_7 : decode cX0_letDaysGo 7 = .ok (.aload_n 0, 1) := by decide +kernel
theorem dX0_letDaysGo_8 : decode cX0_letDaysGo 8 = .ok (.invokevirtual 67, 3) := by decide +kernel
theorem dX0_letDaysGo_11 : decode cX0_letDaysGo 11 = .ok (.iinc 2 1, 3) := by decide +kernel
theorem dX0_letDaysGo_14 : decode cX0_letDaysGo 14 = .ok (.goto (-12), 3) := by decide +kernel
theorem dX0_letDaysGo_17 : decode cX0_letDaysGo 17 = .ok (.return_, 1) := by decide +kernel
theorem dX1_init_0 : decode cX1_init 0 = .ok (.aload_n 0, 1) := by decide +kernel
theorem dX1_init_1 : decode cX1_init 1 = .ok (.invokespecial 3, 3) := by decide +kernel
theorem dX1_init_4 : decode cX1_init 4 = .ok (.aload_n 0, 1) := by decide +kernel
theorem dX1_init_5 : decode cX1_init 5 = .ok (.iconst 0, 1) := by decide +kernel
theorem dX1_init_6 : decode cX1_init 6 = .ok (.putfield 9, 3) := by decide +kernel
theorem dX1_init_9 : decode cX1_init 9 = .ok (.aload_n 0, 1) := by decide +kernel
theorem dX1_init_10 : decode cX1_init 10 = .ok (.iconst 0, 1) := by decide +kernel
theorem dX1_init_11 : decode cX1_init 11 = .ok (.putfield 15, 3) := by decide +kernel
theorem dX1_init_14 : decode cX1_init 14 = .ok (.aload_n 0, 1) := by decide +kernel
theorem dX1_init_15 : decode cX1_init 15 = .ok (.bipush 8, 2) := by decide +kernel
theorem dX1_init_17 : decode cX1_init 17 = .ok (.anewarray 18, 3) := by decide +kernel
theorem dX1_init_20 : decode cX1_init 20 = .ok (.putfield 20, 3) := by decide +kernel
theorem dX1_init_23 : decode cX1_init 23 = .ok (.aload_n 0, 1) := by decide +kernel
theorem dX1_init_24 : decode cX1_init 24 = .ok (.bipush 8, 2) := by decide +kernel
theorem dX1_init_26 : decode cX1_init 26 = .ok (.newarray .int, 2) := by decide +kernel
theorem dX1_init_28 : decode cX1_init 28 = .ok (.putfield 24, 3) := by decide +kernel
theorem dX1_init_31 : decode cX1_init 31 = .ok (.iconst 0, 1) := by decide +kernel
theorem dX1_init_32 : decode cX1_init 32 = .ok (.istore_n 1, 1) := by decide +kernel
theorem dX1_init_33 : decode cX1_init 33 = .ok (.iload_n 1, 1) := by decide +kernel
theorem dX1_init_34 : decode cX1_init 34 = .ok (.bipush 8, 2) := by decide +kernel
theorem dX1_init_36 : decode cX1_init 36 = .ok (.if_icmp .ge 22, 3) := by decide +kernel
theorem dX1_init_39 : decode cX1_init 39 = .ok (.aload_n 0, 1) := by decide +kernel
theorem dX1_init_40 : decode cX1_init 40 = .ok (.getfield 20, 3) := by decide +kernel
theorem dX1_init_43 : decode cX1_init 43 = .ok (.iload_n 1, 1) := by decide +kernel
theorem dX1_init_44 : decode cX1_init 44 = .ok (.new 18, 3) := by decide +kernel
theorem dX1_init_47 : decode cX1_init 47 = .ok (.dup, 1) := by decide +kernel
theorem dX1_init_48 : decode cX1_init 48 = .ok (.invokespecial 28, 3) := by decide +kernel
theorem dX1_init_51 : decode cX1_init 51 = .ok (.aastore, 1) := by decide +kernel
theorem dX1_init_52 : decode cX1_init 52 = .ok (.iinc 1 1, 3) := by decide +kernel
theorem dX1_init_55 : decode cX1_init 55 = .ok (.goto (-22), 3) := by decide +kernel
theorem dX1_init_58 : decode cX1_init 58 = .ok (.return_, 1) := by decide +kernel
theorem dX1_become_0 : decode cX1_become 0 = .ok (.aload_n 0, 1) := by decide +kernel
theorem dX1_become_1 : decode cX1_become 1 = .ok (.aload_n 1, 1) := by decide +kernel
theorem dX1_become_2 : decode cX1_become 2 = .ok (.getfield 9, 3) := by decide +kernel
theorem dX1_become_5 : decode cX1_become 5 = .ok (.putfield 9, 3) := by decide +kernel
theorem dX1_become_8 : decode cX1_become 8 = .ok (.aload_n 0, 1) := by decide +kernel
theorem dX1_become_9 : decode cX1_become 9 = .ok (.aload_n 1, 1) := by decide +kernel
theorem dX1_become_10 : decode cX1_become 10 = .ok (.getfield 15, 3) := by decide +kernel
theorem dX1_become_13 : decode cX1_become 13 = .ok (.putfield 15, 3) := by decide +kernel
theorem dX1_become_16 : decode cX1_become 16 = .ok (.iconst 0, 1) := by decide +kernel
theorem dX1_become_17 : decode cX1_become 17 = .ok (.istore_n 2, 1) := by decide +kernel
theorem dX1_become_18 : decode cX1_become 18 = .ok (.iload_n 2, 1) := by decide +kernel
theorem dX1_become_19 : decode cX1_become 19 = .ok (.aload_n 0, 1) := by decide +kernel
theorem dX1_become_20 : decode cX1_become 20 = .ok (.getfield 15, 3) := by decide +kernel
theorem dX1_become_23 : decode cX1_become 23 = .ok (.if_icmp .ge 24, 3) := by decide +kernel
theorem dX1_become_26 : decode cX1_become 26 = .ok (.aload_n 0, 1) := by decide +kernel
theorem dX1_become_27 : decode cX1_become 27 = .ok (.getfield 20, 3) := by decide +kernel
theorem dX1_become_30 : decode cX1_become 30 = .ok (.iload_n 2, 1) := by decide +kernel
theorem dX1_become_31 : decode cX1_become 31 = .ok (.aaload, 1) := by decide +kernel
theorem dX1_become_32 : decode cX1_become 32 = .ok (.aload_n 1, 1) := by decide +kernel
theorem dX1_become_33 : decode cX1_become 33 = .ok (.getfield 20, 3) := by decide +kernel
theorem dX1_become_36 : decode cX1_become 36 = .ok (.iload_n 2, 1) := by decide +kernel
theorem dX1_become_37 : decode cX1_become 37 = .ok (.aaload, 1) := by decide +kernel
theorem dX1_become_38 : decode cX1_become 38 = .ok (.invokevirtual 29, 3) := by decide +kernel
theorem dX1_become_41 : decode cX1_become 41 = .ok (.iinc 2 1, 3) := by decide +kernel
theorem dX1_become_44 : decode cX1_become 44 = .ok (.goto (-26), 3) := by decide +kernel
theorem dX1_become_47 : decode cX1_become 47 = .ok (.return_, 1) := by decide +kernel
theorem dX1_isFull_0 : decode cX1_isFull 0 = .ok (.aload_n 0, 1) := by decide +kernel
theorem dX1_isFull_1 : decode cX1_isFull 1 = .ok (.getfield 15, 3) := by decide +kernel
theorem dX1_isFull_4 : decode cX1_isFull 4 = .ok (.bipush 8, 2) := by decide +kernel
theorem dX1_isFull_6 : decode cX1_isFull 6 = .ok (.if_icmp .lt 7, 3) := by decide +kernel
theorem dX1_isFull_9 : decode cX1_isFull 9 = .ok (.iconst 1, 1) := by decide +kernel
theorem dX1_isFull_10 : decode cX1_isFull 10 = .ok (.goto 4, 3) := by decide +kernel
theorem dX1_isFull_13 : decode cX1_isFull 13 = .ok (.iconst 0, 1) := by decide +kernel
theorem dX1_isFull_14 : decode cX1_isFull 14 = .ok (.ireturn, 1) := by decide +kernel
theorem dX1_welcome_0 : decode cX1_welcome 0 = .ok (.aload_n 0, 1) := by decide +kernel
theorem dX1_welcome_1 : decode cX1_welcome 1 = .ok (.getfield 20, 3) := by decide +kernel
theorem dX1_welcome_4 : decode cX1_welcome 4 = .ok (.aload_n 0, 1) := by decide +kernel
theorem dX1_welcome_5 : decode cX1_welcome 5 = .ok (.getfield 15, 3) := by decide +kernel
theorem dX1_welcome_8 : decode cX1_welcome 8 = .ok (.aaload, 1) := by decide +kernel
theorem dX1_welcome_9 : decode cX1_welcome 9 = .ok (.astore_n 2, 1) := by decide +kernel
theorem dX1_welcome_10 : decode cX1_welcome 10 = .ok (.aload_n 2, 1) := by decide +kernel
theorem dX1_welcome_11 : decode cX1_welcome 11 = .ok (.aload_n 0, 1) := by decide +kernel
theorem dX1_welcome_12 : decode cX1_welcome 12 = .ok (.getfield 15, 3) := by decide +kernel
theorem dX1_welcome_15 : decode cX1_welcome 15 = .ok (.iload_n 1, 1) := by decide +kernel
theorem dX1_welcome_16 : decode cX1_welcome 16 = .ok (.invokevirtual 33, 3) := by decide +kernel
theorem dX1_welcome_19 : decode cX1_welcome 19 = .ok (.aload_n 0, 1) := by decide +kernel
theorem dX1_welcome_20 : decode cX1_welcome 20 = .ok (.dup, 1) := by decide +kernel
theorem dX1_welcome_21 : decode cX1_welcome 21 = .ok (.getfield 15, 3) := by decide +kernel
theorem dX1_welcome_24 : decode cX1_welcome 24 = .ok (.iconst 1, 1) := by decide +kernel
theorem dX1_welcome_25 : decode cX1_welcome 25 = .ok (.iadd, 1) := by decide +kernel
theorem dX1_welcome_26 : decode cX1_welcome 26 = .ok (.putfield 15, 3) := by decide +kernel
theorem dX1_welcome_29 : decode cX1_welcome 29 = .ok (.aload_n 2, 1) := by decide +kernel
theorem dX1_welcome_30 : decode cX1_welcome 30 = .ok (.areturn, 1) := by decide +kernel
theorem dX1_letDaysGo_0 : decode cX1_letDaysGo 0 = .ok (.iconst 0, 1) := by decide +kernel
theorem dX1_letDaysGo_1 : decode cX1_letDaysGo 1 = .ok (.istore_n 2, 1) := by decide +kernel
theorem dX1_letDaysGo_2 : decode cX1_letDaysGo 2 = .ok (.iload_n 2, 1) := by decide +kernel
theorem dX1_letDaysGo_3 : decode cX1_letDaysGo 3 = .ok (.iload_n 1, 1) := by decide +kernel
theorem dX1_letDaysGo_4 : decode cX1_letDaysGo 4 = .ok (.if_icmp .ge 44, 3) := by decide +kernel
theorem dX1_letDaysGo_7 : decode cX1_letDaysGo 7 = .ok (.iconst 0, 1) := by decide +kernel
theorem dX1_letDaysGo_8 : decode cX1_letDaysGo 8 = .ok (.istore_n 3, 1) := by decide +kernel
theorem dX1_letDaysGo_9 : decode cX1_letDaysGo 9 = .ok (.iload_n 3, 1) := by decide +kernel
theorem dX1_letDaysGo_10 : decode cX1_letDaysGo 10 = .ok (.aload_n 0, 1) := by decide +kernel
theorem dX1_letDaysGo_11 : decode cX1_letDaysGo 11 = .ok (.getfield 15, 3) := by decide +kernel
theorem dX1_letDaysGo_14 : decode cX1_letDaysGo 14 = .ok (.if_icmp .ge 18, 3) := by decide +kernel
theorem dX1_letDaysGo_17 : decode cX1_letDaysGo 17 = .ok (.aload_n 0, 1) := by decide +kernel
theorem dX1_letDaysGo_18 : decode cX1_letDaysGo 18 = .ok (.getfield 20, 3) := by decide +kernel
theorem dX1_letDaysGo_21 : decode cX1_letDaysGo 21 = .ok (.iload_n 3, 1) := by decide +kernel
theorem dX1_letDaysGo_22 : decode cX1_letDaysGo 22 = .ok (.aaload, 1) := by decide +kernel
theorem dX1_letDaysGo_23 : decode cX1_letDaysGo 23 = .ok (.invokevirtual 37, 3) := by decide +kernel
theorem dX1_letDaysGo_26 : decode cX1_letDaysGo 26 = .ok (.iinc 3 1, 3) := by decide +kernel
theorem dX1_letDaysGo_29 : decode cX1_letDaysGo 29 = .ok (.goto (-20), 3) := by decide +kernel
theorem dX1_letDaysGo_32 : decode cX1_letDaysGo 32 = .ok (.aload_n 0, 1) := by decide +kernel
theorem dX1_letDaysGo_33 : decode cX1_letDaysGo 33 = .ok (.dup, 1) := by decide +kernel
theorem dX1_letDaysGo_34 : decode cX1_letDaysGo 34 = .ok (.getfield 9, 3) := by decide +kernel
theorem dX1_letDaysGo_37 : decode cX1_letDaysGo 37 = .ok (.iconst 1, 1) := by decide +kernel
theorem dX1_letDaysGo_38 : decode cX1_letDaysGo 38 = .ok (.iadd, 1) := by decide +kernel
theorem dX1_letDaysGo_39 : decode cX1_letDaysGo 39 = .ok (.putfield 9, 3) := by decide +kernel
theorem dX1_letDaysGo_42 : decode cX1_letDaysGo 42 = .ok (.iinc 2 1, 3) := by decide +kernel
theorem dX1_letDaysGo_45 : decode cX1_letDaysGo 45 = .ok (.goto (-43), 3) := by decide +kernel
theorem dX1_letDaysGo_48 : decode cX1_letDaysGo 48 = .ok (.return_, 1) := by decide +kernel
theorem dX1_all_0 : decode cX1_all 0 = .ok (.iconst 1, 1) := by decide +kernel
theorem dX1_all_1 : decode cX1_all 1 = .ok (.aload_n 0, 1) := by decide +kernel
theorem dX1_all_2 : decode cX1_all 2 = .ok (.getfield 15, 3) := by decide +kernel
theorem dX1_all_5 : decode cX1_all 5 = .ok (.ishl, 1) := by decide +kernel
theorem dX1_all_6 : decode cX1_all 6 = .ok (.iconst 1, 1) := by decide +kernel
theorem dX1_all_7 : decode cX1_all 7 = .ok (.isub, 1) := by decide +kernel
theorem dX1_all_8 : decode cX1_all 8 = .ok (.ireturn, 1) := by decide +kernel
theorem dX1_grudges_0 : decode cX1_grudges 0 = .ok (.iconst 0, 1) := by decide +kernel
theorem dX1_grudges_1 : decode cX1_grudges 1 = .ok (.istore_n 1, 1) := by decide +kernel
theorem dX1_grudges_2 : decode cX1_grudges 2 = .ok (.iconst 0, 1) := by decide +kernel
theorem dX1_grudges_3 : decode cX1_grudges 3 = .ok (.istore_n 2, 1) := by decide +kernel
theorem dX1_grudges_4 : decode cX1_grudges 4 = .ok (.iload_n 2, 1) := by decide +kernel
theorem dX1_grudges_5 : decode cX1_grudges 5 = .ok (.aload_n 0, 1) := by decide +kernel
theorem dX1_grudges_6 : decode cX1_grudges 6 = .ok (.getfield 15, 3) := by decide +kernel
theorem dX1_grudges_9 : decode cX1_grudges 9 = .ok (.if_icmp .ge 21, 3) := by decide +kernel
theorem dX1_grudges_12 : decode cX1_grudges 12 = .ok (.iload_n 1, 1) := by decide +kernel
theorem dX1_grudges_13 : decode cX1_grudges 13 = .ok (.aload_n 0, 1) := by decide +kernel
theorem dX1_grudges_14 : decode cX1_grudges 14 = .ok (.getfield 20, 3) := by decide +kernel
theorem dX1_grudges_17 : decode cX1_grudges 17 = .ok (.iload_n 2, 1) := by decide +kernel
theorem dX1_grudges_18 : decode cX1_grudges 18 = .ok (.aaload, 1) := by decide +kernel
theorem dX1_grudges_19 : decode cX1_grudges 19 = .ok (.getfield 40, 3) := by decide +kernel
theorem dX1_grudges_22 : decode cX1_grudges 22 = .ok (.iadd, 1) := by decide +kernel
theorem dX1_grudges_23 : decode cX1_grudges 23 = .ok (.istore_n 1, 1) := by decide +kernel
theorem dX1_grudges_24 : decode cX1_grudges 24 = .ok (.iinc 2 1, 3) := by decide +kernel
theorem dX1_grudges_27 : decode cX1_grudges 27 = .ok (.goto (-23), 3) := by decide +kernel
theorem dX1_grudges_30 : decode cX1_grudges 30 = .ok (.iload_n 1, 1) := by decide +kernel
theorem dX1_grudges_31 : decode cX1_grudges 31 = .ok (.ireturn, 1) := by decide +kernel
theorem dX1_wornTogether_0 : decode cX1_wornTogether 0 = .ok (.iconst 0, 1) := by decide +kernel
theorem dX1_wornTogether_1 : decode cX1_wornTogether 1 = .ok (.istore_n 1, 1) := by decide +kernel
theorem dX1_wornTogether_2 : decode cX1_wornTogether 2 = .ok (.iconst 0, 1) := by decide +kernel
theorem dX1_wornTogether_3 : decode cX1_wornTogether 3 = .ok (.istore_n 2, 1) := by decide +kernel
theorem dX1_wornTogether_4 : decode cX1_wornTogether 4 = .ok (.iload_n 2, 1) := by decide +kernel
theorem dX1_wornTogether_5 : decode cX1_wornTogether 5 = .ok (.aload_n 0, 1) := by decide +kernel
theorem dX1_wornTogether_6 : decode cX1_wornTogether 6 = .ok (.getfield 15, 3) := by decide +kernel
theorem dX1_wornTogether_9 : decode cX1_wornTogether 9 = .ok (.if_icmp .ge 21, 3) := by decide +kernel
theorem dX1_wornTogether_12 : decode cX1_wornTogether 12 = .ok (.iload_n 1, 1) := by decide +kernel
theorem dX1_wornTogether_13 : decode cX1_wornTogether 13 = .ok (.aload_n 0, 1) := by decide +kernel
theorem dX1_wornTogether_14 : decode cX1_wornTogether 14 = .ok (.getfield 20, 3) := by decide +kernel
theorem dX1_wornTogether_17 : decode cX1_wornTogether 17 = .ok (.iload_n 2, 1) := by decide +kernel
theorem dX1_wornTogether_18 : decode cX1_wornTogether 18 = .ok (.aaload, 1) := by decide +kernel
theorem dX1_wornTogether_19 : decode cX1_wornTogether 19 = .ok (.getfield 43, 3) := by decide +kernel
theorem dX1_wornTogether_22 : decode cX1_wornTogether 22 = .ok (.iadd, 1) := by decide +kernel
theorem dX1_wornTogether_23 : decode cX1_wornTogether 23 = .ok (.istore_n 1, 1) := by decide +kernel
theorem dX1_wornTogether_24 : decode cX1_wornTogether 24 = .ok (.iinc 2 1, 3) := by decide +kernel
theorem dX1_wornTogether_27 : decode cX1_wornTogether 27 = .ok (.goto (-23), 3) := by decide +kernel
theorem dX1_wornTogether_30 : decode cX1_wornTogether 30 = .ok (.iload_n 1, 1) := by decide +kernel
theorem dX1_wornTogether_31 : decode cX1_wornTogether 31 = .ok (.ireturn, 1) := by decide +kernel
theorem dX1_pairsThatShowNobody_0 : decode cX1_pairsThatShowNobody 0 = .ok (.iconst 0, 1) := by decide +kernel
theorem dX1_pairsThatShowNobody_1 : decode cX1_pairsThatShowNobody 1 = .ok (.istore_n 1, 1) := by decide +kernel
theorem dX1_pairsThatShowNobody_2 : decode cX1_pairsThatShowNobody 2 = .ok (.iconst 0, 1) := by decide +kernel
theorem dX1_pairsThatShowNobody_3 : decode cX1_pairsThatShowNobody 3 = .ok (.istore_n 2, 1) := by decide +kernel
theorem dX1_pairsThatShowNobody_4 : decode cX1_pairsThatShowNobody 4 = .ok (.iload_n 2, 1) := by decide +kernel
theorem dX1_pairsThatShowNobody_5 : decode cX1_pairsThatShowNobody 5 = .ok (.aload_n 0, 1) := by decide +kernel
theorem dX1_pairsThatShowNobody_6 : decode cX1_pairsThatShowNobody 6 = .ok (.getfield 15, 3) := by decide +kernel
theorem dX1_pairsThatShowNobody_9 : decode cX1_pairsThatShowNobody 9 = .ok (.if_icmp .ge 30, 3) := by decide +kernel
theorem dX1_pairsThatShowNobody_12 : decode cX1_pairsThatShowNobody 12 = .ok (.iload_n 1, 1) := by decide +kernel
theorem dX1_pairsThatShowNobody_13 : decode cX1_pairsThatShowNobody 13 = .ok (.aload_n 0, 1) := by decide +kernel
theorem dX1_pairsThatShowNobody_14 : decode cX1_pairsThatShowNobody 14 = .ok (.getfield 20, 3) := by decide +kernel
theorem dX1_pairsThatShowNobody_17 : decode cX1_pairsThatShowNobody 17 = .ok (.iload_n 2, 1) := by decide +kernel
theorem dX1_pairsThatShowNobody_18 : decode cX1_pairsThatShowNobody 18 = .ok (.aaload, 1) := by decide +kernel
theorem dX1_pairsThatShowNobody_19 : decode cX1_pairsThatShowNobody 19 = .ok (.getfield 46, 3) := by decide +kernel
theorem dX1_pairsThatShowNobody_22 : decode cX1_pairsThatShowNobody 22 = .ok (.iconst (-1), 1) := by decide +kernel
theorem dX1_pairsThatShowNobody_23 : decode cX1_pairsThatShowNobody 23 = .ok (.if_icmp .ne 7, 3) := by decide +kernel
theorem dX1_pairsThatShowNobody_26 : decode cX1_pairsThatShowNobody 26 = .ok (.iconst 1, 1) := by decide +kernel
theorem dX1_pairsThatShowNobody_27 : decode cX1_pairsThatShowNobody 27 = .ok (.goto 4, 3) := by decide +kernel
theorem dX1_pairsThatShowNobody_30 : decode cX1_pairsThatShowNobody 30 = .ok (.iconst 0, 1) := by decide +kernel
theorem dX1_pairsThatShowNobody_31 : decode cX1_pairsThatShowNobody 31 = .ok (.iadd, 1) := by decide +kernel
theorem dX1_pairsThatShowNobody_32 : decode cX1_pairsThatShowNobody 32 = .ok (.istore_n 1, 1) := by decide +kernel
theorem dX1_pairsThatShowNobody_33 : decode cX1_pairsThatShowNobody 33 = .ok (.iinc 2 1, 3) := by decide +kernel
theorem dX1_pairsThatShowNobody_36 : decode cX1_pairsThatShowNobody 36 = .ok (.goto (-32), 3) := by decide +kernel
theorem dX1_pairsThatShowNobody_39 : decode cX1_pairsThatShowNobody 39 = .ok (.iload_n 1, 1) := by decide +kernel
theorem dX1_pairsThatShowNobody_40 : decode cX1_pairsThatShowNobody 40 = .ok (.ireturn, 1) := by decide +kernel
theorem dX1_thoseWithoutGrudge_0 : decode cX1_thoseWithoutGrudge 0 = .ok (.iconst 0, 1) := by decide +kernel
theorem dX1_thoseWithoutGrudge_1 : decode cX1_thoseWithoutGrudge 1 = .ok (.istore_n 1, 1) := by decide +kernel
theorem dX1_thoseWithoutGrudge_2 : decode cX1_thoseWithoutGrudge 2 = .ok (.iconst 0, 1) := by decide +kernel
theorem dX1_thoseWithoutGrudge_3 : decode cX1_thoseWithoutGrudge 3 = .ok (.istore_n 2, 1) := by decide +kernel
theorem dX1_thoseWithoutGrudge_4 : decode cX1_thoseWithoutGrudge 4 = .ok (.iload_n 2, 1) := by decide +kernel
theorem dX1_thoseWithoutGrudge_5 : decode cX1_thoseWithoutGrudge 5 = .ok (.aload_n 0, 1) := by decide +kernel
theorem dX1_thoseWithoutGrudge_6 : decode cX1_thoseWithoutGrudge 6 = .ok (.getfield 15, 3) := by decide +kernel
theorem dX1_thoseWithoutGrudge_9 : decode cX1_thoseWithoutGrudge 9 = .ok (.if_icmp .ge 31, 3) := by decide +kernel
theorem dX1_thoseWithoutGrudge_12 : decode cX1_thoseWithoutGrudge 12 = .ok (.iload_n 1, 1) := by decide +kernel
theorem dX1_thoseWithoutGrudge_13 : decode cX1_thoseWithoutGrudge 13 = .ok (.aload_n 0, 1) := by decide +kernel
theorem dX1_thoseWithoutGrudge_14 : decode cX1_thoseWithoutGrudge 14 = .ok (.getfield 20, 3) := by decide +kernel
theorem dX1_thoseWithoutGrudge_17 : decode cX1_thoseWithoutGrudge 17 = .ok (.iload_n 2, 1) := by decide +kernel
theorem dX1_thoseWithoutGrudge_18 : decode cX1_thoseWithoutGrudge 18 = .ok (.aaload, 1) := by decide +kernel
theorem dX1_thoseWithoutGrudge_19 : decode cX1_thoseWithoutGrudge 19 = .ok (.getfield 40, 3) := by decide +kernel
theorem dX1_thoseWithoutGrudge_22 : decode cX1_thoseWithoutGrudge 22 = .ok (.ifCond .ne 9, 3) := by decide +kernel
theorem dX1_thoseWithoutGrudge_25 : decode cX1_thoseWithoutGrudge 25 = .ok (.iconst 1, 1) := by decide +kernel
theorem dX1_thoseWithoutGrudge_26 : decode cX1_thoseWithoutGrudge 26 = .ok (.iload_n 2, 1) := by decide +kernel
theorem dX1_thoseWithoutGrudge_27 : decode cX1_thoseWithoutGrudge 27 = .ok (.ishl, 1) := by decide +kernel
theorem dX1_thoseWithoutGrudge_28 : decode cX1_thoseWithoutGrudge 28 = .ok (.goto 4, 3) := by decide +kernel
theorem dX1_thoseWithoutGrudge_31 : decode cX1_thoseWithoutGrudge 31 = .ok (.iconst 0, 1) := by decide +kernel
theorem dX1_thoseWithoutGrudge_32 : decode cX1_thoseWithoutGrudge 32 = .ok (.ior, 1) := by decide +kernel
theorem dX1_thoseWithoutGrudge_33 : decode cX1_thoseWithoutGrudge 33 = .ok (.istore_n 1, 1) := by decide +kernel
theorem dX1_thoseWithoutGrudge_34 : decode cX1_thoseWithoutGrudge 34 = .ok (.iinc 2 1, 3) := by decide +kernel
theorem dX1_thoseWithoutGrudge_37 : decode cX1_thoseWithoutGrudge 37 = .ok (.goto (-33), 3) := by decide +kernel
theorem dX1_thoseWithoutGrudge_40 : decode cX1_thoseWithoutGrudge 40 = .ok (.iload_n 1, 1) := by decide +kernel
theorem dX1_thoseWithoutGrudge_41 : decode cX1_thoseWithoutGrudge 41 = .ok (.ireturn, 1) := by decide +kernel
theorem dX1_thoseUp_0 : decode cX1_thoseUp 0 = .ok (.iconst 0, 1) := by decide +kernel
theorem dX1_thoseUp_1 : decode cX1_thoseUp 1 = .ok (.istore_n 1, 1) := by decide +kernel
theorem dX1_thoseUp_2 : decode cX1_thoseUp 2 = .ok (.iconst 0, 1) := by decide +kernel
theorem dX1_thoseUp_3 : decode cX1_thoseUp 3 = .ok (.istore_n 2, 1) := by decide +kernel
theorem dX1_thoseUp_4 : decode cX1_thoseUp 4 = .ok (.iload_n 2, 1) := by decide +kernel
theorem dX1_thoseUp_5 : decode cX1_thoseUp 5 = .ok (.aload_n 0, 1) := by decide +kernel
theorem dX1_thoseUp_6 : decode cX1_thoseUp 6 = .ok (.getfield 15, 3) := by decide +kernel
theorem dX1_thoseUp_9 : decode cX1_thoseUp 9 = .ok (.if_icmp .ge 23, 3) := by decide +kernel
theorem dX1_thoseUp_12 : decode cX1_thoseUp 12 = .ok (.iload_n 1, 1) := by decide +kernel
theorem dX1_thoseUp_13 : decode cX1_thoseUp 13 = .ok (.aload_n 0, 1) := by decide +kernel
theorem dX1_thoseUp_14 : decode cX1_thoseUp 14 = .ok (.getfield 20, 3) := by decide +kernel
theorem dX1_thoseUp_17 : decode cX1_thoseUp 17 = .ok (.iload_n 2, 1) := by decide +kernel
theorem dX1_thoseUp_18 : decode cX1_thoseUp 18 = .ok (.aaload, 1) := by decide +kernel
theorem dX1_thoseUp_19 : decode cX1_thoseUp 19 = .ok (.getfield 49, 3) := by decide +kernel
theorem dX1_thoseUp_22 : decode cX1_thoseUp 22 = .ok (.iload_n 2, 1) := by decide +kernel
theorem dX1_thoseUp_23 : decode cX1_thoseUp 23 = .ok (.ishl, 1) := by decide +kernel
theorem dX1_thoseUp_24 : decode cX1_thoseUp 24 = .ok (.ior, 1) := by decide +kernel
theorem dX1_thoseUp_25 : decode cX1_thoseUp 25 = .ok (.istore_n 1, 1) := by decide +kernel
theorem dX1_thoseUp_26 : decode cX1_thoseUp 26 = .ok (.iinc 2 1, 3) := by decide +kernel
theorem dX1_thoseUp_29 : decode cX1_thoseUp 29 = .ok (.goto (-25), 3) := by decide +kernel
theorem dX1_thoseUp_32 : decode cX1_thoseUp 32 = .ok (.iload_n 1, 1) := by decide +kernel
theorem dX1_thoseUp_33 : decode cX1_thoseUp 33 = .ok (.ireturn, 1) := by decide +kernel
theorem dX1_othersAsSharpAs_0 : decode cX1_othersAsSharpAs 0 = .ok (.iconst 0, 1) := by decide +kernel
theorem dX1_othersAsSharpAs_1 : decode cX1_othersAsSharpAs 1 = .ok (.istore_n 3, 1) := by decide +kernel
theorem dX1_othersAsSharpAs_2 : decode cX1_othersAsSharpAs 2 = .ok (.iconst 0, 1) := by decide +kernel
theorem dX1_othersAsSharpAs_3 : decode cX1_othersAsSharpAs 3 = .ok (.istore 4, 2) := by decide +kernel
theorem dX1_othersAsSharpAs_5 : decode cX1_othersAsSharpAs 5 = .ok (.iload 4, 2) := by decide +kernel
theorem dX1_othersAsSharpAs_7 : decode cX1_othersAsSharpAs 7 = .ok (.aload_n 0, 1) := by decide +kernel
theorem dX1_othersAsSharpAs_8 : decode cX1_othersAsSharpAs 8 = .ok (.getfield 15, 3) := by decide +kernel
theorem dX1_othersAsSharpAs_11 : decode cX1_othersAsSharpAs 11 = .ok (.if_icmp .ge 37, 3) := by decide +kernel
theorem dX1_othersAsSharpAs_14 : decode cX1_othersAsSharpAs 14 = .ok (.iload 4, 2) := by decide +kernel
theorem dX1_othersAsSharpAs_16 : decode cX1_othersAsSharpAs 16 = .ok (.iload_n 1, 1) := by decide +kernel
theorem dX1_othersAsSharpAs_17 : decode cX1_othersAsSharpAs 17 = .ok (.if_icmp .eq 25, 3) := by decide +kernel
theorem dX1_othersAsSharpAs_20 : decode cX1_othersAsSharpAs 20 = .ok (.aload_n 0, 1) := by decide +kernel
theorem dX1_othersAsSharpAs_21 : decode cX1_othersAsSharpAs 21 = .ok (.getfield 20, 3) := by decide +kernel
theorem dX1_othersAsSharpAs_24 : decode cX1_othersAsSharpAs 24 = .ok (.iload_n 1, 1) := by decide +kernel
theorem dX1_othersAsSharpAs_25 : decode cX1_othersAsSharpAs 25 = .ok (.aaload, 1) := by decide +kernel
theorem dX1_othersAsSharpAs_26 : decode cX1_othersAsSharpAs 26 = .ok (.iload 4, 2) := by decide +kernel
theorem dX1_othersAsSharpAs_28 : decode cX1_othersAsSharpAs 28 = .ok (.invokevirtual 52, 3) := by decide +kernel
theorem dX1_othersAsSharpAs_31 : decode cX1_othersAsSharpAs 31 = .ok (.iload_n 2, 1) := by decide +kernel
theorem dX1_othersAsSharpAs_32 : decode cX1_othersAsSharpAs 32 = .ok (.if_icmp .lt 10, 3) := by decide +kernel
theorem dX1_othersAsSharpAs_35 : decode cX1_othersAsSharpAs 35 = .ok (.iload_n 3, 1) := by decide +kernel
theorem dX1_othersAsSharpAs_36 : decode cX1_othersAsSharpAs 36 = .ok (.iconst 1, 1) := by decide +kernel
theorem dX1_othersAsSharpAs_37 : decode cX1_othersAsSharpAs 37 = .ok (.iload 4, 2) := by decide +kernel
theorem dX1_othersAsSharpAs_39 : decode cX1_othersAsSharpAs 39 = .ok (.ishl, 1) := by decide +kernel
theorem dX1_othersAsSharpAs_40 : decode cX1_othersAsSharpAs 40 = .ok (.ior, 1) := by decide +kernel
theorem dX1_othersAsSharpAs_41 : decode cX1_othersAsSharpAs 41 = .ok (.istore_n 3, 1) := by decide +kernel
theorem dX1_othersAsSharpAs_42 : decode cX1_othersAsSharpAs 42 = .ok (.iinc 4 1, 3) := by decide +kernel
theorem dX1_othersAsSharpAs_45 : decode cX1_othersAsSharpAs 45 = .ok (.goto (-40), 3) := by decide +kernel
theorem dX1_othersAsSharpAs_48 : decode cX1_othersAsSharpAs 48 = .ok (.iload_n 3, 1) := by decide +kernel
theorem dX1_othersAsSharpAs_49 : decode cX1_othersAsSharpAs 49 = .ok (.ireturn, 1) := by decide +kernel
theorem dX1_thoseSeen_0 : decode cX1_thoseSeen 0 = .ok (.iconst 0, 1) := by decide +kernel
theorem dX1_thoseSeen_1 : decode cX1_thoseSeen 1 = .ok (.istore_n 1, 1) := by decide +kernel
theorem dX1_thoseSeen_2 : decode cX1_thoseSeen 2 = .ok (.iconst 0, 1) := by decide +kernel
theorem dX1_thoseSeen_3 : decode cX1_thoseSeen 3 = .ok (.istore_n 2, 1) := by decide +kernel
theorem dX1_thoseSeen_4 : decode cX1_thoseSeen 4 = .ok (.iload_n 2, 1) := by decide +kernel
theorem dX1_thoseSeen_5 : decode cX1_thoseSeen 5 = .ok (.aload_n 0, 1) := by decide +kernel
theorem dX1_thoseSeen_6 : decode cX1_thoseSeen 6 = .ok (.getfield 15, 3) := by decide +kernel
theorem dX1_thoseSeen_9 : decode cX1_thoseSeen 9 = .ok (.if_icmp .ge 19, 3) := by decide +kernel
theorem dX1_thoseSeen_12 : decode cX1_thoseSeen 12 = .ok (.iload_n 1, 1) := by decide +kernel
theorem dX1_thoseSeen_13 : decode cX1_thoseSeen 13 = .ok (.aload_n 0, 1) := by decide +kernel
theorem dX1_thoseSeen_14 : decode cX1_thoseSeen 14 = .ok (.iload_n 2, 1) := by decide +kernel
theorem dX1_thoseSeen_15 : decode cX1_thoseSeen 15 = .ok (.bipush 30, 2) := by decide +kernel
theorem dX1_thoseSeen_17 : decode cX1_thoseSeen 17 = .ok (.invokevirtual 56, 3) := by decide +kernel
theorem dX1_thoseSeen_20 : decode cX1_thoseSeen 20 = .ok (.ior, 1) := by decide +kernel
theorem dX1_thoseSeen_21 : decode cX1_thoseSeen 21 = .ok (.istore_n 1, 1) := by decide +kernel
theorem dX1_thoseSeen_22 : decode cX1_thoseSeen 22 = .ok (.iinc 2 1, 3) := by decide +kernel
theorem dX1_thoseSeen_25 : decode cX1_thoseSeen 25 = .ok (.goto (-21), 3) := by decide +kernel
theorem dX1_thoseSeen_28 : decode cX1_thoseSeen 28 = .ok (.iload_n 1, 1) := by decide +kernel
theorem dX1_thoseSeen_29 : decode cX1_thoseSeen 29 = .ok (.ireturn, 1) := by decide +kernel
theorem dX1_noteWhoSeesWhom_0 : decode cX1_noteWhoSeesWhom 0 = .ok (.iconst 0, 1) := by decide +kernel
theorem dX1_noteWhoSeesWhom_1 : decode cX1_noteWhoSeesWhom 1 = .ok (.istore_n 1, 1) := by decide +kernel
theorem dX1_noteWhoSeesWhom_2 : decode cX1_noteWhoSeesWhom 2 = .ok (.iload_n 1, 1) := by decide +kernel
theorem dX1_noteWhoSeesWhom_3 : decode cX1_noteWhoSeesWhom 3 = .ok (.aload_n 0, 1) := by decide +kernel
theorem dX1_noteWhoSeesWhom_4 : decode cX1_noteWhoSeesWhom 4 = .ok (.getfield 15, 3) := by decide +kernel
theorem dX1_noteWhoSeesWhom_7 : decode cX1_noteWhoSeesWhom 7 = .ok (.if_icmp .ge 22, 3) := by decide +kernel
theorem dX1_noteWhoSeesWhom_10 : decode cX1_noteWhoSeesWhom 10 = .ok (.aload_n 0, 1) := by decide +kernel
theorem dX1_noteWhoSeesWhom_11 : decode cX1_noteWhoSeesWhom 11 = .ok (.getfield 24, 3) := by decide +kernel
theorem dX1_noteWhoSeesWhom_14 : decode cX1_noteWhoSeesWhom 14 = .ok (.iload_n 1, 1) := by decide +kernel
theorem dX1_noteWhoSeesWhom_15 : decode cX1_noteWhoSeesWhom 15 = .ok (.aload_n 0, 1) := by decide +kernel
theorem dX1_noteWhoSeesWhom_16 : decode cX1_noteWhoSeesWhom 16 = .ok (.iload_n 1, 1) := by decide +kernel
theorem dX1_noteWhoSeesWhom_17 : decode cX1_noteWhoSeesWhom 17 = .ok (.bipush 30, 2) := by decide +kernel
theorem dX1_noteWhoSeesWhom_19 : decode cX1_noteWhoSeesWhom 19 = .ok (.invokevirtual 56, 3) := by decide +kernel
theorem dX1_noteWhoSeesWhom_22 : decode cX1_noteWhoSeesWhom 22 = .ok (.iastore, 1) := by decide +kernel
theorem dX1_noteWhoSeesWhom_23 : decode cX1_noteWhoSeesWhom 23 = .ok (.iinc 1 1, 3) := by decide +kernel
theorem dX1_noteWhoSeesWhom_26 : decode cX1_noteWhoSeesWhom 26 = .ok (.goto (-24), 3) := by decide +kernel
theorem dX1_noteWhoSeesWhom_29 : decode cX1_noteWhoSeesWhom 29 = .ok (.return_, 1) := by decide +kernel
theorem dX1_seenWithUp_0 : decode cX1_seenWithUp 0 = .ok (.iconst 0, 1) := by decide +kernel
theorem dX1_seenWithUp_1 : decode cX1_seenWithUp 1 = .ok (.istore_n 2, 1) := by decide +kernel
theorem dX1_seenWithUp_2 : decode cX1_seenWithUp 2 = .ok (.iconst 0, 1) := by decide +kernel
theorem dX1_seenWithUp_3 : decode cX1_seenWithUp 3 = .ok (.istore_n 3, 1) := by decide +kernel
theorem dX1_seenWithUp_4 : decode cX1_seenWithUp 4 = .ok (.iload_n 3, 1) := by decide +kernel
theorem dX1_seenWithUp_5 : decode cX1_seenWithUp 5 = .ok (.aload_n 0, 1) := by decide +kernel
theorem dX1_seenWithUp_6 : decode cX1_seenWithUp 6 = .ok (.getfield 15, 3) := by decide +kernel
theorem dX1_seenWithUp_9 : decode cX1_seenWithUp 9 = .ok (.if_icmp .ge 51, 3) := by decide +kernel
theorem dX1_seenWithUp_12 : decode cX1_seenWithUp 12 = .ok (.iload_n 1, 1) := by decide +kernel
theorem dX1_seenWithUp_13 : decode cX1_seenWithUp 13 = .ok (.iconst 1, 1) := by decide +kernel
theorem dX1_seenWithUp_14 : decode cX1_seenWithUp 14 = .ok (.iload_n 3, 1) := by decide +kernel
theorem dX1_seenWithUp_15 : decode cX1_seenWithUp 15 = .ok (.ishl, 1) := by decide +kernel
theorem dX1_seenWithUp_16 : decode cX1_seenWithUp 16 = .ok (.iand, 1) := by decide +kernel
theorem dX1_seenWithUp_17 : decode cX1_seenWithUp 17 = .ok (.ifCond .eq 7, 3) := by decide +kernel
theorem dX1_seenWithUp_20 : decode cX1_seenWithUp 20 = .ok (.iconst 1, 1) := by decide +kernel
theorem dX1_seenWithUp_21 : decode cX1_seenWithUp 21 = .ok (.goto 4, 3) := by decide +kernel
theorem dX1_seenWithUp_24 : decode cX1_seenWithUp 24 = .ok (.iconst 0, 1) := by decide +kernel
theorem dX1_seenWithUp_25 : decode cX1_seenWithUp 25 = .ok (.istore 4, 2) := by decide +kernel
theorem dX1_seenWithUp_27 : decode cX1_seenWithUp 27 = .ok (.iload_n 2, 1) := by decide +kernel
theorem dX1_seenWithUp_28 : decode cX1_seenWithUp 28 = .ok (.iload 4, 2) := by decide +kernel
theorem dX1_seenWithUp_30 : decode cX1_seenWithUp 30 = .ok (.ifCond .eq 16, 3) := by decide +kernel
theorem dX1_seenWithUp_33 : decode cX1_seenWithUp 33 = .ok (.aload_n 0, 1) := by decide +kernel
theorem dX1_seenWithUp_34 : decode cX1_seenWithUp 34 = .ok (.invokevirtual 60, 3) := by decide +kernel
theorem dX1_seenWithUp_37 : decode cX1_seenWithUp 37 = .ok (.iconst 1, 1) := by decide +kernel
theorem dX1_seenWithUp_38 : decode cX1_seenWithUp 38 = .ok (.iload_n 3, 1) := by decide +kernel
theorem dX1_seenWithUp_39 : decode cX1_seenWithUp 39 = .ok (.ishl, 1) := by decide +kernel
theorem dX1_seenWithUp_40 : decode cX1_seenWithUp 40 = .ok (.iconst (-1), 1) := by decide +kernel
theorem dX1_seenWithUp_41 : decode cX1_seenWithUp 41 = .ok (.ixor, 1) := by decide +kernel
theorem dX1_seenWithUp_42 : decode cX1_seenWithUp 42 = .ok (.iand, 1) := by decide +kernel
theorem dX1_seenWithUp_43 : decode cX1_seenWithUp 43 = .ok (.goto 9, 3) := by decide +kernel
theorem dX1_seenWithUp_46 : decode cX1_seenWithUp 46 = .ok (.aload_n 0, 1) := by decide +kernel
theorem dX1_seenWithUp_47 : decode cX1_seenWithUp 47 = .ok (.getfield 24, 3) := by decide +kernel
theorem dX1_seenWithUp_50 : decode cX1_seenWithUp 50 = .ok (.iload_n 3, 1) := by decide +kernel
theorem dX1_seenWithUp_51 : decode cX1_seenWithUp 51 = .ok (.iaload, 1) := by decide +kernel
theorem dX1_seenWithUp_52 : decode cX1_seenWithUp 52 = .ok (.ior, 1) := by decide +kernel
theorem dX1_seenWithUp_53 : decode cX1_seenWithUp 53 = .ok (.istore_n 2, 1) := by decide +kernel
theorem dX1_seenWithUp_54 : decode cX1_seenWithUp 54 = .ok (.iinc 3 1, 3) := by decide +kernel
theorem dX1_seenWithUp_57 : decode cX1_seenWithUp 57 = .ok (.goto (-53), 3) := by decide +kernel
theorem dX1_seenWithUp_60 : decode cX1_seenWithUp 60 = .ok (.iload_n 2, 1) := by decide +kernel
theorem dX1_seenWithUp_61 : decode cX1_seenWithUp 61 = .ok (.ireturn, 1) := by decide +kernel
theorem dX1_sharpestOfAll_0 : decode cX1_sharpestOfAll 0 = .ok (.iconst 0, 1) := by decide +kernel
theorem dX1_sharpestOfAll_1 : decode cX1_sharpestOfAll 1 = .ok (.istore_n 1, 1) := by decide +kernel
theorem dX1_sharpestOfAll_2 : decode cX1_sharpestOfAll 2 = .ok (.iconst (-1), 1) := by decide +kernel
theorem dX1_sharpestOfAll_3 : decode cX1_sharpestOfAll 3 = .ok (.istore_n 2, 1) := by decide +kernel
theorem dX1_sharpestOfAll_4 : decode cX1_sharpestOfAll 4 = .ok (.iconst 0, 1) := by decide +kernel
theorem dX1_sharpestOfAll_5 : decode cX1_sharpestOfAll 5 = .ok (.istore_n 3, 1) := by decide +kernel
theorem dX1_sharpestOfAll_6 : decode cX1_sharpestOfAll 6 = .ok (.iload_n 3, 1) := by decide +kernel
theorem dX1_sharpestOfAll_7 : decode cX1_sharpestOfAll 7 = .ok (.aload_n 0, 1) := by decide +kernel
theorem dX1_sharpestOfAll_8 : decode cX1_sharpestOfAll 8 = .ok (.getfield 15, 3) := by decide +kernel
theorem dX1_sharpestOfAll_11 : decode cX1_sharpestOfAll 11 = .ok (.if_icmp .ge 27, 3) := by decide +kernel
theorem dX1_sharpestOfAll_14 : decode cX1_sharpestOfAll 14 = .ok (.aload_n 0, 1) := by decide +kernel
theorem dX1_sharpestOfAll_15 : decode cX1_sharpestOfAll 15 = .ok (.iload_n 3, 1) := by decide +kernel
theorem dX1_sharpestOfAll_16 : decode cX1_sharpestOfAll 16 = .ok (.invokevirtual 64, 3) := by decide +kernel
theorem dX1_sharpestOfAll_19 : decode cX1_sharpestOfAll 19 = .ok (.istore 4, 2) := by decide +kernel
theorem dX1_sharpestOfAll_21 : decode cX1_sharpestOfAll 21 = .ok (.iload 4, 2) := by decide +kernel
theorem dX1_sharpestOfAll_23 : decode cX1_sharpestOfAll 23 = .ok (.iload_n 2, 1) := by decide +kernel
theorem dX1_sharpestOfAll_24 : decode cX1_sharpestOfAll 24 = .ok (.if_icmp .le 8, 3) := by decide +kernel
theorem dX1_sharpestOfAll_27 : decode cX1_sharpestOfAll 27 = .ok (.iload 4, 2) := by decide +kernel
theorem dX1_sharpestOfAll_29 : decode cX1_sharpestOfAll 29 = .ok (.istore_n 2, 1) := by decide +kernel
theorem dX1_sharpestOfAll_30 : decode cX1_sharpestOfAll 30 = .ok (.iload_n 3, 1) := by decide +kernel
theorem dX1_sharpestOfAll_31 : decode cX1_sharpestOfAll 31 = .ok (.istore_n 1, 1) := by decide +kernel
theorem dX1_sharpestOfAll_32 : decode cX1_sharpestOfAll 32 = .ok (.iinc 3 1, 3) := by decide +kernel
theorem dX1_sharpestOfAll_35 : decode cX1_sharpestOfAll 35 = .ok (.goto (-29), 3) := by decide +kernel
theorem dX1_sharpestOfAll_38 : decode cX1_sharpestOfAll 38 = .ok (.iload_n 1, 1) := by decide +kernel
theorem dX1_sharpestOfAll_39 : decode cX1_sharpestOfAll 39 = .ok (.ireturn, 1) := by decide +kernel
theorem dX1_sharpnessAtOthers_0 : decode cX1_sharpnessAtOthers 0 = .ok (.iconst 0, 1) := by decide +kernel
theorem dX1_sharpnessAtOthers_1 : decode cX1_sharpnessAtOthers 1 = .ok (.istore_n 2, 1) := by decide +kernel
theorem dX1_sharpnessAtOthers_2 : decode cX1_sharpnessAtOthers 2 = .ok (.iconst 0, 1) := by decide +kernel
theorem dX1_sharpnessAtOthers_3 : decode cX1_sharpnessAtOthers 3 = .ok (.istore_n 3, 1) := by decide +kernel
theorem dX1_sharpnessAtOthers_4 : decode cX1_sharpnessAtOthers 4 = .ok (.iload_n 3, 1) := by decide +kernel
theorem dX1_sharpnessAtOthers_5 : decode cX1_sharpnessAtOthers 5 = .ok (.aload_n 0, 1) := by decide +kernel
theorem dX1_sharpnessAtOthers_6 : decode cX1_sharpnessAtOthers 6 = .ok (.getfield 15, 3) := by decide +kernel
theorem dX1_sharpnessAtOthers_9 : decode cX1_sharpnessAtOthers 9 = .ok (.if_icmp .ge 31, 3) := by decide +kernel
theorem dX1_sharpnessAtOthers_12 : decode cX1_sharpnessAtOthers 12 = .ok (.iload_n 2, 1) := by decide +kernel
theorem dX1_sharpnessAtOthers_13 : decode cX1_sharpnessAtOthers 13 = .ok (.iload_n 3, 1) := by decide +kernel
theorem dX1_sharpnessAtOthers_14 : decode cX1_sharpnessAtOthers 14 = .ok (.iload_n 1, 1) := by decide +kernel
theorem dX1_sharpnessAtOthers_15 : decode cX1_sharpnessAtOthers 15 = .ok (.if_icmp .ne 7, 3) := by decide +kernel
theorem dX1_sharpnessAtOthers_18 : decode cX1_sharpnessAtOthers 18 = .ok (.iconst 0, 1) := by decide +kernel
theorem dX1_sharpnessAtOthers_19 : decode cX1_sharpnessAtOthers 19 = .ok (.goto 13, 3) := by decide +kernel
theorem dX1_sharpnessAtOthers_22 : decode cX1_sharpnessAtOthers 22 = .ok (.aload_n 0, 1) := by decide +kernel
theorem dX1_sharpnessAtOthers_23 : decode cX1_sharpnessAtOthers 23 = .ok (.getfield 20, 3) := by decide +kernel
theorem dX1_sharpnessAtOthers_26 : decode cX1_sharpnessAtOthers 26 = .ok (.iload_n 1, 1) := by decide +kernel
theorem dX1_sharpnessAtOthers_27 : decode cX1_sharpnessAtOthers 27 = .ok (.aaload, 1) := by decide +kernel
theorem dX1_sharpnessAtOthers_28 : decode cX1_sharpnessAtOthers 28 = .ok (.iload_n 3, 1) := by decide +kernel
theorem dX1_sharpnessAtOthers_29 : decode cX1_sharpnessAtOthers 29 = .ok (.invokevirtual 52, 3) := by decide +kernel
theorem dX1_sharpnessAtOthers_32 : decode cX1_sharpnessAtOthers 32 = .ok (.iadd, 1) := by decide +kernel
theorem dX1_sharpnessAtOthers_33 : decode cX1_sharpnessAtOthers 33 = .ok (.istore_n 2, 1) := by decide +kernel
theorem dX1_sharpnessAtOthers_34 : decode cX1_sharpnessAtOthers 34 = .ok (.iinc 3 1, 3) := by decide +kernel
theorem dX1_sharpnessAtOthers_37 : decode cX1_sharpnessAtOthers 37 = .ok (.goto (-33), 3) := by decide +kernel
theorem dX1_sharpnessAtOthers_40 : decode cX1_sharpnessAtOthers 40 = .ok (.iload_n 2, 1) := by decide +kernel
theorem dX1_sharpnessAtOthers_41 : decode cX1_sharpnessAtOthers 41 = .ok (.ireturn, 1) := by decide +kernel
theorem dX2_init_0 : decode cX2_init 0 = .ok (.aload_n 0, 1) := by decide +kernel
theorem dX2_init_1 : decode cX2_init 1 = .ok (.invokespecial 3, 3) := by decide +kernel
theorem dX2_init_4 : decode cX2_init 4 = .ok (.aload_n 0, 1) := by decide +kernel
theorem dX2_init_5 : decode cX2_init 5 = .ok (.iconst 0, 1) := by decide +kernel
theorem dX2_init_6 : decode cX2_init 6 = .ok (.putfield 9, 3) := by decide +kernel
theorem dX2_init_9 : decode cX2_init 9 = .ok (.aload_n 0, 1) := by decide +kernel
theorem dX2_init_10 : decode cX2_init 10 = .ok (.iconst 0, 1) := by decide +kernel
theorem dX2_init_11 : decode cX2_init 11 = .ok (.putfield 15, 3) := by decide +kernel
theorem dX2_init_14 : decode cX2_init 14 = .ok (.aload_n 0, 1) := by decide +kernel
theorem dX2_init_15 : decode cX2_init 15 = .ok (.bipush 40, 2) := by decide +kernel
theorem dX2_init_17 : decode cX2_init 17 = .ok (.newarray .long, 2) := by decide +kernel
theorem dX2_init_19 : decode cX2_init 19 = .ok (.putfield 18, 3) := by decide +kernel
theorem dX2_init_22 : decode cX2_init 22 = .ok (.return_, 1) := by decide +kernel
theorem dX2_begin_0 : decode cX2_begin 0 = .ok (.aload_n 0, 1) := by decide +kernel
theorem dX2_begin_1 : decode cX2_begin 1 = .ok (.iload_n 1, 1) := by decide +kernel
theorem dX2_begin_2 : decode cX2_begin 2 = .ok (.putfield 9, 3) := by decide +kernel
theorem dX2_begin_5 : decode cX2_begin 5 = .ok (.aload_n 0, 1) := by decide +kernel
theorem dX2_begin_6 : decode cX2_begin 6 = .ok (.iload_n 1, 1) := by decide +kernel
theorem dX2_begin_7 : decode cX2_begin 7 = .ok (.ifCond .ne 7, 3) := by decide +kernel
theorem dX2_begin_10 : decode cX2_begin 10 = .ok (.iconst 0, 1) := by decide +kernel
theorem dX2_begin_11 : decode cX2_begin 11 = .ok (.goto 4, 3) := by decide +kernel
theorem dX2_begin_14 : decode cX2_begin 14 = .ok (.iload_n 2, 1) := by decide +kernel
theorem dX2_begin_15 : decode cX2_begin 15 = .ok (.putfield 15, 3) := by decide +kernel
theorem dX2_begin_18 : decode cX2_begin 18 = .ok (.iconst 0, 1) := by decide +kernel
theorem dX2_begin_19 : decode cX2_begin 19 = .ok (.istore_n 3, 1) := by decide +kernel
theorem dX2_begin_20 : decode cX2_begin 20 = .ok (.iload_n 3, 1) := by decide +kernel
theorem dX2_begin_21 : decode cX2_begin 21 = .ok (.bipush 40, 2) := by decide +kernel
theorem dX2_begin_23 : decode cX2_begin 23 = .ok (.if_icmp .ge 16, 3) := by decide +kernel
theorem dX2_begin_26 : decode cX2_begin 26 = .ok (.aload_n 0, 1) := by decide +kernel
theorem dX2_begin_27 : decode cX2_begin 27 = .ok (.getfield 18, 3) := by decide +kernel
theorem dX2_begin_30 : decode cX2_begin 30 = .ok (.iload_n 3, 1) := by decide +kernel
theorem dX2_begin_31 : decode cX2_begin 31 = .ok (.lconst 0, 1) := by decide +kernel
theorem dX2_begin_32 : decode cX2_begin 32 = .ok (.lastore, 1) := by decide +kernel
theorem dX2_begin_33 : decode cX2_begin 33 = .ok (.iinc 3 1, 3) := by decide +kernel
theorem dX2_begin_36 : decode cX2_begin 36 = .ok (.goto (-16), 3) := by decide +kernel
theorem dX2_begin_39 : decode cX2_begin 39 = .ok (.return_, 1) := by decide +kernel
theorem dX2_isMissing_0 : decode cX2_isMissing 0 = .ok (.aload_n 0, 1) := by decide +kernel
theorem dX2_isMissing_1 : decode cX2_isMissing 1 = .ok (.getfield 9, 3) := by decide +kernel
theorem dX2_isMissing_4 : decode cX2_isMissing 4 = .ok (.ifCond .ne 7, 3) := by decide +kernel
theorem dX2_isMissing_7 : decode cX2_isMissing 7 = .ok (.iconst 1, 1) := by decide +kernel
theorem dX2_isMissing_8 : decode cX2_isMissing 8 = .ok (.goto 4, 3) := by decide +kernel
theorem dX2_isMissing_11 : decode cX2_isMissing 11 = .ok (.iconst 0, 1) := by decide +kernel
theorem dX2_isMissing_12 : decode cX2_isMissing 12 = .ok (.ireturn, 1) := by decide +kernel
theorem dX2_has_0 : decode cX2_has 0 = .ok (.iload_n 1, 1) := by decide +kernel
theorem dX2_has_1 : decode cX2_has 1 = .ok (.ifCond .lt 29, 3) := by decide +kernel
theorem dX2_has_4 : decode cX2_has 4 = .ok (.iload_n 2, 1) := by decide +kernel
theorem dX2_has_5 : decode cX2_has 5 = .ok (.ifCond .lt 25, 3) := by decide +kernel
theorem dX2_has_8 : decode cX2_has 8 = .ok (.iload_n 2, 1) := by decide +kernel
theorem dX2_has_9 : decode cX2_has 9 = .ok (.aload_n 0, 1) := by decide +kernel
theorem dX2_has_10 : decode cX2_has 10 = .ok (.getfield 15, 3) := by decide +kernel
theorem dX2_has_13 : decode cX2_has 13 = .ok (.if_icmp .gt 17, 3) := by decide +kernel
theorem dX2_has_16 : decode cX2_has 16 = .ok (.iload_n 1, 1) := by decide +kernel
theorem dX2_has_17 : decode cX2_has 17 = .ok (.aload_n 0, 1) := by decide +kernel
theorem dX2_has_18 : decode cX2_has 18 = .ok (.getfield 15, 3) := by decide +kernel
theorem dX2_has_21 : decode cX2_has 21 = .ok (.iload_n 2, 1) := by decide +kernel
theorem dX2_has_22 : decode cX2_has 22 = .ok (.isub, 1) := by decide +kernel
theorem dX2_has_23 : decode cX2_has 23 = .ok (.if_icmp .gt 7, 3) := by decide +kernel
theorem dX2_has_26 : decode cX2_has 26 = .ok (.iconst 1, 1) := by decide +kernel
theorem dX2_has_27 : decode cX2_has 27 = .ok (.goto 4, 3) := by decide +kernel
theorem dX2_has_30 : decode cX2_has 30 = .ok (.iconst 0, 1) := by decide +kernel
theorem dX2_has_31 : decode cX2_has 31 = .ok (.ireturn, 1) := by decide +kernel
theorem dX2_put_0 : decode cX2_put 0 = .ok (.aload_n 0, 1) := by decide +kernel
theorem dX2_put_1 : decode cX2_put 1 = .ok (.getfield 9, 3) := by decide +kernel
theorem dX2_put_4 : decode cX2_put 4 = .ok (.bipush 8, 2) := by decide +kernel
theorem dX2_put_6 : decode cX2_put 6 = .ok (.if_icmp .ne 16, 3) := by decide +kernel
theorem dX2_put_9 : decode cX2_put 9 = .ok (.aload_n 0, 1) := by decide +kernel
theorem dX2_put_10 : decode cX2_put 10 = .ok (.getfield 18, 3) := by decide +kernel
theorem dX2_put_13 : decode cX2_put 13 = .ok (.iload_n 1, 1) := by decide +kernel
theorem dX2_put_14 : decode cX2_put 14 = .ok (.lload_n 2, 1) := by decide +kernel
theorem dX2_put_15 : decode cX2_put 15 = .ok (.l2i, 1) := by decide +kernel
theorem dX2_put_16 : decode cX2_put 16 = .ok (.i2b, 1) := by decide +kernel
theorem dX2_put_17 : decode cX2_put 17 = .ok (.i2l, 1) := by decide +kernel
theorem dX2_put_18 : decode cX2_put 18 = .ok (.lastore, 1) := by decide +kernel
theorem dX2_put_19 : decode cX2_put 19 = .ok (.goto 32, 3) := by decide +kernel
theorem dX2_put_22 : decode cX2_put 22 = .ok (.aload_n 0, 1) := by decide +kernel
theorem dX2_put_23 : decode cX2_put 23 = .ok (.getfield 9, 3) := by decide +kernel
theorem dX2_put_26 : decode cX2_put 26 = .ok (.bipush 16, 2) := by decide +kernel
theorem dX2_put_28 : decode cX2_put 28 = .ok (.if_icmp .ne 16, 3) := by decide +kernel
theorem dX2_put_31 : decode cX2_put 31 = .ok (.aload_n 0, 1) := by decide +kernel
theorem dX2_put_32 : decode cX2_put 32 = .ok (.getfield 18, 3) := by decide +kernel
theorem dX2_put_35 : decode cX2_put 35 = .ok (.iload_n 1, 1) := by decide +kernel
theorem dX2_put_36 : decode cX2_put 36 = .ok (.lload_n 2, 1) := by decide +kernel
theorem dX2_put_37 : decode cX2_put 37 = .ok (.l2i, 1) := by decide +kernel
theorem dX2_put_38 : decode cX2_put 38 = .ok (.i2s, 1) := by decide +kernel
theorem dX2_put_39 : decode cX2_put 39 = .ok (.i2l, 1) := by decide +kernel
theorem dX2_put_40 : decode cX2_put 40 = .ok (.lastore, 1) := by decide +kernel
theorem dX2_put_41 : decode cX2_put 41 = .ok (.goto 10, 3) := by decide +kernel
theorem dX2_put_44 : decode cX2_put 44 = .ok (.aload_n 0, 1) := by decide +kernel
theorem dX2_put_45 : decode cX2_put 45 = .ok (.getfield 18, 3) := by decide +kernel
theorem dX2_put_48 : decode cX2_put 48 = .ok (.iload_n 1, 1) := by decide +kernel
theorem dX2_put_49 : decode cX2_put 49 = .ok (.lload_n 2, 1) := by decide +kernel
theorem dX2_put_50 : decode cX2_put 50 = .ok (.lastore, 1) := by decide +kernel
theorem dX2_put_51 : decode cX2_put 51 = .ok (.return_, 1) := by decide +kernel
theorem dX3_init_0 : decode cX3_init 0 = .ok (.aload_n 0, 1) := by decide +kernel
theorem dX3_init_1 : decode cX3_init 1 = .ok (.invokespecial 3, 3) := by decide +kernel
theorem dX3_init_4 : decode cX3_init 4 = .ok (.aload_n 0, 1) := by decide +kernel
theorem dX3_init_5 : decode cX3_init 5 = .ok (.bipush 120, 2) := by decide +kernel
theorem dX3_init_7 : decode cX3_init 7 = .ok (.newarray .int, 2) := by decide +kernel
theorem dX3_init_9 : decode cX3_init 9 = .ok (.putfield 9, 3) := by decide +kernel
theorem dX3_init_12 : decode cX3_init 12 = .ok (.aload_n 0, 1) := by decide +kernel
theorem dX3_init_13 : decode cX3_init 13 = .ok (.iconst 0, 1) := by decide +kernel
theorem dX3_init_14 : decode cX3_init 14 = .ok (.putfield 15, 3) := by decide +kernel
theorem dX3_init_17 : decode cX3_init 17 = .ok (.aload_n 0, 1) := by decide +kernel
theorem dX3_init_18 : decode cX3_init 18 = .ok (.iconst 0, 1) := by decide +kernel
theorem dX3_init_19 : decode cX3_init 19 = .ok (.putfield 19, 3) := by decide +kernel
theorem dX3_init_22 : decode cX3_init 22 = .ok (.aload_n 0, 1) := by decide +kernel
theorem dX3_init_23 : decode cX3_init 23 = .ok (.iconst 0, 1) := by decide +kernel
theorem dX3_init_24 : decode cX3_init 24 = .ok (.putfield 22, 3) := by decide +kernel
theorem dX3_init_27 : decode cX3_init 27 = .ok (.aload_n 0, 1) := by decide +kernel
theorem dX3_init_28 : decode cX3_init 28 = .ok (.iconst 0, 1) := by decide +kernel
theorem dX3_init_29 : decode cX3_init 29 = .ok (.putfield 25, 3) := by decide +kernel
theorem dX3_init_32 : decode cX3_init 32 = .ok (.return_, 1) := by decide +kernel
theorem dX3_add_0 : decode cX3_add 0 = .ok (.aload_n 0, 1) := by decide +kernel
theorem dX3_add_1 : decode cX3_add 1 = .ok (.getfield 9, 3) := by decide +kernel
theorem dX3_add_4 : decode cX3_add 4 = .ok (.aload_n 0, 1) := by decide +kernel
theorem dX3_add_5 : decode cX3_add 5 = .ok (.getfield 15, 3) := by decide +kernel
theorem dX3_add_8 : decode cX3_add 8 = .ok (.iload_n 1, 1) := by decide +kernel
theorem dX3_add_9 : decode cX3_add 9 = .ok (.iastore, 1) := by decide +kernel
theorem dX3_add_10 : decode cX3_add 10 = .ok (.aload_n 0, 1) := by decide +kernel
theorem dX3_add_11 : decode cX3_add 11 = .ok (.dup, 1) := by decide +kernel
theorem dX3_add_12 : decode cX3_add 12 = .ok (.getfield 15, 3) := by decide +kernel
theorem dX3_add_15 : decode cX3_add 15 = .ok (.iconst 1, 1) := by decide +kernel
theorem dX3_add_16 : decode cX3_add 16 = .ok (.iadd, 1) := by decide +kernel
theorem dX3_add_17 : decode cX3_add 17 = .ok (.putfield 15, 3) := by decide +kernel
theorem dX3_add_20 : decode cX3_add 20 = .ok (.return_, 1) := by decide +kernel
theorem dX3_rewind_0 : decode cX3_rewind 0 = .ok (.aload_n 0, 1) := by decide +kernel
theorem dX3_rewind_1 : decode cX3_rewind 1 = .ok (.iconst 0, 1) := by decide +kernel
theorem dX3_rewind_2 : decode cX3_rewind 2 = .ok (.putfield 25, 3) := by decide +kernel
theorem dX3_rewind_5 : decode cX3_rewind 5 = .ok (.aload_n 0, 1) := by decide +kernel
theorem dX3_rewind_6 : decode cX3_rewind 6 = .ok (.invokevirtual 28, 3) := by decide +kernel
theorem dX3_rewind_9 : decode cX3_rewind 9 = .ok (.return_, 1) := by decide +kernel
theorem dX3_step_0 : decode cX3_step 0 = .ok (.aload_n 0, 1) := by decide +kernel
theorem dX3_step_1 : decode cX3_step 1 = .ok (.aload_n 0, 1) := by decide +kernel
theorem dX3_step_2 : decode cX3_step 2 = .ok (.getfield 25, 3) := by decide +kernel
theorem dX3_step_5 : decode cX3_step 5 = .ok (.putfield 22, 3) := by decide +kernel
theorem dX3_step_8 : decode cX3_step 8 = .ok (.aload_n 0, 1) := by decide +kernel
theorem dX3_step_9 : decode cX3_step 9 = .ok (.getfield 22, 3) := by decide +kernel
theorem dX3_step_12 : decode cX3_step 12 = .ok (.aload_n 0, 1) := by decide +kernel
theorem dX3_step_13 : decode cX3_step 13 = .ok (.getfield 15, 3) := by decide +kernel
theorem dX3_step_16 : decode cX3_step 16 = .ok (.if_icmp .ge 30, 3) := by decide +kernel
theorem dX3_step_19 : decode cX3_step 19 = .ok (.aload_n 0, 1) := by decide +kernel
theorem dX3_step_20 : decode cX3_step 20 = .ok (.getfield 9, 3) := by decide +kernel
theorem dX3_step_23 : decode cX3_step 23 = .ok (.aload_n 0, 1) := by decide +kernel
theorem dX3_step_24 : decode cX3_step 24 = .ok (.getfield 22, 3) := by decide +kernel
theorem dX3_step_27 : decode cX3_step 27 = .ok (.iaload, 1) := by decide +kernel
theorem dX3_step_28 : decode cX3_step 28 = .ok (.bipush 32, 2) := by decide +kernel
theorem dX3_step_30 : decode cX3_step 30 = .ok (.if_icmp .ne 16, 3) := by decide +kernel
theorem dX3_step_33 : decode cX3_step 33 = .ok (.aload_n 0, 1) := by decide +kernel
theorem dX3_step_34 : decode cX3_step 34 = .ok (.dup, 1) := by decide +kernel
theorem dX3_step_35 : decode cX3_step 35 = .ok (.getfield 22, 3) := by decide +kernel
theorem dX3_step_38 : decode cX3_step 38 = .ok (.iconst 1, 1) := by decide +kernel
theorem dX3_step_39 : decode cX3_step 39 = .ok (.iadd, 1) := by decide +kernel
theorem dX3_step_40 : decode cX3_step 40 = .ok (.putfield 22, 3) := by decide +kernel
theorem dX3_step_43 : decode cX3_step 43 = .ok (.goto (-35), 3) := by decide +kernel
theorem dX3_step_46 : decode cX3_step 46 = .ok (.aload_n 0, 1) := by decide +kernel
theorem dX3_step_47 : decode cX3_step 47 = .ok (.aload_n 0, 1) := by decide +kernel
theorem dX3_step_48 : decode cX3_step 48 = .ok (.getfield 22, 3) := by decide +kernel
theorem dX3_step_51 : decode cX3_step 51 = .ok (.putfield 25, 3) := by decide +kernel
theorem dX3_step_54 : decode cX3_step 54 = .ok (.aload_n 0, 1) := by decide +kernel
theorem dX3_step_55 : decode cX3_step 55 = .ok (.getfield 22, 3) := by decide +kernel
theorem dX3_step_58 : decode cX3_step 58 = .ok (.aload_n 0, 1) := by decide +kernel
theorem dX3_step_59 : decode cX3_step 59 = .ok (.getfield 15, 3) := by decide +kernel
theorem dX3_step_62 : decode cX3_step 62 = .ok (.if_icmp .lt 11, 3) := by decide +kernel
theorem dX3_step_65 : decode cX3_step 65 = .ok (.aload_n 0, 1) := by decide +kernel
theorem dX3_step_66 : decode cX3_step 66 = .ok (.iconst 0, 1) := by decide +kernel
theorem dX3_step_67 : decode cX3_step 67 = .ok (.putfield 19, 3) := by decide +kernel
theorem dX3_step_70 : decode cX3_step 70 = .ok (.goto 154, 3) := by decide +kernel
theorem dX3_step_73 : decode cX3_step 73 = .ok (.aload_n 0, 1) := by decide +kernel
theorem dX3_step_74 : decode cX3_step 74 = .ok (.getfield 9, 3) := by decide +kernel
theorem dX3_step_77 : decode cX3_step 77 = .ok (.aload_n 0, 1) := by decide +kernel
theorem dX3_step_78 : decode cX3_step 78 = .ok (.getfield 22, 3) := by decide +kernel
theorem dX3_step_81 : decode cX3_step 81 = .ok (.iaload, 1) := by decide +kernel
theorem dX3_step_82 : decode cX3_step 82 = .ok (.invokestatic 31, 3) := by decide +kernel
theorem dX3_step_85 : decode cX3_step 85 = .ok (.ifCond .eq 47, 3) := by decide +kernel
theorem dX3_step_88 : decode cX3_step 88 = .ok (.aload_n 0, 1) := by decide +kernel
theorem dX3_step_89 : decode cX3_step 89 = .ok (.iconst 1, 1) := by decide +kernel
theorem dX3_step_90 : decode cX3_step 90 = .ok (.putfield 19, 3) := by decide +kernel
theorem dX3_step_93 : decode cX3_step 93 = .ok (.aload_n 0, 1) := by decide +kernel
theorem dX3_step_94 : decode cX3_step 94 = .ok (.getfield 25, 3) := by decide +kernel
theorem dX3_step_97 : decode cX3_step 97 = .ok (.aload_n 0, 1) := by decide +kernel
theorem dX3_step_98 : decode cX3_step 98 = .ok (.getfield 15, 3) := by decide +kernel
theorem dX3_step_101 : decode cX3_step 101 = .ok (.if_icmp .ge 123, 3) := by decide +kernel
theorem dX3_step_104 : decode cX3_step 104 = .ok (.aload_n 0, 1) := by decide +kernel
theorem dX3_step_105 : decode cX3_step 105 = .ok (.getfield 9, 3) := by decide +kernel
theorem dX3_step_108 : decode cX3_step 108 = .ok (.aload_n 0, 1) := by decide +kernel
theorem dX3_step_109 : decode cX3_step 109 = .ok (.getfield 25, 3) := by decide +kernel
theorem dX3_step_112 : decode cX3_step 112 = .ok (.iaload, 1) := by decide +kernel
theorem dX3_step_113 : decode cX3_step 113 = .ok (.invokestatic 31, 3) := by decide +kernel
theorem dX3_step_116 : decode cX3_step 116 = .ok (.ifCond .eq 108, 3) := by decide +kernel
theorem dX3_step_119 : decode cX3_step 119 = .ok (.aload_n 0, 1) := by decide +kernel
theorem dX3_step_120 : decode cX3_step 120 = .ok (.dup, 1) := by decide +kernel
theorem dX3_step_121 : decode cX3_step 121 = .ok (.getfield 25, 3) := by decide +kernel
theorem dX3_step_124 : decode cX3_step 124 = .ok (.iconst 1, 1) := by decide +kernel
theorem dX3_step_125 : decode cX3_step 125 = .ok (.iadd, 1) := by decide +kernel
theorem dX3_step_126 : decode cX3_step 126 = .ok (.putfield 25, 3) := by decide +kernel
theorem dX3_step_129 : decode cX3_step 129 = .ok (.goto (-36), 3) := by decide +kernel
theorem dX3_step_132 : decode cX3_step 132 = .ok (.aload_n 0, 1) := by decide +kernel
theorem dX3_step_133 : decode cX3_step 133 = .ok (.getfield 9, 3) := by decide +kernel
theorem dX3_step_136 : decode cX3_step 136 = .ok (.aload_n 0, 1) := by decide +kernel
theorem dX3_step_137 : decode cX3_step 137 = .ok (.getfield 22, 3) := by decide +kernel
theorem dX3_step_140 : decode cX3_step 140 = .ok (.iaload, 1) := by decide +kernel
theorem dX3_step_141 : decode cX3_step 141 = .ok (.invokestatic 35, 3) := by decide +kernel
theorem dX3_step_144 : decode cX3_step 144 = .ok (.ifCond .eq 47, 3) := by decide +kernel
theorem dX3_step_147 : decode cX3_step 147 = .ok (.aload_n 0, 1) := by decide +kernel
theorem dX3_step_148 : decode cX3_step 148 = .ok (.iconst 2, 1) := by decide +kernel
theorem dX3_step_149 : decode cX3_step 149 = .ok (.putfield 19, 3) := by decide +kernel
theorem dX3_step_152 : decode cX3_step 152 = .ok (.aload_n 0, 1) := by decide +kernel
theorem dX3_step_153 : decode cX3_step 153 = .ok (.getfield 25, 3) := by decide +kernel
theorem dX3_step_156 : decode cX3_step 156 = .ok (.aload_n 0, 1) := by decide +kernel
theorem dX3_step_157 : decode cX3_step 157 = .ok (.getfield 15, 3) := by decide +kernel
theorem dX3_step_160 : decode cX3_step 160 = .ok (.if_icmp .ge 64, 3) := by decide +kernel
theorem dX3_step_163 : decode cX3_step 163 = .ok (.aload_n 0, 1) := by decide +kernel
theorem dX3_step_164 : decode cX3_step 164 = .ok (.getfield 9, 3) := by decide +kernel
theorem dX3_step_167 : decode cX3_step 167 = .ok (.aload_n 0, 1) := by decide +kernel
theorem dX3_step_168 : decode cX3_step 168 = .ok (.getfield 25, 3) := by decide +kernel
theorem dX3_step_171 : decode cX3_step 171 = .ok (.iaload, 1) := by decide +kernel
theorem dX3_step_172 : decode cX3_step 172 = .ok (.invokestatic 35, 3) := by decide +kernel
theorem dX3_step_175 : decode cX3_step 175 = .ok (.ifCond .eq 49, 3) := by decide +kernel
theorem dX3_step_178 : decode cX3_step 178 = .ok (.aload_n 0, 1) := by decide +kernel
theorem dX3_step_179 : decode cX3_step 179 = .ok (.dup, 1) := by decide +kernel
theorem dX3_step_180 : decode cX3_step 180 = .ok (.getfield 25, 3) := by decide +kernel
theorem dX3_step_183 : decode cX3_step 183 = .ok (.iconst 1, 1) := by decide +kernel
theorem dX3_step_184 : decode cX3_step 184 = .ok (.iadd, 1) := by decide +kernel
theorem dX3_step_185 : decode cX3_step 185 = .ok (.putfield 25, 3) := by decide +kernel
theorem dX3_step_188 : decode cX3_step 188 = .ok (.goto (-36), 3) := by decide +kernel
theorem dX3_step_191 : decode cX3_step 191 = .ok (.aload_n 0, 1) := by decide +kernel
theorem dX3_step_192 : decode cX3_step 192 = .ok (.aload_n 0, 1) := by decide +kernel
theorem dX3_step_193 : decode cX3_step 193 = .ok (.getfield 9, 3) := by decide +kernel
theorem dX3_step_196 : decode cX3_step 196 = .ok (.aload_n 0, 1) := by decide +kernel
theorem dX3_step_197 : decode cX3_step 197 = .ok (.getfield 22, 3) := by decide +kernel
theorem dX3_step_200 : decode cX3_step 200 = .ok (.iaload, 1) := by decide +kernel
theorem dX3_step_201 : decode cX3_step 201 = .ok (.bipush 59, 2) := by decide +kernel
theorem dX3_step_203 : decode cX3_step 203 = .ok (.if_icmp .ne 7, 3) := by decide +kernel
theorem dX3_step_206 : decode cX3_step 206 = .ok (.iconst 3, 1) := by decide +kernel
theorem dX3_step_207 : decode cX3_step 207 = .ok (.goto 4, 3) := by decide +kernel
theorem dX3_step_210 : decode cX3_step 210 = .ok (.iconst 4, 1) := by decide +kernel
theorem dX3_step_211 : decode cX3_step 211 = .ok (.putfield 19, 3) := by decide +kernel
theorem dX3_step_214 : decode cX3_step 214 = .ok (.aload_n 0, 1) := by decide +kernel
theorem dX3_step_215 : decode cX3_step 215 = .ok (.dup, 1) := by decide +kernel
theorem dX3_step_216 : decode cX3_step 216 = .ok (.getfield 25, 3) := by decide +kernel
theorem dX3_step_219 : decode cX3_step 219 = .ok (.iconst 1, 1) := by decide +kernel
theorem dX3_step_220 : decode cX3_step 220 = .ok (.iadd, 1) := by decide +kernel
theorem dX3_step_221 : decode cX3_step 221 = .ok (.putfield 25, 3) := by decide +kernel
theorem dX3_step_224 : decode cX3_step 224 = .ok (.return_, 1) := by decide +kernel
theorem dX3_isLetter_0 : decode cX3_isLetter 0 = .ok (.iload_n 0, 1) := by decide +kernel
theorem dX3_isLetter_1 : decode cX3_isLetter 1 = .ok (.bipush 97, 2) := by decide +kernel
theorem dX3_isLetter_3 : decode cX3_isLetter 3 = .ok (.if_icmp .lt 13, 3) := by decide +kernel
theorem dX3_isLetter_6 : decode cX3_isLetter 6 = .ok (.iload_n 0, 1) := by decide +kernel
theorem dX3_isLetter_7 : decode cX3_isLetter 7 = .ok (.bipush 122, 2) := by decide +kernel
theorem dX3_isLetter_9 : decode cX3_isLetter 9 = .ok (.if_icmp .gt 7, 3) := by decide +kernel
theorem dX3_isLetter_12 : decode cX3_isLetter 12 = .ok (.iconst 1, 1) := by decide +kernel
theorem dX3_isLetter_13 : decode cX3_isLetter 13 = .ok (.goto 4, 3) := by decide +kernel
theorem dX3_isLetter_16 : decode cX3_isLetter 16 = .ok (.iconst 0, 1) := by decide +kernel
theorem dX3_isLetter_17 : decode cX3_isLetter 17 = .ok (.ireturn, 1) := by decide +kernel
theorem dX3_isDigit_0 : decode cX3_isDigit 0 = .ok (.iload_n 0, 1) := by decide +kernel
theorem dX3_isDigit_1 : decode cX3_isDigit 1 = .ok (.bipush 48, 2) := by decide +kernel
theorem dX3_isDigit_3 : decode cX3_isDigit 3 = .ok (.if_icmp .lt 13, 3) := by decide +kernel
theorem dX3_isDigit_6 : decode cX3_isDigit 6 = .ok (.iload_n 0, 1) := by decide +kernel
theorem dX3_isDigit_7 : decode cX3_isDigit 7 = .ok (.bipush 57, 2) := by decide +kernel
theorem dX3_isDigit_9 : decode cX3_isDigit 9 = .ok (.if_icmp .gt 7, 3) := by decide +kernel
theorem dX3_isDigit_12 : decode cX3_isDigit 12 = .ok (.iconst 1, 1) := by decide +kernel
theorem dX3_isDigit_13 : decode cX3_isDigit 13 = .ok (.goto 4, 3) := by decide +kernel
theorem dX3_isDigit_16 : decode cX3_isDigit 16 = .ok (.iconst 0, 1) := by decide +kernel
theorem dX3_isDigit_17 : decode cX3_isDigit 17 = .ok (.ireturn, 1) := by decide +kernel
theorem dX3_isAtEnd_0 : decode cX3_isAtEnd 0 = .ok (.aload_n 0, 1) := by decide +kernel
theorem dX3_isAtEnd_1 : decode cX3_isAtEnd 1 = .ok (.getfield 19, 3) := by decide +kernel
theorem dX3_isAtEnd_4 : decode cX3_isAtEnd 4 = .ok (.ifCond .ne 7, 3) := by decide +kernel
theorem dX3_isAtEnd_7 : decode cX3_isAtEnd 7 = .ok (.iconst 1, 1) := by decide +kernel
theorem dX3_isAtEnd_8 : decode cX3_isAtEnd 8 = .ok (.goto 4, 3) := by decide +kernel
theorem dX3_isAtEnd_11 : decode cX3_isAtEnd 11 = .ok (.iconst 0, 1) := by decide +kernel
theorem dX3_isAtEnd_12 : decode cX3_isAtEnd 12 = .ok (.ireturn, 1) := by decide +kernel
theorem dX3_isAtSign_0 : decode cX3_isAtSign 0 = .ok (.aload_n 0, 1) := by decide +kernel
theorem dX3_isAtSign_1 : decode cX3_isAtSign 1 = .ok (.getfield 19, 3) := by decide +kernel
theorem dX3_isAtSign_4 : decode cX3_isAtSign 4 = .ok (.iconst 3, 1) := by decide +kernel
theorem dX3_isAtSign_5 : decode cX3_isAtSign 5 = .ok (.if_icmp .ne 7, 3) := by decide +kernel
theorem dX3_isAtSign_8 : decode cX3_isAtSign 8 = .ok (.iconst 1, 1) := by decide +kernel
theorem dX3_isAtSign_9 : decode cX3_isAtSign 9 = .ok (.goto 4, 3) := by decide +kernel
theorem dX3_isAtSign_12 : decode cX3_isAtSign 12 = .ok (.iconst 0, 1) := by decide +kernel
theorem dX3_isAtSign_13 : decode cX3_isAtSign 13 = .ok (.ireturn, 1) := by decide +kernel
theorem dX3_isAtWord_0 : decode cX3_isAtWord 0 = .ok (.aload_n 0, 1) := by decide +kernel
theorem dX3_isAtWord_1 : decode cX3_isAtWord 1 = .ok (.getfield 19, 3) := by decide +kernel
theorem dX3_isAtWord_4 : decode cX3_isAtWord 4 = .ok (.iconst 1, 1) := by decide +kernel
theorem dX3_isAtWord_5 : decode cX3_isAtWord 5 = .ok (.if_icmp .ne 19, 3) := by decide +kernel
theorem dX3_isAtWord_8 : decode cX3_isAtWord 8 = .ok (.aload_n 0, 1) := by decide +kernel
theorem dX3_isAtWord_9 : decode cX3_isAtWord 9 = .ok (.getfield 25, 3) := by decide +kernel
theorem dX3_isAtWord_12 : decode cX3_isAtWord 12 = .ok (.aload_n 0, 1) := by decide +kernel
theorem dX3_isAtWord_13 : decode cX3_isAtWord 13 = .ok (.getfield 22, 3) := by decide +kernel
theorem dX3_isAtWord_16 : decode cX3_isAtWord 16 = .ok (.isub, 1) := by decide +kernel
theorem dX3_isAtWord_17 : decode cX3_isAtWord 17 = .ok (.aload_n 1, 1) := by decide +kernel
theorem dX3_isAtWord_18 : decode cX3_isAtWord 18 = .ok (.invokevirtual 38, 3) := by decide +kernel
theorem dX3_isAtWord_21 : decode cX3_isAtWord 21 = .ok (.if_icmp .eq 5, 3) := by decide +kernel
theorem dX3_isAtWord_24 : decode cX3_isAtWord 24 = .ok (.iconst 0, 1) := by decide +kernel
theorem dX3_isAtWord_25 : decode cX3_isAtWord 25 = .ok (.ireturn, 1) := by decide +kernel
theorem dX3_isAtWord_26 : decode cX3_isAtWord 26 = .ok (.iconst 0, 1) := by decide +kernel
theorem dX3_isAtWord_27 : decode cX3_isAtWord 27 = .ok (.istore_n 2, 1) := by decide +kernel
theorem dX3_isAtWord_28 : decode cX3_isAtWord 28 = .ok (.iload_n 2, 1) := by decide +kernel
theorem dX3_isAtWord_29 : decode cX3_isAtWord 29 = .ok (.aload_n 1, 1) := by decide +kernel
theorem dX3_isAtWord_30 : decode cX3_isAtWord 30 = .ok (.invokevirtual 38, 3) := by decide +kernel
theorem dX3_isAtWord_33 : decode cX3_isAtWord 33 = .ok (.if_icmp .ge 30, 3) := by decide +kernel
theorem dX3_isAtWord_36 : decode cX3_isAtWord 36 = .ok (.aload_n 0, 1) := by decide +kernel
theorem dX3_isAtWord_37 : decode cX3_isAtWord 37 = .ok (.getfield 9, 3) := by decide +kernel
theorem dX3_isAtWord_40 : decode cX3_isAtWord 40 = .ok (.aload_n 0, 1) := by decide +kernel
theorem dX3_isAtWord_41 : decode cX3_isAtWord 41 = .ok (.getfield 22, 3) := by decide +kernel
theorem dX3_isAtWord_44 : decode cX3_isAtWord 44 = .ok (.iload_n 2, 1) := by decide +kernel
theorem dX3_isAtWord_45 : decode cX3_isAtWord 45 = .ok (.iadd, 1) := by decide +kernel
theorem dX3_isAtWord_46 : decode cX3_isAtWord 46 = .ok (.iaload, 1) := by decide +kernel
theorem dX3_isAtWord_47 : decode cX3_isAtWord 47 = .ok (.aload_n 1, 1) := by decide +kernel
theorem dX3_isAtWord_48 : decode cX3_isAtWord 48 = .ok (.iload_n 2, 1) := by decide +kernel
theorem dX3_isAtWord_49 : decode cX3_isAtWord 49 = .ok (.invokevirtual 43, 3) := by decide +kernel
theorem dX3_isAtWord_52 : decode cX3_isAtWord 52 = .ok (.if_icmp .eq 5, 3) := by decide +kernel
theorem dX3_isAtWord_55 : decode cX3_isAtWord 55 = .ok (.iconst 0, 1) := by decide +kernel
theorem dX3_isAtWord_56 : decode cX3_isAtWord 56 = .ok (.ireturn, 1) := by decide +kernel
theorem dX3_isAtWord_57 : decode cX3_isAtWord 57 = .ok (.iinc 2 1, 3) := by decide +kernel
theorem dX3_isAtWord_60 : decode cX3_isAtWord 60 = .ok (.goto (-32), 3) := by decide +kernel
theorem dX3_isAtWord_63 : decode cX3_isAtWord 63 = .ok (.iconst 1, 1) := by decide +kernel
theorem dX3_isAtWord_64 : decode cX3_isAtWord 64 = .ok (.ireturn, 1) := by decide +kernel
theorem dX3_isAtNumberBelow_0 : decode cX3_isAtNumberBelow 0 = .ok (.aload_n 0, 1) := by decide +kernel
theorem dX3_isAtNumberBelow_1 : decode cX3_isAtNumberBelow 1 = .ok (.getfield 19, 3) := by decide +kernel
theorem dX3_isAtNumberBelow_4 : decode cX3_isAtNumberBelow 4 = .ok (.iconst 2, 1) := by decide +kernel
theorem dX3_isAtNumberBelow_5 : decode cX3_isAtNumberBelow 5 = .ok (.if_icmp .ne 15, 3) := by decide +kernel
theorem dX3_isAtNumberBelow_8 : decode cX3_isAtNumberBelow 8 = .ok (.aload_n 0, 1) := by decide +kernel
theorem dX3_isAtNumberBelow_9 : decode cX3_isAtNumberBelow 9 = .ok (.invokevirtual 47, 3) := by decide +kernel
theorem dX3_isAtNumberBelow_12 : decode cX3_isAtNumberBelow 12 = .ok (.iload_n 1, 1) := by decide +kernel
theorem dX3_isAtNumberBelow_13 : decode cX3_isAtNumberBelow 13 = .ok (.if_icmp .ge 7, 3) := by decide +kernel
theorem dX3_isAtNumberBelow_16 : decode cX3_isAtNumberBelow 16 = .ok (.iconst 1, 1) := by decide +kernel
theorem dX3_isAtNumberBelow_17 : decode cX3_isAtNumberBelow 17 = .ok (.goto 4, 3) := by decide +kernel
theorem dX3_isAtNumberBelow_20 : decode cX3_isAtNumberBelow 20 = .ok (.iconst 0, 1) := by decide +kernel
theorem dX3_isAtNumberBelow_21 : decode cX3_isAtNumberBelow 21 = .ok (.ireturn, 1) := by decide +kernel
theorem dX3_number_0 : decode cX3_number 0 = .ok (.iconst 0, 1) := by decide +kernel
theorem dX3_number_1 : decode cX3_number 1 = .ok (.istore_n 1, 1) := by decide +kernel
theorem dX3_number_2 : decode cX3_number 2 = .ok (.aload_n 0, 1) := by decide +kernel
theorem dX3_number_3 : decode cX3_number 3 = .ok (.getfield 22, 3) := by decide +kernel
theorem dX3_number_6 : decode cX3_number 6 = .ok (.istore_n 2, 1) := by decide +kernel
theorem dX3_number_7 : decode cX3_number 7 = .ok (.iload_n 2, 1) := by decide +kernel
theorem dX3_number_8 : decode cX3_number 8 = .ok (.aload_n 0, 1) := by decide +kernel
theorem dX3_number_9 : decode cX3_number 9 = .ok (.getfield 25, 3) := by decide +kernel
theorem dX3_number_12 : decode cX3_number 12 = .ok (.if_icmp .ge 30, 3) := by decide +kernel
theorem dX3_number_15 : decode cX3_number 15 = .ok (.sipush 1000, 3) := by decide +kernel
theorem dX3_number_18 : decode cX3_number 18 = .ok (.iload_n 1, 1) := by decide +kernel
theorem dX3_number_19 : decode cX3_number 19 = .ok (.bipush 10, 2) := by decide +kernel
theorem dX3_number_21 : decode cX3_number 21 = .ok (.imul, 1) := by decide +kernel
theorem dX3_number_22 : decode cX3_number 22 = .ok (.aload_n 0, 1) := by decide +kernel
theorem dX3_number_23 : decode cX3_number 23 = .ok (.getfield 9, 3) := by decide +kernel
theorem dX3_number_26 : decode cX3_number 26 = .ok (.iload_n 2, 1) := by decide +kernel
theorem dX3_number_27 : decode cX3_number 27 = .ok (.iaload, 1) := by decide +kernel
theorem dX3_number_28 : decode cX3_number 28 = .ok (.iadd, 1) := by decide +kernel
theorem dX3_number_29 : decode cX3_number 29 = .ok (.bipush 48, 2) := by decide +kernel
theorem dX3_number_31 : decode cX3_number 31 = .ok (.isub, 1) := by decide +kernel
theorem dX3_number_32 : decode cX3_number 32 = .ok (.invokestatic 50, 3) := by decide +kernel
theorem dX3_number_35 : decode cX3_number 35 = .ok (.istore_n 1, 1) := by decide +kernel
theorem dX3_number_36 : decode cX3_number 36 = .ok (.iinc 2 1, 3) := by decide +kernel
theorem dX3_number_39 : decode cX3_number 39 = .ok (.goto (-32), 3) := by decide +kernel
theorem dX3_number_42 : decode cX3_number 42 = .ok (.iload_n 1, 1) := by decide +kernel
theorem dX3_number_43 : decode cX3_number 43 = .ok (.ireturn, 1) := by decide +kernel
theorem dX4_items_0 : decode cX4_items 0 = .ok (.aload_n 0, 1) := by decide +kernel
theorem dX4_items_1 : decode cX4_items 1 = .ok (.invokevirtual 9, 3) := by decide +kernel
theorem dX4_items_4 : decode cX4_items 4 = .ok (.iconst 1, 1) := by decide +kernel
theorem dX4_items_5 : decode cX4_items 5 = .ok (.istore_n 2, 1) := by decide +kernel
theorem dX4_items_6 : decode cX4_items 6 = .ok (.iload_n 2, 1) := by decide +kernel
theorem dX4_items_7 : decode cX4_items 7 = .ok (.bipush 120, 2) := by decide +kernel
theorem dX4_items_9 : decode cX4_items 9 = .ok (.if_icmp .gt 43, 3) := by decide +kernel
theorem dX4_items_12 : decode cX4_items 12 = .ok (.aload_n 0, 1) := by decide +kernel
theorem dX4_items_13 : decode cX4_items 13 = .ok (.aload_n 1, 1) := by decide +kernel
theorem dX4_items_14 : decode cX4_items 14 = .ok (.invokestatic 14, 3) := by decide +kernel
theorem dX4_items_17 : decode cX4_items 17 = .ok (.ifCond .ne 6, 3) := by decide +kernel
theorem dX4_items_20 : decode cX4_items 20 = .ok (.goto 32, 3) := by decide +kernel
theorem dX4_items_23 : decode cX4_items 23 = .ok (.aload_n 0, 1) := by decide +kernel
theorem dX4_items_24 : decode cX4_items 24 = .ok (.invokevirtual 20, 3) := by decide +kernel
theorem dX4_items_27 : decode cX4_items 27 = .ok (.ifCond .eq 5, 3) := by decide +kernel
theorem dX4_items_30 : decode cX4_items 30 = .ok (.iload_n 2, 1) := by decide +kernel
theorem dX4_items_31 : decode cX4_items 31 = .ok (.ireturn, 1) := by decide +kernel
theorem dX4_items_32 : decode cX4_items 32 = .ok (.aload_n 0, 1) := by decide +kernel
theorem dX4_items_33 : decode cX4_items 33 = .ok (.invokevirtual 24, 3) := by decide +kernel
theorem dX4_items_36 : decode cX4_items 36 = .ok (.ifCond .ne 6, 3) := by decide +kernel
theorem dX4_items_39 : decode cX4_items 39 = .ok (.goto 13, 3) := by decide +kernel
theorem dX4_items_42 : decode cX4_items 42 = .ok (.aload_n 0, 1) := by decide +kernel
theorem dX4_items_43 : decode cX4_items 43 = .ok (.invokevirtual 27, 3) := by decide +kernel
theorem dX4_items_46 : decode cX4_items 46 = .ok (.iinc 2 1, 3) := by decide +kernel
theorem dX4_items_49 : decode cX4_items 49 = .ok (.goto (-43), 3) := by decide +kernel
theorem dX4_items_52 : decode cX4_items 52 = .ok (.iconst (-1), 1) := by decide +kernel
theorem dX4_items_53 : decode cX4_items 53 = .ok (.aload_n 0, 1) := by decide +kernel
theorem dX4_items_54 : decode cX4_items 54 = .ok (.getfield 30, 3) := by decide +kernel
theorem dX4_items_57 : decode cX4_items 57 = .ok (.isub, 1) := by decide +kernel
theorem dX4_items_58 : decode cX4_items 58 = .ok (.ireturn, 1) := by decide +kernel
theorem dX4_takesItem_0 : decode cX4_takesItem 0 = .ok (.aload_n 0, 1) := by decide +kernel
theorem dX4_takesItem_1 : decode cX4_takesItem 1 = .ok (.ldc 34, 2) := by decide +kernel
theorem dX4_takesItem_3 : decode cX4_takesItem 3 = .ok (.invokevirtual 36, 3) := by decide +kernel
theorem dX4_takesItem_6 : decode cX4_takesItem 6 = .ok (.ifCond .eq 9, 3) := by decide +kernel
theorem dX4_takesItem_9 : decode cX4_takesItem 9 = .ok (.aload_n 0, 1) := by decide +kernel
theorem dX4_takesItem_10 : decode cX4_takesItem 10 = .ok (.aload_n 1, 1) := by decide +kernel
theorem dX4_takesItem_11 : decode cX4_takesItem 11 = .ok (.invokestatic 40, 3) := by decide +kernel
theorem dX4_takesItem_14 : decode cX4_takesItem 14 = .ok (.ireturn, 1) := by decide +kernel
theorem dX4_takesItem_15 : decode cX4_takesItem 15 = .ok (.aload_n 0, 1) := by decide +kernel
theorem dX4_takesItem_16 : decode cX4_takesItem 16 = .ok (.ldc 43, 2) := by decide +kernel
theorem dX4_takesItem_18 : decode cX4_takesItem 18 = .ok (.invokevirtual 36, 3) := by decide +kernel
theorem dX4_takesItem_21 : decode cX4_takesItem 21 = .ok (.ifCond .eq 10, 3) := by decide +kernel
theorem dX4_takesItem_24 : decode cX4_takesItem 24 = .ok (.aload_n 0, 1) := by decide +kernel
theorem dX4_takesItem_25 : decode cX4_takesItem 25 = .ok (.aload_n 1, 1) := by decide +kernel
theorem dX4_takesItem_26 : decode cX4_takesItem 26 = .ok (.iconst 1, 1) := by decide +kernel
theorem dX4_takesItem_27 : decode cX4_takesItem 27 = .ok (.invokestatic 45, 3) := by decide +kernel
theorem dX4_takesItem_30 : decode cX4_takesItem 30 = .ok (.ireturn, 1) := by decide +kernel
theorem dX4_takesItem_31 : decode cX4_takesItem 31 = .ok (.aload_n 0, 1) := by decide +kernel
theorem dX4_takesItem_32 : decode cX4_takesItem 32 = .ok (.ldc 49, 2) := by decide +kernel
theorem dX4_takesItem_34 : decode cX4_takesItem 34 = .ok (.invokevirtual 36, 3) := by decide +kernel
theorem dX4_takesItem_37 : decode cX4_takesItem 37 = .ok (.ifCond .eq 10, 3) := by decide +kernel
theorem dX4_takesItem_40 : decode cX4_takesItem 40 = .ok (.aload_n 0, 1) := by decide +kernel
theorem dX4_takesItem_41 : decode cX4_takesItem 41 = .ok (.aload_n 1, 1) := by decide +kernel
theorem dX4_takesItem_42 : decode cX4_takesItem 42 = .ok (.iconst 0, 1) := by decide +kernel
theorem dX4_takesItem_43 : decode cX4_takesItem 43 = .ok (.invokestatic 45, 3) := by decide +kernel
theorem dX4_takesItem_46 : decode cX4_takesItem 46 = .ok (.ireturn, 1) := by decide +kernel
theorem dX4_takesItem_47 : decode cX4_takesItem 47 = .ok (.aload_n 0, 1) := by decide +kernel
theorem dX4_takesItem_48 : decode cX4_takesItem 48 = .ok (.invokestatic 51, 3) := by decide +kernel
theorem dX4_takesItem_51 : decode cX4_takesItem 51 = .ok (.istore_n 2, 1) := by decide +kernel
theorem dX4_takesItem_52 : decode cX4_takesItem 52 = .ok (.iload_n 2, 1) := by decide +kernel
theorem dX4_takesItem_53 : decode cX4_takesItem 53 = .ok (.iconst (-1), 1) := by decide +kernel
theorem dX4_takesItem_54 : decode cX4_takesItem 54 = .ok (.if_icmp .eq 23, 3) := by decide +kernel
theorem dX4_takesItem_57 : decode cX4_takesItem 57 = .ok (.aload_n 1, 1) := by decide +kernel
theorem dX4_takesItem_58 : decode cX4_takesItem 58 = .ok (.invokevirtual 55, 3) := by decide +kernel
theorem dX4_takesItem_61 : decode cX4_takesItem 61 = .ok (.ifCond .ne 16, 3) := by decide +kernel
theorem dX4_takesItem_64 : decode cX4_takesItem 64 = .ok (.aload_n 0, 1) := by decide +kernel
theorem dX4_takesItem_65 : decode cX4_takesItem 65 = .ok (.aload_n 1, 1) := by decide +kernel
theorem dX4_takesItem_66 : decode cX4_takesItem 66 = .ok (.iload_n 2, 1) := by decide +kernel
theorem dX4_takesItem_67 : decode cX4_takesItem 67 = .ok (.invokestatic 60, 3) := by decide +kernel
theorem dX4_takesItem_70 : decode cX4_takesItem 70 = .ok (.ifCond .eq 7, 3) := by decide +kernel
theorem dX4_takesItem_73 : decode cX4_takesItem 73 = .ok (.iconst 1, 1) := by decide +kernel
theorem dX4_takesItem_74 : decode cX4_takesItem 74 = .ok (.goto 4, 3) := by decide +kernel
theorem dX4_takesItem_77 : decode cX4_takesItem 77 = .ok (.iconst 0, 1) := by decide +kernel
theorem dX4_takesItem_78 : decode cX4_takesItem 78 = .ok (.ireturn, 1) := by decide +kernel
theorem dX4_takesOne_0 : decode cX4_takesOne 0 = .ok (.aload_n 1, 1) := by decide +kernel
theorem dX4_takesOne_1 : decode cX4_takesOne 1 = .ok (.iload_n 2, 1) := by decide +kernel
theorem dX4_takesOne_2 : decode cX4_takesOne 2 = .ok (.invokevirtual 63, 3) := by decide +kernel
theorem dX4_takesOne_5 : decode cX4_takesOne 5 = .ok (.astore_n 3, 1) := by decide +kernel
theorem dX4_takesOne_6 : decode cX4_takesOne 6 = .ok (.aload_n 0, 1) := by decide +kernel
theorem dX4_takesOne_7 : decode cX4_takesOne 7 = .ok (.invokevirtual 27, 3) := by decide +kernel
theorem dX4_takesOne_10 : decode cX4_takesOne 10 = .ok (.aload_n 0, 1) := by decide +kernel
theorem dX4_takesOne_11 : decode cX4_takesOne 11 = .ok (.ldc 67, 2) := by decide +kernel
theorem dX4_takesOne_13 : decode cX4_takesOne 13 = .ok (.invokevirtual 36, 3) := by decide +kernel
theorem dX4_takesOne_16 : decode cX4_takesOne 16 = .ok (.ifCond .eq 30, 3) := by decide +kernel
theorem dX4_takesOne_19 : decode cX4_takesOne 19 = .ok (.aload_n 0, 1) := by decide +kernel
theorem dX4_takesOne_20 : decode cX4_takesOne 20 = .ok (.invokevirtual 27, 3) := by decide +kernel
theorem dX4_takesOne_23 : decode cX4_takesOne 23 = .ok (.aload_n 0, 1) := by decide +kernel
theorem dX4_takesOne_24 : decode cX4_takesOne 24 = .ok (.bipush 100, 2) := by decide +kernel
theorem dX4_takesOne_26 : decode cX4_takesOne 26 = .ok (.invokevirtual 69, 3) := by decide +kernel
theorem dX4_takesOne_29 : decode cX4_takesOne 29 = .ok (.ifCond .ne 5, 3) := by decide +kernel
theorem dX4_takesOne_32 : decode cX4_takesOne 32 = .ok (.iconst 0, 1) := by decide +kernel
theorem dX4_takesOne_33 : decode cX4_takesOne 33 = .ok (.ireturn, 1) := by decide +kernel
theorem dX4_takesOne_34 : decode cX4_takesOne 34 = .ok (.aload_n 3, 1) := by decide +kernel
theorem dX4_takesOne_35 : decode cX4_takesOne 35 = .ok (.aload_n 0, 1) := by decide +kernel
theorem dX4_takesOne_36 : decode cX4_takesOne 36 = .ok (.invokevirtual 73, 3) := by decide +kernel
theorem dX4_takesOne_39 : decode cX4_takesOne 39 = .ok (.putfield 77, 3) := by decide +kernel
theorem dX4_takesOne_42 : decode cX4_takesOne 42 = .ok (.aload_n 0, 1) := by decide +kernel
theorem dX4_takesOne_43 : decode cX4_takesOne 43 = .ok (.invokevirtual 27, 3) := by decide +kernel
theorem dX4_takesOne_46 : decode cX4_takesOne 46 = .ok (.aload_n 0, 1) := by decide +kernel
theorem dX4_takesOne_47 : decode cX4_takesOne 47 = .ok (.ldc 81, 2) := by decide +kernel
theorem dX4_takesOne_49 : decode cX4_takesOne 49 = .ok (.invokevirtual 36, 3) := by decide +kernel
theorem dX4_takesOne_52 : decode cX4_takesOne 52 = .ok (.ifCond .eq 32, 3) := by decide +kernel
theorem dX4_takesOne_55 : decode cX4_takesOne 55 = .ok (.aload_n 0, 1) := by decide +kernel
theorem dX4_takesOne_56 : decode cX4_takesOne 56 = .ok (.invokevirtual 27, 3) := by decide +kernel
theorem dX4_takesOne_59 : decode cX4_takesOne 59 = .ok (.aload_n 0, 1) := by decide +kernel
theorem dX4_takesOne_60 : decode cX4_takesOne 60 = .ok (.aload_n 1, 1) := by decide +kernel
theorem dX4_takesOne_61 : decode cX4_takesOne 61 = .ok (.getfield 83, 3) := by decide +kernel
theorem dX4_takesOne_64 : decode cX4_takesOne 64 = .ok (.invokevirtual 69, 3) := by decide +kernel
theorem dX4_takesOne_67 : decode cX4_takesOne 67 = .ok (.ifCond .ne 5, 3) := by decide +kernel
theorem dX4_takesOne_70 : decode cX4_takesOne 70 = .ok (.iconst 0, 1) := by decide +kernel
theorem dX4_takesOne_71 : decode cX4_takesOne 71 = .ok (.ireturn, 1) := by decide +kernel
theorem dX4_takesOne_72 : decode cX4_takesOne 72 = .ok (.aload_n 3, 1) := by decide +kernel
theorem dX4_takesOne_73 : decode cX4_takesOne 73 = .ok (.aload_n 0, 1) := by decide +kernel
theorem dX4_takesOne_74 : decode cX4_takesOne 74 = .ok (.invokevirtual 73, 3) := by decide +kernel
theorem dX4_takesOne_77 : decode cX4_takesOne 77 = .ok (.putfield 86, 3) := by decide +kernel
theorem dX4_takesOne_80 : decode cX4_takesOne 80 = .ok (.aload_n 0, 1) := by decide +kernel
theorem dX4_takesOne_81 : decode cX4_takesOne 81 = .ok (.invokevirtual 27, 3) := by decide +kernel
theorem dX4_takesOne_84 : decode cX4_takesOne 84 = .ok (.iconst 1, 1) := by decide +kernel
theorem dX4_takesOne_85 : decode cX4_takesOne 85 = .ok (.ireturn, 1) := by decide +kernel
theorem dX4_takesGrind_0 : decode cX4_takesGrind 0 = .ok (.aload_n 0, 1) := by decide +kernel
theorem dX4_takesGrind_1 : decode cX4_takesGrind 1 = .ok (.invokevirtual 27, 3) := by decide +kernel
theorem dX4_takesGrind_4 : decode cX4_takesGrind 4 = .ok (.aload_n 0, 1) := by decide +kernel
theorem dX4_takesGrind_5 : decode cX4_takesGrind 5 = .ok (.aload_n 1, 1) := by decide +kernel
theorem dX4_takesGrind_6 : decode cX4_takesGrind 6 = .ok (.getfield 83, 3) := by decide +kernel
theorem dX4_takesGrind_9 : decode cX4_takesGrind 9 = .ok (.invokevirtual 69, 3) := by decide +kernel
theorem dX4_takesGrind_12 : decode cX4_takesGrind 12 = .ok (.ifCond .ne 5, 3) := by decide +kernel
theorem dX4_takesGrind_15 : decode cX4_takesGrind 15 = .ok (.iconst 0, 1) := by decide +kernel
theorem dX4_takesGrind_16 : decode cX4_takesGrind 16 = .ok (.ireturn, 1) := by decide +kernel
theorem dX4_takesGrind_17 : decode cX4_takesGrind 17 = .ok (.aload_n 1, 1) := by decide +kernel
theorem dX4_takesGrind_18 : decode cX4_takesGrind 18 = .ok (.getfield 88, 3) := by decide +kernel
theorem dX4_takesGrind_21 : decode cX4_takesGrind 21 = .ok (.aload_n 0, 1) := by decide +kernel
theorem dX4_takesGrind_22 : decode cX4_takesGrind 22 = .ok (.invokevirtual 73, 3) := by decide +kernel
theorem dX4_takesGrind_25 : decode cX4_takesGrind 25 = .ok (.aaload, 1) := by decide +kernel
theorem dX4_takesGrind_26 : decode cX4_takesGrind 26 = .ok (.astore_n 2, 1) := by decide +kernel
theorem dX4_takesGrind_27 : decode cX4_takesGrind 27 = .ok (.aload_n 2, 1) := by decide +kernel
theorem dX4_takesGrind_28 : decode cX4_takesGrind 28 = .ok (.getfield 86, 3) := by decide +kernel
theorem dX4_takesGrind_31 : decode cX4_takesGrind 31 = .ok (.iconst (-1), 1) := by decide +kernel
theorem dX4_takesGrind_32 : decode cX4_takesGrind 32 = .ok (.if_icmp .ne 5, 3) := by decide +kernel
theorem dX4_takesGrind_35 : decode cX4_takesGrind 35 = .ok (.iconst 0, 1) := by decide +kernel
theorem dX4_takesGrind_36 : decode cX4_takesGrind 36 = .ok (.ireturn, 1) := by decide +kernel
theorem dX4_takesGrind_37 : decode cX4_takesGrind 37 = .ok (.aload_n 2, 1) := by decide +kernel
theorem dX4_takesGrind_38 : decode cX4_takesGrind 38 = .ok (.invokevirtual 92, 3) := by decide +kernel
theorem dX4_takesGrind_41 : decode cX4_takesGrind 41 = .ok (.aload_n 0, 1) := by decide +kernel
theorem dX4_takesGrind_42 : decode cX4_takesGrind 42 = .ok (.invokevirtual 27, 3) := by decide +kernel
theorem dX4_takesGrind_45 : decode cX4_takesGrind 45 = .ok (.iconst 1, 1) := by decide +kernel
theorem dX4_takesGrind_46 : decode cX4_takesGrind 46 = .ok (.ireturn, 1) := by decide +kernel
theorem dX4_takesUp_0 : decode cX4_takesUp 0 = .ok (.aload_n 0, 1) := by decide +kernel
theorem dX4_takesUp_1 : decode cX4_takesUp 1 = .ok (.invokevirtual 27, 3) := by decide +kernel
theorem dX4_takesUp_4 : decode cX4_takesUp 4 = .ok (.aload_n 0, 1) := by decide +kernel
theorem dX4_takesUp_5 : decode cX4_takesUp 5 = .ok (.aload_n 1, 1) := by decide +kernel
theorem dX4_takesUp_6 : decode cX4_takesUp 6 = .ok (.getfield 83, 3) := by decide +kernel
theorem dX4_takesUp_9 : decode cX4_takesUp 9 = .ok (.invokevirtual 69, 3) := by decide +kernel
theorem dX4_takesUp_12 : decode cX4_takesUp 12 = .ok (.ifCond .ne 5, 3) := by decide +kernel
theorem dX4_takesUp_15 : decode cX4_takesUp 15 = .ok (.iconst 0, 1) := by decide +kernel
theorem dX4_takesUp_16 : decode cX4_takesUp 16 = .ok (.ireturn, 1) := by decide +kernel
theorem dX4_takesUp_17 : decode cX4_takesUp 17 = .ok (.aload_n 1, 1) := by decide +kernel
theorem dX4_takesUp_18 : decode cX4_takesUp 18 = .ok (.getfield 88, 3) := by decide +kernel
theorem dX4_takesUp_21 : decode cX4_takesUp 21 = .ok (.aload_n 0, 1) := by decide +kernel
theorem dX4_takesUp_22 : decode cX4_takesUp 22 = .ok (.invokevirtual 73, 3) := by decide +kernel
theorem dX4_takesUp_25 : decode cX4_takesUp 25 = .ok (.aaload, 1) := by decide +kernel
theorem dX4_takesUp_26 : decode cX4_takesUp 26 = .ok (.iload_n 2, 1) := by decide +kernel
theorem dX4_takesUp_27 : decode cX4_takesUp 27 = .ok (.putfield 95, 3) := by decide +kernel
theorem dX4_takesUp_30 : decode cX4_takesUp 30 = .ok (.aload_n 0, 1) := by decide +kernel
theorem dX4_takesUp_31 : decode cX4_takesUp 31 = .ok (.invokevirtual 27, 3) := by decide +kernel
theorem dX4_takesUp_34 : decode cX4_takesUp 34 = .ok (.iconst 1, 1) := by decide +kernel
theorem dX4_takesUp_35 : decode cX4_takesUp 35 = .ok (.ireturn, 1) := by decide +kernel
theorem dX4_kindThere_0 : decode cX4_kindThere 0 = .ok (.iconst 0, 1) := by decide +kernel
theorem dX4_kindThere_1 : decode cX4_kindThere 1 = .ok (.istore_n 1, 1) := by decide +kernel
theorem dX4_kindThere_2 : decode cX4_kindThere 2 = .ok (.iload_n 1, 1) := by decide +kernel
theorem dX4_kindThere_3 : decode cX4_kindThere 3 = .ok (.bipush 6, 2) := by decide +kernel
theorem dX4_kindThere_5 : decode cX4_kindThere 5 = .ok (.if_icmp .ge 22, 3) := by decide +kernel
theorem dX4_kindThere_8 : decode cX4_kindThere 8 = .ok (.aload_n 0, 1) := by decide +kernel
theorem dX4_kindThere_9 : decode cX4_kindThere 9 = .ok (.iload_n 1, 1) := by decide +kernel
theorem dX4_kindThere_10 : decode cX4_kindThere 10 = .ok (.invokestatic 97, 3) := by decide +kernel
theorem dX4_kindThere_13 : decode cX4_kindThere 13 = .ok (.invokevirtual 36, 3) := by decide +kernel
theorem dX4_kindThere_16 : decode cX4_kindThere 16 = .ok (.ifCond .eq 5, 3) := by decide +kernel
theorem dX4_kindThere_19 : decode cX4_kindThere 19 = .ok (.iload_n 1, 1) := by decide +kernel
theorem dX4_kindThere_20 : decode cX4_kindThere 20 = .ok (.ireturn, 1) := by decide +kernel
theorem dX4_kindThere_21 : decode cX4_kindThere 21 = .ok (.iinc 1 1, 3) := by decide +kernel
theorem dX4_kindThere_24 : decode cX4_kindThere 24 = .ok (.goto (-22), 3) := by decide +kernel
theorem dX4_kindThere_27 : decode cX4_kindThere 27 = .ok (.iconst (-1), 1) := by decide +kernel
theorem dX4_kindThere_28 : decode cX4_kindThere 28 = .ok (.ireturn, 1) := by decide +kernel
theorem dX4_nameOf_0 : decode cX4_nameOf 0 = .ok (.iload_n 0, 1) := by decide +kernel
theorem dX4_nameOf_1 : decode cX4_nameOf 1 = .ok (.tableswitch 50 1 5 #[35, 38, 41, 44, 47], 35) := by decide +kernel
theorem dX4_nameOf_36 : decode cX4_nameOf 36 = .ok (.ldc 101, 2) := by decide +kernel
theorem dX4_nameOf_38 : decode cX4_nameOf 38 = .ok (.areturn, 1) := by decide +kernel
theorem dX4_nameOf_39 : decode cX4_nameOf 39 = .ok (.ldc 103, 2) := by decide +kernel
theorem dX4_nameOf_41 : decode cX4_nameOf 41 = .ok (.areturn, 1) := by decide +kernel
theorem dX4_nameOf_42 : decode cX4_nameOf 42 = .ok (.ldc 105, 2) := by decide +kernel
theorem dX4_nameOf_44 : decode cX4_nameOf 44 = .ok (.areturn, 1) := by decide +kernel
theorem dX4_nameOf_45 : decode cX4_nameOf 45 = .ok (.ldc 107, 2) := by decide +kernel
theorem dX4_nameOf_47 : decode cX4_nameOf 47 = .ok (.areturn, 1) := by decide +kernel
theorem dX4_nameOf_48 : decode cX4_nameOf 48 = .ok (.ldc 109, 2) := by decide +kernel
theorem dX4_nameOf_50 : decode cX4_nameOf 50 = .ok (.areturn, 1) := by decide +kernel
theorem dX4_nameOf_51 : decode cX4_nameOf 51 = .ok (.ldc 111, 2) := by decide +kernel
theorem dX4_nameOf_53 : decode cX4_nameOf 53 = .ok (.areturn, 1) := by decide +kernel
theorem dX5_init_0 : decode cX5_init 0 = .ok (.aload_n 0, 1) := by decide +kernel
theorem dX5_init_1 : decode cX5_init 1 = .ok (.invokespecial 3, 3) := by decide +kernel
theorem dX5_init_4 : decode cX5_init 4 = .ok (.aload_n 0, 1) := by decide +kernel
theorem dX5_init_5 : decode cX5_init 5 = .ok (.new 9, 3) := by decide +kernel
theorem dX5_init_8 : decode cX5_init 8 = .ok (.dup, 1) := by decide +kernel
theorem dX5_init_9 : decode cX5_init 9 = .ok (.invokespecial 11, 3) := by decide +kernel
theorem dX5_init_12 : decode cX5_init 12 = .ok (.putfield 12, 3) := by decide +kernel
theorem dX5_init_15 : decode cX5_init 15 = .ok (.aload_n 0, 1) := by decide +kernel
theorem dX5_init_16 : decode cX5_init 16 = .ok (.new 9, 3) := by decide +kernel
theorem dX5_init_19 : decode cX5_init 19 = .ok (.dup, 1) := by decide +kernel
theorem dX5_init_20 : decode cX5_init 20 = .ok (.invokespecial 11, 3) := by decide +kernel
theorem dX5_init_23 : decode cX5_init 23 = .ok (.putfield 16, 3) := by decide +kernel
theorem dX5_init_26 : decode cX5_init 26 = .ok (.aload_n 0, 1) := by decide +kernel
theorem dX5_init_27 : decode cX5_init 27 = .ok (.new 9, 3) := by decide +kernel
theorem dX5_init_30 : decode cX5_init 30 = .ok (.dup, 1) := by decide +kernel
theorem dX5_init_31 : decode cX5_init 31 = .ok (.invokespecial 11, 3) := by decide +kernel
theorem dX5_init_34 : decode cX5_init 34 = .ok (.putfield 19, 3) := by decide +kernel
theorem dX5_init_37 : decode cX5_init 37 = .ok (.aload_n 0, 1) := by decide +kernel
theorem dX5_init_38 : decode cX5_init 38 = .ok (.new 22, 3) := by decide +kernel
theorem dX5_init_41 : decode cX5_init 41 = .ok (.dup, 1) := by decide +kernel
theorem dX5_init_42 : decode cX5_init 42 = .ok (.invokespecial 24, 3) := by decide +kernel
theorem dX5_init_45 : decode cX5_init 45 = .ok (.putfield 25, 3) := by decide +kernel
theorem dX5_init_48 : decode cX5_init 48 = .ok (.aload_n 0, 1) := by decide +kernel
theorem dX5_init_49 : decode cX5_init 49 = .ok (.new 29, 3) := by decide +kernel
theorem dX5_init_52 : decode cX5_init 52 = .ok (.dup, 1) := by decide +kernel
theorem dX5_init_53 : decode cX5_init 53 = .ok (.invokespecial 31, 3) := by decide +kernel
theorem dX5_init_56 : decode cX5_init 56 = .ok (.putfield 32, 3) := by decide +kernel
theorem dX5_init_59 : decode cX5_init 59 = .ok (.aload_n 0, 1) := by decide +kernel
theorem dX5_init_60 : decode cX5_init 60 = .ok (.iconst 4, 1) := by decide +kernel
theorem dX5_init_61 : decode cX5_init 61 = .ok (.anewarray 36, 3) := by decide +kernel
theorem dX5_init_64 : decode cX5_init 64 = .ok (.putfield 38, 3) := by decide +kernel
theorem dX5_init_67 : decode cX5_init 67 = .ok (.aload_n 0, 1) := by decide +kernel
theorem dX5_init_68 : decode cX5_init 68 = .ok (.bipush 7, 2) := by decide +kernel
theorem dX5_init_70 : decode cX5_init 70 = .ok (.newarray .int, 2) := by decide +kernel
theorem dX5_init_72 : decode cX5_init 72 = .ok (.putfield 42, 3) := by decide +kernel
theorem dX5_init_75 : decode cX5_init 75 = .ok (.aload_n 0, 1) := by decide +kernel
theorem dX5_init_76 : decode cX5_init 76 = .ok (.iconst 0, 1) := by decide +kernel
theorem dX5_init_77 : decode cX5_init 77 = .ok (.putfield 46, 3) := by decide +kernel
theorem dX5_init_80 : decode cX5_init 80 = .ok (.iconst 0, 1) := by decide +kernel
theorem dX5_init_81 : decode cX5_init 81 = .ok (.istore_n 1, 1) := by decide +kernel
theorem dX5_init_82 : decode cX5_init 82 = .ok (.iload_n 1, 1) := by decide +kernel
theorem dX5_init_83 : decode cX5_init 83 = .ok (.iconst 4, 1) := by decide +kernel
theorem dX5_init_84 : decode cX5_init 84 = .ok (.if_icmp .ge 22, 3) := by decide +kernel
theorem dX5_init_87 : decode cX5_init 87 = .ok (.aload_n 0, 1) := by decide +kernel
theorem dX5_init_88 : decode cX5_init 88 = .ok (.getfield 38, 3) := by decide +kernel
theorem dX5_init_91 : decode cX5_init 91 = .ok (.iload_n 1, 1) := by decide +kernel
theorem dX5_init_92 : decode cX5_init 92 = .ok (.new 36, 3) := by decide +kernel
theorem dX5_init_95 : decode cX5_init 95 = .ok (.dup, 1) := by decide +kernel
theorem dX5_init_96 : decode cX5_init 96 = .ok (.invokespecial 50, 3) := by decide +kernel
theorem dX5_init_99 : decode cX5_init 99 = .ok (.aastore, 1) := by decide +kernel
theorem dX5_init_100 : decode cX5_init 100 = .ok (.iinc 1 1, 3) := by decide +kernel
theorem dX5_init_103 : decode cX5_init 103 = .ok (.goto (-21), 3) := by decide +kernel
theorem dX5_init_106 : decode cX5_init 106 = .ok (.return_, 1) := by decide +kernel
theorem dX5_person_0 : decode cX5_person 0 = .ok (.iload_n 1, 1) := by decide +kernel
theorem dX5_person_1 : decode cX5_person 1 = .ok (.invokestatic 51, 3) := by decide +kernel
theorem dX5_person_4 : decode cX5_person 4 = .ok (.ifCond .ne 10, 3) := by decide +kernel
theorem dX5_person_7 : decode cX5_person 7 = .ok (.aload_n 0, 1) := by decide +kernel
theorem dX5_person_8 : decode cX5_person 8 = .ok (.ldc 55, 2) := by decide +kernel
theorem dX5_person_10 : decode cX5_person 10 = .ok (.invokevirtual 56, 3) := by decide +kernel
theorem dX5_person_13 : decode cX5_person 13 = .ok (.ireturn, 1) := by decide +kernel
theorem dX5_person_14 : decode cX5_person 14 = .ok (.aload_n 0, 1) := by decide +kernel
theorem dX5_person_15 : decode cX5_person 15 = .ok (.getfield 12, 3) := by decide +kernel
theorem dX5_person_18 : decode cX5_person 18 = .ok (.invokevirtual 60, 3) := by decide +kernel
theorem dX5_person_21 : decode cX5_person 21 = .ok (.ifCond .eq 10, 3) := by decide +kernel
theorem dX5_person_24 : decode cX5_person 24 = .ok (.aload_n 0, 1) := by decide +kernel
theorem dX5_person_25 : decode cX5_person 25 = .ok (.ldc 64, 2) := by decide +kernel
theorem dX5_person_27 : decode cX5_person 27 = .ok (.invokevirtual 56, 3) := by decide +kernel
theorem dX5_person_30 : decode cX5_person 30 = .ok (.ireturn, 1) := by decide +kernel
theorem dX5_person_31 : decode cX5_person 31 = .ok (.aload_n 0, 1) := by decide +kernel
theorem dX5_person_32 : decode cX5_person 32 = .ok (.getfield 12, 3) := by decide +kernel
theorem dX5_person_35 : decode cX5_person 35 = .ok (.iload_n 1, 1) := by decide +kernel
theorem dX5_person_36 : decode cX5_person 36 = .ok (.invokevirtual 65, 3) := by decide +kernel
theorem dX5_person_39 : decode cX5_person 39 = .ok (.getfield 69, 3) := by decide +kernel
theorem dX5_person_42 : decode cX5_person 42 = .ok (.ireturn, 1) := by decide +kernel
theorem dX5_of_0 : decode cX5_of 0 = .ok (.aload_n 0, 1) := by decide +kernel
theorem dX5_of_1 : decode cX5_of 1 = .ok (.iload_n 1, 1) := by decide +kernel
theorem dX5_of_2 : decode cX5_of 2 = .ok (.invokevirtual 73, 3) := by decide +kernel
theorem dX5_of_5 : decode cX5_of 5 = .ok (.ifCond .eq 13, 3) := by decide +kernel
theorem dX5_of_8 : decode cX5_of 8 = .ok (.iload_n 2, 1) := by decide +kernel
theorem dX5_of_9 : decode cX5_of 9 = .ok (.ifCond .lt 9, 3) := by decide +kernel
theorem dX5_of_12 : decode cX5_of 12 = .ok (.iload_n 2, 1) := by decide +kernel
theorem dX5_of_13 : decode cX5_of 13 = .ok (.bipush 9, 2) := by decide +kernel
theorem dX5_of_15 : decode cX5_of 15 = .ok (.if_icmp .le 10, 3) := by decide +kernel
theorem dX5_of_18 : decode cX5_of 18 = .ok (.aload_n 0, 1) := by decide +kernel
theorem dX5_of_19 : decode cX5_of 19 = .ok (.ldc 55, 2) := by decide +kernel
theorem dX5_of_21 : decode cX5_of 21 = .ok (.invokevirtual 56, 3) := by decide +kernel
theorem dX5_of_24 : decode cX5_of 24 = .ok (.ireturn, 1) := by decide +kernel
theorem dX5_of_25 : decode cX5_of 25 = .ok (.aload_n 0, 1) := by decide +kernel
theorem dX5_of_26 : decode cX5_of 26 = .ok (.getfield 12, 3) := by decide +kernel
theorem dX5_of_29 : decode cX5_of 29 = .ok (.getfield 76, 3) := by decide +kernel
theorem dX5_of_32 : decode cX5_of 32 = .ok (.iload_n 1, 1) := by decide +kernel
theorem dX5_of_33 : decode cX5_of 33 = .ok (.aaload, 1) := by decide +kernel
theorem dX5_of_34 : decode cX5_of 34 = .ok (.iload_n 2, 1) := by decide +kernel
theorem dX5_of_35 : decode cX5_of 35 = .ok (.invokevirtual 80, 3) := by decide +kernel
theorem dX5_of_38 : decode cX5_of 38 = .ok (.ireturn, 1) := by decide +kernel
theorem dX5_set_0 : decode cX5_set 0 = .ok (.aload_n 0, 1) := by decide +kernel
theorem dX5_set_1 : decode cX5_set 1 = .ok (.iload_n 1, 1) := by decide +kernel
theorem dX5_set_2 : decode cX5_set 2 = .ok (.invokevirtual 73, 3) := by decide +kernel
theorem dX5_set_5 : decode cX5_set 5 = .ok (.ifCond .eq 12, 3) := by decide +kernel
theorem dX5_set_8 : decode cX5_set 8 = .ok (.aload_n 0, 1) := by decide +kernel
theorem dX5_set_9 : decode cX5_set 9 = .ok (.iload_n 2, 1) := by decide +kernel
theorem dX5_set_10 : decode cX5_set 10 = .ok (.iload_n 3, 1) := by decide +kernel
theorem dX5_set_11 : decode cX5_set 11 = .ok (.invokevirtual 83, 3) := by decide +kernel
theorem dX5_set_14 : decode cX5_set 14 = .ok (.ifCond .ne 10, 3) := by decide +kernel
theorem dX5_set_17 : decode cX5_set 17 = .ok (.aload_n 0, 1) := by decide +kernel
theorem dX5_set_18 : decode cX5_set 18 = .ok (.ldc 55, 2) := by decide +kernel
theorem dX5_set_20 : decode cX5_set 20 = .ok (.invokevirtual 56, 3) := by decide +kernel
theorem dX5_set_23 : decode cX5_set 23 = .ok (.ireturn, 1) := by decide +kernel
theorem dX5_set_24 : decode cX5_set 24 = .ok (.aload_n 0, 1) := by decide +kernel
theorem dX5_set_25 : decode cX5_set 25 = .ok (.getfield 12, 3) := by decide +kernel
theorem dX5_set_28 : decode cX5_set 28 = .ok (.getfield 76, 3) := by decide +kernel
theorem dX5_set_31 : decode cX5_set 31 = .ok (.iload_n 1, 1) := by decide +kernel
theorem dX5_set_32 : decode cX5_set 32 = .ok (.aaload, 1) := by decide +kernel
theorem dX5_set_33 : decode cX5_set 33 = .ok (.astore 4, 2) := by decide +kernel
theorem dX5_set_35 : decode cX5_set 35 = .ok (.aload 4, 2) := by decide +kernel
theorem dX5_set_37 : decode cX5_set 37 = .ok (.iload_n 2, 1) := by decide +kernel
theorem dX5_set_38 : decode cX5_set 38 = .ok (.invokevirtual 80, 3) := by decide +kernel
theorem dX5_set_41 : decode cX5_set 41 = .ok (.istore 5, 2) := by decide +kernel
theorem dX5_set_43 : decode cX5_set 43 = .ok (.aload 4, 2) := by decide +kernel
theorem dX5_set_45 : decode cX5_set 45 = .ok (.iload_n 2, 1) := by decide +kernel
theorem dX5_set_46 : decode cX5_set 46 = .ok (.iload_n 3, 1) := by decide +kernel
theorem dX5_set_47 : decode cX5_set 47 = .ok (.invokevirtual 87, 3) := by decide +kernel
theorem dX5_set_50 : decode cX5_set 50 = .ok (.iload 5, 2) := by decide +kernel
theorem dX5_set_52 : decode cX5_set 52 = .ok (.ireturn, 1) := by decide +kernel
theorem dX5_turn_0 : decode cX5_turn 0 = .ok (.aload_n 0, 1) := by decide +kernel
theorem dX5_turn_1 : decode cX5_turn 1 = .ok (.iload_n 1, 1) := by decide +kernel
theorem dX5_turn_2 : decode cX5_turn 2 = .ok (.invokevirtual 73, 3) := by decide +kernel
theorem dX5_turn_5 : decode cX5_turn 5 = .ok (.ifCond .eq 10, 3) := by decide +kernel
theorem dX5_turn_8 : decode cX5_turn 8 = .ok (.iload_n 2, 1) := by decide +kernel
theorem dX5_turn_9 : decode cX5_turn 9 = .ok (.invokestatic 51, 3) := by decide +kernel
theorem dX5_turn_12 : decode cX5_turn 12 = .ok (.ifCond .ne 10, 3) := by decide +kernel
theorem dX5_turn_15 : decode cX5_turn 15 = .ok (.aload_n 0, 1) := by decide +kernel
theorem dX5_turn_16 : decode cX5_turn 16 = .ok (.ldc 55, 2) := by decide +kernel
theorem dX5_turn_18 : decode cX5_turn 18 = .ok (.invokevirtual 56, 3) := by decide +kernel
theorem dX5_turn_21 : decode cX5_turn 21 = .ok (.ireturn, 1) := by decide +kernel
theorem dX5_turn_22 : decode cX5_turn 22 = .ok (.aload_n 0, 1) := by decide +kernel
theorem dX5_turn_23 : decode cX5_turn 23 = .ok (.getfield 12, 3) := by decide +kernel
theorem dX5_turn_26 : decode cX5_turn 26 = .ok (.getfield 76, 3) := by decide +kernel
theorem dX5_turn_29 : decode cX5_turn 29 = .ok (.iload_n 1, 1) := by decide +kernel
theorem dX5_turn_30 : decode cX5_turn 30 = .ok (.aaload, 1) := by decide +kernel
theorem dX5_turn_31 : decode cX5_turn 31 = .ok (.astore_n 3, 1) := by decide +kernel
theorem dX5_turn_32 : decode cX5_turn 32 = .ok (.aload_n 3, 1) := by decide +kernel
theorem dX5_turn_33 : decode cX5_turn 33 = .ok (.getfield 91, 3) := by decide +kernel
theorem dX5_turn_36 : decode cX5_turn 36 = .ok (.istore 4, 2) := by decide +kernel
theorem dX5_turn_38 : decode cX5_turn 38 = .ok (.aload_n 3, 1) := by decide +kernel
theorem dX5_turn_39 : decode cX5_turn 39 = .ok (.iload_n 2, 1) := by decide +kernel
theorem dX5_turn_40 : decode cX5_turn 40 = .ok (.putfield 91, 3) := by decide +kernel
theorem dX5_turn_43 : decode cX5_turn 43 = .ok (.iload 4, 2) := by decide +kernel
theorem dX5_turn_45 : decode cX5_turn 45 = .ok (.ireturn, 1) := by decide +kernel
theorem dX5_as_0 : decode cX5_as 0 = .ok (.aload_n 0, 1) := by decide +kernel
theorem dX5_as_1 : decode cX5_as 1 = .ok (.iload_n 1, 1) := by decide +kernel
theorem dX5_as_2 : decode cX5_as 2 = .ok (.invokevirtual 73, 3) := by decide +kernel
theorem dX5_as_5 : decode cX5_as 5 = .ok (.ifCond .eq 10, 3) := by decide +kernel
theorem dX5_as_8 : decode cX5_as 8 = .ok (.iload_n 2, 1) := by decide +kernel
theorem dX5_as_9 : decode cX5_as 9 = .ok (.invokestatic 51, 3) := by decide +kernel
theorem dX5_as_12 : decode cX5_as 12 = .ok (.ifCond .ne 10, 3) := by decide +kernel
theorem dX5_as_15 : decode cX5_as 15 = .ok (.aload_n 0, 1) := by decide +kernel
theorem dX5_as_16 : decode cX5_as 16 = .ok (.ldc 55, 2) := by decide +kernel
theorem dX5_as_18 : decode cX5_as 18 = .ok (.invokevirtual 56, 3) := by decide +kernel
theorem dX5_as_21 : decode cX5_as 21 = .ok (.ireturn, 1) := by decide +kernel
theorem dX5_as_22 : decode cX5_as 22 = .ok (.aload_n 0, 1) := by decide +kernel
theorem dX5_as_23 : decode cX5_as 23 = .ok (.getfield 12, 3) := by decide +kernel
theorem dX5_as_26 : decode cX5_as 26 = .ok (.getfield 76, 3) := by decide +kernel
theorem dX5_as_29 : decode cX5_as 29 = .ok (.iload_n 1, 1) := by decide +kernel
theorem dX5_as_30 : decode cX5_as 30 = .ok (.aaload, 1) := by decide +kernel
theorem dX5_as_31 : decode cX5_as 31 = .ok (.astore_n 3, 1) := by decide +kernel
theorem dX5_as_32 : decode cX5_as 32 = .ok (.aload_n 3, 1) := by decide +kernel
theorem dX5_as_33 : decode cX5_as 33 = .ok (.getfield 91, 3) := by decide +kernel
theorem dX5_as_36 : decode cX5_as 36 = .ok (.iload_n 2, 1) := by decide +kernel
theorem dX5_as_37 : decode cX5_as 37 = .ok (.invokestatic 94, 3) := by decide +kernel
theorem dX5_as_40 : decode cX5_as 40 = .ok (.ifCond .ne 10, 3) := by decide +kernel
theorem dX5_as_43 : decode cX5_as 43 = .ok (.aload_n 0, 1) := by decide +kernel
theorem dX5_as_44 : decode cX5_as 44 = .ok (.ldc 97, 2) := by decide +kernel
theorem dX5_as_46 : decode cX5_as 46 = .ok (.invokevirtual 56, 3) := by decide +kernel
theorem dX5_as_49 : decode cX5_as 49 = .ok (.ireturn, 1) := by decide +kernel
theorem dX5_as_50 : decode cX5_as 50 = .ok (.aload_n 3, 1) := by decide +kernel
theorem dX5_as_51 : decode cX5_as 51 = .ok (.getfield 98, 3) := by decide +kernel
theorem dX5_as_54 : decode cX5_as 54 = .ok (.ireturn, 1) := by decide +kernel
theorem dX5_grind_0 : decode cX5_grind 0 = .ok (.aload_n 0, 1) := by decide +kernel
theorem dX5_grind_1 : decode cX5_grind 1 = .ok (.iload_n 1, 1) := by decide +kernel
theorem dX5_grind_2 : decode cX5_grind 2 = .ok (.invokevirtual 73, 3) := by decide +kernel
theorem dX5_grind_5 : decode cX5_grind 5 = .ok (.ifCond .ne 10, 3) := by decide +kernel
theorem dX5_grind_8 : decode cX5_grind 8 = .ok (.aload_n 0, 1) := by decide +kernel
theorem dX5_grind_9 : decode cX5_grind 9 = .ok (.ldc 55, 2) := by decide +kernel
theorem dX5_grind_11 : decode cX5_grind 11 = .ok (.invokevirtual 56, 3) := by decide +kernel
theorem dX5_grind_14 : decode cX5_grind 14 = .ok (.ireturn, 1) := by decide +kernel
theorem dX5_grind_15 : decode cX5_grind 15 = .ok (.aload_n 0, 1) := by decide +kernel
theorem dX5_grind_16 : decode cX5_grind 16 = .ok (.getfield 12, 3) := by decide +kernel
theorem dX5_grind_19 : decode cX5_grind 19 = .ok (.getfield 76, 3) := by decide +kernel
theorem dX5_grind_22 : decode cX5_grind 22 = .ok (.iload_n 1, 1) := by decide +kernel
theorem dX5_grind_23 : decode cX5_grind 23 = .ok (.aaload, 1) := by decide +kernel
theorem dX5_grind_24 : decode cX5_grind 24 = .ok (.astore_n 2, 1) := by decide +kernel
theorem dX5_grind_25 : decode cX5_grind 25 = .ok (.aload_n 2, 1) := by decide +kernel
theorem dX5_grind_26 : decode cX5_grind 26 = .ok (.getfield 101, 3) := by decide +kernel
theorem dX5_grind_29 : decode cX5_grind 29 = .ok (.iconst (-1), 1) := by decide +kernel
theorem dX5_grind_30 : decode cX5_grind 30 = .ok (.if_icmp .ne 10, 3) := by decide +kernel
theorem dX5_grind_33 : decode cX5_grind 33 = .ok (.aload_n 0, 1) := by decide +kernel
theorem dX5_grind_34 : decode cX5_grind 34 = .ok (.ldc 104, 2) := by decide +kernel
theorem dX5_grind_36 : decode cX5_grind 36 = .ok (.invokevirtual 56, 3) := by decide +kernel
theorem dX5_grind_39 : decode cX5_grind 39 = .ok (.ireturn, 1) := by decide +kernel
theorem dX5_grind_40 : decode cX5_grind 40 = .ok (.aload_n 2, 1) := by decide +kernel
theorem dX5_grind_41 : decode cX5_grind 41 = .ok (.invokevirtual 105, 3) := by decide +kernel
theorem dX5_grind_44 : decode cX5_grind 44 = .ok (.aload_n 2, 1) := by decide +kernel
theorem dX5_grind_45 : decode cX5_grind 45 = .ok (.getfield 108, 3) := by decide +kernel
theorem dX5_grind_48 : decode cX5_grind 48 = .ok (.ireturn, 1) := by decide +kernel
theorem dX5_lend_0 : decode cX5_lend 0 = .ok (.aload_n 0, 1) := by decide +kernel
theorem dX5_lend_1 : decode cX5_lend 1 = .ok (.iload_n 1, 1) := by decide +kernel
theorem dX5_lend_2 : decode cX5_lend 2 = .ok (.iload_n 2, 1) := by decide +kernel
theorem dX5_lend_3 : decode cX5_lend 3 = .ok (.invokevirtual 111, 3) := by decide +kernel
theorem dX5_lend_6 : decode cX5_lend 6 = .ok (.ifCond .ne 10, 3) := by decide +kernel
theorem dX5_lend_9 : decode cX5_lend 9 = .ok (.aload_n 0, 1) := by decide +kernel
theorem dX5_lend_10 : decode cX5_lend 10 = .ok (.ldc 55, 2) := by decide +kernel
theorem dX5_lend_12 : decode cX5_lend 12 = .ok (.invokevirtual 56, 3) := by decide +kernel
theorem dX5_lend_15 : decode cX5_lend 15 = .ok (.ireturn, 1) := by decide +kernel
theorem dX5_lend_16 : decode cX5_lend 16 = .ok (.aload_n 0, 1) := by decide +kernel
theorem dX5_lend_17 : decode cX5_lend 17 = .ok (.getfield 12, 3) := by decide +kernel
theorem dX5_lend_20 : decode cX5_lend 20 = .ok (.getfield 76, 3) := by decide +kernel
theorem dX5_lend_23 : decode cX5_lend 23 = .ok (.iload_n 1, 1) := by decide +kernel
theorem dX5_lend_24 : decode cX5_lend 24 = .ok (.aaload, 1) := by decide +kernel
theorem dX5_lend_25 : decode cX5_lend 25 = .ok (.astore_n 3, 1) := by decide +kernel
theorem dX5_lend_26 : decode cX5_lend 26 = .ok (.aload_n 0, 1) := by decide +kernel
theorem dX5_lend_27 : decode cX5_lend 27 = .ok (.getfield 12, 3) := by decide +kernel
theorem dX5_lend_30 : decode cX5_lend 30 = .ok (.getfield 76, 3) := by decide +kernel
theorem dX5_lend_33 : decode cX5_lend 33 = .ok (.iload_n 2, 1) := by decide +kernel
theorem dX5_lend_34 : decode cX5_lend 34 = .ok (.aaload, 1) := by decide +kernel
theorem dX5_lend_35 : decode cX5_lend 35 = .ok (.astore 4, 2) := by decide +kernel
theorem dX5_lend_37 : decode cX5_lend 37 = .ok (.aload_n 0, 1) := by decide +kernel
theorem dX5_lend_38 : decode cX5_lend 38 = .ok (.getfield 25, 3) := by decide +kernel
theorem dX5_lend_41 : decode cX5_lend 41 = .ok (.aload_n 3, 1) := by decide +kernel
theorem dX5_lend_42 : decode cX5_lend 42 = .ok (.invokevirtual 114, 3) := by decide +kernel
theorem dX5_lend_45 : decode cX5_lend 45 = .ok (.aload_n 3, 1) := by decide +kernel
theorem dX5_lend_46 : decode cX5_lend 46 = .ok (.aload 4, 2) := by decide +kernel
theorem dX5_lend_48 : decode cX5_lend 48 = .ok (.invokevirtual 114, 3) := by decide +kernel
theorem dX5_lend_51 : decode cX5_lend 51 = .ok (.aload 4, 2) := by decide +kernel
theorem dX5_lend_53 : decode cX5_lend 53 = .ok (.aload_n 0, 1) := by decide +kernel
theorem dX5_lend_54 : decode cX5_lend 54 = .ok (.getfield 25, 3) := by decide +kernel
theorem dX5_lend_57 : decode cX5_lend 57 = .ok (.invokevirtual 114, 3) := by decide +kernel
theorem dX5_lend_60 : decode cX5_lend 60 = .ok (.iconst 1, 1) := by decide +kernel
theorem dX5_lend_61 : decode cX5_lend 61 = .ok (.ireturn, 1) := by decide +kernel
theorem dX5_looks_0 : decode cX5_looks 0 = .ok (.aload_n 0, 1) := by decide +kernel
theorem dX5_looks_1 : decode cX5_looks 1 = .ok (.iload_n 1, 1) := by decide +kernel
theorem dX5_looks_2 : decode cX5_looks 2 = .ok (.iload_n 2, 1) := by decide +kernel
theorem dX5_looks_3 : decode cX5_looks 3 = .ok (.invokevirtual 111, 3) := by decide +kernel
theorem dX5_looks_6 : decode cX5_looks 6 = .ok (.ifCond .ne 10, 3) := by decide +kernel
theorem dX5_looks_9 : decode cX5_looks 9 = .ok (.aload_n 0, 1) := by decide +kernel
theorem dX5_looks_10 : decode cX5_looks 10 = .ok (.ldc 55, 2) := by decide +kernel
theorem dX5_looks_12 : decode cX5_looks 12 = .ok (.invokevirtual 56, 3) := by decide +kernel
theorem dX5_looks_15 : decode cX5_looks 15 = .ok (.ireturn, 1) := by decide +kernel
theorem dX5_looks_16 : decode cX5_looks 16 = .ok (.aload_n 0, 1) := by decide +kernel
theorem dX5_looks_17 : decode cX5_looks 17 = .ok (.getfield 12, 3) := by decide +kernel
theorem dX5_looks_20 : decode cX5_looks 20 = .ok (.getfield 76, 3) := by decide +kernel
theorem dX5_looks_23 : decode cX5_looks 23 = .ok (.iload_n 1, 1) := by decide +kernel
theorem dX5_looks_24 : decode cX5_looks 24 = .ok (.aaload, 1) := by decide +kernel
theorem dX5_looks_25 : decode cX5_looks 25 = .ok (.iload_n 2, 1) := by decide +kernel
theorem dX5_looks_26 : decode cX5_looks 26 = .ok (.invokevirtual 118, 3) := by decide +kernel
theorem dX5_looks_29 : decode cX5_looks 29 = .ok (.ireturn, 1) := by decide +kernel
theorem dX5_sees_0 : decode cX5_sees 0 = .ok (.aload_n 0, 1) := by decide +kernel
theorem dX5_sees_1 : decode cX5_sees 1 = .ok (.iload_n 1, 1) := by decide +kernel
theorem dX5_sees_2 : decode cX5_sees 2 = .ok (.invokevirtual 73, 3) := by decide +kernel
theorem dX5_sees_5 : decode cX5_sees 5 = .ok (.ifCond .eq 13, 3) := by decide +kernel
theorem dX5_sees_8 : decode cX5_sees 8 = .ok (.iload_n 2, 1) := by decide +kernel
theorem dX5_sees_9 : decode cX5_sees 9 = .ok (.sipush 198, 3) := by decide +kernel
theorem dX5_sees_12 : decode cX5_sees 12 = .ok (.invokestatic 121, 3) := by decide +kernel
theorem dX5_sees_15 : decode cX5_sees 15 = .ok (.ifCond .ne 10, 3) := by decide +kernel
theorem dX5_sees_18 : decode cX5_sees 18 = .ok (.aload_n 0, 1) := by decide +kernel
theorem dX5_sees_19 : decode cX5_sees 19 = .ok (.ldc 55, 2) := by decide +kernel
theorem dX5_sees_21 : decode cX5_sees 21 = .ok (.invokevirtual 56, 3) := by decide +kernel
theorem dX5_sees_24 : decode cX5_sees 24 = .ok (.ireturn, 1) := by decide +kernel
theorem dX5_sees_25 : decode cX5_sees 25 = .ok (.aload_n 0, 1) := by decide +kernel
theorem dX5_sees_26 : decode cX5_sees 26 = .ok (.getfield 12, 3) := by decide +kernel
theorem dX5_sees_29 : decode cX5_sees 29 = .ok (.iload_n 1, 1) := by decide +kernel
theorem dX5_sees_30 : decode cX5_sees 30 = .ok (.iload_n 2, 1) := by decide +kernel
theorem dX5_sees_31 : decode cX5_sees 31 = .ok (.invokevirtual 124, 3) := by decide +kernel
theorem dX5_sees_34 : decode cX5_sees 34 = .ok (.ireturn, 1) := by decide +kernel
theorem dX5_days_0 : decode cX5_days 0 = .ok (.iload_n 1, 1) := by decide +kernel
theorem dX5_days_1 : decode cX5_days 1 = .ok (.iconst 1, 1) := by decide +kernel
theorem dX5_days_2 : decode cX5_days 2 = .ok (.if_icmp .lt 9, 3) := by decide +kernel
theorem dX5_days_5 : decode cX5_days 5 = .ok (.iload_n 1, 1) := by decide +kernel
theorem dX5_days_6 : decode cX5_days 6 = .ok (.bipush 100, 2) := by decide +kernel
theorem dX5_days_8 : decode cX5_days 8 = .ok (.if_icmp .le 10, 3) := by decide +kernel
theorem dX5_days_11 : decode cX5_days 11 = .ok (.aload_n 0, 1) := by decide +kernel
theorem dX5_days_12 : decode cX5_days 12 = .ok (.ldc 55, 2) := by decide +kernel
theorem dX5_days_14 : decode cX5_days 14 = .ok (.invokevirtual 56, 3) := by decide +kernel
theorem dX5_days_17 : decode cX5_days 17 = .ok (.ireturn, 1) := by decide +kernel
theorem dX5_days_18 : decode cX5_days 18 = .ok (.aload_n 0, 1) := by decide +kernel
theorem dX5_days_19 : decode cX5_days 19 = .ok (.getfield 12, 3) := by decide +kernel
theorem dX5_days_22 : decode cX5_days 22 = .ok (.getfield 128, 3) := by decide +kernel
theorem dX5_days_25 : decode cX5_days 25 = .ok (.iload_n 1, 1) := by decide +kernel
theorem dX5_days_26 : decode cX5_days 26 = .ok (.iadd, 1) := by decide +kernel
theorem dX5_days_27 : decode cX5_days 27 = .ok (.sipush 9999, 3) := by decide +kernel
theorem dX5_days_30 : decode cX5_days 30 = .ok (.if_icmp .le 10, 3) := by decide +kernel
theorem dX5_days_33 : decode cX5_days 33 = .ok (.aload_n 0, 1) := by decide +kernel
theorem dX5_days_34 : decode cX5_days 34 = .ok (.ldc 104, 2) := by decide +kernel
theorem dX5_days_36 : decode cX5_days 36 = .ok (.invokevirtual 56, 3) := by decide +kernel
theorem dX5_days_39 : decode cX5_days 39 = .ok (.ireturn, 1) := by decide +kernel
theorem dX5_days_40 : decode cX5_days 40 = .ok (.aload_n 0, 1) := by decide +kernel
theorem dX5_days_41 : decode cX5_days 41 = .ok (.getfield 12, 3) := by decide +kernel
theorem dX5_days_44 : decode cX5_days 44 = .ok (.iload_n 1, 1) := by decide +kernel
theorem dX5_days_45 : decode cX5_days 45 = .ok (.invokevirtual 131, 3) := by decide +kernel
theorem dX5_days_48 : decode cX5_days 48 = .ok (.aload_n 0, 1) := by decide +kernel
theorem dX5_days_49 : decode cX5_days 49 = .ok (.getfield 12, 3) := by decide +kernel
theorem dX5_days_52 : decode cX5_days 52 = .ok (.invokevirtual 135, 3) := by decide +kernel
theorem dX5_days_55 : decode cX5_days 55 = .ok (.ireturn, 1) := by decide +kernel
theorem dX5_now_0 : decode cX5_now 0 = .ok (.iload_n 1, 1) := by decide +kernel
theorem dX5_now_1 : decode cX5_now 1 = .ok (.tableswitch 75 0 4 #[35, 43, 51, 59, 67], 35) := by decide +kernel
theorem dX5_now_36 : decode cX5_now 36 = .ok (.aload_n 0, 1) := by decide +kernel
theorem dX5_now_37 : decode cX5_now 37 = .ok (.getfield 12, 3) := by decide +kernel
theorem dX5_now_40 : decode cX5_now 40 = .ok (.getfield 128, 3) := by decide +kernel
theorem dX5_now_43 : decode cX5_now 43 = .ok (.ireturn, 1) := by decide +kernel
theorem dX5_now_44 : decode cX5_now 44 = .ok (.aload_n 0, 1) := by decide +kernel
theorem dX5_now_45 : decode cX5_now 45 = .ok (.getfield 12, 3) := by decide +kernel
theorem dX5_now_48 : decode cX5_now 48 = .ok (.invokevirtual 135, 3) := by decide +kernel
theorem dX5_now_51 : decode cX5_now 51 = .ok (.ireturn, 1) := by decide +kernel
theorem dX5_now_52 : decode cX5_now 52 = .ok (.aload_n 0, 1) := by decide +kernel
theorem dX5_now_53 : decode cX5_now 53 = .ok (.getfield 12, 3) := by decide +kernel
theorem dX5_now_56 : decode cX5_now 56 = .ok (.invokevirtual 139, 3) := by decide +kernel
theorem dX5_now_59 : decode cX5_now 59 = .ok (.ireturn, 1) := by decide +kernel
theorem dX5_now_60 : decode cX5_now 60 = .ok (.aload_n 0, 1) := by decide +kernel
theorem dX5_now_61 : decode cX5_now 61 = .ok (.getfield 12, 3) := by decide +kernel
theorem dX5_now_64 : decode cX5_now 64 = .ok (.invokevirtual 142, 3) := by decide +kernel
theorem dX5_now_67 : decode cX5_now 67 = .ok (.ireturn, 1) := by decide +kernel
theorem dX5_now_68 : decode cX5_now 68 = .ok (.aload_n 0, 1) := by decide +kernel
theorem dX5_now_69 : decode cX5_now 69 = .ok (.getfield 12, 3) := by decide +kernel
theorem dX5_now_72 : decode cX5_now 72 = .ok (.invokevirtual 145, 3) := by decide +kernel
theorem dX5_now_75 : decode cX5_now 75 = .ok (.ireturn, 1) := by decide +kernel
theorem dX5_now_76 : decode cX5_now 76 = .ok (.aload_n 0, 1) := by decide +kernel
theorem dX5_now_77 : decode cX5_now 77 = .ok (.ldc 55, 2) := by decide +kernel
theorem dX5_now_79 : decode cX5_now 79 = .ok (.invokevirtual 56, 3) := by decide +kernel
theorem dX5_now_82 : decode cX5_now 82 = .ok (.ireturn, 1) := by decide +kernel
theorem dX5_on_0 : decode cX5_on 0 = .ok (.aload_n 0, 1) := by decide +kernel
theorem dX5_on_1 : decode cX5_on 1 = .ok (.iload_n 1, 1) := by decide +kernel
theorem dX5_on_2 : decode cX5_on 2 = .ok (.invokevirtual 73, 3) := by decide +kernel
theorem dX5_on_5 : decode cX5_on 5 = .ok (.ifCond .eq 21, 3) := by decide +kernel
theorem dX5_on_8 : decode cX5_on 8 = .ok (.iload_n 2, 1) := by decide +kernel
theorem dX5_on_9 : decode cX5_on 9 = .ok (.sipush 200, 3) := by decide +kernel
theorem dX5_on_12 : decode cX5_on 12 = .ok (.invokestatic 121, 3) := by decide +kernel
theorem dX5_on_15 : decode cX5_on 15 = .ok (.ifCond .eq 11, 3) := by decide +kernel
theorem dX5_on_18 : decode cX5_on 18 = .ok (.iload_n 3, 1) := by decide +kernel
theorem dX5_on_19 : decode cX5_on 19 = .ok (.iconst 1, 1) := by decide +kernel
theorem dX5_on_20 : decode cX5_on 20 = .ok (.invokestatic 121, 3) := by decide +kernel
theorem dX5_on_23 : decode cX5_on 23 = .ok (.ifCond .ne 10, 3) := by decide +kernel
theorem dX5_on_26 : decode cX5_on 26 = .ok (.aload_n 0, 1) := by decide +kernel
theorem dX5_on_27 : decode cX5_on 27 = .ok (.ldc 55, 2) := by decide +kernel
theorem dX5_on_29 : decode cX5_on 29 = .ok (.invokevirtual 56, 3) := by decide +kernel
theorem dX5_on_32 : decode cX5_on 32 = .ok (.ireturn, 1) := by decide +kernel
theorem dX5_on_33 : decode cX5_on 33 = .ok (.aload_n 0, 1) := by decide +kernel
theorem dX5_on_34 : decode cX5_on 34 = .ok (.iload_n 1, 1) := by decide +kernel
theorem dX5_on_35 : decode cX5_on 35 = .ok (.invokevirtual 148, 3) := by decide +kernel
theorem dX5_on_38 : decode cX5_on 38 = .ok (.astore 4, 2) := by decide +kernel
theorem dX5_on_40 : decode cX5_on 40 = .ok (.aload 4, 2) := by decide +kernel
theorem dX5_on_42 : decode cX5_on 42 = .ok (.iload_n 2, 1) := by decide +kernel
theorem dX5_on_43 : decode cX5_on 43 = .ok (.invokevirtual 151, 3) := by decide +kernel
theorem dX5_on_46 : decode cX5_on 46 = .ok (.iload_n 3, 1) := by decide +kernel
theorem dX5_on_47 : decode cX5_on 47 = .ok (.ifCond .ne 11, 3) := by decide +kernel
theorem dX5_on_50 : decode cX5_on 50 = .ok (.aload 4, 2) := by decide +kernel
theorem dX5_on_52 : decode cX5_on 52 = .ok (.getfield 98, 3) := by decide +kernel
theorem dX5_on_55 : decode cX5_on 55 = .ok (.goto 8, 3) := by decide +kernel
theorem dX5_on_58 : decode cX5_on 58 = .ok (.aload 4, 2) := by decide +kernel
theorem dX5_on_60 : decode cX5_on 60 = .ok (.getfield 152, 3) := by decide +kernel
theorem dX5_on_63 : decode cX5_on 63 = .ok (.ireturn, 1) := by decide +kernel
theorem dX5_then_0 : decode cX5_then 0 = .ok (.aload_n 0, 1) := by decide +kernel
theorem dX5_then_1 : decode cX5_then 1 = .ok (.iload_n 1, 1) := by decide +kernel
theorem dX5_then_2 : decode cX5_then 2 = .ok (.iload_n 2, 1) := by decide +kernel
theorem dX5_then_3 : decode cX5_then 3 = .ok (.invokevirtual 111, 3) := by decide +kernel
theorem dX5_then_6 : decode cX5_then 6 = .ok (.ifCond .eq 13, 3) := by decide +kernel
theorem dX5_then_9 : decode cX5_then 9 = .ok (.iload_n 3, 1) := by decide +kernel
theorem dX5_then_10 : decode cX5_then 10 = .ok (.sipush 200, 3) := by decide +kernel
theorem dX5_then_13 : decode cX5_then 13 = .ok (.invokestatic 121, 3) := by decide +kernel
theorem dX5_then_16 : decode cX5_then 16 = .ok (.ifCond .ne 10, 3) := by decide +kernel
theorem dX5_then_19 : decode cX5_then 19 = .ok (.aload_n 0, 1) := by decide +kernel
theorem dX5_then_20 : decode cX5_then 20 = .ok (.ldc 55, 2) := by decide +kernel
theorem dX5_then_22 : decode cX5_then 22 = .ok (.invokevirtual 56, 3) := by decide +kernel
theorem dX5_then_25 : decode cX5_then 25 = .ok (.ireturn, 1) := by decide +kernel
theorem dX5_then_26 : decode cX5_then 26 = .ok (.aload_n 0, 1) := by decide +kernel
theorem dX5_then_27 : decode cX5_then 27 = .ok (.iload_n 1, 1) := by decide +kernel
theorem dX5_then_28 : decode cX5_then 28 = .ok (.invokevirtual 148, 3) := by decide +kernel
theorem dX5_then_31 : decode cX5_then 31 = .ok (.astore 4, 2) := by decide +kernel
theorem dX5_then_33 : decode cX5_then 33 = .ok (.aload 4, 2) := by decide +kernel
theorem dX5_then_35 : decode cX5_then 35 = .ok (.iload_n 3, 1) := by decide +kernel
theorem dX5_then_36 : decode cX5_then 36 = .ok (.invokevirtual 151, 3) := by decide +kernel
theorem dX5_then_39 : decode cX5_then 39 = .ok (.aload 4, 2) := by decide +kernel
theorem dX5_then_41 : decode cX5_then 41 = .ok (.iload_n 2, 1) := by decide +kernel
theorem dX5_then_42 : decode cX5_then 42 = .ok (.invokevirtual 118, 3) := by decide +kernel
theorem dX5_then_45 : decode cX5_then 45 = .ok (.ireturn, 1) := by decide +kernel
theorem dX5_forgives_0 : decode cX5_forgives 0 = .ok (.aload_n 0, 1) := by decide +kernel
theorem dX5_forgives_1 : decode cX5_forgives 1 = .ok (.iload_n 1, 1) := by decide +kernel
theorem dX5_forgives_2 : decode cX5_forgives 2 = .ok (.invokevirtual 73, 3) := by decide +kernel
theorem dX5_forgives_5 : decode cX5_forgives 5 = .ok (.ifCond .ne 10, 3) := by decide +kernel
theorem dX5_forgives_8 : decode cX5_forgives 8 = .ok (.aload_n 0, 1) := by decide +kernel
theorem dX5_forgives_9 : decode cX5_forgives 9 = .ok (.ldc 55, 2) := by decide +kernel
theorem dX5_forgives_11 : decode cX5_forgives 11 = .ok (.invokevirtual 56, 3) := by decide +kernel
theorem dX5_forgives_14 : decode cX5_forgives 14 = .ok (.ireturn, 1) := by decide +kernel
theorem dX5_forgives_15 : decode cX5_forgives 15 = .ok (.aload_n 0, 1) := by decide +kernel
theorem dX5_forgives_16 : decode cX5_forgives 16 = .ok (.aload_n 0, 1) := by decide +kernel
theorem dX5_forgives_17 : decode cX5_forgives 17 = .ok (.iload_n 1, 1) := by decide +kernel
theorem dX5_forgives_18 : decode cX5_forgives 18 = .ok (.invokevirtual 148, 3) := by decide +kernel
theorem dX5_forgives_21 : decode cX5_forgives 21 = .ok (.invokestatic 155, 3) := by decide +kernel
theorem dX5_forgives_24 : decode cX5_forgives 24 = .ok (.invokevirtual 159, 3) := by decide +kernel
theorem dX5_forgives_27 : decode cX5_forgives 27 = .ok (.ireturn, 1) := by decide +kernel
theorem dX5_worn_0 : decode cX5_worn 0 = .ok (.aload_n 0, 1) := by decide +kernel
theorem dX5_worn_1 : decode cX5_worn 1 = .ok (.iload_n 1, 1) := by decide +kernel
theorem dX5_worn_2 : decode cX5_worn 2 = .ok (.invokevirtual 73, 3) := by decide +kernel
theorem dX5_worn_5 : decode cX5_worn 5 = .ok (.ifCond .ne 10, 3) := by decide +kernel
theorem dX5_worn_8 : decode cX5_worn 8 = .ok (.aload_n 0, 1) := by decide +kernel
theorem dX5_worn_9 : decode cX5_worn 9 = .ok (.ldc 55, 2) := by decide +kernel
theorem dX5_worn_11 : decode cX5_worn 11 = .ok (.invokevirtual 56, 3) := by decide +kernel
theorem dX5_worn_14 : decode cX5_worn 14 = .ok (.ireturn, 1) := by decide +kernel
theorem dX5_worn_15 : decode cX5_worn 15 = .ok (.aload_n 0, 1) := by decide +kernel
theorem dX5_worn_16 : decode cX5_worn 16 = .ok (.aload_n 0, 1) := by decide +kernel
theorem dX5_worn_17 : decode cX5_worn 17 = .ok (.iload_n 1, 1) := by decide +kernel
theorem dX5_worn_18 : decode cX5_worn 18 = .ok (.invokevirtual 148, 3) := by decide +kernel
theorem dX5_worn_21 : decode cX5_worn 21 = .ok (.invokestatic 162, 3) := by decide +kernel
theorem dX5_worn_24 : decode cX5_worn 24 = .ok (.invokevirtual 159, 3) := by decide +kernel
theorem dX5_worn_27 : decode cX5_worn 27 = .ok (.ireturn, 1) := by decide +kernel
theorem dX5_unseen_0 : decode cX5_unseen 0 = .ok (.aload_n 0, 1) := by decide +kernel
theorem dX5_unseen_1 : decode cX5_unseen 1 = .ok (.iload_n 1, 1) := by decide +kernel
theorem dX5_unseen_2 : decode cX5_unseen 2 = .ok (.invokevirtual 73, 3) := by decide +kernel
theorem dX5_unseen_5 : decode cX5_unseen 5 = .ok (.ifCond .ne 10, 3) := by decide +kernel
theorem dX5_unseen_8 : decode cX5_unseen 8 = .ok (.aload_n 0, 1) := by decide +kernel
theorem dX5_unseen_9 : decode cX5_unseen 9 = .ok (.ldc 55, 2) := by decide +kernel
theorem dX5_unseen_11 : decode cX5_unseen 11 = .ok (.invokevirtual 56, 3) := by decide +kernel
theorem dX5_unseen_14 : decode cX5_unseen 14 = .ok (.ireturn, 1) := by decide +kernel
theorem dX5_unseen_15 : decode cX5_unseen 15 = .ok (.aload_n 0, 1) := by decide +kernel
theorem dX5_unseen_16 : decode cX5_unseen 16 = .ok (.getfield 19, 3) := by decide +kernel
theorem dX5_unseen_19 : decode cX5_unseen 19 = .ok (.aload_n 0, 1) := by decide +kernel
theorem dX5_unseen_20 : decode cX5_unseen 20 = .ok (.getfield 12, 3) := by decide +kernel
theorem dX5_unseen_23 : decode cX5_unseen 23 = .ok (.invokevirtual 165, 3) := by decide +kernel
theorem dX5_unseen_26 : decode cX5_unseen 26 = .ok (.aload_n 0, 1) := by decide +kernel
theorem dX5_unseen_27 : decode cX5_unseen 27 = .ok (.aload_n 0, 1) := by decide +kernel
theorem dX5_unseen_28 : decode cX5_unseen 28 = .ok (.getfield 19, 3) := by decide +kernel
theorem dX5_unseen_31 : decode cX5_unseen 31 = .ok (.iload_n 1, 1) := by decide +kernel
theorem dX5_unseen_32 : decode cX5_unseen 32 = .ok (.invokestatic 169, 3) := by decide +kernel
theorem dX5_unseen_35 : decode cX5_unseen 35 = .ok (.invokevirtual 159, 3) := by decide +kernel
theorem dX5_unseen_38 : decode cX5_unseen 38 = .ok (.ireturn, 1) := by decide +kernel
theorem dX5_borrow_0 : decode cX5_borrow 0 = .ok (.aload_n 0, 1) := by decide +kernel
theorem dX5_borrow_1 : decode cX5_borrow 1 = .ok (.iload_n 1, 1) := by decide +kernel
theorem dX5_borrow_2 : decode cX5_borrow 2 = .ok (.invokevirtual 73, 3) := by decide +kernel
theorem dX5_borrow_5 : decode cX5_borrow 5 = .ok (.ifCond .ne 10, 3) := by decide +kernel
theorem dX5_borrow_8 : decode cX5_borrow 8 = .ok (.aload_n 0, 1) := by decide +kernel
theorem dX5_borrow_9 : decode cX5_borrow 9 = .ok (.ldc 55, 2) := by decide +kernel
theorem dX5_borrow_11 : decode cX5_borrow 11 = .ok (.invokevirtual 56, 3) := by decide +kernel
theorem dX5_borrow_14 : decode cX5_borrow 14 = .ok (.ireturn, 1) := by decide +kernel
theorem dX5_borrow_15 : decode cX5_borrow 15 = .ok (.aload_n 0, 1) := by decide +kernel
theorem dX5_borrow_16 : decode cX5_borrow 16 = .ok (.iload_n 1, 1) := by decide +kernel
theorem dX5_borrow_17 : decode cX5_borrow 17 = .ok (.invokevirtual 148, 3) := by decide +kernel
theorem dX5_borrow_20 : decode cX5_borrow 20 = .ok (.invokestatic 155, 3) := by decide +kernel
theorem dX5_borrow_23 : decode cX5_borrow 23 = .ok (.istore_n 2, 1) := by decide +kernel
theorem dX5_borrow_24 : decode cX5_borrow 24 = .ok (.iconst (-1), 1) := by decide +kernel
theorem dX5_borrow_25 : decode cX5_borrow 25 = .ok (.istore_n 3, 1) := by decide +kernel
theorem dX5_borrow_26 : decode cX5_borrow 26 = .ok (.iconst 0, 1) := by decide +kernel
theorem dX5_borrow_27 : decode cX5_borrow 27 = .ok (.istore 4, 2) := by decide +kernel
theorem dX5_borrow_29 : decode cX5_borrow 29 = .ok (.iload 4, 2) := by decide +kernel
theorem dX5_borrow_31 : decode cX5_borrow 31 = .ok (.aload_n 0, 1) := by decide +kernel
theorem dX5_borrow_32 : decode cX5_borrow 32 = .ok (.getfield 12, 3) := by decide +kernel
theorem dX5_borrow_35 : decode cX5_borrow 35 = .ok (.getfield 173, 3) := by decide +kernel
theorem dX5_borrow_38 : decode cX5_borrow 38 = .ok (.if_icmp .ge 50, 3) := by decide +kernel
theorem dX5_borrow_41 : decode cX5_borrow 41 = .ok (.aload_n 0, 1) := by decide +kernel
theorem dX5_borrow_42 : decode cX5_borrow 42 = .ok (.iload_n 1, 1) := by decide +kernel
theorem dX5_borrow_43 : decode cX5_borrow 43 = .ok (.invokevirtual 148, 3) := by decide +kernel
theorem dX5_borrow_46 : decode cX5_borrow 46 = .ok (.astore 5, 2) := by decide +kernel
theorem dX5_borrow_48 : decode cX5_borrow 48 = .ok (.aload 5, 2) := by decide +kernel
theorem dX5_borrow_50 : decode cX5_borrow 50 = .ok (.aload_n 0, 1) := by decide +kernel
theorem dX5_borrow_51 : decode cX5_borrow 51 = .ok (.getfield 12, 3) := by decide +kernel
theorem dX5_borrow_54 : decode cX5_borrow 54 = .ok (.getfield 76, 3) := by decide +kernel
theorem dX5_borrow_57 : decode cX5_borrow 57 = .ok (.iload 4, 2) := by decide +kernel
theorem dX5_borrow_59 : decode cX5_borrow 59 = .ok (.aaload, 1) := by decide +kernel
theorem dX5_borrow_60 : decode cX5_borrow 60 = .ok (.invokevirtual 114, 3) := by decide +kernel
theorem dX5_borrow_63 : decode cX5_borrow 63 = .ok (.aload 5, 2) := by decide +kernel
theorem dX5_borrow_65 : decode cX5_borrow 65 = .ok (.invokestatic 155, 3) := by decide +kernel
theorem dX5_borrow_68 : decode cX5_borrow 68 = .ok (.istore 6, 2) := by decide +kernel
theorem dX5_borrow_70 : decode cX5_borrow 70 = .ok (.iload 6, 2) := by decide +kernel
theorem dX5_borrow_72 : decode cX5_borrow 72 = .ok (.iload_n 2, 1) := by decide +kernel
theorem dX5_borrow_73 : decode cX5_borrow 73 = .ok (.if_icmp .ge 9, 3) := by decide +kernel
theorem dX5_borrow_76 : decode cX5_borrow 76 = .ok (.iload 6, 2) := by decide +kernel
theorem dX5_borrow_78 : decode cX5_borrow 78 = .ok (.istore_n 2, 1) := by decide +kernel
theorem dX5_borrow_79 : decode cX5_borrow 79 = .ok (.iload 4, 2) := by decide +kernel
theorem dX5_borrow_81 : decode cX5_borrow 81 = .ok (.istore_n 3, 1) := by decide +kernel
theorem dX5_borrow_82 : decode cX5_borrow 82 = .ok (.iinc 4 1, 3) := by decide +kernel
theorem dX5_borrow_85 : decode cX5_borrow 85 = .ok (.goto (-56), 3) := by decide +kernel
theorem dX5_borrow_88 : decode cX5_borrow 88 = .ok (.iload_n 3, 1) := by decide +kernel
theorem dX5_borrow_89 : decode cX5_borrow 89 = .ok (.iconst (-1), 1) := by decide +kernel
theorem dX5_borrow_90 : decode cX5_borrow 90 = .ok (.if_icmp .ne 12, 3) := by decide +kernel
theorem dX5_borrow_93 : decode cX5_borrow 93 = .ok (.aload_n 0, 1) := by decide +kernel
theorem dX5_borrow_94 : decode cX5_borrow 94 = .ok (.ldc 176, 2) := by decide +kernel
theorem dX5_borrow_96 : decode cX5_borrow 96 = .ok (.invokevirtual 56, 3) := by decide +kernel
theorem dX5_borrow_99 : decode cX5_borrow 99 = .ok (.goto 4, 3) := by decide +kernel
theorem dX5_borrow_102 : decode cX5_borrow 102 = .ok (.iload_n 3, 1) := by decide +kernel
theorem dX5_borrow_103 : decode cX5_borrow 103 = .ok (.ireturn, 1) := by decide +kernel
theorem dX5_kind_0 : decode cX5_kind 0 = .ok (.aload_n 0, 1) := by decide +kernel
theorem dX5_kind_1 : decode cX5_kind 1 = .ok (.iload_n 1, 1) := by decide +kernel
theorem dX5_kind_2 : decode cX5_kind 2 = .ok (.invokevirtual 73, 3) := by decide +kernel
theorem dX5_kind_5 : decode cX5_kind 5 = .ok (.ifCond .ne 10, 3) := by decide +kernel
theorem dX5_kind_8 : decode cX5_kind 8 = .ok (.aload_n 0, 1) := by decide +kernel
theorem dX5_kind_9 : decode cX5_kind 9 = .ok (.ldc 55, 2) := by decide +kernel
theorem dX5_kind_11 : decode cX5_kind 11 = .ok (.invokevirtual 56, 3) := by decide +kernel
theorem dX5_kind_14 : decode cX5_kind 14 = .ok (.ireturn, 1) := by decide +kernel
theorem dX5_kind_15 : decode cX5_kind 15 = .ok (.sipush 201, 3) := by decide +kernel
theorem dX5_kind_18 : decode cX5_kind 18 = .ok (.istore_n 2, 1) := by decide +kernel
theorem dX5_kind_19 : decode cX5_kind 19 = .ok (.iconst (-1), 1) := by decide +kernel
theorem dX5_kind_20 : decode cX5_kind 20 = .ok (.istore_n 3, 1) := by decide +kernel
theorem dX5_kind_21 : decode cX5_kind 21 = .ok (.iconst 0, 1) := by decide +kernel
theorem dX5_kind_22 : decode cX5_kind 22 = .ok (.istore 4, 2) := by decide +kernel
theorem dX5_kind_24 : decode cX5_kind 24 = .ok (.iload 4, 2) := by decide +kernel
theorem dX5_kind_26 : decode cX5_kind 26 = .ok (.bipush 6, 2) := by decide +kernel
theorem dX5_kind_28 : decode cX5_kind 28 = .ok (.if_icmp .ge 42, 3) := by decide +kernel
theorem dX5_kind_31 : decode cX5_kind 31 = .ok (.aload_n 0, 1) := by decide +kernel
theorem dX5_kind_32 : decode cX5_kind 32 = .ok (.iload_n 1, 1) := by decide +kernel
theorem dX5_kind_33 : decode cX5_kind 33 = .ok (.invokevirtual 148, 3) := by decide +kernel
theorem dX5_kind_36 : decode cX5_kind 36 = .ok (.astore 5, 2) := by decide +kernel
theorem dX5_kind_38 : decode cX5_kind 38 = .ok (.aload 5, 2) := by decide +kernel
theorem dX5_kind_40 : decode cX5_kind 40 = .ok (.iload 4, 2) := by decide +kernel
theorem dX5_kind_42 : decode cX5_kind 42 = .ok (.putfield 91, 3) := by decide +kernel
theorem dX5_kind_45 : decode cX5_kind 45 = .ok (.aload 5, 2) := by decide +kernel
theorem dX5_kind_47 : decode cX5_kind 47 = .ok (.invokestatic 155, 3) := by decide +kernel
theorem dX5_kind_50 : decode cX5_kind 50 = .ok (.istore 6, 2) := by decide +kernel
theorem dX5_kind_52 : decode cX5_kind 52 = .ok (.iload 6, 2) := by decide +kernel
theorem dX5_kind_54 : decode cX5_kind 54 = .ok (.iload_n 2, 1) := by decide +kernel
theorem dX5_kind_55 : decode cX5_kind 55 = .ok (.if_icmp .ge 9, 3) := by decide +kernel
theorem dX5_kind_58 : decode cX5_kind 58 = .ok (.iload 6, 2) := by decide +kernel
theorem dX5_kind_60 : decode cX5_kind 60 = .ok (.istore_n 2, 1) := by decide +kernel
theorem dX5_kind_61 : decode cX5_kind 61 = .ok (.iload 4, 2) := by decide +kernel
theorem dX5_kind_63 : decode cX5_kind 63 = .ok (.istore_n 3, 1) := by decide +kernel
theorem dX5_kind_64 : decode cX5_kind 64 = .ok (.iinc 4 1, 3) := by decide +kernel
theorem dX5_kind_67 : decode cX5_kind 67 = .ok (.goto (-43), 3) := by decide +kernel
theorem dX5_kind_70 : decode cX5_kind 70 = .ok (.iload_n 3, 1) := by decide +kernel
theorem dX5_kind_71 : decode cX5_kind 71 = .ok (.iconst (-1), 1) := by decide +kernel
theorem dX5_kind_72 : decode cX5_kind 72 = .ok (.if_icmp .ne 12, 3) := by decide +kernel
theorem dX5_kind_75 : decode cX5_kind 75 = .ok (.aload_n 0, 1) := by decide +kernel
theorem dX5_kind_76 : decode cX5_kind 76 = .ok (.ldc 176, 2) := by decide +kernel
theorem dX5_kind_78 : decode cX5_kind 78 = .ok (.invokevirtual 56, 3) := by decide +kernel
theorem dX5_kind_81 : decode cX5_kind 81 = .ok (.goto 4, 3) := by decide +kernel
theorem dX5_kind_84 : decode cX5_kind 84 = .ok (.iload_n 3, 1) := by decide +kernel
theorem dX5_kind_85 : decode cX5_kind 85 = .ok (.ireturn, 1) := by decide +kernel
theorem dX5_better_0 : decode cX5_better 0 = .ok (.aload_n 0, 1) := by decide +kernel
theorem dX5_better_1 : decode cX5_better 1 = .ok (.iload_n 1, 1) := by decide +kernel
theorem dX5_better_2 : decode cX5_better 2 = .ok (.invokevirtual 73, 3) := by decide +kernel
theorem dX5_better_5 : decode cX5_better 5 = .ok (.ifCond .eq 14, 3) := by decide +kernel
theorem dX5_better_8 : decode cX5_better 8 = .ok (.iload_n 2, 1) := by decide +kernel
theorem dX5_better_9 : decode cX5_better 9 = .ok (.iconst 1, 1) := by decide +kernel
theorem dX5_better_10 : decode cX5_better 10 = .ok (.if_icmp .lt 9, 3) := by decide +kernel
theorem dX5_better_13 : decode cX5_better 13 = .ok (.iload_n 2, 1) := by decide +kernel
theorem dX5_better_14 : decode cX5_better 14 = .ok (.bipush 60, 2) := by decide +kernel
theorem dX5_better_16 : decode cX5_better 16 = .ok (.if_icmp .le 10, 3) := by decide +kernel
theorem dX5_better_19 : decode cX5_better 19 = .ok (.aload_n 0, 1) := by decide +kernel
theorem dX5_better_20 : decode cX5_better 20 = .ok (.ldc 55, 2) := by decide +kernel
theorem dX5_better_22 : decode cX5_better 22 = .ok (.invokevirtual 56, 3) := by decide +kernel
theorem dX5_better_25 : decode cX5_better 25 = .ok (.ireturn, 1) := by decide +kernel
theorem dX5_better_26 : decode cX5_better 26 = .ok (.bipush 100, 2) := by decide +kernel
theorem dX5_better_28 : decode cX5_better 28 = .ok (.istore_n 3, 1) := by decide +kernel
theorem dX5_better_29 : decode cX5_better 29 = .ok (.iconst (-1), 1) := by decide +kernel
theorem dX5_better_30 : decode cX5_better 30 = .ok (.istore 4, 2) := by decide +kernel
theorem dX5_better_32 : decode cX5_better 32 = .ok (.iconst (-1), 1) := by decide +kernel
theorem dX5_better_33 : decode cX5_better 33 = .ok (.istore 5, 2) := by decide +kernel
theorem dX5_better_35 : decode cX5_better 35 = .ok (.iload 5, 2) := by decide +kernel
theorem dX5_better_37 : decode cX5_better 37 = .ok (.aload_n 0, 1) := by decide +kernel
theorem dX5_better_38 : decode cX5_better 38 = .ok (.getfield 12, 3) := by decide +kernel
theorem dX5_better_41 : decode cX5_better 41 = .ok (.getfield 173, 3) := by decide +kernel
theorem dX5_better_44 : decode cX5_better 44 = .ok (.if_icmp .ge 48, 3) := by decide +kernel
theorem dX5_better_47 : decode cX5_better 47 = .ok (.aload_n 0, 1) := by decide +kernel
theorem dX5_better_48 : decode cX5_better 48 = .ok (.iload_n 1, 1) := by decide +kernel
theorem dX5_better_49 : decode cX5_better 49 = .ok (.invokevirtual 148, 3) := by decide +kernel
theorem dX5_better_52 : decode cX5_better 52 = .ok (.astore 6, 2) := by decide +kernel
theorem dX5_better_54 : decode cX5_better 54 = .ok (.aload 6, 2) := by decide +kernel
theorem dX5_better_56 : decode cX5_better 56 = .ok (.iload 5, 2) := by decide +kernel
theorem dX5_better_58 : decode cX5_better 58 = .ok (.putfield 101, 3) := by decide +kernel
theorem dX5_better_61 : decode cX5_better 61 = .ok (.aload 6, 2) := by decide +kernel
theorem dX5_better_63 : decode cX5_better 63 = .ok (.iload_n 2, 1) := by decide +kernel
theorem dX5_better_64 : decode cX5_better 64 = .ok (.invokevirtual 151, 3) := by decide +kernel
theorem dX5_better_67 : decode cX5_better 67 = .ok (.aload 6, 2) := by decide +kernel
theorem dX5_better_69 : decode cX5_better 69 = .ok (.getfield 98, 3) := by decide +kernel
theorem dX5_better_72 : decode cX5_better 72 = .ok (.iload_n 3, 1) := by decide +kernel
theorem dX5_better_73 : decode cX5_better 73 = .ok (.if_icmp .ge 13, 3) := by decide +kernel
theorem dX5_better_76 : decode cX5_better 76 = .ok (.aload 6, 2) := by decide +kernel
theorem dX5_better_78 : decode cX5_better 78 = .ok (.getfield 98, 3) := by decide +kernel
theorem dX5_better_81 : decode cX5_better 81 = .ok (.istore_n 3, 1) := by decide +kernel
theorem dX5_better_82 : decode cX5_better 82 = .ok (.iload 5, 2) := by decide +kernel
theorem dX5_better_84 : decode cX5_better 84 = .ok (.istore 4, 2) := by decide +kernel
theorem dX5_better_86 : decode cX5_better 86 = .ok (.iinc 5 1, 3) := by decide +kernel
theorem dX5_better_89 : decode cX5_better 89 = .ok (.goto (-54), 3) := by decide +kernel
theorem dX5_better_92 : decode cX5_better 92 = .ok (.iconst 1, 1) := by decide +kernel
theorem dX5_better_93 : decode cX5_better 93 = .ok (.iload 4, 2) := by decide +kernel
theorem dX5_better_95 : decode cX5_better 95 = .ok (.iadd, 1) := by decide +kernel
theorem dX5_better_96 : decode cX5_better 96 = .ok (.ireturn, 1) := by decide +kernel
theorem dX5_most_0 : decode cX5_most 0 = .ok (.aload_n 0, 1) := by decide +kernel
theorem dX5_most_1 : decode cX5_most 1 = .ok (.iload_n 1, 1) := by decide +kernel
theorem dX5_most_2 : decode cX5_most 2 = .ok (.invokevirtual 73, 3) := by decide +kernel
theorem dX5_most_5 : decode cX5_most 5 = .ok (.ifCond .eq 14, 3) := by decide +kernel
theorem dX5_most_8 : decode cX5_most 8 = .ok (.iload_n 2, 1) := by decide +kernel
theorem dX5_most_9 : decode cX5_most 9 = .ok (.iconst 1, 1) := by decide +kernel
theorem dX5_most_10 : decode cX5_most 10 = .ok (.if_icmp .lt 9, 3) := by decide +kernel
theorem dX5_most_13 : decode cX5_most 13 = .ok (.iload_n 2, 1) := by decide +kernel
theorem dX5_most_14 : decode cX5_most 14 = .ok (.bipush 60, 2) := by decide +kernel
theorem dX5_most_16 : decode cX5_most 16 = .ok (.if_icmp .le 10, 3) := by decide +kernel
theorem dX5_most_19 : decode cX5_most 19 = .ok (.aload_n 0, 1) := by decide +kernel
theorem dX5_most_20 : decode cX5_most 20 = .ok (.ldc 55, 2) := by decide +kernel
theorem dX5_most_22 : decode cX5_most 22 = .ok (.invokevirtual 56, 3) := by decide +kernel
theorem dX5_most_25 : decode cX5_most 25 = .ok (.ireturn, 1) := by decide +kernel
theorem dX5_most_26 : decode cX5_most 26 = .ok (.bipush 99, 2) := by decide +kernel
theorem dX5_most_28 : decode cX5_most 28 = .ok (.istore_n 3, 1) := by decide +kernel
theorem dX5_most_29 : decode cX5_most 29 = .ok (.iload_n 3, 1) := by decide +kernel
theorem dX5_most_30 : decode cX5_most 30 = .ok (.ifCond .lt 38, 3) := by decide +kernel
theorem dX5_most_33 : decode cX5_most 33 = .ok (.aload_n 0, 1) := by decide +kernel
theorem dX5_most_34 : decode cX5_most 34 = .ok (.iload_n 1, 1) := by decide +kernel
theorem dX5_most_35 : decode cX5_most 35 = .ok (.invokevirtual 148, 3) := by decide +kernel
theorem dX5_most_38 : decode cX5_most 38 = .ok (.astore 4, 2) := by decide +kernel
theorem dX5_most_40 : decode cX5_most 40 = .ok (.aload 4, 2) := by decide +kernel
theorem dX5_most_42 : decode cX5_most 42 = .ok (.iload_n 3, 1) := by decide +kernel
theorem dX5_most_43 : decode cX5_most 43 = .ok (.putfield 98, 3) := by decide +kernel
theorem dX5_most_46 : decode cX5_most 46 = .ok (.aload 4, 2) := by decide +kernel
theorem dX5_most_48 : decode cX5_most 48 = .ok (.iload_n 2, 1) := by decide +kernel
theorem dX5_most_49 : decode cX5_most 49 = .ok (.invokevirtual 151, 3) := by decide +kernel
theorem dX5_most_52 : decode cX5_most 52 = .ok (.aload 4, 2) := by decide +kernel
theorem dX5_most_54 : decode cX5_most 54 = .ok (.getfield 98, 3) := by decide +kernel
theorem dX5_most_57 : decode cX5_most 57 = .ok (.ifCond .ne 5, 3) := by decide +kernel
theorem dX5_most_60 : decode cX5_most 60 = .ok (.iload_n 3, 1) := by decide +kernel
theorem dX5_most_61 : decode cX5_most 61 = .ok (.ireturn, 1) := by decide +kernel
theorem dX5_most_62 : decode cX5_most 62 = .ok (.iinc 3 (-1), 3) := by decide +kernel
theorem dX5_most_65 : decode cX5_most 65 = .ok (.goto (-36), 3) := by decide +kernel
theorem dX5_most_68 : decode cX5_most 68 = .ok (.aload_n 0, 1) := by decide +kernel
theorem dX5_most_69 : decode cX5_most 69 = .ok (.ldc 176, 2) := by decide +kernel
theorem dX5_most_71 : decode cX5_most 71 = .ok (.invokevirtual 56, 3) := by decide +kernel
theorem dX5_most_74 : decode cX5_most 74 = .ok (.ireturn, 1) := by decide +kernel
theorem dX5_sharpest_0 : decode cX5_sharpest 0 = .ok (.iload_n 1, 1) := by decide +kernel
theorem dX5_sharpest_1 : decode cX5_sharpest 1 = .ok (.bipush 100, 2) := by decide +kernel
theorem dX5_sharpest_3 : decode cX5_sharpest 3 = .ok (.invokestatic 121, 3) := by decide +kernel
theorem dX5_sharpest_6 : decode cX5_sharpest 6 = .ok (.ifCond .ne 10, 3) := by decide +kernel
theorem dX5_sharpest_9 : decode cX5_sharpest 9 = .ok (.aload_n 0, 1) := by decide +kernel
theorem dX5_sharpest_10 : decode cX5_sharpest 10 = .ok (.ldc 55, 2) := by decide +kernel
theorem dX5_sharpest_12 : decode cX5_sharpest 12 = .ok (.invokevirtual 56, 3) := by decide +kernel
theorem dX5_sharpest_15 : decode cX5_sharpest 15 = .ok (.ireturn, 1) := by decide +kernel
theorem dX5_sharpest_16 : decode cX5_sharpest 16 = .ok (.aload_n 0, 1) := by decide +kernel
theorem dX5_sharpest_17 : decode cX5_sharpest 17 = .ok (.getfield 12, 3) := by decide +kernel
theorem dX5_sharpest_20 : decode cX5_sharpest 20 = .ok (.getfield 173, 3) := by decide +kernel
theorem dX5_sharpest_23 : decode cX5_sharpest 23 = .ok (.ifCond .ne 10, 3) := by decide +kernel
theorem dX5_sharpest_26 : decode cX5_sharpest 26 = .ok (.aload_n 0, 1) := by decide +kernel
theorem dX5_sharpest_27 : decode cX5_sharpest 27 = .ok (.ldc 176, 2) := by decide +kernel
theorem dX5_sharpest_29 : decode cX5_sharpest 29 = .ok (.invokevirtual 56, 3) := by decide +kernel
theorem dX5_sharpest_32 : decode cX5_sharpest 32 = .ok (.ireturn, 1) := by decide +kernel
theorem dX5_sharpest_33 : decode cX5_sharpest 33 = .ok (.aload_n 0, 1) := by decide +kernel
theorem dX5_sharpest_34 : decode cX5_sharpest 34 = .ok (.getfield 19, 3) := by decide +kernel
theorem dX5_sharpest_37 : decode cX5_sharpest 37 = .ok (.aload_n 0, 1) := by decide +kernel
theorem dX5_sharpest_38 : decode cX5_sharpest 38 = .ok (.getfield 12, 3) := by decide +kernel
theorem dX5_sharpest_41 : decode cX5_sharpest 41 = .ok (.invokevirtual 165, 3) := by decide +kernel
theorem dX5_sharpest_44 : decode cX5_sharpest 44 = .ok (.aload_n 0, 1) := by decide +kernel
theorem dX5_sharpest_45 : decode cX5_sharpest 45 = .ok (.getfield 19, 3) := by decide +kernel
theorem dX5_sharpest_48 : decode cX5_sharpest 48 = .ok (.iload_n 1, 1) := by decide +kernel
theorem dX5_sharpest_49 : decode cX5_sharpest 49 = .ok (.invokevirtual 131, 3) := by decide +kernel
theorem dX5_sharpest_52 : decode cX5_sharpest 52 = .ok (.aload_n 0, 1) := by decide +kernel
theorem dX5_sharpest_53 : decode cX5_sharpest 53 = .ok (.getfield 19, 3) := by decide +kernel
theorem dX5_sharpest_56 : decode cX5_sharpest 56 = .ok (.invokevirtual 177, 3) := by decide +kernel
theorem dX5_sharpest_59 : decode cX5_sharpest 59 = .ok (.ireturn, 1) := by decide +kernel
theorem dX5_push_0 : decode cX5_push 0 = .ok (.aload_n 0, 1) := by decide +kernel
theorem dX5_push_1 : decode cX5_push 1 = .ok (.getfield 12, 3) := by decide +kernel
theorem dX5_push_4 : decode cX5_push 4 = .ok (.getfield 173, 3) := by decide +kernel
theorem dX5_push_7 : decode cX5_push 7 = .ok (.iconst 2, 1) := by decide +kernel
theorem dX5_push_8 : decode cX5_push 8 = .ok (.if_icmp .ge 10, 3) := by decide +kernel
theorem dX5_push_11 : decode cX5_push 11 = .ok (.aload_n 0, 1) := by decide +kernel
theorem dX5_push_12 : decode cX5_push 12 = .ok (.ldc 176, 2) := by decide +kernel
theorem dX5_push_14 : decode cX5_push 14 = .ok (.invokevirtual 56, 3) := by decide +kernel
theorem dX5_push_17 : decode cX5_push 17 = .ok (.ireturn, 1) := by decide +kernel
theorem dX5_push_18 : decode cX5_push 18 = .ok (.aload_n 0, 1) := by decide +kernel
theorem dX5_push_19 : decode cX5_push 19 = .ok (.getfield 12, 3) := by decide +kernel
theorem dX5_push_22 : decode cX5_push 22 = .ok (.invokevirtual 180, 3) := by decide +kernel
theorem dX5_push_25 : decode cX5_push 25 = .ok (.aload_n 0, 1) := by decide +kernel
theorem dX5_push_26 : decode cX5_push 26 = .ok (.getfield 12, 3) := by decide +kernel
theorem dX5_push_29 : decode cX5_push 29 = .ok (.invokevirtual 183, 3) := by decide +kernel
theorem dX5_push_32 : decode cX5_push 32 = .ok (.istore_n 1, 1) := by decide +kernel
theorem dX5_push_33 : decode cX5_push 33 = .ok (.iconst 0, 1) := by decide +kernel
theorem dX5_push_34 : decode cX5_push 34 = .ok (.istore_n 2, 1) := by decide +kernel
theorem dX5_push_35 : decode cX5_push 35 = .ok (.iload_n 2, 1) := by decide +kernel
theorem dX5_push_36 : decode cX5_push 36 = .ok (.aload_n 0, 1) := by decide +kernel
theorem dX5_push_37 : decode cX5_push 37 = .ok (.getfield 12, 3) := by decide +kernel
theorem dX5_push_40 : decode cX5_push 40 = .ok (.invokevirtual 183, 3) := by decide +kernel
theorem dX5_push_43 : decode cX5_push 43 = .ok (.if_icmp .ge 50, 3) := by decide +kernel
theorem dX5_push_46 : decode cX5_push 46 = .ok (.iload_n 2, 1) := by decide +kernel
theorem dX5_push_47 : decode cX5_push 47 = .ok (.invokestatic 186, 3) := by decide +kernel
theorem dX5_push_50 : decode cX5_push 50 = .ok (.iload_n 1, 1) := by decide +kernel
theorem dX5_push_51 : decode cX5_push 51 = .ok (.invokestatic 186, 3) := by decide +kernel
theorem dX5_push_54 : decode cX5_push 54 = .ok (.if_icmp .ge 7, 3) := by decide +kernel
theorem dX5_push_57 : decode cX5_push 57 = .ok (.iconst 1, 1) := by decide +kernel
theorem dX5_push_58 : decode cX5_push 58 = .ok (.goto 4, 3) := by decide +kernel
theorem dX5_push_61 : decode cX5_push 61 = .ok (.iconst 0, 1) := by decide +kernel
theorem dX5_push_62 : decode cX5_push 62 = .ok (.istore_n 3, 1) := by decide +kernel
theorem dX5_push_63 : decode cX5_push 63 = .ok (.iload_n 3, 1) := by decide +kernel
theorem dX5_push_64 : decode cX5_push 64 = .ok (.ifCond .eq 23, 3) := by decide +kernel
theorem dX5_push_67 : decode cX5_push 67 = .ok (.aload_n 0, 1) := by decide +kernel
theorem dX5_push_68 : decode cX5_push 68 = .ok (.getfield 12, 3) := by decide +kernel
theorem dX5_push_71 : decode cX5_push 71 = .ok (.iload_n 2, 1) := by decide +kernel
theorem dX5_push_72 : decode cX5_push 72 = .ok (.invokevirtual 191, 3) := by decide +kernel
theorem dX5_push_75 : decode cX5_push 75 = .ok (.aload_n 0, 1) := by decide +kernel
theorem dX5_push_76 : decode cX5_push 76 = .ok (.getfield 12, 3) := by decide +kernel
theorem dX5_push_79 : decode cX5_push 79 = .ok (.invokevirtual 183, 3) := by decide +kernel
theorem dX5_push_82 : decode cX5_push 82 = .ok (.if_icmp .ne 5, 3) := by decide +kernel
theorem dX5_push_85 : decode cX5_push 85 = .ok (.iload_n 2, 1) := by decide +kernel
theorem dX5_push_86 : decode cX5_push 86 = .ok (.istore_n 1, 1) := by decide +kernel
theorem dX5_push_87 : decode cX5_push 87 = .ok (.iinc 2 1, 3) := by decide +kernel
theorem dX5_push_90 : decode cX5_push 90 = .ok (.goto (-55), 3) := by decide +kernel
theorem dX5_push_93 : decode cX5_push 93 = .ok (.iload_n 1, 1) := by decide +kernel
theorem dX5_push_94 : decode cX5_push 94 = .ok (.ireturn, 1) := by decide +kernel
theorem dX5_feed_0 : decode cX5_feed 0 = .ok (.iload_n 2, 1) := by decide +kernel
theorem dX5_feed_1 : decode cX5_feed 1 = .ok (.iconst 1, 1) := by decide +kernel
theorem dX5_feed_2 : decode cX5_feed 2 = .ok (.if_icmp .lt 8, 3) := by decide +kernel
theorem dX5_feed_5 : decode cX5_feed 5 = .ok (.iload_n 2, 1) := by decide +kernel
theorem dX5_feed_6 : decode cX5_feed 6 = .ok (.iconst 4, 1) := by decide +kernel
theorem dX5_feed_7 : decode cX5_feed 7 = .ok (.if_icmp .le 10, 3) := by decide +kernel
theorem dX5_feed_10 : decode cX5_feed 10 = .ok (.aload_n 0, 1) := by decide +kernel
theorem dX5_feed_11 : decode cX5_feed 11 = .ok (.ldc 55, 2) := by decide +kernel
theorem dX5_feed_13 : decode cX5_feed 13 = .ok (.invokevirtual 56, 3) := by decide +kernel
theorem dX5_feed_16 : decode cX5_feed 16 = .ok (.ireturn, 1) := by decide +kernel
theorem dX5_feed_17 : decode cX5_feed 17 = .ok (.aload_n 0, 1) := by decide +kernel
theorem dX5_feed_18 : decode cX5_feed 18 = .ok (.getfield 32, 3) := by decide +kernel
theorem dX5_feed_21 : decode cX5_feed 21 = .ok (.getfield 194, 3) := by decide +kernel
theorem dX5_feed_24 : decode cX5_feed 24 = .ok (.iload_n 2, 1) := by decide +kernel
theorem dX5_feed_25 : decode cX5_feed 25 = .ok (.iadd, 1) := by decide +kernel
theorem dX5_feed_26 : decode cX5_feed 26 = .ok (.bipush 120, 2) := by decide +kernel
theorem dX5_feed_28 : decode cX5_feed 28 = .ok (.if_icmp .le 10, 3) := by decide +kernel
theorem dX5_feed_31 : decode cX5_feed 31 = .ok (.aload_n 0, 1) := by decide +kernel
theorem dX5_feed_32 : decode cX5_feed 32 = .ok (.ldc 64, 2) := by decide +kernel
theorem dX5_feed_34 : decode cX5_feed 34 = .ok (.invokevirtual 56, 3) := by decide +kernel
theorem dX5_feed_37 : decode cX5_feed 37 = .ok (.ireturn, 1) := by decide +kernel
theorem dX5_feed_38 : decode cX5_feed 38 = .ok (.iload_n 2, 1) := by decide +kernel
theorem dX5_feed_39 : decode cX5_feed 39 = .ok (.iconst 1, 1) := by decide +kernel
theorem dX5_feed_40 : decode cX5_feed 40 = .ok (.isub, 1) := by decide +kernel
theorem dX5_feed_41 : decode cX5_feed 41 = .ok (.istore_n 3, 1) := by decide +kernel
theorem dX5_feed_42 : decode cX5_feed 42 = .ok (.iload_n 3, 1) := by decide +kernel
theorem dX5_feed_43 : decode cX5_feed 43 = .ok (.ifCond .lt 26, 3) := by decide +kernel
theorem dX5_feed_46 : decode cX5_feed 46 = .ok (.aload_n 0, 1) := by decide +kernel
theorem dX5_feed_47 : decode cX5_feed 47 = .ok (.getfield 32, 3) := by decide +kernel
theorem dX5_feed_50 : decode cX5_feed 50 = .ok (.iload_n 1, 1) := by decide +kernel
theorem dX5_feed_51 : decode cX5_feed 51 = .ok (.bipush 8, 2) := by decide +kernel
theorem dX5_feed_53 : decode cX5_feed 53 = .ok (.iload_n 3, 1) := by decide +kernel
theorem dX5_feed_54 : decode cX5_feed 54 = .ok (.imul, 1) := by decide +kernel
theorem dX5_feed_55 : decode cX5_feed 55 = .ok (.iushr, 1) := by decide +kernel
theorem dX5_feed_56 : decode cX5_feed 56 = .ok (.sipush 255, 3) := by decide +kernel
theorem dX5_feed_59 : decode cX5_feed 59 = .ok (.iand, 1) := by decide +kernel
theorem dX5_feed_60 : decode cX5_feed 60 = .ok (.invokevirtual 197, 3) := by decide +kernel
theorem dX5_feed_63 : decode cX5_feed 63 = .ok (.iinc 3 (-1), 3) := by decide +kernel
theorem dX5_feed_66 : decode cX5_feed 66 = .ok (.goto (-24), 3) := by decide +kernel
theorem dX5_feed_69 : decode cX5_feed 69 = .ok (.aload_n 0, 1) := by decide +kernel
theorem dX5_feed_70 : decode cX5_feed 70 = .ok (.getfield 32, 3) := by decide +kernel
theorem dX5_feed_73 : decode cX5_feed 73 = .ok (.getfield 194, 3) := by decide +kernel
theorem dX5_feed_76 : decode cX5_feed 76 = .ok (.ireturn, 1) := by decide +kernel
theorem dX5_wipe_0 : decode cX5_wipe 0 = .ok (.aload_n 0, 1) := by decide +kernel
theorem dX5_wipe_1 : decode cX5_wipe 1 = .ok (.getfield 32, 3) := by decide +kernel
theorem dX5_wipe_4 : decode cX5_wipe 4 = .ok (.getfield 194, 3) := by decide +kernel
theorem dX5_wipe_7 : decode cX5_wipe 7 = .ok (.istore_n 1, 1) := by decide +kernel
theorem dX5_wipe_8 : decode cX5_wipe 8 = .ok (.aload_n 0, 1) := by decide +kernel
theorem dX5_wipe_9 : decode cX5_wipe 9 = .ok (.getfield 32, 3) := by decide +kernel
theorem dX5_wipe_12 : decode cX5_wipe 12 = .ok (.iconst 0, 1) := by decide +kernel
theorem dX5_wipe_13 : decode cX5_wipe 13 = .ok (.putfield 194, 3) := by decide +kernel
theorem dX5_wipe_16 : decode cX5_wipe 16 = .ok (.iload_n 1, 1) := by decide +kernel
theorem dX5_wipe_17 : decode cX5_wipe 17 = .ok (.ireturn, 1) := by decide +kernel
theorem dX5_quay_0 : decode cX5_quay 0 = .ok (.aload_n 0, 1) := by decide +kernel
theorem dX5_quay_1 : decode cX5_quay 1 = .ok (.getfield 19, 3) := by decide +kernel
theorem dX5_quay_4 : decode cX5_quay 4 = .ok (.aload_n 0, 1) := by decide +kernel
theorem dX5_quay_5 : decode cX5_quay 5 = .ok (.getfield 12, 3) := by decide +kernel
theorem dX5_quay_8 : decode cX5_quay 8 = .ok (.invokevirtual 165, 3) := by decide +kernel
theorem dX5_quay_11 : decode cX5_quay 11 = .ok (.aload_n 0, 1) := by decide +kernel
theorem dX5_quay_12 : decode cX5_quay 12 = .ok (.getfield 32, 3) := by decide +kernel
theorem dX5_quay_15 : decode cX5_quay 15 = .ok (.aload_n 0, 1) := by decide +kernel
theorem dX5_quay_16 : decode cX5_quay 16 = .ok (.getfield 19, 3) := by decide +kernel
theorem dX5_quay_19 : decode cX5_quay 19 = .ok (.invokestatic 200, 3) := by decide +kernel
theorem dX5_quay_22 : decode cX5_quay 22 = .ok (.istore_n 1, 1) := by decide +kernel
theorem dX5_quay_23 : decode cX5_quay 23 = .ok (.iload_n 1, 1) := by decide +kernel
theorem dX5_quay_24 : decode cX5_quay 24 = .ok (.ifCond .lt 14, 3) := by decide +kernel
theorem dX5_quay_27 : decode cX5_quay 27 = .ok (.aload_n 0, 1) := by decide +kernel
theorem dX5_quay_28 : decode cX5_quay 28 = .ok (.getfield 12, 3) := by decide +kernel
theorem dX5_quay_31 : decode cX5_quay 31 = .ok (.aload_n 0, 1) := by decide +kernel
theorem dX5_quay_32 : decode cX5_quay 32 = .ok (.getfield 19, 3) := by decide +kernel
theorem dX5_quay_35 : decode cX5_quay 35 = .ok (.invokevirtual 165, 3) := by decide +kernel
theorem dX5_quay_38 : decode cX5_quay 38 = .ok (.aload_n 0, 1) := by decide +kernel
theorem dX5_quay_39 : decode cX5_quay 39 = .ok (.getfield 32, 3) := by decide +kernel
theorem dX5_quay_42 : decode cX5_quay 42 = .ok (.iconst 0, 1) := by decide +kernel
theorem dX5_quay_43 : decode cX5_quay 43 = .ok (.putfield 194, 3) := by decide +kernel
theorem dX5_quay_46 : decode cX5_quay 46 = .ok (.iload_n 1, 1) := by decide +kernel
theorem dX5_quay_47 : decode cX5_quay 47 = .ok (.ireturn, 1) := by decide +kernel
theorem dX5_sheet_0 : decode cX5_sheet 0 = .ok (.iload_n 1, 1) := by decide +kernel
theorem dX5_sheet_1 : decode cX5_sheet 1 = .ok (.invokestatic 206, 3) := by decide +kernel
theorem dX5_sheet_4 : decode cX5_sheet 4 = .ok (.ifCond .eq 25, 3) := by decide +kernel
theorem dX5_sheet_7 : decode cX5_sheet 7 = .ok (.iload_n 2, 1) := by decide +kernel
theorem dX5_sheet_8 : decode cX5_sheet 8 = .ok (.ifCond .eq 28, 3) := by decide +kernel
theorem dX5_sheet_11 : decode cX5_sheet 11 = .ok (.iload_n 2, 1) := by decide +kernel
theorem dX5_sheet_12 : decode cX5_sheet 12 = .ok (.bipush 8, 2) := by decide +kernel
theorem dX5_sheet_14 : decode cX5_sheet 14 = .ok (.if_icmp .eq 22, 3) := by decide +kernel
theorem dX5_sheet_17 : decode cX5_sheet 17 = .ok (.iload_n 2, 1) := by decide +kernel
theorem dX5_sheet_18 : decode cX5_sheet 18 = .ok (.bipush 16, 2) := by decide +kernel
theorem dX5_sheet_20 : decode cX5_sheet 20 = .ok (.if_icmp .eq 16, 3) := by decide +kernel
theorem dX5_sheet_23 : decode cX5_sheet 23 = .ok (.iload_n 2, 1) := by decide +kernel
theorem dX5_sheet_24 : decode cX5_sheet 24 = .ok (.bipush 64, 2) := by decide +kernel
theorem dX5_sheet_26 : decode cX5_sheet 26 = .ok (.if_icmp .eq 10, 3) := by decide +kernel
theorem dX5_sheet_29 : decode cX5_sheet 29 = .ok (.aload_n 0, 1) := by decide +kernel
theorem dX5_sheet_30 : decode cX5_sheet 30 = .ok (.ldc 55, 2) := by decide +kernel
theorem dX5_sheet_32 : decode cX5_sheet 32 = .ok (.invokevirtual 56, 3) := by decide +kernel
theorem dX5_sheet_35 : decode cX5_sheet 35 = .ok (.ireturn, 1) := by decide +kernel
theorem dX5_sheet_36 : decode cX5_sheet 36 = .ok (.iload_n 3, 1) := by decide +kernel
theorem dX5_sheet_37 : decode cX5_sheet 37 = .ok (.ifCond .ge 10, 3) := by decide +kernel
theorem dX5_sheet_40 : decode cX5_sheet 40 = .ok (.aload_n 0, 1) := by decide +kernel
theorem dX5_sheet_41 : decode cX5_sheet 41 = .ok (.ldc 209, 2) := by decide +kernel
theorem dX5_sheet_43 : decode cX5_sheet 43 = .ok (.invokevirtual 56, 3) := by decide +kernel
theorem dX5_sheet_46 : decode cX5_sheet 46 = .ok (.ireturn, 1) := by decide +kernel
theorem dX5_sheet_47 : decode cX5_sheet 47 = .ok (.iload_n 3, 1) := by decide +kernel
theorem dX5_sheet_48 : decode cX5_sheet 48 = .ok (.bipush 40, 2) := by decide +kernel
theorem dX5_sheet_50 : decode cX5_sheet 50 = .ok (.if_icmp .le 10, 3) := by decide +kernel
theorem dX5_sheet_53 : decode cX5_sheet 53 = .ok (.aload_n 0, 1) := by decide +kernel
theorem dX5_sheet_54 : decode cX5_sheet 54 = .ok (.ldc 55, 2) := by decide +kernel
theorem dX5_sheet_56 : decode cX5_sheet 56 = .ok (.invokevirtual 56, 3) := by decide +kernel
theorem dX5_sheet_59 : decode cX5_sheet 59 = .ok (.ireturn, 1) := by decide +kernel
theorem dX5_sheet_60 : decode cX5_sheet 60 = .ok (.aload_n 0, 1) := by decide +kernel
theorem dX5_sheet_61 : decode cX5_sheet 61 = .ok (.getfield 38, 3) := by decide +kernel
theorem dX5_sheet_64 : decode cX5_sheet 64 = .ok (.iload_n 1, 1) := by decide +kernel
theorem dX5_sheet_65 : decode cX5_sheet 65 = .ok (.aaload, 1) := by decide +kernel
theorem dX5_sheet_66 : decode cX5_sheet 66 = .ok (.iload_n 2, 1) := by decide +kernel
theorem dX5_sheet_67 : decode cX5_sheet 67 = .ok (.iload_n 3, 1) := by decide +kernel
theorem dX5_sheet_68 : decode cX5_sheet 68 = .ok (.invokevirtual 210, 3) := by decide +kernel
theorem dX5_sheet_71 : decode cX5_sheet 71 = .ok (.aload_n 0, 1) := by decide +kernel
theorem dX5_sheet_72 : decode cX5_sheet 72 = .ok (.getfield 38, 3) := by decide +kernel
theorem dX5_sheet_75 : decode cX5_sheet 75 = .ok (.iload_n 1, 1) := by decide +kernel
theorem dX5_sheet_76 : decode cX5_sheet 76 = .ok (.aaload, 1) := by decide +kernel
theorem dX5_sheet_77 : decode cX5_sheet 77 = .ok (.getfield 213, 3) := by decide +kernel
theorem dX5_sheet_80 : decode cX5_sheet 80 = .ok (.ireturn, 1) := by decide +kernel
theorem dX5_write_0 : decode cX5_write 0 = .ok (.aload_n 0, 1) := by decide +kernel
theorem dX5_write_1 : decode cX5_write 1 = .ok (.iload_n 1, 1) := by decide +kernel
theorem dX5_write_2 : decode cX5_write 2 = .ok (.invokevirtual 216, 3) := by decide +kernel
theorem dX5_write_5 : decode cX5_write 5 = .ok (.istore 5, 2) := by decide +kernel
theorem dX5_write_7 : decode cX5_write 7 = .ok (.iload 5, 2) := by decide +kernel
theorem dX5_write_9 : decode cX5_write 9 = .ok (.ifCond .eq 11, 3) := by decide +kernel
theorem dX5_write_12 : decode cX5_write 12 = .ok (.aload_n 0, 1) := by decide +kernel
theorem dX5_write_13 : decode cX5_write 13 = .ok (.iload 5, 2) := by decide +kernel
theorem dX5_write_15 : decode cX5_write 15 = .ok (.invokevirtual 56, 3) := by decide +kernel
theorem dX5_write_18 : decode cX5_write 18 = .ok (.i2l, 1) := by decide +kernel
theorem dX5_write_19 : decode cX5_write 19 = .ok (.lreturn, 1) := by decide +kernel
theorem dX5_write_20 : decode cX5_write 20 = .ok (.aload_n 0, 1) := by decide +kernel
theorem dX5_write_21 : decode cX5_write 21 = .ok (.getfield 38, 3) := by decide +kernel
theorem dX5_write_24 : decode cX5_write 24 = .ok (.iload_n 1, 1) := by decide +kernel
theorem dX5_write_25 : decode cX5_write 25 = .ok (.aaload, 1) := by decide +kernel
theorem dX5_write_26 : decode cX5_write 26 = .ok (.astore 6, 2) := by decide +kernel
theorem dX5_write_28 : decode cX5_write 28 = .ok (.iload_n 2, 1) := by decide +kernel
theorem dX5_write_29 : decode cX5_write 29 = .ok (.ifCond .lt 12, 3) := by decide +kernel
theorem dX5_write_32 : decode cX5_write 32 = .ok (.iload_n 2, 1) := by decide +kernel
theorem dX5_write_33 : decode cX5_write 33 = .ok (.aload 6, 2) := by decide +kernel
theorem dX5_write_35 : decode cX5_write 35 = .ok (.getfield 213, 3) := by decide +kernel
theorem dX5_write_38 : decode cX5_write 38 = .ok (.if_icmp .lt 11, 3) := by decide +kernel
theorem dX5_write_41 : decode cX5_write 41 = .ok (.aload_n 0, 1) := by decide +kernel
theorem dX5_write_42 : decode cX5_write 42 = .ok (.ldc 55, 2) := by decide +kernel
theorem dX5_write_44 : decode cX5_write 44 = .ok (.invokevirtual 56, 3) := by decide +kernel
theorem dX5_write_47 : decode cX5_write 47 = .ok (.i2l, 1) := by decide +kernel
theorem dX5_write_48 : decode cX5_write 48 = .ok (.lreturn, 1) := by decide +kernel
theorem dX5_write_49 : decode cX5_write 49 = .ok (.aload 6, 2) := by decide +kernel
theorem dX5_write_51 : decode cX5_write 51 = .ok (.getfield 219, 3) := by decide +kernel
theorem dX5_write_54 : decode cX5_write 54 = .ok (.iload_n 2, 1) := by decide +kernel
theorem dX5_write_55 : decode cX5_write 55 = .ok (.laload, 1) := by decide +kernel
theorem dX5_write_56 : decode cX5_write 56 = .ok (.lstore 7, 2) := by decide +kernel
theorem dX5_write_58 : decode cX5_write 58 = .ok (.aload 6, 2) := by decide +kernel
theorem dX5_write_60 : decode cX5_write 60 = .ok (.iload_n 2, 1) := by decide +kernel
theorem dX5_write_61 : decode cX5_write 61 = .ok (.lload_n 3, 1) := by decide +kernel
theorem dX5_write_62 : decode cX5_write 62 = .ok (.invokevirtual 223, 3) := by decide +kernel
theorem dX5_write_65 : decode cX5_write 65 = .ok (.lload 7, 2) := by decide +kernel
theorem dX5_write_67 : decode cX5_write 67 = .ok (.lreturn, 1) := by decide +kernel
theorem dX5_copy_0 : decode cX5_copy 0 = .ok (.iload_n 1, 1) := by decide +kernel
theorem dX5_copy_1 : decode cX5_copy 1 = .ok (.invokestatic 206, 3) := by decide +kernel
theorem dX5_copy_4 : decode cX5_copy 4 = .ok (.ifCond .eq 10, 3) := by decide +kernel
theorem dX5_copy_7 : decode cX5_copy 7 = .ok (.iload_n 3, 1) := by decide +kernel
theorem dX5_copy_8 : decode cX5_copy 8 = .ok (.invokestatic 206, 3) := by decide +kernel
theorem dX5_copy_11 : decode cX5_copy 11 = .ok (.ifCond .ne 10, 3) := by decide +kernel
theorem dX5_copy_14 : decode cX5_copy 14 = .ok (.aload_n 0, 1) := by decide +kernel
theorem dX5_copy_15 : decode cX5_copy 15 = .ok (.ldc 55, 2) := by decide +kernel
theorem dX5_copy_17 : decode cX5_copy 17 = .ok (.invokevirtual 56, 3) := by decide +kernel
theorem dX5_copy_20 : decode cX5_copy 20 = .ok (.ireturn, 1) := by decide +kernel
theorem dX5_copy_21 : decode cX5_copy 21 = .ok (.aload_n 0, 1) := by decide +kernel
theorem dX5_copy_22 : decode cX5_copy 22 = .ok (.getfield 38, 3) := by decide +kernel
theorem dX5_copy_25 : decode cX5_copy 25 = .ok (.iload_n 1, 1) := by decide +kernel
theorem dX5_copy_26 : decode cX5_copy 26 = .ok (.aaload, 1) := by decide +kernel
theorem dX5_copy_27 : decode cX5_copy 27 = .ok (.astore 6, 2) := by decide +kernel
theorem dX5_copy_29 : decode cX5_copy 29 = .ok (.aload_n 0, 1) := by decide +kernel
theorem dX5_copy_30 : decode cX5_copy 30 = .ok (.getfield 38, 3) := by decide +kernel
theorem dX5_copy_33 : decode cX5_copy 33 = .ok (.iload_n 3, 1) := by decide +kernel
theorem dX5_copy_34 : decode cX5_copy 34 = .ok (.aaload, 1) := by decide +kernel
theorem dX5_copy_35 : decode cX5_copy 35 = .ok (.astore 7, 2) := by decide +kernel
theorem dX5_copy_37 : decode cX5_copy 37 = .ok (.aload 6, 2) := by decide +kernel
theorem dX5_copy_39 : decode cX5_copy 39 = .ok (.invokevirtual 226, 3) := by decide +kernel
theorem dX5_copy_42 : decode cX5_copy 42 = .ok (.ifCond .ne 11, 3) := by decide +kernel
theorem dX5_copy_45 : decode cX5_copy 45 = .ok (.aload 7, 2) := by decide +kernel
theorem dX5_copy_47 : decode cX5_copy 47 = .ok (.invokevirtual 226, 3) := by decide +kernel
theorem dX5_copy_50 : decode cX5_copy 50 = .ok (.ifCond .eq 10, 3) := by decide +kernel
theorem dX5_copy_53 : decode cX5_copy 53 = .ok (.aload_n 0, 1) := by decide +kernel
theorem dX5_copy_54 : decode cX5_copy 54 = .ok (.ldc 229, 2) := by decide +kernel
theorem dX5_copy_56 : decode cX5_copy 56 = .ok (.invokevirtual 56, 3) := by decide +kernel
theorem dX5_copy_59 : decode cX5_copy 59 = .ok (.ireturn, 1) := by decide +kernel
theorem dX5_copy_60 : decode cX5_copy 60 = .ok (.aload 6, 2) := by decide +kernel
theorem dX5_copy_62 : decode cX5_copy 62 = .ok (.getfield 230, 3) := by decide +kernel
theorem dX5_copy_65 : decode cX5_copy 65 = .ok (.aload 7, 2) := by decide +kernel
theorem dX5_copy_67 : decode cX5_copy 67 = .ok (.getfield 230, 3) := by decide +kernel
theorem dX5_copy_70 : decode cX5_copy 70 = .ok (.if_icmp .eq 10, 3) := by decide +kernel
theorem dX5_copy_73 : decode cX5_copy 73 = .ok (.aload_n 0, 1) := by decide +kernel
theorem dX5_copy_74 : decode cX5_copy 74 = .ok (.ldc 97, 2) := by decide +kernel
theorem dX5_copy_76 : decode cX5_copy 76 = .ok (.invokevirtual 56, 3) := by decide +kernel
theorem dX5_copy_79 : decode cX5_copy 79 = .ok (.ireturn, 1) := by decide +kernel
theorem dX5_copy_80 : decode cX5_copy 80 = .ok (.aload 6, 2) := by decide +kernel
theorem dX5_copy_82 : decode cX5_copy 82 = .ok (.iload_n 2, 1) := by decide +kernel
theorem dX5_copy_83 : decode cX5_copy 83 = .ok (.iload 5, 2) := by decide +kernel
theorem dX5_copy_85 : decode cX5_copy 85 = .ok (.invokevirtual 233, 3) := by decide +kernel
theorem dX5_copy_88 : decode cX5_copy 88 = .ok (.ifCond .eq 15, 3) := by decide +kernel
theorem dX5_copy_91 : decode cX5_copy 91 = .ok (.aload 7, 2) := by decide +kernel
theorem dX5_copy_93 : decode cX5_copy 93 = .ok (.iload 4, 2) := by decide +kernel
theorem dX5_copy_95 : decode cX5_copy 95 = .ok (.iload 5, 2) := by decide +kernel
theorem dX5_copy_97 : decode cX5_copy 97 = .ok (.invokevirtual 233, 3) := by decide +kernel
theorem dX5_copy_100 : decode cX5_copy 100 = .ok (.ifCond .ne 10, 3) := by decide +kernel
theorem dX5_copy_103 : decode cX5_copy 103 = .ok (.aload_n 0, 1) := by decide +kernel
theorem dX5_copy_104 : decode cX5_copy 104 = .ok (.ldc 55, 2) := by decide +kernel
theorem dX5_copy_106 : decode cX5_copy 106 = .ok (.invokevirtual 56, 3) := by decide +kernel
theorem dX5_copy_109 : decode cX5_copy 109 = .ok (.ireturn, 1) := by decide +kernel
theorem dX5_copy_110 : decode cX5_copy 110 = .ok (.aload 6, 2) := by decide +kernel
theorem dX5_copy_112 : decode cX5_copy 112 = .ok (.getfield 219, 3) := by decide +kernel
theorem dX5_copy_115 : decode cX5_copy 115 = .ok (.iload_n 2, 1) := by decide +kernel
theorem dX5_copy_116 : decode cX5_copy 116 = .ok (.aload 7, 2) := by decide +kernel
theorem dX5_copy_118 : decode cX5_copy 118 = .ok (.getfield 219, 3) := by decide +kernel
theorem dX5_copy_121 : decode cX5_copy 121 = .ok (.iload 4, 2) := by decide +kernel
theorem dX5_copy_123 : decode cX5_copy 123 = .ok (.iload 5, 2) := by decide +kernel
theorem dX5_copy_125 : decode cX5_copy 125 = .ok (.invokestatic 236, 3) := by decide +kernel
theorem dX5_copy_128 : decode cX5_copy 128 = .ok (.iload 5, 2) := by decide +kernel
theorem dX5_copy_130 : decode cX5_copy 130 = .ok (.ireturn, 1) := by decide +kernel
theorem dX5_lays_0 : decode cX5_lays 0 = .ok (.aload_n 0, 1) := by decide +kernel
theorem dX5_lays_1 : decode cX5_lays 1 = .ok (.iload_n 1, 1) := by decide +kernel
theorem dX5_lays_2 : decode cX5_lays 2 = .ok (.invokevirtual 216, 3) := by decide +kernel
theorem dX5_lays_5 : decode cX5_lays 5 = .ok (.istore_n 2, 1) := by decide +kernel
theorem dX5_lays_6 : decode cX5_lays 6 = .ok (.iload_n 2, 1) := by decide +kernel
theorem dX5_lays_7 : decode cX5_lays 7 = .ok (.ifCond .eq 9, 3) := by decide +kernel
theorem dX5_lays_10 : decode cX5_lays 10 = .ok (.aload_n 0, 1) := by decide +kernel
theorem dX5_lays_11 : decode cX5_lays 11 = .ok (.iload_n 2, 1) := by decide +kernel
theorem dX5_lays_12 : decode cX5_lays 12 = .ok (.invokevirtual 56, 3) := by decide +kernel
theorem dX5_lays_15 : decode cX5_lays 15 = .ok (.ireturn, 1) := by decide +kernel
theorem dX5_lays_16 : decode cX5_lays 16 = .ok (.aload_n 0, 1) := by decide +kernel
theorem dX5_lays_17 : decode cX5_lays 17 = .ok (.getfield 38, 3) := by decide +kernel
theorem dX5_lays_20 : decode cX5_lays 20 = .ok (.iload_n 1, 1) := by decide +kernel
theorem dX5_lays_21 : decode cX5_lays 21 = .ok (.aaload, 1) := by decide +kernel
theorem dX5_lays_22 : decode cX5_lays 22 = .ok (.astore_n 3, 1) := by decide +kernel
theorem dX5_lays_23 : decode cX5_lays 23 = .ok (.iconst 0, 1) := by decide +kernel
theorem dX5_lays_24 : decode cX5_lays 24 = .ok (.istore 4, 2) := by decide +kernel
theorem dX5_lays_26 : decode cX5_lays 26 = .ok (.iconst 0, 1) := by decide +kernel
theorem dX5_lays_27 : decode cX5_lays 27 = .ok (.istore 5, 2) := by decide +kernel
theorem dX5_lays_29 : decode cX5_lays 29 = .ok (.iload 5, 2) := by decide +kernel
theorem dX5_lays_31 : decode cX5_lays 31 = .ok (.aload_n 3, 1) := by decide +kernel
theorem dX5_lays_32 : decode cX5_lays 32 = .ok (.getfield 213, 3) := by decide +kernel
theorem dX5_lays_35 : decode cX5_lays 35 = .ok (.if_icmp .ge 65, 3) := by decide +kernel
theorem dX5_lays_38 : decode cX5_lays 38 = .ok (.iload 5, 2) := by decide +kernel
theorem dX5_lays_40 : decode cX5_lays 40 = .ok (.aload_n 0, 1) := by decide +kernel
theorem dX5_lays_41 : decode cX5_lays 41 = .ok (.getfield 12, 3) := by decide +kernel
theorem dX5_lays_44 : decode cX5_lays 44 = .ok (.getfield 173, 3) := by decide +kernel
theorem dX5_lays_47 : decode cX5_lays 47 = .ok (.if_icmp .ge 53, 3) := by decide +kernel
theorem dX5_lays_50 : decode cX5_lays 50 = .ok (.aload_n 3, 1) := by decide +kernel
theorem dX5_lays_51 : decode cX5_lays 51 = .ok (.getfield 219, 3) := by decide +kernel
theorem dX5_lays_54 : decode cX5_lays 54 = .ok (.iload 5, 2) := by decide +kernel
theorem dX5_lays_56 : decode cX5_lays 56 = .ok (.laload, 1) := by decide +kernel
theorem dX5_lays_57 : decode cX5_lays 57 = .ok (.lstore 6, 2) := by decide +kernel
theorem dX5_lays_59 : decode cX5_lays 59 = .ok (.lload 6, 2) := by decide +kernel
theorem dX5_lays_61 : decode cX5_lays 61 = .ok (.lconst 0, 1) := by decide +kernel
theorem dX5_lays_62 : decode cX5_lays 62 = .ok (.lcmp, 1) := by decide +kernel
theorem dX5_lays_63 : decode cX5_lays 63 = .ok (.ifCond .lt 31, 3) := by decide +kernel
theorem dX5_lays_66 : decode cX5_lays 66 = .ok (.lload 6, 2) := by decide +kernel
theorem dX5_lays_68 : decode cX5_lays 68 = .ok (.ldc2_w 242, 3) := by decide +kernel
theorem dX5_lays_71 : decode cX5_lays 71 = .ok (.lcmp, 1) := by decide +kernel
theorem dX5_lays_72 : decode cX5_lays 72 = .ok (.ifCond .gt 22, 3) := by decide +kernel
theorem dX5_lays_75 : decode cX5_lays 75 = .ok (.aload_n 0, 1) := by decide +kernel
theorem dX5_lays_76 : decode cX5_lays 76 = .ok (.getfield 12, 3) := by decide +kernel
theorem dX5_lays_79 : decode cX5_lays 79 = .ok (.getfield 76, 3) := by decide +kernel
theorem dX5_lays_82 : decode cX5_lays 82 = .ok (.iload 5, 2) := by decide +kernel
theorem dX5_lays_84 : decode cX5_lays 84 = .ok (.aaload, 1) := by decide +kernel
theorem dX5_lays_85 : decode cX5_lays 85 = .ok (.lload 6, 2) := by decide +kernel
theorem dX5_lays_87 : decode cX5_lays 87 = .ok (.l2i, 1) := by decide +kernel
theorem dX5_lays_88 : decode cX5_lays 88 = .ok (.putfield 98, 3) := by decide +kernel
theorem dX5_lays_91 : decode cX5_lays 91 = .ok (.iinc 4 1, 3) := by decide +kernel
theorem dX5_lays_94 : decode cX5_lays 94 = .ok (.iinc 5 1, 3) := by decide +kernel
theorem dX5_lays_97 : decode cX5_lays 97 = .ok (.goto (-68), 3) := by decide +kernel
theorem dX5_lays_100 : decode cX5_lays 100 = .ok (.iload 4, 2) := by decide +kernel
theorem dX5_lays_102 : decode cX5_lays 102 = .ok (.ireturn, 1) := by decide +kernel
theorem dX5_book_0 : decode cX5_book 0 = .ok (.aload_n 0, 1) := by decide +kernel
theorem dX5_book_1 : decode cX5_book 1 = .ok (.iload_n 1, 1) := by decide +kernel
theorem dX5_book_2 : decode cX5_book 2 = .ok (.iload_n 2, 1) := by decide +kernel
theorem dX5_book_3 : decode cX5_book 3 = .ok (.invokevirtual 244, 3) := by decide +kernel
theorem dX5_book_6 : decode cX5_book 6 = .ok (.istore_n 3, 1) := by decide +kernel
theorem dX5_book_7 : decode cX5_book 7 = .ok (.iload_n 3, 1) := by decide +kernel
theorem dX5_book_8 : decode cX5_book 8 = .ok (.ifCond .eq 9, 3) := by decide +kernel
theorem dX5_book_11 : decode cX5_book 11 = .ok (.aload_n 0, 1) := by decide +kernel
theorem dX5_book_12 : decode cX5_book 12 = .ok (.iload_n 3, 1) := by decide +kernel
theorem dX5_book_13 : decode cX5_book 13 = .ok (.invokevirtual 56, 3) := by decide +kernel
theorem dX5_book_16 : decode cX5_book 16 = .ok (.ireturn, 1) := by decide +kernel
theorem dX5_book_17 : decode cX5_book 17 = .ok (.aload_n 0, 1) := by decide +kernel
theorem dX5_book_18 : decode cX5_book 18 = .ok (.getfield 38, 3) := by decide +kernel
theorem dX5_book_21 : decode cX5_book 21 = .ok (.iload_n 1, 1) := by decide +kernel
theorem dX5_book_22 : decode cX5_book 22 = .ok (.aaload, 1) := by decide +kernel
theorem dX5_book_23 : decode cX5_book 23 = .ok (.astore 4, 2) := by decide +kernel
theorem dX5_book_25 : decode cX5_book 25 = .ok (.aload_n 0, 1) := by decide +kernel
theorem dX5_book_26 : decode cX5_book 26 = .ok (.iload_n 2, 1) := by decide +kernel
theorem dX5_book_27 : decode cX5_book 27 = .ok (.invokevirtual 148, 3) := by decide +kernel
theorem dX5_book_30 : decode cX5_book 30 = .ok (.astore 5, 2) := by decide +kernel
theorem dX5_book_32 : decode cX5_book 32 = .ok (.iconst 0, 1) := by decide +kernel
theorem dX5_book_33 : decode cX5_book 33 = .ok (.istore 6, 2) := by decide +kernel
theorem dX5_book_35 : decode cX5_book 35 = .ok (.iload 6, 2) := by decide +kernel
theorem dX5_book_37 : decode cX5_book 37 = .ok (.aload 4, 2) := by decide +kernel
theorem dX5_book_39 : decode cX5_book 39 = .ok (.getfield 213, 3) := by decide +kernel
theorem dX5_book_42 : decode cX5_book 42 = .ok (.if_icmp .ge 27, 3) := by decide +kernel
theorem dX5_book_45 : decode cX5_book 45 = .ok (.aload 4, 2) := by decide +kernel
theorem dX5_book_47 : decode cX5_book 47 = .ok (.iload 6, 2) := by decide +kernel
theorem dX5_book_49 : decode cX5_book 49 = .ok (.aload 5, 2) := by decide +kernel
theorem dX5_book_51 : decode cX5_book 51 = .ok (.getfield 98, 3) := by decide +kernel
theorem dX5_book_54 : decode cX5_book 54 = .ok (.i2l, 1) := by decide +kernel
theorem dX5_book_55 : decode cX5_book 55 = .ok (.invokevirtual 223, 3) := by decide +kernel
theorem dX5_book_58 : decode cX5_book 58 = .ok (.aload 5, 2) := by decide +kernel
theorem dX5_book_60 : decode cX5_book 60 = .ok (.invokevirtual 247, 3) := by decide +kernel
theorem dX5_book_63 : decode cX5_book 63 = .ok (.iinc 6 1, 3) := by decide +kernel
theorem dX5_book_66 : decode cX5_book 66 = .ok (.goto (-31), 3) := by decide +kernel
theorem dX5_book_69 : decode cX5_book 69 = .ok (.aload 4, 2) := by decide +kernel
theorem dX5_book_71 : decode cX5_book 71 = .ok (.getfield 213, 3) := by decide +kernel
theorem dX5_book_74 : decode cX5_book 74 = .ok (.ireturn, 1) := by decide +kernel
theorem dX5_read_0 : decode cX5_read 0 = .ok (.aload_n 0, 1) := by decide +kernel
theorem dX5_read_1 : decode cX5_read 1 = .ok (.iload_n 1, 1) := by decide +kernel
theorem dX5_read_2 : decode cX5_read 2 = .ok (.iload_n 2, 1) := by decide +kernel
theorem dX5_read_3 : decode cX5_read 3 = .ok (.invokevirtual 244, 3) := by decide +kernel
theorem dX5_read_6 : decode cX5_read 6 = .ok (.istore_n 3, 1) := by decide +kernel
theorem dX5_read_7 : decode cX5_read 7 = .ok (.iload_n 3, 1) := by decide +kernel
theorem dX5_read_8 : decode cX5_read 8 = .ok (.ifCond .eq 9, 3) := by decide +kernel
theorem dX5_read_11 : decode cX5_read 11 = .ok (.aload_n 0, 1) := by decide +kernel
theorem dX5_read_12 : decode cX5_read 12 = .ok (.iload_n 3, 1) := by decide +kernel
theorem dX5_read_13 : decode cX5_read 13 = .ok (.invokevirtual 56, 3) := by decide +kernel
theorem dX5_read_16 : decode cX5_read 16 = .ok (.ireturn, 1) := by decide +kernel
theorem dX5_read_17 : decode cX5_read 17 = .ok (.iconst 0, 1) := by decide +kernel
theorem dX5_read_18 : decode cX5_read 18 = .ok (.istore 4, 2) := by decide +kernel
theorem dX5_read_20 : decode cX5_read 20 = .ok (.iconst 0, 1) := by decide +kernel
theorem dX5_read_21 : decode cX5_read 21 = .ok (.istore 5, 2) := by decide +kernel
theorem dX5_read_23 : decode cX5_read 23 = .ok (.iload 5, 2) := by decide +kernel
theorem dX5_read_25 : decode cX5_read 25 = .ok (.bipush 6, 2) := by decide +kernel
theorem dX5_read_27 : decode cX5_read 27 = .ok (.if_icmp .ge 63, 3) := by decide +kernel
theorem dX5_read_30 : decode cX5_read 30 = .ok (.iconst 0, 1) := by decide +kernel
theorem dX5_read_31 : decode cX5_read 31 = .ok (.istore 6, 2) := by decide +kernel
theorem dX5_read_33 : decode cX5_read 33 = .ok (.iload 6, 2) := by decide +kernel
theorem dX5_read_35 : decode cX5_read 35 = .ok (.bipush 99, 2) := by decide +kernel
theorem dX5_read_37 : decode cX5_read 37 = .ok (.if_icmp .gt 47, 3) := by decide +kernel
theorem dX5_read_40 : decode cX5_read 40 = .ok (.aload_n 0, 1) := by decide +kernel
theorem dX5_read_41 : decode cX5_read 41 = .ok (.iload_n 2, 1) := by decide +kernel
theorem dX5_read_42 : decode cX5_read 42 = .ok (.invokevirtual 148, 3) := by decide +kernel
theorem dX5_read_45 : decode cX5_read 45 = .ok (.astore 7, 2) := by decide +kernel
theorem dX5_read_47 : decode cX5_read 47 = .ok (.aload 7, 2) := by decide +kernel
theorem dX5_read_49 : decode cX5_read 49 = .ok (.iload 5, 2) := by decide +kernel
theorem dX5_read_51 : decode cX5_read 51 = .ok (.putfield 91, 3) := by decide +kernel
theorem dX5_read_54 : decode cX5_read 54 = .ok (.aload 7, 2) := by decide +kernel
theorem dX5_read_56 : decode cX5_read 56 = .ok (.iload 6, 2) := by decide +kernel
theorem dX5_read_58 : decode cX5_read 58 = .ok (.putfield 108, 3) := by decide +kernel
theorem dX5_read_61 : decode cX5_read 61 = .ok (.aload 7, 2) := by decide +kernel
theorem dX5_read_63 : decode cX5_read 63 = .ok (.aload_n 0, 1) := by decide +kernel
theorem dX5_read_64 : decode cX5_read 64 = .ok (.getfield 38, 3) := by decide +kernel
theorem dX5_read_67 : decode cX5_read 67 = .ok (.iload_n 1, 1) := by decide +kernel
theorem dX5_read_68 : decode cX5_read 68 = .ok (.aaload, 1) := by decide +kernel
theorem dX5_read_69 : decode cX5_read 69 = .ok (.invokestatic 250, 3) := by decide +kernel
theorem dX5_read_72 : decode cX5_read 72 = .ok (.ifCond .eq 6, 3) := by decide +kernel
theorem dX5_read_75 : decode cX5_read 75 = .ok (.iinc 4 1, 3) := by decide +kernel
theorem dX5_read_78 : decode cX5_read 78 = .ok (.iinc 6 1, 3) := by decide +kernel
theorem dX5_read_81 : decode cX5_read 81 = .ok (.goto (-48), 3) := by decide +kernel
theorem dX5_read_84 : decode cX5_read 84 = .ok (.iinc 5 1, 3) := by decide +kernel
theorem dX5_read_87 : decode cX5_read 87 = .ok (.goto (-64), 3) := by decide +kernel
theorem dX5_read_90 : decode cX5_read 90 = .ok (.iload 4, 2) := by decide +kernel
theorem dX5_read_92 : decode cX5_read 92 = .ok (.ireturn, 1) := by decide +kernel
theorem dX5_image_0 : decode cX5_image 0 = .ok (.aload_n 0, 1) := by decide +kernel
theorem dX5_image_1 : decode cX5_image 1 = .ok (.getfield 16, 3) := by decide +kernel
theorem dX5_image_4 : decode cX5_image 4 = .ok (.aload_n 0, 1) := by decide +kernel
theorem dX5_image_5 : decode cX5_image 5 = .ok (.getfield 12, 3) := by decide +kernel
theorem dX5_image_8 : decode cX5_image 8 = .ok (.invokevirtual 165, 3) := by decide +kernel
theorem dX5_image_11 : decode cX5_image 11 = .ok (.aload_n 0, 1) := by decide +kernel
theorem dX5_image_12 : decode cX5_image 12 = .ok (.iconst 1, 1) := by decide +kernel
theorem dX5_image_13 : decode cX5_image 13 = .ok (.putfield 46, 3) := by decide +kernel
theorem dX5_image_16 : decode cX5_image 16 = .ok (.iconst 1, 1) := by decide +kernel
theorem dX5_image_17 : decode cX5_image 17 = .ok (.ireturn, 1) := by decide +kernel
theorem dX5_undo_0 : decode cX5_undo 0 = .ok (.aload_n 0, 1) := by decide +kernel
theorem dX5_undo_1 : decode cX5_undo 1 = .ok (.getfield 46, 3) := by decide +kernel
theorem dX5_undo_4 : decode cX5_undo 4 = .ok (.ifCond .ne 10, 3) := by decide +kernel
theorem dX5_undo_7 : decode cX5_undo 7 = .ok (.aload_n 0, 1) := by decide +kernel
theorem dX5_undo_8 : decode cX5_undo 8 = .ok (.ldc 176, 2) := by decide +kernel
theorem dX5_undo_10 : decode cX5_undo 10 = .ok (.invokevirtual 56, 3) := by decide +kernel
theorem dX5_undo_13 : decode cX5_undo 13 = .ok (.ireturn, 1) := by decide +kernel
theorem dX5_undo_14 : decode cX5_undo 14 = .ok (.aload_n 0, 1) := by decide +kernel
theorem dX5_undo_15 : decode cX5_undo 15 = .ok (.getfield 12, 3) := by decide +kernel
theorem dX5_undo_18 : decode cX5_undo 18 = .ok (.aload_n 0, 1) := by decide +kernel
theorem dX5_undo_19 : decode cX5_undo 19 = .ok (.getfield 16, 3) := by decide +kernel
theorem dX5_undo_22 : decode cX5_undo 22 = .ok (.invokevirtual 165, 3) := by decide +kernel
theorem dX5_undo_25 : decode cX5_undo 25 = .ok (.aload_n 0, 1) := by decide +kernel
theorem dX5_undo_26 : decode cX5_undo 26 = .ok (.getfield 12, 3) := by decide +kernel
theorem dX5_undo_29 : decode cX5_undo 29 = .ok (.getfield 173, 3) := by decide +kernel
theorem dX5_undo_32 : decode cX5_undo 32 = .ok (.ireturn, 1) := by decide +kernel
theorem dX5_tear_0 : decode cX5_tear 0 = .ok (.aload_n 0, 1) := by decide +kernel
theorem dX5_tear_1 : decode cX5_tear 1 = .ok (.getfield 46, 3) := by decide +kernel
theorem dX5_tear_4 : decode cX5_tear 4 = .ok (.ifCond .eq 7, 3) := by decide +kernel
theorem dX5_tear_7 : decode cX5_tear 7 = .ok (.iconst 1, 1) := by decide +kernel
theorem dX5_tear_8 : decode cX5_tear 8 = .ok (.goto 4, 3) := by decide +kernel
theorem dX5_tear_11 : decode cX5_tear 11 = .ok (.iconst 0, 1) := by decide +kernel
theorem dX5_tear_12 : decode cX5_tear 12 = .ok (.istore_n 1, 1) := by decide +kernel
theorem dX5_tear_13 : decode cX5_tear 13 = .ok (.aload_n 0, 1) := by decide +kernel
theorem dX5_tear_14 : decode cX5_tear 14 = .ok (.iconst 0, 1) := by decide +kernel
theorem dX5_tear_15 : decode cX5_tear 15 = .ok (.putfield 46, 3) := by decide +kernel
theorem dX5_tear_18 : decode cX5_tear 18 = .ok (.iload_n 1, 1) := by decide +kernel
theorem dX5_tear_19 : decode cX5_tear 19 = .ok (.ireturn, 1) := by decide +kernel
theorem dX5_count_0 : decode cX5_count 0 = .ok (.iload_n 1, 1) := by decide +kernel
theorem dX5_count_1 : decode cX5_count 1 = .ok (.tableswitch 63 0 3 #[31, 39, 47, 55], 31) := by decide +kernel
theorem dX5_count_32 : decode cX5_count 32 = .ok (.aload_n 0, 1) := by decide +kernel
theorem dX5_count_33 : decode cX5_count 33 = .ok (.getfield 12, 3) := by decide +kernel
theorem dX5_count_36 : decode cX5_count 36 = .ok (.getfield 173, 3) := by decide +kernel
theorem dX5_count_39 : decode cX5_count 39 = .ok (.ireturn, 1) := by decide +kernel
theorem dX5_count_40 : decode cX5_count 40 = .ok (.aload_n 0, 1) := by decide +kernel
theorem dX5_count_41 : decode cX5_count 41 = .ok (.getfield 32, 3) := by decide +kernel
theorem dX5_count_44 : decode cX5_count 44 = .ok (.getfield 194, 3) := by decide +kernel
theorem dX5_count_47 : decode cX5_count 47 = .ok (.ireturn, 1) := by decide +kernel
theorem dX5_count_48 : decode cX5_count 48 = .ok (.aload_n 0, 1) := by decide +kernel
theorem dX5_count_49 : decode cX5_count 49 = .ok (.getfield 12, 3) := by decide +kernel
theorem dX5_count_52 : decode cX5_count 52 = .ok (.invokevirtual 254, 3) := by decide +kernel
theorem dX5_count_55 : decode cX5_count 55 = .ok (.ireturn, 1) := by decide +kernel
theorem dX5_count_56 : decode cX5_count 56 = .ok (.aload_n 0, 1) := by decide +kernel
theorem dX5_count_57 : decode cX5_count 57 = .ok (.getfield 12, 3) := by decide +kernel
theorem dX5_count_60 : decode cX5_count 60 = .ok (.invokevirtual 257, 3) := by decide +kernel
theorem dX5_count_63 : decode cX5_count 63 = .ok (.ireturn, 1) := by decide +kernel
theorem dX5_count_64 : decode cX5_count 64 = .ok (.aload_n 0, 1) := by decide +kernel
theorem dX5_count_65 : decode cX5_count 65 = .ok (.ldc 55, 2) := by decide +kernel
theorem dX5_count_67 : decode cX5_count 67 = .ok (.invokevirtual 56, 3) := by decide +kernel
theorem dX5_count_70 : decode cX5_count 70 = .ok (.ireturn, 1) := by decide +kernel
theorem dX5_status_0 : decode cX5_status 0 = .ok (.iload_n 1, 1) := by decide +kernel
theorem dX5_status_1 : decode cX5_status 1 = .ok (.iconst (-1), 1) := by decide +kernel
theorem dX5_status_2 : decode cX5_status 2 = .ok (.if_icmp .lt 9, 3) := by decide +kernel
theorem dX5_status_5 : decode cX5_status 5 = .ok (.iload_n 1, 1) := by decide +kernel
theorem dX5_status_6 : decode cX5_status 6 = .ok (.bipush 7, 2) := by decide +kernel
theorem dX5_status_8 : decode cX5_status 8 = .ok (.if_icmp .lt 10, 3) := by decide +kernel
theorem dX5_status_11 : decode cX5_status 11 = .ok (.aload_n 0, 1) := by decide +kernel
theorem dX5_status_12 : decode cX5_status 12 = .ok (.ldc 55, 2) := by decide +kernel
theorem dX5_status_14 : decode cX5_status 14 = .ok (.invokevirtual 56, 3) := by decide +kernel
theorem dX5_status_17 : decode cX5_status 17 = .ok (.ireturn, 1) := by decide +kernel
theorem dX5_status_18 : decode cX5_status 18 = .ok (.iload_n 1, 1) := by decide +kernel
theorem dX5_status_19 : decode cX5_status 19 = .ok (.ifCond .lt 10, 3) := by decide +kernel
theorem dX5_status_22 : decode cX5_status 22 = .ok (.aload_n 0, 1) := by decide +kernel
theorem dX5_status_23 : decode cX5_status 23 = .ok (.getfield 42, 3) := by decide +kernel
theorem dX5_status_26 : decode cX5_status 26 = .ok (.iload_n 1, 1) := by decide +kernel
theorem dX5_status_27 : decode cX5_status 27 = .ok (.iaload, 1) := by decide +kernel
theorem dX5_status_28 : decode cX5_status 28 = .ok (.ireturn, 1) := by decide +kernel
theorem dX5_status_29 : decode cX5_status 29 = .ok (.iconst 0, 1) := by decide +kernel
theorem dX5_status_30 : decode cX5_status 30 = .ok (.istore_n 2, 1) := by decide +kernel
theorem dX5_status_31 : decode cX5_status 31 = .ok (.iconst 0, 1) := by decide +kernel
theorem dX5_status_32 : decode cX5_status 32 = .ok (.istore_n 3, 1) := by decide +kernel
theorem dX5_status_33 : decode cX5_status 33 = .ok (.iload_n 3, 1) := by decide +kernel
theorem dX5_status_34 : decode cX5_status 34 = .ok (.bipush 7, 2) := by decide +kernel
theorem dX5_status_36 : decode cX5_status 36 = .ok (.if_icmp .ge 18, 3) := by decide +kernel
theorem dX5_status_39 : decode cX5_status 39 = .ok (.iload_n 2, 1) := by decide +kernel
theorem dX5_status_40 : decode cX5_status 40 = .ok (.aload_n 0, 1) := by decide +kernel
theorem dX5_status_41 : decode cX5_status 41 = .ok (.getfield 42, 3) := by decide +kernel
theorem dX5_status_44 : decode cX5_status 44 = .ok (.iload_n 3, 1) := by decide +kernel
theorem dX5_status_45 : decode cX5_status 45 = .ok (.iaload, 1) := by decide +kernel
theorem dX5_status_46 : decode cX5_status 46 = .ok (.iadd, 1) := by decide +kernel
theorem dX5_status_47 : decode cX5_status 47 = .ok (.istore_n 2, 1) := by decide +kernel
theorem dX5_status_48 : decode cX5_status 48 = .ok (.iinc 3 1, 3) := by decide +kernel
theorem dX5_status_51 : decode cX5_status 51 = .ok (.goto (-18), 3) := by decide +kernel
theorem dX5_status_54 : decode cX5_status 54 = .ok (.iload_n 2, 1) := by decide +kernel
theorem dX5_status_55 : decode cX5_status 55 = .ok (.ireturn, 1) := by decide +kernel
theorem dX5_finding_0 : decode cX5_finding 0 = .ok (.ldc 55, 2) := by decide +kernel
theorem dX5_finding_2 : decode cX5_finding 2 = .ok (.iload_n 1, 1) := by decide +kernel
theorem dX5_finding_3 : decode cX5_finding 3 = .ok (.isub, 1) := by decide +kernel
theorem dX5_finding_4 : decode cX5_finding 4 = .ok (.istore_n 2, 1) := by decide +kernel
theorem dX5_finding_5 : decode cX5_finding 5 = .ok (.iload_n 2, 1) := by decide +kernel
theorem dX5_finding_6 : decode cX5_finding 6 = .ok (.ifCond .lt 19, 3) := by decide +kernel
theorem dX5_finding_9 : decode cX5_finding 9 = .ok (.iload_n 2, 1) := by decide +kernel
theorem dX5_finding_10 : decode cX5_finding 10 = .ok (.bipush 7, 2) := by decide +kernel
theorem dX5_finding_12 : decode cX5_finding 12 = .ok (.if_icmp .ge 13, 3) := by decide +kernel
theorem dX5_finding_15 : decode cX5_finding 15 = .ok (.aload_n 0, 1) := by decide +kernel
theorem dX5_finding_16 : decode cX5_finding 16 = .ok (.getfield 42, 3) := by decide +kernel
theorem dX5_finding_19 : decode cX5_finding 19 = .ok (.iload_n 2, 1) := by decide +kernel
theorem dX5_finding_20 : decode cX5_finding 20 = .ok (.dup2, 1) := by decide +kernel
theorem dX5_finding_21 : decode cX5_finding 21 = .ok (.iaload, 1) := by decide +kernel
theorem dX5_finding_22 : decode cX5_finding 22 = .ok (.iconst 1, 1) := by decide +kernel
theorem dX5_finding_23 : decode cX5_finding 23 = .ok (.iadd, 1) := by decide +kernel
theorem dX5_finding_24 : decode cX5_finding 24 = .ok (.iastore, 1) := by decide +kernel
theorem dX5_finding_25 : decode cX5_finding 25 = .ok (.iload_n 1, 1) := by decide +kernel
theorem dX5_finding_26 : decode cX5_finding 26 = .ok (.ireturn, 1) := by decide +kernel
theorem dX5_daysOrNone_0 : decode cX5_daysOrNone 0 = .ok (.iload_n 1, 1) := by decide +kernel
theorem dX5_daysOrNone_1 : decode cX5_daysOrNone 1 = .ok (.sipush 201, 3) := by decide +kernel
theorem dX5_daysOrNone_4 : decode cX5_daysOrNone 4 = .ok (.if_icmp .ne 12, 3) := by decide +kernel
theorem dX5_daysOrNone_7 : decode cX5_daysOrNone 7 = .ok (.aload_n 0, 1) := by decide +kernel
theorem dX5_daysOrNone_8 : decode cX5_daysOrNone 8 = .ok (.ldc 176, 2) := by decide +kernel
theorem dX5_daysOrNone_10 : decode cX5_daysOrNone 10 = .ok (.invokevirtual 56, 3) := by decide +kernel
theorem dX5_daysOrNone_13 : decode cX5_daysOrNone 13 = .ok (.goto 4, 3) := by decide +kernel
theorem dX5_daysOrNone_16 : decode cX5_daysOrNone 16 = .ok (.iload_n 1, 1) := by decide +kernel
theorem dX5_daysOrNone_17 : decode cX5_daysOrNone 17 = .ok (.ireturn, 1) := by decide +kernel
theorem dX5_isThere_0 : decode cX5_isThere 0 = .ok (.iload_n 1, 1) := by decide +kernel
theorem dX5_isThere_1 : decode cX5_isThere 1 = .ok (.ifCond .lt 18, 3) := by decide +kernel
theorem dX5_isThere_4 : decode cX5_isThere 4 = .ok (.iload_n 1, 1) := by decide +kernel
theorem dX5_isThere_5 : decode cX5_isThere 5 = .ok (.aload_n 0, 1) := by decide +kernel
theorem dX5_isThere_6 : decode cX5_isThere 6 = .ok (.getfield 12, 3) := by decide +kernel
theorem dX5_isThere_9 : decode cX5_isThere 9 = .ok (.getfield 173, 3) := by decide +kernel
theorem dX5_isThere_12 : decode cX5_isThere 12 = .ok (.if_icmp .ge 7, 3) := by decide +kernel
theorem dX5_isThere_15 : decode cX5_isThere 15 = .ok (.iconst 1, 1) := by decide +kernel
theorem dX5_isThere_16 : decode cX5_isThere 16 = .ok (.goto 4, 3) := by decide +kernel
theorem dX5_isThere_19 : decode cX5_isThere 19 = .ok (.iconst 0, 1) := by decide +kernel
theorem dX5_isThere_20 : decode cX5_isThere 20 = .ok (.ireturn, 1) := by decide +kernel
theorem dX5_areTwo_0 : decode cX5_areTwo 0 = .ok (.aload_n 0, 1) := by decide +kernel
theorem dX5_areTwo_1 : decode cX5_areTwo 1 = .ok (.iload_n 1, 1) := by decide +kernel
theorem dX5_areTwo_2 : decode cX5_areTwo 2 = .ok (.invokevirtual 73, 3) := by decide +kernel
theorem dX5_areTwo_5 : decode cX5_areTwo 5 = .ok (.ifCond .eq 20, 3) := by decide +kernel
theorem dX5_areTwo_8 : decode cX5_areTwo 8 = .ok (.aload_n 0, 1) := by decide +kernel
theorem dX5_areTwo_9 : decode cX5_areTwo 9 = .ok (.iload_n 2, 1) := by decide +kernel
theorem dX5_areTwo_10 : decode cX5_areTwo 10 = .ok (.invokevirtual 73, 3) := by decide +kernel
theorem dX5_areTwo_13 : decode cX5_areTwo 13 = .ok (.ifCond .eq 12, 3) := by decide +kernel
theorem dX5_areTwo_16 : decode cX5_areTwo 16 = .ok (.iload_n 1, 1) := by decide +kernel
theorem dX5_areTwo_17 : decode cX5_areTwo 17 = .ok (.iload_n 2, 1) := by decide +kernel
theorem dX5_areTwo_18 : decode cX5_areTwo 18 = .ok (.if_icmp .eq 7, 3) := by decide +kernel
theorem dX5_areTwo_21 : decode cX5_areTwo 21 = .ok (.iconst 1, 1) := by decide +kernel
theorem dX5_areTwo_22 : decode cX5_areTwo 22 = .ok (.goto 4, 3) := by decide +kernel
theorem dX5_areTwo_25 : decode cX5_areTwo 25 = .ok (.iconst 0, 1) := by decide +kernel
theorem dX5_areTwo_26 : decode cX5_areTwo 26 = .ok (.ireturn, 1) := by decide +kernel
theorem dX5_maySet_0 : decode cX5_maySet 0 = .ok (.iload_n 1, 1) := by decide +kernel
theorem dX5_maySet_1 : decode cX5_maySet 1 = .ok (.tableswitch 71 1 6 #[39, 46, 65, 46, 39, 39], 39) := by decide +kernel
theorem dX5_maySet_40 : decode cX5_maySet 40 = .ok (.iload_n 2, 1) := by decide +kernel
theorem dX5_maySet_41 : decode cX5_maySet 41 = .ok (.bipush 99, 2) := by decide +kernel
theorem dX5_maySet_43 : decode cX5_maySet 43 = .ok (.invokestatic 121, 3) := by decide +kernel
theorem dX5_maySet_46 : decode cX5_maySet 46 = .ok (.ireturn, 1) := by decide +kernel
theorem dX5_maySet_47 : decode cX5_maySet 47 = .ok (.iload_n 2, 1) := by decide +kernel
theorem dX5_maySet_48 : decode cX5_maySet 48 = .ok (.iconst (-1), 1) := by decide +kernel
theorem dX5_maySet_49 : decode cX5_maySet 49 = .ok (.if_icmp .eq 11, 3) := by decide +kernel
theorem dX5_maySet_52 : decode cX5_maySet 52 = .ok (.aload_n 0, 1) := by decide +kernel
theorem dX5_maySet_53 : decode cX5_maySet 53 = .ok (.iload_n 2, 1) := by decide +kernel
theorem dX5_maySet_54 : decode cX5_maySet 54 = .ok (.invokevirtual 73, 3) := by decide +kernel
theorem dX5_maySet_57 : decode cX5_maySet 57 = .ok (.ifCond .eq 7, 3) := by decide +kernel
theorem dX5_maySet_60 : decode cX5_maySet 60 = .ok (.iconst 1, 1) := by decide +kernel
theorem dX5_maySet_61 : decode cX5_maySet 61 = .ok (.goto 4, 3) := by decide +kernel
theorem dX5_maySet_64 : decode cX5_maySet 64 = .ok (.iconst 0, 1) := by decide +kernel
theorem dX5_maySet_65 : decode cX5_maySet 65 = .ok (.ireturn, 1) := by decide +kernel
theorem dX5_maySet_66 : decode cX5_maySet 66 = .ok (.iload_n 2, 1) := by decide +kernel
theorem dX5_maySet_67 : decode cX5_maySet 67 = .ok (.iconst 1, 1) := by decide +kernel
theorem dX5_maySet_68 : decode cX5_maySet 68 = .ok (.invokestatic 121, 3) := by decide +kernel
theorem dX5_maySet_71 : decode cX5_maySet 71 = .ok (.ireturn, 1) := by decide +kernel
theorem dX5_maySet_72 : decode cX5_maySet 72 = .ok (.iconst 0, 1) := by decide +kernel
theorem dX5_maySet_73 : decode cX5_maySet 73 = .ok (.ireturn, 1) := by decide +kernel
theorem dX5_trialOf_0 : decode cX5_trialOf 0 = .ok (.aload_n 0, 1) := by decide +kernel
theorem dX5_trialOf_1 : decode cX5_trialOf 1 = .ok (.getfield 25, 3) := by decide +kernel
theorem dX5_trialOf_4 : decode cX5_trialOf 4 = .ok (.aload_n 0, 1) := by decide +kernel
theorem dX5_trialOf_5 : decode cX5_trialOf 5 = .ok (.getfield 12, 3) := by decide +kernel
theorem dX5_trialOf_8 : decode cX5_trialOf 8 = .ok (.getfield 76, 3) := by decide +kernel
theorem dX5_trialOf_11 : decode cX5_trialOf 11 = .ok (.iload_n 1, 1) := by decide +kernel
theorem dX5_trialOf_12 : decode cX5_trialOf 12 = .ok (.aaload, 1) := by decide +kernel
theorem dX5_trialOf_13 : decode cX5_trialOf 13 = .ok (.invokevirtual 260, 3) := by decide +kernel
theorem dX5_trialOf_16 : decode cX5_trialOf 16 = .ok (.aload_n 0, 1) := by decide +kernel
theorem dX5_trialOf_17 : decode cX5_trialOf 17 = .ok (.getfield 25, 3) := by decide +kernel
theorem dX5_trialOf_20 : decode cX5_trialOf 20 = .ok (.areturn, 1) := by decide +kernel
theorem dX5_faultOfSheet_0 : decode cX5_faultOfSheet 0 = .ok (.iload_n 1, 1) := by decide +kernel
theorem dX5_faultOfSheet_1 : decode cX5_faultOfSheet 1 = .ok (.invokestatic 206, 3) := by decide +kernel
theorem dX5_faultOfSheet_4 : decode cX5_faultOfSheet 4 = .ok (.ifCond .ne 6, 3) := by decide +kernel
theorem dX5_faultOfSheet_7 : decode cX5_faultOfSheet 7 = .ok (.ldc 55, 2) := by decide +kernel
theorem dX5_faultOfSheet_9 : decode cX5_faultOfSheet 9 = .ok (.ireturn, 1) := by decide +kernel
theorem dX5_faultOfSheet_10 : decode cX5_faultOfSheet 10 = .ok (.aload_n 0, 1) := by decide +kernel
theorem dX5_faultOfSheet_11 : decode cX5_faultOfSheet 11 = .ok (.getfield 38, 3) := by decide +kernel
theorem dX5_faultOfSheet_14 : decode cX5_faultOfSheet 14 = .ok (.iload_n 1, 1) := by decide +kernel
theorem dX5_faultOfSheet_15 : decode cX5_faultOfSheet 15 = .ok (.aaload, 1) := by decide +kernel
theorem dX5_faultOfSheet_16 : decode cX5_faultOfSheet 16 = .ok (.invokevirtual 226, 3) := by decide +kernel
theorem dX5_faultOfSheet_19 : decode cX5_faultOfSheet 19 = .ok (.ifCond .eq 8, 3) := by decide +kernel
theorem dX5_faultOfSheet_22 : decode cX5_faultOfSheet 22 = .ok (.ldc 229, 2) := by decide +kernel
theorem dX5_faultOfSheet_24 : decode cX5_faultOfSheet 24 = .ok (.goto 4, 3) := by decide +kernel
theorem dX5_faultOfSheet_27 : decode cX5_faultOfSheet 27 = .ok (.iconst 0, 1) := by decide +kernel
theorem dX5_faultOfSheet_28 : decode cX5_faultOfSheet 28 = .ok (.ireturn, 1) := by decide +kernel
theorem dX5_faultOfSheetFor_0 : decode cX5_faultOfSheetFor 0 = .ok (.aload_n 0, 1) := by decide +kernel
theorem dX5_faultOfSheetFor_1 : decode cX5_faultOfSheetFor 1 = .ok (.iload_n 1, 1) := by decide +kernel
theorem dX5_faultOfSheetFor_2 : decode cX5_faultOfSheetFor 2 = .ok (.invokevirtual 216, 3) := by decide +kernel
theorem dX5_faultOfSheetFor_5 : decode cX5_faultOfSheetFor 5 = .ok (.istore_n 3, 1) := by decide +kernel
theorem dX5_faultOfSheetFor_6 : decode cX5_faultOfSheetFor 6 = .ok (.iload_n 3, 1) := by decide +kernel
theorem dX5_faultOfSheetFor_7 : decode cX5_faultOfSheetFor 7 = .ok (.ifCond .eq 5, 3) := by decide +kernel
theorem dX5_faultOfSheetFor_10 : decode cX5_faultOfSheetFor 10 = .ok (.iload_n 3, 1) := by decide +kernel
theorem dX5_faultOfSheetFor_11 : decode cX5_faultOfSheetFor 11 = .ok (.ireturn, 1) := by decide +kernel
theorem dX5_faultOfSheetFor_12 : decode cX5_faultOfSheetFor 12 = .ok (.aload_n 0, 1) := by decide +kernel
theorem dX5_faultOfSheetFor_13 : decode cX5_faultOfSheetFor 13 = .ok (.iload_n 2, 1) := by decide +kernel
theorem dX5_faultOfSheetFor_14 : decode cX5_faultOfSheetFor 14 = .ok (.invokevirtual 73, 3) := by decide +kernel
theorem dX5_faultOfSheetFor_17 : decode cX5_faultOfSheetFor 17 = .ok (.ifCond .eq 7, 3) := by decide +kernel
theorem dX5_faultOfSheetFor_20 : decode cX5_faultOfSheetFor 20 = .ok (.iconst 0, 1) := by decide +kernel
theorem dX5_faultOfSheetFor_21 : decode cX5_faultOfSheetFor 21 = .ok (.goto 5, 3) := by decide +kernel
theorem dX5_faultOfSheetFor_24 : decode cX5_faultOfSheetFor 24 = .ok (.ldc 55, 2) := by decide +kernel
theorem dX5_faultOfSheetFor_26 : decode cX5_faultOfSheetFor 26 = .ok (.ireturn, 1) := by decide +kernel
theorem dX5_isUpTo_0 : decode cX5_isUpTo 0 = .ok (.iload_n 0, 1) := by decide +kernel
theorem dX5_isUpTo_1 : decode cX5_isUpTo 1 = .ok (.ifCond .lt 12, 3) := by decide +kernel
theorem dX5_isUpTo_4 : decode cX5_isUpTo 4 = .ok (.iload_n 0, 1) := by decide +kernel
theorem dX5_isUpTo_5 : decode cX5_isUpTo 5 = .ok (.iload_n 1, 1) := by decide +kernel
theorem dX5_isUpTo_6 : decode cX5_isUpTo 6 = .ok (.if_icmp .gt 7, 3) := by decide +kernel
theorem dX5_isUpTo_9 : decode cX5_isUpTo 9 = .ok (.iconst 1, 1) := by decide +kernel
theorem dX5_isUpTo_10 : decode cX5_isUpTo 10 = .ok (.goto 4, 3) := by decide +kernel
theorem dX5_isUpTo_13 : decode cX5_isUpTo 13 = .ok (.iconst 0, 1) := by decide +kernel
theorem dX5_isUpTo_14 : decode cX5_isUpTo 14 = .ok (.ireturn, 1) := by decide +kernel
theorem dX5_isSheet_0 : decode cX5_isSheet 0 = .ok (.iload_n 0, 1) := by decide +kernel
theorem dX5_isSheet_1 : decode cX5_isSheet 1 = .ok (.ifCond .lt 12, 3) := by decide +kernel
theorem dX5_isSheet_4 : decode cX5_isSheet 4 = .ok (.iload_n 0, 1) := by decide +kernel
theorem dX5_isSheet_5 : decode cX5_isSheet 5 = .ok (.iconst 4, 1) := by decide +kernel
theorem dX5_isSheet_6 : decode cX5_isSheet 6 = .ok (.if_icmp .ge 7, 3) := by decide +kernel
theorem dX5_isSheet_9 : decode cX5_isSheet 9 = .ok (.iconst 1, 1) := by decide +kernel
theorem dX5_isSheet_10 : decode cX5_isSheet 10 = .ok (.goto 4, 3) := by decide +kernel
theorem dX5_isSheet_13 : decode cX5_isSheet 13 = .ok (.iconst 0, 1) := by decide +kernel
theorem dX5_isSheet_14 : decode cX5_isSheet 14 = .ok (.ireturn, 1) := by decide +kernel
theorem dX5_isKind_0 : decode cX5_isKind 0 = .ok (.iload_n 0, 1) := by decide +kernel
theorem dX5_isKind_1 : decode cX5_isKind 1 = .ok (.ifCond .lt 13, 3) := by decide +kernel
theorem dX5_isKind_4 : decode cX5_isKind 4 = .ok (.iload_n 0, 1) := by decide +kernel
theorem dX5_isKind_5 : decode cX5_isKind 5 = .ok (.bipush 6, 2) := by decide +kernel
theorem dX5_isKind_7 : decode cX5_isKind 7 = .ok (.if_icmp .ge 7, 3) := by decide +kernel
theorem dX5_isKind_10 : decode cX5_isKind 10 = .ok (.iconst 1, 1) := by decide +kernel
theorem dX5_isKind_11 : decode cX5_isKind 11 = .ok (.goto 4, 3) := by decide +kernel
theorem dX5_isKind_14 : decode cX5_isKind 14 = .ok (.iconst 0, 1) := by decide +kernel
theorem dX5_isKind_15 : decode cX5_isKind 15 = .ok (.ireturn, 1) := by decide +kernel
theorem dX5_isOrIsUnder_0 : decode cX5_isOrIsUnder 0 = .ok (.iload_n 0, 1) := by decide +kernel
theorem dX5_isOrIsUnder_1 : decode cX5_isOrIsUnder 1 = .ok (.istore_n 2, 1) := by decide +kernel
theorem dX5_isOrIsUnder_2 : decode cX5_isOrIsUnder 2 = .ok (.iconst 0, 1) := by decide +kernel
theorem dX5_isOrIsUnder_3 : decode cX5_isOrIsUnder 3 = .ok (.istore_n 3, 1) := by decide +kernel
theorem dX5_isOrIsUnder_4 : decode cX5_isOrIsUnder 4 = .ok (.iload_n 3, 1) := by decide +kernel
theorem dX5_isOrIsUnder_5 : decode cX5_isOrIsUnder 5 = .ok (.bipush 6, 2) := by decide +kernel
theorem dX5_isOrIsUnder_7 : decode cX5_isOrIsUnder 7 = .ok (.if_icmp .ge 29, 3) := by decide +kernel
theorem dX5_isOrIsUnder_10 : decode cX5_isOrIsUnder 10 = .ok (.iload_n 2, 1) := by decide +kernel
theorem dX5_isOrIsUnder_11 : decode cX5_isOrIsUnder 11 = .ok (.invokestatic 51, 3) := by decide +kernel
theorem dX5_isOrIsUnder_14 : decode cX5_isOrIsUnder 14 = .ok (.ifCond .eq 22, 3) := by decide +kernel
theorem dX5_isOrIsUnder_17 : decode cX5_isOrIsUnder 17 = .ok (.iload_n 2, 1) := by decide +kernel
theorem dX5_isOrIsUnder_18 : decode cX5_isOrIsUnder 18 = .ok (.iload_n 1, 1) := by decide +kernel
theorem dX5_isOrIsUnder_19 : decode cX5_isOrIsUnder 19 = .ok (.if_icmp .ne 5, 3) := by decide +kernel
theorem dX5_isOrIsUnder_22 : decode cX5_isOrIsUnder 22 = .ok (.iconst 1, 1) := by decide +kernel
theorem dX5_isOrIsUnder_23 : decode cX5_isOrIsUnder 23 = .ok (.ireturn, 1) := by decide +kernel
theorem dX5_isOrIsUnder_24 : decode cX5_isOrIsUnder 24 = .ok (.getstatic 262, 3) := by decide +kernel
theorem dX5_isOrIsUnder_27 : decode cX5_isOrIsUnder 27 = .ok (.iload_n 2, 1) := by decide +kernel
theorem dX5_isOrIsUnder_28 : decode cX5_isOrIsUnder 28 = .ok (.iaload, 1) := by decide +kernel
theorem dX5_isOrIsUnder_29 : decode cX5_isOrIsUnder 29 = .ok (.istore_n 2, 1) := by decide +kernel
theorem dX5_isOrIsUnder_30 : decode cX5_isOrIsUnder 30 = .ok (.iinc 3 1, 3) := by decide +kernel
theorem dX5_isOrIsUnder_33 : decode cX5_isOrIsUnder 33 = .ok (.goto (-29), 3) := by decide +kernel
theorem dX5_isOrIsUnder_36 : decode cX5_isOrIsUnder 36 = .ok (.iconst 0, 1) := by decide +kernel
theorem dX5_isOrIsUnder_37 : decode cX5_isOrIsUnder 37 = .ok (.ireturn, 1) := by decide +kernel
theorem dX5_daysTillForgiven_0 : decode cX5_daysTillForgiven 0 = .ok (.iconst 0, 1) := by decide +kernel
theorem dX5_daysTillForgiven_1 : decode cX5_daysTillForgiven 1 = .ok (.istore_n 1, 1) := by decide +kernel
theorem dX5_daysTillForgiven_2 : decode cX5_daysTillForgiven 2 = .ok (.iload_n 1, 1) := by decide +kernel
theorem dX5_daysTillForgiven_3 : decode cX5_daysTillForgiven 3 = .ok (.sipush 200, 3) := by decide +kernel
theorem dX5_daysTillForgiven_6 : decode cX5_daysTillForgiven 6 = .ok (.if_icmp .gt 22, 3) := by decide +kernel
theorem dX5_daysTillForgiven_9 : decode cX5_daysTillForgiven 9 = .ok (.aload_n 0, 1) := by decide +kernel
theorem dX5_daysTillForgiven_10 : decode cX5_daysTillForgiven 10 = .ok (.getfield 98, 3) := by decide +kernel
theorem dX5_daysTillForgiven_13 : decode cX5_daysTillForgiven 13 = .ok (.ifCond .ne 5, 3) := by decide +kernel
theorem dX5_daysTillForgiven_16 : decode cX5_daysTillForgiven 16 = .ok (.iload_n 1, 1) := by decide +kernel
theorem dX5_daysTillForgiven_17 : decode cX5_daysTillForgiven 17 = .ok (.ireturn, 1) := by decide +kernel
theorem dX5_daysTillForgiven_18 : decode cX5_daysTillForgiven 18 = .ok (.aload_n 0, 1) := by decide +kernel
theorem dX5_daysTillForgiven_19 : decode cX5_daysTillForgiven 19 = .ok (.invokevirtual 247, 3) := by decide +kernel
theorem dX5_daysTillForgiven_22 : decode cX5_daysTillForgiven 22 = .ok (.iinc 1 1, 3) := by decide +kernel
theorem dX5_daysTillForgiven_25 : decode cX5_daysTillForgiven 25 = .ok (.goto (-23), 3) := by decide +kernel
theorem dX5_daysTillForgiven_28 : decode cX5_daysTillForgiven 28 = .ok (.sipush 201, 3) := by decide +kernel
theorem dX5_daysTillForgiven_31 : decode cX5_daysTillForgiven 31 = .ok (.ireturn, 1) := by decide +kernel
theorem dX5_daysTillWornOut_0 : decode cX5_daysTillWornOut 0 = .ok (.iconst 0, 1) := by decide +kernel
theorem dX5_daysTillWornOut_1 : decode cX5_daysTillWornOut 1 = .ok (.istore_n 1, 1) := by decide +kernel
theorem dX5_daysTillWornOut_2 : decode cX5_daysTillWornOut 2 = .ok (.iload_n 1, 1) := by decide +kernel
theorem dX5_daysTillWornOut_3 : decode cX5_daysTillWornOut 3 = .ok (.sipush 200, 3) := by decide +kernel
theorem dX5_daysTillWornOut_6 : decode cX5_daysTillWornOut 6 = .ok (.if_icmp .gt 26, 3) := by decide +kernel
theorem dX5_daysTillWornOut_9 : decode cX5_daysTillWornOut 9 = .ok (.aload_n 0, 1) := by decide +kernel
theorem dX5_daysTillWornOut_10 : decode cX5_daysTillWornOut 10 = .ok (.getfield 152, 3) := by decide +kernel
theorem dX5_daysTillWornOut_13 : decode cX5_daysTillWornOut 13 = .ok (.aload_n 0, 1) := by decide +kernel
theorem dX5_daysTillWornOut_14 : decode cX5_daysTillWornOut 14 = .ok (.getfield 108, 3) := by decide +kernel
theorem dX5_daysTillWornOut_17 : decode cX5_daysTillWornOut 17 = .ok (.if_icmp .lt 5, 3) := by decide +kernel
theorem dX5_daysTillWornOut_20 : decode cX5_daysTillWornOut 20 = .ok (.iload_n 1, 1) := by decide +kernel
theorem dX5_daysTillWornOut_21 : decode cX5_daysTillWornOut 21 = .ok (.ireturn, 1) := by decide +kernel
theorem dX5_daysTillWornOut_22 : decode cX5_daysTillWornOut 22 = .ok (.aload_n 0, 1) := by decide +kernel
theorem dX5_daysTillWornOut_23 : decode cX5_daysTillWornOut 23 = .ok (.invokevirtual 247, 3) := by decide +kernel
theorem dX5_daysTillWornOut_26 : decode cX5_daysTillWornOut 26 = .ok (.iinc 1 1, 3) := by decide +kernel
theorem dX5_daysTillWornOut_29 : decode cX5_daysTillWornOut 29 = .ok (.goto (-27), 3) := by decide +kernel
theorem dX5_daysTillWornOut_32 : decode cX5_daysTillWornOut 32 = .ok (.sipush 201, 3) := by decide +kernel
theorem dX5_daysTillWornOut_35 : decode cX5_daysTillWornOut 35 = .ok (.ireturn, 1) := by decide +kernel
theorem dX5_daysTillUnseen_0 : decode cX5_daysTillUnseen 0 = .ok (.iconst 0, 1) := by decide +kernel
theorem dX5_daysTillUnseen_1 : decode cX5_daysTillUnseen 1 = .ok (.istore_n 2, 1) := by decide +kernel
theorem dX5_daysTillUnseen_2 : decode cX5_daysTillUnseen 2 = .ok (.iload_n 2, 1) := by decide +kernel
theorem dX5_daysTillUnseen_3 : decode cX5_daysTillUnseen 3 = .ok (.sipush 200, 3) := by decide +kernel
theorem dX5_daysTillUnseen_6 : decode cX5_daysTillUnseen 6 = .ok (.if_icmp .gt 27, 3) := by decide +kernel
theorem dX5_daysTillUnseen_9 : decode cX5_daysTillUnseen 9 = .ok (.aload_n 0, 1) := by decide +kernel
theorem dX5_daysTillUnseen_10 : decode cX5_daysTillUnseen 10 = .ok (.invokevirtual 142, 3) := by decide +kernel
theorem dX5_daysTillUnseen_13 : decode cX5_daysTillUnseen 13 = .ok (.iconst 1, 1) := by decide +kernel
theorem dX5_daysTillUnseen_14 : decode cX5_daysTillUnseen 14 = .ok (.iload_n 1, 1) := by decide +kernel
theorem dX5_daysTillUnseen_15 : decode cX5_daysTillUnseen 15 = .ok (.ishl, 1) := by decide +kernel
theorem dX5_daysTillUnseen_16 : decode cX5_daysTillUnseen 16 = .ok (.iand, 1) := by decide +kernel
theorem dX5_daysTillUnseen_17 : decode cX5_daysTillUnseen 17 = .ok (.ifCond .ne 5, 3) := by decide +kernel
theorem dX5_daysTillUnseen_20 : decode cX5_daysTillUnseen 20 = .ok (.iload_n 2, 1) := by decide +kernel
theorem dX5_daysTillUnseen_21 : decode cX5_daysTillUnseen 21 = .ok (.ireturn, 1) := by decide +kernel
theorem dX5_daysTillUnseen_22 : decode cX5_daysTillUnseen 22 = .ok (.aload_n 0, 1) := by decide +kernel
theorem dX5_daysTillUnseen_23 : decode cX5_daysTillUnseen 23 = .ok (.iconst 1, 1) := by decide +kernel
theorem dX5_daysTillUnseen_24 : decode cX5_daysTillUnseen 24 = .ok (.invokevirtual 131, 3) := by decide +kernel
theorem dX5_daysTillUnseen_27 : decode cX5_daysTillUnseen 27 = .ok (.iinc 2 1, 3) := by decide +kernel
theorem dX5_daysTillUnseen_30 : decode cX5_daysTillUnseen 30 = .ok (.goto (-28), 3) := by decide +kernel
theorem dX5_daysTillUnseen_33 : decode cX5_daysTillUnseen 33 = .ok (.sipush 201, 3) := by decide +kernel
theorem dX5_daysTillUnseen_36 : decode cX5_daysTillUnseen 36 = .ok (.ireturn, 1) := by decide +kernel
theorem dX5_goesAsTold_0 : decode cX5_goesAsTold 0 = .ok (.iconst 0, 1) := by decide +kernel
theorem dX5_goesAsTold_1 : decode cX5_goesAsTold 1 = .ok (.istore_n 2, 1) := by decide +kernel
theorem dX5_goesAsTold_2 : decode cX5_goesAsTold 2 = .ok (.iload_n 2, 1) := by decide +kernel
theorem dX5_goesAsTold_3 : decode cX5_goesAsTold 3 = .ok (.aload_n 1, 1) := by decide +kernel
theorem dX5_goesAsTold_4 : decode cX5_goesAsTold 4 = .ok (.getfield 213, 3) := by decide +kernel
theorem dX5_goesAsTold_7 : decode cX5_goesAsTold 7 = .ok (.if_icmp .ge 30, 3) := by decide +kernel
theorem dX5_goesAsTold_10 : decode cX5_goesAsTold 10 = .ok (.aload_n 1, 1) := by decide +kernel
theorem dX5_goesAsTold_11 : decode cX5_goesAsTold 11 = .ok (.getfield 219, 3) := by decide +kernel
theorem dX5_goesAsTold_14 : decode cX5_goesAsTold 14 = .ok (.iload_n 2, 1) := by decide +kernel
theorem dX5_goesAsTold_15 : decode cX5_goesAsTold 15 = .ok (.laload, 1) := by decide +kernel
theorem dX5_goesAsTold_16 : decode cX5_goesAsTold 16 = .ok (.aload_n 0, 1) := by decide +kernel
theorem dX5_goesAsTold_17 : decode cX5_goesAsTold 17 = .ok (.getfield 98, 3) := by decide +kernel
theorem dX5_goesAsTold_20 : decode cX5_goesAsTold 20 = .ok (.i2l, 1) := by decide +kernel
theorem dX5_goesAsTold_21 : decode cX5_goesAsTold 21 = .ok (.lcmp, 1) := by decide +kernel
theorem dX5_goesAsTold_22 : decode cX5_goesAsTold 22 = .ok (.ifCond .eq 5, 3) := by decide +kernel
theorem dX5_goesAsTold_25 : decode cX5_goesAsTold 25 = .ok (.iconst 0, 1) := by decide +kernel
theorem dX5_goesAsTold_26 : decode cX5_goesAsTold 26 = .ok (.ireturn, 1) := by decide +kernel
theorem dX5_goesAsTold_27 : decode cX5_goesAsTold 27 = .ok (.aload_n 0, 1) := by decide +kernel
theorem dX5_goesAsTold_28 : decode cX5_goesAsTold 28 = .ok (.invokevirtual 247, 3) := by decide +kernel
theorem dX5_goesAsTold_31 : decode cX5_goesAsTold 31 = .ok (.iinc 2 1, 3) := by decide +kernel
theorem dX5_goesAsTold_34 : decode cX5_goesAsTold 34 = .ok (.goto (-32), 3) := by decide +kernel
theorem dX5_goesAsTold_37 : decode cX5_goesAsTold 37 = .ok (.iconst 1, 1) := by decide +kernel
theorem dX5_goesAsTold_38 : decode cX5_goesAsTold 38 = .ok (.ireturn, 1) := by decide +kernel
end
section
theorem dX6_init_0 : decode cX6_init 0 = .ok (.aload_n 0, 1) := by decide +kernel
theorem dX6_init_1 : decode cX6_init 1 = .ok (.invokespecial 3, 3) := by decide +kernel
theorem dX6_init_4 : decode cX6_init 4 = .ok (.aload_n 0, 1) := by decide +kernel
theorem dX6_init_5 : decode cX6_init 5 = .ok (.bipush 58, 2) := by decide +kernel
theorem dX6_init_7 : decode cX6_init 7 = .ok (.newarray .int, 2) := by decide +kernel
theorem dX6_init_9 : decode cX6_init 9 = .ok (.putfield 9, 3) := by decide +kernel
theorem dX6_init_12 : decode cX6_init 12 = .ok (.aload_n 0, 1) := by decide +kernel
theorem dX6_init_13 : decode cX6_init 13 = .ok (.bipush 58, 2) := by decide +kernel
theorem dX6_init_15 : decode cX6_init 15 = .ok (.newarray .int, 2) := by decide +kernel
theorem dX6_init_17 : decode cX6_init 17 = .ok (.putfield 13, 3) := by decide +kernel
theorem dX6_init_20 : decode cX6_init 20 = .ok (.aload_n 0, 1) := by decide +kernel
theorem dX6_init_21 : decode cX6_init 21 = .ok (.bipush 58, 2) := by decide +kernel
theorem dX6_init_23 : decode cX6_init 23 = .ok (.newarray .int, 2) := by decide +kernel
theorem dX6_init_25 : decode cX6_init 25 = .ok (.putfield 16, 3) := by decide +kernel
theorem dX6_init_28 : decode cX6_init 28 = .ok (.aload_n 0, 1) := by decide +kernel
theorem dX6_init_29 : decode cX6_init 29 = .ok (.bipush 7, 2) := by decide +kernel
theorem dX6_init_31 : decode cX6_init 31 = .ok (.newarray .int, 2) := by decide +kernel
theorem dX6_init_33 : decode cX6_init 33 = .ok (.putfield 19, 3) := by decide +kernel
theorem dX6_init_36 : decode cX6_init 36 = .ok (.aload_n 0, 1) := by decide +kernel
theorem dX6_init_37 : decode cX6_init 37 = .ok (.bipush 120, 2) := by decide +kernel
theorem dX6_init_39 : decode cX6_init 39 = .ok (.newarray .int, 2) := by decide +kernel
theorem dX6_init_41 : decode cX6_init 41 = .ok (.putfield 22, 3) := by decide +kernel
theorem dX6_init_44 : decode cX6_init 44 = .ok (.aload_n 0, 1) := by decide +kernel
theorem dX6_init_45 : decode cX6_init 45 = .ok (.iconst 4, 1) := by decide +kernel
theorem dX6_init_46 : decode cX6_init 46 = .ok (.newarray .int, 2) := by decide +kernel
theorem dX6_init_48 : decode cX6_init 48 = .ok (.putfield 25, 3) := by decide +kernel
theorem dX6_init_51 : decode cX6_init 51 = .ok (.aload_n 0, 1) := by decide +kernel
theorem dX6_init_52 : decode cX6_init 52 = .ok (.iconst 4, 1) := by decide +kernel
theorem dX6_init_53 : decode cX6_init 53 = .ok (.newarray .int, 2) := by decide +kernel
theorem dX6_init_55 : decode cX6_init 55 = .ok (.putfield 28, 3) := by decide +kernel
theorem dX6_init_58 : decode cX6_init 58 = .ok (.aload_n 0, 1) := by decide +kernel
theorem dX6_init_59 : decode cX6_init 59 = .ok (.sipush 160, 3) := by decide +kernel
theorem dX6_init_62 : decode cX6_init 62 = .ok (.newarray .long, 2) := by decide +kernel
theorem dX6_init_64 : decode cX6_init 64 = .ok (.putfield 31, 3) := by decide +kernel
theorem dX6_init_67 : decode cX6_init 67 = .ok (.aload_n 0, 1) := by decide +kernel
theorem dX6_init_68 : decode cX6_init 68 = .ok (.getfield 9, 3) := by decide +kernel
theorem dX6_init_71 : decode cX6_init 71 = .ok (.iconst 1, 1) := by decide +kernel
theorem dX6_init_72 : decode cX6_init 72 = .ok (.iconst 0, 1) := by decide +kernel
theorem dX6_init_73 : decode cX6_init 73 = .ok (.iastore, 1) := by decide +kernel
theorem dX6_init_74 : decode cX6_init 74 = .ok (.return_, 1) := by decide +kernel
theorem dX6_finds_0 : decode cX6_finds 0 = .ok (.aload_n 0, 1) := by decide +kernel
theorem dX6_finds_1 : decode cX6_finds 1 = .ok (.getfield 19, 3) := by decide +kernel
theorem dX6_finds_4 : decode cX6_finds 4 = .ok (.ldc 35, 2) := by decide +kernel
theorem dX6_finds_6 : decode cX6_finds 6 = .ok (.iload_n 1, 1) := by decide +kernel
theorem dX6_finds_7 : decode cX6_finds 7 = .ok (.isub, 1) := by decide +kernel
theorem dX6_finds_8 : decode cX6_finds 8 = .ok (.dup2, 1) := by decide +kernel
theorem dX6_finds_9 : decode cX6_finds 9 = .ok (.iaload, 1) := by decide +kernel
theorem dX6_finds_10 : decode cX6_finds 10 = .ok (.iconst 1, 1) := by decide +kernel
theorem dX6_finds_11 : decode cX6_finds 11 = .ok (.iadd, 1) := by decide +kernel
theorem dX6_finds_12 : decode cX6_finds 12 = .ok (.iastore, 1) := by decide +kernel
theorem dX6_finds_13 : decode cX6_finds 13 = .ok (.iload_n 1, 1) := by decide +kernel
theorem dX6_finds_14 : decode cX6_finds 14 = .ok (.ireturn, 1) := by decide +kernel
theorem dX6_orNone_0 : decode cX6_orNone 0 = .ok (.iload_n 1, 1) := by decide +kernel
theorem dX6_orNone_1 : decode cX6_orNone 1 = .ok (.ifCond .ge 12, 3) := by decide +kernel
theorem dX6_orNone_4 : decode cX6_orNone 4 = .ok (.aload_n 0, 1) := by decide +kernel
theorem dX6_orNone_5 : decode cX6_orNone 5 = .ok (.ldc 36, 2) := by decide +kernel
theorem dX6_orNone_7 : decode cX6_orNone 7 = .ok (.invokevirtual 37, 3) := by decide +kernel
theorem dX6_orNone_10 : decode cX6_orNone 10 = .ok (.goto 4, 3) := by decide +kernel
theorem dX6_orNone_13 : decode cX6_orNone 13 = .ok (.iload_n 1, 1) := by decide +kernel
theorem dX6_orNone_14 : decode cX6_orNone 14 = .ok (.ireturn, 1) := by decide +kernel
theorem dX6_in_0 : decode cX6_in 0 = .ok (.lload_n 0, 1) := by decide +kernel
theorem dX6_in_1 : decode cX6_in 1 = .ok (.iload_n 2, 1) := by decide +kernel
theorem dX6_in_2 : decode cX6_in 2 = .ok (.i2l, 1) := by decide +kernel
theorem dX6_in_3 : decode cX6_in 3 = .ok (.lcmp, 1) := by decide +kernel
theorem dX6_in_4 : decode cX6_in 4 = .ok (.ifCond .lt 14, 3) := by decide +kernel
theorem dX6_in_7 : decode cX6_in 7 = .ok (.lload_n 0, 1) := by decide +kernel
theorem dX6_in_8 : decode cX6_in 8 = .ok (.iload_n 3, 1) := by decide +kernel
theorem dX6_in_9 : decode cX6_in 9 = .ok (.i2l, 1) := by decide +kernel
theorem dX6_in_10 : decode cX6_in 10 = .ok (.lcmp, 1) := by decide +kernel
theorem dX6_in_11 : decode cX6_in 11 = .ok (.ifCond .gt 7, 3) := by decide +kernel
theorem dX6_in_14 : decode cX6_in 14 = .ok (.iconst 1, 1) := by decide +kernel
theorem dX6_in_15 : decode cX6_in 15 = .ok (.goto 4, 3) := by decide +kernel
theorem dX6_in_18 : decode cX6_in 18 = .ok (.iconst 0, 1) := by decide +kernel
theorem dX6_in_19 : decode cX6_in 19 = .ok (.ireturn, 1) := by decide +kernel
theorem dX6_held_0 : decode cX6_held 0 = .ok (.iload_n 0, 1) := by decide +kernel
theorem dX6_held_1 : decode cX6_held 1 = .ok (.iload_n 1, 1) := by decide +kernel
theorem dX6_held_2 : decode cX6_held 2 = .ok (.if_icmp .ge 7, 3) := by decide +kernel
theorem dX6_held_5 : decode cX6_held 5 = .ok (.iload_n 1, 1) := by decide +kernel
theorem dX6_held_6 : decode cX6_held 6 = .ok (.goto 13, 3) := by decide +kernel
theorem dX6_held_9 : decode cX6_held 9 = .ok (.iload_n 0, 1) := by decide +kernel
theorem dX6_held_10 : decode cX6_held 10 = .ok (.iload_n 2, 1) := by decide +kernel
theorem dX6_held_11 : decode cX6_held 11 = .ok (.if_icmp .le 7, 3) := by decide +kernel
theorem dX6_held_14 : decode cX6_held 14 = .ok (.iload_n 2, 1) := by decide +kernel
theorem dX6_held_15 : decode cX6_held 15 = .ok (.goto 4, 3) := by decide +kernel
theorem dX6_held_18 : decode cX6_held 18 = .ok (.iload_n 0, 1) := by decide +kernel
theorem dX6_held_19 : decode cX6_held 19 = .ok (.ireturn, 1) := by decide +kernel
theorem dX6_copyAll_0 : decode cX6_copyAll 0 = .ok (.iconst 0, 1) := by decide +kernel
theorem dX6_copyAll_1 : decode cX6_copyAll 1 = .ok (.istore_n 2, 1) := by decide +kernel
theorem dX6_copyAll_2 : decode cX6_copyAll 2 = .ok (.iload_n 2, 1) := by decide +kernel
theorem dX6_copyAll_3 : decode cX6_copyAll 3 = .ok (.bipush 58, 2) := by decide +kernel
theorem dX6_copyAll_5 : decode cX6_copyAll 5 = .ok (.if_icmp .ge 15, 3) := by decide +kernel
theorem dX6_copyAll_8 : decode cX6_copyAll 8 = .ok (.aload_n 1, 1) := by decide +kernel
theorem dX6_copyAll_9 : decode cX6_copyAll 9 = .ok (.iload_n 2, 1) := by decide +kernel
theorem dX6_copyAll_10 : decode cX6_copyAll 10 = .ok (.aload_n 0, 1) := by decide +kernel
theorem dX6_copyAll_11 : decode cX6_copyAll 11 = .ok (.iload_n 2, 1) := by decide +kernel
theorem dX6_copyAll_12 : decode cX6_copyAll 12 = .ok (.iaload, 1) := by decide +kernel
theorem dX6_copyAll_13 : decode cX6_copyAll 13 = .ok (.iastore, 1) := by decide +kernel
theorem dX6_copyAll_14 : decode cX6_copyAll 14 = .ok (.iinc 2 1, 3) := by decide +kernel
theorem dX6_copyAll_17 : decode cX6_copyAll 17 = .ok (.goto (-15), 3) := by decide +kernel
theorem dX6_copyAll_20 : decode cX6_copyAll 20 = .ok (.return_, 1) := by decide +kernel
theorem dX6_bits_0 : decode cX6_bits 0 = .ok (.iconst 0, 1) := by decide +kernel
theorem dX6_bits_1 : decode cX6_bits 1 = .ok (.istore_n 1, 1) := by decide +kernel
theorem dX6_bits_2 : decode cX6_bits 2 = .ok (.iload_n 0, 1) := by decide +kernel
theorem dX6_bits_3 : decode cX6_bits 3 = .ok (.istore_n 2, 1) := by decide +kernel
theorem dX6_bits_4 : decode cX6_bits 4 = .ok (.iload_n 2, 1) := by decide +kernel
theorem dX6_bits_5 : decode cX6_bits 5 = .ok (.ifCond .eq 15, 3) := by decide +kernel
theorem dX6_bits_8 : decode cX6_bits 8 = .ok (.iinc 1 1, 3) := by decide +kernel
theorem dX6_bits_11 : decode cX6_bits 11 = .ok (.iload_n 2, 1) := by decide +kernel
theorem dX6_bits_12 : decode cX6_bits 12 = .ok (.iload_n 2, 1) := by decide +kernel
theorem dX6_bits_13 : decode cX6_bits 13 = .ok (.iconst 1, 1) := by decide +kernel
theorem dX6_bits_14 : decode cX6_bits 14 = .ok (.isub, 1) := by decide +kernel
theorem dX6_bits_15 : decode cX6_bits 15 = .ok (.iand, 1) := by decide +kernel
theorem dX6_bits_16 : decode cX6_bits 16 = .ok (.istore_n 2, 1) := by decide +kernel
theorem dX6_bits_17 : decode cX6_bits 17 = .ok (.goto (-13), 3) := by decide +kernel
theorem dX6_bits_20 : decode cX6_bits 20 = .ok (.iload_n 1, 1) := by decide +kernel
theorem dX6_bits_21 : decode cX6_bits 21 = .ok (.ireturn, 1) := by decide +kernel
theorem dX6_becomes_0 : decode cX6_becomes 0 = .ok (.aload_n 0, 1) := by decide +kernel
theorem dX6_becomes_1 : decode cX6_becomes 1 = .ok (.getfield 9, 3) := by decide +kernel
theorem dX6_becomes_4 : decode cX6_becomes 4 = .ok (.iload_n 1, 1) := by decide +kernel
theorem dX6_becomes_5 : decode cX6_becomes 5 = .ok (.iaload, 1) := by decide +kernel
theorem dX6_becomes_6 : decode cX6_becomes 6 = .ok (.istore_n 3, 1) := by decide +kernel
theorem dX6_becomes_7 : decode cX6_becomes 7 = .ok (.aload_n 0, 1) := by decide +kernel
theorem dX6_becomes_8 : decode cX6_becomes 8 = .ok (.getfield 9, 3) := by decide +kernel
theorem dX6_becomes_11 : decode cX6_becomes 11 = .ok (.iload_n 1, 1) := by decide +kernel
theorem dX6_becomes_12 : decode cX6_becomes 12 = .ok (.iload_n 2, 1) := by decide +kernel
theorem dX6_becomes_13 : decode cX6_becomes 13 = .ok (.iastore, 1) := by decide +kernel
theorem dX6_becomes_14 : decode cX6_becomes 14 = .ok (.iload_n 3, 1) := by decide +kernel
theorem dX6_becomes_15 : decode cX6_becomes 15 = .ok (.ireturn, 1) := by decide +kernel
theorem dX6_isPerson_0 : decode cX6_isPerson 0 = .ok (.iload_n 1, 1) := by decide +kernel
theorem dX6_isPerson_1 : decode cX6_isPerson 1 = .ok (.i2l, 1) := by decide +kernel
theorem dX6_isPerson_2 : decode cX6_isPerson 2 = .ok (.iconst 0, 1) := by decide +kernel
theorem dX6_isPerson_3 : decode cX6_isPerson 3 = .ok (.aload_n 0, 1) := by decide +kernel
theorem dX6_isPerson_4 : decode cX6_isPerson 4 = .ok (.getfield 9, 3) := by decide +kernel
theorem dX6_isPerson_7 : decode cX6_isPerson 7 = .ok (.iconst 1, 1) := by decide +kernel
theorem dX6_isPerson_8 : decode cX6_isPerson 8 = .ok (.iaload, 1) := by decide +kernel
theorem dX6_isPerson_9 : decode cX6_isPerson 9 = .ok (.iconst 1, 1) := by decide +kernel
theorem dX6_isPerson_10 : decode cX6_isPerson 10 = .ok (.isub, 1) := by decide +kernel
theorem dX6_isPerson_11 : decode cX6_isPerson 11 = .ok (.invokestatic 41, 3) := by decide +kernel
theorem dX6_isPerson_14 : decode cX6_isPerson 14 = .ok (.ireturn, 1) := by decide +kernel
theorem dX6_areTwo_0 : decode cX6_areTwo 0 = .ok (.aload_n 0, 1) := by decide +kernel
theorem dX6_areTwo_1 : decode cX6_areTwo 1 = .ok (.iload_n 1, 1) := by decide +kernel
theorem dX6_areTwo_2 : decode cX6_areTwo 2 = .ok (.invokevirtual 45, 3) := by decide +kernel
theorem dX6_areTwo_5 : decode cX6_areTwo 5 = .ok (.ifCond .eq 20, 3) := by decide +kernel
theorem dX6_areTwo_8 : decode cX6_areTwo 8 = .ok (.aload_n 0, 1) := by decide +kernel
theorem dX6_areTwo_9 : decode cX6_areTwo 9 = .ok (.iload_n 2, 1) := by decide +kernel
theorem dX6_areTwo_10 : decode cX6_areTwo 10 = .ok (.invokevirtual 45, 3) := by decide +kernel
theorem dX6_areTwo_13 : decode cX6_areTwo 13 = .ok (.ifCond .eq 12, 3) := by decide +kernel
theorem dX6_areTwo_16 : decode cX6_areTwo 16 = .ok (.iload_n 1, 1) := by decide +kernel
theorem dX6_areTwo_17 : decode cX6_areTwo 17 = .ok (.iload_n 2, 1) := by decide +kernel
theorem dX6_areTwo_18 : decode cX6_areTwo 18 = .ok (.if_icmp .eq 7, 3) := by decide +kernel
theorem dX6_areTwo_21 : decode cX6_areTwo 21 = .ok (.iconst 1, 1) := by decide +kernel
theorem dX6_areTwo_22 : decode cX6_areTwo 22 = .ok (.goto 4, 3) := by decide +kernel
theorem dX6_areTwo_25 : decode cX6_areTwo 25 = .ok (.iconst 0, 1) := by decide +kernel
theorem dX6_areTwo_26 : decode cX6_areTwo 26 = .ok (.ireturn, 1) := by decide +kernel
theorem dX6_it_0 : decode cX6_it 0 = .ok (.aload_n 0, 1) := by decide +kernel
theorem dX6_it_1 : decode cX6_it 1 = .ok (.getfield 9, 3) := by decide +kernel
theorem dX6_it_4 : decode cX6_it 4 = .ok (.iconst 2, 1) := by decide +kernel
theorem dX6_it_5 : decode cX6_it 5 = .ok (.bipush 7, 2) := by decide +kernel
theorem dX6_it_7 : decode cX6_it 7 = .ok (.iload_n 1, 1) := by decide +kernel
theorem dX6_it_8 : decode cX6_it 8 = .ok (.imul, 1) := by decide +kernel
theorem dX6_it_9 : decode cX6_it 9 = .ok (.iadd, 1) := by decide +kernel
theorem dX6_it_10 : decode cX6_it 10 = .ok (.iload_n 2, 1) := by decide +kernel
theorem dX6_it_11 : decode cX6_it 11 = .ok (.iadd, 1) := by decide +kernel
theorem dX6_it_12 : decode cX6_it 12 = .ok (.iaload, 1) := by decide +kernel
theorem dX6_it_13 : decode cX6_it 13 = .ok (.ireturn, 1) := by decide +kernel
theorem dX6_put_0 : decode cX6_put 0 = .ok (.aload_n 0, 1) := by decide +kernel
theorem dX6_put_1 : decode cX6_put 1 = .ok (.getfield 9, 3) := by decide +kernel
theorem dX6_put_4 : decode cX6_put 4 = .ok (.iconst 2, 1) := by decide +kernel
theorem dX6_put_5 : decode cX6_put 5 = .ok (.bipush 7, 2) := by decide +kernel
theorem dX6_put_7 : decode cX6_put 7 = .ok (.iload_n 1, 1) := by decide +kernel
theorem dX6_put_8 : decode cX6_put 8 = .ok (.imul, 1) := by decide +kernel
theorem dX6_put_9 : decode cX6_put 9 = .ok (.iadd, 1) := by decide +kernel
theorem dX6_put_10 : decode cX6_put 10 = .ok (.iload_n 2, 1) := by decide +kernel
theorem dX6_put_11 : decode cX6_put 11 = .ok (.iadd, 1) := by decide +kernel
theorem dX6_put_12 : decode cX6_put 12 = .ok (.iload_n 3, 1) := by decide +kernel
theorem dX6_put_13 : decode cX6_put 13 = .ok (.iastore, 1) := by decide +kernel
theorem dX6_put_14 : decode cX6_put 14 = .ok (.return_, 1) := by decide +kernel
theorem dX6_grinds_0 : decode cX6_grinds 0 = .ok (.aload_n 0, 1) := by decide +kernel
theorem dX6_grinds_1 : decode cX6_grinds 1 = .ok (.iload_n 1, 1) := by decide +kernel
theorem dX6_grinds_2 : decode cX6_grinds 2 = .ok (.iconst 1, 1) := by decide +kernel
theorem dX6_grinds_3 : decode cX6_grinds 3 = .ok (.invokevirtual 49, 3) := by decide +kernel
theorem dX6_grinds_6 : decode cX6_grinds 6 = .ok (.istore_n 2, 1) := by decide +kernel
theorem dX6_grinds_7 : decode cX6_grinds 7 = .ok (.iload_n 2, 1) := by decide +kernel
theorem dX6_grinds_8 : decode cX6_grinds 8 = .ok (.istore_n 3, 1) := by decide +kernel
theorem dX6_grinds_9 : decode cX6_grinds 9 = .ok (.aload_n 0, 1) := by decide +kernel
theorem dX6_grinds_10 : decode cX6_grinds 10 = .ok (.iload_n 1, 1) := by decide +kernel
theorem dX6_grinds_11 : decode cX6_grinds 11 = .ok (.iconst 0, 1) := by decide +kernel
theorem dX6_grinds_12 : decode cX6_grinds 12 = .ok (.invokevirtual 49, 3) := by decide +kernel
theorem dX6_grinds_15 : decode cX6_grinds 15 = .ok (.tableswitch 71 1 5 #[33, 41, 48, 53, 61], 33) := by decide +kernel
theorem dX6_grinds_48 : decode cX6_grinds 48 = .ok (.iload_n 2, 1) := by decide +kernel
theorem dX6_grinds_49 : decode cX6_grinds 49 = .ok (.bipush 10, 2) := by decide +kernel
theorem dX6_grinds_51 : decode cX6_grinds 51 = .ok (.iadd, 1) := by decide +kernel
theorem dX6_grinds_52 : decode cX6_grinds 52 = .ok (.istore_n 3, 1) := by decide +kernel
theorem dX6_grinds_53 : decode cX6_grinds 53 = .ok (.goto 33, 3) := by decide +kernel
theorem dX6_grinds_56 : decode cX6_grinds 56 = .ok (.iload_n 2, 1) := by decide +kernel
theorem dX6_grinds_57 : decode cX6_grinds 57 = .ok (.iconst 2, 1) := by decide +kernel
theorem dX6_grinds_58 : decode cX6_grinds 58 = .ok (.idiv, 1) := by decide +kernel
theorem dX6_grinds_59 : decode cX6_grinds 59 = .ok (.istore_n 3, 1) := by decide +kernel
theorem dX6_grinds_60 : decode cX6_grinds 60 = .ok (.goto 26, 3) := by decide +kernel
theorem dX6_grinds_63 : decode cX6_grinds 63 = .ok (.iconst 0, 1) := by decide +kernel
theorem dX6_grinds_64 : decode cX6_grinds 64 = .ok (.istore_n 3, 1) := by decide +kernel
theorem dX6_grinds_65 : decode cX6_grinds 65 = .ok (.goto 21, 3) := by decide +kernel
theorem dX6_grinds_68 : decode cX6_grinds 68 = .ok (.iload_n 2, 1) := by decide +kernel
theorem dX6_grinds_69 : decode cX6_grinds 69 = .ok (.bipush 20, 2) := by decide +kernel
theorem dX6_grinds_71 : decode cX6_grinds 71 = .ok (.iadd, 1) := by decide +kernel
theorem dX6_grinds_72 : decode cX6_grinds 72 = .ok (.istore_n 3, 1) := by decide +kernel
theorem dX6_grinds_73 : decode cX6_grinds 73 = .ok (.goto 13, 3) := by decide +kernel
theorem dX6_grinds_76 : decode cX6_grinds 76 = .ok (.iload_n 2, 1) := by decide +kernel
theorem dX6_grinds_77 : decode cX6_grinds 77 = .ok (.iconst 2, 1) := by decide +kernel
theorem dX6_grinds_78 : decode cX6_grinds 78 = .ok (.idiv, 1) := by decide +kernel
theorem dX6_grinds_79 : decode cX6_grinds 79 = .ok (.bipush 20, 2) := by decide +kernel
theorem dX6_grinds_81 : decode cX6_grinds 81 = .ok (.iadd, 1) := by decide +kernel
theorem dX6_grinds_82 : decode cX6_grinds 82 = .ok (.istore_n 3, 1) := by decide +kernel
theorem dX6_grinds_83 : decode cX6_grinds 83 = .ok (.goto 3, 3) := by decide +kernel
theorem dX6_grinds_86 : decode cX6_grinds 86 = .ok (.iload_n 3, 1) := by decide +kernel
theorem dX6_grinds_87 : decode cX6_grinds 87 = .ok (.iconst 0, 1) := by decide +kernel
theorem dX6_grinds_88 : decode cX6_grinds 88 = .ok (.bipush 99, 2) := by decide +kernel
theorem dX6_grinds_90 : decode cX6_grinds 90 = .ok (.invokestatic 53, 3) := by decide +kernel
theorem dX6_grinds_93 : decode cX6_grinds 93 = .ok (.ireturn, 1) := by decide +kernel
theorem dX6_looksAt_0 : decode cX6_looksAt 0 = .ok (.aload_n 0, 1) := by decide +kernel
theorem dX6_looksAt_1 : decode cX6_looksAt 1 = .ok (.iload_n 1, 1) := by decide +kernel
theorem dX6_looksAt_2 : decode cX6_looksAt 2 = .ok (.iconst 3, 1) := by decide +kernel
theorem dX6_looksAt_3 : decode cX6_looksAt 3 = .ok (.invokevirtual 49, 3) := by decide +kernel
theorem dX6_looksAt_6 : decode cX6_looksAt 6 = .ok (.iconst 1, 1) := by decide +kernel
theorem dX6_looksAt_7 : decode cX6_looksAt 7 = .ok (.if_icmp .ne 6, 3) := by decide +kernel
theorem dX6_looksAt_10 : decode cX6_looksAt 10 = .ok (.bipush 50, 2) := by decide +kernel
theorem dX6_looksAt_12 : decode cX6_looksAt 12 = .ok (.ireturn, 1) := by decide +kernel
theorem dX6_looksAt_13 : decode cX6_looksAt 13 = .ok (.aload_n 0, 1) := by decide +kernel
theorem dX6_looksAt_14 : decode cX6_looksAt 14 = .ok (.iload_n 1, 1) := by decide +kernel
theorem dX6_looksAt_15 : decode cX6_looksAt 15 = .ok (.iconst 5, 1) := by decide +kernel
theorem dX6_looksAt_16 : decode cX6_looksAt 16 = .ok (.invokevirtual 49, 3) := by decide +kernel
theorem dX6_looksAt_19 : decode cX6_looksAt 19 = .ok (.aload_n 0, 1) := by decide +kernel
theorem dX6_looksAt_20 : decode cX6_looksAt 20 = .ok (.iload_n 1, 1) := by decide +kernel
theorem dX6_looksAt_21 : decode cX6_looksAt 21 = .ok (.bipush 6, 2) := by decide +kernel
theorem dX6_looksAt_23 : decode cX6_looksAt 23 = .ok (.invokevirtual 49, 3) := by decide +kernel
theorem dX6_looksAt_26 : decode cX6_looksAt 26 = .ok (.isub, 1) := by decide +kernel
theorem dX6_looksAt_27 : decode cX6_looksAt 27 = .ok (.istore_n 3, 1) := by decide +kernel
theorem dX6_looksAt_28 : decode cX6_looksAt 28 = .ok (.iload_n 2, 1) := by decide +kernel
theorem dX6_looksAt_29 : decode cX6_looksAt 29 = .ok (.aload_n 0, 1) := by decide +kernel
theorem dX6_looksAt_30 : decode cX6_looksAt 30 = .ok (.iload_n 1, 1) := by decide +kernel
theorem dX6_looksAt_31 : decode cX6_looksAt 31 = .ok (.iconst 4, 1) := by decide +kernel
theorem dX6_looksAt_32 : decode cX6_looksAt 32 = .ok (.invokevirtual 49, 3) := by decide +kernel
theorem dX6_looksAt_35 : decode cX6_looksAt 35 = .ok (.if_icmp .ne 13, 3) := by decide +kernel
theorem dX6_looksAt_38 : decode cX6_looksAt 38 = .ok (.iload_n 3, 1) := by decide +kernel
theorem dX6_looksAt_39 : decode cX6_looksAt 39 = .ok (.iconst 0, 1) := by decide +kernel
theorem dX6_looksAt_40 : decode cX6_looksAt 40 = .ok (.bipush 99, 2) := by decide +kernel
theorem dX6_looksAt_42 : decode cX6_looksAt 42 = .ok (.invokestatic 53, 3) := by decide +kernel
theorem dX6_looksAt_45 : decode cX6_looksAt 45 = .ok (.goto 12, 3) := by decide +kernel
theorem dX6_looksAt_48 : decode cX6_looksAt 48 = .ok (.aload_n 0, 1) := by decide +kernel
theorem dX6_looksAt_49 : decode cX6_looksAt 49 = .ok (.iload_n 1, 1) := by decide +kernel
theorem dX6_looksAt_50 : decode cX6_looksAt 50 = .ok (.bipush 6, 2) := by decide +kernel
theorem dX6_looksAt_52 : decode cX6_looksAt 52 = .ok (.invokevirtual 49, 3) := by decide +kernel
theorem dX6_looksAt_55 : decode cX6_looksAt 55 = .ok (.iconst 2, 1) := by decide +kernel
theorem dX6_looksAt_56 : decode cX6_looksAt 56 = .ok (.idiv, 1) := by decide +kernel
theorem dX6_looksAt_57 : decode cX6_looksAt 57 = .ok (.istore 4, 2) := by decide +kernel
theorem dX6_looksAt_59 : decode cX6_looksAt 59 = .ok (.iload 4, 2) := by decide +kernel
theorem dX6_looksAt_61 : decode cX6_looksAt 61 = .ok (.iload_n 2, 1) := by decide +kernel
theorem dX6_looksAt_62 : decode cX6_looksAt 62 = .ok (.iload_n 1, 1) := by decide +kernel
theorem dX6_looksAt_63 : decode cX6_looksAt 63 = .ok (.iconst 1, 1) := by decide +kernel
theorem dX6_looksAt_64 : decode cX6_looksAt 64 = .ok (.iadd, 1) := by decide +kernel
theorem dX6_looksAt_65 : decode cX6_looksAt 65 = .ok (.if_icmp .ne 7, 3) := by decide +kernel
theorem dX6_looksAt_68 : decode cX6_looksAt 68 = .ok (.iconst 5, 1) := by decide +kernel
theorem dX6_looksAt_69 : decode cX6_looksAt 69 = .ok (.goto 4, 3) := by decide +kernel
theorem dX6_looksAt_72 : decode cX6_looksAt 72 = .ok (.iconst 0, 1) := by decide +kernel
theorem dX6_looksAt_73 : decode cX6_looksAt 73 = .ok (.iadd, 1) := by decide +kernel
theorem dX6_looksAt_74 : decode cX6_looksAt 74 = .ok (.istore 5, 2) := by decide +kernel
theorem dX6_looksAt_76 : decode cX6_looksAt 76 = .ok (.iload_n 2, 1) := by decide +kernel
theorem dX6_looksAt_77 : decode cX6_looksAt 77 = .ok (.iload_n 1, 1) := by decide +kernel
theorem dX6_looksAt_78 : decode cX6_looksAt 78 = .ok (.if_icmp .ge 10, 3) := by decide +kernel
theorem dX6_looksAt_81 : decode cX6_looksAt 81 = .ok (.iconst 2, 1) := by decide +kernel
theorem dX6_looksAt_82 : decode cX6_looksAt 82 = .ok (.iload 4, 2) := by decide +kernel
theorem dX6_looksAt_84 : decode cX6_looksAt 84 = .ok (.imul, 1) := by decide +kernel
theorem dX6_looksAt_85 : decode cX6_looksAt 85 = .ok (.goto 5, 3) := by decide +kernel
theorem dX6_looksAt_88 : decode cX6_looksAt 88 = .ok (.iload 4, 2) := by decide +kernel
theorem dX6_looksAt_90 : decode cX6_looksAt 90 = .ok (.istore 6, 2) := by decide +kernel
theorem dX6_looksAt_92 : decode cX6_looksAt 92 = .ok (.aload_n 0, 1) := by decide +kernel
theorem dX6_looksAt_93 : decode cX6_looksAt 93 = .ok (.iload_n 1, 1) := by decide +kernel
theorem dX6_looksAt_94 : decode cX6_looksAt 94 = .ok (.iconst 0, 1) := by decide +kernel
theorem dX6_looksAt_95 : decode cX6_looksAt 95 = .ok (.invokevirtual 49, 3) := by decide +kernel
theorem dX6_looksAt_98 : decode cX6_looksAt 98 = .ok (.tableswitch 72 1 5 #[34, 37, 40, 43, 59], 34) := by decide +kernel
theorem dX6_looksAt_132 : decode cX6_looksAt 132 = .ok (.iload 5, 2) := by decide +kernel
theorem dX6_looksAt_134 : decode cX6_looksAt 134 = .ok (.ireturn, 1) := by decide +kernel
theorem dX6_looksAt_135 : decode cX6_looksAt 135 = .ok (.iload 6, 2) := by decide +kernel
theorem dX6_looksAt_137 : decode cX6_looksAt 137 = .ok (.ireturn, 1) := by decide +kernel
theorem dX6_looksAt_138 : decode cX6_looksAt 138 = .ok (.bipush 10, 2) := by decide +kernel
theorem dX6_looksAt_140 : decode cX6_looksAt 140 = .ok (.ireturn, 1) := by decide +kernel
theorem dX6_looksAt_141 : decode cX6_looksAt 141 = .ok (.iload 5, 2) := by decide +kernel
theorem dX6_looksAt_143 : decode cX6_looksAt 143 = .ok (.iload_n 1, 1) := by decide +kernel
theorem dX6_looksAt_144 : decode cX6_looksAt 144 = .ok (.iload_n 2, 1) := by decide +kernel
theorem dX6_looksAt_145 : decode cX6_looksAt 145 = .ok (.iconst 1, 1) := by decide +kernel
theorem dX6_looksAt_146 : decode cX6_looksAt 146 = .ok (.iadd, 1) := by decide +kernel
theorem dX6_looksAt_147 : decode cX6_looksAt 147 = .ok (.if_icmp .ne 7, 3) := by decide +kernel
theorem dX6_looksAt_150 : decode cX6_looksAt 150 = .ok (.iconst 5, 1) := by decide +kernel
theorem dX6_looksAt_151 : decode cX6_looksAt 151 = .ok (.goto 4, 3) := by decide +kernel
theorem dX6_looksAt_154 : decode cX6_looksAt 154 = .ok (.iconst 0, 1) := by decide +kernel
theorem dX6_looksAt_155 : decode cX6_looksAt 155 = .ok (.iadd, 1) := by decide +kernel
theorem dX6_looksAt_156 : decode cX6_looksAt 156 = .ok (.ireturn, 1) := by decide +kernel
theorem dX6_looksAt_157 : decode cX6_looksAt 157 = .ok (.iload 6, 2) := by decide +kernel
theorem dX6_looksAt_159 : decode cX6_looksAt 159 = .ok (.iconst 5, 1) := by decide +kernel
theorem dX6_looksAt_160 : decode cX6_looksAt 160 = .ok (.if_icmp .ge 7, 3) := by decide +kernel
theorem dX6_looksAt_163 : decode cX6_looksAt 163 = .ok (.iconst 5, 1) := by decide +kernel
theorem dX6_looksAt_164 : decode cX6_looksAt 164 = .ok (.goto 5, 3) := by decide +kernel
theorem dX6_looksAt_167 : decode cX6_looksAt 167 = .ok (.iload 6, 2) := by decide +kernel
theorem dX6_looksAt_169 : decode cX6_looksAt 169 = .ok (.ireturn, 1) := by decide +kernel
theorem dX6_looksAt_170 : decode cX6_looksAt 170 = .ok (.iload 4, 2) := by decide +kernel
theorem dX6_looksAt_172 : decode cX6_looksAt 172 = .ok (.ireturn, 1) := by decide +kernel
theorem dX6_sight_0 : decode cX6_sight 0 = .ok (.aload_n 0, 1) := by decide +kernel
theorem dX6_sight_1 : decode cX6_sight 1 = .ok (.iload_n 1, 1) := by decide +kernel
theorem dX6_sight_2 : decode cX6_sight 2 = .ok (.iconst 2, 1) := by decide +kernel
theorem dX6_sight_3 : decode cX6_sight 3 = .ok (.invokevirtual 49, 3) := by decide +kernel
theorem dX6_sight_6 : decode cX6_sight 6 = .ok (.ifCond .ge 7, 3) := by decide +kernel
theorem dX6_sight_9 : decode cX6_sight 9 = .ok (.iconst 0, 1) := by decide +kernel
theorem dX6_sight_10 : decode cX6_sight 10 = .ok (.goto 14, 3) := by decide +kernel
theorem dX6_sight_13 : decode cX6_sight 13 = .ok (.aload_n 0, 1) := by decide +kernel
theorem dX6_sight_14 : decode cX6_sight 14 = .ok (.iload_n 1, 1) := by decide +kernel
theorem dX6_sight_15 : decode cX6_sight 15 = .ok (.aload_n 0, 1) := by decide +kernel
theorem dX6_sight_16 : decode cX6_sight 16 = .ok (.iload_n 1, 1) := by decide +kernel
theorem dX6_sight_17 : decode cX6_sight 17 = .ok (.iconst 2, 1) := by decide +kernel
theorem dX6_sight_18 : decode cX6_sight 18 = .ok (.invokevirtual 49, 3) := by decide +kernel
theorem dX6_sight_21 : decode cX6_sight 21 = .ok (.invokevirtual 57, 3) := by decide +kernel
theorem dX6_sight_24 : decode cX6_sight 24 = .ok (.ireturn, 1) := by decide +kernel
theorem dX6_eases_0 : decode cX6_eases 0 = .ok (.aload_n 0, 1) := by decide +kernel
theorem dX6_eases_1 : decode cX6_eases 1 = .ok (.iload_n 1, 1) := by decide +kernel
theorem dX6_eases_2 : decode cX6_eases 2 = .ok (.invokevirtual 60, 3) := by decide +kernel
theorem dX6_eases_5 : decode cX6_eases 5 = .ok (.bipush 30, 2) := by decide +kernel
theorem dX6_eases_7 : decode cX6_eases 7 = .ok (.if_icmp .ge 7, 3) := by decide +kernel
theorem dX6_eases_10 : decode cX6_eases 10 = .ok (.iconst 1, 1) := by decide +kernel
theorem dX6_eases_11 : decode cX6_eases 11 = .ok (.goto 4, 3) := by decide +kernel
theorem dX6_eases_14 : decode cX6_eases 14 = .ok (.iconst 0, 1) := by decide +kernel
theorem dX6_eases_15 : decode cX6_eases 15 = .ok (.istore_n 2, 1) := by decide +kernel
theorem dX6_eases_16 : decode cX6_eases 16 = .ok (.aload_n 0, 1) := by decide +kernel
theorem dX6_eases_17 : decode cX6_eases 17 = .ok (.iload_n 1, 1) := by decide +kernel
theorem dX6_eases_18 : decode cX6_eases 18 = .ok (.iconst 0, 1) := by decide +kernel
theorem dX6_eases_19 : decode cX6_eases 19 = .ok (.invokevirtual 49, 3) := by decide +kernel
theorem dX6_eases_22 : decode cX6_eases 22 = .ok (.tableswitch 68 1 5 #[34, 51, 55, 34, 57], 34) := by decide +kernel
theorem dX6_eases_56 : decode cX6_eases 56 = .ok (.aload_n 0, 1) := by decide +kernel
theorem dX6_eases_57 : decode cX6_eases 57 = .ok (.iload_n 1, 1) := by decide +kernel
theorem dX6_eases_58 : decode cX6_eases 58 = .ok (.iconst 1, 1) := by decide +kernel
theorem dX6_eases_59 : decode cX6_eases 59 = .ok (.invokevirtual 49, 3) := by decide +kernel
theorem dX6_eases_62 : decode cX6_eases 62 = .ok (.bipush 50, 2) := by decide +kernel
theorem dX6_eases_64 : decode cX6_eases 64 = .ok (.if_icmp .le 7, 3) := by decide +kernel
theorem dX6_eases_67 : decode cX6_eases 67 = .ok (.iconst 0, 1) := by decide +kernel
theorem dX6_eases_68 : decode cX6_eases 68 = .ok (.goto 4, 3) := by decide +kernel
theorem dX6_eases_71 : decode cX6_eases 71 = .ok (.iload_n 2, 1) := by decide +kernel
theorem dX6_eases_72 : decode cX6_eases 72 = .ok (.ireturn, 1) := by decide +kernel
theorem dX6_eases_73 : decode cX6_eases 73 = .ok (.iconst 2, 1) := by decide +kernel
theorem dX6_eases_74 : decode cX6_eases 74 = .ok (.iload_n 2, 1) := by decide +kernel
theorem dX6_eases_75 : decode cX6_eases 75 = .ok (.imul, 1) := by decide +kernel
theorem dX6_eases_76 : decode cX6_eases 76 = .ok (.ireturn, 1) := by decide +kernel
theorem dX6_eases_77 : decode cX6_eases 77 = .ok (.iconst 3, 1) := by decide +kernel
theorem dX6_eases_78 : decode cX6_eases 78 = .ok (.ireturn, 1) := by decide +kernel
theorem dX6_eases_79 : decode cX6_eases 79 = .ok (.iconst 2, 1) := by decide +kernel
theorem dX6_eases_80 : decode cX6_eases 80 = .ok (.iload_n 2, 1) := by decide +kernel
theorem dX6_eases_81 : decode cX6_eases 81 = .ok (.imul, 1) := by decide +kernel
theorem dX6_eases_82 : decode cX6_eases 82 = .ok (.aload_n 0, 1) := by decide +kernel
theorem dX6_eases_83 : decode cX6_eases 83 = .ok (.iload_n 1, 1) := by decide +kernel
theorem dX6_eases_84 : decode cX6_eases 84 = .ok (.iconst 3, 1) := by decide +kernel
theorem dX6_eases_85 : decode cX6_eases 85 = .ok (.invokevirtual 49, 3) := by decide +kernel
theorem dX6_eases_88 : decode cX6_eases 88 = .ok (.iadd, 1) := by decide +kernel
theorem dX6_eases_89 : decode cX6_eases 89 = .ok (.ireturn, 1) := by decide +kernel
theorem dX6_eases_90 : decode cX6_eases 90 = .ok (.iload_n 2, 1) := by decide +kernel
theorem dX6_eases_91 : decode cX6_eases 91 = .ok (.ireturn, 1) := by decide +kernel
theorem dX6_grows_0 : decode cX6_grows 0 = .ok (.aload_n 0, 1) := by decide +kernel
theorem dX6_grows_1 : decode cX6_grows 1 = .ok (.iload_n 1, 1) := by decide +kernel
theorem dX6_grows_2 : decode cX6_grows 2 = .ok (.invokevirtual 60, 3) := by decide +kernel
theorem dX6_grows_5 : decode cX6_grows 5 = .ok (.istore_n 2, 1) := by decide +kernel
theorem dX6_grows_6 : decode cX6_grows 6 = .ok (.iload_n 2, 1) := by decide +kernel
theorem dX6_grows_7 : decode cX6_grows 7 = .ok (.bipush 60, 2) := by decide +kernel
theorem dX6_grows_9 : decode cX6_grows 9 = .ok (.if_icmp .lt 7, 3) := by decide +kernel
theorem dX6_grows_12 : decode cX6_grows 12 = .ok (.iconst 1, 1) := by decide +kernel
theorem dX6_grows_13 : decode cX6_grows 13 = .ok (.goto 4, 3) := by decide +kernel
theorem dX6_grows_16 : decode cX6_grows 16 = .ok (.iconst 0, 1) := by decide +kernel
theorem dX6_grows_17 : decode cX6_grows 17 = .ok (.istore_n 3, 1) := by decide +kernel
theorem dX6_grows_18 : decode cX6_grows 18 = .ok (.iload_n 3, 1) := by decide +kernel
theorem dX6_grows_19 : decode cX6_grows 19 = .ok (.iload_n 2, 1) := by decide +kernel
theorem dX6_grows_20 : decode cX6_grows 20 = .ok (.bipush 80, 2) := by decide +kernel
theorem dX6_grows_22 : decode cX6_grows 22 = .ok (.if_icmp .lt 7, 3) := by decide +kernel
theorem dX6_grows_25 : decode cX6_grows 25 = .ok (.iconst 1, 1) := by decide +kernel
theorem dX6_grows_26 : decode cX6_grows 26 = .ok (.goto 4, 3) := by decide +kernel
theorem dX6_grows_29 : decode cX6_grows 29 = .ok (.iconst 0, 1) := by decide +kernel
theorem dX6_grows_30 : decode cX6_grows 30 = .ok (.iadd, 1) := by decide +kernel
theorem dX6_grows_31 : decode cX6_grows 31 = .ok (.istore 4, 2) := by decide +kernel
theorem dX6_grows_33 : decode cX6_grows 33 = .ok (.aload_n 0, 1) := by decide +kernel
theorem dX6_grows_34 : decode cX6_grows 34 = .ok (.iload_n 1, 1) := by decide +kernel
theorem dX6_grows_35 : decode cX6_grows 35 = .ok (.iconst 0, 1) := by decide +kernel
theorem dX6_grows_36 : decode cX6_grows 36 = .ok (.invokevirtual 49, 3) := by decide +kernel
theorem dX6_grows_39 : decode cX6_grows 39 = .ok (.tableswitch 39 1 4 #[29, 39, 32, 34], 29) := by decide +kernel
theorem dX6_grows_68 : decode cX6_grows 68 = .ok (.iload 4, 2) := by decide +kernel
theorem dX6_grows_70 : decode cX6_grows 70 = .ok (.ireturn, 1) := by decide +kernel
theorem dX6_grows_71 : decode cX6_grows 71 = .ok (.iconst 0, 1) := by decide +kernel
theorem dX6_grows_72 : decode cX6_grows 72 = .ok (.ireturn, 1) := by decide +kernel
theorem dX6_grows_73 : decode cX6_grows 73 = .ok (.iconst 2, 1) := by decide +kernel
theorem dX6_grows_74 : decode cX6_grows 74 = .ok (.iload 4, 2) := by decide +kernel
theorem dX6_grows_76 : decode cX6_grows 76 = .ok (.imul, 1) := by decide +kernel
theorem dX6_grows_77 : decode cX6_grows 77 = .ok (.ireturn, 1) := by decide +kernel
theorem dX6_grows_78 : decode cX6_grows 78 = .ok (.iload_n 3, 1) := by decide +kernel
theorem dX6_grows_79 : decode cX6_grows 79 = .ok (.ireturn, 1) := by decide +kernel
theorem dX6_comesAs_0 : decode cX6_comesAs 0 = .ok (.aload_n 0, 1) := by decide +kernel
theorem dX6_comesAs_1 : decode cX6_comesAs 1 = .ok (.getfield 9, 3) := by decide +kernel
theorem dX6_comesAs_4 : decode cX6_comesAs 4 = .ok (.iconst 1, 1) := by decide +kernel
theorem dX6_comesAs_5 : decode cX6_comesAs 5 = .ok (.iaload, 1) := by decide +kernel
theorem dX6_comesAs_6 : decode cX6_comesAs 6 = .ok (.istore 4, 2) := by decide +kernel
theorem dX6_comesAs_8 : decode cX6_comesAs 8 = .ok (.aload_n 0, 1) := by decide +kernel
theorem dX6_comesAs_9 : decode cX6_comesAs 9 = .ok (.getfield 9, 3) := by decide +kernel
theorem dX6_comesAs_12 : decode cX6_comesAs 12 = .ok (.iconst 1, 1) := by decide +kernel
theorem dX6_comesAs_13 : decode cX6_comesAs 13 = .ok (.dup2, 1) := by decide +kernel
theorem dX6_comesAs_14 : decode cX6_comesAs 14 = .ok (.iaload, 1) := by decide +kernel
theorem dX6_comesAs_15 : decode cX6_comesAs 15 = .ok (.iconst 1, 1) := by decide +kernel
theorem dX6_comesAs_16 : decode cX6_comesAs 16 = .ok (.iadd, 1) := by decide +kernel
theorem dX6_comesAs_17 : decode cX6_comesAs 17 = .ok (.iastore, 1) := by decide +kernel
theorem dX6_comesAs_18 : decode cX6_comesAs 18 = .ok (.aload_n 0, 1) := by decide +kernel
theorem dX6_comesAs_19 : decode cX6_comesAs 19 = .ok (.iload 4, 2) := by decide +kernel
theorem dX6_comesAs_21 : decode cX6_comesAs 21 = .ok (.iconst 0, 1) := by decide +kernel
theorem dX6_comesAs_22 : decode cX6_comesAs 22 = .ok (.iload_n 1, 1) := by decide +kernel
theorem dX6_comesAs_23 : decode cX6_comesAs 23 = .ok (.invokevirtual 63, 3) := by decide +kernel
theorem dX6_comesAs_26 : decode cX6_comesAs 26 = .ok (.aload_n 0, 1) := by decide +kernel
theorem dX6_comesAs_27 : decode cX6_comesAs 27 = .ok (.iload 4, 2) := by decide +kernel
theorem dX6_comesAs_29 : decode cX6_comesAs 29 = .ok (.iconst 1, 1) := by decide +kernel
theorem dX6_comesAs_30 : decode cX6_comesAs 30 = .ok (.iload_n 2, 1) := by decide +kernel
theorem dX6_comesAs_31 : decode cX6_comesAs 31 = .ok (.invokevirtual 63, 3) := by decide +kernel
theorem dX6_comesAs_34 : decode cX6_comesAs 34 = .ok (.aload_n 0, 1) := by decide +kernel
theorem dX6_comesAs_35 : decode cX6_comesAs 35 = .ok (.iload 4, 2) := by decide +kernel
theorem dX6_comesAs_37 : decode cX6_comesAs 37 = .ok (.iconst 2, 1) := by decide +kernel
theorem dX6_comesAs_38 : decode cX6_comesAs 38 = .ok (.iload_n 3, 1) := by decide +kernel
theorem dX6_comesAs_39 : decode cX6_comesAs 39 = .ok (.invokevirtual 63, 3) := by decide +kernel
theorem dX6_comesAs_42 : decode cX6_comesAs 42 = .ok (.aload_n 0, 1) := by decide +kernel
theorem dX6_comesAs_43 : decode cX6_comesAs 43 = .ok (.iload 4, 2) := by decide +kernel
theorem dX6_comesAs_45 : decode cX6_comesAs 45 = .ok (.iconst 3, 1) := by decide +kernel
theorem dX6_comesAs_46 : decode cX6_comesAs 46 = .ok (.iconst 0, 1) := by decide +kernel
theorem dX6_comesAs_47 : decode cX6_comesAs 47 = .ok (.invokevirtual 63, 3) := by decide +kernel
theorem dX6_comesAs_50 : decode cX6_comesAs 50 = .ok (.aload_n 0, 1) := by decide +kernel
theorem dX6_comesAs_51 : decode cX6_comesAs 51 = .ok (.iload 4, 2) := by decide +kernel
theorem dX6_comesAs_53 : decode cX6_comesAs 53 = .ok (.iconst 4, 1) := by decide +kernel
theorem dX6_comesAs_54 : decode cX6_comesAs 54 = .ok (.iconst (-1), 1) := by decide +kernel
theorem dX6_comesAs_55 : decode cX6_comesAs 55 = .ok (.invokevirtual 63, 3) := by decide +kernel
theorem dX6_comesAs_58 : decode cX6_comesAs 58 = .ok (.aload_n 0, 1) := by decide +kernel
theorem dX6_comesAs_59 : decode cX6_comesAs 59 = .ok (.iload 4, 2) := by decide +kernel
theorem dX6_comesAs_61 : decode cX6_comesAs 61 = .ok (.iconst 5, 1) := by decide +kernel
theorem dX6_comesAs_62 : decode cX6_comesAs 62 = .ok (.iconst 0, 1) := by decide +kernel
theorem dX6_comesAs_63 : decode cX6_comesAs 63 = .ok (.invokevirtual 63, 3) := by decide +kernel
theorem dX6_comesAs_66 : decode cX6_comesAs 66 = .ok (.aload_n 0, 1) := by decide +kernel
theorem dX6_comesAs_67 : decode cX6_comesAs 67 = .ok (.iload 4, 2) := by decide +kernel
theorem dX6_comesAs_69 : decode cX6_comesAs 69 = .ok (.bipush 6, 2) := by decide +kernel
theorem dX6_comesAs_71 : decode cX6_comesAs 71 = .ok (.iconst 0, 1) := by decide +kernel
theorem dX6_comesAs_72 : decode cX6_comesAs 72 = .ok (.invokevirtual 63, 3) := by decide +kernel
theorem dX6_comesAs_75 : decode cX6_comesAs 75 = .ok (.iload 4, 2) := by decide +kernel
theorem dX6_comesAs_77 : decode cX6_comesAs 77 = .ok (.ireturn, 1) := by decide +kernel
theorem dX6_person_0 : decode cX6_person 0 = .ok (.iload_n 1, 1) := by decide +kernel
theorem dX6_person_1 : decode cX6_person 1 = .ok (.i2l, 1) := by decide +kernel
theorem dX6_person_2 : decode cX6_person 2 = .ok (.iconst 0, 1) := by decide +kernel
theorem dX6_person_3 : decode cX6_person 3 = .ok (.iconst 5, 1) := by decide +kernel
theorem dX6_person_4 : decode cX6_person 4 = .ok (.invokestatic 41, 3) := by decide +kernel
theorem dX6_person_7 : decode cX6_person 7 = .ok (.ifCond .ne 10, 3) := by decide +kernel
theorem dX6_person_10 : decode cX6_person 10 = .ok (.aload_n 0, 1) := by decide +kernel
theorem dX6_person_11 : decode cX6_person 11 = .ok (.ldc 35, 2) := by decide +kernel
theorem dX6_person_13 : decode cX6_person 13 = .ok (.invokevirtual 37, 3) := by decide +kernel
theorem dX6_person_16 : decode cX6_person 16 = .ok (.ireturn, 1) := by decide +kernel
theorem dX6_person_17 : decode cX6_person 17 = .ok (.aload_n 0, 1) := by decide +kernel
theorem dX6_person_18 : decode cX6_person 18 = .ok (.getfield 9, 3) := by decide +kernel
theorem dX6_person_21 : decode cX6_person 21 = .ok (.iconst 1, 1) := by decide +kernel
theorem dX6_person_22 : decode cX6_person 22 = .ok (.iaload, 1) := by decide +kernel
theorem dX6_person_23 : decode cX6_person 23 = .ok (.bipush 8, 2) := by decide +kernel
theorem dX6_person_25 : decode cX6_person 25 = .ok (.if_icmp .ne 12, 3) := by decide +kernel
theorem dX6_person_28 : decode cX6_person 28 = .ok (.aload_n 0, 1) := by decide +kernel
theorem dX6_person_29 : decode cX6_person 29 = .ok (.ldc 67, 2) := by decide +kernel
theorem dX6_person_31 : decode cX6_person 31 = .ok (.invokevirtual 37, 3) := by decide +kernel
theorem dX6_person_34 : decode cX6_person 34 = .ok (.goto 11, 3) := by decide +kernel
theorem dX6_person_37 : decode cX6_person 37 = .ok (.aload_n 0, 1) := by decide +kernel
theorem dX6_person_38 : decode cX6_person 38 = .ok (.iload_n 1, 1) := by decide +kernel
theorem dX6_person_39 : decode cX6_person 39 = .ok (.bipush 20, 2) := by decide +kernel
theorem dX6_person_41 : decode cX6_person 41 = .ok (.iconst (-1), 1) := by decide +kernel
theorem dX6_person_42 : decode cX6_person 42 = .ok (.invokevirtual 68, 3) := by decide +kernel
theorem dX6_person_45 : decode cX6_person 45 = .ok (.ireturn, 1) := by decide +kernel
theorem dX6_of_0 : decode cX6_of 0 = .ok (.aload_n 0, 1) := by decide +kernel
theorem dX6_of_1 : decode cX6_of 1 = .ok (.iload_n 1, 1) := by decide +kernel
theorem dX6_of_2 : decode cX6_of 2 = .ok (.invokevirtual 45, 3) := by decide +kernel
theorem dX6_of_5 : decode cX6_of 5 = .ok (.ifCond .eq 14, 3) := by decide +kernel
theorem dX6_of_8 : decode cX6_of 8 = .ok (.iload_n 2, 1) := by decide +kernel
theorem dX6_of_9 : decode cX6_of 9 = .ok (.i2l, 1) := by decide +kernel
theorem dX6_of_10 : decode cX6_of 10 = .ok (.iconst 0, 1) := by decide +kernel
theorem dX6_of_11 : decode cX6_of 11 = .ok (.bipush 9, 2) := by decide +kernel
theorem dX6_of_13 : decode cX6_of 13 = .ok (.invokestatic 41, 3) := by decide +kernel
theorem dX6_of_16 : decode cX6_of 16 = .ok (.ifCond .ne 10, 3) := by decide +kernel
theorem dX6_of_19 : decode cX6_of 19 = .ok (.aload_n 0, 1) := by decide +kernel
theorem dX6_of_20 : decode cX6_of 20 = .ok (.ldc 35, 2) := by decide +kernel
theorem dX6_of_22 : decode cX6_of 22 = .ok (.invokevirtual 37, 3) := by decide +kernel
theorem dX6_of_25 : decode cX6_of 25 = .ok (.ireturn, 1) := by decide +kernel
theorem dX6_of_26 : decode cX6_of 26 = .ok (.iload_n 2, 1) := by decide +kernel
theorem dX6_of_27 : decode cX6_of 27 = .ok (.bipush 7, 2) := by decide +kernel
theorem dX6_of_29 : decode cX6_of 29 = .ok (.if_icmp .ge 10, 3) := by decide +kernel
theorem dX6_of_32 : decode cX6_of 32 = .ok (.aload_n 0, 1) := by decide +kernel
theorem dX6_of_33 : decode cX6_of 33 = .ok (.iload_n 1, 1) := by decide +kernel
theorem dX6_of_34 : decode cX6_of 34 = .ok (.iload_n 2, 1) := by decide +kernel
theorem dX6_of_35 : decode cX6_of 35 = .ok (.invokevirtual 49, 3) := by decide +kernel
theorem dX6_of_38 : decode cX6_of 38 = .ok (.ireturn, 1) := by decide +kernel
theorem dX6_of_39 : decode cX6_of 39 = .ok (.iload_n 2, 1) := by decide +kernel
theorem dX6_of_40 : decode cX6_of 40 = .ok (.bipush 7, 2) := by decide +kernel
theorem dX6_of_42 : decode cX6_of 42 = .ok (.if_icmp .ne 11, 3) := by decide +kernel
theorem dX6_of_45 : decode cX6_of 45 = .ok (.aload_n 0, 1) := by decide +kernel
theorem dX6_of_46 : decode cX6_of 46 = .ok (.iload_n 1, 1) := by decide +kernel
theorem dX6_of_47 : decode cX6_of 47 = .ok (.invokevirtual 71, 3) := by decide +kernel
theorem dX6_of_50 : decode cX6_of 50 = .ok (.goto 22, 3) := by decide +kernel
theorem dX6_of_53 : decode cX6_of 53 = .ok (.iload_n 2, 1) := by decide +kernel
theorem dX6_of_54 : decode cX6_of 54 = .ok (.bipush 8, 2) := by decide +kernel
theorem dX6_of_56 : decode cX6_of 56 = .ok (.if_icmp .ne 11, 3) := by decide +kernel
theorem dX6_of_59 : decode cX6_of 59 = .ok (.aload_n 0, 1) := by decide +kernel
theorem dX6_of_60 : decode cX6_of 60 = .ok (.iload_n 1, 1) := by decide +kernel
theorem dX6_of_61 : decode cX6_of 61 = .ok (.invokevirtual 74, 3) := by decide +kernel
theorem dX6_of_64 : decode cX6_of 64 = .ok (.goto 8, 3) := by decide +kernel
theorem dX6_of_67 : decode cX6_of 67 = .ok (.aload_n 0, 1) := by decide +kernel
theorem dX6_of_68 : decode cX6_of 68 = .ok (.iload_n 1, 1) := by decide +kernel
theorem dX6_of_69 : decode cX6_of 69 = .ok (.invokevirtual 77, 3) := by decide +kernel
theorem dX6_of_72 : decode cX6_of 72 = .ok (.ireturn, 1) := by decide +kernel
theorem dX6_mayBe_0 : decode cX6_mayBe 0 = .ok (.iload_n 1, 1) := by decide +kernel
theorem dX6_mayBe_1 : decode cX6_mayBe 1 = .ok (.iconst 2, 1) := by decide +kernel
theorem dX6_mayBe_2 : decode cX6_mayBe 2 = .ok (.if_icmp .eq 8, 3) := by decide +kernel
theorem dX6_mayBe_5 : decode cX6_mayBe 5 = .ok (.iload_n 1, 1) := by decide +kernel
theorem dX6_mayBe_6 : decode cX6_mayBe 6 = .ok (.iconst 4, 1) := by decide +kernel
theorem dX6_mayBe_7 : decode cX6_mayBe 7 = .ok (.if_icmp .ne 7, 3) := by decide +kernel
theorem dX6_mayBe_10 : decode cX6_mayBe 10 = .ok (.iconst 1, 1) := by decide +kernel
theorem dX6_mayBe_11 : decode cX6_mayBe 11 = .ok (.goto 4, 3) := by decide +kernel
theorem dX6_mayBe_14 : decode cX6_mayBe 14 = .ok (.iconst 0, 1) := by decide +kernel
theorem dX6_mayBe_15 : decode cX6_mayBe 15 = .ok (.istore_n 3, 1) := by decide +kernel
theorem dX6_mayBe_16 : decode cX6_mayBe 16 = .ok (.iload_n 1, 1) := by decide +kernel
theorem dX6_mayBe_17 : decode cX6_mayBe 17 = .ok (.i2l, 1) := by decide +kernel
theorem dX6_mayBe_18 : decode cX6_mayBe 18 = .ok (.iconst 1, 1) := by decide +kernel
theorem dX6_mayBe_19 : decode cX6_mayBe 19 = .ok (.bipush 6, 2) := by decide +kernel
theorem dX6_mayBe_21 : decode cX6_mayBe 21 = .ok (.invokestatic 41, 3) := by decide +kernel
theorem dX6_mayBe_24 : decode cX6_mayBe 24 = .ok (.ifCond .eq 50, 3) := by decide +kernel
theorem dX6_mayBe_27 : decode cX6_mayBe 27 = .ok (.iload_n 2, 1) := by decide +kernel
theorem dX6_mayBe_28 : decode cX6_mayBe 28 = .ok (.i2l, 1) := by decide +kernel
theorem dX6_mayBe_29 : decode cX6_mayBe 29 = .ok (.iload_n 3, 1) := by decide +kernel
theorem dX6_mayBe_30 : decode cX6_mayBe 30 = .ok (.ifCond .eq 7, 3) := by decide +kernel
theorem dX6_mayBe_33 : decode cX6_mayBe 33 = .ok (.iconst (-1), 1) := by decide +kernel
theorem dX6_mayBe_34 : decode cX6_mayBe 34 = .ok (.goto 4, 3) := by decide +kernel
theorem dX6_mayBe_37 : decode cX6_mayBe 37 = .ok (.iconst 0, 1) := by decide +kernel
theorem dX6_mayBe_38 : decode cX6_mayBe 38 = .ok (.iload_n 3, 1) := by decide +kernel
theorem dX6_mayBe_39 : decode cX6_mayBe 39 = .ok (.ifCond .eq 14, 3) := by decide +kernel
theorem dX6_mayBe_42 : decode cX6_mayBe 42 = .ok (.aload_n 0, 1) := by decide +kernel
theorem dX6_mayBe_43 : decode cX6_mayBe 43 = .ok (.getfield 9, 3) := by decide +kernel
theorem dX6_mayBe_46 : decode cX6_mayBe 46 = .ok (.iconst 1, 1) := by decide +kernel
theorem dX6_mayBe_47 : decode cX6_mayBe 47 = .ok (.iaload, 1) := by decide +kernel
theorem dX6_mayBe_48 : decode cX6_mayBe 48 = .ok (.iconst 1, 1) := by decide +kernel
theorem dX6_mayBe_49 : decode cX6_mayBe 49 = .ok (.isub, 1) := by decide +kernel
theorem dX6_mayBe_50 : decode cX6_mayBe 50 = .ok (.goto 14, 3) := by decide +kernel
theorem dX6_mayBe_53 : decode cX6_mayBe 53 = .ok (.iload_n 1, 1) := by decide +kernel
theorem dX6_mayBe_54 : decode cX6_mayBe 54 = .ok (.iconst 3, 1) := by decide +kernel
theorem dX6_mayBe_55 : decode cX6_mayBe 55 = .ok (.if_icmp .ne 7, 3) := by decide +kernel
theorem dX6_mayBe_58 : decode cX6_mayBe 58 = .ok (.iconst 1, 1) := by decide +kernel
theorem dX6_mayBe_59 : decode cX6_mayBe 59 = .ok (.goto 5, 3) := by decide +kernel
theorem dX6_mayBe_62 : decode cX6_mayBe 62 = .ok (.bipush 99, 2) := by decide +kernel
theorem dX6_mayBe_64 : decode cX6_mayBe 64 = .ok (.invokestatic 41, 3) := by decide +kernel
theorem dX6_mayBe_67 : decode cX6_mayBe 67 = .ok (.ifCond .eq 7, 3) := by decide +kernel
theorem dX6_mayBe_70 : decode cX6_mayBe 70 = .ok (.iconst 1, 1) := by decide +kernel
theorem dX6_mayBe_71 : decode cX6_mayBe 71 = .ok (.goto 4, 3) := by decide +kernel
theorem dX6_mayBe_74 : decode cX6_mayBe 74 = .ok (.iconst 0, 1) := by decide +kernel
theorem dX6_mayBe_75 : decode cX6_mayBe 75 = .ok (.ireturn, 1) := by decide +kernel
theorem dX6_set_0 : decode cX6_set 0 = .ok (.aload_n 0, 1) := by decide +kernel
theorem dX6_set_1 : decode cX6_set 1 = .ok (.iload_n 1, 1) := by decide +kernel
theorem dX6_set_2 : decode cX6_set 2 = .ok (.invokevirtual 45, 3) := by decide +kernel
theorem dX6_set_5 : decode cX6_set 5 = .ok (.ifCond .eq 28, 3) := by decide +kernel
theorem dX6_set_8 : decode cX6_set 8 = .ok (.aload_n 0, 1) := by decide +kernel
theorem dX6_set_9 : decode cX6_set 9 = .ok (.iload_n 2, 1) := by decide +kernel
theorem dX6_set_10 : decode cX6_set 10 = .ok (.iload_n 3, 1) := by decide +kernel
theorem dX6_set_11 : decode cX6_set 11 = .ok (.invokevirtual 80, 3) := by decide +kernel
theorem dX6_set_14 : decode cX6_set 14 = .ok (.ifCond .eq 19, 3) := by decide +kernel
theorem dX6_set_17 : decode cX6_set 17 = .ok (.aload_n 0, 1) := by decide +kernel
theorem dX6_set_18 : decode cX6_set 18 = .ok (.iconst 2, 1) := by decide +kernel
theorem dX6_set_19 : decode cX6_set 19 = .ok (.bipush 7, 2) := by decide +kernel
theorem dX6_set_21 : decode cX6_set 21 = .ok (.iload_n 1, 1) := by decide +kernel
theorem dX6_set_22 : decode cX6_set 22 = .ok (.imul, 1) := by decide +kernel
theorem dX6_set_23 : decode cX6_set 23 = .ok (.iadd, 1) := by decide +kernel
theorem dX6_set_24 : decode cX6_set 24 = .ok (.iload_n 2, 1) := by decide +kernel
theorem dX6_set_25 : decode cX6_set 25 = .ok (.iadd, 1) := by decide +kernel
theorem dX6_set_26 : decode cX6_set 26 = .ok (.iload_n 3, 1) := by decide +kernel
theorem dX6_set_27 : decode cX6_set 27 = .ok (.invokevirtual 84, 3) := by decide +kernel
theorem dX6_set_30 : decode cX6_set 30 = .ok (.goto 9, 3) := by decide +kernel
theorem dX6_set_33 : decode cX6_set 33 = .ok (.aload_n 0, 1) := by decide +kernel
theorem dX6_set_34 : decode cX6_set 34 = .ok (.ldc 35, 2) := by decide +kernel
theorem dX6_set_36 : decode cX6_set 36 = .ok (.invokevirtual 37, 3) := by decide +kernel
theorem dX6_set_39 : decode cX6_set 39 = .ok (.ireturn, 1) := by decide +kernel
theorem dX6_turn_0 : decode cX6_turn 0 = .ok (.aload_n 0, 1) := by decide +kernel
theorem dX6_turn_1 : decode cX6_turn 1 = .ok (.iload_n 1, 1) := by decide +kernel
theorem dX6_turn_2 : decode cX6_turn 2 = .ok (.invokevirtual 45, 3) := by decide +kernel
theorem dX6_turn_5 : decode cX6_turn 5 = .ok (.ifCond .eq 27, 3) := by decide +kernel
theorem dX6_turn_8 : decode cX6_turn 8 = .ok (.iload_n 2, 1) := by decide +kernel
theorem dX6_turn_9 : decode cX6_turn 9 = .ok (.i2l, 1) := by decide +kernel
theorem dX6_turn_10 : decode cX6_turn 10 = .ok (.iconst 0, 1) := by decide +kernel
theorem dX6_turn_11 : decode cX6_turn 11 = .ok (.iconst 5, 1) := by decide +kernel
theorem dX6_turn_12 : decode cX6_turn 12 = .ok (.invokestatic 41, 3) := by decide +kernel
theorem dX6_turn_15 : decode cX6_turn 15 = .ok (.ifCond .eq 17, 3) := by decide +kernel
theorem dX6_turn_18 : decode cX6_turn 18 = .ok (.aload_n 0, 1) := by decide +kernel
theorem dX6_turn_19 : decode cX6_turn 19 = .ok (.iconst 2, 1) := by decide +kernel
theorem dX6_turn_20 : decode cX6_turn 20 = .ok (.bipush 7, 2) := by decide +kernel
theorem dX6_turn_22 : decode cX6_turn 22 = .ok (.iload_n 1, 1) := by decide +kernel
theorem dX6_turn_23 : decode cX6_turn 23 = .ok (.imul, 1) := by decide +kernel
theorem dX6_turn_24 : decode cX6_turn 24 = .ok (.iadd, 1) := by decide +kernel
theorem dX6_turn_25 : decode cX6_turn 25 = .ok (.iload_n 2, 1) := by decide +kernel
theorem dX6_turn_26 : decode cX6_turn 26 = .ok (.invokevirtual 84, 3) := by decide +kernel
theorem dX6_turn_29 : decode cX6_turn 29 = .ok (.goto 9, 3) := by decide +kernel
theorem dX6_turn_32 : decode cX6_turn 32 = .ok (.aload_n 0, 1) := by decide +kernel
theorem dX6_turn_33 : decode cX6_turn 33 = .ok (.ldc 35, 2) := by decide +kernel
theorem dX6_turn_35 : decode cX6_turn 35 = .ok (.invokevirtual 37, 3) := by decide +kernel
theorem dX6_turn_38 : decode cX6_turn 38 = .ok (.ireturn, 1) := by decide +kernel
theorem dX6_as_0 : decode cX6_as 0 = .ok (.aload_n 0, 1) := by decide +kernel
theorem dX6_as_1 : decode cX6_as 1 = .ok (.iload_n 1, 1) := by decide +kernel
theorem dX6_as_2 : decode cX6_as 2 = .ok (.invokevirtual 45, 3) := by decide +kernel
theorem dX6_as_5 : decode cX6_as 5 = .ok (.ifCond .eq 13, 3) := by decide +kernel
theorem dX6_as_8 : decode cX6_as 8 = .ok (.iload_n 2, 1) := by decide +kernel
theorem dX6_as_9 : decode cX6_as 9 = .ok (.i2l, 1) := by decide +kernel
theorem dX6_as_10 : decode cX6_as 10 = .ok (.iconst 0, 1) := by decide +kernel
theorem dX6_as_11 : decode cX6_as 11 = .ok (.iconst 5, 1) := by decide +kernel
theorem dX6_as_12 : decode cX6_as 12 = .ok (.invokestatic 41, 3) := by decide +kernel
theorem dX6_as_15 : decode cX6_as 15 = .ok (.ifCond .ne 10, 3) := by decide +kernel
theorem dX6_as_18 : decode cX6_as 18 = .ok (.aload_n 0, 1) := by decide +kernel
theorem dX6_as_19 : decode cX6_as 19 = .ok (.ldc 35, 2) := by decide +kernel
theorem dX6_as_21 : decode cX6_as 21 = .ok (.invokevirtual 37, 3) := by decide +kernel
theorem dX6_as_24 : decode cX6_as 24 = .ok (.ireturn, 1) := by decide +kernel
theorem dX6_as_25 : decode cX6_as 25 = .ok (.aload_n 0, 1) := by decide +kernel
theorem dX6_as_26 : decode cX6_as 26 = .ok (.iload_n 1, 1) := by decide +kernel
theorem dX6_as_27 : decode cX6_as 27 = .ok (.iconst 0, 1) := by decide +kernel
theorem dX6_as_28 : decode cX6_as 28 = .ok (.invokevirtual 49, 3) := by decide +kernel
theorem dX6_as_31 : decode cX6_as 31 = .ok (.istore_n 3, 1) := by decide +kernel
theorem dX6_as_32 : decode cX6_as 32 = .ok (.iload_n 2, 1) := by decide +kernel
theorem dX6_as_33 : decode cX6_as 33 = .ok (.ifCond .eq 28, 3) := by decide +kernel
theorem dX6_as_36 : decode cX6_as 36 = .ok (.iload_n 2, 1) := by decide +kernel
theorem dX6_as_37 : decode cX6_as 37 = .ok (.iload_n 3, 1) := by decide +kernel
theorem dX6_as_38 : decode cX6_as 38 = .ok (.if_icmp .eq 23, 3) := by decide +kernel
theorem dX6_as_41 : decode cX6_as 41 = .ok (.iload_n 2, 1) := by decide +kernel
theorem dX6_as_42 : decode cX6_as 42 = .ok (.iconst 1, 1) := by decide +kernel
theorem dX6_as_43 : decode cX6_as 43 = .ok (.if_icmp .ne 8, 3) := by decide +kernel
theorem dX6_as_46 : decode cX6_as 46 = .ok (.iload_n 3, 1) := by decide +kernel
theorem dX6_as_47 : decode cX6_as 47 = .ok (.iconst 4, 1) := by decide +kernel
theorem dX6_as_48 : decode cX6_as 48 = .ok (.if_icmp .eq 13, 3) := by decide +kernel
theorem dX6_as_51 : decode cX6_as 51 = .ok (.iload_n 2, 1) := by decide +kernel
theorem dX6_as_52 : decode cX6_as 52 = .ok (.iconst 2, 1) := by decide +kernel
theorem dX6_as_53 : decode cX6_as 53 = .ok (.if_icmp .ne 12, 3) := by decide +kernel
theorem dX6_as_56 : decode cX6_as 56 = .ok (.iload_n 3, 1) := by decide +kernel
theorem dX6_as_57 : decode cX6_as 57 = .ok (.iconst 5, 1) := by decide +kernel
theorem dX6_as_58 : decode cX6_as 58 = .ok (.if_icmp .ne 7, 3) := by decide +kernel
theorem dX6_as_61 : decode cX6_as 61 = .ok (.iconst 1, 1) := by decide +kernel
theorem dX6_as_62 : decode cX6_as 62 = .ok (.goto 4, 3) := by decide +kernel
theorem dX6_as_65 : decode cX6_as 65 = .ok (.iconst 0, 1) := by decide +kernel
theorem dX6_as_66 : decode cX6_as 66 = .ok (.istore 4, 2) := by decide +kernel
theorem dX6_as_68 : decode cX6_as 68 = .ok (.iload 4, 2) := by decide +kernel
theorem dX6_as_70 : decode cX6_as 70 = .ok (.ifCond .eq 12, 3) := by decide +kernel
theorem dX6_as_73 : decode cX6_as 73 = .ok (.aload_n 0, 1) := by decide +kernel
theorem dX6_as_74 : decode cX6_as 74 = .ok (.iload_n 1, 1) := by decide +kernel
theorem dX6_as_75 : decode cX6_as 75 = .ok (.iconst 1, 1) := by decide +kernel
theorem dX6_as_76 : decode cX6_as 76 = .ok (.invokevirtual 49, 3) := by decide +kernel
theorem dX6_as_79 : decode cX6_as 79 = .ok (.goto 9, 3) := by decide +kernel
theorem dX6_as_82 : decode cX6_as 82 = .ok (.aload_n 0, 1) := by decide +kernel
theorem dX6_as_83 : decode cX6_as 83 = .ok (.ldc 87, 2) := by decide +kernel
theorem dX6_as_85 : decode cX6_as 85 = .ok (.invokevirtual 37, 3) := by decide +kernel
theorem dX6_as_88 : decode cX6_as 88 = .ok (.ireturn, 1) := by decide +kernel
theorem dX6_isGround_0 : decode cX6_isGround 0 = .ok (.aload_n 0, 1) := by decide +kernel
theorem dX6_isGround_1 : decode cX6_isGround 1 = .ok (.iload_n 1, 1) := by decide +kernel
theorem dX6_isGround_2 : decode cX6_isGround 2 = .ok (.iconst 5, 1) := by decide +kernel
theorem dX6_isGround_3 : decode cX6_isGround 3 = .ok (.aload_n 0, 1) := by decide +kernel
theorem dX6_isGround_4 : decode cX6_isGround 4 = .ok (.iload_n 1, 1) := by decide +kernel
theorem dX6_isGround_5 : decode cX6_isGround 5 = .ok (.invokevirtual 71, 3) := by decide +kernel
theorem dX6_isGround_8 : decode cX6_isGround 8 = .ok (.invokevirtual 63, 3) := by decide +kernel
theorem dX6_isGround_11 : decode cX6_isGround 11 = .ok (.aload_n 0, 1) := by decide +kernel
theorem dX6_isGround_12 : decode cX6_isGround 12 = .ok (.iload_n 1, 1) := by decide +kernel
theorem dX6_isGround_13 : decode cX6_isGround 13 = .ok (.iconst 4, 1) := by decide +kernel
theorem dX6_isGround_14 : decode cX6_isGround 14 = .ok (.aload_n 0, 1) := by decide +kernel
theorem dX6_isGround_15 : decode cX6_isGround 15 = .ok (.iload_n 1, 1) := by decide +kernel
theorem dX6_isGround_16 : decode cX6_isGround 16 = .ok (.iconst 2, 1) := by decide +kernel
theorem dX6_isGround_17 : decode cX6_isGround 17 = .ok (.invokevirtual 49, 3) := by decide +kernel
theorem dX6_isGround_20 : decode cX6_isGround 20 = .ok (.invokevirtual 63, 3) := by decide +kernel
theorem dX6_isGround_23 : decode cX6_isGround 23 = .ok (.aload_n 0, 1) := by decide +kernel
theorem dX6_isGround_24 : decode cX6_isGround 24 = .ok (.iload_n 1, 1) := by decide +kernel
theorem dX6_isGround_25 : decode cX6_isGround 25 = .ok (.bipush 6, 2) := by decide +kernel
theorem dX6_isGround_27 : decode cX6_isGround 27 = .ok (.iconst 0, 1) := by decide +kernel
theorem dX6_isGround_28 : decode cX6_isGround 28 = .ok (.invokevirtual 63, 3) := by decide +kernel
theorem dX6_isGround_31 : decode cX6_isGround 31 = .ok (.aload_n 0, 1) := by decide +kernel
theorem dX6_isGround_32 : decode cX6_isGround 32 = .ok (.iload_n 1, 1) := by decide +kernel
theorem dX6_isGround_33 : decode cX6_isGround 33 = .ok (.iconst 3, 1) := by decide +kernel
theorem dX6_isGround_34 : decode cX6_isGround 34 = .ok (.iconst 0, 1) := by decide +kernel
theorem dX6_isGround_35 : decode cX6_isGround 35 = .ok (.invokevirtual 63, 3) := by decide +kernel
theorem dX6_isGround_38 : decode cX6_isGround 38 = .ok (.aload_n 0, 1) := by decide +kernel
theorem dX6_isGround_39 : decode cX6_isGround 39 = .ok (.iload_n 1, 1) := by decide +kernel
theorem dX6_isGround_40 : decode cX6_isGround 40 = .ok (.iconst 5, 1) := by decide +kernel
theorem dX6_isGround_41 : decode cX6_isGround 41 = .ok (.invokevirtual 49, 3) := by decide +kernel
theorem dX6_isGround_44 : decode cX6_isGround 44 = .ok (.ireturn, 1) := by decide +kernel
theorem dX6_grind_0 : decode cX6_grind 0 = .ok (.aload_n 0, 1) := by decide +kernel
theorem dX6_grind_1 : decode cX6_grind 1 = .ok (.iload_n 1, 1) := by decide +kernel
theorem dX6_grind_2 : decode cX6_grind 2 = .ok (.invokevirtual 45, 3) := by decide +kernel
theorem dX6_grind_5 : decode cX6_grind 5 = .ok (.ifCond .ne 10, 3) := by decide +kernel
theorem dX6_grind_8 : decode cX6_grind 8 = .ok (.aload_n 0, 1) := by decide +kernel
theorem dX6_grind_9 : decode cX6_grind 9 = .ok (.ldc 35, 2) := by decide +kernel
theorem dX6_grind_11 : decode cX6_grind 11 = .ok (.invokevirtual 37, 3) := by decide +kernel
theorem dX6_grind_14 : decode cX6_grind 14 = .ok (.ireturn, 1) := by decide +kernel
theorem dX6_grind_15 : decode cX6_grind 15 = .ok (.aload_n 0, 1) := by decide +kernel
theorem dX6_grind_16 : decode cX6_grind 16 = .ok (.iload_n 1, 1) := by decide +kernel
theorem dX6_grind_17 : decode cX6_grind 17 = .ok (.iconst 2, 1) := by decide +kernel
theorem dX6_grind_18 : decode cX6_grind 18 = .ok (.invokevirtual 49, 3) := by decide +kernel
theorem dX6_grind_21 : decode cX6_grind 21 = .ok (.ifCond .ge 12, 3) := by decide +kernel
theorem dX6_grind_24 : decode cX6_grind 24 = .ok (.aload_n 0, 1) := by decide +kernel
theorem dX6_grind_25 : decode cX6_grind 25 = .ok (.ldc 88, 2) := by decide +kernel
theorem dX6_grind_27 : decode cX6_grind 27 = .ok (.invokevirtual 37, 3) := by decide +kernel
theorem dX6_grind_30 : decode cX6_grind 30 = .ok (.goto 8, 3) := by decide +kernel
theorem dX6_grind_33 : decode cX6_grind 33 = .ok (.aload_n 0, 1) := by decide +kernel
theorem dX6_grind_34 : decode cX6_grind 34 = .ok (.iload_n 1, 1) := by decide +kernel
theorem dX6_grind_35 : decode cX6_grind 35 = .ok (.invokevirtual 89, 3) := by decide +kernel
theorem dX6_grind_38 : decode cX6_grind 38 = .ok (.ireturn, 1) := by decide +kernel
theorem dX6_lends_0 : decode cX6_lends 0 = .ok (.iconst 4, 1) := by decide +kernel
theorem dX6_lends_1 : decode cX6_lends 1 = .ok (.istore_n 3, 1) := by decide +kernel
theorem dX6_lends_2 : decode cX6_lends 2 = .ok (.iload_n 3, 1) := by decide +kernel
theorem dX6_lends_3 : decode cX6_lends 3 = .ok (.bipush 6, 2) := by decide +kernel
theorem dX6_lends_5 : decode cX6_lends 5 = .ok (.if_icmp .gt 37, 3) := by decide +kernel
theorem dX6_lends_8 : decode cX6_lends 8 = .ok (.aload_n 0, 1) := by decide +kernel
theorem dX6_lends_9 : decode cX6_lends 9 = .ok (.iload_n 1, 1) := by decide +kernel
theorem dX6_lends_10 : decode cX6_lends 10 = .ok (.iload_n 3, 1) := by decide +kernel
theorem dX6_lends_11 : decode cX6_lends 11 = .ok (.invokevirtual 49, 3) := by decide +kernel
theorem dX6_lends_14 : decode cX6_lends 14 = .ok (.istore 4, 2) := by decide +kernel
theorem dX6_lends_16 : decode cX6_lends 16 = .ok (.aload_n 0, 1) := by decide +kernel
theorem dX6_lends_17 : decode cX6_lends 17 = .ok (.iload_n 1, 1) := by decide +kernel
theorem dX6_lends_18 : decode cX6_lends 18 = .ok (.iload_n 3, 1) := by decide +kernel
theorem dX6_lends_19 : decode cX6_lends 19 = .ok (.aload_n 0, 1) := by decide +kernel
theorem dX6_lends_20 : decode cX6_lends 20 = .ok (.iload_n 2, 1) := by decide +kernel
theorem dX6_lends_21 : decode cX6_lends 21 = .ok (.iload_n 3, 1) := by decide +kernel
theorem dX6_lends_22 : decode cX6_lends 22 = .ok (.invokevirtual 49, 3) := by decide +kernel
theorem dX6_lends_25 : decode cX6_lends 25 = .ok (.invokevirtual 63, 3) := by decide +kernel
theorem dX6_lends_28 : decode cX6_lends 28 = .ok (.aload_n 0, 1) := by decide +kernel
theorem dX6_lends_29 : decode cX6_lends 29 = .ok (.iload_n 2, 1) := by decide +kernel
theorem dX6_lends_30 : decode cX6_lends 30 = .ok (.iload_n 3, 1) := by decide +kernel
theorem dX6_lends_31 : decode cX6_lends 31 = .ok (.iload 4, 2) := by decide +kernel
theorem dX6_lends_33 : decode cX6_lends 33 = .ok (.invokevirtual 63, 3) := by decide +kernel
theorem dX6_lends_36 : decode cX6_lends 36 = .ok (.iinc 3 1, 3) := by decide +kernel
theorem dX6_lends_39 : decode cX6_lends 39 = .ok (.goto (-37), 3) := by decide +kernel
theorem dX6_lends_42 : decode cX6_lends 42 = .ok (.return_, 1) := by decide +kernel
theorem dX6_lend_0 : decode cX6_lend 0 = .ok (.aload_n 0, 1) := by decide +kernel
theorem dX6_lend_1 : decode cX6_lend 1 = .ok (.iload_n 1, 1) := by decide +kernel
theorem dX6_lend_2 : decode cX6_lend 2 = .ok (.iload_n 2, 1) := by decide +kernel
theorem dX6_lend_3 : decode cX6_lend 3 = .ok (.invokevirtual 92, 3) := by decide +kernel
theorem dX6_lend_6 : decode cX6_lend 6 = .ok (.ifCond .ne 10, 3) := by decide +kernel
theorem dX6_lend_9 : decode cX6_lend 9 = .ok (.aload_n 0, 1) := by decide +kernel
theorem dX6_lend_10 : decode cX6_lend 10 = .ok (.ldc 35, 2) := by decide +kernel
theorem dX6_lend_12 : decode cX6_lend 12 = .ok (.invokevirtual 37, 3) := by decide +kernel
theorem dX6_lend_15 : decode cX6_lend 15 = .ok (.ireturn, 1) := by decide +kernel
theorem dX6_lend_16 : decode cX6_lend 16 = .ok (.aload_n 0, 1) := by decide +kernel
theorem dX6_lend_17 : decode cX6_lend 17 = .ok (.iload_n 1, 1) := by decide +kernel
theorem dX6_lend_18 : decode cX6_lend 18 = .ok (.iload_n 2, 1) := by decide +kernel
theorem dX6_lend_19 : decode cX6_lend 19 = .ok (.invokevirtual 95, 3) := by decide +kernel
theorem dX6_lend_22 : decode cX6_lend 22 = .ok (.iconst 1, 1) := by decide +kernel
theorem dX6_lend_23 : decode cX6_lend 23 = .ok (.ireturn, 1) := by decide +kernel
theorem dX6_looks_0 : decode cX6_looks 0 = .ok (.aload_n 0, 1) := by decide +kernel
theorem dX6_looks_1 : decode cX6_looks 1 = .ok (.iload_n 1, 1) := by decide +kernel
theorem dX6_looks_2 : decode cX6_looks 2 = .ok (.iload_n 2, 1) := by decide +kernel
theorem dX6_looks_3 : decode cX6_looks 3 = .ok (.invokevirtual 92, 3) := by decide +kernel
theorem dX6_looks_6 : decode cX6_looks 6 = .ok (.ifCond .eq 12, 3) := by decide +kernel
theorem dX6_looks_9 : decode cX6_looks 9 = .ok (.aload_n 0, 1) := by decide +kernel
theorem dX6_looks_10 : decode cX6_looks 10 = .ok (.iload_n 1, 1) := by decide +kernel
theorem dX6_looks_11 : decode cX6_looks 11 = .ok (.iload_n 2, 1) := by decide +kernel
theorem dX6_looks_12 : decode cX6_looks 12 = .ok (.invokevirtual 57, 3) := by decide +kernel
theorem dX6_looks_15 : decode cX6_looks 15 = .ok (.goto 9, 3) := by decide +kernel
theorem dX6_looks_18 : decode cX6_looks 18 = .ok (.aload_n 0, 1) := by decide +kernel
theorem dX6_looks_19 : decode cX6_looks 19 = .ok (.ldc 35, 2) := by decide +kernel
theorem dX6_looks_21 : decode cX6_looks 21 = .ok (.invokevirtual 37, 3) := by decide +kernel
theorem dX6_looks_24 : decode cX6_looks 24 = .ok (.ireturn, 1) := by decide +kernel
theorem dX6_seesBy_0 : decode cX6_seesBy 0 = .ok (.iconst 0, 1) := by decide +kernel
theorem dX6_seesBy_1 : decode cX6_seesBy 1 = .ok (.istore_n 3, 1) := by decide +kernel
theorem dX6_seesBy_2 : decode cX6_seesBy 2 = .ok (.iconst 0, 1) := by decide +kernel
theorem dX6_seesBy_3 : decode cX6_seesBy 3 = .ok (.istore 4, 2) := by decide +kernel
theorem dX6_seesBy_5 : decode cX6_seesBy 5 = .ok (.iload 4, 2) := by decide +kernel
theorem dX6_seesBy_7 : decode cX6_seesBy 7 = .ok (.aload_n 0, 1) := by decide +kernel
theorem dX6_seesBy_8 : decode cX6_seesBy 8 = .ok (.getfield 9, 3) := by decide +kernel
theorem dX6_seesBy_11 : decode cX6_seesBy 11 = .ok (.iconst 1, 1) := by decide +kernel
theorem dX6_seesBy_12 : decode cX6_seesBy 12 = .ok (.iaload, 1) := by decide +kernel
theorem dX6_seesBy_13 : decode cX6_seesBy 13 = .ok (.if_icmp .ge 37, 3) := by decide +kernel
theorem dX6_seesBy_16 : decode cX6_seesBy 16 = .ok (.iload_n 3, 1) := by decide +kernel
theorem dX6_seesBy_17 : decode cX6_seesBy 17 = .ok (.iload 4, 2) := by decide +kernel
theorem dX6_seesBy_19 : decode cX6_seesBy 19 = .ok (.iload_n 1, 1) := by decide +kernel
theorem dX6_seesBy_20 : decode cX6_seesBy 20 = .ok (.if_icmp .eq 21, 3) := by decide +kernel
theorem dX6_seesBy_23 : decode cX6_seesBy 23 = .ok (.aload_n 0, 1) := by decide +kernel
theorem dX6_seesBy_24 : decode cX6_seesBy 24 = .ok (.iload_n 1, 1) := by decide +kernel
theorem dX6_seesBy_25 : decode cX6_seesBy 25 = .ok (.iload 4, 2) := by decide +kernel
theorem dX6_seesBy_27 : decode cX6_seesBy 27 = .ok (.invokevirtual 57, 3) := by decide +kernel
theorem dX6_seesBy_30 : decode cX6_seesBy 30 = .ok (.iload_n 2, 1) := by decide +kernel
theorem dX6_seesBy_31 : decode cX6_seesBy 31 = .ok (.if_icmp .lt 10, 3) := by decide +kernel
theorem dX6_seesBy_34 : decode cX6_seesBy 34 = .ok (.iconst 1, 1) := by decide +kernel
theorem dX6_seesBy_35 : decode cX6_seesBy 35 = .ok (.iload 4, 2) := by decide +kernel
theorem dX6_seesBy_37 : decode cX6_seesBy 37 = .ok (.ishl, 1) := by decide +kernel
theorem dX6_seesBy_38 : decode cX6_seesBy 38 = .ok (.goto 4, 3) := by decide +kernel
theorem dX6_seesBy_41 : decode cX6_seesBy 41 = .ok (.iconst 0, 1) := by decide +kernel
theorem dX6_seesBy_42 : decode cX6_seesBy 42 = .ok (.ior, 1) := by decide +kernel
theorem dX6_seesBy_43 : decode cX6_seesBy 43 = .ok (.istore_n 3, 1) := by decide +kernel
theorem dX6_seesBy_44 : decode cX6_seesBy 44 = .ok (.iinc 4 1, 3) := by decide +kernel
theorem dX6_seesBy_47 : decode cX6_seesBy 47 = .ok (.goto (-42), 3) := by decide +kernel
theorem dX6_seesBy_50 : decode cX6_seesBy 50 = .ok (.iload_n 3, 1) := by decide +kernel
theorem dX6_seesBy_51 : decode cX6_seesBy 51 = .ok (.ireturn, 1) := by decide +kernel
theorem dX6_sees_0 : decode cX6_sees 0 = .ok (.aload_n 0, 1) := by decide +kernel
theorem dX6_sees_1 : decode cX6_sees 1 = .ok (.iload_n 1, 1) := by decide +kernel
theorem dX6_sees_2 : decode cX6_sees 2 = .ok (.invokevirtual 45, 3) := by decide +kernel
theorem dX6_sees_5 : decode cX6_sees 5 = .ok (.ifCond .eq 24, 3) := by decide +kernel
theorem dX6_sees_8 : decode cX6_sees 8 = .ok (.iload_n 2, 1) := by decide +kernel
theorem dX6_sees_9 : decode cX6_sees 9 = .ok (.i2l, 1) := by decide +kernel
theorem dX6_sees_10 : decode cX6_sees 10 = .ok (.iconst 0, 1) := by decide +kernel
theorem dX6_sees_11 : decode cX6_sees 11 = .ok (.sipush 198, 3) := by decide +kernel
theorem dX6_sees_14 : decode cX6_sees 14 = .ok (.invokestatic 41, 3) := by decide +kernel
theorem dX6_sees_17 : decode cX6_sees 17 = .ok (.ifCond .eq 12, 3) := by decide +kernel
theorem dX6_sees_20 : decode cX6_sees 20 = .ok (.aload_n 0, 1) := by decide +kernel
theorem dX6_sees_21 : decode cX6_sees 21 = .ok (.iload_n 1, 1) := by decide +kernel
theorem dX6_sees_22 : decode cX6_sees 22 = .ok (.iload_n 2, 1) := by decide +kernel
theorem dX6_sees_23 : decode cX6_sees 23 = .ok (.invokevirtual 99, 3) := by decide +kernel
theorem dX6_sees_26 : decode cX6_sees 26 = .ok (.goto 9, 3) := by decide +kernel
theorem dX6_sees_29 : decode cX6_sees 29 = .ok (.aload_n 0, 1) := by decide +kernel
theorem dX6_sees_30 : decode cX6_sees 30 = .ok (.ldc 35, 2) := by decide +kernel
theorem dX6_sees_32 : decode cX6_sees 32 = .ok (.invokevirtual 37, 3) := by decide +kernel
theorem dX6_sees_35 : decode cX6_sees 35 = .ok (.ireturn, 1) := by decide +kernel
theorem dX6_goes_0 : decode cX6_goes 0 = .ok (.iconst 0, 1) := by decide +kernel
theorem dX6_goes_1 : decode cX6_goes 1 = .ok (.istore_n 1, 1) := by decide +kernel
theorem dX6_goes_2 : decode cX6_goes 2 = .ok (.iload_n 1, 1) := by decide +kernel
theorem dX6_goes_3 : decode cX6_goes 3 = .ok (.aload_n 0, 1) := by decide +kernel
theorem dX6_goes_4 : decode cX6_goes 4 = .ok (.getfield 9, 3) := by decide +kernel
theorem dX6_goes_7 : decode cX6_goes 7 = .ok (.iconst 1, 1) := by decide +kernel
theorem dX6_goes_8 : decode cX6_goes 8 = .ok (.iaload, 1) := by decide +kernel
theorem dX6_goes_9 : decode cX6_goes 9 = .ok (.if_icmp .ge 99, 3) := by decide +kernel
theorem dX6_goes_12 : decode cX6_goes 12 = .ok (.aload_n 0, 1) := by decide +kernel
theorem dX6_goes_13 : decode cX6_goes 13 = .ok (.iload_n 1, 1) := by decide +kernel
theorem dX6_goes_14 : decode cX6_goes 14 = .ok (.iconst 1, 1) := by decide +kernel
theorem dX6_goes_15 : decode cX6_goes 15 = .ok (.aload_n 0, 1) := by decide +kernel
theorem dX6_goes_16 : decode cX6_goes 16 = .ok (.iload_n 1, 1) := by decide +kernel
theorem dX6_goes_17 : decode cX6_goes 17 = .ok (.iconst 1, 1) := by decide +kernel
theorem dX6_goes_18 : decode cX6_goes 18 = .ok (.invokevirtual 49, 3) := by decide +kernel
theorem dX6_goes_21 : decode cX6_goes 21 = .ok (.aload_n 0, 1) := by decide +kernel
theorem dX6_goes_22 : decode cX6_goes 22 = .ok (.iload_n 1, 1) := by decide +kernel
theorem dX6_goes_23 : decode cX6_goes 23 = .ok (.invokevirtual 77, 3) := by decide +kernel
theorem dX6_goes_26 : decode cX6_goes 26 = .ok (.iadd, 1) := by decide +kernel
theorem dX6_goes_27 : decode cX6_goes 27 = .ok (.aload_n 0, 1) := by decide +kernel
theorem dX6_goes_28 : decode cX6_goes 28 = .ok (.iload_n 1, 1) := by decide +kernel
theorem dX6_goes_29 : decode cX6_goes 29 = .ok (.invokevirtual 74, 3) := by decide +kernel
theorem dX6_goes_32 : decode cX6_goes 32 = .ok (.isub, 1) := by decide +kernel
theorem dX6_goes_33 : decode cX6_goes 33 = .ok (.iconst 0, 1) := by decide +kernel
theorem dX6_goes_34 : decode cX6_goes 34 = .ok (.bipush 99, 2) := by decide +kernel
theorem dX6_goes_36 : decode cX6_goes 36 = .ok (.invokestatic 53, 3) := by decide +kernel
theorem dX6_goes_39 : decode cX6_goes 39 = .ok (.invokevirtual 63, 3) := by decide +kernel
theorem dX6_goes_42 : decode cX6_goes 42 = .ok (.aload_n 0, 1) := by decide +kernel
theorem dX6_goes_43 : decode cX6_goes 43 = .ok (.iload_n 1, 1) := by decide +kernel
theorem dX6_goes_44 : decode cX6_goes 44 = .ok (.iconst 3, 1) := by decide +kernel
theorem dX6_goes_45 : decode cX6_goes 45 = .ok (.invokevirtual 49, 3) := by decide +kernel
theorem dX6_goes_48 : decode cX6_goes 48 = .ok (.ifCond .ne 22, 3) := by decide +kernel
theorem dX6_goes_51 : decode cX6_goes 51 = .ok (.aload_n 0, 1) := by decide +kernel
theorem dX6_goes_52 : decode cX6_goes 52 = .ok (.iload_n 1, 1) := by decide +kernel
theorem dX6_goes_53 : decode cX6_goes 53 = .ok (.iconst 1, 1) := by decide +kernel
theorem dX6_goes_54 : decode cX6_goes 54 = .ok (.invokevirtual 49, 3) := by decide +kernel
theorem dX6_goes_57 : decode cX6_goes 57 = .ok (.aload_n 0, 1) := by decide +kernel
theorem dX6_goes_58 : decode cX6_goes 58 = .ok (.iload_n 1, 1) := by decide +kernel
theorem dX6_goes_59 : decode cX6_goes 59 = .ok (.iconst 5, 1) := by decide +kernel
theorem dX6_goes_60 : decode cX6_goes 60 = .ok (.invokevirtual 49, 3) := by decide +kernel
theorem dX6_goes_63 : decode cX6_goes 63 = .ok (.if_icmp .ge 7, 3) := by decide +kernel
theorem dX6_goes_66 : decode cX6_goes 66 = .ok (.iconst 1, 1) := by decide +kernel
theorem dX6_goes_67 : decode cX6_goes 67 = .ok (.goto 4, 3) := by decide +kernel
theorem dX6_goes_70 : decode cX6_goes 70 = .ok (.iconst 0, 1) := by decide +kernel
theorem dX6_goes_71 : decode cX6_goes 71 = .ok (.istore_n 2, 1) := by decide +kernel
theorem dX6_goes_72 : decode cX6_goes 72 = .ok (.aload_n 0, 1) := by decide +kernel
theorem dX6_goes_73 : decode cX6_goes 73 = .ok (.iload_n 1, 1) := by decide +kernel
theorem dX6_goes_74 : decode cX6_goes 74 = .ok (.bipush 6, 2) := by decide +kernel
theorem dX6_goes_76 : decode cX6_goes 76 = .ok (.aload_n 0, 1) := by decide +kernel
theorem dX6_goes_77 : decode cX6_goes 77 = .ok (.iload_n 1, 1) := by decide +kernel
theorem dX6_goes_78 : decode cX6_goes 78 = .ok (.bipush 6, 2) := by decide +kernel
theorem dX6_goes_80 : decode cX6_goes 80 = .ok (.invokevirtual 49, 3) := by decide +kernel
theorem dX6_goes_83 : decode cX6_goes 83 = .ok (.iload_n 2, 1) := by decide +kernel
theorem dX6_goes_84 : decode cX6_goes 84 = .ok (.ifCond .eq 7, 3) := by decide +kernel
theorem dX6_goes_87 : decode cX6_goes 87 = .ok (.iconst 1, 1) := by decide +kernel
theorem dX6_goes_88 : decode cX6_goes 88 = .ok (.goto 4, 3) := by decide +kernel
theorem dX6_goes_91 : decode cX6_goes 91 = .ok (.iconst 0, 1) := by decide +kernel
theorem dX6_goes_92 : decode cX6_goes 92 = .ok (.iadd, 1) := by decide +kernel
theorem dX6_goes_93 : decode cX6_goes 93 = .ok (.iconst 0, 1) := by decide +kernel
theorem dX6_goes_94 : decode cX6_goes 94 = .ok (.bipush 99, 2) := by decide +kernel
theorem dX6_goes_96 : decode cX6_goes 96 = .ok (.invokestatic 53, 3) := by decide +kernel
theorem dX6_goes_99 : decode cX6_goes 99 = .ok (.invokevirtual 63, 3) := by decide +kernel
theorem dX6_goes_102 : decode cX6_goes 102 = .ok (.iinc 1 1, 3) := by decide +kernel
theorem dX6_goes_105 : decode cX6_goes 105 = .ok (.goto (-103), 3) := by decide +kernel
theorem dX6_goes_108 : decode cX6_goes 108 = .ok (.aload_n 0, 1) := by decide +kernel
theorem dX6_goes_109 : decode cX6_goes 109 = .ok (.getfield 9, 3) := by decide +kernel
theorem dX6_goes_112 : decode cX6_goes 112 = .ok (.iconst 0, 1) := by decide +kernel
theorem dX6_goes_113 : decode cX6_goes 113 = .ok (.dup2, 1) := by decide +kernel
theorem dX6_goes_114 : decode cX6_goes 114 = .ok (.iaload, 1) := by decide +kernel
theorem dX6_goes_115 : decode cX6_goes 115 = .ok (.iconst 1, 1) := by decide +kernel
theorem dX6_goes_116 : decode cX6_goes 116 = .ok (.iadd, 1) := by decide +kernel
theorem dX6_goes_117 : decode cX6_goes 117 = .ok (.iastore, 1) := by decide +kernel
theorem dX6_goes_118 : decode cX6_goes 118 = .ok (.return_, 1) := by decide +kernel
theorem dX6_goesFor_0 : decode cX6_goesFor 0 = .ok (.iconst 0, 1) := by decide +kernel
theorem dX6_goesFor_1 : decode cX6_goesFor 1 = .ok (.istore_n 2, 1) := by decide +kernel
theorem dX6_goesFor_2 : decode cX6_goesFor 2 = .ok (.iload_n 2, 1) := by decide +kernel
theorem dX6_goesFor_3 : decode cX6_goesFor 3 = .ok (.iload_n 1, 1) := by decide +kernel
theorem dX6_goesFor_4 : decode cX6_goesFor 4 = .ok (.if_icmp .ge 13, 3) := by decide +kernel
theorem dX6_goesFor_7 : decode cX6_goesFor 7 = .ok (.aload_n 0, 1) := by decide +kernel
theorem dX6_goesFor_8 : decode cX6_goesFor 8 = .ok (.invokevirtual 102, 3) := by decide +kernel
theorem dX6_goesFor_11 : decode cX6_goesFor 11 = .ok (.iinc 2 1, 3) := by decide +kernel
theorem dX6_goesFor_14 : decode cX6_goesFor 14 = .ok (.goto (-12), 3) := by decide +kernel
theorem dX6_goesFor_17 : decode cX6_goesFor 17 = .ok (.return_, 1) := by decide +kernel
theorem dX6_sums_0 : decode cX6_sums 0 = .ok (.iconst 0, 1) := by decide +kernel
theorem dX6_sums_1 : decode cX6_sums 1 = .ok (.istore_n 2, 1) := by decide +kernel
theorem dX6_sums_2 : decode cX6_sums 2 = .ok (.iconst 0, 1) := by decide +kernel
theorem dX6_sums_3 : decode cX6_sums 3 = .ok (.istore_n 3, 1) := by decide +kernel
theorem dX6_sums_4 : decode cX6_sums 4 = .ok (.iload_n 3, 1) := by decide +kernel
theorem dX6_sums_5 : decode cX6_sums 5 = .ok (.aload_n 0, 1) := by decide +kernel
theorem dX6_sums_6 : decode cX6_sums 6 = .ok (.getfield 9, 3) := by decide +kernel
theorem dX6_sums_9 : decode cX6_sums 9 = .ok (.iconst 1, 1) := by decide +kernel
theorem dX6_sums_10 : decode cX6_sums 10 = .ok (.iaload, 1) := by decide +kernel
theorem dX6_sums_11 : decode cX6_sums 11 = .ok (.if_icmp .ge 18, 3) := by decide +kernel
theorem dX6_sums_14 : decode cX6_sums 14 = .ok (.iload_n 2, 1) := by decide +kernel
theorem dX6_sums_15 : decode cX6_sums 15 = .ok (.aload_n 0, 1) := by decide +kernel
theorem dX6_sums_16 : decode cX6_sums 16 = .ok (.iload_n 3, 1) := by decide +kernel
theorem dX6_sums_17 : decode cX6_sums 17 = .ok (.iload_n 1, 1) := by decide +kernel
theorem dX6_sums_18 : decode cX6_sums 18 = .ok (.invokevirtual 49, 3) := by decide +kernel
theorem dX6_sums_21 : decode cX6_sums 21 = .ok (.iadd, 1) := by decide +kernel
theorem dX6_sums_22 : decode cX6_sums 22 = .ok (.istore_n 2, 1) := by decide +kernel
theorem dX6_sums_23 : decode cX6_sums 23 = .ok (.iinc 3 1, 3) := by decide +kernel
theorem dX6_sums_26 : decode cX6_sums 26 = .ok (.goto (-22), 3) := by decide +kernel
theorem dX6_sums_29 : decode cX6_sums 29 = .ok (.iload_n 2, 1) := by decide +kernel
theorem dX6_sums_30 : decode cX6_sums 30 = .ok (.ireturn, 1) := by decide +kernel
theorem dX6_days_0 : decode cX6_days 0 = .ok (.iload_n 1, 1) := by decide +kernel
theorem dX6_days_1 : decode cX6_days 1 = .ok (.i2l, 1) := by decide +kernel
theorem dX6_days_2 : decode cX6_days 2 = .ok (.iconst 1, 1) := by decide +kernel
theorem dX6_days_3 : decode cX6_days 3 = .ok (.bipush 100, 2) := by decide +kernel
theorem dX6_days_5 : decode cX6_days 5 = .ok (.invokestatic 41, 3) := by decide +kernel
theorem dX6_days_8 : decode cX6_days 8 = .ok (.ifCond .ne 10, 3) := by decide +kernel
theorem dX6_days_11 : decode cX6_days 11 = .ok (.aload_n 0, 1) := by decide +kernel
theorem dX6_days_12 : decode cX6_days 12 = .ok (.ldc 35, 2) := by decide +kernel
theorem dX6_days_14 : decode cX6_days 14 = .ok (.invokevirtual 37, 3) := by decide +kernel
theorem dX6_days_17 : decode cX6_days 17 = .ok (.ireturn, 1) := by decide +kernel
theorem dX6_days_18 : decode cX6_days 18 = .ok (.aload_n 0, 1) := by decide +kernel
theorem dX6_days_19 : decode cX6_days 19 = .ok (.getfield 9, 3) := by decide +kernel
theorem dX6_days_22 : decode cX6_days 22 = .ok (.iconst 0, 1) := by decide +kernel
theorem dX6_days_23 : decode cX6_days 23 = .ok (.iaload, 1) := by decide +kernel
theorem dX6_days_24 : decode cX6_days 24 = .ok (.iload_n 1, 1) := by decide +kernel
theorem dX6_days_25 : decode cX6_days 25 = .ok (.iadd, 1) := by decide +kernel
theorem dX6_days_26 : decode cX6_days 26 = .ok (.sipush 9999, 3) := by decide +kernel
theorem dX6_days_29 : decode cX6_days 29 = .ok (.if_icmp .le 10, 3) := by decide +kernel
theorem dX6_days_32 : decode cX6_days 32 = .ok (.aload_n 0, 1) := by decide +kernel
theorem dX6_days_33 : decode cX6_days 33 = .ok (.ldc 88, 2) := by decide +kernel
theorem dX6_days_35 : decode cX6_days 35 = .ok (.invokevirtual 37, 3) := by decide +kernel
theorem dX6_days_38 : decode cX6_days 38 = .ok (.ireturn, 1) := by decide +kernel
theorem dX6_days_39 : decode cX6_days 39 = .ok (.aload_n 0, 1) := by decide +kernel
theorem dX6_days_40 : decode cX6_days 40 = .ok (.iload_n 1, 1) := by decide +kernel
theorem dX6_days_41 : decode cX6_days 41 = .ok (.invokevirtual 105, 3) := by decide +kernel
theorem dX6_days_44 : decode cX6_days 44 = .ok (.aload_n 0, 1) := by decide +kernel
theorem dX6_days_45 : decode cX6_days 45 = .ok (.iconst 1, 1) := by decide +kernel
theorem dX6_days_46 : decode cX6_days 46 = .ok (.invokevirtual 109, 3) := by decide +kernel
theorem dX6_days_49 : decode cX6_days 49 = .ok (.ireturn, 1) := by decide +kernel
theorem dX6_seen_0 : decode cX6_seen 0 = .ok (.iconst 0, 1) := by decide +kernel
theorem dX6_seen_1 : decode cX6_seen 1 = .ok (.istore_n 1, 1) := by decide +kernel
theorem dX6_seen_2 : decode cX6_seen 2 = .ok (.iconst 0, 1) := by decide +kernel
theorem dX6_seen_3 : decode cX6_seen 3 = .ok (.istore_n 2, 1) := by decide +kernel
theorem dX6_seen_4 : decode cX6_seen 4 = .ok (.iload_n 2, 1) := by decide +kernel
theorem dX6_seen_5 : decode cX6_seen 5 = .ok (.aload_n 0, 1) := by decide +kernel
theorem dX6_seen_6 : decode cX6_seen 6 = .ok (.getfield 9, 3) := by decide +kernel
theorem dX6_seen_9 : decode cX6_seen 9 = .ok (.iconst 1, 1) := by decide +kernel
theorem dX6_seen_10 : decode cX6_seen 10 = .ok (.iaload, 1) := by decide +kernel
theorem dX6_seen_11 : decode cX6_seen 11 = .ok (.if_icmp .ge 19, 3) := by decide +kernel
theorem dX6_seen_14 : decode cX6_seen 14 = .ok (.iload_n 1, 1) := by decide +kernel
theorem dX6_seen_15 : decode cX6_seen 15 = .ok (.aload_n 0, 1) := by decide +kernel
theorem dX6_seen_16 : decode cX6_seen 16 = .ok (.iload_n 2, 1) := by decide +kernel
theorem dX6_seen_17 : decode cX6_seen 17 = .ok (.bipush 30, 2) := by decide +kernel
theorem dX6_seen_19 : decode cX6_seen 19 = .ok (.invokevirtual 99, 3) := by decide +kernel
theorem dX6_seen_22 : decode cX6_seen 22 = .ok (.ior, 1) := by decide +kernel
theorem dX6_seen_23 : decode cX6_seen 23 = .ok (.istore_n 1, 1) := by decide +kernel
theorem dX6_seen_24 : decode cX6_seen 24 = .ok (.iinc 2 1, 3) := by decide +kernel
theorem dX6_seen_27 : decode cX6_seen 27 = .ok (.goto (-23), 3) := by decide +kernel
theorem dX6_seen_30 : decode cX6_seen 30 = .ok (.iload_n 1, 1) := by decide +kernel
theorem dX6_seen_31 : decode cX6_seen 31 = .ok (.ireturn, 1) := by decide +kernel
theorem dX6_thoseWith_0 : decode cX6_thoseWith 0 = .ok (.iconst 0, 1) := by decide +kernel
theorem dX6_thoseWith_1 : decode cX6_thoseWith 1 = .ok (.istore_n 3, 1) := by decide +kernel
theorem dX6_thoseWith_2 : decode cX6_thoseWith 2 = .ok (.iconst 0, 1) := by decide +kernel
theorem dX6_thoseWith_3 : decode cX6_thoseWith 3 = .ok (.istore 4, 2) := by decide +kernel
theorem dX6_thoseWith_5 : decode cX6_thoseWith 5 = .ok (.iload 4, 2) := by decide +kernel
theorem dX6_thoseWith_7 : decode cX6_thoseWith 7 = .ok (.aload_n 0, 1) := by decide +kernel
theorem dX6_thoseWith_8 : decode cX6_thoseWith 8 = .ok (.getfield 9, 3) := by decide +kernel
theorem dX6_thoseWith_11 : decode cX6_thoseWith 11 = .ok (.iconst 1, 1) := by decide +kernel
theorem dX6_thoseWith_12 : decode cX6_thoseWith 12 = .ok (.iaload, 1) := by decide +kernel
theorem dX6_thoseWith_13 : decode cX6_thoseWith 13 = .ok (.if_icmp .ge 31, 3) := by decide +kernel
theorem dX6_thoseWith_16 : decode cX6_thoseWith 16 = .ok (.iload_n 3, 1) := by decide +kernel
theorem dX6_thoseWith_17 : decode cX6_thoseWith 17 = .ok (.aload_n 0, 1) := by decide +kernel
theorem dX6_thoseWith_18 : decode cX6_thoseWith 18 = .ok (.iload 4, 2) := by decide +kernel
theorem dX6_thoseWith_20 : decode cX6_thoseWith 20 = .ok (.iload_n 1, 1) := by decide +kernel
theorem dX6_thoseWith_21 : decode cX6_thoseWith 21 = .ok (.invokevirtual 49, 3) := by decide +kernel
theorem dX6_thoseWith_24 : decode cX6_thoseWith 24 = .ok (.iload_n 2, 1) := by decide +kernel
theorem dX6_thoseWith_25 : decode cX6_thoseWith 25 = .ok (.if_icmp .ne 10, 3) := by decide +kernel
theorem dX6_thoseWith_28 : decode cX6_thoseWith 28 = .ok (.iconst 1, 1) := by decide +kernel
theorem dX6_thoseWith_29 : decode cX6_thoseWith 29 = .ok (.iload 4, 2) := by decide +kernel
theorem dX6_thoseWith_31 : decode cX6_thoseWith 31 = .ok (.ishl, 1) := by decide +kernel
theorem dX6_thoseWith_32 : decode cX6_thoseWith 32 = .ok (.goto 4, 3) := by decide +kernel
theorem dX6_thoseWith_35 : decode cX6_thoseWith 35 = .ok (.iconst 0, 1) := by decide +kernel
theorem dX6_thoseWith_36 : decode cX6_thoseWith 36 = .ok (.ior, 1) := by decide +kernel
theorem dX6_thoseWith_37 : decode cX6_thoseWith 37 = .ok (.istore_n 3, 1) := by decide +kernel
theorem dX6_thoseWith_38 : decode cX6_thoseWith 38 = .ok (.iinc 4 1, 3) := by decide +kernel
theorem dX6_thoseWith_41 : decode cX6_thoseWith 41 = .ok (.goto (-36), 3) := by decide +kernel
theorem dX6_thoseWith_44 : decode cX6_thoseWith 44 = .ok (.iload_n 3, 1) := by decide +kernel
theorem dX6_thoseWith_45 : decode cX6_thoseWith 45 = .ok (.ireturn, 1) := by decide +kernel
theorem dX6_now_0 : decode cX6_now 0 = .ok (.iload_n 1, 1) := by decide +kernel
theorem dX6_now_1 : decode cX6_now 1 = .ok (.tableswitch 67 0 4 #[35, 42, 48, 55, 60], 35) := by decide +kernel
theorem dX6_now_36 : decode cX6_now 36 = .ok (.aload_n 0, 1) := by decide +kernel
theorem dX6_now_37 : decode cX6_now 37 = .ok (.getfield 9, 3) := by decide +kernel
theorem dX6_now_40 : decode cX6_now 40 = .ok (.iconst 0, 1) := by decide +kernel
theorem dX6_now_41 : decode cX6_now 41 = .ok (.iaload, 1) := by decide +kernel
theorem dX6_now_42 : decode cX6_now 42 = .ok (.ireturn, 1) := by decide +kernel
theorem dX6_now_43 : decode cX6_now 43 = .ok (.aload_n 0, 1) := by decide +kernel
theorem dX6_now_44 : decode cX6_now 44 = .ok (.iconst 1, 1) := by decide +kernel
theorem dX6_now_45 : decode cX6_now 45 = .ok (.invokevirtual 109, 3) := by decide +kernel
theorem dX6_now_48 : decode cX6_now 48 = .ok (.ireturn, 1) := by decide +kernel
theorem dX6_now_49 : decode cX6_now 49 = .ok (.aload_n 0, 1) := by decide +kernel
theorem dX6_now_50 : decode cX6_now 50 = .ok (.iconst 1, 1) := by decide +kernel
theorem dX6_now_51 : decode cX6_now 51 = .ok (.iconst 0, 1) := by decide +kernel
theorem dX6_now_52 : decode cX6_now 52 = .ok (.invokevirtual 112, 3) := by decide +kernel
theorem dX6_now_55 : decode cX6_now 55 = .ok (.ireturn, 1) := by decide +kernel
theorem dX6_now_56 : decode cX6_now 56 = .ok (.aload_n 0, 1) := by decide +kernel
theorem dX6_now_57 : decode cX6_now 57 = .ok (.invokevirtual 115, 3) := by decide +kernel
theorem dX6_now_60 : decode cX6_now 60 = .ok (.ireturn, 1) := by decide +kernel
theorem dX6_now_61 : decode cX6_now 61 = .ok (.aload_n 0, 1) := by decide +kernel
theorem dX6_now_62 : decode cX6_now 62 = .ok (.iconst 3, 1) := by decide +kernel
theorem dX6_now_63 : decode cX6_now 63 = .ok (.iconst 1, 1) := by decide +kernel
theorem dX6_now_64 : decode cX6_now 64 = .ok (.invokevirtual 112, 3) := by decide +kernel
theorem dX6_now_67 : decode cX6_now 67 = .ok (.ireturn, 1) := by decide +kernel
theorem dX6_now_68 : decode cX6_now 68 = .ok (.aload_n 0, 1) := by decide +kernel
theorem dX6_now_69 : decode cX6_now 69 = .ok (.ldc 35, 2) := by decide +kernel
theorem dX6_now_71 : decode cX6_now 71 = .ok (.invokevirtual 37, 3) := by decide +kernel
theorem dX6_now_74 : decode cX6_now 74 = .ok (.ireturn, 1) := by decide +kernel
theorem dX6_thinks_0 : decode cX6_thinks 0 = .ok (.aload_n 0, 1) := by decide +kernel
theorem dX6_thinks_1 : decode cX6_thinks 1 = .ok (.getfield 9, 3) := by decide +kernel
theorem dX6_thinks_4 : decode cX6_thinks 4 = .ok (.aload_n 0, 1) := by decide +kernel
theorem dX6_thinks_5 : decode cX6_thinks 5 = .ok (.getfield 16, 3) := by decide +kernel
theorem dX6_thinks_8 : decode cX6_thinks 8 = .ok (.invokestatic 119, 3) := by decide +kernel
theorem dX6_thinks_11 : decode cX6_thinks 11 = .ok (.return_, 1) := by decide +kernel
theorem dX6_putsBack_0 : decode cX6_putsBack 0 = .ok (.aload_n 0, 1) := by decide +kernel
theorem dX6_putsBack_1 : decode cX6_putsBack 1 = .ok (.getfield 16, 3) := by decide +kernel
theorem dX6_putsBack_4 : decode cX6_putsBack 4 = .ok (.aload_n 0, 1) := by decide +kernel
theorem dX6_putsBack_5 : decode cX6_putsBack 5 = .ok (.getfield 9, 3) := by decide +kernel
theorem dX6_putsBack_8 : decode cX6_putsBack 8 = .ok (.invokestatic 119, 3) := by decide +kernel
theorem dX6_putsBack_11 : decode cX6_putsBack 11 = .ok (.return_, 1) := by decide +kernel
theorem dX6_on_0 : decode cX6_on 0 = .ok (.aload_n 0, 1) := by decide +kernel
theorem dX6_on_1 : decode cX6_on 1 = .ok (.iload_n 1, 1) := by decide +kernel
theorem dX6_on_2 : decode cX6_on 2 = .ok (.invokevirtual 45, 3) := by decide +kernel
theorem dX6_on_5 : decode cX6_on 5 = .ok (.ifCond .eq 25, 3) := by decide +kernel
theorem dX6_on_8 : decode cX6_on 8 = .ok (.iload_n 2, 1) := by decide +kernel
theorem dX6_on_9 : decode cX6_on 9 = .ok (.i2l, 1) := by decide +kernel
theorem dX6_on_10 : decode cX6_on 10 = .ok (.iconst 0, 1) := by decide +kernel
theorem dX6_on_11 : decode cX6_on 11 = .ok (.sipush 200, 3) := by decide +kernel
theorem dX6_on_14 : decode cX6_on 14 = .ok (.invokestatic 41, 3) := by decide +kernel
theorem dX6_on_17 : decode cX6_on 17 = .ok (.ifCond .eq 13, 3) := by decide +kernel
theorem dX6_on_20 : decode cX6_on 20 = .ok (.iload_n 3, 1) := by decide +kernel
theorem dX6_on_21 : decode cX6_on 21 = .ok (.i2l, 1) := by decide +kernel
theorem dX6_on_22 : decode cX6_on 22 = .ok (.iconst 0, 1) := by decide +kernel
theorem dX6_on_23 : decode cX6_on 23 = .ok (.iconst 1, 1) := by decide +kernel
theorem dX6_on_24 : decode cX6_on 24 = .ok (.invokestatic 41, 3) := by decide +kernel
theorem dX6_on_27 : decode cX6_on 27 = .ok (.ifCond .ne 10, 3) := by decide +kernel
theorem dX6_on_30 : decode cX6_on 30 = .ok (.aload_n 0, 1) := by decide +kernel
theorem dX6_on_31 : decode cX6_on 31 = .ok (.ldc 35, 2) := by decide +kernel
theorem dX6_on_33 : decode cX6_on 33 = .ok (.invokevirtual 37, 3) := by decide +kernel
theorem dX6_on_36 : decode cX6_on 36 = .ok (.ireturn, 1) := by decide +kernel
theorem dX6_on_37 : decode cX6_on 37 = .ok (.aload_n 0, 1) := by decide +kernel
theorem dX6_on_38 : decode cX6_on 38 = .ok (.invokevirtual 123, 3) := by decide +kernel
theorem dX6_on_41 : decode cX6_on 41 = .ok (.aload_n 0, 1) := by decide +kernel
theorem dX6_on_42 : decode cX6_on 42 = .ok (.iload_n 2, 1) := by decide +kernel
theorem dX6_on_43 : decode cX6_on 43 = .ok (.invokevirtual 105, 3) := by decide +kernel
theorem dX6_on_46 : decode cX6_on 46 = .ok (.aload_n 0, 1) := by decide +kernel
theorem dX6_on_47 : decode cX6_on 47 = .ok (.iload_n 1, 1) := by decide +kernel
theorem dX6_on_48 : decode cX6_on 48 = .ok (.iload_n 3, 1) := by decide +kernel
theorem dX6_on_49 : decode cX6_on 49 = .ok (.ifCond .ne 7, 3) := by decide +kernel
theorem dX6_on_52 : decode cX6_on 52 = .ok (.iconst 1, 1) := by decide +kernel
theorem dX6_on_53 : decode cX6_on 53 = .ok (.goto 5, 3) := by decide +kernel
theorem dX6_on_56 : decode cX6_on 56 = .ok (.bipush 6, 2) := by decide +kernel
theorem dX6_on_58 : decode cX6_on 58 = .ok (.invokevirtual 49, 3) := by decide +kernel
theorem dX6_on_61 : decode cX6_on 61 = .ok (.istore 4, 2) := by decide +kernel
theorem dX6_on_63 : decode cX6_on 63 = .ok (.aload_n 0, 1) := by decide +kernel
theorem dX6_on_64 : decode cX6_on 64 = .ok (.invokevirtual 126, 3) := by decide +kernel
theorem dX6_on_67 : decode cX6_on 67 = .ok (.iload 4, 2) := by decide +kernel
theorem dX6_on_69 : decode cX6_on 69 = .ok (.ireturn, 1) := by decide +kernel
theorem dX6_then_0 : decode cX6_then 0 = .ok (.aload_n 0, 1) := by decide +kernel
theorem dX6_then_1 : decode cX6_then 1 = .ok (.iload_n 1, 1) := by decide +kernel
theorem dX6_then_2 : decode cX6_then 2 = .ok (.iload_n 2, 1) := by decide +kernel
theorem dX6_then_3 : decode cX6_then 3 = .ok (.invokevirtual 92, 3) := by decide +kernel
theorem dX6_then_6 : decode cX6_then 6 = .ok (.ifCond .eq 15, 3) := by decide +kernel
theorem dX6_then_9 : decode cX6_then 9 = .ok (.iload_n 3, 1) := by decide +kernel
theorem dX6_then_10 : decode cX6_then 10 = .ok (.i2l, 1) := by decide +kernel
theorem dX6_then_11 : decode cX6_then 11 = .ok (.iconst 0, 1) := by decide +kernel
theorem dX6_then_12 : decode cX6_then 12 = .ok (.sipush 200, 3) := by decide +kernel
theorem dX6_then_15 : decode cX6_then 15 = .ok (.invokestatic 41, 3) := by decide +kernel
theorem dX6_then_18 : decode cX6_then 18 = .ok (.ifCond .ne 10, 3) := by decide +kernel
theorem dX6_then_21 : decode cX6_then 21 = .ok (.aload_n 0, 1) := by decide +kernel
theorem dX6_then_22 : decode cX6_then 22 = .ok (.ldc 35, 2) := by decide +kernel
theorem dX6_then_24 : decode cX6_then 24 = .ok (.invokevirtual 37, 3) := by decide +kernel
theorem dX6_then_27 : decode cX6_then 27 = .ok (.ireturn, 1) := by decide +kernel
theorem dX6_then_28 : decode cX6_then 28 = .ok (.aload_n 0, 1) := by decide +kernel
theorem dX6_then_29 : decode cX6_then 29 = .ok (.invokevirtual 123, 3) := by decide +kernel
theorem dX6_then_32 : decode cX6_then 32 = .ok (.aload_n 0, 1) := by decide +kernel
theorem dX6_then_33 : decode cX6_then 33 = .ok (.iload_n 3, 1) := by decide +kernel
theorem dX6_then_34 : decode cX6_then 34 = .ok (.invokevirtual 105, 3) := by decide +kernel
theorem dX6_then_37 : decode cX6_then 37 = .ok (.aload_n 0, 1) := by decide +kernel
theorem dX6_then_38 : decode cX6_then 38 = .ok (.iload_n 1, 1) := by decide +kernel
theorem dX6_then_39 : decode cX6_then 39 = .ok (.iload_n 2, 1) := by decide +kernel
theorem dX6_then_40 : decode cX6_then 40 = .ok (.invokevirtual 57, 3) := by decide +kernel
theorem dX6_then_43 : decode cX6_then 43 = .ok (.istore 4, 2) := by decide +kernel
theorem dX6_then_45 : decode cX6_then 45 = .ok (.aload_n 0, 1) := by decide +kernel
theorem dX6_then_46 : decode cX6_then 46 = .ok (.invokevirtual 126, 3) := by decide +kernel
theorem dX6_then_49 : decode cX6_then 49 = .ok (.iload 4, 2) := by decide +kernel
theorem dX6_then_51 : decode cX6_then 51 = .ok (.ireturn, 1) := by decide +kernel
theorem dX6_easedIn_0 : decode cX6_easedIn 0 = .ok (.iconst 0, 1) := by decide +kernel
theorem dX6_easedIn_1 : decode cX6_easedIn 1 = .ok (.istore_n 2, 1) := by decide +kernel
theorem dX6_easedIn_2 : decode cX6_easedIn 2 = .ok (.iload_n 2, 1) := by decide +kernel
theorem dX6_easedIn_3 : decode cX6_easedIn 3 = .ok (.sipush 200, 3) := by decide +kernel
theorem dX6_easedIn_6 : decode cX6_easedIn 6 = .ok (.if_icmp .gt 22, 3) := by decide +kernel
theorem dX6_easedIn_9 : decode cX6_easedIn 9 = .ok (.aload_n 0, 1) := by decide +kernel
theorem dX6_easedIn_10 : decode cX6_easedIn 10 = .ok (.iload_n 1, 1) := by decide +kernel
theorem dX6_easedIn_11 : decode cX6_easedIn 11 = .ok (.iconst 1, 1) := by decide +kernel
theorem dX6_easedIn_12 : decode cX6_easedIn 12 = .ok (.invokevirtual 49, 3) := by decide +kernel
theorem dX6_easedIn_15 : decode cX6_easedIn 15 = .ok (.ifCond .le 13, 3) := by decide +kernel
theorem dX6_easedIn_18 : decode cX6_easedIn 18 = .ok (.aload_n 0, 1) := by decide +kernel
theorem dX6_easedIn_19 : decode cX6_easedIn 19 = .ok (.invokevirtual 102, 3) := by decide +kernel
theorem dX6_easedIn_22 : decode cX6_easedIn 22 = .ok (.iinc 2 1, 3) := by decide +kernel
theorem dX6_easedIn_25 : decode cX6_easedIn 25 = .ok (.goto (-23), 3) := by decide +kernel
theorem dX6_easedIn_28 : decode cX6_easedIn 28 = .ok (.aload_n 0, 1) := by decide +kernel
theorem dX6_easedIn_29 : decode cX6_easedIn 29 = .ok (.invokevirtual 126, 3) := by decide +kernel
theorem dX6_easedIn_32 : decode cX6_easedIn 32 = .ok (.iload_n 2, 1) := by decide +kernel
theorem dX6_easedIn_33 : decode cX6_easedIn 33 = .ok (.sipush 200, 3) := by decide +kernel
theorem dX6_easedIn_36 : decode cX6_easedIn 36 = .ok (.if_icmp .le 7, 3) := by decide +kernel
theorem dX6_easedIn_39 : decode cX6_easedIn 39 = .ok (.iconst (-1), 1) := by decide +kernel
theorem dX6_easedIn_40 : decode cX6_easedIn 40 = .ok (.goto 4, 3) := by decide +kernel
theorem dX6_easedIn_43 : decode cX6_easedIn 43 = .ok (.iload_n 2, 1) := by decide +kernel
theorem dX6_easedIn_44 : decode cX6_easedIn 44 = .ok (.ireturn, 1) := by decide +kernel
theorem dX6_forgives_0 : decode cX6_forgives 0 = .ok (.aload_n 0, 1) := by decide +kernel
theorem dX6_forgives_1 : decode cX6_forgives 1 = .ok (.iload_n 1, 1) := by decide +kernel
theorem dX6_forgives_2 : decode cX6_forgives 2 = .ok (.invokevirtual 45, 3) := by decide +kernel
theorem dX6_forgives_5 : decode cX6_forgives 5 = .ok (.ifCond .ne 10, 3) := by decide +kernel
theorem dX6_forgives_8 : decode cX6_forgives 8 = .ok (.aload_n 0, 1) := by decide +kernel
theorem dX6_forgives_9 : decode cX6_forgives 9 = .ok (.ldc 35, 2) := by decide +kernel
theorem dX6_forgives_11 : decode cX6_forgives 11 = .ok (.invokevirtual 37, 3) := by decide +kernel
theorem dX6_forgives_14 : decode cX6_forgives 14 = .ok (.ireturn, 1) := by decide +kernel
theorem dX6_forgives_15 : decode cX6_forgives 15 = .ok (.aload_n 0, 1) := by decide +kernel
theorem dX6_forgives_16 : decode cX6_forgives 16 = .ok (.invokevirtual 123, 3) := by decide +kernel
theorem dX6_forgives_19 : decode cX6_forgives 19 = .ok (.aload_n 0, 1) := by decide +kernel
theorem dX6_forgives_20 : decode cX6_forgives 20 = .ok (.aload_n 0, 1) := by decide +kernel
theorem dX6_forgives_21 : decode cX6_forgives 21 = .ok (.iload_n 1, 1) := by decide +kernel
theorem dX6_forgives_22 : decode cX6_forgives 22 = .ok (.invokevirtual 129, 3) := by decide +kernel
theorem dX6_forgives_25 : decode cX6_forgives 25 = .ok (.invokevirtual 132, 3) := by decide +kernel
theorem dX6_forgives_28 : decode cX6_forgives 28 = .ok (.ireturn, 1) := by decide +kernel
theorem dX6_worn_0 : decode cX6_worn 0 = .ok (.aload_n 0, 1) := by decide +kernel
theorem dX6_worn_1 : decode cX6_worn 1 = .ok (.iload_n 1, 1) := by decide +kernel
theorem dX6_worn_2 : decode cX6_worn 2 = .ok (.invokevirtual 45, 3) := by decide +kernel
theorem dX6_worn_5 : decode cX6_worn 5 = .ok (.ifCond .ne 10, 3) := by decide +kernel
theorem dX6_worn_8 : decode cX6_worn 8 = .ok (.aload_n 0, 1) := by decide +kernel
theorem dX6_worn_9 : decode cX6_worn 9 = .ok (.ldc 35, 2) := by decide +kernel
theorem dX6_worn_11 : decode cX6_worn 11 = .ok (.invokevirtual 37, 3) := by decide +kernel
theorem dX6_worn_14 : decode cX6_worn 14 = .ok (.ireturn, 1) := by decide +kernel
theorem dX6_worn_15 : decode cX6_worn 15 = .ok (.aload_n 0, 1) := by decide +kernel
theorem dX6_worn_16 : decode cX6_worn 16 = .ok (.invokevirtual 123, 3) := by decide +kernel
theorem dX6_worn_19 : decode cX6_worn 19 = .ok (.iconst 0, 1) := by decide +kernel
theorem dX6_worn_20 : decode cX6_worn 20 = .ok (.istore_n 2, 1) := by decide +kernel
theorem dX6_worn_21 : decode cX6_worn 21 = .ok (.iload_n 2, 1) := by decide +kernel
theorem dX6_worn_22 : decode cX6_worn 22 = .ok (.sipush 200, 3) := by decide +kernel
theorem dX6_worn_25 : decode cX6_worn 25 = .ok (.if_icmp .gt 29, 3) := by decide +kernel
theorem dX6_worn_28 : decode cX6_worn 28 = .ok (.aload_n 0, 1) := by decide +kernel
theorem dX6_worn_29 : decode cX6_worn 29 = .ok (.iload_n 1, 1) := by decide +kernel
theorem dX6_worn_30 : decode cX6_worn 30 = .ok (.bipush 6, 2) := by decide +kernel
theorem dX6_worn_32 : decode cX6_worn 32 = .ok (.invokevirtual 49, 3) := by decide +kernel
theorem dX6_worn_35 : decode cX6_worn 35 = .ok (.aload_n 0, 1) := by decide +kernel
theorem dX6_worn_36 : decode cX6_worn 36 = .ok (.iload_n 1, 1) := by decide +kernel
theorem dX6_worn_37 : decode cX6_worn 37 = .ok (.iconst 5, 1) := by decide +kernel
theorem dX6_worn_38 : decode cX6_worn 38 = .ok (.invokevirtual 49, 3) := by decide +kernel
theorem dX6_worn_41 : decode cX6_worn 41 = .ok (.if_icmp .ge 13, 3) := by decide +kernel
theorem dX6_worn_44 : decode cX6_worn 44 = .ok (.aload_n 0, 1) := by decide +kernel
theorem dX6_worn_45 : decode cX6_worn 45 = .ok (.invokevirtual 102, 3) := by decide +kernel
theorem dX6_worn_48 : decode cX6_worn 48 = .ok (.iinc 2 1, 3) := by decide +kernel
theorem dX6_worn_51 : decode cX6_worn 51 = .ok (.goto (-30), 3) := by decide +kernel
theorem dX6_worn_54 : decode cX6_worn 54 = .ok (.aload_n 0, 1) := by decide +kernel
theorem dX6_worn_55 : decode cX6_worn 55 = .ok (.invokevirtual 126, 3) := by decide +kernel
theorem dX6_worn_58 : decode cX6_worn 58 = .ok (.iload_n 2, 1) := by decide +kernel
theorem dX6_worn_59 : decode cX6_worn 59 = .ok (.sipush 200, 3) := by decide +kernel
theorem dX6_worn_62 : decode cX6_worn 62 = .ok (.if_icmp .le 12, 3) := by decide +kernel
theorem dX6_worn_65 : decode cX6_worn 65 = .ok (.aload_n 0, 1) := by decide +kernel
theorem dX6_worn_66 : decode cX6_worn 66 = .ok (.ldc 36, 2) := by decide +kernel
theorem dX6_worn_68 : decode cX6_worn 68 = .ok (.invokevirtual 37, 3) := by decide +kernel
theorem dX6_worn_71 : decode cX6_worn 71 = .ok (.goto 4, 3) := by decide +kernel
theorem dX6_worn_74 : decode cX6_worn 74 = .ok (.iload_n 2, 1) := by decide +kernel
theorem dX6_worn_75 : decode cX6_worn 75 = .ok (.ireturn, 1) := by decide +kernel
theorem dX6_unseen_0 : decode cX6_unseen 0 = .ok (.aload_n 0, 1) := by decide +kernel
theorem dX6_unseen_1 : decode cX6_unseen 1 = .ok (.iload_n 1, 1) := by decide +kernel
theorem dX6_unseen_2 : decode cX6_unseen 2 = .ok (.invokevirtual 45, 3) := by decide +kernel
theorem dX6_unseen_5 : decode cX6_unseen 5 = .ok (.ifCond .ne 10, 3) := by decide +kernel
theorem dX6_unseen_8 : decode cX6_unseen 8 = .ok (.aload_n 0, 1) := by decide +kernel
theorem dX6_unseen_9 : decode cX6_unseen 9 = .ok (.ldc 35, 2) := by decide +kernel
theorem dX6_unseen_11 : decode cX6_unseen 11 = .ok (.invokevirtual 37, 3) := by decide +kernel
theorem dX6_unseen_14 : decode cX6_unseen 14 = .ok (.ireturn, 1) := by decide +kernel
theorem dX6_unseen_15 : decode cX6_unseen 15 = .ok (.aload_n 0, 1) := by decide +kernel
theorem dX6_unseen_16 : decode cX6_unseen 16 = .ok (.invokevirtual 123, 3) := by decide +kernel
theorem dX6_unseen_19 : decode cX6_unseen 19 = .ok (.iconst 0, 1) := by decide +kernel
theorem dX6_unseen_20 : decode cX6_unseen 20 = .ok (.istore_n 2, 1) := by decide +kernel
theorem dX6_unseen_21 : decode cX6_unseen 21 = .ok (.iload_n 2, 1) := by decide +kernel
theorem dX6_unseen_22 : decode cX6_unseen 22 = .ok (.sipush 200, 3) := by decide +kernel
theorem dX6_unseen_25 : decode cX6_unseen 25 = .ok (.if_icmp .gt 25, 3) := by decide +kernel
theorem dX6_unseen_28 : decode cX6_unseen 28 = .ok (.aload_n 0, 1) := by decide +kernel
theorem dX6_unseen_29 : decode cX6_unseen 29 = .ok (.invokevirtual 115, 3) := by decide +kernel
theorem dX6_unseen_32 : decode cX6_unseen 32 = .ok (.iload_n 1, 1) := by decide +kernel
theorem dX6_unseen_33 : decode cX6_unseen 33 = .ok (.ishr, 1) := by decide +kernel
theorem dX6_unseen_34 : decode cX6_unseen 34 = .ok (.iconst 1, 1) := by decide +kernel
theorem dX6_unseen_35 : decode cX6_unseen 35 = .ok (.iand, 1) := by decide +kernel
theorem dX6_unseen_36 : decode cX6_unseen 36 = .ok (.iconst 1, 1) := by decide +kernel
theorem dX6_unseen_37 : decode cX6_unseen 37 = .ok (.if_icmp .ne 13, 3) := by decide +kernel
theorem dX6_unseen_40 : decode cX6_unseen 40 = .ok (.aload_n 0, 1) := by decide +kernel
theorem dX6_unseen_41 : decode cX6_unseen 41 = .ok (.invokevirtual 102, 3) := by decide +kernel
theorem dX6_unseen_44 : decode cX6_unseen 44 = .ok (.iinc 2 1, 3) := by decide +kernel
theorem dX6_unseen_47 : decode cX6_unseen 47 = .ok (.goto (-26), 3) := by decide +kernel
theorem dX6_unseen_50 : decode cX6_unseen 50 = .ok (.aload_n 0, 1) := by decide +kernel
theorem dX6_unseen_51 : decode cX6_unseen 51 = .ok (.invokevirtual 126, 3) := by decide +kernel
theorem dX6_unseen_54 : decode cX6_unseen 54 = .ok (.iload_n 2, 1) := by decide +kernel
theorem dX6_unseen_55 : decode cX6_unseen 55 = .ok (.sipush 200, 3) := by decide +kernel
theorem dX6_unseen_58 : decode cX6_unseen 58 = .ok (.if_icmp .le 12, 3) := by decide +kernel
theorem dX6_unseen_61 : decode cX6_unseen 61 = .ok (.aload_n 0, 1) := by decide +kernel
theorem dX6_unseen_62 : decode cX6_unseen 62 = .ok (.ldc 36, 2) := by decide +kernel
theorem dX6_unseen_64 : decode cX6_unseen 64 = .ok (.invokevirtual 37, 3) := by decide +kernel
theorem dX6_unseen_67 : decode cX6_unseen 67 = .ok (.goto 4, 3) := by decide +kernel
theorem dX6_unseen_70 : decode cX6_unseen 70 = .ok (.iload_n 2, 1) := by decide +kernel
theorem dX6_unseen_71 : decode cX6_unseen 71 = .ok (.ireturn, 1) := by decide +kernel
theorem dX6_borrow_0 : decode cX6_borrow 0 = .ok (.aload_n 0, 1) := by decide +kernel
theorem dX6_borrow_1 : decode cX6_borrow 1 = .ok (.iload_n 1, 1) := by decide +kernel
theorem dX6_borrow_2 : decode cX6_borrow 2 = .ok (.invokevirtual 45, 3) := by decide +kernel
theorem dX6_borrow_5 : decode cX6_borrow 5 = .ok (.ifCond .ne 10, 3) := by decide +kernel
theorem dX6_borrow_8 : decode cX6_borrow 8 = .ok (.aload_n 0, 1) := by decide +kernel
theorem dX6_borrow_9 : decode cX6_borrow 9 = .ok (.ldc 35, 2) := by decide +kernel
theorem dX6_borrow_11 : decode cX6_borrow 11 = .ok (.invokevirtual 37, 3) := by decide +kernel
theorem dX6_borrow_14 : decode cX6_borrow 14 = .ok (.ireturn, 1) := by decide +kernel
theorem dX6_borrow_15 : decode cX6_borrow 15 = .ok (.aload_n 0, 1) := by decide +kernel
theorem dX6_borrow_16 : decode cX6_borrow 16 = .ok (.invokevirtual 123, 3) := by decide +kernel
theorem dX6_borrow_19 : decode cX6_borrow 19 = .ok (.aload_n 0, 1) := by decide +kernel
theorem dX6_borrow_20 : decode cX6_borrow 20 = .ok (.iload_n 1, 1) := by decide +kernel
theorem dX6_borrow_21 : decode cX6_borrow 21 = .ok (.invokevirtual 129, 3) := by decide +kernel
theorem dX6_borrow_24 : decode cX6_borrow 24 = .ok (.istore_n 2, 1) := by decide +kernel
theorem dX6_borrow_25 : decode cX6_borrow 25 = .ok (.iconst (-1), 1) := by decide +kernel
theorem dX6_borrow_26 : decode cX6_borrow 26 = .ok (.istore_n 3, 1) := by decide +kernel
theorem dX6_borrow_27 : decode cX6_borrow 27 = .ok (.iconst 0, 1) := by decide +kernel
theorem dX6_borrow_28 : decode cX6_borrow 28 = .ok (.istore 4, 2) := by decide +kernel
theorem dX6_borrow_30 : decode cX6_borrow 30 = .ok (.iload 4, 2) := by decide +kernel
theorem dX6_borrow_32 : decode cX6_borrow 32 = .ok (.aload_n 0, 1) := by decide +kernel
theorem dX6_borrow_33 : decode cX6_borrow 33 = .ok (.getfield 9, 3) := by decide +kernel
theorem dX6_borrow_36 : decode cX6_borrow 36 = .ok (.iconst 1, 1) := by decide +kernel
theorem dX6_borrow_37 : decode cX6_borrow 37 = .ok (.iaload, 1) := by decide +kernel
theorem dX6_borrow_38 : decode cX6_borrow 38 = .ok (.if_icmp .ge 75, 3) := by decide +kernel
theorem dX6_borrow_41 : decode cX6_borrow 41 = .ok (.iload 4, 2) := by decide +kernel
theorem dX6_borrow_43 : decode cX6_borrow 43 = .ok (.iload_n 1, 1) := by decide +kernel
theorem dX6_borrow_44 : decode cX6_borrow 44 = .ok (.if_icmp .eq 63, 3) := by decide +kernel
theorem dX6_borrow_47 : decode cX6_borrow 47 = .ok (.aload_n 0, 1) := by decide +kernel
theorem dX6_borrow_48 : decode cX6_borrow 48 = .ok (.iload_n 1, 1) := by decide +kernel
theorem dX6_borrow_49 : decode cX6_borrow 49 = .ok (.iload 4, 2) := by decide +kernel
theorem dX6_borrow_51 : decode cX6_borrow 51 = .ok (.invokevirtual 95, 3) := by decide +kernel
theorem dX6_borrow_54 : decode cX6_borrow 54 = .ok (.aload_n 0, 1) := by decide +kernel
theorem dX6_borrow_55 : decode cX6_borrow 55 = .ok (.iload_n 1, 1) := by decide +kernel
theorem dX6_borrow_56 : decode cX6_borrow 56 = .ok (.invokevirtual 129, 3) := by decide +kernel
theorem dX6_borrow_59 : decode cX6_borrow 59 = .ok (.istore 5, 2) := by decide +kernel
theorem dX6_borrow_61 : decode cX6_borrow 61 = .ok (.iload 5, 2) := by decide +kernel
theorem dX6_borrow_63 : decode cX6_borrow 63 = .ok (.ifCond .lt 17, 3) := by decide +kernel
theorem dX6_borrow_66 : decode cX6_borrow 66 = .ok (.iload_n 2, 1) := by decide +kernel
theorem dX6_borrow_67 : decode cX6_borrow 67 = .ok (.ifCond .lt 9, 3) := by decide +kernel
theorem dX6_borrow_70 : decode cX6_borrow 70 = .ok (.iload 5, 2) := by decide +kernel
theorem dX6_borrow_72 : decode cX6_borrow 72 = .ok (.iload_n 2, 1) := by decide +kernel
theorem dX6_borrow_73 : decode cX6_borrow 73 = .ok (.if_icmp .ge 7, 3) := by decide +kernel
theorem dX6_borrow_76 : decode cX6_borrow 76 = .ok (.iconst 1, 1) := by decide +kernel
theorem dX6_borrow_77 : decode cX6_borrow 77 = .ok (.goto 4, 3) := by decide +kernel
theorem dX6_borrow_80 : decode cX6_borrow 80 = .ok (.iconst 0, 1) := by decide +kernel
theorem dX6_borrow_81 : decode cX6_borrow 81 = .ok (.istore 6, 2) := by decide +kernel
theorem dX6_borrow_83 : decode cX6_borrow 83 = .ok (.iload 6, 2) := by decide +kernel
theorem dX6_borrow_85 : decode cX6_borrow 85 = .ok (.ifCond .eq 8, 3) := by decide +kernel
theorem dX6_borrow_88 : decode cX6_borrow 88 = .ok (.iload 4, 2) := by decide +kernel
theorem dX6_borrow_90 : decode cX6_borrow 90 = .ok (.goto 4, 3) := by decide +kernel
theorem dX6_borrow_93 : decode cX6_borrow 93 = .ok (.iload_n 3, 1) := by decide +kernel
theorem dX6_borrow_94 : decode cX6_borrow 94 = .ok (.istore_n 3, 1) := by decide +kernel
theorem dX6_borrow_95 : decode cX6_borrow 95 = .ok (.iload 6, 2) := by decide +kernel
theorem dX6_borrow_97 : decode cX6_borrow 97 = .ok (.ifCond .eq 8, 3) := by decide +kernel
theorem dX6_borrow_100 : decode cX6_borrow 100 = .ok (.iload 5, 2) := by decide +kernel
theorem dX6_borrow_102 : decode cX6_borrow 102 = .ok (.goto 4, 3) := by decide +kernel
theorem dX6_borrow_105 : decode cX6_borrow 105 = .ok (.iload_n 2, 1) := by decide +kernel
theorem dX6_borrow_106 : decode cX6_borrow 106 = .ok (.istore_n 2, 1) := by decide +kernel
theorem dX6_borrow_107 : decode cX6_borrow 107 = .ok (.iinc 4 1, 3) := by decide +kernel
theorem dX6_borrow_110 : decode cX6_borrow 110 = .ok (.goto (-80), 3) := by decide +kernel
theorem dX6_borrow_113 : decode cX6_borrow 113 = .ok (.aload_n 0, 1) := by decide +kernel
theorem dX6_borrow_114 : decode cX6_borrow 114 = .ok (.iload_n 3, 1) := by decide +kernel
theorem dX6_borrow_115 : decode cX6_borrow 115 = .ok (.invokevirtual 132, 3) := by decide +kernel
theorem dX6_borrow_118 : decode cX6_borrow 118 = .ok (.ireturn, 1) := by decide +kernel
theorem dX6_kind_0 : decode cX6_kind 0 = .ok (.aload_n 0, 1) := by decide +kernel
theorem dX6_kind_1 : decode cX6_kind 1 = .ok (.iload_n 1, 1) := by decide +kernel
theorem dX6_kind_2 : decode cX6_kind 2 = .ok (.invokevirtual 45, 3) := by decide +kernel
theorem dX6_kind_5 : decode cX6_kind 5 = .ok (.ifCond .ne 10, 3) := by decide +kernel
theorem dX6_kind_8 : decode cX6_kind 8 = .ok (.aload_n 0, 1) := by decide +kernel
theorem dX6_kind_9 : decode cX6_kind 9 = .ok (.ldc 35, 2) := by decide +kernel
theorem dX6_kind_11 : decode cX6_kind 11 = .ok (.invokevirtual 37, 3) := by decide +kernel
theorem dX6_kind_14 : decode cX6_kind 14 = .ok (.ireturn, 1) := by decide +kernel
theorem dX6_kind_15 : decode cX6_kind 15 = .ok (.aload_n 0, 1) := by decide +kernel
theorem dX6_kind_16 : decode cX6_kind 16 = .ok (.invokevirtual 123, 3) := by decide +kernel
theorem dX6_kind_19 : decode cX6_kind 19 = .ok (.iconst (-1), 1) := by decide +kernel
theorem dX6_kind_20 : decode cX6_kind 20 = .ok (.istore_n 2, 1) := by decide +kernel
theorem dX6_kind_21 : decode cX6_kind 21 = .ok (.iconst (-1), 1) := by decide +kernel
theorem dX6_kind_22 : decode cX6_kind 22 = .ok (.istore_n 3, 1) := by decide +kernel
theorem dX6_kind_23 : decode cX6_kind 23 = .ok (.iconst 0, 1) := by decide +kernel
theorem dX6_kind_24 : decode cX6_kind 24 = .ok (.istore 4, 2) := by decide +kernel
theorem dX6_kind_26 : decode cX6_kind 26 = .ok (.iload 4, 2) := by decide +kernel
theorem dX6_kind_28 : decode cX6_kind 28 = .ok (.iconst 5, 1) := by decide +kernel
theorem dX6_kind_29 : decode cX6_kind 29 = .ok (.if_icmp .gt 70, 3) := by decide +kernel
theorem dX6_kind_32 : decode cX6_kind 32 = .ok (.aload_n 0, 1) := by decide +kernel
theorem dX6_kind_33 : decode cX6_kind 33 = .ok (.iload_n 1, 1) := by decide +kernel
theorem dX6_kind_34 : decode cX6_kind 34 = .ok (.iconst 0, 1) := by decide +kernel
theorem dX6_kind_35 : decode cX6_kind 35 = .ok (.iload 4, 2) := by decide +kernel
theorem dX6_kind_37 : decode cX6_kind 37 = .ok (.invokevirtual 63, 3) := by decide +kernel
theorem dX6_kind_40 : decode cX6_kind 40 = .ok (.aload_n 0, 1) := by decide +kernel
theorem dX6_kind_41 : decode cX6_kind 41 = .ok (.iload_n 1, 1) := by decide +kernel
theorem dX6_kind_42 : decode cX6_kind 42 = .ok (.invokevirtual 129, 3) := by decide +kernel
theorem dX6_kind_45 : decode cX6_kind 45 = .ok (.istore 5, 2) := by decide +kernel
theorem dX6_kind_47 : decode cX6_kind 47 = .ok (.iload 5, 2) := by decide +kernel
theorem dX6_kind_49 : decode cX6_kind 49 = .ok (.ifCond .lt 17, 3) := by decide +kernel
theorem dX6_kind_52 : decode cX6_kind 52 = .ok (.iload_n 2, 1) := by decide +kernel
theorem dX6_kind_53 : decode cX6_kind 53 = .ok (.ifCond .lt 9, 3) := by decide +kernel
theorem dX6_kind_56 : decode cX6_kind 56 = .ok (.iload 5, 2) := by decide +kernel
theorem dX6_kind_58 : decode cX6_kind 58 = .ok (.iload_n 2, 1) := by decide +kernel
theorem dX6_kind_59 : decode cX6_kind 59 = .ok (.if_icmp .ge 7, 3) := by decide +kernel
theorem dX6_kind_62 : decode cX6_kind 62 = .ok (.iconst 1, 1) := by decide +kernel
theorem dX6_kind_63 : decode cX6_kind 63 = .ok (.goto 4, 3) := by decide +kernel
theorem dX6_kind_66 : decode cX6_kind 66 = .ok (.iconst 0, 1) := by decide +kernel
theorem dX6_kind_67 : decode cX6_kind 67 = .ok (.istore 6, 2) := by decide +kernel
theorem dX6_kind_69 : decode cX6_kind 69 = .ok (.iload 6, 2) := by decide +kernel
theorem dX6_kind_71 : decode cX6_kind 71 = .ok (.ifCond .eq 8, 3) := by decide +kernel
theorem dX6_kind_74 : decode cX6_kind 74 = .ok (.iload 4, 2) := by decide +kernel
theorem dX6_kind_76 : decode cX6_kind 76 = .ok (.goto 4, 3) := by decide +kernel
theorem dX6_kind_79 : decode cX6_kind 79 = .ok (.iload_n 3, 1) := by decide +kernel
theorem dX6_kind_80 : decode cX6_kind 80 = .ok (.istore_n 3, 1) := by decide +kernel
theorem dX6_kind_81 : decode cX6_kind 81 = .ok (.iload 6, 2) := by decide +kernel
theorem dX6_kind_83 : decode cX6_kind 83 = .ok (.ifCond .eq 8, 3) := by decide +kernel
theorem dX6_kind_86 : decode cX6_kind 86 = .ok (.iload 5, 2) := by decide +kernel
theorem dX6_kind_88 : decode cX6_kind 88 = .ok (.goto 4, 3) := by decide +kernel
theorem dX6_kind_91 : decode cX6_kind 91 = .ok (.iload_n 2, 1) := by decide +kernel
theorem dX6_kind_92 : decode cX6_kind 92 = .ok (.istore_n 2, 1) := by decide +kernel
theorem dX6_kind_93 : decode cX6_kind 93 = .ok (.iinc 4 1, 3) := by decide +kernel
theorem dX6_kind_96 : decode cX6_kind 96 = .ok (.goto (-70), 3) := by decide +kernel
theorem dX6_kind_99 : decode cX6_kind 99 = .ok (.aload_n 0, 1) := by decide +kernel
theorem dX6_kind_100 : decode cX6_kind 100 = .ok (.iload_n 3, 1) := by decide +kernel
theorem dX6_kind_101 : decode cX6_kind 101 = .ok (.invokevirtual 132, 3) := by decide +kernel
theorem dX6_kind_104 : decode cX6_kind 104 = .ok (.ireturn, 1) := by decide +kernel
theorem dX6_grudgeOn_0 : decode cX6_grudgeOn 0 = .ok (.aload_n 0, 1) := by decide +kernel
theorem dX6_grudgeOn_1 : decode cX6_grudgeOn 1 = .ok (.iload_n 2, 1) := by decide +kernel
theorem dX6_grudgeOn_2 : decode cX6_grudgeOn 2 = .ok (.invokevirtual 105, 3) := by decide +kernel
theorem dX6_grudgeOn_5 : decode cX6_grudgeOn 5 = .ok (.aload_n 0, 1) := by decide +kernel
theorem dX6_grudgeOn_6 : decode cX6_grudgeOn 6 = .ok (.iload_n 1, 1) := by decide +kernel
theorem dX6_grudgeOn_7 : decode cX6_grudgeOn 7 = .ok (.iconst 1, 1) := by decide +kernel
theorem dX6_grudgeOn_8 : decode cX6_grudgeOn 8 = .ok (.invokevirtual 49, 3) := by decide +kernel
theorem dX6_grudgeOn_11 : decode cX6_grudgeOn 11 = .ok (.istore_n 3, 1) := by decide +kernel
theorem dX6_grudgeOn_12 : decode cX6_grudgeOn 12 = .ok (.aload_n 0, 1) := by decide +kernel
theorem dX6_grudgeOn_13 : decode cX6_grudgeOn 13 = .ok (.invokevirtual 126, 3) := by decide +kernel
theorem dX6_grudgeOn_16 : decode cX6_grudgeOn 16 = .ok (.iload_n 3, 1) := by decide +kernel
theorem dX6_grudgeOn_17 : decode cX6_grudgeOn 17 = .ok (.ireturn, 1) := by decide +kernel
theorem dX6_better_0 : decode cX6_better 0 = .ok (.aload_n 0, 1) := by decide +kernel
theorem dX6_better_1 : decode cX6_better 1 = .ok (.iload_n 1, 1) := by decide +kernel
theorem dX6_better_2 : decode cX6_better 2 = .ok (.invokevirtual 45, 3) := by decide +kernel
theorem dX6_better_5 : decode cX6_better 5 = .ok (.ifCond .eq 14, 3) := by decide +kernel
theorem dX6_better_8 : decode cX6_better 8 = .ok (.iload_n 2, 1) := by decide +kernel
theorem dX6_better_9 : decode cX6_better 9 = .ok (.i2l, 1) := by decide +kernel
theorem dX6_better_10 : decode cX6_better 10 = .ok (.iconst 1, 1) := by decide +kernel
theorem dX6_better_11 : decode cX6_better 11 = .ok (.bipush 60, 2) := by decide +kernel
theorem dX6_better_13 : decode cX6_better 13 = .ok (.invokestatic 41, 3) := by decide +kernel
theorem dX6_better_16 : decode cX6_better 16 = .ok (.ifCond .ne 10, 3) := by decide +kernel
theorem dX6_better_19 : decode cX6_better 19 = .ok (.aload_n 0, 1) := by decide +kernel
theorem dX6_better_20 : decode cX6_better 20 = .ok (.ldc 35, 2) := by decide +kernel
theorem dX6_better_22 : decode cX6_better 22 = .ok (.invokevirtual 37, 3) := by decide +kernel
theorem dX6_better_25 : decode cX6_better 25 = .ok (.ireturn, 1) := by decide +kernel
theorem dX6_better_26 : decode cX6_better 26 = .ok (.aload_n 0, 1) := by decide +kernel
theorem dX6_better_27 : decode cX6_better 27 = .ok (.invokevirtual 123, 3) := by decide +kernel
theorem dX6_better_30 : decode cX6_better 30 = .ok (.iconst 0, 1) := by decide +kernel
theorem dX6_better_31 : decode cX6_better 31 = .ok (.istore_n 3, 1) := by decide +kernel
theorem dX6_better_32 : decode cX6_better 32 = .ok (.bipush 100, 2) := by decide +kernel
theorem dX6_better_34 : decode cX6_better 34 = .ok (.istore 4, 2) := by decide +kernel
theorem dX6_better_36 : decode cX6_better 36 = .ok (.iconst (-1), 1) := by decide +kernel
theorem dX6_better_37 : decode cX6_better 37 = .ok (.istore 5, 2) := by decide +kernel
theorem dX6_better_39 : decode cX6_better 39 = .ok (.iload 5, 2) := by decide +kernel
theorem dX6_better_41 : decode cX6_better 41 = .ok (.aload_n 0, 1) := by decide +kernel
theorem dX6_better_42 : decode cX6_better 42 = .ok (.getfield 9, 3) := by decide +kernel
theorem dX6_better_45 : decode cX6_better 45 = .ok (.iconst 1, 1) := by decide +kernel
theorem dX6_better_46 : decode cX6_better 46 = .ok (.iaload, 1) := by decide +kernel
theorem dX6_better_47 : decode cX6_better 47 = .ok (.if_icmp .ge 57, 3) := by decide +kernel
theorem dX6_better_50 : decode cX6_better 50 = .ok (.aload_n 0, 1) := by decide +kernel
theorem dX6_better_51 : decode cX6_better 51 = .ok (.iload_n 1, 1) := by decide +kernel
theorem dX6_better_52 : decode cX6_better 52 = .ok (.iconst 2, 1) := by decide +kernel
theorem dX6_better_53 : decode cX6_better 53 = .ok (.iload 5, 2) := by decide +kernel
theorem dX6_better_55 : decode cX6_better 55 = .ok (.invokevirtual 63, 3) := by decide +kernel
theorem dX6_better_58 : decode cX6_better 58 = .ok (.aload_n 0, 1) := by decide +kernel
theorem dX6_better_59 : decode cX6_better 59 = .ok (.iload_n 1, 1) := by decide +kernel
theorem dX6_better_60 : decode cX6_better 60 = .ok (.iload_n 2, 1) := by decide +kernel
theorem dX6_better_61 : decode cX6_better 61 = .ok (.invokevirtual 135, 3) := by decide +kernel
theorem dX6_better_64 : decode cX6_better 64 = .ok (.istore 6, 2) := by decide +kernel
theorem dX6_better_66 : decode cX6_better 66 = .ok (.iload 6, 2) := by decide +kernel
theorem dX6_better_68 : decode cX6_better 68 = .ok (.iload 4, 2) := by decide +kernel
theorem dX6_better_70 : decode cX6_better 70 = .ok (.if_icmp .ge 10, 3) := by decide +kernel
theorem dX6_better_73 : decode cX6_better 73 = .ok (.iload 5, 2) := by decide +kernel
theorem dX6_better_75 : decode cX6_better 75 = .ok (.iconst 1, 1) := by decide +kernel
theorem dX6_better_76 : decode cX6_better 76 = .ok (.iadd, 1) := by decide +kernel
theorem dX6_better_77 : decode cX6_better 77 = .ok (.goto 4, 3) := by decide +kernel
theorem dX6_better_80 : decode cX6_better 80 = .ok (.iload_n 3, 1) := by decide +kernel
theorem dX6_better_81 : decode cX6_better 81 = .ok (.istore_n 3, 1) := by decide +kernel
theorem dX6_better_82 : decode cX6_better 82 = .ok (.iload 6, 2) := by decide +kernel
theorem dX6_better_84 : decode cX6_better 84 = .ok (.iload 4, 2) := by decide +kernel
theorem dX6_better_86 : decode cX6_better 86 = .ok (.if_icmp .ge 8, 3) := by decide +kernel
theorem dX6_better_89 : decode cX6_better 89 = .ok (.iload 6, 2) := by decide +kernel
theorem dX6_better_91 : decode cX6_better 91 = .ok (.goto 5, 3) := by decide +kernel
theorem dX6_better_94 : decode cX6_better 94 = .ok (.iload 4, 2) := by decide +kernel
theorem dX6_better_96 : decode cX6_better 96 = .ok (.istore 4, 2) := by decide +kernel
theorem dX6_better_98 : decode cX6_better 98 = .ok (.iinc 5 1, 3) := by decide +kernel
theorem dX6_better_101 : decode cX6_better 101 = .ok (.goto (-62), 3) := by decide +kernel
theorem dX6_better_104 : decode cX6_better 104 = .ok (.iload_n 3, 1) := by decide +kernel
theorem dX6_better_105 : decode cX6_better 105 = .ok (.ireturn, 1) := by decide +kernel
theorem dX6_most_0 : decode cX6_most 0 = .ok (.aload_n 0, 1) := by decide +kernel
theorem dX6_most_1 : decode cX6_most 1 = .ok (.iload_n 1, 1) := by decide +kernel
theorem dX6_most_2 : decode cX6_most 2 = .ok (.invokevirtual 45, 3) := by decide +kernel
theorem dX6_most_5 : decode cX6_most 5 = .ok (.ifCond .eq 14, 3) := by decide +kernel
theorem dX6_most_8 : decode cX6_most 8 = .ok (.iload_n 2, 1) := by decide +kernel
theorem dX6_most_9 : decode cX6_most 9 = .ok (.i2l, 1) := by decide +kernel
theorem dX6_most_10 : decode cX6_most 10 = .ok (.iconst 1, 1) := by decide +kernel
theorem dX6_most_11 : decode cX6_most 11 = .ok (.bipush 60, 2) := by decide +kernel
theorem dX6_most_13 : decode cX6_most 13 = .ok (.invokestatic 41, 3) := by decide +kernel
theorem dX6_most_16 : decode cX6_most 16 = .ok (.ifCond .ne 10, 3) := by decide +kernel
theorem dX6_most_19 : decode cX6_most 19 = .ok (.aload_n 0, 1) := by decide +kernel
theorem dX6_most_20 : decode cX6_most 20 = .ok (.ldc 35, 2) := by decide +kernel
theorem dX6_most_22 : decode cX6_most 22 = .ok (.invokevirtual 37, 3) := by decide +kernel
theorem dX6_most_25 : decode cX6_most 25 = .ok (.ireturn, 1) := by decide +kernel
theorem dX6_most_26 : decode cX6_most 26 = .ok (.aload_n 0, 1) := by decide +kernel
theorem dX6_most_27 : decode cX6_most 27 = .ok (.invokevirtual 123, 3) := by decide +kernel
theorem dX6_most_30 : decode cX6_most 30 = .ok (.iconst (-1), 1) := by decide +kernel
theorem dX6_most_31 : decode cX6_most 31 = .ok (.istore_n 3, 1) := by decide +kernel
theorem dX6_most_32 : decode cX6_most 32 = .ok (.bipush 99, 2) := by decide +kernel
theorem dX6_most_34 : decode cX6_most 34 = .ok (.istore 4, 2) := by decide +kernel
theorem dX6_most_36 : decode cX6_most 36 = .ok (.iload 4, 2) := by decide +kernel
theorem dX6_most_38 : decode cX6_most 38 = .ok (.ifCond .lt 37, 3) := by decide +kernel
theorem dX6_most_41 : decode cX6_most 41 = .ok (.iload_n 3, 1) := by decide +kernel
theorem dX6_most_42 : decode cX6_most 42 = .ok (.ifCond .ge 33, 3) := by decide +kernel
theorem dX6_most_45 : decode cX6_most 45 = .ok (.aload_n 0, 1) := by decide +kernel
theorem dX6_most_46 : decode cX6_most 46 = .ok (.iload_n 1, 1) := by decide +kernel
theorem dX6_most_47 : decode cX6_most 47 = .ok (.iconst 1, 1) := by decide +kernel
theorem dX6_most_48 : decode cX6_most 48 = .ok (.iload 4, 2) := by decide +kernel
theorem dX6_most_50 : decode cX6_most 50 = .ok (.invokevirtual 63, 3) := by decide +kernel
theorem dX6_most_53 : decode cX6_most 53 = .ok (.aload_n 0, 1) := by decide +kernel
theorem dX6_most_54 : decode cX6_most 54 = .ok (.iload_n 1, 1) := by decide +kernel
theorem dX6_most_55 : decode cX6_most 55 = .ok (.iload_n 2, 1) := by decide +kernel
theorem dX6_most_56 : decode cX6_most 56 = .ok (.invokevirtual 135, 3) := by decide +kernel
theorem dX6_most_59 : decode cX6_most 59 = .ok (.ifCond .ne 8, 3) := by decide +kernel
theorem dX6_most_62 : decode cX6_most 62 = .ok (.iload 4, 2) := by decide +kernel
theorem dX6_most_64 : decode cX6_most 64 = .ok (.goto 4, 3) := by decide +kernel
theorem dX6_most_67 : decode cX6_most 67 = .ok (.iconst (-1), 1) := by decide +kernel
theorem dX6_most_68 : decode cX6_most 68 = .ok (.istore_n 3, 1) := by decide +kernel
theorem dX6_most_69 : decode cX6_most 69 = .ok (.iinc 4 (-1), 3) := by decide +kernel
theorem dX6_most_72 : decode cX6_most 72 = .ok (.goto (-36), 3) := by decide +kernel
theorem dX6_most_75 : decode cX6_most 75 = .ok (.aload_n 0, 1) := by decide +kernel
theorem dX6_most_76 : decode cX6_most 76 = .ok (.iload_n 3, 1) := by decide +kernel
theorem dX6_most_77 : decode cX6_most 77 = .ok (.invokevirtual 132, 3) := by decide +kernel
theorem dX6_most_80 : decode cX6_most 80 = .ok (.ireturn, 1) := by decide +kernel
theorem dX6_allLooks_0 : decode cX6_allLooks 0 = .ok (.iconst 0, 1) := by decide +kernel
theorem dX6_allLooks_1 : decode cX6_allLooks 1 = .ok (.istore_n 2, 1) := by decide +kernel
theorem dX6_allLooks_2 : decode cX6_allLooks 2 = .ok (.iconst 0, 1) := by decide +kernel
theorem dX6_allLooks_3 : decode cX6_allLooks 3 = .ok (.istore_n 3, 1) := by decide +kernel
theorem dX6_allLooks_4 : decode cX6_allLooks 4 = .ok (.iload_n 3, 1) := by decide +kernel
theorem dX6_allLooks_5 : decode cX6_allLooks 5 = .ok (.aload_n 0, 1) := by decide +kernel
theorem dX6_allLooks_6 : decode cX6_allLooks 6 = .ok (.getfield 9, 3) := by decide +kernel
theorem dX6_allLooks_9 : decode cX6_allLooks 9 = .ok (.iconst 1, 1) := by decide +kernel
theorem dX6_allLooks_10 : decode cX6_allLooks 10 = .ok (.iaload, 1) := by decide +kernel
theorem dX6_allLooks_11 : decode cX6_allLooks 11 = .ok (.if_icmp .ge 27, 3) := by decide +kernel
theorem dX6_allLooks_14 : decode cX6_allLooks 14 = .ok (.iload_n 2, 1) := by decide +kernel
theorem dX6_allLooks_15 : decode cX6_allLooks 15 = .ok (.iload_n 3, 1) := by decide +kernel
theorem dX6_allLooks_16 : decode cX6_allLooks 16 = .ok (.iload_n 1, 1) := by decide +kernel
theorem dX6_allLooks_17 : decode cX6_allLooks 17 = .ok (.if_icmp .ne 7, 3) := by decide +kernel
theorem dX6_allLooks_20 : decode cX6_allLooks 20 = .ok (.iconst 0, 1) := by decide +kernel
theorem dX6_allLooks_21 : decode cX6_allLooks 21 = .ok (.goto 9, 3) := by decide +kernel
theorem dX6_allLooks_24 : decode cX6_allLooks 24 = .ok (.aload_n 0, 1) := by decide +kernel
theorem dX6_allLooks_25 : decode cX6_allLooks 25 = .ok (.iload_n 1, 1) := by decide +kernel
theorem dX6_allLooks_26 : decode cX6_allLooks 26 = .ok (.iload_n 3, 1) := by decide +kernel
theorem dX6_allLooks_27 : decode cX6_allLooks 27 = .ok (.invokevirtual 57, 3) := by decide +kernel
theorem dX6_allLooks_30 : decode cX6_allLooks 30 = .ok (.iadd, 1) := by decide +kernel
theorem dX6_allLooks_31 : decode cX6_allLooks 31 = .ok (.istore_n 2, 1) := by decide +kernel
theorem dX6_allLooks_32 : decode cX6_allLooks 32 = .ok (.iinc 3 1, 3) := by decide +kernel
theorem dX6_allLooks_35 : decode cX6_allLooks 35 = .ok (.goto (-31), 3) := by decide +kernel
theorem dX6_allLooks_38 : decode cX6_allLooks 38 = .ok (.iload_n 2, 1) := by decide +kernel
theorem dX6_allLooks_39 : decode cX6_allLooks 39 = .ok (.ireturn, 1) := by decide +kernel
theorem dX6_sharpest_0 : decode cX6_sharpest 0 = .ok (.iload_n 1, 1) := by decide +kernel
theorem dX6_sharpest_1 : decode cX6_sharpest 1 = .ok (.i2l, 1) := by decide +kernel
theorem dX6_sharpest_2 : decode cX6_sharpest 2 = .ok (.iconst 0, 1) := by decide +kernel
theorem dX6_sharpest_3 : decode cX6_sharpest 3 = .ok (.bipush 100, 2) := by decide +kernel
theorem dX6_sharpest_5 : decode cX6_sharpest 5 = .ok (.invokestatic 41, 3) := by decide +kernel
theorem dX6_sharpest_8 : decode cX6_sharpest 8 = .ok (.ifCond .ne 10, 3) := by decide +kernel
theorem dX6_sharpest_11 : decode cX6_sharpest 11 = .ok (.aload_n 0, 1) := by decide +kernel
theorem dX6_sharpest_12 : decode cX6_sharpest 12 = .ok (.ldc 35, 2) := by decide +kernel
theorem dX6_sharpest_14 : decode cX6_sharpest 14 = .ok (.invokevirtual 37, 3) := by decide +kernel
theorem dX6_sharpest_17 : decode cX6_sharpest 17 = .ok (.ireturn, 1) := by decide +kernel
theorem dX6_sharpest_18 : decode cX6_sharpest 18 = .ok (.aload_n 0, 1) := by decide +kernel
theorem dX6_sharpest_19 : decode cX6_sharpest 19 = .ok (.invokevirtual 123, 3) := by decide +kernel
theorem dX6_sharpest_22 : decode cX6_sharpest 22 = .ok (.aload_n 0, 1) := by decide +kernel
theorem dX6_sharpest_23 : decode cX6_sharpest 23 = .ok (.iload_n 1, 1) := by decide +kernel
theorem dX6_sharpest_24 : decode cX6_sharpest 24 = .ok (.invokevirtual 105, 3) := by decide +kernel
theorem dX6_sharpest_27 : decode cX6_sharpest 27 = .ok (.iconst (-1), 1) := by decide +kernel
theorem dX6_sharpest_28 : decode cX6_sharpest 28 = .ok (.istore_n 2, 1) := by decide +kernel
theorem dX6_sharpest_29 : decode cX6_sharpest 29 = .ok (.iconst (-1), 1) := by decide +kernel
theorem dX6_sharpest_30 : decode cX6_sharpest 30 = .ok (.istore_n 3, 1) := by decide +kernel
theorem dX6_sharpest_31 : decode cX6_sharpest 31 = .ok (.iconst 0, 1) := by decide +kernel
theorem dX6_sharpest_32 : decode cX6_sharpest 32 = .ok (.istore 4, 2) := by decide +kernel
theorem dX6_sharpest_34 : decode cX6_sharpest 34 = .ok (.iload 4, 2) := by decide +kernel
theorem dX6_sharpest_36 : decode cX6_sharpest 36 = .ok (.aload_n 0, 1) := by decide +kernel
theorem dX6_sharpest_37 : decode cX6_sharpest 37 = .ok (.getfield 9, 3) := by decide +kernel
theorem dX6_sharpest_40 : decode cX6_sharpest 40 = .ok (.iconst 1, 1) := by decide +kernel
theorem dX6_sharpest_41 : decode cX6_sharpest 41 = .ok (.iaload, 1) := by decide +kernel
theorem dX6_sharpest_42 : decode cX6_sharpest 42 = .ok (.if_icmp .ge 43, 3) := by decide +kernel
theorem dX6_sharpest_45 : decode cX6_sharpest 45 = .ok (.aload_n 0, 1) := by decide +kernel
theorem dX6_sharpest_46 : decode cX6_sharpest 46 = .ok (.iload 4, 2) := by decide +kernel
theorem dX6_sharpest_48 : decode cX6_sharpest 48 = .ok (.invokevirtual 138, 3) := by decide +kernel
theorem dX6_sharpest_51 : decode cX6_sharpest 51 = .ok (.istore 5, 2) := by decide +kernel
theorem dX6_sharpest_53 : decode cX6_sharpest 53 = .ok (.iload 5, 2) := by decide +kernel
theorem dX6_sharpest_55 : decode cX6_sharpest 55 = .ok (.iload_n 3, 1) := by decide +kernel
theorem dX6_sharpest_56 : decode cX6_sharpest 56 = .ok (.if_icmp .le 8, 3) := by decide +kernel
theorem dX6_sharpest_59 : decode cX6_sharpest 59 = .ok (.iload 4, 2) := by decide +kernel
theorem dX6_sharpest_61 : decode cX6_sharpest 61 = .ok (.goto 4, 3) := by decide +kernel
theorem dX6_sharpest_64 : decode cX6_sharpest 64 = .ok (.iload_n 2, 1) := by decide +kernel
theorem dX6_sharpest_65 : decode cX6_sharpest 65 = .ok (.istore_n 2, 1) := by decide +kernel
theorem dX6_sharpest_66 : decode cX6_sharpest 66 = .ok (.iload 5, 2) := by decide +kernel
theorem dX6_sharpest_68 : decode cX6_sharpest 68 = .ok (.iload_n 3, 1) := by decide +kernel
theorem dX6_sharpest_69 : decode cX6_sharpest 69 = .ok (.if_icmp .le 8, 3) := by decide +kernel
theorem dX6_sharpest_72 : decode cX6_sharpest 72 = .ok (.iload 5, 2) := by decide +kernel
theorem dX6_sharpest_74 : decode cX6_sharpest 74 = .ok (.goto 4, 3) := by decide +kernel
theorem dX6_sharpest_77 : decode cX6_sharpest 77 = .ok (.iload_n 3, 1) := by decide +kernel
theorem dX6_sharpest_78 : decode cX6_sharpest 78 = .ok (.istore_n 3, 1) := by decide +kernel
theorem dX6_sharpest_79 : decode cX6_sharpest 79 = .ok (.iinc 4 1, 3) := by decide +kernel
theorem dX6_sharpest_82 : decode cX6_sharpest 82 = .ok (.goto (-48), 3) := by decide +kernel
theorem dX6_sharpest_85 : decode cX6_sharpest 85 = .ok (.aload_n 0, 1) := by decide +kernel
theorem dX6_sharpest_86 : decode cX6_sharpest 86 = .ok (.invokevirtual 126, 3) := by decide +kernel
theorem dX6_sharpest_89 : decode cX6_sharpest 89 = .ok (.aload_n 0, 1) := by decide +kernel
theorem dX6_sharpest_90 : decode cX6_sharpest 90 = .ok (.iload_n 2, 1) := by decide +kernel
theorem dX6_sharpest_91 : decode cX6_sharpest 91 = .ok (.invokevirtual 132, 3) := by decide +kernel
theorem dX6_sharpest_94 : decode cX6_sharpest 94 = .ok (.ireturn, 1) := by decide +kernel
theorem dX6_areSeen_0 : decode cX6_areSeen 0 = .ok (.iconst 0, 1) := by decide +kernel
theorem dX6_areSeen_1 : decode cX6_areSeen 1 = .ok (.istore_n 2, 1) := by decide +kernel
theorem dX6_areSeen_2 : decode cX6_areSeen 2 = .ok (.iload_n 2, 1) := by decide +kernel
theorem dX6_areSeen_3 : decode cX6_areSeen 3 = .ok (.aload_n 0, 1) := by decide +kernel
theorem dX6_areSeen_4 : decode cX6_areSeen 4 = .ok (.getfield 9, 3) := by decide +kernel
theorem dX6_areSeen_7 : decode cX6_areSeen 7 = .ok (.iconst 1, 1) := by decide +kernel
theorem dX6_areSeen_8 : decode cX6_areSeen 8 = .ok (.iaload, 1) := by decide +kernel
theorem dX6_areSeen_9 : decode cX6_areSeen 9 = .ok (.if_icmp .ge 34, 3) := by decide +kernel
theorem dX6_areSeen_12 : decode cX6_areSeen 12 = .ok (.aload_n 0, 1) := by decide +kernel
theorem dX6_areSeen_13 : decode cX6_areSeen 13 = .ok (.iload_n 2, 1) := by decide +kernel
theorem dX6_areSeen_14 : decode cX6_areSeen 14 = .ok (.iconst 3, 1) := by decide +kernel
theorem dX6_areSeen_15 : decode cX6_areSeen 15 = .ok (.iload_n 1, 1) := by decide +kernel
theorem dX6_areSeen_16 : decode cX6_areSeen 16 = .ok (.iload_n 2, 1) := by decide +kernel
theorem dX6_areSeen_17 : decode cX6_areSeen 17 = .ok (.ishr, 1) := by decide +kernel
theorem dX6_areSeen_18 : decode cX6_areSeen 18 = .ok (.iconst 1, 1) := by decide +kernel
theorem dX6_areSeen_19 : decode cX6_areSeen 19 = .ok (.iand, 1) := by decide +kernel
theorem dX6_areSeen_20 : decode cX6_areSeen 20 = .ok (.iconst 1, 1) := by decide +kernel
theorem dX6_areSeen_21 : decode cX6_areSeen 21 = .ok (.if_icmp .ne 7, 3) := by decide +kernel
theorem dX6_areSeen_24 : decode cX6_areSeen 24 = .ok (.iconst 1, 1) := by decide +kernel
theorem dX6_areSeen_25 : decode cX6_areSeen 25 = .ok (.goto 9, 3) := by decide +kernel
theorem dX6_areSeen_28 : decode cX6_areSeen 28 = .ok (.aload_n 0, 1) := by decide +kernel
theorem dX6_areSeen_29 : decode cX6_areSeen 29 = .ok (.iload_n 2, 1) := by decide +kernel
theorem dX6_areSeen_30 : decode cX6_areSeen 30 = .ok (.iconst 3, 1) := by decide +kernel
theorem dX6_areSeen_31 : decode cX6_areSeen 31 = .ok (.invokevirtual 49, 3) := by decide +kernel
theorem dX6_areSeen_34 : decode cX6_areSeen 34 = .ok (.invokevirtual 63, 3) := by decide +kernel
theorem dX6_areSeen_37 : decode cX6_areSeen 37 = .ok (.iinc 2 1, 3) := by decide +kernel
theorem dX6_areSeen_40 : decode cX6_areSeen 40 = .ok (.goto (-38), 3) := by decide +kernel
theorem dX6_areSeen_43 : decode cX6_areSeen 43 = .ok (.aload_n 0, 1) := by decide +kernel
theorem dX6_areSeen_44 : decode cX6_areSeen 44 = .ok (.invokevirtual 115, 3) := by decide +kernel
theorem dX6_areSeen_47 : decode cX6_areSeen 47 = .ok (.iconst 1, 1) := by decide +kernel
theorem dX6_areSeen_48 : decode cX6_areSeen 48 = .ok (.aload_n 0, 1) := by decide +kernel
theorem dX6_areSeen_49 : decode cX6_areSeen 49 = .ok (.getfield 9, 3) := by decide +kernel
theorem dX6_areSeen_52 : decode cX6_areSeen 52 = .ok (.iconst 1, 1) := by decide +kernel
theorem dX6_areSeen_53 : decode cX6_areSeen 53 = .ok (.iaload, 1) := by decide +kernel
theorem dX6_areSeen_54 : decode cX6_areSeen 54 = .ok (.ishl, 1) := by decide +kernel
theorem dX6_areSeen_55 : decode cX6_areSeen 55 = .ok (.iconst 1, 1) := by decide +kernel
theorem dX6_areSeen_56 : decode cX6_areSeen 56 = .ok (.isub, 1) := by decide +kernel
theorem dX6_areSeen_57 : decode cX6_areSeen 57 = .ok (.if_icmp .ne 7, 3) := by decide +kernel
theorem dX6_areSeen_60 : decode cX6_areSeen 60 = .ok (.iconst 1, 1) := by decide +kernel
theorem dX6_areSeen_61 : decode cX6_areSeen 61 = .ok (.goto 4, 3) := by decide +kernel
theorem dX6_areSeen_64 : decode cX6_areSeen 64 = .ok (.iconst 0, 1) := by decide +kernel
theorem dX6_areSeen_65 : decode cX6_areSeen 65 = .ok (.istore_n 2, 1) := by decide +kernel
theorem dX6_areSeen_66 : decode cX6_areSeen 66 = .ok (.aload_n 0, 1) := by decide +kernel
theorem dX6_areSeen_67 : decode cX6_areSeen 67 = .ok (.invokevirtual 126, 3) := by decide +kernel
theorem dX6_areSeen_70 : decode cX6_areSeen 70 = .ok (.iload_n 2, 1) := by decide +kernel
theorem dX6_areSeen_71 : decode cX6_areSeen 71 = .ok (.ireturn, 1) := by decide +kernel
theorem dX6_push_0 : decode cX6_push 0 = .ok (.aload_n 0, 1) := by decide +kernel
theorem dX6_push_1 : decode cX6_push 1 = .ok (.invokevirtual 123, 3) := by decide +kernel
theorem dX6_push_4 : decode cX6_push 4 = .ok (.iconst (-1), 1) := by decide +kernel
theorem dX6_push_5 : decode cX6_push 5 = .ok (.istore_n 1, 1) := by decide +kernel
theorem dX6_push_6 : decode cX6_push 6 = .ok (.iconst 0, 1) := by decide +kernel
theorem dX6_push_7 : decode cX6_push 7 = .ok (.istore_n 2, 1) := by decide +kernel
theorem dX6_push_8 : decode cX6_push 8 = .ok (.iload_n 2, 1) := by decide +kernel
theorem dX6_push_9 : decode cX6_push 9 = .ok (.iconst 1, 1) := by decide +kernel
theorem dX6_push_10 : decode cX6_push 10 = .ok (.aload_n 0, 1) := by decide +kernel
theorem dX6_push_11 : decode cX6_push 11 = .ok (.getfield 9, 3) := by decide +kernel
theorem dX6_push_14 : decode cX6_push 14 = .ok (.iconst 1, 1) := by decide +kernel
theorem dX6_push_15 : decode cX6_push 15 = .ok (.iaload, 1) := by decide +kernel
theorem dX6_push_16 : decode cX6_push 16 = .ok (.ishl, 1) := by decide +kernel
theorem dX6_push_17 : decode cX6_push 17 = .ok (.if_icmp .ge 58, 3) := by decide +kernel
theorem dX6_push_20 : decode cX6_push 20 = .ok (.aload_n 0, 1) := by decide +kernel
theorem dX6_push_21 : decode cX6_push 21 = .ok (.getfield 9, 3) := by decide +kernel
theorem dX6_push_24 : decode cX6_push 24 = .ok (.iconst 1, 1) := by decide +kernel
theorem dX6_push_25 : decode cX6_push 25 = .ok (.iaload, 1) := by decide +kernel
theorem dX6_push_26 : decode cX6_push 26 = .ok (.iconst 1, 1) := by decide +kernel
theorem dX6_push_27 : decode cX6_push 27 = .ok (.if_icmp .le 48, 3) := by decide +kernel
theorem dX6_push_30 : decode cX6_push 30 = .ok (.iload_n 1, 1) := by decide +kernel
theorem dX6_push_31 : decode cX6_push 31 = .ok (.ifCond .lt 14, 3) := by decide +kernel
theorem dX6_push_34 : decode cX6_push 34 = .ok (.iload_n 2, 1) := by decide +kernel
theorem dX6_push_35 : decode cX6_push 35 = .ok (.invokestatic 141, 3) := by decide +kernel
theorem dX6_push_38 : decode cX6_push 38 = .ok (.iload_n 1, 1) := by decide +kernel
theorem dX6_push_39 : decode cX6_push 39 = .ok (.invokestatic 141, 3) := by decide +kernel
theorem dX6_push_42 : decode cX6_push 42 = .ok (.if_icmp .ge 7, 3) := by decide +kernel
theorem dX6_push_45 : decode cX6_push 45 = .ok (.iconst 1, 1) := by decide +kernel
theorem dX6_push_46 : decode cX6_push 46 = .ok (.goto 4, 3) := by decide +kernel
theorem dX6_push_49 : decode cX6_push 49 = .ok (.iconst 0, 1) := by decide +kernel
theorem dX6_push_50 : decode cX6_push 50 = .ok (.istore_n 3, 1) := by decide +kernel
theorem dX6_push_51 : decode cX6_push 51 = .ok (.iload_n 3, 1) := by decide +kernel
theorem dX6_push_52 : decode cX6_push 52 = .ok (.ifCond .eq 15, 3) := by decide +kernel
theorem dX6_push_55 : decode cX6_push 55 = .ok (.aload_n 0, 1) := by decide +kernel
theorem dX6_push_56 : decode cX6_push 56 = .ok (.iload_n 2, 1) := by decide +kernel
theorem dX6_push_57 : decode cX6_push 57 = .ok (.invokevirtual 144, 3) := by decide +kernel
theorem dX6_push_60 : decode cX6_push 60 = .ok (.ifCond .eq 7, 3) := by decide +kernel
theorem dX6_push_63 : decode cX6_push 63 = .ok (.iload_n 2, 1) := by decide +kernel
theorem dX6_push_64 : decode cX6_push 64 = .ok (.goto 4, 3) := by decide +kernel
theorem dX6_push_67 : decode cX6_push 67 = .ok (.iload_n 1, 1) := by decide +kernel
theorem dX6_push_68 : decode cX6_push 68 = .ok (.istore_n 1, 1) := by decide +kernel
theorem dX6_push_69 : decode cX6_push 69 = .ok (.iinc 2 1, 3) := by decide +kernel
theorem dX6_push_72 : decode cX6_push 72 = .ok (.goto (-64), 3) := by decide +kernel
theorem dX6_push_75 : decode cX6_push 75 = .ok (.aload_n 0, 1) := by decide +kernel
theorem dX6_push_76 : decode cX6_push 76 = .ok (.iload_n 1, 1) := by decide +kernel
theorem dX6_push_77 : decode cX6_push 77 = .ok (.invokevirtual 132, 3) := by decide +kernel
theorem dX6_push_80 : decode cX6_push 80 = .ok (.ireturn, 1) := by decide +kernel
theorem dX6_feed_0 : decode cX6_feed 0 = .ok (.iload_n 2, 1) := by decide +kernel
theorem dX6_feed_1 : decode cX6_feed 1 = .ok (.i2l, 1) := by decide +kernel
theorem dX6_feed_2 : decode cX6_feed 2 = .ok (.iconst 1, 1) := by decide +kernel
theorem dX6_feed_3 : decode cX6_feed 3 = .ok (.iconst 4, 1) := by decide +kernel
theorem dX6_feed_4 : decode cX6_feed 4 = .ok (.invokestatic 41, 3) := by decide +kernel
theorem dX6_feed_7 : decode cX6_feed 7 = .ok (.ifCond .ne 10, 3) := by decide +kernel
theorem dX6_feed_10 : decode cX6_feed 10 = .ok (.aload_n 0, 1) := by decide +kernel
theorem dX6_feed_11 : decode cX6_feed 11 = .ok (.ldc 35, 2) := by decide +kernel
theorem dX6_feed_13 : decode cX6_feed 13 = .ok (.invokevirtual 37, 3) := by decide +kernel
theorem dX6_feed_16 : decode cX6_feed 16 = .ok (.ireturn, 1) := by decide +kernel
theorem dX6_feed_17 : decode cX6_feed 17 = .ok (.aload_n 0, 1) := by decide +kernel
theorem dX6_feed_18 : decode cX6_feed 18 = .ok (.getfield 147, 3) := by decide +kernel
theorem dX6_feed_21 : decode cX6_feed 21 = .ok (.iload_n 2, 1) := by decide +kernel
theorem dX6_feed_22 : decode cX6_feed 22 = .ok (.iadd, 1) := by decide +kernel
theorem dX6_feed_23 : decode cX6_feed 23 = .ok (.bipush 120, 2) := by decide +kernel
theorem dX6_feed_25 : decode cX6_feed 25 = .ok (.if_icmp .le 10, 3) := by decide +kernel
theorem dX6_feed_28 : decode cX6_feed 28 = .ok (.aload_n 0, 1) := by decide +kernel
theorem dX6_feed_29 : decode cX6_feed 29 = .ok (.ldc 67, 2) := by decide +kernel
theorem dX6_feed_31 : decode cX6_feed 31 = .ok (.invokevirtual 37, 3) := by decide +kernel
theorem dX6_feed_34 : decode cX6_feed 34 = .ok (.ireturn, 1) := by decide +kernel
theorem dX6_feed_35 : decode cX6_feed 35 = .ok (.iload_n 2, 1) := by decide +kernel
theorem dX6_feed_36 : decode cX6_feed 36 = .ok (.iconst 1, 1) := by decide +kernel
theorem dX6_feed_37 : decode cX6_feed 37 = .ok (.isub, 1) := by decide +kernel
theorem dX6_feed_38 : decode cX6_feed 38 = .ok (.istore_n 3, 1) := by decide +kernel
theorem dX6_feed_39 : decode cX6_feed 39 = .ok (.iload_n 3, 1) := by decide +kernel
theorem dX6_feed_40 : decode cX6_feed 40 = .ok (.ifCond .lt 38, 3) := by decide +kernel
theorem dX6_feed_43 : decode cX6_feed 43 = .ok (.aload_n 0, 1) := by decide +kernel
theorem dX6_feed_44 : decode cX6_feed 44 = .ok (.getfield 22, 3) := by decide +kernel
theorem dX6_feed_47 : decode cX6_feed 47 = .ok (.aload_n 0, 1) := by decide +kernel
theorem dX6_feed_48 : decode cX6_feed 48 = .ok (.getfield 147, 3) := by decide +kernel
theorem dX6_feed_51 : decode cX6_feed 51 = .ok (.iload_n 1, 1) := by decide +kernel
theorem dX6_feed_52 : decode cX6_feed 52 = .ok (.bipush 8, 2) := by decide +kernel
theorem dX6_feed_54 : decode cX6_feed 54 = .ok (.iload_n 3, 1) := by decide +kernel
theorem dX6_feed_55 : decode cX6_feed 55 = .ok (.imul, 1) := by decide +kernel
theorem dX6_feed_56 : decode cX6_feed 56 = .ok (.ishr, 1) := by decide +kernel
theorem dX6_feed_57 : decode cX6_feed 57 = .ok (.sipush 255, 3) := by decide +kernel
theorem dX6_feed_60 : decode cX6_feed 60 = .ok (.iand, 1) := by decide +kernel
theorem dX6_feed_61 : decode cX6_feed 61 = .ok (.iastore, 1) := by decide +kernel
theorem dX6_feed_62 : decode cX6_feed 62 = .ok (.aload_n 0, 1) := by decide +kernel
theorem dX6_feed_63 : decode cX6_feed 63 = .ok (.dup, 1) := by decide +kernel
theorem dX6_feed_64 : decode cX6_feed 64 = .ok (.getfield 147, 3) := by decide +kernel
theorem dX6_feed_67 : decode cX6_feed 67 = .ok (.iconst 1, 1) := by decide +kernel
theorem dX6_feed_68 : decode cX6_feed 68 = .ok (.iadd, 1) := by decide +kernel
theorem dX6_feed_69 : decode cX6_feed 69 = .ok (.putfield 147, 3) := by decide +kernel
theorem dX6_feed_72 : decode cX6_feed 72 = .ok (.iinc 3 (-1), 3) := by decide +kernel
theorem dX6_feed_75 : decode cX6_feed 75 = .ok (.goto (-36), 3) := by decide +kernel
theorem dX6_feed_78 : decode cX6_feed 78 = .ok (.aload_n 0, 1) := by decide +kernel
theorem dX6_feed_79 : decode cX6_feed 79 = .ok (.getfield 147, 3) := by decide +kernel
theorem dX6_feed_82 : decode cX6_feed 82 = .ok (.ireturn, 1) := by decide +kernel
theorem dX6_wipe_0 : decode cX6_wipe 0 = .ok (.aload_n 0, 1) := by decide +kernel
theorem dX6_wipe_1 : decode cX6_wipe 1 = .ok (.getfield 147, 3) := by decide +kernel
theorem dX6_wipe_4 : decode cX6_wipe 4 = .ok (.istore_n 1, 1) := by decide +kernel
theorem dX6_wipe_5 : decode cX6_wipe 5 = .ok (.aload_n 0, 1) := by decide +kernel
theorem dX6_wipe_6 : decode cX6_wipe 6 = .ok (.iconst 0, 1) := by decide +kernel
theorem dX6_wipe_7 : decode cX6_wipe 7 = .ok (.putfield 147, 3) := by decide +kernel
theorem dX6_wipe_10 : decode cX6_wipe 10 = .ok (.iload_n 1, 1) := by decide +kernel
theorem dX6_wipe_11 : decode cX6_wipe 11 = .ok (.ireturn, 1) := by decide +kernel
theorem dX6_isByte_0 : decode cX6_isByte 0 = .ok (.iload_n 1, 1) := by decide +kernel
theorem dX6_isByte_1 : decode cX6_isByte 1 = .ok (.aload_n 0, 1) := by decide +kernel
theorem dX6_isByte_2 : decode cX6_isByte 2 = .ok (.getfield 147, 3) := by decide +kernel
theorem dX6_isByte_5 : decode cX6_isByte 5 = .ok (.if_icmp .ge 22, 3) := by decide +kernel
theorem dX6_isByte_8 : decode cX6_isByte 8 = .ok (.aload_n 0, 1) := by decide +kernel
theorem dX6_isByte_9 : decode cX6_isByte 9 = .ok (.getfield 22, 3) := by decide +kernel
theorem dX6_isByte_12 : decode cX6_isByte 12 = .ok (.iload_n 1, 1) := by decide +kernel
theorem dX6_isByte_13 : decode cX6_isByte 13 = .ok (.iaload, 1) := by decide +kernel
theorem dX6_isByte_14 : decode cX6_isByte 14 = .ok (.i2l, 1) := by decide +kernel
theorem dX6_isByte_15 : decode cX6_isByte 15 = .ok (.iload_n 2, 1) := by decide +kernel
theorem dX6_isByte_16 : decode cX6_isByte 16 = .ok (.iload_n 3, 1) := by decide +kernel
theorem dX6_isByte_17 : decode cX6_isByte 17 = .ok (.invokestatic 41, 3) := by decide +kernel
theorem dX6_isByte_20 : decode cX6_isByte 20 = .ok (.ifCond .eq 7, 3) := by decide +kernel
theorem dX6_isByte_23 : decode cX6_isByte 23 = .ok (.iconst 1, 1) := by decide +kernel
theorem dX6_isByte_24 : decode cX6_isByte 24 = .ok (.goto 4, 3) := by decide +kernel
theorem dX6_isByte_27 : decode cX6_isByte 27 = .ok (.iconst 0, 1) := by decide +kernel
theorem dX6_isByte_28 : decode cX6_isByte 28 = .ok (.ireturn, 1) := by decide +kernel
theorem dX6_isName_0 : decode cX6_isName 0 = .ok (.iload_n 2, 1) := by decide +kernel
theorem dX6_isName_1 : decode cX6_isName 1 = .ok (.bipush 7, 2) := by decide +kernel
theorem dX6_isName_3 : decode cX6_isName 3 = .ok (.if_icmp .gt 26, 3) := by decide +kernel
theorem dX6_isName_6 : decode cX6_isName 6 = .ok (.iload_n 2, 1) := by decide +kernel
theorem dX6_isName_7 : decode cX6_isName 7 = .ok (.bipush 7, 2) := by decide +kernel
theorem dX6_isName_9 : decode cX6_isName 9 = .ok (.if_icmp .eq 16, 3) := by decide +kernel
theorem dX6_isName_12 : decode cX6_isName 12 = .ok (.getstatic 151, 3) := by decide +kernel
theorem dX6_isName_15 : decode cX6_isName 15 = .ok (.bipush 7, 2) := by decide +kernel
theorem dX6_isName_17 : decode cX6_isName 17 = .ok (.iload_n 1, 1) := by decide +kernel
theorem dX6_isName_18 : decode cX6_isName 18 = .ok (.imul, 1) := by decide +kernel
theorem dX6_isName_19 : decode cX6_isName 19 = .ok (.iload_n 2, 1) := by decide +kernel
theorem dX6_isName_20 : decode cX6_isName 20 = .ok (.iadd, 1) := by decide +kernel
theorem dX6_isName_21 : decode cX6_isName 21 = .ok (.iaload, 1) := by decide +kernel
theorem dX6_isName_22 : decode cX6_isName 22 = .ok (.ifCond .ne 7, 3) := by decide +kernel
theorem dX6_isName_25 : decode cX6_isName 25 = .ok (.iconst 1, 1) := by decide +kernel
theorem dX6_isName_26 : decode cX6_isName 26 = .ok (.goto 4, 3) := by decide +kernel
theorem dX6_isName_29 : decode cX6_isName 29 = .ok (.iconst 0, 1) := by decide +kernel
theorem dX6_isName_30 : decode cX6_isName 30 = .ok (.istore_n 3, 1) := by decide +kernel
theorem dX6_isName_31 : decode cX6_isName 31 = .ok (.iconst 0, 1) := by decide +kernel
theorem dX6_isName_32 : decode cX6_isName 32 = .ok (.istore 4, 2) := by decide +kernel
theorem dX6_isName_34 : decode cX6_isName 34 = .ok (.iload 4, 2) := by decide +kernel
theorem dX6_isName_36 : decode cX6_isName 36 = .ok (.iload_n 2, 1) := by decide +kernel
theorem dX6_isName_37 : decode cX6_isName 37 = .ok (.if_icmp .ge 45, 3) := by decide +kernel
theorem dX6_isName_40 : decode cX6_isName 40 = .ok (.iload_n 3, 1) := by decide +kernel
theorem dX6_isName_41 : decode cX6_isName 41 = .ok (.ifCond .eq 41, 3) := by decide +kernel
theorem dX6_isName_44 : decode cX6_isName 44 = .ok (.getstatic 151, 3) := by decide +kernel
theorem dX6_isName_47 : decode cX6_isName 47 = .ok (.bipush 7, 2) := by decide +kernel
theorem dX6_isName_49 : decode cX6_isName 49 = .ok (.iload_n 1, 1) := by decide +kernel
theorem dX6_isName_50 : decode cX6_isName 50 = .ok (.imul, 1) := by decide +kernel
theorem dX6_isName_51 : decode cX6_isName 51 = .ok (.iload 4, 2) := by decide +kernel
theorem dX6_isName_53 : decode cX6_isName 53 = .ok (.iadd, 1) := by decide +kernel
theorem dX6_isName_54 : decode cX6_isName 54 = .ok (.iaload, 1) := by decide +kernel
theorem dX6_isName_55 : decode cX6_isName 55 = .ok (.aload_n 0, 1) := by decide +kernel
theorem dX6_isName_56 : decode cX6_isName 56 = .ok (.getfield 22, 3) := by decide +kernel
theorem dX6_isName_59 : decode cX6_isName 59 = .ok (.aload_n 0, 1) := by decide +kernel
theorem dX6_isName_60 : decode cX6_isName 60 = .ok (.getfield 154, 3) := by decide +kernel
theorem dX6_isName_63 : decode cX6_isName 63 = .ok (.iload 4, 2) := by decide +kernel
theorem dX6_isName_65 : decode cX6_isName 65 = .ok (.iadd, 1) := by decide +kernel
theorem dX6_isName_66 : decode cX6_isName 66 = .ok (.iaload, 1) := by decide +kernel
theorem dX6_isName_67 : decode cX6_isName 67 = .ok (.if_icmp .ne 7, 3) := by decide +kernel
theorem dX6_isName_70 : decode cX6_isName 70 = .ok (.iconst 1, 1) := by decide +kernel
theorem dX6_isName_71 : decode cX6_isName 71 = .ok (.goto 4, 3) := by decide +kernel
theorem dX6_isName_74 : decode cX6_isName 74 = .ok (.iconst 0, 1) := by decide +kernel
theorem dX6_isName_75 : decode cX6_isName 75 = .ok (.istore_n 3, 1) := by decide +kernel
theorem dX6_isName_76 : decode cX6_isName 76 = .ok (.iinc 4 1, 3) := by decide +kernel
theorem dX6_isName_79 : decode cX6_isName 79 = .ok (.goto (-45), 3) := by decide +kernel
theorem dX6_isName_82 : decode cX6_isName 82 = .ok (.iload_n 3, 1) := by decide +kernel
theorem dX6_isName_83 : decode cX6_isName 83 = .ok (.ireturn, 1) := by decide +kernel
theorem dX6_wordHere_0 : decode cX6_wordHere 0 = .ok (.iconst 0, 1) := by decide +kernel
theorem dX6_wordHere_1 : decode cX6_wordHere 1 = .ok (.istore_n 1, 1) := by decide +kernel
theorem dX6_wordHere_2 : decode cX6_wordHere 2 = .ok (.iload_n 1, 1) := by decide +kernel
theorem dX6_wordHere_3 : decode cX6_wordHere 3 = .ok (.bipush 11, 2) := by decide +kernel
theorem dX6_wordHere_5 : decode cX6_wordHere 5 = .ok (.if_icmp .ge 26, 3) := by decide +kernel
theorem dX6_wordHere_8 : decode cX6_wordHere 8 = .ok (.aload_n 0, 1) := by decide +kernel
theorem dX6_wordHere_9 : decode cX6_wordHere 9 = .ok (.iload_n 1, 1) := by decide +kernel
theorem dX6_wordHere_10 : decode cX6_wordHere 10 = .ok (.aload_n 0, 1) := by decide +kernel
theorem dX6_wordHere_11 : decode cX6_wordHere 11 = .ok (.getfield 157, 3) := by decide +kernel
theorem dX6_wordHere_14 : decode cX6_wordHere 14 = .ok (.aload_n 0, 1) := by decide +kernel
theorem dX6_wordHere_15 : decode cX6_wordHere 15 = .ok (.getfield 154, 3) := by decide +kernel
theorem dX6_wordHere_18 : decode cX6_wordHere 18 = .ok (.isub, 1) := by decide +kernel
theorem dX6_wordHere_19 : decode cX6_wordHere 19 = .ok (.invokevirtual 160, 3) := by decide +kernel
theorem dX6_wordHere_22 : decode cX6_wordHere 22 = .ok (.ifCond .ne 9, 3) := by decide +kernel
theorem dX6_wordHere_25 : decode cX6_wordHere 25 = .ok (.iinc 1 1, 3) := by decide +kernel
theorem dX6_wordHere_28 : decode cX6_wordHere 28 = .ok (.goto (-26), 3) := by decide +kernel
theorem dX6_wordHere_31 : decode cX6_wordHere 31 = .ok (.iload_n 1, 1) := by decide +kernel
theorem dX6_wordHere_32 : decode cX6_wordHere 32 = .ok (.bipush 11, 2) := by decide +kernel
theorem dX6_wordHere_34 : decode cX6_wordHere 34 = .ok (.if_icmp .ge 7, 3) := by decide +kernel
theorem dX6_wordHere_37 : decode cX6_wordHere 37 = .ok (.iload_n 1, 1) := by decide +kernel
theorem dX6_wordHere_38 : decode cX6_wordHere 38 = .ok (.goto 5, 3) := by decide +kernel
theorem dX6_wordHere_41 : decode cX6_wordHere 41 = .ok (.bipush 23, 2) := by decide +kernel
theorem dX6_wordHere_43 : decode cX6_wordHere 43 = .ok (.ireturn, 1) := by decide +kernel
theorem dX6_reads_0 : decode cX6_reads 0 = .ok (.aload_n 0, 1) := by decide +kernel
theorem dX6_reads_1 : decode cX6_reads 1 = .ok (.aload_n 0, 1) := by decide +kernel
theorem dX6_reads_2 : decode cX6_reads 2 = .ok (.getfield 157, 3) := by decide +kernel
theorem dX6_reads_5 : decode cX6_reads 5 = .ok (.bipush 32, 2) := by decide +kernel
theorem dX6_reads_7 : decode cX6_reads 7 = .ok (.bipush 32, 2) := by decide +kernel
theorem dX6_reads_9 : decode cX6_reads 9 = .ok (.invokevirtual 163, 3) := by decide +kernel
theorem dX6_reads_12 : decode cX6_reads 12 = .ok (.ifCond .eq 16, 3) := by decide +kernel
theorem dX6_reads_15 : decode cX6_reads 15 = .ok (.aload_n 0, 1) := by decide +kernel
theorem dX6_reads_16 : decode cX6_reads 16 = .ok (.dup, 1) := by decide +kernel
theorem dX6_reads_17 : decode cX6_reads 17 = .ok (.getfield 157, 3) := by decide +kernel
theorem dX6_reads_20 : decode cX6_reads 20 = .ok (.iconst 1, 1) := by decide +kernel
theorem dX6_reads_21 : decode cX6_reads 21 = .ok (.iadd, 1) := by decide +kernel
theorem dX6_reads_22 : decode cX6_reads 22 = .ok (.putfield 157, 3) := by decide +kernel
theorem dX6_reads_25 : decode cX6_reads 25 = .ok (.goto (-25), 3) := by decide +kernel
theorem dX6_reads_28 : decode cX6_reads 28 = .ok (.aload_n 0, 1) := by decide +kernel
theorem dX6_reads_29 : decode cX6_reads 29 = .ok (.aload_n 0, 1) := by decide +kernel
theorem dX6_reads_30 : decode cX6_reads 30 = .ok (.getfield 157, 3) := by decide +kernel
theorem dX6_reads_33 : decode cX6_reads 33 = .ok (.putfield 154, 3) := by decide +kernel
theorem dX6_reads_36 : decode cX6_reads 36 = .ok (.aload_n 0, 1) := by decide +kernel
theorem dX6_reads_37 : decode cX6_reads 37 = .ok (.iconst 0, 1) := by decide +kernel
theorem dX6_reads_38 : decode cX6_reads 38 = .ok (.putfield 167, 3) := by decide +kernel
theorem dX6_reads_41 : decode cX6_reads 41 = .ok (.aload_n 0, 1) := by decide +kernel
theorem dX6_reads_42 : decode cX6_reads 42 = .ok (.getfield 157, 3) := by decide +kernel
theorem dX6_reads_45 : decode cX6_reads 45 = .ok (.aload_n 0, 1) := by decide +kernel
theorem dX6_reads_46 : decode cX6_reads 46 = .ok (.getfield 147, 3) := by decide +kernel
theorem dX6_reads_49 : decode cX6_reads 49 = .ok (.if_icmp .ne 12, 3) := by decide +kernel
theorem dX6_reads_52 : decode cX6_reads 52 = .ok (.aload_n 0, 1) := by decide +kernel
theorem dX6_reads_53 : decode cX6_reads 53 = .ok (.bipush 22, 2) := by decide +kernel
theorem dX6_reads_55 : decode cX6_reads 55 = .ok (.putfield 170, 3) := by decide +kernel
theorem dX6_reads_58 : decode cX6_reads 58 = .ok (.goto 186, 3) := by decide +kernel
theorem dX6_reads_61 : decode cX6_reads 61 = .ok (.aload_n 0, 1) := by decide +kernel
theorem dX6_reads_62 : decode cX6_reads 62 = .ok (.aload_n 0, 1) := by decide +kernel
theorem dX6_reads_63 : decode cX6_reads 63 = .ok (.getfield 157, 3) := by decide +kernel
theorem dX6_reads_66 : decode cX6_reads 66 = .ok (.bipush 97, 2) := by decide +kernel
theorem dX6_reads_68 : decode cX6_reads 68 = .ok (.bipush 122, 2) := by decide +kernel
theorem dX6_reads_70 : decode cX6_reads 70 = .ok (.invokevirtual 163, 3) := by decide +kernel
theorem dX6_reads_73 : decode cX6_reads 73 = .ok (.ifCond .eq 42, 3) := by decide +kernel
theorem dX6_reads_76 : decode cX6_reads 76 = .ok (.aload_n 0, 1) := by decide +kernel
theorem dX6_reads_77 : decode cX6_reads 77 = .ok (.aload_n 0, 1) := by decide +kernel
theorem dX6_reads_78 : decode cX6_reads 78 = .ok (.getfield 157, 3) := by decide +kernel
theorem dX6_reads_81 : decode cX6_reads 81 = .ok (.bipush 97, 2) := by decide +kernel
theorem dX6_reads_83 : decode cX6_reads 83 = .ok (.bipush 122, 2) := by decide +kernel
theorem dX6_reads_85 : decode cX6_reads 85 = .ok (.invokevirtual 163, 3) := by decide +kernel
theorem dX6_reads_88 : decode cX6_reads 88 = .ok (.ifCond .eq 16, 3) := by decide +kernel
theorem dX6_reads_91 : decode cX6_reads 91 = .ok (.aload_n 0, 1) := by decide +kernel
theorem dX6_reads_92 : decode cX6_reads 92 = .ok (.dup, 1) := by decide +kernel
theorem dX6_reads_93 : decode cX6_reads 93 = .ok (.getfield 157, 3) := by decide +kernel
theorem dX6_reads_96 : decode cX6_reads 96 = .ok (.iconst 1, 1) := by decide +kernel
theorem dX6_reads_97 : decode cX6_reads 97 = .ok (.iadd, 1) := by decide +kernel
theorem dX6_reads_98 : decode cX6_reads 98 = .ok (.putfield 157, 3) := by decide +kernel
theorem dX6_reads_101 : decode cX6_reads 101 = .ok (.goto (-25), 3) := by decide +kernel
theorem dX6_reads_104 : decode cX6_reads 104 = .ok (.aload_n 0, 1) := by decide +kernel
theorem dX6_reads_105 : decode cX6_reads 105 = .ok (.aload_n 0, 1) := by decide +kernel
theorem dX6_reads_106 : decode cX6_reads 106 = .ok (.invokevirtual 173, 3) := by decide +kernel
theorem dX6_reads_109 : decode cX6_reads 109 = .ok (.putfield 170, 3) := by decide +kernel
theorem dX6_reads_112 : decode cX6_reads 112 = .ok (.goto 132, 3) := by decide +kernel
theorem dX6_reads_115 : decode cX6_reads 115 = .ok (.aload_n 0, 1) := by decide +kernel
theorem dX6_reads_116 : decode cX6_reads 116 = .ok (.aload_n 0, 1) := by decide +kernel
theorem dX6_reads_117 : decode cX6_reads 117 = .ok (.getfield 157, 3) := by decide +kernel
theorem dX6_reads_120 : decode cX6_reads 120 = .ok (.bipush 48, 2) := by decide +kernel
theorem dX6_reads_122 : decode cX6_reads 122 = .ok (.bipush 57, 2) := by decide +kernel
theorem dX6_reads_124 : decode cX6_reads 124 = .ok (.invokevirtual 163, 3) := by decide +kernel
theorem dX6_reads_127 : decode cX6_reads 127 = .ok (.ifCond .eq 81, 3) := by decide +kernel
theorem dX6_reads_130 : decode cX6_reads 130 = .ok (.aload_n 0, 1) := by decide +kernel
theorem dX6_reads_131 : decode cX6_reads 131 = .ok (.aload_n 0, 1) := by decide +kernel
theorem dX6_reads_132 : decode cX6_reads 132 = .ok (.getfield 157, 3) := by decide +kernel
theorem dX6_reads_135 : decode cX6_reads 135 = .ok (.bipush 48, 2) := by decide +kernel
theorem dX6_reads_137 : decode cX6_reads 137 = .ok (.bipush 57, 2) := by decide +kernel
theorem dX6_reads_139 : decode cX6_reads 139 = .ok (.invokevirtual 163, 3) := by decide +kernel
theorem dX6_reads_142 : decode cX6_reads 142 = .ok (.ifCond .eq 57, 3) := by decide +kernel
theorem dX6_reads_145 : decode cX6_reads 145 = .ok (.aload_n 0, 1) := by decide +kernel
theorem dX6_reads_146 : decode cX6_reads 146 = .ok (.aload_n 0, 1) := by decide +kernel
theorem dX6_reads_147 : decode cX6_reads 147 = .ok (.getfield 167, 3) := by decide +kernel
theorem dX6_reads_150 : decode cX6_reads 150 = .ok (.sipush 999, 3) := by decide +kernel
theorem dX6_reads_153 : decode cX6_reads 153 = .ok (.if_icmp .le 10, 3) := by decide +kernel
theorem dX6_reads_156 : decode cX6_reads 156 = .ok (.aload_n 0, 1) := by decide +kernel
theorem dX6_reads_157 : decode cX6_reads 157 = .ok (.getfield 167, 3) := by decide +kernel
theorem dX6_reads_160 : decode cX6_reads 160 = .ok (.goto 23, 3) := by decide +kernel
theorem dX6_reads_163 : decode cX6_reads 163 = .ok (.bipush 10, 2) := by decide +kernel
theorem dX6_reads_165 : decode cX6_reads 165 = .ok (.aload_n 0, 1) := by decide +kernel
theorem dX6_reads_166 : decode cX6_reads 166 = .ok (.getfield 167, 3) := by decide +kernel
theorem dX6_reads_169 : decode cX6_reads 169 = .ok (.imul, 1) := by decide +kernel
theorem dX6_reads_170 : decode cX6_reads 170 = .ok (.aload_n 0, 1) := by decide +kernel
theorem dX6_reads_171 : decode cX6_reads 171 = .ok (.getfield 22, 3) := by decide +kernel
theorem dX6_reads_174 : decode cX6_reads 174 = .ok (.aload_n 0, 1) := by decide +kernel
theorem dX6_reads_175 : decode cX6_reads 175 = .ok (.getfield 157, 3) := by decide +kernel
theorem dX6_reads_178 : decode cX6_reads 178 = .ok (.iaload, 1) := by decide +kernel
theorem dX6_reads_179 : decode cX6_reads 179 = .ok (.iadd, 1) := by decide +kernel
theorem dX6_reads_180 : decode cX6_reads 180 = .ok (.bipush 48, 2) := by decide +kernel
theorem dX6_reads_182 : decode cX6_reads 182 = .ok (.isub, 1) := by decide +kernel
theorem dX6_reads_183 : decode cX6_reads 183 = .ok (.putfield 167, 3) := by decide +kernel
theorem dX6_reads_186 : decode cX6_reads 186 = .ok (.aload_n 0, 1) := by decide +kernel
theorem dX6_reads_187 : decode cX6_reads 187 = .ok (.dup, 1) := by decide +kernel
theorem dX6_reads_188 : decode cX6_reads 188 = .ok (.getfield 157, 3) := by decide +kernel
theorem dX6_reads_191 : decode cX6_reads 191 = .ok (.iconst 1, 1) := by decide +kernel
theorem dX6_reads_192 : decode cX6_reads 192 = .ok (.iadd, 1) := by decide +kernel
theorem dX6_reads_193 : decode cX6_reads 193 = .ok (.putfield 157, 3) := by decide +kernel
theorem dX6_reads_196 : decode cX6_reads 196 = .ok (.goto (-66), 3) := by decide +kernel
theorem dX6_reads_199 : decode cX6_reads 199 = .ok (.aload_n 0, 1) := by decide +kernel
theorem dX6_reads_200 : decode cX6_reads 200 = .ok (.bipush 20, 2) := by decide +kernel
theorem dX6_reads_202 : decode cX6_reads 202 = .ok (.putfield 170, 3) := by decide +kernel
theorem dX6_reads_205 : decode cX6_reads 205 = .ok (.goto 39, 3) := by decide +kernel
theorem dX6_reads_208 : decode cX6_reads 208 = .ok (.aload_n 0, 1) := by decide +kernel
theorem dX6_reads_209 : decode cX6_reads 209 = .ok (.aload_n 0, 1) := by decide +kernel
theorem dX6_reads_210 : decode cX6_reads 210 = .ok (.aload_n 0, 1) := by decide +kernel
theorem dX6_reads_211 : decode cX6_reads 211 = .ok (.getfield 157, 3) := by decide +kernel
theorem dX6_reads_214 : decode cX6_reads 214 = .ok (.bipush 59, 2) := by decide +kernel
theorem dX6_reads_216 : decode cX6_reads 216 = .ok (.bipush 59, 2) := by decide +kernel
theorem dX6_reads_218 : decode cX6_reads 218 = .ok (.invokevirtual 163, 3) := by decide +kernel
theorem dX6_reads_221 : decode cX6_reads 221 = .ok (.ifCond .eq 8, 3) := by decide +kernel
theorem dX6_reads_224 : decode cX6_reads 224 = .ok (.bipush 21, 2) := by decide +kernel
theorem dX6_reads_226 : decode cX6_reads 226 = .ok (.goto 5, 3) := by decide +kernel
theorem dX6_reads_229 : decode cX6_reads 229 = .ok (.bipush 23, 2) := by decide +kernel
theorem dX6_reads_231 : decode cX6_reads 231 = .ok (.putfield 170, 3) := by decide +kernel
theorem dX6_reads_234 : decode cX6_reads 234 = .ok (.aload_n 0, 1) := by decide +kernel
theorem dX6_reads_235 : decode cX6_reads 235 = .ok (.dup, 1) := by decide +kernel
theorem dX6_reads_236 : decode cX6_reads 236 = .ok (.getfield 157, 3) := by decide +kernel
theorem dX6_reads_239 : decode cX6_reads 239 = .ok (.iconst 1, 1) := by decide +kernel
theorem dX6_reads_240 : decode cX6_reads 240 = .ok (.iadd, 1) := by decide +kernel
theorem dX6_reads_241 : decode cX6_reads 241 = .ok (.putfield 157, 3) := by decide +kernel
theorem dX6_reads_244 : decode cX6_reads 244 = .ok (.return_, 1) := by decide +kernel
theorem dX6_passes_0 : decode cX6_passes 0 = .ok (.aload_n 0, 1) := by decide +kernel
theorem dX6_passes_1 : decode cX6_passes 1 = .ok (.getfield 176, 3) := by decide +kernel
theorem dX6_passes_4 : decode cX6_passes 4 = .ok (.ifCond .ne 11, 3) := by decide +kernel
theorem dX6_passes_7 : decode cX6_passes 7 = .ok (.aload_n 0, 1) := by decide +kernel
theorem dX6_passes_8 : decode cX6_passes 8 = .ok (.getfield 170, 3) := by decide +kernel
theorem dX6_passes_11 : decode cX6_passes 11 = .ok (.iload_n 1, 1) := by decide +kernel
theorem dX6_passes_12 : decode cX6_passes 12 = .ok (.if_icmp .eq 5, 3) := by decide +kernel
theorem dX6_passes_15 : decode cX6_passes 15 = .ok (.iconst 0, 1) := by decide +kernel
theorem dX6_passes_16 : decode cX6_passes 16 = .ok (.ireturn, 1) := by decide +kernel
theorem dX6_passes_17 : decode cX6_passes 17 = .ok (.aload_n 0, 1) := by decide +kernel
theorem dX6_passes_18 : decode cX6_passes 18 = .ok (.invokevirtual 180, 3) := by decide +kernel
theorem dX6_passes_21 : decode cX6_passes 21 = .ok (.iconst 1, 1) := by decide +kernel
theorem dX6_passes_22 : decode cX6_passes 22 = .ok (.ireturn, 1) := by decide +kernel
theorem dX6_number_0 : decode cX6_number 0 = .ok (.aload_n 0, 1) := by decide +kernel
theorem dX6_number_1 : decode cX6_number 1 = .ok (.getfield 167, 3) := by decide +kernel
theorem dX6_number_4 : decode cX6_number 4 = .ok (.istore_n 3, 1) := by decide +kernel
theorem dX6_number_5 : decode cX6_number 5 = .ok (.aload_n 0, 1) := by decide +kernel
theorem dX6_number_6 : decode cX6_number 6 = .ok (.aload_n 0, 1) := by decide +kernel
theorem dX6_number_7 : decode cX6_number 7 = .ok (.getfield 176, 3) := by decide +kernel
theorem dX6_number_10 : decode cX6_number 10 = .ok (.ifCond .ne 22, 3) := by decide +kernel
theorem dX6_number_13 : decode cX6_number 13 = .ok (.aload_n 0, 1) := by decide +kernel
theorem dX6_number_14 : decode cX6_number 14 = .ok (.getfield 170, 3) := by decide +kernel
theorem dX6_number_17 : decode cX6_number 17 = .ok (.bipush 20, 2) := by decide +kernel
theorem dX6_number_19 : decode cX6_number 19 = .ok (.if_icmp .ne 13, 3) := by decide +kernel
theorem dX6_number_22 : decode cX6_number 22 = .ok (.iload_n 3, 1) := by decide +kernel
theorem dX6_number_23 : decode cX6_number 23 = .ok (.i2l, 1) := by decide +kernel
theorem dX6_number_24 : decode cX6_number 24 = .ok (.iload_n 1, 1) := by decide +kernel
theorem dX6_number_25 : decode cX6_number 25 = .ok (.iload_n 2, 1) := by decide +kernel
theorem dX6_number_26 : decode cX6_number 26 = .ok (.invokestatic 41, 3) := by decide +kernel
theorem dX6_number_29 : decode cX6_number 29 = .ok (.ifCond .ne 7, 3) := by decide +kernel
theorem dX6_number_32 : decode cX6_number 32 = .ok (.iconst 1, 1) := by decide +kernel
theorem dX6_number_33 : decode cX6_number 33 = .ok (.goto 4, 3) := by decide +kernel
theorem dX6_number_36 : decode cX6_number 36 = .ok (.iconst 0, 1) := by decide +kernel
theorem dX6_number_37 : decode cX6_number 37 = .ok (.putfield 176, 3) := by decide +kernel
theorem dX6_number_40 : decode cX6_number 40 = .ok (.aload_n 0, 1) := by decide +kernel
theorem dX6_number_41 : decode cX6_number 41 = .ok (.getfield 176, 3) := by decide +kernel
theorem dX6_number_44 : decode cX6_number 44 = .ok (.ifCond .ne 7, 3) := by decide +kernel
theorem dX6_number_47 : decode cX6_number 47 = .ok (.aload_n 0, 1) := by decide +kernel
theorem dX6_number_48 : decode cX6_number 48 = .ok (.invokevirtual 180, 3) := by decide +kernel
theorem dX6_number_51 : decode cX6_number 51 = .ok (.iload_n 3, 1) := by decide +kernel
theorem dX6_number_52 : decode cX6_number 52 = .ok (.ireturn, 1) := by decide +kernel
theorem dX6_perhaps_0 : decode cX6_perhaps 0 = .ok (.aload_n 0, 1) := by decide +kernel
theorem dX6_perhaps_1 : decode cX6_perhaps 1 = .ok (.iload_n 1, 1) := by decide +kernel
theorem dX6_perhaps_2 : decode cX6_perhaps 2 = .ok (.invokevirtual 183, 3) := by decide +kernel
theorem dX6_perhaps_5 : decode cX6_perhaps 5 = .ok (.ifCond .eq 12, 3) := by decide +kernel
theorem dX6_perhaps_8 : decode cX6_perhaps 8 = .ok (.aload_n 0, 1) := by decide +kernel
theorem dX6_perhaps_9 : decode cX6_perhaps 9 = .ok (.iload_n 2, 1) := by decide +kernel
theorem dX6_perhaps_10 : decode cX6_perhaps 10 = .ok (.iload_n 3, 1) := by decide +kernel
theorem dX6_perhaps_11 : decode cX6_perhaps 11 = .ok (.invokevirtual 186, 3) := by decide +kernel
theorem dX6_perhaps_14 : decode cX6_perhaps 14 = .ok (.goto 5, 3) := by decide +kernel
theorem dX6_perhaps_17 : decode cX6_perhaps 17 = .ok (.iload 4, 2) := by decide +kernel
theorem dX6_perhaps_19 : decode cX6_perhaps 19 = .ok (.ireturn, 1) := by decide +kernel
theorem dX6_personItem_0 : decode cX6_personItem 0 = .ok (.aload_n 0, 1) := by decide +kernel
theorem dX6_personItem_1 : decode cX6_personItem 1 = .ok (.getfield 170, 3) := by decide +kernel
theorem dX6_personItem_4 : decode cX6_personItem 4 = .ok (.istore_n 1, 1) := by decide +kernel
theorem dX6_personItem_5 : decode cX6_personItem 5 = .ok (.aload_n 0, 1) := by decide +kernel
theorem dX6_personItem_6 : decode cX6_personItem 6 = .ok (.aload_n 0, 1) := by decide +kernel
theorem dX6_personItem_7 : decode cX6_personItem 7 = .ok (.getfield 9, 3) := by decide +kernel
theorem dX6_personItem_10 : decode cX6_personItem 10 = .ok (.iconst 1, 1) := by decide +kernel
theorem dX6_personItem_11 : decode cX6_personItem 11 = .ok (.iaload, 1) := by decide +kernel
theorem dX6_personItem_12 : decode cX6_personItem 12 = .ok (.bipush 8, 2) := by decide +kernel
theorem dX6_personItem_14 : decode cX6_personItem 14 = .ok (.if_icmp .ne 7, 3) := by decide +kernel
theorem dX6_personItem_17 : decode cX6_personItem 17 = .ok (.iconst 1, 1) := by decide +kernel
theorem dX6_personItem_18 : decode cX6_personItem 18 = .ok (.goto 4, 3) := by decide +kernel
theorem dX6_personItem_21 : decode cX6_personItem 21 = .ok (.iconst 0, 1) := by decide +kernel
theorem dX6_personItem_22 : decode cX6_personItem 22 = .ok (.putfield 176, 3) := by decide +kernel
theorem dX6_personItem_25 : decode cX6_personItem 25 = .ok (.aload_n 0, 1) := by decide +kernel
theorem dX6_personItem_26 : decode cX6_personItem 26 = .ok (.getfield 176, 3) := by decide +kernel
theorem dX6_personItem_29 : decode cX6_personItem 29 = .ok (.ifCond .eq 4, 3) := by decide +kernel
theorem dX6_personItem_32 : decode cX6_personItem 32 = .ok (.return_, 1) := by decide +kernel
theorem dX6_personItem_33 : decode cX6_personItem 33 = .ok (.aload_n 0, 1) := by decide +kernel
theorem dX6_personItem_34 : decode cX6_personItem 34 = .ok (.invokevirtual 180, 3) := by decide +kernel
theorem dX6_personItem_37 : decode cX6_personItem 37 = .ok (.aload_n 0, 1) := by decide +kernel
theorem dX6_personItem_38 : decode cX6_personItem 38 = .ok (.bipush 6, 2) := by decide +kernel
theorem dX6_personItem_40 : decode cX6_personItem 40 = .ok (.iconst 0, 1) := by decide +kernel
theorem dX6_personItem_41 : decode cX6_personItem 41 = .ok (.bipush 99, 2) := by decide +kernel
theorem dX6_personItem_43 : decode cX6_personItem 43 = .ok (.bipush 20, 2) := by decide +kernel
theorem dX6_personItem_45 : decode cX6_personItem 45 = .ok (.invokevirtual 189, 3) := by decide +kernel
theorem dX6_personItem_48 : decode cX6_personItem 48 = .ok (.istore_n 2, 1) := by decide +kernel
theorem dX6_personItem_49 : decode cX6_personItem 49 = .ok (.aload_n 0, 1) := by decide +kernel
theorem dX6_personItem_50 : decode cX6_personItem 50 = .ok (.bipush 7, 2) := by decide +kernel
theorem dX6_personItem_52 : decode cX6_personItem 52 = .ok (.iconst 0, 1) := by decide +kernel
theorem dX6_personItem_53 : decode cX6_personItem 53 = .ok (.aload_n 0, 1) := by decide +kernel
theorem dX6_personItem_54 : decode cX6_personItem 54 = .ok (.getfield 9, 3) := by decide +kernel
theorem dX6_personItem_57 : decode cX6_personItem 57 = .ok (.iconst 1, 1) := by decide +kernel
theorem dX6_personItem_58 : decode cX6_personItem 58 = .ok (.iaload, 1) := by decide +kernel
theorem dX6_personItem_59 : decode cX6_personItem 59 = .ok (.iconst (-1), 1) := by decide +kernel
theorem dX6_personItem_60 : decode cX6_personItem 60 = .ok (.invokevirtual 189, 3) := by decide +kernel
theorem dX6_personItem_63 : decode cX6_personItem 63 = .ok (.istore_n 3, 1) := by decide +kernel
theorem dX6_personItem_64 : decode cX6_personItem 64 = .ok (.aload_n 0, 1) := by decide +kernel
theorem dX6_personItem_65 : decode cX6_personItem 65 = .ok (.getfield 176, 3) := by decide +kernel
theorem dX6_personItem_68 : decode cX6_personItem 68 = .ok (.ifCond .ne 12, 3) := by decide +kernel
theorem dX6_personItem_71 : decode cX6_personItem 71 = .ok (.aload_n 0, 1) := by decide +kernel
theorem dX6_personItem_72 : decode cX6_personItem 72 = .ok (.iload_n 1, 1) := by decide +kernel
theorem dX6_personItem_73 : decode cX6_personItem 73 = .ok (.iload_n 2, 1) := by decide +kernel
theorem dX6_personItem_74 : decode cX6_personItem 74 = .ok (.iload_n 3, 1) := by decide +kernel
theorem dX6_personItem_75 : decode cX6_personItem 75 = .ok (.invokevirtual 68, 3) := by decide +kernel
theorem dX6_personItem_78 : decode cX6_personItem 78 = .ok (.istore 4, 2) := by decide +kernel
theorem dX6_personItem_80 : decode cX6_personItem 80 = .ok (.return_, 1) := by decide +kernel
theorem dX6_grindItem_0 : decode cX6_grindItem 0 = .ok (.aload_n 0, 1) := by decide +kernel
theorem dX6_grindItem_1 : decode cX6_grindItem 1 = .ok (.getfield 170, 3) := by decide +kernel
theorem dX6_grindItem_4 : decode cX6_grindItem 4 = .ok (.bipush 20, 2) := by decide +kernel
theorem dX6_grindItem_6 : decode cX6_grindItem 6 = .ok (.if_icmp .ne 30, 3) := by decide +kernel
theorem dX6_grindItem_9 : decode cX6_grindItem 9 = .ok (.aload_n 0, 1) := by decide +kernel
theorem dX6_grindItem_10 : decode cX6_grindItem 10 = .ok (.aload_n 0, 1) := by decide +kernel
theorem dX6_grindItem_11 : decode cX6_grindItem 11 = .ok (.getfield 167, 3) := by decide +kernel
theorem dX6_grindItem_14 : decode cX6_grindItem 14 = .ok (.invokevirtual 45, 3) := by decide +kernel
theorem dX6_grindItem_17 : decode cX6_grindItem 17 = .ok (.ifCond .eq 19, 3) := by decide +kernel
theorem dX6_grindItem_20 : decode cX6_grindItem 20 = .ok (.aload_n 0, 1) := by decide +kernel
theorem dX6_grindItem_21 : decode cX6_grindItem 21 = .ok (.aload_n 0, 1) := by decide +kernel
theorem dX6_grindItem_22 : decode cX6_grindItem 22 = .ok (.getfield 167, 3) := by decide +kernel
theorem dX6_grindItem_25 : decode cX6_grindItem 25 = .ok (.iconst 2, 1) := by decide +kernel
theorem dX6_grindItem_26 : decode cX6_grindItem 26 = .ok (.invokevirtual 49, 3) := by decide +kernel
theorem dX6_grindItem_29 : decode cX6_grindItem 29 = .ok (.ifCond .lt 7, 3) := by decide +kernel
theorem dX6_grindItem_32 : decode cX6_grindItem 32 = .ok (.iconst 1, 1) := by decide +kernel
theorem dX6_grindItem_33 : decode cX6_grindItem 33 = .ok (.goto 4, 3) := by decide +kernel
theorem dX6_grindItem_36 : decode cX6_grindItem 36 = .ok (.iconst 0, 1) := by decide +kernel
theorem dX6_grindItem_37 : decode cX6_grindItem 37 = .ok (.istore_n 1, 1) := by decide +kernel
theorem dX6_grindItem_38 : decode cX6_grindItem 38 = .ok (.aload_n 0, 1) := by decide +kernel
theorem dX6_grindItem_39 : decode cX6_grindItem 39 = .ok (.iload_n 1, 1) := by decide +kernel
theorem dX6_grindItem_40 : decode cX6_grindItem 40 = .ok (.ifCond .ne 7, 3) := by decide +kernel
theorem dX6_grindItem_43 : decode cX6_grindItem 43 = .ok (.iconst 1, 1) := by decide +kernel
theorem dX6_grindItem_44 : decode cX6_grindItem 44 = .ok (.goto 4, 3) := by decide +kernel
theorem dX6_grindItem_47 : decode cX6_grindItem 47 = .ok (.iconst 0, 1) := by decide +kernel
theorem dX6_grindItem_48 : decode cX6_grindItem 48 = .ok (.putfield 176, 3) := by decide +kernel
theorem dX6_grindItem_51 : decode cX6_grindItem 51 = .ok (.iload_n 1, 1) := by decide +kernel
theorem dX6_grindItem_52 : decode cX6_grindItem 52 = .ok (.ifCond .eq 16, 3) := by decide +kernel
theorem dX6_grindItem_55 : decode cX6_grindItem 55 = .ok (.aload_n 0, 1) := by decide +kernel
theorem dX6_grindItem_56 : decode cX6_grindItem 56 = .ok (.aload_n 0, 1) := by decide +kernel
theorem dX6_grindItem_57 : decode cX6_grindItem 57 = .ok (.getfield 167, 3) := by decide +kernel
theorem dX6_grindItem_60 : decode cX6_grindItem 60 = .ok (.invokevirtual 89, 3) := by decide +kernel
theorem dX6_grindItem_63 : decode cX6_grindItem 63 = .ok (.istore_n 2, 1) := by decide +kernel
theorem dX6_grindItem_64 : decode cX6_grindItem 64 = .ok (.aload_n 0, 1) := by decide +kernel
theorem dX6_grindItem_65 : decode cX6_grindItem 65 = .ok (.invokevirtual 180, 3) := by decide +kernel
theorem dX6_grindItem_68 : decode cX6_grindItem 68 = .ok (.return_, 1) := by decide +kernel
theorem dX6_item_0 : decode cX6_item 0 = .ok (.aload_n 0, 1) := by decide +kernel
theorem dX6_item_1 : decode cX6_item 1 = .ok (.getfield 170, 3) := by decide +kernel
theorem dX6_item_4 : decode cX6_item 4 = .ok (.iconst 5, 1) := by decide +kernel
theorem dX6_item_5 : decode cX6_item 5 = .ok (.if_icmp .gt 10, 3) := by decide +kernel
theorem dX6_item_8 : decode cX6_item 8 = .ok (.aload_n 0, 1) := by decide +kernel
theorem dX6_item_9 : decode cX6_item 9 = .ok (.invokevirtual 193, 3) := by decide +kernel
theorem dX6_item_12 : decode cX6_item 12 = .ok (.goto 92, 3) := by decide +kernel
theorem dX6_item_15 : decode cX6_item 15 = .ok (.aload_n 0, 1) := by decide +kernel
theorem dX6_item_16 : decode cX6_item 16 = .ok (.bipush 8, 2) := by decide +kernel
theorem dX6_item_18 : decode cX6_item 18 = .ok (.invokevirtual 183, 3) := by decide +kernel
theorem dX6_item_21 : decode cX6_item 21 = .ok (.ifCond .eq 10, 3) := by decide +kernel
theorem dX6_item_24 : decode cX6_item 24 = .ok (.aload_n 0, 1) := by decide +kernel
theorem dX6_item_25 : decode cX6_item 25 = .ok (.invokevirtual 196, 3) := by decide +kernel
theorem dX6_item_28 : decode cX6_item 28 = .ok (.goto 76, 3) := by decide +kernel
theorem dX6_item_31 : decode cX6_item 31 = .ok (.aload_n 0, 1) := by decide +kernel
theorem dX6_item_32 : decode cX6_item 32 = .ok (.getfield 170, 3) := by decide +kernel
theorem dX6_item_35 : decode cX6_item 35 = .ok (.bipush 9, 2) := by decide +kernel
theorem dX6_item_37 : decode cX6_item 37 = .ok (.if_icmp .eq 12, 3) := by decide +kernel
theorem dX6_item_40 : decode cX6_item 40 = .ok (.aload_n 0, 1) := by decide +kernel
theorem dX6_item_41 : decode cX6_item 41 = .ok (.getfield 170, 3) := by decide +kernel
theorem dX6_item_44 : decode cX6_item 44 = .ok (.bipush 10, 2) := by decide +kernel
theorem dX6_item_46 : decode cX6_item 46 = .ok (.if_icmp .ne 53, 3) := by decide +kernel
theorem dX6_item_49 : decode cX6_item 49 = .ok (.aload_n 0, 1) := by decide +kernel
theorem dX6_item_50 : decode cX6_item 50 = .ok (.getfield 170, 3) := by decide +kernel
theorem dX6_item_53 : decode cX6_item 53 = .ok (.bipush 9, 2) := by decide +kernel
theorem dX6_item_55 : decode cX6_item 55 = .ok (.if_icmp .ne 7, 3) := by decide +kernel
theorem dX6_item_58 : decode cX6_item 58 = .ok (.iconst 1, 1) := by decide +kernel
theorem dX6_item_59 : decode cX6_item 59 = .ok (.goto 4, 3) := by decide +kernel
theorem dX6_item_62 : decode cX6_item 62 = .ok (.iconst 0, 1) := by decide +kernel
theorem dX6_item_63 : decode cX6_item 63 = .ok (.istore_n 1, 1) := by decide +kernel
theorem dX6_item_64 : decode cX6_item 64 = .ok (.aload_n 0, 1) := by decide +kernel
theorem dX6_item_65 : decode cX6_item 65 = .ok (.invokevirtual 180, 3) := by decide +kernel
theorem dX6_item_68 : decode cX6_item 68 = .ok (.aload_n 0, 1) := by decide +kernel
theorem dX6_item_69 : decode cX6_item 69 = .ok (.iconst 0, 1) := by decide +kernel
theorem dX6_item_70 : decode cX6_item 70 = .ok (.aload_n 0, 1) := by decide +kernel
theorem dX6_item_71 : decode cX6_item 71 = .ok (.getfield 9, 3) := by decide +kernel
theorem dX6_item_74 : decode cX6_item 74 = .ok (.iconst 1, 1) := by decide +kernel
theorem dX6_item_75 : decode cX6_item 75 = .ok (.iaload, 1) := by decide +kernel
theorem dX6_item_76 : decode cX6_item 76 = .ok (.iconst 1, 1) := by decide +kernel
theorem dX6_item_77 : decode cX6_item 77 = .ok (.isub, 1) := by decide +kernel
theorem dX6_item_78 : decode cX6_item 78 = .ok (.invokevirtual 186, 3) := by decide +kernel
theorem dX6_item_81 : decode cX6_item 81 = .ok (.istore_n 2, 1) := by decide +kernel
theorem dX6_item_82 : decode cX6_item 82 = .ok (.aload_n 0, 1) := by decide +kernel
theorem dX6_item_83 : decode cX6_item 83 = .ok (.getfield 176, 3) := by decide +kernel
theorem dX6_item_86 : decode cX6_item 86 = .ok (.ifCond .ne 10, 3) := by decide +kernel
theorem dX6_item_89 : decode cX6_item 89 = .ok (.aload_n 0, 1) := by decide +kernel
theorem dX6_item_90 : decode cX6_item 90 = .ok (.iload_n 2, 1) := by decide +kernel
theorem dX6_item_91 : decode cX6_item 91 = .ok (.iconst 3, 1) := by decide +kernel
theorem dX6_item_92 : decode cX6_item 92 = .ok (.iload_n 1, 1) := by decide +kernel
theorem dX6_item_93 : decode cX6_item 93 = .ok (.invokevirtual 63, 3) := by decide +kernel
theorem dX6_item_96 : decode cX6_item 96 = .ok (.goto 8, 3) := by decide +kernel
theorem dX6_item_99 : decode cX6_item 99 = .ok (.aload_n 0, 1) := by decide +kernel
theorem dX6_item_100 : decode cX6_item 100 = .ok (.iconst 1, 1) := by decide +kernel
theorem dX6_item_101 : decode cX6_item 101 = .ok (.putfield 176, 3) := by decide +kernel
theorem dX6_item_104 : decode cX6_item 104 = .ok (.return_, 1) := by decide +kernel
theorem dX6_quay_0 : decode cX6_quay 0 = .ok (.aload_n 0, 1) := by decide +kernel
theorem dX6_quay_1 : decode cX6_quay 1 = .ok (.invokevirtual 123, 3) := by decide +kernel
theorem dX6_quay_4 : decode cX6_quay 4 = .ok (.aload_n 0, 1) := by decide +kernel
theorem dX6_quay_5 : decode cX6_quay 5 = .ok (.iconst 0, 1) := by decide +kernel
theorem dX6_quay_6 : decode cX6_quay 6 = .ok (.putfield 157, 3) := by decide +kernel
theorem dX6_quay_9 : decode cX6_quay 9 = .ok (.aload_n 0, 1) := by decide +kernel
theorem dX6_quay_10 : decode cX6_quay 10 = .ok (.iconst 0, 1) := by decide +kernel
theorem dX6_quay_11 : decode cX6_quay 11 = .ok (.putfield 176, 3) := by decide +kernel
theorem dX6_quay_14 : decode cX6_quay 14 = .ok (.aload_n 0, 1) := by decide +kernel
theorem dX6_quay_15 : decode cX6_quay 15 = .ok (.invokevirtual 180, 3) := by decide +kernel
theorem dX6_quay_18 : decode cX6_quay 18 = .ok (.aload_n 0, 1) := by decide +kernel
theorem dX6_quay_19 : decode cX6_quay 19 = .ok (.invokevirtual 199, 3) := by decide +kernel
theorem dX6_quay_22 : decode cX6_quay 22 = .ok (.iconst 1, 1) := by decide +kernel
theorem dX6_quay_23 : decode cX6_quay 23 = .ok (.istore_n 1, 1) := by decide +kernel
theorem dX6_quay_24 : decode cX6_quay 24 = .ok (.aload_n 0, 1) := by decide +kernel
theorem dX6_quay_25 : decode cX6_quay 25 = .ok (.bipush 21, 2) := by decide +kernel
theorem dX6_quay_27 : decode cX6_quay 27 = .ok (.invokevirtual 183, 3) := by decide +kernel
theorem dX6_quay_30 : decode cX6_quay 30 = .ok (.ifCond .eq 13, 3) := by decide +kernel
theorem dX6_quay_33 : decode cX6_quay 33 = .ok (.aload_n 0, 1) := by decide +kernel
theorem dX6_quay_34 : decode cX6_quay 34 = .ok (.invokevirtual 199, 3) := by decide +kernel
theorem dX6_quay_37 : decode cX6_quay 37 = .ok (.iinc 1 1, 3) := by decide +kernel
theorem dX6_quay_40 : decode cX6_quay 40 = .ok (.goto (-16), 3) := by decide +kernel
theorem dX6_quay_43 : decode cX6_quay 43 = .ok (.aload_n 0, 1) := by decide +kernel
theorem dX6_quay_44 : decode cX6_quay 44 = .ok (.aload_n 0, 1) := by decide +kernel
theorem dX6_quay_45 : decode cX6_quay 45 = .ok (.getfield 176, 3) := by decide +kernel
theorem dX6_quay_48 : decode cX6_quay 48 = .ok (.ifCond .ne 12, 3) := by decide +kernel
theorem dX6_quay_51 : decode cX6_quay 51 = .ok (.aload_n 0, 1) := by decide +kernel
theorem dX6_quay_52 : decode cX6_quay 52 = .ok (.getfield 170, 3) := by decide +kernel
theorem dX6_quay_55 : decode cX6_quay 55 = .ok (.bipush 22, 2) := by decide +kernel
theorem dX6_quay_57 : decode cX6_quay 57 = .ok (.if_icmp .eq 7, 3) := by decide +kernel
theorem dX6_quay_60 : decode cX6_quay 60 = .ok (.iconst 1, 1) := by decide +kernel
theorem dX6_quay_61 : decode cX6_quay 61 = .ok (.goto 4, 3) := by decide +kernel
theorem dX6_quay_64 : decode cX6_quay 64 = .ok (.iconst 0, 1) := by decide +kernel
theorem dX6_quay_65 : decode cX6_quay 65 = .ok (.putfield 176, 3) := by decide +kernel
theorem dX6_quay_68 : decode cX6_quay 68 = .ok (.aload_n 0, 1) := by decide +kernel
theorem dX6_quay_69 : decode cX6_quay 69 = .ok (.iconst 0, 1) := by decide +kernel
theorem dX6_quay_70 : decode cX6_quay 70 = .ok (.putfield 147, 3) := by decide +kernel
theorem dX6_quay_73 : decode cX6_quay 73 = .ok (.aload_n 0, 1) := by decide +kernel
theorem dX6_quay_74 : decode cX6_quay 74 = .ok (.getfield 176, 3) := by decide +kernel
theorem dX6_quay_77 : decode cX6_quay 77 = .ok (.ifCond .ne 5, 3) := by decide +kernel
theorem dX6_quay_80 : decode cX6_quay 80 = .ok (.iload_n 1, 1) := by decide +kernel
theorem dX6_quay_81 : decode cX6_quay 81 = .ok (.ireturn, 1) := by decide +kernel
theorem dX6_quay_82 : decode cX6_quay 82 = .ok (.aload_n 0, 1) := by decide +kernel
theorem dX6_quay_83 : decode cX6_quay 83 = .ok (.invokevirtual 126, 3) := by decide +kernel
theorem dX6_quay_86 : decode cX6_quay 86 = .ok (.iconst (-1), 1) := by decide +kernel
theorem dX6_quay_87 : decode cX6_quay 87 = .ok (.aload_n 0, 1) := by decide +kernel
theorem dX6_quay_88 : decode cX6_quay 88 = .ok (.getfield 154, 3) := by decide +kernel
theorem dX6_quay_91 : decode cX6_quay 91 = .ok (.isub, 1) := by decide +kernel
theorem dX6_quay_92 : decode cX6_quay 92 = .ok (.ireturn, 1) := by decide +kernel
theorem dX6_isSheet_0 : decode cX6_isSheet 0 = .ok (.iload_n 0, 1) := by decide +kernel
theorem dX6_isSheet_1 : decode cX6_isSheet 1 = .ok (.i2l, 1) := by decide +kernel
theorem dX6_isSheet_2 : decode cX6_isSheet 2 = .ok (.iconst 0, 1) := by decide +kernel
theorem dX6_isSheet_3 : decode cX6_isSheet 3 = .ok (.iconst 3, 1) := by decide +kernel
theorem dX6_isSheet_4 : decode cX6_isSheet 4 = .ok (.invokestatic 41, 3) := by decide +kernel
theorem dX6_isSheet_7 : decode cX6_isSheet 7 = .ok (.ireturn, 1) := by decide +kernel
theorem dX6_sheet_0 : decode cX6_sheet 0 = .ok (.iload_n 1, 1) := by decide +kernel
theorem dX6_sheet_1 : decode cX6_sheet 1 = .ok (.invokestatic 202, 3) := by decide +kernel
theorem dX6_sheet_4 : decode cX6_sheet 4 = .ok (.ifCond .eq 25, 3) := by decide +kernel
theorem dX6_sheet_7 : decode cX6_sheet 7 = .ok (.iload_n 2, 1) := by decide +kernel
theorem dX6_sheet_8 : decode cX6_sheet 8 = .ok (.ifCond .eq 28, 3) := by decide +kernel
theorem dX6_sheet_11 : decode cX6_sheet 11 = .ok (.iload_n 2, 1) := by decide +kernel
theorem dX6_sheet_12 : decode cX6_sheet 12 = .ok (.bipush 8, 2) := by decide +kernel
theorem dX6_sheet_14 : decode cX6_sheet 14 = .ok (.if_icmp .eq 22, 3) := by decide +kernel
theorem dX6_sheet_17 : decode cX6_sheet 17 = .ok (.iload_n 2, 1) := by decide +kernel
theorem dX6_sheet_18 : decode cX6_sheet 18 = .ok (.bipush 16, 2) := by decide +kernel
theorem dX6_sheet_20 : decode cX6_sheet 20 = .ok (.if_icmp .eq 16, 3) := by decide +kernel
theorem dX6_sheet_23 : decode cX6_sheet 23 = .ok (.iload_n 2, 1) := by decide +kernel
theorem dX6_sheet_24 : decode cX6_sheet 24 = .ok (.bipush 64, 2) := by decide +kernel
theorem dX6_sheet_26 : decode cX6_sheet 26 = .ok (.if_icmp .eq 10, 3) := by decide +kernel
theorem dX6_sheet_29 : decode cX6_sheet 29 = .ok (.aload_n 0, 1) := by decide +kernel
theorem dX6_sheet_30 : decode cX6_sheet 30 = .ok (.ldc 35, 2) := by decide +kernel
theorem dX6_sheet_32 : decode cX6_sheet 32 = .ok (.invokevirtual 37, 3) := by decide +kernel
theorem dX6_sheet_35 : decode cX6_sheet 35 = .ok (.ireturn, 1) := by decide +kernel
theorem dX6_sheet_36 : decode cX6_sheet 36 = .ok (.iload_n 3, 1) := by decide +kernel
theorem dX6_sheet_37 : decode cX6_sheet 37 = .ok (.ifCond .ge 10, 3) := by decide +kernel
theorem dX6_sheet_40 : decode cX6_sheet 40 = .ok (.aload_n 0, 1) := by decide +kernel
theorem dX6_sheet_41 : decode cX6_sheet 41 = .ok (.ldc 205, 2) := by decide +kernel
theorem dX6_sheet_43 : decode cX6_sheet 43 = .ok (.invokevirtual 37, 3) := by decide +kernel
theorem dX6_sheet_46 : decode cX6_sheet 46 = .ok (.ireturn, 1) := by decide +kernel
theorem dX6_sheet_47 : decode cX6_sheet 47 = .ok (.iload_n 3, 1) := by decide +kernel
theorem dX6_sheet_48 : decode cX6_sheet 48 = .ok (.bipush 40, 2) := by decide +kernel
theorem dX6_sheet_50 : decode cX6_sheet 50 = .ok (.if_icmp .le 10, 3) := by decide +kernel
theorem dX6_sheet_53 : decode cX6_sheet 53 = .ok (.aload_n 0, 1) := by decide +kernel
theorem dX6_sheet_54 : decode cX6_sheet 54 = .ok (.ldc 35, 2) := by decide +kernel
theorem dX6_sheet_56 : decode cX6_sheet 56 = .ok (.invokevirtual 37, 3) := by decide +kernel
theorem dX6_sheet_59 : decode cX6_sheet 59 = .ok (.ireturn, 1) := by decide +kernel
theorem dX6_sheet_60 : decode cX6_sheet 60 = .ok (.aload_n 0, 1) := by decide +kernel
theorem dX6_sheet_61 : decode cX6_sheet 61 = .ok (.getfield 25, 3) := by decide +kernel
theorem dX6_sheet_64 : decode cX6_sheet 64 = .ok (.iload_n 1, 1) := by decide +kernel
theorem dX6_sheet_65 : decode cX6_sheet 65 = .ok (.iload_n 2, 1) := by decide +kernel
theorem dX6_sheet_66 : decode cX6_sheet 66 = .ok (.iastore, 1) := by decide +kernel
theorem dX6_sheet_67 : decode cX6_sheet 67 = .ok (.aload_n 0, 1) := by decide +kernel
theorem dX6_sheet_68 : decode cX6_sheet 68 = .ok (.getfield 28, 3) := by decide +kernel
theorem dX6_sheet_71 : decode cX6_sheet 71 = .ok (.iload_n 1, 1) := by decide +kernel
theorem dX6_sheet_72 : decode cX6_sheet 72 = .ok (.iload_n 2, 1) := by decide +kernel
theorem dX6_sheet_73 : decode cX6_sheet 73 = .ok (.ifCond .ne 7, 3) := by decide +kernel
theorem dX6_sheet_76 : decode cX6_sheet 76 = .ok (.iconst 0, 1) := by decide +kernel
theorem dX6_sheet_77 : decode cX6_sheet 77 = .ok (.goto 4, 3) := by decide +kernel
theorem dX6_sheet_80 : decode cX6_sheet 80 = .ok (.iload_n 3, 1) := by decide +kernel
theorem dX6_sheet_81 : decode cX6_sheet 81 = .ok (.iastore, 1) := by decide +kernel
theorem dX6_sheet_82 : decode cX6_sheet 82 = .ok (.iconst 0, 1) := by decide +kernel
theorem dX6_sheet_83 : decode cX6_sheet 83 = .ok (.istore 4, 2) := by decide +kernel
theorem dX6_sheet_85 : decode cX6_sheet 85 = .ok (.iload 4, 2) := by decide +kernel
theorem dX6_sheet_87 : decode cX6_sheet 87 = .ok (.bipush 40, 2) := by decide +kernel
theorem dX6_sheet_89 : decode cX6_sheet 89 = .ok (.if_icmp .ge 22, 3) := by decide +kernel
theorem dX6_sheet_92 : decode cX6_sheet 92 = .ok (.aload_n 0, 1) := by decide +kernel
theorem dX6_sheet_93 : decode cX6_sheet 93 = .ok (.getfield 31, 3) := by decide +kernel
theorem dX6_sheet_96 : decode cX6_sheet 96 = .ok (.bipush 40, 2) := by decide +kernel
theorem dX6_sheet_98 : decode cX6_sheet 98 = .ok (.iload_n 1, 1) := by decide +kernel
theorem dX6_sheet_99 : decode cX6_sheet 99 = .ok (.imul, 1) := by decide +kernel
theorem dX6_sheet_100 : decode cX6_sheet 100 = .ok (.iload 4, 2) := by decide +kernel
theorem dX6_sheet_102 : decode cX6_sheet 102 = .ok (.iadd, 1) := by decide +kernel
theorem dX6_sheet_103 : decode cX6_sheet 103 = .ok (.lconst 0, 1) := by decide +kernel
theorem dX6_sheet_104 : decode cX6_sheet 104 = .ok (.lastore, 1) := by decide +kernel
theorem dX6_sheet_105 : decode cX6_sheet 105 = .ok (.iinc 4 1, 3) := by decide +kernel
theorem dX6_sheet_108 : decode cX6_sheet 108 = .ok (.goto (-23), 3) := by decide +kernel
theorem dX6_sheet_111 : decode cX6_sheet 111 = .ok (.aload_n 0, 1) := by decide +kernel
theorem dX6_sheet_112 : decode cX6_sheet 112 = .ok (.getfield 28, 3) := by decide +kernel
theorem dX6_sheet_115 : decode cX6_sheet 115 = .ok (.iload_n 1, 1) := by decide +kernel
theorem dX6_sheet_116 : decode cX6_sheet 116 = .ok (.iaload, 1) := by decide +kernel
theorem dX6_sheet_117 : decode cX6_sheet 117 = .ok (.ireturn, 1) := by decide +kernel
theorem dX6_notThere_0 : decode cX6_notThere 0 = .ok (.iload_n 1, 1) := by decide +kernel
theorem dX6_notThere_1 : decode cX6_notThere 1 = .ok (.invokestatic 202, 3) := by decide +kernel
theorem dX6_notThere_4 : decode cX6_notThere 4 = .ok (.ifCond .ne 8, 3) := by decide +kernel
theorem dX6_notThere_7 : decode cX6_notThere 7 = .ok (.ldc 35, 2) := by decide +kernel
theorem dX6_notThere_9 : decode cX6_notThere 9 = .ok (.goto 18, 3) := by decide +kernel
theorem dX6_notThere_12 : decode cX6_notThere 12 = .ok (.aload_n 0, 1) := by decide +kernel
theorem dX6_notThere_13 : decode cX6_notThere 13 = .ok (.getfield 25, 3) := by decide +kernel
theorem dX6_notThere_16 : decode cX6_notThere 16 = .ok (.iload_n 1, 1) := by decide +kernel
theorem dX6_notThere_17 : decode cX6_notThere 17 = .ok (.iaload, 1) := by decide +kernel
theorem dX6_notThere_18 : decode cX6_notThere 18 = .ok (.ifCond .ne 8, 3) := by decide +kernel
theorem dX6_notThere_21 : decode cX6_notThere 21 = .ok (.ldc 206, 2) := by decide +kernel
theorem dX6_notThere_23 : decode cX6_notThere 23 = .ok (.goto 4, 3) := by decide +kernel
theorem dX6_notThere_26 : decode cX6_notThere 26 = .ok (.iconst 0, 1) := by decide +kernel
theorem dX6_notThere_27 : decode cX6_notThere 27 = .ok (.ireturn, 1) := by decide +kernel
theorem dX6_cutTo_0 : decode cX6_cutTo 0 = .ok (.iload_n 0, 1) := by decide +kernel
theorem dX6_cutTo_1 : decode cX6_cutTo 1 = .ok (.bipush 8, 2) := by decide +kernel
theorem dX6_cutTo_3 : decode cX6_cutTo 3 = .ok (.if_icmp .ne 10, 3) := by decide +kernel
theorem dX6_cutTo_6 : decode cX6_cutTo 6 = .ok (.lload_n 1, 1) := by decide +kernel
theorem dX6_cutTo_7 : decode cX6_cutTo 7 = .ok (.l2i, 1) := by decide +kernel
theorem dX6_cutTo_8 : decode cX6_cutTo 8 = .ok (.i2b, 1) := by decide +kernel
theorem dX6_cutTo_9 : decode cX6_cutTo 9 = .ok (.i2l, 1) := by decide +kernel
theorem dX6_cutTo_10 : decode cX6_cutTo 10 = .ok (.goto 17, 3) := by decide +kernel
theorem dX6_cutTo_13 : decode cX6_cutTo 13 = .ok (.iload_n 0, 1) := by decide +kernel
theorem dX6_cutTo_14 : decode cX6_cutTo 14 = .ok (.bipush 16, 2) := by decide +kernel
theorem dX6_cutTo_16 : decode cX6_cutTo 16 = .ok (.if_icmp .ne 10, 3) := by decide +kernel
theorem dX6_cutTo_19 : decode cX6_cutTo 19 = .ok (.lload_n 1, 1) := by decide +kernel
theorem dX6_cutTo_20 : decode cX6_cutTo 20 = .ok (.l2i, 1) := by decide +kernel
theorem dX6_cutTo_21 : decode cX6_cutTo 21 = .ok (.i2s, 1) := by decide +kernel
theorem dX6_cutTo_22 : decode cX6_cutTo 22 = .ok (.i2l, 1) := by decide +kernel
theorem dX6_cutTo_23 : decode cX6_cutTo 23 = .ok (.goto 4, 3) := by decide +kernel
theorem dX6_cutTo_26 : decode cX6_cutTo 26 = .ok (.lload_n 1, 1) := by decide +kernel
theorem dX6_cutTo_27 : decode cX6_cutTo 27 = .ok (.lreturn, 1) := by decide +kernel
theorem dX6_write_0 : decode cX6_write 0 = .ok (.aload_n 0, 1) := by decide +kernel
theorem dX6_write_1 : decode cX6_write 1 = .ok (.iload_n 1, 1) := by decide +kernel
theorem dX6_write_2 : decode cX6_write 2 = .ok (.invokevirtual 207, 3) := by decide +kernel
theorem dX6_write_5 : decode cX6_write 5 = .ok (.istore 5, 2) := by decide +kernel
theorem dX6_write_7 : decode cX6_write 7 = .ok (.iload 5, 2) := by decide +kernel
theorem dX6_write_9 : decode cX6_write 9 = .ok (.ifCond .ne 24, 3) := by decide +kernel
theorem dX6_write_12 : decode cX6_write 12 = .ok (.iload_n 2, 1) := by decide +kernel
theorem dX6_write_13 : decode cX6_write 13 = .ok (.i2l, 1) := by decide +kernel
theorem dX6_write_14 : decode cX6_write 14 = .ok (.iconst 0, 1) := by decide +kernel
theorem dX6_write_15 : decode cX6_write 15 = .ok (.aload_n 0, 1) := by decide +kernel
theorem dX6_write_16 : decode cX6_write 16 = .ok (.getfield 28, 3) := by decide +kernel
theorem dX6_write_19 : decode cX6_write 19 = .ok (.iload_n 1, 1) := by decide +kernel
theorem dX6_write_20 : decode cX6_write 20 = .ok (.iaload, 1) := by decide +kernel
theorem dX6_write_21 : decode cX6_write 21 = .ok (.iconst 1, 1) := by decide +kernel
theorem dX6_write_22 : decode cX6_write 22 = .ok (.isub, 1) := by decide +kernel
theorem dX6_write_23 : decode cX6_write 23 = .ok (.invokestatic 41, 3) := by decide +kernel
theorem dX6_write_26 : decode cX6_write 26 = .ok (.ifCond .ne 7, 3) := by decide +kernel
theorem dX6_write_29 : decode cX6_write 29 = .ok (.ldc 35, 2) := by decide +kernel
theorem dX6_write_31 : decode cX6_write 31 = .ok (.istore 5, 2) := by decide +kernel
theorem dX6_write_33 : decode cX6_write 33 = .ok (.iload 5, 2) := by decide +kernel
theorem dX6_write_35 : decode cX6_write 35 = .ok (.ifCond .eq 11, 3) := by decide +kernel
theorem dX6_write_38 : decode cX6_write 38 = .ok (.aload_n 0, 1) := by decide +kernel
theorem dX6_write_39 : decode cX6_write 39 = .ok (.iload 5, 2) := by decide +kernel
theorem dX6_write_41 : decode cX6_write 41 = .ok (.invokevirtual 37, 3) := by decide +kernel
theorem dX6_write_44 : decode cX6_write 44 = .ok (.i2l, 1) := by decide +kernel
theorem dX6_write_45 : decode cX6_write 45 = .ok (.lreturn, 1) := by decide +kernel
theorem dX6_write_46 : decode cX6_write 46 = .ok (.aload_n 0, 1) := by decide +kernel
theorem dX6_write_47 : decode cX6_write 47 = .ok (.getfield 31, 3) := by decide +kernel
theorem dX6_write_50 : decode cX6_write 50 = .ok (.bipush 40, 2) := by decide +kernel
theorem dX6_write_52 : decode cX6_write 52 = .ok (.iload_n 1, 1) := by decide +kernel
theorem dX6_write_53 : decode cX6_write 53 = .ok (.imul, 1) := by decide +kernel
theorem dX6_write_54 : decode cX6_write 54 = .ok (.iload_n 2, 1) := by decide +kernel
theorem dX6_write_55 : decode cX6_write 55 = .ok (.iadd, 1) := by decide +kernel
theorem dX6_write_56 : decode cX6_write 56 = .ok (.laload, 1) := by decide +kernel
theorem dX6_write_57 : decode cX6_write 57 = .ok (.lstore 6, 2) := by decide +kernel
theorem dX6_write_59 : decode cX6_write 59 = .ok (.aload_n 0, 1) := by decide +kernel
theorem dX6_write_60 : decode cX6_write 60 = .ok (.getfield 31, 3) := by decide +kernel
theorem dX6_write_63 : decode cX6_write 63 = .ok (.bipush 40, 2) := by decide +kernel
theorem dX6_write_65 : decode cX6_write 65 = .ok (.iload_n 1, 1) := by decide +kernel
theorem dX6_write_66 : decode cX6_write 66 = .ok (.imul, 1) := by decide +kernel
theorem dX6_write_67 : decode cX6_write 67 = .ok (.iload_n 2, 1) := by decide +kernel
theorem dX6_write_68 : decode cX6_write 68 = .ok (.iadd, 1) := by decide +kernel
theorem dX6_write_69 : decode cX6_write 69 = .ok (.aload_n 0, 1) := by decide +kernel
theorem dX6_write_70 : decode cX6_write 70 = .ok (.getfield 25, 3) := by decide +kernel
theorem dX6_write_73 : decode cX6_write 73 = .ok (.iload_n 1, 1) := by decide +kernel
theorem dX6_write_74 : decode cX6_write 74 = .ok (.iaload, 1) := by decide +kernel
theorem dX6_write_75 : decode cX6_write 75 = .ok (.lload_n 3, 1) := by decide +kernel
theorem dX6_write_76 : decode cX6_write 76 = .ok (.invokestatic 210, 3) := by decide +kernel
theorem dX6_write_79 : decode cX6_write 79 = .ok (.lastore, 1) := by decide +kernel
theorem dX6_write_80 : decode cX6_write 80 = .ok (.lload 6, 2) := by decide +kernel
theorem dX6_write_82 : decode cX6_write 82 = .ok (.lreturn, 1) := by decide +kernel
theorem dX6_notCopied_0 : decode cX6_notCopied 0 = .ok (.iload_n 1, 1) := by decide +kernel
theorem dX6_notCopied_1 : decode cX6_notCopied 1 = .ok (.invokestatic 202, 3) := by decide +kernel
theorem dX6_notCopied_4 : decode cX6_notCopied 4 = .ok (.ifCond .eq 10, 3) := by decide +kernel
theorem dX6_notCopied_7 : decode cX6_notCopied 7 = .ok (.iload_n 3, 1) := by decide +kernel
theorem dX6_notCopied_8 : decode cX6_notCopied 8 = .ok (.invokestatic 202, 3) := by decide +kernel
theorem dX6_notCopied_11 : decode cX6_notCopied 11 = .ok (.ifCond .ne 6, 3) := by decide +kernel
theorem dX6_notCopied_14 : decode cX6_notCopied 14 = .ok (.ldc 35, 2) := by decide +kernel
theorem dX6_notCopied_16 : decode cX6_notCopied 16 = .ok (.ireturn, 1) := by decide +kernel
theorem dX6_notCopied_17 : decode cX6_notCopied 17 = .ok (.aload_n 0, 1) := by decide +kernel
theorem dX6_notCopied_18 : decode cX6_notCopied 18 = .ok (.getfield 25, 3) := by decide +kernel
theorem dX6_notCopied_21 : decode cX6_notCopied 21 = .ok (.iload_n 1, 1) := by decide +kernel
theorem dX6_notCopied_22 : decode cX6_notCopied 22 = .ok (.iaload, 1) := by decide +kernel
theorem dX6_notCopied_23 : decode cX6_notCopied 23 = .ok (.ifCond .eq 12, 3) := by decide +kernel
theorem dX6_notCopied_26 : decode cX6_notCopied 26 = .ok (.aload_n 0, 1) := by decide +kernel
theorem dX6_notCopied_27 : decode cX6_notCopied 27 = .ok (.getfield 25, 3) := by decide +kernel
theorem dX6_notCopied_30 : decode cX6_notCopied 30 = .ok (.iload_n 3, 1) := by decide +kernel
theorem dX6_notCopied_31 : decode cX6_notCopied 31 = .ok (.iaload, 1) := by decide +kernel
theorem dX6_notCopied_32 : decode cX6_notCopied 32 = .ok (.ifCond .ne 6, 3) := by decide +kernel
theorem dX6_notCopied_35 : decode cX6_notCopied 35 = .ok (.ldc 206, 2) := by decide +kernel
theorem dX6_notCopied_37 : decode cX6_notCopied 37 = .ok (.ireturn, 1) := by decide +kernel
theorem dX6_notCopied_38 : decode cX6_notCopied 38 = .ok (.aload_n 0, 1) := by decide +kernel
theorem dX6_notCopied_39 : decode cX6_notCopied 39 = .ok (.getfield 25, 3) := by decide +kernel
theorem dX6_notCopied_42 : decode cX6_notCopied 42 = .ok (.iload_n 1, 1) := by decide +kernel
theorem dX6_notCopied_43 : decode cX6_notCopied 43 = .ok (.iaload, 1) := by decide +kernel
theorem dX6_notCopied_44 : decode cX6_notCopied 44 = .ok (.aload_n 0, 1) := by decide +kernel
theorem dX6_notCopied_45 : decode cX6_notCopied 45 = .ok (.getfield 25, 3) := by decide +kernel
theorem dX6_notCopied_48 : decode cX6_notCopied 48 = .ok (.iload_n 3, 1) := by decide +kernel
theorem dX6_notCopied_49 : decode cX6_notCopied 49 = .ok (.iaload, 1) := by decide +kernel
theorem dX6_notCopied_50 : decode cX6_notCopied 50 = .ok (.if_icmp .eq 6, 3) := by decide +kernel
theorem dX6_notCopied_53 : decode cX6_notCopied 53 = .ok (.ldc 87, 2) := by decide +kernel
theorem dX6_notCopied_55 : decode cX6_notCopied 55 = .ok (.ireturn, 1) := by decide +kernel
theorem dX6_notCopied_56 : decode cX6_notCopied 56 = .ok (.iload 5, 2) := by decide +kernel
theorem dX6_notCopied_58 : decode cX6_notCopied 58 = .ok (.ifCond .lt 43, 3) := by decide +kernel
theorem dX6_notCopied_61 : decode cX6_notCopied 61 = .ok (.iload_n 2, 1) := by decide +kernel
theorem dX6_notCopied_62 : decode cX6_notCopied 62 = .ok (.ifCond .lt 39, 3) := by decide +kernel
theorem dX6_notCopied_65 : decode cX6_notCopied 65 = .ok (.iload 4, 2) := by decide +kernel
theorem dX6_notCopied_67 : decode cX6_notCopied 67 = .ok (.ifCond .lt 34, 3) := by decide +kernel
theorem dX6_notCopied_70 : decode cX6_notCopied 70 = .ok (.iload 5, 2) := by decide +kernel
theorem dX6_notCopied_72 : decode cX6_notCopied 72 = .ok (.aload_n 0, 1) := by decide +kernel
theorem dX6_notCopied_73 : decode cX6_notCopied 73 = .ok (.getfield 28, 3) := by decide +kernel
theorem dX6_notCopied_76 : decode cX6_notCopied 76 = .ok (.iload_n 1, 1) := by decide +kernel
theorem dX6_notCopied_77 : decode cX6_notCopied 77 = .ok (.iaload, 1) := by decide +kernel
theorem dX6_notCopied_78 : decode cX6_notCopied 78 = .ok (.iload_n 2, 1) := by decide +kernel
theorem dX6_notCopied_79 : decode cX6_notCopied 79 = .ok (.isub, 1) := by decide +kernel
theorem dX6_notCopied_80 : decode cX6_notCopied 80 = .ok (.if_icmp .gt 21, 3) := by decide +kernel
theorem dX6_notCopied_83 : decode cX6_notCopied 83 = .ok (.iload 5, 2) := by decide +kernel
theorem dX6_notCopied_85 : decode cX6_notCopied 85 = .ok (.aload_n 0, 1) := by decide +kernel
theorem dX6_notCopied_86 : decode cX6_notCopied 86 = .ok (.getfield 28, 3) := by decide +kernel
theorem dX6_notCopied_89 : decode cX6_notCopied 89 = .ok (.iload_n 3, 1) := by decide +kernel
theorem dX6_notCopied_90 : decode cX6_notCopied 90 = .ok (.iaload, 1) := by decide +kernel
theorem dX6_notCopied_91 : decode cX6_notCopied 91 = .ok (.iload 4, 2) := by decide +kernel
theorem dX6_notCopied_93 : decode cX6_notCopied 93 = .ok (.isub, 1) := by decide +kernel
theorem dX6_notCopied_94 : decode cX6_notCopied 94 = .ok (.if_icmp .gt 7, 3) := by decide +kernel
theorem dX6_notCopied_97 : decode cX6_notCopied 97 = .ok (.iconst 1, 1) := by decide +kernel
theorem dX6_notCopied_98 : decode cX6_notCopied 98 = .ok (.goto 4, 3) := by decide +kernel
theorem dX6_notCopied_101 : decode cX6_notCopied 101 = .ok (.iconst 0, 1) := by decide +kernel
theorem dX6_notCopied_102 : decode cX6_notCopied 102 = .ok (.istore 6, 2) := by decide +kernel
theorem dX6_notCopied_104 : decode cX6_notCopied 104 = .ok (.iload 6, 2) := by decide +kernel
theorem dX6_notCopied_106 : decode cX6_notCopied 106 = .ok (.ifCond .eq 7, 3) := by decide +kernel
theorem dX6_notCopied_109 : decode cX6_notCopied 109 = .ok (.iconst 0, 1) := by decide +kernel
theorem dX6_notCopied_110 : decode cX6_notCopied 110 = .ok (.goto 5, 3) := by decide +kernel
theorem dX6_notCopied_113 : decode cX6_notCopied 113 = .ok (.ldc 35, 2) := by decide +kernel
theorem dX6_notCopied_115 : decode cX6_notCopied 115 = .ok (.ireturn, 1) := by decide +kernel
theorem dX6_copy_0 : decode cX6_copy 0 = .ok (.aload_n 0, 1) := by decide +kernel
theorem dX6_copy_1 : decode cX6_copy 1 = .ok (.iload_n 1, 1) := by decide +kernel
theorem dX6_copy_2 : decode cX6_copy 2 = .ok (.iload_n 2, 1) := by decide +kernel
theorem dX6_copy_3 : decode cX6_copy 3 = .ok (.iload_n 3, 1) := by decide +kernel
theorem dX6_copy_4 : decode cX6_copy 4 = .ok (.iload 4, 2) := by decide +kernel
theorem dX6_copy_6 : decode cX6_copy 6 = .ok (.iload 5, 2) := by decide +kernel
theorem dX6_copy_8 : decode cX6_copy 8 = .ok (.invokevirtual 214, 3) := by decide +kernel
theorem dX6_copy_11 : decode cX6_copy 11 = .ok (.istore 6, 2) := by decide +kernel
theorem dX6_copy_13 : decode cX6_copy 13 = .ok (.iload 6, 2) := by decide +kernel
theorem dX6_copy_15 : decode cX6_copy 15 = .ok (.ifCond .eq 10, 3) := by decide +kernel
theorem dX6_copy_18 : decode cX6_copy 18 = .ok (.aload_n 0, 1) := by decide +kernel
theorem dX6_copy_19 : decode cX6_copy 19 = .ok (.iload 6, 2) := by decide +kernel
theorem dX6_copy_21 : decode cX6_copy 21 = .ok (.invokevirtual 37, 3) := by decide +kernel
theorem dX6_copy_24 : decode cX6_copy 24 = .ok (.ireturn, 1) := by decide +kernel
theorem dX6_copy_25 : decode cX6_copy 25 = .ok (.iconst 0, 1) := by decide +kernel
theorem dX6_copy_26 : decode cX6_copy 26 = .ok (.istore 7, 2) := by decide +kernel
theorem dX6_copy_28 : decode cX6_copy 28 = .ok (.iload 7, 2) := by decide +kernel
theorem dX6_copy_30 : decode cX6_copy 30 = .ok (.iload 5, 2) := by decide +kernel
theorem dX6_copy_32 : decode cX6_copy 32 = .ok (.if_icmp .ge 58, 3) := by decide +kernel
theorem dX6_copy_35 : decode cX6_copy 35 = .ok (.iload_n 2, 1) := by decide +kernel
theorem dX6_copy_36 : decode cX6_copy 36 = .ok (.iload 4, 2) := by decide +kernel
theorem dX6_copy_38 : decode cX6_copy 38 = .ok (.if_icmp .ge 13, 3) := by decide +kernel
theorem dX6_copy_41 : decode cX6_copy 41 = .ok (.iload 5, 2) := by decide +kernel
theorem dX6_copy_43 : decode cX6_copy 43 = .ok (.iconst 1, 1) := by decide +kernel
theorem dX6_copy_44 : decode cX6_copy 44 = .ok (.isub, 1) := by decide +kernel
theorem dX6_copy_45 : decode cX6_copy 45 = .ok (.iload 7, 2) := by decide +kernel
theorem dX6_copy_47 : decode cX6_copy 47 = .ok (.isub, 1) := by decide +kernel
theorem dX6_copy_48 : decode cX6_copy 48 = .ok (.goto 5, 3) := by decide +kernel
theorem dX6_copy_51 : decode cX6_copy 51 = .ok (.iload 7, 2) := by decide +kernel
theorem dX6_copy_53 : decode cX6_copy 53 = .ok (.istore 8, 2) := by decide +kernel
theorem dX6_copy_55 : decode cX6_copy 55 = .ok (.aload_n 0, 1) := by decide +kernel
theorem dX6_copy_56 : decode cX6_copy 56 = .ok (.getfield 31, 3) := by decide +kernel
theorem dX6_copy_59 : decode cX6_copy 59 = .ok (.bipush 40, 2) := by decide +kernel
theorem dX6_copy_61 : decode cX6_copy 61 = .ok (.iload_n 3, 1) := by decide +kernel
theorem dX6_copy_62 : decode cX6_copy 62 = .ok (.imul, 1) := by decide +kernel
theorem dX6_copy_63 : decode cX6_copy 63 = .ok (.iload 4, 2) := by decide +kernel
theorem dX6_copy_65 : decode cX6_copy 65 = .ok (.iadd, 1) := by decide +kernel
theorem dX6_copy_66 : decode cX6_copy 66 = .ok (.iload 8, 2) := by decide +kernel
theorem dX6_copy_68 : decode cX6_copy 68 = .ok (.iadd, 1) := by decide +kernel
theorem dX6_copy_69 : decode cX6_copy 69 = .ok (.aload_n 0, 1) := by decide +kernel
theorem dX6_copy_70 : decode cX6_copy 70 = .ok (.getfield 31, 3) := by decide +kernel
theorem dX6_copy_73 : decode cX6_copy 73 = .ok (.bipush 40, 2) := by decide +kernel
theorem dX6_copy_75 : decode cX6_copy 75 = .ok (.iload_n 1, 1) := by decide +kernel
theorem dX6_copy_76 : decode cX6_copy 76 = .ok (.imul, 1) := by decide +kernel
theorem dX6_copy_77 : decode cX6_copy 77 = .ok (.iload_n 2, 1) := by decide +kernel
theorem dX6_copy_78 : decode cX6_copy 78 = .ok (.iadd, 1) := by decide +kernel
theorem dX6_copy_79 : decode cX6_copy 79 = .ok (.iload 8, 2) := by decide +kernel
theorem dX6_copy_81 : decode cX6_copy 81 = .ok (.iadd, 1) := by decide +kernel
theorem dX6_copy_82 : decode cX6_copy 82 = .ok (.laload, 1) := by decide +kernel
theorem dX6_copy_83 : decode cX6_copy 83 = .ok (.lastore, 1) := by decide +kernel
theorem dX6_copy_84 : decode cX6_copy 84 = .ok (.iinc 7 1, 3) := by decide +kernel
theorem dX6_copy_87 : decode cX6_copy 87 = .ok (.goto (-59), 3) := by decide +kernel
theorem dX6_copy_90 : decode cX6_copy 90 = .ok (.iload 5, 2) := by decide +kernel
theorem dX6_copy_92 : decode cX6_copy 92 = .ok (.ireturn, 1) := by decide +kernel
theorem dX6_lays_0 : decode cX6_lays 0 = .ok (.aload_n 0, 1) := by decide +kernel
theorem dX6_lays_1 : decode cX6_lays 1 = .ok (.iload_n 1, 1) := by decide +kernel
theorem dX6_lays_2 : decode cX6_lays 2 = .ok (.invokevirtual 207, 3) := by decide +kernel
theorem dX6_lays_5 : decode cX6_lays 5 = .ok (.istore_n 2, 1) := by decide +kernel
theorem dX6_lays_6 : decode cX6_lays 6 = .ok (.iload_n 2, 1) := by decide +kernel
theorem dX6_lays_7 : decode cX6_lays 7 = .ok (.ifCond .eq 9, 3) := by decide +kernel
theorem dX6_lays_10 : decode cX6_lays 10 = .ok (.aload_n 0, 1) := by decide +kernel
theorem dX6_lays_11 : decode cX6_lays 11 = .ok (.iload_n 2, 1) := by decide +kernel
theorem dX6_lays_12 : decode cX6_lays 12 = .ok (.invokevirtual 37, 3) := by decide +kernel
theorem dX6_lays_15 : decode cX6_lays 15 = .ok (.ireturn, 1) := by decide +kernel
theorem dX6_lays_16 : decode cX6_lays 16 = .ok (.iconst 0, 1) := by decide +kernel
theorem dX6_lays_17 : decode cX6_lays 17 = .ok (.istore_n 3, 1) := by decide +kernel
theorem dX6_lays_18 : decode cX6_lays 18 = .ok (.iconst 0, 1) := by decide +kernel
theorem dX6_lays_19 : decode cX6_lays 19 = .ok (.istore 4, 2) := by decide +kernel
theorem dX6_lays_21 : decode cX6_lays 21 = .ok (.iload 4, 2) := by decide +kernel
theorem dX6_lays_23 : decode cX6_lays 23 = .ok (.aload_n 0, 1) := by decide +kernel
theorem dX6_lays_24 : decode cX6_lays 24 = .ok (.getfield 28, 3) := by decide +kernel
theorem dX6_lays_27 : decode cX6_lays 27 = .ok (.iload_n 1, 1) := by decide +kernel
theorem dX6_lays_28 : decode cX6_lays 28 = .ok (.iaload, 1) := by decide +kernel
theorem dX6_lays_29 : decode cX6_lays 29 = .ok (.if_icmp .ge 64, 3) := by decide +kernel
theorem dX6_lays_32 : decode cX6_lays 32 = .ok (.iload 4, 2) := by decide +kernel
theorem dX6_lays_34 : decode cX6_lays 34 = .ok (.aload_n 0, 1) := by decide +kernel
theorem dX6_lays_35 : decode cX6_lays 35 = .ok (.getfield 9, 3) := by decide +kernel
theorem dX6_lays_38 : decode cX6_lays 38 = .ok (.iconst 1, 1) := by decide +kernel
theorem dX6_lays_39 : decode cX6_lays 39 = .ok (.iaload, 1) := by decide +kernel
theorem dX6_lays_40 : decode cX6_lays 40 = .ok (.if_icmp .ge 53, 3) := by decide +kernel
theorem dX6_lays_43 : decode cX6_lays 43 = .ok (.aload_n 0, 1) := by decide +kernel
theorem dX6_lays_44 : decode cX6_lays 44 = .ok (.getfield 31, 3) := by decide +kernel
theorem dX6_lays_47 : decode cX6_lays 47 = .ok (.bipush 40, 2) := by decide +kernel
theorem dX6_lays_49 : decode cX6_lays 49 = .ok (.iload_n 1, 1) := by decide +kernel
theorem dX6_lays_50 : decode cX6_lays 50 = .ok (.imul, 1) := by decide +kernel
theorem dX6_lays_51 : decode cX6_lays 51 = .ok (.iload 4, 2) := by decide +kernel
theorem dX6_lays_53 : decode cX6_lays 53 = .ok (.iadd, 1) := by decide +kernel
theorem dX6_lays_54 : decode cX6_lays 54 = .ok (.laload, 1) := by decide +kernel
theorem dX6_lays_55 : decode cX6_lays 55 = .ok (.iconst 0, 1) := by decide +kernel
theorem dX6_lays_56 : decode cX6_lays 56 = .ok (.bipush 99, 2) := by decide +kernel
theorem dX6_lays_58 : decode cX6_lays 58 = .ok (.invokestatic 41, 3) := by decide +kernel
theorem dX6_lays_61 : decode cX6_lays 61 = .ok (.ifCond .eq 26, 3) := by decide +kernel
theorem dX6_lays_64 : decode cX6_lays 64 = .ok (.aload_n 0, 1) := by decide +kernel
theorem dX6_lays_65 : decode cX6_lays 65 = .ok (.iload 4, 2) := by decide +kernel
theorem dX6_lays_67 : decode cX6_lays 67 = .ok (.iconst 1, 1) := by decide +kernel
theorem dX6_lays_68 : decode cX6_lays 68 = .ok (.aload_n 0, 1) := by decide +kernel
theorem dX6_lays_69 : decode cX6_lays 69 = .ok (.getfield 31, 3) := by decide +kernel
theorem dX6_lays_72 : decode cX6_lays 72 = .ok (.bipush 40, 2) := by decide +kernel
theorem dX6_lays_74 : decode cX6_lays 74 = .ok (.iload_n 1, 1) := by decide +kernel
theorem dX6_lays_75 : decode cX6_lays 75 = .ok (.imul, 1) := by decide +kernel
theorem dX6_lays_76 : decode cX6_lays 76 = .ok (.iload 4, 2) := by decide +kernel
theorem dX6_lays_78 : decode cX6_lays 78 = .ok (.iadd, 1) := by decide +kernel
theorem dX6_lays_79 : decode cX6_lays 79 = .ok (.laload, 1) := by decide +kernel
theorem dX6_lays_80 : decode cX6_lays 80 = .ok (.l2i, 1) := by decide +kernel
theorem dX6_lays_81 : decode cX6_lays 81 = .ok (.invokevirtual 63, 3) := by decide +kernel
theorem dX6_lays_84 : decode cX6_lays 84 = .ok (.iinc 3 1, 3) := by decide +kernel
theorem dX6_lays_87 : decode cX6_lays 87 = .ok (.iinc 4 1, 3) := by decide +kernel
theorem dX6_lays_90 : decode cX6_lays 90 = .ok (.goto (-69), 3) := by decide +kernel
theorem dX6_lays_93 : decode cX6_lays 93 = .ok (.iload_n 3, 1) := by decide +kernel
theorem dX6_lays_94 : decode cX6_lays 94 = .ok (.ireturn, 1) := by decide +kernel
theorem dX6_notAsked_0 : decode cX6_notAsked 0 = .ok (.aload_n 0, 1) := by decide +kernel
theorem dX6_notAsked_1 : decode cX6_notAsked 1 = .ok (.iload_n 1, 1) := by decide +kernel
theorem dX6_notAsked_2 : decode cX6_notAsked 2 = .ok (.invokevirtual 207, 3) := by decide +kernel
theorem dX6_notAsked_5 : decode cX6_notAsked 5 = .ok (.istore_n 3, 1) := by decide +kernel
theorem dX6_notAsked_6 : decode cX6_notAsked 6 = .ok (.iload_n 3, 1) := by decide +kernel
theorem dX6_notAsked_7 : decode cX6_notAsked 7 = .ok (.ifCond .ne 16, 3) := by decide +kernel
theorem dX6_notAsked_10 : decode cX6_notAsked 10 = .ok (.aload_n 0, 1) := by decide +kernel
theorem dX6_notAsked_11 : decode cX6_notAsked 11 = .ok (.iload_n 2, 1) := by decide +kernel
theorem dX6_notAsked_12 : decode cX6_notAsked 12 = .ok (.invokevirtual 45, 3) := by decide +kernel
theorem dX6_notAsked_15 : decode cX6_notAsked 15 = .ok (.ifCond .ne 8, 3) := by decide +kernel
theorem dX6_notAsked_18 : decode cX6_notAsked 18 = .ok (.ldc 35, 2) := by decide +kernel
theorem dX6_notAsked_20 : decode cX6_notAsked 20 = .ok (.goto 4, 3) := by decide +kernel
theorem dX6_notAsked_23 : decode cX6_notAsked 23 = .ok (.iload_n 3, 1) := by decide +kernel
theorem dX6_notAsked_24 : decode cX6_notAsked 24 = .ok (.ireturn, 1) := by decide +kernel
theorem dX6_book_0 : decode cX6_book 0 = .ok (.aload_n 0, 1) := by decide +kernel
theorem dX6_book_1 : decode cX6_book 1 = .ok (.iload_n 1, 1) := by decide +kernel
theorem dX6_book_2 : decode cX6_book 2 = .ok (.iload_n 2, 1) := by decide +kernel
theorem dX6_book_3 : decode cX6_book 3 = .ok (.invokevirtual 218, 3) := by decide +kernel
theorem dX6_book_6 : decode cX6_book 6 = .ok (.istore_n 3, 1) := by decide +kernel
theorem dX6_book_7 : decode cX6_book 7 = .ok (.iload_n 3, 1) := by decide +kernel
theorem dX6_book_8 : decode cX6_book 8 = .ok (.ifCond .eq 9, 3) := by decide +kernel
theorem dX6_book_11 : decode cX6_book 11 = .ok (.aload_n 0, 1) := by decide +kernel
theorem dX6_book_12 : decode cX6_book 12 = .ok (.iload_n 3, 1) := by decide +kernel
theorem dX6_book_13 : decode cX6_book 13 = .ok (.invokevirtual 37, 3) := by decide +kernel
theorem dX6_book_16 : decode cX6_book 16 = .ok (.ireturn, 1) := by decide +kernel
theorem dX6_book_17 : decode cX6_book 17 = .ok (.aload_n 0, 1) := by decide +kernel
theorem dX6_book_18 : decode cX6_book 18 = .ok (.invokevirtual 123, 3) := by decide +kernel
theorem dX6_book_21 : decode cX6_book 21 = .ok (.iconst 0, 1) := by decide +kernel
theorem dX6_book_22 : decode cX6_book 22 = .ok (.istore 4, 2) := by decide +kernel
theorem dX6_book_24 : decode cX6_book 24 = .ok (.iload 4, 2) := by decide +kernel
theorem dX6_book_26 : decode cX6_book 26 = .ok (.aload_n 0, 1) := by decide +kernel
theorem dX6_book_27 : decode cX6_book 27 = .ok (.getfield 28, 3) := by decide +kernel
theorem dX6_book_30 : decode cX6_book 30 = .ok (.iload_n 1, 1) := by decide +kernel
theorem dX6_book_31 : decode cX6_book 31 = .ok (.iaload, 1) := by decide +kernel
theorem dX6_book_32 : decode cX6_book 32 = .ok (.if_icmp .ge 41, 3) := by decide +kernel
theorem dX6_book_35 : decode cX6_book 35 = .ok (.aload_n 0, 1) := by decide +kernel
theorem dX6_book_36 : decode cX6_book 36 = .ok (.getfield 31, 3) := by decide +kernel
theorem dX6_book_39 : decode cX6_book 39 = .ok (.bipush 40, 2) := by decide +kernel
theorem dX6_book_41 : decode cX6_book 41 = .ok (.iload_n 1, 1) := by decide +kernel
theorem dX6_book_42 : decode cX6_book 42 = .ok (.imul, 1) := by decide +kernel
theorem dX6_book_43 : decode cX6_book 43 = .ok (.iload 4, 2) := by decide +kernel
theorem dX6_book_45 : decode cX6_book 45 = .ok (.iadd, 1) := by decide +kernel
theorem dX6_book_46 : decode cX6_book 46 = .ok (.aload_n 0, 1) := by decide +kernel
theorem dX6_book_47 : decode cX6_book 47 = .ok (.getfield 25, 3) := by decide +kernel
theorem dX6_book_50 : decode cX6_book 50 = .ok (.iload_n 1, 1) := by decide +kernel
theorem dX6_book_51 : decode cX6_book 51 = .ok (.iaload, 1) := by decide +kernel
theorem dX6_book_52 : decode cX6_book 52 = .ok (.aload_n 0, 1) := by decide +kernel
theorem dX6_book_53 : decode cX6_book 53 = .ok (.iload_n 2, 1) := by decide +kernel
theorem dX6_book_54 : decode cX6_book 54 = .ok (.iconst 1, 1) := by decide +kernel
theorem dX6_book_55 : decode cX6_book 55 = .ok (.invokevirtual 49, 3) := by decide +kernel
theorem dX6_book_58 : decode cX6_book 58 = .ok (.i2l, 1) := by decide +kernel
theorem dX6_book_59 : decode cX6_book 59 = .ok (.invokestatic 210, 3) := by decide +kernel
theorem dX6_book_62 : decode cX6_book 62 = .ok (.lastore, 1) := by decide +kernel
theorem dX6_book_63 : decode cX6_book 63 = .ok (.aload_n 0, 1) := by decide +kernel
theorem dX6_book_64 : decode cX6_book 64 = .ok (.invokevirtual 102, 3) := by decide +kernel
theorem dX6_book_67 : decode cX6_book 67 = .ok (.iinc 4 1, 3) := by decide +kernel
theorem dX6_book_70 : decode cX6_book 70 = .ok (.goto (-46), 3) := by decide +kernel
theorem dX6_book_73 : decode cX6_book 73 = .ok (.aload_n 0, 1) := by decide +kernel
theorem dX6_book_74 : decode cX6_book 74 = .ok (.invokevirtual 126, 3) := by decide +kernel
theorem dX6_book_77 : decode cX6_book 77 = .ok (.aload_n 0, 1) := by decide +kernel
theorem dX6_book_78 : decode cX6_book 78 = .ok (.getfield 28, 3) := by decide +kernel
theorem dX6_book_81 : decode cX6_book 81 = .ok (.iload_n 1, 1) := by decide +kernel
theorem dX6_book_82 : decode cX6_book 82 = .ok (.iaload, 1) := by decide +kernel
theorem dX6_book_83 : decode cX6_book 83 = .ok (.ireturn, 1) := by decide +kernel
theorem dX6_isBook_0 : decode cX6_isBook 0 = .ok (.iconst 1, 1) := by decide +kernel
theorem dX6_isBook_1 : decode cX6_isBook 1 = .ok (.istore_n 3, 1) := by decide +kernel
theorem dX6_isBook_2 : decode cX6_isBook 2 = .ok (.iconst 0, 1) := by decide +kernel
theorem dX6_isBook_3 : decode cX6_isBook 3 = .ok (.istore 4, 2) := by decide +kernel
theorem dX6_isBook_5 : decode cX6_isBook 5 = .ok (.iload 4, 2) := by decide +kernel
theorem dX6_isBook_7 : decode cX6_isBook 7 = .ok (.aload_n 0, 1) := by decide +kernel
theorem dX6_isBook_8 : decode cX6_isBook 8 = .ok (.getfield 28, 3) := by decide +kernel
theorem dX6_isBook_11 : decode cX6_isBook 11 = .ok (.iload_n 1, 1) := by decide +kernel
theorem dX6_isBook_12 : decode cX6_isBook 12 = .ok (.iaload, 1) := by decide +kernel
theorem dX6_isBook_13 : decode cX6_isBook 13 = .ok (.if_icmp .ge 46, 3) := by decide +kernel
theorem dX6_isBook_16 : decode cX6_isBook 16 = .ok (.iload_n 3, 1) := by decide +kernel
theorem dX6_isBook_17 : decode cX6_isBook 17 = .ok (.ifCond .eq 42, 3) := by decide +kernel
theorem dX6_isBook_20 : decode cX6_isBook 20 = .ok (.aload_n 0, 1) := by decide +kernel
theorem dX6_isBook_21 : decode cX6_isBook 21 = .ok (.getfield 31, 3) := by decide +kernel
theorem dX6_isBook_24 : decode cX6_isBook 24 = .ok (.bipush 40, 2) := by decide +kernel
theorem dX6_isBook_26 : decode cX6_isBook 26 = .ok (.iload_n 1, 1) := by decide +kernel
theorem dX6_isBook_27 : decode cX6_isBook 27 = .ok (.imul, 1) := by decide +kernel
theorem dX6_isBook_28 : decode cX6_isBook 28 = .ok (.iload 4, 2) := by decide +kernel
theorem dX6_isBook_30 : decode cX6_isBook 30 = .ok (.iadd, 1) := by decide +kernel
theorem dX6_isBook_31 : decode cX6_isBook 31 = .ok (.laload, 1) := by decide +kernel
theorem dX6_isBook_32 : decode cX6_isBook 32 = .ok (.aload_n 0, 1) := by decide +kernel
theorem dX6_isBook_33 : decode cX6_isBook 33 = .ok (.iload_n 2, 1) := by decide +kernel
theorem dX6_isBook_34 : decode cX6_isBook 34 = .ok (.iconst 1, 1) := by decide +kernel
theorem dX6_isBook_35 : decode cX6_isBook 35 = .ok (.invokevirtual 49, 3) := by decide +kernel
theorem dX6_isBook_38 : decode cX6_isBook 38 = .ok (.i2l, 1) := by decide +kernel
theorem dX6_isBook_39 : decode cX6_isBook 39 = .ok (.lcmp, 1) := by decide +kernel
theorem dX6_isBook_40 : decode cX6_isBook 40 = .ok (.ifCond .ne 7, 3) := by decide +kernel
theorem dX6_isBook_43 : decode cX6_isBook 43 = .ok (.iconst 1, 1) := by decide +kernel
theorem dX6_isBook_44 : decode cX6_isBook 44 = .ok (.goto 4, 3) := by decide +kernel
theorem dX6_isBook_47 : decode cX6_isBook 47 = .ok (.iconst 0, 1) := by decide +kernel
theorem dX6_isBook_48 : decode cX6_isBook 48 = .ok (.istore_n 3, 1) := by decide +kernel
theorem dX6_isBook_49 : decode cX6_isBook 49 = .ok (.aload_n 0, 1) := by decide +kernel
theorem dX6_isBook_50 : decode cX6_isBook 50 = .ok (.invokevirtual 102, 3) := by decide +kernel
theorem dX6_isBook_53 : decode cX6_isBook 53 = .ok (.iinc 4 1, 3) := by decide +kernel
theorem dX6_isBook_56 : decode cX6_isBook 56 = .ok (.goto (-51), 3) := by decide +kernel
theorem dX6_isBook_59 : decode cX6_isBook 59 = .ok (.aload_n 0, 1) := by decide +kernel
theorem dX6_isBook_60 : decode cX6_isBook 60 = .ok (.invokevirtual 126, 3) := by decide +kernel
theorem dX6_isBook_63 : decode cX6_isBook 63 = .ok (.iload_n 3, 1) := by decide +kernel
theorem dX6_isBook_64 : decode cX6_isBook 64 = .ok (.ireturn, 1) := by decide +kernel
theorem dX6_read_0 : decode cX6_read 0 = .ok (.aload_n 0, 1) := by decide +kernel
theorem dX6_read_1 : decode cX6_read 1 = .ok (.iload_n 1, 1) := by decide +kernel
theorem dX6_read_2 : decode cX6_read 2 = .ok (.iload_n 2, 1) := by decide +kernel
theorem dX6_read_3 : decode cX6_read 3 = .ok (.invokevirtual 218, 3) := by decide +kernel
theorem dX6_read_6 : decode cX6_read 6 = .ok (.istore_n 3, 1) := by decide +kernel
theorem dX6_read_7 : decode cX6_read 7 = .ok (.iload_n 3, 1) := by decide +kernel
theorem dX6_read_8 : decode cX6_read 8 = .ok (.ifCond .eq 9, 3) := by decide +kernel
theorem dX6_read_11 : decode cX6_read 11 = .ok (.aload_n 0, 1) := by decide +kernel
theorem dX6_read_12 : decode cX6_read 12 = .ok (.iload_n 3, 1) := by decide +kernel
theorem dX6_read_13 : decode cX6_read 13 = .ok (.invokevirtual 37, 3) := by decide +kernel
theorem dX6_read_16 : decode cX6_read 16 = .ok (.ireturn, 1) := by decide +kernel
theorem dX6_read_17 : decode cX6_read 17 = .ok (.aload_n 0, 1) := by decide +kernel
theorem dX6_read_18 : decode cX6_read 18 = .ok (.invokevirtual 123, 3) := by decide +kernel
theorem dX6_read_21 : decode cX6_read 21 = .ok (.iconst 0, 1) := by decide +kernel
theorem dX6_read_22 : decode cX6_read 22 = .ok (.istore 4, 2) := by decide +kernel
theorem dX6_read_24 : decode cX6_read 24 = .ok (.iconst 0, 1) := by decide +kernel
theorem dX6_read_25 : decode cX6_read 25 = .ok (.istore 5, 2) := by decide +kernel
theorem dX6_read_27 : decode cX6_read 27 = .ok (.iload 5, 2) := by decide +kernel
theorem dX6_read_29 : decode cX6_read 29 = .ok (.sipush 600, 3) := by decide +kernel
theorem dX6_read_32 : decode cX6_read 32 = .ok (.if_icmp .ge 50, 3) := by decide +kernel
theorem dX6_read_35 : decode cX6_read 35 = .ok (.aload_n 0, 1) := by decide +kernel
theorem dX6_read_36 : decode cX6_read 36 = .ok (.iload_n 2, 1) := by decide +kernel
theorem dX6_read_37 : decode cX6_read 37 = .ok (.iconst 0, 1) := by decide +kernel
theorem dX6_read_38 : decode cX6_read 38 = .ok (.iload 5, 2) := by decide +kernel
theorem dX6_read_40 : decode cX6_read 40 = .ok (.bipush 100, 2) := by decide +kernel
theorem dX6_read_42 : decode cX6_read 42 = .ok (.idiv, 1) := by decide +kernel
theorem dX6_read_43 : decode cX6_read 43 = .ok (.invokevirtual 63, 3) := by decide +kernel
theorem dX6_read_46 : decode cX6_read 46 = .ok (.aload_n 0, 1) := by decide +kernel
theorem dX6_read_47 : decode cX6_read 47 = .ok (.iload_n 2, 1) := by decide +kernel
theorem dX6_read_48 : decode cX6_read 48 = .ok (.iconst 5, 1) := by decide +kernel
theorem dX6_read_49 : decode cX6_read 49 = .ok (.iload 5, 2) := by decide +kernel
theorem dX6_read_51 : decode cX6_read 51 = .ok (.bipush 100, 2) := by decide +kernel
theorem dX6_read_53 : decode cX6_read 53 = .ok (.irem, 1) := by decide +kernel
theorem dX6_read_54 : decode cX6_read 54 = .ok (.invokevirtual 63, 3) := by decide +kernel
theorem dX6_read_57 : decode cX6_read 57 = .ok (.iload 4, 2) := by decide +kernel
theorem dX6_read_59 : decode cX6_read 59 = .ok (.aload_n 0, 1) := by decide +kernel
theorem dX6_read_60 : decode cX6_read 60 = .ok (.iload_n 1, 1) := by decide +kernel
theorem dX6_read_61 : decode cX6_read 61 = .ok (.iload_n 2, 1) := by decide +kernel
theorem dX6_read_62 : decode cX6_read 62 = .ok (.invokevirtual 221, 3) := by decide +kernel
theorem dX6_read_65 : decode cX6_read 65 = .ok (.ifCond .eq 7, 3) := by decide +kernel
theorem dX6_read_68 : decode cX6_read 68 = .ok (.iconst 1, 1) := by decide +kernel
theorem dX6_read_69 : decode cX6_read 69 = .ok (.goto 4, 3) := by decide +kernel
theorem dX6_read_72 : decode cX6_read 72 = .ok (.iconst 0, 1) := by decide +kernel
theorem dX6_read_73 : decode cX6_read 73 = .ok (.iadd, 1) := by decide +kernel
theorem dX6_read_74 : decode cX6_read 74 = .ok (.istore 4, 2) := by decide +kernel
theorem dX6_read_76 : decode cX6_read 76 = .ok (.iinc 5 1, 3) := by decide +kernel
theorem dX6_read_79 : decode cX6_read 79 = .ok (.goto (-52), 3) := by decide +kernel
theorem dX6_read_82 : decode cX6_read 82 = .ok (.iload 4, 2) := by decide +kernel
theorem dX6_read_84 : decode cX6_read 84 = .ok (.ireturn, 1) := by decide +kernel
theorem dX6_image_0 : decode cX6_image 0 = .ok (.aload_n 0, 1) := by decide +kernel
theorem dX6_image_1 : decode cX6_image 1 = .ok (.getfield 9, 3) := by decide +kernel
theorem dX6_image_4 : decode cX6_image 4 = .ok (.aload_n 0, 1) := by decide +kernel
theorem dX6_image_5 : decode cX6_image 5 = .ok (.getfield 13, 3) := by decide +kernel
theorem dX6_image_8 : decode cX6_image 8 = .ok (.invokestatic 119, 3) := by decide +kernel
theorem dX6_image_11 : decode cX6_image 11 = .ok (.aload_n 0, 1) := by decide +kernel
theorem dX6_image_12 : decode cX6_image 12 = .ok (.iconst 1, 1) := by decide +kernel
theorem dX6_image_13 : decode cX6_image 13 = .ok (.putfield 224, 3) := by decide +kernel
theorem dX6_image_16 : decode cX6_image 16 = .ok (.iconst 1, 1) := by decide +kernel
theorem dX6_image_17 : decode cX6_image 17 = .ok (.ireturn, 1) := by decide +kernel
theorem dX6_undo_0 : decode cX6_undo 0 = .ok (.aload_n 0, 1) := by decide +kernel
theorem dX6_undo_1 : decode cX6_undo 1 = .ok (.getfield 224, 3) := by decide +kernel
theorem dX6_undo_4 : decode cX6_undo 4 = .ok (.ifCond .ne 10, 3) := by decide +kernel
theorem dX6_undo_7 : decode cX6_undo 7 = .ok (.aload_n 0, 1) := by decide +kernel
theorem dX6_undo_8 : decode cX6_undo 8 = .ok (.ldc 36, 2) := by decide +kernel
theorem dX6_undo_10 : decode cX6_undo 10 = .ok (.invokevirtual 37, 3) := by decide +kernel
theorem dX6_undo_13 : decode cX6_undo 13 = .ok (.ireturn, 1) := by decide +kernel
theorem dX6_undo_14 : decode cX6_undo 14 = .ok (.aload_n 0, 1) := by decide +kernel
theorem dX6_undo_15 : decode cX6_undo 15 = .ok (.getfield 13, 3) := by decide +kernel
theorem dX6_undo_18 : decode cX6_undo 18 = .ok (.aload_n 0, 1) := by decide +kernel
theorem dX6_undo_19 : decode cX6_undo 19 = .ok (.getfield 9, 3) := by decide +kernel
theorem dX6_undo_22 : decode cX6_undo 22 = .ok (.invokestatic 119, 3) := by decide +kernel
theorem dX6_undo_25 : decode cX6_undo 25 = .ok (.aload_n 0, 1) := by decide +kernel
theorem dX6_undo_26 : decode cX6_undo 26 = .ok (.getfield 9, 3) := by decide +kernel
theorem dX6_undo_29 : decode cX6_undo 29 = .ok (.iconst 1, 1) := by decide +kernel
theorem dX6_undo_30 : decode cX6_undo 30 = .ok (.iaload, 1) := by decide +kernel
theorem dX6_undo_31 : decode cX6_undo 31 = .ok (.ireturn, 1) := by decide +kernel
theorem dX6_tear_0 : decode cX6_tear 0 = .ok (.aload_n 0, 1) := by decide +kernel
theorem dX6_tear_1 : decode cX6_tear 1 = .ok (.getfield 224, 3) := by decide +kernel
theorem dX6_tear_4 : decode cX6_tear 4 = .ok (.ifCond .eq 7, 3) := by decide +kernel
theorem dX6_tear_7 : decode cX6_tear 7 = .ok (.iconst 1, 1) := by decide +kernel
theorem dX6_tear_8 : decode cX6_tear 8 = .ok (.goto 4, 3) := by decide +kernel
theorem dX6_tear_11 : decode cX6_tear 11 = .ok (.iconst 0, 1) := by decide +kernel
theorem dX6_tear_12 : decode cX6_tear 12 = .ok (.istore_n 1, 1) := by decide +kernel
theorem dX6_tear_13 : decode cX6_tear 13 = .ok (.aload_n 0, 1) := by decide +kernel
theorem dX6_tear_14 : decode cX6_tear 14 = .ok (.iconst 0, 1) := by decide +kernel
theorem dX6_tear_15 : decode cX6_tear 15 = .ok (.putfield 224, 3) := by decide +kernel
theorem dX6_tear_18 : decode cX6_tear 18 = .ok (.iload_n 1, 1) := by decide +kernel
theorem dX6_tear_19 : decode cX6_tear 19 = .ok (.ireturn, 1) := by decide +kernel
theorem dX6_count_0 : decode cX6_count 0 = .ok (.iload_n 1, 1) := by decide +kernel
theorem dX6_count_1 : decode cX6_count 1 = .ok (.tableswitch 60 0 3 #[31, 38, 43, 53], 31) := by decide +kernel
theorem dX6_count_32 : decode cX6_count 32 = .ok (.aload_n 0, 1) := by decide +kernel
theorem dX6_count_33 : decode cX6_count 33 = .ok (.getfield 9, 3) := by decide +kernel
theorem dX6_count_36 : decode cX6_count 36 = .ok (.iconst 1, 1) := by decide +kernel
theorem dX6_count_37 : decode cX6_count 37 = .ok (.iaload, 1) := by decide +kernel
theorem dX6_count_38 : decode cX6_count 38 = .ok (.ireturn, 1) := by decide +kernel
theorem dX6_count_39 : decode cX6_count 39 = .ok (.aload_n 0, 1) := by decide +kernel
theorem dX6_count_40 : decode cX6_count 40 = .ok (.getfield 147, 3) := by decide +kernel
theorem dX6_count_43 : decode cX6_count 43 = .ok (.ireturn, 1) := by decide +kernel
theorem dX6_count_44 : decode cX6_count 44 = .ok (.aload_n 0, 1) := by decide +kernel
theorem dX6_count_45 : decode cX6_count 45 = .ok (.iconst 4, 1) := by decide +kernel
theorem dX6_count_46 : decode cX6_count 46 = .ok (.iconst (-1), 1) := by decide +kernel
theorem dX6_count_47 : decode cX6_count 47 = .ok (.invokevirtual 112, 3) := by decide +kernel
theorem dX6_count_50 : decode cX6_count 50 = .ok (.invokestatic 141, 3) := by decide +kernel
theorem dX6_count_53 : decode cX6_count 53 = .ok (.ireturn, 1) := by decide +kernel
theorem dX6_count_54 : decode cX6_count 54 = .ok (.aload_n 0, 1) := by decide +kernel
theorem dX6_count_55 : decode cX6_count 55 = .ok (.bipush 6, 2) := by decide +kernel
theorem dX6_count_57 : decode cX6_count 57 = .ok (.invokevirtual 109, 3) := by decide +kernel
theorem dX6_count_60 : decode cX6_count 60 = .ok (.ireturn, 1) := by decide +kernel
theorem dX6_count_61 : decode cX6_count 61 = .ok (.aload_n 0, 1) := by decide +kernel
theorem dX6_count_62 : decode cX6_count 62 = .ok (.ldc 35, 2) := by decide +kernel
theorem dX6_count_64 : decode cX6_count 64 = .ok (.invokevirtual 37, 3) := by decide +kernel
theorem dX6_count_67 : decode cX6_count 67 = .ok (.ireturn, 1) := by decide +kernel
theorem dX6_status_0 : decode cX6_status 0 = .ok (.iload_n 1, 1) := by decide +kernel
theorem dX6_status_1 : decode cX6_status 1 = .ok (.i2l, 1) := by decide +kernel
theorem dX6_status_2 : decode cX6_status 2 = .ok (.iconst (-1), 1) := by decide +kernel
theorem dX6_status_3 : decode cX6_status 3 = .ok (.bipush 6, 2) := by decide +kernel
theorem dX6_status_5 : decode cX6_status 5 = .ok (.invokestatic 41, 3) := by decide +kernel
theorem dX6_status_8 : decode cX6_status 8 = .ok (.ifCond .ne 10, 3) := by decide +kernel
theorem dX6_status_11 : decode cX6_status 11 = .ok (.aload_n 0, 1) := by decide +kernel
theorem dX6_status_12 : decode cX6_status 12 = .ok (.ldc 35, 2) := by decide +kernel
theorem dX6_status_14 : decode cX6_status 14 = .ok (.invokevirtual 37, 3) := by decide +kernel
theorem dX6_status_17 : decode cX6_status 17 = .ok (.ireturn, 1) := by decide +kernel
theorem dX6_status_18 : decode cX6_status 18 = .ok (.iconst 0, 1) := by decide +kernel
theorem dX6_status_19 : decode cX6_status 19 = .ok (.istore_n 2, 1) := by decide +kernel
theorem dX6_status_20 : decode cX6_status 20 = .ok (.iconst 0, 1) := by decide +kernel
theorem dX6_status_21 : decode cX6_status 21 = .ok (.istore_n 3, 1) := by decide +kernel
theorem dX6_status_22 : decode cX6_status 22 = .ok (.iload_n 3, 1) := by decide +kernel
theorem dX6_status_23 : decode cX6_status 23 = .ok (.bipush 7, 2) := by decide +kernel
theorem dX6_status_25 : decode cX6_status 25 = .ok (.if_icmp .ge 31, 3) := by decide +kernel
theorem dX6_status_28 : decode cX6_status 28 = .ok (.iload_n 2, 1) := by decide +kernel
theorem dX6_status_29 : decode cX6_status 29 = .ok (.iload_n 1, 1) := by decide +kernel
theorem dX6_status_30 : decode cX6_status 30 = .ok (.ifCond .lt 8, 3) := by decide +kernel
theorem dX6_status_33 : decode cX6_status 33 = .ok (.iload_n 1, 1) := by decide +kernel
theorem dX6_status_34 : decode cX6_status 34 = .ok (.iload_n 3, 1) := by decide +kernel
theorem dX6_status_35 : decode cX6_status 35 = .ok (.if_icmp .ne 12, 3) := by decide +kernel
theorem dX6_status_38 : decode cX6_status 38 = .ok (.aload_n 0, 1) := by decide +kernel
theorem dX6_status_39 : decode cX6_status 39 = .ok (.getfield 19, 3) := by decide +kernel
theorem dX6_status_42 : decode cX6_status 42 = .ok (.iload_n 3, 1) := by decide +kernel
theorem dX6_status_43 : decode cX6_status 43 = .ok (.iaload, 1) := by decide +kernel
theorem dX6_status_44 : decode cX6_status 44 = .ok (.goto 4, 3) := by decide +kernel
theorem dX6_status_47 : decode cX6_status 47 = .ok (.iconst 0, 1) := by decide +kernel
theorem dX6_status_48 : decode cX6_status 48 = .ok (.iadd, 1) := by decide +kernel
theorem dX6_status_49 : decode cX6_status 49 = .ok (.istore_n 2, 1) := by decide +kernel
theorem dX6_status_50 : decode cX6_status 50 = .ok (.iinc 3 1, 3) := by decide +kernel
theorem dX6_status_53 : decode cX6_status 53 = .ok (.goto (-31), 3) := by decide +kernel
theorem dX6_status_56 : decode cX6_status 56 = .ok (.iload_n 2, 1) := by decide +kernel
theorem dX6_status_57 : decode cX6_status 57 = .ok (.ireturn, 1) := by decide +kernel
theorem dJ6_bitCount_0f7a4_0 : decode cJ6_bitCount_0f7a4 0 = .ok (.iload_n 0, 1) := by decide +kernel
theorem dJ6_bitCount_0f7a4_1 : decode cJ6_bitCount_0f7a4 1 = .ok (.iload_n 0, 1) := by decide +kernel
theorem dJ6_bitCount_0f7a4_2 : decode cJ6_bitCount_0f7a4 2 = .ok (.iconst 1, 1) := by decide +kernel
theorem dJ6_bitCount_0f7a4_3 : decode cJ6_bitCount_0f7a4 3 = .ok (.iushr, 1) := by decide +kernel
theorem dJ6_bitCount_0f7a4_4 : decode cJ6_bitCount_0f7a4 4 = .ok (.ldc_w 265, 3) := by decide +kernel
theorem dJ6_bitCount_0f7a4_7 : decode cJ6_bitCount_0f7a4 7 = .ok (.iand, 1) := by decide +kernel
theorem dJ6_bitCount_0f7a4_8 : decode cJ6_bitCount_0f7a4 8 = .ok (.isub, 1) := by decide +kernel
theorem dJ6_bitCount_0f7a4_9 : decode cJ6_bitCount_0f7a4 9 = .ok (.istore_n 0, 1) := by decide +kernel
theorem dJ6_bitCount_0f7a4_10 : decode cJ6_bitCount_0f7a4 10 = .ok (.iload_n 0, 1) := by decide +kernel
theorem dJ6_bitCount_0f7a4_11 : decode cJ6_bitCount_0f7a4 11 = .ok (.ldc_w 266, 3) := by decide +kernel
theorem dJ6_bitCount_0f7a4_14 : decode cJ6_bitCount_0f7a4 14 = .ok (.iand, 1) := by decide +kernel
theorem dJ6_bitCount_0f7a4_15 : decode cJ6_bitCount_0f7a4 15 = .ok (.iload_n 0, 1) := by decide +kernel
theorem dJ6_bitCount_0f7a4_16 : decode cJ6_bitCount_0f7a4 16 = .ok (.iconst 2, 1) := by decide +kernel
theorem dJ6_bitCount_0f7a4_17 : decode cJ6_bitCount_0f7a4 17 = .ok (.iushr, 1) := by decide +kernel
theorem dJ6_bitCount_0f7a4_18 : decode cJ6_bitCount_0f7a4 18 = .ok (.ldc_w 266, 3) := by decide +kernel
theorem dJ6_bitCount_0f7a4_21 : decode cJ6_bitCount_0f7a4 21 = .ok (.iand, 1) := by decide +kernel
theorem dJ6_bitCount_0f7a4_22 : decode cJ6_bitCount_0f7a4 22 = .ok (.iadd, 1) := by decide +kernel
theorem dJ6_bitCount_0f7a4_23 : decode cJ6_bitCount_0f7a4 23 = .ok (.istore_n 0, 1) := by decide +kernel
theorem dJ6_bitCount_0f7a4_24 : decode cJ6_bitCount_0f7a4 24 = .ok (.iload_n 0, 1) := by decide +kernel
theorem dJ6_bitCount_0f7a4_25 : decode cJ6_bitCount_0f7a4 25 = .ok (.iload_n 0, 1) := by decide +kernel
theorem dJ6_bitCount_0f7a4_26 : decode cJ6_bitCount_0f7a4 26 = .ok (.iconst 4, 1) := by decide +kernel
theorem dJ6_bitCount_0f7a4_27 : decode cJ6_bitCount_0f7a4 27 = .ok (.iushr, 1) := by decide +kernel
theorem dJ6_bitCount_0f7a4_28 : decode cJ6_bitCount_0f7a4 28 = .ok (.iadd, 1) := by decide +kernel
theorem dJ6_bitCount_0f7a4_29 : decode cJ6_bitCount_0f7a4 29 = .ok (.ldc_w 267, 3) := by decide +kernel
theorem dJ6_bitCount_0f7a4_32 : decode cJ6_bitCount_0f7a4 32 = .ok (.iand, 1) := by decide +kernel
theorem dJ6_bitCount_0f7a4_33 : decode cJ6_bitCount_0f7a4 33 = .ok (.istore_n 0, 1) := by decide +kernel
theorem dJ6_bitCount_0f7a4_34 : decode cJ6_bitCount_0f7a4 34 = .ok (.iload_n 0, 1) := by decide +kernel
theorem dJ6_bitCount_0f7a4_35 : decode cJ6_bitCount_0f7a4 35 = .ok (.iload_n 0, 1) := by decide +kernel
theorem dJ6_bitCount_0f7a4_36 : decode cJ6_bitCount_0f7a4 36 = .ok (.bipush 8, 2) := by decide +kernel
theorem dJ6_bitCount_0f7a4_38 : decode cJ6_bitCount_0f7a4 38 = .ok (.iushr, 1) := by decide +kernel
theorem dJ6_bitCount_0f7a4_39 : decode cJ6_bitCount_0f7a4 39 = .ok (.iadd, 1) := by decide +kernel
theorem dJ6_bitCount_0f7a4_40 : decode cJ6_bitCount_0f7a4 40 = .ok (.istore_n 0, 1) := by decide +kernel
theorem dJ6_bitCount_0f7a4_41 : decode cJ6_bitCount_0f7a4 41 = .ok (.iload_n 0, 1) := by decide +kernel
theorem dJ6_bitCount_0f7a4_42 : decode cJ6_bitCount_0f7a4 42 = .ok (.iload_n 0, 1) := by decide +kernel
theorem dJ6_bitCount_0f7a4_43 : decode cJ6_bitCount_0f7a4 43 = .ok (.bipush 16, 2) := by decide +kernel
theorem dJ6_bitCount_0f7a4_45 : decode cJ6_bitCount_0f7a4 45 = .ok (.iushr, 1) := by decide +kernel
theorem dJ6_bitCount_0f7a4_46 : decode cJ6_bitCount_0f7a4 46 = .ok (.iadd, 1) := by decide +kernel
theorem dJ6_bitCount_0f7a4_47 : decode cJ6_bitCount_0f7a4 47 = .ok (.istore_n 0, 1) := by decide +kernel
theorem dJ6_bitCount_0f7a4_48 : decode cJ6_bitCount_0f7a4 48 = .ok (.iload_n 0, 1) := by decide +kernel
theorem dJ6_bitCount_0f7a4_49 : decode cJ6_bitCount_0f7a4 49 = .ok (.bipush 63, 2) := by decide +kernel
theorem dJ6_bitCount_0f7a4_51 : decode cJ6_bitCount_0f7a4 51 = .ok (.iand, 1) := by decide +kernel
theorem dJ6_bitCount_0f7a4_52 : decode cJ6_bitCount_0f7a4 52 = .ok (.ireturn, 1) := by decide +kernel
theorem dJ9_max_7cf53_0 : decode cJ9_max_7cf53 0 = .ok (.iload_n 0, 1) := by decide +kernel
theorem dJ9_max_7cf53_1 : decode cJ9_max_7cf53 1 = .ok (.iload_n 1, 1) := by decide +kernel
theorem dJ9_max_7cf53_2 : decode cJ9_max_7cf53 2 = .ok (.if_icmp .lt 7, 3) := by decide +kernel
theorem dJ9_max_7cf53_5 : decode cJ9_max_7cf53 5 = .ok (.iload_n 0, 1) := by decide +kernel
theorem dJ9_max_7cf53_6 : decode cJ9_max_7cf53 6 = .ok (.goto 4, 3) := by decide +kernel
theorem dJ9_max_7cf53_9 : decode cJ9_max_7cf53 9 = .ok (.iload_n 1, 1) := by decide +kernel
theorem dJ9_max_7cf53_10 : decode cJ9_max_7cf53 10 = .ok (.ireturn, 1) := by decide +kernel
theorem dJ9_min_7cf53_0 : decode cJ9_min_7cf53 0 = .ok (.iload_n 0, 1) := by decide +kernel
theorem dJ9_min_7cf53_1 : decode cJ9_min_7cf53 1 = .ok (.iload_n 1, 1) := by decide +kernel
theorem dJ9_min_7cf53_2 : decode cJ9_min_7cf53 2 = .ok (.if_icmp .gt 7, 3) := by decide +kernel
theorem dJ9_min_7cf53_5 : decode cJ9_min_7cf53 5 = .ok (.iload_n 0, 1) := by decide +kernel
theorem dJ9_min_7cf53_6 : decode cJ9_min_7cf53 6 = .ok (.goto 4, 3) := by decide +kernel
theorem dJ9_min_7cf53_9 : decode cJ9_min_7cf53 9 = .ok (.iload_n 1, 1) := by decide +kernel
theorem dJ9_min_7cf53_10 : decode cJ9_min_7cf53 10 = .ok (.ireturn, 1) := by decide +kernel
theorem dJ0_length_8abf5_0 : decode cJ0_length_8abf5 0 = .ok (.aload_n 0, 1) := by decide +kernel
theorem dJ0_length_8abf5_1 : decode cJ0_length_8abf5 1 = .ok (.getfield 9, 3) := by decide +kernel
theorem dJ0_length_8abf5_4 : decode cJ0_length_8abf5 4 = .ok (.arraylength, 1) := by decide +kernel
theorem dJ0_length_8abf5_5 : decode cJ0_length_8abf5 5 = .ok (.aload_n 0, 1) := by decide +kernel
theorem dJ0_length_8abf5_6 : decode cJ0_length_8abf5 6 = .ok (.invokevirtual 335, 3) := by decide +kernel
theorem dJ0_length_8abf5_9 : decode cJ0_length_8abf5 9 = .ok (.ishr, 1) := by decide +kernel
theorem dJ0_length_8abf5_10 : decode cJ0_length_8abf5 10 = .ok (.ireturn, 1) := by decide +kernel
theorem dJ0_charAt_5068e_0 : decode cJ0_charAt_5068e 0 = .ok (.aload_n 0, 1) := by decide +kernel
theorem dJ0_charAt_5068e_1 : decode cJ0_charAt_5068e 1 = .ok (.invokevirtual 492, 3) := by decide +kernel
theorem dJ0_charAt_5068e_4 : decode cJ0_charAt_5068e 4 = .ok (.ifCond .eq 12, 3) := by decide +kernel
theorem dJ0_charAt_5068e_7 : decode cJ0_charAt_5068e 7 = .ok (.aload_n 0, 1) := by decide +kernel
theorem dJ0_charAt_5068e_8 : decode cJ0_charAt_5068e 8 = .ok (.getfield 9, 3) := by decide +kernel
theorem dJ0_charAt_5068e_11 : decode cJ0_charAt_5068e 11 = .ok (.iload_n 1, 1) := by decide +kernel
theorem dJ0_charAt_5068e_12 : decode cJ0_charAt_5068e 12 = .ok (.invokestatic 495, 3) := by decide +kernel
theorem dJ0_charAt_5068e_15 : decode cJ0_charAt_5068e 15 = .ok (.ireturn, 1) := by decide +kernel
theorem dJ0_charAt_5068e_16 : decode cJ0_charAt_5068e 16 = .ok (.aload_n 0, 1) := by decide +kernel
theorem dJ0_charAt_5068e_17 : decode cJ0_charAt_5068e 17 = .ok (.getfield 9, 3) := by decide +kernel
theorem dJ0_charAt_5068e_20 : decode cJ0_charAt_5068e 20 = .ok (.iload_n 1, 1) := by decide +kernel
theorem dJ0_charAt_5068e_21 : decode cJ0_charAt_5068e 21 = .ok (.invokestatic 498, 3) := by decide +kernel
theorem dJ0_charAt_5068e_24 : decode cJ0_charAt_5068e 24 = .ok (.ireturn, 1) := by decide +kernel
theorem dJ0_coder_7d493_0 : decode cJ0_coder_7d493 0 = .ok (.getstatic 38, 3) := by decide +kernel
theorem dJ0_coder_7d493_3 : decode cJ0_coder_7d493 3 = .ok (.ifCond .eq 10, 3) := by decide +kernel
theorem dJ0_coder_7d493_6 : decode cJ0_coder_7d493 6 = .ok (.aload_n 0, 1) := by decide +kernel
theorem dJ0_coder_7d493_7 : decode cJ0_coder_7d493 7 = .ok (.getfield 15, 3) := by decide +kernel
theorem dJ0_coder_7d493_10 : decode cJ0_coder_7d493 10 = .ok (.goto 4, 3) := by decide +kernel
theorem dJ0_coder_7d493_13 : decode cJ0_coder_7d493 13 = .ok (.iconst 1, 1) := by decide +kernel
theorem dJ0_coder_7d493_14 : decode cJ0_coder_7d493 14 = .ok (.ireturn, 1) := by decide +kernel
theorem dJ0_isLatin1_aae02_0 : decode cJ0_isLatin1_aae02 0 = .ok (.getstatic 38, 3) := by decide +kernel
theorem dJ0_isLatin1_aae02_3 : decode cJ0_isLatin1_aae02 3 = .ok (.ifCond .eq 14, 3) := by decide +kernel
theorem dJ0_isLatin1_aae02_6 : decode cJ0_isLatin1_aae02 6 = .ok (.aload_n 0, 1) := by decide +kernel
theorem dJ0_isLatin1_aae02_7 : decode cJ0_isLatin1_aae02 7 = .ok (.getfield 15, 3) := by decide +kernel
theorem dJ0_isLatin1_aae02_10 : decode cJ0_isLatin1_aae02 10 = .ok (.ifCond .ne 7, 3) := by decide +kernel
theorem dJ0_isLatin1_aae02_13 : decode cJ0_isLatin1_aae02 13 = .ok (.iconst 1, 1) := by decide +kernel
theorem dJ0_isLatin1_aae02_14 : decode cJ0_isLatin1_aae02 14 = .ok (.goto 4, 3) := by decide +kernel
theorem dJ0_isLatin1_aae02_17 : decode cJ0_isLatin1_aae02 17 = .ok (.iconst 0, 1) := by decide +kernel
theorem dJ0_isLatin1_aae02_18 : decode cJ0_isLatin1_aae02 18 = .ok (.ireturn, 1) := by decide +kernel
theorem dJ0_checkIndex_df160_0 : decode cJ0_checkIndex_df160 0 = .ok (.iload_n 0, 1) := by decide +kernel
theorem dJ0_checkIndex_df160_1 : decode cJ0_checkIndex_df160 1 = .ok (.iload_n 1, 1) := by decide +kernel
theorem dJ0_checkIndex_df160_2 : decode cJ0_checkIndex_df160 2 = .ok (.getstatic 1053, 3) := by decide +kernel
theorem dJ0_checkIndex_df160_5 : decode cJ0_checkIndex_df160 5 = .ok (.invokestatic 1059, 3) := by decide +kernel
theorem dJ0_checkIndex_df160_8 : decode cJ0_checkIndex_df160 8 = .ok (.pop, 1) := by decide +kernel
theorem dJ0_checkIndex_df160_9 : decode cJ0_checkIndex_df160 9 = .ok (.return_, 1) := by decide +kernel
theorem dJ1_charAt_3b067_0 : decode cJ1_charAt_3b067 0 = .ok (.iload_n 1, 1) := by decide +kernel
theorem dJ1_charAt_3b067_1 : decode cJ1_charAt_3b067 1 = .ok (.aload_n 0, 1) := by decide +kernel
theorem dJ1_charAt_3b067_2 : decode cJ1_charAt_3b067 2 = .ok (.arraylength, 1) := by decide +kernel
theorem dJ1_charAt_3b067_3 : decode cJ1_charAt_3b067 3 = .ok (.invokestatic 9, 3) := by decide +kernel
theorem dJ1_charAt_3b067_6 : decode cJ1_charAt_3b067 6 = .ok (.aload_n 0, 1) := by decide +kernel
theorem dJ1_charAt_3b067_7 : decode cJ1_charAt_3b067 7 = .ok (.iload_n 1, 1) := by decide +kernel
theorem dJ1_charAt_3b067_8 : decode cJ1_charAt_3b067 8 = .ok (.baload, 1) := by decide +kernel
theorem dJ1_charAt_3b067_9 : decode cJ1_charAt_3b067 9 = .ok (.sipush 255, 3) := by decide +kernel
theorem dJ1_charAt_3b067_12 : decode cJ1_charAt_3b067 12 = .ok (.iand, 1) := by decide +kernel
theorem dJ1_charAt_3b067_13 : decode cJ1_charAt_3b067 13 = .ok (.i2c, 1) := by decide +kernel
theorem dJ1_charAt_3b067_14 : decode cJ1_charAt_3b067 14 = .ok (.ireturn, 1) := by decide +kernel
theorem dJ2_getChar_3b067_0 : decode cJ2_getChar_3b067 0 = .ok (.getstatic 44, 3) := by decide +kernel
theorem dJ2_getChar_3b067_3 : decode cJ2_getChar_3b067 3 = .ok (.ifCond .ne 25, 3) := by decide +kernel
theorem dJ2_getChar_3b067_6 : decode cJ2_getChar_3b067 6 = .ok (.iload_n 1, 1) := by decide +kernel
theorem dJ2_getChar_3b067_7 : decode cJ2_getChar_3b067 7 = .ok (.ifCond .lt 11, 3) := by decide +kernel
theorem dJ2_getChar_3b067_10 : decode cJ2_getChar_3b067 10 = .ok (.iload_n 1, 1) := by decide +kernel
theorem dJ2_getChar_3b067_11 : decode cJ2_getChar_3b067 11 = .ok (.aload_n 0, 1) := by decide +kernel
theorem dJ2_getChar_3b067_12 : decode cJ2_getChar_3b067 12 = .ok (.invokestatic 48, 3) := by decide +kernel
theorem dJ2_getChar_3b067_15 : decode cJ2_getChar_3b067 15 = .ok (.if_icmp .lt 13, 3) := by decide +kernel
theorem dJ2_getChar_3b067_18 : decode cJ2_getChar_3b067 18 = .ok (.new 52, 3) := by decide +kernel
theorem dJ2_getChar_3b067_21 : decode cJ2_getChar_3b067 21 = .ok (.dup, 1) := by decide +kernel
theorem dJ2_getChar_3b067_22 : decode cJ2_getChar_3b067 22 = .ok (.ldc 54, 2) := by decide +kernel
theorem dJ2_getChar_3b067_24 : decode cJ2_getChar_3b067 24 = .ok (.invokespecial 56, 3) := by decide +kernel
theorem dJ2_getChar_3b067_27 : decode cJ2_getChar_3b067 27 = .ok (.athrow, 1) := by decide +kernel
theorem dJ2_getChar_3b067_28 : decode cJ2_getChar_3b067 28 = .ok (.iload_n 1, 1) := by decide +kernel
theorem dJ2_getChar_3b067_29 : decode cJ2_getChar_3b067 29 = .ok (.iconst 1, 1) := by decide +kernel
theorem dJ2_getChar_3b067_30 : decode cJ2_getChar_3b067 30 = .ok (.ishl, 1) := by decide +kernel
theorem dJ2_getChar_3b067_31 : decode cJ2_getChar_3b067 31 = .ok (.istore_n 1, 1) := by decide +kernel
theorem dJ2_getChar_3b067_32 : decode cJ2_getChar_3b067 32 = .ok (.aload_n 0, 1) := by decide +kernel
theorem dJ2_getChar_3b067_33 : decode cJ2_getChar_3b067 33 = .ok (.iload_n 1, 1) := by decide +kernel
theorem dJ2_getChar_3b067_34 : decode cJ2_getChar_3b067 34 = .ok (.iinc 1 1, 3) := by decide +kernel
theorem dJ2_getChar_3b067_37 : decode cJ2_getChar_3b067 37 = .ok (.baload, 1) := by decide +kernel
theorem dJ2_getChar_3b067_38 : decode cJ2_getChar_3b067 38 = .ok (.sipush 255, 3) := by decide +kernel
theorem dJ2_getChar_3b067_41 : decode cJ2_getChar_3b067 41 = .ok (.iand, 1) := by decide +kernel
theorem dJ2_getChar_3b067_42 : decode cJ2_getChar_3b067 42 = .ok (.getstatic 59, 3) := by decide +kernel
theorem dJ2_getChar_3b067_45 : decode cJ2_getChar_3b067 45 = .ok (.ishl, 1) := by decide +kernel
theorem dJ2_getChar_3b067_46 : decode cJ2_getChar_3b067 46 = .ok (.aload_n 0, 1) := by decide +kernel
theorem dJ2_getChar_3b067_47 : decode cJ2_getChar_3b067 47 = .ok (.iload_n 1, 1) := by decide +kernel
theorem dJ2_getChar_3b067_48 : decode cJ2_getChar_3b067 48 = .ok (.baload, 1) := by decide +kernel
theorem dJ2_getChar_3b067_49 : decode cJ2_getChar_3b067 49 = .ok (.sipush 255, 3) := by decide +kernel
theorem dJ2_getChar_3b067_52 : decode cJ2_getChar_3b067 52 = .ok (.iand, 1) := by decide +kernel
theorem dJ2_getChar_3b067_53 : decode cJ2_getChar_3b067 53 = .ok (.getstatic 63, 3) := by decide +kernel
theorem dJ2_getChar_3b067_56 : decode cJ2_getChar_3b067 56 = .ok (.ishl, 1) := by decide +kernel
theorem dJ2_getChar_3b067_57 : decode cJ2_getChar_3b067 57 = .ok (.ior, 1) := by decide +kernel
theorem dJ2_getChar_3b067_58 : decode cJ2_getChar_3b067 58 = .ok (.i2c, 1) := by decide +kernel
theorem dJ2_getChar_3b067_59 : decode cJ2_getChar_3b067 59 = .ok (.ireturn, 1) := by decide +kernel
theorem dJ2_length_9d52b_0 : decode cJ2_length_9d52b 0 = .ok (.aload_n 0, 1) := by decide +kernel
theorem dJ2_length_9d52b_1 : decode cJ2_length_9d52b 1 = .ok (.arraylength, 1) := by decide +kernel
theorem dJ2_length_9d52b_2 : decode cJ2_length_9d52b 2 = .ok (.iconst 1, 1) := by decide +kernel
theorem dJ2_length_9d52b_3 : decode cJ2_length_9d52b 3 = .ok (.ishr, 1) := by decide +kernel
theorem dJ2_length_9d52b_4 : decode cJ2_length_9d52b 4 = .ok (.ireturn, 1) := by decide +kernel
theorem dJ2_charAt_3b067_0 : decode cJ2_charAt_3b067 0 = .ok (.iload_n 1, 1) := by decide +kernel
theorem dJ2_charAt_3b067_1 : decode cJ2_charAt_3b067 1 = .ok (.aload_n 0, 1) := by decide +kernel
theorem dJ2_charAt_3b067_2 : decode cJ2_charAt_3b067 2 = .ok (.invokestatic 67, 3) := by decide +kernel
theorem dJ2_charAt_3b067_5 : decode cJ2_charAt_3b067 5 = .ok (.aload_n 0, 1) := by decide +kernel
theorem dJ2_charAt_3b067_6 : decode cJ2_charAt_3b067 6 = .ok (.iload_n 1, 1) := by decide +kernel
theorem dJ2_charAt_3b067_7 : decode cJ2_charAt_3b067 7 = .ok (.invokestatic 71, 3) := by decide +kernel
theorem dJ2_charAt_3b067_10 : decode cJ2_charAt_3b067 10 = .ok (.ireturn, 1) := by decide +kernel
theorem dJ2_checkIndex_2214a_0 : decode cJ2_checkIndex_2214a 0 = .ok (.iload_n 0, 1) := by decide +kernel
theorem dJ2_checkIndex_2214a_1 : decode cJ2_checkIndex_2214a 1 = .ok (.aload_n 1, 1) := by decide +kernel
theorem dJ2_checkIndex_2214a_2 : decode cJ2_checkIndex_2214a 2 = .ok (.invokestatic 48, 3) := by decide +kernel
theorem dJ2_checkIndex_2214a_5 : decode cJ2_checkIndex_2214a 5 = .ok (.invokestatic 414, 3) := by decide +kernel
theorem dJ2_checkIndex_2214a_8 : decode cJ2_checkIndex_2214a 8 = .ok (.return_, 1) := by decide +kernel
theorem dJ3_checkIndex_8e157_0 : decode cJ3_checkIndex_8e157 0 = .ok (.iload_n 0, 1) := by decide +kernel
theorem dJ3_checkIndex_8e157_1 : decode cJ3_checkIndex_8e157 1 = .ok (.ifCond .lt 8, 3) := by decide +kernel
theorem dJ3_checkIndex_8e157_4 : decode cJ3_checkIndex_8e157 4 = .ok (.iload_n 0, 1) := by decide +kernel
theorem dJ3_checkIndex_8e157_5 : decode cJ3_checkIndex_8e157 5 = .ok (.iload_n 1, 1) := by decide +kernel
theorem dJ3_checkIndex_8e157_6 : decode cJ3_checkIndex_8e157 6 = .ok (.if_icmp .lt 10, 3) := by decide +kernel
theorem dJ3_checkIndex_8e157_9 : decode cJ3_checkIndex_8e157 9 = .ok (.aload_n 2, 1) := by decide +kernel
theorem dJ3_checkIndex_8e157_10 : decode cJ3_checkIndex_8e157 10 = .ok (.iload_n 0, 1) := by decide +kernel
theorem dJ3_checkIndex_8e157_11 : decode cJ3_checkIndex_8e157 11 = .ok (.iload_n 1, 1) := by decide +kernel
theorem dJ3_checkIndex_8e157_12 : decode cJ3_checkIndex_8e157 12 = .ok (.invokestatic 95, 3) := by decide +kernel
theorem dJ3_checkIndex_8e157_15 : decode cJ3_checkIndex_8e157 15 = .ok (.athrow, 1) := by decide +kernel
theorem dJ3_checkIndex_8e157_16 : decode cJ3_checkIndex_8e157 16 = .ok (.iload_n 0, 1) := by decide +kernel
theorem dJ3_checkIndex_8e157_17 : decode cJ3_checkIndex_8e157 17 = .ok (.ireturn, 1) := by decide +kernel
end
section
theorem dL_law_0 : decode cL_law 0 = .ok (.new 7, 3) := by decide +kernel
theorem dL_law_3 : decode cL_law 3 = .ok (.dup, 1) := by decide +kernel
theorem dL_law_4 : decode cL_law 4 = .ok (.invokespecial 9, 3) := by decide +kernel
theorem dL_law_7 : decode cL_law 7 = .ok (.astore_n 1, 1) := by decide +kernel
theorem dL_law_8 : decode cL_law 8 = .ok (.new 10, 3) := by decide +kernel
theorem dL_law_11 : decode cL_law 11 = .ok (.dup, 1) := by decide +kernel
theorem dL_law_12 : decode cL_law 12 = .ok (.invokespecial 12, 3) := by decide +kernel
theorem dL_law_15 : decode cL_law 15 = .ok (.astore_n 2, 1) := by decide +kernel
theorem dL_law_16 : decode cL_law 16 = .ok (.iconst 0, 1) := by decide +kernel
theorem dL_law_17 : decode cL_law 17 = .ok (.istore_n 3, 1) := by decide +kernel
theorem dL_law_18 : decode cL_law 18 = .ok (.iload_n 3, 1) := by decide +kernel
theorem dL_law_19 : decode cL_law 19 = .ok (.aload_n 0, 1) := by decide +kernel
theorem dL_law_20 : decode cL_law 20 = .ok (.arraylength, 1) := by decide +kernel
theorem dL_law_21 : decode cL_law 21 = .ok (.bipush 6, 2) := by decide +kernel
theorem dL_law_23 : decode cL_law 23 = .ok (.isub, 1) := by decide +kernel
theorem dL_law_24 : decode cL_law 24 = .ok (.if_icmp .gt 1223, 3) := by decide +kernel
theorem dL_law_27 : decode cL_law 27 = .ok (.aload_n 0, 1) := by decide +kernel
theorem dL_law_28 : decode cL_law 28 = .ok (.iload_n 3, 1) := by decide +kernel
theorem dL_law_29 : decode cL_law 29 = .ok (.iaload, 1) := by decide +kernel
theorem dL_law_30 : decode cL_law 30 = .ok (.bipush 63, 2) := by decide +kernel
theorem dL_law_32 : decode cL_law 32 = .ok (.iand, 1) := by decide +kernel
theorem dL_law_33 : decode cL_law 33 = .ok (.tableswitch 1208 0 35 #[159, 182, 215, 258, 291, 324, 347, 380, 413, 446, 469, 492, 535, 578, 601, 624, 647, 670, 693, 726, 759, 782, 795, 828, 841, 854, 897, 971, 1034, 1057, 1090, 1123, 1136, 1149, 1162, 1185], 159) := by decide +kernel
theorem dL_law_192 : decode cL_law 192 = .ok (.aload_n 1, 1) := by decide +kernel
theorem dL_law_193 : decode cL_law 193 = .ok (.aload_n 0, 1) := by decide +kernel
theorem dL_law_194 : decode cL_law 194 = .ok (.iload_n 3, 1) := by decide +kernel
theorem dL_law_195 : decode cL_law 195 = .ok (.iconst 1, 1) := by decide +kernel
theorem dL_law_196 : decode cL_law 196 = .ok (.iadd, 1) := by decide +kernel
theorem dL_law_197 : decode cL_law 197 = .ok (.iaload, 1) := by decide +kernel
theorem dL_law_198 : decode cL_law 198 = .ok (.invokevirtual 13, 3) := by decide +kernel
theorem dL_law_201 : decode cL_law 201 = .ok (.aload_n 2, 1) := by decide +kernel
theorem dL_law_202 : decode cL_law 202 = .ok (.aload_n 0, 1) := by decide +kernel
theorem dL_law_203 : decode cL_law 203 = .ok (.iload_n 3, 1) := by decide +kernel
theorem dL_law_204 : decode cL_law 204 = .ok (.iconst 1, 1) := by decide +kernel
theorem dL_law_205 : decode cL_law 205 = .ok (.iadd, 1) := by decide +kernel
theorem dL_law_206 : decode cL_law 206 = .ok (.iaload, 1) := by decide +kernel
theorem dL_law_207 : decode cL_law 207 = .ok (.invokevirtual 17, 3) := by decide +kernel
theorem dL_law_210 : decode cL_law 210 = .ok (.if_icmp .eq 1031, 3) := by decide +kernel
theorem dL_law_213 : decode cL_law 213 = .ok (.iconst 0, 1) := by decide +kernel
theorem dL_law_214 : decode cL_law 214 = .ok (.ireturn, 1) := by decide +kernel
theorem dL_law_215 : decode cL_law 215 = .ok (.aload_n 1, 1) := by decide +kernel
theorem dL_law_216 : decode cL_law 216 = .ok (.aload_n 0, 1) := by decide +kernel
theorem dL_law_217 : decode cL_law 217 = .ok (.iload_n 3, 1) := by decide +kernel
theorem dL_law_218 : decode cL_law 218 = .ok (.iconst 1, 1) := by decide +kernel
theorem dL_law_219 : decode cL_law 219 = .ok (.iadd, 1) := by decide +kernel
theorem dL_law_220 : decode cL_law 220 = .ok (.iaload, 1) := by decide +kernel
theorem dL_law_221 : decode cL_law 221 = .ok (.aload_n 0, 1) := by decide +kernel
theorem dL_law_222 : decode cL_law 222 = .ok (.iload_n 3, 1) := by decide +kernel
theorem dL_law_223 : decode cL_law 223 = .ok (.iconst 2, 1) := by decide +kernel
theorem dL_law_224 : decode cL_law 224 = .ok (.iadd, 1) := by decide +kernel
theorem dL_law_225 : decode cL_law 225 = .ok (.iaload, 1) := by decide +kernel
theorem dL_law_226 : decode cL_law 226 = .ok (.invokevirtual 18, 3) := by decide +kernel
theorem dL_law_229 : decode cL_law 229 = .ok (.aload_n 2, 1) := by decide +kernel
theorem dL_law_230 : decode cL_law 230 = .ok (.aload_n 0, 1) := by decide +kernel
theorem dL_law_231 : decode cL_law 231 = .ok (.iload_n 3, 1) := by decide +kernel
theorem dL_law_232 : decode cL_law 232 = .ok (.iconst 1, 1) := by decide +kernel
theorem dL_law_233 : decode cL_law 233 = .ok (.iadd, 1) := by decide +kernel
theorem dL_law_234 : decode cL_law 234 = .ok (.iaload, 1) := by decide +kernel
theorem dL_law_235 : decode cL_law 235 = .ok (.aload_n 0, 1) := by decide +kernel
theorem dL_law_236 : decode cL_law 236 = .ok (.iload_n 3, 1) := by decide +kernel
theorem dL_law_237 : decode cL_law 237 = .ok (.iconst 2, 1) := by decide +kernel
theorem dL_law_238 : decode cL_law 238 = .ok (.iadd, 1) := by decide +kernel
theorem dL_law_239 : decode cL_law 239 = .ok (.iaload, 1) := by decide +kernel
theorem dL_law_240 : decode cL_law 240 = .ok (.invokevirtual 22, 3) := by decide +kernel
theorem dL_law_243 : decode cL_law 243 = .ok (.if_icmp .eq 998, 3) := by decide +kernel
theorem dL_law_246 : decode cL_law 246 = .ok (.iconst 0, 1) := by decide +kernel
theorem dL_law_247 : decode cL_law 247 = .ok (.ireturn, 1) := by decide +kernel
theorem dL_law_248 : decode cL_law 248 = .ok (.aload_n 1, 1) := by decide +kernel
theorem dL_law_249 : decode cL_law 249 = .ok (.aload_n 0, 1) := by decide +kernel
theorem dL_law_250 : decode cL_law 250 = .ok (.iload_n 3, 1) := by decide +kernel
theorem dL_law_251 : decode cL_law 251 = .ok (.iconst 1, 1) := by decide +kernel
theorem dL_law_252 : decode cL_law 252 = .ok (.iadd, 1) := by decide +kernel
theorem dL_law_253 : decode cL_law 253 = .ok (.iaload, 1) := by decide +kernel
theorem dL_law_254 : decode cL_law 254 = .ok (.aload_n 0, 1) := by decide +kernel
theorem dL_law_255 : decode cL_law 255 = .ok (.iload_n 3, 1) := by decide +kernel
theorem dL_law_256 : decode cL_law 256 = .ok (.iconst 2, 1) := by decide +kernel
theorem dL_law_257 : decode cL_law 257 = .ok (.iadd, 1) := by decide +kernel
theorem dL_law_258 : decode cL_law 258 = .ok (.iaload, 1) := by decide +kernel
theorem dL_law_259 : decode cL_law 259 = .ok (.aload_n 0, 1) := by decide +kernel
theorem dL_law_260 : decode cL_law 260 = .ok (.iload_n 3, 1) := by decide +kernel
theorem dL_law_261 : decode cL_law 261 = .ok (.iconst 3, 1) := by decide +kernel
theorem dL_law_262 : decode cL_law 262 = .ok (.iadd, 1) := by decide +kernel
theorem dL_law_263 : decode cL_law 263 = .ok (.iaload, 1) := by decide +kernel
theorem dL_law_264 : decode cL_law 264 = .ok (.invokevirtual 23, 3) := by decide +kernel
theorem dL_law_267 : decode cL_law 267 = .ok (.aload_n 2, 1) := by decide +kernel
theorem dL_law_268 : decode cL_law 268 = .ok (.aload_n 0, 1) := by decide +kernel
theorem dL_law_269 : decode cL_law 269 = .ok (.iload_n 3, 1) := by decide +kernel
theorem dL_law_270 : decode cL_law 270 = .ok (.iconst 1, 1) := by decide +kernel
theorem dL_law_271 : decode cL_law 271 = .ok (.iadd, 1) := by decide +kernel
theorem dL_law_272 : decode cL_law 272 = .ok (.iaload, 1) := by decide +kernel
theorem dL_law_273 : decode cL_law 273 = .ok (.aload_n 0, 1) := by decide +kernel
theorem dL_law_274 : decode cL_law 274 = .ok (.iload_n 3, 1) := by decide +kernel
theorem dL_law_275 : decode cL_law 275 = .ok (.iconst 2, 1) := by decide +kernel
theorem dL_law_276 : decode cL_law 276 = .ok (.iadd, 1) := by decide +kernel
theorem dL_law_277 : decode cL_law 277 = .ok (.iaload, 1) := by decide +kernel
theorem dL_law_278 : decode cL_law 278 = .ok (.aload_n 0, 1) := by decide +kernel
theorem dL_law_279 : decode cL_law 279 = .ok (.iload_n 3, 1) := by decide +kernel
theorem dL_law_280 : decode cL_law 280 = .ok (.iconst 3, 1) := by decide +kernel
theorem dL_law_281 : decode cL_law 281 = .ok (.iadd, 1) := by decide +kernel
theorem dL_law_282 : decode cL_law 282 = .ok (.iaload, 1) := by decide +kernel
theorem dL_law_283 : decode cL_law 283 = .ok (.invokevirtual 27, 3) := by decide +kernel
theorem dL_law_286 : decode cL_law 286 = .ok (.if_icmp .eq 955, 3) := by decide +kernel
theorem dL_law_289 : decode cL_law 289 = .ok (.iconst 0, 1) := by decide +kernel
theorem dL_law_290 : decode cL_law 290 = .ok (.ireturn, 1) := by decide +kernel
theorem dL_law_291 : decode cL_law 291 = .ok (.aload_n 1, 1) := by decide +kernel
theorem dL_law_292 : decode cL_law 292 = .ok (.aload_n 0, 1) := by decide +kernel
theorem dL_law_293 : decode cL_law 293 = .ok (.iload_n 3, 1) := by decide +kernel
theorem dL_law_294 : decode cL_law 294 = .ok (.iconst 1, 1) := by decide +kernel
theorem dL_law_295 : decode cL_law 295 = .ok (.iadd, 1) := by decide +kernel
theorem dL_law_296 : decode cL_law 296 = .ok (.iaload, 1) := by decide +kernel
theorem dL_law_297 : decode cL_law 297 = .ok (.aload_n 0, 1) := by decide +kernel
theorem dL_law_298 : decode cL_law 298 = .ok (.iload_n 3, 1) := by decide +kernel
theorem dL_law_299 : decode cL_law 299 = .ok (.iconst 2, 1) := by decide +kernel
theorem dL_law_300 : decode cL_law 300 = .ok (.iadd, 1) := by decide +kernel
theorem dL_law_301 : decode cL_law 301 = .ok (.iaload, 1) := by decide +kernel
theorem dL_law_302 : decode cL_law 302 = .ok (.invokevirtual 28, 3) := by decide +kernel
theorem dL_law_305 : decode cL_law 305 = .ok (.aload_n 2, 1) := by decide +kernel
theorem dL_law_306 : decode cL_law 306 = .ok (.aload_n 0, 1) := by decide +kernel
theorem dL_law_307 : decode cL_law 307 = .ok (.iload_n 3, 1) := by decide +kernel
theorem dL_law_308 : decode cL_law 308 = .ok (.iconst 1, 1) := by decide +kernel
theorem dL_law_309 : decode cL_law 309 = .ok (.iadd, 1) := by decide +kernel
theorem dL_law_310 : decode cL_law 310 = .ok (.iaload, 1) := by decide +kernel
theorem dL_law_311 : decode cL_law 311 = .ok (.aload_n 0, 1) := by decide +kernel
theorem dL_law_312 : decode cL_law 312 = .ok (.iload_n 3, 1) := by decide +kernel
theorem dL_law_313 : decode cL_law 313 = .ok (.iconst 2, 1) := by decide +kernel
theorem dL_law_314 : decode cL_law 314 = .ok (.iadd, 1) := by decide +kernel
theorem dL_law_315 : decode cL_law 315 = .ok (.iaload, 1) := by decide +kernel
theorem dL_law_316 : decode cL_law 316 = .ok (.invokevirtual 31, 3) := by decide +kernel
theorem dL_law_319 : decode cL_law 319 = .ok (.if_icmp .eq 922, 3) := by decide +kernel
theorem dL_law_322 : decode cL_law 322 = .ok (.iconst 0, 1) := by decide +kernel
theorem dL_law_323 : decode cL_law 323 = .ok (.ireturn, 1) := by decide +kernel
theorem dL_law_324 : decode cL_law 324 = .ok (.aload_n 1, 1) := by decide +kernel
theorem dL_law_325 : decode cL_law 325 = .ok (.aload_n 0, 1) := by decide +kernel
theorem dL_law_326 : decode cL_law 326 = .ok (.iload_n 3, 1) := by decide +kernel
theorem dL_law_327 : decode cL_law 327 = .ok (.iconst 1, 1) := by decide +kernel
theorem dL_law_328 : decode cL_law 328 = .ok (.iadd, 1) := by decide +kernel
theorem dL_law_329 : decode cL_law 329 = .ok (.iaload, 1) := by decide +kernel
theorem dL_law_330 : decode cL_law 330 = .ok (.aload_n 0, 1) := by decide +kernel
theorem dL_law_331 : decode cL_law 331 = .ok (.iload_n 3, 1) := by decide +kernel
theorem dL_law_332 : decode cL_law 332 = .ok (.iconst 2, 1) := by decide +kernel
theorem dL_law_333 : decode cL_law 333 = .ok (.iadd, 1) := by decide +kernel
theorem dL_law_334 : decode cL_law 334 = .ok (.iaload, 1) := by decide +kernel
theorem dL_law_335 : decode cL_law 335 = .ok (.invokevirtual 32, 3) := by decide +kernel
theorem dL_law_338 : decode cL_law 338 = .ok (.aload_n 2, 1) := by decide +kernel
theorem dL_law_339 : decode cL_law 339 = .ok (.aload_n 0, 1) := by decide +kernel
theorem dL_law_340 : decode cL_law 340 = .ok (.iload_n 3, 1) := by decide +kernel
theorem dL_law_341 : decode cL_law 341 = .ok (.iconst 1, 1) := by decide +kernel
theorem dL_law_342 : decode cL_law 342 = .ok (.iadd, 1) := by decide +kernel
theorem dL_law_343 : decode cL_law 343 = .ok (.iaload, 1) := by decide +kernel
theorem dL_law_344 : decode cL_law 344 = .ok (.aload_n 0, 1) := by decide +kernel
theorem dL_law_345 : decode cL_law 345 = .ok (.iload_n 3, 1) := by decide +kernel
theorem dL_law_346 : decode cL_law 346 = .ok (.iconst 2, 1) := by decide +kernel
theorem dL_law_347 : decode cL_law 347 = .ok (.iadd, 1) := by decide +kernel
theorem dL_law_348 : decode cL_law 348 = .ok (.iaload, 1) := by decide +kernel
theorem dL_law_349 : decode cL_law 349 = .ok (.invokevirtual 35, 3) := by decide +kernel
theorem dL_law_352 : decode cL_law 352 = .ok (.if_icmp .eq 889, 3) := by decide +kernel
theorem dL_law_355 : decode cL_law 355 = .ok (.iconst 0, 1) := by decide +kernel
theorem dL_law_356 : decode cL_law 356 = .ok (.ireturn, 1) := by decide +kernel
theorem dL_law_357 : decode cL_law 357 = .ok (.aload_n 1, 1) := by decide +kernel
theorem dL_law_358 : decode cL_law 358 = .ok (.aload_n 0, 1) := by decide +kernel
theorem dL_law_359 : decode cL_law 359 = .ok (.iload_n 3, 1) := by decide +kernel
theorem dL_law_360 : decode cL_law 360 = .ok (.iconst 1, 1) := by decide +kernel
theorem dL_law_361 : decode cL_law 361 = .ok (.iadd, 1) := by decide +kernel
theorem dL_law_362 : decode cL_law 362 = .ok (.iaload, 1) := by decide +kernel
theorem dL_law_363 : decode cL_law 363 = .ok (.invokevirtual 36, 3) := by decide +kernel
theorem dL_law_366 : decode cL_law 366 = .ok (.aload_n 2, 1) := by decide +kernel
theorem dL_law_367 : decode cL_law 367 = .ok (.aload_n 0, 1) := by decide +kernel
theorem dL_law_368 : decode cL_law 368 = .ok (.iload_n 3, 1) := by decide +kernel
theorem dL_law_369 : decode cL_law 369 = .ok (.iconst 1, 1) := by decide +kernel
theorem dL_law_370 : decode cL_law 370 = .ok (.iadd, 1) := by decide +kernel
theorem dL_law_371 : decode cL_law 371 = .ok (.iaload, 1) := by decide +kernel
theorem dL_law_372 : decode cL_law 372 = .ok (.invokevirtual 39, 3) := by decide +kernel
theorem dL_law_375 : decode cL_law 375 = .ok (.if_icmp .eq 866, 3) := by decide +kernel
theorem dL_law_378 : decode cL_law 378 = .ok (.iconst 0, 1) := by decide +kernel
theorem dL_law_379 : decode cL_law 379 = .ok (.ireturn, 1) := by decide +kernel
theorem dL_law_380 : decode cL_law 380 = .ok (.aload_n 1, 1) := by decide +kernel
theorem dL_law_381 : decode cL_law 381 = .ok (.aload_n 0, 1) := by decide +kernel
theorem dL_law_382 : decode cL_law 382 = .ok (.iload_n 3, 1) := by decide +kernel
theorem dL_law_383 : decode cL_law 383 = .ok (.iconst 1, 1) := by decide +kernel
theorem dL_law_384 : decode cL_law 384 = .ok (.iadd, 1) := by decide +kernel
theorem dL_law_385 : decode cL_law 385 = .ok (.iaload, 1) := by decide +kernel
theorem dL_law_386 : decode cL_law 386 = .ok (.aload_n 0, 1) := by decide +kernel
theorem dL_law_387 : decode cL_law 387 = .ok (.iload_n 3, 1) := by decide +kernel
theorem dL_law_388 : decode cL_law 388 = .ok (.iconst 2, 1) := by decide +kernel
theorem dL_law_389 : decode cL_law 389 = .ok (.iadd, 1) := by decide +kernel
theorem dL_law_390 : decode cL_law 390 = .ok (.iaload, 1) := by decide +kernel
theorem dL_law_391 : decode cL_law 391 = .ok (.invokevirtual 40, 3) := by decide +kernel
theorem dL_law_394 : decode cL_law 394 = .ok (.aload_n 2, 1) := by decide +kernel
theorem dL_law_395 : decode cL_law 395 = .ok (.aload_n 0, 1) := by decide +kernel
theorem dL_law_396 : decode cL_law 396 = .ok (.iload_n 3, 1) := by decide +kernel
theorem dL_law_397 : decode cL_law 397 = .ok (.iconst 1, 1) := by decide +kernel
theorem dL_law_398 : decode cL_law 398 = .ok (.iadd, 1) := by decide +kernel
theorem dL_law_399 : decode cL_law 399 = .ok (.iaload, 1) := by decide +kernel
theorem dL_law_400 : decode cL_law 400 = .ok (.aload_n 0, 1) := by decide +kernel
theorem dL_law_401 : decode cL_law 401 = .ok (.iload_n 3, 1) := by decide +kernel
theorem dL_law_402 : decode cL_law 402 = .ok (.iconst 2, 1) := by decide +kernel
theorem dL_law_403 : decode cL_law 403 = .ok (.iadd, 1) := by decide +kernel
theorem dL_law_404 : decode cL_law 404 = .ok (.iaload, 1) := by decide +kernel
theorem dL_law_405 : decode cL_law 405 = .ok (.invokevirtual 43, 3) := by decide +kernel
theorem dL_law_408 : decode cL_law 408 = .ok (.if_icmp .eq 833, 3) := by decide +kernel
theorem dL_law_411 : decode cL_law 411 = .ok (.iconst 0, 1) := by decide +kernel
theorem dL_law_412 : decode cL_law 412 = .ok (.ireturn, 1) := by decide +kernel
theorem dL_law_413 : decode cL_law 413 = .ok (.aload_n 1, 1) := by decide +kernel
theorem dL_law_414 : decode cL_law 414 = .ok (.aload_n 0, 1) := by decide +kernel
theorem dL_law_415 : decode cL_law 415 = .ok (.iload_n 3, 1) := by decide +kernel
theorem dL_law_416 : decode cL_law 416 = .ok (.iconst 1, 1) := by decide +kernel
theorem dL_law_417 : decode cL_law 417 = .ok (.iadd, 1) := by decide +kernel
theorem dL_law_418 : decode cL_law 418 = .ok (.iaload, 1) := by decide +kernel
theorem dL_law_419 : decode cL_law 419 = .ok (.aload_n 0, 1) := by decide +kernel
theorem dL_law_420 : decode cL_law 420 = .ok (.iload_n 3, 1) := by decide +kernel
theorem dL_law_421 : decode cL_law 421 = .ok (.iconst 2, 1) := by decide +kernel
theorem dL_law_422 : decode cL_law 422 = .ok (.iadd, 1) := by decide +kernel
theorem dL_law_423 : decode cL_law 423 = .ok (.iaload, 1) := by decide +kernel
theorem dL_law_424 : decode cL_law 424 = .ok (.invokevirtual 44, 3) := by decide +kernel
theorem dL_law_427 : decode cL_law 427 = .ok (.aload_n 2, 1) := by decide +kernel
theorem dL_law_428 : decode cL_law 428 = .ok (.aload_n 0, 1) := by decide +kernel
theorem dL_law_429 : decode cL_law 429 = .ok (.iload_n 3, 1) := by decide +kernel
theorem dL_law_430 : decode cL_law 430 = .ok (.iconst 1, 1) := by decide +kernel
theorem dL_law_431 : decode cL_law 431 = .ok (.iadd, 1) := by decide +kernel
theorem dL_law_432 : decode cL_law 432 = .ok (.iaload, 1) := by decide +kernel
theorem dL_law_433 : decode cL_law 433 = .ok (.aload_n 0, 1) := by decide +kernel
theorem dL_law_434 : decode cL_law 434 = .ok (.iload_n 3, 1) := by decide +kernel
theorem dL_law_435 : decode cL_law 435 = .ok (.iconst 2, 1) := by decide +kernel
theorem dL_law_436 : decode cL_law 436 = .ok (.iadd, 1) := by decide +kernel
theorem dL_law_437 : decode cL_law 437 = .ok (.iaload, 1) := by decide +kernel
theorem dL_law_438 : decode cL_law 438 = .ok (.invokevirtual 47, 3) := by decide +kernel
theorem dL_law_441 : decode cL_law 441 = .ok (.if_icmp .eq 800, 3) := by decide +kernel
theorem dL_law_444 : decode cL_law 444 = .ok (.iconst 0, 1) := by decide +kernel
theorem dL_law_445 : decode cL_law 445 = .ok (.ireturn, 1) := by decide +kernel
theorem dL_law_446 : decode cL_law 446 = .ok (.aload_n 1, 1) := by decide +kernel
theorem dL_law_447 : decode cL_law 447 = .ok (.aload_n 0, 1) := by decide +kernel
theorem dL_law_448 : decode cL_law 448 = .ok (.iload_n 3, 1) := by decide +kernel
theorem dL_law_449 : decode cL_law 449 = .ok (.iconst 1, 1) := by decide +kernel
theorem dL_law_450 : decode cL_law 450 = .ok (.iadd, 1) := by decide +kernel
theorem dL_law_451 : decode cL_law 451 = .ok (.iaload, 1) := by decide +kernel
theorem dL_law_452 : decode cL_law 452 = .ok (.aload_n 0, 1) := by decide +kernel
theorem dL_law_453 : decode cL_law 453 = .ok (.iload_n 3, 1) := by decide +kernel
theorem dL_law_454 : decode cL_law 454 = .ok (.iconst 2, 1) := by decide +kernel
theorem dL_law_455 : decode cL_law 455 = .ok (.iadd, 1) := by decide +kernel
theorem dL_law_456 : decode cL_law 456 = .ok (.iaload, 1) := by decide +kernel
theorem dL_law_457 : decode cL_law 457 = .ok (.invokevirtual 48, 3) := by decide +kernel
theorem dL_law_460 : decode cL_law 460 = .ok (.aload_n 2, 1) := by decide +kernel
theorem dL_law_461 : decode cL_law 461 = .ok (.aload_n 0, 1) := by decide +kernel
theorem dL_law_462 : decode cL_law 462 = .ok (.iload_n 3, 1) := by decide +kernel
theorem dL_law_463 : decode cL_law 463 = .ok (.iconst 1, 1) := by decide +kernel
theorem dL_law_464 : decode cL_law 464 = .ok (.iadd, 1) := by decide +kernel
theorem dL_law_465 : decode cL_law 465 = .ok (.iaload, 1) := by decide +kernel
theorem dL_law_466 : decode cL_law 466 = .ok (.aload_n 0, 1) := by decide +kernel
theorem dL_law_467 : decode cL_law 467 = .ok (.iload_n 3, 1) := by decide +kernel
theorem dL_law_468 : decode cL_law 468 = .ok (.iconst 2, 1) := by decide +kernel
theorem dL_law_469 : decode cL_law 469 = .ok (.iadd, 1) := by decide +kernel
theorem dL_law_470 : decode cL_law 470 = .ok (.iaload, 1) := by decide +kernel
theorem dL_law_471 : decode cL_law 471 = .ok (.invokevirtual 51, 3) := by decide +kernel
theorem dL_law_474 : decode cL_law 474 = .ok (.if_icmp .eq 767, 3) := by decide +kernel
theorem dL_law_477 : decode cL_law 477 = .ok (.iconst 0, 1) := by decide +kernel
theorem dL_law_478 : decode cL_law 478 = .ok (.ireturn, 1) := by decide +kernel
theorem dL_law_479 : decode cL_law 479 = .ok (.aload_n 1, 1) := by decide +kernel
theorem dL_law_480 : decode cL_law 480 = .ok (.aload_n 0, 1) := by decide +kernel
theorem dL_law_481 : decode cL_law 481 = .ok (.iload_n 3, 1) := by decide +kernel
theorem dL_law_482 : decode cL_law 482 = .ok (.iconst 1, 1) := by decide +kernel
theorem dL_law_483 : decode cL_law 483 = .ok (.iadd, 1) := by decide +kernel
theorem dL_law_484 : decode cL_law 484 = .ok (.iaload, 1) := by decide +kernel
theorem dL_law_485 : decode cL_law 485 = .ok (.invokevirtual 52, 3) := by decide +kernel
theorem dL_law_488 : decode cL_law 488 = .ok (.aload_n 2, 1) := by decide +kernel
theorem dL_law_489 : decode cL_law 489 = .ok (.aload_n 0, 1) := by decide +kernel
theorem dL_law_490 : decode cL_law 490 = .ok (.iload_n 3, 1) := by decide +kernel
theorem dL_law_491 : decode cL_law 491 = .ok (.iconst 1, 1) := by decide +kernel
theorem dL_law_492 : decode cL_law 492 = .ok (.iadd, 1) := by decide +kernel
theorem dL_law_493 : decode cL_law 493 = .ok (.iaload, 1) := by decide +kernel
theorem dL_law_494 : decode cL_law 494 = .ok (.invokevirtual 55, 3) := by decide +kernel
theorem dL_law_497 : decode cL_law 497 = .ok (.if_icmp .eq 744, 3) := by decide +kernel
theorem dL_law_500 : decode cL_law 500 = .ok (.iconst 0, 1) := by decide +kernel
theorem dL_law_501 : decode cL_law 501 = .ok (.ireturn, 1) := by decide +kernel
theorem dL_law_502 : decode cL_law 502 = .ok (.aload_n 1, 1) := by decide +kernel
theorem dL_law_503 : decode cL_law 503 = .ok (.aload_n 0, 1) := by decide +kernel
theorem dL_law_504 : decode cL_law 504 = .ok (.iload_n 3, 1) := by decide +kernel
theorem dL_law_505 : decode cL_law 505 = .ok (.iconst 1, 1) := by decide +kernel
theorem dL_law_506 : decode cL_law 506 = .ok (.iadd, 1) := by decide +kernel
theorem dL_law_507 : decode cL_law 507 = .ok (.iaload, 1) := by decide +kernel
theorem dL_law_508 : decode cL_law 508 = .ok (.invokevirtual 56, 3) := by decide +kernel
theorem dL_law_511 : decode cL_law 511 = .ok (.aload_n 2, 1) := by decide +kernel
theorem dL_law_512 : decode cL_law 512 = .ok (.aload_n 0, 1) := by decide +kernel
theorem dL_law_513 : decode cL_law 513 = .ok (.iload_n 3, 1) := by decide +kernel
theorem dL_law_514 : decode cL_law 514 = .ok (.iconst 1, 1) := by decide +kernel
theorem dL_law_515 : decode cL_law 515 = .ok (.iadd, 1) := by decide +kernel
theorem dL_law_516 : decode cL_law 516 = .ok (.iaload, 1) := by decide +kernel
theorem dL_law_517 : decode cL_law 517 = .ok (.invokevirtual 59, 3) := by decide +kernel
theorem dL_law_520 : decode cL_law 520 = .ok (.if_icmp .eq 721, 3) := by decide +kernel
theorem dL_law_523 : decode cL_law 523 = .ok (.iconst 0, 1) := by decide +kernel
theorem dL_law_524 : decode cL_law 524 = .ok (.ireturn, 1) := by decide +kernel
theorem dL_law_525 : decode cL_law 525 = .ok (.aload_n 1, 1) := by decide +kernel
theorem dL_law_526 : decode cL_law 526 = .ok (.aload_n 0, 1) := by decide +kernel
theorem dL_law_527 : decode cL_law 527 = .ok (.iload_n 3, 1) := by decide +kernel
theorem dL_law_528 : decode cL_law 528 = .ok (.iconst 1, 1) := by decide +kernel
theorem dL_law_529 : decode cL_law 529 = .ok (.iadd, 1) := by decide +kernel
theorem dL_law_530 : decode cL_law 530 = .ok (.iaload, 1) := by decide +kernel
theorem dL_law_531 : decode cL_law 531 = .ok (.aload_n 0, 1) := by decide +kernel
theorem dL_law_532 : decode cL_law 532 = .ok (.iload_n 3, 1) := by decide +kernel
theorem dL_law_533 : decode cL_law 533 = .ok (.iconst 2, 1) := by decide +kernel
theorem dL_law_534 : decode cL_law 534 = .ok (.iadd, 1) := by decide +kernel
theorem dL_law_535 : decode cL_law 535 = .ok (.iaload, 1) := by decide +kernel
theorem dL_law_536 : decode cL_law 536 = .ok (.aload_n 0, 1) := by decide +kernel
theorem dL_law_537 : decode cL_law 537 = .ok (.iload_n 3, 1) := by decide +kernel
theorem dL_law_538 : decode cL_law 538 = .ok (.iconst 3, 1) := by decide +kernel
theorem dL_law_539 : decode cL_law 539 = .ok (.iadd, 1) := by decide +kernel
theorem dL_law_540 : decode cL_law 540 = .ok (.iaload, 1) := by decide +kernel
theorem dL_law_541 : decode cL_law 541 = .ok (.invokevirtual 60, 3) := by decide +kernel
theorem dL_law_544 : decode cL_law 544 = .ok (.aload_n 2, 1) := by decide +kernel
theorem dL_law_545 : decode cL_law 545 = .ok (.aload_n 0, 1) := by decide +kernel
theorem dL_law_546 : decode cL_law 546 = .ok (.iload_n 3, 1) := by decide +kernel
theorem dL_law_547 : decode cL_law 547 = .ok (.iconst 1, 1) := by decide +kernel
theorem dL_law_548 : decode cL_law 548 = .ok (.iadd, 1) := by decide +kernel
theorem dL_law_549 : decode cL_law 549 = .ok (.iaload, 1) := by decide +kernel
theorem dL_law_550 : decode cL_law 550 = .ok (.aload_n 0, 1) := by decide +kernel
theorem dL_law_551 : decode cL_law 551 = .ok (.iload_n 3, 1) := by decide +kernel
theorem dL_law_552 : decode cL_law 552 = .ok (.iconst 2, 1) := by decide +kernel
theorem dL_law_553 : decode cL_law 553 = .ok (.iadd, 1) := by decide +kernel
theorem dL_law_554 : decode cL_law 554 = .ok (.iaload, 1) := by decide +kernel
theorem dL_law_555 : decode cL_law 555 = .ok (.aload_n 0, 1) := by decide +kernel
theorem dL_law_556 : decode cL_law 556 = .ok (.iload_n 3, 1) := by decide +kernel
theorem dL_law_557 : decode cL_law 557 = .ok (.iconst 3, 1) := by decide +kernel
theorem dL_law_558 : decode cL_law 558 = .ok (.iadd, 1) := by decide +kernel
theorem dL_law_559 : decode cL_law 559 = .ok (.iaload, 1) := by decide +kernel
theorem dL_law_560 : decode cL_law 560 = .ok (.invokevirtual 63, 3) := by decide +kernel
theorem dL_law_563 : decode cL_law 563 = .ok (.if_icmp .eq 678, 3) := by decide +kernel
theorem dL_law_566 : decode cL_law 566 = .ok (.iconst 0, 1) := by decide +kernel
theorem dL_law_567 : decode cL_law 567 = .ok (.ireturn, 1) := by decide +kernel
theorem dL_law_568 : decode cL_law 568 = .ok (.aload_n 1, 1) := by decide +kernel
theorem dL_law_569 : decode cL_law 569 = .ok (.aload_n 0, 1) := by decide +kernel
theorem dL_law_570 : decode cL_law 570 = .ok (.iload_n 3, 1) := by decide +kernel
theorem dL_law_571 : decode cL_law 571 = .ok (.iconst 1, 1) := by decide +kernel
theorem dL_law_572 : decode cL_law 572 = .ok (.iadd, 1) := by decide +kernel
theorem dL_law_573 : decode cL_law 573 = .ok (.iaload, 1) := by decide +kernel
theorem dL_law_574 : decode cL_law 574 = .ok (.aload_n 0, 1) := by decide +kernel
theorem dL_law_575 : decode cL_law 575 = .ok (.iload_n 3, 1) := by decide +kernel
theorem dL_law_576 : decode cL_law 576 = .ok (.iconst 2, 1) := by decide +kernel
theorem dL_law_577 : decode cL_law 577 = .ok (.iadd, 1) := by decide +kernel
theorem dL_law_578 : decode cL_law 578 = .ok (.iaload, 1) := by decide +kernel
theorem dL_law_579 : decode cL_law 579 = .ok (.aload_n 0, 1) := by decide +kernel
theorem dL_law_580 : decode cL_law 580 = .ok (.iload_n 3, 1) := by decide +kernel
theorem dL_law_581 : decode cL_law 581 = .ok (.iconst 3, 1) := by decide +kernel
theorem dL_law_582 : decode cL_law 582 = .ok (.iadd, 1) := by decide +kernel
theorem dL_law_583 : decode cL_law 583 = .ok (.iaload, 1) := by decide +kernel
theorem dL_law_584 : decode cL_law 584 = .ok (.invokevirtual 64, 3) := by decide +kernel
theorem dL_law_587 : decode cL_law 587 = .ok (.aload_n 2, 1) := by decide +kernel
theorem dL_law_588 : decode cL_law 588 = .ok (.aload_n 0, 1) := by decide +kernel
theorem dL_law_589 : decode cL_law 589 = .ok (.iload_n 3, 1) := by decide +kernel
theorem dL_law_590 : decode cL_law 590 = .ok (.iconst 1, 1) := by decide +kernel
theorem dL_law_591 : decode cL_law 591 = .ok (.iadd, 1) := by decide +kernel
theorem dL_law_592 : decode cL_law 592 = .ok (.iaload, 1) := by decide +kernel
theorem dL_law_593 : decode cL_law 593 = .ok (.aload_n 0, 1) := by decide +kernel
theorem dL_law_594 : decode cL_law 594 = .ok (.iload_n 3, 1) := by decide +kernel
theorem dL_law_595 : decode cL_law 595 = .ok (.iconst 2, 1) := by decide +kernel
theorem dL_law_596 : decode cL_law 596 = .ok (.iadd, 1) := by decide +kernel
theorem dL_law_597 : decode cL_law 597 = .ok (.iaload, 1) := by decide +kernel
theorem dL_law_598 : decode cL_law 598 = .ok (.aload_n 0, 1) := by decide +kernel
theorem dL_law_599 : decode cL_law 599 = .ok (.iload_n 3, 1) := by decide +kernel
theorem dL_law_600 : decode cL_law 600 = .ok (.iconst 3, 1) := by decide +kernel
theorem dL_law_601 : decode cL_law 601 = .ok (.iadd, 1) := by decide +kernel
theorem dL_law_602 : decode cL_law 602 = .ok (.iaload, 1) := by decide +kernel
theorem dL_law_603 : decode cL_law 603 = .ok (.invokevirtual 67, 3) := by decide +kernel
theorem dL_law_606 : decode cL_law 606 = .ok (.if_icmp .eq 635, 3) := by decide +kernel
theorem dL_law_609 : decode cL_law 609 = .ok (.iconst 0, 1) := by decide +kernel
theorem dL_law_610 : decode cL_law 610 = .ok (.ireturn, 1) := by decide +kernel
theorem dL_law_611 : decode cL_law 611 = .ok (.aload_n 1, 1) := by decide +kernel
theorem dL_law_612 : decode cL_law 612 = .ok (.aload_n 0, 1) := by decide +kernel
theorem dL_law_613 : decode cL_law 613 = .ok (.iload_n 3, 1) := by decide +kernel
theorem dL_law_614 : decode cL_law 614 = .ok (.iconst 1, 1) := by decide +kernel
theorem dL_law_615 : decode cL_law 615 = .ok (.iadd, 1) := by decide +kernel
theorem dL_law_616 : decode cL_law 616 = .ok (.iaload, 1) := by decide +kernel
theorem dL_law_617 : decode cL_law 617 = .ok (.invokevirtual 68, 3) := by decide +kernel
theorem dL_law_620 : decode cL_law 620 = .ok (.aload_n 2, 1) := by decide +kernel
theorem dL_law_621 : decode cL_law 621 = .ok (.aload_n 0, 1) := by decide +kernel
theorem dL_law_622 : decode cL_law 622 = .ok (.iload_n 3, 1) := by decide +kernel
theorem dL_law_623 : decode cL_law 623 = .ok (.iconst 1, 1) := by decide +kernel
theorem dL_law_624 : decode cL_law 624 = .ok (.iadd, 1) := by decide +kernel
theorem dL_law_625 : decode cL_law 625 = .ok (.iaload, 1) := by decide +kernel
theorem dL_law_626 : decode cL_law 626 = .ok (.invokevirtual 71, 3) := by decide +kernel
theorem dL_law_629 : decode cL_law 629 = .ok (.if_icmp .eq 612, 3) := by decide +kernel
theorem dL_law_632 : decode cL_law 632 = .ok (.iconst 0, 1) := by decide +kernel
theorem dL_law_633 : decode cL_law 633 = .ok (.ireturn, 1) := by decide +kernel
theorem dL_law_634 : decode cL_law 634 = .ok (.aload_n 1, 1) := by decide +kernel
theorem dL_law_635 : decode cL_law 635 = .ok (.aload_n 0, 1) := by decide +kernel
theorem dL_law_636 : decode cL_law 636 = .ok (.iload_n 3, 1) := by decide +kernel
theorem dL_law_637 : decode cL_law 637 = .ok (.iconst 1, 1) := by decide +kernel
theorem dL_law_638 : decode cL_law 638 = .ok (.iadd, 1) := by decide +kernel
theorem dL_law_639 : decode cL_law 639 = .ok (.iaload, 1) := by decide +kernel
theorem dL_law_640 : decode cL_law 640 = .ok (.invokevirtual 72, 3) := by decide +kernel
theorem dL_law_643 : decode cL_law 643 = .ok (.aload_n 2, 1) := by decide +kernel
theorem dL_law_644 : decode cL_law 644 = .ok (.aload_n 0, 1) := by decide +kernel
theorem dL_law_645 : decode cL_law 645 = .ok (.iload_n 3, 1) := by decide +kernel
theorem dL_law_646 : decode cL_law 646 = .ok (.iconst 1, 1) := by decide +kernel
theorem dL_law_647 : decode cL_law 647 = .ok (.iadd, 1) := by decide +kernel
theorem dL_law_648 : decode cL_law 648 = .ok (.iaload, 1) := by decide +kernel
theorem dL_law_649 : decode cL_law 649 = .ok (.invokevirtual 75, 3) := by decide +kernel
theorem dL_law_652 : decode cL_law 652 = .ok (.if_icmp .eq 589, 3) := by decide +kernel
theorem dL_law_655 : decode cL_law 655 = .ok (.iconst 0, 1) := by decide +kernel
theorem dL_law_656 : decode cL_law 656 = .ok (.ireturn, 1) := by decide +kernel
theorem dL_law_657 : decode cL_law 657 = .ok (.aload_n 1, 1) := by decide +kernel
theorem dL_law_658 : decode cL_law 658 = .ok (.aload_n 0, 1) := by decide +kernel
theorem dL_law_659 : decode cL_law 659 = .ok (.iload_n 3, 1) := by decide +kernel
theorem dL_law_660 : decode cL_law 660 = .ok (.iconst 1, 1) := by decide +kernel
theorem dL_law_661 : decode cL_law 661 = .ok (.iadd, 1) := by decide +kernel
theorem dL_law_662 : decode cL_law 662 = .ok (.iaload, 1) := by decide +kernel
theorem dL_law_663 : decode cL_law 663 = .ok (.invokevirtual 76, 3) := by decide +kernel
theorem dL_law_666 : decode cL_law 666 = .ok (.aload_n 2, 1) := by decide +kernel
theorem dL_law_667 : decode cL_law 667 = .ok (.aload_n 0, 1) := by decide +kernel
theorem dL_law_668 : decode cL_law 668 = .ok (.iload_n 3, 1) := by decide +kernel
theorem dL_law_669 : decode cL_law 669 = .ok (.iconst 1, 1) := by decide +kernel
theorem dL_law_670 : decode cL_law 670 = .ok (.iadd, 1) := by decide +kernel
theorem dL_law_671 : decode cL_law 671 = .ok (.iaload, 1) := by decide +kernel
theorem dL_law_672 : decode cL_law 672 = .ok (.invokevirtual 79, 3) := by decide +kernel
theorem dL_law_675 : decode cL_law 675 = .ok (.if_icmp .eq 566, 3) := by decide +kernel
theorem dL_law_678 : decode cL_law 678 = .ok (.iconst 0, 1) := by decide +kernel
theorem dL_law_679 : decode cL_law 679 = .ok (.ireturn, 1) := by decide +kernel
theorem dL_law_680 : decode cL_law 680 = .ok (.aload_n 1, 1) := by decide +kernel
theorem dL_law_681 : decode cL_law 681 = .ok (.aload_n 0, 1) := by decide +kernel
theorem dL_law_682 : decode cL_law 682 = .ok (.iload_n 3, 1) := by decide +kernel
theorem dL_law_683 : decode cL_law 683 = .ok (.iconst 1, 1) := by decide +kernel
theorem dL_law_684 : decode cL_law 684 = .ok (.iadd, 1) := by decide +kernel
theorem dL_law_685 : decode cL_law 685 = .ok (.iaload, 1) := by decide +kernel
theorem dL_law_686 : decode cL_law 686 = .ok (.invokevirtual 80, 3) := by decide +kernel
theorem dL_law_689 : decode cL_law 689 = .ok (.aload_n 2, 1) := by decide +kernel
theorem dL_law_690 : decode cL_law 690 = .ok (.aload_n 0, 1) := by decide +kernel
theorem dL_law_691 : decode cL_law 691 = .ok (.iload_n 3, 1) := by decide +kernel
theorem dL_law_692 : decode cL_law 692 = .ok (.iconst 1, 1) := by decide +kernel
theorem dL_law_693 : decode cL_law 693 = .ok (.iadd, 1) := by decide +kernel
theorem dL_law_694 : decode cL_law 694 = .ok (.iaload, 1) := by decide +kernel
theorem dL_law_695 : decode cL_law 695 = .ok (.invokevirtual 83, 3) := by decide +kernel
theorem dL_law_698 : decode cL_law 698 = .ok (.if_icmp .eq 543, 3) := by decide +kernel
theorem dL_law_701 : decode cL_law 701 = .ok (.iconst 0, 1) := by decide +kernel
theorem dL_law_702 : decode cL_law 702 = .ok (.ireturn, 1) := by decide +kernel
theorem dL_law_703 : decode cL_law 703 = .ok (.aload_n 1, 1) := by decide +kernel
theorem dL_law_704 : decode cL_law 704 = .ok (.aload_n 0, 1) := by decide +kernel
theorem dL_law_705 : decode cL_law 705 = .ok (.iload_n 3, 1) := by decide +kernel
theorem dL_law_706 : decode cL_law 706 = .ok (.iconst 1, 1) := by decide +kernel
theorem dL_law_707 : decode cL_law 707 = .ok (.iadd, 1) := by decide +kernel
theorem dL_law_708 : decode cL_law 708 = .ok (.iaload, 1) := by decide +kernel
theorem dL_law_709 : decode cL_law 709 = .ok (.invokevirtual 84, 3) := by decide +kernel
theorem dL_law_712 : decode cL_law 712 = .ok (.aload_n 2, 1) := by decide +kernel
theorem dL_law_713 : decode cL_law 713 = .ok (.aload_n 0, 1) := by decide +kernel
theorem dL_law_714 : decode cL_law 714 = .ok (.iload_n 3, 1) := by decide +kernel
theorem dL_law_715 : decode cL_law 715 = .ok (.iconst 1, 1) := by decide +kernel
theorem dL_law_716 : decode cL_law 716 = .ok (.iadd, 1) := by decide +kernel
theorem dL_law_717 : decode cL_law 717 = .ok (.iaload, 1) := by decide +kernel
theorem dL_law_718 : decode cL_law 718 = .ok (.invokevirtual 87, 3) := by decide +kernel
theorem dL_law_721 : decode cL_law 721 = .ok (.if_icmp .eq 520, 3) := by decide +kernel
theorem dL_law_724 : decode cL_law 724 = .ok (.iconst 0, 1) := by decide +kernel
theorem dL_law_725 : decode cL_law 725 = .ok (.ireturn, 1) := by decide +kernel
theorem dL_law_726 : decode cL_law 726 = .ok (.aload_n 1, 1) := by decide +kernel
theorem dL_law_727 : decode cL_law 727 = .ok (.aload_n 0, 1) := by decide +kernel
theorem dL_law_728 : decode cL_law 728 = .ok (.iload_n 3, 1) := by decide +kernel
theorem dL_law_729 : decode cL_law 729 = .ok (.iconst 1, 1) := by decide +kernel
theorem dL_law_730 : decode cL_law 730 = .ok (.iadd, 1) := by decide +kernel
theorem dL_law_731 : decode cL_law 731 = .ok (.iaload, 1) := by decide +kernel
theorem dL_law_732 : decode cL_law 732 = .ok (.aload_n 0, 1) := by decide +kernel
theorem dL_law_733 : decode cL_law 733 = .ok (.iload_n 3, 1) := by decide +kernel
theorem dL_law_734 : decode cL_law 734 = .ok (.iconst 2, 1) := by decide +kernel
theorem dL_law_735 : decode cL_law 735 = .ok (.iadd, 1) := by decide +kernel
theorem dL_law_736 : decode cL_law 736 = .ok (.iaload, 1) := by decide +kernel
theorem dL_law_737 : decode cL_law 737 = .ok (.invokevirtual 88, 3) := by decide +kernel
theorem dL_law_740 : decode cL_law 740 = .ok (.aload_n 2, 1) := by decide +kernel
theorem dL_law_741 : decode cL_law 741 = .ok (.aload_n 0, 1) := by decide +kernel
theorem dL_law_742 : decode cL_law 742 = .ok (.iload_n 3, 1) := by decide +kernel
theorem dL_law_743 : decode cL_law 743 = .ok (.iconst 1, 1) := by decide +kernel
theorem dL_law_744 : decode cL_law 744 = .ok (.iadd, 1) := by decide +kernel
theorem dL_law_745 : decode cL_law 745 = .ok (.iaload, 1) := by decide +kernel
theorem dL_law_746 : decode cL_law 746 = .ok (.aload_n 0, 1) := by decide +kernel
theorem dL_law_747 : decode cL_law 747 = .ok (.iload_n 3, 1) := by decide +kernel
theorem dL_law_748 : decode cL_law 748 = .ok (.iconst 2, 1) := by decide +kernel
theorem dL_law_749 : decode cL_law 749 = .ok (.iadd, 1) := by decide +kernel
theorem dL_law_750 : decode cL_law 750 = .ok (.iaload, 1) := by decide +kernel
theorem dL_law_751 : decode cL_law 751 = .ok (.invokevirtual 91, 3) := by decide +kernel
theorem dL_law_754 : decode cL_law 754 = .ok (.if_icmp .eq 487, 3) := by decide +kernel
theorem dL_law_757 : decode cL_law 757 = .ok (.iconst 0, 1) := by decide +kernel
theorem dL_law_758 : decode cL_law 758 = .ok (.ireturn, 1) := by decide +kernel
theorem dL_law_759 : decode cL_law 759 = .ok (.aload_n 1, 1) := by decide +kernel
theorem dL_law_760 : decode cL_law 760 = .ok (.aload_n 0, 1) := by decide +kernel
theorem dL_law_761 : decode cL_law 761 = .ok (.iload_n 3, 1) := by decide +kernel
theorem dL_law_762 : decode cL_law 762 = .ok (.iconst 1, 1) := by decide +kernel
theorem dL_law_763 : decode cL_law 763 = .ok (.iadd, 1) := by decide +kernel
theorem dL_law_764 : decode cL_law 764 = .ok (.iaload, 1) := by decide +kernel
theorem dL_law_765 : decode cL_law 765 = .ok (.aload_n 0, 1) := by decide +kernel
theorem dL_law_766 : decode cL_law 766 = .ok (.iload_n 3, 1) := by decide +kernel
theorem dL_law_767 : decode cL_law 767 = .ok (.iconst 2, 1) := by decide +kernel
theorem dL_law_768 : decode cL_law 768 = .ok (.iadd, 1) := by decide +kernel
theorem dL_law_769 : decode cL_law 769 = .ok (.iaload, 1) := by decide +kernel
theorem dL_law_770 : decode cL_law 770 = .ok (.invokevirtual 92, 3) := by decide +kernel
theorem dL_law_773 : decode cL_law 773 = .ok (.aload_n 2, 1) := by decide +kernel
theorem dL_law_774 : decode cL_law 774 = .ok (.aload_n 0, 1) := by decide +kernel
theorem dL_law_775 : decode cL_law 775 = .ok (.iload_n 3, 1) := by decide +kernel
theorem dL_law_776 : decode cL_law 776 = .ok (.iconst 1, 1) := by decide +kernel
theorem dL_law_777 : decode cL_law 777 = .ok (.iadd, 1) := by decide +kernel
theorem dL_law_778 : decode cL_law 778 = .ok (.iaload, 1) := by decide +kernel
theorem dL_law_779 : decode cL_law 779 = .ok (.aload_n 0, 1) := by decide +kernel
theorem dL_law_780 : decode cL_law 780 = .ok (.iload_n 3, 1) := by decide +kernel
theorem dL_law_781 : decode cL_law 781 = .ok (.iconst 2, 1) := by decide +kernel
theorem dL_law_782 : decode cL_law 782 = .ok (.iadd, 1) := by decide +kernel
theorem dL_law_783 : decode cL_law 783 = .ok (.iaload, 1) := by decide +kernel
theorem dL_law_784 : decode cL_law 784 = .ok (.invokevirtual 95, 3) := by decide +kernel
theorem dL_law_787 : decode cL_law 787 = .ok (.if_icmp .eq 454, 3) := by decide +kernel
theorem dL_law_790 : decode cL_law 790 = .ok (.iconst 0, 1) := by decide +kernel
theorem dL_law_791 : decode cL_law 791 = .ok (.ireturn, 1) := by decide +kernel
theorem dL_law_792 : decode cL_law 792 = .ok (.aload_n 1, 1) := by decide +kernel
theorem dL_law_793 : decode cL_law 793 = .ok (.aload_n 0, 1) := by decide +kernel
theorem dL_law_794 : decode cL_law 794 = .ok (.iload_n 3, 1) := by decide +kernel
theorem dL_law_795 : decode cL_law 795 = .ok (.iconst 1, 1) := by decide +kernel
theorem dL_law_796 : decode cL_law 796 = .ok (.iadd, 1) := by decide +kernel
theorem dL_law_797 : decode cL_law 797 = .ok (.iaload, 1) := by decide +kernel
theorem dL_law_798 : decode cL_law 798 = .ok (.invokevirtual 96, 3) := by decide +kernel
theorem dL_law_801 : decode cL_law 801 = .ok (.aload_n 2, 1) := by decide +kernel
theorem dL_law_802 : decode cL_law 802 = .ok (.aload_n 0, 1) := by decide +kernel
theorem dL_law_803 : decode cL_law 803 = .ok (.iload_n 3, 1) := by decide +kernel
theorem dL_law_804 : decode cL_law 804 = .ok (.iconst 1, 1) := by decide +kernel
theorem dL_law_805 : decode cL_law 805 = .ok (.iadd, 1) := by decide +kernel
theorem dL_law_806 : decode cL_law 806 = .ok (.iaload, 1) := by decide +kernel
theorem dL_law_807 : decode cL_law 807 = .ok (.invokevirtual 99, 3) := by decide +kernel
theorem dL_law_810 : decode cL_law 810 = .ok (.if_icmp .eq 431, 3) := by decide +kernel
theorem dL_law_813 : decode cL_law 813 = .ok (.iconst 0, 1) := by decide +kernel
theorem dL_law_814 : decode cL_law 814 = .ok (.ireturn, 1) := by decide +kernel
theorem dL_law_815 : decode cL_law 815 = .ok (.aload_n 1, 1) := by decide +kernel
theorem dL_law_816 : decode cL_law 816 = .ok (.invokevirtual 100, 3) := by decide +kernel
theorem dL_law_819 : decode cL_law 819 = .ok (.aload_n 2, 1) := by decide +kernel
theorem dL_law_820 : decode cL_law 820 = .ok (.invokevirtual 104, 3) := by decide +kernel
theorem dL_law_823 : decode cL_law 823 = .ok (.if_icmp .eq 418, 3) := by decide +kernel
theorem dL_law_826 : decode cL_law 826 = .ok (.iconst 0, 1) := by decide +kernel
theorem dL_law_827 : decode cL_law 827 = .ok (.ireturn, 1) := by decide +kernel
theorem dL_law_828 : decode cL_law 828 = .ok (.aload_n 1, 1) := by decide +kernel
theorem dL_law_829 : decode cL_law 829 = .ok (.aload_n 0, 1) := by decide +kernel
theorem dL_law_830 : decode cL_law 830 = .ok (.iload_n 3, 1) := by decide +kernel
theorem dL_law_831 : decode cL_law 831 = .ok (.iconst 1, 1) := by decide +kernel
theorem dL_law_832 : decode cL_law 832 = .ok (.iadd, 1) := by decide +kernel
theorem dL_law_833 : decode cL_law 833 = .ok (.iaload, 1) := by decide +kernel
theorem dL_law_834 : decode cL_law 834 = .ok (.aload_n 0, 1) := by decide +kernel
theorem dL_law_835 : decode cL_law 835 = .ok (.iload_n 3, 1) := by decide +kernel
theorem dL_law_836 : decode cL_law 836 = .ok (.iconst 2, 1) := by decide +kernel
theorem dL_law_837 : decode cL_law 837 = .ok (.iadd, 1) := by decide +kernel
theorem dL_law_838 : decode cL_law 838 = .ok (.iaload, 1) := by decide +kernel
theorem dL_law_839 : decode cL_law 839 = .ok (.invokevirtual 105, 3) := by decide +kernel
theorem dL_law_842 : decode cL_law 842 = .ok (.aload_n 2, 1) := by decide +kernel
theorem dL_law_843 : decode cL_law 843 = .ok (.aload_n 0, 1) := by decide +kernel
theorem dL_law_844 : decode cL_law 844 = .ok (.iload_n 3, 1) := by decide +kernel
theorem dL_law_845 : decode cL_law 845 = .ok (.iconst 1, 1) := by decide +kernel
theorem dL_law_846 : decode cL_law 846 = .ok (.iadd, 1) := by decide +kernel
theorem dL_law_847 : decode cL_law 847 = .ok (.iaload, 1) := by decide +kernel
theorem dL_law_848 : decode cL_law 848 = .ok (.aload_n 0, 1) := by decide +kernel
theorem dL_law_849 : decode cL_law 849 = .ok (.iload_n 3, 1) := by decide +kernel
theorem dL_law_850 : decode cL_law 850 = .ok (.iconst 2, 1) := by decide +kernel
theorem dL_law_851 : decode cL_law 851 = .ok (.iadd, 1) := by decide +kernel
theorem dL_law_852 : decode cL_law 852 = .ok (.iaload, 1) := by decide +kernel
theorem dL_law_853 : decode cL_law 853 = .ok (.invokevirtual 108, 3) := by decide +kernel
theorem dL_law_856 : decode cL_law 856 = .ok (.if_icmp .eq 385, 3) := by decide +kernel
theorem dL_law_859 : decode cL_law 859 = .ok (.iconst 0, 1) := by decide +kernel
theorem dL_law_860 : decode cL_law 860 = .ok (.ireturn, 1) := by decide +kernel
theorem dL_law_861 : decode cL_law 861 = .ok (.aload_n 1, 1) := by decide +kernel
theorem dL_law_862 : decode cL_law 862 = .ok (.invokevirtual 109, 3) := by decide +kernel
theorem dL_law_865 : decode cL_law 865 = .ok (.aload_n 2, 1) := by decide +kernel
theorem dL_law_866 : decode cL_law 866 = .ok (.invokevirtual 112, 3) := by decide +kernel
theorem dL_law_869 : decode cL_law 869 = .ok (.if_icmp .eq 372, 3) := by decide +kernel
theorem dL_law_872 : decode cL_law 872 = .ok (.iconst 0, 1) := by decide +kernel
theorem dL_law_873 : decode cL_law 873 = .ok (.ireturn, 1) := by decide +kernel
theorem dL_law_874 : decode cL_law 874 = .ok (.aload_n 1, 1) := by decide +kernel
theorem dL_law_875 : decode cL_law 875 = .ok (.invokevirtual 113, 3) := by decide +kernel
theorem dL_law_878 : decode cL_law 878 = .ok (.aload_n 2, 1) := by decide +kernel
theorem dL_law_879 : decode cL_law 879 = .ok (.invokevirtual 116, 3) := by decide +kernel
theorem dL_law_882 : decode cL_law 882 = .ok (.if_icmp .eq 359, 3) := by decide +kernel
theorem dL_law_885 : decode cL_law 885 = .ok (.iconst 0, 1) := by decide +kernel
theorem dL_law_886 : decode cL_law 886 = .ok (.ireturn, 1) := by decide +kernel
theorem dL_law_887 : decode cL_law 887 = .ok (.aload_n 1, 1) := by decide +kernel
theorem dL_law_888 : decode cL_law 888 = .ok (.aload_n 0, 1) := by decide +kernel
theorem dL_law_889 : decode cL_law 889 = .ok (.iload_n 3, 1) := by decide +kernel
theorem dL_law_890 : decode cL_law 890 = .ok (.iconst 1, 1) := by decide +kernel
theorem dL_law_891 : decode cL_law 891 = .ok (.iadd, 1) := by decide +kernel
theorem dL_law_892 : decode cL_law 892 = .ok (.iaload, 1) := by decide +kernel
theorem dL_law_893 : decode cL_law 893 = .ok (.aload_n 0, 1) := by decide +kernel
theorem dL_law_894 : decode cL_law 894 = .ok (.iload_n 3, 1) := by decide +kernel
theorem dL_law_895 : decode cL_law 895 = .ok (.iconst 2, 1) := by decide +kernel
theorem dL_law_896 : decode cL_law 896 = .ok (.iadd, 1) := by decide +kernel
theorem dL_law_897 : decode cL_law 897 = .ok (.iaload, 1) := by decide +kernel
theorem dL_law_898 : decode cL_law 898 = .ok (.aload_n 0, 1) := by decide +kernel
theorem dL_law_899 : decode cL_law 899 = .ok (.iload_n 3, 1) := by decide +kernel
theorem dL_law_900 : decode cL_law 900 = .ok (.iconst 3, 1) := by decide +kernel
theorem dL_law_901 : decode cL_law 901 = .ok (.iadd, 1) := by decide +kernel
theorem dL_law_902 : decode cL_law 902 = .ok (.iaload, 1) := by decide +kernel
theorem dL_law_903 : decode cL_law 903 = .ok (.invokevirtual 117, 3) := by decide +kernel
theorem dL_law_906 : decode cL_law 906 = .ok (.aload_n 2, 1) := by decide +kernel
theorem dL_law_907 : decode cL_law 907 = .ok (.aload_n 0, 1) := by decide +kernel
theorem dL_law_908 : decode cL_law 908 = .ok (.iload_n 3, 1) := by decide +kernel
theorem dL_law_909 : decode cL_law 909 = .ok (.iconst 1, 1) := by decide +kernel
theorem dL_law_910 : decode cL_law 910 = .ok (.iadd, 1) := by decide +kernel
theorem dL_law_911 : decode cL_law 911 = .ok (.iaload, 1) := by decide +kernel
theorem dL_law_912 : decode cL_law 912 = .ok (.aload_n 0, 1) := by decide +kernel
theorem dL_law_913 : decode cL_law 913 = .ok (.iload_n 3, 1) := by decide +kernel
theorem dL_law_914 : decode cL_law 914 = .ok (.iconst 2, 1) := by decide +kernel
theorem dL_law_915 : decode cL_law 915 = .ok (.iadd, 1) := by decide +kernel
theorem dL_law_916 : decode cL_law 916 = .ok (.iaload, 1) := by decide +kernel
theorem dL_law_917 : decode cL_law 917 = .ok (.aload_n 0, 1) := by decide +kernel
theorem dL_law_918 : decode cL_law 918 = .ok (.iload_n 3, 1) := by decide +kernel
theorem dL_law_919 : decode cL_law 919 = .ok (.iconst 3, 1) := by decide +kernel
theorem dL_law_920 : decode cL_law 920 = .ok (.iadd, 1) := by decide +kernel
theorem dL_law_921 : decode cL_law 921 = .ok (.iaload, 1) := by decide +kernel
theorem dL_law_922 : decode cL_law 922 = .ok (.invokevirtual 120, 3) := by decide +kernel
theorem dL_law_925 : decode cL_law 925 = .ok (.if_icmp .eq 316, 3) := by decide +kernel
theorem dL_law_928 : decode cL_law 928 = .ok (.iconst 0, 1) := by decide +kernel
theorem dL_law_929 : decode cL_law 929 = .ok (.ireturn, 1) := by decide +kernel
theorem dL_law_930 : decode cL_law 930 = .ok (.aload_n 1, 1) := by decide +kernel
theorem dL_law_931 : decode cL_law 931 = .ok (.aload_n 0, 1) := by decide +kernel
theorem dL_law_932 : decode cL_law 932 = .ok (.iload_n 3, 1) := by decide +kernel
theorem dL_law_933 : decode cL_law 933 = .ok (.iconst 1, 1) := by decide +kernel
theorem dL_law_934 : decode cL_law 934 = .ok (.iadd, 1) := by decide +kernel
theorem dL_law_935 : decode cL_law 935 = .ok (.iaload, 1) := by decide +kernel
theorem dL_law_936 : decode cL_law 936 = .ok (.aload_n 0, 1) := by decide +kernel
theorem dL_law_937 : decode cL_law 937 = .ok (.iload_n 3, 1) := by decide +kernel
theorem dL_law_938 : decode cL_law 938 = .ok (.iconst 2, 1) := by decide +kernel
theorem dL_law_939 : decode cL_law 939 = .ok (.iadd, 1) := by decide +kernel
theorem dL_law_940 : decode cL_law 940 = .ok (.iaload, 1) := by decide +kernel
theorem dL_law_941 : decode cL_law 941 = .ok (.aload_n 0, 1) := by decide +kernel
theorem dL_law_942 : decode cL_law 942 = .ok (.iload_n 3, 1) := by decide +kernel
theorem dL_law_943 : decode cL_law 943 = .ok (.iconst 3, 1) := by decide +kernel
theorem dL_law_944 : decode cL_law 944 = .ok (.iadd, 1) := by decide +kernel
theorem dL_law_945 : decode cL_law 945 = .ok (.iaload, 1) := by decide +kernel
theorem dL_law_946 : decode cL_law 946 = .ok (.i2l, 1) := by decide +kernel
theorem dL_law_947 : decode cL_law 947 = .ok (.bipush 32, 2) := by decide +kernel
theorem dL_law_949 : decode cL_law 949 = .ok (.lshl, 1) := by decide +kernel
theorem dL_law_950 : decode cL_law 950 = .ok (.aload_n 0, 1) := by decide +kernel
theorem dL_law_951 : decode cL_law 951 = .ok (.iload_n 3, 1) := by decide +kernel
theorem dL_law_952 : decode cL_law 952 = .ok (.iconst 4, 1) := by decide +kernel
theorem dL_law_953 : decode cL_law 953 = .ok (.iadd, 1) := by decide +kernel
theorem dL_law_954 : decode cL_law 954 = .ok (.iaload, 1) := by decide +kernel
theorem dL_law_955 : decode cL_law 955 = .ok (.i2l, 1) := by decide +kernel
theorem dL_law_956 : decode cL_law 956 = .ok (.ldc2_w 121, 3) := by decide +kernel
theorem dL_law_959 : decode cL_law 959 = .ok (.land, 1) := by decide +kernel
theorem dL_law_960 : decode cL_law 960 = .ok (.lor, 1) := by decide +kernel
theorem dL_law_961 : decode cL_law 961 = .ok (.invokevirtual 123, 3) := by decide +kernel
theorem dL_law_964 : decode cL_law 964 = .ok (.aload_n 2, 1) := by decide +kernel
theorem dL_law_965 : decode cL_law 965 = .ok (.aload_n 0, 1) := by decide +kernel
theorem dL_law_966 : decode cL_law 966 = .ok (.iload_n 3, 1) := by decide +kernel
theorem dL_law_967 : decode cL_law 967 = .ok (.iconst 1, 1) := by decide +kernel
theorem dL_law_968 : decode cL_law 968 = .ok (.iadd, 1) := by decide +kernel
theorem dL_law_969 : decode cL_law 969 = .ok (.iaload, 1) := by decide +kernel
theorem dL_law_970 : decode cL_law 970 = .ok (.aload_n 0, 1) := by decide +kernel
theorem dL_law_971 : decode cL_law 971 = .ok (.iload_n 3, 1) := by decide +kernel
theorem dL_law_972 : decode cL_law 972 = .ok (.iconst 2, 1) := by decide +kernel
theorem dL_law_973 : decode cL_law 973 = .ok (.iadd, 1) := by decide +kernel
theorem dL_law_974 : decode cL_law 974 = .ok (.iaload, 1) := by decide +kernel
theorem dL_law_975 : decode cL_law 975 = .ok (.aload_n 0, 1) := by decide +kernel
theorem dL_law_976 : decode cL_law 976 = .ok (.iload_n 3, 1) := by decide +kernel
theorem dL_law_977 : decode cL_law 977 = .ok (.iconst 3, 1) := by decide +kernel
theorem dL_law_978 : decode cL_law 978 = .ok (.iadd, 1) := by decide +kernel
theorem dL_law_979 : decode cL_law 979 = .ok (.iaload, 1) := by decide +kernel
theorem dL_law_980 : decode cL_law 980 = .ok (.i2l, 1) := by decide +kernel
theorem dL_law_981 : decode cL_law 981 = .ok (.bipush 32, 2) := by decide +kernel
theorem dL_law_983 : decode cL_law 983 = .ok (.lshl, 1) := by decide +kernel
theorem dL_law_984 : decode cL_law 984 = .ok (.aload_n 0, 1) := by decide +kernel
theorem dL_law_985 : decode cL_law 985 = .ok (.iload_n 3, 1) := by decide +kernel
theorem dL_law_986 : decode cL_law 986 = .ok (.iconst 4, 1) := by decide +kernel
theorem dL_law_987 : decode cL_law 987 = .ok (.iadd, 1) := by decide +kernel
theorem dL_law_988 : decode cL_law 988 = .ok (.iaload, 1) := by decide +kernel
theorem dL_law_989 : decode cL_law 989 = .ok (.i2l, 1) := by decide +kernel
theorem dL_law_990 : decode cL_law 990 = .ok (.ldc2_w 121, 3) := by decide +kernel
theorem dL_law_993 : decode cL_law 993 = .ok (.land, 1) := by decide +kernel
theorem dL_law_994 : decode cL_law 994 = .ok (.lor, 1) := by decide +kernel
theorem dL_law_995 : decode cL_law 995 = .ok (.invokevirtual 127, 3) := by decide +kernel
theorem dL_law_998 : decode cL_law 998 = .ok (.lcmp, 1) := by decide +kernel
theorem dL_law_999 : decode cL_law 999 = .ok (.ifCond .eq 242, 3) := by decide +kernel
theorem dL_law_1002 : decode cL_law 1002 = .ok (.iconst 0, 1) := by decide +kernel
theorem dL_law_1003 : decode cL_law 1003 = .ok (.ireturn, 1) := by decide +kernel
theorem dL_law_1004 : decode cL_law 1004 = .ok (.aload_n 1, 1) := by decide +kernel
theorem dL_law_1005 : decode cL_law 1005 = .ok (.aload_n 0, 1) := by decide +kernel
theorem dL_law_1006 : decode cL_law 1006 = .ok (.iload_n 3, 1) := by decide +kernel
theorem dL_law_1007 : decode cL_law 1007 = .ok (.iconst 1, 1) := by decide +kernel
theorem dL_law_1008 : decode cL_law 1008 = .ok (.iadd, 1) := by decide +kernel
theorem dL_law_1009 : decode cL_law 1009 = .ok (.iaload, 1) := by decide +kernel
theorem dL_law_1010 : decode cL_law 1010 = .ok (.aload_n 0, 1) := by decide +kernel
theorem dL_law_1011 : decode cL_law 1011 = .ok (.iload_n 3, 1) := by decide +kernel
theorem dL_law_1012 : decode cL_law 1012 = .ok (.iconst 2, 1) := by decide +kernel
theorem dL_law_1013 : decode cL_law 1013 = .ok (.iadd, 1) := by decide +kernel
theorem dL_law_1014 : decode cL_law 1014 = .ok (.iaload, 1) := by decide +kernel
theorem dL_law_1015 : decode cL_law 1015 = .ok (.aload_n 0, 1) := by decide +kernel
theorem dL_law_1016 : decode cL_law 1016 = .ok (.iload_n 3, 1) := by decide +kernel
theorem dL_law_1017 : decode cL_law 1017 = .ok (.iconst 3, 1) := by decide +kernel
theorem dL_law_1018 : decode cL_law 1018 = .ok (.iadd, 1) := by decide +kernel
theorem dL_law_1019 : decode cL_law 1019 = .ok (.iaload, 1) := by decide +kernel
theorem dL_law_1020 : decode cL_law 1020 = .ok (.aload_n 0, 1) := by decide +kernel
theorem dL_law_1021 : decode cL_law 1021 = .ok (.iload_n 3, 1) := by decide +kernel
theorem dL_law_1022 : decode cL_law 1022 = .ok (.iconst 4, 1) := by decide +kernel
theorem dL_law_1023 : decode cL_law 1023 = .ok (.iadd, 1) := by decide +kernel
theorem dL_law_1024 : decode cL_law 1024 = .ok (.iaload, 1) := by decide +kernel
theorem dL_law_1025 : decode cL_law 1025 = .ok (.aload_n 0, 1) := by decide +kernel
theorem dL_law_1026 : decode cL_law 1026 = .ok (.iload_n 3, 1) := by decide +kernel
theorem dL_law_1027 : decode cL_law 1027 = .ok (.iconst 5, 1) := by decide +kernel
theorem dL_law_1028 : decode cL_law 1028 = .ok (.iadd, 1) := by decide +kernel
theorem dL_law_1029 : decode cL_law 1029 = .ok (.iaload, 1) := by decide +kernel
theorem dL_law_1030 : decode cL_law 1030 = .ok (.invokevirtual 128, 3) := by decide +kernel
theorem dL_law_1033 : decode cL_law 1033 = .ok (.aload_n 2, 1) := by decide +kernel
theorem dL_law_1034 : decode cL_law 1034 = .ok (.aload_n 0, 1) := by decide +kernel
theorem dL_law_1035 : decode cL_law 1035 = .ok (.iload_n 3, 1) := by decide +kernel
theorem dL_law_1036 : decode cL_law 1036 = .ok (.iconst 1, 1) := by decide +kernel
theorem dL_law_1037 : decode cL_law 1037 = .ok (.iadd, 1) := by decide +kernel
theorem dL_law_1038 : decode cL_law 1038 = .ok (.iaload, 1) := by decide +kernel
theorem dL_law_1039 : decode cL_law 1039 = .ok (.aload_n 0, 1) := by decide +kernel
theorem dL_law_1040 : decode cL_law 1040 = .ok (.iload_n 3, 1) := by decide +kernel
theorem dL_law_1041 : decode cL_law 1041 = .ok (.iconst 2, 1) := by decide +kernel
theorem dL_law_1042 : decode cL_law 1042 = .ok (.iadd, 1) := by decide +kernel
theorem dL_law_1043 : decode cL_law 1043 = .ok (.iaload, 1) := by decide +kernel
theorem dL_law_1044 : decode cL_law 1044 = .ok (.aload_n 0, 1) := by decide +kernel
theorem dL_law_1045 : decode cL_law 1045 = .ok (.iload_n 3, 1) := by decide +kernel
theorem dL_law_1046 : decode cL_law 1046 = .ok (.iconst 3, 1) := by decide +kernel
theorem dL_law_1047 : decode cL_law 1047 = .ok (.iadd, 1) := by decide +kernel
theorem dL_law_1048 : decode cL_law 1048 = .ok (.iaload, 1) := by decide +kernel
theorem dL_law_1049 : decode cL_law 1049 = .ok (.aload_n 0, 1) := by decide +kernel
theorem dL_law_1050 : decode cL_law 1050 = .ok (.iload_n 3, 1) := by decide +kernel
theorem dL_law_1051 : decode cL_law 1051 = .ok (.iconst 4, 1) := by decide +kernel
theorem dL_law_1052 : decode cL_law 1052 = .ok (.iadd, 1) := by decide +kernel
theorem dL_law_1053 : decode cL_law 1053 = .ok (.iaload, 1) := by decide +kernel
theorem dL_law_1054 : decode cL_law 1054 = .ok (.aload_n 0, 1) := by decide +kernel
theorem dL_law_1055 : decode cL_law 1055 = .ok (.iload_n 3, 1) := by decide +kernel
theorem dL_law_1056 : decode cL_law 1056 = .ok (.iconst 5, 1) := by decide +kernel
theorem dL_law_1057 : decode cL_law 1057 = .ok (.iadd, 1) := by decide +kernel
theorem dL_law_1058 : decode cL_law 1058 = .ok (.iaload, 1) := by decide +kernel
theorem dL_law_1059 : decode cL_law 1059 = .ok (.invokevirtual 132, 3) := by decide +kernel
theorem dL_law_1062 : decode cL_law 1062 = .ok (.if_icmp .eq 179, 3) := by decide +kernel
theorem dL_law_1065 : decode cL_law 1065 = .ok (.iconst 0, 1) := by decide +kernel
theorem dL_law_1066 : decode cL_law 1066 = .ok (.ireturn, 1) := by decide +kernel
theorem dL_law_1067 : decode cL_law 1067 = .ok (.aload_n 1, 1) := by decide +kernel
theorem dL_law_1068 : decode cL_law 1068 = .ok (.aload_n 0, 1) := by decide +kernel
theorem dL_law_1069 : decode cL_law 1069 = .ok (.iload_n 3, 1) := by decide +kernel
theorem dL_law_1070 : decode cL_law 1070 = .ok (.iconst 1, 1) := by decide +kernel
theorem dL_law_1071 : decode cL_law 1071 = .ok (.iadd, 1) := by decide +kernel
theorem dL_law_1072 : decode cL_law 1072 = .ok (.iaload, 1) := by decide +kernel
theorem dL_law_1073 : decode cL_law 1073 = .ok (.invokevirtual 133, 3) := by decide +kernel
theorem dL_law_1076 : decode cL_law 1076 = .ok (.aload_n 2, 1) := by decide +kernel
theorem dL_law_1077 : decode cL_law 1077 = .ok (.aload_n 0, 1) := by decide +kernel
theorem dL_law_1078 : decode cL_law 1078 = .ok (.iload_n 3, 1) := by decide +kernel
theorem dL_law_1079 : decode cL_law 1079 = .ok (.iconst 1, 1) := by decide +kernel
theorem dL_law_1080 : decode cL_law 1080 = .ok (.iadd, 1) := by decide +kernel
theorem dL_law_1081 : decode cL_law 1081 = .ok (.iaload, 1) := by decide +kernel
theorem dL_law_1082 : decode cL_law 1082 = .ok (.invokevirtual 136, 3) := by decide +kernel
theorem dL_law_1085 : decode cL_law 1085 = .ok (.if_icmp .eq 156, 3) := by decide +kernel
theorem dL_law_1088 : decode cL_law 1088 = .ok (.iconst 0, 1) := by decide +kernel
theorem dL_law_1089 : decode cL_law 1089 = .ok (.ireturn, 1) := by decide +kernel
theorem dL_law_1090 : decode cL_law 1090 = .ok (.aload_n 1, 1) := by decide +kernel
theorem dL_law_1091 : decode cL_law 1091 = .ok (.aload_n 0, 1) := by decide +kernel
theorem dL_law_1092 : decode cL_law 1092 = .ok (.iload_n 3, 1) := by decide +kernel
theorem dL_law_1093 : decode cL_law 1093 = .ok (.iconst 1, 1) := by decide +kernel
theorem dL_law_1094 : decode cL_law 1094 = .ok (.iadd, 1) := by decide +kernel
theorem dL_law_1095 : decode cL_law 1095 = .ok (.iaload, 1) := by decide +kernel
theorem dL_law_1096 : decode cL_law 1096 = .ok (.aload_n 0, 1) := by decide +kernel
theorem dL_law_1097 : decode cL_law 1097 = .ok (.iload_n 3, 1) := by decide +kernel
theorem dL_law_1098 : decode cL_law 1098 = .ok (.iconst 2, 1) := by decide +kernel
theorem dL_law_1099 : decode cL_law 1099 = .ok (.iadd, 1) := by decide +kernel
theorem dL_law_1100 : decode cL_law 1100 = .ok (.iaload, 1) := by decide +kernel
theorem dL_law_1101 : decode cL_law 1101 = .ok (.invokevirtual 137, 3) := by decide +kernel
theorem dL_law_1104 : decode cL_law 1104 = .ok (.aload_n 2, 1) := by decide +kernel
theorem dL_law_1105 : decode cL_law 1105 = .ok (.aload_n 0, 1) := by decide +kernel
theorem dL_law_1106 : decode cL_law 1106 = .ok (.iload_n 3, 1) := by decide +kernel
theorem dL_law_1107 : decode cL_law 1107 = .ok (.iconst 1, 1) := by decide +kernel
theorem dL_law_1108 : decode cL_law 1108 = .ok (.iadd, 1) := by decide +kernel
theorem dL_law_1109 : decode cL_law 1109 = .ok (.iaload, 1) := by decide +kernel
theorem dL_law_1110 : decode cL_law 1110 = .ok (.aload_n 0, 1) := by decide +kernel
theorem dL_law_1111 : decode cL_law 1111 = .ok (.iload_n 3, 1) := by decide +kernel
theorem dL_law_1112 : decode cL_law 1112 = .ok (.iconst 2, 1) := by decide +kernel
theorem dL_law_1113 : decode cL_law 1113 = .ok (.iadd, 1) := by decide +kernel
theorem dL_law_1114 : decode cL_law 1114 = .ok (.iaload, 1) := by decide +kernel
theorem dL_law_1115 : decode cL_law 1115 = .ok (.invokevirtual 140, 3) := by decide +kernel
theorem dL_law_1118 : decode cL_law 1118 = .ok (.if_icmp .eq 123, 3) := by decide +kernel
theorem dL_law_1121 : decode cL_law 1121 = .ok (.iconst 0, 1) := by decide +kernel
theorem dL_law_1122 : decode cL_law 1122 = .ok (.ireturn, 1) := by decide +kernel
theorem dL_law_1123 : decode cL_law 1123 = .ok (.aload_n 1, 1) := by decide +kernel
theorem dL_law_1124 : decode cL_law 1124 = .ok (.aload_n 0, 1) := by decide +kernel
theorem dL_law_1125 : decode cL_law 1125 = .ok (.iload_n 3, 1) := by decide +kernel
theorem dL_law_1126 : decode cL_law 1126 = .ok (.iconst 1, 1) := by decide +kernel
theorem dL_law_1127 : decode cL_law 1127 = .ok (.iadd, 1) := by decide +kernel
theorem dL_law_1128 : decode cL_law 1128 = .ok (.iaload, 1) := by decide +kernel
theorem dL_law_1129 : decode cL_law 1129 = .ok (.aload_n 0, 1) := by decide +kernel
theorem dL_law_1130 : decode cL_law 1130 = .ok (.iload_n 3, 1) := by decide +kernel
theorem dL_law_1131 : decode cL_law 1131 = .ok (.iconst 2, 1) := by decide +kernel
theorem dL_law_1132 : decode cL_law 1132 = .ok (.iadd, 1) := by decide +kernel
theorem dL_law_1133 : decode cL_law 1133 = .ok (.iaload, 1) := by decide +kernel
theorem dL_law_1134 : decode cL_law 1134 = .ok (.invokevirtual 141, 3) := by decide +kernel
theorem dL_law_1137 : decode cL_law 1137 = .ok (.aload_n 2, 1) := by decide +kernel
theorem dL_law_1138 : decode cL_law 1138 = .ok (.aload_n 0, 1) := by decide +kernel
theorem dL_law_1139 : decode cL_law 1139 = .ok (.iload_n 3, 1) := by decide +kernel
theorem dL_law_1140 : decode cL_law 1140 = .ok (.iconst 1, 1) := by decide +kernel
theorem dL_law_1141 : decode cL_law 1141 = .ok (.iadd, 1) := by decide +kernel
theorem dL_law_1142 : decode cL_law 1142 = .ok (.iaload, 1) := by decide +kernel
theorem dL_law_1143 : decode cL_law 1143 = .ok (.aload_n 0, 1) := by decide +kernel
theorem dL_law_1144 : decode cL_law 1144 = .ok (.iload_n 3, 1) := by decide +kernel
theorem dL_law_1145 : decode cL_law 1145 = .ok (.iconst 2, 1) := by decide +kernel
theorem dL_law_1146 : decode cL_law 1146 = .ok (.iadd, 1) := by decide +kernel
theorem dL_law_1147 : decode cL_law 1147 = .ok (.iaload, 1) := by decide +kernel
theorem dL_law_1148 : decode cL_law 1148 = .ok (.invokevirtual 144, 3) := by decide +kernel
theorem dL_law_1151 : decode cL_law 1151 = .ok (.if_icmp .eq 90, 3) := by decide +kernel
theorem dL_law_1154 : decode cL_law 1154 = .ok (.iconst 0, 1) := by decide +kernel
theorem dL_law_1155 : decode cL_law 1155 = .ok (.ireturn, 1) := by decide +kernel
theorem dL_law_1156 : decode cL_law 1156 = .ok (.aload_n 1, 1) := by decide +kernel
theorem dL_law_1157 : decode cL_law 1157 = .ok (.invokevirtual 145, 3) := by decide +kernel
theorem dL_law_1160 : decode cL_law 1160 = .ok (.aload_n 2, 1) := by decide +kernel
theorem dL_law_1161 : decode cL_law 1161 = .ok (.invokevirtual 148, 3) := by decide +kernel
theorem dL_law_1164 : decode cL_law 1164 = .ok (.if_icmp .eq 77, 3) := by decide +kernel
theorem dL_law_1167 : decode cL_law 1167 = .ok (.iconst 0, 1) := by decide +kernel
theorem dL_law_1168 : decode cL_law 1168 = .ok (.ireturn, 1) := by decide +kernel
theorem dL_law_1169 : decode cL_law 1169 = .ok (.aload_n 1, 1) := by decide +kernel
theorem dL_law_1170 : decode cL_law 1170 = .ok (.invokevirtual 149, 3) := by decide +kernel
theorem dL_law_1173 : decode cL_law 1173 = .ok (.aload_n 2, 1) := by decide +kernel
theorem dL_law_1174 : decode cL_law 1174 = .ok (.invokevirtual 152, 3) := by decide +kernel
theorem dL_law_1177 : decode cL_law 1177 = .ok (.if_icmp .eq 64, 3) := by decide +kernel
theorem dL_law_1180 : decode cL_law 1180 = .ok (.iconst 0, 1) := by decide +kernel
theorem dL_law_1181 : decode cL_law 1181 = .ok (.ireturn, 1) := by decide +kernel
theorem dL_law_1182 : decode cL_law 1182 = .ok (.aload_n 1, 1) := by decide +kernel
theorem dL_law_1183 : decode cL_law 1183 = .ok (.invokevirtual 153, 3) := by decide +kernel
theorem dL_law_1186 : decode cL_law 1186 = .ok (.aload_n 2, 1) := by decide +kernel
theorem dL_law_1187 : decode cL_law 1187 = .ok (.invokevirtual 156, 3) := by decide +kernel
theorem dL_law_1190 : decode cL_law 1190 = .ok (.if_icmp .eq 51, 3) := by decide +kernel
theorem dL_law_1193 : decode cL_law 1193 = .ok (.iconst 0, 1) := by decide +kernel
theorem dL_law_1194 : decode cL_law 1194 = .ok (.ireturn, 1) := by decide +kernel
theorem dL_law_1195 : decode cL_law 1195 = .ok (.aload_n 1, 1) := by decide +kernel
theorem dL_law_1196 : decode cL_law 1196 = .ok (.aload_n 0, 1) := by decide +kernel
theorem dL_law_1197 : decode cL_law 1197 = .ok (.iload_n 3, 1) := by decide +kernel
theorem dL_law_1198 : decode cL_law 1198 = .ok (.iconst 1, 1) := by decide +kernel
theorem dL_law_1199 : decode cL_law 1199 = .ok (.iadd, 1) := by decide +kernel
theorem dL_law_1200 : decode cL_law 1200 = .ok (.iaload, 1) := by decide +kernel
theorem dL_law_1201 : decode cL_law 1201 = .ok (.invokevirtual 157, 3) := by decide +kernel
theorem dL_law_1204 : decode cL_law 1204 = .ok (.aload_n 2, 1) := by decide +kernel
theorem dL_law_1205 : decode cL_law 1205 = .ok (.aload_n 0, 1) := by decide +kernel
theorem dL_law_1206 : decode cL_law 1206 = .ok (.iload_n 3, 1) := by decide +kernel
theorem dL_law_1207 : decode cL_law 1207 = .ok (.iconst 1, 1) := by decide +kernel
theorem dL_law_1208 : decode cL_law 1208 = .ok (.iadd, 1) := by decide +kernel
theorem dL_law_1209 : decode cL_law 1209 = .ok (.iaload, 1) := by decide +kernel
theorem dL_law_1210 : decode cL_law 1210 = .ok (.invokevirtual 160, 3) := by decide +kernel
theorem dL_law_1213 : decode cL_law 1213 = .ok (.if_icmp .eq 28, 3) := by decide +kernel
theorem dL_law_1216 : decode cL_law 1216 = .ok (.iconst 0, 1) := by decide +kernel
theorem dL_law_1217 : decode cL_law 1217 = .ok (.ireturn, 1) := by decide +kernel
theorem dL_law_1218 : decode cL_law 1218 = .ok (.aload_n 1, 1) := by decide +kernel
theorem dL_law_1219 : decode cL_law 1219 = .ok (.aload_n 0, 1) := by decide +kernel
theorem dL_law_1220 : decode cL_law 1220 = .ok (.iload_n 3, 1) := by decide +kernel
theorem dL_law_1221 : decode cL_law 1221 = .ok (.iconst 1, 1) := by decide +kernel
theorem dL_law_1222 : decode cL_law 1222 = .ok (.iadd, 1) := by decide +kernel
theorem dL_law_1223 : decode cL_law 1223 = .ok (.iaload, 1) := by decide +kernel
theorem dL_law_1224 : decode cL_law 1224 = .ok (.invokevirtual 161, 3) := by decide +kernel
theorem dL_law_1227 : decode cL_law 1227 = .ok (.aload_n 2, 1) := by decide +kernel
theorem dL_law_1228 : decode cL_law 1228 = .ok (.aload_n 0, 1) := by decide +kernel
theorem dL_law_1229 : decode cL_law 1229 = .ok (.iload_n 3, 1) := by decide +kernel
theorem dL_law_1230 : decode cL_law 1230 = .ok (.iconst 1, 1) := by decide +kernel
theorem dL_law_1231 : decode cL_law 1231 = .ok (.iadd, 1) := by decide +kernel
theorem dL_law_1232 : decode cL_law 1232 = .ok (.iaload, 1) := by decide +kernel
theorem dL_law_1233 : decode cL_law 1233 = .ok (.invokevirtual 164, 3) := by decide +kernel
theorem dL_law_1236 : decode cL_law 1236 = .ok (.if_icmp .eq 5, 3) := by decide +kernel
theorem dL_law_1239 : decode cL_law 1239 = .ok (.iconst 0, 1) := by decide +kernel
theorem dL_law_1240 : decode cL_law 1240 = .ok (.ireturn, 1) := by decide +kernel
theorem dL_law_1241 : decode cL_law 1241 = .ok (.iinc 3 6, 3) := by decide +kernel
theorem dL_law_1244 : decode cL_law 1244 = .ok (.goto (-1226), 3) := by decide +kernel
theorem dL_law_1247 : decode cL_law 1247 = .ok (.iconst 1, 1) := by decide +kernel
theorem dL_law_1248 : decode cL_law 1248 = .ok (.ireturn, 1) := by decide +kernel
end
section
/-! ===== the world: 56 cells at places 0 .. 55, their addresses ga X; a heap is a function of places ===== -/
abbrev Gx : Type := (Nat → Nat) × va_G × (Nat → ClassId) × (Nat → Nat) × (Nat → Nat) × (Nat → Nat)
def ga (X : Gx) (k : Nat) : Nat := X.1 k
def gD (X : Gx) : va_G := X.2.1
def gc (X : Gx) (k : Nat) : ClassId := X.2.2.1 k
def gs (X : Gx) (k : Nat) : Nat := X.2.2.2.1 k
def gK (X : Gx) : Nat → Nat := X.2.2.2.2.1
def gV (X : Gx) : Nat → Nat := X.2.2.2.2.2
abbrev Hp : Type := Nat → va_E
def gw (X : Gx) (f : Hp) : va_W := (List.range 56).map (fun k => (ga X k, f k))
def gA (X : Gx) : Nat → Prop := fun q => ∃ k, k < 56 ∧ ga X k = q
def gty (X : Gx) : List (ClassId × FieldType) := [(gc X 0, .int), (gc X 1, .long), (gc X 2, .object RX0), (gc X 3, .object RX2)]
def gI (X : Gx) : Prop := ∀ i j, i < 56 → j < 56 → ga X i = ga X j → i = j
theorem gw_at {X : Gx} {f : Hp} {k : Nat} (h : k < 56) : (gw X f)[k]? = some (ga X k, f k) := by
  simp [gw, h]
theorem gw_len {X : Gx} {f : Hp} : (gw X f).length = 56 := by simp [gw]
theorem gw_up {X : Gx} {f : Hp} {k : Nat} {e : va_E} : (gw X f).set k (ga X k, e) = gw X (va_up f k e) := by
  apply List.ext_getElem?
  intro j
  by_cases hj : j < 56
  · by_cases e1 : k = j
    · subst e1
      rw [List.getElem?_set_self (by rw [gw_len]; exact hj), gw_at hj]
      simp [va_up]
    · rw [List.getElem?_set_ne e1, gw_at hj, gw_at hj]
      simp [va_up, Ne.symm e1]
  · rw [List.getElem?_eq_none (by rw [List.length_set, gw_len]; omega), List.getElem?_eq_none (by rw [gw_len]; omega)]
theorem gw_D {X : Gx} {f : Hp} (h : gI X) : va_D (gA X) (gw X f) := by
  refine ⟨fun i j p q hi hj e => ?_, fun k q hk => ?_⟩
  · have li := (List.getElem?_eq_some_iff.mp hi).1
    have lj := (List.getElem?_eq_some_iff.mp hj).1
    rw [gw_len] at li lj
    rw [gw_at li] at hi
    rw [gw_at lj] at hj
    cases hi; cases hj
    exact h i j li lj e
  · have lk := (List.getElem?_eq_some_iff.mp hk).1
    rw [gw_len] at lk
    rw [gw_at lk] at hk
    cases hk
    exact ⟨k, lk, rfl⟩
/-! constants: the two static rows, the eleven words of the text -/
def kaF (j : Nat) : Value := .int (([-1, 0, 0, 0, 1, 2] : List Int32).getD j 0)
def nmL : List Int32 := [112, 101, 114, 115, 111, 110, 0, 98, 114, 111, 116, 104, 101, 114, 98, 114, 105, 100, 101, 0, 0, 115, 97, 105, 110, 116, 0, 0, 116, 119, 105, 110, 0, 0, 0, 119, 105, 100, 111, 119, 0, 0, 103, 114, 117, 100, 103, 101, 0, 97, 116, 0, 0, 0, 0, 0, 103, 114, 105, 110, 100, 0, 0, 117, 112, 0, 0, 0, 0, 0, 100, 111, 119, 110, 0, 0, 0]
def nmF (j : Nat) : Value := .int (nmL.getD j 0)
/-- the words, by their number: 0 person .. 5 widow, 6 grudge, 7 at, 8 grind, 9 up, 10 down -/
def swL : List (List Int32) := [[112, 101, 114, 115, 111, 110], [98, 114, 111, 116, 104, 101, 114], [98, 114, 105, 100, 101], [115, 97, 105, 110, 116], [116, 119, 105, 110], [119, 105, 100, 111, 119], [103, 114, 117, 100, 103, 101], [97, 116], [103, 114, 105, 110, 100], [117, 112], [100, 111, 119, 110]]
def swN : List Nat := [6, 7, 5, 5, 4, 5, 6, 2, 5, 2, 4]
def swI : List (Nat × String) := [(111, "person"), (101, "brother"), (103, "bride"), (105, "saint"), (107, "twin"), (109, "widow"), (67, "grudge"), (81, "at"), (34, "grind"), (43, "up"), (49, "down")]
def gZ (X : Gx) (U : State) : Prop :=
  gI X ∧ va_K (gD X) vwCl (gty X) U ∧ (∀ q ∈ nstT, va_Nw (nW q) U) ∧
  (va_Z RX5 "KIND_ABOVE" "[I" (.ref (gs X 0)) (gA X) U U.heap ∧ va_T .int (gs X 0) 6 kaF (gA X) U U.heap) ∧
  (va_Z RX6 "NAMES" "[I" (.ref (gs X 1)) (gA X) U U.heap ∧ va_T .int (gs X 1) 77 nmF (gA X) U U.heap) ∧
  vk_S 11 swN swL (gK X) (gV X) (gA X) U U.heap ∧ (∀ (i : Nat) (q : Nat × String), swI[i]? = some q → vk_R RX4 q.1 q.2 (gK X i) U) ∧
  va_Z RJ0 "COMPACT_STRINGS" "Z" (.int 1) (gA X) U U.heap ∧ va_Zq RJ3 "SIOOBE_FORMATTER" "Ljava/util/function/BiFunction;" (gA X) U U.heap
theorem gZ.calling {X : Gx} {U : State} {g : JFrame} {mk : MethodId} {as : Array Value} (h : gZ X U) : gZ X (U.calling g mk as) := by
  obtain ⟨h1, h2, h3, ⟨h4, h5⟩, ⟨h6, h7⟩, h8, h9, h10, h11⟩ := h
  have al : U.vm.Alike (U.calling g mk as).vm := Vm.Alike.refl U.vm
  exact ⟨h1, va_K.moved al h2, fun q hq => va_Nw.same rfl rfl (h3 q hq), ⟨va_Z.moved al h4, va_T.moved al h5⟩, ⟨va_Z.moved al h6, va_T.moved al h7⟩, vk_S.moved al h8, fun i q hq => vk_R.same rfl (h9 i q hq), va_Z.moved al h10, va_Zq.moved al h11⟩
theorem gZ.go {X : Gx} {s U : State} {H : Heap} {locs : List Loc} (h : gZ X s) (hS : va_S (gA X) s.heap H locs) (hU : U.heap = H) (hW : s.WarmedH U.vm) : gZ X U := by
  obtain ⟨h1, h2, h3, ⟨h4, h5⟩, ⟨h6, h7⟩, h8, h9, h10, h11⟩ := h
  have al := hW.alike
  subst hU
  have hk := hS.2.1
  exact ⟨h1, va_K.moved al h2, fun q hq => va_Nw.warmF hW (h3 q hq), ⟨(va_Z.moved al h4).kept hk, (va_T.moved al h5).kept hk⟩, ⟨(va_Z.moved al h6).kept hk, (va_T.moved al h7).kept hk⟩, (vk_S.moved al h8).kept hk, fun i q hq => vk_R.warm hW (h9 i q hq), (va_Z.moved al h10).kept hk, (va_Zq.moved al h11).kept hk⟩
/-! ===== locals: a list, none where nothing is known ===== -/
abbrev Lv : Type := List (Option Value)
def hasL (ls : Array Slot) (nL : Nat) (lv : Lv) : Prop := ls.size = nL ∧ lv_wf ls ∧ (∀ (i : Nat) (v : Value), lv[i]? = some (some v) → ls[i]? = some (.val v)) ∧ lv.length ≤ nL
def prs (lv : Lv) : List (Nat × Value) := (List.range lv.length).filterMap (fun i => match lv[i]? with
  | some (some v) => some (i, v)
  | _ => none)
theorem prs_mem {lv : Lv} {i : Nat} {v : Value} : (i, v) ∈ prs lv ↔ lv[i]? = some (some v) := by
  unfold prs
  rw [List.mem_filterMap]
  constructor
  · rintro ⟨j, hj, h⟩
    cases hq : lv[j]? with
    | none => rw [hq] at h; cases h
    | some w =>
      cases w with
      | none => rw [hq] at h; cases h
      | some w => rw [hq] at h; cases h; exact hq
  · intro h
    refine ⟨i, List.mem_range.mpr (List.getElem?_eq_some_iff.mp h).1, ?_⟩
    rw [h]
theorem hasL.prs {ls : Array Slot} {nL : Nat} {lv : Lv} (h : hasL ls nL lv) : lv_has ls nL (prs lv) := ⟨h.1, h.2.1, fun q hq => h.2.2.1 q.1 q.2 (prs_mem.mp hq)⟩
def cat1 (x : Option Value) : Bool := match x with
  | some v => !(v.category == 2)
  | none => true
def pOK (lv : Lv) (i : Nat) : Bool := match i with
  | 0 => true
  | i + 1 => match lv[i]? with
    | some x => cat1 x
    | none => true
theorem hasL_set1 {ls : Array Slot} {nL : Nat} {lv : Lv} {i : Nat} {v : Value} (hi : i < lv.length) (hn : lv.length ≤ nL) (hp : pOK lv i = true) (h : lv_has ls nL ((i, v) :: (prs lv).filter (fun q => !(q.1 == i) && !(q.1 + 1 == i && q.2.category == 2)))) : hasL ls nL (lv.set i (some v)) := by
  refine ⟨h.1, h.2.1, fun j w hj => ?_, by rw [List.length_set]; exact hn⟩
  by_cases e : i = j
  · subst e
    rw [List.getElem?_set_self hi] at hj
    cases hj
    exact h.2.2 _ List.mem_cons_self
  · rw [List.getElem?_set_ne e] at hj
    refine h.2.2 (j, w) (List.mem_cons_of_mem _ (List.mem_filter.mpr ⟨prs_mem.mpr hj, ?_⟩))
    have hne : ¬ j = i := fun z => e z.symm
    by_cases e2 : j + 1 = i
    · subst e2
      have : cat1 (some w) = true := by
        have hp2 := hp
        simp only [pOK, hj] at hp2
        exact hp2
      simp only [cat1] at this
      simp [hne]
      simpa using this
    · simp [hne, e2]
theorem hasL_set2 {ls : Array Slot} {nL : Nat} {lv : Lv} {i : Nat} {v : Value} (hi : i < lv.length) (hn : lv.length ≤ nL) (hp : pOK lv i = true) (h : lv_has ls nL ((i, v) :: (prs lv).filter (fun q => !(q.1 == i) && (!(q.1 == i + 1) && !(q.1 + 1 == i && q.2.category == 2))))) : hasL ls nL ((lv.set i (some v)).set (i + 1) none) := by
  refine ⟨h.1, h.2.1, fun j w hj => ?_, by rw [List.length_set, List.length_set]; exact hn⟩
  by_cases e0 : i + 1 = j
  · subst e0
    by_cases hl : i + 1 < (lv.set i (some v)).length
    · rw [List.getElem?_set_self hl] at hj; cases hj
    · rw [List.getElem?_eq_none (by rw [List.length_set]; omega)] at hj; cases hj
  rw [List.getElem?_set_ne e0] at hj
  by_cases e : i = j
  · subst e
    rw [List.getElem?_set_self hi] at hj
    cases hj
    exact h.2.2 _ List.mem_cons_self
  · rw [List.getElem?_set_ne e] at hj
    refine h.2.2 (j, w) (List.mem_cons_of_mem _ (List.mem_filter.mpr ⟨prs_mem.mpr hj, ?_⟩))
    have hne : ¬ j = i := fun z => e z.symm
    have hne0 : ¬ j = i + 1 := fun z => e0 z.symm
    by_cases e2 : j + 1 = i
    · subst e2
      have : cat1 (some w) = true := by
        have hp2 := hp
        simp only [pOK, hj] at hp2
        exact hp2
      simp only [cat1] at this
      have h8 : ¬ j = j + 1 + 1 := by omega
      simp [hne, h8]
      simpa using this
    · simp [hne, hne0, e2]
/-- less is known -/
def lvLe : Lv → Lv → Prop
  | [], _ => True
  | _ :: _, [] => False
  | none :: t, _ :: u => lvLe t u
  | some x :: t, y :: u => y = some x ∧ lvLe t u
theorem lvLe_at : ∀ (t u : Lv), lvLe t u → ∀ (i : Nat) (v : Value), t[i]? = some (some v) → u[i]? = some (some v)
  | [], _, _, i, v, h => by simp at h
  | x :: t, [], hl, i, v, h => absurd hl (by simp [lvLe])
  | none :: t, y :: u, hl, i, v, h => by
    cases i with
    | zero => simp at h
    | succ i => simpa using lvLe_at t u hl i v (by simpa using h)
  | some x :: t, y :: u, hl, i, v, h => by
    cases i with
    | zero => obtain ⟨h1, -⟩ := hl; subst h1; simpa using h
    | succ i => simpa using lvLe_at t u hl.2 i v (by simpa using h)
theorem lvLe_len : ∀ (t u : Lv), lvLe t u → t.length ≤ u.length
  | [], _, _ => by simp
  | x :: t, [], hl => absurd hl (by simp [lvLe])
  | none :: t, y :: u, hl => by have := lvLe_len t u hl; simp; omega
  | some x :: t, y :: u, hl => by have := lvLe_len t u hl.2; simp; omega
def lvA : List Value → Lv
  | [] => []
  | v :: vs => if v.category = 2 then some v :: none :: lvA vs else some v :: lvA vs
def lvE (n : Nat) (vs : List Value) : Lv := lvA vs ++ List.replicate (n - (lvA vs).length) none
theorem lvA_args : ∀ (vs : List Value) (i j : Nat) (v : Value), (lvA vs)[j]? = some (some v) → (i + j, v) ∈ lv_args i vs
  | [], i, j, v, h => by simp [lvA] at h
  | w :: vs, i, j, v, h => by
    unfold lvA at h
    unfold lv_args
    by_cases hc : w.category = 2
    · rw [if_pos hc] at h ⊢
      match j, h with
      | 0, h => simp at h; subst h; exact List.mem_cons_self
      | 1, h => simp at h
      | j + 2, h => have := lvA_args vs (i + 2) j v (by simpa using h); rw [show i + (j + 2) = i + 2 + j by omega]; exact List.mem_cons_of_mem _ this
    · rw [if_neg hc] at h ⊢
      match j, h with
      | 0, h => simp at h; subst h; exact List.mem_cons_self
      | j + 1, h => have := lvA_args vs (i + 1) j v (by simpa using h); rw [show i + (j + 1) = i + 1 + j by omega]; exact List.mem_cons_of_mem _ this
theorem hasL_entry (vs : List Value) {n : Nat} (h : (lg_sl vs).length ≤ n) (h0 : (lvE n vs).length ≤ n) : hasL ((lg_sl vs ++ List.replicate (n - (lg_sl vs).length) Slot.unset).toArray) n (lvE n vs) := by
  obtain ⟨h1, h2, h3⟩ := lv_entry vs h
  refine ⟨h1, h2, fun i v hi => ?_, h0⟩
  by_cases hl : i < (lvA vs).length
  · rw [lvE, List.getElem?_append_left hl] at hi
    have := h3 _ (lvA_args vs 0 i v hi)
    simpa using this
  · rw [lvE, List.getElem?_append_right (by omega)] at hi
    have := List.mem_of_getElem? hi
    rw [List.mem_replicate] at this
    cases this.2
/-! ===== the judgement ===== -/
abbrev Cx : Type := Program × Env × State × MethodId × Array Value × List Frame × Method × Code × Nat × (State → Prop) × Nat × Nat
def V (l : Launch) (X : Gx) (R : Room) (C : Cx) (f : Hp) (pc : Nat) (lv : Lv) (st : List Value) : Prop := match C with
  | (p, e, s, m, args, below, meth, c, nL, Q, kc, ks) => ∀ (H : Heap) (locs : List Loc) (ls : Array Slot), va_P (gD X) vwCl (gw X f) H → va_S (gA X) s.heap H locs → hasL ls nL lv → W p l e R s m args below meth c H locs kc ks Q (F0 m pc ls st)
def cOK (X : Gx) (R : Room) (C : Cx) (cc : ByteArray) (own : String) : Prop := match C with
  | (p, _, s, m, args, _, _, c, nL, _, kc, ks) => p.tables.exec = Jvm.exec ∧ c.code = cc ∧ c.maxLocals = nL ∧ s.vm.findClass own = some m.cls ∧ (∀ w ∈ tG, w.before args s = true) ∧ gZ X s ∧ kc ≤ R.cells ∧ ks ≤ R.slots
def rmk (F L : Nat) : Room := { frames := F, cells := 0, slots := 0, locals := L }
/-- contracts: an int or boolean (or byte, char) answer; none; a long; a reference -/
def Ci (l : Launch) (X : Gx) (y : MethodName) (bytes : ByteArray) (maxL : Nat) (ret : Option FieldType) (rm : Room) (as : List Value) (f : Hp) (post : Int32 → Hp → Prop) : Prop :=
  Met l y (Cond.code y bytes maxL ret :: tG) rm (va_Pc as (fun U => gZ X U ∧ va_P (gD X) vwCl (gw X f) U.heap)) (va_Qi post (fun g t => va_P (gD X) vwCl (gw X g) t.heap) (gA X)) 0 0 (gA X)
def Cv (l : Launch) (X : Gx) (y : MethodName) (bytes : ByteArray) (maxL : Nat) (ret : Option FieldType) (rm : Room) (as : List Value) (f : Hp) (post : Hp → Prop) : Prop :=
  Met l y (Cond.code y bytes maxL ret :: tG) rm (va_Pc as (fun U => gZ X U ∧ va_P (gD X) vwCl (gw X f) U.heap)) (va_Qv post (fun g t => va_P (gD X) vwCl (gw X g) t.heap) (gA X)) 0 0 (gA X)
def Cl (l : Launch) (X : Gx) (y : MethodName) (bytes : ByteArray) (maxL : Nat) (ret : Option FieldType) (rm : Room) (as : List Value) (f : Hp) (post : Int64 → Hp → Prop) : Prop :=
  Met l y (Cond.code y bytes maxL ret :: tG) rm (va_Pc as (fun U => gZ X U ∧ va_P (gD X) vwCl (gw X f) U.heap)) (va_Ql post (fun g t => va_P (gD X) vwCl (gw X g) t.heap) (gA X)) 0 0 (gA X)
def Cr (l : Launch) (X : Gx) (y : MethodName) (bytes : ByteArray) (maxL : Nat) (ret : Option FieldType) (rm : Room) (as : List Value) (f : Hp) (post : Nat → Hp → Prop) : Prop :=
  Met l y (Cond.code y bytes maxL ret :: tG) rm (va_Pc as (fun U => gZ X U ∧ va_P (gD X) vwCl (gw X f) U.heap)) (va_Qr (fun _ : Hp => True) (fun g a t => post a g ∧ va_P (gD X) vwCl (gw X g) t.heap) (gA X)) 0 0 (gA X)
section VR
variable {l : Launch} {X : Gx} {R : Room} {C : Cx} {f : Hp} {pc q t : Nat} {lv : Lv} {st : List Value} {cc : ByteArray} {own : String}
theorem v_weak {lv' : Lv} (h : lvLe lv' lv) (k : V l X R C f pc lv' st) : V l X R C f pc lv st := by
  obtain ⟨p, e, s, m, args, below, meth, c, nL, Q, kc, ks⟩ := C
  intro H locs ls hP hS hl
  exact k H locs ls hP hS ⟨hl.1, hl.2.1, fun i v hi => hl.2.2.1 i v (lvLe_at _ _ h i v hi), Nat.le_trans (lvLe_len _ _ h) hl.2.2.2⟩
theorem v_heap {g : Hp} (h : f = g) (k : V l X R C g pc lv st) : V l X R C f pc lv st := h ▸ k
theorem v_tops {st' : List Value} (h : st = st') (k : V l X R C f pc lv st') : V l X R C f pc lv st := h ▸ k

theorem v_iconst (hC : cOK X R C cc own) {n : Int} {v : Int32} (hv : Int32.ofInt n = v) (d : decode cc pc = .ok (.iconst n, 1)) (hq : pc + 1 = q) (k : V l X R C f q lv (.int v :: st)) : V l X R C f pc lv (st) := by
  obtain ⟨p, e, s, m, args, below, meth, c, nL, Q, kc, ks⟩ := C
  subst hq
  intro H locs ls hP hS hl
  exact lv_iconst hC.1 hC.2.1 d hv (k H locs ls hP hS hl)
theorem v_bipush (hC : cOK X R C cc own) {n : Int} {v : Int32} (hv : (Int8.ofInt n).toInt32 = v) (d : decode cc pc = .ok (.bipush n, 2)) (hq : pc + 2 = q) (k : V l X R C f q lv (.int v :: st)) : V l X R C f pc lv (st) := by
  obtain ⟨p, e, s, m, args, below, meth, c, nL, Q, kc, ks⟩ := C
  subst hq
  intro H locs ls hP hS hl
  exact lv_bipush hC.1 hC.2.1 d hv (k H locs ls hP hS hl)
theorem v_sipush (hC : cOK X R C cc own) {n : Int} {v : Int32} (hv : (Int16.ofInt n).toInt32 = v) (d : decode cc pc = .ok (.sipush n, 3)) (hq : pc + 3 = q) (k : V l X R C f q lv (.int v :: st)) : V l X R C f pc lv (st) := by
  obtain ⟨p, e, s, m, args, below, meth, c, nL, Q, kc, ks⟩ := C
  subst hq
  intro H locs ls hP hS hl
  exact lv_sipush hC.1 hC.2.1 d hv (k H locs ls hP hS hl)
theorem v_lconst (hC : cOK X R C cc own) {n : Fin 2} {v : Int64} (hv : Int64.ofNat (n : Nat) = v) (d : decode cc pc = .ok (.lconst n, 1)) (hq : pc + 1 = q) (k : V l X R C f q lv (.long v :: st)) : V l X R C f pc lv (st) := by
  obtain ⟨p, e, s, m, args, below, meth, c, nL, Q, kc, ks⟩ := C
  subst hq
  intro H locs ls hP hS hl
  exact lv_lconst hC.1 hC.2.1 d hv (k H locs ls hP hS hl)
theorem v_iload_n (hC : cOK X R C cc own) {j : Fin 4} {x : Int32} (hv : lv[(j : Nat)]? = some (some (.int x))) (d : decode cc pc = .ok (.iload_n j, 1)) (hq : pc + 1 = q) (k : V l X R C f q lv (.int x :: st)) : V l X R C f pc lv (st) := by
  obtain ⟨p, e, s, m, args, below, meth, c, nL, Q, kc, ks⟩ := C
  subst hq
  intro H locs ls hP hS hl
  exact lv_iload_n hC.1 hC.2.1 d rfl (hl.2.2.1 _ _ hv) (k H locs ls hP hS hl)
theorem v_iload (hC : cOK X R C cc own) {i : Nat} {x : Int32} (hv : lv[i]? = some (some (.int x))) (d : decode cc pc = .ok (.iload i, 2)) (hq : pc + 2 = q) (k : V l X R C f q lv (.int x :: st)) : V l X R C f pc lv (st) := by
  obtain ⟨p, e, s, m, args, below, meth, c, nL, Q, kc, ks⟩ := C
  subst hq
  intro H locs ls hP hS hl
  exact lv_iload hC.1 hC.2.1 d (hl.2.2.1 _ _ hv) (k H locs ls hP hS hl)
theorem v_lload_n (hC : cOK X R C cc own) {j : Fin 4} {x : Int64} (hv : lv[(j : Nat)]? = some (some (.long x))) (d : decode cc pc = .ok (.lload_n j, 1)) (hq : pc + 1 = q) (k : V l X R C f q lv (.long x :: st)) : V l X R C f pc lv (st) := by
  obtain ⟨p, e, s, m, args, below, meth, c, nL, Q, kc, ks⟩ := C
  subst hq
  intro H locs ls hP hS hl
  exact lv_lload_n hC.1 hC.2.1 d rfl (hl.2.2.1 _ _ hv) (k H locs ls hP hS hl)
theorem v_lload (hC : cOK X R C cc own) {i : Nat} {x : Int64} (hv : lv[i]? = some (some (.long x))) (d : decode cc pc = .ok (.lload i, 2)) (hq : pc + 2 = q) (k : V l X R C f q lv (.long x :: st)) : V l X R C f pc lv (st) := by
  obtain ⟨p, e, s, m, args, below, meth, c, nL, Q, kc, ks⟩ := C
  subst hq
  intro H locs ls hP hS hl
  exact lv_lload hC.1 hC.2.1 d (hl.2.2.1 _ _ hv) (k H locs ls hP hS hl)
theorem v_aload_n (hC : cOK X R C cc own) {j : Fin 4} {x : Nat} (hv : lv[(j : Nat)]? = some (some (.ref x))) (d : decode cc pc = .ok (.aload_n j, 1)) (hq : pc + 1 = q) (k : V l X R C f q lv (.ref x :: st)) : V l X R C f pc lv (st) := by
  obtain ⟨p, e, s, m, args, below, meth, c, nL, Q, kc, ks⟩ := C
  subst hq
  intro H locs ls hP hS hl
  exact lv_aload_n hC.1 hC.2.1 d rfl (hl.2.2.1 _ _ hv) (k H locs ls hP hS hl)
theorem v_aload (hC : cOK X R C cc own) {i : Nat} {x : Nat} (hv : lv[i]? = some (some (.ref x))) (d : decode cc pc = .ok (.aload i, 2)) (hq : pc + 2 = q) (k : V l X R C f q lv (.ref x :: st)) : V l X R C f pc lv (st) := by
  obtain ⟨p, e, s, m, args, below, meth, c, nL, Q, kc, ks⟩ := C
  subst hq
  intro H locs ls hP hS hl
  exact lv_aload hC.1 hC.2.1 d (hl.2.2.1 _ _ hv) (k H locs ls hP hS hl)
theorem v_istore_0 (hC : cOK X R C cc own) {b : Option Value} {x : Int32} (d : decode cc pc = .ok (.istore_n 0, 1)) (hq : pc + 1 = q) (k : V l X R C f q (some (.int x) :: lv) st) : V l X R C f pc (b :: lv) (.int x :: st) := by
  obtain ⟨p, e, s, m, args, below, meth, c, nL, Q, kc, ks⟩ := C
  subst hq
  intro H locs ls hP hS hl
  have hn := Nat.lt_of_lt_of_le (show 0 < (b :: lv).length by simp) hl.2.2.2
  exact lv_istore_n hC.1 hC.2.1 d rfl hl.prs hn rfl (fun ls' h => k H locs ls' hP hS (hasL_set1 (lv := b :: lv) (i := 0) (v := .int x) (by simp) hl.2.2.2 rfl h))
theorem v_istore_1 (hC : cOK X R C cc own) {a0 : Option Value} {b : Option Value} {x : Int32} (hp : cat1 a0 = true) (d : decode cc pc = .ok (.istore_n 1, 1)) (hq : pc + 1 = q) (k : V l X R C f q (a0 :: some (.int x) :: lv) st) : V l X R C f pc (a0 :: b :: lv) (.int x :: st) := by
  obtain ⟨p, e, s, m, args, below, meth, c, nL, Q, kc, ks⟩ := C
  subst hq
  intro H locs ls hP hS hl
  have hn := Nat.lt_of_lt_of_le (show 1 < (a0 :: b :: lv).length by simp) hl.2.2.2
  exact lv_istore_n hC.1 hC.2.1 d rfl hl.prs hn rfl (fun ls' h => k H locs ls' hP hS (hasL_set1 (lv := a0 :: b :: lv) (i := 1) (v := .int x) (by simp) hl.2.2.2 hp h))
theorem v_istore_2 (hC : cOK X R C cc own) {a0 a1 : Option Value} {b : Option Value} {x : Int32} (hp : cat1 a1 = true) (d : decode cc pc = .ok (.istore_n 2, 1)) (hq : pc + 1 = q) (k : V l X R C f q (a0 :: a1 :: some (.int x) :: lv) st) : V l X R C f pc (a0 :: a1 :: b :: lv) (.int x :: st) := by
  obtain ⟨p, e, s, m, args, below, meth, c, nL, Q, kc, ks⟩ := C
  subst hq
  intro H locs ls hP hS hl
  have hn := Nat.lt_of_lt_of_le (show 2 < (a0 :: a1 :: b :: lv).length by simp) hl.2.2.2
  exact lv_istore_n hC.1 hC.2.1 d rfl hl.prs hn rfl (fun ls' h => k H locs ls' hP hS (hasL_set1 (lv := a0 :: a1 :: b :: lv) (i := 2) (v := .int x) (by simp) hl.2.2.2 hp h))
theorem v_istore_3 (hC : cOK X R C cc own) {a0 a1 a2 : Option Value} {b : Option Value} {x : Int32} (hp : cat1 a2 = true) (d : decode cc pc = .ok (.istore_n 3, 1)) (hq : pc + 1 = q) (k : V l X R C f q (a0 :: a1 :: a2 :: some (.int x) :: lv) st) : V l X R C f pc (a0 :: a1 :: a2 :: b :: lv) (.int x :: st) := by
  obtain ⟨p, e, s, m, args, below, meth, c, nL, Q, kc, ks⟩ := C
  subst hq
  intro H locs ls hP hS hl
  have hn := Nat.lt_of_lt_of_le (show 3 < (a0 :: a1 :: a2 :: b :: lv).length by simp) hl.2.2.2
  exact lv_istore_n hC.1 hC.2.1 d rfl hl.prs hn rfl (fun ls' h => k H locs ls' hP hS (hasL_set1 (lv := a0 :: a1 :: a2 :: b :: lv) (i := 3) (v := .int x) (by simp) hl.2.2.2 hp h))
theorem v_istore_4 (hC : cOK X R C cc own) {a0 a1 a2 a3 : Option Value} {b : Option Value} {x : Int32} (hp : cat1 a3 = true) (d : decode cc pc = .ok (.istore 4, 2)) (hq : pc + 2 = q) (k : V l X R C f q (a0 :: a1 :: a2 :: a3 :: some (.int x) :: lv) st) : V l X R C f pc (a0 :: a1 :: a2 :: a3 :: b :: lv) (.int x :: st) := by
  obtain ⟨p, e, s, m, args, below, meth, c, nL, Q, kc, ks⟩ := C
  subst hq
  intro H locs ls hP hS hl
  have hn := Nat.lt_of_lt_of_le (show 4 < (a0 :: a1 :: a2 :: a3 :: b :: lv).length by simp) hl.2.2.2
  exact lv_istore hC.1 hC.2.1 d hl.prs hn rfl (fun ls' h => k H locs ls' hP hS (hasL_set1 (lv := a0 :: a1 :: a2 :: a3 :: b :: lv) (i := 4) (v := .int x) (by simp) hl.2.2.2 hp h))
theorem v_istore_5 (hC : cOK X R C cc own) {a0 a1 a2 a3 a4 : Option Value} {b : Option Value} {x : Int32} (hp : cat1 a4 = true) (d : decode cc pc = .ok (.istore 5, 2)) (hq : pc + 2 = q) (k : V l X R C f q (a0 :: a1 :: a2 :: a3 :: a4 :: some (.int x) :: lv) st) : V l X R C f pc (a0 :: a1 :: a2 :: a3 :: a4 :: b :: lv) (.int x :: st) := by
  obtain ⟨p, e, s, m, args, below, meth, c, nL, Q, kc, ks⟩ := C
  subst hq
  intro H locs ls hP hS hl
  have hn := Nat.lt_of_lt_of_le (show 5 < (a0 :: a1 :: a2 :: a3 :: a4 :: b :: lv).length by simp) hl.2.2.2
  exact lv_istore hC.1 hC.2.1 d hl.prs hn rfl (fun ls' h => k H locs ls' hP hS (hasL_set1 (lv := a0 :: a1 :: a2 :: a3 :: a4 :: b :: lv) (i := 5) (v := .int x) (by simp) hl.2.2.2 hp h))
theorem v_istore_6 (hC : cOK X R C cc own) {a0 a1 a2 a3 a4 a5 : Option Value} {b : Option Value} {x : Int32} (hp : cat1 a5 = true) (d : decode cc pc = .ok (.istore 6, 2)) (hq : pc + 2 = q) (k : V l X R C f q (a0 :: a1 :: a2 :: a3 :: a4 :: a5 :: some (.int x) :: lv) st) : V l X R C f pc (a0 :: a1 :: a2 :: a3 :: a4 :: a5 :: b :: lv) (.int x :: st) := by
  obtain ⟨p, e, s, m, args, below, meth, c, nL, Q, kc, ks⟩ := C
  subst hq
  intro H locs ls hP hS hl
  have hn := Nat.lt_of_lt_of_le (show 6 < (a0 :: a1 :: a2 :: a3 :: a4 :: a5 :: b :: lv).length by simp) hl.2.2.2
  exact lv_istore hC.1 hC.2.1 d hl.prs hn rfl (fun ls' h => k H locs ls' hP hS (hasL_set1 (lv := a0 :: a1 :: a2 :: a3 :: a4 :: a5 :: b :: lv) (i := 6) (v := .int x) (by simp) hl.2.2.2 hp h))
theorem v_istore_7 (hC : cOK X R C cc own) {a0 a1 a2 a3 a4 a5 a6 : Option Value} {b : Option Value} {x : Int32} (hp : cat1 a6 = true) (d : decode cc pc = .ok (.istore 7, 2)) (hq : pc + 2 = q) (k : V l X R C f q (a0 :: a1 :: a2 :: a3 :: a4 :: a5 :: a6 :: some (.int x) :: lv) st) : V l X R C f pc (a0 :: a1 :: a2 :: a3 :: a4 :: a5 :: a6 :: b :: lv) (.int x :: st) := by
  obtain ⟨p, e, s, m, args, below, meth, c, nL, Q, kc, ks⟩ := C
  subst hq
  intro H locs ls hP hS hl
  have hn := Nat.lt_of_lt_of_le (show 7 < (a0 :: a1 :: a2 :: a3 :: a4 :: a5 :: a6 :: b :: lv).length by simp) hl.2.2.2
  exact lv_istore hC.1 hC.2.1 d hl.prs hn rfl (fun ls' h => k H locs ls' hP hS (hasL_set1 (lv := a0 :: a1 :: a2 :: a3 :: a4 :: a5 :: a6 :: b :: lv) (i := 7) (v := .int x) (by simp) hl.2.2.2 hp h))
theorem v_istore_8 (hC : cOK X R C cc own) {a0 a1 a2 a3 a4 a5 a6 a7 : Option Value} {b : Option Value} {x : Int32} (hp : cat1 a7 = true) (d : decode cc pc = .ok (.istore 8, 2)) (hq : pc + 2 = q) (k : V l X R C f q (a0 :: a1 :: a2 :: a3 :: a4 :: a5 :: a6 :: a7 :: some (.int x) :: lv) st) : V l X R C f pc (a0 :: a1 :: a2 :: a3 :: a4 :: a5 :: a6 :: a7 :: b :: lv) (.int x :: st) := by
  obtain ⟨p, e, s, m, args, below, meth, c, nL, Q, kc, ks⟩ := C
  subst hq
  intro H locs ls hP hS hl
  have hn := Nat.lt_of_lt_of_le (show 8 < (a0 :: a1 :: a2 :: a3 :: a4 :: a5 :: a6 :: a7 :: b :: lv).length by simp) hl.2.2.2
  exact lv_istore hC.1 hC.2.1 d hl.prs hn rfl (fun ls' h => k H locs ls' hP hS (hasL_set1 (lv := a0 :: a1 :: a2 :: a3 :: a4 :: a5 :: a6 :: a7 :: b :: lv) (i := 8) (v := .int x) (by simp) hl.2.2.2 hp h))
theorem v_istore_9 (hC : cOK X R C cc own) {a0 a1 a2 a3 a4 a5 a6 a7 a8 : Option Value} {b : Option Value} {x : Int32} (hp : cat1 a8 = true) (d : decode cc pc = .ok (.istore 9, 2)) (hq : pc + 2 = q) (k : V l X R C f q (a0 :: a1 :: a2 :: a3 :: a4 :: a5 :: a6 :: a7 :: a8 :: some (.int x) :: lv) st) : V l X R C f pc (a0 :: a1 :: a2 :: a3 :: a4 :: a5 :: a6 :: a7 :: a8 :: b :: lv) (.int x :: st) := by
  obtain ⟨p, e, s, m, args, below, meth, c, nL, Q, kc, ks⟩ := C
  subst hq
  intro H locs ls hP hS hl
  have hn := Nat.lt_of_lt_of_le (show 9 < (a0 :: a1 :: a2 :: a3 :: a4 :: a5 :: a6 :: a7 :: a8 :: b :: lv).length by simp) hl.2.2.2
  exact lv_istore hC.1 hC.2.1 d hl.prs hn rfl (fun ls' h => k H locs ls' hP hS (hasL_set1 (lv := a0 :: a1 :: a2 :: a3 :: a4 :: a5 :: a6 :: a7 :: a8 :: b :: lv) (i := 9) (v := .int x) (by simp) hl.2.2.2 hp h))
theorem v_istore_10 (hC : cOK X R C cc own) {a0 a1 a2 a3 a4 a5 a6 a7 a8 a9 : Option Value} {b : Option Value} {x : Int32} (hp : cat1 a9 = true) (d : decode cc pc = .ok (.istore 10, 2)) (hq : pc + 2 = q) (k : V l X R C f q (a0 :: a1 :: a2 :: a3 :: a4 :: a5 :: a6 :: a7 :: a8 :: a9 :: some (.int x) :: lv) st) : V l X R C f pc (a0 :: a1 :: a2 :: a3 :: a4 :: a5 :: a6 :: a7 :: a8 :: a9 :: b :: lv) (.int x :: st) := by
  obtain ⟨p, e, s, m, args, below, meth, c, nL, Q, kc, ks⟩ := C
  subst hq
  intro H locs ls hP hS hl
  have hn := Nat.lt_of_lt_of_le (show 10 < (a0 :: a1 :: a2 :: a3 :: a4 :: a5 :: a6 :: a7 :: a8 :: a9 :: b :: lv).length by simp) hl.2.2.2
  exact lv_istore hC.1 hC.2.1 d hl.prs hn rfl (fun ls' h => k H locs ls' hP hS (hasL_set1 (lv := a0 :: a1 :: a2 :: a3 :: a4 :: a5 :: a6 :: a7 :: a8 :: a9 :: b :: lv) (i := 10) (v := .int x) (by simp) hl.2.2.2 hp h))
theorem v_istore_11 (hC : cOK X R C cc own) {a0 a1 a2 a3 a4 a5 a6 a7 a8 a9 a10 : Option Value} {b : Option Value} {x : Int32} (hp : cat1 a10 = true) (d : decode cc pc = .ok (.istore 11, 2)) (hq : pc + 2 = q) (k : V l X R C f q (a0 :: a1 :: a2 :: a3 :: a4 :: a5 :: a6 :: a7 :: a8 :: a9 :: a10 :: some (.int x) :: lv) st) : V l X R C f pc (a0 :: a1 :: a2 :: a3 :: a4 :: a5 :: a6 :: a7 :: a8 :: a9 :: a10 :: b :: lv) (.int x :: st) := by
  obtain ⟨p, e, s, m, args, below, meth, c, nL, Q, kc, ks⟩ := C
  subst hq
  intro H locs ls hP hS hl
  have hn := Nat.lt_of_lt_of_le (show 11 < (a0 :: a1 :: a2 :: a3 :: a4 :: a5 :: a6 :: a7 :: a8 :: a9 :: a10 :: b :: lv).length by simp) hl.2.2.2
  exact lv_istore hC.1 hC.2.1 d hl.prs hn rfl (fun ls' h => k H locs ls' hP hS (hasL_set1 (lv := a0 :: a1 :: a2 :: a3 :: a4 :: a5 :: a6 :: a7 :: a8 :: a9 :: a10 :: b :: lv) (i := 11) (v := .int x) (by simp) hl.2.2.2 hp h))
theorem v_astore_0 (hC : cOK X R C cc own) {b : Option Value} {x : Nat} (d : decode cc pc = .ok (.astore_n 0, 1)) (hq : pc + 1 = q) (k : V l X R C f q (some (.ref x) :: lv) st) : V l X R C f pc (b :: lv) (.ref x :: st) := by
  obtain ⟨p, e, s, m, args, below, meth, c, nL, Q, kc, ks⟩ := C
  subst hq
  intro H locs ls hP hS hl
  have hn := Nat.lt_of_lt_of_le (show 0 < (b :: lv).length by simp) hl.2.2.2
  exact lv_astore_n hC.1 hC.2.1 d rfl hl.prs hn rfl (fun ls' h => k H locs ls' hP hS (hasL_set1 (lv := b :: lv) (i := 0) (v := .ref x) (by simp) hl.2.2.2 rfl h))
theorem v_astore_1 (hC : cOK X R C cc own) {a0 : Option Value} {b : Option Value} {x : Nat} (hp : cat1 a0 = true) (d : decode cc pc = .ok (.astore_n 1, 1)) (hq : pc + 1 = q) (k : V l X R C f q (a0 :: some (.ref x) :: lv) st) : V l X R C f pc (a0 :: b :: lv) (.ref x :: st) := by
  obtain ⟨p, e, s, m, args, below, meth, c, nL, Q, kc, ks⟩ := C
  subst hq
  intro H locs ls hP hS hl
  have hn := Nat.lt_of_lt_of_le (show 1 < (a0 :: b :: lv).length by simp) hl.2.2.2
  exact lv_astore_n hC.1 hC.2.1 d rfl hl.prs hn rfl (fun ls' h => k H locs ls' hP hS (hasL_set1 (lv := a0 :: b :: lv) (i := 1) (v := .ref x) (by simp) hl.2.2.2 hp h))
theorem v_astore_2 (hC : cOK X R C cc own) {a0 a1 : Option Value} {b : Option Value} {x : Nat} (hp : cat1 a1 = true) (d : decode cc pc = .ok (.astore_n 2, 1)) (hq : pc + 1 = q) (k : V l X R C f q (a0 :: a1 :: some (.ref x) :: lv) st) : V l X R C f pc (a0 :: a1 :: b :: lv) (.ref x :: st) := by
  obtain ⟨p, e, s, m, args, below, meth, c, nL, Q, kc, ks⟩ := C
  subst hq
  intro H locs ls hP hS hl
  have hn := Nat.lt_of_lt_of_le (show 2 < (a0 :: a1 :: b :: lv).length by simp) hl.2.2.2
  exact lv_astore_n hC.1 hC.2.1 d rfl hl.prs hn rfl (fun ls' h => k H locs ls' hP hS (hasL_set1 (lv := a0 :: a1 :: b :: lv) (i := 2) (v := .ref x) (by simp) hl.2.2.2 hp h))
theorem v_astore_3 (hC : cOK X R C cc own) {a0 a1 a2 : Option Value} {b : Option Value} {x : Nat} (hp : cat1 a2 = true) (d : decode cc pc = .ok (.astore_n 3, 1)) (hq : pc + 1 = q) (k : V l X R C f q (a0 :: a1 :: a2 :: some (.ref x) :: lv) st) : V l X R C f pc (a0 :: a1 :: a2 :: b :: lv) (.ref x :: st) := by
  obtain ⟨p, e, s, m, args, below, meth, c, nL, Q, kc, ks⟩ := C
  subst hq
  intro H locs ls hP hS hl
  have hn := Nat.lt_of_lt_of_le (show 3 < (a0 :: a1 :: a2 :: b :: lv).length by simp) hl.2.2.2
  exact lv_astore_n hC.1 hC.2.1 d rfl hl.prs hn rfl (fun ls' h => k H locs ls' hP hS (hasL_set1 (lv := a0 :: a1 :: a2 :: b :: lv) (i := 3) (v := .ref x) (by simp) hl.2.2.2 hp h))
theorem v_astore_4 (hC : cOK X R C cc own) {a0 a1 a2 a3 : Option Value} {b : Option Value} {x : Nat} (hp : cat1 a3 = true) (d : decode cc pc = .ok (.astore 4, 2)) (hq : pc + 2 = q) (k : V l X R C f q (a0 :: a1 :: a2 :: a3 :: some (.ref x) :: lv) st) : V l X R C f pc (a0 :: a1 :: a2 :: a3 :: b :: lv) (.ref x :: st) := by
  obtain ⟨p, e, s, m, args, below, meth, c, nL, Q, kc, ks⟩ := C
  subst hq
  intro H locs ls hP hS hl
  have hn := Nat.lt_of_lt_of_le (show 4 < (a0 :: a1 :: a2 :: a3 :: b :: lv).length by simp) hl.2.2.2
  exact lv_astore hC.1 hC.2.1 d hl.prs hn rfl (fun ls' h => k H locs ls' hP hS (hasL_set1 (lv := a0 :: a1 :: a2 :: a3 :: b :: lv) (i := 4) (v := .ref x) (by simp) hl.2.2.2 hp h))
theorem v_astore_5 (hC : cOK X R C cc own) {a0 a1 a2 a3 a4 : Option Value} {b : Option Value} {x : Nat} (hp : cat1 a4 = true) (d : decode cc pc = .ok (.astore 5, 2)) (hq : pc + 2 = q) (k : V l X R C f q (a0 :: a1 :: a2 :: a3 :: a4 :: some (.ref x) :: lv) st) : V l X R C f pc (a0 :: a1 :: a2 :: a3 :: a4 :: b :: lv) (.ref x :: st) := by
  obtain ⟨p, e, s, m, args, below, meth, c, nL, Q, kc, ks⟩ := C
  subst hq
  intro H locs ls hP hS hl
  have hn := Nat.lt_of_lt_of_le (show 5 < (a0 :: a1 :: a2 :: a3 :: a4 :: b :: lv).length by simp) hl.2.2.2
  exact lv_astore hC.1 hC.2.1 d hl.prs hn rfl (fun ls' h => k H locs ls' hP hS (hasL_set1 (lv := a0 :: a1 :: a2 :: a3 :: a4 :: b :: lv) (i := 5) (v := .ref x) (by simp) hl.2.2.2 hp h))
theorem v_astore_6 (hC : cOK X R C cc own) {a0 a1 a2 a3 a4 a5 : Option Value} {b : Option Value} {x : Nat} (hp : cat1 a5 = true) (d : decode cc pc = .ok (.astore 6, 2)) (hq : pc + 2 = q) (k : V l X R C f q (a0 :: a1 :: a2 :: a3 :: a4 :: a5 :: some (.ref x) :: lv) st) : V l X R C f pc (a0 :: a1 :: a2 :: a3 :: a4 :: a5 :: b :: lv) (.ref x :: st) := by
  obtain ⟨p, e, s, m, args, below, meth, c, nL, Q, kc, ks⟩ := C
  subst hq
  intro H locs ls hP hS hl
  have hn := Nat.lt_of_lt_of_le (show 6 < (a0 :: a1 :: a2 :: a3 :: a4 :: a5 :: b :: lv).length by simp) hl.2.2.2
  exact lv_astore hC.1 hC.2.1 d hl.prs hn rfl (fun ls' h => k H locs ls' hP hS (hasL_set1 (lv := a0 :: a1 :: a2 :: a3 :: a4 :: a5 :: b :: lv) (i := 6) (v := .ref x) (by simp) hl.2.2.2 hp h))
theorem v_astore_7 (hC : cOK X R C cc own) {a0 a1 a2 a3 a4 a5 a6 : Option Value} {b : Option Value} {x : Nat} (hp : cat1 a6 = true) (d : decode cc pc = .ok (.astore 7, 2)) (hq : pc + 2 = q) (k : V l X R C f q (a0 :: a1 :: a2 :: a3 :: a4 :: a5 :: a6 :: some (.ref x) :: lv) st) : V l X R C f pc (a0 :: a1 :: a2 :: a3 :: a4 :: a5 :: a6 :: b :: lv) (.ref x :: st) := by
  obtain ⟨p, e, s, m, args, below, meth, c, nL, Q, kc, ks⟩ := C
  subst hq
  intro H locs ls hP hS hl
  have hn := Nat.lt_of_lt_of_le (show 7 < (a0 :: a1 :: a2 :: a3 :: a4 :: a5 :: a6 :: b :: lv).length by simp) hl.2.2.2
  exact lv_astore hC.1 hC.2.1 d hl.prs hn rfl (fun ls' h => k H locs ls' hP hS (hasL_set1 (lv := a0 :: a1 :: a2 :: a3 :: a4 :: a5 :: a6 :: b :: lv) (i := 7) (v := .ref x) (by simp) hl.2.2.2 hp h))
theorem v_astore_8 (hC : cOK X R C cc own) {a0 a1 a2 a3 a4 a5 a6 a7 : Option Value} {b : Option Value} {x : Nat} (hp : cat1 a7 = true) (d : decode cc pc = .ok (.astore 8, 2)) (hq : pc + 2 = q) (k : V l X R C f q (a0 :: a1 :: a2 :: a3 :: a4 :: a5 :: a6 :: a7 :: some (.ref x) :: lv) st) : V l X R C f pc (a0 :: a1 :: a2 :: a3 :: a4 :: a5 :: a6 :: a7 :: b :: lv) (.ref x :: st) := by
  obtain ⟨p, e, s, m, args, below, meth, c, nL, Q, kc, ks⟩ := C
  subst hq
  intro H locs ls hP hS hl
  have hn := Nat.lt_of_lt_of_le (show 8 < (a0 :: a1 :: a2 :: a3 :: a4 :: a5 :: a6 :: a7 :: b :: lv).length by simp) hl.2.2.2
  exact lv_astore hC.1 hC.2.1 d hl.prs hn rfl (fun ls' h => k H locs ls' hP hS (hasL_set1 (lv := a0 :: a1 :: a2 :: a3 :: a4 :: a5 :: a6 :: a7 :: b :: lv) (i := 8) (v := .ref x) (by simp) hl.2.2.2 hp h))
theorem v_astore_9 (hC : cOK X R C cc own) {a0 a1 a2 a3 a4 a5 a6 a7 a8 : Option Value} {b : Option Value} {x : Nat} (hp : cat1 a8 = true) (d : decode cc pc = .ok (.astore 9, 2)) (hq : pc + 2 = q) (k : V l X R C f q (a0 :: a1 :: a2 :: a3 :: a4 :: a5 :: a6 :: a7 :: a8 :: some (.ref x) :: lv) st) : V l X R C f pc (a0 :: a1 :: a2 :: a3 :: a4 :: a5 :: a6 :: a7 :: a8 :: b :: lv) (.ref x :: st) := by
  obtain ⟨p, e, s, m, args, below, meth, c, nL, Q, kc, ks⟩ := C
  subst hq
  intro H locs ls hP hS hl
  have hn := Nat.lt_of_lt_of_le (show 9 < (a0 :: a1 :: a2 :: a3 :: a4 :: a5 :: a6 :: a7 :: a8 :: b :: lv).length by simp) hl.2.2.2
  exact lv_astore hC.1 hC.2.1 d hl.prs hn rfl (fun ls' h => k H locs ls' hP hS (hasL_set1 (lv := a0 :: a1 :: a2 :: a3 :: a4 :: a5 :: a6 :: a7 :: a8 :: b :: lv) (i := 9) (v := .ref x) (by simp) hl.2.2.2 hp h))
theorem v_astore_10 (hC : cOK X R C cc own) {a0 a1 a2 a3 a4 a5 a6 a7 a8 a9 : Option Value} {b : Option Value} {x : Nat} (hp : cat1 a9 = true) (d : decode cc pc = .ok (.astore 10, 2)) (hq : pc + 2 = q) (k : V l X R C f q (a0 :: a1 :: a2 :: a3 :: a4 :: a5 :: a6 :: a7 :: a8 :: a9 :: some (.ref x) :: lv) st) : V l X R C f pc (a0 :: a1 :: a2 :: a3 :: a4 :: a5 :: a6 :: a7 :: a8 :: a9 :: b :: lv) (.ref x :: st) := by
  obtain ⟨p, e, s, m, args, below, meth, c, nL, Q, kc, ks⟩ := C
  subst hq
  intro H locs ls hP hS hl
  have hn := Nat.lt_of_lt_of_le (show 10 < (a0 :: a1 :: a2 :: a3 :: a4 :: a5 :: a6 :: a7 :: a8 :: a9 :: b :: lv).length by simp) hl.2.2.2
  exact lv_astore hC.1 hC.2.1 d hl.prs hn rfl (fun ls' h => k H locs ls' hP hS (hasL_set1 (lv := a0 :: a1 :: a2 :: a3 :: a4 :: a5 :: a6 :: a7 :: a8 :: a9 :: b :: lv) (i := 10) (v := .ref x) (by simp) hl.2.2.2 hp h))
theorem v_astore_11 (hC : cOK X R C cc own) {a0 a1 a2 a3 a4 a5 a6 a7 a8 a9 a10 : Option Value} {b : Option Value} {x : Nat} (hp : cat1 a10 = true) (d : decode cc pc = .ok (.astore 11, 2)) (hq : pc + 2 = q) (k : V l X R C f q (a0 :: a1 :: a2 :: a3 :: a4 :: a5 :: a6 :: a7 :: a8 :: a9 :: a10 :: some (.ref x) :: lv) st) : V l X R C f pc (a0 :: a1 :: a2 :: a3 :: a4 :: a5 :: a6 :: a7 :: a8 :: a9 :: a10 :: b :: lv) (.ref x :: st) := by
  obtain ⟨p, e, s, m, args, below, meth, c, nL, Q, kc, ks⟩ := C
  subst hq
  intro H locs ls hP hS hl
  have hn := Nat.lt_of_lt_of_le (show 11 < (a0 :: a1 :: a2 :: a3 :: a4 :: a5 :: a6 :: a7 :: a8 :: a9 :: a10 :: b :: lv).length by simp) hl.2.2.2
  exact lv_astore hC.1 hC.2.1 d hl.prs hn rfl (fun ls' h => k H locs ls' hP hS (hasL_set1 (lv := a0 :: a1 :: a2 :: a3 :: a4 :: a5 :: a6 :: a7 :: a8 :: a9 :: a10 :: b :: lv) (i := 11) (v := .ref x) (by simp) hl.2.2.2 hp h))
theorem v_lstore_0 (hC : cOK X R C cc own) {b b2 : Option Value} {x : Int64} (d : decode cc pc = .ok (.lstore_n 0, 1)) (hq : pc + 1 = q) (k : V l X R C f q (some (.long x) :: none :: lv) st) : V l X R C f pc (b :: b2 :: lv) (.long x :: st) := by
  obtain ⟨p, e, s, m, args, below, meth, c, nL, Q, kc, ks⟩ := C
  subst hq
  intro H locs ls hP hS hl
  have hn := Nat.lt_of_lt_of_le (show 0 + 1 < (b :: b2 :: lv).length by simp) hl.2.2.2
  exact lv_lstore_n hC.1 hC.2.1 d rfl hl.prs hn rfl (fun ls' h => k H locs ls' hP hS (hasL_set2 (lv := b :: b2 :: lv) (i := 0) (v := .long x) (by simp) hl.2.2.2 rfl h))
theorem v_iinc_0 (hC : cOK X R C cc own) {n : Int} {x v : Int32} (hv : x + Int32.ofInt n = v) (d : decode cc pc = .ok (.iinc 0 n, 3)) (hq : pc + 3 = q) (k : V l X R C f q (some (.int v) :: lv) st) : V l X R C f pc (some (.int x) :: lv) st := by
  obtain ⟨p, e, s, m, args, below, meth, c, nL, Q, kc, ks⟩ := C
  subst hq
  intro H locs ls hP hS hl
  have hm : (0, Value.int x) ∈ prs (some (.int x) :: lv) := prs_mem.mpr rfl
  obtain ⟨k0, hk0⟩ := List.getElem?_of_mem hm
  have hn := Nat.lt_of_lt_of_le (show 0 < (some (.int x) :: lv).length by simp) hl.2.2.2
  exact lv_iinc hC.1 hC.2.1 d hl.prs hk0 hv hn rfl (fun ls' h => k H locs ls' hP hS (hasL_set1 (lv := some (.int x) :: lv) (i := 0) (v := .int v) (by simp) hl.2.2.2 rfl h))
theorem v_lstore_1 (hC : cOK X R C cc own) {a0 : Option Value} {b b2 : Option Value} {x : Int64} (hp : cat1 a0 = true) (d : decode cc pc = .ok (.lstore_n 1, 1)) (hq : pc + 1 = q) (k : V l X R C f q (a0 :: some (.long x) :: none :: lv) st) : V l X R C f pc (a0 :: b :: b2 :: lv) (.long x :: st) := by
  obtain ⟨p, e, s, m, args, below, meth, c, nL, Q, kc, ks⟩ := C
  subst hq
  intro H locs ls hP hS hl
  have hn := Nat.lt_of_lt_of_le (show 1 + 1 < (a0 :: b :: b2 :: lv).length by simp) hl.2.2.2
  exact lv_lstore_n hC.1 hC.2.1 d rfl hl.prs hn rfl (fun ls' h => k H locs ls' hP hS (hasL_set2 (lv := a0 :: b :: b2 :: lv) (i := 1) (v := .long x) (by simp) hl.2.2.2 hp h))
theorem v_iinc_1 (hC : cOK X R C cc own) {a0 : Option Value} {n : Int} {x v : Int32} (hp : cat1 a0 = true) (hv : x + Int32.ofInt n = v) (d : decode cc pc = .ok (.iinc 1 n, 3)) (hq : pc + 3 = q) (k : V l X R C f q (a0 :: some (.int v) :: lv) st) : V l X R C f pc (a0 :: some (.int x) :: lv) st := by
  obtain ⟨p, e, s, m, args, below, meth, c, nL, Q, kc, ks⟩ := C
  subst hq
  intro H locs ls hP hS hl
  have hm : (1, Value.int x) ∈ prs (a0 :: some (.int x) :: lv) := prs_mem.mpr rfl
  obtain ⟨k0, hk0⟩ := List.getElem?_of_mem hm
  have hn := Nat.lt_of_lt_of_le (show 1 < (a0 :: some (.int x) :: lv).length by simp) hl.2.2.2
  exact lv_iinc hC.1 hC.2.1 d hl.prs hk0 hv hn rfl (fun ls' h => k H locs ls' hP hS (hasL_set1 (lv := a0 :: some (.int x) :: lv) (i := 1) (v := .int v) (by simp) hl.2.2.2 hp h))
theorem v_lstore_2 (hC : cOK X R C cc own) {a0 a1 : Option Value} {b b2 : Option Value} {x : Int64} (hp : cat1 a1 = true) (d : decode cc pc = .ok (.lstore_n 2, 1)) (hq : pc + 1 = q) (k : V l X R C f q (a0 :: a1 :: some (.long x) :: none :: lv) st) : V l X R C f pc (a0 :: a1 :: b :: b2 :: lv) (.long x :: st) := by
  obtain ⟨p, e, s, m, args, below, meth, c, nL, Q, kc, ks⟩ := C
  subst hq
  intro H locs ls hP hS hl
  have hn := Nat.lt_of_lt_of_le (show 2 + 1 < (a0 :: a1 :: b :: b2 :: lv).length by simp) hl.2.2.2
  exact lv_lstore_n hC.1 hC.2.1 d rfl hl.prs hn rfl (fun ls' h => k H locs ls' hP hS (hasL_set2 (lv := a0 :: a1 :: b :: b2 :: lv) (i := 2) (v := .long x) (by simp) hl.2.2.2 hp h))
theorem v_iinc_2 (hC : cOK X R C cc own) {a0 a1 : Option Value} {n : Int} {x v : Int32} (hp : cat1 a1 = true) (hv : x + Int32.ofInt n = v) (d : decode cc pc = .ok (.iinc 2 n, 3)) (hq : pc + 3 = q) (k : V l X R C f q (a0 :: a1 :: some (.int v) :: lv) st) : V l X R C f pc (a0 :: a1 :: some (.int x) :: lv) st := by
  obtain ⟨p, e, s, m, args, below, meth, c, nL, Q, kc, ks⟩ := C
  subst hq
  intro H locs ls hP hS hl
  have hm : (2, Value.int x) ∈ prs (a0 :: a1 :: some (.int x) :: lv) := prs_mem.mpr rfl
  obtain ⟨k0, hk0⟩ := List.getElem?_of_mem hm
  have hn := Nat.lt_of_lt_of_le (show 2 < (a0 :: a1 :: some (.int x) :: lv).length by simp) hl.2.2.2
  exact lv_iinc hC.1 hC.2.1 d hl.prs hk0 hv hn rfl (fun ls' h => k H locs ls' hP hS (hasL_set1 (lv := a0 :: a1 :: some (.int x) :: lv) (i := 2) (v := .int v) (by simp) hl.2.2.2 hp h))
theorem v_lstore_3 (hC : cOK X R C cc own) {a0 a1 a2 : Option Value} {b b2 : Option Value} {x : Int64} (hp : cat1 a2 = true) (d : decode cc pc = .ok (.lstore_n 3, 1)) (hq : pc + 1 = q) (k : V l X R C f q (a0 :: a1 :: a2 :: some (.long x) :: none :: lv) st) : V l X R C f pc (a0 :: a1 :: a2 :: b :: b2 :: lv) (.long x :: st) := by
  obtain ⟨p, e, s, m, args, below, meth, c, nL, Q, kc, ks⟩ := C
  subst hq
  intro H locs ls hP hS hl
  have hn := Nat.lt_of_lt_of_le (show 3 + 1 < (a0 :: a1 :: a2 :: b :: b2 :: lv).length by simp) hl.2.2.2
  exact lv_lstore_n hC.1 hC.2.1 d rfl hl.prs hn rfl (fun ls' h => k H locs ls' hP hS (hasL_set2 (lv := a0 :: a1 :: a2 :: b :: b2 :: lv) (i := 3) (v := .long x) (by simp) hl.2.2.2 hp h))
theorem v_iinc_3 (hC : cOK X R C cc own) {a0 a1 a2 : Option Value} {n : Int} {x v : Int32} (hp : cat1 a2 = true) (hv : x + Int32.ofInt n = v) (d : decode cc pc = .ok (.iinc 3 n, 3)) (hq : pc + 3 = q) (k : V l X R C f q (a0 :: a1 :: a2 :: some (.int v) :: lv) st) : V l X R C f pc (a0 :: a1 :: a2 :: some (.int x) :: lv) st := by
  obtain ⟨p, e, s, m, args, below, meth, c, nL, Q, kc, ks⟩ := C
  subst hq
  intro H locs ls hP hS hl
  have hm : (3, Value.int x) ∈ prs (a0 :: a1 :: a2 :: some (.int x) :: lv) := prs_mem.mpr rfl
  obtain ⟨k0, hk0⟩ := List.getElem?_of_mem hm
  have hn := Nat.lt_of_lt_of_le (show 3 < (a0 :: a1 :: a2 :: some (.int x) :: lv).length by simp) hl.2.2.2
  exact lv_iinc hC.1 hC.2.1 d hl.prs hk0 hv hn rfl (fun ls' h => k H locs ls' hP hS (hasL_set1 (lv := a0 :: a1 :: a2 :: some (.int x) :: lv) (i := 3) (v := .int v) (by simp) hl.2.2.2 hp h))
theorem v_lstore_4 (hC : cOK X R C cc own) {a0 a1 a2 a3 : Option Value} {b b2 : Option Value} {x : Int64} (hp : cat1 a3 = true) (d : decode cc pc = .ok (.lstore 4, 2)) (hq : pc + 2 = q) (k : V l X R C f q (a0 :: a1 :: a2 :: a3 :: some (.long x) :: none :: lv) st) : V l X R C f pc (a0 :: a1 :: a2 :: a3 :: b :: b2 :: lv) (.long x :: st) := by
  obtain ⟨p, e, s, m, args, below, meth, c, nL, Q, kc, ks⟩ := C
  subst hq
  intro H locs ls hP hS hl
  have hn := Nat.lt_of_lt_of_le (show 4 + 1 < (a0 :: a1 :: a2 :: a3 :: b :: b2 :: lv).length by simp) hl.2.2.2
  exact lv_lstore hC.1 hC.2.1 d hl.prs hn rfl (fun ls' h => k H locs ls' hP hS (hasL_set2 (lv := a0 :: a1 :: a2 :: a3 :: b :: b2 :: lv) (i := 4) (v := .long x) (by simp) hl.2.2.2 hp h))
theorem v_iinc_4 (hC : cOK X R C cc own) {a0 a1 a2 a3 : Option Value} {n : Int} {x v : Int32} (hp : cat1 a3 = true) (hv : x + Int32.ofInt n = v) (d : decode cc pc = .ok (.iinc 4 n, 3)) (hq : pc + 3 = q) (k : V l X R C f q (a0 :: a1 :: a2 :: a3 :: some (.int v) :: lv) st) : V l X R C f pc (a0 :: a1 :: a2 :: a3 :: some (.int x) :: lv) st := by
  obtain ⟨p, e, s, m, args, below, meth, c, nL, Q, kc, ks⟩ := C
  subst hq
  intro H locs ls hP hS hl
  have hm : (4, Value.int x) ∈ prs (a0 :: a1 :: a2 :: a3 :: some (.int x) :: lv) := prs_mem.mpr rfl
  obtain ⟨k0, hk0⟩ := List.getElem?_of_mem hm
  have hn := Nat.lt_of_lt_of_le (show 4 < (a0 :: a1 :: a2 :: a3 :: some (.int x) :: lv).length by simp) hl.2.2.2
  exact lv_iinc hC.1 hC.2.1 d hl.prs hk0 hv hn rfl (fun ls' h => k H locs ls' hP hS (hasL_set1 (lv := a0 :: a1 :: a2 :: a3 :: some (.int x) :: lv) (i := 4) (v := .int v) (by simp) hl.2.2.2 hp h))
theorem v_lstore_5 (hC : cOK X R C cc own) {a0 a1 a2 a3 a4 : Option Value} {b b2 : Option Value} {x : Int64} (hp : cat1 a4 = true) (d : decode cc pc = .ok (.lstore 5, 2)) (hq : pc + 2 = q) (k : V l X R C f q (a0 :: a1 :: a2 :: a3 :: a4 :: some (.long x) :: none :: lv) st) : V l X R C f pc (a0 :: a1 :: a2 :: a3 :: a4 :: b :: b2 :: lv) (.long x :: st) := by
  obtain ⟨p, e, s, m, args, below, meth, c, nL, Q, kc, ks⟩ := C
  subst hq
  intro H locs ls hP hS hl
  have hn := Nat.lt_of_lt_of_le (show 5 + 1 < (a0 :: a1 :: a2 :: a3 :: a4 :: b :: b2 :: lv).length by simp) hl.2.2.2
  exact lv_lstore hC.1 hC.2.1 d hl.prs hn rfl (fun ls' h => k H locs ls' hP hS (hasL_set2 (lv := a0 :: a1 :: a2 :: a3 :: a4 :: b :: b2 :: lv) (i := 5) (v := .long x) (by simp) hl.2.2.2 hp h))
theorem v_iinc_5 (hC : cOK X R C cc own) {a0 a1 a2 a3 a4 : Option Value} {n : Int} {x v : Int32} (hp : cat1 a4 = true) (hv : x + Int32.ofInt n = v) (d : decode cc pc = .ok (.iinc 5 n, 3)) (hq : pc + 3 = q) (k : V l X R C f q (a0 :: a1 :: a2 :: a3 :: a4 :: some (.int v) :: lv) st) : V l X R C f pc (a0 :: a1 :: a2 :: a3 :: a4 :: some (.int x) :: lv) st := by
  obtain ⟨p, e, s, m, args, below, meth, c, nL, Q, kc, ks⟩ := C
  subst hq
  intro H locs ls hP hS hl
  have hm : (5, Value.int x) ∈ prs (a0 :: a1 :: a2 :: a3 :: a4 :: some (.int x) :: lv) := prs_mem.mpr rfl
  obtain ⟨k0, hk0⟩ := List.getElem?_of_mem hm
  have hn := Nat.lt_of_lt_of_le (show 5 < (a0 :: a1 :: a2 :: a3 :: a4 :: some (.int x) :: lv).length by simp) hl.2.2.2
  exact lv_iinc hC.1 hC.2.1 d hl.prs hk0 hv hn rfl (fun ls' h => k H locs ls' hP hS (hasL_set1 (lv := a0 :: a1 :: a2 :: a3 :: a4 :: some (.int x) :: lv) (i := 5) (v := .int v) (by simp) hl.2.2.2 hp h))
theorem v_lstore_6 (hC : cOK X R C cc own) {a0 a1 a2 a3 a4 a5 : Option Value} {b b2 : Option Value} {x : Int64} (hp : cat1 a5 = true) (d : decode cc pc = .ok (.lstore 6, 2)) (hq : pc + 2 = q) (k : V l X R C f q (a0 :: a1 :: a2 :: a3 :: a4 :: a5 :: some (.long x) :: none :: lv) st) : V l X R C f pc (a0 :: a1 :: a2 :: a3 :: a4 :: a5 :: b :: b2 :: lv) (.long x :: st) := by
  obtain ⟨p, e, s, m, args, below, meth, c, nL, Q, kc, ks⟩ := C
  subst hq
  intro H locs ls hP hS hl
  have hn := Nat.lt_of_lt_of_le (show 6 + 1 < (a0 :: a1 :: a2 :: a3 :: a4 :: a5 :: b :: b2 :: lv).length by simp) hl.2.2.2
  exact lv_lstore hC.1 hC.2.1 d hl.prs hn rfl (fun ls' h => k H locs ls' hP hS (hasL_set2 (lv := a0 :: a1 :: a2 :: a3 :: a4 :: a5 :: b :: b2 :: lv) (i := 6) (v := .long x) (by simp) hl.2.2.2 hp h))
theorem v_iinc_6 (hC : cOK X R C cc own) {a0 a1 a2 a3 a4 a5 : Option Value} {n : Int} {x v : Int32} (hp : cat1 a5 = true) (hv : x + Int32.ofInt n = v) (d : decode cc pc = .ok (.iinc 6 n, 3)) (hq : pc + 3 = q) (k : V l X R C f q (a0 :: a1 :: a2 :: a3 :: a4 :: a5 :: some (.int v) :: lv) st) : V l X R C f pc (a0 :: a1 :: a2 :: a3 :: a4 :: a5 :: some (.int x) :: lv) st := by
  obtain ⟨p, e, s, m, args, below, meth, c, nL, Q, kc, ks⟩ := C
  subst hq
  intro H locs ls hP hS hl
  have hm : (6, Value.int x) ∈ prs (a0 :: a1 :: a2 :: a3 :: a4 :: a5 :: some (.int x) :: lv) := prs_mem.mpr rfl
  obtain ⟨k0, hk0⟩ := List.getElem?_of_mem hm
  have hn := Nat.lt_of_lt_of_le (show 6 < (a0 :: a1 :: a2 :: a3 :: a4 :: a5 :: some (.int x) :: lv).length by simp) hl.2.2.2
  exact lv_iinc hC.1 hC.2.1 d hl.prs hk0 hv hn rfl (fun ls' h => k H locs ls' hP hS (hasL_set1 (lv := a0 :: a1 :: a2 :: a3 :: a4 :: a5 :: some (.int x) :: lv) (i := 6) (v := .int v) (by simp) hl.2.2.2 hp h))
theorem v_lstore_7 (hC : cOK X R C cc own) {a0 a1 a2 a3 a4 a5 a6 : Option Value} {b b2 : Option Value} {x : Int64} (hp : cat1 a6 = true) (d : decode cc pc = .ok (.lstore 7, 2)) (hq : pc + 2 = q) (k : V l X R C f q (a0 :: a1 :: a2 :: a3 :: a4 :: a5 :: a6 :: some (.long x) :: none :: lv) st) : V l X R C f pc (a0 :: a1 :: a2 :: a3 :: a4 :: a5 :: a6 :: b :: b2 :: lv) (.long x :: st) := by
  obtain ⟨p, e, s, m, args, below, meth, c, nL, Q, kc, ks⟩ := C
  subst hq
  intro H locs ls hP hS hl
  have hn := Nat.lt_of_lt_of_le (show 7 + 1 < (a0 :: a1 :: a2 :: a3 :: a4 :: a5 :: a6 :: b :: b2 :: lv).length by simp) hl.2.2.2
  exact lv_lstore hC.1 hC.2.1 d hl.prs hn rfl (fun ls' h => k H locs ls' hP hS (hasL_set2 (lv := a0 :: a1 :: a2 :: a3 :: a4 :: a5 :: a6 :: b :: b2 :: lv) (i := 7) (v := .long x) (by simp) hl.2.2.2 hp h))
theorem v_iinc_7 (hC : cOK X R C cc own) {a0 a1 a2 a3 a4 a5 a6 : Option Value} {n : Int} {x v : Int32} (hp : cat1 a6 = true) (hv : x + Int32.ofInt n = v) (d : decode cc pc = .ok (.iinc 7 n, 3)) (hq : pc + 3 = q) (k : V l X R C f q (a0 :: a1 :: a2 :: a3 :: a4 :: a5 :: a6 :: some (.int v) :: lv) st) : V l X R C f pc (a0 :: a1 :: a2 :: a3 :: a4 :: a5 :: a6 :: some (.int x) :: lv) st := by
  obtain ⟨p, e, s, m, args, below, meth, c, nL, Q, kc, ks⟩ := C
  subst hq
  intro H locs ls hP hS hl
  have hm : (7, Value.int x) ∈ prs (a0 :: a1 :: a2 :: a3 :: a4 :: a5 :: a6 :: some (.int x) :: lv) := prs_mem.mpr rfl
  obtain ⟨k0, hk0⟩ := List.getElem?_of_mem hm
  have hn := Nat.lt_of_lt_of_le (show 7 < (a0 :: a1 :: a2 :: a3 :: a4 :: a5 :: a6 :: some (.int x) :: lv).length by simp) hl.2.2.2
  exact lv_iinc hC.1 hC.2.1 d hl.prs hk0 hv hn rfl (fun ls' h => k H locs ls' hP hS (hasL_set1 (lv := a0 :: a1 :: a2 :: a3 :: a4 :: a5 :: a6 :: some (.int x) :: lv) (i := 7) (v := .int v) (by simp) hl.2.2.2 hp h))
theorem v_lstore_8 (hC : cOK X R C cc own) {a0 a1 a2 a3 a4 a5 a6 a7 : Option Value} {b b2 : Option Value} {x : Int64} (hp : cat1 a7 = true) (d : decode cc pc = .ok (.lstore 8, 2)) (hq : pc + 2 = q) (k : V l X R C f q (a0 :: a1 :: a2 :: a3 :: a4 :: a5 :: a6 :: a7 :: some (.long x) :: none :: lv) st) : V l X R C f pc (a0 :: a1 :: a2 :: a3 :: a4 :: a5 :: a6 :: a7 :: b :: b2 :: lv) (.long x :: st) := by
  obtain ⟨p, e, s, m, args, below, meth, c, nL, Q, kc, ks⟩ := C
  subst hq
  intro H locs ls hP hS hl
  have hn := Nat.lt_of_lt_of_le (show 8 + 1 < (a0 :: a1 :: a2 :: a3 :: a4 :: a5 :: a6 :: a7 :: b :: b2 :: lv).length by simp) hl.2.2.2
  exact lv_lstore hC.1 hC.2.1 d hl.prs hn rfl (fun ls' h => k H locs ls' hP hS (hasL_set2 (lv := a0 :: a1 :: a2 :: a3 :: a4 :: a5 :: a6 :: a7 :: b :: b2 :: lv) (i := 8) (v := .long x) (by simp) hl.2.2.2 hp h))
theorem v_iinc_8 (hC : cOK X R C cc own) {a0 a1 a2 a3 a4 a5 a6 a7 : Option Value} {n : Int} {x v : Int32} (hp : cat1 a7 = true) (hv : x + Int32.ofInt n = v) (d : decode cc pc = .ok (.iinc 8 n, 3)) (hq : pc + 3 = q) (k : V l X R C f q (a0 :: a1 :: a2 :: a3 :: a4 :: a5 :: a6 :: a7 :: some (.int v) :: lv) st) : V l X R C f pc (a0 :: a1 :: a2 :: a3 :: a4 :: a5 :: a6 :: a7 :: some (.int x) :: lv) st := by
  obtain ⟨p, e, s, m, args, below, meth, c, nL, Q, kc, ks⟩ := C
  subst hq
  intro H locs ls hP hS hl
  have hm : (8, Value.int x) ∈ prs (a0 :: a1 :: a2 :: a3 :: a4 :: a5 :: a6 :: a7 :: some (.int x) :: lv) := prs_mem.mpr rfl
  obtain ⟨k0, hk0⟩ := List.getElem?_of_mem hm
  have hn := Nat.lt_of_lt_of_le (show 8 < (a0 :: a1 :: a2 :: a3 :: a4 :: a5 :: a6 :: a7 :: some (.int x) :: lv).length by simp) hl.2.2.2
  exact lv_iinc hC.1 hC.2.1 d hl.prs hk0 hv hn rfl (fun ls' h => k H locs ls' hP hS (hasL_set1 (lv := a0 :: a1 :: a2 :: a3 :: a4 :: a5 :: a6 :: a7 :: some (.int x) :: lv) (i := 8) (v := .int v) (by simp) hl.2.2.2 hp h))
theorem v_lstore_9 (hC : cOK X R C cc own) {a0 a1 a2 a3 a4 a5 a6 a7 a8 : Option Value} {b b2 : Option Value} {x : Int64} (hp : cat1 a8 = true) (d : decode cc pc = .ok (.lstore 9, 2)) (hq : pc + 2 = q) (k : V l X R C f q (a0 :: a1 :: a2 :: a3 :: a4 :: a5 :: a6 :: a7 :: a8 :: some (.long x) :: none :: lv) st) : V l X R C f pc (a0 :: a1 :: a2 :: a3 :: a4 :: a5 :: a6 :: a7 :: a8 :: b :: b2 :: lv) (.long x :: st) := by
  obtain ⟨p, e, s, m, args, below, meth, c, nL, Q, kc, ks⟩ := C
  subst hq
  intro H locs ls hP hS hl
  have hn := Nat.lt_of_lt_of_le (show 9 + 1 < (a0 :: a1 :: a2 :: a3 :: a4 :: a5 :: a6 :: a7 :: a8 :: b :: b2 :: lv).length by simp) hl.2.2.2
  exact lv_lstore hC.1 hC.2.1 d hl.prs hn rfl (fun ls' h => k H locs ls' hP hS (hasL_set2 (lv := a0 :: a1 :: a2 :: a3 :: a4 :: a5 :: a6 :: a7 :: a8 :: b :: b2 :: lv) (i := 9) (v := .long x) (by simp) hl.2.2.2 hp h))
theorem v_iinc_9 (hC : cOK X R C cc own) {a0 a1 a2 a3 a4 a5 a6 a7 a8 : Option Value} {n : Int} {x v : Int32} (hp : cat1 a8 = true) (hv : x + Int32.ofInt n = v) (d : decode cc pc = .ok (.iinc 9 n, 3)) (hq : pc + 3 = q) (k : V l X R C f q (a0 :: a1 :: a2 :: a3 :: a4 :: a5 :: a6 :: a7 :: a8 :: some (.int v) :: lv) st) : V l X R C f pc (a0 :: a1 :: a2 :: a3 :: a4 :: a5 :: a6 :: a7 :: a8 :: some (.int x) :: lv) st := by
  obtain ⟨p, e, s, m, args, below, meth, c, nL, Q, kc, ks⟩ := C
  subst hq
  intro H locs ls hP hS hl
  have hm : (9, Value.int x) ∈ prs (a0 :: a1 :: a2 :: a3 :: a4 :: a5 :: a6 :: a7 :: a8 :: some (.int x) :: lv) := prs_mem.mpr rfl
  obtain ⟨k0, hk0⟩ := List.getElem?_of_mem hm
  have hn := Nat.lt_of_lt_of_le (show 9 < (a0 :: a1 :: a2 :: a3 :: a4 :: a5 :: a6 :: a7 :: a8 :: some (.int x) :: lv).length by simp) hl.2.2.2
  exact lv_iinc hC.1 hC.2.1 d hl.prs hk0 hv hn rfl (fun ls' h => k H locs ls' hP hS (hasL_set1 (lv := a0 :: a1 :: a2 :: a3 :: a4 :: a5 :: a6 :: a7 :: a8 :: some (.int x) :: lv) (i := 9) (v := .int v) (by simp) hl.2.2.2 hp h))
theorem v_lstore_10 (hC : cOK X R C cc own) {a0 a1 a2 a3 a4 a5 a6 a7 a8 a9 : Option Value} {b b2 : Option Value} {x : Int64} (hp : cat1 a9 = true) (d : decode cc pc = .ok (.lstore 10, 2)) (hq : pc + 2 = q) (k : V l X R C f q (a0 :: a1 :: a2 :: a3 :: a4 :: a5 :: a6 :: a7 :: a8 :: a9 :: some (.long x) :: none :: lv) st) : V l X R C f pc (a0 :: a1 :: a2 :: a3 :: a4 :: a5 :: a6 :: a7 :: a8 :: a9 :: b :: b2 :: lv) (.long x :: st) := by
  obtain ⟨p, e, s, m, args, below, meth, c, nL, Q, kc, ks⟩ := C
  subst hq
  intro H locs ls hP hS hl
  have hn := Nat.lt_of_lt_of_le (show 10 + 1 < (a0 :: a1 :: a2 :: a3 :: a4 :: a5 :: a6 :: a7 :: a8 :: a9 :: b :: b2 :: lv).length by simp) hl.2.2.2
  exact lv_lstore hC.1 hC.2.1 d hl.prs hn rfl (fun ls' h => k H locs ls' hP hS (hasL_set2 (lv := a0 :: a1 :: a2 :: a3 :: a4 :: a5 :: a6 :: a7 :: a8 :: a9 :: b :: b2 :: lv) (i := 10) (v := .long x) (by simp) hl.2.2.2 hp h))
theorem v_iinc_10 (hC : cOK X R C cc own) {a0 a1 a2 a3 a4 a5 a6 a7 a8 a9 : Option Value} {n : Int} {x v : Int32} (hp : cat1 a9 = true) (hv : x + Int32.ofInt n = v) (d : decode cc pc = .ok (.iinc 10 n, 3)) (hq : pc + 3 = q) (k : V l X R C f q (a0 :: a1 :: a2 :: a3 :: a4 :: a5 :: a6 :: a7 :: a8 :: a9 :: some (.int v) :: lv) st) : V l X R C f pc (a0 :: a1 :: a2 :: a3 :: a4 :: a5 :: a6 :: a7 :: a8 :: a9 :: some (.int x) :: lv) st := by
  obtain ⟨p, e, s, m, args, below, meth, c, nL, Q, kc, ks⟩ := C
  subst hq
  intro H locs ls hP hS hl
  have hm : (10, Value.int x) ∈ prs (a0 :: a1 :: a2 :: a3 :: a4 :: a5 :: a6 :: a7 :: a8 :: a9 :: some (.int x) :: lv) := prs_mem.mpr rfl
  obtain ⟨k0, hk0⟩ := List.getElem?_of_mem hm
  have hn := Nat.lt_of_lt_of_le (show 10 < (a0 :: a1 :: a2 :: a3 :: a4 :: a5 :: a6 :: a7 :: a8 :: a9 :: some (.int x) :: lv).length by simp) hl.2.2.2
  exact lv_iinc hC.1 hC.2.1 d hl.prs hk0 hv hn rfl (fun ls' h => k H locs ls' hP hS (hasL_set1 (lv := a0 :: a1 :: a2 :: a3 :: a4 :: a5 :: a6 :: a7 :: a8 :: a9 :: some (.int x) :: lv) (i := 10) (v := .int v) (by simp) hl.2.2.2 hp h))
theorem v_lstore_11 (hC : cOK X R C cc own) {a0 a1 a2 a3 a4 a5 a6 a7 a8 a9 a10 : Option Value} {b b2 : Option Value} {x : Int64} (hp : cat1 a10 = true) (d : decode cc pc = .ok (.lstore 11, 2)) (hq : pc + 2 = q) (k : V l X R C f q (a0 :: a1 :: a2 :: a3 :: a4 :: a5 :: a6 :: a7 :: a8 :: a9 :: a10 :: some (.long x) :: none :: lv) st) : V l X R C f pc (a0 :: a1 :: a2 :: a3 :: a4 :: a5 :: a6 :: a7 :: a8 :: a9 :: a10 :: b :: b2 :: lv) (.long x :: st) := by
  obtain ⟨p, e, s, m, args, below, meth, c, nL, Q, kc, ks⟩ := C
  subst hq
  intro H locs ls hP hS hl
  have hn := Nat.lt_of_lt_of_le (show 11 + 1 < (a0 :: a1 :: a2 :: a3 :: a4 :: a5 :: a6 :: a7 :: a8 :: a9 :: a10 :: b :: b2 :: lv).length by simp) hl.2.2.2
  exact lv_lstore hC.1 hC.2.1 d hl.prs hn rfl (fun ls' h => k H locs ls' hP hS (hasL_set2 (lv := a0 :: a1 :: a2 :: a3 :: a4 :: a5 :: a6 :: a7 :: a8 :: a9 :: a10 :: b :: b2 :: lv) (i := 11) (v := .long x) (by simp) hl.2.2.2 hp h))
theorem v_iinc_11 (hC : cOK X R C cc own) {a0 a1 a2 a3 a4 a5 a6 a7 a8 a9 a10 : Option Value} {n : Int} {x v : Int32} (hp : cat1 a10 = true) (hv : x + Int32.ofInt n = v) (d : decode cc pc = .ok (.iinc 11 n, 3)) (hq : pc + 3 = q) (k : V l X R C f q (a0 :: a1 :: a2 :: a3 :: a4 :: a5 :: a6 :: a7 :: a8 :: a9 :: a10 :: some (.int v) :: lv) st) : V l X R C f pc (a0 :: a1 :: a2 :: a3 :: a4 :: a5 :: a6 :: a7 :: a8 :: a9 :: a10 :: some (.int x) :: lv) st := by
  obtain ⟨p, e, s, m, args, below, meth, c, nL, Q, kc, ks⟩ := C
  subst hq
  intro H locs ls hP hS hl
  have hm : (11, Value.int x) ∈ prs (a0 :: a1 :: a2 :: a3 :: a4 :: a5 :: a6 :: a7 :: a8 :: a9 :: a10 :: some (.int x) :: lv) := prs_mem.mpr rfl
  obtain ⟨k0, hk0⟩ := List.getElem?_of_mem hm
  have hn := Nat.lt_of_lt_of_le (show 11 < (a0 :: a1 :: a2 :: a3 :: a4 :: a5 :: a6 :: a7 :: a8 :: a9 :: a10 :: some (.int x) :: lv).length by simp) hl.2.2.2
  exact lv_iinc hC.1 hC.2.1 d hl.prs hk0 hv hn rfl (fun ls' h => k H locs ls' hP hS (hasL_set1 (lv := a0 :: a1 :: a2 :: a3 :: a4 :: a5 :: a6 :: a7 :: a8 :: a9 :: a10 :: some (.int x) :: lv) (i := 11) (v := .int v) (by simp) hl.2.2.2 hp h))
theorem v_iadd (hC : cOK X R C cc own) {x y : Int32} (d : decode cc pc = .ok (.iadd, 1)) (hq : pc + 1 = q) (k : V l X R C f q lv (.int (x + y) :: st)) : V l X R C f pc lv (.int y :: .int x :: st) := by
  obtain ⟨p, e, s, m, args, below, meth, c, nL, Q, kc, ks⟩ := C
  subst hq
  intro H locs ls hP hS hl
  exact lv_iadd hC.1 hC.2.1 d (k H locs ls hP hS hl)
theorem v_isub (hC : cOK X R C cc own) {x y : Int32} (d : decode cc pc = .ok (.isub, 1)) (hq : pc + 1 = q) (k : V l X R C f q lv (.int (x - y) :: st)) : V l X R C f pc lv (.int y :: .int x :: st) := by
  obtain ⟨p, e, s, m, args, below, meth, c, nL, Q, kc, ks⟩ := C
  subst hq
  intro H locs ls hP hS hl
  exact lv_isub hC.1 hC.2.1 d (k H locs ls hP hS hl)
theorem v_imul (hC : cOK X R C cc own) {x y : Int32} (d : decode cc pc = .ok (.imul, 1)) (hq : pc + 1 = q) (k : V l X R C f q lv (.int (x * y) :: st)) : V l X R C f pc lv (.int y :: .int x :: st) := by
  obtain ⟨p, e, s, m, args, below, meth, c, nL, Q, kc, ks⟩ := C
  subst hq
  intro H locs ls hP hS hl
  exact lv_imul hC.1 hC.2.1 d (k H locs ls hP hS hl)
theorem v_iand (hC : cOK X R C cc own) {x y : Int32} (d : decode cc pc = .ok (.iand, 1)) (hq : pc + 1 = q) (k : V l X R C f q lv (.int (x &&& y) :: st)) : V l X R C f pc lv (.int y :: .int x :: st) := by
  obtain ⟨p, e, s, m, args, below, meth, c, nL, Q, kc, ks⟩ := C
  subst hq
  intro H locs ls hP hS hl
  exact lv_iand hC.1 hC.2.1 d (k H locs ls hP hS hl)
theorem v_ior (hC : cOK X R C cc own) {x y : Int32} (d : decode cc pc = .ok (.ior, 1)) (hq : pc + 1 = q) (k : V l X R C f q lv (.int (x ||| y) :: st)) : V l X R C f pc lv (.int y :: .int x :: st) := by
  obtain ⟨p, e, s, m, args, below, meth, c, nL, Q, kc, ks⟩ := C
  subst hq
  intro H locs ls hP hS hl
  exact lv_ior hC.1 hC.2.1 d (k H locs ls hP hS hl)
theorem v_ixor (hC : cOK X R C cc own) {x y : Int32} (d : decode cc pc = .ok (.ixor, 1)) (hq : pc + 1 = q) (k : V l X R C f q lv (.int (x ^^^ y) :: st)) : V l X R C f pc lv (.int y :: .int x :: st) := by
  obtain ⟨p, e, s, m, args, below, meth, c, nL, Q, kc, ks⟩ := C
  subst hq
  intro H locs ls hP hS hl
  exact lv_ixor hC.1 hC.2.1 d (k H locs ls hP hS hl)
theorem v_ishl (hC : cOK X R C cc own) {x y : Int32} (d : decode cc pc = .ok (.ishl, 1)) (hq : pc + 1 = q) (k : V l X R C f q lv (.int (x <<< (y &&& 31)) :: st)) : V l X R C f pc lv (.int y :: .int x :: st) := by
  obtain ⟨p, e, s, m, args, below, meth, c, nL, Q, kc, ks⟩ := C
  subst hq
  intro H locs ls hP hS hl
  exact lv_ishl hC.1 hC.2.1 d (k H locs ls hP hS hl)
theorem v_ishr (hC : cOK X R C cc own) {x y : Int32} (d : decode cc pc = .ok (.ishr, 1)) (hq : pc + 1 = q) (k : V l X R C f q lv (.int (x >>> (y &&& 31)) :: st)) : V l X R C f pc lv (.int y :: .int x :: st) := by
  obtain ⟨p, e, s, m, args, below, meth, c, nL, Q, kc, ks⟩ := C
  subst hq
  intro H locs ls hP hS hl
  exact lv_ishr hC.1 hC.2.1 d (k H locs ls hP hS hl)
theorem v_iushr (hC : cOK X R C cc own) {x y : Int32} (d : decode cc pc = .ok (.iushr, 1)) (hq : pc + 1 = q) (k : V l X R C f q lv (.int ((x.toUInt32 >>> (y.toUInt32 &&& Int32.toUInt32 31)).toInt32) :: st)) : V l X R C f pc lv (.int y :: .int x :: st) := by
  obtain ⟨p, e, s, m, args, below, meth, c, nL, Q, kc, ks⟩ := C
  subst hq
  intro H locs ls hP hS hl
  exact lv_iushr hC.1 hC.2.1 d rfl (k H locs ls hP hS hl)
theorem v_idiv (hC : cOK X R C cc own) {x y : Int32} (hne : ¬ y = 0) (d : decode cc pc = .ok (.idiv, 1)) (hq : pc + 1 = q) (k : V l X R C f q lv (.int (x / y) :: st)) : V l X R C f pc lv (.int y :: .int x :: st) := by
  obtain ⟨p, e, s, m, args, below, meth, c, nL, Q, kc, ks⟩ := C
  subst hq
  intro H locs ls hP hS hl
  exact lv_idiv hC.1 hC.2.1 d hne (k H locs ls hP hS hl)
theorem v_irem (hC : cOK X R C cc own) {x y : Int32} (hne : ¬ y = 0) (d : decode cc pc = .ok (.irem, 1)) (hq : pc + 1 = q) (k : V l X R C f q lv (.int (x - x / y * y) :: st)) : V l X R C f pc lv (.int y :: .int x :: st) := by
  obtain ⟨p, e, s, m, args, below, meth, c, nL, Q, kc, ks⟩ := C
  subst hq
  intro H locs ls hP hS hl
  exact lv_irem hC.1 hC.2.1 d hne (k H locs ls hP hS hl)
theorem v_land (hC : cOK X R C cc own) {x y : Int64} (d : decode cc pc = .ok (.land, 1)) (hq : pc + 1 = q) (k : V l X R C f q lv (.long (x &&& y) :: st)) : V l X R C f pc lv (.long y :: .long x :: st) := by
  obtain ⟨p, e, s, m, args, below, meth, c, nL, Q, kc, ks⟩ := C
  subst hq
  intro H locs ls hP hS hl
  exact lv_land hC.1 hC.2.1 d (k H locs ls hP hS hl)
theorem v_lor (hC : cOK X R C cc own) {x y : Int64} (d : decode cc pc = .ok (.lor, 1)) (hq : pc + 1 = q) (k : V l X R C f q lv (.long (x ||| y) :: st)) : V l X R C f pc lv (.long y :: .long x :: st) := by
  obtain ⟨p, e, s, m, args, below, meth, c, nL, Q, kc, ks⟩ := C
  subst hq
  intro H locs ls hP hS hl
  exact lv_lor hC.1 hC.2.1 d (k H locs ls hP hS hl)
theorem v_lshl (hC : cOK X R C cc own) {x : Int64} {y : Int32} (d : decode cc pc = .ok (.lshl, 1)) (hq : pc + 1 = q) (k : V l X R C f q lv (.long (x <<< (y.toInt64 &&& 63)) :: st)) : V l X R C f pc lv (.int y :: .long x :: st) := by
  obtain ⟨p, e, s, m, args, below, meth, c, nL, Q, kc, ks⟩ := C
  subst hq
  intro H locs ls hP hS hl
  exact lv_lshl hC.1 hC.2.1 d rfl (k H locs ls hP hS hl)
theorem v_lcmp (hC : cOK X R C cc own) {x y : Int64} (d : decode cc pc = .ok (.lcmp, 1)) (hq : pc + 1 = q) (k : V l X R C f q lv (.int (lg_cmp x y) :: st)) : V l X R C f pc lv (.long y :: .long x :: st) := by
  obtain ⟨p, e, s, m, args, below, meth, c, nL, Q, kc, ks⟩ := C
  subst hq
  intro H locs ls hP hS hl
  exact W.lcmp hC.1 hC.2.1 d (k H locs ls hP hS hl)
theorem v_i2l (hC : cOK X R C cc own) {x : Int32} (d : decode cc pc = .ok (.i2l, 1)) (hq : pc + 1 = q) (k : V l X R C f q lv (.long x.toInt64 :: st)) : V l X R C f pc lv (.int x :: st) := by
  obtain ⟨p, e, s, m, args, below, meth, c, nL, Q, kc, ks⟩ := C
  subst hq
  intro H locs ls hP hS hl
  exact lv_i2l hC.1 hC.2.1 d rfl (k H locs ls hP hS hl)
theorem v_l2i (hC : cOK X R C cc own) {x : Int64} (d : decode cc pc = .ok (.l2i, 1)) (hq : pc + 1 = q) (k : V l X R C f q lv (.int x.toInt32 :: st)) : V l X R C f pc lv (.long x :: st) := by
  obtain ⟨p, e, s, m, args, below, meth, c, nL, Q, kc, ks⟩ := C
  subst hq
  intro H locs ls hP hS hl
  exact lv_l2i hC.1 hC.2.1 d rfl (k H locs ls hP hS hl)
theorem v_i2b (hC : cOK X R C cc own) {x : Int32} (d : decode cc pc = .ok (.i2b, 1)) (hq : pc + 1 = q) (k : V l X R C f q lv (.int x.toInt8.toInt32 :: st)) : V l X R C f pc lv (.int x :: st) := by
  obtain ⟨p, e, s, m, args, below, meth, c, nL, Q, kc, ks⟩ := C
  subst hq
  intro H locs ls hP hS hl
  exact lv_i2b hC.1 hC.2.1 d rfl (k H locs ls hP hS hl)
theorem v_i2s (hC : cOK X R C cc own) {x : Int32} (d : decode cc pc = .ok (.i2s, 1)) (hq : pc + 1 = q) (k : V l X R C f q lv (.int x.toInt16.toInt32 :: st)) : V l X R C f pc lv (.int x :: st) := by
  obtain ⟨p, e, s, m, args, below, meth, c, nL, Q, kc, ks⟩ := C
  subst hq
  intro H locs ls hP hS hl
  exact lv_i2s hC.1 hC.2.1 d rfl (k H locs ls hP hS hl)
theorem v_i2c (hC : cOK X R C cc own) {x : Int32} (d : decode cc pc = .ok (.i2c, 1)) (hq : pc + 1 = q) (k : V l X R C f q lv (.int (x.toUInt32 % 65536).toInt32 :: st)) : V l X R C f pc lv (.int x :: st) := by
  obtain ⟨p, e, s, m, args, below, meth, c, nL, Q, kc, ks⟩ := C
  subst hq
  intro H locs ls hP hS hl
  exact lv_i2c hC.1 hC.2.1 d rfl (k H locs ls hP hS hl)
theorem v_dup (hC : cOK X R C cc own) {va : Value} (hva : va.category = 1) (d : decode cc pc = .ok (.dup, 1)) (hq : pc + 1 = q) (k : V l X R C f q lv (va :: va :: st)) : V l X R C f pc lv (va :: st) := by
  obtain ⟨p, e, s, m, args, below, meth, c, nL, Q, kc, ks⟩ := C
  subst hq
  intro H locs ls hP hS hl
  exact lv_dup hC.1 hC.2.1 d hva (k H locs ls hP hS hl)
theorem v_dup2 (hC : cOK X R C cc own) {va vb : Value} (hva : va.category = 1) (hvb : vb.category = 1) (d : decode cc pc = .ok (.dup2, 1)) (hq : pc + 1 = q) (k : V l X R C f q lv (va :: vb :: va :: vb :: st)) : V l X R C f pc lv (va :: vb :: st) := by
  obtain ⟨p, e, s, m, args, below, meth, c, nL, Q, kc, ks⟩ := C
  subst hq
  intro H locs ls hP hS hl
  exact lv_dup2_11 hC.1 hC.2.1 d hva hvb (k H locs ls hP hS hl)
theorem v_pop (hC : cOK X R C cc own) {va : Value} (hva : va.category = 1) (d : decode cc pc = .ok (.pop, 1)) (hq : pc + 1 = q) (k : V l X R C f q lv (st)) : V l X R C f pc lv (va :: st) := by
  obtain ⟨p, e, s, m, args, below, meth, c, nL, Q, kc, ks⟩ := C
  subst hq
  intro H locs ls hP hS hl
  exact lv_pop hC.1 hC.2.1 d hva (k H locs ls hP hS hl)
theorem v_if_eq (hC : cOK X R C cc own) {x : Int32} {off : Int} (d : decode cc pc = .ok (.ifCond .eq off, 3)) (ht : (pc : Int) + off = (t : Int)) (hq : pc + 3 = q) (kt : x = 0 → V l X R C f t lv st) (kf : ¬ x = 0 → V l X R C f q lv st) : V l X R C f pc lv (.int x :: st) := by
  obtain ⟨p, e, s, m, args, below, meth, c, nL, Q, kc, ks⟩ := C
  subst hq
  intro H locs ls hP hS hl
  exact lv_if_eq hC.1 hC.2.1 d ht (fun h => kt h H locs ls hP hS hl) (fun h => kf h H locs ls hP hS hl)
theorem v_icmp_eq (hC : cOK X R C cc own) {x y : Int32} {off : Int} (d : decode cc pc = .ok (.if_icmp .eq off, 3)) (ht : (pc : Int) + off = (t : Int)) (hq : pc + 3 = q) (kt : x = y → V l X R C f t lv st) (kf : ¬ x = y → V l X R C f q lv st) : V l X R C f pc lv (.int y :: .int x :: st) := by
  obtain ⟨p, e, s, m, args, below, meth, c, nL, Q, kc, ks⟩ := C
  subst hq
  intro H locs ls hP hS hl
  exact lv_icmp_eq hC.1 hC.2.1 d ht (fun h => kt h H locs ls hP hS hl) (fun h => kf h H locs ls hP hS hl)
theorem v_if_ne (hC : cOK X R C cc own) {x : Int32} {off : Int} (d : decode cc pc = .ok (.ifCond .ne off, 3)) (ht : (pc : Int) + off = (t : Int)) (hq : pc + 3 = q) (kt : ¬ x = 0 → V l X R C f t lv st) (kf : x = 0 → V l X R C f q lv st) : V l X R C f pc lv (.int x :: st) := by
  obtain ⟨p, e, s, m, args, below, meth, c, nL, Q, kc, ks⟩ := C
  subst hq
  intro H locs ls hP hS hl
  exact lv_if_ne hC.1 hC.2.1 d ht (fun h => kt h H locs ls hP hS hl) (fun h => kf h H locs ls hP hS hl)
theorem v_icmp_ne (hC : cOK X R C cc own) {x y : Int32} {off : Int} (d : decode cc pc = .ok (.if_icmp .ne off, 3)) (ht : (pc : Int) + off = (t : Int)) (hq : pc + 3 = q) (kt : ¬ x = y → V l X R C f t lv st) (kf : x = y → V l X R C f q lv st) : V l X R C f pc lv (.int y :: .int x :: st) := by
  obtain ⟨p, e, s, m, args, below, meth, c, nL, Q, kc, ks⟩ := C
  subst hq
  intro H locs ls hP hS hl
  exact lv_icmp_ne hC.1 hC.2.1 d ht (fun h => kt h H locs ls hP hS hl) (fun h => kf h H locs ls hP hS hl)
theorem v_if_lt (hC : cOK X R C cc own) {x : Int32} {off : Int} (d : decode cc pc = .ok (.ifCond .lt off, 3)) (ht : (pc : Int) + off = (t : Int)) (hq : pc + 3 = q) (kt : x < 0 → V l X R C f t lv st) (kf : ¬ x < 0 → V l X R C f q lv st) : V l X R C f pc lv (.int x :: st) := by
  obtain ⟨p, e, s, m, args, below, meth, c, nL, Q, kc, ks⟩ := C
  subst hq
  intro H locs ls hP hS hl
  exact lv_if_lt hC.1 hC.2.1 d ht (fun h => kt h H locs ls hP hS hl) (fun h => kf h H locs ls hP hS hl)
theorem v_icmp_lt (hC : cOK X R C cc own) {x y : Int32} {off : Int} (d : decode cc pc = .ok (.if_icmp .lt off, 3)) (ht : (pc : Int) + off = (t : Int)) (hq : pc + 3 = q) (kt : x < y → V l X R C f t lv st) (kf : ¬ x < y → V l X R C f q lv st) : V l X R C f pc lv (.int y :: .int x :: st) := by
  obtain ⟨p, e, s, m, args, below, meth, c, nL, Q, kc, ks⟩ := C
  subst hq
  intro H locs ls hP hS hl
  exact lv_icmp_lt hC.1 hC.2.1 d ht (fun h => kt h H locs ls hP hS hl) (fun h => kf h H locs ls hP hS hl)
theorem v_if_ge (hC : cOK X R C cc own) {x : Int32} {off : Int} (d : decode cc pc = .ok (.ifCond .ge off, 3)) (ht : (pc : Int) + off = (t : Int)) (hq : pc + 3 = q) (kt : 0 ≤ x → V l X R C f t lv st) (kf : ¬ 0 ≤ x → V l X R C f q lv st) : V l X R C f pc lv (.int x :: st) := by
  obtain ⟨p, e, s, m, args, below, meth, c, nL, Q, kc, ks⟩ := C
  subst hq
  intro H locs ls hP hS hl
  exact lv_if_ge hC.1 hC.2.1 d ht (fun h => kt h H locs ls hP hS hl) (fun h => kf h H locs ls hP hS hl)
theorem v_icmp_ge (hC : cOK X R C cc own) {x y : Int32} {off : Int} (d : decode cc pc = .ok (.if_icmp .ge off, 3)) (ht : (pc : Int) + off = (t : Int)) (hq : pc + 3 = q) (kt : y ≤ x → V l X R C f t lv st) (kf : ¬ y ≤ x → V l X R C f q lv st) : V l X R C f pc lv (.int y :: .int x :: st) := by
  obtain ⟨p, e, s, m, args, below, meth, c, nL, Q, kc, ks⟩ := C
  subst hq
  intro H locs ls hP hS hl
  exact lv_icmp_ge hC.1 hC.2.1 d ht (fun h => kt h H locs ls hP hS hl) (fun h => kf h H locs ls hP hS hl)
theorem v_if_gt (hC : cOK X R C cc own) {x : Int32} {off : Int} (d : decode cc pc = .ok (.ifCond .gt off, 3)) (ht : (pc : Int) + off = (t : Int)) (hq : pc + 3 = q) (kt : 0 < x → V l X R C f t lv st) (kf : ¬ 0 < x → V l X R C f q lv st) : V l X R C f pc lv (.int x :: st) := by
  obtain ⟨p, e, s, m, args, below, meth, c, nL, Q, kc, ks⟩ := C
  subst hq
  intro H locs ls hP hS hl
  exact lv_if_gt hC.1 hC.2.1 d ht (fun h => kt h H locs ls hP hS hl) (fun h => kf h H locs ls hP hS hl)
theorem v_icmp_gt (hC : cOK X R C cc own) {x y : Int32} {off : Int} (d : decode cc pc = .ok (.if_icmp .gt off, 3)) (ht : (pc : Int) + off = (t : Int)) (hq : pc + 3 = q) (kt : y < x → V l X R C f t lv st) (kf : ¬ y < x → V l X R C f q lv st) : V l X R C f pc lv (.int y :: .int x :: st) := by
  obtain ⟨p, e, s, m, args, below, meth, c, nL, Q, kc, ks⟩ := C
  subst hq
  intro H locs ls hP hS hl
  exact lv_icmp_gt hC.1 hC.2.1 d ht (fun h => kt h H locs ls hP hS hl) (fun h => kf h H locs ls hP hS hl)
theorem v_if_le (hC : cOK X R C cc own) {x : Int32} {off : Int} (d : decode cc pc = .ok (.ifCond .le off, 3)) (ht : (pc : Int) + off = (t : Int)) (hq : pc + 3 = q) (kt : x ≤ 0 → V l X R C f t lv st) (kf : ¬ x ≤ 0 → V l X R C f q lv st) : V l X R C f pc lv (.int x :: st) := by
  obtain ⟨p, e, s, m, args, below, meth, c, nL, Q, kc, ks⟩ := C
  subst hq
  intro H locs ls hP hS hl
  exact lv_if_le hC.1 hC.2.1 d ht (fun h => kt h H locs ls hP hS hl) (fun h => kf h H locs ls hP hS hl)
theorem v_icmp_le (hC : cOK X R C cc own) {x y : Int32} {off : Int} (d : decode cc pc = .ok (.if_icmp .le off, 3)) (ht : (pc : Int) + off = (t : Int)) (hq : pc + 3 = q) (kt : x ≤ y → V l X R C f t lv st) (kf : ¬ x ≤ y → V l X R C f q lv st) : V l X R C f pc lv (.int y :: .int x :: st) := by
  obtain ⟨p, e, s, m, args, below, meth, c, nL, Q, kc, ks⟩ := C
  subst hq
  intro H locs ls hP hS hl
  exact lv_icmp_le hC.1 hC.2.1 d ht (fun h => kt h H locs ls hP hS hl) (fun h => kf h H locs ls hP hS hl)
theorem v_goto (hC : cOK X R C cc own) {off : Int} (d : decode cc pc = .ok (.goto off, 3)) (ht : (pc : Int) + off = (t : Int)) (k : V l X R C f t lv st) : V l X R C f pc lv st := by
  obtain ⟨p, e, s, m, args, below, meth, c, nL, Q, kc, ks⟩ := C
  intro H locs ls hP hS hl
  exact lv_goto hC.1 hC.2.1 d ht (k H locs ls hP hS hl)
theorem v_tin (hC : cOK X R C cc own) {dflt lo hi : Int} {offs : Array Int} {len : Nat} {x : Int32} {off : Int} (d : decode cc pc = .ok (.tableswitch dflt lo hi offs, len)) (h1 : ¬ x.toInt < lo) (h2 : ¬ hi < x.toInt) (ho : offs[(x.toInt - lo).toNat]? = some off) (ht : (pc : Int) + off = (t : Int)) (k : V l X R C f t lv st) : V l X R C f pc lv (.int x :: st) := by
  obtain ⟨p, e, s, m, args, below, meth, c, nL, Q, kc, ks⟩ := C
  intro H locs ls hP hS hl
  exact lv_tableIn hC.1 hC.2.1 d h1 h2 ho ht (k H locs ls hP hS hl)
theorem v_tout (hC : cOK X R C cc own) {dflt lo hi : Int} {offs : Array Int} {len : Nat} {x : Int32} (d : decode cc pc = .ok (.tableswitch dflt lo hi offs, len)) (h : x.toInt < lo ∨ hi < x.toInt) (ht : (pc : Int) + dflt = (t : Int)) (k : V l X R C f t lv st) : V l X R C f pc lv (.int x :: st) := by
  obtain ⟨p, e, s, m, args, below, meth, c, nL, Q, kc, ks⟩ := C
  intro H locs ls hP hS hl
  exact lv_tableOut hC.1 hC.2.1 d h ht (k H locs ls hP hS hl)
theorem v_ldc (hC : cOK X R C cc own) {idx : Nat} {v : Int32} (hw : Cond.constant own idx v ∈ tG) (d : decode cc pc = .ok (.ldc idx, 2)) (hq : pc + 2 = q) (k : V l X R C f q lv (.int v :: st)) : V l X R C f pc lv (st) := by
  obtain ⟨p, e, s, m, args, below, meth, c, nL, Q, kc, ks⟩ := C
  subst hq
  intro H locs ls hP hS hl
  exact lv_ldc hC.1 hC.2.1 hC.2.2.2.1 (hC.2.2.2.2.1 _ hw) d (k H locs ls hP hS hl)
theorem v_ldcw (hC : cOK X R C cc own) {idx : Nat} {v : Int32} (hw : Cond.constant own idx v ∈ tG) (d : decode cc pc = .ok (.ldc_w idx, 3)) (hq : pc + 3 = q) (k : V l X R C f q lv (.int v :: st)) : V l X R C f pc lv (st) := by
  obtain ⟨p, e, s, m, args, below, meth, c, nL, Q, kc, ks⟩ := C
  subst hq
  intro H locs ls hP hS hl
  exact lv_ldcw hC.1 hC.2.1 hC.2.2.2.1 (hC.2.2.2.2.1 _ hw) d (k H locs ls hP hS hl)
theorem v_ldc2 (hC : cOK X R C cc own) {idx : Nat} {v : Int64} (hw : Cond.constantLong own idx v ∈ tG) (d : decode cc pc = .ok (.ldc2_w idx, 3)) (hq : pc + 3 = q) (k : V l X R C f q lv (.long v :: st)) : V l X R C f pc lv (st) := by
  obtain ⟨p, e, s, m, args, below, meth, c, nL, Q, kc, ks⟩ := C
  subst hq
  intro H locs ls hP hS hl
  exact lv_ldc2 hC.1 hC.2.1 hC.2.2.2.1 (hC.2.2.2.2.1 _ hw) d (k H locs ls hP hS hl)
/-- a field's link: class ci's field j, read by own's entry idx; likewise of a nest mate; and for a write -/
def FLk (own : String) (idx ci j : Nat) : Prop := ∃ (Cn : String) (T : u_T) (N : Nat), vwCl[ci]? = some (Cn, T, N) ∧ (∀ w ∈ u_ws Cn T N, w ∈ tG) ∧ j < N ∧ Cond.fieldLink own idx (T j).1 (T j).2.1 (T j).2.2.1 ∈ tG
def NLk (own : String) (idx ci j : Nat) : Prop := ∃ (Cn : String) (T : u_T) (N : Nat) (host : String), vwCl[ci]? = some (Cn, T, N) ∧ (∀ w ∈ u_ws Cn T N, w ∈ tG) ∧ j < N ∧ (own, idx, (T j).1, (T j).2.1, (T j).2.2.1, host) ∈ nstT
def PTy (ci j : Nat) (ty : FieldType) : Prop := ∃ (Cn : String) (T : u_T) (N : Nat) (ty0 : Nat → FieldType), vwCl[ci]? = some (Cn, T, N) ∧ (∀ k, k < N → parseFieldDescriptor (T k).2.2.1 = some (ty0 k)) ∧ (∀ a, a < N → ∀ b, b < N → a ≠ b → (T a).2.1 ≠ (T b).2.1) ∧ (T j).2.2.2 = false ∧ parseFieldDescriptor (T j).2.2.1 = some ty
theorem v_get (hC : cOK X R C cc own) {idx ci j k : Nat} {fs : List Value} {v : Value} (hF : FLk own idx ci j) (hk : k < 56) (hf : f k = .inr (ci, fs)) (hv : fs[j]? = some v) (d : decode cc pc = .ok (.getfield idx, 3)) (hq : pc + 3 = q) (kk : V l X R C f q lv (v :: st)) : V l X R C f pc lv (.ref (ga X k) :: st) := by
  obtain ⟨p, e, s, m, args, below, meth, c, nL, Q, kc, ks⟩ := C
  subst hq
  intro H locs ls hP hS hl
  obtain ⟨Cn, T, N, h1, h2, h3, h4⟩ := hF
  exact va_get (D := gD X) hC.1 hC.2.1 hC.2.2.2.2.1 h2 hC.2.2.2.1 hC.2.2.2.2.2.1.2.1 hP k (by rw [gw_at hk, hf]) h1 j h3 (hC.2.2.2.2.1 _ h4) (fun _ h9 => h9) hv d (kk H locs ls hP hS hl)
theorem v_getN (hC : cOK X R C cc own) {idx ci j k : Nat} {fs : List Value} {v : Value} (hF : NLk own idx ci j) (hk : k < 56) (hf : f k = .inr (ci, fs)) (hv : fs[j]? = some v) (d : decode cc pc = .ok (.getfield idx, 3)) (hq : pc + 3 = q) (kk : V l X R C f q lv (v :: st)) : V l X R C f pc lv (.ref (ga X k) :: st) := by
  obtain ⟨p, e, s, m, args, below, meth, c, nL, Q, kc, ks⟩ := C
  subst hq
  intro H locs ls hP hS hl
  obtain ⟨Cn, T, N, host, h1, h2, h3, h4⟩ := hF
  exact va_getN (D := gD X) hC.1 hC.2.1 hC.2.2.2.2.1 h2 hC.2.2.2.1 hC.2.2.2.2.2.1.2.1 hP k (by rw [gw_at hk, hf]) h1 j h3 (va_Nw.use rfl (hC.2.2.2.2.2.1.2.2.1 _ h4)) (fun _ h9 => h9) hv d (kk H locs ls hP hS hl)
theorem v_put (hC : cOK X R C cc own) {idx ci j k : Nat} {fs : List Value} {v : Value} {ty : FieldType} {g : Hp} (hF : FLk own idx ci j) (hT : PTy ci j ty) (hk : k < 56) (hf : f k = .inr (ci, fs)) (hj : j < fs.length) (hn : narrow ty v = v) (hfit : fits ty v = true) (hg : va_up f k (.inr (ci, fs.set j v)) = g) (d : decode cc pc = .ok (.putfield idx, 3)) (hq : pc + 3 = q) (kk : V l X R C g q lv st) : V l X R C f pc lv (v :: .ref (ga X k) :: st) := by
  obtain ⟨p, e, s, m, args, below, meth, c, nL, Q, kc, ks⟩ := C
  subst hq
  intro H locs ls hP hS hl
  subst hg
  obtain ⟨Cn, T, N, h1, h2, h3, h4⟩ := hF
  obtain ⟨Cn', T', N', ty0, g1, g2, g3, g4, g5⟩ := hT
  cases h1.symm.trans g1
  exact va_put (D := gD X) hC.1 hC.2.1 hC.2.2.2.2.1 h2 ty0 g2 g3 hC.2.2.2.1 hC.2.2.2.2.2.1.2.1 hP (gw_D hC.2.2.2.2.2.1.1) hS k (by rw [gw_at hk, hf]) h1 j h3 (hC.2.2.2.2.1 _ h4) (fun _ h9 => h9) g4 g5 hn hfit hj d (fun H1 locs1 hP1 _ hS1 => kk H1 locs1 ls (by rw [← gw_up]; exact hP1) hS1 hl)
theorem v_putN (hC : cOK X R C cc own) {idx ci j k : Nat} {fs : List Value} {v : Value} {ty : FieldType} {g : Hp} (hF : NLk own idx ci j) (hT : PTy ci j ty) (hk : k < 56) (hf : f k = .inr (ci, fs)) (hj : j < fs.length) (hn : narrow ty v = v) (hfit : fits ty v = true) (hg : va_up f k (.inr (ci, fs.set j v)) = g) (d : decode cc pc = .ok (.putfield idx, 3)) (hq : pc + 3 = q) (kk : V l X R C g q lv st) : V l X R C f pc lv (v :: .ref (ga X k) :: st) := by
  obtain ⟨p, e, s, m, args, below, meth, c, nL, Q, kc, ks⟩ := C
  subst hq
  intro H locs ls hP hS hl
  subst hg
  obtain ⟨Cn, T, N, host, h1, h2, h3, h4⟩ := hF
  obtain ⟨Cn', T', N', ty0, g1, g2, g3, g4, g5⟩ := hT
  cases h1.symm.trans g1
  exact va_putN (D := gD X) hC.1 hC.2.1 hC.2.2.2.2.1 h2 ty0 g2 g3 hC.2.2.2.1 hC.2.2.2.2.2.1.2.1 hP (gw_D hC.2.2.2.2.2.1.1) hS k (by rw [gw_at hk, hf]) h1 j h3 (va_Nw.use rfl (hC.2.2.2.2.2.1.2.2.1 _ h4)) (fun _ h9 => h9) g4 g5 hn hfit hj d (fun H1 locs1 hP1 _ hS1 => kk H1 locs1 ls (by rw [← gw_up]; exact hP1) hS1 hl)
theorem v_iald (hC : cOK X R C cc own) {k n j : Nat} {g : Nat → Int32} {i : Int32} (hk : k < 56) (hf : f k = .inl (gc X 0, n, .inl g)) (hi : vp_in i n) (hj : i.toNatClampNeg = j) (d : decode cc pc = .ok (.iaload, 1)) (hq : pc + 1 = q) (kk : V l X R C f q lv (.int (g j) :: st)) : V l X R C f pc lv (.int i :: .ref (ga X k) :: st) := by
  obtain ⟨p, e, s, m, args, below, meth, c, nL, Q, kc, ks⟩ := C
  subst hq
  intro H locs ls hP hS hl
  subst hj
  exact va_iald (D := gD X) hC.1 hC.2.1 hC.2.2.2.2.2.1.2.1 hP k 0 (by rw [gw_at hk, hf]) rfl hi d (kk H locs ls hP hS hl)
theorem v_lald (hC : cOK X R C cc own) {k n j : Nat} {g : Nat → Int64} {i : Int32} (hk : k < 56) (hf : f k = .inl (gc X 1, n, .inr (.inl g))) (hi : vp_in i n) (hj : i.toNatClampNeg = j) (d : decode cc pc = .ok (.laload, 1)) (hq : pc + 1 = q) (kk : V l X R C f q lv (.long (g j) :: st)) : V l X R C f pc lv (.int i :: .ref (ga X k) :: st) := by
  obtain ⟨p, e, s, m, args, below, meth, c, nL, Q, kc, ks⟩ := C
  subst hq
  intro H locs ls hP hS hl
  subst hj
  exact va_lald (D := gD X) hC.1 hC.2.1 hC.2.2.2.2.2.1.2.1 hP k 1 (by rw [gw_at hk, hf]) rfl hi d (kk H locs ls hP hS hl)
theorem v_aald (hC : cOK X R C cc own) {k n j b : Nat} {cA : ClassId} (tt : Nat) {Cn : String} {g : Nat → Option Nat} {i : Int32} (hk : k < 56) (hf : f k = .inl (cA, n, .inr (.inr (.inr (.inr g))))) (ht : (gty X)[tt]? = some (cA, .object Cn)) (hi : vp_in i n) (hj : i.toNatClampNeg = j) (hb : g j = some b) (d : decode cc pc = .ok (.aaload, 1)) (hq : pc + 1 = q) (kk : V l X R C f q lv (.ref b :: st)) : V l X R C f pc lv (.int i :: .ref (ga X k) :: st) := by
  obtain ⟨p, e, s, m, args, below, meth, c, nL, Q, kc, ks⟩ := C
  subst hq
  intro H locs ls hP hS hl
  subst hj
  exact va_aldq (D := gD X) hC.1 hC.2.1 hC.2.2.2.2.2.1.2.1 hP k tt (by rw [gw_at hk, hf]) ht hi d (by rw [hb]; exact kk H locs ls hP hS hl)
theorem v_iast (hC : cOK X R C cc own) {k n j : Nat} {g : Nat → Int32} {i x : Int32} {f' : Hp} (hk : k < 56) (hf : f k = .inl (gc X 0, n, .inl g)) (hi : vp_in i n) (hj : i.toNatClampNeg = j) (hg : va_up f k (.inl (gc X 0, n, .inl (upd g j x))) = f') (d : decode cc pc = .ok (.iastore, 1)) (hq : pc + 1 = q) (kk : V l X R C f' q lv st) : V l X R C f pc lv (.int x :: .int i :: .ref (ga X k) :: st) := by
  obtain ⟨p, e, s, m, args, below, meth, c, nL, Q, kc, ks⟩ := C
  subst hq
  intro H locs ls hP hS hl
  subst hj
  subst hg
  exact va_iast (D := gD X) hC.1 hC.2.1 hC.2.2.2.2.2.1.2.1 hP (gw_D hC.2.2.2.2.2.1.1) hS k 0 (by rw [gw_at hk, hf]) rfl hi d (fun H1 locs1 hP1 _ hS1 => kk H1 locs1 ls (by rw [← gw_up]; exact hP1) hS1 hl)
theorem v_last (hC : cOK X R C cc own) {k n j : Nat} {g : Nat → Int64} {i : Int32} {x : Int64} {f' : Hp} (hk : k < 56) (hf : f k = .inl (gc X 1, n, .inr (.inl g))) (hi : vp_in i n) (hj : i.toNatClampNeg = j) (hg : va_up f k (.inl (gc X 1, n, .inr (.inl (vp_updL g j x)))) = f') (d : decode cc pc = .ok (.lastore, 1)) (hq : pc + 1 = q) (kk : V l X R C f' q lv st) : V l X R C f pc lv (.long x :: .int i :: .ref (ga X k) :: st) := by
  obtain ⟨p, e, s, m, args, below, meth, c, nL, Q, kc, ks⟩ := C
  subst hq
  intro H locs ls hP hS hl
  subst hj
  subst hg
  exact va_last (D := gD X) hC.1 hC.2.1 hC.2.2.2.2.2.1.2.1 hP (gw_D hC.2.2.2.2.2.1.1) hS k 1 (by rw [gw_at hk, hf]) rfl hi d (fun H1 locs1 hP1 _ hS1 => kk H1 locs1 ls (by rw [← gw_up]; exact hP1) hS1 hl)
theorem v_getKA (hC : cOK X R C cc own) {idx : Nat} (hw : Cond.fieldLink own idx RX5 "KIND_ABOVE" "[I" ∈ tG) (d : decode cc pc = .ok (.getstatic idx, 3)) (hq : pc + 3 = q) (kk : V l X R C f q lv (.ref (gs X 0) :: st)) : V l X R C f pc lv st := by
  obtain ⟨p, e, s, m, args, below, meth, c, nL, Q, kc, ks⟩ := C
  subst hq
  intro H locs ls hP hS hl
  exact va_gets hC.1 hC.2.1 hC.2.2.2.2.2.1.2.2.2.1.1 hS hC.2.2.2.1 (hC.2.2.2.2.1 _ hw) (fun _ h9 => h9) d (kk H locs ls hP hS hl)
theorem v_getNM (hC : cOK X R C cc own) {idx : Nat} (hw : Cond.fieldLink own idx RX6 "NAMES" "[I" ∈ tG) (d : decode cc pc = .ok (.getstatic idx, 3)) (hq : pc + 3 = q) (kk : V l X R C f q lv (.ref (gs X 1) :: st)) : V l X R C f pc lv st := by
  obtain ⟨p, e, s, m, args, below, meth, c, nL, Q, kc, ks⟩ := C
  subst hq
  intro H locs ls hP hS hl
  exact va_gets hC.1 hC.2.1 hC.2.2.2.2.2.1.2.2.2.2.1.1 hS hC.2.2.2.1 (hC.2.2.2.2.1 _ hw) (fun _ h9 => h9) d (kk H locs ls hP hS hl)
theorem v_getCS (hC : cOK X R C cc own) {idx : Nat} (hw : Cond.fieldLink own idx RJ0 "COMPACT_STRINGS" "Z" ∈ tG) (d : decode cc pc = .ok (.getstatic idx, 3)) (hq : pc + 3 = q) (kk : V l X R C f q lv (.int 1 :: st)) : V l X R C f pc lv st := by
  obtain ⟨p, e, s, m, args, below, meth, c, nL, Q, kc, ks⟩ := C
  subst hq
  intro H locs ls hP hS hl
  exact va_gets hC.1 hC.2.1 hC.2.2.2.2.2.1.2.2.2.2.2.2.2.1 hS hC.2.2.2.1 (hC.2.2.2.2.1 _ hw) (fun _ h9 => h9) d (kk H locs ls hP hS hl)
theorem v_getSF (hC : cOK X R C cc own) {idx : Nat} (hw : Cond.fieldLink own idx RJ3 "SIOOBE_FORMATTER" "Ljava/util/function/BiFunction;" ∈ tG) (d : decode cc pc = .ok (.getstatic idx, 3)) (hq : pc + 3 = q) (kk : ∀ v : Value, (v = .null ∨ ∃ x, v = .ref x) → V l X R C f q lv (v :: st)) : V l X R C f pc lv st := by
  obtain ⟨p, e, s, m, args, below, meth, c, nL, Q, kc, ks⟩ := C
  subst hq
  intro H locs ls hP hS hl
  rcases hC.2.2.2.2.2.1.2.2.2.2.2.2.2.2 with h | ⟨x, h⟩
  · exact va_gets hC.1 hC.2.1 h hS hC.2.2.2.1 (hC.2.2.2.2.1 _ hw) (fun _ h9 => h9) d (kk .null (Or.inl rfl) H locs ls hP hS hl)
  · exact va_gets hC.1 hC.2.1 h hS hC.2.2.2.1 (hC.2.2.2.2.1 _ hw) (fun _ h9 => h9) d (kk (.ref x) (Or.inr ⟨x, rfl⟩) H locs ls hP hS hl)
theorem v_tKA (hC : cOK X R C cc own) {i : Int32} {v : Value} (hi : vp_in i 6) (hv : kaF i.toNatClampNeg = v) (d : decode cc pc = .ok (.iaload, 1)) (hq : pc + 1 = q) (kk : V l X R C f q lv (v :: st)) : V l X R C f pc lv (.int i :: .ref (gs X 0) :: st) := by
  obtain ⟨p, e, s, m, args, below, meth, c, nL, Q, kc, ks⟩ := C
  subst hq
  intro H locs ls hP hS hl
  exact va_ti hC.1 hC.2.1 hC.2.2.2.2.2.1.2.2.2.1.2 hS hi hv d (kk H locs ls hP hS hl)
theorem v_tNM (hC : cOK X R C cc own) {i : Int32} {v : Value} (hi : vp_in i 77) (hv : nmF i.toNatClampNeg = v) (d : decode cc pc = .ok (.iaload, 1)) (hq : pc + 1 = q) (kk : V l X R C f q lv (v :: st)) : V l X R C f pc lv (.int i :: .ref (gs X 1) :: st) := by
  obtain ⟨p, e, s, m, args, below, meth, c, nL, Q, kc, ks⟩ := C
  subst hq
  intro H locs ls hP hS hl
  exact va_ti hC.1 hC.2.1 hC.2.2.2.2.2.1.2.2.2.2.1.2 hS hi hv d (kk H locs ls hP hS hl)
theorem v_ldcS (hC : cOK X R C cc RX4) {idx i : Nat} {tx : String} (hi : swI[i]? = some (idx, tx)) (d : decode cc pc = .ok (.ldc idx, 2)) (hq : pc + 2 = q) (kk : V l X R C f q lv (.ref (gK X i) :: st)) : V l X R C f pc lv st := by
  obtain ⟨p, e, s, m, args, below, meth, c, nL, Q, kc, ks⟩ := C
  subst hq
  intro H locs ls hP hS hl
  exact va_ldcS hC.1 hC.2.1 hC.2.2.2.1 (hC.2.2.2.2.2.1.2.2.2.2.2.2.1 i _ hi) d (kk H locs ls hP hS hl)
theorem v_strV (hC : cOK X R C cc own) {idx i : Nat} (hi : i < 11) (hw : Cond.fieldLink own idx RJ0 "value" "[B" ∈ tG) (d : decode cc pc = .ok (.getfield idx, 3)) (hq : pc + 3 = q) (kk : V l X R C f q lv (.ref (gV X i) :: st)) : V l X R C f pc lv (.ref (gK X i) :: st) := by
  obtain ⟨p, e, s, m, args, below, meth, c, nL, Q, kc, ks⟩ := C
  subst hq
  intro H locs ls hP hS hl
  exact vk_getf hC.1 hC.2.1 (hC.2.2.2.2.2.1.2.2.2.2.2.1.1 i hi).2.2.1 hS hC.2.2.2.1 (hC.2.2.2.2.1 _ hw) (fun _ h9 => h9) d (kk H locs ls hP hS hl)
theorem v_strC (hC : cOK X R C cc own) {idx i : Nat} (hi : i < 11) (hw : Cond.fieldLink own idx RJ0 "coder" "B" ∈ tG) (d : decode cc pc = .ok (.getfield idx, 3)) (hq : pc + 3 = q) (kk : V l X R C f q lv (.int 0 :: st)) : V l X R C f pc lv (.ref (gK X i) :: st) := by
  obtain ⟨p, e, s, m, args, below, meth, c, nL, Q, kc, ks⟩ := C
  subst hq
  intro H locs ls hP hS hl
  exact vk_getf hC.1 hC.2.1 (hC.2.2.2.2.2.1.2.2.2.2.2.1.1 i hi).2.1 hS hC.2.2.2.1 (hC.2.2.2.2.1 _ hw) (fun _ h9 => h9) d (kk H locs ls hP hS hl)
theorem v_strL (hC : cOK X R C cc own) {i : Nat} {v : Int32} (hi : i < 11) (hv : Int32.ofNat (swN.getD i 0) = v) (d : decode cc pc = .ok (.arraylength, 1)) (hq : pc + 1 = q) (kk : V l X R C f q lv (.int v :: st)) : V l X R C f pc lv (.ref (gV X i) :: st) := by
  obtain ⟨p, e, s, m, args, below, meth, c, nL, Q, kc, ks⟩ := C
  subst hq
  intro H locs ls hP hS hl
  exact va_tlen hC.1 hC.2.1 (hC.2.2.2.2.2.1.2.2.2.2.2.1.1 i hi).2.2.2 hS hv d (kk H locs ls hP hS hl)
theorem v_strB (hC : cOK X R C cc own) {i : Nat} {j : Int32} (hi : i < 11) (hj : vp_in j (swN.getD i 0)) (d : decode cc pc = .ok (.baload, 1)) (hq : pc + 1 = q) (kk : V l X R C f q lv (.int ((swL.getD i []).getD j.toNatClampNeg 0) :: st)) : V l X R C f pc lv (.int j :: .ref (gV X i) :: st) := by
  obtain ⟨p, e, s, m, args, below, meth, c, nL, Q, kc, ks⟩ := C
  subst hq
  intro H locs ls hP hS hl
  exact va_tb hC.1 hC.2.1 (hC.2.2.2.2.2.1.2.2.2.2.2.1.1 i hi).2.2.2 hS hj rfl d (kk H locs ls hP hS hl)
theorem v_max (hC : cOK X R C cc own) {idx : Nat} (h1 : Cond.methodLink own idx Lib.Math.max.name ∈ tG) (h2 : Cond.static Lib.Math.max.name ∈ tG) (h3 : Cond.initialized "java/lang/Math" ∈ tG) (h4 : Cond.code Lib.Math.max.name Lib.Math.max.code 2 (some .int) ∈ tG) (hR : 1 ≤ R.frames ∧ (st.map fun v => v.category).sum + 13 ≤ R.locals) {x y : Int32} (d : decode cc pc = .ok (.invokestatic idx, 3)) (hq : pc + 3 = q) (kk : V l X R C f q lv (.int (if x < y then y else x) :: st)) : V l X R C f pc lv (.int y :: .int x :: st) := by
  obtain ⟨p, e, s, m, args, below, meth, c, nL, Q, kc, ks⟩ := C
  subst hq
  intro H locs ls hP hS hl
  exact va_mmax hC.1 hC.2.1 (hC.2.2.1.trans hl.1.symm) hC.2.2.2.1 (hC.2.2.2.2.1 _ h1) (hC.2.2.2.2.1 _ h2) (hC.2.2.2.2.1 _ h3) (hC.2.2.2.2.1 _ h4) hR.1 hR.2 hC.2.2.2.2.2.2.1 hC.2.2.2.2.2.2.2 d (kk H locs ls hP hS hl)
theorem v_min (hC : cOK X R C cc own) {idx : Nat} (h1 : Cond.methodLink own idx Lib.Math.min.name ∈ tG) (h2 : Cond.static Lib.Math.min.name ∈ tG) (h3 : Cond.initialized "java/lang/Math" ∈ tG) (h4 : Cond.code Lib.Math.min.name Lib.Math.min.code 2 (some .int) ∈ tG) (hR : 1 ≤ R.frames ∧ (st.map fun v => v.category).sum + 13 ≤ R.locals) {x y : Int32} (d : decode cc pc = .ok (.invokestatic idx, 3)) (hq : pc + 3 = q) (kk : V l X R C f q lv (.int (if y < x then y else x) :: st)) : V l X R C f pc lv (.int y :: .int x :: st) := by
  obtain ⟨p, e, s, m, args, below, meth, c, nL, Q, kc, ks⟩ := C
  subst hq
  intro H locs ls hP hS hl
  exact va_mmin hC.1 hC.2.1 (hC.2.2.1.trans hl.1.symm) hC.2.2.2.1 (hC.2.2.2.2.1 _ h1) (hC.2.2.2.2.1 _ h2) (hC.2.2.2.2.1 _ h3) (hC.2.2.2.2.1 _ h4) hR.1 hR.2 hC.2.2.2.2.2.2.1 hC.2.2.2.2.2.2.2 d (kk H locs ls hP hS hl)
theorem tg_V {k : Cond} {own : String} {idx : Nat} {y : MethodName} {Cn : String} {bytes : ByteArray} {maxL : Nat} {ret : Option FieldType} {n : Nat} (L : LkV own idx y Cn bytes maxL ret n) : GoodIn (k :: tG) (wsV own idx Cn y (Cond.code y bytes maxL ret :: tG)) := by
  obtain ⟨h1, h2, h3, h4, h5, -⟩ := L
  refine tg_in (fun w hw => ?_)
  simp only [wsV, List.mem_append, List.mem_cons, List.not_mem_nil, or_false] at hw
  rcases hw with (rfl | rfl | rfl | rfl) | (rfl | hw)
  · exact h1
  · exact h2
  · exact h3
  · exact h4
  · exact h5
  · exact hw
theorem tg_S {k : Cond} {own : String} {idx : Nat} {y : MethodName} {bytes : ByteArray} {maxL : Nat} {ret : Option FieldType} {n : Nat} (L : LkS own idx y bytes maxL ret n) : GoodIn (k :: tG) (va_wsS own idx y (Cond.code y bytes maxL ret :: tG)) := by
  obtain ⟨h1, h2, h3, h4, -⟩ := L
  refine tg_in (fun w hw => ?_)
  simp only [va_wsS, List.mem_append, List.mem_cons, List.not_mem_nil, or_false] at hw
  rcases hw with (rfl | rfl | rfl) | (rfl | hw)
  · exact h1
  · exact h2
  · exact h3
  · exact h4
  · exact hw
theorem g_blind {X : Gx} {f : Hp} {as : List Value} : FrameBlind (va_Pc as (fun U => gZ X U ∧ va_P (gD X) vwCl (gw X f) U.heap)) := fun a U g mk h => ⟨h.1, h.2.1.calling, h.2.2⟩
theorem v_Vi (hC : cOK X R C cc own) {idx : Nat} {y : MethodName} {Cn : String} {bytes : ByteArray} {maxL n F Lc : Nat} {ret : Option FieldType} (L : LkV own idx y Cn bytes maxL ret n) {k ci : Nat} {fs : List Value} {T : u_T} {N : Nat} {As rest : List Value} {post : Int32 → Hp → Prop} (hM : Ci l X y bytes maxL ret (rmk F Lc) (.ref (ga X k) :: As) f post) (hst : st = As.reverse ++ .ref (ga X k) :: rest) (hR : F + 1 ≤ R.frames ∧ 8 + (maxL + 11) + Lc ≤ R.locals) (hk : k < 56) (hf : f k = .inr (ci, fs)) (hcl : vwCl[ci]? = some (Cn, T, N)) (hn : As.length = n) (hrs : (rest.map fun v => v.category).sum ≤ 8) (d : decode cc pc = .ok (.invokevirtual idx, 3)) (hq : pc + 3 = q) (kk : ∀ (r : Int32) (g : Hp), post r g → V l X R C g q lv (.int r :: rest)) : V l X R C f pc lv st := by
  obtain ⟨p, e, s, m, args, below, meth, c, nL, Q, kc, ks⟩ := C
  subst hq
  intro H locs ls hP hS hl
  have hts : ∀ w ∈ (Cond.initialized Cn :: tG), w.before args s = true := fun w hw => by
    rcases List.mem_cons.mp hw with rfl | h
    · exact hC.2.2.2.2.1 _ L.2.2.2.1
    · exact hC.2.2.2.2.1 w h
  refine va_calli (va_runV (As := As) (rest := rest) ⟨hC.1, hC.2.1, hC.2.2.1, hC.2.2.2.1, hts⟩ hM (cwV n hts (tg_V L) rfl rfl rfl L.2.2.2.2.2 hR) ⟨g_blind, va_recv hC.2.2.2.2.2.1.2.1 hP hcl (by rw [gw_at hk, hf]), fun U hU hW => ⟨rfl, hC.2.2.2.2.2.1.go hS hU hW, by rw [hU]; exact hP⟩⟩ rfl hn hl.1 hst (lv_room hrs) d ⟨hC.2.2.2.2.2.2.1, hC.2.2.2.2.2.2.2⟩) hS (fun _ _ h => h) (fun _ h => h) ?_
  exact (fun r g t H1 locs1 ht _ hp hB _ _ hS1 => kk r g hp H1 locs1 ls (ht ▸ hB) hS1 hl)
theorem v_Si (hC : cOK X R C cc own) {idx : Nat} {y : MethodName} {bytes : ByteArray} {maxL n F Lc : Nat} {ret : Option FieldType} (L : LkS own idx y bytes maxL ret n) {As rest : List Value} {post : Int32 → Hp → Prop} (hM : Ci l X y bytes maxL ret (rmk F Lc) As f post) (hst : st = As.reverse ++ rest) (hR : F + 1 ≤ R.frames ∧ 8 + (maxL + 11) + Lc ≤ R.locals) (hn : As.length = n) (hrs : (rest.map fun v => v.category).sum ≤ 8) (d : decode cc pc = .ok (.invokestatic idx, 3)) (hq : pc + 3 = q) (kk : ∀ (r : Int32) (g : Hp), post r g → V l X R C g q lv (.int r :: rest)) : V l X R C f pc lv st := by
  obtain ⟨p, e, s, m, args, below, meth, c, nL, Q, kc, ks⟩ := C
  subst hq
  intro H locs ls hP hS hl
  have hts : ∀ w ∈ (Cond.static y :: tG), w.before args s = true := fun w hw => by
    rcases List.mem_cons.mp hw with rfl | h
    · exact hC.2.2.2.2.1 _ L.2.1
    · exact hC.2.2.2.2.1 w h
  refine va_calli (va_runS (As := As) (rest := rest) ⟨hC.1, hC.2.1, hC.2.2.1, hC.2.2.2.1, hts⟩ hM (va_cwS n hts (tg_S L) rfl rfl rfl L.2.2.2.2 hR) ⟨g_blind, fun U hU hW => ⟨rfl, hC.2.2.2.2.2.1.go hS hU hW, by rw [hU]; exact hP⟩⟩ rfl hn hl.1 hst (lv_room hrs) d ⟨hC.2.2.2.2.2.2.1, hC.2.2.2.2.2.2.2⟩) hS (fun _ _ h => h) (fun _ h => h) ?_
  exact (fun r g t H1 locs1 ht _ hp hB _ _ hS1 => kk r g hp H1 locs1 ls (ht ▸ hB) hS1 hl)
theorem v_Vv (hC : cOK X R C cc own) {idx : Nat} {y : MethodName} {Cn : String} {bytes : ByteArray} {maxL n F Lc : Nat} {ret : Option FieldType} (L : LkV own idx y Cn bytes maxL ret n) {k ci : Nat} {fs : List Value} {T : u_T} {N : Nat} {As rest : List Value} {post : Hp → Prop} (hM : Cv l X y bytes maxL ret (rmk F Lc) (.ref (ga X k) :: As) f post) (hst : st = As.reverse ++ .ref (ga X k) :: rest) (hR : F + 1 ≤ R.frames ∧ 8 + (maxL + 11) + Lc ≤ R.locals) (hk : k < 56) (hf : f k = .inr (ci, fs)) (hcl : vwCl[ci]? = some (Cn, T, N)) (hn : As.length = n) (hrs : (rest.map fun v => v.category).sum ≤ 8) (d : decode cc pc = .ok (.invokevirtual idx, 3)) (hq : pc + 3 = q) (kk : ∀ (g : Hp), post g → V l X R C g q lv rest) : V l X R C f pc lv st := by
  obtain ⟨p, e, s, m, args, below, meth, c, nL, Q, kc, ks⟩ := C
  subst hq
  intro H locs ls hP hS hl
  have hts : ∀ w ∈ (Cond.initialized Cn :: tG), w.before args s = true := fun w hw => by
    rcases List.mem_cons.mp hw with rfl | h
    · exact hC.2.2.2.2.1 _ L.2.2.2.1
    · exact hC.2.2.2.2.1 w h
  refine va_callv (va_runV (As := As) (rest := rest) ⟨hC.1, hC.2.1, hC.2.2.1, hC.2.2.2.1, hts⟩ hM (cwV n hts (tg_V L) rfl rfl rfl L.2.2.2.2.2 hR) ⟨g_blind, va_recv hC.2.2.2.2.2.1.2.1 hP hcl (by rw [gw_at hk, hf]), fun U hU hW => ⟨rfl, hC.2.2.2.2.2.1.go hS hU hW, by rw [hU]; exact hP⟩⟩ rfl hn hl.1 hst (lv_room hrs) d ⟨hC.2.2.2.2.2.2.1, hC.2.2.2.2.2.2.2⟩) hS (fun _ _ h => h) (fun _ h => h) ?_
  exact (fun g t H1 locs1 ht _ hp hB _ _ hS1 => kk g hp H1 locs1 ls (ht ▸ hB) hS1 hl)
theorem v_Sv (hC : cOK X R C cc own) {idx : Nat} {y : MethodName} {bytes : ByteArray} {maxL n F Lc : Nat} {ret : Option FieldType} (L : LkS own idx y bytes maxL ret n) {As rest : List Value} {post : Hp → Prop} (hM : Cv l X y bytes maxL ret (rmk F Lc) As f post) (hst : st = As.reverse ++ rest) (hR : F + 1 ≤ R.frames ∧ 8 + (maxL + 11) + Lc ≤ R.locals) (hn : As.length = n) (hrs : (rest.map fun v => v.category).sum ≤ 8) (d : decode cc pc = .ok (.invokestatic idx, 3)) (hq : pc + 3 = q) (kk : ∀ (g : Hp), post g → V l X R C g q lv rest) : V l X R C f pc lv st := by
  obtain ⟨p, e, s, m, args, below, meth, c, nL, Q, kc, ks⟩ := C
  subst hq
  intro H locs ls hP hS hl
  have hts : ∀ w ∈ (Cond.static y :: tG), w.before args s = true := fun w hw => by
    rcases List.mem_cons.mp hw with rfl | h
    · exact hC.2.2.2.2.1 _ L.2.1
    · exact hC.2.2.2.2.1 w h
  refine va_callv (va_runS (As := As) (rest := rest) ⟨hC.1, hC.2.1, hC.2.2.1, hC.2.2.2.1, hts⟩ hM (va_cwS n hts (tg_S L) rfl rfl rfl L.2.2.2.2 hR) ⟨g_blind, fun U hU hW => ⟨rfl, hC.2.2.2.2.2.1.go hS hU hW, by rw [hU]; exact hP⟩⟩ rfl hn hl.1 hst (lv_room hrs) d ⟨hC.2.2.2.2.2.2.1, hC.2.2.2.2.2.2.2⟩) hS (fun _ _ h => h) (fun _ h => h) ?_
  exact (fun g t H1 locs1 ht _ hp hB _ _ hS1 => kk g hp H1 locs1 ls (ht ▸ hB) hS1 hl)
theorem v_Vl (hC : cOK X R C cc own) {idx : Nat} {y : MethodName} {Cn : String} {bytes : ByteArray} {maxL n F Lc : Nat} {ret : Option FieldType} (L : LkV own idx y Cn bytes maxL ret n) {k ci : Nat} {fs : List Value} {T : u_T} {N : Nat} {As rest : List Value} {post : Int64 → Hp → Prop} (hM : Cl l X y bytes maxL ret (rmk F Lc) (.ref (ga X k) :: As) f post) (hst : st = As.reverse ++ .ref (ga X k) :: rest) (hR : F + 1 ≤ R.frames ∧ 8 + (maxL + 11) + Lc ≤ R.locals) (hk : k < 56) (hf : f k = .inr (ci, fs)) (hcl : vwCl[ci]? = some (Cn, T, N)) (hn : As.length = n) (hrs : (rest.map fun v => v.category).sum ≤ 8) (d : decode cc pc = .ok (.invokevirtual idx, 3)) (hq : pc + 3 = q) (kk : ∀ (r : Int64) (g : Hp), post r g → V l X R C g q lv (.long r :: rest)) : V l X R C f pc lv st := by
  obtain ⟨p, e, s, m, args, below, meth, c, nL, Q, kc, ks⟩ := C
  subst hq
  intro H locs ls hP hS hl
  have hts : ∀ w ∈ (Cond.initialized Cn :: tG), w.before args s = true := fun w hw => by
    rcases List.mem_cons.mp hw with rfl | h
    · exact hC.2.2.2.2.1 _ L.2.2.2.1
    · exact hC.2.2.2.2.1 w h
  refine va_calll (va_runV (As := As) (rest := rest) ⟨hC.1, hC.2.1, hC.2.2.1, hC.2.2.2.1, hts⟩ hM (cwV n hts (tg_V L) rfl rfl rfl L.2.2.2.2.2 hR) ⟨g_blind, va_recv hC.2.2.2.2.2.1.2.1 hP hcl (by rw [gw_at hk, hf]), fun U hU hW => ⟨rfl, hC.2.2.2.2.2.1.go hS hU hW, by rw [hU]; exact hP⟩⟩ rfl hn hl.1 hst (lv_room hrs) d ⟨hC.2.2.2.2.2.2.1, hC.2.2.2.2.2.2.2⟩) hS (fun _ _ h => h) (fun _ h => h) ?_
  exact (fun r g t H1 locs1 ht _ hp hB _ _ hS1 => kk r g hp H1 locs1 ls (ht ▸ hB) hS1 hl)
theorem v_Sl (hC : cOK X R C cc own) {idx : Nat} {y : MethodName} {bytes : ByteArray} {maxL n F Lc : Nat} {ret : Option FieldType} (L : LkS own idx y bytes maxL ret n) {As rest : List Value} {post : Int64 → Hp → Prop} (hM : Cl l X y bytes maxL ret (rmk F Lc) As f post) (hst : st = As.reverse ++ rest) (hR : F + 1 ≤ R.frames ∧ 8 + (maxL + 11) + Lc ≤ R.locals) (hn : As.length = n) (hrs : (rest.map fun v => v.category).sum ≤ 8) (d : decode cc pc = .ok (.invokestatic idx, 3)) (hq : pc + 3 = q) (kk : ∀ (r : Int64) (g : Hp), post r g → V l X R C g q lv (.long r :: rest)) : V l X R C f pc lv st := by
  obtain ⟨p, e, s, m, args, below, meth, c, nL, Q, kc, ks⟩ := C
  subst hq
  intro H locs ls hP hS hl
  have hts : ∀ w ∈ (Cond.static y :: tG), w.before args s = true := fun w hw => by
    rcases List.mem_cons.mp hw with rfl | h
    · exact hC.2.2.2.2.1 _ L.2.1
    · exact hC.2.2.2.2.1 w h
  refine va_calll (va_runS (As := As) (rest := rest) ⟨hC.1, hC.2.1, hC.2.2.1, hC.2.2.2.1, hts⟩ hM (va_cwS n hts (tg_S L) rfl rfl rfl L.2.2.2.2 hR) ⟨g_blind, fun U hU hW => ⟨rfl, hC.2.2.2.2.2.1.go hS hU hW, by rw [hU]; exact hP⟩⟩ rfl hn hl.1 hst (lv_room hrs) d ⟨hC.2.2.2.2.2.2.1, hC.2.2.2.2.2.2.2⟩) hS (fun _ _ h => h) (fun _ h => h) ?_
  exact (fun r g t H1 locs1 ht _ hp hB _ _ hS1 => kk r g hp H1 locs1 ls (ht ▸ hB) hS1 hl)
theorem v_Vr (hC : cOK X R C cc own) {idx : Nat} {y : MethodName} {Cn : String} {bytes : ByteArray} {maxL n F Lc : Nat} {ret : Option FieldType} (L : LkV own idx y Cn bytes maxL ret n) {k ci : Nat} {fs : List Value} {T : u_T} {N : Nat} {As rest : List Value} {post : Nat → Hp → Prop} (hM : Cr l X y bytes maxL ret (rmk F Lc) (.ref (ga X k) :: As) f post) (hst : st = As.reverse ++ .ref (ga X k) :: rest) (hR : F + 1 ≤ R.frames ∧ 8 + (maxL + 11) + Lc ≤ R.locals) (hk : k < 56) (hf : f k = .inr (ci, fs)) (hcl : vwCl[ci]? = some (Cn, T, N)) (hn : As.length = n) (hrs : (rest.map fun v => v.category).sum ≤ 8) (d : decode cc pc = .ok (.invokevirtual idx, 3)) (hq : pc + 3 = q) (kk : ∀ (r : Nat) (g : Hp), post r g → V l X R C g q lv (.ref r :: rest)) : V l X R C f pc lv st := by
  obtain ⟨p, e, s, m, args, below, meth, c, nL, Q, kc, ks⟩ := C
  subst hq
  intro H locs ls hP hS hl
  have hts : ∀ w ∈ (Cond.initialized Cn :: tG), w.before args s = true := fun w hw => by
    rcases List.mem_cons.mp hw with rfl | h
    · exact hC.2.2.2.2.1 _ L.2.2.2.1
    · exact hC.2.2.2.2.1 w h
  refine va_callr (va_runV (As := As) (rest := rest) ⟨hC.1, hC.2.1, hC.2.2.1, hC.2.2.2.1, hts⟩ hM (cwV n hts (tg_V L) rfl rfl rfl L.2.2.2.2.2 hR) ⟨g_blind, va_recv hC.2.2.2.2.2.1.2.1 hP hcl (by rw [gw_at hk, hf]), fun U hU hW => ⟨rfl, hC.2.2.2.2.2.1.go hS hU hW, by rw [hU]; exact hP⟩⟩ rfl hn hl.1 hst (lv_room hrs) d ⟨hC.2.2.2.2.2.2.1, hC.2.2.2.2.2.2.2⟩) hS (fun _ _ h => h) (fun _ h => h) ?_
  exact (fun g r t H1 locs1 ht _ _ hB _ _ hS1 => kk r g hB.1 H1 locs1 ls (ht ▸ hB.2) hS1 hl)
theorem v_Sr (hC : cOK X R C cc own) {idx : Nat} {y : MethodName} {bytes : ByteArray} {maxL n F Lc : Nat} {ret : Option FieldType} (L : LkS own idx y bytes maxL ret n) {As rest : List Value} {post : Nat → Hp → Prop} (hM : Cr l X y bytes maxL ret (rmk F Lc) As f post) (hst : st = As.reverse ++ rest) (hR : F + 1 ≤ R.frames ∧ 8 + (maxL + 11) + Lc ≤ R.locals) (hn : As.length = n) (hrs : (rest.map fun v => v.category).sum ≤ 8) (d : decode cc pc = .ok (.invokestatic idx, 3)) (hq : pc + 3 = q) (kk : ∀ (r : Nat) (g : Hp), post r g → V l X R C g q lv (.ref r :: rest)) : V l X R C f pc lv st := by
  obtain ⟨p, e, s, m, args, below, meth, c, nL, Q, kc, ks⟩ := C
  subst hq
  intro H locs ls hP hS hl
  have hts : ∀ w ∈ (Cond.static y :: tG), w.before args s = true := fun w hw => by
    rcases List.mem_cons.mp hw with rfl | h
    · exact hC.2.2.2.2.1 _ L.2.1
    · exact hC.2.2.2.2.1 w h
  refine va_callr (va_runS (As := As) (rest := rest) ⟨hC.1, hC.2.1, hC.2.2.1, hC.2.2.2.1, hts⟩ hM (va_cwS n hts (tg_S L) rfl rfl rfl L.2.2.2.2 hR) ⟨g_blind, fun U hU hW => ⟨rfl, hC.2.2.2.2.2.1.go hS hU hW, by rw [hU]; exact hP⟩⟩ rfl hn hl.1 hst (lv_room hrs) d ⟨hC.2.2.2.2.2.2.1, hC.2.2.2.2.2.2.2⟩) hS (fun _ _ h => h) (fun _ h => h) ?_
  exact (fun g r t H1 locs1 ht _ _ hB _ _ hS1 => kk r g hB.1 H1 locs1 ls (ht ▸ hB.2) hS1 hl)
theorem v_KI (hC : cOK X R C cc own) {idx : Nat} {y : MethodName} {bytes : ByteArray} {maxL n F Lc : Nat} {ret : Option FieldType} (L : LkV own idx y RJ0 bytes maxL ret n) {i : Nat} {As rest : List Value} {post : Int32 → Hp → Prop} (hM : Ci l X y bytes maxL ret (rmk F Lc) (.ref (gK X i) :: As) f post) (hst : st = As.reverse ++ .ref (gK X i) :: rest) (hR : F + 1 ≤ R.frames ∧ 8 + (maxL + 11) + Lc ≤ R.locals) (hi : i < 11) (hn : As.length = n) (hrs : (rest.map fun v => v.category).sum ≤ 8) (d : decode cc pc = .ok (.invokevirtual idx, 3)) (hq : pc + 3 = q) (kk : ∀ (r : Int32) (g : Hp), post r g → V l X R C g q lv (.int r :: rest)) : V l X R C f pc lv st := by
  obtain ⟨p, e, s, m, args, below, meth, c, nL, Q, kc, ks⟩ := C
  subst hq
  intro H locs ls hP hS hl
  have hts : ∀ w ∈ (Cond.initialized RJ0 :: tG), w.before args s = true := fun w hw => by
    rcases List.mem_cons.mp hw with rfl | h
    · exact hC.2.2.2.2.1 _ L.2.2.2.1
    · exact hC.2.2.2.2.1 w h
  refine va_calli (va_runV (As := As) (rest := rest) ⟨hC.1, hC.2.1, hC.2.2.1, hC.2.2.2.1, hts⟩ hM (cwV n hts (tg_V L) rfl rfl rfl L.2.2.2.2.2 hR) ⟨g_blind, vk_recv hC.2.2.2.2.2.1.2.2.2.2.2.1 hi hS, fun U hU hW => ⟨rfl, hC.2.2.2.2.2.1.go hS hU hW, by rw [hU]; exact hP⟩⟩ rfl hn hl.1 hst (lv_room hrs) d ⟨hC.2.2.2.2.2.2.1, hC.2.2.2.2.2.2.2⟩) hS (fun _ _ h => h) (fun _ h => h) ?_
  exact (fun r g t H1 locs1 ht _ hp hB _ _ hS1 => kk r g hp H1 locs1 ls (ht ▸ hB) hS1 hl)
end VR
theorem ct_i {l : Launch} {X : Gx} {y : MethodName} {cc : ByteArray} {maxL F Lc : Nat} {as : List Value} {f : Hp} {post : Int32 → Hp → Prop} {own : String} {lv : Lv} (hy : plainName y.cls = true) (ho : y.cls = own) (hsz : (lg_sl as).length ≤ maxL) (hsz2 : (lvE maxL as).length ≤ maxL) (hlv : lvE maxL as = lv)
    (body : ∀ C : Cx, cOK X (rmk F Lc) C cc own → (∀ (g : Hp) (r : Int32) (pc : Nat) (lv : Lv), post r g → decode cc pc = .ok (.ireturn, 1) → V l X (rmk F Lc) C g pc lv [.int r]) → V l X (rmk F Lc) C f 0 lv []) : Ci l X y cc maxL (some .int) (rmk F Lc) as f post := by
  refine Met.ofW (cc := cc) (maxL := maxL) (ret := (some .int)) hy rfl ?_
  intro p e s m args below meth c s₁ B hml hv
  obtain ⟨rfl, hZ, hP⟩ := hv
  have hx := B.exec
  have hb := B.bytes
  have hr := B.returns
  have hts := atoms_spec (ws := Cond.code y cc maxL (some .int) :: tG) B.pre
  have hown : s.vm.findClass own = some m.cls := ho ▸ findClass_of_methodNamed B.named
  have hl := hasL_entry as hsz hsz2
  rw [lg_entry_eq]
  refine body (p, e, s, m, as.toArray, below, meth, c, maxL, _, 0, 0) ⟨hx, hb, hml, hown, fun w hw => hts w (List.mem_cons_of_mem _ hw), hZ, Nat.zero_le _, Nat.zero_le _⟩ ?_ _ _ _ hP va_S.rf (hlv ▸ hl)
  exact fun g r pc lv hp hd H locs ls hP hS hl => W.iret hx hb hr (fun t ht hW => ⟨⟨r, g, rfl, hp, by subst ht; exact hP⟩, hS.F ht⟩) hS.2.2 hd B.notSynchronized
theorem ct_z {l : Launch} {X : Gx} {y : MethodName} {cc : ByteArray} {maxL F Lc : Nat} {as : List Value} {f : Hp} {post : Int32 → Hp → Prop} {own : String} {lv : Lv} (hy : plainName y.cls = true) (ho : y.cls = own) (hsz : (lg_sl as).length ≤ maxL) (hsz2 : (lvE maxL as).length ≤ maxL) (hlv : lvE maxL as = lv)
    (body : ∀ C : Cx, cOK X (rmk F Lc) C cc own → (∀ (g : Hp) (r : Int32) (pc : Nat) (lv : Lv), post r g → narrow .boolean (.int r) = .int r → decode cc pc = .ok (.ireturn, 1) → V l X (rmk F Lc) C g pc lv [.int r]) → V l X (rmk F Lc) C f 0 lv []) : Ci l X y cc maxL (some .boolean) (rmk F Lc) as f post := by
  refine Met.ofW (cc := cc) (maxL := maxL) (ret := (some .boolean)) hy rfl ?_
  intro p e s m args below meth c s₁ B hml hv
  obtain ⟨rfl, hZ, hP⟩ := hv
  have hx := B.exec
  have hb := B.bytes
  have hr := B.returns
  have hts := atoms_spec (ws := Cond.code y cc maxL (some .boolean) :: tG) B.pre
  have hown : s.vm.findClass own = some m.cls := ho ▸ findClass_of_methodNamed B.named
  have hl := hasL_entry as hsz hsz2
  rw [lg_entry_eq]
  refine body (p, e, s, m, as.toArray, below, meth, c, maxL, _, 0, 0) ⟨hx, hb, hml, hown, fun w hw => hts w (List.mem_cons_of_mem _ hw), hZ, Nat.zero_le _, Nat.zero_le _⟩ ?_ _ _ _ hP va_S.rf (hlv ▸ hl)
  exact fun g r pc lv hp hnr hd H locs ls hP hS hl => W.zret hx hb hr hnr (fun t ht hW => ⟨⟨r, g, rfl, hp, by subst ht; exact hP⟩, hS.F ht⟩) hS.2.2 hd B.notSynchronized
theorem ct_b {l : Launch} {X : Gx} {y : MethodName} {cc : ByteArray} {maxL F Lc : Nat} {as : List Value} {f : Hp} {post : Int32 → Hp → Prop} {own : String} {lv : Lv} (hy : plainName y.cls = true) (ho : y.cls = own) (hsz : (lg_sl as).length ≤ maxL) (hsz2 : (lvE maxL as).length ≤ maxL) (hlv : lvE maxL as = lv)
    (body : ∀ C : Cx, cOK X (rmk F Lc) C cc own → (∀ (g : Hp) (r : Int32) (pc : Nat) (lv : Lv), post r g → narrow .byte (.int r) = .int r → decode cc pc = .ok (.ireturn, 1) → V l X (rmk F Lc) C g pc lv [.int r]) → V l X (rmk F Lc) C f 0 lv []) : Ci l X y cc maxL (some .byte) (rmk F Lc) as f post := by
  refine Met.ofW (cc := cc) (maxL := maxL) (ret := (some .byte)) hy rfl ?_
  intro p e s m args below meth c s₁ B hml hv
  obtain ⟨rfl, hZ, hP⟩ := hv
  have hx := B.exec
  have hb := B.bytes
  have hr := B.returns
  have hts := atoms_spec (ws := Cond.code y cc maxL (some .byte) :: tG) B.pre
  have hown : s.vm.findClass own = some m.cls := ho ▸ findClass_of_methodNamed B.named
  have hl := hasL_entry as hsz hsz2
  rw [lg_entry_eq]
  refine body (p, e, s, m, as.toArray, below, meth, c, maxL, _, 0, 0) ⟨hx, hb, hml, hown, fun w hw => hts w (List.mem_cons_of_mem _ hw), hZ, Nat.zero_le _, Nat.zero_le _⟩ ?_ _ _ _ hP va_S.rf (hlv ▸ hl)
  exact fun g r pc lv hp hnr hd H locs ls hP hS hl => W.zret hx hb hr hnr (fun t ht hW => ⟨⟨r, g, rfl, hp, by subst ht; exact hP⟩, hS.F ht⟩) hS.2.2 hd B.notSynchronized
theorem ct_c {l : Launch} {X : Gx} {y : MethodName} {cc : ByteArray} {maxL F Lc : Nat} {as : List Value} {f : Hp} {post : Int32 → Hp → Prop} {own : String} {lv : Lv} (hy : plainName y.cls = true) (ho : y.cls = own) (hsz : (lg_sl as).length ≤ maxL) (hsz2 : (lvE maxL as).length ≤ maxL) (hlv : lvE maxL as = lv)
    (body : ∀ C : Cx, cOK X (rmk F Lc) C cc own → (∀ (g : Hp) (r : Int32) (pc : Nat) (lv : Lv), post r g → narrow .char (.int r) = .int r → decode cc pc = .ok (.ireturn, 1) → V l X (rmk F Lc) C g pc lv [.int r]) → V l X (rmk F Lc) C f 0 lv []) : Ci l X y cc maxL (some .char) (rmk F Lc) as f post := by
  refine Met.ofW (cc := cc) (maxL := maxL) (ret := (some .char)) hy rfl ?_
  intro p e s m args below meth c s₁ B hml hv
  obtain ⟨rfl, hZ, hP⟩ := hv
  have hx := B.exec
  have hb := B.bytes
  have hr := B.returns
  have hts := atoms_spec (ws := Cond.code y cc maxL (some .char) :: tG) B.pre
  have hown : s.vm.findClass own = some m.cls := ho ▸ findClass_of_methodNamed B.named
  have hl := hasL_entry as hsz hsz2
  rw [lg_entry_eq]
  refine body (p, e, s, m, as.toArray, below, meth, c, maxL, _, 0, 0) ⟨hx, hb, hml, hown, fun w hw => hts w (List.mem_cons_of_mem _ hw), hZ, Nat.zero_le _, Nat.zero_le _⟩ ?_ _ _ _ hP va_S.rf (hlv ▸ hl)
  exact fun g r pc lv hp hnr hd H locs ls hP hS hl => W.zret hx hb hr hnr (fun t ht hW => ⟨⟨r, g, rfl, hp, by subst ht; exact hP⟩, hS.F ht⟩) hS.2.2 hd B.notSynchronized
theorem ct_v {l : Launch} {X : Gx} {y : MethodName} {cc : ByteArray} {maxL F Lc : Nat} {as : List Value} {f : Hp} {post : Hp → Prop} {own : String} {lv : Lv} (hy : plainName y.cls = true) (ho : y.cls = own) (hsz : (lg_sl as).length ≤ maxL) (hsz2 : (lvE maxL as).length ≤ maxL) (hlv : lvE maxL as = lv)
    (body : ∀ C : Cx, cOK X (rmk F Lc) C cc own → (∀ (g : Hp) (pc : Nat) (lv : Lv), post g → decode cc pc = .ok (.return_, 1) → V l X (rmk F Lc) C g pc lv []) → V l X (rmk F Lc) C f 0 lv []) : Cv l X y cc maxL (none) (rmk F Lc) as f post := by
  refine Met.ofW (cc := cc) (maxL := maxL) (ret := (none)) hy rfl ?_
  intro p e s m args below meth c s₁ B hml hv
  obtain ⟨rfl, hZ, hP⟩ := hv
  have hx := B.exec
  have hb := B.bytes
  have hr := B.returns
  have hts := atoms_spec (ws := Cond.code y cc maxL (none) :: tG) B.pre
  have hown : s.vm.findClass own = some m.cls := ho ▸ findClass_of_methodNamed B.named
  have hl := hasL_entry as hsz hsz2
  rw [lg_entry_eq]
  refine body (p, e, s, m, as.toArray, below, meth, c, maxL, _, 0, 0) ⟨hx, hb, hml, hown, fun w hw => hts w (List.mem_cons_of_mem _ hw), hZ, Nat.zero_le _, Nat.zero_le _⟩ ?_ _ _ _ hP va_S.rf (hlv ▸ hl)
  exact fun g pc lv hp hd H locs ls hP hS hl => W.vret hx hb hr (fun t ht hW => ⟨⟨g, rfl, hp, by subst ht; exact hP⟩, hS.F ht⟩) hS.2.2 hd B.notSynchronized
theorem ct_l {l : Launch} {X : Gx} {y : MethodName} {cc : ByteArray} {maxL F Lc : Nat} {as : List Value} {f : Hp} {post : Int64 → Hp → Prop} {own : String} {lv : Lv} (hy : plainName y.cls = true) (ho : y.cls = own) (hsz : (lg_sl as).length ≤ maxL) (hsz2 : (lvE maxL as).length ≤ maxL) (hlv : lvE maxL as = lv)
    (body : ∀ C : Cx, cOK X (rmk F Lc) C cc own → (∀ (g : Hp) (r : Int64) (pc : Nat) (lv : Lv), post r g → decode cc pc = .ok (.lreturn, 1) → V l X (rmk F Lc) C g pc lv [.long r]) → V l X (rmk F Lc) C f 0 lv []) : Cl l X y cc maxL (some .long) (rmk F Lc) as f post := by
  refine Met.ofW (cc := cc) (maxL := maxL) (ret := (some .long)) hy rfl ?_
  intro p e s m args below meth c s₁ B hml hv
  obtain ⟨rfl, hZ, hP⟩ := hv
  have hx := B.exec
  have hb := B.bytes
  have hr := B.returns
  have hts := atoms_spec (ws := Cond.code y cc maxL (some .long) :: tG) B.pre
  have hown : s.vm.findClass own = some m.cls := ho ▸ findClass_of_methodNamed B.named
  have hl := hasL_entry as hsz hsz2
  rw [lg_entry_eq]
  refine body (p, e, s, m, as.toArray, below, meth, c, maxL, _, 0, 0) ⟨hx, hb, hml, hown, fun w hw => hts w (List.mem_cons_of_mem _ hw), hZ, Nat.zero_le _, Nat.zero_le _⟩ ?_ _ _ _ hP va_S.rf (hlv ▸ hl)
  exact fun g r pc lv hp hd H locs ls hP hS hl => W.lret hx hb hr (fun t ht hW => ⟨⟨r, g, rfl, hp, by subst ht; exact hP⟩, hS.F ht⟩) hS.2.2 hd B.notSynchronized
theorem ct_r {l : Launch} {X : Gx} {y : MethodName} {cc : ByteArray} {maxL F Lc : Nat} {nm : String} {as : List Value} {f : Hp} {post : Nat → Hp → Prop} {own : String} {lv : Lv} (hy : plainName y.cls = true) (ho : y.cls = own) (hsz : (lg_sl as).length ≤ maxL) (hsz2 : (lvE maxL as).length ≤ maxL) (hlv : lvE maxL as = lv)
    (body : ∀ C : Cx, cOK X (rmk F Lc) C cc own → (∀ (g : Hp) (r : Nat) (pc : Nat) (lv : Lv), post r g → decode cc pc = .ok (.areturn, 1) → V l X (rmk F Lc) C g pc lv [.ref r]) → V l X (rmk F Lc) C f 0 lv []) : Cr l X y cc maxL (some (.object nm)) (rmk F Lc) as f post := by
  refine Met.ofW (cc := cc) (maxL := maxL) (ret := (some (.object nm))) hy rfl ?_
  intro p e s m args below meth c s₁ B hml hv
  obtain ⟨rfl, hZ, hP⟩ := hv
  have hx := B.exec
  have hb := B.bytes
  have hr := B.returns
  have hts := atoms_spec (ws := Cond.code y cc maxL (some (.object nm)) :: tG) B.pre
  have hown : s.vm.findClass own = some m.cls := ho ▸ findClass_of_methodNamed B.named
  have hl := hasL_entry as hsz hsz2
  rw [lg_entry_eq]
  refine body (p, e, s, m, as.toArray, below, meth, c, maxL, _, 0, 0) ⟨hx, hb, hml, hown, fun w hw => hts w (List.mem_cons_of_mem _ hw), hZ, Nat.zero_le _, Nat.zero_le _⟩ ?_ _ _ _ hP va_S.rf (hlv ▸ hl)
  exact fun g r pc lv hp hd H locs ls hP hS hl => W.aret hx hb hr (Or.inl ⟨_, rfl⟩) (Or.inr ⟨r, rfl⟩) (fun t ht hW => ⟨⟨g, r, rfl, trivial, hp, by subst ht; exact hP⟩, hS.F ht⟩) hS.2.2 hd B.notSynchronized
end
section
theorem fl_X0_9 : FLk RX0 9 0 0 := ⟨_, _, _, rfl, inX0, by decide, wf_X0_9⟩
theorem nl_X5_69 : NLk RX5 69 0 0 := ⟨_, _, _, _, rfl, inX0, by decide, nwg_X5_69⟩
theorem fl_X0_15 : FLk RX0 15 0 1 := ⟨_, _, _, rfl, inX0, by decide, wf_X0_15⟩
theorem nl_X5_91 : NLk RX5 91 0 1 := ⟨_, _, _, _, rfl, inX0, by decide, nwg_X5_91⟩
theorem fl_X0_18 : FLk RX0 18 0 2 := ⟨_, _, _, rfl, inX0, by decide, wf_X0_18⟩
theorem nl_X4_77 : NLk RX4 77 0 2 := ⟨_, _, _, _, rfl, inX0, by decide, nwg_X4_77⟩
theorem nl_X5_98 : NLk RX5 98 0 2 := ⟨_, _, _, _, rfl, inX0, by decide, nwg_X5_98⟩
theorem nl_X1_40 : NLk RX1 40 0 2 := ⟨_, _, _, _, rfl, inX0, by decide, nwg_X1_40⟩
theorem fl_X0_21 : FLk RX0 21 0 3 := ⟨_, _, _, rfl, inX0, by decide, wf_X0_21⟩
theorem nl_X4_86 : NLk RX4 86 0 3 := ⟨_, _, _, _, rfl, inX0, by decide, nwg_X4_86⟩
theorem nl_X5_101 : NLk RX5 101 0 3 := ⟨_, _, _, _, rfl, inX0, by decide, nwg_X5_101⟩
theorem fl_X0_24 : FLk RX0 24 0 4 := ⟨_, _, _, rfl, inX0, by decide, wf_X0_24⟩
theorem nl_X4_95 : NLk RX4 95 0 4 := ⟨_, _, _, _, rfl, inX0, by decide, nwg_X4_95⟩
theorem nl_X1_49 : NLk RX1 49 0 4 := ⟨_, _, _, _, rfl, inX0, by decide, nwg_X1_49⟩
theorem fl_X0_27 : FLk RX0 27 0 5 := ⟨_, _, _, rfl, inX0, by decide, wf_X0_27⟩
theorem nl_X1_46 : NLk RX1 46 0 5 := ⟨_, _, _, _, rfl, inX0, by decide, nwg_X1_46⟩
theorem fl_X0_30 : FLk RX0 30 0 6 := ⟨_, _, _, rfl, inX0, by decide, wf_X0_30⟩
theorem nl_X5_108 : NLk RX5 108 0 6 := ⟨_, _, _, _, rfl, inX0, by decide, nwg_X5_108⟩
theorem fl_X0_33 : FLk RX0 33 0 7 := ⟨_, _, _, rfl, inX0, by decide, wf_X0_33⟩
theorem nl_X1_43 : NLk RX1 43 0 7 := ⟨_, _, _, _, rfl, inX0, by decide, nwg_X1_43⟩
theorem nl_X5_152 : NLk RX5 152 0 7 := ⟨_, _, _, _, rfl, inX0, by decide, nwg_X5_152⟩
theorem fl_X1_9 : FLk RX1 9 1 0 := ⟨_, _, _, rfl, inX1, by decide, wf_X1_9⟩
theorem nl_X5_128 : NLk RX5 128 1 0 := ⟨_, _, _, _, rfl, inX1, by decide, nwg_X5_128⟩
theorem fl_X1_15 : FLk RX1 15 1 1 := ⟨_, _, _, rfl, inX1, by decide, wf_X1_15⟩
theorem nl_X4_83 : NLk RX4 83 1 1 := ⟨_, _, _, _, rfl, inX1, by decide, nwg_X4_83⟩
theorem nl_X5_173 : NLk RX5 173 1 1 := ⟨_, _, _, _, rfl, inX1, by decide, nwg_X5_173⟩
theorem fl_X1_20 : FLk RX1 20 1 2 := ⟨_, _, _, rfl, inX1, by decide, wf_X1_20⟩
theorem nl_X5_76 : NLk RX5 76 1 2 := ⟨_, _, _, _, rfl, inX1, by decide, nwg_X5_76⟩
theorem nl_X4_88 : NLk RX4 88 1 2 := ⟨_, _, _, _, rfl, inX1, by decide, nwg_X4_88⟩
theorem fl_X1_24 : FLk RX1 24 1 3 := ⟨_, _, _, rfl, inX1, by decide, wf_X1_24⟩
theorem fl_X3_9 : FLk RX3 9 3 0 := ⟨_, _, _, rfl, inX3, by decide, wf_X3_9⟩
theorem fl_X3_15 : FLk RX3 15 3 1 := ⟨_, _, _, rfl, inX3, by decide, wf_X3_15⟩
theorem nl_X5_194 : NLk RX5 194 3 1 := ⟨_, _, _, _, rfl, inX3, by decide, nwg_X5_194⟩
theorem fl_X3_19 : FLk RX3 19 3 2 := ⟨_, _, _, rfl, inX3, by decide, wf_X3_19⟩
theorem fl_X3_22 : FLk RX3 22 3 3 := ⟨_, _, _, rfl, inX3, by decide, wf_X3_22⟩
theorem nl_X4_30 : NLk RX4 30 3 3 := ⟨_, _, _, _, rfl, inX3, by decide, nwg_X4_30⟩
theorem fl_X3_25 : FLk RX3 25 3 4 := ⟨_, _, _, rfl, inX3, by decide, wf_X3_25⟩
theorem fl_X2_9 : FLk RX2 9 2 0 := ⟨_, _, _, rfl, inX2, by decide, wf_X2_9⟩
theorem nl_X5_230 : NLk RX5 230 2 0 := ⟨_, _, _, _, rfl, inX2, by decide, nwg_X5_230⟩
theorem fl_X2_15 : FLk RX2 15 2 1 := ⟨_, _, _, rfl, inX2, by decide, wf_X2_15⟩
theorem nl_X5_213 : NLk RX5 213 2 1 := ⟨_, _, _, _, rfl, inX2, by decide, nwg_X5_213⟩
theorem fl_X2_18 : FLk RX2 18 2 2 := ⟨_, _, _, rfl, inX2, by decide, wf_X2_18⟩
theorem nl_X5_219 : NLk RX5 219 2 2 := ⟨_, _, _, _, rfl, inX2, by decide, nwg_X5_219⟩
theorem fl_X5_12 : FLk RX5 12 4 0 := ⟨_, _, _, rfl, inX5, by decide, wf_X5_12⟩
theorem fl_X5_16 : FLk RX5 16 4 1 := ⟨_, _, _, rfl, inX5, by decide, wf_X5_16⟩
theorem fl_X5_19 : FLk RX5 19 4 2 := ⟨_, _, _, rfl, inX5, by decide, wf_X5_19⟩
theorem fl_X5_25 : FLk RX5 25 4 3 := ⟨_, _, _, rfl, inX5, by decide, wf_X5_25⟩
theorem fl_X5_32 : FLk RX5 32 4 4 := ⟨_, _, _, rfl, inX5, by decide, wf_X5_32⟩
theorem fl_X5_38 : FLk RX5 38 4 5 := ⟨_, _, _, rfl, inX5, by decide, wf_X5_38⟩
theorem fl_X5_42 : FLk RX5 42 4 6 := ⟨_, _, _, rfl, inX5, by decide, wf_X5_42⟩
theorem fl_X5_46 : FLk RX5 46 4 7 := ⟨_, _, _, rfl, inX5, by decide, wf_X5_46⟩
theorem fl_X6_9 : FLk RX6 9 5 0 := ⟨_, _, _, rfl, inX6, by decide, wf_X6_9⟩
theorem fl_X6_13 : FLk RX6 13 5 1 := ⟨_, _, _, rfl, inX6, by decide, wf_X6_13⟩
theorem fl_X6_16 : FLk RX6 16 5 2 := ⟨_, _, _, rfl, inX6, by decide, wf_X6_16⟩
theorem fl_X6_224 : FLk RX6 224 5 3 := ⟨_, _, _, rfl, inX6, by decide, wf_X6_224⟩
theorem fl_X6_19 : FLk RX6 19 5 4 := ⟨_, _, _, rfl, inX6, by decide, wf_X6_19⟩
theorem fl_X6_22 : FLk RX6 22 5 5 := ⟨_, _, _, rfl, inX6, by decide, wf_X6_22⟩
theorem fl_X6_147 : FLk RX6 147 5 6 := ⟨_, _, _, rfl, inX6, by decide, wf_X6_147⟩
theorem fl_X6_170 : FLk RX6 170 5 7 := ⟨_, _, _, rfl, inX6, by decide, wf_X6_170⟩
theorem fl_X6_154 : FLk RX6 154 5 8 := ⟨_, _, _, rfl, inX6, by decide, wf_X6_154⟩
theorem fl_X6_157 : FLk RX6 157 5 9 := ⟨_, _, _, rfl, inX6, by decide, wf_X6_157⟩
theorem fl_X6_167 : FLk RX6 167 5 10 := ⟨_, _, _, rfl, inX6, by decide, wf_X6_167⟩
theorem fl_X6_176 : FLk RX6 176 5 11 := ⟨_, _, _, rfl, inX6, by decide, wf_X6_176⟩
theorem fl_X6_25 : FLk RX6 25 5 12 := ⟨_, _, _, rfl, inX6, by decide, wf_X6_25⟩
theorem fl_X6_28 : FLk RX6 28 5 13 := ⟨_, _, _, rfl, inX6, by decide, wf_X6_28⟩
theorem fl_X6_31 : FLk RX6 31 5 14 := ⟨_, _, _, rfl, inX6, by decide, wf_X6_31⟩
theorem pt_0_0 : PTy 0 0 .int := ⟨_, _, _, tyX0, rfl, tyX0_ok, nmX0, rfl, by decide +kernel⟩
theorem pt_0_1 : PTy 0 1 .int := ⟨_, _, _, tyX0, rfl, tyX0_ok, nmX0, rfl, by decide +kernel⟩
theorem pt_0_2 : PTy 0 2 .int := ⟨_, _, _, tyX0, rfl, tyX0_ok, nmX0, rfl, by decide +kernel⟩
theorem pt_0_3 : PTy 0 3 .int := ⟨_, _, _, tyX0, rfl, tyX0_ok, nmX0, rfl, by decide +kernel⟩
theorem pt_0_4 : PTy 0 4 .int := ⟨_, _, _, tyX0, rfl, tyX0_ok, nmX0, rfl, by decide +kernel⟩
theorem pt_0_5 : PTy 0 5 .int := ⟨_, _, _, tyX0, rfl, tyX0_ok, nmX0, rfl, by decide +kernel⟩
theorem pt_0_6 : PTy 0 6 .int := ⟨_, _, _, tyX0, rfl, tyX0_ok, nmX0, rfl, by decide +kernel⟩
theorem pt_0_7 : PTy 0 7 .int := ⟨_, _, _, tyX0, rfl, tyX0_ok, nmX0, rfl, by decide +kernel⟩
theorem pt_1_0 : PTy 1 0 .int := ⟨_, _, _, tyX1, rfl, tyX1_ok, nmX1, rfl, by decide +kernel⟩
theorem pt_1_1 : PTy 1 1 .int := ⟨_, _, _, tyX1, rfl, tyX1_ok, nmX1, rfl, by decide +kernel⟩
theorem pt_2_0 : PTy 2 0 .int := ⟨_, _, _, tyX2, rfl, tyX2_ok, nmX2, rfl, by decide +kernel⟩
theorem pt_2_1 : PTy 2 1 .int := ⟨_, _, _, tyX2, rfl, tyX2_ok, nmX2, rfl, by decide +kernel⟩
theorem pt_3_1 : PTy 3 1 .int := ⟨_, _, _, tyX3, rfl, tyX3_ok, nmX3, rfl, by decide +kernel⟩
theorem pt_3_2 : PTy 3 2 .int := ⟨_, _, _, tyX3, rfl, tyX3_ok, nmX3, rfl, by decide +kernel⟩
theorem pt_3_3 : PTy 3 3 .int := ⟨_, _, _, tyX3, rfl, tyX3_ok, nmX3, rfl, by decide +kernel⟩
theorem pt_3_4 : PTy 3 4 .int := ⟨_, _, _, tyX3, rfl, tyX3_ok, nmX3, rfl, by decide +kernel⟩
theorem pt_4_7 : PTy 4 7 .boolean := ⟨_, _, _, tyX5, rfl, tyX5_ok, nmX5, rfl, by decide +kernel⟩
theorem pt_5_3 : PTy 5 3 .boolean := ⟨_, _, _, tyX6, rfl, tyX6_ok, nmX6, rfl, by decide +kernel⟩
theorem pt_5_6 : PTy 5 6 .int := ⟨_, _, _, tyX6, rfl, tyX6_ok, nmX6, rfl, by decide +kernel⟩
theorem pt_5_7 : PTy 5 7 .int := ⟨_, _, _, tyX6, rfl, tyX6_ok, nmX6, rfl, by decide +kernel⟩
theorem pt_5_8 : PTy 5 8 .int := ⟨_, _, _, tyX6, rfl, tyX6_ok, nmX6, rfl, by decide +kernel⟩
theorem pt_5_9 : PTy 5 9 .int := ⟨_, _, _, tyX6, rfl, tyX6_ok, nmX6, rfl, by decide +kernel⟩
theorem pt_5_10 : PTy 5 10 .int := ⟨_, _, _, tyX6, rfl, tyX6_ok, nmX6, rfl, by decide +kernel⟩
theorem pt_5_11 : PTy 5 11 .boolean := ⟨_, _, _, tyX6, rfl, tyX6_ok, nmX6, rfl, by decide +kernel⟩
/-! ===== the cells ===== -/
/-- the model: ints 0 isKept 1 taped 2 token 3 begin 4 at 5 value 6 bad; row m; rows 1 kept 2 was 3 found 4 tape 5 bitsOf 6 sizeOf; cells -/
abbrev MS : Type := (Nat → Int32) × (Nat → Int32) × (Nat → Nat → Int32) × (Nat → Int64)
def mfl (X : Gx) (i : Nat → Int32) : List Value := [.ref (ga X 48), .ref (ga X 49), .ref (ga X 50), .int (i 0), .ref (ga X 51), .ref (ga X 52), .int (i 1), .int (i 2), .int (i 3), .int (i 4), .int (i 5), .int (i 6), .ref (ga X 53), .ref (ga X 54), .ref (ga X 55)]
def mrow (X : Gx) (n : Nat) (g : Nat → Int32) : va_E := .inl (gc X 0, n, .inl g)
def mcell (X : Gx) (i m : Nat → Int32) (r : Nat → Nat → Int32) (c : Nat → Int64) (k : Nat) : va_E :=
  if k = 47 then .inr (5, mfl X i) else if k = 48 then mrow X 58 m else if k = 49 then mrow X 58 (r 1) else if k = 50 then mrow X 58 (r 2) else if k = 51 then mrow X 7 (r 3)
  else if k = 52 then mrow X 120 (r 4) else if k = 53 then mrow X 4 (r 5) else if k = 54 then mrow X 4 (r 6) else if k = 55 then .inl (gc X 1, 160, .inr (.inl c)) else .inr (0, [])
def oneC (o : Nat → Int32) : va_E := .inr (0, [.int (o 0), .int (o 1), .int (o 2), .int (o 3), .int (o 4), .int (o 5), .int (o 6), .int (o 7)])
/-- the class: quays b (0 here 1 kept 2 trial): q b 0 day, q b 1 count; on b k: one (on 2 8: trialOne); sb b: seenBy; tp: tape's ints 0 length 1 token 2 start 3 end; by: bytes; sh s 0 bits, sh s 1 size; nu s: numbers; fo: found; kp: isKept -/
abbrev CS : Type := (Nat → Nat → Int32) × (Nat → Nat → Nat → Int32) × (Nat → Nat → Int32) × (Nat → Int32) × (Nat → Int32) × (Nat → Nat → Int32) × (Nat → Nat → Int64) × (Nat → Int32) × Int32
def quayC (X : Gx) (b : Nat) (q : Nat → Int32) : va_E := .inr (1, [.int (q 0), .int (q 1), .ref (ga X (2 + 11 * b)), .ref (ga X (3 + 11 * b))])
def pplC (X : Gx) (b : Nat) : va_E := .inl (gc X 2, 8, .inr (.inr (.inr (.inr (fun j => some (ga X (4 + 11 * b + j)))))))
def glaC (X : Gx) (kp : Int32) : va_E := .inr (4, [.ref (ga X 1), .ref (ga X 12), .ref (ga X 23), .ref (ga X 34), .ref (ga X 35), .ref (ga X 37), .ref (ga X 46), .int kp])
def tapC (X : Gx) (tp : Nat → Int32) : va_E := .inr (3, [.ref (ga X 36), .int (tp 0), .int (tp 1), .int (tp 2), .int (tp 3)])
def shsC (X : Gx) : va_E := .inl (gc X 3, 4, .inr (.inr (.inr (.inr (fun j => some (ga X (38 + 2 * j)))))))
def sheC (X : Gx) (s : Nat) (sh : Nat → Int32) : va_E := .inr (2, [.int (sh 0), .int (sh 1), .ref (ga X (39 + 2 * s))])
def numC (X : Gx) (g : Nat → Int64) : va_E := .inl (gc X 1, 40, .inr (.inl g))
def ccell (X : Gx) (q : Nat → Nat → Int32) (on : Nat → Nat → Nat → Int32) (sb : Nat → Nat → Int32) (tp by_ : Nat → Int32) (sh : Nat → Nat → Int32) (nu : Nat → Nat → Int64) (fo : Nat → Int32) (kp : Int32) (k : Nat) : va_E :=
  if k = 0 then glaC X kp else if k < 34 then (if (k - 1) % 11 = 0 then quayC X ((k - 1) / 11) (q ((k - 1) / 11)) else if (k - 1) % 11 = 1 then pplC X ((k - 1) / 11) else if (k - 1) % 11 = 2 then mrow X 8 (sb ((k - 1) / 11)) else oneC (on ((k - 1) / 11) ((k - 1) % 11 - 3)))
  else if k = 34 then oneC (on 2 8) else if k = 35 then tapC X tp else if k = 36 then mrow X 120 by_ else if k = 37 then shsC X
  else if k < 46 then (if k % 2 = 0 then sheC X ((k - 38) / 2) (sh ((k - 38) / 2)) else numC X (nu ((k - 38) / 2))) else mrow X 7 fo
def hp (X : Gx) (S : CS) (M : MS) : Hp := fun k => if k < 47 then ccell X S.1 S.2.1 S.2.2.1 S.2.2.2.1 S.2.2.2.2.1 S.2.2.2.2.2.1 S.2.2.2.2.2.2.1 S.2.2.2.2.2.2.2.1 S.2.2.2.2.2.2.2.2 k else mcell X M.1 M.2.1 M.2.2.1 M.2.2.2 k
section HP
variable {X : Gx} {S : CS} {i m : Nat → Int32} {r : Nat → Nat → Int32} {c : Nat → Int64}
theorem hp_47 : hp X S (i, m, r, c) 47 = .inr (5, mfl X i) := rfl
theorem hp_48 : hp X S (i, m, r, c) 48 = .inl (gc X 0, 58, .inl m) := rfl
theorem hp_49 : hp X S (i, m, r, c) 49 = .inl (gc X 0, 58, .inl (r 1)) := rfl
theorem hp_50 : hp X S (i, m, r, c) 50 = .inl (gc X 0, 58, .inl (r 2)) := rfl
theorem hp_51 : hp X S (i, m, r, c) 51 = .inl (gc X 0, 7, .inl (r 3)) := rfl
theorem hp_52 : hp X S (i, m, r, c) 52 = .inl (gc X 0, 120, .inl (r 4)) := rfl
theorem hp_53 : hp X S (i, m, r, c) 53 = .inl (gc X 0, 4, .inl (r 5)) := rfl
theorem hp_54 : hp X S (i, m, r, c) 54 = .inl (gc X 0, 4, .inl (r 6)) := rfl
theorem hp_55 : hp X S (i, m, r, c) 55 = .inl (gc X 1, 160, .inr (.inl c)) := rfl
theorem hpi_0 (v : Int32) : va_up (hp X S (i, m, r, c)) 47 (.inr (5, (mfl X i).set 3 (.int v))) = hp X S (va_up i 0 v, m, r, c) := by
  funext k
  by_cases h : k = 47
  · subst h
    rfl
  · simp only [va_up_ne _ _ h, hp, mcell, if_neg h]
theorem hpi_1 (v : Int32) : va_up (hp X S (i, m, r, c)) 47 (.inr (5, (mfl X i).set 6 (.int v))) = hp X S (va_up i 1 v, m, r, c) := by
  funext k
  by_cases h : k = 47
  · subst h
    rfl
  · simp only [va_up_ne _ _ h, hp, mcell, if_neg h]
theorem hpi_2 (v : Int32) : va_up (hp X S (i, m, r, c)) 47 (.inr (5, (mfl X i).set 7 (.int v))) = hp X S (va_up i 2 v, m, r, c) := by
  funext k
  by_cases h : k = 47
  · subst h
    rfl
  · simp only [va_up_ne _ _ h, hp, mcell, if_neg h]
theorem hpi_3 (v : Int32) : va_up (hp X S (i, m, r, c)) 47 (.inr (5, (mfl X i).set 8 (.int v))) = hp X S (va_up i 3 v, m, r, c) := by
  funext k
  by_cases h : k = 47
  · subst h
    rfl
  · simp only [va_up_ne _ _ h, hp, mcell, if_neg h]
theorem hpi_4 (v : Int32) : va_up (hp X S (i, m, r, c)) 47 (.inr (5, (mfl X i).set 9 (.int v))) = hp X S (va_up i 4 v, m, r, c) := by
  funext k
  by_cases h : k = 47
  · subst h
    rfl
  · simp only [va_up_ne _ _ h, hp, mcell, if_neg h]
theorem hpi_5 (v : Int32) : va_up (hp X S (i, m, r, c)) 47 (.inr (5, (mfl X i).set 10 (.int v))) = hp X S (va_up i 5 v, m, r, c) := by
  funext k
  by_cases h : k = 47
  · subst h
    rfl
  · simp only [va_up_ne _ _ h, hp, mcell, if_neg h]
theorem hpi_6 (v : Int32) : va_up (hp X S (i, m, r, c)) 47 (.inr (5, (mfl X i).set 11 (.int v))) = hp X S (va_up i 6 v, m, r, c) := by
  funext k
  by_cases h : k = 47
  · subst h
    rfl
  · simp only [va_up_ne _ _ h, hp, mcell, if_neg h]
theorem hpr_0 (g : Nat → Int32) : va_up (hp X S (i, m, r, c)) 48 (.inl (gc X 0, 58, .inl g)) = hp X S (i, g, r, c) := by
  funext k
  by_cases h : k = 48
  · subst h
    rfl
  · simp only [va_up_ne _ _ h, hp, mcell, mrow, if_neg h]
theorem hpr_1 (g : Nat → Int32) : va_up (hp X S (i, m, r, c)) 49 (.inl (gc X 0, 58, .inl g)) = hp X S (i, m, va_up r 1 g, c) := by
  funext k
  by_cases h : k = 49
  · subst h
    rfl
  · simp only [va_up_ne _ _ h, hp, mcell, mrow, if_neg h]
    simp [va_up]
theorem hpr_2 (g : Nat → Int32) : va_up (hp X S (i, m, r, c)) 50 (.inl (gc X 0, 58, .inl g)) = hp X S (i, m, va_up r 2 g, c) := by
  funext k
  by_cases h : k = 50
  · subst h
    rfl
  · simp only [va_up_ne _ _ h, hp, mcell, mrow, if_neg h]
    simp [va_up]
theorem hpr_3 (g : Nat → Int32) : va_up (hp X S (i, m, r, c)) 51 (.inl (gc X 0, 7, .inl g)) = hp X S (i, m, va_up r 3 g, c) := by
  funext k
  by_cases h : k = 51
  · subst h
    rfl
  · simp only [va_up_ne _ _ h, hp, mcell, mrow, if_neg h]
    simp [va_up]
theorem hpr_4 (g : Nat → Int32) : va_up (hp X S (i, m, r, c)) 52 (.inl (gc X 0, 120, .inl g)) = hp X S (i, m, va_up r 4 g, c) := by
  funext k
  by_cases h : k = 52
  · subst h
    rfl
  · simp only [va_up_ne _ _ h, hp, mcell, mrow, if_neg h]
    simp [va_up]
theorem hpr_5 (g : Nat → Int32) : va_up (hp X S (i, m, r, c)) 53 (.inl (gc X 0, 4, .inl g)) = hp X S (i, m, va_up r 5 g, c) := by
  funext k
  by_cases h : k = 53
  · subst h
    rfl
  · simp only [va_up_ne _ _ h, hp, mcell, mrow, if_neg h]
    simp [va_up]
theorem hpr_6 (g : Nat → Int32) : va_up (hp X S (i, m, r, c)) 54 (.inl (gc X 0, 4, .inl g)) = hp X S (i, m, va_up r 6 g, c) := by
  funext k
  by_cases h : k = 54
  · subst h
    rfl
  · simp only [va_up_ne _ _ h, hp, mcell, mrow, if_neg h]
    simp [va_up]
theorem hpc (g : Nat → Int64) : va_up (hp X S (i, m, r, c)) 55 (.inl (gc X 1, 160, .inr (.inl g))) = hp X S (i, m, r, g) := by
  funext k
  by_cases h : k = 55
  · subst h
    rfl
  · by_cases h2 : k < 47
    · simp only [va_up_ne _ _ h, hp, if_pos h2]
    · simp only [va_up_ne _ _ h, hp, if_neg h2, mcell, if_neg h]
end HP
end
section
/-! ===== what both sides compute: a person's vector v: 0 kind 1 grudge 2 at 3 up 4 shows 5 power 6 worn; k its number ===== -/
theorem vp_l {i : Int32} {n : Nat} (h : ¬ (i < 0 ∨ n ≤ i.toNatClampNeg)) : vp_in i n := h
theorem fa_lt (a b : Int32) : a < b ↔ a.toInt < b.toInt := Int32.lt_iff_toInt_lt
theorem fa_le (a b : Int32) : a ≤ b ↔ a.toInt ≤ b.toInt := Int32.le_iff_toInt_le
theorem fa_eq (a b : Int32) : a = b ↔ a.toInt = b.toInt := Int32.toInt_inj.symm
theorem fa_lt64 (a b : Int64) : a < b ↔ a.toInt < b.toInt := Int64.lt_iff_toInt_lt
theorem fa_le64 (a b : Int64) : a ≤ b ↔ a.toInt ≤ b.toInt := Int64.le_iff_toInt_le
theorem fa_wide_le (a b : Int32) : a.toInt64 ≤ b.toInt64 ↔ a ≤ b := by rw [fa_le64, fa_le, Int32.toInt_toInt64, Int32.toInt_toInt64]
theorem fa_wide_lt (a b : Int32) : a.toInt64 < b.toInt64 ↔ a < b := by rw [fa_lt64, fa_lt, Int32.toInt_toInt64, Int32.toInt_toInt64]
def held (v a b : Int32) : Int32 := if v < a then a else if b < v then b else v
def plainF (v : Nat → Int32) (o : Int32) : Int32 := if o = v 4 then held (v 5 - v 6) 0 99 else v 6 / 2
def broF (k : Int32) (v : Nat → Int32) (o : Int32) : Int32 := plainF v o + (if o = k + 1 then 5 else 0)
def briF (k : Int32) (v : Nat → Int32) (o : Int32) : Int32 := if o < k then 2 * plainF v o else plainF v o
def lookF (k : Int32) (v : Nat → Int32) (o : Int32) : Int32 := if v 3 = 1 then 50 else if v 0 = 1 then broF k v o else if v 0 = 2 then briF k v o else if v 0 = 3 then 10 else if v 0 = 4 then broF k v o + (if k = o + 1 then 5 else 0) else if v 0 = 5 then (if briF k v o < 5 then 5 else briF k v o) else plainF v o
def sightF (k : Int32) (v : Nat → Int32) : Int32 := if v 2 < 0 then 0 else lookF k v (v 2)
def easeP (k : Int32) (v : Nat → Int32) : Int32 := if sightF k v < 30 then 1 else 0
def easeF (k : Int32) (v : Nat → Int32) : Int32 := if v 0 = 1 then (if 50 < v 1 then 0 else easeP k v) else if v 0 = 2 then 2 * easeP k v else if v 0 = 3 then 3 else if v 0 = 4 then (if 50 < v 1 then 0 else easeP k v) else if v 0 = 5 then 2 * easeP k v + v 3 else easeP k v
def growP (s : Int32) : Int32 := if s < 60 then 0 else 1
def growB (s : Int32) : Int32 := growP s + (if s < 80 then 0 else 1)
def growF (k : Int32) (v : Nat → Int32) : Int32 := if v 0 = 1 then growB (sightF k v) else if v 0 = 3 then 0 else if v 0 = 4 then 2 * growB (sightF k v) else growP (sightF k v)
def grindF (v : Nat → Int32) : Int32 := held (if v 0 = 1 then v 1 + 10 else if v 0 = 2 then v 1 / 2 else if v 0 = 3 then 0 else if v 0 = 4 then v 1 + 20 else if v 0 = 5 then v 1 / 2 + 20 else v 1) 0 99
def dayG (k : Int32) (v : Nat → Int32) : Int32 := held (v 1 + growF k v - easeF k v) 0 99
def dayW (k : Int32) (v : Nat → Int32) : Int32 := held (v 6 + (if v 3 = 0 ∧ dayG k v < v 5 then 1 else 0)) 0 99
def dayF (k : Int32) (v : Nat → Int32) : Nat → Int32 := upd (upd v 1 (dayG k v)) 6 (dayW k v)
/-- the model's row m: person p's vector -/
def pv (m : Nat → Int32) (p : Nat) : Nat → Int32 := fun j => m (2 + 7 * p + j)
def pu (m : Nat → Int32) (p w : Nat) (v : Int32) : Nat → Int32 := upd m (2 + 7 * p + w) v
theorem pv_pu {m : Nat → Int32} {p w : Nat} {v : Int32} : pv (pu m p w v) p = upd (pv m p) w v := by
  funext j
  simp only [pv, pu, upd]
  by_cases h : j = w
  · simp [h]
  · rw [if_neg (by omega), if_neg h]
theorem pv_ne {m : Nat → Int32} {p p' w : Nat} {v : Int32} (hw : w < 7) (h : p ≠ p') {j : Nat} (hj : j < 7) : pv (pu m p w v) p' j = pv m p' j := by
  simp only [pv, pu, upd]
  rw [if_neg (by omega)]
theorem pu_1 {m : Nat → Int32} {p w : Nat} {v : Int32} : pu m p w v 1 = m 1 := by
  simp only [pu, upd]
  rw [if_neg (by omega)]
theorem pu_0 {m : Nat → Int32} {p w : Nat} {v : Int32} : pu m p w v 0 = m 0 := by
  simp only [pu, upd]
  rw [if_neg (by omega)]
/-- loops that count up -/
theorem v_up {Pr : Nat → Prop} (n : Nat) (h0 : Pr n) (hs : ∀ j, j < n → Pr (j + 1) → Pr j) : ∀ j, j ≤ n → Pr j := by
  have key : ∀ d j, j + d = n → Pr j := by
    intro d
    induction d with
    | zero => intro j h; have : j = n := by omega
              subst this; exact h0
    | succ d ih => intro j h; exact hs j (by omega) (ih (j + 1) (by omega))
  intro j hj
  exact key (n - j) j (by omega)
theorem v_em {l : Launch} {X : Gx} {R : Room} {C : Cx} {f : Hp} {pc : Nat} {lv : Lv} {st : List Value} {x : Int32} (c : Int32) (h1 : x = c → V l X R C f pc lv (.int c :: st)) (h2 : ¬ x = c → V l X R C f pc lv (.int x :: st)) : V l X R C f pc lv (.int x :: st) := by
  by_cases h : x = c
  · have := h1 h; rw [← h] at this; exact this
  · exact h2 h
/-- rows that agree as far as they are long -/
def cEq (a b : va_E) : Prop := a = b ∨ (∃ (cA : ClassId) (n : Nat) (g h : Nat → Int32), a = .inl (cA, n, .inl g) ∧ b = .inl (cA, n, .inl h) ∧ ∀ j, j < n → g j = h j) ∨ (∃ (cA : ClassId) (n : Nat) (g h : Nat → Int64), a = .inl (cA, n, .inr (.inl g)) ∧ b = .inl (cA, n, .inr (.inl h)) ∧ ∀ j, j < n → g j = h j)
theorem arrV_congr {cA : ClassId} {n : Nat} {g h : Nat → Value} (e : ∀ j, j < n → g j = h j) : arrV cA n g = arrV cA n h := by
  have : (List.range n).map g = (List.range n).map h := List.map_congr_left (fun j hj => e j (List.mem_range.mp hj))
  unfold arrV
  first
    | (simp only [this]; done)
    | (congr 1; apply Array.ext <;> simp_all)
theorem v_cong {l : Launch} {X : Gx} {R : Room} {C : Cx} {f g : Hp} {pc : Nat} {lv : Lv} {st : List Value} (h : ∀ k, k < 56 → cEq (f k) (g k)) (k : V l X R C g pc lv st) : V l X R C f pc lv st := by
  obtain ⟨p, e, s, m, args, below, meth, c, nL, Q, kc, ks⟩ := C
  intro H locs ls hP hS hl
  refine k H locs ls ?_ hS hl
  intro j q hj
  have lj := (List.getElem?_eq_some_iff.mp hj).1
  rw [gw_len] at lj
  rw [gw_at lj] at hj
  cases hj
  have hp := hP j _ (gw_at lj)
  rcases h j lj with e | ⟨cA, n, g1, h1, e1, e2, e3⟩ | ⟨cA, n, g1, h1, e1, e2, e3⟩
  · rw [← e]; exact hp
  · rw [e1] at hp
    rw [e2]
    have e4 : vp_cell cA (n, .inl g1) = vp_cell cA (n, .inl h1) := by
      rw [vp_cell_i, vp_cell_i]
      exact arrV_congr (fun j hj => by rw [e3 j hj])
    show H[ga X j]? = some (vp_cell cA (n, .inl h1))
    rw [← e4]
    exact hp
  · rw [e1] at hp
    rw [e2]
    have e4 : vp_cell cA (n, .inr (.inl g1)) = vp_cell cA (n, .inr (.inl h1)) := by
      rw [vp_cell_l, vp_cell_l]
      exact arrV_congr (fun j hj => by rw [e3 j hj])
    show H[ga X j]? = some (vp_cell cA (n, .inr (.inl h1)))
    rw [← e4]
    exact hp
end
section
/-! ===== numbers ===== -/
theorem sw_out_1_5 {x : Int32} (h1 : ¬ x = 1) (h2 : ¬ x = 2) (h3 : ¬ x = 3) (h4 : ¬ x = 4) (h5 : ¬ x = 5) : x.toInt < 1 ∨ 5 < x.toInt := by
  have g1 : ¬ x.toInt = 1 := fun e => h1 (Int32.toInt_inj.mp e)
  have g2 : ¬ x.toInt = 2 := fun e => h2 (Int32.toInt_inj.mp e)
  have g3 : ¬ x.toInt = 3 := fun e => h3 (Int32.toInt_inj.mp e)
  have g4 : ¬ x.toInt = 4 := fun e => h4 (Int32.toInt_inj.mp e)
  have g5 : ¬ x.toInt = 5 := fun e => h5 (Int32.toInt_inj.mp e)
  omega
theorem sw_out_1_4 {x : Int32} (h1 : ¬ x = 1) (h2 : ¬ x = 2) (h3 : ¬ x = 3) (h4 : ¬ x = 4) : x.toInt < 1 ∨ 4 < x.toInt := by
  have g1 : ¬ x.toInt = 1 := fun e => h1 (Int32.toInt_inj.mp e)
  have g2 : ¬ x.toInt = 2 := fun e => h2 (Int32.toInt_inj.mp e)
  have g3 : ¬ x.toInt = 3 := fun e => h3 (Int32.toInt_inj.mp e)
  have g4 : ¬ x.toInt = 4 := fun e => h4 (Int32.toInt_inj.mp e)
  omega
theorem sw_out_0_4 {x : Int32} (h0 : ¬ x = 0) (h1 : ¬ x = 1) (h2 : ¬ x = 2) (h3 : ¬ x = 3) (h4 : ¬ x = 4) : x.toInt < 0 ∨ 4 < x.toInt := by
  have g0 : ¬ x.toInt = 0 := fun e => h0 (Int32.toInt_inj.mp e)
  have g1 : ¬ x.toInt = 1 := fun e => h1 (Int32.toInt_inj.mp e)
  have g2 : ¬ x.toInt = 2 := fun e => h2 (Int32.toInt_inj.mp e)
  have g3 : ¬ x.toInt = 3 := fun e => h3 (Int32.toInt_inj.mp e)
  have g4 : ¬ x.toInt = 4 := fun e => h4 (Int32.toInt_inj.mp e)
  omega
theorem sw_out_0_3 {x : Int32} (h0 : ¬ x = 0) (h1 : ¬ x = 1) (h2 : ¬ x = 2) (h3 : ¬ x = 3) : x.toInt < 0 ∨ 3 < x.toInt := by
  have g0 : ¬ x.toInt = 0 := fun e => h0 (Int32.toInt_inj.mp e)
  have g1 : ¬ x.toInt = 1 := fun e => h1 (Int32.toInt_inj.mp e)
  have g2 : ¬ x.toInt = 2 := fun e => h2 (Int32.toInt_inj.mp e)
  have g3 : ¬ x.toInt = 3 := fun e => h3 (Int32.toInt_inj.mp e)
  omega
theorem ix_it : ∀ p : Fin 8, ∀ w : Fin 7, vp_in (2 + 7 * nI p.val + nI w.val) 58 ∧ (2 + 7 * nI p.val + nI w.val).toNatClampNeg = 2 + 7 * p.val + w.val := by
  have key : ∀ p : Fin 8, ∀ w : Fin 7, (¬ ((2 + 7 * nI p.val + nI w.val) < 0 ∨ 58 ≤ (2 + 7 * nI p.val + nI w.val).toNatClampNeg)) ∧ (2 + 7 * nI p.val + nI w.val).toNatClampNeg = 2 + 7 * p.val + w.val := by decide +kernel
  exact key
theorem ix_in {p w : Nat} (h1 : p < 8) (h2 : w < 7) : vp_in (2 + 7 * nI p + nI w) 58 := (ix_it ⟨p, h1⟩ ⟨w, h2⟩).1
theorem ix_at {p w : Nat} (h1 : p < 8) (h2 : w < 7) : (2 + 7 * nI p + nI w).toNatClampNeg = 2 + 7 * p + w := (ix_it ⟨p, h1⟩ ⟨w, h2⟩).2
theorem f_in : ∀ n : Fin 7, (¬ ((-1000000001 - (-1000000001 - nI n.val)) < 0 ∨ 7 ≤ (-1000000001 - (-1000000001 - nI n.val)).toNatClampNeg)) ∧ (-1000000001 - (-1000000001 - nI n.val)).toNatClampNeg = n.val := by decide +kernel
/-- a finding n (0 BEYOND .. 6 SIZE): its number; the model's state with one more of it -/
def fnd (n : Nat) : Int32 := -1000000001 - nI n
theorem f_i {n : Nat} (h : n < 7) : vp_in (-1000000001 - fnd n) 7 := (f_in ⟨n, h⟩).1
theorem f_a {n : Nat} (h : n < 7) : (-1000000001 - fnd n).toNatClampNeg = n := (f_in ⟨n, h⟩).2
def fR (r : Nat → Nat → Int32) (n : Nat) : Nat → Nat → Int32 := va_up r 3 (upd (r 3) n (r 3 n + 1))
theorem n8 : ∀ n : Fin 9, (nI n.val - 1).toInt = (n.val : Int) - 1 := by decide +kernel
theorem isP_iff {n : Nat} (h8 : n ≤ 8) {p : Int32} : (0 ≤ p ∧ p ≤ nI n - 1) ↔ ∃ P, P < n ∧ p = nI P := by
  rw [fa_le, fa_le, show (nI n - 1).toInt = (n : Int) - 1 from n8 ⟨n, by omega⟩]
  constructor
  · rintro ⟨h1, h2⟩
    have h1' : 0 ≤ p.toInt := h1
    refine ⟨p.toInt.toNat, by omega, Int32.toInt_inj.mp ?_⟩
    rw [nI_toInt (by omega)]
    omega
  · rintro ⟨P, h1, rfl⟩
    rw [nI_toInt (by omega)]
    constructor
    · show (0 : Int) ≤ _; omega
    · omega
theorem nI_ge' {n j : Nat} (h : j < n) (h8 : n < 2147483648) : ¬ nI n ≤ nI j := nI_ge h h8

set_option maxHeartbeats 4000000 in
set_option maxRecDepth 100000 in
theorem c_X6_inL {l : Launch} {X : Gx} {f : Hp} {v : Int64} {a b : Int32} : Ci l X yX6_in cX6_in 4 (some .boolean) (rmk 0 0) [.long v, .int a, .int b] (f) (fun z g => ((a.toInt64 ≤ v ∧ v ≤ b.toInt64) ∧ z = 1 ∨ ¬ (a.toInt64 ≤ v ∧ v ≤ b.toInt64) ∧ z = 0) ∧ g = f) := by
  refine ct_z (own := RX6) (lv := [some (.long v), none, some (.int a), some (.int b)]) (by decide) rfl (Nat.le_of_ble_eq_true rfl) (Nat.le_of_ble_eq_true rfl) rfl (fun C hC hR => ?_)
  refine v_lload_n hC rfl dX6_in_0 (q := 1) rfl ?_
  refine v_iload_n hC rfl dX6_in_1 (q := 2) rfl ?_
  refine v_i2l hC dX6_in_2 (q := 3) rfl ?_
  refine v_lcmp hC dX6_in_3 (q := 4) rfl ?_
  refine v_if_lt hC dX6_in_4 (t := 18) rfl (q := 7) rfl (fun h4 => ?_) (fun h4 => ?_)
  · refine v_iconst hC (v := 0) rfl dX6_in_18 (q := 19) rfl ?_
    refine hR _ _ _ _ ?_ (by first | rfl | decide | assumption) dX6_in_19
    first | exact ⟨Or.inr ⟨fun z => Int64.not_lt.mpr z.1 ((lg_cmp_lt _ _).mp h4), rfl⟩, rfl⟩ | exact ⟨Or.inr ⟨fun z => Int64.not_lt.mpr z.2 ((lg_cmp_gt _ _).mp h11), rfl⟩, rfl⟩
  · refine v_lload_n hC rfl dX6_in_7 (q := 8) rfl ?_
    refine v_iload_n hC rfl dX6_in_8 (q := 9) rfl ?_
    refine v_i2l hC dX6_in_9 (q := 10) rfl ?_
    refine v_lcmp hC dX6_in_10 (q := 11) rfl ?_
    refine v_if_gt hC dX6_in_11 (t := 18) rfl (q := 14) rfl (fun h11 => ?_) (fun h11 => ?_)
    · refine v_iconst hC (v := 0) rfl dX6_in_18 (q := 19) rfl ?_
      refine hR _ _ _ _ ?_ (by first | rfl | decide | assumption) dX6_in_19
      first | exact ⟨Or.inr ⟨fun z => Int64.not_lt.mpr z.1 ((lg_cmp_lt _ _).mp h4), rfl⟩, rfl⟩ | exact ⟨Or.inr ⟨fun z => Int64.not_lt.mpr z.2 ((lg_cmp_gt _ _).mp h11), rfl⟩, rfl⟩
    · refine v_iconst hC (v := 1) rfl dX6_in_14 (q := 15) rfl ?_
      refine v_goto hC dX6_in_15 (t := 19) rfl ?_
      refine hR _ _ _ _ ?_ (by first | rfl | decide | assumption) dX6_in_19
      exact ⟨Or.inl ⟨⟨Int64.not_lt.mp (fun z => h4 ((lg_cmp_lt _ _).mpr z)), Int64.not_lt.mp (fun z => h11 ((lg_cmp_gt _ _).mpr z))⟩, rfl⟩, rfl⟩

set_option maxHeartbeats 4000000 in
set_option maxRecDepth 100000 in
theorem c_X6_in {l : Launch} {X : Gx} {f : Hp} {v a b : Int32} : Ci l X yX6_in cX6_in 4 (some .boolean) (rmk 0 0) [.long v.toInt64, .int a, .int b] (f) (fun z g => ((a ≤ v ∧ v ≤ b) ∧ z = 1 ∨ ¬ (a ≤ v ∧ v ≤ b) ∧ z = 0) ∧ g = f) := by
  refine ct_z (own := RX6) (lv := [some (.long v.toInt64), none, some (.int a), some (.int b)]) (by decide) rfl (Nat.le_of_ble_eq_true rfl) (Nat.le_of_ble_eq_true rfl) rfl (fun C hC hR => ?_)
  refine v_lload_n hC rfl dX6_in_0 (q := 1) rfl ?_
  refine v_iload_n hC rfl dX6_in_1 (q := 2) rfl ?_
  refine v_i2l hC dX6_in_2 (q := 3) rfl ?_
  refine v_lcmp hC dX6_in_3 (q := 4) rfl ?_
  refine v_if_lt hC dX6_in_4 (t := 18) rfl (q := 7) rfl (fun h4 => ?_) (fun h4 => ?_)
  · refine v_iconst hC (v := 0) rfl dX6_in_18 (q := 19) rfl ?_
    refine hR _ _ _ _ ?_ (by first | rfl | decide | assumption) dX6_in_19
    first | exact ⟨Or.inr ⟨fun z => Int64.not_lt.mpr ((fa_wide_le _ _).mpr z.1) ((lg_cmp_lt _ _).mp h4), rfl⟩, rfl⟩ | exact ⟨Or.inr ⟨fun z => Int64.not_lt.mpr ((fa_wide_le _ _).mpr z.2) ((lg_cmp_gt _ _).mp h11), rfl⟩, rfl⟩
  · refine v_lload_n hC rfl dX6_in_7 (q := 8) rfl ?_
    refine v_iload_n hC rfl dX6_in_8 (q := 9) rfl ?_
    refine v_i2l hC dX6_in_9 (q := 10) rfl ?_
    refine v_lcmp hC dX6_in_10 (q := 11) rfl ?_
    refine v_if_gt hC dX6_in_11 (t := 18) rfl (q := 14) rfl (fun h11 => ?_) (fun h11 => ?_)
    · refine v_iconst hC (v := 0) rfl dX6_in_18 (q := 19) rfl ?_
      refine hR _ _ _ _ ?_ (by first | rfl | decide | assumption) dX6_in_19
      first | exact ⟨Or.inr ⟨fun z => Int64.not_lt.mpr ((fa_wide_le _ _).mpr z.1) ((lg_cmp_lt _ _).mp h4), rfl⟩, rfl⟩ | exact ⟨Or.inr ⟨fun z => Int64.not_lt.mpr ((fa_wide_le _ _).mpr z.2) ((lg_cmp_gt _ _).mp h11), rfl⟩, rfl⟩
    · refine v_iconst hC (v := 1) rfl dX6_in_14 (q := 15) rfl ?_
      refine v_goto hC dX6_in_15 (t := 19) rfl ?_
      refine hR _ _ _ _ ?_ (by first | rfl | decide | assumption) dX6_in_19
      exact ⟨Or.inl ⟨⟨(fa_wide_le _ _).mp (Int64.not_lt.mp (fun z => h4 ((lg_cmp_lt _ _).mpr z))), (fa_wide_le _ _).mp (Int64.not_lt.mp (fun z => h11 ((lg_cmp_gt _ _).mpr z)))⟩, rfl⟩, rfl⟩

set_option maxHeartbeats 4000000 in
set_option maxRecDepth 100000 in
theorem c_X6_held {l : Launch} {X : Gx} {f : Hp} {v a b : Int32} : Ci l X yX6_held cX6_held 3 (some .int) (rmk 0 0) [.int v, .int a, .int b] (f) (fun z g => z = held v a b ∧ g = f) := by
  refine ct_i (own := RX6) (lv := [some (.int v), some (.int a), some (.int b)]) (by decide) rfl (Nat.le_of_ble_eq_true rfl) (Nat.le_of_ble_eq_true rfl) rfl (fun C hC hR => ?_)
  refine v_iload_n hC rfl dX6_held_0 (q := 1) rfl ?_
  refine v_iload_n hC rfl dX6_held_1 (q := 2) rfl ?_
  refine v_icmp_ge hC dX6_held_2 (t := 9) rfl (q := 5) rfl (fun h2 => ?_) (fun h2 => ?_)
  · refine v_iload_n hC rfl dX6_held_9 (q := 10) rfl ?_
    refine v_iload_n hC rfl dX6_held_10 (q := 11) rfl ?_
    refine v_icmp_le hC dX6_held_11 (t := 18) rfl (q := 14) rfl (fun h11 => ?_) (fun h11 => ?_)
    · refine v_iload_n hC rfl dX6_held_18 (q := 19) rfl ?_
      refine hR _ _ _ _ ?_ dX6_held_19
      refine ⟨?_, rfl⟩
      simp only [held]
      first | (rw [if_pos (Int32.not_le.mp h2)]; done) | (rw [if_neg (Int32.not_lt.mpr h2), if_pos (Int32.not_le.mp h11)]; done) | (rw [if_neg (Int32.not_lt.mpr h2), if_neg (Int32.not_lt.mpr h11)]; done)
    · refine v_iload_n hC rfl dX6_held_14 (q := 15) rfl ?_
      refine v_goto hC dX6_held_15 (t := 19) rfl ?_
      refine hR _ _ _ _ ?_ dX6_held_19
      refine ⟨?_, rfl⟩
      simp only [held]
      first | (rw [if_pos (Int32.not_le.mp h2)]; done) | (rw [if_neg (Int32.not_lt.mpr h2), if_pos (Int32.not_le.mp h11)]; done) | (rw [if_neg (Int32.not_lt.mpr h2), if_neg (Int32.not_lt.mpr h11)]; done)
  · refine v_iload_n hC rfl dX6_held_5 (q := 6) rfl ?_
    refine v_goto hC dX6_held_6 (t := 19) rfl ?_
    refine hR _ _ _ _ ?_ dX6_held_19
    refine ⟨?_, rfl⟩
    simp only [held]
    first | (rw [if_pos (Int32.not_le.mp h2)]; done) | (rw [if_neg (Int32.not_lt.mpr h2), if_pos (Int32.not_le.mp h11)]; done) | (rw [if_neg (Int32.not_lt.mpr h2), if_neg (Int32.not_lt.mpr h11)]; done)

set_option maxHeartbeats 4000000 in
set_option maxRecDepth 100000 in
theorem c_X6_finds {l : Launch} {X : Gx} {S : CS} {i m : Nat → Int32} {r : Nat → Nat → Int32} {c : Nat → Int64} {n : Nat} (hn : n < 7) : Ci l X yX6_finds cX6_finds 2 (some .int) (rmk 0 0) [.ref (ga X 47), .int (fnd n)] (hp X S (i, m, r, c)) (fun z g => z = fnd n ∧ g = hp X S (i, m, fR r n, c)) := by
  refine ct_i (own := RX6) (lv := [some (.ref (ga X 47)), some (.int (fnd n))]) (by decide) rfl (Nat.le_of_ble_eq_true rfl) (Nat.le_of_ble_eq_true rfl) rfl (fun C hC hR => ?_)
  refine v_aload_n hC rfl dX6_finds_0 (q := 1) rfl ?_
  refine v_get hC fl_X6_19 (k := 47) (by decide) hp_47 rfl dX6_finds_1 (q := 4) rfl ?_
  refine v_ldc hC wk_X6_35 dX6_finds_4 (q := 6) rfl ?_
  refine v_iload_n hC rfl dX6_finds_6 (q := 7) rfl ?_
  refine v_isub hC dX6_finds_7 (q := 8) rfl ?_
  refine v_dup2 hC rfl rfl dX6_finds_8 (q := 9) rfl ?_
  refine v_iald hC (k := 51) (by decide) hp_51 (f_i hn) (f_a hn) dX6_finds_9 (q := 10) rfl ?_
  refine v_iconst hC (v := 1) rfl dX6_finds_10 (q := 11) rfl ?_
  refine v_iadd hC dX6_finds_11 (q := 12) rfl ?_
  refine v_iast hC (k := 51) (by decide) hp_51 (f_i hn) (f_a hn) (hpr_3 _) dX6_finds_12 (q := 13) rfl ?_
  refine v_iload_n hC rfl dX6_finds_13 (q := 14) rfl ?_
  refine hR _ _ _ _ ?_ dX6_finds_14
  exact ⟨rfl, rfl⟩

set_option maxHeartbeats 4000000 in
set_option maxRecDepth 100000 in
theorem c_X6_it {l : Launch} {X : Gx} {S : CS} {i m : Nat → Int32} {r : Nat → Nat → Int32} {c : Nat → Int64} {p w : Nat} (h1 : p < 8) (h2 : w < 7) : Ci l X yX6_it cX6_it 3 (some .int) (rmk 0 0) [.ref (ga X 47), .int (nI p), .int (nI w)] (hp X S (i, m, r, c)) (fun z g => z = pv m p w ∧ g = hp X S (i, m, r, c)) := by
  refine ct_i (own := RX6) (lv := [some (.ref (ga X 47)), some (.int (nI p)), some (.int (nI w))]) (by decide) rfl (Nat.le_of_ble_eq_true rfl) (Nat.le_of_ble_eq_true rfl) rfl (fun C hC hR => ?_)
  refine v_aload_n hC rfl dX6_it_0 (q := 1) rfl ?_
  refine v_get hC fl_X6_9 (k := 47) (by decide) hp_47 rfl dX6_it_1 (q := 4) rfl ?_
  refine v_iconst hC (v := 2) rfl dX6_it_4 (q := 5) rfl ?_
  refine v_bipush hC (v := 7) rfl dX6_it_5 (q := 7) rfl ?_
  refine v_iload_n hC rfl dX6_it_7 (q := 8) rfl ?_
  refine v_imul hC dX6_it_8 (q := 9) rfl ?_
  refine v_iadd hC dX6_it_9 (q := 10) rfl ?_
  refine v_iload_n hC rfl dX6_it_10 (q := 11) rfl ?_
  refine v_iadd hC dX6_it_11 (q := 12) rfl ?_
  refine v_iald hC (k := 48) (by decide) hp_48 (ix_in h1 h2) (ix_at h1 h2) dX6_it_12 (q := 13) rfl ?_
  refine hR _ _ _ _ ?_ dX6_it_13
  exact ⟨rfl, rfl⟩

set_option maxHeartbeats 4000000 in
set_option maxRecDepth 100000 in
theorem c_X6_put {l : Launch} {X : Gx} {S : CS} {i m : Nat → Int32} {r : Nat → Nat → Int32} {c : Nat → Int64} {p w : Nat} {v : Int32} (h1 : p < 8) (h2 : w < 7) : Cv l X yX6_put cX6_put 4 (none) (rmk 0 0) [.ref (ga X 47), .int (nI p), .int (nI w), .int v] (hp X S (i, m, r, c)) (fun g => g = hp X S (i, pu m p w v, r, c)) := by
  refine ct_v (own := RX6) (lv := [some (.ref (ga X 47)), some (.int (nI p)), some (.int (nI w)), some (.int v)]) (by decide) rfl (Nat.le_of_ble_eq_true rfl) (Nat.le_of_ble_eq_true rfl) rfl (fun C hC hR => ?_)
  refine v_aload_n hC rfl dX6_put_0 (q := 1) rfl ?_
  refine v_get hC fl_X6_9 (k := 47) (by decide) hp_47 rfl dX6_put_1 (q := 4) rfl ?_
  refine v_iconst hC (v := 2) rfl dX6_put_4 (q := 5) rfl ?_
  refine v_bipush hC (v := 7) rfl dX6_put_5 (q := 7) rfl ?_
  refine v_iload_n hC rfl dX6_put_7 (q := 8) rfl ?_
  refine v_imul hC dX6_put_8 (q := 9) rfl ?_
  refine v_iadd hC dX6_put_9 (q := 10) rfl ?_
  refine v_iload_n hC rfl dX6_put_10 (q := 11) rfl ?_
  refine v_iadd hC dX6_put_11 (q := 12) rfl ?_
  refine v_iload_n hC rfl dX6_put_12 (q := 13) rfl ?_
  refine v_iast hC (k := 48) (by decide) hp_48 (ix_in h1 h2) (ix_at h1 h2) (hpr_0 _) dX6_put_13 (q := 14) rfl ?_
  refine hR _ _ _ ?_ dX6_put_14
  rfl

set_option maxHeartbeats 4000000 in
set_option maxRecDepth 100000 in
theorem c_X6_isPerson {l : Launch} {X : Gx} {S : CS} {i m : Nat → Int32} {r : Nat → Nat → Int32} {c : Nat → Int64} {n : Nat} (hN : m 1 = nI n) (h8 : n ≤ 8) {p : Int32} : Ci l X yX6_isPerson cX6_isPerson 2 (some .boolean) (rmk 1 23) [.ref (ga X 47), .int p] (hp X S (i, m, r, c)) (fun z g => ((∃ P, P < n ∧ p = nI P) ∧ z = 1 ∨ ¬ (∃ P, P < n ∧ p = nI P) ∧ z = 0) ∧ g = hp X S (i, m, r, c)) := by
  refine ct_z (own := RX6) (lv := [some (.ref (ga X 47)), some (.int p)]) (by decide) rfl (Nat.le_of_ble_eq_true rfl) (Nat.le_of_ble_eq_true rfl) rfl (fun C hC hR => ?_)
  refine v_iload_n hC rfl dX6_isPerson_0 (q := 1) rfl ?_
  refine v_i2l hC dX6_isPerson_1 (q := 2) rfl ?_
  refine v_iconst hC (v := 0) rfl dX6_isPerson_2 (q := 3) rfl ?_
  refine v_aload_n hC rfl dX6_isPerson_3 (q := 4) rfl ?_
  refine v_get hC fl_X6_9 (k := 47) (by decide) hp_47 rfl dX6_isPerson_4 (q := 7) rfl ?_
  refine v_iconst hC (v := 1) rfl dX6_isPerson_7 (q := 8) rfl ?_
  refine v_iald hC (k := 48) (by decide) hp_48 (vp_l (by decide)) (j := 1) rfl dX6_isPerson_8 (q := 9) rfl ?_
  refine v_iconst hC (v := 1) rfl dX6_isPerson_9 (q := 10) rfl ?_
  refine v_isub hC dX6_isPerson_10 (q := 11) rfl ?_
  refine v_Si hC lkS_X6_41 c_X6_in rfl (by decide) rfl (Nat.le_of_ble_eq_true rfl) dX6_isPerson_11 (q := 14) rfl ?_
  rintro _ _ ⟨⟨hc11, rfl⟩ | ⟨hc11, rfl⟩, rfl⟩
  · refine hR _ _ _ _ ?_ (by first | rfl | decide | assumption) dX6_isPerson_14
    rw [hN, isP_iff h8] at hc11
    exact ⟨Or.inl ⟨hc11, rfl⟩, rfl⟩
  · refine hR _ _ _ _ ?_ (by first | rfl | decide | assumption) dX6_isPerson_14
    rw [hN, isP_iff h8] at hc11
    exact ⟨Or.inr ⟨hc11, rfl⟩, rfl⟩

set_option maxHeartbeats 4000000 in
set_option maxRecDepth 100000 in
theorem c_X6_grinds {l : Launch} {X : Gx} {S : CS} {i m : Nat → Int32} {r : Nat → Nat → Int32} {c : Nat → Int64} {p : Nat} (h1 : p < 8) : Ci l X yX6_grinds cX6_grinds 4 (some .int) (rmk 1 22) [.ref (ga X 47), .int (nI p)] (hp X S (i, m, r, c)) (fun z g => z = grindF (pv m p) ∧ g = hp X S (i, m, r, c)) := by
  refine ct_i (own := RX6) (lv := [some (.ref (ga X 47)), some (.int (nI p)), none, none]) (by decide) rfl (Nat.le_of_ble_eq_true rfl) (Nat.le_of_ble_eq_true rfl) rfl (fun C hC hR => ?_)
  refine v_aload_n hC rfl dX6_grinds_0 (q := 1) rfl ?_
  refine v_iload_n hC rfl dX6_grinds_1 (q := 2) rfl ?_
  refine v_iconst hC (v := 1) rfl dX6_grinds_2 (q := 3) rfl ?_
  refine v_Vi hC lkV_X6_49 (c_X6_it (w := 1) (by omega) (by decide)) rfl (by decide) (k := 47) (by decide) hp_47 rfl rfl (Nat.le_of_ble_eq_true rfl) dX6_grinds_3 (q := 6) rfl ?_
  rintro _ _ ⟨rfl, rfl⟩
  refine v_istore_2 hC rfl dX6_grinds_6 (q := 7) rfl ?_
  refine v_iload_n hC rfl dX6_grinds_7 (q := 8) rfl ?_
  refine v_istore_3 hC rfl dX6_grinds_8 (q := 9) rfl ?_
  refine v_aload_n hC rfl dX6_grinds_9 (q := 10) rfl ?_
  refine v_iload_n hC rfl dX6_grinds_10 (q := 11) rfl ?_
  refine v_iconst hC (v := 0) rfl dX6_grinds_11 (q := 12) rfl ?_
  refine v_Vi hC lkV_X6_49 (c_X6_it (w := 0) (by omega) (by decide)) rfl (by decide) (k := 47) (by decide) hp_47 rfl rfl (Nat.le_of_ble_eq_true rfl) dX6_grinds_12 (q := 15) rfl ?_
  rintro _ _ ⟨rfl, rfl⟩
  refine v_em 1 (fun hs15_0 => ?_) (fun hs15_0 => ?_)
  · refine v_tin hC dX6_grinds_15 (by decide) (by decide) rfl (t := 48) rfl ?_
    refine v_iload_n hC rfl dX6_grinds_48 (q := 49) rfl ?_
    refine v_bipush hC (v := 10) rfl dX6_grinds_49 (q := 51) rfl ?_
    refine v_iadd hC dX6_grinds_51 (q := 52) rfl ?_
    refine v_istore_3 hC rfl dX6_grinds_52 (q := 53) rfl ?_
    refine v_goto hC dX6_grinds_53 (t := 86) rfl ?_
    refine v_iload_n hC rfl dX6_grinds_86 (q := 87) rfl ?_
    refine v_iconst hC (v := 0) rfl dX6_grinds_87 (q := 88) rfl ?_
    refine v_bipush hC (v := 99) rfl dX6_grinds_88 (q := 90) rfl ?_
    refine v_Si hC lkS_X6_53 c_X6_held rfl (by decide) rfl (Nat.le_of_ble_eq_true rfl) dX6_grinds_90 (q := 93) rfl ?_
    rintro _ _ ⟨rfl, rfl⟩
    refine hR _ _ _ _ ?_ dX6_grinds_93
    refine ⟨?_, rfl⟩
    simp [grindF, *]
  refine v_em 2 (fun hs15_1 => ?_) (fun hs15_1 => ?_)
  · refine v_tin hC dX6_grinds_15 (by decide) (by decide) rfl (t := 56) rfl ?_
    refine v_iload_n hC rfl dX6_grinds_56 (q := 57) rfl ?_
    refine v_iconst hC (v := 2) rfl dX6_grinds_57 (q := 58) rfl ?_
    refine v_idiv hC (by decide) dX6_grinds_58 (q := 59) rfl ?_
    refine v_istore_3 hC rfl dX6_grinds_59 (q := 60) rfl ?_
    refine v_goto hC dX6_grinds_60 (t := 86) rfl ?_
    refine v_iload_n hC rfl dX6_grinds_86 (q := 87) rfl ?_
    refine v_iconst hC (v := 0) rfl dX6_grinds_87 (q := 88) rfl ?_
    refine v_bipush hC (v := 99) rfl dX6_grinds_88 (q := 90) rfl ?_
    refine v_Si hC lkS_X6_53 c_X6_held rfl (by decide) rfl (Nat.le_of_ble_eq_true rfl) dX6_grinds_90 (q := 93) rfl ?_
    rintro _ _ ⟨rfl, rfl⟩
    refine hR _ _ _ _ ?_ dX6_grinds_93
    refine ⟨?_, rfl⟩
    simp [grindF, *]
  refine v_em 3 (fun hs15_2 => ?_) (fun hs15_2 => ?_)
  · refine v_tin hC dX6_grinds_15 (by decide) (by decide) rfl (t := 63) rfl ?_
    refine v_iconst hC (v := 0) rfl dX6_grinds_63 (q := 64) rfl ?_
    refine v_istore_3 hC rfl dX6_grinds_64 (q := 65) rfl ?_
    refine v_goto hC dX6_grinds_65 (t := 86) rfl ?_
    refine v_iload_n hC rfl dX6_grinds_86 (q := 87) rfl ?_
    refine v_iconst hC (v := 0) rfl dX6_grinds_87 (q := 88) rfl ?_
    refine v_bipush hC (v := 99) rfl dX6_grinds_88 (q := 90) rfl ?_
    refine v_Si hC lkS_X6_53 c_X6_held rfl (by decide) rfl (Nat.le_of_ble_eq_true rfl) dX6_grinds_90 (q := 93) rfl ?_
    rintro _ _ ⟨rfl, rfl⟩
    refine hR _ _ _ _ ?_ dX6_grinds_93
    refine ⟨?_, rfl⟩
    simp [grindF, *]
  refine v_em 4 (fun hs15_3 => ?_) (fun hs15_3 => ?_)
  · refine v_tin hC dX6_grinds_15 (by decide) (by decide) rfl (t := 68) rfl ?_
    refine v_iload_n hC rfl dX6_grinds_68 (q := 69) rfl ?_
    refine v_bipush hC (v := 20) rfl dX6_grinds_69 (q := 71) rfl ?_
    refine v_iadd hC dX6_grinds_71 (q := 72) rfl ?_
    refine v_istore_3 hC rfl dX6_grinds_72 (q := 73) rfl ?_
    refine v_goto hC dX6_grinds_73 (t := 86) rfl ?_
    refine v_iload_n hC rfl dX6_grinds_86 (q := 87) rfl ?_
    refine v_iconst hC (v := 0) rfl dX6_grinds_87 (q := 88) rfl ?_
    refine v_bipush hC (v := 99) rfl dX6_grinds_88 (q := 90) rfl ?_
    refine v_Si hC lkS_X6_53 c_X6_held rfl (by decide) rfl (Nat.le_of_ble_eq_true rfl) dX6_grinds_90 (q := 93) rfl ?_
    rintro _ _ ⟨rfl, rfl⟩
    refine hR _ _ _ _ ?_ dX6_grinds_93
    refine ⟨?_, rfl⟩
    simp [grindF, *]
  refine v_em 5 (fun hs15_4 => ?_) (fun hs15_4 => ?_)
  · refine v_tin hC dX6_grinds_15 (by decide) (by decide) rfl (t := 76) rfl ?_
    refine v_iload_n hC rfl dX6_grinds_76 (q := 77) rfl ?_
    refine v_iconst hC (v := 2) rfl dX6_grinds_77 (q := 78) rfl ?_
    refine v_idiv hC (by decide) dX6_grinds_78 (q := 79) rfl ?_
    refine v_bipush hC (v := 20) rfl dX6_grinds_79 (q := 81) rfl ?_
    refine v_iadd hC dX6_grinds_81 (q := 82) rfl ?_
    refine v_istore_3 hC rfl dX6_grinds_82 (q := 83) rfl ?_
    refine v_goto hC dX6_grinds_83 (t := 86) rfl ?_
    refine v_iload_n hC rfl dX6_grinds_86 (q := 87) rfl ?_
    refine v_iconst hC (v := 0) rfl dX6_grinds_87 (q := 88) rfl ?_
    refine v_bipush hC (v := 99) rfl dX6_grinds_88 (q := 90) rfl ?_
    refine v_Si hC lkS_X6_53 c_X6_held rfl (by decide) rfl (Nat.le_of_ble_eq_true rfl) dX6_grinds_90 (q := 93) rfl ?_
    rintro _ _ ⟨rfl, rfl⟩
    refine hR _ _ _ _ ?_ dX6_grinds_93
    refine ⟨?_, rfl⟩
    simp [grindF, *]
  refine v_tout hC dX6_grinds_15 (sw_out_1_5 hs15_0 hs15_1 hs15_2 hs15_3 hs15_4) (t := 86) rfl ?_
  refine v_iload_n hC rfl dX6_grinds_86 (q := 87) rfl ?_
  refine v_iconst hC (v := 0) rfl dX6_grinds_87 (q := 88) rfl ?_
  refine v_bipush hC (v := 99) rfl dX6_grinds_88 (q := 90) rfl ?_
  refine v_Si hC lkS_X6_53 c_X6_held rfl (by decide) rfl (Nat.le_of_ble_eq_true rfl) dX6_grinds_90 (q := 93) rfl ?_
  rintro _ _ ⟨rfl, rfl⟩
  refine hR _ _ _ _ ?_ dX6_grinds_93
  refine ⟨?_, rfl⟩
  simp [grindF, *]

set_option maxHeartbeats 4000000 in
set_option maxRecDepth 100000 in
theorem c_X6_looksAt {l : Launch} {X : Gx} {S : CS} {i m : Nat → Int32} {r : Nat → Nat → Int32} {c : Nat → Int64} {p : Nat} (h1 : p < 8) {o : Int32} : Ci l X yX6_looksAt cX6_looksAt 7 (some .int) (rmk 1 22) [.ref (ga X 47), .int (nI p), .int o] (hp X S (i, m, r, c)) (fun z g => z = lookF (nI p) (pv m p) o ∧ g = hp X S (i, m, r, c)) := by
  refine ct_i (own := RX6) (lv := [some (.ref (ga X 47)), some (.int (nI p)), some (.int o), none, none, none, none]) (by decide) rfl (Nat.le_of_ble_eq_true rfl) (Nat.le_of_ble_eq_true rfl) rfl (fun C hC hR => ?_)
  have J90 : ∀ hup : ¬ pv m p 3 = 1, ∀ z, z = briF (nI p) (pv m p) o → V l X (rmk 1 22) C (hp X S (i, m, r, c)) 90 [some (.ref (ga X 47)), some (.int (nI p)), some (.int o), some (.int (pv m p 5 - pv m p 6)), some (.int (plainF (pv m p) o)), some (.int (broF (nI p) (pv m p) o)), none] [.int z] := by
    rintro hup z rfl
    refine v_istore_6 hC rfl dX6_looksAt_90 (q := 92) rfl ?_
    refine v_aload_n hC rfl dX6_looksAt_92 (q := 93) rfl ?_
    refine v_iload_n hC rfl dX6_looksAt_93 (q := 94) rfl ?_
    refine v_iconst hC (v := 0) rfl dX6_looksAt_94 (q := 95) rfl ?_
    refine v_Vi hC lkV_X6_49 (c_X6_it (w := 0) (by omega) (by decide)) rfl (by decide) (k := 47) (by decide) hp_47 rfl rfl (Nat.le_of_ble_eq_true rfl) dX6_looksAt_95 (q := 98) rfl ?_
    rintro _ _ ⟨rfl, rfl⟩
    refine v_em 1 (fun hs98_0 => ?_) (fun hs98_0 => ?_)
    · refine v_tin hC dX6_looksAt_98 (by decide) (by decide) rfl (t := 132) rfl ?_
      refine v_iload hC rfl dX6_looksAt_132 (q := 134) rfl ?_
      refine hR _ _ _ _ ?_ dX6_looksAt_134
      refine ⟨?_, rfl⟩
      first | (simp [lookF, *]; done) | (simp only [lookF]; grind)
    refine v_em 2 (fun hs98_1 => ?_) (fun hs98_1 => ?_)
    · refine v_tin hC dX6_looksAt_98 (by decide) (by decide) rfl (t := 135) rfl ?_
      refine v_iload hC rfl dX6_looksAt_135 (q := 137) rfl ?_
      refine hR _ _ _ _ ?_ dX6_looksAt_137
      refine ⟨?_, rfl⟩
      first | (simp [lookF, *]; done) | (simp only [lookF]; grind)
    refine v_em 3 (fun hs98_2 => ?_) (fun hs98_2 => ?_)
    · refine v_tin hC dX6_looksAt_98 (by decide) (by decide) rfl (t := 138) rfl ?_
      refine v_bipush hC (v := 10) rfl dX6_looksAt_138 (q := 140) rfl ?_
      refine hR _ _ _ _ ?_ dX6_looksAt_140
      refine ⟨?_, rfl⟩
      first | (simp [lookF, *]; done) | (simp only [lookF]; grind)
    refine v_em 4 (fun hs98_3 => ?_) (fun hs98_3 => ?_)
    · refine v_tin hC dX6_looksAt_98 (by decide) (by decide) rfl (t := 141) rfl ?_
      refine v_iload hC rfl dX6_looksAt_141 (q := 143) rfl ?_
      refine v_iload_n hC rfl dX6_looksAt_143 (q := 144) rfl ?_
      refine v_iload_n hC rfl dX6_looksAt_144 (q := 145) rfl ?_
      refine v_iconst hC (v := 1) rfl dX6_looksAt_145 (q := 146) rfl ?_
      refine v_iadd hC dX6_looksAt_146 (q := 147) rfl ?_
      refine v_icmp_ne hC dX6_looksAt_147 (t := 154) rfl (q := 150) rfl (fun h147 => ?_) (fun h147 => ?_)
      · refine v_iconst hC (v := 0) rfl dX6_looksAt_154 (q := 155) rfl ?_
        refine v_iadd hC dX6_looksAt_155 (q := 156) rfl ?_
        refine hR _ _ _ _ ?_ dX6_looksAt_156
        refine ⟨?_, rfl⟩
        first | (simp [lookF, *]; done) | (simp only [lookF]; grind)
      · refine v_iconst hC (v := 5) rfl dX6_looksAt_150 (q := 151) rfl ?_
        refine v_goto hC dX6_looksAt_151 (t := 155) rfl ?_
        refine v_iadd hC dX6_looksAt_155 (q := 156) rfl ?_
        refine hR _ _ _ _ ?_ dX6_looksAt_156
        refine ⟨?_, rfl⟩
        first | (simp [lookF, *]; done) | (simp only [lookF]; grind)
    refine v_em 5 (fun hs98_4 => ?_) (fun hs98_4 => ?_)
    · refine v_tin hC dX6_looksAt_98 (by decide) (by decide) rfl (t := 157) rfl ?_
      refine v_iload hC rfl dX6_looksAt_157 (q := 159) rfl ?_
      refine v_iconst hC (v := 5) rfl dX6_looksAt_159 (q := 160) rfl ?_
      refine v_icmp_ge hC dX6_looksAt_160 (t := 167) rfl (q := 163) rfl (fun h160 => ?_) (fun h160 => ?_)
      · refine v_iload hC rfl dX6_looksAt_167 (q := 169) rfl ?_
        refine hR _ _ _ _ ?_ dX6_looksAt_169
        refine ⟨?_, rfl⟩
        first | (simp [lookF, *]; done) | (simp only [lookF]; grind)
      · refine v_iconst hC (v := 5) rfl dX6_looksAt_163 (q := 164) rfl ?_
        refine v_goto hC dX6_looksAt_164 (t := 169) rfl ?_
        refine hR _ _ _ _ ?_ dX6_looksAt_169
        refine ⟨?_, rfl⟩
        first | (simp [lookF, *]; done) | (simp only [lookF]; grind)
    refine v_tout hC dX6_looksAt_98 (sw_out_1_5 hs98_0 hs98_1 hs98_2 hs98_3 hs98_4) (t := 170) rfl ?_
    refine v_iload hC rfl dX6_looksAt_170 (q := 172) rfl ?_
    refine hR _ _ _ _ ?_ dX6_looksAt_172
    refine ⟨?_, rfl⟩
    first | (simp [lookF, *]; done) | (simp only [lookF]; grind)
  have J74 : ∀ hup : ¬ pv m p 3 = 1, ∀ z, z = broF (nI p) (pv m p) o → V l X (rmk 1 22) C (hp X S (i, m, r, c)) 74 [some (.ref (ga X 47)), some (.int (nI p)), some (.int o), some (.int (pv m p 5 - pv m p 6)), some (.int (plainF (pv m p) o)), none, none] [.int z] := by
    rintro hup z rfl
    refine v_istore_5 hC rfl dX6_looksAt_74 (q := 76) rfl ?_
    refine v_iload_n hC rfl dX6_looksAt_76 (q := 77) rfl ?_
    refine v_iload_n hC rfl dX6_looksAt_77 (q := 78) rfl ?_
    refine v_icmp_ge hC dX6_looksAt_78 (t := 88) rfl (q := 81) rfl (fun h78 => ?_) (fun h78 => ?_)
    · refine v_iload hC rfl dX6_looksAt_88 (q := 90) rfl ?_
      exact J90 hup _ (by first | (simp [briF, *]; done) | (simp only [briF]; grind))
    · refine v_iconst hC (v := 2) rfl dX6_looksAt_81 (q := 82) rfl ?_
      refine v_iload hC rfl dX6_looksAt_82 (q := 84) rfl ?_
      refine v_imul hC dX6_looksAt_84 (q := 85) rfl ?_
      refine v_goto hC dX6_looksAt_85 (t := 90) rfl ?_
      exact J90 hup _ (by first | (simp [briF, *]; done) | (simp only [briF]; grind))
  have J57 : ∀ hup : ¬ pv m p 3 = 1, ∀ z, z = plainF (pv m p) o → V l X (rmk 1 22) C (hp X S (i, m, r, c)) 57 [some (.ref (ga X 47)), some (.int (nI p)), some (.int o), some (.int (pv m p 5 - pv m p 6)), none, none, none] [.int z] := by
    rintro hup z rfl
    refine v_istore_4 hC rfl dX6_looksAt_57 (q := 59) rfl ?_
    refine v_iload hC rfl dX6_looksAt_59 (q := 61) rfl ?_
    refine v_iload_n hC rfl dX6_looksAt_61 (q := 62) rfl ?_
    refine v_iload_n hC rfl dX6_looksAt_62 (q := 63) rfl ?_
    refine v_iconst hC (v := 1) rfl dX6_looksAt_63 (q := 64) rfl ?_
    refine v_iadd hC dX6_looksAt_64 (q := 65) rfl ?_
    refine v_icmp_ne hC dX6_looksAt_65 (t := 72) rfl (q := 68) rfl (fun h65 => ?_) (fun h65 => ?_)
    · refine v_iconst hC (v := 0) rfl dX6_looksAt_72 (q := 73) rfl ?_
      refine v_iadd hC dX6_looksAt_73 (q := 74) rfl ?_
      exact J74 hup _ (by simp [broF, *])
    · refine v_iconst hC (v := 5) rfl dX6_looksAt_68 (q := 69) rfl ?_
      refine v_goto hC dX6_looksAt_69 (t := 73) rfl ?_
      refine v_iadd hC dX6_looksAt_73 (q := 74) rfl ?_
      exact J74 hup _ (by simp [broF, *])
  refine v_aload_n hC rfl dX6_looksAt_0 (q := 1) rfl ?_
  refine v_iload_n hC rfl dX6_looksAt_1 (q := 2) rfl ?_
  refine v_iconst hC (v := 3) rfl dX6_looksAt_2 (q := 3) rfl ?_
  refine v_Vi hC lkV_X6_49 (c_X6_it (w := 3) (by omega) (by decide)) rfl (by decide) (k := 47) (by decide) hp_47 rfl rfl (Nat.le_of_ble_eq_true rfl) dX6_looksAt_3 (q := 6) rfl ?_
  rintro _ _ ⟨rfl, rfl⟩
  refine v_iconst hC (v := 1) rfl dX6_looksAt_6 (q := 7) rfl ?_
  refine v_icmp_ne hC dX6_looksAt_7 (t := 13) rfl (q := 10) rfl (fun h7 => ?_) (fun h7 => ?_)
  · refine v_aload_n hC rfl dX6_looksAt_13 (q := 14) rfl ?_
    refine v_iload_n hC rfl dX6_looksAt_14 (q := 15) rfl ?_
    refine v_iconst hC (v := 5) rfl dX6_looksAt_15 (q := 16) rfl ?_
    refine v_Vi hC lkV_X6_49 (c_X6_it (w := 5) (by omega) (by decide)) rfl (by decide) (k := 47) (by decide) hp_47 rfl rfl (Nat.le_of_ble_eq_true rfl) dX6_looksAt_16 (q := 19) rfl ?_
    rintro _ _ ⟨rfl, rfl⟩
    refine v_aload_n hC rfl dX6_looksAt_19 (q := 20) rfl ?_
    refine v_iload_n hC rfl dX6_looksAt_20 (q := 21) rfl ?_
    refine v_bipush hC (v := 6) rfl dX6_looksAt_21 (q := 23) rfl ?_
    refine v_Vi hC lkV_X6_49 (c_X6_it (w := 6) (by omega) (by decide)) rfl (by decide) (k := 47) (by decide) hp_47 rfl rfl (Nat.le_of_ble_eq_true rfl) dX6_looksAt_23 (q := 26) rfl ?_
    rintro _ _ ⟨rfl, rfl⟩
    refine v_isub hC dX6_looksAt_26 (q := 27) rfl ?_
    refine v_istore_3 hC rfl dX6_looksAt_27 (q := 28) rfl ?_
    refine v_iload_n hC rfl dX6_looksAt_28 (q := 29) rfl ?_
    refine v_aload_n hC rfl dX6_looksAt_29 (q := 30) rfl ?_
    refine v_iload_n hC rfl dX6_looksAt_30 (q := 31) rfl ?_
    refine v_iconst hC (v := 4) rfl dX6_looksAt_31 (q := 32) rfl ?_
    refine v_Vi hC lkV_X6_49 (c_X6_it (w := 4) (by omega) (by decide)) rfl (by decide) (k := 47) (by decide) hp_47 rfl rfl (Nat.le_of_ble_eq_true rfl) dX6_looksAt_32 (q := 35) rfl ?_
    rintro _ _ ⟨rfl, rfl⟩
    refine v_icmp_ne hC dX6_looksAt_35 (t := 48) rfl (q := 38) rfl (fun h35 => ?_) (fun h35 => ?_)
    · refine v_aload_n hC rfl dX6_looksAt_48 (q := 49) rfl ?_
      refine v_iload_n hC rfl dX6_looksAt_49 (q := 50) rfl ?_
      refine v_bipush hC (v := 6) rfl dX6_looksAt_50 (q := 52) rfl ?_
      refine v_Vi hC lkV_X6_49 (c_X6_it (w := 6) (by omega) (by decide)) rfl (by decide) (k := 47) (by decide) hp_47 rfl rfl (Nat.le_of_ble_eq_true rfl) dX6_looksAt_52 (q := 55) rfl ?_
      rintro _ _ ⟨rfl, rfl⟩
      refine v_iconst hC (v := 2) rfl dX6_looksAt_55 (q := 56) rfl ?_
      refine v_idiv hC (by decide) dX6_looksAt_56 (q := 57) rfl ?_
      exact J57 h7 _ (by simp [plainF, *])
    · refine v_iload_n hC rfl dX6_looksAt_38 (q := 39) rfl ?_
      refine v_iconst hC (v := 0) rfl dX6_looksAt_39 (q := 40) rfl ?_
      refine v_bipush hC (v := 99) rfl dX6_looksAt_40 (q := 42) rfl ?_
      refine v_Si hC lkS_X6_53 c_X6_held rfl (by decide) rfl (Nat.le_of_ble_eq_true rfl) dX6_looksAt_42 (q := 45) rfl ?_
      rintro _ _ ⟨rfl, rfl⟩
      refine v_goto hC dX6_looksAt_45 (t := 57) rfl ?_
      exact J57 h7 _ (by simp [plainF, *])
  · refine v_bipush hC (v := 50) rfl dX6_looksAt_10 (q := 12) rfl ?_
    refine hR _ _ _ _ ?_ dX6_looksAt_12
    refine ⟨?_, rfl⟩
    first | (simp [lookF, *]; done) | (simp only [lookF]; grind)

set_option maxHeartbeats 4000000 in
set_option maxRecDepth 100000 in
theorem c_X6_sight {l : Launch} {X : Gx} {S : CS} {i m : Nat → Int32} {r : Nat → Nat → Int32} {c : Nat → Int64} {p : Nat} (h1 : p < 8) : Ci l X yX6_sight cX6_sight 2 (some .int) (rmk 2 48) [.ref (ga X 47), .int (nI p)] (hp X S (i, m, r, c)) (fun z g => z = sightF (nI p) (pv m p) ∧ g = hp X S (i, m, r, c)) := by
  refine ct_i (own := RX6) (lv := [some (.ref (ga X 47)), some (.int (nI p))]) (by decide) rfl (Nat.le_of_ble_eq_true rfl) (Nat.le_of_ble_eq_true rfl) rfl (fun C hC hR => ?_)
  refine v_aload_n hC rfl dX6_sight_0 (q := 1) rfl ?_
  refine v_iload_n hC rfl dX6_sight_1 (q := 2) rfl ?_
  refine v_iconst hC (v := 2) rfl dX6_sight_2 (q := 3) rfl ?_
  refine v_Vi hC lkV_X6_49 (c_X6_it (w := 2) (by omega) (by decide)) rfl (by decide) (k := 47) (by decide) hp_47 rfl rfl (Nat.le_of_ble_eq_true rfl) dX6_sight_3 (q := 6) rfl ?_
  rintro _ _ ⟨rfl, rfl⟩
  refine v_if_ge hC dX6_sight_6 (t := 13) rfl (q := 9) rfl (fun h6 => ?_) (fun h6 => ?_)
  · refine v_aload_n hC rfl dX6_sight_13 (q := 14) rfl ?_
    refine v_iload_n hC rfl dX6_sight_14 (q := 15) rfl ?_
    refine v_aload_n hC rfl dX6_sight_15 (q := 16) rfl ?_
    refine v_iload_n hC rfl dX6_sight_16 (q := 17) rfl ?_
    refine v_iconst hC (v := 2) rfl dX6_sight_17 (q := 18) rfl ?_
    refine v_Vi hC lkV_X6_49 (c_X6_it (w := 2) (by omega) (by decide)) rfl (by decide) (k := 47) (by decide) hp_47 rfl rfl (Nat.le_of_ble_eq_true rfl) dX6_sight_18 (q := 21) rfl ?_
    rintro _ _ ⟨rfl, rfl⟩
    refine v_Vi hC lkV_X6_57 (c_X6_looksAt (by omega)) rfl (by decide) (k := 47) (by decide) hp_47 rfl rfl (Nat.le_of_ble_eq_true rfl) dX6_sight_21 (q := 24) rfl ?_
    rintro _ _ ⟨rfl, rfl⟩
    refine hR _ _ _ _ ?_ dX6_sight_24
    refine ⟨?_, rfl⟩
    simp only [sightF]
    first | rw [if_neg (Int32.not_lt.mpr h6)] | rw [if_pos (Int32.not_le.mp h6)]
  · refine v_iconst hC (v := 0) rfl dX6_sight_9 (q := 10) rfl ?_
    refine v_goto hC dX6_sight_10 (t := 24) rfl ?_
    refine hR _ _ _ _ ?_ dX6_sight_24
    refine ⟨?_, rfl⟩
    simp only [sightF]
    first | rw [if_neg (Int32.not_lt.mpr h6)] | rw [if_pos (Int32.not_le.mp h6)]

set_option maxHeartbeats 4000000 in
set_option maxRecDepth 100000 in
theorem c_X6_eases {l : Launch} {X : Gx} {S : CS} {i m : Nat → Int32} {r : Nat → Nat → Int32} {c : Nat → Int64} {p : Nat} (h1 : p < 8) : Ci l X yX6_eases cX6_eases 3 (some .int) (rmk 3 69) [.ref (ga X 47), .int (nI p)] (hp X S (i, m, r, c)) (fun z g => z = easeF (nI p) (pv m p) ∧ g = hp X S (i, m, r, c)) := by
  refine ct_i (own := RX6) (lv := [some (.ref (ga X 47)), some (.int (nI p)), none]) (by decide) rfl (Nat.le_of_ble_eq_true rfl) (Nat.le_of_ble_eq_true rfl) rfl (fun C hC hR => ?_)
  have J15 : ∀ z, z = easeP (nI p) (pv m p) → V l X (rmk 3 69) C (hp X S (i, m, r, c)) 15 [some (.ref (ga X 47)), some (.int (nI p)), none] [.int z] := by
    rintro z rfl
    refine v_istore_2 hC rfl dX6_eases_15 (q := 16) rfl ?_
    refine v_aload_n hC rfl dX6_eases_16 (q := 17) rfl ?_
    refine v_iload_n hC rfl dX6_eases_17 (q := 18) rfl ?_
    refine v_iconst hC (v := 0) rfl dX6_eases_18 (q := 19) rfl ?_
    refine v_Vi hC lkV_X6_49 (c_X6_it (w := 0) (by omega) (by decide)) rfl (by decide) (k := 47) (by decide) hp_47 rfl rfl (Nat.le_of_ble_eq_true rfl) dX6_eases_19 (q := 22) rfl ?_
    rintro _ _ ⟨rfl, rfl⟩
    refine v_em 1 (fun hs22_0 => ?_) (fun hs22_0 => ?_)
    · refine v_tin hC dX6_eases_22 (by decide) (by decide) rfl (t := 56) rfl ?_
      refine v_aload_n hC rfl dX6_eases_56 (q := 57) rfl ?_
      refine v_iload_n hC rfl dX6_eases_57 (q := 58) rfl ?_
      refine v_iconst hC (v := 1) rfl dX6_eases_58 (q := 59) rfl ?_
      refine v_Vi hC lkV_X6_49 (c_X6_it (w := 1) (by omega) (by decide)) rfl (by decide) (k := 47) (by decide) hp_47 rfl rfl (Nat.le_of_ble_eq_true rfl) dX6_eases_59 (q := 62) rfl ?_
      rintro _ _ ⟨rfl, rfl⟩
      refine v_bipush hC (v := 50) rfl dX6_eases_62 (q := 64) rfl ?_
      refine v_icmp_le hC dX6_eases_64 (t := 71) rfl (q := 67) rfl (fun h64 => ?_) (fun h64 => ?_)
      · refine v_iload_n hC rfl dX6_eases_71 (q := 72) rfl ?_
        refine hR _ _ _ _ ?_ dX6_eases_72
        refine ⟨?_, rfl⟩
        first | (simp [easeF, *]; done) | (simp [easeF, hs22_0, Int32.not_lt.mpr h64]; done) | (simp [easeF, hs22_0, Int32.not_le.mp h64]; done) | (simp [easeF, hs22_3, Int32.not_lt.mpr h64]; done) | (simp [easeF, hs22_3, Int32.not_le.mp h64]; done)
      · refine v_iconst hC (v := 0) rfl dX6_eases_67 (q := 68) rfl ?_
        refine v_goto hC dX6_eases_68 (t := 72) rfl ?_
        refine hR _ _ _ _ ?_ dX6_eases_72
        refine ⟨?_, rfl⟩
        first | (simp [easeF, *]; done) | (simp [easeF, hs22_0, Int32.not_lt.mpr h64]; done) | (simp [easeF, hs22_0, Int32.not_le.mp h64]; done) | (simp [easeF, hs22_3, Int32.not_lt.mpr h64]; done) | (simp [easeF, hs22_3, Int32.not_le.mp h64]; done)
    refine v_em 2 (fun hs22_1 => ?_) (fun hs22_1 => ?_)
    · refine v_tin hC dX6_eases_22 (by decide) (by decide) rfl (t := 73) rfl ?_
      refine v_iconst hC (v := 2) rfl dX6_eases_73 (q := 74) rfl ?_
      refine v_iload_n hC rfl dX6_eases_74 (q := 75) rfl ?_
      refine v_imul hC dX6_eases_75 (q := 76) rfl ?_
      refine hR _ _ _ _ ?_ dX6_eases_76
      refine ⟨?_, rfl⟩
      first | (simp [easeF, *]; done) | (simp [easeF, hs22_0, Int32.not_lt.mpr h64]; done) | (simp [easeF, hs22_0, Int32.not_le.mp h64]; done) | (simp [easeF, hs22_3, Int32.not_lt.mpr h64]; done) | (simp [easeF, hs22_3, Int32.not_le.mp h64]; done)
    refine v_em 3 (fun hs22_2 => ?_) (fun hs22_2 => ?_)
    · refine v_tin hC dX6_eases_22 (by decide) (by decide) rfl (t := 77) rfl ?_
      refine v_iconst hC (v := 3) rfl dX6_eases_77 (q := 78) rfl ?_
      refine hR _ _ _ _ ?_ dX6_eases_78
      refine ⟨?_, rfl⟩
      first | (simp [easeF, *]; done) | (simp [easeF, hs22_0, Int32.not_lt.mpr h64]; done) | (simp [easeF, hs22_0, Int32.not_le.mp h64]; done) | (simp [easeF, hs22_3, Int32.not_lt.mpr h64]; done) | (simp [easeF, hs22_3, Int32.not_le.mp h64]; done)
    refine v_em 4 (fun hs22_3 => ?_) (fun hs22_3 => ?_)
    · refine v_tin hC dX6_eases_22 (by decide) (by decide) rfl (t := 56) rfl ?_
      refine v_aload_n hC rfl dX6_eases_56 (q := 57) rfl ?_
      refine v_iload_n hC rfl dX6_eases_57 (q := 58) rfl ?_
      refine v_iconst hC (v := 1) rfl dX6_eases_58 (q := 59) rfl ?_
      refine v_Vi hC lkV_X6_49 (c_X6_it (w := 1) (by omega) (by decide)) rfl (by decide) (k := 47) (by decide) hp_47 rfl rfl (Nat.le_of_ble_eq_true rfl) dX6_eases_59 (q := 62) rfl ?_
      rintro _ _ ⟨rfl, rfl⟩
      refine v_bipush hC (v := 50) rfl dX6_eases_62 (q := 64) rfl ?_
      refine v_icmp_le hC dX6_eases_64 (t := 71) rfl (q := 67) rfl (fun h64 => ?_) (fun h64 => ?_)
      · refine v_iload_n hC rfl dX6_eases_71 (q := 72) rfl ?_
        refine hR _ _ _ _ ?_ dX6_eases_72
        refine ⟨?_, rfl⟩
        first | (simp [easeF, *]; done) | (simp [easeF, hs22_0, Int32.not_lt.mpr h64]; done) | (simp [easeF, hs22_0, Int32.not_le.mp h64]; done) | (simp [easeF, hs22_3, Int32.not_lt.mpr h64]; done) | (simp [easeF, hs22_3, Int32.not_le.mp h64]; done)
      · refine v_iconst hC (v := 0) rfl dX6_eases_67 (q := 68) rfl ?_
        refine v_goto hC dX6_eases_68 (t := 72) rfl ?_
        refine hR _ _ _ _ ?_ dX6_eases_72
        refine ⟨?_, rfl⟩
        first | (simp [easeF, *]; done) | (simp [easeF, hs22_0, Int32.not_lt.mpr h64]; done) | (simp [easeF, hs22_0, Int32.not_le.mp h64]; done) | (simp [easeF, hs22_3, Int32.not_lt.mpr h64]; done) | (simp [easeF, hs22_3, Int32.not_le.mp h64]; done)
    refine v_em 5 (fun hs22_4 => ?_) (fun hs22_4 => ?_)
    · refine v_tin hC dX6_eases_22 (by decide) (by decide) rfl (t := 79) rfl ?_
      refine v_iconst hC (v := 2) rfl dX6_eases_79 (q := 80) rfl ?_
      refine v_iload_n hC rfl dX6_eases_80 (q := 81) rfl ?_
      refine v_imul hC dX6_eases_81 (q := 82) rfl ?_
      refine v_aload_n hC rfl dX6_eases_82 (q := 83) rfl ?_
      refine v_iload_n hC rfl dX6_eases_83 (q := 84) rfl ?_
      refine v_iconst hC (v := 3) rfl dX6_eases_84 (q := 85) rfl ?_
      refine v_Vi hC lkV_X6_49 (c_X6_it (w := 3) (by omega) (by decide)) rfl (by decide) (k := 47) (by decide) hp_47 rfl rfl (Nat.le_of_ble_eq_true rfl) dX6_eases_85 (q := 88) rfl ?_
      rintro _ _ ⟨rfl, rfl⟩
      refine v_iadd hC dX6_eases_88 (q := 89) rfl ?_
      refine hR _ _ _ _ ?_ dX6_eases_89
      refine ⟨?_, rfl⟩
      first | (simp [easeF, *]; done) | (simp [easeF, hs22_0, Int32.not_lt.mpr h64]; done) | (simp [easeF, hs22_0, Int32.not_le.mp h64]; done) | (simp [easeF, hs22_3, Int32.not_lt.mpr h64]; done) | (simp [easeF, hs22_3, Int32.not_le.mp h64]; done)
    refine v_tout hC dX6_eases_22 (sw_out_1_5 hs22_0 hs22_1 hs22_2 hs22_3 hs22_4) (t := 90) rfl ?_
    refine v_iload_n hC rfl dX6_eases_90 (q := 91) rfl ?_
    refine hR _ _ _ _ ?_ dX6_eases_91
    refine ⟨?_, rfl⟩
    first | (simp [easeF, *]; done) | (simp [easeF, hs22_0, Int32.not_lt.mpr h64]; done) | (simp [easeF, hs22_0, Int32.not_le.mp h64]; done) | (simp [easeF, hs22_3, Int32.not_lt.mpr h64]; done) | (simp [easeF, hs22_3, Int32.not_le.mp h64]; done)
  refine v_aload_n hC rfl dX6_eases_0 (q := 1) rfl ?_
  refine v_iload_n hC rfl dX6_eases_1 (q := 2) rfl ?_
  refine v_Vi hC lkV_X6_60 (c_X6_sight (by omega)) rfl (by decide) (k := 47) (by decide) hp_47 rfl rfl (Nat.le_of_ble_eq_true rfl) dX6_eases_2 (q := 5) rfl ?_
  rintro _ _ ⟨rfl, rfl⟩
  refine v_bipush hC (v := 30) rfl dX6_eases_5 (q := 7) rfl ?_
  refine v_icmp_ge hC dX6_eases_7 (t := 14) rfl (q := 10) rfl (fun h7 => ?_) (fun h7 => ?_)
  · refine v_iconst hC (v := 0) rfl dX6_eases_14 (q := 15) rfl ?_
    exact J15 _ (by simp [easeP, Int32.not_lt.mpr, Int32.not_le.mp, *])
  · refine v_iconst hC (v := 1) rfl dX6_eases_10 (q := 11) rfl ?_
    refine v_goto hC dX6_eases_11 (t := 15) rfl ?_
    exact J15 _ (by simp [easeP, Int32.not_lt.mpr, Int32.not_le.mp, *])

set_option maxHeartbeats 4000000 in
set_option maxRecDepth 100000 in
theorem c_X6_grows {l : Launch} {X : Gx} {S : CS} {i m : Nat → Int32} {r : Nat → Nat → Int32} {c : Nat → Int64} {p : Nat} (h1 : p < 8) : Ci l X yX6_grows cX6_grows 5 (some .int) (rmk 3 69) [.ref (ga X 47), .int (nI p)] (hp X S (i, m, r, c)) (fun z g => z = growF (nI p) (pv m p) ∧ g = hp X S (i, m, r, c)) := by
  refine ct_i (own := RX6) (lv := [some (.ref (ga X 47)), some (.int (nI p)), none, none, none]) (by decide) rfl (Nat.le_of_ble_eq_true rfl) (Nat.le_of_ble_eq_true rfl) rfl (fun C hC hR => ?_)
  have J31 : ∀ z, z = growB (sightF (nI p) (pv m p)) → V l X (rmk 3 69) C (hp X S (i, m, r, c)) 31 [some (.ref (ga X 47)), some (.int (nI p)), some (.int (sightF (nI p) (pv m p))), some (.int (growP (sightF (nI p) (pv m p)))), none] [.int z] := by
    rintro z rfl
    refine v_istore_4 hC rfl dX6_grows_31 (q := 33) rfl ?_
    refine v_aload_n hC rfl dX6_grows_33 (q := 34) rfl ?_
    refine v_iload_n hC rfl dX6_grows_34 (q := 35) rfl ?_
    refine v_iconst hC (v := 0) rfl dX6_grows_35 (q := 36) rfl ?_
    refine v_Vi hC lkV_X6_49 (c_X6_it (w := 0) (by omega) (by decide)) rfl (by decide) (k := 47) (by decide) hp_47 rfl rfl (Nat.le_of_ble_eq_true rfl) dX6_grows_36 (q := 39) rfl ?_
    rintro _ _ ⟨rfl, rfl⟩
    refine v_em 1 (fun hs39_0 => ?_) (fun hs39_0 => ?_)
    · refine v_tin hC dX6_grows_39 (by decide) (by decide) rfl (t := 68) rfl ?_
      refine v_iload hC rfl dX6_grows_68 (q := 70) rfl ?_
      refine hR _ _ _ _ ?_ dX6_grows_70
      refine ⟨?_, rfl⟩
      first | (simp [growF, *]; done) | (simp only [growF]; grind)
    refine v_em 2 (fun hs39_1 => ?_) (fun hs39_1 => ?_)
    · refine v_tin hC dX6_grows_39 (by decide) (by decide) rfl (t := 78) rfl ?_
      refine v_iload_n hC rfl dX6_grows_78 (q := 79) rfl ?_
      refine hR _ _ _ _ ?_ dX6_grows_79
      refine ⟨?_, rfl⟩
      first | (simp [growF, *]; done) | (simp only [growF]; grind)
    refine v_em 3 (fun hs39_2 => ?_) (fun hs39_2 => ?_)
    · refine v_tin hC dX6_grows_39 (by decide) (by decide) rfl (t := 71) rfl ?_
      refine v_iconst hC (v := 0) rfl dX6_grows_71 (q := 72) rfl ?_
      refine hR _ _ _ _ ?_ dX6_grows_72
      refine ⟨?_, rfl⟩
      first | (simp [growF, *]; done) | (simp only [growF]; grind)
    refine v_em 4 (fun hs39_3 => ?_) (fun hs39_3 => ?_)
    · refine v_tin hC dX6_grows_39 (by decide) (by decide) rfl (t := 73) rfl ?_
      refine v_iconst hC (v := 2) rfl dX6_grows_73 (q := 74) rfl ?_
      refine v_iload hC rfl dX6_grows_74 (q := 76) rfl ?_
      refine v_imul hC dX6_grows_76 (q := 77) rfl ?_
      refine hR _ _ _ _ ?_ dX6_grows_77
      refine ⟨?_, rfl⟩
      first | (simp [growF, *]; done) | (simp only [growF]; grind)
    refine v_tout hC dX6_grows_39 (sw_out_1_4 hs39_0 hs39_1 hs39_2 hs39_3) (t := 78) rfl ?_
    refine v_iload_n hC rfl dX6_grows_78 (q := 79) rfl ?_
    refine hR _ _ _ _ ?_ dX6_grows_79
    refine ⟨?_, rfl⟩
    first | (simp [growF, *]; done) | (simp only [growF]; grind)
  have J17 : ∀ z, z = growP (sightF (nI p) (pv m p)) → V l X (rmk 3 69) C (hp X S (i, m, r, c)) 17 [some (.ref (ga X 47)), some (.int (nI p)), some (.int (sightF (nI p) (pv m p))), none, none] [.int z] := by
    rintro z rfl
    refine v_istore_3 hC rfl dX6_grows_17 (q := 18) rfl ?_
    refine v_iload_n hC rfl dX6_grows_18 (q := 19) rfl ?_
    refine v_iload_n hC rfl dX6_grows_19 (q := 20) rfl ?_
    refine v_bipush hC (v := 80) rfl dX6_grows_20 (q := 22) rfl ?_
    refine v_icmp_lt hC dX6_grows_22 (t := 29) rfl (q := 25) rfl (fun h22 => ?_) (fun h22 => ?_)
    · refine v_iconst hC (v := 0) rfl dX6_grows_29 (q := 30) rfl ?_
      refine v_iadd hC dX6_grows_30 (q := 31) rfl ?_
      exact J31 _ (by simp [growB, *])
    · refine v_iconst hC (v := 1) rfl dX6_grows_25 (q := 26) rfl ?_
      refine v_goto hC dX6_grows_26 (t := 30) rfl ?_
      refine v_iadd hC dX6_grows_30 (q := 31) rfl ?_
      exact J31 _ (by simp [growB, *])
  refine v_aload_n hC rfl dX6_grows_0 (q := 1) rfl ?_
  refine v_iload_n hC rfl dX6_grows_1 (q := 2) rfl ?_
  refine v_Vi hC lkV_X6_60 (c_X6_sight (by omega)) rfl (by decide) (k := 47) (by decide) hp_47 rfl rfl (Nat.le_of_ble_eq_true rfl) dX6_grows_2 (q := 5) rfl ?_
  rintro _ _ ⟨rfl, rfl⟩
  refine v_istore_2 hC rfl dX6_grows_5 (q := 6) rfl ?_
  refine v_iload_n hC rfl dX6_grows_6 (q := 7) rfl ?_
  refine v_bipush hC (v := 60) rfl dX6_grows_7 (q := 9) rfl ?_
  refine v_icmp_lt hC dX6_grows_9 (t := 16) rfl (q := 12) rfl (fun h9 => ?_) (fun h9 => ?_)
  · refine v_iconst hC (v := 0) rfl dX6_grows_16 (q := 17) rfl ?_
    exact J17 _ (by simp [growP, *])
  · refine v_iconst hC (v := 1) rfl dX6_grows_12 (q := 13) rfl ?_
    refine v_goto hC dX6_grows_13 (t := 17) rfl ?_
    exact J17 _ (by simp [growP, *])

def newP (m : Nat → Int32) (n : Nat) (kd gr at_ : Int32) : Nat → Int32 := pu (pu (pu (pu (pu (pu (pu (upd m 1 (m 1 + 1)) n 0 kd) n 1 gr) n 2 at_) n 3 0) n 4 (-1)) n 5 0) n 6 0
def groundM (m : Nat → Int32) (p : Nat) : Nat → Int32 := pu (pu (pu (pu m p 5 (grindF (pv m p))) p 4 (pv m p 2)) p 6 0) p 3 0
set_option maxHeartbeats 4000000 in
set_option maxRecDepth 100000 in
theorem c_X6_comesAs {l : Launch} {X : Gx} {S : CS} {i m : Nat → Int32} {r : Nat → Nat → Int32} {c : Nat → Int64} {n : Nat} (hN : m 1 = nI n) (h8 : n < 8) {kd gr at_ : Int32} : Ci l X yX6_comesAs cX6_comesAs 5 (some .int) (rmk 1 23) [.ref (ga X 47), .int kd, .int gr, .int at_] (hp X S (i, m, r, c)) (fun z g => z = nI n ∧ g = hp X S (i, newP m n kd gr at_, r, c)) := by
  refine ct_i (own := RX6) (lv := [some (.ref (ga X 47)), some (.int kd), some (.int gr), some (.int at_), none]) (by decide) rfl (Nat.le_of_ble_eq_true rfl) (Nat.le_of_ble_eq_true rfl) rfl (fun C hC hR => ?_)
  refine v_aload_n hC rfl dX6_comesAs_0 (q := 1) rfl ?_
  refine v_get hC fl_X6_9 (k := 47) (by decide) hp_47 rfl dX6_comesAs_1 (q := 4) rfl ?_
  refine v_iconst hC (v := 1) rfl dX6_comesAs_4 (q := 5) rfl ?_
  refine v_iald hC (k := 48) (by decide) hp_48 (vp_l (by decide)) (j := 1) rfl dX6_comesAs_5 (q := 6) rfl ?_
  rw [hN]
  refine v_istore_4 hC rfl dX6_comesAs_6 (q := 8) rfl ?_
  refine v_aload_n hC rfl dX6_comesAs_8 (q := 9) rfl ?_
  refine v_get hC fl_X6_9 (k := 47) (by decide) hp_47 rfl dX6_comesAs_9 (q := 12) rfl ?_
  refine v_iconst hC (v := 1) rfl dX6_comesAs_12 (q := 13) rfl ?_
  refine v_dup2 hC rfl rfl dX6_comesAs_13 (q := 14) rfl ?_
  refine v_iald hC (k := 48) (by decide) hp_48 (vp_l (by decide)) (j := 1) rfl dX6_comesAs_14 (q := 15) rfl ?_
  refine v_iconst hC (v := 1) rfl dX6_comesAs_15 (q := 16) rfl ?_
  refine v_iadd hC dX6_comesAs_16 (q := 17) rfl ?_
  refine v_iast hC (k := 48) (by decide) hp_48 (vp_l (by decide)) (j := 1) rfl (hpr_0 _) dX6_comesAs_17 (q := 18) rfl ?_
  refine v_aload_n hC rfl dX6_comesAs_18 (q := 19) rfl ?_
  refine v_iload hC rfl dX6_comesAs_19 (q := 21) rfl ?_
  refine v_iconst hC (v := 0) rfl dX6_comesAs_21 (q := 22) rfl ?_
  refine v_iload_n hC rfl dX6_comesAs_22 (q := 23) rfl ?_
  refine v_Vv hC lkV_X6_63 (c_X6_put (w := 0) (by omega) (by decide)) rfl (by decide) (k := 47) (by decide) hp_47 rfl rfl (Nat.le_of_ble_eq_true rfl) dX6_comesAs_23 (q := 26) rfl ?_
  rintro _ rfl
  refine v_aload_n hC rfl dX6_comesAs_26 (q := 27) rfl ?_
  refine v_iload hC rfl dX6_comesAs_27 (q := 29) rfl ?_
  refine v_iconst hC (v := 1) rfl dX6_comesAs_29 (q := 30) rfl ?_
  refine v_iload_n hC rfl dX6_comesAs_30 (q := 31) rfl ?_
  refine v_Vv hC lkV_X6_63 (c_X6_put (w := 1) (by omega) (by decide)) rfl (by decide) (k := 47) (by decide) hp_47 rfl rfl (Nat.le_of_ble_eq_true rfl) dX6_comesAs_31 (q := 34) rfl ?_
  rintro _ rfl
  refine v_aload_n hC rfl dX6_comesAs_34 (q := 35) rfl ?_
  refine v_iload hC rfl dX6_comesAs_35 (q := 37) rfl ?_
  refine v_iconst hC (v := 2) rfl dX6_comesAs_37 (q := 38) rfl ?_
  refine v_iload_n hC rfl dX6_comesAs_38 (q := 39) rfl ?_
  refine v_Vv hC lkV_X6_63 (c_X6_put (w := 2) (by omega) (by decide)) rfl (by decide) (k := 47) (by decide) hp_47 rfl rfl (Nat.le_of_ble_eq_true rfl) dX6_comesAs_39 (q := 42) rfl ?_
  rintro _ rfl
  refine v_aload_n hC rfl dX6_comesAs_42 (q := 43) rfl ?_
  refine v_iload hC rfl dX6_comesAs_43 (q := 45) rfl ?_
  refine v_iconst hC (v := 3) rfl dX6_comesAs_45 (q := 46) rfl ?_
  refine v_iconst hC (v := 0) rfl dX6_comesAs_46 (q := 47) rfl ?_
  refine v_Vv hC lkV_X6_63 (c_X6_put (w := 3) (by omega) (by decide)) rfl (by decide) (k := 47) (by decide) hp_47 rfl rfl (Nat.le_of_ble_eq_true rfl) dX6_comesAs_47 (q := 50) rfl ?_
  rintro _ rfl
  refine v_aload_n hC rfl dX6_comesAs_50 (q := 51) rfl ?_
  refine v_iload hC rfl dX6_comesAs_51 (q := 53) rfl ?_
  refine v_iconst hC (v := 4) rfl dX6_comesAs_53 (q := 54) rfl ?_
  refine v_iconst hC (v := (-1)) rfl dX6_comesAs_54 (q := 55) rfl ?_
  refine v_Vv hC lkV_X6_63 (c_X6_put (w := 4) (by omega) (by decide)) rfl (by decide) (k := 47) (by decide) hp_47 rfl rfl (Nat.le_of_ble_eq_true rfl) dX6_comesAs_55 (q := 58) rfl ?_
  rintro _ rfl
  refine v_aload_n hC rfl dX6_comesAs_58 (q := 59) rfl ?_
  refine v_iload hC rfl dX6_comesAs_59 (q := 61) rfl ?_
  refine v_iconst hC (v := 5) rfl dX6_comesAs_61 (q := 62) rfl ?_
  refine v_iconst hC (v := 0) rfl dX6_comesAs_62 (q := 63) rfl ?_
  refine v_Vv hC lkV_X6_63 (c_X6_put (w := 5) (by omega) (by decide)) rfl (by decide) (k := 47) (by decide) hp_47 rfl rfl (Nat.le_of_ble_eq_true rfl) dX6_comesAs_63 (q := 66) rfl ?_
  rintro _ rfl
  refine v_aload_n hC rfl dX6_comesAs_66 (q := 67) rfl ?_
  refine v_iload hC rfl dX6_comesAs_67 (q := 69) rfl ?_
  refine v_bipush hC (v := 6) rfl dX6_comesAs_69 (q := 71) rfl ?_
  refine v_iconst hC (v := 0) rfl dX6_comesAs_71 (q := 72) rfl ?_
  refine v_Vv hC lkV_X6_63 (c_X6_put (w := 6) (by omega) (by decide)) rfl (by decide) (k := 47) (by decide) hp_47 rfl rfl (Nat.le_of_ble_eq_true rfl) dX6_comesAs_72 (q := 75) rfl ?_
  rintro _ rfl
  refine v_iload hC rfl dX6_comesAs_75 (q := 77) rfl ?_
  refine hR _ _ _ _ ?_ dX6_comesAs_77
  exact ⟨rfl, rfl⟩

set_option maxHeartbeats 4000000 in
set_option maxRecDepth 100000 in
theorem c_X6_isGround {l : Launch} {X : Gx} {S : CS} {i m : Nat → Int32} {r : Nat → Nat → Int32} {c : Nat → Int64} {p : Nat} (h1 : p < 8) : Ci l X yX6_isGround cX6_isGround 2 (some .int) (rmk 2 45) [.ref (ga X 47), .int (nI p)] (hp X S (i, m, r, c)) (fun z g => z = grindF (pv m p) ∧ g = hp X S (i, groundM m p, r, c)) := by
  refine ct_i (own := RX6) (lv := [some (.ref (ga X 47)), some (.int (nI p))]) (by decide) rfl (Nat.le_of_ble_eq_true rfl) (Nat.le_of_ble_eq_true rfl) rfl (fun C hC hR => ?_)
  refine v_aload_n hC rfl dX6_isGround_0 (q := 1) rfl ?_
  refine v_iload_n hC rfl dX6_isGround_1 (q := 2) rfl ?_
  refine v_iconst hC (v := 5) rfl dX6_isGround_2 (q := 3) rfl ?_
  refine v_aload_n hC rfl dX6_isGround_3 (q := 4) rfl ?_
  refine v_iload_n hC rfl dX6_isGround_4 (q := 5) rfl ?_
  refine v_Vi hC lkV_X6_71 (c_X6_grinds (by omega)) rfl (by decide) (k := 47) (by decide) hp_47 rfl rfl (Nat.le_of_ble_eq_true rfl) dX6_isGround_5 (q := 8) rfl ?_
  rintro _ _ ⟨rfl, rfl⟩
  refine v_Vv hC lkV_X6_63 (c_X6_put (w := 5) (by omega) (by decide)) rfl (by decide) (k := 47) (by decide) hp_47 rfl rfl (Nat.le_of_ble_eq_true rfl) dX6_isGround_8 (q := 11) rfl ?_
  rintro _ rfl
  refine v_aload_n hC rfl dX6_isGround_11 (q := 12) rfl ?_
  refine v_iload_n hC rfl dX6_isGround_12 (q := 13) rfl ?_
  refine v_iconst hC (v := 4) rfl dX6_isGround_13 (q := 14) rfl ?_
  refine v_aload_n hC rfl dX6_isGround_14 (q := 15) rfl ?_
  refine v_iload_n hC rfl dX6_isGround_15 (q := 16) rfl ?_
  refine v_iconst hC (v := 2) rfl dX6_isGround_16 (q := 17) rfl ?_
  refine v_Vi hC lkV_X6_49 (c_X6_it (w := 2) (by omega) (by decide)) rfl (by decide) (k := 47) (by decide) hp_47 rfl rfl (Nat.le_of_ble_eq_true rfl) dX6_isGround_17 (q := 20) rfl ?_
  rintro _ _ ⟨rfl, rfl⟩
  refine v_Vv hC lkV_X6_63 (c_X6_put (w := 4) (by omega) (by decide)) rfl (by decide) (k := 47) (by decide) hp_47 rfl rfl (Nat.le_of_ble_eq_true rfl) dX6_isGround_20 (q := 23) rfl ?_
  rintro _ rfl
  refine v_aload_n hC rfl dX6_isGround_23 (q := 24) rfl ?_
  refine v_iload_n hC rfl dX6_isGround_24 (q := 25) rfl ?_
  refine v_bipush hC (v := 6) rfl dX6_isGround_25 (q := 27) rfl ?_
  refine v_iconst hC (v := 0) rfl dX6_isGround_27 (q := 28) rfl ?_
  refine v_Vv hC lkV_X6_63 (c_X6_put (w := 6) (by omega) (by decide)) rfl (by decide) (k := 47) (by decide) hp_47 rfl rfl (Nat.le_of_ble_eq_true rfl) dX6_isGround_28 (q := 31) rfl ?_
  rintro _ rfl
  refine v_aload_n hC rfl dX6_isGround_31 (q := 32) rfl ?_
  refine v_iload_n hC rfl dX6_isGround_32 (q := 33) rfl ?_
  refine v_iconst hC (v := 3) rfl dX6_isGround_33 (q := 34) rfl ?_
  refine v_iconst hC (v := 0) rfl dX6_isGround_34 (q := 35) rfl ?_
  refine v_Vv hC lkV_X6_63 (c_X6_put (w := 3) (by omega) (by decide)) rfl (by decide) (k := 47) (by decide) hp_47 rfl rfl (Nat.le_of_ble_eq_true rfl) dX6_isGround_35 (q := 38) rfl ?_
  rintro _ rfl
  refine v_aload_n hC rfl dX6_isGround_38 (q := 39) rfl ?_
  refine v_iload_n hC rfl dX6_isGround_39 (q := 40) rfl ?_
  refine v_iconst hC (v := 5) rfl dX6_isGround_40 (q := 41) rfl ?_
  refine v_Vi hC lkV_X6_49 (c_X6_it (w := 5) (by omega) (by decide)) rfl (by decide) (k := 47) (by decide) hp_47 rfl rfl (Nat.le_of_ble_eq_true rfl) dX6_isGround_41 (q := 44) rfl ?_
  rintro _ _ ⟨rfl, rfl⟩
  refine hR _ _ _ _ ?_ dX6_isGround_44
  refine ⟨?_, ?_⟩
  · simp [pv_pu, upd]
  · simp [groundM, pv_pu, upd]
end
